set_option maxHeartbeats 4000000 in
set_option maxRecDepth 100000 in
theorem law_0 {p : Program} {l : Launch} {e : Env} {s : State} {m : MethodId} {below : List Frame} {meth : Method} {c : Code} {b : Nat} {xs : Nat → Int32} {D : va_G} {cI cZ cJ : ClassId} {A : Nat → Prop} (K : LCx p l s m meth c b 6 xs D cI cZ cJ A) {xo inp byt par pla dra lat his f1 f2 mo as ak ab ar o : Nat} {gx gpl gdr gla gf1 gf2 gpa ghi gm : Nat → Value}  {H : Heap} {locs : List Loc} {ls : Array Slot} (hP : va_P D CL (LW cI cZ xo inp byt par pla dra lat his f1 f2 mo as ak ab ar gx gpl gdr gla gf1 gf2 gpa ghi gm) H) (hD : va_D A (LW cI cZ xo inp byt par pla dra lat his f1 f2 mo as ak ab ar gx gpl gdr gla gf1 gf2 gpa ghi gm)) (hS : va_S A s.heap H locs) (hl : lv_has ls 8 [(4, .int 0), (3, .ref o), (2, .ref mo), (1, .ref xo), (0, .ref b)]) : W p l e room_1 s m #[Value.ref b] below meth c H locs 2000 60000 (lw_Z below #[Value.ref b] s) (F0 m 292 ls []) := by
  obtain ⟨C, hX, hbl, hlt, hAA⟩ := id K
  have hx := C.1
  have hb := C.2.1
  have hbA : ¬ A b := fun h => absurd (hAA b h) (Nat.not_le.mpr hbl)
  have hP : va_P D CL [(xo, .inr (10, xC inp par pla dra lat his f1 f2 0 0 (-1) gx)), (inp, .inr (2, [.int 0, .int 0, .int 0, .int 0, .int 0, .int 0, .ref byt])), (byt, .inl (cI, 600, .inl (fun _ => 0))), (par, .inr (4, [.ref inp, .ref dra, gpa 2, .int 0, .int 0])), (pla, .inr (5, pC 0 0 0 gpl)), (dra, .inr (5, pC 0 0 0 gdr)), (lat, .inr (3, [.int 0, .long 0, gla 2, gla 3, gla 4])), (his, .inr (1, [.int 0, .int 0, ghi 2])), (f1, .inr (5, pC 0 0 0 gf1)), (f2, .inr (5, pC 0 0 0 gf2)), (mo, .inr (11, mC 0 0 0 (-1) 0 0 0 0 0 0 as ak ab ar gm)), (as, .inl (cI, 63, .inl (fun _ => 0))), (ak, .inl (cZ, 2, .inl (fun _ => 0))), (ab, .inl (cI, 600, .inl (fun _ => 0))), (ar, .inl (cI, 63, .inl (fun _ => 0)))] H := hP
  have hD : va_D A [(xo, .inr (10, xC inp par pla dra lat his f1 f2 0 0 (-1) gx)), (inp, .inr (2, [.int 0, .int 0, .int 0, .int 0, .int 0, .int 0, .ref byt])), (byt, .inl (cI, 600, .inl (fun _ => 0))), (par, .inr (4, [.ref inp, .ref dra, gpa 2, .int 0, .int 0])), (pla, .inr (5, pC 0 0 0 gpl)), (dra, .inr (5, pC 0 0 0 gdr)), (lat, .inr (3, [.int 0, .long 0, gla 2, gla 3, gla 4])), (his, .inr (1, [.int 0, .int 0, ghi 2])), (f1, .inr (5, pC 0 0 0 gf1)), (f2, .inr (5, pC 0 0 0 gf2)), (mo, .inr (11, mC 0 0 0 (-1) 0 0 0 0 0 0 as ak ab ar gm)), (as, .inl (cI, 63, .inl (fun _ => 0))), (ak, .inl (cZ, 2, .inl (fun _ => 0))), (ab, .inl (cI, 600, .inl (fun _ => 0))), (ar, .inl (cI, 63, .inl (fun _ => 0)))] := hD
  have hP := hP.sub (ws' := [(xo, .inr (10, xC inp par pla dra lat his f1 f2 0 0 (-1) gx)), (inp, .inr (2, [.int 0, .int 0, .int 0, .int 0, .int 0, .int 0, .ref byt])), (byt, .inl (cI, 600, .inl (fun _ => 0))), (mo, .inr (11, mC 0 0 0 (-1) 0 0 0 0 0 0 as ak ab ar gm)), (ab, .inl (cI, 600, .inl (fun _ => 0)))]) [0, 1, 2, 10, 13] rfl
  have hD := hD.sub (ws' := [(xo, .inr (10, xC inp par pla dra lat his f1 f2 0 0 (-1) gx)), (inp, .inr (2, [.int 0, .int 0, .int 0, .int 0, .int 0, .int 0, .ref byt])), (byt, .inl (cI, 600, .inl (fun _ => 0))), (mo, .inr (11, mC 0 0 0 (-1) 0 0 0 0 0 0 as ak ab ar gm)), (ab, .inl (cI, 600, .inl (fun _ => 0)))]) [0, 1, 2, 10, 13] (by decide) rfl
  refine lv_aload_n hx hb dL_law_292 rfl (lv_at hl 3 rfl) ?_
  refine lv_aload_n hx hb dL_law_293 rfl (lv_at hl 4 rfl) ?_
  refine lv_iload hx hb dL_law_294 (lv_at hl 0 rfl) ?_
  refine lv_iconst (v := 1) hx hb dL_law_296 (by decide) ?_
  refine lv_iadd hx hb dL_law_297 ?_
  refine W.eq (g2 := F0 m 298 ls [.int 1, .ref b, .ref xo]) rfl ?_
  refine va_sld hx hb hX hbl hbA hS (by unfold vp_in; decide) dL_law_298 ?_
  refine W.eq (g2 := F0 m 299 ls [.int (xs 1), .ref xo]) rfl ?_
  refine lv_aload_n hx hb dL_law_299 rfl (lv_at hl 4 rfl) ?_
  refine lv_iload hx hb dL_law_300 (lv_at hl 0 rfl) ?_
  refine lv_iconst (v := 2) hx hb dL_law_302 (by decide) ?_
  refine lv_iadd hx hb dL_law_303 ?_
  refine W.eq (g2 := F0 m 304 ls [.int 2, .ref b, .int (xs 1), .ref xo]) rfl ?_
  refine va_sld hx hb hX hbl hbA hS (by unfold vp_in; decide) dL_law_304 ?_
  refine W.eq (g2 := F0 m 305 ls [.int (xs 2), .int (xs 1), .ref xo]) rfl ?_
  refine lv_aload_n hx hb dL_law_305 rfl (lv_at hl 4 rfl) ?_
  refine lv_iload hx hb dL_law_306 (lv_at hl 0 rfl) ?_
  refine lv_iconst (v := 3) hx hb dL_law_308 (by decide) ?_
  refine lv_iadd hx hb dL_law_309 ?_
  refine W.eq (g2 := F0 m 310 ls [.int 3, .ref b, .int (xs 2), .int (xs 1), .ref xo]) rfl ?_
  refine va_sld hx hb hX hbl hbA hS (by unfold vp_in; decide) dL_law_310 ?_
  refine W.eq (g2 := F0 m 311 ls [.int (xs 3), .int (xs 2), .int (xs 1), .ref xo]) rfl ?_
  refine lv_aload_n hx hb dL_law_311 rfl (lv_at hl 4 rfl) ?_
  refine lv_iload hx hb dL_law_312 (lv_at hl 0 rfl) ?_
  refine lv_iconst (v := 4) hx hb dL_law_314 (by decide) ?_
  refine lv_iadd hx hb dL_law_315 ?_
  refine W.eq (g2 := F0 m 316 ls [.int 4, .ref b, .int (xs 3), .int (xs 2), .int (xs 1), .ref xo]) rfl ?_
  refine va_sld hx hb hX hbl hbA hS (by unfold vp_in; decide) dL_law_316 ?_
  refine W.eq (g2 := F0 m 317 ls [.int (xs 4), .int (xs 3), .int (xs 2), .int (xs 1), .ref xo]) rfl ?_
  refine lv_aload_n hx hb dL_law_317 rfl (lv_at hl 4 rfl) ?_
  refine lv_iload hx hb dL_law_318 (lv_at hl 0 rfl) ?_
  refine lv_iconst (v := 5) hx hb dL_law_320 (by decide) ?_
  refine lv_iadd hx hb dL_law_321 ?_
  refine W.eq (g2 := F0 m 322 ls [.int 5, .ref b, .int (xs 4), .int (xs 3), .int (xs 2), .int (xs 1), .ref xo]) rfl ?_
  refine va_sld hx hb hX hbl hbA hS (by unfold vp_in; decide) dL_law_322 ?_
  refine W.eq (g2 := F0 m 323 ls [.int (xs 5), .int (xs 4), .int (xs 3), .int (xs 2), .int (xs 1), .ref xo]) rfl ?_
  refine call_i (wr := [(mo, .inr (11, mC 0 0 0 (-1) 0 0 0 0 0 0 as ak ab ar gm)), (ab, .inl (cI, 600, .inl (fun _ => 0)))]) C (run_V (As := [.int (xs 1), .int (xs 2), .int (xs 3), .int (xs 4), .int (xs 5)]) (rest := []) C (k_append l D cI cZ cJ xo inp par pla dra lat his f1 f2 0 0 (-1) gx byt (fun _ => 0) (xs 1) (xs 2) (xs 3) (xs 4) (xs 5) ) cV_L_176 hP hD hS [0, 1, 2] rfl rfl 0 rfl rfl rfl rfl hl.1 rfl (Nat.le_of_ble_eq_true rfl) dL_law_323 ⟨Nat.le_of_ble_eq_true rfl, Nat.le_of_ble_eq_true rfl⟩ ⟨Nat.le_of_ble_eq_true rfl, Nat.le_of_ble_eq_true rfl⟩) hP hD hS [0, 1, 2] [3, 4] rfl rfl rfl (by decide) (fun u1 H locs hP hD hS => ?_)
  have hP : va_P D CL [(mo, .inr (11, mC 0 0 0 (-1) 0 0 0 0 0 0 as ak ab ar gm)), (ab, .inl (cI, 600, .inl (fun _ => 0))), (xo, .inr (10, xC inp par pla dra lat his f1 f2 0 0 (-1) gx)), (inp, .inr (2, [.int 20, .int 0, .int 0, .int 0, .int 0, .int 0, .ref byt])), (byt, .inl (cI, 600, .inl u1))] H := hP
  have hD : va_D A [(mo, .inr (11, mC 0 0 0 (-1) 0 0 0 0 0 0 as ak ab ar gm)), (ab, .inl (cI, 600, .inl (fun _ => 0))), (xo, .inr (10, xC inp par pla dra lat his f1 f2 0 0 (-1) gx)), (inp, .inr (2, [.int 20, .int 0, .int 0, .int 0, .int 0, .int 0, .ref byt])), (byt, .inl (cI, 600, .inl u1))] := hD
  refine W.widen (k := 2000) (n := 60000) (Nat.le_of_ble_eq_true rfl) (Nat.le_of_ble_eq_true rfl) ?_
  refine W.eq (g2 := F0 m 326 ls [.int 20]) rfl ?_
  refine lv_aload_n hx hb dL_law_326 rfl (lv_at hl 2 rfl) ?_
  refine lv_aload_n hx hb dL_law_327 rfl (lv_at hl 4 rfl) ?_
  refine lv_iload hx hb dL_law_328 (lv_at hl 0 rfl) ?_
  refine lv_iconst (v := 1) hx hb dL_law_330 (by decide) ?_
  refine lv_iadd hx hb dL_law_331 ?_
  refine W.eq (g2 := F0 m 332 ls [.int 1, .ref b, .ref mo, .int 20]) rfl ?_
  refine va_sld hx hb hX hbl hbA hS (by unfold vp_in; decide) dL_law_332 ?_
  refine W.eq (g2 := F0 m 333 ls [.int (xs 1), .ref mo, .int 20]) rfl ?_
  refine lv_aload_n hx hb dL_law_333 rfl (lv_at hl 4 rfl) ?_
  refine lv_iload hx hb dL_law_334 (lv_at hl 0 rfl) ?_
  refine lv_iconst (v := 2) hx hb dL_law_336 (by decide) ?_
  refine lv_iadd hx hb dL_law_337 ?_
  refine W.eq (g2 := F0 m 338 ls [.int 2, .ref b, .int (xs 1), .ref mo, .int 20]) rfl ?_
  refine va_sld hx hb hX hbl hbA hS (by unfold vp_in; decide) dL_law_338 ?_
  refine W.eq (g2 := F0 m 339 ls [.int (xs 2), .int (xs 1), .ref mo, .int 20]) rfl ?_
  refine lv_aload_n hx hb dL_law_339 rfl (lv_at hl 4 rfl) ?_
  refine lv_iload hx hb dL_law_340 (lv_at hl 0 rfl) ?_
  refine lv_iconst (v := 3) hx hb dL_law_342 (by decide) ?_
  refine lv_iadd hx hb dL_law_343 ?_
  refine W.eq (g2 := F0 m 344 ls [.int 3, .ref b, .int (xs 2), .int (xs 1), .ref mo, .int 20]) rfl ?_
  refine va_sld hx hb hX hbl hbA hS (by unfold vp_in; decide) dL_law_344 ?_
  refine W.eq (g2 := F0 m 345 ls [.int (xs 3), .int (xs 2), .int (xs 1), .ref mo, .int 20]) rfl ?_
  refine lv_aload_n hx hb dL_law_345 rfl (lv_at hl 4 rfl) ?_
  refine lv_iload hx hb dL_law_346 (lv_at hl 0 rfl) ?_
  refine lv_iconst (v := 4) hx hb dL_law_348 (by decide) ?_
  refine lv_iadd hx hb dL_law_349 ?_
  refine W.eq (g2 := F0 m 350 ls [.int 4, .ref b, .int (xs 3), .int (xs 2), .int (xs 1), .ref mo, .int 20]) rfl ?_
  refine va_sld hx hb hX hbl hbA hS (by unfold vp_in; decide) dL_law_350 ?_
  refine W.eq (g2 := F0 m 351 ls [.int (xs 4), .int (xs 3), .int (xs 2), .int (xs 1), .ref mo, .int 20]) rfl ?_
  refine lv_aload_n hx hb dL_law_351 rfl (lv_at hl 4 rfl) ?_
  refine lv_iload hx hb dL_law_352 (lv_at hl 0 rfl) ?_
  refine lv_iconst (v := 5) hx hb dL_law_354 (by decide) ?_
  refine lv_iadd hx hb dL_law_355 ?_
  refine W.eq (g2 := F0 m 356 ls [.int 5, .ref b, .int (xs 4), .int (xs 3), .int (xs 2), .int (xs 1), .ref mo, .int 20]) rfl ?_
  refine va_sld hx hb hX hbl hbA hS (by unfold vp_in; decide) dL_law_356 ?_
  refine W.eq (g2 := F0 m 357 ls [.int (xs 5), .int (xs 4), .int (xs 3), .int (xs 2), .int (xs 1), .ref mo, .int 20]) rfl ?_
  refine call_i (wr := [(xo, .inr (10, xC inp par pla dra lat his f1 f2 0 0 (-1) gx)), (inp, .inr (2, [.int 20, .int 0, .int 0, .int 0, .int 0, .int 0, .ref byt])), (byt, .inl (cI, 600, .inl u1))]) C (run_V (As := [.int (xs 1), .int (xs 2), .int (xs 3), .int (xs 4), .int (xs 5)]) (rest := [.int 20]) C (m_append l D cI cZ cJ mo 0 (-1) 0 0 0 0 0 0 as ak ab ar gm 0 (fun _ => 0) (xs 1) (xs 2) (xs 3) (xs 4) (xs 5) ) cV_L_180 hP hD hS [0, 1] rfl rfl 0 rfl rfl rfl rfl hl.1 rfl (Nat.le_of_ble_eq_true rfl) dL_law_357 ⟨Nat.le_of_ble_eq_true rfl, Nat.le_of_ble_eq_true rfl⟩ ⟨Nat.le_of_ble_eq_true rfl, Nat.le_of_ble_eq_true rfl⟩) hP hD hS [0, 1] [2, 3, 4] rfl rfl rfl (by decide) (fun u2 H locs hP hD hS => ?_)
  have hP : va_P D CL [(xo, .inr (10, xC inp par pla dra lat his f1 f2 0 0 (-1) gx)), (inp, .inr (2, [.int 20, .int 0, .int 0, .int 0, .int 0, .int 0, .ref byt])), (byt, .inl (cI, 600, .inl u1)), (mo, .inr (11, mC 0 20 0 (-1) 0 0 0 0 0 0 as ak ab ar gm)), (ab, .inl (cI, 600, .inl u2))] H := hP
  have hD : va_D A [(xo, .inr (10, xC inp par pla dra lat his f1 f2 0 0 (-1) gx)), (inp, .inr (2, [.int 20, .int 0, .int 0, .int 0, .int 0, .int 0, .ref byt])), (byt, .inl (cI, 600, .inl u1)), (mo, .inr (11, mC 0 20 0 (-1) 0 0 0 0 0 0 as ak ab ar gm)), (ab, .inl (cI, 600, .inl u2))] := hD
  refine W.widen (k := 2000) (n := 60000) (Nat.le_of_ble_eq_true rfl) (Nat.le_of_ble_eq_true rfl) ?_
  refine W.eq (g2 := F0 m 360 ls [.int 20, .int 20]) rfl ?_
  refine lv_icmp_eq (tgt := 3186) hx hb dL_law_360 (by decide) (fun _ => ?_) (fun h => absurd (by decide) h)
  exact law_exit K hS (lv_sub hl [4, 0] rfl) (Nat.le_of_ble_eq_true rfl) (Nat.le_of_ble_eq_true rfl)
set_option maxHeartbeats 4000000 in
set_option maxRecDepth 100000 in
theorem law_1_l {p : Program} {l : Launch} {e : Env} {s : State} {m : MethodId} {below : List Frame} {meth : Method} {c : Code} {b : Nat} {xs : Nat → Int32} {D : va_G} {cI cZ cJ : ClassId} {A : Nat → Prop} (K : LCx p l s m meth c b 6 xs D cI cZ cJ A) {xo inp byt par pla dra lat his f1 f2 mo as ak ab ar o : Nat} {gx gpl gdr gla gf1 gf2 gpa ghi gm : Nat → Value} (h1 : xs 1 < 0) {H : Heap} {locs : List Loc} {ls : Array Slot} (hP : va_P D CL (LW cI cZ xo inp byt par pla dra lat his f1 f2 mo as ak ab ar gx gpl gdr gla gf1 gf2 gpa ghi gm) H) (hD : va_D A (LW cI cZ xo inp byt par pla dra lat his f1 f2 mo as ak ab ar gx gpl gdr gla gf1 gf2 gpa ghi gm)) (hS : va_S A s.heap H locs) (hl : lv_has ls 8 [(4, .int 0), (3, .ref o), (2, .ref mo), (1, .ref xo), (0, .ref b)]) : W p l e room_1 s m #[Value.ref b] below meth c H locs 2000 60000 (lw_Z below #[Value.ref b] s) (F0 m 365 ls []) := by
  obtain ⟨C, hX, hbl, hlt, hAA⟩ := id K
  have hx := C.1
  have hb := C.2.1
  have hbA : ¬ A b := fun h => absurd (hAA b h) (Nat.not_le.mpr hbl)
  have hP : va_P D CL [(xo, .inr (10, xC inp par pla dra lat his f1 f2 0 0 (-1) gx)), (inp, .inr (2, [.int 0, .int 0, .int 0, .int 0, .int 0, .int 0, .ref byt])), (byt, .inl (cI, 600, .inl (fun _ => 0))), (par, .inr (4, [.ref inp, .ref dra, gpa 2, .int 0, .int 0])), (pla, .inr (5, pC 0 0 0 gpl)), (dra, .inr (5, pC 0 0 0 gdr)), (lat, .inr (3, [.int 0, .long 0, gla 2, gla 3, gla 4])), (his, .inr (1, [.int 0, .int 0, ghi 2])), (f1, .inr (5, pC 0 0 0 gf1)), (f2, .inr (5, pC 0 0 0 gf2)), (mo, .inr (11, mC 0 0 0 (-1) 0 0 0 0 0 0 as ak ab ar gm)), (as, .inl (cI, 63, .inl (fun _ => 0))), (ak, .inl (cZ, 2, .inl (fun _ => 0))), (ab, .inl (cI, 600, .inl (fun _ => 0))), (ar, .inl (cI, 63, .inl (fun _ => 0)))] H := hP
  have hD : va_D A [(xo, .inr (10, xC inp par pla dra lat his f1 f2 0 0 (-1) gx)), (inp, .inr (2, [.int 0, .int 0, .int 0, .int 0, .int 0, .int 0, .ref byt])), (byt, .inl (cI, 600, .inl (fun _ => 0))), (par, .inr (4, [.ref inp, .ref dra, gpa 2, .int 0, .int 0])), (pla, .inr (5, pC 0 0 0 gpl)), (dra, .inr (5, pC 0 0 0 gdr)), (lat, .inr (3, [.int 0, .long 0, gla 2, gla 3, gla 4])), (his, .inr (1, [.int 0, .int 0, ghi 2])), (f1, .inr (5, pC 0 0 0 gf1)), (f2, .inr (5, pC 0 0 0 gf2)), (mo, .inr (11, mC 0 0 0 (-1) 0 0 0 0 0 0 as ak ab ar gm)), (as, .inl (cI, 63, .inl (fun _ => 0))), (ak, .inl (cZ, 2, .inl (fun _ => 0))), (ab, .inl (cI, 600, .inl (fun _ => 0))), (ar, .inl (cI, 63, .inl (fun _ => 0)))] := hD
  have hP := hP.sub (ws' := [(xo, .inr (10, xC inp par pla dra lat his f1 f2 0 0 (-1) gx)), (mo, .inr (11, mC 0 0 0 (-1) 0 0 0 0 0 0 as ak ab ar gm))]) [0, 10] rfl
  have hD := hD.sub (ws' := [(xo, .inr (10, xC inp par pla dra lat his f1 f2 0 0 (-1) gx)), (mo, .inr (11, mC 0 0 0 (-1) 0 0 0 0 0 0 as ak ab ar gm))]) [0, 10] (by decide) rfl
  refine lv_aload_n hx hb dL_law_365 rfl (lv_at hl 3 rfl) ?_
  refine lv_aload_n hx hb dL_law_366 rfl (lv_at hl 4 rfl) ?_
  refine lv_iload hx hb dL_law_367 (lv_at hl 0 rfl) ?_
  refine lv_iconst (v := 1) hx hb dL_law_369 (by decide) ?_
  refine lv_iadd hx hb dL_law_370 ?_
  refine W.eq (g2 := F0 m 371 ls [.int 1, .ref b, .ref xo]) rfl ?_
  refine va_sld hx hb hX hbl hbA hS (by unfold vp_in; decide) dL_law_371 ?_
  refine W.eq (g2 := F0 m 372 ls [.int (xs 1), .ref xo]) rfl ?_
  refine lv_aload_n hx hb dL_law_372 rfl (lv_at hl 1 rfl) ?_
  refine call_i (wr := [(mo, .inr (11, mC 0 0 0 (-1) 0 0 0 0 0 0 as ak ab ar gm))]) C (run_SW (As := [.ref xo, .int (xs 1), .ref o]) (rest := []) C (h_load_l l hlt D cI cZ cJ xo inp par pla dra lat his f1 f2 0 0 (-1) gx (xs 1) o h1) cS_L_181 hP hD hS [0] rfl rfl rfl hl.1 rfl (Nat.le_of_ble_eq_true rfl) dL_law_373 ⟨Nat.le_of_ble_eq_true rfl, Nat.le_of_ble_eq_true rfl⟩ ⟨Nat.le_of_ble_eq_true rfl, Nat.le_of_ble_eq_true rfl⟩) hP hD hS [0] [1] rfl rfl rfl (by decide) (fun u1 H locs hP hD hS => ?_)
  have hP : va_P D CL [(mo, .inr (11, mC 0 0 0 (-1) 0 0 0 0 0 0 as ak ab ar gm)), (xo, .inr (10, xC inp par pla dra lat his f1 f2 0 0 (-1) gx))] H := hP
  have hD : va_D A [(mo, .inr (11, mC 0 0 0 (-1) 0 0 0 0 0 0 as ak ab ar gm)), (xo, .inr (10, xC inp par pla dra lat his f1 f2 0 0 (-1) gx))] := hD
  refine W.widen (k := 2001) (n := 60006) (Nat.le_of_ble_eq_true rfl) (Nat.le_of_ble_eq_true rfl) ?_
  refine W.eq (g2 := F0 m 376 ls [.int 1]) rfl ?_
  refine lv_istore (lv' := [(5, .int 1), (4, .int 0), (3, .ref o), (2, .ref mo), (1, .ref xo), (0, .ref b)]) hx hb dL_law_376 hl (by decide) rfl (fun ls hl => ?_)
  refine lv_aload_n hx hb dL_law_378 rfl (lv_at hl 3 rfl) ?_
  refine lv_aload_n hx hb dL_law_379 rfl (lv_at hl 5 rfl) ?_
  refine lv_iload hx hb dL_law_380 (lv_at hl 1 rfl) ?_
  refine lv_iconst (v := 1) hx hb dL_law_382 (by decide) ?_
  refine lv_iadd hx hb dL_law_383 ?_
  refine W.eq (g2 := F0 m 384 ls [.int 1, .ref b, .ref mo]) rfl ?_
  refine va_sld hx hb hX hbl hbA hS (by unfold vp_in; decide) dL_law_384 ?_
  refine W.eq (g2 := F0 m 385 ls [.int (xs 1), .ref mo]) rfl ?_
  refine call_i (wr := [(xo, .inr (10, xC inp par pla dra lat his f1 f2 0 0 (-1) gx))]) C (run_V (As := [.int (xs 1)]) (rest := []) C (m_load_l l D cI cZ cJ mo 0 0 (-1) 0 0 0 0 0 0 as ak ab ar gm 0 (xs 1) h1) cV_L_186 hP hD hS [0] rfl rfl 0 rfl rfl rfl rfl hl.1 rfl (Nat.le_of_ble_eq_true rfl) dL_law_385 ⟨Nat.le_of_ble_eq_true rfl, Nat.le_of_ble_eq_true rfl⟩ ⟨Nat.le_of_ble_eq_true rfl, Nat.le_of_ble_eq_true rfl⟩) hP hD hS [0] [1] rfl rfl rfl (by decide) (fun u2 H locs hP hD hS => ?_)
  have hP : va_P D CL [(xo, .inr (10, xC inp par pla dra lat his f1 f2 0 0 (-1) gx)), (mo, .inr (11, mC 1 0 0 (-1) 0 0 0 0 0 0 as ak ab ar gm))] H := hP
  have hD : va_D A [(xo, .inr (10, xC inp par pla dra lat his f1 f2 0 0 (-1) gx)), (mo, .inr (11, mC 1 0 0 (-1) 0 0 0 0 0 0 as ak ab ar gm))] := hD
  refine W.widen (k := 2001) (n := 60006) (Nat.le_of_ble_eq_true rfl) (Nat.le_of_ble_eq_true rfl) ?_
  refine W.eq (g2 := F0 m 388 ls [.int 0]) rfl ?_
  refine lv_istore (lv' := [(6, .int 0), (5, .int 1), (4, .int 0), (3, .ref o), (2, .ref mo), (1, .ref xo), (0, .ref b)]) hx hb dL_law_388 hl (by decide) rfl (fun ls hl => ?_)
  refine lv_aload_n hx hb dL_law_390 rfl (lv_at hl 4 rfl) ?_
  refine call_i (wr := [(xo, .inr (10, xC inp par pla dra lat his f1 f2 0 0 (-1) gx))]) C (run_V (As := []) (rest := []) C (m_thrown l D cI cZ cJ mo 0 0 (-1) 0 0 0 0 0 0 as ak ab ar gm 1 ) cV_L_187 hP hD hS [1] rfl rfl 0 rfl rfl rfl rfl hl.1 rfl (Nat.le_of_ble_eq_true rfl) dL_law_391 ⟨Nat.le_of_ble_eq_true rfl, Nat.le_of_ble_eq_true rfl⟩ ⟨Nat.le_of_ble_eq_true rfl, Nat.le_of_ble_eq_true rfl⟩) hP hD hS [1] [0] rfl rfl rfl (by decide) (fun u3 H locs hP hD hS => ?_)
  have hP : va_P D CL [(xo, .inr (10, xC inp par pla dra lat his f1 f2 0 0 (-1) gx)), (mo, .inr (11, mC 1 0 0 (-1) 0 0 0 0 0 0 as ak ab ar gm))] H := hP
  have hD : va_D A [(xo, .inr (10, xC inp par pla dra lat his f1 f2 0 0 (-1) gx)), (mo, .inr (11, mC 1 0 0 (-1) 0 0 0 0 0 0 as ak ab ar gm))] := hD
  refine W.widen (k := 2001) (n := 60006) (Nat.le_of_ble_eq_true rfl) (Nat.le_of_ble_eq_true rfl) ?_
  refine W.eq (g2 := F0 m 394 ls [.int 1]) rfl ?_
  refine lv_iload hx hb dL_law_394 (lv_at hl 1 rfl) ?_
  refine lv_icmp_eq (tgt := 401) hx hb dL_law_396 (by decide) (fun _ => ?_) (fun h => absurd (by decide) h)
  refine lv_iload hx hb dL_law_401 (lv_at hl 1 rfl) ?_
  refine lv_if_ne (tgt := 418) hx hb dL_law_403 (by decide) (fun _ => ?_) (fun h => absurd h (by decide))
  refine lv_goto (tgt := 3186) hx hb dL_law_418 (by decide) ?_
  exact law_exit K hS (lv_sub hl [6, 2] rfl) (Nat.le_of_ble_eq_true rfl) (Nat.le_of_ble_eq_true rfl)
set_option maxHeartbeats 4000000 in
set_option maxRecDepth 100000 in
theorem law_1_g {p : Program} {l : Launch} {e : Env} {s : State} {m : MethodId} {below : List Frame} {meth : Method} {c : Code} {b : Nat} {xs : Nat → Int32} {D : va_G} {cI cZ cJ : ClassId} {A : Nat → Prop} (K : LCx p l s m meth c b 6 xs D cI cZ cJ A) {xo inp byt par pla dra lat his f1 f2 mo as ak ab ar o : Nat} {gx gpl gdr gla gf1 gf2 gpa ghi gm : Nat → Value} (h1 : ¬ xs 1 < 0) (h2 : 0 < xs 1) (h3 : ¬ xs 1 ≤ 0) {H : Heap} {locs : List Loc} {ls : Array Slot} (hP : va_P D CL (LW cI cZ xo inp byt par pla dra lat his f1 f2 mo as ak ab ar gx gpl gdr gla gf1 gf2 gpa ghi gm) H) (hD : va_D A (LW cI cZ xo inp byt par pla dra lat his f1 f2 mo as ak ab ar gx gpl gdr gla gf1 gf2 gpa ghi gm)) (hS : va_S A s.heap H locs) (hl : lv_has ls 8 [(4, .int 0), (3, .ref o), (2, .ref mo), (1, .ref xo), (0, .ref b)]) : W p l e room_1 s m #[Value.ref b] below meth c H locs 2000 60000 (lw_Z below #[Value.ref b] s) (F0 m 365 ls []) := by
  obtain ⟨C, hX, hbl, hlt, hAA⟩ := id K
  have hx := C.1
  have hb := C.2.1
  have hbA : ¬ A b := fun h => absurd (hAA b h) (Nat.not_le.mpr hbl)
  have hP : va_P D CL [(xo, .inr (10, xC inp par pla dra lat his f1 f2 0 0 (-1) gx)), (inp, .inr (2, [.int 0, .int 0, .int 0, .int 0, .int 0, .int 0, .ref byt])), (byt, .inl (cI, 600, .inl (fun _ => 0))), (par, .inr (4, [.ref inp, .ref dra, gpa 2, .int 0, .int 0])), (pla, .inr (5, pC 0 0 0 gpl)), (dra, .inr (5, pC 0 0 0 gdr)), (lat, .inr (3, [.int 0, .long 0, gla 2, gla 3, gla 4])), (his, .inr (1, [.int 0, .int 0, ghi 2])), (f1, .inr (5, pC 0 0 0 gf1)), (f2, .inr (5, pC 0 0 0 gf2)), (mo, .inr (11, mC 0 0 0 (-1) 0 0 0 0 0 0 as ak ab ar gm)), (as, .inl (cI, 63, .inl (fun _ => 0))), (ak, .inl (cZ, 2, .inl (fun _ => 0))), (ab, .inl (cI, 600, .inl (fun _ => 0))), (ar, .inl (cI, 63, .inl (fun _ => 0)))] H := hP
  have hD : va_D A [(xo, .inr (10, xC inp par pla dra lat his f1 f2 0 0 (-1) gx)), (inp, .inr (2, [.int 0, .int 0, .int 0, .int 0, .int 0, .int 0, .ref byt])), (byt, .inl (cI, 600, .inl (fun _ => 0))), (par, .inr (4, [.ref inp, .ref dra, gpa 2, .int 0, .int 0])), (pla, .inr (5, pC 0 0 0 gpl)), (dra, .inr (5, pC 0 0 0 gdr)), (lat, .inr (3, [.int 0, .long 0, gla 2, gla 3, gla 4])), (his, .inr (1, [.int 0, .int 0, ghi 2])), (f1, .inr (5, pC 0 0 0 gf1)), (f2, .inr (5, pC 0 0 0 gf2)), (mo, .inr (11, mC 0 0 0 (-1) 0 0 0 0 0 0 as ak ab ar gm)), (as, .inl (cI, 63, .inl (fun _ => 0))), (ak, .inl (cZ, 2, .inl (fun _ => 0))), (ab, .inl (cI, 600, .inl (fun _ => 0))), (ar, .inl (cI, 63, .inl (fun _ => 0)))] := hD
  have hP := hP.sub (ws' := [(xo, .inr (10, xC inp par pla dra lat his f1 f2 0 0 (-1) gx)), (inp, .inr (2, [.int 0, .int 0, .int 0, .int 0, .int 0, .int 0, .ref byt])), (mo, .inr (11, mC 0 0 0 (-1) 0 0 0 0 0 0 as ak ab ar gm))]) [0, 1, 10] rfl
  have hD := hD.sub (ws' := [(xo, .inr (10, xC inp par pla dra lat his f1 f2 0 0 (-1) gx)), (inp, .inr (2, [.int 0, .int 0, .int 0, .int 0, .int 0, .int 0, .ref byt])), (mo, .inr (11, mC 0 0 0 (-1) 0 0 0 0 0 0 as ak ab ar gm))]) [0, 1, 10] (by decide) rfl
  refine lv_aload_n hx hb dL_law_365 rfl (lv_at hl 3 rfl) ?_
  refine lv_aload_n hx hb dL_law_366 rfl (lv_at hl 4 rfl) ?_
  refine lv_iload hx hb dL_law_367 (lv_at hl 0 rfl) ?_
  refine lv_iconst (v := 1) hx hb dL_law_369 (by decide) ?_
  refine lv_iadd hx hb dL_law_370 ?_
  refine W.eq (g2 := F0 m 371 ls [.int 1, .ref b, .ref xo]) rfl ?_
  refine va_sld hx hb hX hbl hbA hS (by unfold vp_in; decide) dL_law_371 ?_
  refine W.eq (g2 := F0 m 372 ls [.int (xs 1), .ref xo]) rfl ?_
  refine lv_aload_n hx hb dL_law_372 rfl (lv_at hl 1 rfl) ?_
  refine call_i (wr := [(mo, .inr (11, mC 0 0 0 (-1) 0 0 0 0 0 0 as ak ab ar gm))]) C (run_SW (As := [.ref xo, .int (xs 1), .ref o]) (rest := []) C (h_load_g l hlt D cI cZ cJ xo inp par pla dra lat his f1 f2 0 0 (-1) gx byt (xs 1) o h1 h3) cS_L_181 hP hD hS [0, 1] rfl rfl rfl hl.1 rfl (Nat.le_of_ble_eq_true rfl) dL_law_373 ⟨Nat.le_of_ble_eq_true rfl, Nat.le_of_ble_eq_true rfl⟩ ⟨Nat.le_of_ble_eq_true rfl, Nat.le_of_ble_eq_true rfl⟩) hP hD hS [0, 1] [2] rfl rfl rfl (by decide) (fun u1 H locs hP hD hS => ?_)
  have hP : va_P D CL [(mo, .inr (11, mC 0 0 0 (-1) 0 0 0 0 0 0 as ak ab ar gm)), (xo, .inr (10, xC inp par pla dra lat his f1 f2 0 0 (-1) gx)), (inp, .inr (2, [.int 0, .int 0, .int 0, .int 0, .int 0, .int 0, .ref byt]))] H := hP
  have hD : va_D A [(mo, .inr (11, mC 0 0 0 (-1) 0 0 0 0 0 0 as ak ab ar gm)), (xo, .inr (10, xC inp par pla dra lat his f1 f2 0 0 (-1) gx)), (inp, .inr (2, [.int 0, .int 0, .int 0, .int 0, .int 0, .int 0, .ref byt]))] := hD
  refine W.widen (k := 2001) (n := 60006) (Nat.le_of_ble_eq_true rfl) (Nat.le_of_ble_eq_true rfl) ?_
  refine W.eq (g2 := F0 m 376 ls [.int 1]) rfl ?_
  refine lv_istore (lv' := [(5, .int 1), (4, .int 0), (3, .ref o), (2, .ref mo), (1, .ref xo), (0, .ref b)]) hx hb dL_law_376 hl (by decide) rfl (fun ls hl => ?_)
  refine lv_aload_n hx hb dL_law_378 rfl (lv_at hl 3 rfl) ?_
  refine lv_aload_n hx hb dL_law_379 rfl (lv_at hl 5 rfl) ?_
  refine lv_iload hx hb dL_law_380 (lv_at hl 1 rfl) ?_
  refine lv_iconst (v := 1) hx hb dL_law_382 (by decide) ?_
  refine lv_iadd hx hb dL_law_383 ?_
  refine W.eq (g2 := F0 m 384 ls [.int 1, .ref b, .ref mo]) rfl ?_
  refine va_sld hx hb hX hbl hbA hS (by unfold vp_in; decide) dL_law_384 ?_
  refine W.eq (g2 := F0 m 385 ls [.int (xs 1), .ref mo]) rfl ?_
  refine call_i (wr := [(xo, .inr (10, xC inp par pla dra lat his f1 f2 0 0 (-1) gx)), (inp, .inr (2, [.int 0, .int 0, .int 0, .int 0, .int 0, .int 0, .ref byt]))]) C (run_V (As := [.int (xs 1)]) (rest := []) C (m_load_g l D cI cZ cJ mo 0 (-1) 0 0 0 0 0 0 as ak ab ar gm 0 (xs 1) h1 h2) cV_L_186 hP hD hS [0] rfl rfl 0 rfl rfl rfl rfl hl.1 rfl (Nat.le_of_ble_eq_true rfl) dL_law_385 ⟨Nat.le_of_ble_eq_true rfl, Nat.le_of_ble_eq_true rfl⟩ ⟨Nat.le_of_ble_eq_true rfl, Nat.le_of_ble_eq_true rfl⟩) hP hD hS [0] [1, 2] rfl rfl rfl (by decide) (fun u2 H locs hP hD hS => ?_)
  have hP : va_P D CL [(xo, .inr (10, xC inp par pla dra lat his f1 f2 0 0 (-1) gx)), (inp, .inr (2, [.int 0, .int 0, .int 0, .int 0, .int 0, .int 0, .ref byt])), (mo, .inr (11, mC 1 0 0 (-1) 0 0 0 0 0 0 as ak ab ar gm))] H := hP
  have hD : va_D A [(xo, .inr (10, xC inp par pla dra lat his f1 f2 0 0 (-1) gx)), (inp, .inr (2, [.int 0, .int 0, .int 0, .int 0, .int 0, .int 0, .ref byt])), (mo, .inr (11, mC 1 0 0 (-1) 0 0 0 0 0 0 as ak ab ar gm))] := hD
  refine W.widen (k := 2001) (n := 60006) (Nat.le_of_ble_eq_true rfl) (Nat.le_of_ble_eq_true rfl) ?_
  refine W.eq (g2 := F0 m 388 ls [.int 0]) rfl ?_
  refine lv_istore (lv' := [(6, .int 0), (5, .int 1), (4, .int 0), (3, .ref o), (2, .ref mo), (1, .ref xo), (0, .ref b)]) hx hb dL_law_388 hl (by decide) rfl (fun ls hl => ?_)
  refine lv_aload_n hx hb dL_law_390 rfl (lv_at hl 4 rfl) ?_
  refine call_i (wr := [(xo, .inr (10, xC inp par pla dra lat his f1 f2 0 0 (-1) gx)), (inp, .inr (2, [.int 0, .int 0, .int 0, .int 0, .int 0, .int 0, .ref byt]))]) C (run_V (As := []) (rest := []) C (m_thrown l D cI cZ cJ mo 0 0 (-1) 0 0 0 0 0 0 as ak ab ar gm 1 ) cV_L_187 hP hD hS [2] rfl rfl 0 rfl rfl rfl rfl hl.1 rfl (Nat.le_of_ble_eq_true rfl) dL_law_391 ⟨Nat.le_of_ble_eq_true rfl, Nat.le_of_ble_eq_true rfl⟩ ⟨Nat.le_of_ble_eq_true rfl, Nat.le_of_ble_eq_true rfl⟩) hP hD hS [2] [0, 1] rfl rfl rfl (by decide) (fun u3 H locs hP hD hS => ?_)
  have hP : va_P D CL [(xo, .inr (10, xC inp par pla dra lat his f1 f2 0 0 (-1) gx)), (inp, .inr (2, [.int 0, .int 0, .int 0, .int 0, .int 0, .int 0, .ref byt])), (mo, .inr (11, mC 1 0 0 (-1) 0 0 0 0 0 0 as ak ab ar gm))] H := hP
  have hD : va_D A [(xo, .inr (10, xC inp par pla dra lat his f1 f2 0 0 (-1) gx)), (inp, .inr (2, [.int 0, .int 0, .int 0, .int 0, .int 0, .int 0, .ref byt])), (mo, .inr (11, mC 1 0 0 (-1) 0 0 0 0 0 0 as ak ab ar gm))] := hD
  refine W.widen (k := 2001) (n := 60006) (Nat.le_of_ble_eq_true rfl) (Nat.le_of_ble_eq_true rfl) ?_
  refine W.eq (g2 := F0 m 394 ls [.int 1]) rfl ?_
  refine lv_iload hx hb dL_law_394 (lv_at hl 1 rfl) ?_
  refine lv_icmp_eq (tgt := 401) hx hb dL_law_396 (by decide) (fun _ => ?_) (fun h => absurd (by decide) h)
  refine lv_iload hx hb dL_law_401 (lv_at hl 1 rfl) ?_
  refine lv_if_ne (tgt := 418) hx hb dL_law_403 (by decide) (fun _ => ?_) (fun h => absurd h (by decide))
  refine lv_goto (tgt := 3186) hx hb dL_law_418 (by decide) ?_
  exact law_exit K hS (lv_sub hl [6, 2] rfl) (Nat.le_of_ble_eq_true rfl) (Nat.le_of_ble_eq_true rfl)
set_option maxHeartbeats 4000000 in
set_option maxRecDepth 100000 in
theorem law_1_z {p : Program} {l : Launch} {e : Env} {s : State} {m : MethodId} {below : List Frame} {meth : Method} {c : Code} {b : Nat} {xs : Nat → Int32} {D : va_G} {cI cZ cJ : ClassId} {A : Nat → Prop} (K : LCx p l s m meth c b 6 xs D cI cZ cJ A) {xo inp byt par pla dra lat his f1 f2 mo as ak ab ar o : Nat} {gx gpl gdr gla gf1 gf2 gpa ghi gm : Nat → Value} (hz : xs 1 = 0) {H : Heap} {locs : List Loc} {ls : Array Slot} (hP : va_P D CL (LW cI cZ xo inp byt par pla dra lat his f1 f2 mo as ak ab ar gx gpl gdr gla gf1 gf2 gpa ghi gm) H) (hD : va_D A (LW cI cZ xo inp byt par pla dra lat his f1 f2 mo as ak ab ar gx gpl gdr gla gf1 gf2 gpa ghi gm)) (hS : va_S A s.heap H locs) (hl : lv_has ls 8 [(4, .int 0), (3, .ref o), (2, .ref mo), (1, .ref xo), (0, .ref b)]) : W p l e room_1 s m #[Value.ref b] below meth c H locs 2000 60000 (lw_Z below #[Value.ref b] s) (F0 m 365 ls []) := by
  obtain ⟨C, hX, hbl, hlt, hAA⟩ := id K
  have hx := C.1
  have hb := C.2.1
  have hbA : ¬ A b := fun h => absurd (hAA b h) (Nat.not_le.mpr hbl)
  have hP : va_P D CL [(xo, .inr (10, xC inp par pla dra lat his f1 f2 0 0 (-1) gx)), (inp, .inr (2, [.int 0, .int 0, .int 0, .int 0, .int 0, .int 0, .ref byt])), (byt, .inl (cI, 600, .inl (fun _ => 0))), (par, .inr (4, [.ref inp, .ref dra, gpa 2, .int 0, .int 0])), (pla, .inr (5, pC 0 0 0 gpl)), (dra, .inr (5, pC 0 0 0 gdr)), (lat, .inr (3, [.int 0, .long 0, gla 2, gla 3, gla 4])), (his, .inr (1, [.int 0, .int 0, ghi 2])), (f1, .inr (5, pC 0 0 0 gf1)), (f2, .inr (5, pC 0 0 0 gf2)), (mo, .inr (11, mC 0 0 0 (-1) 0 0 0 0 0 0 as ak ab ar gm)), (as, .inl (cI, 63, .inl (fun _ => 0))), (ak, .inl (cZ, 2, .inl (fun _ => 0))), (ab, .inl (cI, 600, .inl (fun _ => 0))), (ar, .inl (cI, 63, .inl (fun _ => 0)))] H := hP
  have hD : va_D A [(xo, .inr (10, xC inp par pla dra lat his f1 f2 0 0 (-1) gx)), (inp, .inr (2, [.int 0, .int 0, .int 0, .int 0, .int 0, .int 0, .ref byt])), (byt, .inl (cI, 600, .inl (fun _ => 0))), (par, .inr (4, [.ref inp, .ref dra, gpa 2, .int 0, .int 0])), (pla, .inr (5, pC 0 0 0 gpl)), (dra, .inr (5, pC 0 0 0 gdr)), (lat, .inr (3, [.int 0, .long 0, gla 2, gla 3, gla 4])), (his, .inr (1, [.int 0, .int 0, ghi 2])), (f1, .inr (5, pC 0 0 0 gf1)), (f2, .inr (5, pC 0 0 0 gf2)), (mo, .inr (11, mC 0 0 0 (-1) 0 0 0 0 0 0 as ak ab ar gm)), (as, .inl (cI, 63, .inl (fun _ => 0))), (ak, .inl (cZ, 2, .inl (fun _ => 0))), (ab, .inl (cI, 600, .inl (fun _ => 0))), (ar, .inl (cI, 63, .inl (fun _ => 0)))] := hD
  have hP := hP.sub (ws' := [(xo, .inr (10, xC inp par pla dra lat his f1 f2 0 0 (-1) gx)), (inp, .inr (2, [.int 0, .int 0, .int 0, .int 0, .int 0, .int 0, .ref byt])), (par, .inr (4, [.ref inp, .ref dra, gpa 2, .int 0, .int 0])), (dra, .inr (5, pC 0 0 0 gdr)), (mo, .inr (11, mC 0 0 0 (-1) 0 0 0 0 0 0 as ak ab ar gm)), (ar, .inl (cI, 63, .inl (fun _ => 0)))]) [0, 1, 3, 5, 10, 14] rfl
  have hD := hD.sub (ws' := [(xo, .inr (10, xC inp par pla dra lat his f1 f2 0 0 (-1) gx)), (inp, .inr (2, [.int 0, .int 0, .int 0, .int 0, .int 0, .int 0, .ref byt])), (par, .inr (4, [.ref inp, .ref dra, gpa 2, .int 0, .int 0])), (dra, .inr (5, pC 0 0 0 gdr)), (mo, .inr (11, mC 0 0 0 (-1) 0 0 0 0 0 0 as ak ab ar gm)), (ar, .inl (cI, 63, .inl (fun _ => 0)))]) [0, 1, 3, 5, 10, 14] (by decide) rfl
  refine lv_aload_n hx hb dL_law_365 rfl (lv_at hl 3 rfl) ?_
  refine lv_aload_n hx hb dL_law_366 rfl (lv_at hl 4 rfl) ?_
  refine lv_iload hx hb dL_law_367 (lv_at hl 0 rfl) ?_
  refine lv_iconst (v := 1) hx hb dL_law_369 (by decide) ?_
  refine lv_iadd hx hb dL_law_370 ?_
  refine W.eq (g2 := F0 m 371 ls [.int 1, .ref b, .ref xo]) rfl ?_
  refine va_sld hx hb hX hbl hbA hS (by unfold vp_in; decide) dL_law_371 ?_
  refine W.eq (g2 := F0 m 372 ls [.int (xs 1), .ref xo]) rfl ?_
  refine W.eq (g2 := F0 m 372 ls [.int 0, .ref xo]) (by rw [hz]) ?_
  refine lv_aload_n hx hb dL_law_372 rfl (lv_at hl 1 rfl) ?_
  refine call_i (wr := [(mo, .inr (11, mC 0 0 0 (-1) 0 0 0 0 0 0 as ak ab ar gm)), (ar, .inl (cI, 63, .inl (fun _ => 0)))]) C (run_SW (As := [.ref xo, .int 0, .ref o]) (rest := []) C (h_load_0 l hlt D cI cZ cJ xo inp par pla dra lat his f1 f2 0 0 (-1) gx byt gpa gdr o ) cS_L_181 hP hD hS [0, 1, 2, 3] rfl rfl rfl hl.1 rfl (Nat.le_of_ble_eq_true rfl) dL_law_373 ⟨Nat.le_of_ble_eq_true rfl, Nat.le_of_ble_eq_true rfl⟩ ⟨Nat.le_of_ble_eq_true rfl, Nat.le_of_ble_eq_true rfl⟩) hP hD hS [0, 1, 2, 3] [4, 5] rfl rfl rfl (by decide) (fun u1 H locs hP hD hS => ?_)
  have hP : va_P D CL [(mo, .inr (11, mC 0 0 0 (-1) 0 0 0 0 0 0 as ak ab ar gm)), (ar, .inl (cI, 63, .inl (fun _ => 0))), (xo, .inr (10, xC inp par pla dra lat his f1 f2 0 1 0 gx)), (inp, .inr (2, [.int 0, .int 0, .int 0, .int 0, .int 0, .int 0, .ref byt])), (par, .inr (4, [.ref inp, .ref dra, gpa 2, .int 0, .int 0])), (dra, .inr (5, pC 0 0 0 gdr))] H := hP
  have hD : va_D A [(mo, .inr (11, mC 0 0 0 (-1) 0 0 0 0 0 0 as ak ab ar gm)), (ar, .inl (cI, 63, .inl (fun _ => 0))), (xo, .inr (10, xC inp par pla dra lat his f1 f2 0 1 0 gx)), (inp, .inr (2, [.int 0, .int 0, .int 0, .int 0, .int 0, .int 0, .ref byt])), (par, .inr (4, [.ref inp, .ref dra, gpa 2, .int 0, .int 0])), (dra, .inr (5, pC 0 0 0 gdr))] := hD
  refine W.widen (k := 2001) (n := 60006) (Nat.le_of_ble_eq_true rfl) (Nat.le_of_ble_eq_true rfl) ?_
  refine W.eq (g2 := F0 m 376 ls [.int 2]) rfl ?_
  refine lv_istore (lv' := [(5, .int 2), (4, .int 0), (3, .ref o), (2, .ref mo), (1, .ref xo), (0, .ref b)]) hx hb dL_law_376 hl (by decide) rfl (fun ls hl => ?_)
  refine lv_aload_n hx hb dL_law_378 rfl (lv_at hl 3 rfl) ?_
  refine lv_aload_n hx hb dL_law_379 rfl (lv_at hl 5 rfl) ?_
  refine lv_iload hx hb dL_law_380 (lv_at hl 1 rfl) ?_
  refine lv_iconst (v := 1) hx hb dL_law_382 (by decide) ?_
  refine lv_iadd hx hb dL_law_383 ?_
  refine W.eq (g2 := F0 m 384 ls [.int 1, .ref b, .ref mo]) rfl ?_
  refine va_sld hx hb hX hbl hbA hS (by unfold vp_in; decide) dL_law_384 ?_
  refine W.eq (g2 := F0 m 385 ls [.int (xs 1), .ref mo]) rfl ?_
  refine W.eq (g2 := F0 m 385 ls [.int 0, .ref mo]) (by rw [hz]) ?_
  refine call_i (wr := [(xo, .inr (10, xC inp par pla dra lat his f1 f2 0 1 0 gx)), (inp, .inr (2, [.int 0, .int 0, .int 0, .int 0, .int 0, .int 0, .ref byt])), (par, .inr (4, [.ref inp, .ref dra, gpa 2, .int 0, .int 0])), (dra, .inr (5, pC 0 0 0 gdr))]) C (run_V (As := [.int 0]) (rest := []) C (m_load_0 l D cI cZ cJ mo 0 (-1) 0 0 0 0 0 0 as ak ab ar gm 0 (fun _ => 0) ) cV_L_186 hP hD hS [0, 1] rfl rfl 0 rfl rfl rfl rfl hl.1 rfl (Nat.le_of_ble_eq_true rfl) dL_law_385 ⟨Nat.le_of_ble_eq_true rfl, Nat.le_of_ble_eq_true rfl⟩ ⟨Nat.le_of_ble_eq_true rfl, Nat.le_of_ble_eq_true rfl⟩) hP hD hS [0, 1] [2, 3, 4, 5] rfl rfl rfl (by decide) (fun u2 H locs hP hD hS => ?_)
  have hP : va_P D CL [(xo, .inr (10, xC inp par pla dra lat his f1 f2 0 1 0 gx)), (inp, .inr (2, [.int 0, .int 0, .int 0, .int 0, .int 0, .int 0, .ref byt])), (par, .inr (4, [.ref inp, .ref dra, gpa 2, .int 0, .int 0])), (dra, .inr (5, pC 0 0 0 gdr)), (mo, .inr (11, mC 2 0 1 0 0 0 0 0 1 0 as ak ab ar gm)), (ar, .inl (cI, 63, .inl u2))] H := hP
  have hD : va_D A [(xo, .inr (10, xC inp par pla dra lat his f1 f2 0 1 0 gx)), (inp, .inr (2, [.int 0, .int 0, .int 0, .int 0, .int 0, .int 0, .ref byt])), (par, .inr (4, [.ref inp, .ref dra, gpa 2, .int 0, .int 0])), (dra, .inr (5, pC 0 0 0 gdr)), (mo, .inr (11, mC 2 0 1 0 0 0 0 0 1 0 as ak ab ar gm)), (ar, .inl (cI, 63, .inl u2))] := hD
  refine W.widen (k := 2001) (n := 60006) (Nat.le_of_ble_eq_true rfl) (Nat.le_of_ble_eq_true rfl) ?_
  refine W.eq (g2 := F0 m 388 ls [.int 0]) rfl ?_
  refine lv_istore (lv' := [(6, .int 0), (5, .int 2), (4, .int 0), (3, .ref o), (2, .ref mo), (1, .ref xo), (0, .ref b)]) hx hb dL_law_388 hl (by decide) rfl (fun ls hl => ?_)
  refine lv_aload_n hx hb dL_law_390 rfl (lv_at hl 4 rfl) ?_
  refine call_i (wr := [(xo, .inr (10, xC inp par pla dra lat his f1 f2 0 1 0 gx)), (inp, .inr (2, [.int 0, .int 0, .int 0, .int 0, .int 0, .int 0, .ref byt])), (par, .inr (4, [.ref inp, .ref dra, gpa 2, .int 0, .int 0])), (dra, .inr (5, pC 0 0 0 gdr)), (ar, .inl (cI, 63, .inl u2))]) C (run_V (As := []) (rest := []) C (m_thrown l D cI cZ cJ mo 0 1 0 0 0 0 0 1 0 as ak ab ar gm 2 ) cV_L_187 hP hD hS [4] rfl rfl 0 rfl rfl rfl rfl hl.1 rfl (Nat.le_of_ble_eq_true rfl) dL_law_391 ⟨Nat.le_of_ble_eq_true rfl, Nat.le_of_ble_eq_true rfl⟩ ⟨Nat.le_of_ble_eq_true rfl, Nat.le_of_ble_eq_true rfl⟩) hP hD hS [4] [0, 1, 2, 3, 5] rfl rfl rfl (by decide) (fun u3 H locs hP hD hS => ?_)
  have hP : va_P D CL [(xo, .inr (10, xC inp par pla dra lat his f1 f2 0 1 0 gx)), (inp, .inr (2, [.int 0, .int 0, .int 0, .int 0, .int 0, .int 0, .ref byt])), (par, .inr (4, [.ref inp, .ref dra, gpa 2, .int 0, .int 0])), (dra, .inr (5, pC 0 0 0 gdr)), (ar, .inl (cI, 63, .inl u2)), (mo, .inr (11, mC 2 0 1 0 0 0 0 0 1 0 as ak ab ar gm))] H := hP
  have hD : va_D A [(xo, .inr (10, xC inp par pla dra lat his f1 f2 0 1 0 gx)), (inp, .inr (2, [.int 0, .int 0, .int 0, .int 0, .int 0, .int 0, .ref byt])), (par, .inr (4, [.ref inp, .ref dra, gpa 2, .int 0, .int 0])), (dra, .inr (5, pC 0 0 0 gdr)), (ar, .inl (cI, 63, .inl u2)), (mo, .inr (11, mC 2 0 1 0 0 0 0 0 1 0 as ak ab ar gm))] := hD
  refine W.widen (k := 2001) (n := 60006) (Nat.le_of_ble_eq_true rfl) (Nat.le_of_ble_eq_true rfl) ?_
  refine W.eq (g2 := F0 m 394 ls [.int 2]) rfl ?_
  refine lv_iload hx hb dL_law_394 (lv_at hl 1 rfl) ?_
  refine lv_icmp_eq (tgt := 401) hx hb dL_law_396 (by decide) (fun _ => ?_) (fun h => absurd (by decide) h)
  refine lv_iload hx hb dL_law_401 (lv_at hl 1 rfl) ?_
  refine lv_if_ne (tgt := 418) hx hb dL_law_403 (by decide) (fun _ => ?_) (fun h => absurd h (by decide))
  refine lv_goto (tgt := 3186) hx hb dL_law_418 (by decide) ?_
  exact law_exit K hS (lv_sub hl [6, 2] rfl) (Nat.le_of_ble_eq_true rfl) (Nat.le_of_ble_eq_true rfl)
theorem law_1 {p : Program} {l : Launch} {e : Env} {s : State} {m : MethodId} {below : List Frame} {meth : Method} {c : Code} {b : Nat} {xs : Nat → Int32} {D : va_G} {cI cZ cJ : ClassId} {A : Nat → Prop} (K : LCx p l s m meth c b 6 xs D cI cZ cJ A) {xo inp byt par pla dra lat his f1 f2 mo as ak ab ar o : Nat} {gx gpl gdr gla gf1 gf2 gpa ghi gm : Nat → Value} {H : Heap} {locs : List Loc} {ls : Array Slot} (hP : va_P D CL (LW cI cZ xo inp byt par pla dra lat his f1 f2 mo as ak ab ar gx gpl gdr gla gf1 gf2 gpa ghi gm) H) (hD : va_D A (LW cI cZ xo inp byt par pla dra lat his f1 f2 mo as ak ab ar gx gpl gdr gla gf1 gf2 gpa ghi gm)) (hS : va_S A s.heap H locs) (hl : lv_has ls 8 [(4, .int 0), (3, .ref o), (2, .ref mo), (1, .ref xo), (0, .ref b)]) : W p l e room_1 s m #[Value.ref b] below meth c H locs 2000 60000 (lw_Z below #[Value.ref b] s) (F0 m 365 ls []) := by
  by_cases h1 : xs 1 < 0
  · exact law_1_l K h1 hP hD hS hl
  · by_cases h2 : 0 < xs 1
    · exact law_1_g K h1 h2 (fun h => absurd h2 (ngt0 h)) hP hD hS hl
    · exact law_1_z K (eq0 h1 h2) hP hD hS hl
set_option maxHeartbeats 4000000 in
set_option maxRecDepth 100000 in
theorem law_2 {p : Program} {l : Launch} {e : Env} {s : State} {m : MethodId} {below : List Frame} {meth : Method} {c : Code} {b : Nat} {xs : Nat → Int32} {D : va_G} {cI cZ cJ : ClassId} {A : Nat → Prop} (K : LCx p l s m meth c b 6 xs D cI cZ cJ A) {xo inp byt par pla dra lat his f1 f2 mo as ak ab ar o : Nat} {gx gpl gdr gla gf1 gf2 gpa ghi gm : Nat → Value}  {H : Heap} {locs : List Loc} {ls : Array Slot} (hP : va_P D CL (LW cI cZ xo inp byt par pla dra lat his f1 f2 mo as ak ab ar gx gpl gdr gla gf1 gf2 gpa ghi gm) H) (hD : va_D A (LW cI cZ xo inp byt par pla dra lat his f1 f2 mo as ak ab ar gx gpl gdr gla gf1 gf2 gpa ghi gm)) (hS : va_S A s.heap H locs) (hl : lv_has ls 8 [(4, .int 0), (3, .ref o), (2, .ref mo), (1, .ref xo), (0, .ref b)]) : W p l e room_1 s m #[Value.ref b] below meth c H locs 2000 60000 (lw_Z below #[Value.ref b] s) (F0 m 421 ls []) := by
  obtain ⟨C, hX, hbl, hlt, hAA⟩ := id K
  have hx := C.1
  have hb := C.2.1
  have hbA : ¬ A b := fun h => absurd (hAA b h) (Nat.not_le.mpr hbl)
  have hP : va_P D CL [(xo, .inr (10, xC inp par pla dra lat his f1 f2 0 0 (-1) gx)), (inp, .inr (2, [.int 0, .int 0, .int 0, .int 0, .int 0, .int 0, .ref byt])), (byt, .inl (cI, 600, .inl (fun _ => 0))), (par, .inr (4, [.ref inp, .ref dra, gpa 2, .int 0, .int 0])), (pla, .inr (5, pC 0 0 0 gpl)), (dra, .inr (5, pC 0 0 0 gdr)), (lat, .inr (3, [.int 0, .long 0, gla 2, gla 3, gla 4])), (his, .inr (1, [.int 0, .int 0, ghi 2])), (f1, .inr (5, pC 0 0 0 gf1)), (f2, .inr (5, pC 0 0 0 gf2)), (mo, .inr (11, mC 0 0 0 (-1) 0 0 0 0 0 0 as ak ab ar gm)), (as, .inl (cI, 63, .inl (fun _ => 0))), (ak, .inl (cZ, 2, .inl (fun _ => 0))), (ab, .inl (cI, 600, .inl (fun _ => 0))), (ar, .inl (cI, 63, .inl (fun _ => 0)))] H := hP
  have hD : va_D A [(xo, .inr (10, xC inp par pla dra lat his f1 f2 0 0 (-1) gx)), (inp, .inr (2, [.int 0, .int 0, .int 0, .int 0, .int 0, .int 0, .ref byt])), (byt, .inl (cI, 600, .inl (fun _ => 0))), (par, .inr (4, [.ref inp, .ref dra, gpa 2, .int 0, .int 0])), (pla, .inr (5, pC 0 0 0 gpl)), (dra, .inr (5, pC 0 0 0 gdr)), (lat, .inr (3, [.int 0, .long 0, gla 2, gla 3, gla 4])), (his, .inr (1, [.int 0, .int 0, ghi 2])), (f1, .inr (5, pC 0 0 0 gf1)), (f2, .inr (5, pC 0 0 0 gf2)), (mo, .inr (11, mC 0 0 0 (-1) 0 0 0 0 0 0 as ak ab ar gm)), (as, .inl (cI, 63, .inl (fun _ => 0))), (ak, .inl (cZ, 2, .inl (fun _ => 0))), (ab, .inl (cI, 600, .inl (fun _ => 0))), (ar, .inl (cI, 63, .inl (fun _ => 0)))] := hD
  have hP := hP.sub (ws' := [(xo, .inr (10, xC inp par pla dra lat his f1 f2 0 0 (-1) gx)), (mo, .inr (11, mC 0 0 0 (-1) 0 0 0 0 0 0 as ak ab ar gm))]) [0, 10] rfl
  have hD := hD.sub (ws' := [(xo, .inr (10, xC inp par pla dra lat his f1 f2 0 0 (-1) gx)), (mo, .inr (11, mC 0 0 0 (-1) 0 0 0 0 0 0 as ak ab ar gm))]) [0, 10] (by decide) rfl
  refine lv_aload_n hx hb dL_law_421 rfl (lv_at hl 3 rfl) ?_
  refine call_i (wr := [(mo, .inr (11, mC 0 0 0 (-1) 0 0 0 0 0 0 as ak ab ar gm))]) C (run_V (As := []) (rest := []) C (k_parseError l D cI cZ cJ xo inp par pla dra lat his f1 f2 0 0 (-1) gx ) cV_L_190 hP hD hS [0] rfl rfl 0 rfl rfl rfl rfl hl.1 rfl (Nat.le_of_ble_eq_true rfl) dL_law_422 ⟨Nat.le_of_ble_eq_true rfl, Nat.le_of_ble_eq_true rfl⟩ ⟨Nat.le_of_ble_eq_true rfl, Nat.le_of_ble_eq_true rfl⟩) hP hD hS [0] [1] rfl rfl rfl (by decide) (fun u1 H locs hP hD hS => ?_)
  have hP : va_P D CL [(mo, .inr (11, mC 0 0 0 (-1) 0 0 0 0 0 0 as ak ab ar gm)), (xo, .inr (10, xC inp par pla dra lat his f1 f2 0 0 (-1) gx))] H := hP
  have hD : va_D A [(mo, .inr (11, mC 0 0 0 (-1) 0 0 0 0 0 0 as ak ab ar gm)), (xo, .inr (10, xC inp par pla dra lat his f1 f2 0 0 (-1) gx))] := hD
  refine W.widen (k := 2000) (n := 60000) (Nat.le_of_ble_eq_true rfl) (Nat.le_of_ble_eq_true rfl) ?_
  refine W.eq (g2 := F0 m 425 ls [.int 0]) rfl ?_
  refine lv_aload_n hx hb dL_law_425 rfl (lv_at hl 2 rfl) ?_
  refine call_i (wr := [(xo, .inr (10, xC inp par pla dra lat his f1 f2 0 0 (-1) gx))]) C (run_V (As := []) (rest := [.int 0]) C (m_parseError l D cI cZ cJ mo 0 0 (-1) 0 0 0 0 0 0 as ak ab ar gm 0 ) cV_L_193 hP hD hS [0] rfl rfl 0 rfl rfl rfl rfl hl.1 rfl (Nat.le_of_ble_eq_true rfl) dL_law_426 ⟨Nat.le_of_ble_eq_true rfl, Nat.le_of_ble_eq_true rfl⟩ ⟨Nat.le_of_ble_eq_true rfl, Nat.le_of_ble_eq_true rfl⟩) hP hD hS [0] [1] rfl rfl rfl (by decide) (fun u2 H locs hP hD hS => ?_)
  have hP : va_P D CL [(xo, .inr (10, xC inp par pla dra lat his f1 f2 0 0 (-1) gx)), (mo, .inr (11, mC 0 0 0 (-1) 0 0 0 0 0 0 as ak ab ar gm))] H := hP
  have hD : va_D A [(xo, .inr (10, xC inp par pla dra lat his f1 f2 0 0 (-1) gx)), (mo, .inr (11, mC 0 0 0 (-1) 0 0 0 0 0 0 as ak ab ar gm))] := hD
  refine W.widen (k := 2000) (n := 60000) (Nat.le_of_ble_eq_true rfl) (Nat.le_of_ble_eq_true rfl) ?_
  refine W.eq (g2 := F0 m 429 ls [.int 0, .int 0]) rfl ?_
  refine lv_icmp_eq (tgt := 3186) hx hb dL_law_429 (by decide) (fun _ => ?_) (fun h => absurd (by decide) h)
  exact law_exit K hS (lv_sub hl [4, 0] rfl) (Nat.le_of_ble_eq_true rfl) (Nat.le_of_ble_eq_true rfl)
set_option maxHeartbeats 4000000 in
set_option maxRecDepth 100000 in
theorem law_3 {p : Program} {l : Launch} {e : Env} {s : State} {m : MethodId} {below : List Frame} {meth : Method} {c : Code} {b : Nat} {xs : Nat → Int32} {D : va_G} {cI cZ cJ : ClassId} {A : Nat → Prop} (K : LCx p l s m meth c b 6 xs D cI cZ cJ A) {xo inp byt par pla dra lat his f1 f2 mo as ak ab ar o : Nat} {gx gpl gdr gla gf1 gf2 gpa ghi gm : Nat → Value}  {H : Heap} {locs : List Loc} {ls : Array Slot} (hP : va_P D CL (LW cI cZ xo inp byt par pla dra lat his f1 f2 mo as ak ab ar gx gpl gdr gla gf1 gf2 gpa ghi gm) H) (hD : va_D A (LW cI cZ xo inp byt par pla dra lat his f1 f2 mo as ak ab ar gx gpl gdr gla gf1 gf2 gpa ghi gm)) (hS : va_S A s.heap H locs) (hl : lv_has ls 8 [(4, .int 0), (3, .ref o), (2, .ref mo), (1, .ref xo), (0, .ref b)]) : W p l e room_1 s m #[Value.ref b] below meth c H locs 2000 60000 (lw_Z below #[Value.ref b] s) (F0 m 434 ls []) := by
  obtain ⟨C, hX, hbl, hlt, hAA⟩ := id K
  have hx := C.1
  have hb := C.2.1
  have hbA : ¬ A b := fun h => absurd (hAA b h) (Nat.not_le.mpr hbl)
  have hP : va_P D CL [(xo, .inr (10, xC inp par pla dra lat his f1 f2 0 0 (-1) gx)), (inp, .inr (2, [.int 0, .int 0, .int 0, .int 0, .int 0, .int 0, .ref byt])), (byt, .inl (cI, 600, .inl (fun _ => 0))), (par, .inr (4, [.ref inp, .ref dra, gpa 2, .int 0, .int 0])), (pla, .inr (5, pC 0 0 0 gpl)), (dra, .inr (5, pC 0 0 0 gdr)), (lat, .inr (3, [.int 0, .long 0, gla 2, gla 3, gla 4])), (his, .inr (1, [.int 0, .int 0, ghi 2])), (f1, .inr (5, pC 0 0 0 gf1)), (f2, .inr (5, pC 0 0 0 gf2)), (mo, .inr (11, mC 0 0 0 (-1) 0 0 0 0 0 0 as ak ab ar gm)), (as, .inl (cI, 63, .inl (fun _ => 0))), (ak, .inl (cZ, 2, .inl (fun _ => 0))), (ab, .inl (cI, 600, .inl (fun _ => 0))), (ar, .inl (cI, 63, .inl (fun _ => 0)))] H := hP
  have hD : va_D A [(xo, .inr (10, xC inp par pla dra lat his f1 f2 0 0 (-1) gx)), (inp, .inr (2, [.int 0, .int 0, .int 0, .int 0, .int 0, .int 0, .ref byt])), (byt, .inl (cI, 600, .inl (fun _ => 0))), (par, .inr (4, [.ref inp, .ref dra, gpa 2, .int 0, .int 0])), (pla, .inr (5, pC 0 0 0 gpl)), (dra, .inr (5, pC 0 0 0 gdr)), (lat, .inr (3, [.int 0, .long 0, gla 2, gla 3, gla 4])), (his, .inr (1, [.int 0, .int 0, ghi 2])), (f1, .inr (5, pC 0 0 0 gf1)), (f2, .inr (5, pC 0 0 0 gf2)), (mo, .inr (11, mC 0 0 0 (-1) 0 0 0 0 0 0 as ak ab ar gm)), (as, .inl (cI, 63, .inl (fun _ => 0))), (ak, .inl (cZ, 2, .inl (fun _ => 0))), (ab, .inl (cI, 600, .inl (fun _ => 0))), (ar, .inl (cI, 63, .inl (fun _ => 0)))] := hD
  have hP := hP.sub (ws' := [(xo, .inr (10, xC inp par pla dra lat his f1 f2 0 0 (-1) gx)), (mo, .inr (11, mC 0 0 0 (-1) 0 0 0 0 0 0 as ak ab ar gm))]) [0, 10] rfl
  have hD := hD.sub (ws' := [(xo, .inr (10, xC inp par pla dra lat his f1 f2 0 0 (-1) gx)), (mo, .inr (11, mC 0 0 0 (-1) 0 0 0 0 0 0 as ak ab ar gm))]) [0, 10] (by decide) rfl
  refine lv_aload_n hx hb dL_law_434 rfl (lv_at hl 3 rfl) ?_
  refine call_i (wr := [(mo, .inr (11, mC 0 0 0 (-1) 0 0 0 0 0 0 as ak ab ar gm))]) C (run_V (As := []) (rest := []) C (k_errorPosition l D cI cZ cJ xo inp par pla dra lat his f1 f2 0 0 (-1) gx ) cV_L_194 hP hD hS [0] rfl rfl 0 rfl rfl rfl rfl hl.1 rfl (Nat.le_of_ble_eq_true rfl) dL_law_435 ⟨Nat.le_of_ble_eq_true rfl, Nat.le_of_ble_eq_true rfl⟩ ⟨Nat.le_of_ble_eq_true rfl, Nat.le_of_ble_eq_true rfl⟩) hP hD hS [0] [1] rfl rfl rfl (by decide) (fun u1 H locs hP hD hS => ?_)
  have hP : va_P D CL [(mo, .inr (11, mC 0 0 0 (-1) 0 0 0 0 0 0 as ak ab ar gm)), (xo, .inr (10, xC inp par pla dra lat his f1 f2 0 0 (-1) gx))] H := hP
  have hD : va_D A [(mo, .inr (11, mC 0 0 0 (-1) 0 0 0 0 0 0 as ak ab ar gm)), (xo, .inr (10, xC inp par pla dra lat his f1 f2 0 0 (-1) gx))] := hD
  refine W.widen (k := 2000) (n := 60000) (Nat.le_of_ble_eq_true rfl) (Nat.le_of_ble_eq_true rfl) ?_
  refine W.eq (g2 := F0 m 438 ls [.int (-1)]) rfl ?_
  refine lv_aload_n hx hb dL_law_438 rfl (lv_at hl 2 rfl) ?_
  refine call_i (wr := [(xo, .inr (10, xC inp par pla dra lat his f1 f2 0 0 (-1) gx))]) C (run_V (As := []) (rest := [.int (-1)]) C (m_errorPosition l D cI cZ cJ mo 0 0 (-1) 0 0 0 0 0 0 as ak ab ar gm 0 ) cV_L_197 hP hD hS [0] rfl rfl 0 rfl rfl rfl rfl hl.1 rfl (Nat.le_of_ble_eq_true rfl) dL_law_439 ⟨Nat.le_of_ble_eq_true rfl, Nat.le_of_ble_eq_true rfl⟩ ⟨Nat.le_of_ble_eq_true rfl, Nat.le_of_ble_eq_true rfl⟩) hP hD hS [0] [1] rfl rfl rfl (by decide) (fun u2 H locs hP hD hS => ?_)
  have hP : va_P D CL [(xo, .inr (10, xC inp par pla dra lat his f1 f2 0 0 (-1) gx)), (mo, .inr (11, mC 0 0 0 (-1) 0 0 0 0 0 0 as ak ab ar gm))] H := hP
  have hD : va_D A [(xo, .inr (10, xC inp par pla dra lat his f1 f2 0 0 (-1) gx)), (mo, .inr (11, mC 0 0 0 (-1) 0 0 0 0 0 0 as ak ab ar gm))] := hD
  refine W.widen (k := 2000) (n := 60000) (Nat.le_of_ble_eq_true rfl) (Nat.le_of_ble_eq_true rfl) ?_
  refine W.eq (g2 := F0 m 442 ls [.int (-1), .int (-1)]) rfl ?_
  refine lv_icmp_eq (tgt := 3186) hx hb dL_law_442 (by decide) (fun _ => ?_) (fun h => absurd (by decide) h)
  exact law_exit K hS (lv_sub hl [4, 0] rfl) (Nat.le_of_ble_eq_true rfl) (Nat.le_of_ble_eq_true rfl)
set_option maxHeartbeats 4000000 in
set_option maxRecDepth 100000 in
theorem law_4 {p : Program} {l : Launch} {e : Env} {s : State} {m : MethodId} {below : List Frame} {meth : Method} {c : Code} {b : Nat} {xs : Nat → Int32} {D : va_G} {cI cZ cJ : ClassId} {A : Nat → Prop} (K : LCx p l s m meth c b 6 xs D cI cZ cJ A) {xo inp byt par pla dra lat his f1 f2 mo as ak ab ar o : Nat} {gx gpl gdr gla gf1 gf2 gpa ghi gm : Nat → Value}  {H : Heap} {locs : List Loc} {ls : Array Slot} (hP : va_P D CL (LW cI cZ xo inp byt par pla dra lat his f1 f2 mo as ak ab ar gx gpl gdr gla gf1 gf2 gpa ghi gm) H) (hD : va_D A (LW cI cZ xo inp byt par pla dra lat his f1 f2 mo as ak ab ar gx gpl gdr gla gf1 gf2 gpa ghi gm)) (hS : va_S A s.heap H locs) (hl : lv_has ls 8 [(4, .int 0), (3, .ref o), (2, .ref mo), (1, .ref xo), (0, .ref b)]) : W p l e room_1 s m #[Value.ref b] below meth c H locs 2000 60000 (lw_Z below #[Value.ref b] s) (F0 m 447 ls []) := by
  obtain ⟨C, hX, hbl, hlt, hAA⟩ := id K
  have hx := C.1
  have hb := C.2.1
  have hbA : ¬ A b := fun h => absurd (hAA b h) (Nat.not_le.mpr hbl)
  have hP : va_P D CL [(xo, .inr (10, xC inp par pla dra lat his f1 f2 0 0 (-1) gx)), (inp, .inr (2, [.int 0, .int 0, .int 0, .int 0, .int 0, .int 0, .ref byt])), (byt, .inl (cI, 600, .inl (fun _ => 0))), (par, .inr (4, [.ref inp, .ref dra, gpa 2, .int 0, .int 0])), (pla, .inr (5, pC 0 0 0 gpl)), (dra, .inr (5, pC 0 0 0 gdr)), (lat, .inr (3, [.int 0, .long 0, gla 2, gla 3, gla 4])), (his, .inr (1, [.int 0, .int 0, ghi 2])), (f1, .inr (5, pC 0 0 0 gf1)), (f2, .inr (5, pC 0 0 0 gf2)), (mo, .inr (11, mC 0 0 0 (-1) 0 0 0 0 0 0 as ak ab ar gm)), (as, .inl (cI, 63, .inl (fun _ => 0))), (ak, .inl (cZ, 2, .inl (fun _ => 0))), (ab, .inl (cI, 600, .inl (fun _ => 0))), (ar, .inl (cI, 63, .inl (fun _ => 0)))] H := hP
  have hD : va_D A [(xo, .inr (10, xC inp par pla dra lat his f1 f2 0 0 (-1) gx)), (inp, .inr (2, [.int 0, .int 0, .int 0, .int 0, .int 0, .int 0, .ref byt])), (byt, .inl (cI, 600, .inl (fun _ => 0))), (par, .inr (4, [.ref inp, .ref dra, gpa 2, .int 0, .int 0])), (pla, .inr (5, pC 0 0 0 gpl)), (dra, .inr (5, pC 0 0 0 gdr)), (lat, .inr (3, [.int 0, .long 0, gla 2, gla 3, gla 4])), (his, .inr (1, [.int 0, .int 0, ghi 2])), (f1, .inr (5, pC 0 0 0 gf1)), (f2, .inr (5, pC 0 0 0 gf2)), (mo, .inr (11, mC 0 0 0 (-1) 0 0 0 0 0 0 as ak ab ar gm)), (as, .inl (cI, 63, .inl (fun _ => 0))), (ak, .inl (cZ, 2, .inl (fun _ => 0))), (ab, .inl (cI, 600, .inl (fun _ => 0))), (ar, .inl (cI, 63, .inl (fun _ => 0)))] := hD
  have hP := hP.sub (ws' := [(xo, .inr (10, xC inp par pla dra lat his f1 f2 0 0 (-1) gx)), (inp, .inr (2, [.int 0, .int 0, .int 0, .int 0, .int 0, .int 0, .ref byt])), (mo, .inr (11, mC 0 0 0 (-1) 0 0 0 0 0 0 as ak ab ar gm))]) [0, 1, 10] rfl
  have hD := hD.sub (ws' := [(xo, .inr (10, xC inp par pla dra lat his f1 f2 0 0 (-1) gx)), (inp, .inr (2, [.int 0, .int 0, .int 0, .int 0, .int 0, .int 0, .ref byt])), (mo, .inr (11, mC 0 0 0 (-1) 0 0 0 0 0 0 as ak ab ar gm))]) [0, 1, 10] (by decide) rfl
  refine lv_aload_n hx hb dL_law_447 rfl (lv_at hl 3 rfl) ?_
  refine call_i (wr := [(mo, .inr (11, mC 0 0 0 (-1) 0 0 0 0 0 0 as ak ab ar gm))]) C (run_V (As := []) (rest := []) C (k_buffered l D cI cZ cJ xo inp par pla dra lat his f1 f2 0 0 (-1) gx byt ) cV_L_198 hP hD hS [0, 1] rfl rfl 0 rfl rfl rfl rfl hl.1 rfl (Nat.le_of_ble_eq_true rfl) dL_law_448 ⟨Nat.le_of_ble_eq_true rfl, Nat.le_of_ble_eq_true rfl⟩ ⟨Nat.le_of_ble_eq_true rfl, Nat.le_of_ble_eq_true rfl⟩) hP hD hS [0, 1] [2] rfl rfl rfl (by decide) (fun u1 H locs hP hD hS => ?_)
  have hP : va_P D CL [(mo, .inr (11, mC 0 0 0 (-1) 0 0 0 0 0 0 as ak ab ar gm)), (xo, .inr (10, xC inp par pla dra lat his f1 f2 0 0 (-1) gx)), (inp, .inr (2, [.int 0, .int 0, .int 0, .int 0, .int 0, .int 0, .ref byt]))] H := hP
  have hD : va_D A [(mo, .inr (11, mC 0 0 0 (-1) 0 0 0 0 0 0 as ak ab ar gm)), (xo, .inr (10, xC inp par pla dra lat his f1 f2 0 0 (-1) gx)), (inp, .inr (2, [.int 0, .int 0, .int 0, .int 0, .int 0, .int 0, .ref byt]))] := hD
  refine W.widen (k := 2000) (n := 60000) (Nat.le_of_ble_eq_true rfl) (Nat.le_of_ble_eq_true rfl) ?_
  refine W.eq (g2 := F0 m 451 ls [.int 0]) rfl ?_
  refine lv_aload_n hx hb dL_law_451 rfl (lv_at hl 2 rfl) ?_
  refine call_i (wr := [(xo, .inr (10, xC inp par pla dra lat his f1 f2 0 0 (-1) gx)), (inp, .inr (2, [.int 0, .int 0, .int 0, .int 0, .int 0, .int 0, .ref byt]))]) C (run_V (As := []) (rest := [.int 0]) C (m_buffered l D cI cZ cJ mo 0 0 (-1) 0 0 0 0 0 0 as ak ab ar gm 0 ) cV_L_201 hP hD hS [0] rfl rfl 0 rfl rfl rfl rfl hl.1 rfl (Nat.le_of_ble_eq_true rfl) dL_law_452 ⟨Nat.le_of_ble_eq_true rfl, Nat.le_of_ble_eq_true rfl⟩ ⟨Nat.le_of_ble_eq_true rfl, Nat.le_of_ble_eq_true rfl⟩) hP hD hS [0] [1, 2] rfl rfl rfl (by decide) (fun u2 H locs hP hD hS => ?_)
  have hP : va_P D CL [(xo, .inr (10, xC inp par pla dra lat his f1 f2 0 0 (-1) gx)), (inp, .inr (2, [.int 0, .int 0, .int 0, .int 0, .int 0, .int 0, .ref byt])), (mo, .inr (11, mC 0 0 0 (-1) 0 0 0 0 0 0 as ak ab ar gm))] H := hP
  have hD : va_D A [(xo, .inr (10, xC inp par pla dra lat his f1 f2 0 0 (-1) gx)), (inp, .inr (2, [.int 0, .int 0, .int 0, .int 0, .int 0, .int 0, .ref byt])), (mo, .inr (11, mC 0 0 0 (-1) 0 0 0 0 0 0 as ak ab ar gm))] := hD
  refine W.widen (k := 2000) (n := 60000) (Nat.le_of_ble_eq_true rfl) (Nat.le_of_ble_eq_true rfl) ?_
  refine W.eq (g2 := F0 m 455 ls [.int 0, .int 0]) rfl ?_
  refine lv_icmp_eq (tgt := 3186) hx hb dL_law_455 (by decide) (fun _ => ?_) (fun h => absurd (by decide) h)
  exact law_exit K hS (lv_sub hl [4, 0] rfl) (Nat.le_of_ble_eq_true rfl) (Nat.le_of_ble_eq_true rfl)
set_option maxHeartbeats 4000000 in
set_option maxRecDepth 100000 in
theorem law_5 {p : Program} {l : Launch} {e : Env} {s : State} {m : MethodId} {below : List Frame} {meth : Method} {c : Code} {b : Nat} {xs : Nat → Int32} {D : va_G} {cI cZ cJ : ClassId} {A : Nat → Prop} (K : LCx p l s m meth c b 6 xs D cI cZ cJ A) {xo inp byt par pla dra lat his f1 f2 mo as ak ab ar o : Nat} {gx gpl gdr gla gf1 gf2 gpa ghi gm : Nat → Value}  {H : Heap} {locs : List Loc} {ls : Array Slot} (hP : va_P D CL (LW cI cZ xo inp byt par pla dra lat his f1 f2 mo as ak ab ar gx gpl gdr gla gf1 gf2 gpa ghi gm) H) (hD : va_D A (LW cI cZ xo inp byt par pla dra lat his f1 f2 mo as ak ab ar gx gpl gdr gla gf1 gf2 gpa ghi gm)) (hS : va_S A s.heap H locs) (hl : lv_has ls 8 [(4, .int 0), (3, .ref o), (2, .ref mo), (1, .ref xo), (0, .ref b)]) : W p l e room_1 s m #[Value.ref b] below meth c H locs 2000 60000 (lw_Z below #[Value.ref b] s) (F0 m 460 ls []) := by
  obtain ⟨C, hX, hbl, hlt, hAA⟩ := id K
  have hx := C.1
  have hb := C.2.1
  have hbA : ¬ A b := fun h => absurd (hAA b h) (Nat.not_le.mpr hbl)
  have hP : va_P D CL [(xo, .inr (10, xC inp par pla dra lat his f1 f2 0 0 (-1) gx)), (inp, .inr (2, [.int 0, .int 0, .int 0, .int 0, .int 0, .int 0, .ref byt])), (byt, .inl (cI, 600, .inl (fun _ => 0))), (par, .inr (4, [.ref inp, .ref dra, gpa 2, .int 0, .int 0])), (pla, .inr (5, pC 0 0 0 gpl)), (dra, .inr (5, pC 0 0 0 gdr)), (lat, .inr (3, [.int 0, .long 0, gla 2, gla 3, gla 4])), (his, .inr (1, [.int 0, .int 0, ghi 2])), (f1, .inr (5, pC 0 0 0 gf1)), (f2, .inr (5, pC 0 0 0 gf2)), (mo, .inr (11, mC 0 0 0 (-1) 0 0 0 0 0 0 as ak ab ar gm)), (as, .inl (cI, 63, .inl (fun _ => 0))), (ak, .inl (cZ, 2, .inl (fun _ => 0))), (ab, .inl (cI, 600, .inl (fun _ => 0))), (ar, .inl (cI, 63, .inl (fun _ => 0)))] H := hP
  have hD : va_D A [(xo, .inr (10, xC inp par pla dra lat his f1 f2 0 0 (-1) gx)), (inp, .inr (2, [.int 0, .int 0, .int 0, .int 0, .int 0, .int 0, .ref byt])), (byt, .inl (cI, 600, .inl (fun _ => 0))), (par, .inr (4, [.ref inp, .ref dra, gpa 2, .int 0, .int 0])), (pla, .inr (5, pC 0 0 0 gpl)), (dra, .inr (5, pC 0 0 0 gdr)), (lat, .inr (3, [.int 0, .long 0, gla 2, gla 3, gla 4])), (his, .inr (1, [.int 0, .int 0, ghi 2])), (f1, .inr (5, pC 0 0 0 gf1)), (f2, .inr (5, pC 0 0 0 gf2)), (mo, .inr (11, mC 0 0 0 (-1) 0 0 0 0 0 0 as ak ab ar gm)), (as, .inl (cI, 63, .inl (fun _ => 0))), (ak, .inl (cZ, 2, .inl (fun _ => 0))), (ab, .inl (cI, 600, .inl (fun _ => 0))), (ar, .inl (cI, 63, .inl (fun _ => 0)))] := hD
  have hP := hP.sub (ws' := [(xo, .inr (10, xC inp par pla dra lat his f1 f2 0 0 (-1) gx)), (pla, .inr (5, pC 0 0 0 gpl)), (mo, .inr (11, mC 0 0 0 (-1) 0 0 0 0 0 0 as ak ab ar gm)), (as, .inl (cI, 63, .inl (fun _ => 0)))]) [0, 4, 10, 11] rfl
  have hD := hD.sub (ws' := [(xo, .inr (10, xC inp par pla dra lat his f1 f2 0 0 (-1) gx)), (pla, .inr (5, pC 0 0 0 gpl)), (mo, .inr (11, mC 0 0 0 (-1) 0 0 0 0 0 0 as ak ab ar gm)), (as, .inl (cI, 63, .inl (fun _ => 0)))]) [0, 4, 10, 11] (by decide) rfl
  refine lv_aload_n hx hb dL_law_460 rfl (lv_at hl 3 rfl) ?_
  refine call_i (wr := [(mo, .inr (11, mC 0 0 0 (-1) 0 0 0 0 0 0 as ak ab ar gm)), (as, .inl (cI, 63, .inl (fun _ => 0)))]) C (run_V (As := []) (rest := []) C (k_vertices l D cI cZ cJ xo inp par pla dra lat his f1 f2 0 0 (-1) gx gpl ) cV_L_202 hP hD hS [0, 1] rfl rfl 0 rfl rfl rfl rfl hl.1 rfl (Nat.le_of_ble_eq_true rfl) dL_law_461 ⟨Nat.le_of_ble_eq_true rfl, Nat.le_of_ble_eq_true rfl⟩ ⟨Nat.le_of_ble_eq_true rfl, Nat.le_of_ble_eq_true rfl⟩) hP hD hS [0, 1] [2, 3] rfl rfl rfl (by decide) (fun u1 H locs hP hD hS => ?_)
  have hP : va_P D CL [(mo, .inr (11, mC 0 0 0 (-1) 0 0 0 0 0 0 as ak ab ar gm)), (as, .inl (cI, 63, .inl (fun _ => 0))), (xo, .inr (10, xC inp par pla dra lat his f1 f2 0 0 (-1) gx)), (pla, .inr (5, pC 0 0 0 gpl))] H := hP
  have hD : va_D A [(mo, .inr (11, mC 0 0 0 (-1) 0 0 0 0 0 0 as ak ab ar gm)), (as, .inl (cI, 63, .inl (fun _ => 0))), (xo, .inr (10, xC inp par pla dra lat his f1 f2 0 0 (-1) gx)), (pla, .inr (5, pC 0 0 0 gpl))] := hD
  refine W.widen (k := 2000) (n := 60000) (Nat.le_of_ble_eq_true rfl) (Nat.le_of_ble_eq_true rfl) ?_
  refine W.eq (g2 := F0 m 464 ls [.int 0]) rfl ?_
  refine lv_aload_n hx hb dL_law_464 rfl (lv_at hl 2 rfl) ?_
  refine call_i (wr := [(xo, .inr (10, xC inp par pla dra lat his f1 f2 0 0 (-1) gx)), (pla, .inr (5, pC 0 0 0 gpl))]) C (run_V (As := []) (rest := [.int 0]) C (m_vertices l D cI cZ cJ mo 0 0 (-1) 0 0 0 0 0 0 as ak ab ar gm 0 (fun _ => 0) ) cV_L_205 hP hD hS [0, 1] rfl rfl 0 rfl rfl rfl rfl hl.1 rfl (Nat.le_of_ble_eq_true rfl) dL_law_465 ⟨Nat.le_of_ble_eq_true rfl, Nat.le_of_ble_eq_true rfl⟩ ⟨Nat.le_of_ble_eq_true rfl, Nat.le_of_ble_eq_true rfl⟩) hP hD hS [0, 1] [2, 3] rfl rfl rfl (by decide) (fun u2 H locs hP hD hS => ?_)
  have hP : va_P D CL [(xo, .inr (10, xC inp par pla dra lat his f1 f2 0 0 (-1) gx)), (pla, .inr (5, pC 0 0 0 gpl)), (as, .inl (cI, 63, .inl (fun _ => 0))), (mo, .inr (11, mC 0 0 0 (-1) 0 0 0 0 0 0 as ak ab ar gm))] H := hP
  have hD : va_D A [(xo, .inr (10, xC inp par pla dra lat his f1 f2 0 0 (-1) gx)), (pla, .inr (5, pC 0 0 0 gpl)), (as, .inl (cI, 63, .inl (fun _ => 0))), (mo, .inr (11, mC 0 0 0 (-1) 0 0 0 0 0 0 as ak ab ar gm))] := hD
  refine W.widen (k := 2000) (n := 60000) (Nat.le_of_ble_eq_true rfl) (Nat.le_of_ble_eq_true rfl) ?_
  refine W.eq (g2 := F0 m 468 ls [.int 0, .int 0]) rfl ?_
  refine lv_icmp_eq (tgt := 3186) hx hb dL_law_468 (by decide) (fun _ => ?_) (fun h => absurd (by decide) h)
  exact law_exit K hS (lv_sub hl [4, 0] rfl) (Nat.le_of_ble_eq_true rfl) (Nat.le_of_ble_eq_true rfl)
set_option maxHeartbeats 4000000 in
set_option maxRecDepth 100000 in
theorem law_6 {p : Program} {l : Launch} {e : Env} {s : State} {m : MethodId} {below : List Frame} {meth : Method} {c : Code} {b : Nat} {xs : Nat → Int32} {D : va_G} {cI cZ cJ : ClassId} {A : Nat → Prop} (K : LCx p l s m meth c b 6 xs D cI cZ cJ A) {xo inp byt par pla dra lat his f1 f2 mo as ak ab ar o : Nat} {gx gpl gdr gla gf1 gf2 gpa ghi gm : Nat → Value}  {H : Heap} {locs : List Loc} {ls : Array Slot} (hP : va_P D CL (LW cI cZ xo inp byt par pla dra lat his f1 f2 mo as ak ab ar gx gpl gdr gla gf1 gf2 gpa ghi gm) H) (hD : va_D A (LW cI cZ xo inp byt par pla dra lat his f1 f2 mo as ak ab ar gx gpl gdr gla gf1 gf2 gpa ghi gm)) (hS : va_S A s.heap H locs) (hl : lv_has ls 8 [(4, .int 0), (3, .ref o), (2, .ref mo), (1, .ref xo), (0, .ref b)]) : W p l e room_1 s m #[Value.ref b] below meth c H locs 2000 60000 (lw_Z below #[Value.ref b] s) (F0 m 473 ls []) := by
  obtain ⟨C, hX, hbl, hlt, hAA⟩ := id K
  have hx := C.1
  have hb := C.2.1
  have hbA : ¬ A b := fun h => absurd (hAA b h) (Nat.not_le.mpr hbl)
  have hP : va_P D CL [(xo, .inr (10, xC inp par pla dra lat his f1 f2 0 0 (-1) gx)), (inp, .inr (2, [.int 0, .int 0, .int 0, .int 0, .int 0, .int 0, .ref byt])), (byt, .inl (cI, 600, .inl (fun _ => 0))), (par, .inr (4, [.ref inp, .ref dra, gpa 2, .int 0, .int 0])), (pla, .inr (5, pC 0 0 0 gpl)), (dra, .inr (5, pC 0 0 0 gdr)), (lat, .inr (3, [.int 0, .long 0, gla 2, gla 3, gla 4])), (his, .inr (1, [.int 0, .int 0, ghi 2])), (f1, .inr (5, pC 0 0 0 gf1)), (f2, .inr (5, pC 0 0 0 gf2)), (mo, .inr (11, mC 0 0 0 (-1) 0 0 0 0 0 0 as ak ab ar gm)), (as, .inl (cI, 63, .inl (fun _ => 0))), (ak, .inl (cZ, 2, .inl (fun _ => 0))), (ab, .inl (cI, 600, .inl (fun _ => 0))), (ar, .inl (cI, 63, .inl (fun _ => 0)))] H := hP
  have hD : va_D A [(xo, .inr (10, xC inp par pla dra lat his f1 f2 0 0 (-1) gx)), (inp, .inr (2, [.int 0, .int 0, .int 0, .int 0, .int 0, .int 0, .ref byt])), (byt, .inl (cI, 600, .inl (fun _ => 0))), (par, .inr (4, [.ref inp, .ref dra, gpa 2, .int 0, .int 0])), (pla, .inr (5, pC 0 0 0 gpl)), (dra, .inr (5, pC 0 0 0 gdr)), (lat, .inr (3, [.int 0, .long 0, gla 2, gla 3, gla 4])), (his, .inr (1, [.int 0, .int 0, ghi 2])), (f1, .inr (5, pC 0 0 0 gf1)), (f2, .inr (5, pC 0 0 0 gf2)), (mo, .inr (11, mC 0 0 0 (-1) 0 0 0 0 0 0 as ak ab ar gm)), (as, .inl (cI, 63, .inl (fun _ => 0))), (ak, .inl (cZ, 2, .inl (fun _ => 0))), (ab, .inl (cI, 600, .inl (fun _ => 0))), (ar, .inl (cI, 63, .inl (fun _ => 0)))] := hD
  have hP := hP.sub (ws' := [(xo, .inr (10, xC inp par pla dra lat his f1 f2 0 0 (-1) gx)), (pla, .inr (5, pC 0 0 0 gpl)), (mo, .inr (11, mC 0 0 0 (-1) 0 0 0 0 0 0 as ak ab ar gm))]) [0, 4, 10] rfl
  have hD := hD.sub (ws' := [(xo, .inr (10, xC inp par pla dra lat his f1 f2 0 0 (-1) gx)), (pla, .inr (5, pC 0 0 0 gpl)), (mo, .inr (11, mC 0 0 0 (-1) 0 0 0 0 0 0 as ak ab ar gm))]) [0, 4, 10] (by decide) rfl
  refine lv_aload_n hx hb dL_law_473 rfl (lv_at hl 3 rfl) ?_
  refine lv_aload_n hx hb dL_law_474 rfl (lv_at hl 4 rfl) ?_
  refine lv_iload hx hb dL_law_475 (lv_at hl 0 rfl) ?_
  refine lv_iconst (v := 1) hx hb dL_law_477 (by decide) ?_
  refine lv_iadd hx hb dL_law_478 ?_
  refine W.eq (g2 := F0 m 479 ls [.int 1, .ref b, .ref xo]) rfl ?_
  refine va_sld hx hb hX hbl hbA hS (by unfold vp_in; decide) dL_law_479 ?_
  refine W.eq (g2 := F0 m 480 ls [.int (xs 1), .ref xo]) rfl ?_
  refine lv_aload_n hx hb dL_law_480 rfl (lv_at hl 1 rfl) ?_
  refine call_i (wr := [(mo, .inr (11, mC 0 0 0 (-1) 0 0 0 0 0 0 as ak ab ar gm))]) C (run_SW (As := [.ref xo, .int (xs 1), .ref o]) (rest := []) C (h_vertexX l hlt D cI cZ cJ xo inp par pla dra lat his f1 f2 0 0 (-1) gx gpl (xs 1) o ) cS_L_206 hP hD hS [0, 1] rfl rfl rfl hl.1 rfl (Nat.le_of_ble_eq_true rfl) dL_law_481 ⟨Nat.le_of_ble_eq_true rfl, Nat.le_of_ble_eq_true rfl⟩ ⟨Nat.le_of_ble_eq_true rfl, Nat.le_of_ble_eq_true rfl⟩) hP hD hS [0, 1] [2] rfl rfl rfl (by decide) (fun u1 H locs hP hD hS => ?_)
  have hP : va_P D CL [(mo, .inr (11, mC 0 0 0 (-1) 0 0 0 0 0 0 as ak ab ar gm)), (xo, .inr (10, xC inp par pla dra lat his f1 f2 0 0 (-1) gx)), (pla, .inr (5, pC 0 0 0 gpl))] H := hP
  have hD : va_D A [(mo, .inr (11, mC 0 0 0 (-1) 0 0 0 0 0 0 as ak ab ar gm)), (xo, .inr (10, xC inp par pla dra lat his f1 f2 0 0 (-1) gx)), (pla, .inr (5, pC 0 0 0 gpl))] := hD
  refine W.widen (k := 2001) (n := 60006) (Nat.le_of_ble_eq_true rfl) (Nat.le_of_ble_eq_true rfl) ?_
  refine W.eq (g2 := F0 m 484 ls [.int 1]) rfl ?_
  refine lv_istore (lv' := [(5, .int 1), (4, .int 0), (3, .ref o), (2, .ref mo), (1, .ref xo), (0, .ref b)]) hx hb dL_law_484 hl (by decide) rfl (fun ls hl => ?_)
  refine lv_aload_n hx hb dL_law_486 rfl (lv_at hl 3 rfl) ?_
  refine lv_aload_n hx hb dL_law_487 rfl (lv_at hl 5 rfl) ?_
  refine lv_iload hx hb dL_law_488 (lv_at hl 1 rfl) ?_
  refine lv_iconst (v := 1) hx hb dL_law_490 (by decide) ?_
  refine lv_iadd hx hb dL_law_491 ?_
  refine W.eq (g2 := F0 m 492 ls [.int 1, .ref b, .ref mo]) rfl ?_
  refine va_sld hx hb hX hbl hbA hS (by unfold vp_in; decide) dL_law_492 ?_
  refine W.eq (g2 := F0 m 493 ls [.int (xs 1), .ref mo]) rfl ?_
  refine call_i (wr := [(xo, .inr (10, xC inp par pla dra lat his f1 f2 0 0 (-1) gx)), (pla, .inr (5, pC 0 0 0 gpl))]) C (run_V (As := [.int (xs 1)]) (rest := []) C (m_vertexX l D cI cZ cJ mo 0 0 (-1) 0 0 0 0 0 0 as ak ab ar gm 0 (xs 1) ) cV_L_208 hP hD hS [0] rfl rfl 0 rfl rfl rfl rfl hl.1 rfl (Nat.le_of_ble_eq_true rfl) dL_law_493 ⟨Nat.le_of_ble_eq_true rfl, Nat.le_of_ble_eq_true rfl⟩ ⟨Nat.le_of_ble_eq_true rfl, Nat.le_of_ble_eq_true rfl⟩) hP hD hS [0] [1, 2] rfl rfl rfl (by decide) (fun u2 H locs hP hD hS => ?_)
  have hP : va_P D CL [(xo, .inr (10, xC inp par pla dra lat his f1 f2 0 0 (-1) gx)), (pla, .inr (5, pC 0 0 0 gpl)), (mo, .inr (11, mC 1 0 0 (-1) 0 0 0 0 0 0 as ak ab ar gm))] H := hP
  have hD : va_D A [(xo, .inr (10, xC inp par pla dra lat his f1 f2 0 0 (-1) gx)), (pla, .inr (5, pC 0 0 0 gpl)), (mo, .inr (11, mC 1 0 0 (-1) 0 0 0 0 0 0 as ak ab ar gm))] := hD
  refine W.widen (k := 2001) (n := 60006) (Nat.le_of_ble_eq_true rfl) (Nat.le_of_ble_eq_true rfl) ?_
  refine W.eq (g2 := F0 m 496 ls [.int 0]) rfl ?_
  refine lv_istore (lv' := [(6, .int 0), (5, .int 1), (4, .int 0), (3, .ref o), (2, .ref mo), (1, .ref xo), (0, .ref b)]) hx hb dL_law_496 hl (by decide) rfl (fun ls hl => ?_)
  refine lv_aload_n hx hb dL_law_498 rfl (lv_at hl 4 rfl) ?_
  refine call_i (wr := [(xo, .inr (10, xC inp par pla dra lat his f1 f2 0 0 (-1) gx)), (pla, .inr (5, pC 0 0 0 gpl))]) C (run_V (As := []) (rest := []) C (m_thrown l D cI cZ cJ mo 0 0 (-1) 0 0 0 0 0 0 as ak ab ar gm 1 ) cV_L_187 hP hD hS [2] rfl rfl 0 rfl rfl rfl rfl hl.1 rfl (Nat.le_of_ble_eq_true rfl) dL_law_499 ⟨Nat.le_of_ble_eq_true rfl, Nat.le_of_ble_eq_true rfl⟩ ⟨Nat.le_of_ble_eq_true rfl, Nat.le_of_ble_eq_true rfl⟩) hP hD hS [2] [0, 1] rfl rfl rfl (by decide) (fun u3 H locs hP hD hS => ?_)
  have hP : va_P D CL [(xo, .inr (10, xC inp par pla dra lat his f1 f2 0 0 (-1) gx)), (pla, .inr (5, pC 0 0 0 gpl)), (mo, .inr (11, mC 1 0 0 (-1) 0 0 0 0 0 0 as ak ab ar gm))] H := hP
  have hD : va_D A [(xo, .inr (10, xC inp par pla dra lat his f1 f2 0 0 (-1) gx)), (pla, .inr (5, pC 0 0 0 gpl)), (mo, .inr (11, mC 1 0 0 (-1) 0 0 0 0 0 0 as ak ab ar gm))] := hD
  refine W.widen (k := 2001) (n := 60006) (Nat.le_of_ble_eq_true rfl) (Nat.le_of_ble_eq_true rfl) ?_
  refine W.eq (g2 := F0 m 502 ls [.int 1]) rfl ?_
  refine lv_iload hx hb dL_law_502 (lv_at hl 1 rfl) ?_
  refine lv_icmp_eq (tgt := 509) hx hb dL_law_504 (by decide) (fun _ => ?_) (fun h => absurd (by decide) h)
  refine lv_iload hx hb dL_law_509 (lv_at hl 1 rfl) ?_
  refine lv_if_ne (tgt := 526) hx hb dL_law_511 (by decide) (fun _ => ?_) (fun h => absurd h (by decide))
  refine lv_goto (tgt := 3186) hx hb dL_law_526 (by decide) ?_
  exact law_exit K hS (lv_sub hl [6, 2] rfl) (Nat.le_of_ble_eq_true rfl) (Nat.le_of_ble_eq_true rfl)
set_option maxHeartbeats 4000000 in
set_option maxRecDepth 100000 in
theorem law_7 {p : Program} {l : Launch} {e : Env} {s : State} {m : MethodId} {below : List Frame} {meth : Method} {c : Code} {b : Nat} {xs : Nat → Int32} {D : va_G} {cI cZ cJ : ClassId} {A : Nat → Prop} (K : LCx p l s m meth c b 6 xs D cI cZ cJ A) {xo inp byt par pla dra lat his f1 f2 mo as ak ab ar o : Nat} {gx gpl gdr gla gf1 gf2 gpa ghi gm : Nat → Value}  {H : Heap} {locs : List Loc} {ls : Array Slot} (hP : va_P D CL (LW cI cZ xo inp byt par pla dra lat his f1 f2 mo as ak ab ar gx gpl gdr gla gf1 gf2 gpa ghi gm) H) (hD : va_D A (LW cI cZ xo inp byt par pla dra lat his f1 f2 mo as ak ab ar gx gpl gdr gla gf1 gf2 gpa ghi gm)) (hS : va_S A s.heap H locs) (hl : lv_has ls 8 [(4, .int 0), (3, .ref o), (2, .ref mo), (1, .ref xo), (0, .ref b)]) : W p l e room_1 s m #[Value.ref b] below meth c H locs 2000 60000 (lw_Z below #[Value.ref b] s) (F0 m 529 ls []) := by
  obtain ⟨C, hX, hbl, hlt, hAA⟩ := id K
  have hx := C.1
  have hb := C.2.1
  have hbA : ¬ A b := fun h => absurd (hAA b h) (Nat.not_le.mpr hbl)
  have hP : va_P D CL [(xo, .inr (10, xC inp par pla dra lat his f1 f2 0 0 (-1) gx)), (inp, .inr (2, [.int 0, .int 0, .int 0, .int 0, .int 0, .int 0, .ref byt])), (byt, .inl (cI, 600, .inl (fun _ => 0))), (par, .inr (4, [.ref inp, .ref dra, gpa 2, .int 0, .int 0])), (pla, .inr (5, pC 0 0 0 gpl)), (dra, .inr (5, pC 0 0 0 gdr)), (lat, .inr (3, [.int 0, .long 0, gla 2, gla 3, gla 4])), (his, .inr (1, [.int 0, .int 0, ghi 2])), (f1, .inr (5, pC 0 0 0 gf1)), (f2, .inr (5, pC 0 0 0 gf2)), (mo, .inr (11, mC 0 0 0 (-1) 0 0 0 0 0 0 as ak ab ar gm)), (as, .inl (cI, 63, .inl (fun _ => 0))), (ak, .inl (cZ, 2, .inl (fun _ => 0))), (ab, .inl (cI, 600, .inl (fun _ => 0))), (ar, .inl (cI, 63, .inl (fun _ => 0)))] H := hP
  have hD : va_D A [(xo, .inr (10, xC inp par pla dra lat his f1 f2 0 0 (-1) gx)), (inp, .inr (2, [.int 0, .int 0, .int 0, .int 0, .int 0, .int 0, .ref byt])), (byt, .inl (cI, 600, .inl (fun _ => 0))), (par, .inr (4, [.ref inp, .ref dra, gpa 2, .int 0, .int 0])), (pla, .inr (5, pC 0 0 0 gpl)), (dra, .inr (5, pC 0 0 0 gdr)), (lat, .inr (3, [.int 0, .long 0, gla 2, gla 3, gla 4])), (his, .inr (1, [.int 0, .int 0, ghi 2])), (f1, .inr (5, pC 0 0 0 gf1)), (f2, .inr (5, pC 0 0 0 gf2)), (mo, .inr (11, mC 0 0 0 (-1) 0 0 0 0 0 0 as ak ab ar gm)), (as, .inl (cI, 63, .inl (fun _ => 0))), (ak, .inl (cZ, 2, .inl (fun _ => 0))), (ab, .inl (cI, 600, .inl (fun _ => 0))), (ar, .inl (cI, 63, .inl (fun _ => 0)))] := hD
  have hP := hP.sub (ws' := [(xo, .inr (10, xC inp par pla dra lat his f1 f2 0 0 (-1) gx)), (pla, .inr (5, pC 0 0 0 gpl)), (mo, .inr (11, mC 0 0 0 (-1) 0 0 0 0 0 0 as ak ab ar gm))]) [0, 4, 10] rfl
  have hD := hD.sub (ws' := [(xo, .inr (10, xC inp par pla dra lat his f1 f2 0 0 (-1) gx)), (pla, .inr (5, pC 0 0 0 gpl)), (mo, .inr (11, mC 0 0 0 (-1) 0 0 0 0 0 0 as ak ab ar gm))]) [0, 4, 10] (by decide) rfl
  refine lv_aload_n hx hb dL_law_529 rfl (lv_at hl 3 rfl) ?_
  refine lv_aload_n hx hb dL_law_530 rfl (lv_at hl 4 rfl) ?_
  refine lv_iload hx hb dL_law_531 (lv_at hl 0 rfl) ?_
  refine lv_iconst (v := 1) hx hb dL_law_533 (by decide) ?_
  refine lv_iadd hx hb dL_law_534 ?_
  refine W.eq (g2 := F0 m 535 ls [.int 1, .ref b, .ref xo]) rfl ?_
  refine va_sld hx hb hX hbl hbA hS (by unfold vp_in; decide) dL_law_535 ?_
  refine W.eq (g2 := F0 m 536 ls [.int (xs 1), .ref xo]) rfl ?_
  refine lv_aload_n hx hb dL_law_536 rfl (lv_at hl 1 rfl) ?_
  refine call_i (wr := [(mo, .inr (11, mC 0 0 0 (-1) 0 0 0 0 0 0 as ak ab ar gm))]) C (run_SW (As := [.ref xo, .int (xs 1), .ref o]) (rest := []) C (h_vertexY l hlt D cI cZ cJ xo inp par pla dra lat his f1 f2 0 0 (-1) gx gpl (xs 1) o ) cS_L_209 hP hD hS [0, 1] rfl rfl rfl hl.1 rfl (Nat.le_of_ble_eq_true rfl) dL_law_537 ⟨Nat.le_of_ble_eq_true rfl, Nat.le_of_ble_eq_true rfl⟩ ⟨Nat.le_of_ble_eq_true rfl, Nat.le_of_ble_eq_true rfl⟩) hP hD hS [0, 1] [2] rfl rfl rfl (by decide) (fun u1 H locs hP hD hS => ?_)
  have hP : va_P D CL [(mo, .inr (11, mC 0 0 0 (-1) 0 0 0 0 0 0 as ak ab ar gm)), (xo, .inr (10, xC inp par pla dra lat his f1 f2 0 0 (-1) gx)), (pla, .inr (5, pC 0 0 0 gpl))] H := hP
  have hD : va_D A [(mo, .inr (11, mC 0 0 0 (-1) 0 0 0 0 0 0 as ak ab ar gm)), (xo, .inr (10, xC inp par pla dra lat his f1 f2 0 0 (-1) gx)), (pla, .inr (5, pC 0 0 0 gpl))] := hD
  refine W.widen (k := 2001) (n := 60006) (Nat.le_of_ble_eq_true rfl) (Nat.le_of_ble_eq_true rfl) ?_
  refine W.eq (g2 := F0 m 540 ls [.int 1]) rfl ?_
  refine lv_istore (lv' := [(5, .int 1), (4, .int 0), (3, .ref o), (2, .ref mo), (1, .ref xo), (0, .ref b)]) hx hb dL_law_540 hl (by decide) rfl (fun ls hl => ?_)
  refine lv_aload_n hx hb dL_law_542 rfl (lv_at hl 3 rfl) ?_
  refine lv_aload_n hx hb dL_law_543 rfl (lv_at hl 5 rfl) ?_
  refine lv_iload hx hb dL_law_544 (lv_at hl 1 rfl) ?_
  refine lv_iconst (v := 1) hx hb dL_law_546 (by decide) ?_
  refine lv_iadd hx hb dL_law_547 ?_
  refine W.eq (g2 := F0 m 548 ls [.int 1, .ref b, .ref mo]) rfl ?_
  refine va_sld hx hb hX hbl hbA hS (by unfold vp_in; decide) dL_law_548 ?_
  refine W.eq (g2 := F0 m 549 ls [.int (xs 1), .ref mo]) rfl ?_
  refine call_i (wr := [(xo, .inr (10, xC inp par pla dra lat his f1 f2 0 0 (-1) gx)), (pla, .inr (5, pC 0 0 0 gpl))]) C (run_V (As := [.int (xs 1)]) (rest := []) C (m_vertexY l D cI cZ cJ mo 0 0 (-1) 0 0 0 0 0 0 as ak ab ar gm 0 (xs 1) ) cV_L_211 hP hD hS [0] rfl rfl 0 rfl rfl rfl rfl hl.1 rfl (Nat.le_of_ble_eq_true rfl) dL_law_549 ⟨Nat.le_of_ble_eq_true rfl, Nat.le_of_ble_eq_true rfl⟩ ⟨Nat.le_of_ble_eq_true rfl, Nat.le_of_ble_eq_true rfl⟩) hP hD hS [0] [1, 2] rfl rfl rfl (by decide) (fun u2 H locs hP hD hS => ?_)
  have hP : va_P D CL [(xo, .inr (10, xC inp par pla dra lat his f1 f2 0 0 (-1) gx)), (pla, .inr (5, pC 0 0 0 gpl)), (mo, .inr (11, mC 1 0 0 (-1) 0 0 0 0 0 0 as ak ab ar gm))] H := hP
  have hD : va_D A [(xo, .inr (10, xC inp par pla dra lat his f1 f2 0 0 (-1) gx)), (pla, .inr (5, pC 0 0 0 gpl)), (mo, .inr (11, mC 1 0 0 (-1) 0 0 0 0 0 0 as ak ab ar gm))] := hD
  refine W.widen (k := 2001) (n := 60006) (Nat.le_of_ble_eq_true rfl) (Nat.le_of_ble_eq_true rfl) ?_
  refine W.eq (g2 := F0 m 552 ls [.int 0]) rfl ?_
  refine lv_istore (lv' := [(6, .int 0), (5, .int 1), (4, .int 0), (3, .ref o), (2, .ref mo), (1, .ref xo), (0, .ref b)]) hx hb dL_law_552 hl (by decide) rfl (fun ls hl => ?_)
  refine lv_aload_n hx hb dL_law_554 rfl (lv_at hl 4 rfl) ?_
  refine call_i (wr := [(xo, .inr (10, xC inp par pla dra lat his f1 f2 0 0 (-1) gx)), (pla, .inr (5, pC 0 0 0 gpl))]) C (run_V (As := []) (rest := []) C (m_thrown l D cI cZ cJ mo 0 0 (-1) 0 0 0 0 0 0 as ak ab ar gm 1 ) cV_L_187 hP hD hS [2] rfl rfl 0 rfl rfl rfl rfl hl.1 rfl (Nat.le_of_ble_eq_true rfl) dL_law_555 ⟨Nat.le_of_ble_eq_true rfl, Nat.le_of_ble_eq_true rfl⟩ ⟨Nat.le_of_ble_eq_true rfl, Nat.le_of_ble_eq_true rfl⟩) hP hD hS [2] [0, 1] rfl rfl rfl (by decide) (fun u3 H locs hP hD hS => ?_)
  have hP : va_P D CL [(xo, .inr (10, xC inp par pla dra lat his f1 f2 0 0 (-1) gx)), (pla, .inr (5, pC 0 0 0 gpl)), (mo, .inr (11, mC 1 0 0 (-1) 0 0 0 0 0 0 as ak ab ar gm))] H := hP
  have hD : va_D A [(xo, .inr (10, xC inp par pla dra lat his f1 f2 0 0 (-1) gx)), (pla, .inr (5, pC 0 0 0 gpl)), (mo, .inr (11, mC 1 0 0 (-1) 0 0 0 0 0 0 as ak ab ar gm))] := hD
  refine W.widen (k := 2001) (n := 60006) (Nat.le_of_ble_eq_true rfl) (Nat.le_of_ble_eq_true rfl) ?_
  refine W.eq (g2 := F0 m 558 ls [.int 1]) rfl ?_
  refine lv_iload hx hb dL_law_558 (lv_at hl 1 rfl) ?_
  refine lv_icmp_eq (tgt := 565) hx hb dL_law_560 (by decide) (fun _ => ?_) (fun h => absurd (by decide) h)
  refine lv_iload hx hb dL_law_565 (lv_at hl 1 rfl) ?_
  refine lv_if_ne (tgt := 582) hx hb dL_law_567 (by decide) (fun _ => ?_) (fun h => absurd h (by decide))
  refine lv_goto (tgt := 3186) hx hb dL_law_582 (by decide) ?_
  exact law_exit K hS (lv_sub hl [6, 2] rfl) (Nat.le_of_ble_eq_true rfl) (Nat.le_of_ble_eq_true rfl)
set_option maxHeartbeats 4000000 in
set_option maxRecDepth 100000 in
theorem law_8 {p : Program} {l : Launch} {e : Env} {s : State} {m : MethodId} {below : List Frame} {meth : Method} {c : Code} {b : Nat} {xs : Nat → Int32} {D : va_G} {cI cZ cJ : ClassId} {A : Nat → Prop} (K : LCx p l s m meth c b 6 xs D cI cZ cJ A) {xo inp byt par pla dra lat his f1 f2 mo as ak ab ar o : Nat} {gx gpl gdr gla gf1 gf2 gpa ghi gm : Nat → Value}  {H : Heap} {locs : List Loc} {ls : Array Slot} (hP : va_P D CL (LW cI cZ xo inp byt par pla dra lat his f1 f2 mo as ak ab ar gx gpl gdr gla gf1 gf2 gpa ghi gm) H) (hD : va_D A (LW cI cZ xo inp byt par pla dra lat his f1 f2 mo as ak ab ar gx gpl gdr gla gf1 gf2 gpa ghi gm)) (hS : va_S A s.heap H locs) (hl : lv_has ls 8 [(4, .int 0), (3, .ref o), (2, .ref mo), (1, .ref xo), (0, .ref b)]) : W p l e room_1 s m #[Value.ref b] below meth c H locs 2000 60000 (lw_Z below #[Value.ref b] s) (F0 m 585 ls []) := by
  obtain ⟨C, hX, hbl, hlt, hAA⟩ := id K
  have hx := C.1
  have hb := C.2.1
  have hbA : ¬ A b := fun h => absurd (hAA b h) (Nat.not_le.mpr hbl)
  have hP : va_P D CL [(xo, .inr (10, xC inp par pla dra lat his f1 f2 0 0 (-1) gx)), (inp, .inr (2, [.int 0, .int 0, .int 0, .int 0, .int 0, .int 0, .ref byt])), (byt, .inl (cI, 600, .inl (fun _ => 0))), (par, .inr (4, [.ref inp, .ref dra, gpa 2, .int 0, .int 0])), (pla, .inr (5, pC 0 0 0 gpl)), (dra, .inr (5, pC 0 0 0 gdr)), (lat, .inr (3, [.int 0, .long 0, gla 2, gla 3, gla 4])), (his, .inr (1, [.int 0, .int 0, ghi 2])), (f1, .inr (5, pC 0 0 0 gf1)), (f2, .inr (5, pC 0 0 0 gf2)), (mo, .inr (11, mC 0 0 0 (-1) 0 0 0 0 0 0 as ak ab ar gm)), (as, .inl (cI, 63, .inl (fun _ => 0))), (ak, .inl (cZ, 2, .inl (fun _ => 0))), (ab, .inl (cI, 600, .inl (fun _ => 0))), (ar, .inl (cI, 63, .inl (fun _ => 0)))] H := hP
  have hD : va_D A [(xo, .inr (10, xC inp par pla dra lat his f1 f2 0 0 (-1) gx)), (inp, .inr (2, [.int 0, .int 0, .int 0, .int 0, .int 0, .int 0, .ref byt])), (byt, .inl (cI, 600, .inl (fun _ => 0))), (par, .inr (4, [.ref inp, .ref dra, gpa 2, .int 0, .int 0])), (pla, .inr (5, pC 0 0 0 gpl)), (dra, .inr (5, pC 0 0 0 gdr)), (lat, .inr (3, [.int 0, .long 0, gla 2, gla 3, gla 4])), (his, .inr (1, [.int 0, .int 0, ghi 2])), (f1, .inr (5, pC 0 0 0 gf1)), (f2, .inr (5, pC 0 0 0 gf2)), (mo, .inr (11, mC 0 0 0 (-1) 0 0 0 0 0 0 as ak ab ar gm)), (as, .inl (cI, 63, .inl (fun _ => 0))), (ak, .inl (cZ, 2, .inl (fun _ => 0))), (ab, .inl (cI, 600, .inl (fun _ => 0))), (ar, .inl (cI, 63, .inl (fun _ => 0)))] := hD
  have hP := hP.sub (ws' := [(xo, .inr (10, xC inp par pla dra lat his f1 f2 0 0 (-1) gx)), (pla, .inr (5, pC 0 0 0 gpl)), (mo, .inr (11, mC 0 0 0 (-1) 0 0 0 0 0 0 as ak ab ar gm))]) [0, 4, 10] rfl
  have hD := hD.sub (ws' := [(xo, .inr (10, xC inp par pla dra lat his f1 f2 0 0 (-1) gx)), (pla, .inr (5, pC 0 0 0 gpl)), (mo, .inr (11, mC 0 0 0 (-1) 0 0 0 0 0 0 as ak ab ar gm))]) [0, 4, 10] (by decide) rfl
  refine lv_aload_n hx hb dL_law_585 rfl (lv_at hl 3 rfl) ?_
  refine lv_aload_n hx hb dL_law_586 rfl (lv_at hl 1 rfl) ?_
  refine call_i (wr := [(mo, .inr (11, mC 0 0 0 (-1) 0 0 0 0 0 0 as ak ab ar gm))]) C (run_SW (As := [.ref xo, .ref o]) (rest := []) C (h_doubleArea l hlt D cI cZ cJ xo inp par pla dra lat his f1 f2 0 0 (-1) gx gpl o ) cS_L_212 hP hD hS [0, 1] rfl rfl rfl hl.1 rfl (Nat.le_of_ble_eq_true rfl) dL_law_587 ⟨Nat.le_of_ble_eq_true rfl, Nat.le_of_ble_eq_true rfl⟩ ⟨Nat.le_of_ble_eq_true rfl, Nat.le_of_ble_eq_true rfl⟩) hP hD hS [0, 1] [2] rfl rfl rfl (by decide) (fun u1 H locs hP hD hS => ?_)
  have hP : va_P D CL [(mo, .inr (11, mC 0 0 0 (-1) 0 0 0 0 0 0 as ak ab ar gm)), (xo, .inr (10, xC inp par pla dra lat his f1 f2 0 0 (-1) gx)), (pla, .inr (5, pC 0 0 0 gpl))] H := hP
  have hD : va_D A [(mo, .inr (11, mC 0 0 0 (-1) 0 0 0 0 0 0 as ak ab ar gm)), (xo, .inr (10, xC inp par pla dra lat his f1 f2 0 0 (-1) gx)), (pla, .inr (5, pC 0 0 0 gpl))] := hD
  refine W.widen (k := 2001) (n := 60006) (Nat.le_of_ble_eq_true rfl) (Nat.le_of_ble_eq_true rfl) ?_
  refine W.eq (g2 := F0 m 590 ls [.int 1]) rfl ?_
  refine lv_istore (lv' := [(5, .int 1), (4, .int 0), (3, .ref o), (2, .ref mo), (1, .ref xo), (0, .ref b)]) hx hb dL_law_590 hl (by decide) rfl (fun ls hl => ?_)
  refine lv_aload_n hx hb dL_law_592 rfl (lv_at hl 3 rfl) ?_
  refine call_i (wr := [(xo, .inr (10, xC inp par pla dra lat his f1 f2 0 0 (-1) gx)), (pla, .inr (5, pC 0 0 0 gpl))]) C (run_V (As := []) (rest := []) C (m_doubleArea l D cI cZ cJ mo 0 0 (-1) 0 0 0 0 0 0 as ak ab ar gm 0 ) cV_L_215 hP hD hS [0] rfl rfl 0 rfl rfl rfl rfl hl.1 rfl (Nat.le_of_ble_eq_true rfl) dL_law_593 ⟨Nat.le_of_ble_eq_true rfl, Nat.le_of_ble_eq_true rfl⟩ ⟨Nat.le_of_ble_eq_true rfl, Nat.le_of_ble_eq_true rfl⟩) hP hD hS [0] [1, 2] rfl rfl rfl (by decide) (fun u2 H locs hP hD hS => ?_)
  have hP : va_P D CL [(xo, .inr (10, xC inp par pla dra lat his f1 f2 0 0 (-1) gx)), (pla, .inr (5, pC 0 0 0 gpl)), (mo, .inr (11, mC 1 0 0 (-1) 0 0 0 0 0 0 as ak ab ar gm))] H := hP
  have hD : va_D A [(xo, .inr (10, xC inp par pla dra lat his f1 f2 0 0 (-1) gx)), (pla, .inr (5, pC 0 0 0 gpl)), (mo, .inr (11, mC 1 0 0 (-1) 0 0 0 0 0 0 as ak ab ar gm))] := hD
  refine W.widen (k := 2001) (n := 60006) (Nat.le_of_ble_eq_true rfl) (Nat.le_of_ble_eq_true rfl) ?_
  refine W.eq (g2 := F0 m 596 ls [.int 0]) rfl ?_
  refine lv_istore (lv' := [(6, .int 0), (5, .int 1), (4, .int 0), (3, .ref o), (2, .ref mo), (1, .ref xo), (0, .ref b)]) hx hb dL_law_596 hl (by decide) rfl (fun ls hl => ?_)
  refine lv_aload_n hx hb dL_law_598 rfl (lv_at hl 4 rfl) ?_
  refine call_i (wr := [(xo, .inr (10, xC inp par pla dra lat his f1 f2 0 0 (-1) gx)), (pla, .inr (5, pC 0 0 0 gpl))]) C (run_V (As := []) (rest := []) C (m_thrown l D cI cZ cJ mo 0 0 (-1) 0 0 0 0 0 0 as ak ab ar gm 1 ) cV_L_187 hP hD hS [2] rfl rfl 0 rfl rfl rfl rfl hl.1 rfl (Nat.le_of_ble_eq_true rfl) dL_law_599 ⟨Nat.le_of_ble_eq_true rfl, Nat.le_of_ble_eq_true rfl⟩ ⟨Nat.le_of_ble_eq_true rfl, Nat.le_of_ble_eq_true rfl⟩) hP hD hS [2] [0, 1] rfl rfl rfl (by decide) (fun u3 H locs hP hD hS => ?_)
  have hP : va_P D CL [(xo, .inr (10, xC inp par pla dra lat his f1 f2 0 0 (-1) gx)), (pla, .inr (5, pC 0 0 0 gpl)), (mo, .inr (11, mC 1 0 0 (-1) 0 0 0 0 0 0 as ak ab ar gm))] H := hP
  have hD : va_D A [(xo, .inr (10, xC inp par pla dra lat his f1 f2 0 0 (-1) gx)), (pla, .inr (5, pC 0 0 0 gpl)), (mo, .inr (11, mC 1 0 0 (-1) 0 0 0 0 0 0 as ak ab ar gm))] := hD
  refine W.widen (k := 2001) (n := 60006) (Nat.le_of_ble_eq_true rfl) (Nat.le_of_ble_eq_true rfl) ?_
  refine W.eq (g2 := F0 m 602 ls [.int 1]) rfl ?_
  refine lv_iload hx hb dL_law_602 (lv_at hl 1 rfl) ?_
  refine lv_icmp_eq (tgt := 609) hx hb dL_law_604 (by decide) (fun _ => ?_) (fun h => absurd (by decide) h)
  refine lv_iload hx hb dL_law_609 (lv_at hl 1 rfl) ?_
  refine lv_if_ne (tgt := 626) hx hb dL_law_611 (by decide) (fun _ => ?_) (fun h => absurd h (by decide))
  refine lv_goto (tgt := 3186) hx hb dL_law_626 (by decide) ?_
  exact law_exit K hS (lv_sub hl [6, 2] rfl) (Nat.le_of_ble_eq_true rfl) (Nat.le_of_ble_eq_true rfl)
set_option maxHeartbeats 4000000 in
set_option maxRecDepth 100000 in
theorem law_9 {p : Program} {l : Launch} {e : Env} {s : State} {m : MethodId} {below : List Frame} {meth : Method} {c : Code} {b : Nat} {xs : Nat → Int32} {D : va_G} {cI cZ cJ : ClassId} {A : Nat → Prop} (K : LCx p l s m meth c b 6 xs D cI cZ cJ A) {xo inp byt par pla dra lat his f1 f2 mo as ak ab ar o : Nat} {gx gpl gdr gla gf1 gf2 gpa ghi gm : Nat → Value}  {H : Heap} {locs : List Loc} {ls : Array Slot} (hP : va_P D CL (LW cI cZ xo inp byt par pla dra lat his f1 f2 mo as ak ab ar gx gpl gdr gla gf1 gf2 gpa ghi gm) H) (hD : va_D A (LW cI cZ xo inp byt par pla dra lat his f1 f2 mo as ak ab ar gx gpl gdr gla gf1 gf2 gpa ghi gm)) (hS : va_S A s.heap H locs) (hl : lv_has ls 8 [(4, .int 0), (3, .ref o), (2, .ref mo), (1, .ref xo), (0, .ref b)]) : W p l e room_1 s m #[Value.ref b] below meth c H locs 2000 60000 (lw_Z below #[Value.ref b] s) (F0 m 629 ls []) := by
  obtain ⟨C, hX, hbl, hlt, hAA⟩ := id K
  have hx := C.1
  have hb := C.2.1
  have hbA : ¬ A b := fun h => absurd (hAA b h) (Nat.not_le.mpr hbl)
  have hP : va_P D CL [(xo, .inr (10, xC inp par pla dra lat his f1 f2 0 0 (-1) gx)), (inp, .inr (2, [.int 0, .int 0, .int 0, .int 0, .int 0, .int 0, .ref byt])), (byt, .inl (cI, 600, .inl (fun _ => 0))), (par, .inr (4, [.ref inp, .ref dra, gpa 2, .int 0, .int 0])), (pla, .inr (5, pC 0 0 0 gpl)), (dra, .inr (5, pC 0 0 0 gdr)), (lat, .inr (3, [.int 0, .long 0, gla 2, gla 3, gla 4])), (his, .inr (1, [.int 0, .int 0, ghi 2])), (f1, .inr (5, pC 0 0 0 gf1)), (f2, .inr (5, pC 0 0 0 gf2)), (mo, .inr (11, mC 0 0 0 (-1) 0 0 0 0 0 0 as ak ab ar gm)), (as, .inl (cI, 63, .inl (fun _ => 0))), (ak, .inl (cZ, 2, .inl (fun _ => 0))), (ab, .inl (cI, 600, .inl (fun _ => 0))), (ar, .inl (cI, 63, .inl (fun _ => 0)))] H := hP
  have hD : va_D A [(xo, .inr (10, xC inp par pla dra lat his f1 f2 0 0 (-1) gx)), (inp, .inr (2, [.int 0, .int 0, .int 0, .int 0, .int 0, .int 0, .ref byt])), (byt, .inl (cI, 600, .inl (fun _ => 0))), (par, .inr (4, [.ref inp, .ref dra, gpa 2, .int 0, .int 0])), (pla, .inr (5, pC 0 0 0 gpl)), (dra, .inr (5, pC 0 0 0 gdr)), (lat, .inr (3, [.int 0, .long 0, gla 2, gla 3, gla 4])), (his, .inr (1, [.int 0, .int 0, ghi 2])), (f1, .inr (5, pC 0 0 0 gf1)), (f2, .inr (5, pC 0 0 0 gf2)), (mo, .inr (11, mC 0 0 0 (-1) 0 0 0 0 0 0 as ak ab ar gm)), (as, .inl (cI, 63, .inl (fun _ => 0))), (ak, .inl (cZ, 2, .inl (fun _ => 0))), (ab, .inl (cI, 600, .inl (fun _ => 0))), (ar, .inl (cI, 63, .inl (fun _ => 0)))] := hD
  have hP := hP.sub (ws' := [(xo, .inr (10, xC inp par pla dra lat his f1 f2 0 0 (-1) gx)), (pla, .inr (5, pC 0 0 0 gpl)), (mo, .inr (11, mC 0 0 0 (-1) 0 0 0 0 0 0 as ak ab ar gm))]) [0, 4, 10] rfl
  have hD := hD.sub (ws' := [(xo, .inr (10, xC inp par pla dra lat his f1 f2 0 0 (-1) gx)), (pla, .inr (5, pC 0 0 0 gpl)), (mo, .inr (11, mC 0 0 0 (-1) 0 0 0 0 0 0 as ak ab ar gm))]) [0, 4, 10] (by decide) rfl
  refine lv_aload_n hx hb dL_law_629 rfl (lv_at hl 3 rfl) ?_
  refine lv_aload_n hx hb dL_law_630 rfl (lv_at hl 1 rfl) ?_
  refine call_i (wr := [(mo, .inr (11, mC 0 0 0 (-1) 0 0 0 0 0 0 as ak ab ar gm))]) C (run_SW (As := [.ref xo, .ref o]) (rest := []) C (h_reflexVertices l hlt D cI cZ cJ xo inp par pla dra lat his f1 f2 0 0 (-1) gx gpl o ) cS_L_216 hP hD hS [0, 1] rfl rfl rfl hl.1 rfl (Nat.le_of_ble_eq_true rfl) dL_law_631 ⟨Nat.le_of_ble_eq_true rfl, Nat.le_of_ble_eq_true rfl⟩ ⟨Nat.le_of_ble_eq_true rfl, Nat.le_of_ble_eq_true rfl⟩) hP hD hS [0, 1] [2] rfl rfl rfl (by decide) (fun u1 H locs hP hD hS => ?_)
  have hP : va_P D CL [(mo, .inr (11, mC 0 0 0 (-1) 0 0 0 0 0 0 as ak ab ar gm)), (xo, .inr (10, xC inp par pla dra lat his f1 f2 0 0 (-1) gx)), (pla, .inr (5, pC 0 0 0 gpl))] H := hP
  have hD : va_D A [(mo, .inr (11, mC 0 0 0 (-1) 0 0 0 0 0 0 as ak ab ar gm)), (xo, .inr (10, xC inp par pla dra lat his f1 f2 0 0 (-1) gx)), (pla, .inr (5, pC 0 0 0 gpl))] := hD
  refine W.widen (k := 2001) (n := 60006) (Nat.le_of_ble_eq_true rfl) (Nat.le_of_ble_eq_true rfl) ?_
  refine W.eq (g2 := F0 m 634 ls [.int 1]) rfl ?_
  refine lv_istore (lv' := [(5, .int 1), (4, .int 0), (3, .ref o), (2, .ref mo), (1, .ref xo), (0, .ref b)]) hx hb dL_law_634 hl (by decide) rfl (fun ls hl => ?_)
  refine lv_aload_n hx hb dL_law_636 rfl (lv_at hl 3 rfl) ?_
  refine call_i (wr := [(xo, .inr (10, xC inp par pla dra lat his f1 f2 0 0 (-1) gx)), (pla, .inr (5, pC 0 0 0 gpl))]) C (run_V (As := []) (rest := []) C (m_reflexVertices l D cI cZ cJ mo 0 0 (-1) 0 0 0 0 0 0 as ak ab ar gm 0 ) cV_L_218 hP hD hS [0] rfl rfl 0 rfl rfl rfl rfl hl.1 rfl (Nat.le_of_ble_eq_true rfl) dL_law_637 ⟨Nat.le_of_ble_eq_true rfl, Nat.le_of_ble_eq_true rfl⟩ ⟨Nat.le_of_ble_eq_true rfl, Nat.le_of_ble_eq_true rfl⟩) hP hD hS [0] [1, 2] rfl rfl rfl (by decide) (fun u2 H locs hP hD hS => ?_)
  have hP : va_P D CL [(xo, .inr (10, xC inp par pla dra lat his f1 f2 0 0 (-1) gx)), (pla, .inr (5, pC 0 0 0 gpl)), (mo, .inr (11, mC 1 0 0 (-1) 0 0 0 0 0 0 as ak ab ar gm))] H := hP
  have hD : va_D A [(xo, .inr (10, xC inp par pla dra lat his f1 f2 0 0 (-1) gx)), (pla, .inr (5, pC 0 0 0 gpl)), (mo, .inr (11, mC 1 0 0 (-1) 0 0 0 0 0 0 as ak ab ar gm))] := hD
  refine W.widen (k := 2001) (n := 60006) (Nat.le_of_ble_eq_true rfl) (Nat.le_of_ble_eq_true rfl) ?_
  refine W.eq (g2 := F0 m 640 ls [.int 0]) rfl ?_
  refine lv_istore (lv' := [(6, .int 0), (5, .int 1), (4, .int 0), (3, .ref o), (2, .ref mo), (1, .ref xo), (0, .ref b)]) hx hb dL_law_640 hl (by decide) rfl (fun ls hl => ?_)
  refine lv_aload_n hx hb dL_law_642 rfl (lv_at hl 4 rfl) ?_
  refine call_i (wr := [(xo, .inr (10, xC inp par pla dra lat his f1 f2 0 0 (-1) gx)), (pla, .inr (5, pC 0 0 0 gpl))]) C (run_V (As := []) (rest := []) C (m_thrown l D cI cZ cJ mo 0 0 (-1) 0 0 0 0 0 0 as ak ab ar gm 1 ) cV_L_187 hP hD hS [2] rfl rfl 0 rfl rfl rfl rfl hl.1 rfl (Nat.le_of_ble_eq_true rfl) dL_law_643 ⟨Nat.le_of_ble_eq_true rfl, Nat.le_of_ble_eq_true rfl⟩ ⟨Nat.le_of_ble_eq_true rfl, Nat.le_of_ble_eq_true rfl⟩) hP hD hS [2] [0, 1] rfl rfl rfl (by decide) (fun u3 H locs hP hD hS => ?_)
  have hP : va_P D CL [(xo, .inr (10, xC inp par pla dra lat his f1 f2 0 0 (-1) gx)), (pla, .inr (5, pC 0 0 0 gpl)), (mo, .inr (11, mC 1 0 0 (-1) 0 0 0 0 0 0 as ak ab ar gm))] H := hP
  have hD : va_D A [(xo, .inr (10, xC inp par pla dra lat his f1 f2 0 0 (-1) gx)), (pla, .inr (5, pC 0 0 0 gpl)), (mo, .inr (11, mC 1 0 0 (-1) 0 0 0 0 0 0 as ak ab ar gm))] := hD
  refine W.widen (k := 2001) (n := 60006) (Nat.le_of_ble_eq_true rfl) (Nat.le_of_ble_eq_true rfl) ?_
  refine W.eq (g2 := F0 m 646 ls [.int 1]) rfl ?_
  refine lv_iload hx hb dL_law_646 (lv_at hl 1 rfl) ?_
  refine lv_icmp_eq (tgt := 653) hx hb dL_law_648 (by decide) (fun _ => ?_) (fun h => absurd (by decide) h)
  refine lv_iload hx hb dL_law_653 (lv_at hl 1 rfl) ?_
  refine lv_if_ne (tgt := 670) hx hb dL_law_655 (by decide) (fun _ => ?_) (fun h => absurd h (by decide))
  refine lv_goto (tgt := 3186) hx hb dL_law_670 (by decide) ?_
  exact law_exit K hS (lv_sub hl [6, 2] rfl) (Nat.le_of_ble_eq_true rfl) (Nat.le_of_ble_eq_true rfl)
set_option maxHeartbeats 4000000 in
set_option maxRecDepth 100000 in
theorem law_10 {p : Program} {l : Launch} {e : Env} {s : State} {m : MethodId} {below : List Frame} {meth : Method} {c : Code} {b : Nat} {xs : Nat → Int32} {D : va_G} {cI cZ cJ : ClassId} {A : Nat → Prop} (K : LCx p l s m meth c b 6 xs D cI cZ cJ A) {xo inp byt par pla dra lat his f1 f2 mo as ak ab ar o : Nat} {gx gpl gdr gla gf1 gf2 gpa ghi gm : Nat → Value}  {H : Heap} {locs : List Loc} {ls : Array Slot} (hP : va_P D CL (LW cI cZ xo inp byt par pla dra lat his f1 f2 mo as ak ab ar gx gpl gdr gla gf1 gf2 gpa ghi gm) H) (hD : va_D A (LW cI cZ xo inp byt par pla dra lat his f1 f2 mo as ak ab ar gx gpl gdr gla gf1 gf2 gpa ghi gm)) (hS : va_S A s.heap H locs) (hl : lv_has ls 8 [(4, .int 0), (3, .ref o), (2, .ref mo), (1, .ref xo), (0, .ref b)]) : W p l e room_1 s m #[Value.ref b] below meth c H locs 2000 60000 (lw_Z below #[Value.ref b] s) (F0 m 673 ls []) := by
  obtain ⟨C, hX, hbl, hlt, hAA⟩ := id K
  have hx := C.1
  have hb := C.2.1
  have hbA : ¬ A b := fun h => absurd (hAA b h) (Nat.not_le.mpr hbl)
  have hP : va_P D CL [(xo, .inr (10, xC inp par pla dra lat his f1 f2 0 0 (-1) gx)), (inp, .inr (2, [.int 0, .int 0, .int 0, .int 0, .int 0, .int 0, .ref byt])), (byt, .inl (cI, 600, .inl (fun _ => 0))), (par, .inr (4, [.ref inp, .ref dra, gpa 2, .int 0, .int 0])), (pla, .inr (5, pC 0 0 0 gpl)), (dra, .inr (5, pC 0 0 0 gdr)), (lat, .inr (3, [.int 0, .long 0, gla 2, gla 3, gla 4])), (his, .inr (1, [.int 0, .int 0, ghi 2])), (f1, .inr (5, pC 0 0 0 gf1)), (f2, .inr (5, pC 0 0 0 gf2)), (mo, .inr (11, mC 0 0 0 (-1) 0 0 0 0 0 0 as ak ab ar gm)), (as, .inl (cI, 63, .inl (fun _ => 0))), (ak, .inl (cZ, 2, .inl (fun _ => 0))), (ab, .inl (cI, 600, .inl (fun _ => 0))), (ar, .inl (cI, 63, .inl (fun _ => 0)))] H := hP
  have hD : va_D A [(xo, .inr (10, xC inp par pla dra lat his f1 f2 0 0 (-1) gx)), (inp, .inr (2, [.int 0, .int 0, .int 0, .int 0, .int 0, .int 0, .ref byt])), (byt, .inl (cI, 600, .inl (fun _ => 0))), (par, .inr (4, [.ref inp, .ref dra, gpa 2, .int 0, .int 0])), (pla, .inr (5, pC 0 0 0 gpl)), (dra, .inr (5, pC 0 0 0 gdr)), (lat, .inr (3, [.int 0, .long 0, gla 2, gla 3, gla 4])), (his, .inr (1, [.int 0, .int 0, ghi 2])), (f1, .inr (5, pC 0 0 0 gf1)), (f2, .inr (5, pC 0 0 0 gf2)), (mo, .inr (11, mC 0 0 0 (-1) 0 0 0 0 0 0 as ak ab ar gm)), (as, .inl (cI, 63, .inl (fun _ => 0))), (ak, .inl (cZ, 2, .inl (fun _ => 0))), (ab, .inl (cI, 600, .inl (fun _ => 0))), (ar, .inl (cI, 63, .inl (fun _ => 0)))] := hD
  have hP := hP.sub (ws' := [(xo, .inr (10, xC inp par pla dra lat his f1 f2 0 0 (-1) gx)), (lat, .inr (3, [.int 0, .long 0, gla 2, gla 3, gla 4])), (mo, .inr (11, mC 0 0 0 (-1) 0 0 0 0 0 0 as ak ab ar gm))]) [0, 6, 10] rfl
  have hD := hD.sub (ws' := [(xo, .inr (10, xC inp par pla dra lat his f1 f2 0 0 (-1) gx)), (lat, .inr (3, [.int 0, .long 0, gla 2, gla 3, gla 4])), (mo, .inr (11, mC 0 0 0 (-1) 0 0 0 0 0 0 as ak ab ar gm))]) [0, 6, 10] (by decide) rfl
  refine lv_aload_n hx hb dL_law_673 rfl (lv_at hl 3 rfl) ?_
  refine call_i (wr := [(mo, .inr (11, mC 0 0 0 (-1) 0 0 0 0 0 0 as ak ab ar gm))]) C (run_V (As := []) (rest := []) C (k_points l D cI cZ cJ xo inp par pla dra lat his f1 f2 0 0 (-1) gx gla ) cV_L_219 hP hD hS [0, 1] rfl rfl 0 rfl rfl rfl rfl hl.1 rfl (Nat.le_of_ble_eq_true rfl) dL_law_674 ⟨Nat.le_of_ble_eq_true rfl, Nat.le_of_ble_eq_true rfl⟩ ⟨Nat.le_of_ble_eq_true rfl, Nat.le_of_ble_eq_true rfl⟩) hP hD hS [0, 1] [2] rfl rfl rfl (by decide) (fun u1 H locs hP hD hS => ?_)
  have hP : va_P D CL [(mo, .inr (11, mC 0 0 0 (-1) 0 0 0 0 0 0 as ak ab ar gm)), (xo, .inr (10, xC inp par pla dra lat his f1 f2 0 0 (-1) gx)), (lat, .inr (3, [.int 0, .long 0, gla 2, gla 3, gla 4]))] H := hP
  have hD : va_D A [(mo, .inr (11, mC 0 0 0 (-1) 0 0 0 0 0 0 as ak ab ar gm)), (xo, .inr (10, xC inp par pla dra lat his f1 f2 0 0 (-1) gx)), (lat, .inr (3, [.int 0, .long 0, gla 2, gla 3, gla 4]))] := hD
  refine W.widen (k := 2000) (n := 60000) (Nat.le_of_ble_eq_true rfl) (Nat.le_of_ble_eq_true rfl) ?_
  refine W.eq (g2 := F0 m 677 ls [.int 0]) rfl ?_
  refine lv_aload_n hx hb dL_law_677 rfl (lv_at hl 2 rfl) ?_
  refine call_i (wr := [(xo, .inr (10, xC inp par pla dra lat his f1 f2 0 0 (-1) gx)), (lat, .inr (3, [.int 0, .long 0, gla 2, gla 3, gla 4]))]) C (run_V (As := []) (rest := [.int 0]) C (m_points l D cI cZ cJ mo 0 0 (-1) 0 0 0 0 0 0 as ak ab ar gm 0 ) cV_L_222 hP hD hS [0] rfl rfl 0 rfl rfl rfl rfl hl.1 rfl (Nat.le_of_ble_eq_true rfl) dL_law_678 ⟨Nat.le_of_ble_eq_true rfl, Nat.le_of_ble_eq_true rfl⟩ ⟨Nat.le_of_ble_eq_true rfl, Nat.le_of_ble_eq_true rfl⟩) hP hD hS [0] [1, 2] rfl rfl rfl (by decide) (fun u2 H locs hP hD hS => ?_)
  have hP : va_P D CL [(xo, .inr (10, xC inp par pla dra lat his f1 f2 0 0 (-1) gx)), (lat, .inr (3, [.int 0, .long 0, gla 2, gla 3, gla 4])), (mo, .inr (11, mC 0 0 0 (-1) 0 0 0 0 0 0 as ak ab ar gm))] H := hP
  have hD : va_D A [(xo, .inr (10, xC inp par pla dra lat his f1 f2 0 0 (-1) gx)), (lat, .inr (3, [.int 0, .long 0, gla 2, gla 3, gla 4])), (mo, .inr (11, mC 0 0 0 (-1) 0 0 0 0 0 0 as ak ab ar gm))] := hD
  refine W.widen (k := 2000) (n := 60000) (Nat.le_of_ble_eq_true rfl) (Nat.le_of_ble_eq_true rfl) ?_
  refine W.eq (g2 := F0 m 681 ls [.int 0, .int 0]) rfl ?_
  refine lv_icmp_eq (tgt := 3186) hx hb dL_law_681 (by decide) (fun _ => ?_) (fun h => absurd (by decide) h)
  exact law_exit K hS (lv_sub hl [4, 0] rfl) (Nat.le_of_ble_eq_true rfl) (Nat.le_of_ble_eq_true rfl)
set_option maxHeartbeats 4000000 in
set_option maxRecDepth 100000 in
theorem law_11 {p : Program} {l : Launch} {e : Env} {s : State} {m : MethodId} {below : List Frame} {meth : Method} {c : Code} {b : Nat} {xs : Nat → Int32} {D : va_G} {cI cZ cJ : ClassId} {A : Nat → Prop} (K : LCx p l s m meth c b 6 xs D cI cZ cJ A) {xo inp byt par pla dra lat his f1 f2 mo as ak ab ar o : Nat} {gx gpl gdr gla gf1 gf2 gpa ghi gm : Nat → Value}  {H : Heap} {locs : List Loc} {ls : Array Slot} (hP : va_P D CL (LW cI cZ xo inp byt par pla dra lat his f1 f2 mo as ak ab ar gx gpl gdr gla gf1 gf2 gpa ghi gm) H) (hD : va_D A (LW cI cZ xo inp byt par pla dra lat his f1 f2 mo as ak ab ar gx gpl gdr gla gf1 gf2 gpa ghi gm)) (hS : va_S A s.heap H locs) (hl : lv_has ls 8 [(4, .int 0), (3, .ref o), (2, .ref mo), (1, .ref xo), (0, .ref b)]) : W p l e room_1 s m #[Value.ref b] below meth c H locs 2000 60000 (lw_Z below #[Value.ref b] s) (F0 m 686 ls []) := by
  obtain ⟨C, hX, hbl, hlt, hAA⟩ := id K
  have hx := C.1
  have hb := C.2.1
  have hbA : ¬ A b := fun h => absurd (hAA b h) (Nat.not_le.mpr hbl)
  have hP : va_P D CL [(xo, .inr (10, xC inp par pla dra lat his f1 f2 0 0 (-1) gx)), (inp, .inr (2, [.int 0, .int 0, .int 0, .int 0, .int 0, .int 0, .ref byt])), (byt, .inl (cI, 600, .inl (fun _ => 0))), (par, .inr (4, [.ref inp, .ref dra, gpa 2, .int 0, .int 0])), (pla, .inr (5, pC 0 0 0 gpl)), (dra, .inr (5, pC 0 0 0 gdr)), (lat, .inr (3, [.int 0, .long 0, gla 2, gla 3, gla 4])), (his, .inr (1, [.int 0, .int 0, ghi 2])), (f1, .inr (5, pC 0 0 0 gf1)), (f2, .inr (5, pC 0 0 0 gf2)), (mo, .inr (11, mC 0 0 0 (-1) 0 0 0 0 0 0 as ak ab ar gm)), (as, .inl (cI, 63, .inl (fun _ => 0))), (ak, .inl (cZ, 2, .inl (fun _ => 0))), (ab, .inl (cI, 600, .inl (fun _ => 0))), (ar, .inl (cI, 63, .inl (fun _ => 0)))] H := hP
  have hD : va_D A [(xo, .inr (10, xC inp par pla dra lat his f1 f2 0 0 (-1) gx)), (inp, .inr (2, [.int 0, .int 0, .int 0, .int 0, .int 0, .int 0, .ref byt])), (byt, .inl (cI, 600, .inl (fun _ => 0))), (par, .inr (4, [.ref inp, .ref dra, gpa 2, .int 0, .int 0])), (pla, .inr (5, pC 0 0 0 gpl)), (dra, .inr (5, pC 0 0 0 gdr)), (lat, .inr (3, [.int 0, .long 0, gla 2, gla 3, gla 4])), (his, .inr (1, [.int 0, .int 0, ghi 2])), (f1, .inr (5, pC 0 0 0 gf1)), (f2, .inr (5, pC 0 0 0 gf2)), (mo, .inr (11, mC 0 0 0 (-1) 0 0 0 0 0 0 as ak ab ar gm)), (as, .inl (cI, 63, .inl (fun _ => 0))), (ak, .inl (cZ, 2, .inl (fun _ => 0))), (ab, .inl (cI, 600, .inl (fun _ => 0))), (ar, .inl (cI, 63, .inl (fun _ => 0)))] := hD
  have hP := hP.sub (ws' := [(xo, .inr (10, xC inp par pla dra lat his f1 f2 0 0 (-1) gx)), (pla, .inr (5, pC 0 0 0 gpl)), (mo, .inr (11, mC 0 0 0 (-1) 0 0 0 0 0 0 as ak ab ar gm))]) [0, 4, 10] rfl
  have hD := hD.sub (ws' := [(xo, .inr (10, xC inp par pla dra lat his f1 f2 0 0 (-1) gx)), (pla, .inr (5, pC 0 0 0 gpl)), (mo, .inr (11, mC 0 0 0 (-1) 0 0 0 0 0 0 as ak ab ar gm))]) [0, 4, 10] (by decide) rfl
  refine lv_aload_n hx hb dL_law_686 rfl (lv_at hl 3 rfl) ?_
  refine lv_aload_n hx hb dL_law_687 rfl (lv_at hl 4 rfl) ?_
  refine lv_iload hx hb dL_law_688 (lv_at hl 0 rfl) ?_
  refine lv_iconst (v := 1) hx hb dL_law_690 (by decide) ?_
  refine lv_iadd hx hb dL_law_691 ?_
  refine W.eq (g2 := F0 m 692 ls [.int 1, .ref b, .ref xo]) rfl ?_
  refine va_sld hx hb hX hbl hbA hS (by unfold vp_in; decide) dL_law_692 ?_
  refine W.eq (g2 := F0 m 693 ls [.int (xs 1), .ref xo]) rfl ?_
  refine lv_aload_n hx hb dL_law_693 rfl (lv_at hl 1 rfl) ?_
  refine call_i (wr := [(mo, .inr (11, mC 0 0 0 (-1) 0 0 0 0 0 0 as ak ab ar gm))]) C (run_SW (As := [.ref xo, .int (xs 1), .ref o]) (rest := []) C (h_pointX l hlt D cI cZ cJ xo inp par pla dra lat his f1 f2 0 0 (-1) gx gpl (xs 1) o ) cS_L_223 hP hD hS [0, 1] rfl rfl rfl hl.1 rfl (Nat.le_of_ble_eq_true rfl) dL_law_694 ⟨Nat.le_of_ble_eq_true rfl, Nat.le_of_ble_eq_true rfl⟩ ⟨Nat.le_of_ble_eq_true rfl, Nat.le_of_ble_eq_true rfl⟩) hP hD hS [0, 1] [2] rfl rfl rfl (by decide) (fun u1 H locs hP hD hS => ?_)
  have hP : va_P D CL [(mo, .inr (11, mC 0 0 0 (-1) 0 0 0 0 0 0 as ak ab ar gm)), (xo, .inr (10, xC inp par pla dra lat his f1 f2 0 0 (-1) gx)), (pla, .inr (5, pC 0 0 0 gpl))] H := hP
  have hD : va_D A [(mo, .inr (11, mC 0 0 0 (-1) 0 0 0 0 0 0 as ak ab ar gm)), (xo, .inr (10, xC inp par pla dra lat his f1 f2 0 0 (-1) gx)), (pla, .inr (5, pC 0 0 0 gpl))] := hD
  refine W.widen (k := 2001) (n := 60006) (Nat.le_of_ble_eq_true rfl) (Nat.le_of_ble_eq_true rfl) ?_
  refine W.eq (g2 := F0 m 697 ls [.int 1]) rfl ?_
  refine lv_istore (lv' := [(5, .int 1), (4, .int 0), (3, .ref o), (2, .ref mo), (1, .ref xo), (0, .ref b)]) hx hb dL_law_697 hl (by decide) rfl (fun ls hl => ?_)
  refine lv_aload_n hx hb dL_law_699 rfl (lv_at hl 3 rfl) ?_
  refine lv_aload_n hx hb dL_law_700 rfl (lv_at hl 5 rfl) ?_
  refine lv_iload hx hb dL_law_701 (lv_at hl 1 rfl) ?_
  refine lv_iconst (v := 1) hx hb dL_law_703 (by decide) ?_
  refine lv_iadd hx hb dL_law_704 ?_
  refine W.eq (g2 := F0 m 705 ls [.int 1, .ref b, .ref mo]) rfl ?_
  refine va_sld hx hb hX hbl hbA hS (by unfold vp_in; decide) dL_law_705 ?_
  refine W.eq (g2 := F0 m 706 ls [.int (xs 1), .ref mo]) rfl ?_
  refine call_i (wr := [(xo, .inr (10, xC inp par pla dra lat his f1 f2 0 0 (-1) gx)), (pla, .inr (5, pC 0 0 0 gpl))]) C (run_V (As := [.int (xs 1)]) (rest := []) C (m_pointX l D cI cZ cJ mo 0 0 (-1) 0 0 0 0 0 0 as ak ab ar gm 0 (xs 1) ) cV_L_225 hP hD hS [0] rfl rfl 0 rfl rfl rfl rfl hl.1 rfl (Nat.le_of_ble_eq_true rfl) dL_law_706 ⟨Nat.le_of_ble_eq_true rfl, Nat.le_of_ble_eq_true rfl⟩ ⟨Nat.le_of_ble_eq_true rfl, Nat.le_of_ble_eq_true rfl⟩) hP hD hS [0] [1, 2] rfl rfl rfl (by decide) (fun u2 H locs hP hD hS => ?_)
  have hP : va_P D CL [(xo, .inr (10, xC inp par pla dra lat his f1 f2 0 0 (-1) gx)), (pla, .inr (5, pC 0 0 0 gpl)), (mo, .inr (11, mC 1 0 0 (-1) 0 0 0 0 0 0 as ak ab ar gm))] H := hP
  have hD : va_D A [(xo, .inr (10, xC inp par pla dra lat his f1 f2 0 0 (-1) gx)), (pla, .inr (5, pC 0 0 0 gpl)), (mo, .inr (11, mC 1 0 0 (-1) 0 0 0 0 0 0 as ak ab ar gm))] := hD
  refine W.widen (k := 2001) (n := 60006) (Nat.le_of_ble_eq_true rfl) (Nat.le_of_ble_eq_true rfl) ?_
  refine W.eq (g2 := F0 m 709 ls [.int 0]) rfl ?_
  refine lv_istore (lv' := [(6, .int 0), (5, .int 1), (4, .int 0), (3, .ref o), (2, .ref mo), (1, .ref xo), (0, .ref b)]) hx hb dL_law_709 hl (by decide) rfl (fun ls hl => ?_)
  refine lv_aload_n hx hb dL_law_711 rfl (lv_at hl 4 rfl) ?_
  refine call_i (wr := [(xo, .inr (10, xC inp par pla dra lat his f1 f2 0 0 (-1) gx)), (pla, .inr (5, pC 0 0 0 gpl))]) C (run_V (As := []) (rest := []) C (m_thrown l D cI cZ cJ mo 0 0 (-1) 0 0 0 0 0 0 as ak ab ar gm 1 ) cV_L_187 hP hD hS [2] rfl rfl 0 rfl rfl rfl rfl hl.1 rfl (Nat.le_of_ble_eq_true rfl) dL_law_712 ⟨Nat.le_of_ble_eq_true rfl, Nat.le_of_ble_eq_true rfl⟩ ⟨Nat.le_of_ble_eq_true rfl, Nat.le_of_ble_eq_true rfl⟩) hP hD hS [2] [0, 1] rfl rfl rfl (by decide) (fun u3 H locs hP hD hS => ?_)
  have hP : va_P D CL [(xo, .inr (10, xC inp par pla dra lat his f1 f2 0 0 (-1) gx)), (pla, .inr (5, pC 0 0 0 gpl)), (mo, .inr (11, mC 1 0 0 (-1) 0 0 0 0 0 0 as ak ab ar gm))] H := hP
  have hD : va_D A [(xo, .inr (10, xC inp par pla dra lat his f1 f2 0 0 (-1) gx)), (pla, .inr (5, pC 0 0 0 gpl)), (mo, .inr (11, mC 1 0 0 (-1) 0 0 0 0 0 0 as ak ab ar gm))] := hD
  refine W.widen (k := 2001) (n := 60006) (Nat.le_of_ble_eq_true rfl) (Nat.le_of_ble_eq_true rfl) ?_
  refine W.eq (g2 := F0 m 715 ls [.int 1]) rfl ?_
  refine lv_iload hx hb dL_law_715 (lv_at hl 1 rfl) ?_
  refine lv_icmp_eq (tgt := 722) hx hb dL_law_717 (by decide) (fun _ => ?_) (fun h => absurd (by decide) h)
  refine lv_iload hx hb dL_law_722 (lv_at hl 1 rfl) ?_
  refine lv_if_ne (tgt := 739) hx hb dL_law_724 (by decide) (fun _ => ?_) (fun h => absurd h (by decide))
  refine lv_goto (tgt := 3186) hx hb dL_law_739 (by decide) ?_
  exact law_exit K hS (lv_sub hl [6, 2] rfl) (Nat.le_of_ble_eq_true rfl) (Nat.le_of_ble_eq_true rfl)
set_option maxHeartbeats 4000000 in
set_option maxRecDepth 100000 in
theorem law_12 {p : Program} {l : Launch} {e : Env} {s : State} {m : MethodId} {below : List Frame} {meth : Method} {c : Code} {b : Nat} {xs : Nat → Int32} {D : va_G} {cI cZ cJ : ClassId} {A : Nat → Prop} (K : LCx p l s m meth c b 6 xs D cI cZ cJ A) {xo inp byt par pla dra lat his f1 f2 mo as ak ab ar o : Nat} {gx gpl gdr gla gf1 gf2 gpa ghi gm : Nat → Value}  {H : Heap} {locs : List Loc} {ls : Array Slot} (hP : va_P D CL (LW cI cZ xo inp byt par pla dra lat his f1 f2 mo as ak ab ar gx gpl gdr gla gf1 gf2 gpa ghi gm) H) (hD : va_D A (LW cI cZ xo inp byt par pla dra lat his f1 f2 mo as ak ab ar gx gpl gdr gla gf1 gf2 gpa ghi gm)) (hS : va_S A s.heap H locs) (hl : lv_has ls 8 [(4, .int 0), (3, .ref o), (2, .ref mo), (1, .ref xo), (0, .ref b)]) : W p l e room_1 s m #[Value.ref b] below meth c H locs 2000 60000 (lw_Z below #[Value.ref b] s) (F0 m 742 ls []) := by
  obtain ⟨C, hX, hbl, hlt, hAA⟩ := id K
  have hx := C.1
  have hb := C.2.1
  have hbA : ¬ A b := fun h => absurd (hAA b h) (Nat.not_le.mpr hbl)
  have hP : va_P D CL [(xo, .inr (10, xC inp par pla dra lat his f1 f2 0 0 (-1) gx)), (inp, .inr (2, [.int 0, .int 0, .int 0, .int 0, .int 0, .int 0, .ref byt])), (byt, .inl (cI, 600, .inl (fun _ => 0))), (par, .inr (4, [.ref inp, .ref dra, gpa 2, .int 0, .int 0])), (pla, .inr (5, pC 0 0 0 gpl)), (dra, .inr (5, pC 0 0 0 gdr)), (lat, .inr (3, [.int 0, .long 0, gla 2, gla 3, gla 4])), (his, .inr (1, [.int 0, .int 0, ghi 2])), (f1, .inr (5, pC 0 0 0 gf1)), (f2, .inr (5, pC 0 0 0 gf2)), (mo, .inr (11, mC 0 0 0 (-1) 0 0 0 0 0 0 as ak ab ar gm)), (as, .inl (cI, 63, .inl (fun _ => 0))), (ak, .inl (cZ, 2, .inl (fun _ => 0))), (ab, .inl (cI, 600, .inl (fun _ => 0))), (ar, .inl (cI, 63, .inl (fun _ => 0)))] H := hP
  have hD : va_D A [(xo, .inr (10, xC inp par pla dra lat his f1 f2 0 0 (-1) gx)), (inp, .inr (2, [.int 0, .int 0, .int 0, .int 0, .int 0, .int 0, .ref byt])), (byt, .inl (cI, 600, .inl (fun _ => 0))), (par, .inr (4, [.ref inp, .ref dra, gpa 2, .int 0, .int 0])), (pla, .inr (5, pC 0 0 0 gpl)), (dra, .inr (5, pC 0 0 0 gdr)), (lat, .inr (3, [.int 0, .long 0, gla 2, gla 3, gla 4])), (his, .inr (1, [.int 0, .int 0, ghi 2])), (f1, .inr (5, pC 0 0 0 gf1)), (f2, .inr (5, pC 0 0 0 gf2)), (mo, .inr (11, mC 0 0 0 (-1) 0 0 0 0 0 0 as ak ab ar gm)), (as, .inl (cI, 63, .inl (fun _ => 0))), (ak, .inl (cZ, 2, .inl (fun _ => 0))), (ab, .inl (cI, 600, .inl (fun _ => 0))), (ar, .inl (cI, 63, .inl (fun _ => 0)))] := hD
  have hP := hP.sub (ws' := [(xo, .inr (10, xC inp par pla dra lat his f1 f2 0 0 (-1) gx)), (pla, .inr (5, pC 0 0 0 gpl)), (mo, .inr (11, mC 0 0 0 (-1) 0 0 0 0 0 0 as ak ab ar gm))]) [0, 4, 10] rfl
  have hD := hD.sub (ws' := [(xo, .inr (10, xC inp par pla dra lat his f1 f2 0 0 (-1) gx)), (pla, .inr (5, pC 0 0 0 gpl)), (mo, .inr (11, mC 0 0 0 (-1) 0 0 0 0 0 0 as ak ab ar gm))]) [0, 4, 10] (by decide) rfl
  refine lv_aload_n hx hb dL_law_742 rfl (lv_at hl 3 rfl) ?_
  refine lv_aload_n hx hb dL_law_743 rfl (lv_at hl 4 rfl) ?_
  refine lv_iload hx hb dL_law_744 (lv_at hl 0 rfl) ?_
  refine lv_iconst (v := 1) hx hb dL_law_746 (by decide) ?_
  refine lv_iadd hx hb dL_law_747 ?_
  refine W.eq (g2 := F0 m 748 ls [.int 1, .ref b, .ref xo]) rfl ?_
  refine va_sld hx hb hX hbl hbA hS (by unfold vp_in; decide) dL_law_748 ?_
  refine W.eq (g2 := F0 m 749 ls [.int (xs 1), .ref xo]) rfl ?_
  refine lv_aload_n hx hb dL_law_749 rfl (lv_at hl 1 rfl) ?_
  refine call_i (wr := [(mo, .inr (11, mC 0 0 0 (-1) 0 0 0 0 0 0 as ak ab ar gm))]) C (run_SW (As := [.ref xo, .int (xs 1), .ref o]) (rest := []) C (h_pointY l hlt D cI cZ cJ xo inp par pla dra lat his f1 f2 0 0 (-1) gx gpl (xs 1) o ) cS_L_226 hP hD hS [0, 1] rfl rfl rfl hl.1 rfl (Nat.le_of_ble_eq_true rfl) dL_law_750 ⟨Nat.le_of_ble_eq_true rfl, Nat.le_of_ble_eq_true rfl⟩ ⟨Nat.le_of_ble_eq_true rfl, Nat.le_of_ble_eq_true rfl⟩) hP hD hS [0, 1] [2] rfl rfl rfl (by decide) (fun u1 H locs hP hD hS => ?_)
  have hP : va_P D CL [(mo, .inr (11, mC 0 0 0 (-1) 0 0 0 0 0 0 as ak ab ar gm)), (xo, .inr (10, xC inp par pla dra lat his f1 f2 0 0 (-1) gx)), (pla, .inr (5, pC 0 0 0 gpl))] H := hP
  have hD : va_D A [(mo, .inr (11, mC 0 0 0 (-1) 0 0 0 0 0 0 as ak ab ar gm)), (xo, .inr (10, xC inp par pla dra lat his f1 f2 0 0 (-1) gx)), (pla, .inr (5, pC 0 0 0 gpl))] := hD
  refine W.widen (k := 2001) (n := 60006) (Nat.le_of_ble_eq_true rfl) (Nat.le_of_ble_eq_true rfl) ?_
  refine W.eq (g2 := F0 m 753 ls [.int 1]) rfl ?_
  refine lv_istore (lv' := [(5, .int 1), (4, .int 0), (3, .ref o), (2, .ref mo), (1, .ref xo), (0, .ref b)]) hx hb dL_law_753 hl (by decide) rfl (fun ls hl => ?_)
  refine lv_aload_n hx hb dL_law_755 rfl (lv_at hl 3 rfl) ?_
  refine lv_aload_n hx hb dL_law_756 rfl (lv_at hl 5 rfl) ?_
  refine lv_iload hx hb dL_law_757 (lv_at hl 1 rfl) ?_
  refine lv_iconst (v := 1) hx hb dL_law_759 (by decide) ?_
  refine lv_iadd hx hb dL_law_760 ?_
  refine W.eq (g2 := F0 m 761 ls [.int 1, .ref b, .ref mo]) rfl ?_
  refine va_sld hx hb hX hbl hbA hS (by unfold vp_in; decide) dL_law_761 ?_
  refine W.eq (g2 := F0 m 762 ls [.int (xs 1), .ref mo]) rfl ?_
  refine call_i (wr := [(xo, .inr (10, xC inp par pla dra lat his f1 f2 0 0 (-1) gx)), (pla, .inr (5, pC 0 0 0 gpl))]) C (run_V (As := [.int (xs 1)]) (rest := []) C (m_pointY l D cI cZ cJ mo 0 0 (-1) 0 0 0 0 0 0 as ak ab ar gm 0 (xs 1) ) cV_L_228 hP hD hS [0] rfl rfl 0 rfl rfl rfl rfl hl.1 rfl (Nat.le_of_ble_eq_true rfl) dL_law_762 ⟨Nat.le_of_ble_eq_true rfl, Nat.le_of_ble_eq_true rfl⟩ ⟨Nat.le_of_ble_eq_true rfl, Nat.le_of_ble_eq_true rfl⟩) hP hD hS [0] [1, 2] rfl rfl rfl (by decide) (fun u2 H locs hP hD hS => ?_)
  have hP : va_P D CL [(xo, .inr (10, xC inp par pla dra lat his f1 f2 0 0 (-1) gx)), (pla, .inr (5, pC 0 0 0 gpl)), (mo, .inr (11, mC 1 0 0 (-1) 0 0 0 0 0 0 as ak ab ar gm))] H := hP
  have hD : va_D A [(xo, .inr (10, xC inp par pla dra lat his f1 f2 0 0 (-1) gx)), (pla, .inr (5, pC 0 0 0 gpl)), (mo, .inr (11, mC 1 0 0 (-1) 0 0 0 0 0 0 as ak ab ar gm))] := hD
  refine W.widen (k := 2001) (n := 60006) (Nat.le_of_ble_eq_true rfl) (Nat.le_of_ble_eq_true rfl) ?_
  refine W.eq (g2 := F0 m 765 ls [.int 0]) rfl ?_
  refine lv_istore (lv' := [(6, .int 0), (5, .int 1), (4, .int 0), (3, .ref o), (2, .ref mo), (1, .ref xo), (0, .ref b)]) hx hb dL_law_765 hl (by decide) rfl (fun ls hl => ?_)
  refine lv_aload_n hx hb dL_law_767 rfl (lv_at hl 4 rfl) ?_
  refine call_i (wr := [(xo, .inr (10, xC inp par pla dra lat his f1 f2 0 0 (-1) gx)), (pla, .inr (5, pC 0 0 0 gpl))]) C (run_V (As := []) (rest := []) C (m_thrown l D cI cZ cJ mo 0 0 (-1) 0 0 0 0 0 0 as ak ab ar gm 1 ) cV_L_187 hP hD hS [2] rfl rfl 0 rfl rfl rfl rfl hl.1 rfl (Nat.le_of_ble_eq_true rfl) dL_law_768 ⟨Nat.le_of_ble_eq_true rfl, Nat.le_of_ble_eq_true rfl⟩ ⟨Nat.le_of_ble_eq_true rfl, Nat.le_of_ble_eq_true rfl⟩) hP hD hS [2] [0, 1] rfl rfl rfl (by decide) (fun u3 H locs hP hD hS => ?_)
  have hP : va_P D CL [(xo, .inr (10, xC inp par pla dra lat his f1 f2 0 0 (-1) gx)), (pla, .inr (5, pC 0 0 0 gpl)), (mo, .inr (11, mC 1 0 0 (-1) 0 0 0 0 0 0 as ak ab ar gm))] H := hP
  have hD : va_D A [(xo, .inr (10, xC inp par pla dra lat his f1 f2 0 0 (-1) gx)), (pla, .inr (5, pC 0 0 0 gpl)), (mo, .inr (11, mC 1 0 0 (-1) 0 0 0 0 0 0 as ak ab ar gm))] := hD
  refine W.widen (k := 2001) (n := 60006) (Nat.le_of_ble_eq_true rfl) (Nat.le_of_ble_eq_true rfl) ?_
  refine W.eq (g2 := F0 m 771 ls [.int 1]) rfl ?_
  refine lv_iload hx hb dL_law_771 (lv_at hl 1 rfl) ?_
  refine lv_icmp_eq (tgt := 778) hx hb dL_law_773 (by decide) (fun _ => ?_) (fun h => absurd (by decide) h)
  refine lv_iload hx hb dL_law_778 (lv_at hl 1 rfl) ?_
  refine lv_if_ne (tgt := 795) hx hb dL_law_780 (by decide) (fun _ => ?_) (fun h => absurd h (by decide))
  refine lv_goto (tgt := 3186) hx hb dL_law_795 (by decide) ?_
  exact law_exit K hS (lv_sub hl [6, 2] rfl) (Nat.le_of_ble_eq_true rfl) (Nat.le_of_ble_eq_true rfl)
set_option maxHeartbeats 4000000 in
set_option maxRecDepth 100000 in
theorem law_13 {p : Program} {l : Launch} {e : Env} {s : State} {m : MethodId} {below : List Frame} {meth : Method} {c : Code} {b : Nat} {xs : Nat → Int32} {D : va_G} {cI cZ cJ : ClassId} {A : Nat → Prop} (K : LCx p l s m meth c b 6 xs D cI cZ cJ A) {xo inp byt par pla dra lat his f1 f2 mo as ak ab ar o : Nat} {gx gpl gdr gla gf1 gf2 gpa ghi gm : Nat → Value}  {H : Heap} {locs : List Loc} {ls : Array Slot} (hP : va_P D CL (LW cI cZ xo inp byt par pla dra lat his f1 f2 mo as ak ab ar gx gpl gdr gla gf1 gf2 gpa ghi gm) H) (hD : va_D A (LW cI cZ xo inp byt par pla dra lat his f1 f2 mo as ak ab ar gx gpl gdr gla gf1 gf2 gpa ghi gm)) (hS : va_S A s.heap H locs) (hl : lv_has ls 8 [(4, .int 0), (3, .ref o), (2, .ref mo), (1, .ref xo), (0, .ref b)]) : W p l e room_1 s m #[Value.ref b] below meth c H locs 2000 60000 (lw_Z below #[Value.ref b] s) (F0 m 798 ls []) := by
  obtain ⟨C, hX, hbl, hlt, hAA⟩ := id K
  have hx := C.1
  have hb := C.2.1
  have hbA : ¬ A b := fun h => absurd (hAA b h) (Nat.not_le.mpr hbl)
  have hP : va_P D CL [(xo, .inr (10, xC inp par pla dra lat his f1 f2 0 0 (-1) gx)), (inp, .inr (2, [.int 0, .int 0, .int 0, .int 0, .int 0, .int 0, .ref byt])), (byt, .inl (cI, 600, .inl (fun _ => 0))), (par, .inr (4, [.ref inp, .ref dra, gpa 2, .int 0, .int 0])), (pla, .inr (5, pC 0 0 0 gpl)), (dra, .inr (5, pC 0 0 0 gdr)), (lat, .inr (3, [.int 0, .long 0, gla 2, gla 3, gla 4])), (his, .inr (1, [.int 0, .int 0, ghi 2])), (f1, .inr (5, pC 0 0 0 gf1)), (f2, .inr (5, pC 0 0 0 gf2)), (mo, .inr (11, mC 0 0 0 (-1) 0 0 0 0 0 0 as ak ab ar gm)), (as, .inl (cI, 63, .inl (fun _ => 0))), (ak, .inl (cZ, 2, .inl (fun _ => 0))), (ab, .inl (cI, 600, .inl (fun _ => 0))), (ar, .inl (cI, 63, .inl (fun _ => 0)))] H := hP
  have hD : va_D A [(xo, .inr (10, xC inp par pla dra lat his f1 f2 0 0 (-1) gx)), (inp, .inr (2, [.int 0, .int 0, .int 0, .int 0, .int 0, .int 0, .ref byt])), (byt, .inl (cI, 600, .inl (fun _ => 0))), (par, .inr (4, [.ref inp, .ref dra, gpa 2, .int 0, .int 0])), (pla, .inr (5, pC 0 0 0 gpl)), (dra, .inr (5, pC 0 0 0 gdr)), (lat, .inr (3, [.int 0, .long 0, gla 2, gla 3, gla 4])), (his, .inr (1, [.int 0, .int 0, ghi 2])), (f1, .inr (5, pC 0 0 0 gf1)), (f2, .inr (5, pC 0 0 0 gf2)), (mo, .inr (11, mC 0 0 0 (-1) 0 0 0 0 0 0 as ak ab ar gm)), (as, .inl (cI, 63, .inl (fun _ => 0))), (ak, .inl (cZ, 2, .inl (fun _ => 0))), (ab, .inl (cI, 600, .inl (fun _ => 0))), (ar, .inl (cI, 63, .inl (fun _ => 0)))] := hD
  have hP := hP.sub (ws' := [(xo, .inr (10, xC inp par pla dra lat his f1 f2 0 0 (-1) gx)), (pla, .inr (5, pC 0 0 0 gpl)), (mo, .inr (11, mC 0 0 0 (-1) 0 0 0 0 0 0 as ak ab ar gm))]) [0, 4, 10] rfl
  have hD := hD.sub (ws' := [(xo, .inr (10, xC inp par pla dra lat his f1 f2 0 0 (-1) gx)), (pla, .inr (5, pC 0 0 0 gpl)), (mo, .inr (11, mC 0 0 0 (-1) 0 0 0 0 0 0 as ak ab ar gm))]) [0, 4, 10] (by decide) rfl
  refine lv_aload_n hx hb dL_law_798 rfl (lv_at hl 3 rfl) ?_
  refine lv_aload_n hx hb dL_law_799 rfl (lv_at hl 4 rfl) ?_
  refine lv_iload hx hb dL_law_800 (lv_at hl 0 rfl) ?_
  refine lv_iconst (v := 1) hx hb dL_law_802 (by decide) ?_
  refine lv_iadd hx hb dL_law_803 ?_
  refine W.eq (g2 := F0 m 804 ls [.int 1, .ref b, .ref xo]) rfl ?_
  refine va_sld hx hb hX hbl hbA hS (by unfold vp_in; decide) dL_law_804 ?_
  refine W.eq (g2 := F0 m 805 ls [.int (xs 1), .ref xo]) rfl ?_
  refine lv_aload_n hx hb dL_law_805 rfl (lv_at hl 4 rfl) ?_
  refine lv_iload hx hb dL_law_806 (lv_at hl 0 rfl) ?_
  refine lv_iconst (v := 2) hx hb dL_law_808 (by decide) ?_
  refine lv_iadd hx hb dL_law_809 ?_
  refine W.eq (g2 := F0 m 810 ls [.int 2, .ref b, .int (xs 1), .ref xo]) rfl ?_
  refine va_sld hx hb hX hbl hbA hS (by unfold vp_in; decide) dL_law_810 ?_
  refine W.eq (g2 := F0 m 811 ls [.int (xs 2), .int (xs 1), .ref xo]) rfl ?_
  refine lv_aload_n hx hb dL_law_811 rfl (lv_at hl 1 rfl) ?_
  refine call_i (wr := [(mo, .inr (11, mC 0 0 0 (-1) 0 0 0 0 0 0 as ak ab ar gm))]) C (run_SW (As := [.ref xo, .int (xs 1), .int (xs 2), .ref o]) (rest := []) C (h_pointAt l hlt D cI cZ cJ xo inp par pla dra lat his f1 f2 0 0 (-1) gx gpl (xs 1) (xs 2) o ) cS_L_229 hP hD hS [0, 1] rfl rfl rfl hl.1 rfl (Nat.le_of_ble_eq_true rfl) dL_law_812 ⟨Nat.le_of_ble_eq_true rfl, Nat.le_of_ble_eq_true rfl⟩ ⟨Nat.le_of_ble_eq_true rfl, Nat.le_of_ble_eq_true rfl⟩) hP hD hS [0, 1] [2] rfl rfl rfl (by decide) (fun u1 H locs hP hD hS => ?_)
  have hP : va_P D CL [(mo, .inr (11, mC 0 0 0 (-1) 0 0 0 0 0 0 as ak ab ar gm)), (xo, .inr (10, xC inp par pla dra lat his f1 f2 0 0 (-1) gx)), (pla, .inr (5, pC 0 0 0 gpl))] H := hP
  have hD : va_D A [(mo, .inr (11, mC 0 0 0 (-1) 0 0 0 0 0 0 as ak ab ar gm)), (xo, .inr (10, xC inp par pla dra lat his f1 f2 0 0 (-1) gx)), (pla, .inr (5, pC 0 0 0 gpl))] := hD
  refine W.widen (k := 2001) (n := 60006) (Nat.le_of_ble_eq_true rfl) (Nat.le_of_ble_eq_true rfl) ?_
  refine W.eq (g2 := F0 m 815 ls [.int 1]) rfl ?_
  refine lv_istore (lv' := [(5, .int 1), (4, .int 0), (3, .ref o), (2, .ref mo), (1, .ref xo), (0, .ref b)]) hx hb dL_law_815 hl (by decide) rfl (fun ls hl => ?_)
  refine lv_aload_n hx hb dL_law_817 rfl (lv_at hl 3 rfl) ?_
  refine lv_aload_n hx hb dL_law_818 rfl (lv_at hl 5 rfl) ?_
  refine lv_iload hx hb dL_law_819 (lv_at hl 1 rfl) ?_
  refine lv_iconst (v := 1) hx hb dL_law_821 (by decide) ?_
  refine lv_iadd hx hb dL_law_822 ?_
  refine W.eq (g2 := F0 m 823 ls [.int 1, .ref b, .ref mo]) rfl ?_
  refine va_sld hx hb hX hbl hbA hS (by unfold vp_in; decide) dL_law_823 ?_
  refine W.eq (g2 := F0 m 824 ls [.int (xs 1), .ref mo]) rfl ?_
  refine lv_aload_n hx hb dL_law_824 rfl (lv_at hl 5 rfl) ?_
  refine lv_iload hx hb dL_law_825 (lv_at hl 1 rfl) ?_
  refine lv_iconst (v := 2) hx hb dL_law_827 (by decide) ?_
  refine lv_iadd hx hb dL_law_828 ?_
  refine W.eq (g2 := F0 m 829 ls [.int 2, .ref b, .int (xs 1), .ref mo]) rfl ?_
  refine va_sld hx hb hX hbl hbA hS (by unfold vp_in; decide) dL_law_829 ?_
  refine W.eq (g2 := F0 m 830 ls [.int (xs 2), .int (xs 1), .ref mo]) rfl ?_
  refine call_i (wr := [(xo, .inr (10, xC inp par pla dra lat his f1 f2 0 0 (-1) gx)), (pla, .inr (5, pC 0 0 0 gpl))]) C (run_V (As := [.int (xs 1), .int (xs 2)]) (rest := []) C (m_pointAt l D cI cZ cJ mo 0 0 (-1) 0 0 0 0 0 0 as ak ab ar gm 0 (xs 1) (xs 2) ) cV_L_232 hP hD hS [0] rfl rfl 0 rfl rfl rfl rfl hl.1 rfl (Nat.le_of_ble_eq_true rfl) dL_law_830 ⟨Nat.le_of_ble_eq_true rfl, Nat.le_of_ble_eq_true rfl⟩ ⟨Nat.le_of_ble_eq_true rfl, Nat.le_of_ble_eq_true rfl⟩) hP hD hS [0] [1, 2] rfl rfl rfl (by decide) (fun u2 H locs hP hD hS => ?_)
  have hP : va_P D CL [(xo, .inr (10, xC inp par pla dra lat his f1 f2 0 0 (-1) gx)), (pla, .inr (5, pC 0 0 0 gpl)), (mo, .inr (11, mC 1 0 0 (-1) 0 0 0 0 0 0 as ak ab ar gm))] H := hP
  have hD : va_D A [(xo, .inr (10, xC inp par pla dra lat his f1 f2 0 0 (-1) gx)), (pla, .inr (5, pC 0 0 0 gpl)), (mo, .inr (11, mC 1 0 0 (-1) 0 0 0 0 0 0 as ak ab ar gm))] := hD
  refine W.widen (k := 2001) (n := 60006) (Nat.le_of_ble_eq_true rfl) (Nat.le_of_ble_eq_true rfl) ?_
  refine W.eq (g2 := F0 m 833 ls [.int 0]) rfl ?_
  refine lv_istore (lv' := [(6, .int 0), (5, .int 1), (4, .int 0), (3, .ref o), (2, .ref mo), (1, .ref xo), (0, .ref b)]) hx hb dL_law_833 hl (by decide) rfl (fun ls hl => ?_)
  refine lv_aload_n hx hb dL_law_835 rfl (lv_at hl 4 rfl) ?_
  refine call_i (wr := [(xo, .inr (10, xC inp par pla dra lat his f1 f2 0 0 (-1) gx)), (pla, .inr (5, pC 0 0 0 gpl))]) C (run_V (As := []) (rest := []) C (m_thrown l D cI cZ cJ mo 0 0 (-1) 0 0 0 0 0 0 as ak ab ar gm 1 ) cV_L_187 hP hD hS [2] rfl rfl 0 rfl rfl rfl rfl hl.1 rfl (Nat.le_of_ble_eq_true rfl) dL_law_836 ⟨Nat.le_of_ble_eq_true rfl, Nat.le_of_ble_eq_true rfl⟩ ⟨Nat.le_of_ble_eq_true rfl, Nat.le_of_ble_eq_true rfl⟩) hP hD hS [2] [0, 1] rfl rfl rfl (by decide) (fun u3 H locs hP hD hS => ?_)
  have hP : va_P D CL [(xo, .inr (10, xC inp par pla dra lat his f1 f2 0 0 (-1) gx)), (pla, .inr (5, pC 0 0 0 gpl)), (mo, .inr (11, mC 1 0 0 (-1) 0 0 0 0 0 0 as ak ab ar gm))] H := hP
  have hD : va_D A [(xo, .inr (10, xC inp par pla dra lat his f1 f2 0 0 (-1) gx)), (pla, .inr (5, pC 0 0 0 gpl)), (mo, .inr (11, mC 1 0 0 (-1) 0 0 0 0 0 0 as ak ab ar gm))] := hD
  refine W.widen (k := 2001) (n := 60006) (Nat.le_of_ble_eq_true rfl) (Nat.le_of_ble_eq_true rfl) ?_
  refine W.eq (g2 := F0 m 839 ls [.int 1]) rfl ?_
  refine lv_iload hx hb dL_law_839 (lv_at hl 1 rfl) ?_
  refine lv_icmp_eq (tgt := 846) hx hb dL_law_841 (by decide) (fun _ => ?_) (fun h => absurd (by decide) h)
  refine lv_iload hx hb dL_law_846 (lv_at hl 1 rfl) ?_
  refine lv_if_ne (tgt := 863) hx hb dL_law_848 (by decide) (fun _ => ?_) (fun h => absurd h (by decide))
  refine lv_goto (tgt := 3186) hx hb dL_law_863 (by decide) ?_
  exact law_exit K hS (lv_sub hl [6, 2] rfl) (Nat.le_of_ble_eq_true rfl) (Nat.le_of_ble_eq_true rfl)
set_option maxHeartbeats 4000000 in
set_option maxRecDepth 100000 in
theorem law_14 {p : Program} {l : Launch} {e : Env} {s : State} {m : MethodId} {below : List Frame} {meth : Method} {c : Code} {b : Nat} {xs : Nat → Int32} {D : va_G} {cI cZ cJ : ClassId} {A : Nat → Prop} (K : LCx p l s m meth c b 6 xs D cI cZ cJ A) {xo inp byt par pla dra lat his f1 f2 mo as ak ab ar o : Nat} {gx gpl gdr gla gf1 gf2 gpa ghi gm : Nat → Value}  {H : Heap} {locs : List Loc} {ls : Array Slot} (hP : va_P D CL (LW cI cZ xo inp byt par pla dra lat his f1 f2 mo as ak ab ar gx gpl gdr gla gf1 gf2 gpa ghi gm) H) (hD : va_D A (LW cI cZ xo inp byt par pla dra lat his f1 f2 mo as ak ab ar gx gpl gdr gla gf1 gf2 gpa ghi gm)) (hS : va_S A s.heap H locs) (hl : lv_has ls 8 [(4, .int 0), (3, .ref o), (2, .ref mo), (1, .ref xo), (0, .ref b)]) : W p l e room_1 s m #[Value.ref b] below meth c H locs 2000 60000 (lw_Z below #[Value.ref b] s) (F0 m 866 ls []) := by
  obtain ⟨C, hX, hbl, hlt, hAA⟩ := id K
  have hx := C.1
  have hb := C.2.1
  have hbA : ¬ A b := fun h => absurd (hAA b h) (Nat.not_le.mpr hbl)
  have hP : va_P D CL [(xo, .inr (10, xC inp par pla dra lat his f1 f2 0 0 (-1) gx)), (inp, .inr (2, [.int 0, .int 0, .int 0, .int 0, .int 0, .int 0, .ref byt])), (byt, .inl (cI, 600, .inl (fun _ => 0))), (par, .inr (4, [.ref inp, .ref dra, gpa 2, .int 0, .int 0])), (pla, .inr (5, pC 0 0 0 gpl)), (dra, .inr (5, pC 0 0 0 gdr)), (lat, .inr (3, [.int 0, .long 0, gla 2, gla 3, gla 4])), (his, .inr (1, [.int 0, .int 0, ghi 2])), (f1, .inr (5, pC 0 0 0 gf1)), (f2, .inr (5, pC 0 0 0 gf2)), (mo, .inr (11, mC 0 0 0 (-1) 0 0 0 0 0 0 as ak ab ar gm)), (as, .inl (cI, 63, .inl (fun _ => 0))), (ak, .inl (cZ, 2, .inl (fun _ => 0))), (ab, .inl (cI, 600, .inl (fun _ => 0))), (ar, .inl (cI, 63, .inl (fun _ => 0)))] H := hP
  have hD : va_D A [(xo, .inr (10, xC inp par pla dra lat his f1 f2 0 0 (-1) gx)), (inp, .inr (2, [.int 0, .int 0, .int 0, .int 0, .int 0, .int 0, .ref byt])), (byt, .inl (cI, 600, .inl (fun _ => 0))), (par, .inr (4, [.ref inp, .ref dra, gpa 2, .int 0, .int 0])), (pla, .inr (5, pC 0 0 0 gpl)), (dra, .inr (5, pC 0 0 0 gdr)), (lat, .inr (3, [.int 0, .long 0, gla 2, gla 3, gla 4])), (his, .inr (1, [.int 0, .int 0, ghi 2])), (f1, .inr (5, pC 0 0 0 gf1)), (f2, .inr (5, pC 0 0 0 gf2)), (mo, .inr (11, mC 0 0 0 (-1) 0 0 0 0 0 0 as ak ab ar gm)), (as, .inl (cI, 63, .inl (fun _ => 0))), (ak, .inl (cZ, 2, .inl (fun _ => 0))), (ab, .inl (cI, 600, .inl (fun _ => 0))), (ar, .inl (cI, 63, .inl (fun _ => 0)))] := hD
  have hP := hP.sub (ws' := [(xo, .inr (10, xC inp par pla dra lat his f1 f2 0 0 (-1) gx)), (pla, .inr (5, pC 0 0 0 gpl)), (mo, .inr (11, mC 0 0 0 (-1) 0 0 0 0 0 0 as ak ab ar gm))]) [0, 4, 10] rfl
  have hD := hD.sub (ws' := [(xo, .inr (10, xC inp par pla dra lat his f1 f2 0 0 (-1) gx)), (pla, .inr (5, pC 0 0 0 gpl)), (mo, .inr (11, mC 0 0 0 (-1) 0 0 0 0 0 0 as ak ab ar gm))]) [0, 4, 10] (by decide) rfl
  refine lv_aload_n hx hb dL_law_866 rfl (lv_at hl 3 rfl) ?_
  refine lv_aload_n hx hb dL_law_867 rfl (lv_at hl 1 rfl) ?_
  refine call_i (wr := [(mo, .inr (11, mC 0 0 0 (-1) 0 0 0 0 0 0 as ak ab ar gm))]) C (run_SW (As := [.ref xo, .ref o]) (rest := []) C (h_boundary l hlt D cI cZ cJ xo inp par pla dra lat his f1 f2 0 0 (-1) gx gpl o ) cS_L_233 hP hD hS [0, 1] rfl rfl rfl hl.1 rfl (Nat.le_of_ble_eq_true rfl) dL_law_868 ⟨Nat.le_of_ble_eq_true rfl, Nat.le_of_ble_eq_true rfl⟩ ⟨Nat.le_of_ble_eq_true rfl, Nat.le_of_ble_eq_true rfl⟩) hP hD hS [0, 1] [2] rfl rfl rfl (by decide) (fun u1 H locs hP hD hS => ?_)
  have hP : va_P D CL [(mo, .inr (11, mC 0 0 0 (-1) 0 0 0 0 0 0 as ak ab ar gm)), (xo, .inr (10, xC inp par pla dra lat his f1 f2 0 0 (-1) gx)), (pla, .inr (5, pC 0 0 0 gpl))] H := hP
  have hD : va_D A [(mo, .inr (11, mC 0 0 0 (-1) 0 0 0 0 0 0 as ak ab ar gm)), (xo, .inr (10, xC inp par pla dra lat his f1 f2 0 0 (-1) gx)), (pla, .inr (5, pC 0 0 0 gpl))] := hD
  refine W.widen (k := 2001) (n := 60006) (Nat.le_of_ble_eq_true rfl) (Nat.le_of_ble_eq_true rfl) ?_
  refine W.eq (g2 := F0 m 871 ls [.int 1]) rfl ?_
  refine lv_istore (lv' := [(5, .int 1), (4, .int 0), (3, .ref o), (2, .ref mo), (1, .ref xo), (0, .ref b)]) hx hb dL_law_871 hl (by decide) rfl (fun ls hl => ?_)
  refine lv_aload_n hx hb dL_law_873 rfl (lv_at hl 3 rfl) ?_
  refine call_l (wr := [(xo, .inr (10, xC inp par pla dra lat his f1 f2 0 0 (-1) gx)), (pla, .inr (5, pC 0 0 0 gpl))]) C (run_V (As := []) (rest := []) C (m_boundary l D cI cZ cJ mo 0 0 (-1) 0 0 0 0 0 0 as ak ab ar gm 0 ) cV_L_235 hP hD hS [0] rfl rfl 0 rfl rfl rfl rfl hl.1 rfl (Nat.le_of_ble_eq_true rfl) dL_law_874 ⟨Nat.le_of_ble_eq_true rfl, Nat.le_of_ble_eq_true rfl⟩ ⟨Nat.le_of_ble_eq_true rfl, Nat.le_of_ble_eq_true rfl⟩) hP hD hS [0] [1, 2] rfl rfl rfl (by decide) (fun u2 H locs hP hD hS => ?_)
  have hP : va_P D CL [(xo, .inr (10, xC inp par pla dra lat his f1 f2 0 0 (-1) gx)), (pla, .inr (5, pC 0 0 0 gpl)), (mo, .inr (11, mC 1 0 0 (-1) 0 0 0 0 0 0 as ak ab ar gm))] H := hP
  have hD : va_D A [(xo, .inr (10, xC inp par pla dra lat his f1 f2 0 0 (-1) gx)), (pla, .inr (5, pC 0 0 0 gpl)), (mo, .inr (11, mC 1 0 0 (-1) 0 0 0 0 0 0 as ak ab ar gm))] := hD
  refine W.widen (k := 2001) (n := 60006) (Nat.le_of_ble_eq_true rfl) (Nat.le_of_ble_eq_true rfl) ?_
  refine lv_lstore (lv' := [(6, .long 0), (5, .int 1), (4, .int 0), (3, .ref o), (2, .ref mo), (1, .ref xo), (0, .ref b)]) hx hb dL_law_877 hl (by decide) rfl (fun ls hl => ?_)
  refine lv_aload_n hx hb dL_law_879 rfl (lv_at hl 4 rfl) ?_
  refine call_i (wr := [(xo, .inr (10, xC inp par pla dra lat his f1 f2 0 0 (-1) gx)), (pla, .inr (5, pC 0 0 0 gpl))]) C (run_V (As := []) (rest := []) C (m_thrown l D cI cZ cJ mo 0 0 (-1) 0 0 0 0 0 0 as ak ab ar gm 1 ) cV_L_187 hP hD hS [2] rfl rfl 0 rfl rfl rfl rfl hl.1 rfl (Nat.le_of_ble_eq_true rfl) dL_law_880 ⟨Nat.le_of_ble_eq_true rfl, Nat.le_of_ble_eq_true rfl⟩ ⟨Nat.le_of_ble_eq_true rfl, Nat.le_of_ble_eq_true rfl⟩) hP hD hS [2] [0, 1] rfl rfl rfl (by decide) (fun u3 H locs hP hD hS => ?_)
  have hP : va_P D CL [(xo, .inr (10, xC inp par pla dra lat his f1 f2 0 0 (-1) gx)), (pla, .inr (5, pC 0 0 0 gpl)), (mo, .inr (11, mC 1 0 0 (-1) 0 0 0 0 0 0 as ak ab ar gm))] H := hP
  have hD : va_D A [(xo, .inr (10, xC inp par pla dra lat his f1 f2 0 0 (-1) gx)), (pla, .inr (5, pC 0 0 0 gpl)), (mo, .inr (11, mC 1 0 0 (-1) 0 0 0 0 0 0 as ak ab ar gm))] := hD
  refine W.widen (k := 2001) (n := 60006) (Nat.le_of_ble_eq_true rfl) (Nat.le_of_ble_eq_true rfl) ?_
  refine W.eq (g2 := F0 m 883 ls [.int 1]) rfl ?_
  refine lv_iload hx hb dL_law_883 (lv_at hl 1 rfl) ?_
  refine lv_icmp_eq (tgt := 890) hx hb dL_law_885 (by decide) (fun _ => ?_) (fun h => absurd (by decide) h)
  refine lv_iload hx hb dL_law_890 (lv_at hl 1 rfl) ?_
  refine lv_if_ne (tgt := 906) hx hb dL_law_892 (by decide) (fun _ => ?_) (fun h => absurd h (by decide))
  refine lv_goto (tgt := 3186) hx hb dL_law_906 (by decide) ?_
  exact law_exit K hS (lv_sub hl [6, 2] rfl) (Nat.le_of_ble_eq_true rfl) (Nat.le_of_ble_eq_true rfl)
set_option maxHeartbeats 4000000 in
set_option maxRecDepth 100000 in
theorem law_15 {p : Program} {l : Launch} {e : Env} {s : State} {m : MethodId} {below : List Frame} {meth : Method} {c : Code} {b : Nat} {xs : Nat → Int32} {D : va_G} {cI cZ cJ : ClassId} {A : Nat → Prop} (K : LCx p l s m meth c b 6 xs D cI cZ cJ A) {xo inp byt par pla dra lat his f1 f2 mo as ak ab ar o : Nat} {gx gpl gdr gla gf1 gf2 gpa ghi gm : Nat → Value}  {H : Heap} {locs : List Loc} {ls : Array Slot} (hP : va_P D CL (LW cI cZ xo inp byt par pla dra lat his f1 f2 mo as ak ab ar gx gpl gdr gla gf1 gf2 gpa ghi gm) H) (hD : va_D A (LW cI cZ xo inp byt par pla dra lat his f1 f2 mo as ak ab ar gx gpl gdr gla gf1 gf2 gpa ghi gm)) (hS : va_S A s.heap H locs) (hl : lv_has ls 8 [(4, .int 0), (3, .ref o), (2, .ref mo), (1, .ref xo), (0, .ref b)]) : W p l e room_1 s m #[Value.ref b] below meth c H locs 2000 60000 (lw_Z below #[Value.ref b] s) (F0 m 909 ls []) := by
  obtain ⟨C, hX, hbl, hlt, hAA⟩ := id K
  have hx := C.1
  have hb := C.2.1
  have hbA : ¬ A b := fun h => absurd (hAA b h) (Nat.not_le.mpr hbl)
  have hP : va_P D CL [(xo, .inr (10, xC inp par pla dra lat his f1 f2 0 0 (-1) gx)), (inp, .inr (2, [.int 0, .int 0, .int 0, .int 0, .int 0, .int 0, .ref byt])), (byt, .inl (cI, 600, .inl (fun _ => 0))), (par, .inr (4, [.ref inp, .ref dra, gpa 2, .int 0, .int 0])), (pla, .inr (5, pC 0 0 0 gpl)), (dra, .inr (5, pC 0 0 0 gdr)), (lat, .inr (3, [.int 0, .long 0, gla 2, gla 3, gla 4])), (his, .inr (1, [.int 0, .int 0, ghi 2])), (f1, .inr (5, pC 0 0 0 gf1)), (f2, .inr (5, pC 0 0 0 gf2)), (mo, .inr (11, mC 0 0 0 (-1) 0 0 0 0 0 0 as ak ab ar gm)), (as, .inl (cI, 63, .inl (fun _ => 0))), (ak, .inl (cZ, 2, .inl (fun _ => 0))), (ab, .inl (cI, 600, .inl (fun _ => 0))), (ar, .inl (cI, 63, .inl (fun _ => 0)))] H := hP
  have hD : va_D A [(xo, .inr (10, xC inp par pla dra lat his f1 f2 0 0 (-1) gx)), (inp, .inr (2, [.int 0, .int 0, .int 0, .int 0, .int 0, .int 0, .ref byt])), (byt, .inl (cI, 600, .inl (fun _ => 0))), (par, .inr (4, [.ref inp, .ref dra, gpa 2, .int 0, .int 0])), (pla, .inr (5, pC 0 0 0 gpl)), (dra, .inr (5, pC 0 0 0 gdr)), (lat, .inr (3, [.int 0, .long 0, gla 2, gla 3, gla 4])), (his, .inr (1, [.int 0, .int 0, ghi 2])), (f1, .inr (5, pC 0 0 0 gf1)), (f2, .inr (5, pC 0 0 0 gf2)), (mo, .inr (11, mC 0 0 0 (-1) 0 0 0 0 0 0 as ak ab ar gm)), (as, .inl (cI, 63, .inl (fun _ => 0))), (ak, .inl (cZ, 2, .inl (fun _ => 0))), (ab, .inl (cI, 600, .inl (fun _ => 0))), (ar, .inl (cI, 63, .inl (fun _ => 0)))] := hD
  have hP := hP.sub (ws' := [(xo, .inr (10, xC inp par pla dra lat his f1 f2 0 0 (-1) gx)), (pla, .inr (5, pC 0 0 0 gpl)), (mo, .inr (11, mC 0 0 0 (-1) 0 0 0 0 0 0 as ak ab ar gm))]) [0, 4, 10] rfl
  have hD := hD.sub (ws' := [(xo, .inr (10, xC inp par pla dra lat his f1 f2 0 0 (-1) gx)), (pla, .inr (5, pC 0 0 0 gpl)), (mo, .inr (11, mC 0 0 0 (-1) 0 0 0 0 0 0 as ak ab ar gm))]) [0, 4, 10] (by decide) rfl
  refine lv_aload_n hx hb dL_law_909 rfl (lv_at hl 3 rfl) ?_
  refine lv_aload_n hx hb dL_law_910 rfl (lv_at hl 4 rfl) ?_
  refine lv_iload hx hb dL_law_911 (lv_at hl 0 rfl) ?_
  refine lv_iconst (v := 1) hx hb dL_law_913 (by decide) ?_
  refine lv_iadd hx hb dL_law_914 ?_
  refine W.eq (g2 := F0 m 915 ls [.int 1, .ref b, .ref xo]) rfl ?_
  refine va_sld hx hb hX hbl hbA hS (by unfold vp_in; decide) dL_law_915 ?_
  refine W.eq (g2 := F0 m 916 ls [.int (xs 1), .ref xo]) rfl ?_
  refine lv_aload_n hx hb dL_law_916 rfl (lv_at hl 4 rfl) ?_
  refine lv_iload hx hb dL_law_917 (lv_at hl 0 rfl) ?_
  refine lv_iconst (v := 2) hx hb dL_law_919 (by decide) ?_
  refine lv_iadd hx hb dL_law_920 ?_
  refine W.eq (g2 := F0 m 921 ls [.int 2, .ref b, .int (xs 1), .ref xo]) rfl ?_
  refine va_sld hx hb hX hbl hbA hS (by unfold vp_in; decide) dL_law_921 ?_
  refine W.eq (g2 := F0 m 922 ls [.int (xs 2), .int (xs 1), .ref xo]) rfl ?_
  refine lv_aload_n hx hb dL_law_922 rfl (lv_at hl 1 rfl) ?_
  refine call_i (wr := [(mo, .inr (11, mC 0 0 0 (-1) 0 0 0 0 0 0 as ak ab ar gm))]) C (run_SW (As := [.ref xo, .int (xs 1), .int (xs 2), .ref o]) (rest := []) C (h_sees l hlt D cI cZ cJ xo inp par pla dra lat his f1 f2 0 0 (-1) gx gpl (xs 1) (xs 2) o ) cS_L_236 hP hD hS [0, 1] rfl rfl rfl hl.1 rfl (Nat.le_of_ble_eq_true rfl) dL_law_923 ⟨Nat.le_of_ble_eq_true rfl, Nat.le_of_ble_eq_true rfl⟩ ⟨Nat.le_of_ble_eq_true rfl, Nat.le_of_ble_eq_true rfl⟩) hP hD hS [0, 1] [2] rfl rfl rfl (by decide) (fun u1 H locs hP hD hS => ?_)
  have hP : va_P D CL [(mo, .inr (11, mC 0 0 0 (-1) 0 0 0 0 0 0 as ak ab ar gm)), (xo, .inr (10, xC inp par pla dra lat his f1 f2 0 0 (-1) gx)), (pla, .inr (5, pC 0 0 0 gpl))] H := hP
  have hD : va_D A [(mo, .inr (11, mC 0 0 0 (-1) 0 0 0 0 0 0 as ak ab ar gm)), (xo, .inr (10, xC inp par pla dra lat his f1 f2 0 0 (-1) gx)), (pla, .inr (5, pC 0 0 0 gpl))] := hD
  refine W.widen (k := 2001) (n := 60006) (Nat.le_of_ble_eq_true rfl) (Nat.le_of_ble_eq_true rfl) ?_
  refine W.eq (g2 := F0 m 926 ls [.int 1]) rfl ?_
  refine lv_istore (lv' := [(5, .int 1), (4, .int 0), (3, .ref o), (2, .ref mo), (1, .ref xo), (0, .ref b)]) hx hb dL_law_926 hl (by decide) rfl (fun ls hl => ?_)
  refine lv_aload_n hx hb dL_law_928 rfl (lv_at hl 3 rfl) ?_
  refine lv_aload_n hx hb dL_law_929 rfl (lv_at hl 5 rfl) ?_
  refine lv_iload hx hb dL_law_930 (lv_at hl 1 rfl) ?_
  refine lv_iconst (v := 1) hx hb dL_law_932 (by decide) ?_
  refine lv_iadd hx hb dL_law_933 ?_
  refine W.eq (g2 := F0 m 934 ls [.int 1, .ref b, .ref mo]) rfl ?_
  refine va_sld hx hb hX hbl hbA hS (by unfold vp_in; decide) dL_law_934 ?_
  refine W.eq (g2 := F0 m 935 ls [.int (xs 1), .ref mo]) rfl ?_
  refine lv_aload_n hx hb dL_law_935 rfl (lv_at hl 5 rfl) ?_
  refine lv_iload hx hb dL_law_936 (lv_at hl 1 rfl) ?_
  refine lv_iconst (v := 2) hx hb dL_law_938 (by decide) ?_
  refine lv_iadd hx hb dL_law_939 ?_
  refine W.eq (g2 := F0 m 940 ls [.int 2, .ref b, .int (xs 1), .ref mo]) rfl ?_
  refine va_sld hx hb hX hbl hbA hS (by unfold vp_in; decide) dL_law_940 ?_
  refine W.eq (g2 := F0 m 941 ls [.int (xs 2), .int (xs 1), .ref mo]) rfl ?_
  refine call_i (wr := [(xo, .inr (10, xC inp par pla dra lat his f1 f2 0 0 (-1) gx)), (pla, .inr (5, pC 0 0 0 gpl))]) C (run_V (As := [.int (xs 1), .int (xs 2)]) (rest := []) C (m_sees l D cI cZ cJ mo 0 0 (-1) 0 0 0 0 0 0 as ak ab ar gm 0 (xs 1) (xs 2) ) cV_L_238 hP hD hS [0] rfl rfl 0 rfl rfl rfl rfl hl.1 rfl (Nat.le_of_ble_eq_true rfl) dL_law_941 ⟨Nat.le_of_ble_eq_true rfl, Nat.le_of_ble_eq_true rfl⟩ ⟨Nat.le_of_ble_eq_true rfl, Nat.le_of_ble_eq_true rfl⟩) hP hD hS [0] [1, 2] rfl rfl rfl (by decide) (fun u2 H locs hP hD hS => ?_)
  have hP : va_P D CL [(xo, .inr (10, xC inp par pla dra lat his f1 f2 0 0 (-1) gx)), (pla, .inr (5, pC 0 0 0 gpl)), (mo, .inr (11, mC 1 0 0 (-1) 0 0 0 0 0 0 as ak ab ar gm))] H := hP
  have hD : va_D A [(xo, .inr (10, xC inp par pla dra lat his f1 f2 0 0 (-1) gx)), (pla, .inr (5, pC 0 0 0 gpl)), (mo, .inr (11, mC 1 0 0 (-1) 0 0 0 0 0 0 as ak ab ar gm))] := hD
  refine W.widen (k := 2001) (n := 60006) (Nat.le_of_ble_eq_true rfl) (Nat.le_of_ble_eq_true rfl) ?_
  refine W.eq (g2 := F0 m 944 ls [.int 0]) rfl ?_
  refine lv_istore (lv' := [(6, .int 0), (5, .int 1), (4, .int 0), (3, .ref o), (2, .ref mo), (1, .ref xo), (0, .ref b)]) hx hb dL_law_944 hl (by decide) rfl (fun ls hl => ?_)
  refine lv_aload_n hx hb dL_law_946 rfl (lv_at hl 4 rfl) ?_
  refine call_i (wr := [(xo, .inr (10, xC inp par pla dra lat his f1 f2 0 0 (-1) gx)), (pla, .inr (5, pC 0 0 0 gpl))]) C (run_V (As := []) (rest := []) C (m_thrown l D cI cZ cJ mo 0 0 (-1) 0 0 0 0 0 0 as ak ab ar gm 1 ) cV_L_187 hP hD hS [2] rfl rfl 0 rfl rfl rfl rfl hl.1 rfl (Nat.le_of_ble_eq_true rfl) dL_law_947 ⟨Nat.le_of_ble_eq_true rfl, Nat.le_of_ble_eq_true rfl⟩ ⟨Nat.le_of_ble_eq_true rfl, Nat.le_of_ble_eq_true rfl⟩) hP hD hS [2] [0, 1] rfl rfl rfl (by decide) (fun u3 H locs hP hD hS => ?_)
  have hP : va_P D CL [(xo, .inr (10, xC inp par pla dra lat his f1 f2 0 0 (-1) gx)), (pla, .inr (5, pC 0 0 0 gpl)), (mo, .inr (11, mC 1 0 0 (-1) 0 0 0 0 0 0 as ak ab ar gm))] H := hP
  have hD : va_D A [(xo, .inr (10, xC inp par pla dra lat his f1 f2 0 0 (-1) gx)), (pla, .inr (5, pC 0 0 0 gpl)), (mo, .inr (11, mC 1 0 0 (-1) 0 0 0 0 0 0 as ak ab ar gm))] := hD
  refine W.widen (k := 2001) (n := 60006) (Nat.le_of_ble_eq_true rfl) (Nat.le_of_ble_eq_true rfl) ?_
  refine W.eq (g2 := F0 m 950 ls [.int 1]) rfl ?_
  refine lv_iload hx hb dL_law_950 (lv_at hl 1 rfl) ?_
  refine lv_icmp_eq (tgt := 957) hx hb dL_law_952 (by decide) (fun _ => ?_) (fun h => absurd (by decide) h)
  refine lv_iload hx hb dL_law_957 (lv_at hl 1 rfl) ?_
  refine lv_if_ne (tgt := 981) hx hb dL_law_959 (by decide) (fun _ => ?_) (fun h => absurd h (by decide))
  refine lv_goto (tgt := 3186) hx hb dL_law_981 (by decide) ?_
  exact law_exit K hS (lv_sub hl [6, 2] rfl) (Nat.le_of_ble_eq_true rfl) (Nat.le_of_ble_eq_true rfl)
set_option maxHeartbeats 4000000 in
set_option maxRecDepth 100000 in
theorem law_16 {p : Program} {l : Launch} {e : Env} {s : State} {m : MethodId} {below : List Frame} {meth : Method} {c : Code} {b : Nat} {xs : Nat → Int32} {D : va_G} {cI cZ cJ : ClassId} {A : Nat → Prop} (K : LCx p l s m meth c b 6 xs D cI cZ cJ A) {xo inp byt par pla dra lat his f1 f2 mo as ak ab ar o : Nat} {gx gpl gdr gla gf1 gf2 gpa ghi gm : Nat → Value}  {H : Heap} {locs : List Loc} {ls : Array Slot} (hP : va_P D CL (LW cI cZ xo inp byt par pla dra lat his f1 f2 mo as ak ab ar gx gpl gdr gla gf1 gf2 gpa ghi gm) H) (hD : va_D A (LW cI cZ xo inp byt par pla dra lat his f1 f2 mo as ak ab ar gx gpl gdr gla gf1 gf2 gpa ghi gm)) (hS : va_S A s.heap H locs) (hl : lv_has ls 8 [(4, .int 0), (3, .ref o), (2, .ref mo), (1, .ref xo), (0, .ref b)]) : W p l e room_1 s m #[Value.ref b] below meth c H locs 2000 60000 (lw_Z below #[Value.ref b] s) (F0 m 984 ls []) := by
  obtain ⟨C, hX, hbl, hlt, hAA⟩ := id K
  have hx := C.1
  have hb := C.2.1
  have hbA : ¬ A b := fun h => absurd (hAA b h) (Nat.not_le.mpr hbl)
  have hP : va_P D CL [(xo, .inr (10, xC inp par pla dra lat his f1 f2 0 0 (-1) gx)), (inp, .inr (2, [.int 0, .int 0, .int 0, .int 0, .int 0, .int 0, .ref byt])), (byt, .inl (cI, 600, .inl (fun _ => 0))), (par, .inr (4, [.ref inp, .ref dra, gpa 2, .int 0, .int 0])), (pla, .inr (5, pC 0 0 0 gpl)), (dra, .inr (5, pC 0 0 0 gdr)), (lat, .inr (3, [.int 0, .long 0, gla 2, gla 3, gla 4])), (his, .inr (1, [.int 0, .int 0, ghi 2])), (f1, .inr (5, pC 0 0 0 gf1)), (f2, .inr (5, pC 0 0 0 gf2)), (mo, .inr (11, mC 0 0 0 (-1) 0 0 0 0 0 0 as ak ab ar gm)), (as, .inl (cI, 63, .inl (fun _ => 0))), (ak, .inl (cZ, 2, .inl (fun _ => 0))), (ab, .inl (cI, 600, .inl (fun _ => 0))), (ar, .inl (cI, 63, .inl (fun _ => 0)))] H := hP
  have hD : va_D A [(xo, .inr (10, xC inp par pla dra lat his f1 f2 0 0 (-1) gx)), (inp, .inr (2, [.int 0, .int 0, .int 0, .int 0, .int 0, .int 0, .ref byt])), (byt, .inl (cI, 600, .inl (fun _ => 0))), (par, .inr (4, [.ref inp, .ref dra, gpa 2, .int 0, .int 0])), (pla, .inr (5, pC 0 0 0 gpl)), (dra, .inr (5, pC 0 0 0 gdr)), (lat, .inr (3, [.int 0, .long 0, gla 2, gla 3, gla 4])), (his, .inr (1, [.int 0, .int 0, ghi 2])), (f1, .inr (5, pC 0 0 0 gf1)), (f2, .inr (5, pC 0 0 0 gf2)), (mo, .inr (11, mC 0 0 0 (-1) 0 0 0 0 0 0 as ak ab ar gm)), (as, .inl (cI, 63, .inl (fun _ => 0))), (ak, .inl (cZ, 2, .inl (fun _ => 0))), (ab, .inl (cI, 600, .inl (fun _ => 0))), (ar, .inl (cI, 63, .inl (fun _ => 0)))] := hD
  have hP := hP.sub (ws' := [(xo, .inr (10, xC inp par pla dra lat his f1 f2 0 0 (-1) gx)), (pla, .inr (5, pC 0 0 0 gpl)), (mo, .inr (11, mC 0 0 0 (-1) 0 0 0 0 0 0 as ak ab ar gm))]) [0, 4, 10] rfl
  have hD := hD.sub (ws' := [(xo, .inr (10, xC inp par pla dra lat his f1 f2 0 0 (-1) gx)), (pla, .inr (5, pC 0 0 0 gpl)), (mo, .inr (11, mC 0 0 0 (-1) 0 0 0 0 0 0 as ak ab ar gm))]) [0, 4, 10] (by decide) rfl
  refine lv_aload_n hx hb dL_law_984 rfl (lv_at hl 3 rfl) ?_
  refine lv_aload_n hx hb dL_law_985 rfl (lv_at hl 4 rfl) ?_
  refine lv_iload hx hb dL_law_986 (lv_at hl 0 rfl) ?_
  refine lv_iconst (v := 1) hx hb dL_law_988 (by decide) ?_
  refine lv_iadd hx hb dL_law_989 ?_
  refine W.eq (g2 := F0 m 990 ls [.int 1, .ref b, .ref xo]) rfl ?_
  refine va_sld hx hb hX hbl hbA hS (by unfold vp_in; decide) dL_law_990 ?_
  refine W.eq (g2 := F0 m 991 ls [.int (xs 1), .ref xo]) rfl ?_
  refine lv_aload_n hx hb dL_law_991 rfl (lv_at hl 1 rfl) ?_
  refine call_i (wr := [(mo, .inr (11, mC 0 0 0 (-1) 0 0 0 0 0 0 as ak ab ar gm))]) C (run_SW (As := [.ref xo, .int (xs 1), .ref o]) (rest := []) C (h_visible l hlt D cI cZ cJ xo inp par pla dra lat his f1 f2 0 0 (-1) gx gpl (xs 1) o ) cS_L_239 hP hD hS [0, 1] rfl rfl rfl hl.1 rfl (Nat.le_of_ble_eq_true rfl) dL_law_992 ⟨Nat.le_of_ble_eq_true rfl, Nat.le_of_ble_eq_true rfl⟩ ⟨Nat.le_of_ble_eq_true rfl, Nat.le_of_ble_eq_true rfl⟩) hP hD hS [0, 1] [2] rfl rfl rfl (by decide) (fun u1 H locs hP hD hS => ?_)
  have hP : va_P D CL [(mo, .inr (11, mC 0 0 0 (-1) 0 0 0 0 0 0 as ak ab ar gm)), (xo, .inr (10, xC inp par pla dra lat his f1 f2 0 0 (-1) gx)), (pla, .inr (5, pC 0 0 0 gpl))] H := hP
  have hD : va_D A [(mo, .inr (11, mC 0 0 0 (-1) 0 0 0 0 0 0 as ak ab ar gm)), (xo, .inr (10, xC inp par pla dra lat his f1 f2 0 0 (-1) gx)), (pla, .inr (5, pC 0 0 0 gpl))] := hD
  refine W.widen (k := 2001) (n := 60006) (Nat.le_of_ble_eq_true rfl) (Nat.le_of_ble_eq_true rfl) ?_
  refine W.eq (g2 := F0 m 995 ls [.int 1]) rfl ?_
  refine lv_istore (lv' := [(5, .int 1), (4, .int 0), (3, .ref o), (2, .ref mo), (1, .ref xo), (0, .ref b)]) hx hb dL_law_995 hl (by decide) rfl (fun ls hl => ?_)
  refine lv_aload_n hx hb dL_law_997 rfl (lv_at hl 3 rfl) ?_
  refine lv_aload_n hx hb dL_law_998 rfl (lv_at hl 5 rfl) ?_
  refine lv_iload hx hb dL_law_999 (lv_at hl 1 rfl) ?_
  refine lv_iconst (v := 1) hx hb dL_law_1001 (by decide) ?_
  refine lv_iadd hx hb dL_law_1002 ?_
  refine W.eq (g2 := F0 m 1003 ls [.int 1, .ref b, .ref mo]) rfl ?_
  refine va_sld hx hb hX hbl hbA hS (by unfold vp_in; decide) dL_law_1003 ?_
  refine W.eq (g2 := F0 m 1004 ls [.int (xs 1), .ref mo]) rfl ?_
  refine call_l (wr := [(xo, .inr (10, xC inp par pla dra lat his f1 f2 0 0 (-1) gx)), (pla, .inr (5, pC 0 0 0 gpl))]) C (run_V (As := [.int (xs 1)]) (rest := []) C (m_visible l D cI cZ cJ mo 0 0 (-1) 0 0 0 0 0 0 as ak ab ar gm 0 (xs 1) ) cV_L_241 hP hD hS [0] rfl rfl 0 rfl rfl rfl rfl hl.1 rfl (Nat.le_of_ble_eq_true rfl) dL_law_1004 ⟨Nat.le_of_ble_eq_true rfl, Nat.le_of_ble_eq_true rfl⟩ ⟨Nat.le_of_ble_eq_true rfl, Nat.le_of_ble_eq_true rfl⟩) hP hD hS [0] [1, 2] rfl rfl rfl (by decide) (fun u2 H locs hP hD hS => ?_)
  have hP : va_P D CL [(xo, .inr (10, xC inp par pla dra lat his f1 f2 0 0 (-1) gx)), (pla, .inr (5, pC 0 0 0 gpl)), (mo, .inr (11, mC 1 0 0 (-1) 0 0 0 0 0 0 as ak ab ar gm))] H := hP
  have hD : va_D A [(xo, .inr (10, xC inp par pla dra lat his f1 f2 0 0 (-1) gx)), (pla, .inr (5, pC 0 0 0 gpl)), (mo, .inr (11, mC 1 0 0 (-1) 0 0 0 0 0 0 as ak ab ar gm))] := hD
  refine W.widen (k := 2001) (n := 60006) (Nat.le_of_ble_eq_true rfl) (Nat.le_of_ble_eq_true rfl) ?_
  refine lv_lstore (lv' := [(6, .long 0), (5, .int 1), (4, .int 0), (3, .ref o), (2, .ref mo), (1, .ref xo), (0, .ref b)]) hx hb dL_law_1007 hl (by decide) rfl (fun ls hl => ?_)
  refine lv_aload_n hx hb dL_law_1009 rfl (lv_at hl 4 rfl) ?_
  refine call_i (wr := [(xo, .inr (10, xC inp par pla dra lat his f1 f2 0 0 (-1) gx)), (pla, .inr (5, pC 0 0 0 gpl))]) C (run_V (As := []) (rest := []) C (m_thrown l D cI cZ cJ mo 0 0 (-1) 0 0 0 0 0 0 as ak ab ar gm 1 ) cV_L_187 hP hD hS [2] rfl rfl 0 rfl rfl rfl rfl hl.1 rfl (Nat.le_of_ble_eq_true rfl) dL_law_1010 ⟨Nat.le_of_ble_eq_true rfl, Nat.le_of_ble_eq_true rfl⟩ ⟨Nat.le_of_ble_eq_true rfl, Nat.le_of_ble_eq_true rfl⟩) hP hD hS [2] [0, 1] rfl rfl rfl (by decide) (fun u3 H locs hP hD hS => ?_)
  have hP : va_P D CL [(xo, .inr (10, xC inp par pla dra lat his f1 f2 0 0 (-1) gx)), (pla, .inr (5, pC 0 0 0 gpl)), (mo, .inr (11, mC 1 0 0 (-1) 0 0 0 0 0 0 as ak ab ar gm))] H := hP
  have hD : va_D A [(xo, .inr (10, xC inp par pla dra lat his f1 f2 0 0 (-1) gx)), (pla, .inr (5, pC 0 0 0 gpl)), (mo, .inr (11, mC 1 0 0 (-1) 0 0 0 0 0 0 as ak ab ar gm))] := hD
  refine W.widen (k := 2001) (n := 60006) (Nat.le_of_ble_eq_true rfl) (Nat.le_of_ble_eq_true rfl) ?_
  refine W.eq (g2 := F0 m 1013 ls [.int 1]) rfl ?_
  refine lv_iload hx hb dL_law_1013 (lv_at hl 1 rfl) ?_
  refine lv_icmp_eq (tgt := 1020) hx hb dL_law_1015 (by decide) (fun _ => ?_) (fun h => absurd (by decide) h)
  refine lv_iload hx hb dL_law_1020 (lv_at hl 1 rfl) ?_
  refine lv_if_ne (tgt := 1036) hx hb dL_law_1022 (by decide) (fun _ => ?_) (fun h => absurd h (by decide))
  refine lv_goto (tgt := 3186) hx hb dL_law_1036 (by decide) ?_
  exact law_exit K hS (lv_sub hl [6, 2] rfl) (Nat.le_of_ble_eq_true rfl) (Nat.le_of_ble_eq_true rfl)
