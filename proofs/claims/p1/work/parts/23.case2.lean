set_option maxHeartbeats 4000000 in
set_option maxRecDepth 100000 in
theorem law_37 {p : Program} {l : Launch} {e : Env} {s : State} {m : MethodId} {below : List Frame} {meth : Method} {c : Code} {b : Nat} {xs : Nat → Int32} {D : va_G} {cI cZ cJ : ClassId} {A : Nat → Prop} (K : LCx p l s m meth c b 6 xs D cI cZ cJ A) {xo inp byt par pla dra lat his f1 f2 mo as ak ab ar o : Nat} {gx gpl gdr gla gf1 gf2 gpa ghi gm : Nat → Value}  {H : Heap} {locs : List Loc} {ls : Array Slot} (hP : va_P D CL (LW cI cZ xo inp byt par pla dra lat his f1 f2 mo as ak ab ar gx gpl gdr gla gf1 gf2 gpa ghi gm) H) (hD : va_D A (LW cI cZ xo inp byt par pla dra lat his f1 f2 mo as ak ab ar gx gpl gdr gla gf1 gf2 gpa ghi gm)) (hS : va_S A s.heap H locs) (hl : lv_has ls 8 [(4, .int 0), (3, .ref o), (2, .ref mo), (1, .ref xo), (0, .ref b)]) : W p l e room_1 s m #[Value.ref b] below meth c H locs 2000 60000 (lw_Z below #[Value.ref b] s) (F0 m 2041 ls []) := by
  obtain ⟨C, hX, hbl, hlt, hAA⟩ := id K
  have hx := C.1
  have hb := C.2.1
  have hbA : ¬ A b := fun h => absurd (hAA b h) (Nat.not_le.mpr hbl)
  have hP : va_P D CL [(xo, .inr (10, xC inp par pla dra lat his f1 f2 0 0 (-1) gx)), (inp, .inr (2, [.int 0, .int 0, .int 0, .int 0, .int 0, .int 0, .ref byt])), (byt, .inl (cI, 600, .inl (fun _ => 0))), (par, .inr (4, [.ref inp, .ref dra, gpa 2, .int 0, .int 0])), (pla, .inr (5, pC 0 0 0 gpl)), (dra, .inr (5, pC 0 0 0 gdr)), (lat, .inr (3, [.int 0, .long 0, gla 2, gla 3, gla 4])), (his, .inr (1, [.int 0, .int 0, ghi 2])), (f1, .inr (5, pC 0 0 0 gf1)), (f2, .inr (5, pC 0 0 0 gf2)), (mo, .inr (11, mC 0 0 0 (-1) 0 0 0 0 0 0 as ak ab ar gm)), (as, .inl (cI, 63, .inl (fun _ => 0))), (ak, .inl (cZ, 2, .inl (fun _ => 0))), (ab, .inl (cI, 600, .inl (fun _ => 0))), (ar, .inl (cI, 63, .inl (fun _ => 0)))] H := hP
  have hD : va_D A [(xo, .inr (10, xC inp par pla dra lat his f1 f2 0 0 (-1) gx)), (inp, .inr (2, [.int 0, .int 0, .int 0, .int 0, .int 0, .int 0, .ref byt])), (byt, .inl (cI, 600, .inl (fun _ => 0))), (par, .inr (4, [.ref inp, .ref dra, gpa 2, .int 0, .int 0])), (pla, .inr (5, pC 0 0 0 gpl)), (dra, .inr (5, pC 0 0 0 gdr)), (lat, .inr (3, [.int 0, .long 0, gla 2, gla 3, gla 4])), (his, .inr (1, [.int 0, .int 0, ghi 2])), (f1, .inr (5, pC 0 0 0 gf1)), (f2, .inr (5, pC 0 0 0 gf2)), (mo, .inr (11, mC 0 0 0 (-1) 0 0 0 0 0 0 as ak ab ar gm)), (as, .inl (cI, 63, .inl (fun _ => 0))), (ak, .inl (cZ, 2, .inl (fun _ => 0))), (ab, .inl (cI, 600, .inl (fun _ => 0))), (ar, .inl (cI, 63, .inl (fun _ => 0)))] := hD
  have hP := hP.sub (ws' := [(xo, .inr (10, xC inp par pla dra lat his f1 f2 0 0 (-1) gx)), (pla, .inr (5, pC 0 0 0 gpl)), (mo, .inr (11, mC 0 0 0 (-1) 0 0 0 0 0 0 as ak ab ar gm))]) [0, 4, 10] rfl
  have hD := hD.sub (ws' := [(xo, .inr (10, xC inp par pla dra lat his f1 f2 0 0 (-1) gx)), (pla, .inr (5, pC 0 0 0 gpl)), (mo, .inr (11, mC 0 0 0 (-1) 0 0 0 0 0 0 as ak ab ar gm))]) [0, 4, 10] (by decide) rfl
  refine lv_aload_n hx hb dL_law_2041 rfl (lv_at hl 3 rfl) ?_
  refine lv_aload_n hx hb dL_law_2042 rfl (lv_at hl 1 rfl) ?_
  refine call_i (wr := [(mo, .inr (11, mC 0 0 0 (-1) 0 0 0 0 0 0 as ak ab ar gm))]) C (run_SW (As := [.ref xo, .ref o]) (rest := []) C (h_unwatched l hlt D cI cZ cJ xo inp par pla dra lat his f1 f2 0 0 (-1) gx gpl o ) cS_L_303 hP hD hS [0, 1] rfl rfl rfl hl.1 rfl (Nat.le_of_ble_eq_true rfl) dL_law_2043 ⟨Nat.le_of_ble_eq_true rfl, Nat.le_of_ble_eq_true rfl⟩ ⟨Nat.le_of_ble_eq_true rfl, Nat.le_of_ble_eq_true rfl⟩) hP hD hS [0, 1] [2] rfl rfl rfl (by decide) (fun u1 H locs hP hD hS => ?_)
  have hP : va_P D CL [(mo, .inr (11, mC 0 0 0 (-1) 0 0 0 0 0 0 as ak ab ar gm)), (xo, .inr (10, xC inp par pla dra lat his f1 f2 0 0 (-1) gx)), (pla, .inr (5, pC 0 0 0 gpl))] H := hP
  have hD : va_D A [(mo, .inr (11, mC 0 0 0 (-1) 0 0 0 0 0 0 as ak ab ar gm)), (xo, .inr (10, xC inp par pla dra lat his f1 f2 0 0 (-1) gx)), (pla, .inr (5, pC 0 0 0 gpl))] := hD
  refine W.widen (k := 2001) (n := 60006) (Nat.le_of_ble_eq_true rfl) (Nat.le_of_ble_eq_true rfl) ?_
  refine W.eq (g2 := F0 m 2046 ls [.int 1]) rfl ?_
  refine lv_istore (lv' := [(5, .int 1), (4, .int 0), (3, .ref o), (2, .ref mo), (1, .ref xo), (0, .ref b)]) hx hb dL_law_2046 hl (by decide) rfl (fun ls hl => ?_)
  refine lv_aload_n hx hb dL_law_2048 rfl (lv_at hl 3 rfl) ?_
  refine call_l (wr := [(xo, .inr (10, xC inp par pla dra lat his f1 f2 0 0 (-1) gx)), (pla, .inr (5, pC 0 0 0 gpl))]) C (run_V (As := []) (rest := []) C (m_unwatched l D cI cZ cJ mo 0 0 (-1) 0 0 0 0 0 0 as ak ab ar gm 0 ) cV_L_305 hP hD hS [0] rfl rfl 0 rfl rfl rfl rfl hl.1 rfl (Nat.le_of_ble_eq_true rfl) dL_law_2049 ⟨Nat.le_of_ble_eq_true rfl, Nat.le_of_ble_eq_true rfl⟩ ⟨Nat.le_of_ble_eq_true rfl, Nat.le_of_ble_eq_true rfl⟩) hP hD hS [0] [1, 2] rfl rfl rfl (by decide) (fun u2 H locs hP hD hS => ?_)
  have hP : va_P D CL [(xo, .inr (10, xC inp par pla dra lat his f1 f2 0 0 (-1) gx)), (pla, .inr (5, pC 0 0 0 gpl)), (mo, .inr (11, mC 1 0 0 (-1) 0 0 0 0 0 0 as ak ab ar gm))] H := hP
  have hD : va_D A [(xo, .inr (10, xC inp par pla dra lat his f1 f2 0 0 (-1) gx)), (pla, .inr (5, pC 0 0 0 gpl)), (mo, .inr (11, mC 1 0 0 (-1) 0 0 0 0 0 0 as ak ab ar gm))] := hD
  refine W.widen (k := 2001) (n := 60006) (Nat.le_of_ble_eq_true rfl) (Nat.le_of_ble_eq_true rfl) ?_
  refine lv_lstore (lv' := [(6, .long 0), (5, .int 1), (4, .int 0), (3, .ref o), (2, .ref mo), (1, .ref xo), (0, .ref b)]) hx hb dL_law_2052 hl (by decide) rfl (fun ls hl => ?_)
  refine lv_aload_n hx hb dL_law_2054 rfl (lv_at hl 4 rfl) ?_
  refine call_i (wr := [(xo, .inr (10, xC inp par pla dra lat his f1 f2 0 0 (-1) gx)), (pla, .inr (5, pC 0 0 0 gpl))]) C (run_V (As := []) (rest := []) C (m_thrown l D cI cZ cJ mo 0 0 (-1) 0 0 0 0 0 0 as ak ab ar gm 1 ) cV_L_187 hP hD hS [2] rfl rfl 0 rfl rfl rfl rfl hl.1 rfl (Nat.le_of_ble_eq_true rfl) dL_law_2055 ⟨Nat.le_of_ble_eq_true rfl, Nat.le_of_ble_eq_true rfl⟩ ⟨Nat.le_of_ble_eq_true rfl, Nat.le_of_ble_eq_true rfl⟩) hP hD hS [2] [0, 1] rfl rfl rfl (by decide) (fun u3 H locs hP hD hS => ?_)
  have hP : va_P D CL [(xo, .inr (10, xC inp par pla dra lat his f1 f2 0 0 (-1) gx)), (pla, .inr (5, pC 0 0 0 gpl)), (mo, .inr (11, mC 1 0 0 (-1) 0 0 0 0 0 0 as ak ab ar gm))] H := hP
  have hD : va_D A [(xo, .inr (10, xC inp par pla dra lat his f1 f2 0 0 (-1) gx)), (pla, .inr (5, pC 0 0 0 gpl)), (mo, .inr (11, mC 1 0 0 (-1) 0 0 0 0 0 0 as ak ab ar gm))] := hD
  refine W.widen (k := 2001) (n := 60006) (Nat.le_of_ble_eq_true rfl) (Nat.le_of_ble_eq_true rfl) ?_
  refine W.eq (g2 := F0 m 2058 ls [.int 1]) rfl ?_
  refine lv_iload hx hb dL_law_2058 (lv_at hl 1 rfl) ?_
  refine lv_icmp_eq (tgt := 2065) hx hb dL_law_2060 (by decide) (fun _ => ?_) (fun h => absurd (by decide) h)
  refine lv_iload hx hb dL_law_2065 (lv_at hl 1 rfl) ?_
  refine lv_if_ne (tgt := 2081) hx hb dL_law_2067 (by decide) (fun _ => ?_) (fun h => absurd h (by decide))
  refine lv_goto (tgt := 3186) hx hb dL_law_2081 (by decide) ?_
  exact law_exit K hS (lv_sub hl [6, 2] rfl) (Nat.le_of_ble_eq_true rfl) (Nat.le_of_ble_eq_true rfl)
set_option maxHeartbeats 4000000 in
set_option maxRecDepth 100000 in
theorem law_38 {p : Program} {l : Launch} {e : Env} {s : State} {m : MethodId} {below : List Frame} {meth : Method} {c : Code} {b : Nat} {xs : Nat → Int32} {D : va_G} {cI cZ cJ : ClassId} {A : Nat → Prop} (K : LCx p l s m meth c b 6 xs D cI cZ cJ A) {xo inp byt par pla dra lat his f1 f2 mo as ak ab ar o : Nat} {gx gpl gdr gla gf1 gf2 gpa ghi gm : Nat → Value}  {H : Heap} {locs : List Loc} {ls : Array Slot} (hP : va_P D CL (LW cI cZ xo inp byt par pla dra lat his f1 f2 mo as ak ab ar gx gpl gdr gla gf1 gf2 gpa ghi gm) H) (hD : va_D A (LW cI cZ xo inp byt par pla dra lat his f1 f2 mo as ak ab ar gx gpl gdr gla gf1 gf2 gpa ghi gm)) (hS : va_S A s.heap H locs) (hl : lv_has ls 8 [(4, .int 0), (3, .ref o), (2, .ref mo), (1, .ref xo), (0, .ref b)]) : W p l e room_1 s m #[Value.ref b] below meth c H locs 2000 60000 (lw_Z below #[Value.ref b] s) (F0 m 2084 ls []) := by
  obtain ⟨C, hX, hbl, hlt, hAA⟩ := id K
  have hx := C.1
  have hb := C.2.1
  have hbA : ¬ A b := fun h => absurd (hAA b h) (Nat.not_le.mpr hbl)
  have hP : va_P D CL [(xo, .inr (10, xC inp par pla dra lat his f1 f2 0 0 (-1) gx)), (inp, .inr (2, [.int 0, .int 0, .int 0, .int 0, .int 0, .int 0, .ref byt])), (byt, .inl (cI, 600, .inl (fun _ => 0))), (par, .inr (4, [.ref inp, .ref dra, gpa 2, .int 0, .int 0])), (pla, .inr (5, pC 0 0 0 gpl)), (dra, .inr (5, pC 0 0 0 gdr)), (lat, .inr (3, [.int 0, .long 0, gla 2, gla 3, gla 4])), (his, .inr (1, [.int 0, .int 0, ghi 2])), (f1, .inr (5, pC 0 0 0 gf1)), (f2, .inr (5, pC 0 0 0 gf2)), (mo, .inr (11, mC 0 0 0 (-1) 0 0 0 0 0 0 as ak ab ar gm)), (as, .inl (cI, 63, .inl (fun _ => 0))), (ak, .inl (cZ, 2, .inl (fun _ => 0))), (ab, .inl (cI, 600, .inl (fun _ => 0))), (ar, .inl (cI, 63, .inl (fun _ => 0)))] H := hP
  have hD : va_D A [(xo, .inr (10, xC inp par pla dra lat his f1 f2 0 0 (-1) gx)), (inp, .inr (2, [.int 0, .int 0, .int 0, .int 0, .int 0, .int 0, .ref byt])), (byt, .inl (cI, 600, .inl (fun _ => 0))), (par, .inr (4, [.ref inp, .ref dra, gpa 2, .int 0, .int 0])), (pla, .inr (5, pC 0 0 0 gpl)), (dra, .inr (5, pC 0 0 0 gdr)), (lat, .inr (3, [.int 0, .long 0, gla 2, gla 3, gla 4])), (his, .inr (1, [.int 0, .int 0, ghi 2])), (f1, .inr (5, pC 0 0 0 gf1)), (f2, .inr (5, pC 0 0 0 gf2)), (mo, .inr (11, mC 0 0 0 (-1) 0 0 0 0 0 0 as ak ab ar gm)), (as, .inl (cI, 63, .inl (fun _ => 0))), (ak, .inl (cZ, 2, .inl (fun _ => 0))), (ab, .inl (cI, 600, .inl (fun _ => 0))), (ar, .inl (cI, 63, .inl (fun _ => 0)))] := hD
  have hP := hP.sub (ws' := [(xo, .inr (10, xC inp par pla dra lat his f1 f2 0 0 (-1) gx)), (pla, .inr (5, pC 0 0 0 gpl)), (mo, .inr (11, mC 0 0 0 (-1) 0 0 0 0 0 0 as ak ab ar gm))]) [0, 4, 10] rfl
  have hD := hD.sub (ws' := [(xo, .inr (10, xC inp par pla dra lat his f1 f2 0 0 (-1) gx)), (pla, .inr (5, pC 0 0 0 gpl)), (mo, .inr (11, mC 0 0 0 (-1) 0 0 0 0 0 0 as ak ab ar gm))]) [0, 4, 10] (by decide) rfl
  refine lv_aload_n hx hb dL_law_2084 rfl (lv_at hl 3 rfl) ?_
  refine lv_aload_n hx hb dL_law_2085 rfl (lv_at hl 4 rfl) ?_
  refine lv_iload hx hb dL_law_2086 (lv_at hl 0 rfl) ?_
  refine lv_iconst (v := 1) hx hb dL_law_2088 (by decide) ?_
  refine lv_iadd hx hb dL_law_2089 ?_
  refine W.eq (g2 := F0 m 2090 ls [.int 1, .ref b, .ref xo]) rfl ?_
  refine va_sld hx hb hX hbl hbA hS (by unfold vp_in; decide) dL_law_2090 ?_
  refine W.eq (g2 := F0 m 2091 ls [.int (xs 1), .ref xo]) rfl ?_
  refine lv_aload_n hx hb dL_law_2091 rfl (lv_at hl 1 rfl) ?_
  refine call_i (wr := [(mo, .inr (11, mC 0 0 0 (-1) 0 0 0 0 0 0 as ak ab ar gm))]) C (run_SW (As := [.ref xo, .int (xs 1), .ref o]) (rest := []) C (h_watchers l hlt D cI cZ cJ xo inp par pla dra lat his f1 f2 0 0 (-1) gx gpl (xs 1) o ) cS_L_306 hP hD hS [0, 1] rfl rfl rfl hl.1 rfl (Nat.le_of_ble_eq_true rfl) dL_law_2092 ⟨Nat.le_of_ble_eq_true rfl, Nat.le_of_ble_eq_true rfl⟩ ⟨Nat.le_of_ble_eq_true rfl, Nat.le_of_ble_eq_true rfl⟩) hP hD hS [0, 1] [2] rfl rfl rfl (by decide) (fun u1 H locs hP hD hS => ?_)
  have hP : va_P D CL [(mo, .inr (11, mC 0 0 0 (-1) 0 0 0 0 0 0 as ak ab ar gm)), (xo, .inr (10, xC inp par pla dra lat his f1 f2 0 0 (-1) gx)), (pla, .inr (5, pC 0 0 0 gpl))] H := hP
  have hD : va_D A [(mo, .inr (11, mC 0 0 0 (-1) 0 0 0 0 0 0 as ak ab ar gm)), (xo, .inr (10, xC inp par pla dra lat his f1 f2 0 0 (-1) gx)), (pla, .inr (5, pC 0 0 0 gpl))] := hD
  refine W.widen (k := 2001) (n := 60006) (Nat.le_of_ble_eq_true rfl) (Nat.le_of_ble_eq_true rfl) ?_
  refine W.eq (g2 := F0 m 2095 ls [.int 1]) rfl ?_
  refine lv_istore (lv' := [(5, .int 1), (4, .int 0), (3, .ref o), (2, .ref mo), (1, .ref xo), (0, .ref b)]) hx hb dL_law_2095 hl (by decide) rfl (fun ls hl => ?_)
  refine lv_aload_n hx hb dL_law_2097 rfl (lv_at hl 3 rfl) ?_
  refine lv_aload_n hx hb dL_law_2098 rfl (lv_at hl 5 rfl) ?_
  refine lv_iload hx hb dL_law_2099 (lv_at hl 1 rfl) ?_
  refine lv_iconst (v := 1) hx hb dL_law_2101 (by decide) ?_
  refine lv_iadd hx hb dL_law_2102 ?_
  refine W.eq (g2 := F0 m 2103 ls [.int 1, .ref b, .ref mo]) rfl ?_
  refine va_sld hx hb hX hbl hbA hS (by unfold vp_in; decide) dL_law_2103 ?_
  refine W.eq (g2 := F0 m 2104 ls [.int (xs 1), .ref mo]) rfl ?_
  refine call_i (wr := [(xo, .inr (10, xC inp par pla dra lat his f1 f2 0 0 (-1) gx)), (pla, .inr (5, pC 0 0 0 gpl))]) C (run_V (As := [.int (xs 1)]) (rest := []) C (m_watchers l D cI cZ cJ mo 0 0 (-1) 0 0 0 0 0 0 as ak ab ar gm 0 (xs 1) ) cV_L_308 hP hD hS [0] rfl rfl 0 rfl rfl rfl rfl hl.1 rfl (Nat.le_of_ble_eq_true rfl) dL_law_2104 ⟨Nat.le_of_ble_eq_true rfl, Nat.le_of_ble_eq_true rfl⟩ ⟨Nat.le_of_ble_eq_true rfl, Nat.le_of_ble_eq_true rfl⟩) hP hD hS [0] [1, 2] rfl rfl rfl (by decide) (fun u2 H locs hP hD hS => ?_)
  have hP : va_P D CL [(xo, .inr (10, xC inp par pla dra lat his f1 f2 0 0 (-1) gx)), (pla, .inr (5, pC 0 0 0 gpl)), (mo, .inr (11, mC 1 0 0 (-1) 0 0 0 0 0 0 as ak ab ar gm))] H := hP
  have hD : va_D A [(xo, .inr (10, xC inp par pla dra lat his f1 f2 0 0 (-1) gx)), (pla, .inr (5, pC 0 0 0 gpl)), (mo, .inr (11, mC 1 0 0 (-1) 0 0 0 0 0 0 as ak ab ar gm))] := hD
  refine W.widen (k := 2001) (n := 60006) (Nat.le_of_ble_eq_true rfl) (Nat.le_of_ble_eq_true rfl) ?_
  refine W.eq (g2 := F0 m 2107 ls [.int 0]) rfl ?_
  refine lv_istore (lv' := [(6, .int 0), (5, .int 1), (4, .int 0), (3, .ref o), (2, .ref mo), (1, .ref xo), (0, .ref b)]) hx hb dL_law_2107 hl (by decide) rfl (fun ls hl => ?_)
  refine lv_aload_n hx hb dL_law_2109 rfl (lv_at hl 4 rfl) ?_
  refine call_i (wr := [(xo, .inr (10, xC inp par pla dra lat his f1 f2 0 0 (-1) gx)), (pla, .inr (5, pC 0 0 0 gpl))]) C (run_V (As := []) (rest := []) C (m_thrown l D cI cZ cJ mo 0 0 (-1) 0 0 0 0 0 0 as ak ab ar gm 1 ) cV_L_187 hP hD hS [2] rfl rfl 0 rfl rfl rfl rfl hl.1 rfl (Nat.le_of_ble_eq_true rfl) dL_law_2110 ⟨Nat.le_of_ble_eq_true rfl, Nat.le_of_ble_eq_true rfl⟩ ⟨Nat.le_of_ble_eq_true rfl, Nat.le_of_ble_eq_true rfl⟩) hP hD hS [2] [0, 1] rfl rfl rfl (by decide) (fun u3 H locs hP hD hS => ?_)
  have hP : va_P D CL [(xo, .inr (10, xC inp par pla dra lat his f1 f2 0 0 (-1) gx)), (pla, .inr (5, pC 0 0 0 gpl)), (mo, .inr (11, mC 1 0 0 (-1) 0 0 0 0 0 0 as ak ab ar gm))] H := hP
  have hD : va_D A [(xo, .inr (10, xC inp par pla dra lat his f1 f2 0 0 (-1) gx)), (pla, .inr (5, pC 0 0 0 gpl)), (mo, .inr (11, mC 1 0 0 (-1) 0 0 0 0 0 0 as ak ab ar gm))] := hD
  refine W.widen (k := 2001) (n := 60006) (Nat.le_of_ble_eq_true rfl) (Nat.le_of_ble_eq_true rfl) ?_
  refine W.eq (g2 := F0 m 2113 ls [.int 1]) rfl ?_
  refine lv_iload hx hb dL_law_2113 (lv_at hl 1 rfl) ?_
  refine lv_icmp_eq (tgt := 2120) hx hb dL_law_2115 (by decide) (fun _ => ?_) (fun h => absurd (by decide) h)
  refine lv_iload hx hb dL_law_2120 (lv_at hl 1 rfl) ?_
  refine lv_if_ne (tgt := 2137) hx hb dL_law_2122 (by decide) (fun _ => ?_) (fun h => absurd h (by decide))
  refine lv_goto (tgt := 3186) hx hb dL_law_2137 (by decide) ?_
  exact law_exit K hS (lv_sub hl [6, 2] rfl) (Nat.le_of_ble_eq_true rfl) (Nat.le_of_ble_eq_true rfl)
set_option maxHeartbeats 4000000 in
set_option maxRecDepth 100000 in
theorem law_39 {p : Program} {l : Launch} {e : Env} {s : State} {m : MethodId} {below : List Frame} {meth : Method} {c : Code} {b : Nat} {xs : Nat → Int32} {D : va_G} {cI cZ cJ : ClassId} {A : Nat → Prop} (K : LCx p l s m meth c b 6 xs D cI cZ cJ A) {xo inp byt par pla dra lat his f1 f2 mo as ak ab ar o : Nat} {gx gpl gdr gla gf1 gf2 gpa ghi gm : Nat → Value}  {H : Heap} {locs : List Loc} {ls : Array Slot} (hP : va_P D CL (LW cI cZ xo inp byt par pla dra lat his f1 f2 mo as ak ab ar gx gpl gdr gla gf1 gf2 gpa ghi gm) H) (hD : va_D A (LW cI cZ xo inp byt par pla dra lat his f1 f2 mo as ak ab ar gx gpl gdr gla gf1 gf2 gpa ghi gm)) (hS : va_S A s.heap H locs) (hl : lv_has ls 8 [(4, .int 0), (3, .ref o), (2, .ref mo), (1, .ref xo), (0, .ref b)]) : W p l e room_1 s m #[Value.ref b] below meth c H locs 2000 60000 (lw_Z below #[Value.ref b] s) (F0 m 2140 ls []) := by
  obtain ⟨C, hX, hbl, hlt, hAA⟩ := id K
  have hx := C.1
  have hb := C.2.1
  have hbA : ¬ A b := fun h => absurd (hAA b h) (Nat.not_le.mpr hbl)
  have hP : va_P D CL [(xo, .inr (10, xC inp par pla dra lat his f1 f2 0 0 (-1) gx)), (inp, .inr (2, [.int 0, .int 0, .int 0, .int 0, .int 0, .int 0, .ref byt])), (byt, .inl (cI, 600, .inl (fun _ => 0))), (par, .inr (4, [.ref inp, .ref dra, gpa 2, .int 0, .int 0])), (pla, .inr (5, pC 0 0 0 gpl)), (dra, .inr (5, pC 0 0 0 gdr)), (lat, .inr (3, [.int 0, .long 0, gla 2, gla 3, gla 4])), (his, .inr (1, [.int 0, .int 0, ghi 2])), (f1, .inr (5, pC 0 0 0 gf1)), (f2, .inr (5, pC 0 0 0 gf2)), (mo, .inr (11, mC 0 0 0 (-1) 0 0 0 0 0 0 as ak ab ar gm)), (as, .inl (cI, 63, .inl (fun _ => 0))), (ak, .inl (cZ, 2, .inl (fun _ => 0))), (ab, .inl (cI, 600, .inl (fun _ => 0))), (ar, .inl (cI, 63, .inl (fun _ => 0)))] H := hP
  have hD : va_D A [(xo, .inr (10, xC inp par pla dra lat his f1 f2 0 0 (-1) gx)), (inp, .inr (2, [.int 0, .int 0, .int 0, .int 0, .int 0, .int 0, .ref byt])), (byt, .inl (cI, 600, .inl (fun _ => 0))), (par, .inr (4, [.ref inp, .ref dra, gpa 2, .int 0, .int 0])), (pla, .inr (5, pC 0 0 0 gpl)), (dra, .inr (5, pC 0 0 0 gdr)), (lat, .inr (3, [.int 0, .long 0, gla 2, gla 3, gla 4])), (his, .inr (1, [.int 0, .int 0, ghi 2])), (f1, .inr (5, pC 0 0 0 gf1)), (f2, .inr (5, pC 0 0 0 gf2)), (mo, .inr (11, mC 0 0 0 (-1) 0 0 0 0 0 0 as ak ab ar gm)), (as, .inl (cI, 63, .inl (fun _ => 0))), (ak, .inl (cZ, 2, .inl (fun _ => 0))), (ab, .inl (cI, 600, .inl (fun _ => 0))), (ar, .inl (cI, 63, .inl (fun _ => 0)))] := hD
  have hP := hP.sub (ws' := [(xo, .inr (10, xC inp par pla dra lat his f1 f2 0 0 (-1) gx)), (pla, .inr (5, pC 0 0 0 gpl)), (mo, .inr (11, mC 0 0 0 (-1) 0 0 0 0 0 0 as ak ab ar gm))]) [0, 4, 10] rfl
  have hD := hD.sub (ws' := [(xo, .inr (10, xC inp par pla dra lat his f1 f2 0 0 (-1) gx)), (pla, .inr (5, pC 0 0 0 gpl)), (mo, .inr (11, mC 0 0 0 (-1) 0 0 0 0 0 0 as ak ab ar gm))]) [0, 4, 10] (by decide) rfl
  refine lv_aload_n hx hb dL_law_2140 rfl (lv_at hl 3 rfl) ?_
  refine lv_aload_n hx hb dL_law_2141 rfl (lv_at hl 1 rfl) ?_
  refine call_i (wr := [(mo, .inr (11, mC 0 0 0 (-1) 0 0 0 0 0 0 as ak ab ar gm))]) C (run_SW (As := [.ref xo, .ref o]) (rest := []) C (h_redundantGuards l hlt D cI cZ cJ xo inp par pla dra lat his f1 f2 0 0 (-1) gx gpl o ) cS_L_309 hP hD hS [0, 1] rfl rfl rfl hl.1 rfl (Nat.le_of_ble_eq_true rfl) dL_law_2142 ⟨Nat.le_of_ble_eq_true rfl, Nat.le_of_ble_eq_true rfl⟩ ⟨Nat.le_of_ble_eq_true rfl, Nat.le_of_ble_eq_true rfl⟩) hP hD hS [0, 1] [2] rfl rfl rfl (by decide) (fun u1 H locs hP hD hS => ?_)
  have hP : va_P D CL [(mo, .inr (11, mC 0 0 0 (-1) 0 0 0 0 0 0 as ak ab ar gm)), (xo, .inr (10, xC inp par pla dra lat his f1 f2 0 0 (-1) gx)), (pla, .inr (5, pC 0 0 0 gpl))] H := hP
  have hD : va_D A [(mo, .inr (11, mC 0 0 0 (-1) 0 0 0 0 0 0 as ak ab ar gm)), (xo, .inr (10, xC inp par pla dra lat his f1 f2 0 0 (-1) gx)), (pla, .inr (5, pC 0 0 0 gpl))] := hD
  refine W.widen (k := 2001) (n := 60006) (Nat.le_of_ble_eq_true rfl) (Nat.le_of_ble_eq_true rfl) ?_
  refine W.eq (g2 := F0 m 2145 ls [.int 1]) rfl ?_
  refine lv_istore (lv' := [(5, .int 1), (4, .int 0), (3, .ref o), (2, .ref mo), (1, .ref xo), (0, .ref b)]) hx hb dL_law_2145 hl (by decide) rfl (fun ls hl => ?_)
  refine lv_aload_n hx hb dL_law_2147 rfl (lv_at hl 3 rfl) ?_
  refine call_i (wr := [(xo, .inr (10, xC inp par pla dra lat his f1 f2 0 0 (-1) gx)), (pla, .inr (5, pC 0 0 0 gpl))]) C (run_V (As := []) (rest := []) C (m_redundantGuards l D cI cZ cJ mo 0 0 (-1) 0 0 0 0 0 0 as ak ab ar gm 0 ) cV_L_311 hP hD hS [0] rfl rfl 0 rfl rfl rfl rfl hl.1 rfl (Nat.le_of_ble_eq_true rfl) dL_law_2148 ⟨Nat.le_of_ble_eq_true rfl, Nat.le_of_ble_eq_true rfl⟩ ⟨Nat.le_of_ble_eq_true rfl, Nat.le_of_ble_eq_true rfl⟩) hP hD hS [0] [1, 2] rfl rfl rfl (by decide) (fun u2 H locs hP hD hS => ?_)
  have hP : va_P D CL [(xo, .inr (10, xC inp par pla dra lat his f1 f2 0 0 (-1) gx)), (pla, .inr (5, pC 0 0 0 gpl)), (mo, .inr (11, mC 1 0 0 (-1) 0 0 0 0 0 0 as ak ab ar gm))] H := hP
  have hD : va_D A [(xo, .inr (10, xC inp par pla dra lat his f1 f2 0 0 (-1) gx)), (pla, .inr (5, pC 0 0 0 gpl)), (mo, .inr (11, mC 1 0 0 (-1) 0 0 0 0 0 0 as ak ab ar gm))] := hD
  refine W.widen (k := 2001) (n := 60006) (Nat.le_of_ble_eq_true rfl) (Nat.le_of_ble_eq_true rfl) ?_
  refine W.eq (g2 := F0 m 2151 ls [.int 0]) rfl ?_
  refine lv_istore (lv' := [(6, .int 0), (5, .int 1), (4, .int 0), (3, .ref o), (2, .ref mo), (1, .ref xo), (0, .ref b)]) hx hb dL_law_2151 hl (by decide) rfl (fun ls hl => ?_)
  refine lv_aload_n hx hb dL_law_2153 rfl (lv_at hl 4 rfl) ?_
  refine call_i (wr := [(xo, .inr (10, xC inp par pla dra lat his f1 f2 0 0 (-1) gx)), (pla, .inr (5, pC 0 0 0 gpl))]) C (run_V (As := []) (rest := []) C (m_thrown l D cI cZ cJ mo 0 0 (-1) 0 0 0 0 0 0 as ak ab ar gm 1 ) cV_L_187 hP hD hS [2] rfl rfl 0 rfl rfl rfl rfl hl.1 rfl (Nat.le_of_ble_eq_true rfl) dL_law_2154 ⟨Nat.le_of_ble_eq_true rfl, Nat.le_of_ble_eq_true rfl⟩ ⟨Nat.le_of_ble_eq_true rfl, Nat.le_of_ble_eq_true rfl⟩) hP hD hS [2] [0, 1] rfl rfl rfl (by decide) (fun u3 H locs hP hD hS => ?_)
  have hP : va_P D CL [(xo, .inr (10, xC inp par pla dra lat his f1 f2 0 0 (-1) gx)), (pla, .inr (5, pC 0 0 0 gpl)), (mo, .inr (11, mC 1 0 0 (-1) 0 0 0 0 0 0 as ak ab ar gm))] H := hP
  have hD : va_D A [(xo, .inr (10, xC inp par pla dra lat his f1 f2 0 0 (-1) gx)), (pla, .inr (5, pC 0 0 0 gpl)), (mo, .inr (11, mC 1 0 0 (-1) 0 0 0 0 0 0 as ak ab ar gm))] := hD
  refine W.widen (k := 2001) (n := 60006) (Nat.le_of_ble_eq_true rfl) (Nat.le_of_ble_eq_true rfl) ?_
  refine W.eq (g2 := F0 m 2157 ls [.int 1]) rfl ?_
  refine lv_iload hx hb dL_law_2157 (lv_at hl 1 rfl) ?_
  refine lv_icmp_eq (tgt := 2164) hx hb dL_law_2159 (by decide) (fun _ => ?_) (fun h => absurd (by decide) h)
  refine lv_iload hx hb dL_law_2164 (lv_at hl 1 rfl) ?_
  refine lv_if_ne (tgt := 2181) hx hb dL_law_2166 (by decide) (fun _ => ?_) (fun h => absurd h (by decide))
  refine lv_goto (tgt := 3186) hx hb dL_law_2181 (by decide) ?_
  exact law_exit K hS (lv_sub hl [6, 2] rfl) (Nat.le_of_ble_eq_true rfl) (Nat.le_of_ble_eq_true rfl)
set_option maxHeartbeats 4000000 in
set_option maxRecDepth 100000 in
theorem law_40 {p : Program} {l : Launch} {e : Env} {s : State} {m : MethodId} {below : List Frame} {meth : Method} {c : Code} {b : Nat} {xs : Nat → Int32} {D : va_G} {cI cZ cJ : ClassId} {A : Nat → Prop} (K : LCx p l s m meth c b 6 xs D cI cZ cJ A) {xo inp byt par pla dra lat his f1 f2 mo as ak ab ar o : Nat} {gx gpl gdr gla gf1 gf2 gpa ghi gm : Nat → Value}  {H : Heap} {locs : List Loc} {ls : Array Slot} (hP : va_P D CL (LW cI cZ xo inp byt par pla dra lat his f1 f2 mo as ak ab ar gx gpl gdr gla gf1 gf2 gpa ghi gm) H) (hD : va_D A (LW cI cZ xo inp byt par pla dra lat his f1 f2 mo as ak ab ar gx gpl gdr gla gf1 gf2 gpa ghi gm)) (hS : va_S A s.heap H locs) (hl : lv_has ls 8 [(4, .int 0), (3, .ref o), (2, .ref mo), (1, .ref xo), (0, .ref b)]) : W p l e room_1 s m #[Value.ref b] below meth c H locs 2000 60000 (lw_Z below #[Value.ref b] s) (F0 m 2184 ls []) := by
  obtain ⟨C, hX, hbl, hlt, hAA⟩ := id K
  have hx := C.1
  have hb := C.2.1
  have hbA : ¬ A b := fun h => absurd (hAA b h) (Nat.not_le.mpr hbl)
  have hP : va_P D CL [(xo, .inr (10, xC inp par pla dra lat his f1 f2 0 0 (-1) gx)), (inp, .inr (2, [.int 0, .int 0, .int 0, .int 0, .int 0, .int 0, .ref byt])), (byt, .inl (cI, 600, .inl (fun _ => 0))), (par, .inr (4, [.ref inp, .ref dra, gpa 2, .int 0, .int 0])), (pla, .inr (5, pC 0 0 0 gpl)), (dra, .inr (5, pC 0 0 0 gdr)), (lat, .inr (3, [.int 0, .long 0, gla 2, gla 3, gla 4])), (his, .inr (1, [.int 0, .int 0, ghi 2])), (f1, .inr (5, pC 0 0 0 gf1)), (f2, .inr (5, pC 0 0 0 gf2)), (mo, .inr (11, mC 0 0 0 (-1) 0 0 0 0 0 0 as ak ab ar gm)), (as, .inl (cI, 63, .inl (fun _ => 0))), (ak, .inl (cZ, 2, .inl (fun _ => 0))), (ab, .inl (cI, 600, .inl (fun _ => 0))), (ar, .inl (cI, 63, .inl (fun _ => 0)))] H := hP
  have hD : va_D A [(xo, .inr (10, xC inp par pla dra lat his f1 f2 0 0 (-1) gx)), (inp, .inr (2, [.int 0, .int 0, .int 0, .int 0, .int 0, .int 0, .ref byt])), (byt, .inl (cI, 600, .inl (fun _ => 0))), (par, .inr (4, [.ref inp, .ref dra, gpa 2, .int 0, .int 0])), (pla, .inr (5, pC 0 0 0 gpl)), (dra, .inr (5, pC 0 0 0 gdr)), (lat, .inr (3, [.int 0, .long 0, gla 2, gla 3, gla 4])), (his, .inr (1, [.int 0, .int 0, ghi 2])), (f1, .inr (5, pC 0 0 0 gf1)), (f2, .inr (5, pC 0 0 0 gf2)), (mo, .inr (11, mC 0 0 0 (-1) 0 0 0 0 0 0 as ak ab ar gm)), (as, .inl (cI, 63, .inl (fun _ => 0))), (ak, .inl (cZ, 2, .inl (fun _ => 0))), (ab, .inl (cI, 600, .inl (fun _ => 0))), (ar, .inl (cI, 63, .inl (fun _ => 0)))] := hD
  have hP := hP.sub (ws' := [(xo, .inr (10, xC inp par pla dra lat his f1 f2 0 0 (-1) gx)), (pla, .inr (5, pC 0 0 0 gpl)), (mo, .inr (11, mC 0 0 0 (-1) 0 0 0 0 0 0 as ak ab ar gm))]) [0, 4, 10] rfl
  have hD := hD.sub (ws' := [(xo, .inr (10, xC inp par pla dra lat his f1 f2 0 0 (-1) gx)), (pla, .inr (5, pC 0 0 0 gpl)), (mo, .inr (11, mC 0 0 0 (-1) 0 0 0 0 0 0 as ak ab ar gm))]) [0, 4, 10] (by decide) rfl
  refine lv_aload_n hx hb dL_law_2184 rfl (lv_at hl 3 rfl) ?_
  refine lv_aload_n hx hb dL_law_2185 rfl (lv_at hl 1 rfl) ?_
  refine call_i (wr := [(mo, .inr (11, mC 0 0 0 (-1) 0 0 0 0 0 0 as ak ab ar gm))]) C (run_SW (As := [.ref xo, .ref o]) (rest := []) C (h_bestPoint l hlt D cI cZ cJ xo inp par pla dra lat his f1 f2 0 0 (-1) gx gpl o ) cS_L_312 hP hD hS [0, 1] rfl rfl rfl hl.1 rfl (Nat.le_of_ble_eq_true rfl) dL_law_2186 ⟨Nat.le_of_ble_eq_true rfl, Nat.le_of_ble_eq_true rfl⟩ ⟨Nat.le_of_ble_eq_true rfl, Nat.le_of_ble_eq_true rfl⟩) hP hD hS [0, 1] [2] rfl rfl rfl (by decide) (fun u1 H locs hP hD hS => ?_)
  have hP : va_P D CL [(mo, .inr (11, mC 0 0 0 (-1) 0 0 0 0 0 0 as ak ab ar gm)), (xo, .inr (10, xC inp par pla dra lat his f1 f2 0 0 (-1) gx)), (pla, .inr (5, pC 0 0 0 gpl))] H := hP
  have hD : va_D A [(mo, .inr (11, mC 0 0 0 (-1) 0 0 0 0 0 0 as ak ab ar gm)), (xo, .inr (10, xC inp par pla dra lat his f1 f2 0 0 (-1) gx)), (pla, .inr (5, pC 0 0 0 gpl))] := hD
  refine W.widen (k := 2001) (n := 60006) (Nat.le_of_ble_eq_true rfl) (Nat.le_of_ble_eq_true rfl) ?_
  refine W.eq (g2 := F0 m 2189 ls [.int 1]) rfl ?_
  refine lv_istore (lv' := [(5, .int 1), (4, .int 0), (3, .ref o), (2, .ref mo), (1, .ref xo), (0, .ref b)]) hx hb dL_law_2189 hl (by decide) rfl (fun ls hl => ?_)
  refine lv_aload_n hx hb dL_law_2191 rfl (lv_at hl 3 rfl) ?_
  refine call_i (wr := [(xo, .inr (10, xC inp par pla dra lat his f1 f2 0 0 (-1) gx)), (pla, .inr (5, pC 0 0 0 gpl))]) C (run_V (As := []) (rest := []) C (m_bestPoint l D cI cZ cJ mo 0 0 (-1) 0 0 0 0 0 0 as ak ab ar gm 0 ) cV_L_314 hP hD hS [0] rfl rfl 0 rfl rfl rfl rfl hl.1 rfl (Nat.le_of_ble_eq_true rfl) dL_law_2192 ⟨Nat.le_of_ble_eq_true rfl, Nat.le_of_ble_eq_true rfl⟩ ⟨Nat.le_of_ble_eq_true rfl, Nat.le_of_ble_eq_true rfl⟩) hP hD hS [0] [1, 2] rfl rfl rfl (by decide) (fun u2 H locs hP hD hS => ?_)
  have hP : va_P D CL [(xo, .inr (10, xC inp par pla dra lat his f1 f2 0 0 (-1) gx)), (pla, .inr (5, pC 0 0 0 gpl)), (mo, .inr (11, mC 1 0 0 (-1) 0 0 0 0 0 0 as ak ab ar gm))] H := hP
  have hD : va_D A [(xo, .inr (10, xC inp par pla dra lat his f1 f2 0 0 (-1) gx)), (pla, .inr (5, pC 0 0 0 gpl)), (mo, .inr (11, mC 1 0 0 (-1) 0 0 0 0 0 0 as ak ab ar gm))] := hD
  refine W.widen (k := 2001) (n := 60006) (Nat.le_of_ble_eq_true rfl) (Nat.le_of_ble_eq_true rfl) ?_
  refine W.eq (g2 := F0 m 2195 ls [.int 0]) rfl ?_
  refine lv_istore (lv' := [(6, .int 0), (5, .int 1), (4, .int 0), (3, .ref o), (2, .ref mo), (1, .ref xo), (0, .ref b)]) hx hb dL_law_2195 hl (by decide) rfl (fun ls hl => ?_)
  refine lv_aload_n hx hb dL_law_2197 rfl (lv_at hl 4 rfl) ?_
  refine call_i (wr := [(xo, .inr (10, xC inp par pla dra lat his f1 f2 0 0 (-1) gx)), (pla, .inr (5, pC 0 0 0 gpl))]) C (run_V (As := []) (rest := []) C (m_thrown l D cI cZ cJ mo 0 0 (-1) 0 0 0 0 0 0 as ak ab ar gm 1 ) cV_L_187 hP hD hS [2] rfl rfl 0 rfl rfl rfl rfl hl.1 rfl (Nat.le_of_ble_eq_true rfl) dL_law_2198 ⟨Nat.le_of_ble_eq_true rfl, Nat.le_of_ble_eq_true rfl⟩ ⟨Nat.le_of_ble_eq_true rfl, Nat.le_of_ble_eq_true rfl⟩) hP hD hS [2] [0, 1] rfl rfl rfl (by decide) (fun u3 H locs hP hD hS => ?_)
  have hP : va_P D CL [(xo, .inr (10, xC inp par pla dra lat his f1 f2 0 0 (-1) gx)), (pla, .inr (5, pC 0 0 0 gpl)), (mo, .inr (11, mC 1 0 0 (-1) 0 0 0 0 0 0 as ak ab ar gm))] H := hP
  have hD : va_D A [(xo, .inr (10, xC inp par pla dra lat his f1 f2 0 0 (-1) gx)), (pla, .inr (5, pC 0 0 0 gpl)), (mo, .inr (11, mC 1 0 0 (-1) 0 0 0 0 0 0 as ak ab ar gm))] := hD
  refine W.widen (k := 2001) (n := 60006) (Nat.le_of_ble_eq_true rfl) (Nat.le_of_ble_eq_true rfl) ?_
  refine W.eq (g2 := F0 m 2201 ls [.int 1]) rfl ?_
  refine lv_iload hx hb dL_law_2201 (lv_at hl 1 rfl) ?_
  refine lv_icmp_eq (tgt := 2208) hx hb dL_law_2203 (by decide) (fun _ => ?_) (fun h => absurd (by decide) h)
  refine lv_iload hx hb dL_law_2208 (lv_at hl 1 rfl) ?_
  refine lv_if_ne (tgt := 2225) hx hb dL_law_2210 (by decide) (fun _ => ?_) (fun h => absurd h (by decide))
  refine lv_goto (tgt := 3186) hx hb dL_law_2225 (by decide) ?_
  exact law_exit K hS (lv_sub hl [6, 2] rfl) (Nat.le_of_ble_eq_true rfl) (Nat.le_of_ble_eq_true rfl)
set_option maxHeartbeats 4000000 in
set_option maxRecDepth 100000 in
theorem law_41 {p : Program} {l : Launch} {e : Env} {s : State} {m : MethodId} {below : List Frame} {meth : Method} {c : Code} {b : Nat} {xs : Nat → Int32} {D : va_G} {cI cZ cJ : ClassId} {A : Nat → Prop} (K : LCx p l s m meth c b 6 xs D cI cZ cJ A) {xo inp byt par pla dra lat his f1 f2 mo as ak ab ar o : Nat} {gx gpl gdr gla gf1 gf2 gpa ghi gm : Nat → Value}  {H : Heap} {locs : List Loc} {ls : Array Slot} (hP : va_P D CL (LW cI cZ xo inp byt par pla dra lat his f1 f2 mo as ak ab ar gx gpl gdr gla gf1 gf2 gpa ghi gm) H) (hD : va_D A (LW cI cZ xo inp byt par pla dra lat his f1 f2 mo as ak ab ar gx gpl gdr gla gf1 gf2 gpa ghi gm)) (hS : va_S A s.heap H locs) (hl : lv_has ls 8 [(4, .int 0), (3, .ref o), (2, .ref mo), (1, .ref xo), (0, .ref b)]) : W p l e room_1 s m #[Value.ref b] below meth c H locs 2000 60000 (lw_Z below #[Value.ref b] s) (F0 m 2228 ls []) := by
  obtain ⟨C, hX, hbl, hlt, hAA⟩ := id K
  have hx := C.1
  have hb := C.2.1
  have hbA : ¬ A b := fun h => absurd (hAA b h) (Nat.not_le.mpr hbl)
  have hP : va_P D CL [(xo, .inr (10, xC inp par pla dra lat his f1 f2 0 0 (-1) gx)), (inp, .inr (2, [.int 0, .int 0, .int 0, .int 0, .int 0, .int 0, .ref byt])), (byt, .inl (cI, 600, .inl (fun _ => 0))), (par, .inr (4, [.ref inp, .ref dra, gpa 2, .int 0, .int 0])), (pla, .inr (5, pC 0 0 0 gpl)), (dra, .inr (5, pC 0 0 0 gdr)), (lat, .inr (3, [.int 0, .long 0, gla 2, gla 3, gla 4])), (his, .inr (1, [.int 0, .int 0, ghi 2])), (f1, .inr (5, pC 0 0 0 gf1)), (f2, .inr (5, pC 0 0 0 gf2)), (mo, .inr (11, mC 0 0 0 (-1) 0 0 0 0 0 0 as ak ab ar gm)), (as, .inl (cI, 63, .inl (fun _ => 0))), (ak, .inl (cZ, 2, .inl (fun _ => 0))), (ab, .inl (cI, 600, .inl (fun _ => 0))), (ar, .inl (cI, 63, .inl (fun _ => 0)))] H := hP
  have hD : va_D A [(xo, .inr (10, xC inp par pla dra lat his f1 f2 0 0 (-1) gx)), (inp, .inr (2, [.int 0, .int 0, .int 0, .int 0, .int 0, .int 0, .ref byt])), (byt, .inl (cI, 600, .inl (fun _ => 0))), (par, .inr (4, [.ref inp, .ref dra, gpa 2, .int 0, .int 0])), (pla, .inr (5, pC 0 0 0 gpl)), (dra, .inr (5, pC 0 0 0 gdr)), (lat, .inr (3, [.int 0, .long 0, gla 2, gla 3, gla 4])), (his, .inr (1, [.int 0, .int 0, ghi 2])), (f1, .inr (5, pC 0 0 0 gf1)), (f2, .inr (5, pC 0 0 0 gf2)), (mo, .inr (11, mC 0 0 0 (-1) 0 0 0 0 0 0 as ak ab ar gm)), (as, .inl (cI, 63, .inl (fun _ => 0))), (ak, .inl (cZ, 2, .inl (fun _ => 0))), (ab, .inl (cI, 600, .inl (fun _ => 0))), (ar, .inl (cI, 63, .inl (fun _ => 0)))] := hD
  have hP := hP.sub (ws' := [(xo, .inr (10, xC inp par pla dra lat his f1 f2 0 0 (-1) gx)), (pla, .inr (5, pC 0 0 0 gpl)), (mo, .inr (11, mC 0 0 0 (-1) 0 0 0 0 0 0 as ak ab ar gm))]) [0, 4, 10] rfl
  have hD := hD.sub (ws' := [(xo, .inr (10, xC inp par pla dra lat his f1 f2 0 0 (-1) gx)), (pla, .inr (5, pC 0 0 0 gpl)), (mo, .inr (11, mC 0 0 0 (-1) 0 0 0 0 0 0 as ak ab ar gm))]) [0, 4, 10] (by decide) rfl
  refine lv_aload_n hx hb dL_law_2228 rfl (lv_at hl 3 rfl) ?_
  refine lv_aload_n hx hb dL_law_2229 rfl (lv_at hl 1 rfl) ?_
  refine call_i (wr := [(mo, .inr (11, mC 0 0 0 (-1) 0 0 0 0 0 0 as ak ab ar gm))]) C (run_SW (As := [.ref xo, .ref o]) (rest := []) C (h_greedyGuards l hlt D cI cZ cJ xo inp par pla dra lat his f1 f2 0 0 (-1) gx gpl o ) cS_L_315 hP hD hS [0, 1] rfl rfl rfl hl.1 rfl (Nat.le_of_ble_eq_true rfl) dL_law_2230 ⟨Nat.le_of_ble_eq_true rfl, Nat.le_of_ble_eq_true rfl⟩ ⟨Nat.le_of_ble_eq_true rfl, Nat.le_of_ble_eq_true rfl⟩) hP hD hS [0, 1] [2] rfl rfl rfl (by decide) (fun u1 H locs hP hD hS => ?_)
  have hP : va_P D CL [(mo, .inr (11, mC 0 0 0 (-1) 0 0 0 0 0 0 as ak ab ar gm)), (xo, .inr (10, xC inp par pla dra lat his f1 f2 0 0 (-1) gx)), (pla, .inr (5, pC 0 0 0 gpl))] H := hP
  have hD : va_D A [(mo, .inr (11, mC 0 0 0 (-1) 0 0 0 0 0 0 as ak ab ar gm)), (xo, .inr (10, xC inp par pla dra lat his f1 f2 0 0 (-1) gx)), (pla, .inr (5, pC 0 0 0 gpl))] := hD
  refine W.widen (k := 2001) (n := 60006) (Nat.le_of_ble_eq_true rfl) (Nat.le_of_ble_eq_true rfl) ?_
  refine W.eq (g2 := F0 m 2233 ls [.int 1]) rfl ?_
  refine lv_istore (lv' := [(5, .int 1), (4, .int 0), (3, .ref o), (2, .ref mo), (1, .ref xo), (0, .ref b)]) hx hb dL_law_2233 hl (by decide) rfl (fun ls hl => ?_)
  refine lv_aload_n hx hb dL_law_2235 rfl (lv_at hl 3 rfl) ?_
  refine call_i (wr := [(xo, .inr (10, xC inp par pla dra lat his f1 f2 0 0 (-1) gx)), (pla, .inr (5, pC 0 0 0 gpl))]) C (run_V (As := []) (rest := []) C (m_greedyGuards l D cI cZ cJ mo 0 0 (-1) 0 0 0 0 0 0 as ak ab ar gm 0 ) cV_L_317 hP hD hS [0] rfl rfl 0 rfl rfl rfl rfl hl.1 rfl (Nat.le_of_ble_eq_true rfl) dL_law_2236 ⟨Nat.le_of_ble_eq_true rfl, Nat.le_of_ble_eq_true rfl⟩ ⟨Nat.le_of_ble_eq_true rfl, Nat.le_of_ble_eq_true rfl⟩) hP hD hS [0] [1, 2] rfl rfl rfl (by decide) (fun u2 H locs hP hD hS => ?_)
  have hP : va_P D CL [(xo, .inr (10, xC inp par pla dra lat his f1 f2 0 0 (-1) gx)), (pla, .inr (5, pC 0 0 0 gpl)), (mo, .inr (11, mC 1 0 0 (-1) 0 0 0 0 0 0 as ak ab ar gm))] H := hP
  have hD : va_D A [(xo, .inr (10, xC inp par pla dra lat his f1 f2 0 0 (-1) gx)), (pla, .inr (5, pC 0 0 0 gpl)), (mo, .inr (11, mC 1 0 0 (-1) 0 0 0 0 0 0 as ak ab ar gm))] := hD
  refine W.widen (k := 2001) (n := 60006) (Nat.le_of_ble_eq_true rfl) (Nat.le_of_ble_eq_true rfl) ?_
  refine W.eq (g2 := F0 m 2239 ls [.int 0]) rfl ?_
  refine lv_istore (lv' := [(6, .int 0), (5, .int 1), (4, .int 0), (3, .ref o), (2, .ref mo), (1, .ref xo), (0, .ref b)]) hx hb dL_law_2239 hl (by decide) rfl (fun ls hl => ?_)
  refine lv_aload_n hx hb dL_law_2241 rfl (lv_at hl 4 rfl) ?_
  refine call_i (wr := [(xo, .inr (10, xC inp par pla dra lat his f1 f2 0 0 (-1) gx)), (pla, .inr (5, pC 0 0 0 gpl))]) C (run_V (As := []) (rest := []) C (m_thrown l D cI cZ cJ mo 0 0 (-1) 0 0 0 0 0 0 as ak ab ar gm 1 ) cV_L_187 hP hD hS [2] rfl rfl 0 rfl rfl rfl rfl hl.1 rfl (Nat.le_of_ble_eq_true rfl) dL_law_2242 ⟨Nat.le_of_ble_eq_true rfl, Nat.le_of_ble_eq_true rfl⟩ ⟨Nat.le_of_ble_eq_true rfl, Nat.le_of_ble_eq_true rfl⟩) hP hD hS [2] [0, 1] rfl rfl rfl (by decide) (fun u3 H locs hP hD hS => ?_)
  have hP : va_P D CL [(xo, .inr (10, xC inp par pla dra lat his f1 f2 0 0 (-1) gx)), (pla, .inr (5, pC 0 0 0 gpl)), (mo, .inr (11, mC 1 0 0 (-1) 0 0 0 0 0 0 as ak ab ar gm))] H := hP
  have hD : va_D A [(xo, .inr (10, xC inp par pla dra lat his f1 f2 0 0 (-1) gx)), (pla, .inr (5, pC 0 0 0 gpl)), (mo, .inr (11, mC 1 0 0 (-1) 0 0 0 0 0 0 as ak ab ar gm))] := hD
  refine W.widen (k := 2001) (n := 60006) (Nat.le_of_ble_eq_true rfl) (Nat.le_of_ble_eq_true rfl) ?_
  refine W.eq (g2 := F0 m 2245 ls [.int 1]) rfl ?_
  refine lv_iload hx hb dL_law_2245 (lv_at hl 1 rfl) ?_
  refine lv_icmp_eq (tgt := 2252) hx hb dL_law_2247 (by decide) (fun _ => ?_) (fun h => absurd (by decide) h)
  refine lv_iload hx hb dL_law_2252 (lv_at hl 1 rfl) ?_
  refine lv_if_ne (tgt := 2269) hx hb dL_law_2254 (by decide) (fun _ => ?_) (fun h => absurd h (by decide))
  refine lv_goto (tgt := 3186) hx hb dL_law_2269 (by decide) ?_
  exact law_exit K hS (lv_sub hl [6, 2] rfl) (Nat.le_of_ble_eq_true rfl) (Nat.le_of_ble_eq_true rfl)
set_option maxHeartbeats 4000000 in
set_option maxRecDepth 100000 in
theorem law_42 {p : Program} {l : Launch} {e : Env} {s : State} {m : MethodId} {below : List Frame} {meth : Method} {c : Code} {b : Nat} {xs : Nat → Int32} {D : va_G} {cI cZ cJ : ClassId} {A : Nat → Prop} (K : LCx p l s m meth c b 6 xs D cI cZ cJ A) {xo inp byt par pla dra lat his f1 f2 mo as ak ab ar o : Nat} {gx gpl gdr gla gf1 gf2 gpa ghi gm : Nat → Value}  {H : Heap} {locs : List Loc} {ls : Array Slot} (hP : va_P D CL (LW cI cZ xo inp byt par pla dra lat his f1 f2 mo as ak ab ar gx gpl gdr gla gf1 gf2 gpa ghi gm) H) (hD : va_D A (LW cI cZ xo inp byt par pla dra lat his f1 f2 mo as ak ab ar gx gpl gdr gla gf1 gf2 gpa ghi gm)) (hS : va_S A s.heap H locs) (hl : lv_has ls 8 [(4, .int 0), (3, .ref o), (2, .ref mo), (1, .ref xo), (0, .ref b)]) : W p l e room_1 s m #[Value.ref b] below meth c H locs 2000 60000 (lw_Z below #[Value.ref b] s) (F0 m 2272 ls []) := by
  obtain ⟨C, hX, hbl, hlt, hAA⟩ := id K
  have hx := C.1
  have hb := C.2.1
  have hbA : ¬ A b := fun h => absurd (hAA b h) (Nat.not_le.mpr hbl)
  have hP : va_P D CL [(xo, .inr (10, xC inp par pla dra lat his f1 f2 0 0 (-1) gx)), (inp, .inr (2, [.int 0, .int 0, .int 0, .int 0, .int 0, .int 0, .ref byt])), (byt, .inl (cI, 600, .inl (fun _ => 0))), (par, .inr (4, [.ref inp, .ref dra, gpa 2, .int 0, .int 0])), (pla, .inr (5, pC 0 0 0 gpl)), (dra, .inr (5, pC 0 0 0 gdr)), (lat, .inr (3, [.int 0, .long 0, gla 2, gla 3, gla 4])), (his, .inr (1, [.int 0, .int 0, ghi 2])), (f1, .inr (5, pC 0 0 0 gf1)), (f2, .inr (5, pC 0 0 0 gf2)), (mo, .inr (11, mC 0 0 0 (-1) 0 0 0 0 0 0 as ak ab ar gm)), (as, .inl (cI, 63, .inl (fun _ => 0))), (ak, .inl (cZ, 2, .inl (fun _ => 0))), (ab, .inl (cI, 600, .inl (fun _ => 0))), (ar, .inl (cI, 63, .inl (fun _ => 0)))] H := hP
  have hD : va_D A [(xo, .inr (10, xC inp par pla dra lat his f1 f2 0 0 (-1) gx)), (inp, .inr (2, [.int 0, .int 0, .int 0, .int 0, .int 0, .int 0, .ref byt])), (byt, .inl (cI, 600, .inl (fun _ => 0))), (par, .inr (4, [.ref inp, .ref dra, gpa 2, .int 0, .int 0])), (pla, .inr (5, pC 0 0 0 gpl)), (dra, .inr (5, pC 0 0 0 gdr)), (lat, .inr (3, [.int 0, .long 0, gla 2, gla 3, gla 4])), (his, .inr (1, [.int 0, .int 0, ghi 2])), (f1, .inr (5, pC 0 0 0 gf1)), (f2, .inr (5, pC 0 0 0 gf2)), (mo, .inr (11, mC 0 0 0 (-1) 0 0 0 0 0 0 as ak ab ar gm)), (as, .inl (cI, 63, .inl (fun _ => 0))), (ak, .inl (cZ, 2, .inl (fun _ => 0))), (ab, .inl (cI, 600, .inl (fun _ => 0))), (ar, .inl (cI, 63, .inl (fun _ => 0)))] := hD
  have hP := hP.sub (ws' := [(xo, .inr (10, xC inp par pla dra lat his f1 f2 0 0 (-1) gx)), (pla, .inr (5, pC 0 0 0 gpl)), (mo, .inr (11, mC 0 0 0 (-1) 0 0 0 0 0 0 as ak ab ar gm)), (as, .inl (cI, 63, .inl (fun _ => 0)))]) [0, 4, 10, 11] rfl
  have hD := hD.sub (ws' := [(xo, .inr (10, xC inp par pla dra lat his f1 f2 0 0 (-1) gx)), (pla, .inr (5, pC 0 0 0 gpl)), (mo, .inr (11, mC 0 0 0 (-1) 0 0 0 0 0 0 as ak ab ar gm)), (as, .inl (cI, 63, .inl (fun _ => 0)))]) [0, 4, 10, 11] (by decide) rfl
  refine lv_aload_n hx hb dL_law_2272 rfl (lv_at hl 3 rfl) ?_
  refine call_i (wr := [(mo, .inr (11, mC 0 0 0 (-1) 0 0 0 0 0 0 as ak ab ar gm)), (as, .inl (cI, 63, .inl (fun _ => 0)))]) C (run_V (As := []) (rest := []) C (k_treasures l D cI cZ cJ xo inp par pla dra lat his f1 f2 0 0 (-1) gx gpl ) cV_L_318 hP hD hS [0, 1] rfl rfl 0 rfl rfl rfl rfl hl.1 rfl (Nat.le_of_ble_eq_true rfl) dL_law_2273 ⟨Nat.le_of_ble_eq_true rfl, Nat.le_of_ble_eq_true rfl⟩ ⟨Nat.le_of_ble_eq_true rfl, Nat.le_of_ble_eq_true rfl⟩) hP hD hS [0, 1] [2, 3] rfl rfl rfl (by decide) (fun u1 H locs hP hD hS => ?_)
  have hP : va_P D CL [(mo, .inr (11, mC 0 0 0 (-1) 0 0 0 0 0 0 as ak ab ar gm)), (as, .inl (cI, 63, .inl (fun _ => 0))), (xo, .inr (10, xC inp par pla dra lat his f1 f2 0 0 (-1) gx)), (pla, .inr (5, pC 0 0 0 gpl))] H := hP
  have hD : va_D A [(mo, .inr (11, mC 0 0 0 (-1) 0 0 0 0 0 0 as ak ab ar gm)), (as, .inl (cI, 63, .inl (fun _ => 0))), (xo, .inr (10, xC inp par pla dra lat his f1 f2 0 0 (-1) gx)), (pla, .inr (5, pC 0 0 0 gpl))] := hD
  refine W.widen (k := 2000) (n := 60000) (Nat.le_of_ble_eq_true rfl) (Nat.le_of_ble_eq_true rfl) ?_
  refine W.eq (g2 := F0 m 2276 ls [.int 0]) rfl ?_
  refine lv_aload_n hx hb dL_law_2276 rfl (lv_at hl 2 rfl) ?_
  refine call_i (wr := [(xo, .inr (10, xC inp par pla dra lat his f1 f2 0 0 (-1) gx)), (pla, .inr (5, pC 0 0 0 gpl))]) C (run_V (As := []) (rest := [.int 0]) C (m_treasures l D cI cZ cJ mo 0 0 (-1) 0 0 0 0 0 0 as ak ab ar gm 0 (fun _ => 0) ) cV_L_321 hP hD hS [0, 1] rfl rfl 0 rfl rfl rfl rfl hl.1 rfl (Nat.le_of_ble_eq_true rfl) dL_law_2277 ⟨Nat.le_of_ble_eq_true rfl, Nat.le_of_ble_eq_true rfl⟩ ⟨Nat.le_of_ble_eq_true rfl, Nat.le_of_ble_eq_true rfl⟩) hP hD hS [0, 1] [2, 3] rfl rfl rfl (by decide) (fun u2 H locs hP hD hS => ?_)
  have hP : va_P D CL [(xo, .inr (10, xC inp par pla dra lat his f1 f2 0 0 (-1) gx)), (pla, .inr (5, pC 0 0 0 gpl)), (as, .inl (cI, 63, .inl (fun _ => 0))), (mo, .inr (11, mC 0 0 0 (-1) 0 0 0 0 0 0 as ak ab ar gm))] H := hP
  have hD : va_D A [(xo, .inr (10, xC inp par pla dra lat his f1 f2 0 0 (-1) gx)), (pla, .inr (5, pC 0 0 0 gpl)), (as, .inl (cI, 63, .inl (fun _ => 0))), (mo, .inr (11, mC 0 0 0 (-1) 0 0 0 0 0 0 as ak ab ar gm))] := hD
  refine W.widen (k := 2000) (n := 60000) (Nat.le_of_ble_eq_true rfl) (Nat.le_of_ble_eq_true rfl) ?_
  refine W.eq (g2 := F0 m 2280 ls [.int 0, .int 0]) rfl ?_
  refine lv_icmp_eq (tgt := 3186) hx hb dL_law_2280 (by decide) (fun _ => ?_) (fun h => absurd (by decide) h)
  exact law_exit K hS (lv_sub hl [4, 0] rfl) (Nat.le_of_ble_eq_true rfl) (Nat.le_of_ble_eq_true rfl)
set_option maxHeartbeats 4000000 in
set_option maxRecDepth 100000 in
theorem law_43 {p : Program} {l : Launch} {e : Env} {s : State} {m : MethodId} {below : List Frame} {meth : Method} {c : Code} {b : Nat} {xs : Nat → Int32} {D : va_G} {cI cZ cJ : ClassId} {A : Nat → Prop} (K : LCx p l s m meth c b 6 xs D cI cZ cJ A) {xo inp byt par pla dra lat his f1 f2 mo as ak ab ar o : Nat} {gx gpl gdr gla gf1 gf2 gpa ghi gm : Nat → Value}  {H : Heap} {locs : List Loc} {ls : Array Slot} (hP : va_P D CL (LW cI cZ xo inp byt par pla dra lat his f1 f2 mo as ak ab ar gx gpl gdr gla gf1 gf2 gpa ghi gm) H) (hD : va_D A (LW cI cZ xo inp byt par pla dra lat his f1 f2 mo as ak ab ar gx gpl gdr gla gf1 gf2 gpa ghi gm)) (hS : va_S A s.heap H locs) (hl : lv_has ls 8 [(4, .int 0), (3, .ref o), (2, .ref mo), (1, .ref xo), (0, .ref b)]) : W p l e room_1 s m #[Value.ref b] below meth c H locs 2000 60000 (lw_Z below #[Value.ref b] s) (F0 m 2285 ls []) := by
  obtain ⟨C, hX, hbl, hlt, hAA⟩ := id K
  have hx := C.1
  have hb := C.2.1
  have hbA : ¬ A b := fun h => absurd (hAA b h) (Nat.not_le.mpr hbl)
  have hP : va_P D CL [(xo, .inr (10, xC inp par pla dra lat his f1 f2 0 0 (-1) gx)), (inp, .inr (2, [.int 0, .int 0, .int 0, .int 0, .int 0, .int 0, .ref byt])), (byt, .inl (cI, 600, .inl (fun _ => 0))), (par, .inr (4, [.ref inp, .ref dra, gpa 2, .int 0, .int 0])), (pla, .inr (5, pC 0 0 0 gpl)), (dra, .inr (5, pC 0 0 0 gdr)), (lat, .inr (3, [.int 0, .long 0, gla 2, gla 3, gla 4])), (his, .inr (1, [.int 0, .int 0, ghi 2])), (f1, .inr (5, pC 0 0 0 gf1)), (f2, .inr (5, pC 0 0 0 gf2)), (mo, .inr (11, mC 0 0 0 (-1) 0 0 0 0 0 0 as ak ab ar gm)), (as, .inl (cI, 63, .inl (fun _ => 0))), (ak, .inl (cZ, 2, .inl (fun _ => 0))), (ab, .inl (cI, 600, .inl (fun _ => 0))), (ar, .inl (cI, 63, .inl (fun _ => 0)))] H := hP
  have hD : va_D A [(xo, .inr (10, xC inp par pla dra lat his f1 f2 0 0 (-1) gx)), (inp, .inr (2, [.int 0, .int 0, .int 0, .int 0, .int 0, .int 0, .ref byt])), (byt, .inl (cI, 600, .inl (fun _ => 0))), (par, .inr (4, [.ref inp, .ref dra, gpa 2, .int 0, .int 0])), (pla, .inr (5, pC 0 0 0 gpl)), (dra, .inr (5, pC 0 0 0 gdr)), (lat, .inr (3, [.int 0, .long 0, gla 2, gla 3, gla 4])), (his, .inr (1, [.int 0, .int 0, ghi 2])), (f1, .inr (5, pC 0 0 0 gf1)), (f2, .inr (5, pC 0 0 0 gf2)), (mo, .inr (11, mC 0 0 0 (-1) 0 0 0 0 0 0 as ak ab ar gm)), (as, .inl (cI, 63, .inl (fun _ => 0))), (ak, .inl (cZ, 2, .inl (fun _ => 0))), (ab, .inl (cI, 600, .inl (fun _ => 0))), (ar, .inl (cI, 63, .inl (fun _ => 0)))] := hD
  have hP := hP.sub (ws' := [(xo, .inr (10, xC inp par pla dra lat his f1 f2 0 0 (-1) gx)), (pla, .inr (5, pC 0 0 0 gpl)), (mo, .inr (11, mC 0 0 0 (-1) 0 0 0 0 0 0 as ak ab ar gm))]) [0, 4, 10] rfl
  have hD := hD.sub (ws' := [(xo, .inr (10, xC inp par pla dra lat his f1 f2 0 0 (-1) gx)), (pla, .inr (5, pC 0 0 0 gpl)), (mo, .inr (11, mC 0 0 0 (-1) 0 0 0 0 0 0 as ak ab ar gm))]) [0, 4, 10] (by decide) rfl
  refine lv_aload_n hx hb dL_law_2285 rfl (lv_at hl 3 rfl) ?_
  refine lv_aload_n hx hb dL_law_2286 rfl (lv_at hl 4 rfl) ?_
  refine lv_iload hx hb dL_law_2287 (lv_at hl 0 rfl) ?_
  refine lv_iconst (v := 1) hx hb dL_law_2289 (by decide) ?_
  refine lv_iadd hx hb dL_law_2290 ?_
  refine W.eq (g2 := F0 m 2291 ls [.int 1, .ref b, .ref xo]) rfl ?_
  refine va_sld hx hb hX hbl hbA hS (by unfold vp_in; decide) dL_law_2291 ?_
  refine W.eq (g2 := F0 m 2292 ls [.int (xs 1), .ref xo]) rfl ?_
  refine lv_aload_n hx hb dL_law_2292 rfl (lv_at hl 1 rfl) ?_
  refine call_i (wr := [(mo, .inr (11, mC 0 0 0 (-1) 0 0 0 0 0 0 as ak ab ar gm))]) C (run_SW (As := [.ref xo, .int (xs 1), .ref o]) (rest := []) C (h_treasureAt l hlt D cI cZ cJ xo inp par pla dra lat his f1 f2 0 0 (-1) gx gpl (xs 1) o ) cS_L_322 hP hD hS [0, 1] rfl rfl rfl hl.1 rfl (Nat.le_of_ble_eq_true rfl) dL_law_2293 ⟨Nat.le_of_ble_eq_true rfl, Nat.le_of_ble_eq_true rfl⟩ ⟨Nat.le_of_ble_eq_true rfl, Nat.le_of_ble_eq_true rfl⟩) hP hD hS [0, 1] [2] rfl rfl rfl (by decide) (fun u1 H locs hP hD hS => ?_)
  have hP : va_P D CL [(mo, .inr (11, mC 0 0 0 (-1) 0 0 0 0 0 0 as ak ab ar gm)), (xo, .inr (10, xC inp par pla dra lat his f1 f2 0 0 (-1) gx)), (pla, .inr (5, pC 0 0 0 gpl))] H := hP
  have hD : va_D A [(mo, .inr (11, mC 0 0 0 (-1) 0 0 0 0 0 0 as ak ab ar gm)), (xo, .inr (10, xC inp par pla dra lat his f1 f2 0 0 (-1) gx)), (pla, .inr (5, pC 0 0 0 gpl))] := hD
  refine W.widen (k := 2001) (n := 60006) (Nat.le_of_ble_eq_true rfl) (Nat.le_of_ble_eq_true rfl) ?_
  refine W.eq (g2 := F0 m 2296 ls [.int 1]) rfl ?_
  refine lv_istore (lv' := [(5, .int 1), (4, .int 0), (3, .ref o), (2, .ref mo), (1, .ref xo), (0, .ref b)]) hx hb dL_law_2296 hl (by decide) rfl (fun ls hl => ?_)
  refine lv_aload_n hx hb dL_law_2298 rfl (lv_at hl 3 rfl) ?_
  refine lv_aload_n hx hb dL_law_2299 rfl (lv_at hl 5 rfl) ?_
  refine lv_iload hx hb dL_law_2300 (lv_at hl 1 rfl) ?_
  refine lv_iconst (v := 1) hx hb dL_law_2302 (by decide) ?_
  refine lv_iadd hx hb dL_law_2303 ?_
  refine W.eq (g2 := F0 m 2304 ls [.int 1, .ref b, .ref mo]) rfl ?_
  refine va_sld hx hb hX hbl hbA hS (by unfold vp_in; decide) dL_law_2304 ?_
  refine W.eq (g2 := F0 m 2305 ls [.int (xs 1), .ref mo]) rfl ?_
  refine call_i (wr := [(xo, .inr (10, xC inp par pla dra lat his f1 f2 0 0 (-1) gx)), (pla, .inr (5, pC 0 0 0 gpl))]) C (run_V (As := [.int (xs 1)]) (rest := []) C (m_treasureAt l D cI cZ cJ mo 0 0 (-1) 0 0 0 0 0 0 as ak ab ar gm 0 (xs 1) ) cV_L_324 hP hD hS [0] rfl rfl 0 rfl rfl rfl rfl hl.1 rfl (Nat.le_of_ble_eq_true rfl) dL_law_2305 ⟨Nat.le_of_ble_eq_true rfl, Nat.le_of_ble_eq_true rfl⟩ ⟨Nat.le_of_ble_eq_true rfl, Nat.le_of_ble_eq_true rfl⟩) hP hD hS [0] [1, 2] rfl rfl rfl (by decide) (fun u2 H locs hP hD hS => ?_)
  have hP : va_P D CL [(xo, .inr (10, xC inp par pla dra lat his f1 f2 0 0 (-1) gx)), (pla, .inr (5, pC 0 0 0 gpl)), (mo, .inr (11, mC 1 0 0 (-1) 0 0 0 0 0 0 as ak ab ar gm))] H := hP
  have hD : va_D A [(xo, .inr (10, xC inp par pla dra lat his f1 f2 0 0 (-1) gx)), (pla, .inr (5, pC 0 0 0 gpl)), (mo, .inr (11, mC 1 0 0 (-1) 0 0 0 0 0 0 as ak ab ar gm))] := hD
  refine W.widen (k := 2001) (n := 60006) (Nat.le_of_ble_eq_true rfl) (Nat.le_of_ble_eq_true rfl) ?_
  refine W.eq (g2 := F0 m 2308 ls [.int 0]) rfl ?_
  refine lv_istore (lv' := [(6, .int 0), (5, .int 1), (4, .int 0), (3, .ref o), (2, .ref mo), (1, .ref xo), (0, .ref b)]) hx hb dL_law_2308 hl (by decide) rfl (fun ls hl => ?_)
  refine lv_aload_n hx hb dL_law_2310 rfl (lv_at hl 4 rfl) ?_
  refine call_i (wr := [(xo, .inr (10, xC inp par pla dra lat his f1 f2 0 0 (-1) gx)), (pla, .inr (5, pC 0 0 0 gpl))]) C (run_V (As := []) (rest := []) C (m_thrown l D cI cZ cJ mo 0 0 (-1) 0 0 0 0 0 0 as ak ab ar gm 1 ) cV_L_187 hP hD hS [2] rfl rfl 0 rfl rfl rfl rfl hl.1 rfl (Nat.le_of_ble_eq_true rfl) dL_law_2311 ⟨Nat.le_of_ble_eq_true rfl, Nat.le_of_ble_eq_true rfl⟩ ⟨Nat.le_of_ble_eq_true rfl, Nat.le_of_ble_eq_true rfl⟩) hP hD hS [2] [0, 1] rfl rfl rfl (by decide) (fun u3 H locs hP hD hS => ?_)
  have hP : va_P D CL [(xo, .inr (10, xC inp par pla dra lat his f1 f2 0 0 (-1) gx)), (pla, .inr (5, pC 0 0 0 gpl)), (mo, .inr (11, mC 1 0 0 (-1) 0 0 0 0 0 0 as ak ab ar gm))] H := hP
  have hD : va_D A [(xo, .inr (10, xC inp par pla dra lat his f1 f2 0 0 (-1) gx)), (pla, .inr (5, pC 0 0 0 gpl)), (mo, .inr (11, mC 1 0 0 (-1) 0 0 0 0 0 0 as ak ab ar gm))] := hD
  refine W.widen (k := 2001) (n := 60006) (Nat.le_of_ble_eq_true rfl) (Nat.le_of_ble_eq_true rfl) ?_
  refine W.eq (g2 := F0 m 2314 ls [.int 1]) rfl ?_
  refine lv_iload hx hb dL_law_2314 (lv_at hl 1 rfl) ?_
  refine lv_icmp_eq (tgt := 2321) hx hb dL_law_2316 (by decide) (fun _ => ?_) (fun h => absurd (by decide) h)
  refine lv_iload hx hb dL_law_2321 (lv_at hl 1 rfl) ?_
  refine lv_if_ne (tgt := 2338) hx hb dL_law_2323 (by decide) (fun _ => ?_) (fun h => absurd h (by decide))
  refine lv_goto (tgt := 3186) hx hb dL_law_2338 (by decide) ?_
  exact law_exit K hS (lv_sub hl [6, 2] rfl) (Nat.le_of_ble_eq_true rfl) (Nat.le_of_ble_eq_true rfl)
set_option maxHeartbeats 4000000 in
set_option maxRecDepth 100000 in
theorem law_44 {p : Program} {l : Launch} {e : Env} {s : State} {m : MethodId} {below : List Frame} {meth : Method} {c : Code} {b : Nat} {xs : Nat → Int32} {D : va_G} {cI cZ cJ : ClassId} {A : Nat → Prop} (K : LCx p l s m meth c b 6 xs D cI cZ cJ A) {xo inp byt par pla dra lat his f1 f2 mo as ak ab ar o : Nat} {gx gpl gdr gla gf1 gf2 gpa ghi gm : Nat → Value}  {H : Heap} {locs : List Loc} {ls : Array Slot} (hP : va_P D CL (LW cI cZ xo inp byt par pla dra lat his f1 f2 mo as ak ab ar gx gpl gdr gla gf1 gf2 gpa ghi gm) H) (hD : va_D A (LW cI cZ xo inp byt par pla dra lat his f1 f2 mo as ak ab ar gx gpl gdr gla gf1 gf2 gpa ghi gm)) (hS : va_S A s.heap H locs) (hl : lv_has ls 8 [(4, .int 0), (3, .ref o), (2, .ref mo), (1, .ref xo), (0, .ref b)]) : W p l e room_1 s m #[Value.ref b] below meth c H locs 2000 60000 (lw_Z below #[Value.ref b] s) (F0 m 2341 ls []) := by
  obtain ⟨C, hX, hbl, hlt, hAA⟩ := id K
  have hx := C.1
  have hb := C.2.1
  have hbA : ¬ A b := fun h => absurd (hAA b h) (Nat.not_le.mpr hbl)
  have hP : va_P D CL [(xo, .inr (10, xC inp par pla dra lat his f1 f2 0 0 (-1) gx)), (inp, .inr (2, [.int 0, .int 0, .int 0, .int 0, .int 0, .int 0, .ref byt])), (byt, .inl (cI, 600, .inl (fun _ => 0))), (par, .inr (4, [.ref inp, .ref dra, gpa 2, .int 0, .int 0])), (pla, .inr (5, pC 0 0 0 gpl)), (dra, .inr (5, pC 0 0 0 gdr)), (lat, .inr (3, [.int 0, .long 0, gla 2, gla 3, gla 4])), (his, .inr (1, [.int 0, .int 0, ghi 2])), (f1, .inr (5, pC 0 0 0 gf1)), (f2, .inr (5, pC 0 0 0 gf2)), (mo, .inr (11, mC 0 0 0 (-1) 0 0 0 0 0 0 as ak ab ar gm)), (as, .inl (cI, 63, .inl (fun _ => 0))), (ak, .inl (cZ, 2, .inl (fun _ => 0))), (ab, .inl (cI, 600, .inl (fun _ => 0))), (ar, .inl (cI, 63, .inl (fun _ => 0)))] H := hP
  have hD : va_D A [(xo, .inr (10, xC inp par pla dra lat his f1 f2 0 0 (-1) gx)), (inp, .inr (2, [.int 0, .int 0, .int 0, .int 0, .int 0, .int 0, .ref byt])), (byt, .inl (cI, 600, .inl (fun _ => 0))), (par, .inr (4, [.ref inp, .ref dra, gpa 2, .int 0, .int 0])), (pla, .inr (5, pC 0 0 0 gpl)), (dra, .inr (5, pC 0 0 0 gdr)), (lat, .inr (3, [.int 0, .long 0, gla 2, gla 3, gla 4])), (his, .inr (1, [.int 0, .int 0, ghi 2])), (f1, .inr (5, pC 0 0 0 gf1)), (f2, .inr (5, pC 0 0 0 gf2)), (mo, .inr (11, mC 0 0 0 (-1) 0 0 0 0 0 0 as ak ab ar gm)), (as, .inl (cI, 63, .inl (fun _ => 0))), (ak, .inl (cZ, 2, .inl (fun _ => 0))), (ab, .inl (cI, 600, .inl (fun _ => 0))), (ar, .inl (cI, 63, .inl (fun _ => 0)))] := hD
  have hP := hP.sub (ws' := [(xo, .inr (10, xC inp par pla dra lat his f1 f2 0 0 (-1) gx)), (pla, .inr (5, pC 0 0 0 gpl)), (mo, .inr (11, mC 0 0 0 (-1) 0 0 0 0 0 0 as ak ab ar gm))]) [0, 4, 10] rfl
  have hD := hD.sub (ws' := [(xo, .inr (10, xC inp par pla dra lat his f1 f2 0 0 (-1) gx)), (pla, .inr (5, pC 0 0 0 gpl)), (mo, .inr (11, mC 0 0 0 (-1) 0 0 0 0 0 0 as ak ab ar gm))]) [0, 4, 10] (by decide) rfl
  refine lv_aload_n hx hb dL_law_2341 rfl (lv_at hl 3 rfl) ?_
  refine lv_aload_n hx hb dL_law_2342 rfl (lv_at hl 1 rfl) ?_
  refine call_i (wr := [(mo, .inr (11, mC 0 0 0 (-1) 0 0 0 0 0 0 as ak ab ar gm))]) C (run_SW (As := [.ref xo, .ref o]) (rest := []) C (h_watchedValue l hlt D cI cZ cJ xo inp par pla dra lat his f1 f2 0 0 (-1) gx gpl o ) cS_L_325 hP hD hS [0, 1] rfl rfl rfl hl.1 rfl (Nat.le_of_ble_eq_true rfl) dL_law_2343 ⟨Nat.le_of_ble_eq_true rfl, Nat.le_of_ble_eq_true rfl⟩ ⟨Nat.le_of_ble_eq_true rfl, Nat.le_of_ble_eq_true rfl⟩) hP hD hS [0, 1] [2] rfl rfl rfl (by decide) (fun u1 H locs hP hD hS => ?_)
  have hP : va_P D CL [(mo, .inr (11, mC 0 0 0 (-1) 0 0 0 0 0 0 as ak ab ar gm)), (xo, .inr (10, xC inp par pla dra lat his f1 f2 0 0 (-1) gx)), (pla, .inr (5, pC 0 0 0 gpl))] H := hP
  have hD : va_D A [(mo, .inr (11, mC 0 0 0 (-1) 0 0 0 0 0 0 as ak ab ar gm)), (xo, .inr (10, xC inp par pla dra lat his f1 f2 0 0 (-1) gx)), (pla, .inr (5, pC 0 0 0 gpl))] := hD
  refine W.widen (k := 2001) (n := 60006) (Nat.le_of_ble_eq_true rfl) (Nat.le_of_ble_eq_true rfl) ?_
  refine W.eq (g2 := F0 m 2346 ls [.int 1]) rfl ?_
  refine lv_istore (lv' := [(5, .int 1), (4, .int 0), (3, .ref o), (2, .ref mo), (1, .ref xo), (0, .ref b)]) hx hb dL_law_2346 hl (by decide) rfl (fun ls hl => ?_)
  refine lv_aload_n hx hb dL_law_2348 rfl (lv_at hl 3 rfl) ?_
  refine call_i (wr := [(xo, .inr (10, xC inp par pla dra lat his f1 f2 0 0 (-1) gx)), (pla, .inr (5, pC 0 0 0 gpl))]) C (run_V (As := []) (rest := []) C (m_watchedValue l D cI cZ cJ mo 0 0 (-1) 0 0 0 0 0 0 as ak ab ar gm 0 ) cV_L_327 hP hD hS [0] rfl rfl 0 rfl rfl rfl rfl hl.1 rfl (Nat.le_of_ble_eq_true rfl) dL_law_2349 ⟨Nat.le_of_ble_eq_true rfl, Nat.le_of_ble_eq_true rfl⟩ ⟨Nat.le_of_ble_eq_true rfl, Nat.le_of_ble_eq_true rfl⟩) hP hD hS [0] [1, 2] rfl rfl rfl (by decide) (fun u2 H locs hP hD hS => ?_)
  have hP : va_P D CL [(xo, .inr (10, xC inp par pla dra lat his f1 f2 0 0 (-1) gx)), (pla, .inr (5, pC 0 0 0 gpl)), (mo, .inr (11, mC 1 0 0 (-1) 0 0 0 0 0 0 as ak ab ar gm))] H := hP
  have hD : va_D A [(xo, .inr (10, xC inp par pla dra lat his f1 f2 0 0 (-1) gx)), (pla, .inr (5, pC 0 0 0 gpl)), (mo, .inr (11, mC 1 0 0 (-1) 0 0 0 0 0 0 as ak ab ar gm))] := hD
  refine W.widen (k := 2001) (n := 60006) (Nat.le_of_ble_eq_true rfl) (Nat.le_of_ble_eq_true rfl) ?_
  refine W.eq (g2 := F0 m 2352 ls [.int 0]) rfl ?_
  refine lv_istore (lv' := [(6, .int 0), (5, .int 1), (4, .int 0), (3, .ref o), (2, .ref mo), (1, .ref xo), (0, .ref b)]) hx hb dL_law_2352 hl (by decide) rfl (fun ls hl => ?_)
  refine lv_aload_n hx hb dL_law_2354 rfl (lv_at hl 4 rfl) ?_
  refine call_i (wr := [(xo, .inr (10, xC inp par pla dra lat his f1 f2 0 0 (-1) gx)), (pla, .inr (5, pC 0 0 0 gpl))]) C (run_V (As := []) (rest := []) C (m_thrown l D cI cZ cJ mo 0 0 (-1) 0 0 0 0 0 0 as ak ab ar gm 1 ) cV_L_187 hP hD hS [2] rfl rfl 0 rfl rfl rfl rfl hl.1 rfl (Nat.le_of_ble_eq_true rfl) dL_law_2355 ⟨Nat.le_of_ble_eq_true rfl, Nat.le_of_ble_eq_true rfl⟩ ⟨Nat.le_of_ble_eq_true rfl, Nat.le_of_ble_eq_true rfl⟩) hP hD hS [2] [0, 1] rfl rfl rfl (by decide) (fun u3 H locs hP hD hS => ?_)
  have hP : va_P D CL [(xo, .inr (10, xC inp par pla dra lat his f1 f2 0 0 (-1) gx)), (pla, .inr (5, pC 0 0 0 gpl)), (mo, .inr (11, mC 1 0 0 (-1) 0 0 0 0 0 0 as ak ab ar gm))] H := hP
  have hD : va_D A [(xo, .inr (10, xC inp par pla dra lat his f1 f2 0 0 (-1) gx)), (pla, .inr (5, pC 0 0 0 gpl)), (mo, .inr (11, mC 1 0 0 (-1) 0 0 0 0 0 0 as ak ab ar gm))] := hD
  refine W.widen (k := 2001) (n := 60006) (Nat.le_of_ble_eq_true rfl) (Nat.le_of_ble_eq_true rfl) ?_
  refine W.eq (g2 := F0 m 2358 ls [.int 1]) rfl ?_
  refine lv_iload hx hb dL_law_2358 (lv_at hl 1 rfl) ?_
  refine lv_icmp_eq (tgt := 2365) hx hb dL_law_2360 (by decide) (fun _ => ?_) (fun h => absurd (by decide) h)
  refine lv_iload hx hb dL_law_2365 (lv_at hl 1 rfl) ?_
  refine lv_if_ne (tgt := 2382) hx hb dL_law_2367 (by decide) (fun _ => ?_) (fun h => absurd h (by decide))
  refine lv_goto (tgt := 3186) hx hb dL_law_2382 (by decide) ?_
  exact law_exit K hS (lv_sub hl [6, 2] rfl) (Nat.le_of_ble_eq_true rfl) (Nat.le_of_ble_eq_true rfl)
set_option maxHeartbeats 4000000 in
set_option maxRecDepth 100000 in
theorem law_45 {p : Program} {l : Launch} {e : Env} {s : State} {m : MethodId} {below : List Frame} {meth : Method} {c : Code} {b : Nat} {xs : Nat → Int32} {D : va_G} {cI cZ cJ : ClassId} {A : Nat → Prop} (K : LCx p l s m meth c b 6 xs D cI cZ cJ A) {xo inp byt par pla dra lat his f1 f2 mo as ak ab ar o : Nat} {gx gpl gdr gla gf1 gf2 gpa ghi gm : Nat → Value}  {H : Heap} {locs : List Loc} {ls : Array Slot} (hP : va_P D CL (LW cI cZ xo inp byt par pla dra lat his f1 f2 mo as ak ab ar gx gpl gdr gla gf1 gf2 gpa ghi gm) H) (hD : va_D A (LW cI cZ xo inp byt par pla dra lat his f1 f2 mo as ak ab ar gx gpl gdr gla gf1 gf2 gpa ghi gm)) (hS : va_S A s.heap H locs) (hl : lv_has ls 8 [(4, .int 0), (3, .ref o), (2, .ref mo), (1, .ref xo), (0, .ref b)]) : W p l e room_1 s m #[Value.ref b] below meth c H locs 2000 60000 (lw_Z below #[Value.ref b] s) (F0 m 2385 ls []) := by
  obtain ⟨C, hX, hbl, hlt, hAA⟩ := id K
  have hx := C.1
  have hb := C.2.1
  have hbA : ¬ A b := fun h => absurd (hAA b h) (Nat.not_le.mpr hbl)
  have hP : va_P D CL [(xo, .inr (10, xC inp par pla dra lat his f1 f2 0 0 (-1) gx)), (inp, .inr (2, [.int 0, .int 0, .int 0, .int 0, .int 0, .int 0, .ref byt])), (byt, .inl (cI, 600, .inl (fun _ => 0))), (par, .inr (4, [.ref inp, .ref dra, gpa 2, .int 0, .int 0])), (pla, .inr (5, pC 0 0 0 gpl)), (dra, .inr (5, pC 0 0 0 gdr)), (lat, .inr (3, [.int 0, .long 0, gla 2, gla 3, gla 4])), (his, .inr (1, [.int 0, .int 0, ghi 2])), (f1, .inr (5, pC 0 0 0 gf1)), (f2, .inr (5, pC 0 0 0 gf2)), (mo, .inr (11, mC 0 0 0 (-1) 0 0 0 0 0 0 as ak ab ar gm)), (as, .inl (cI, 63, .inl (fun _ => 0))), (ak, .inl (cZ, 2, .inl (fun _ => 0))), (ab, .inl (cI, 600, .inl (fun _ => 0))), (ar, .inl (cI, 63, .inl (fun _ => 0)))] H := hP
  have hD : va_D A [(xo, .inr (10, xC inp par pla dra lat his f1 f2 0 0 (-1) gx)), (inp, .inr (2, [.int 0, .int 0, .int 0, .int 0, .int 0, .int 0, .ref byt])), (byt, .inl (cI, 600, .inl (fun _ => 0))), (par, .inr (4, [.ref inp, .ref dra, gpa 2, .int 0, .int 0])), (pla, .inr (5, pC 0 0 0 gpl)), (dra, .inr (5, pC 0 0 0 gdr)), (lat, .inr (3, [.int 0, .long 0, gla 2, gla 3, gla 4])), (his, .inr (1, [.int 0, .int 0, ghi 2])), (f1, .inr (5, pC 0 0 0 gf1)), (f2, .inr (5, pC 0 0 0 gf2)), (mo, .inr (11, mC 0 0 0 (-1) 0 0 0 0 0 0 as ak ab ar gm)), (as, .inl (cI, 63, .inl (fun _ => 0))), (ak, .inl (cZ, 2, .inl (fun _ => 0))), (ab, .inl (cI, 600, .inl (fun _ => 0))), (ar, .inl (cI, 63, .inl (fun _ => 0)))] := hD
  have hP := hP.sub (ws' := [(xo, .inr (10, xC inp par pla dra lat his f1 f2 0 0 (-1) gx)), (pla, .inr (5, pC 0 0 0 gpl)), (mo, .inr (11, mC 0 0 0 (-1) 0 0 0 0 0 0 as ak ab ar gm))]) [0, 4, 10] rfl
  have hD := hD.sub (ws' := [(xo, .inr (10, xC inp par pla dra lat his f1 f2 0 0 (-1) gx)), (pla, .inr (5, pC 0 0 0 gpl)), (mo, .inr (11, mC 0 0 0 (-1) 0 0 0 0 0 0 as ak ab ar gm))]) [0, 4, 10] (by decide) rfl
  refine lv_aload_n hx hb dL_law_2385 rfl (lv_at hl 3 rfl) ?_
  refine lv_aload_n hx hb dL_law_2386 rfl (lv_at hl 1 rfl) ?_
  refine call_i (wr := [(mo, .inr (11, mC 0 0 0 (-1) 0 0 0 0 0 0 as ak ab ar gm))]) C (run_SW (As := [.ref xo, .ref o]) (rest := []) C (h_bestValue l hlt D cI cZ cJ xo inp par pla dra lat his f1 f2 0 0 (-1) gx gpl o ) cS_L_328 hP hD hS [0, 1] rfl rfl rfl hl.1 rfl (Nat.le_of_ble_eq_true rfl) dL_law_2387 ⟨Nat.le_of_ble_eq_true rfl, Nat.le_of_ble_eq_true rfl⟩ ⟨Nat.le_of_ble_eq_true rfl, Nat.le_of_ble_eq_true rfl⟩) hP hD hS [0, 1] [2] rfl rfl rfl (by decide) (fun u1 H locs hP hD hS => ?_)
  have hP : va_P D CL [(mo, .inr (11, mC 0 0 0 (-1) 0 0 0 0 0 0 as ak ab ar gm)), (xo, .inr (10, xC inp par pla dra lat his f1 f2 0 0 (-1) gx)), (pla, .inr (5, pC 0 0 0 gpl))] H := hP
  have hD : va_D A [(mo, .inr (11, mC 0 0 0 (-1) 0 0 0 0 0 0 as ak ab ar gm)), (xo, .inr (10, xC inp par pla dra lat his f1 f2 0 0 (-1) gx)), (pla, .inr (5, pC 0 0 0 gpl))] := hD
  refine W.widen (k := 2001) (n := 60006) (Nat.le_of_ble_eq_true rfl) (Nat.le_of_ble_eq_true rfl) ?_
  refine W.eq (g2 := F0 m 2390 ls [.int 1]) rfl ?_
  refine lv_istore (lv' := [(5, .int 1), (4, .int 0), (3, .ref o), (2, .ref mo), (1, .ref xo), (0, .ref b)]) hx hb dL_law_2390 hl (by decide) rfl (fun ls hl => ?_)
  refine lv_aload_n hx hb dL_law_2392 rfl (lv_at hl 3 rfl) ?_
  refine call_i (wr := [(xo, .inr (10, xC inp par pla dra lat his f1 f2 0 0 (-1) gx)), (pla, .inr (5, pC 0 0 0 gpl))]) C (run_V (As := []) (rest := []) C (m_bestValue l D cI cZ cJ mo 0 0 (-1) 0 0 0 0 0 0 as ak ab ar gm 0 ) cV_L_330 hP hD hS [0] rfl rfl 0 rfl rfl rfl rfl hl.1 rfl (Nat.le_of_ble_eq_true rfl) dL_law_2393 ⟨Nat.le_of_ble_eq_true rfl, Nat.le_of_ble_eq_true rfl⟩ ⟨Nat.le_of_ble_eq_true rfl, Nat.le_of_ble_eq_true rfl⟩) hP hD hS [0] [1, 2] rfl rfl rfl (by decide) (fun u2 H locs hP hD hS => ?_)
  have hP : va_P D CL [(xo, .inr (10, xC inp par pla dra lat his f1 f2 0 0 (-1) gx)), (pla, .inr (5, pC 0 0 0 gpl)), (mo, .inr (11, mC 1 0 0 (-1) 0 0 0 0 0 0 as ak ab ar gm))] H := hP
  have hD : va_D A [(xo, .inr (10, xC inp par pla dra lat his f1 f2 0 0 (-1) gx)), (pla, .inr (5, pC 0 0 0 gpl)), (mo, .inr (11, mC 1 0 0 (-1) 0 0 0 0 0 0 as ak ab ar gm))] := hD
  refine W.widen (k := 2001) (n := 60006) (Nat.le_of_ble_eq_true rfl) (Nat.le_of_ble_eq_true rfl) ?_
  refine W.eq (g2 := F0 m 2396 ls [.int 0]) rfl ?_
  refine lv_istore (lv' := [(6, .int 0), (5, .int 1), (4, .int 0), (3, .ref o), (2, .ref mo), (1, .ref xo), (0, .ref b)]) hx hb dL_law_2396 hl (by decide) rfl (fun ls hl => ?_)
  refine lv_aload_n hx hb dL_law_2398 rfl (lv_at hl 4 rfl) ?_
  refine call_i (wr := [(xo, .inr (10, xC inp par pla dra lat his f1 f2 0 0 (-1) gx)), (pla, .inr (5, pC 0 0 0 gpl))]) C (run_V (As := []) (rest := []) C (m_thrown l D cI cZ cJ mo 0 0 (-1) 0 0 0 0 0 0 as ak ab ar gm 1 ) cV_L_187 hP hD hS [2] rfl rfl 0 rfl rfl rfl rfl hl.1 rfl (Nat.le_of_ble_eq_true rfl) dL_law_2399 ⟨Nat.le_of_ble_eq_true rfl, Nat.le_of_ble_eq_true rfl⟩ ⟨Nat.le_of_ble_eq_true rfl, Nat.le_of_ble_eq_true rfl⟩) hP hD hS [2] [0, 1] rfl rfl rfl (by decide) (fun u3 H locs hP hD hS => ?_)
  have hP : va_P D CL [(xo, .inr (10, xC inp par pla dra lat his f1 f2 0 0 (-1) gx)), (pla, .inr (5, pC 0 0 0 gpl)), (mo, .inr (11, mC 1 0 0 (-1) 0 0 0 0 0 0 as ak ab ar gm))] H := hP
  have hD : va_D A [(xo, .inr (10, xC inp par pla dra lat his f1 f2 0 0 (-1) gx)), (pla, .inr (5, pC 0 0 0 gpl)), (mo, .inr (11, mC 1 0 0 (-1) 0 0 0 0 0 0 as ak ab ar gm))] := hD
  refine W.widen (k := 2001) (n := 60006) (Nat.le_of_ble_eq_true rfl) (Nat.le_of_ble_eq_true rfl) ?_
  refine W.eq (g2 := F0 m 2402 ls [.int 1]) rfl ?_
  refine lv_iload hx hb dL_law_2402 (lv_at hl 1 rfl) ?_
  refine lv_icmp_eq (tgt := 2409) hx hb dL_law_2404 (by decide) (fun _ => ?_) (fun h => absurd (by decide) h)
  refine lv_iload hx hb dL_law_2409 (lv_at hl 1 rfl) ?_
  refine lv_if_ne (tgt := 2426) hx hb dL_law_2411 (by decide) (fun _ => ?_) (fun h => absurd h (by decide))
  refine lv_goto (tgt := 3186) hx hb dL_law_2426 (by decide) ?_
  exact law_exit K hS (lv_sub hl [6, 2] rfl) (Nat.le_of_ble_eq_true rfl) (Nat.le_of_ble_eq_true rfl)
set_option maxHeartbeats 4000000 in
set_option maxRecDepth 100000 in
theorem law_46 {p : Program} {l : Launch} {e : Env} {s : State} {m : MethodId} {below : List Frame} {meth : Method} {c : Code} {b : Nat} {xs : Nat → Int32} {D : va_G} {cI cZ cJ : ClassId} {A : Nat → Prop} (K : LCx p l s m meth c b 6 xs D cI cZ cJ A) {xo inp byt par pla dra lat his f1 f2 mo as ak ab ar o : Nat} {gx gpl gdr gla gf1 gf2 gpa ghi gm : Nat → Value}  {H : Heap} {locs : List Loc} {ls : Array Slot} (hP : va_P D CL (LW cI cZ xo inp byt par pla dra lat his f1 f2 mo as ak ab ar gx gpl gdr gla gf1 gf2 gpa ghi gm) H) (hD : va_D A (LW cI cZ xo inp byt par pla dra lat his f1 f2 mo as ak ab ar gx gpl gdr gla gf1 gf2 gpa ghi gm)) (hS : va_S A s.heap H locs) (hl : lv_has ls 8 [(4, .int 0), (3, .ref o), (2, .ref mo), (1, .ref xo), (0, .ref b)]) : W p l e room_1 s m #[Value.ref b] below meth c H locs 2000 60000 (lw_Z below #[Value.ref b] s) (F0 m 2429 ls []) := by
  obtain ⟨C, hX, hbl, hlt, hAA⟩ := id K
  have hx := C.1
  have hb := C.2.1
  have hbA : ¬ A b := fun h => absurd (hAA b h) (Nat.not_le.mpr hbl)
  have hP : va_P D CL [(xo, .inr (10, xC inp par pla dra lat his f1 f2 0 0 (-1) gx)), (inp, .inr (2, [.int 0, .int 0, .int 0, .int 0, .int 0, .int 0, .ref byt])), (byt, .inl (cI, 600, .inl (fun _ => 0))), (par, .inr (4, [.ref inp, .ref dra, gpa 2, .int 0, .int 0])), (pla, .inr (5, pC 0 0 0 gpl)), (dra, .inr (5, pC 0 0 0 gdr)), (lat, .inr (3, [.int 0, .long 0, gla 2, gla 3, gla 4])), (his, .inr (1, [.int 0, .int 0, ghi 2])), (f1, .inr (5, pC 0 0 0 gf1)), (f2, .inr (5, pC 0 0 0 gf2)), (mo, .inr (11, mC 0 0 0 (-1) 0 0 0 0 0 0 as ak ab ar gm)), (as, .inl (cI, 63, .inl (fun _ => 0))), (ak, .inl (cZ, 2, .inl (fun _ => 0))), (ab, .inl (cI, 600, .inl (fun _ => 0))), (ar, .inl (cI, 63, .inl (fun _ => 0)))] H := hP
  have hD : va_D A [(xo, .inr (10, xC inp par pla dra lat his f1 f2 0 0 (-1) gx)), (inp, .inr (2, [.int 0, .int 0, .int 0, .int 0, .int 0, .int 0, .ref byt])), (byt, .inl (cI, 600, .inl (fun _ => 0))), (par, .inr (4, [.ref inp, .ref dra, gpa 2, .int 0, .int 0])), (pla, .inr (5, pC 0 0 0 gpl)), (dra, .inr (5, pC 0 0 0 gdr)), (lat, .inr (3, [.int 0, .long 0, gla 2, gla 3, gla 4])), (his, .inr (1, [.int 0, .int 0, ghi 2])), (f1, .inr (5, pC 0 0 0 gf1)), (f2, .inr (5, pC 0 0 0 gf2)), (mo, .inr (11, mC 0 0 0 (-1) 0 0 0 0 0 0 as ak ab ar gm)), (as, .inl (cI, 63, .inl (fun _ => 0))), (ak, .inl (cZ, 2, .inl (fun _ => 0))), (ab, .inl (cI, 600, .inl (fun _ => 0))), (ar, .inl (cI, 63, .inl (fun _ => 0)))] := hD
  have hP := hP.sub (ws' := [(xo, .inr (10, xC inp par pla dra lat his f1 f2 0 0 (-1) gx)), (pla, .inr (5, pC 0 0 0 gpl)), (mo, .inr (11, mC 0 0 0 (-1) 0 0 0 0 0 0 as ak ab ar gm))]) [0, 4, 10] rfl
  have hD := hD.sub (ws' := [(xo, .inr (10, xC inp par pla dra lat his f1 f2 0 0 (-1) gx)), (pla, .inr (5, pC 0 0 0 gpl)), (mo, .inr (11, mC 0 0 0 (-1) 0 0 0 0 0 0 as ak ab ar gm))]) [0, 4, 10] (by decide) rfl
  refine lv_aload_n hx hb dL_law_2429 rfl (lv_at hl 3 rfl) ?_
  refine lv_aload_n hx hb dL_law_2430 rfl (lv_at hl 4 rfl) ?_
  refine lv_iload hx hb dL_law_2431 (lv_at hl 0 rfl) ?_
  refine lv_iconst (v := 1) hx hb dL_law_2433 (by decide) ?_
  refine lv_iadd hx hb dL_law_2434 ?_
  refine W.eq (g2 := F0 m 2435 ls [.int 1, .ref b, .ref xo]) rfl ?_
  refine va_sld hx hb hX hbl hbA hS (by unfold vp_in; decide) dL_law_2435 ?_
  refine W.eq (g2 := F0 m 2436 ls [.int (xs 1), .ref xo]) rfl ?_
  refine lv_aload_n hx hb dL_law_2436 rfl (lv_at hl 1 rfl) ?_
  refine call_i (wr := [(mo, .inr (11, mC 0 0 0 (-1) 0 0 0 0 0 0 as ak ab ar gm))]) C (run_SW (As := [.ref xo, .int (xs 1), .ref o]) (rest := []) C (h_draw l hlt D cI cZ cJ xo inp par pla dra lat his f1 f2 0 0 (-1) gx gpl (xs 1) o ) cS_L_331 hP hD hS [0, 1] rfl rfl rfl hl.1 rfl (Nat.le_of_ble_eq_true rfl) dL_law_2437 ⟨Nat.le_of_ble_eq_true rfl, Nat.le_of_ble_eq_true rfl⟩ ⟨Nat.le_of_ble_eq_true rfl, Nat.le_of_ble_eq_true rfl⟩) hP hD hS [0, 1] [2] rfl rfl rfl (by decide) (fun u1 H locs hP hD hS => ?_)
  have hP : va_P D CL [(mo, .inr (11, mC 0 0 0 (-1) 0 0 0 0 0 0 as ak ab ar gm)), (xo, .inr (10, xC inp par pla dra lat his f1 f2 0 0 (-1) gx)), (pla, .inr (5, pC 0 0 0 gpl))] H := hP
  have hD : va_D A [(mo, .inr (11, mC 0 0 0 (-1) 0 0 0 0 0 0 as ak ab ar gm)), (xo, .inr (10, xC inp par pla dra lat his f1 f2 0 0 (-1) gx)), (pla, .inr (5, pC 0 0 0 gpl))] := hD
  refine W.widen (k := 2001) (n := 60006) (Nat.le_of_ble_eq_true rfl) (Nat.le_of_ble_eq_true rfl) ?_
  refine W.eq (g2 := F0 m 2440 ls [.int 1]) rfl ?_
  refine lv_istore (lv' := [(5, .int 1), (4, .int 0), (3, .ref o), (2, .ref mo), (1, .ref xo), (0, .ref b)]) hx hb dL_law_2440 hl (by decide) rfl (fun ls hl => ?_)
  refine lv_aload_n hx hb dL_law_2442 rfl (lv_at hl 3 rfl) ?_
  refine lv_aload_n hx hb dL_law_2443 rfl (lv_at hl 5 rfl) ?_
  refine lv_iload hx hb dL_law_2444 (lv_at hl 1 rfl) ?_
  refine lv_iconst (v := 1) hx hb dL_law_2446 (by decide) ?_
  refine lv_iadd hx hb dL_law_2447 ?_
  refine W.eq (g2 := F0 m 2448 ls [.int 1, .ref b, .ref mo]) rfl ?_
  refine va_sld hx hb hX hbl hbA hS (by unfold vp_in; decide) dL_law_2448 ?_
  refine W.eq (g2 := F0 m 2449 ls [.int (xs 1), .ref mo]) rfl ?_
  refine call_i (wr := [(xo, .inr (10, xC inp par pla dra lat his f1 f2 0 0 (-1) gx)), (pla, .inr (5, pC 0 0 0 gpl))]) C (run_V (As := [.int (xs 1)]) (rest := []) C (m_draw l D cI cZ cJ mo 0 0 (-1) 0 0 0 0 0 0 as ak ab ar gm 0 (xs 1) ) cV_L_333 hP hD hS [0] rfl rfl 0 rfl rfl rfl rfl hl.1 rfl (Nat.le_of_ble_eq_true rfl) dL_law_2449 ⟨Nat.le_of_ble_eq_true rfl, Nat.le_of_ble_eq_true rfl⟩ ⟨Nat.le_of_ble_eq_true rfl, Nat.le_of_ble_eq_true rfl⟩) hP hD hS [0] [1, 2] rfl rfl rfl (by decide) (fun u2 H locs hP hD hS => ?_)
  have hP : va_P D CL [(xo, .inr (10, xC inp par pla dra lat his f1 f2 0 0 (-1) gx)), (pla, .inr (5, pC 0 0 0 gpl)), (mo, .inr (11, mC 1 0 0 (-1) 0 0 0 0 0 0 as ak ab ar gm))] H := hP
  have hD : va_D A [(xo, .inr (10, xC inp par pla dra lat his f1 f2 0 0 (-1) gx)), (pla, .inr (5, pC 0 0 0 gpl)), (mo, .inr (11, mC 1 0 0 (-1) 0 0 0 0 0 0 as ak ab ar gm))] := hD
  refine W.widen (k := 2001) (n := 60006) (Nat.le_of_ble_eq_true rfl) (Nat.le_of_ble_eq_true rfl) ?_
  refine W.eq (g2 := F0 m 2452 ls [.int 0]) rfl ?_
  refine lv_istore (lv' := [(6, .int 0), (5, .int 1), (4, .int 0), (3, .ref o), (2, .ref mo), (1, .ref xo), (0, .ref b)]) hx hb dL_law_2452 hl (by decide) rfl (fun ls hl => ?_)
  refine lv_aload_n hx hb dL_law_2454 rfl (lv_at hl 4 rfl) ?_
  refine call_i (wr := [(xo, .inr (10, xC inp par pla dra lat his f1 f2 0 0 (-1) gx)), (pla, .inr (5, pC 0 0 0 gpl))]) C (run_V (As := []) (rest := []) C (m_thrown l D cI cZ cJ mo 0 0 (-1) 0 0 0 0 0 0 as ak ab ar gm 1 ) cV_L_187 hP hD hS [2] rfl rfl 0 rfl rfl rfl rfl hl.1 rfl (Nat.le_of_ble_eq_true rfl) dL_law_2455 ⟨Nat.le_of_ble_eq_true rfl, Nat.le_of_ble_eq_true rfl⟩ ⟨Nat.le_of_ble_eq_true rfl, Nat.le_of_ble_eq_true rfl⟩) hP hD hS [2] [0, 1] rfl rfl rfl (by decide) (fun u3 H locs hP hD hS => ?_)
  have hP : va_P D CL [(xo, .inr (10, xC inp par pla dra lat his f1 f2 0 0 (-1) gx)), (pla, .inr (5, pC 0 0 0 gpl)), (mo, .inr (11, mC 1 0 0 (-1) 0 0 0 0 0 0 as ak ab ar gm))] H := hP
  have hD : va_D A [(xo, .inr (10, xC inp par pla dra lat his f1 f2 0 0 (-1) gx)), (pla, .inr (5, pC 0 0 0 gpl)), (mo, .inr (11, mC 1 0 0 (-1) 0 0 0 0 0 0 as ak ab ar gm))] := hD
  refine W.widen (k := 2001) (n := 60006) (Nat.le_of_ble_eq_true rfl) (Nat.le_of_ble_eq_true rfl) ?_
  refine W.eq (g2 := F0 m 2458 ls [.int 1]) rfl ?_
  refine lv_iload hx hb dL_law_2458 (lv_at hl 1 rfl) ?_
  refine lv_icmp_eq (tgt := 2465) hx hb dL_law_2460 (by decide) (fun _ => ?_) (fun h => absurd (by decide) h)
  refine lv_iload hx hb dL_law_2465 (lv_at hl 1 rfl) ?_
  refine lv_if_ne (tgt := 2482) hx hb dL_law_2467 (by decide) (fun _ => ?_) (fun h => absurd h (by decide))
  refine lv_goto (tgt := 3186) hx hb dL_law_2482 (by decide) ?_
  exact law_exit K hS (lv_sub hl [6, 2] rfl) (Nat.le_of_ble_eq_true rfl) (Nat.le_of_ble_eq_true rfl)
set_option maxHeartbeats 4000000 in
set_option maxRecDepth 100000 in
theorem law_47_l {p : Program} {l : Launch} {e : Env} {s : State} {m : MethodId} {below : List Frame} {meth : Method} {c : Code} {b : Nat} {xs : Nat → Int32} {D : va_G} {cI cZ cJ : ClassId} {A : Nat → Prop} (K : LCx p l s m meth c b 6 xs D cI cZ cJ A) {xo inp byt par pla dra lat his f1 f2 mo as ak ab ar o : Nat} {gx gpl gdr gla gf1 gf2 gpa ghi gm : Nat → Value} (h1 : xs 1 < 0) {H : Heap} {locs : List Loc} {ls : Array Slot} (hP : va_P D CL (LW cI cZ xo inp byt par pla dra lat his f1 f2 mo as ak ab ar gx gpl gdr gla gf1 gf2 gpa ghi gm) H) (hD : va_D A (LW cI cZ xo inp byt par pla dra lat his f1 f2 mo as ak ab ar gx gpl gdr gla gf1 gf2 gpa ghi gm)) (hS : va_S A s.heap H locs) (hl : lv_has ls 8 [(4, .int 0), (3, .ref o), (2, .ref mo), (1, .ref xo), (0, .ref b)]) : W p l e room_1 s m #[Value.ref b] below meth c H locs 2000 60000 (lw_Z below #[Value.ref b] s) (F0 m 2485 ls []) := by
  obtain ⟨C, hX, hbl, hlt, hAA⟩ := id K
  have hx := C.1
  have hb := C.2.1
  have hbA : ¬ A b := fun h => absurd (hAA b h) (Nat.not_le.mpr hbl)
  have hP : va_P D CL [(xo, .inr (10, xC inp par pla dra lat his f1 f2 0 0 (-1) gx)), (inp, .inr (2, [.int 0, .int 0, .int 0, .int 0, .int 0, .int 0, .ref byt])), (byt, .inl (cI, 600, .inl (fun _ => 0))), (par, .inr (4, [.ref inp, .ref dra, gpa 2, .int 0, .int 0])), (pla, .inr (5, pC 0 0 0 gpl)), (dra, .inr (5, pC 0 0 0 gdr)), (lat, .inr (3, [.int 0, .long 0, gla 2, gla 3, gla 4])), (his, .inr (1, [.int 0, .int 0, ghi 2])), (f1, .inr (5, pC 0 0 0 gf1)), (f2, .inr (5, pC 0 0 0 gf2)), (mo, .inr (11, mC 0 0 0 (-1) 0 0 0 0 0 0 as ak ab ar gm)), (as, .inl (cI, 63, .inl (fun _ => 0))), (ak, .inl (cZ, 2, .inl (fun _ => 0))), (ab, .inl (cI, 600, .inl (fun _ => 0))), (ar, .inl (cI, 63, .inl (fun _ => 0)))] H := hP
  have hD : va_D A [(xo, .inr (10, xC inp par pla dra lat his f1 f2 0 0 (-1) gx)), (inp, .inr (2, [.int 0, .int 0, .int 0, .int 0, .int 0, .int 0, .ref byt])), (byt, .inl (cI, 600, .inl (fun _ => 0))), (par, .inr (4, [.ref inp, .ref dra, gpa 2, .int 0, .int 0])), (pla, .inr (5, pC 0 0 0 gpl)), (dra, .inr (5, pC 0 0 0 gdr)), (lat, .inr (3, [.int 0, .long 0, gla 2, gla 3, gla 4])), (his, .inr (1, [.int 0, .int 0, ghi 2])), (f1, .inr (5, pC 0 0 0 gf1)), (f2, .inr (5, pC 0 0 0 gf2)), (mo, .inr (11, mC 0 0 0 (-1) 0 0 0 0 0 0 as ak ab ar gm)), (as, .inl (cI, 63, .inl (fun _ => 0))), (ak, .inl (cZ, 2, .inl (fun _ => 0))), (ab, .inl (cI, 600, .inl (fun _ => 0))), (ar, .inl (cI, 63, .inl (fun _ => 0)))] := hD
  have hP := hP.sub (ws' := [(xo, .inr (10, xC inp par pla dra lat his f1 f2 0 0 (-1) gx)), (mo, .inr (11, mC 0 0 0 (-1) 0 0 0 0 0 0 as ak ab ar gm))]) [0, 10] rfl
  have hD := hD.sub (ws' := [(xo, .inr (10, xC inp par pla dra lat his f1 f2 0 0 (-1) gx)), (mo, .inr (11, mC 0 0 0 (-1) 0 0 0 0 0 0 as ak ab ar gm))]) [0, 10] (by decide) rfl
  refine lv_aload_n hx hb dL_law_2485 rfl (lv_at hl 3 rfl) ?_
  refine lv_aload_n hx hb dL_law_2486 rfl (lv_at hl 4 rfl) ?_
  refine lv_iload hx hb dL_law_2487 (lv_at hl 0 rfl) ?_
  refine lv_iconst (v := 1) hx hb dL_law_2489 (by decide) ?_
  refine lv_iadd hx hb dL_law_2490 ?_
  refine W.eq (g2 := F0 m 2491 ls [.int 1, .ref b, .ref xo]) rfl ?_
  refine va_sld hx hb hX hbl hbA hS (by unfold vp_in; decide) dL_law_2491 ?_
  refine W.eq (g2 := F0 m 2492 ls [.int (xs 1), .ref xo]) rfl ?_
  refine lv_aload_n hx hb dL_law_2492 rfl (lv_at hl 1 rfl) ?_
  refine call_i (wr := [(mo, .inr (11, mC 0 0 0 (-1) 0 0 0 0 0 0 as ak ab ar gm))]) C (run_SW (As := [.ref xo, .int (xs 1), .ref o]) (rest := []) C (h_drawnByte_l l hlt D cI cZ cJ xo inp par pla dra lat his f1 f2 0 (-1) gx (xs 1) o h1) cS_L_334 hP hD hS [0] rfl rfl rfl hl.1 rfl (Nat.le_of_ble_eq_true rfl) dL_law_2493 ⟨Nat.le_of_ble_eq_true rfl, Nat.le_of_ble_eq_true rfl⟩ ⟨Nat.le_of_ble_eq_true rfl, Nat.le_of_ble_eq_true rfl⟩) hP hD hS [0] [1] rfl rfl rfl (by decide) (fun u1 H locs hP hD hS => ?_)
  have hP : va_P D CL [(mo, .inr (11, mC 0 0 0 (-1) 0 0 0 0 0 0 as ak ab ar gm)), (xo, .inr (10, xC inp par pla dra lat his f1 f2 0 0 (-1) gx))] H := hP
  have hD : va_D A [(mo, .inr (11, mC 0 0 0 (-1) 0 0 0 0 0 0 as ak ab ar gm)), (xo, .inr (10, xC inp par pla dra lat his f1 f2 0 0 (-1) gx))] := hD
  refine W.widen (k := 2001) (n := 60006) (Nat.le_of_ble_eq_true rfl) (Nat.le_of_ble_eq_true rfl) ?_
  refine W.eq (g2 := F0 m 2496 ls [.int 1]) rfl ?_
  refine lv_istore (lv' := [(5, .int 1), (4, .int 0), (3, .ref o), (2, .ref mo), (1, .ref xo), (0, .ref b)]) hx hb dL_law_2496 hl (by decide) rfl (fun ls hl => ?_)
  refine lv_aload_n hx hb dL_law_2498 rfl (lv_at hl 3 rfl) ?_
  refine lv_aload_n hx hb dL_law_2499 rfl (lv_at hl 5 rfl) ?_
  refine lv_iload hx hb dL_law_2500 (lv_at hl 1 rfl) ?_
  refine lv_iconst (v := 1) hx hb dL_law_2502 (by decide) ?_
  refine lv_iadd hx hb dL_law_2503 ?_
  refine W.eq (g2 := F0 m 2504 ls [.int 1, .ref b, .ref mo]) rfl ?_
  refine va_sld hx hb hX hbl hbA hS (by unfold vp_in; decide) dL_law_2504 ?_
  refine W.eq (g2 := F0 m 2505 ls [.int (xs 1), .ref mo]) rfl ?_
  refine call_i (wr := [(xo, .inr (10, xC inp par pla dra lat his f1 f2 0 0 (-1) gx))]) C (run_V (As := [.int (xs 1)]) (rest := []) C (m_drawnByte l D cI cZ cJ mo 0 0 (-1) 0 0 0 0 0 0 as ak ab ar gm 0 (xs 1) ) cV_L_336 hP hD hS [0] rfl rfl 0 rfl rfl rfl rfl hl.1 rfl (Nat.le_of_ble_eq_true rfl) dL_law_2505 ⟨Nat.le_of_ble_eq_true rfl, Nat.le_of_ble_eq_true rfl⟩ ⟨Nat.le_of_ble_eq_true rfl, Nat.le_of_ble_eq_true rfl⟩) hP hD hS [0] [1] rfl rfl rfl (by decide) (fun u2 H locs hP hD hS => ?_)
  have hP : va_P D CL [(xo, .inr (10, xC inp par pla dra lat his f1 f2 0 0 (-1) gx)), (mo, .inr (11, mC 1 0 0 (-1) 0 0 0 0 0 0 as ak ab ar gm))] H := hP
  have hD : va_D A [(xo, .inr (10, xC inp par pla dra lat his f1 f2 0 0 (-1) gx)), (mo, .inr (11, mC 1 0 0 (-1) 0 0 0 0 0 0 as ak ab ar gm))] := hD
  refine W.widen (k := 2001) (n := 60006) (Nat.le_of_ble_eq_true rfl) (Nat.le_of_ble_eq_true rfl) ?_
  refine W.eq (g2 := F0 m 2508 ls [.int 0]) rfl ?_
  refine lv_istore (lv' := [(6, .int 0), (5, .int 1), (4, .int 0), (3, .ref o), (2, .ref mo), (1, .ref xo), (0, .ref b)]) hx hb dL_law_2508 hl (by decide) rfl (fun ls hl => ?_)
  refine lv_aload_n hx hb dL_law_2510 rfl (lv_at hl 4 rfl) ?_
  refine call_i (wr := [(xo, .inr (10, xC inp par pla dra lat his f1 f2 0 0 (-1) gx))]) C (run_V (As := []) (rest := []) C (m_thrown l D cI cZ cJ mo 0 0 (-1) 0 0 0 0 0 0 as ak ab ar gm 1 ) cV_L_187 hP hD hS [1] rfl rfl 0 rfl rfl rfl rfl hl.1 rfl (Nat.le_of_ble_eq_true rfl) dL_law_2511 ⟨Nat.le_of_ble_eq_true rfl, Nat.le_of_ble_eq_true rfl⟩ ⟨Nat.le_of_ble_eq_true rfl, Nat.le_of_ble_eq_true rfl⟩) hP hD hS [1] [0] rfl rfl rfl (by decide) (fun u3 H locs hP hD hS => ?_)
  have hP : va_P D CL [(xo, .inr (10, xC inp par pla dra lat his f1 f2 0 0 (-1) gx)), (mo, .inr (11, mC 1 0 0 (-1) 0 0 0 0 0 0 as ak ab ar gm))] H := hP
  have hD : va_D A [(xo, .inr (10, xC inp par pla dra lat his f1 f2 0 0 (-1) gx)), (mo, .inr (11, mC 1 0 0 (-1) 0 0 0 0 0 0 as ak ab ar gm))] := hD
  refine W.widen (k := 2001) (n := 60006) (Nat.le_of_ble_eq_true rfl) (Nat.le_of_ble_eq_true rfl) ?_
  refine W.eq (g2 := F0 m 2514 ls [.int 1]) rfl ?_
  refine lv_iload hx hb dL_law_2514 (lv_at hl 1 rfl) ?_
  refine lv_icmp_eq (tgt := 2521) hx hb dL_law_2516 (by decide) (fun _ => ?_) (fun h => absurd (by decide) h)
  refine lv_iload hx hb dL_law_2521 (lv_at hl 1 rfl) ?_
  refine lv_if_ne (tgt := 2538) hx hb dL_law_2523 (by decide) (fun _ => ?_) (fun h => absurd h (by decide))
  refine lv_goto (tgt := 3186) hx hb dL_law_2538 (by decide) ?_
  exact law_exit K hS (lv_sub hl [6, 2] rfl) (Nat.le_of_ble_eq_true rfl) (Nat.le_of_ble_eq_true rfl)
set_option maxHeartbeats 4000000 in
set_option maxRecDepth 100000 in
theorem law_47_g {p : Program} {l : Launch} {e : Env} {s : State} {m : MethodId} {below : List Frame} {meth : Method} {c : Code} {b : Nat} {xs : Nat → Int32} {D : va_G} {cI cZ cJ : ClassId} {A : Nat → Prop} (K : LCx p l s m meth c b 6 xs D cI cZ cJ A) {xo inp byt par pla dra lat his f1 f2 mo as ak ab ar o : Nat} {gx gpl gdr gla gf1 gf2 gpa ghi gm : Nat → Value} (h1 : ¬ xs 1 < 0) {H : Heap} {locs : List Loc} {ls : Array Slot} (hP : va_P D CL (LW cI cZ xo inp byt par pla dra lat his f1 f2 mo as ak ab ar gx gpl gdr gla gf1 gf2 gpa ghi gm) H) (hD : va_D A (LW cI cZ xo inp byt par pla dra lat his f1 f2 mo as ak ab ar gx gpl gdr gla gf1 gf2 gpa ghi gm)) (hS : va_S A s.heap H locs) (hl : lv_has ls 8 [(4, .int 0), (3, .ref o), (2, .ref mo), (1, .ref xo), (0, .ref b)]) : W p l e room_1 s m #[Value.ref b] below meth c H locs 2000 60000 (lw_Z below #[Value.ref b] s) (F0 m 2485 ls []) := by
  obtain ⟨C, hX, hbl, hlt, hAA⟩ := id K
  have hx := C.1
  have hb := C.2.1
  have hbA : ¬ A b := fun h => absurd (hAA b h) (Nat.not_le.mpr hbl)
  have hP : va_P D CL [(xo, .inr (10, xC inp par pla dra lat his f1 f2 0 0 (-1) gx)), (inp, .inr (2, [.int 0, .int 0, .int 0, .int 0, .int 0, .int 0, .ref byt])), (byt, .inl (cI, 600, .inl (fun _ => 0))), (par, .inr (4, [.ref inp, .ref dra, gpa 2, .int 0, .int 0])), (pla, .inr (5, pC 0 0 0 gpl)), (dra, .inr (5, pC 0 0 0 gdr)), (lat, .inr (3, [.int 0, .long 0, gla 2, gla 3, gla 4])), (his, .inr (1, [.int 0, .int 0, ghi 2])), (f1, .inr (5, pC 0 0 0 gf1)), (f2, .inr (5, pC 0 0 0 gf2)), (mo, .inr (11, mC 0 0 0 (-1) 0 0 0 0 0 0 as ak ab ar gm)), (as, .inl (cI, 63, .inl (fun _ => 0))), (ak, .inl (cZ, 2, .inl (fun _ => 0))), (ab, .inl (cI, 600, .inl (fun _ => 0))), (ar, .inl (cI, 63, .inl (fun _ => 0)))] H := hP
  have hD : va_D A [(xo, .inr (10, xC inp par pla dra lat his f1 f2 0 0 (-1) gx)), (inp, .inr (2, [.int 0, .int 0, .int 0, .int 0, .int 0, .int 0, .ref byt])), (byt, .inl (cI, 600, .inl (fun _ => 0))), (par, .inr (4, [.ref inp, .ref dra, gpa 2, .int 0, .int 0])), (pla, .inr (5, pC 0 0 0 gpl)), (dra, .inr (5, pC 0 0 0 gdr)), (lat, .inr (3, [.int 0, .long 0, gla 2, gla 3, gla 4])), (his, .inr (1, [.int 0, .int 0, ghi 2])), (f1, .inr (5, pC 0 0 0 gf1)), (f2, .inr (5, pC 0 0 0 gf2)), (mo, .inr (11, mC 0 0 0 (-1) 0 0 0 0 0 0 as ak ab ar gm)), (as, .inl (cI, 63, .inl (fun _ => 0))), (ak, .inl (cZ, 2, .inl (fun _ => 0))), (ab, .inl (cI, 600, .inl (fun _ => 0))), (ar, .inl (cI, 63, .inl (fun _ => 0)))] := hD
  have hP := hP.sub (ws' := [(xo, .inr (10, xC inp par pla dra lat his f1 f2 0 0 (-1) gx)), (mo, .inr (11, mC 0 0 0 (-1) 0 0 0 0 0 0 as ak ab ar gm))]) [0, 10] rfl
  have hD := hD.sub (ws' := [(xo, .inr (10, xC inp par pla dra lat his f1 f2 0 0 (-1) gx)), (mo, .inr (11, mC 0 0 0 (-1) 0 0 0 0 0 0 as ak ab ar gm))]) [0, 10] (by decide) rfl
  refine lv_aload_n hx hb dL_law_2485 rfl (lv_at hl 3 rfl) ?_
  refine lv_aload_n hx hb dL_law_2486 rfl (lv_at hl 4 rfl) ?_
  refine lv_iload hx hb dL_law_2487 (lv_at hl 0 rfl) ?_
  refine lv_iconst (v := 1) hx hb dL_law_2489 (by decide) ?_
  refine lv_iadd hx hb dL_law_2490 ?_
  refine W.eq (g2 := F0 m 2491 ls [.int 1, .ref b, .ref xo]) rfl ?_
  refine va_sld hx hb hX hbl hbA hS (by unfold vp_in; decide) dL_law_2491 ?_
  refine W.eq (g2 := F0 m 2492 ls [.int (xs 1), .ref xo]) rfl ?_
  refine lv_aload_n hx hb dL_law_2492 rfl (lv_at hl 1 rfl) ?_
  refine call_i (wr := [(mo, .inr (11, mC 0 0 0 (-1) 0 0 0 0 0 0 as ak ab ar gm))]) C (run_SW (As := [.ref xo, .int (xs 1), .ref o]) (rest := []) C (h_drawnByte_g l hlt D cI cZ cJ xo inp par pla dra lat his f1 f2 0 (-1) gx (xs 1) o h1) cS_L_334 hP hD hS [0] rfl rfl rfl hl.1 rfl (Nat.le_of_ble_eq_true rfl) dL_law_2493 ⟨Nat.le_of_ble_eq_true rfl, Nat.le_of_ble_eq_true rfl⟩ ⟨Nat.le_of_ble_eq_true rfl, Nat.le_of_ble_eq_true rfl⟩) hP hD hS [0] [1] rfl rfl rfl (by decide) (fun u1 H locs hP hD hS => ?_)
  have hP : va_P D CL [(mo, .inr (11, mC 0 0 0 (-1) 0 0 0 0 0 0 as ak ab ar gm)), (xo, .inr (10, xC inp par pla dra lat his f1 f2 0 0 (-1) gx))] H := hP
  have hD : va_D A [(mo, .inr (11, mC 0 0 0 (-1) 0 0 0 0 0 0 as ak ab ar gm)), (xo, .inr (10, xC inp par pla dra lat his f1 f2 0 0 (-1) gx))] := hD
  refine W.widen (k := 2001) (n := 60006) (Nat.le_of_ble_eq_true rfl) (Nat.le_of_ble_eq_true rfl) ?_
  refine W.eq (g2 := F0 m 2496 ls [.int 1]) rfl ?_
  refine lv_istore (lv' := [(5, .int 1), (4, .int 0), (3, .ref o), (2, .ref mo), (1, .ref xo), (0, .ref b)]) hx hb dL_law_2496 hl (by decide) rfl (fun ls hl => ?_)
  refine lv_aload_n hx hb dL_law_2498 rfl (lv_at hl 3 rfl) ?_
  refine lv_aload_n hx hb dL_law_2499 rfl (lv_at hl 5 rfl) ?_
  refine lv_iload hx hb dL_law_2500 (lv_at hl 1 rfl) ?_
  refine lv_iconst (v := 1) hx hb dL_law_2502 (by decide) ?_
  refine lv_iadd hx hb dL_law_2503 ?_
  refine W.eq (g2 := F0 m 2504 ls [.int 1, .ref b, .ref mo]) rfl ?_
  refine va_sld hx hb hX hbl hbA hS (by unfold vp_in; decide) dL_law_2504 ?_
  refine W.eq (g2 := F0 m 2505 ls [.int (xs 1), .ref mo]) rfl ?_
  refine call_i (wr := [(xo, .inr (10, xC inp par pla dra lat his f1 f2 0 0 (-1) gx))]) C (run_V (As := [.int (xs 1)]) (rest := []) C (m_drawnByte l D cI cZ cJ mo 0 0 (-1) 0 0 0 0 0 0 as ak ab ar gm 0 (xs 1) ) cV_L_336 hP hD hS [0] rfl rfl 0 rfl rfl rfl rfl hl.1 rfl (Nat.le_of_ble_eq_true rfl) dL_law_2505 ⟨Nat.le_of_ble_eq_true rfl, Nat.le_of_ble_eq_true rfl⟩ ⟨Nat.le_of_ble_eq_true rfl, Nat.le_of_ble_eq_true rfl⟩) hP hD hS [0] [1] rfl rfl rfl (by decide) (fun u2 H locs hP hD hS => ?_)
  have hP : va_P D CL [(xo, .inr (10, xC inp par pla dra lat his f1 f2 0 0 (-1) gx)), (mo, .inr (11, mC 1 0 0 (-1) 0 0 0 0 0 0 as ak ab ar gm))] H := hP
  have hD : va_D A [(xo, .inr (10, xC inp par pla dra lat his f1 f2 0 0 (-1) gx)), (mo, .inr (11, mC 1 0 0 (-1) 0 0 0 0 0 0 as ak ab ar gm))] := hD
  refine W.widen (k := 2001) (n := 60006) (Nat.le_of_ble_eq_true rfl) (Nat.le_of_ble_eq_true rfl) ?_
  refine W.eq (g2 := F0 m 2508 ls [.int 0]) rfl ?_
  refine lv_istore (lv' := [(6, .int 0), (5, .int 1), (4, .int 0), (3, .ref o), (2, .ref mo), (1, .ref xo), (0, .ref b)]) hx hb dL_law_2508 hl (by decide) rfl (fun ls hl => ?_)
  refine lv_aload_n hx hb dL_law_2510 rfl (lv_at hl 4 rfl) ?_
  refine call_i (wr := [(xo, .inr (10, xC inp par pla dra lat his f1 f2 0 0 (-1) gx))]) C (run_V (As := []) (rest := []) C (m_thrown l D cI cZ cJ mo 0 0 (-1) 0 0 0 0 0 0 as ak ab ar gm 1 ) cV_L_187 hP hD hS [1] rfl rfl 0 rfl rfl rfl rfl hl.1 rfl (Nat.le_of_ble_eq_true rfl) dL_law_2511 ⟨Nat.le_of_ble_eq_true rfl, Nat.le_of_ble_eq_true rfl⟩ ⟨Nat.le_of_ble_eq_true rfl, Nat.le_of_ble_eq_true rfl⟩) hP hD hS [1] [0] rfl rfl rfl (by decide) (fun u3 H locs hP hD hS => ?_)
  have hP : va_P D CL [(xo, .inr (10, xC inp par pla dra lat his f1 f2 0 0 (-1) gx)), (mo, .inr (11, mC 1 0 0 (-1) 0 0 0 0 0 0 as ak ab ar gm))] H := hP
  have hD : va_D A [(xo, .inr (10, xC inp par pla dra lat his f1 f2 0 0 (-1) gx)), (mo, .inr (11, mC 1 0 0 (-1) 0 0 0 0 0 0 as ak ab ar gm))] := hD
  refine W.widen (k := 2001) (n := 60006) (Nat.le_of_ble_eq_true rfl) (Nat.le_of_ble_eq_true rfl) ?_
  refine W.eq (g2 := F0 m 2514 ls [.int 1]) rfl ?_
  refine lv_iload hx hb dL_law_2514 (lv_at hl 1 rfl) ?_
  refine lv_icmp_eq (tgt := 2521) hx hb dL_law_2516 (by decide) (fun _ => ?_) (fun h => absurd (by decide) h)
  refine lv_iload hx hb dL_law_2521 (lv_at hl 1 rfl) ?_
  refine lv_if_ne (tgt := 2538) hx hb dL_law_2523 (by decide) (fun _ => ?_) (fun h => absurd h (by decide))
  refine lv_goto (tgt := 3186) hx hb dL_law_2538 (by decide) ?_
  exact law_exit K hS (lv_sub hl [6, 2] rfl) (Nat.le_of_ble_eq_true rfl) (Nat.le_of_ble_eq_true rfl)
theorem law_47 {p : Program} {l : Launch} {e : Env} {s : State} {m : MethodId} {below : List Frame} {meth : Method} {c : Code} {b : Nat} {xs : Nat → Int32} {D : va_G} {cI cZ cJ : ClassId} {A : Nat → Prop} (K : LCx p l s m meth c b 6 xs D cI cZ cJ A) {xo inp byt par pla dra lat his f1 f2 mo as ak ab ar o : Nat} {gx gpl gdr gla gf1 gf2 gpa ghi gm : Nat → Value} {H : Heap} {locs : List Loc} {ls : Array Slot} (hP : va_P D CL (LW cI cZ xo inp byt par pla dra lat his f1 f2 mo as ak ab ar gx gpl gdr gla gf1 gf2 gpa ghi gm) H) (hD : va_D A (LW cI cZ xo inp byt par pla dra lat his f1 f2 mo as ak ab ar gx gpl gdr gla gf1 gf2 gpa ghi gm)) (hS : va_S A s.heap H locs) (hl : lv_has ls 8 [(4, .int 0), (3, .ref o), (2, .ref mo), (1, .ref xo), (0, .ref b)]) : W p l e room_1 s m #[Value.ref b] below meth c H locs 2000 60000 (lw_Z below #[Value.ref b] s) (F0 m 2485 ls []) := by
  by_cases h1 : xs 1 < 0
  · exact law_47_l K h1 hP hD hS hl
  · exact law_47_g K h1 hP hD hS hl
set_option maxHeartbeats 4000000 in
set_option maxRecDepth 100000 in
theorem law_48 {p : Program} {l : Launch} {e : Env} {s : State} {m : MethodId} {below : List Frame} {meth : Method} {c : Code} {b : Nat} {xs : Nat → Int32} {D : va_G} {cI cZ cJ : ClassId} {A : Nat → Prop} (K : LCx p l s m meth c b 6 xs D cI cZ cJ A) {xo inp byt par pla dra lat his f1 f2 mo as ak ab ar o : Nat} {gx gpl gdr gla gf1 gf2 gpa ghi gm : Nat → Value}  {H : Heap} {locs : List Loc} {ls : Array Slot} (hP : va_P D CL (LW cI cZ xo inp byt par pla dra lat his f1 f2 mo as ak ab ar gx gpl gdr gla gf1 gf2 gpa ghi gm) H) (hD : va_D A (LW cI cZ xo inp byt par pla dra lat his f1 f2 mo as ak ab ar gx gpl gdr gla gf1 gf2 gpa ghi gm)) (hS : va_S A s.heap H locs) (hl : lv_has ls 8 [(4, .int 0), (3, .ref o), (2, .ref mo), (1, .ref xo), (0, .ref b)]) : W p l e room_1 s m #[Value.ref b] below meth c H locs 2000 60000 (lw_Z below #[Value.ref b] s) (F0 m 2541 ls []) := by
  obtain ⟨C, hX, hbl, hlt, hAA⟩ := id K
  have hx := C.1
  have hb := C.2.1
  have hbA : ¬ A b := fun h => absurd (hAA b h) (Nat.not_le.mpr hbl)
  have hP : va_P D CL [(xo, .inr (10, xC inp par pla dra lat his f1 f2 0 0 (-1) gx)), (inp, .inr (2, [.int 0, .int 0, .int 0, .int 0, .int 0, .int 0, .ref byt])), (byt, .inl (cI, 600, .inl (fun _ => 0))), (par, .inr (4, [.ref inp, .ref dra, gpa 2, .int 0, .int 0])), (pla, .inr (5, pC 0 0 0 gpl)), (dra, .inr (5, pC 0 0 0 gdr)), (lat, .inr (3, [.int 0, .long 0, gla 2, gla 3, gla 4])), (his, .inr (1, [.int 0, .int 0, ghi 2])), (f1, .inr (5, pC 0 0 0 gf1)), (f2, .inr (5, pC 0 0 0 gf2)), (mo, .inr (11, mC 0 0 0 (-1) 0 0 0 0 0 0 as ak ab ar gm)), (as, .inl (cI, 63, .inl (fun _ => 0))), (ak, .inl (cZ, 2, .inl (fun _ => 0))), (ab, .inl (cI, 600, .inl (fun _ => 0))), (ar, .inl (cI, 63, .inl (fun _ => 0)))] H := hP
  have hD : va_D A [(xo, .inr (10, xC inp par pla dra lat his f1 f2 0 0 (-1) gx)), (inp, .inr (2, [.int 0, .int 0, .int 0, .int 0, .int 0, .int 0, .ref byt])), (byt, .inl (cI, 600, .inl (fun _ => 0))), (par, .inr (4, [.ref inp, .ref dra, gpa 2, .int 0, .int 0])), (pla, .inr (5, pC 0 0 0 gpl)), (dra, .inr (5, pC 0 0 0 gdr)), (lat, .inr (3, [.int 0, .long 0, gla 2, gla 3, gla 4])), (his, .inr (1, [.int 0, .int 0, ghi 2])), (f1, .inr (5, pC 0 0 0 gf1)), (f2, .inr (5, pC 0 0 0 gf2)), (mo, .inr (11, mC 0 0 0 (-1) 0 0 0 0 0 0 as ak ab ar gm)), (as, .inl (cI, 63, .inl (fun _ => 0))), (ak, .inl (cZ, 2, .inl (fun _ => 0))), (ab, .inl (cI, 600, .inl (fun _ => 0))), (ar, .inl (cI, 63, .inl (fun _ => 0)))] := hD
  have hP := hP.sub (ws' := [(xo, .inr (10, xC inp par pla dra lat his f1 f2 0 0 (-1) gx)), (pla, .inr (5, pC 0 0 0 gpl)), (mo, .inr (11, mC 0 0 0 (-1) 0 0 0 0 0 0 as ak ab ar gm))]) [0, 4, 10] rfl
  have hD := hD.sub (ws' := [(xo, .inr (10, xC inp par pla dra lat his f1 f2 0 0 (-1) gx)), (pla, .inr (5, pC 0 0 0 gpl)), (mo, .inr (11, mC 0 0 0 (-1) 0 0 0 0 0 0 as ak ab ar gm))]) [0, 4, 10] (by decide) rfl
  refine lv_aload_n hx hb dL_law_2541 rfl (lv_at hl 3 rfl) ?_
  refine lv_aload_n hx hb dL_law_2542 rfl (lv_at hl 4 rfl) ?_
  refine lv_iload hx hb dL_law_2543 (lv_at hl 0 rfl) ?_
  refine lv_iconst (v := 1) hx hb dL_law_2545 (by decide) ?_
  refine lv_iadd hx hb dL_law_2546 ?_
  refine W.eq (g2 := F0 m 2547 ls [.int 1, .ref b, .ref xo]) rfl ?_
  refine va_sld hx hb hX hbl hbA hS (by unfold vp_in; decide) dL_law_2547 ?_
  refine W.eq (g2 := F0 m 2548 ls [.int (xs 1), .ref xo]) rfl ?_
  refine lv_aload_n hx hb dL_law_2548 rfl (lv_at hl 4 rfl) ?_
  refine lv_iload hx hb dL_law_2549 (lv_at hl 0 rfl) ?_
  refine lv_iconst (v := 2) hx hb dL_law_2551 (by decide) ?_
  refine lv_iadd hx hb dL_law_2552 ?_
  refine W.eq (g2 := F0 m 2553 ls [.int 2, .ref b, .int (xs 1), .ref xo]) rfl ?_
  refine va_sld hx hb hX hbl hbA hS (by unfold vp_in; decide) dL_law_2553 ?_
  refine W.eq (g2 := F0 m 2554 ls [.int (xs 2), .int (xs 1), .ref xo]) rfl ?_
  refine lv_aload_n hx hb dL_law_2554 rfl (lv_at hl 1 rfl) ?_
  refine call_i (wr := [(mo, .inr (11, mC 0 0 0 (-1) 0 0 0 0 0 0 as ak ab ar gm))]) C (run_SW (As := [.ref xo, .int (xs 1), .int (xs 2), .ref o]) (rest := []) C (h_addGuard l hlt D cI cZ cJ xo inp par pla dra lat his f1 f2 0 0 (-1) gx gpl (xs 1) (xs 2) o ) cS_L_337 hP hD hS [0, 1] rfl rfl rfl hl.1 rfl (Nat.le_of_ble_eq_true rfl) dL_law_2555 ⟨Nat.le_of_ble_eq_true rfl, Nat.le_of_ble_eq_true rfl⟩ ⟨Nat.le_of_ble_eq_true rfl, Nat.le_of_ble_eq_true rfl⟩) hP hD hS [0, 1] [2] rfl rfl rfl (by decide) (fun u1 H locs hP hD hS => ?_)
  have hP : va_P D CL [(mo, .inr (11, mC 0 0 0 (-1) 0 0 0 0 0 0 as ak ab ar gm)), (xo, .inr (10, xC inp par pla dra lat his f1 f2 0 0 (-1) gx)), (pla, .inr (5, pC 0 0 0 gpl))] H := hP
  have hD : va_D A [(mo, .inr (11, mC 0 0 0 (-1) 0 0 0 0 0 0 as ak ab ar gm)), (xo, .inr (10, xC inp par pla dra lat his f1 f2 0 0 (-1) gx)), (pla, .inr (5, pC 0 0 0 gpl))] := hD
  refine W.widen (k := 2001) (n := 60006) (Nat.le_of_ble_eq_true rfl) (Nat.le_of_ble_eq_true rfl) ?_
  refine W.eq (g2 := F0 m 2558 ls [.int 1]) rfl ?_
  refine lv_istore (lv' := [(5, .int 1), (4, .int 0), (3, .ref o), (2, .ref mo), (1, .ref xo), (0, .ref b)]) hx hb dL_law_2558 hl (by decide) rfl (fun ls hl => ?_)
  refine lv_aload_n hx hb dL_law_2560 rfl (lv_at hl 3 rfl) ?_
  refine lv_aload_n hx hb dL_law_2561 rfl (lv_at hl 5 rfl) ?_
  refine lv_iload hx hb dL_law_2562 (lv_at hl 1 rfl) ?_
  refine lv_iconst (v := 1) hx hb dL_law_2564 (by decide) ?_
  refine lv_iadd hx hb dL_law_2565 ?_
  refine W.eq (g2 := F0 m 2566 ls [.int 1, .ref b, .ref mo]) rfl ?_
  refine va_sld hx hb hX hbl hbA hS (by unfold vp_in; decide) dL_law_2566 ?_
  refine W.eq (g2 := F0 m 2567 ls [.int (xs 1), .ref mo]) rfl ?_
  refine lv_aload_n hx hb dL_law_2567 rfl (lv_at hl 5 rfl) ?_
  refine lv_iload hx hb dL_law_2568 (lv_at hl 1 rfl) ?_
  refine lv_iconst (v := 2) hx hb dL_law_2570 (by decide) ?_
  refine lv_iadd hx hb dL_law_2571 ?_
  refine W.eq (g2 := F0 m 2572 ls [.int 2, .ref b, .int (xs 1), .ref mo]) rfl ?_
  refine va_sld hx hb hX hbl hbA hS (by unfold vp_in; decide) dL_law_2572 ?_
  refine W.eq (g2 := F0 m 2573 ls [.int (xs 2), .int (xs 1), .ref mo]) rfl ?_
  refine call_i (wr := [(xo, .inr (10, xC inp par pla dra lat his f1 f2 0 0 (-1) gx)), (pla, .inr (5, pC 0 0 0 gpl))]) C (run_V (As := [.int (xs 1), .int (xs 2)]) (rest := []) C (m_addGuard l D cI cZ cJ mo 0 0 (-1) 0 0 0 0 0 0 as ak ab ar gm 0 (xs 1) (xs 2) ) cV_L_339 hP hD hS [0] rfl rfl 0 rfl rfl rfl rfl hl.1 rfl (Nat.le_of_ble_eq_true rfl) dL_law_2573 ⟨Nat.le_of_ble_eq_true rfl, Nat.le_of_ble_eq_true rfl⟩ ⟨Nat.le_of_ble_eq_true rfl, Nat.le_of_ble_eq_true rfl⟩) hP hD hS [0] [1, 2] rfl rfl rfl (by decide) (fun u2 H locs hP hD hS => ?_)
  have hP : va_P D CL [(xo, .inr (10, xC inp par pla dra lat his f1 f2 0 0 (-1) gx)), (pla, .inr (5, pC 0 0 0 gpl)), (mo, .inr (11, mC 1 0 0 (-1) 0 0 0 0 0 0 as ak ab ar gm))] H := hP
  have hD : va_D A [(xo, .inr (10, xC inp par pla dra lat his f1 f2 0 0 (-1) gx)), (pla, .inr (5, pC 0 0 0 gpl)), (mo, .inr (11, mC 1 0 0 (-1) 0 0 0 0 0 0 as ak ab ar gm))] := hD
  refine W.widen (k := 2001) (n := 60006) (Nat.le_of_ble_eq_true rfl) (Nat.le_of_ble_eq_true rfl) ?_
  refine W.eq (g2 := F0 m 2576 ls [.int 0]) rfl ?_
  refine lv_istore (lv' := [(6, .int 0), (5, .int 1), (4, .int 0), (3, .ref o), (2, .ref mo), (1, .ref xo), (0, .ref b)]) hx hb dL_law_2576 hl (by decide) rfl (fun ls hl => ?_)
  refine lv_aload_n hx hb dL_law_2578 rfl (lv_at hl 4 rfl) ?_
  refine call_i (wr := [(xo, .inr (10, xC inp par pla dra lat his f1 f2 0 0 (-1) gx)), (pla, .inr (5, pC 0 0 0 gpl))]) C (run_V (As := []) (rest := []) C (m_thrown l D cI cZ cJ mo 0 0 (-1) 0 0 0 0 0 0 as ak ab ar gm 1 ) cV_L_187 hP hD hS [2] rfl rfl 0 rfl rfl rfl rfl hl.1 rfl (Nat.le_of_ble_eq_true rfl) dL_law_2579 ⟨Nat.le_of_ble_eq_true rfl, Nat.le_of_ble_eq_true rfl⟩ ⟨Nat.le_of_ble_eq_true rfl, Nat.le_of_ble_eq_true rfl⟩) hP hD hS [2] [0, 1] rfl rfl rfl (by decide) (fun u3 H locs hP hD hS => ?_)
  have hP : va_P D CL [(xo, .inr (10, xC inp par pla dra lat his f1 f2 0 0 (-1) gx)), (pla, .inr (5, pC 0 0 0 gpl)), (mo, .inr (11, mC 1 0 0 (-1) 0 0 0 0 0 0 as ak ab ar gm))] H := hP
  have hD : va_D A [(xo, .inr (10, xC inp par pla dra lat his f1 f2 0 0 (-1) gx)), (pla, .inr (5, pC 0 0 0 gpl)), (mo, .inr (11, mC 1 0 0 (-1) 0 0 0 0 0 0 as ak ab ar gm))] := hD
  refine W.widen (k := 2001) (n := 60006) (Nat.le_of_ble_eq_true rfl) (Nat.le_of_ble_eq_true rfl) ?_
  refine W.eq (g2 := F0 m 2582 ls [.int 1]) rfl ?_
  refine lv_iload hx hb dL_law_2582 (lv_at hl 1 rfl) ?_
  refine lv_icmp_eq (tgt := 2589) hx hb dL_law_2584 (by decide) (fun _ => ?_) (fun h => absurd (by decide) h)
  refine lv_iload hx hb dL_law_2589 (lv_at hl 1 rfl) ?_
  refine lv_if_ne (tgt := 2606) hx hb dL_law_2591 (by decide) (fun _ => ?_) (fun h => absurd h (by decide))
  refine lv_goto (tgt := 3186) hx hb dL_law_2606 (by decide) ?_
  exact law_exit K hS (lv_sub hl [6, 2] rfl) (Nat.le_of_ble_eq_true rfl) (Nat.le_of_ble_eq_true rfl)
set_option maxHeartbeats 4000000 in
set_option maxRecDepth 100000 in
theorem law_49 {p : Program} {l : Launch} {e : Env} {s : State} {m : MethodId} {below : List Frame} {meth : Method} {c : Code} {b : Nat} {xs : Nat → Int32} {D : va_G} {cI cZ cJ : ClassId} {A : Nat → Prop} (K : LCx p l s m meth c b 6 xs D cI cZ cJ A) {xo inp byt par pla dra lat his f1 f2 mo as ak ab ar o : Nat} {gx gpl gdr gla gf1 gf2 gpa ghi gm : Nat → Value}  {H : Heap} {locs : List Loc} {ls : Array Slot} (hP : va_P D CL (LW cI cZ xo inp byt par pla dra lat his f1 f2 mo as ak ab ar gx gpl gdr gla gf1 gf2 gpa ghi gm) H) (hD : va_D A (LW cI cZ xo inp byt par pla dra lat his f1 f2 mo as ak ab ar gx gpl gdr gla gf1 gf2 gpa ghi gm)) (hS : va_S A s.heap H locs) (hl : lv_has ls 8 [(4, .int 0), (3, .ref o), (2, .ref mo), (1, .ref xo), (0, .ref b)]) : W p l e room_1 s m #[Value.ref b] below meth c H locs 2000 60000 (lw_Z below #[Value.ref b] s) (F0 m 2609 ls []) := by
  obtain ⟨C, hX, hbl, hlt, hAA⟩ := id K
  have hx := C.1
  have hb := C.2.1
  have hbA : ¬ A b := fun h => absurd (hAA b h) (Nat.not_le.mpr hbl)
  have hP : va_P D CL [(xo, .inr (10, xC inp par pla dra lat his f1 f2 0 0 (-1) gx)), (inp, .inr (2, [.int 0, .int 0, .int 0, .int 0, .int 0, .int 0, .ref byt])), (byt, .inl (cI, 600, .inl (fun _ => 0))), (par, .inr (4, [.ref inp, .ref dra, gpa 2, .int 0, .int 0])), (pla, .inr (5, pC 0 0 0 gpl)), (dra, .inr (5, pC 0 0 0 gdr)), (lat, .inr (3, [.int 0, .long 0, gla 2, gla 3, gla 4])), (his, .inr (1, [.int 0, .int 0, ghi 2])), (f1, .inr (5, pC 0 0 0 gf1)), (f2, .inr (5, pC 0 0 0 gf2)), (mo, .inr (11, mC 0 0 0 (-1) 0 0 0 0 0 0 as ak ab ar gm)), (as, .inl (cI, 63, .inl (fun _ => 0))), (ak, .inl (cZ, 2, .inl (fun _ => 0))), (ab, .inl (cI, 600, .inl (fun _ => 0))), (ar, .inl (cI, 63, .inl (fun _ => 0)))] H := hP
  have hD : va_D A [(xo, .inr (10, xC inp par pla dra lat his f1 f2 0 0 (-1) gx)), (inp, .inr (2, [.int 0, .int 0, .int 0, .int 0, .int 0, .int 0, .ref byt])), (byt, .inl (cI, 600, .inl (fun _ => 0))), (par, .inr (4, [.ref inp, .ref dra, gpa 2, .int 0, .int 0])), (pla, .inr (5, pC 0 0 0 gpl)), (dra, .inr (5, pC 0 0 0 gdr)), (lat, .inr (3, [.int 0, .long 0, gla 2, gla 3, gla 4])), (his, .inr (1, [.int 0, .int 0, ghi 2])), (f1, .inr (5, pC 0 0 0 gf1)), (f2, .inr (5, pC 0 0 0 gf2)), (mo, .inr (11, mC 0 0 0 (-1) 0 0 0 0 0 0 as ak ab ar gm)), (as, .inl (cI, 63, .inl (fun _ => 0))), (ak, .inl (cZ, 2, .inl (fun _ => 0))), (ab, .inl (cI, 600, .inl (fun _ => 0))), (ar, .inl (cI, 63, .inl (fun _ => 0)))] := hD
  have hP := hP.sub (ws' := [(xo, .inr (10, xC inp par pla dra lat his f1 f2 0 0 (-1) gx)), (pla, .inr (5, pC 0 0 0 gpl)), (mo, .inr (11, mC 0 0 0 (-1) 0 0 0 0 0 0 as ak ab ar gm))]) [0, 4, 10] rfl
  have hD := hD.sub (ws' := [(xo, .inr (10, xC inp par pla dra lat his f1 f2 0 0 (-1) gx)), (pla, .inr (5, pC 0 0 0 gpl)), (mo, .inr (11, mC 0 0 0 (-1) 0 0 0 0 0 0 as ak ab ar gm))]) [0, 4, 10] (by decide) rfl
  refine lv_aload_n hx hb dL_law_2609 rfl (lv_at hl 3 rfl) ?_
  refine lv_aload_n hx hb dL_law_2610 rfl (lv_at hl 4 rfl) ?_
  refine lv_iload hx hb dL_law_2611 (lv_at hl 0 rfl) ?_
  refine lv_iconst (v := 1) hx hb dL_law_2613 (by decide) ?_
  refine lv_iadd hx hb dL_law_2614 ?_
  refine W.eq (g2 := F0 m 2615 ls [.int 1, .ref b, .ref xo]) rfl ?_
  refine va_sld hx hb hX hbl hbA hS (by unfold vp_in; decide) dL_law_2615 ?_
  refine W.eq (g2 := F0 m 2616 ls [.int (xs 1), .ref xo]) rfl ?_
  refine lv_aload_n hx hb dL_law_2616 rfl (lv_at hl 1 rfl) ?_
  refine call_i (wr := [(mo, .inr (11, mC 0 0 0 (-1) 0 0 0 0 0 0 as ak ab ar gm))]) C (run_SW (As := [.ref xo, .int (xs 1), .ref o]) (rest := []) C (h_removeGuard l hlt D cI cZ cJ xo inp par pla dra lat his f1 f2 0 0 (-1) gx gpl (xs 1) o ) cS_L_340 hP hD hS [0, 1] rfl rfl rfl hl.1 rfl (Nat.le_of_ble_eq_true rfl) dL_law_2617 ⟨Nat.le_of_ble_eq_true rfl, Nat.le_of_ble_eq_true rfl⟩ ⟨Nat.le_of_ble_eq_true rfl, Nat.le_of_ble_eq_true rfl⟩) hP hD hS [0, 1] [2] rfl rfl rfl (by decide) (fun u1 H locs hP hD hS => ?_)
  have hP : va_P D CL [(mo, .inr (11, mC 0 0 0 (-1) 0 0 0 0 0 0 as ak ab ar gm)), (xo, .inr (10, xC inp par pla dra lat his f1 f2 0 0 (-1) gx)), (pla, .inr (5, pC 0 0 0 gpl))] H := hP
  have hD : va_D A [(mo, .inr (11, mC 0 0 0 (-1) 0 0 0 0 0 0 as ak ab ar gm)), (xo, .inr (10, xC inp par pla dra lat his f1 f2 0 0 (-1) gx)), (pla, .inr (5, pC 0 0 0 gpl))] := hD
  refine W.widen (k := 2001) (n := 60006) (Nat.le_of_ble_eq_true rfl) (Nat.le_of_ble_eq_true rfl) ?_
  refine W.eq (g2 := F0 m 2620 ls [.int 1]) rfl ?_
  refine lv_istore (lv' := [(5, .int 1), (4, .int 0), (3, .ref o), (2, .ref mo), (1, .ref xo), (0, .ref b)]) hx hb dL_law_2620 hl (by decide) rfl (fun ls hl => ?_)
  refine lv_aload_n hx hb dL_law_2622 rfl (lv_at hl 3 rfl) ?_
  refine lv_aload_n hx hb dL_law_2623 rfl (lv_at hl 5 rfl) ?_
  refine lv_iload hx hb dL_law_2624 (lv_at hl 1 rfl) ?_
  refine lv_iconst (v := 1) hx hb dL_law_2626 (by decide) ?_
  refine lv_iadd hx hb dL_law_2627 ?_
  refine W.eq (g2 := F0 m 2628 ls [.int 1, .ref b, .ref mo]) rfl ?_
  refine va_sld hx hb hX hbl hbA hS (by unfold vp_in; decide) dL_law_2628 ?_
  refine W.eq (g2 := F0 m 2629 ls [.int (xs 1), .ref mo]) rfl ?_
  refine call_i (wr := [(xo, .inr (10, xC inp par pla dra lat his f1 f2 0 0 (-1) gx)), (pla, .inr (5, pC 0 0 0 gpl))]) C (run_V (As := [.int (xs 1)]) (rest := []) C (m_removeGuard l D cI cZ cJ mo 0 0 (-1) 0 0 0 0 0 0 as ak ab ar gm 0 (xs 1) ) cV_L_342 hP hD hS [0] rfl rfl 0 rfl rfl rfl rfl hl.1 rfl (Nat.le_of_ble_eq_true rfl) dL_law_2629 ⟨Nat.le_of_ble_eq_true rfl, Nat.le_of_ble_eq_true rfl⟩ ⟨Nat.le_of_ble_eq_true rfl, Nat.le_of_ble_eq_true rfl⟩) hP hD hS [0] [1, 2] rfl rfl rfl (by decide) (fun u2 H locs hP hD hS => ?_)
  have hP : va_P D CL [(xo, .inr (10, xC inp par pla dra lat his f1 f2 0 0 (-1) gx)), (pla, .inr (5, pC 0 0 0 gpl)), (mo, .inr (11, mC 1 0 0 (-1) 0 0 0 0 0 0 as ak ab ar gm))] H := hP
  have hD : va_D A [(xo, .inr (10, xC inp par pla dra lat his f1 f2 0 0 (-1) gx)), (pla, .inr (5, pC 0 0 0 gpl)), (mo, .inr (11, mC 1 0 0 (-1) 0 0 0 0 0 0 as ak ab ar gm))] := hD
  refine W.widen (k := 2001) (n := 60006) (Nat.le_of_ble_eq_true rfl) (Nat.le_of_ble_eq_true rfl) ?_
  refine W.eq (g2 := F0 m 2632 ls [.int 0]) rfl ?_
  refine lv_istore (lv' := [(6, .int 0), (5, .int 1), (4, .int 0), (3, .ref o), (2, .ref mo), (1, .ref xo), (0, .ref b)]) hx hb dL_law_2632 hl (by decide) rfl (fun ls hl => ?_)
  refine lv_aload_n hx hb dL_law_2634 rfl (lv_at hl 4 rfl) ?_
  refine call_i (wr := [(xo, .inr (10, xC inp par pla dra lat his f1 f2 0 0 (-1) gx)), (pla, .inr (5, pC 0 0 0 gpl))]) C (run_V (As := []) (rest := []) C (m_thrown l D cI cZ cJ mo 0 0 (-1) 0 0 0 0 0 0 as ak ab ar gm 1 ) cV_L_187 hP hD hS [2] rfl rfl 0 rfl rfl rfl rfl hl.1 rfl (Nat.le_of_ble_eq_true rfl) dL_law_2635 ⟨Nat.le_of_ble_eq_true rfl, Nat.le_of_ble_eq_true rfl⟩ ⟨Nat.le_of_ble_eq_true rfl, Nat.le_of_ble_eq_true rfl⟩) hP hD hS [2] [0, 1] rfl rfl rfl (by decide) (fun u3 H locs hP hD hS => ?_)
  have hP : va_P D CL [(xo, .inr (10, xC inp par pla dra lat his f1 f2 0 0 (-1) gx)), (pla, .inr (5, pC 0 0 0 gpl)), (mo, .inr (11, mC 1 0 0 (-1) 0 0 0 0 0 0 as ak ab ar gm))] H := hP
  have hD : va_D A [(xo, .inr (10, xC inp par pla dra lat his f1 f2 0 0 (-1) gx)), (pla, .inr (5, pC 0 0 0 gpl)), (mo, .inr (11, mC 1 0 0 (-1) 0 0 0 0 0 0 as ak ab ar gm))] := hD
  refine W.widen (k := 2001) (n := 60006) (Nat.le_of_ble_eq_true rfl) (Nat.le_of_ble_eq_true rfl) ?_
  refine W.eq (g2 := F0 m 2638 ls [.int 1]) rfl ?_
  refine lv_iload hx hb dL_law_2638 (lv_at hl 1 rfl) ?_
  refine lv_icmp_eq (tgt := 2645) hx hb dL_law_2640 (by decide) (fun _ => ?_) (fun h => absurd (by decide) h)
  refine lv_iload hx hb dL_law_2645 (lv_at hl 1 rfl) ?_
  refine lv_if_ne (tgt := 2662) hx hb dL_law_2647 (by decide) (fun _ => ?_) (fun h => absurd h (by decide))
  refine lv_goto (tgt := 3186) hx hb dL_law_2662 (by decide) ?_
  exact law_exit K hS (lv_sub hl [6, 2] rfl) (Nat.le_of_ble_eq_true rfl) (Nat.le_of_ble_eq_true rfl)
set_option maxHeartbeats 4000000 in
set_option maxRecDepth 100000 in
theorem law_50 {p : Program} {l : Launch} {e : Env} {s : State} {m : MethodId} {below : List Frame} {meth : Method} {c : Code} {b : Nat} {xs : Nat → Int32} {D : va_G} {cI cZ cJ : ClassId} {A : Nat → Prop} (K : LCx p l s m meth c b 6 xs D cI cZ cJ A) {xo inp byt par pla dra lat his f1 f2 mo as ak ab ar o : Nat} {gx gpl gdr gla gf1 gf2 gpa ghi gm : Nat → Value}  {H : Heap} {locs : List Loc} {ls : Array Slot} (hP : va_P D CL (LW cI cZ xo inp byt par pla dra lat his f1 f2 mo as ak ab ar gx gpl gdr gla gf1 gf2 gpa ghi gm) H) (hD : va_D A (LW cI cZ xo inp byt par pla dra lat his f1 f2 mo as ak ab ar gx gpl gdr gla gf1 gf2 gpa ghi gm)) (hS : va_S A s.heap H locs) (hl : lv_has ls 8 [(4, .int 0), (3, .ref o), (2, .ref mo), (1, .ref xo), (0, .ref b)]) : W p l e room_1 s m #[Value.ref b] below meth c H locs 2000 60000 (lw_Z below #[Value.ref b] s) (F0 m 2665 ls []) := by
  obtain ⟨C, hX, hbl, hlt, hAA⟩ := id K
  have hx := C.1
  have hb := C.2.1
  have hbA : ¬ A b := fun h => absurd (hAA b h) (Nat.not_le.mpr hbl)
  have hP : va_P D CL [(xo, .inr (10, xC inp par pla dra lat his f1 f2 0 0 (-1) gx)), (inp, .inr (2, [.int 0, .int 0, .int 0, .int 0, .int 0, .int 0, .ref byt])), (byt, .inl (cI, 600, .inl (fun _ => 0))), (par, .inr (4, [.ref inp, .ref dra, gpa 2, .int 0, .int 0])), (pla, .inr (5, pC 0 0 0 gpl)), (dra, .inr (5, pC 0 0 0 gdr)), (lat, .inr (3, [.int 0, .long 0, gla 2, gla 3, gla 4])), (his, .inr (1, [.int 0, .int 0, ghi 2])), (f1, .inr (5, pC 0 0 0 gf1)), (f2, .inr (5, pC 0 0 0 gf2)), (mo, .inr (11, mC 0 0 0 (-1) 0 0 0 0 0 0 as ak ab ar gm)), (as, .inl (cI, 63, .inl (fun _ => 0))), (ak, .inl (cZ, 2, .inl (fun _ => 0))), (ab, .inl (cI, 600, .inl (fun _ => 0))), (ar, .inl (cI, 63, .inl (fun _ => 0)))] H := hP
  have hD : va_D A [(xo, .inr (10, xC inp par pla dra lat his f1 f2 0 0 (-1) gx)), (inp, .inr (2, [.int 0, .int 0, .int 0, .int 0, .int 0, .int 0, .ref byt])), (byt, .inl (cI, 600, .inl (fun _ => 0))), (par, .inr (4, [.ref inp, .ref dra, gpa 2, .int 0, .int 0])), (pla, .inr (5, pC 0 0 0 gpl)), (dra, .inr (5, pC 0 0 0 gdr)), (lat, .inr (3, [.int 0, .long 0, gla 2, gla 3, gla 4])), (his, .inr (1, [.int 0, .int 0, ghi 2])), (f1, .inr (5, pC 0 0 0 gf1)), (f2, .inr (5, pC 0 0 0 gf2)), (mo, .inr (11, mC 0 0 0 (-1) 0 0 0 0 0 0 as ak ab ar gm)), (as, .inl (cI, 63, .inl (fun _ => 0))), (ak, .inl (cZ, 2, .inl (fun _ => 0))), (ab, .inl (cI, 600, .inl (fun _ => 0))), (ar, .inl (cI, 63, .inl (fun _ => 0)))] := hD
  have hP := hP.sub (ws' := [(xo, .inr (10, xC inp par pla dra lat his f1 f2 0 0 (-1) gx)), (pla, .inr (5, pC 0 0 0 gpl)), (mo, .inr (11, mC 0 0 0 (-1) 0 0 0 0 0 0 as ak ab ar gm))]) [0, 4, 10] rfl
  have hD := hD.sub (ws' := [(xo, .inr (10, xC inp par pla dra lat his f1 f2 0 0 (-1) gx)), (pla, .inr (5, pC 0 0 0 gpl)), (mo, .inr (11, mC 0 0 0 (-1) 0 0 0 0 0 0 as ak ab ar gm))]) [0, 4, 10] (by decide) rfl
  refine lv_aload_n hx hb dL_law_2665 rfl (lv_at hl 3 rfl) ?_
  refine lv_aload_n hx hb dL_law_2666 rfl (lv_at hl 4 rfl) ?_
  refine lv_iload hx hb dL_law_2667 (lv_at hl 0 rfl) ?_
  refine lv_iconst (v := 1) hx hb dL_law_2669 (by decide) ?_
  refine lv_iadd hx hb dL_law_2670 ?_
  refine W.eq (g2 := F0 m 2671 ls [.int 1, .ref b, .ref xo]) rfl ?_
  refine va_sld hx hb hX hbl hbA hS (by unfold vp_in; decide) dL_law_2671 ?_
  refine W.eq (g2 := F0 m 2672 ls [.int (xs 1), .ref xo]) rfl ?_
  refine lv_aload_n hx hb dL_law_2672 rfl (lv_at hl 4 rfl) ?_
  refine lv_iload hx hb dL_law_2673 (lv_at hl 0 rfl) ?_
  refine lv_iconst (v := 2) hx hb dL_law_2675 (by decide) ?_
  refine lv_iadd hx hb dL_law_2676 ?_
  refine W.eq (g2 := F0 m 2677 ls [.int 2, .ref b, .int (xs 1), .ref xo]) rfl ?_
  refine va_sld hx hb hX hbl hbA hS (by unfold vp_in; decide) dL_law_2677 ?_
  refine W.eq (g2 := F0 m 2678 ls [.int (xs 2), .int (xs 1), .ref xo]) rfl ?_
  refine lv_aload_n hx hb dL_law_2678 rfl (lv_at hl 1 rfl) ?_
  refine call_i (wr := [(mo, .inr (11, mC 0 0 0 (-1) 0 0 0 0 0 0 as ak ab ar gm))]) C (run_SW (As := [.ref xo, .int (xs 1), .int (xs 2), .ref o]) (rest := []) C (h_moveGuard l hlt D cI cZ cJ xo inp par pla dra lat his f1 f2 0 0 (-1) gx gpl (xs 1) (xs 2) o ) cS_L_343 hP hD hS [0, 1] rfl rfl rfl hl.1 rfl (Nat.le_of_ble_eq_true rfl) dL_law_2679 ⟨Nat.le_of_ble_eq_true rfl, Nat.le_of_ble_eq_true rfl⟩ ⟨Nat.le_of_ble_eq_true rfl, Nat.le_of_ble_eq_true rfl⟩) hP hD hS [0, 1] [2] rfl rfl rfl (by decide) (fun u1 H locs hP hD hS => ?_)
  have hP : va_P D CL [(mo, .inr (11, mC 0 0 0 (-1) 0 0 0 0 0 0 as ak ab ar gm)), (xo, .inr (10, xC inp par pla dra lat his f1 f2 0 0 (-1) gx)), (pla, .inr (5, pC 0 0 0 gpl))] H := hP
  have hD : va_D A [(mo, .inr (11, mC 0 0 0 (-1) 0 0 0 0 0 0 as ak ab ar gm)), (xo, .inr (10, xC inp par pla dra lat his f1 f2 0 0 (-1) gx)), (pla, .inr (5, pC 0 0 0 gpl))] := hD
  refine W.widen (k := 2001) (n := 60006) (Nat.le_of_ble_eq_true rfl) (Nat.le_of_ble_eq_true rfl) ?_
  refine W.eq (g2 := F0 m 2682 ls [.int 1]) rfl ?_
  refine lv_istore (lv' := [(5, .int 1), (4, .int 0), (3, .ref o), (2, .ref mo), (1, .ref xo), (0, .ref b)]) hx hb dL_law_2682 hl (by decide) rfl (fun ls hl => ?_)
  refine lv_aload_n hx hb dL_law_2684 rfl (lv_at hl 3 rfl) ?_
  refine lv_aload_n hx hb dL_law_2685 rfl (lv_at hl 5 rfl) ?_
  refine lv_iload hx hb dL_law_2686 (lv_at hl 1 rfl) ?_
  refine lv_iconst (v := 1) hx hb dL_law_2688 (by decide) ?_
  refine lv_iadd hx hb dL_law_2689 ?_
  refine W.eq (g2 := F0 m 2690 ls [.int 1, .ref b, .ref mo]) rfl ?_
  refine va_sld hx hb hX hbl hbA hS (by unfold vp_in; decide) dL_law_2690 ?_
  refine W.eq (g2 := F0 m 2691 ls [.int (xs 1), .ref mo]) rfl ?_
  refine lv_aload_n hx hb dL_law_2691 rfl (lv_at hl 5 rfl) ?_
  refine lv_iload hx hb dL_law_2692 (lv_at hl 1 rfl) ?_
  refine lv_iconst (v := 2) hx hb dL_law_2694 (by decide) ?_
  refine lv_iadd hx hb dL_law_2695 ?_
  refine W.eq (g2 := F0 m 2696 ls [.int 2, .ref b, .int (xs 1), .ref mo]) rfl ?_
  refine va_sld hx hb hX hbl hbA hS (by unfold vp_in; decide) dL_law_2696 ?_
  refine W.eq (g2 := F0 m 2697 ls [.int (xs 2), .int (xs 1), .ref mo]) rfl ?_
  refine call_i (wr := [(xo, .inr (10, xC inp par pla dra lat his f1 f2 0 0 (-1) gx)), (pla, .inr (5, pC 0 0 0 gpl))]) C (run_V (As := [.int (xs 1), .int (xs 2)]) (rest := []) C (m_moveGuard l D cI cZ cJ mo 0 0 (-1) 0 0 0 0 0 0 as ak ab ar gm 0 (xs 1) (xs 2) ) cV_L_345 hP hD hS [0] rfl rfl 0 rfl rfl rfl rfl hl.1 rfl (Nat.le_of_ble_eq_true rfl) dL_law_2697 ⟨Nat.le_of_ble_eq_true rfl, Nat.le_of_ble_eq_true rfl⟩ ⟨Nat.le_of_ble_eq_true rfl, Nat.le_of_ble_eq_true rfl⟩) hP hD hS [0] [1, 2] rfl rfl rfl (by decide) (fun u2 H locs hP hD hS => ?_)
  have hP : va_P D CL [(xo, .inr (10, xC inp par pla dra lat his f1 f2 0 0 (-1) gx)), (pla, .inr (5, pC 0 0 0 gpl)), (mo, .inr (11, mC 1 0 0 (-1) 0 0 0 0 0 0 as ak ab ar gm))] H := hP
  have hD : va_D A [(xo, .inr (10, xC inp par pla dra lat his f1 f2 0 0 (-1) gx)), (pla, .inr (5, pC 0 0 0 gpl)), (mo, .inr (11, mC 1 0 0 (-1) 0 0 0 0 0 0 as ak ab ar gm))] := hD
  refine W.widen (k := 2001) (n := 60006) (Nat.le_of_ble_eq_true rfl) (Nat.le_of_ble_eq_true rfl) ?_
  refine W.eq (g2 := F0 m 2700 ls [.int 0]) rfl ?_
  refine lv_istore (lv' := [(6, .int 0), (5, .int 1), (4, .int 0), (3, .ref o), (2, .ref mo), (1, .ref xo), (0, .ref b)]) hx hb dL_law_2700 hl (by decide) rfl (fun ls hl => ?_)
  refine lv_aload_n hx hb dL_law_2702 rfl (lv_at hl 4 rfl) ?_
  refine call_i (wr := [(xo, .inr (10, xC inp par pla dra lat his f1 f2 0 0 (-1) gx)), (pla, .inr (5, pC 0 0 0 gpl))]) C (run_V (As := []) (rest := []) C (m_thrown l D cI cZ cJ mo 0 0 (-1) 0 0 0 0 0 0 as ak ab ar gm 1 ) cV_L_187 hP hD hS [2] rfl rfl 0 rfl rfl rfl rfl hl.1 rfl (Nat.le_of_ble_eq_true rfl) dL_law_2703 ⟨Nat.le_of_ble_eq_true rfl, Nat.le_of_ble_eq_true rfl⟩ ⟨Nat.le_of_ble_eq_true rfl, Nat.le_of_ble_eq_true rfl⟩) hP hD hS [2] [0, 1] rfl rfl rfl (by decide) (fun u3 H locs hP hD hS => ?_)
  have hP : va_P D CL [(xo, .inr (10, xC inp par pla dra lat his f1 f2 0 0 (-1) gx)), (pla, .inr (5, pC 0 0 0 gpl)), (mo, .inr (11, mC 1 0 0 (-1) 0 0 0 0 0 0 as ak ab ar gm))] H := hP
  have hD : va_D A [(xo, .inr (10, xC inp par pla dra lat his f1 f2 0 0 (-1) gx)), (pla, .inr (5, pC 0 0 0 gpl)), (mo, .inr (11, mC 1 0 0 (-1) 0 0 0 0 0 0 as ak ab ar gm))] := hD
  refine W.widen (k := 2001) (n := 60006) (Nat.le_of_ble_eq_true rfl) (Nat.le_of_ble_eq_true rfl) ?_
  refine W.eq (g2 := F0 m 2706 ls [.int 1]) rfl ?_
  refine lv_iload hx hb dL_law_2706 (lv_at hl 1 rfl) ?_
  refine lv_icmp_eq (tgt := 2713) hx hb dL_law_2708 (by decide) (fun _ => ?_) (fun h => absurd (by decide) h)
  refine lv_iload hx hb dL_law_2713 (lv_at hl 1 rfl) ?_
  refine lv_if_ne (tgt := 2730) hx hb dL_law_2715 (by decide) (fun _ => ?_) (fun h => absurd h (by decide))
  refine lv_goto (tgt := 3186) hx hb dL_law_2730 (by decide) ?_
  exact law_exit K hS (lv_sub hl [6, 2] rfl) (Nat.le_of_ble_eq_true rfl) (Nat.le_of_ble_eq_true rfl)
set_option maxHeartbeats 4000000 in
set_option maxRecDepth 100000 in
theorem law_51 {p : Program} {l : Launch} {e : Env} {s : State} {m : MethodId} {below : List Frame} {meth : Method} {c : Code} {b : Nat} {xs : Nat → Int32} {D : va_G} {cI cZ cJ : ClassId} {A : Nat → Prop} (K : LCx p l s m meth c b 6 xs D cI cZ cJ A) {xo inp byt par pla dra lat his f1 f2 mo as ak ab ar o : Nat} {gx gpl gdr gla gf1 gf2 gpa ghi gm : Nat → Value}  {H : Heap} {locs : List Loc} {ls : Array Slot} (hP : va_P D CL (LW cI cZ xo inp byt par pla dra lat his f1 f2 mo as ak ab ar gx gpl gdr gla gf1 gf2 gpa ghi gm) H) (hD : va_D A (LW cI cZ xo inp byt par pla dra lat his f1 f2 mo as ak ab ar gx gpl gdr gla gf1 gf2 gpa ghi gm)) (hS : va_S A s.heap H locs) (hl : lv_has ls 8 [(4, .int 0), (3, .ref o), (2, .ref mo), (1, .ref xo), (0, .ref b)]) : W p l e room_1 s m #[Value.ref b] below meth c H locs 2000 60000 (lw_Z below #[Value.ref b] s) (F0 m 2733 ls []) := by
  obtain ⟨C, hX, hbl, hlt, hAA⟩ := id K
  have hx := C.1
  have hb := C.2.1
  have hbA : ¬ A b := fun h => absurd (hAA b h) (Nat.not_le.mpr hbl)
  have hP : va_P D CL [(xo, .inr (10, xC inp par pla dra lat his f1 f2 0 0 (-1) gx)), (inp, .inr (2, [.int 0, .int 0, .int 0, .int 0, .int 0, .int 0, .ref byt])), (byt, .inl (cI, 600, .inl (fun _ => 0))), (par, .inr (4, [.ref inp, .ref dra, gpa 2, .int 0, .int 0])), (pla, .inr (5, pC 0 0 0 gpl)), (dra, .inr (5, pC 0 0 0 gdr)), (lat, .inr (3, [.int 0, .long 0, gla 2, gla 3, gla 4])), (his, .inr (1, [.int 0, .int 0, ghi 2])), (f1, .inr (5, pC 0 0 0 gf1)), (f2, .inr (5, pC 0 0 0 gf2)), (mo, .inr (11, mC 0 0 0 (-1) 0 0 0 0 0 0 as ak ab ar gm)), (as, .inl (cI, 63, .inl (fun _ => 0))), (ak, .inl (cZ, 2, .inl (fun _ => 0))), (ab, .inl (cI, 600, .inl (fun _ => 0))), (ar, .inl (cI, 63, .inl (fun _ => 0)))] H := hP
  have hD : va_D A [(xo, .inr (10, xC inp par pla dra lat his f1 f2 0 0 (-1) gx)), (inp, .inr (2, [.int 0, .int 0, .int 0, .int 0, .int 0, .int 0, .ref byt])), (byt, .inl (cI, 600, .inl (fun _ => 0))), (par, .inr (4, [.ref inp, .ref dra, gpa 2, .int 0, .int 0])), (pla, .inr (5, pC 0 0 0 gpl)), (dra, .inr (5, pC 0 0 0 gdr)), (lat, .inr (3, [.int 0, .long 0, gla 2, gla 3, gla 4])), (his, .inr (1, [.int 0, .int 0, ghi 2])), (f1, .inr (5, pC 0 0 0 gf1)), (f2, .inr (5, pC 0 0 0 gf2)), (mo, .inr (11, mC 0 0 0 (-1) 0 0 0 0 0 0 as ak ab ar gm)), (as, .inl (cI, 63, .inl (fun _ => 0))), (ak, .inl (cZ, 2, .inl (fun _ => 0))), (ab, .inl (cI, 600, .inl (fun _ => 0))), (ar, .inl (cI, 63, .inl (fun _ => 0)))] := hD
  have hP := hP.sub (ws' := [(xo, .inr (10, xC inp par pla dra lat his f1 f2 0 0 (-1) gx)), (pla, .inr (5, pC 0 0 0 gpl)), (mo, .inr (11, mC 0 0 0 (-1) 0 0 0 0 0 0 as ak ab ar gm))]) [0, 4, 10] rfl
  have hD := hD.sub (ws' := [(xo, .inr (10, xC inp par pla dra lat his f1 f2 0 0 (-1) gx)), (pla, .inr (5, pC 0 0 0 gpl)), (mo, .inr (11, mC 0 0 0 (-1) 0 0 0 0 0 0 as ak ab ar gm))]) [0, 4, 10] (by decide) rfl
  refine lv_aload_n hx hb dL_law_2733 rfl (lv_at hl 3 rfl) ?_
  refine lv_aload_n hx hb dL_law_2734 rfl (lv_at hl 4 rfl) ?_
  refine lv_iload hx hb dL_law_2735 (lv_at hl 0 rfl) ?_
  refine lv_iconst (v := 1) hx hb dL_law_2737 (by decide) ?_
  refine lv_iadd hx hb dL_law_2738 ?_
  refine W.eq (g2 := F0 m 2739 ls [.int 1, .ref b, .ref xo]) rfl ?_
  refine va_sld hx hb hX hbl hbA hS (by unfold vp_in; decide) dL_law_2739 ?_
  refine W.eq (g2 := F0 m 2740 ls [.int (xs 1), .ref xo]) rfl ?_
  refine lv_aload_n hx hb dL_law_2740 rfl (lv_at hl 4 rfl) ?_
  refine lv_iload hx hb dL_law_2741 (lv_at hl 0 rfl) ?_
  refine lv_iconst (v := 2) hx hb dL_law_2743 (by decide) ?_
  refine lv_iadd hx hb dL_law_2744 ?_
  refine W.eq (g2 := F0 m 2745 ls [.int 2, .ref b, .int (xs 1), .ref xo]) rfl ?_
  refine va_sld hx hb hX hbl hbA hS (by unfold vp_in; decide) dL_law_2745 ?_
  refine W.eq (g2 := F0 m 2746 ls [.int (xs 2), .int (xs 1), .ref xo]) rfl ?_
  refine lv_aload_n hx hb dL_law_2746 rfl (lv_at hl 1 rfl) ?_
  refine call_i (wr := [(mo, .inr (11, mC 0 0 0 (-1) 0 0 0 0 0 0 as ak ab ar gm))]) C (run_SW (As := [.ref xo, .int (xs 1), .int (xs 2), .ref o]) (rest := []) C (h_setRange l hlt D cI cZ cJ xo inp par pla dra lat his f1 f2 0 0 (-1) gx gpl (xs 1) (xs 2) o ) cS_L_346 hP hD hS [0, 1] rfl rfl rfl hl.1 rfl (Nat.le_of_ble_eq_true rfl) dL_law_2747 ⟨Nat.le_of_ble_eq_true rfl, Nat.le_of_ble_eq_true rfl⟩ ⟨Nat.le_of_ble_eq_true rfl, Nat.le_of_ble_eq_true rfl⟩) hP hD hS [0, 1] [2] rfl rfl rfl (by decide) (fun u1 H locs hP hD hS => ?_)
  have hP : va_P D CL [(mo, .inr (11, mC 0 0 0 (-1) 0 0 0 0 0 0 as ak ab ar gm)), (xo, .inr (10, xC inp par pla dra lat his f1 f2 0 0 (-1) gx)), (pla, .inr (5, pC 0 0 0 gpl))] H := hP
  have hD : va_D A [(mo, .inr (11, mC 0 0 0 (-1) 0 0 0 0 0 0 as ak ab ar gm)), (xo, .inr (10, xC inp par pla dra lat his f1 f2 0 0 (-1) gx)), (pla, .inr (5, pC 0 0 0 gpl))] := hD
  refine W.widen (k := 2001) (n := 60006) (Nat.le_of_ble_eq_true rfl) (Nat.le_of_ble_eq_true rfl) ?_
  refine W.eq (g2 := F0 m 2750 ls [.int 1]) rfl ?_
  refine lv_istore (lv' := [(5, .int 1), (4, .int 0), (3, .ref o), (2, .ref mo), (1, .ref xo), (0, .ref b)]) hx hb dL_law_2750 hl (by decide) rfl (fun ls hl => ?_)
  refine lv_aload_n hx hb dL_law_2752 rfl (lv_at hl 3 rfl) ?_
  refine lv_aload_n hx hb dL_law_2753 rfl (lv_at hl 5 rfl) ?_
  refine lv_iload hx hb dL_law_2754 (lv_at hl 1 rfl) ?_
  refine lv_iconst (v := 1) hx hb dL_law_2756 (by decide) ?_
  refine lv_iadd hx hb dL_law_2757 ?_
  refine W.eq (g2 := F0 m 2758 ls [.int 1, .ref b, .ref mo]) rfl ?_
  refine va_sld hx hb hX hbl hbA hS (by unfold vp_in; decide) dL_law_2758 ?_
  refine W.eq (g2 := F0 m 2759 ls [.int (xs 1), .ref mo]) rfl ?_
  refine lv_aload_n hx hb dL_law_2759 rfl (lv_at hl 5 rfl) ?_
  refine lv_iload hx hb dL_law_2760 (lv_at hl 1 rfl) ?_
  refine lv_iconst (v := 2) hx hb dL_law_2762 (by decide) ?_
  refine lv_iadd hx hb dL_law_2763 ?_
  refine W.eq (g2 := F0 m 2764 ls [.int 2, .ref b, .int (xs 1), .ref mo]) rfl ?_
  refine va_sld hx hb hX hbl hbA hS (by unfold vp_in; decide) dL_law_2764 ?_
  refine W.eq (g2 := F0 m 2765 ls [.int (xs 2), .int (xs 1), .ref mo]) rfl ?_
  refine call_i (wr := [(xo, .inr (10, xC inp par pla dra lat his f1 f2 0 0 (-1) gx)), (pla, .inr (5, pC 0 0 0 gpl))]) C (run_V (As := [.int (xs 1), .int (xs 2)]) (rest := []) C (m_setRange l D cI cZ cJ mo 0 0 (-1) 0 0 0 0 0 0 as ak ab ar gm 0 (xs 1) (xs 2) ) cV_L_348 hP hD hS [0] rfl rfl 0 rfl rfl rfl rfl hl.1 rfl (Nat.le_of_ble_eq_true rfl) dL_law_2765 ⟨Nat.le_of_ble_eq_true rfl, Nat.le_of_ble_eq_true rfl⟩ ⟨Nat.le_of_ble_eq_true rfl, Nat.le_of_ble_eq_true rfl⟩) hP hD hS [0] [1, 2] rfl rfl rfl (by decide) (fun u2 H locs hP hD hS => ?_)
  have hP : va_P D CL [(xo, .inr (10, xC inp par pla dra lat his f1 f2 0 0 (-1) gx)), (pla, .inr (5, pC 0 0 0 gpl)), (mo, .inr (11, mC 1 0 0 (-1) 0 0 0 0 0 0 as ak ab ar gm))] H := hP
  have hD : va_D A [(xo, .inr (10, xC inp par pla dra lat his f1 f2 0 0 (-1) gx)), (pla, .inr (5, pC 0 0 0 gpl)), (mo, .inr (11, mC 1 0 0 (-1) 0 0 0 0 0 0 as ak ab ar gm))] := hD
  refine W.widen (k := 2001) (n := 60006) (Nat.le_of_ble_eq_true rfl) (Nat.le_of_ble_eq_true rfl) ?_
  refine W.eq (g2 := F0 m 2768 ls [.int 0]) rfl ?_
  refine lv_istore (lv' := [(6, .int 0), (5, .int 1), (4, .int 0), (3, .ref o), (2, .ref mo), (1, .ref xo), (0, .ref b)]) hx hb dL_law_2768 hl (by decide) rfl (fun ls hl => ?_)
  refine lv_aload_n hx hb dL_law_2770 rfl (lv_at hl 4 rfl) ?_
  refine call_i (wr := [(xo, .inr (10, xC inp par pla dra lat his f1 f2 0 0 (-1) gx)), (pla, .inr (5, pC 0 0 0 gpl))]) C (run_V (As := []) (rest := []) C (m_thrown l D cI cZ cJ mo 0 0 (-1) 0 0 0 0 0 0 as ak ab ar gm 1 ) cV_L_187 hP hD hS [2] rfl rfl 0 rfl rfl rfl rfl hl.1 rfl (Nat.le_of_ble_eq_true rfl) dL_law_2771 ⟨Nat.le_of_ble_eq_true rfl, Nat.le_of_ble_eq_true rfl⟩ ⟨Nat.le_of_ble_eq_true rfl, Nat.le_of_ble_eq_true rfl⟩) hP hD hS [2] [0, 1] rfl rfl rfl (by decide) (fun u3 H locs hP hD hS => ?_)
  have hP : va_P D CL [(xo, .inr (10, xC inp par pla dra lat his f1 f2 0 0 (-1) gx)), (pla, .inr (5, pC 0 0 0 gpl)), (mo, .inr (11, mC 1 0 0 (-1) 0 0 0 0 0 0 as ak ab ar gm))] H := hP
  have hD : va_D A [(xo, .inr (10, xC inp par pla dra lat his f1 f2 0 0 (-1) gx)), (pla, .inr (5, pC 0 0 0 gpl)), (mo, .inr (11, mC 1 0 0 (-1) 0 0 0 0 0 0 as ak ab ar gm))] := hD
  refine W.widen (k := 2001) (n := 60006) (Nat.le_of_ble_eq_true rfl) (Nat.le_of_ble_eq_true rfl) ?_
  refine W.eq (g2 := F0 m 2774 ls [.int 1]) rfl ?_
  refine lv_iload hx hb dL_law_2774 (lv_at hl 1 rfl) ?_
  refine lv_icmp_eq (tgt := 2781) hx hb dL_law_2776 (by decide) (fun _ => ?_) (fun h => absurd (by decide) h)
  refine lv_iload hx hb dL_law_2781 (lv_at hl 1 rfl) ?_
  refine lv_if_ne (tgt := 2798) hx hb dL_law_2783 (by decide) (fun _ => ?_) (fun h => absurd h (by decide))
  refine lv_goto (tgt := 3186) hx hb dL_law_2798 (by decide) ?_
  exact law_exit K hS (lv_sub hl [6, 2] rfl) (Nat.le_of_ble_eq_true rfl) (Nat.le_of_ble_eq_true rfl)
set_option maxHeartbeats 4000000 in
set_option maxRecDepth 100000 in
theorem law_52 {p : Program} {l : Launch} {e : Env} {s : State} {m : MethodId} {below : List Frame} {meth : Method} {c : Code} {b : Nat} {xs : Nat → Int32} {D : va_G} {cI cZ cJ : ClassId} {A : Nat → Prop} (K : LCx p l s m meth c b 6 xs D cI cZ cJ A) {xo inp byt par pla dra lat his f1 f2 mo as ak ab ar o : Nat} {gx gpl gdr gla gf1 gf2 gpa ghi gm : Nat → Value}  {H : Heap} {locs : List Loc} {ls : Array Slot} (hP : va_P D CL (LW cI cZ xo inp byt par pla dra lat his f1 f2 mo as ak ab ar gx gpl gdr gla gf1 gf2 gpa ghi gm) H) (hD : va_D A (LW cI cZ xo inp byt par pla dra lat his f1 f2 mo as ak ab ar gx gpl gdr gla gf1 gf2 gpa ghi gm)) (hS : va_S A s.heap H locs) (hl : lv_has ls 8 [(4, .int 0), (3, .ref o), (2, .ref mo), (1, .ref xo), (0, .ref b)]) : W p l e room_1 s m #[Value.ref b] below meth c H locs 2000 60000 (lw_Z below #[Value.ref b] s) (F0 m 2801 ls []) := by
  obtain ⟨C, hX, hbl, hlt, hAA⟩ := id K
  have hx := C.1
  have hb := C.2.1
  have hbA : ¬ A b := fun h => absurd (hAA b h) (Nat.not_le.mpr hbl)
  have hP : va_P D CL [(xo, .inr (10, xC inp par pla dra lat his f1 f2 0 0 (-1) gx)), (inp, .inr (2, [.int 0, .int 0, .int 0, .int 0, .int 0, .int 0, .ref byt])), (byt, .inl (cI, 600, .inl (fun _ => 0))), (par, .inr (4, [.ref inp, .ref dra, gpa 2, .int 0, .int 0])), (pla, .inr (5, pC 0 0 0 gpl)), (dra, .inr (5, pC 0 0 0 gdr)), (lat, .inr (3, [.int 0, .long 0, gla 2, gla 3, gla 4])), (his, .inr (1, [.int 0, .int 0, ghi 2])), (f1, .inr (5, pC 0 0 0 gf1)), (f2, .inr (5, pC 0 0 0 gf2)), (mo, .inr (11, mC 0 0 0 (-1) 0 0 0 0 0 0 as ak ab ar gm)), (as, .inl (cI, 63, .inl (fun _ => 0))), (ak, .inl (cZ, 2, .inl (fun _ => 0))), (ab, .inl (cI, 600, .inl (fun _ => 0))), (ar, .inl (cI, 63, .inl (fun _ => 0)))] H := hP
  have hD : va_D A [(xo, .inr (10, xC inp par pla dra lat his f1 f2 0 0 (-1) gx)), (inp, .inr (2, [.int 0, .int 0, .int 0, .int 0, .int 0, .int 0, .ref byt])), (byt, .inl (cI, 600, .inl (fun _ => 0))), (par, .inr (4, [.ref inp, .ref dra, gpa 2, .int 0, .int 0])), (pla, .inr (5, pC 0 0 0 gpl)), (dra, .inr (5, pC 0 0 0 gdr)), (lat, .inr (3, [.int 0, .long 0, gla 2, gla 3, gla 4])), (his, .inr (1, [.int 0, .int 0, ghi 2])), (f1, .inr (5, pC 0 0 0 gf1)), (f2, .inr (5, pC 0 0 0 gf2)), (mo, .inr (11, mC 0 0 0 (-1) 0 0 0 0 0 0 as ak ab ar gm)), (as, .inl (cI, 63, .inl (fun _ => 0))), (ak, .inl (cZ, 2, .inl (fun _ => 0))), (ab, .inl (cI, 600, .inl (fun _ => 0))), (ar, .inl (cI, 63, .inl (fun _ => 0)))] := hD
  have hP := hP.sub (ws' := [(xo, .inr (10, xC inp par pla dra lat his f1 f2 0 0 (-1) gx)), (pla, .inr (5, pC 0 0 0 gpl)), (mo, .inr (11, mC 0 0 0 (-1) 0 0 0 0 0 0 as ak ab ar gm))]) [0, 4, 10] rfl
  have hD := hD.sub (ws' := [(xo, .inr (10, xC inp par pla dra lat his f1 f2 0 0 (-1) gx)), (pla, .inr (5, pC 0 0 0 gpl)), (mo, .inr (11, mC 0 0 0 (-1) 0 0 0 0 0 0 as ak ab ar gm))]) [0, 4, 10] (by decide) rfl
  refine lv_aload_n hx hb dL_law_2801 rfl (lv_at hl 3 rfl) ?_
  refine lv_aload_n hx hb dL_law_2802 rfl (lv_at hl 4 rfl) ?_
  refine lv_iload hx hb dL_law_2803 (lv_at hl 0 rfl) ?_
  refine lv_iconst (v := 1) hx hb dL_law_2805 (by decide) ?_
  refine lv_iadd hx hb dL_law_2806 ?_
  refine W.eq (g2 := F0 m 2807 ls [.int 1, .ref b, .ref xo]) rfl ?_
  refine va_sld hx hb hX hbl hbA hS (by unfold vp_in; decide) dL_law_2807 ?_
  refine W.eq (g2 := F0 m 2808 ls [.int (xs 1), .ref xo]) rfl ?_
  refine lv_aload_n hx hb dL_law_2808 rfl (lv_at hl 4 rfl) ?_
  refine lv_iload hx hb dL_law_2809 (lv_at hl 0 rfl) ?_
  refine lv_iconst (v := 2) hx hb dL_law_2811 (by decide) ?_
  refine lv_iadd hx hb dL_law_2812 ?_
  refine W.eq (g2 := F0 m 2813 ls [.int 2, .ref b, .int (xs 1), .ref xo]) rfl ?_
  refine va_sld hx hb hX hbl hbA hS (by unfold vp_in; decide) dL_law_2813 ?_
  refine W.eq (g2 := F0 m 2814 ls [.int (xs 2), .int (xs 1), .ref xo]) rfl ?_
  refine lv_aload_n hx hb dL_law_2814 rfl (lv_at hl 4 rfl) ?_
  refine lv_iload hx hb dL_law_2815 (lv_at hl 0 rfl) ?_
  refine lv_iconst (v := 3) hx hb dL_law_2817 (by decide) ?_
  refine lv_iadd hx hb dL_law_2818 ?_
  refine W.eq (g2 := F0 m 2819 ls [.int 3, .ref b, .int (xs 2), .int (xs 1), .ref xo]) rfl ?_
  refine va_sld hx hb hX hbl hbA hS (by unfold vp_in; decide) dL_law_2819 ?_
  refine W.eq (g2 := F0 m 2820 ls [.int (xs 3), .int (xs 2), .int (xs 1), .ref xo]) rfl ?_
  refine lv_aload_n hx hb dL_law_2820 rfl (lv_at hl 1 rfl) ?_
  refine call_i (wr := [(mo, .inr (11, mC 0 0 0 (-1) 0 0 0 0 0 0 as ak ab ar gm))]) C (run_SW (As := [.ref xo, .int (xs 1), .int (xs 2), .int (xs 3), .ref o]) (rest := []) C (h_moveVertex l hlt D cI cZ cJ xo inp par pla dra lat his f1 f2 0 0 (-1) gx gpl (xs 1) (xs 2) (xs 3) o ) cS_L_349 hP hD hS [0, 1] rfl rfl rfl hl.1 rfl (Nat.le_of_ble_eq_true rfl) dL_law_2821 ⟨Nat.le_of_ble_eq_true rfl, Nat.le_of_ble_eq_true rfl⟩ ⟨Nat.le_of_ble_eq_true rfl, Nat.le_of_ble_eq_true rfl⟩) hP hD hS [0, 1] [2] rfl rfl rfl (by decide) (fun u1 H locs hP hD hS => ?_)
  have hP : va_P D CL [(mo, .inr (11, mC 0 0 0 (-1) 0 0 0 0 0 0 as ak ab ar gm)), (xo, .inr (10, xC inp par pla dra lat his f1 f2 0 0 (-1) gx)), (pla, .inr (5, pC 0 0 0 gpl))] H := hP
  have hD : va_D A [(mo, .inr (11, mC 0 0 0 (-1) 0 0 0 0 0 0 as ak ab ar gm)), (xo, .inr (10, xC inp par pla dra lat his f1 f2 0 0 (-1) gx)), (pla, .inr (5, pC 0 0 0 gpl))] := hD
  refine W.widen (k := 2001) (n := 60006) (Nat.le_of_ble_eq_true rfl) (Nat.le_of_ble_eq_true rfl) ?_
  refine W.eq (g2 := F0 m 2824 ls [.int 1]) rfl ?_
  refine lv_istore (lv' := [(5, .int 1), (4, .int 0), (3, .ref o), (2, .ref mo), (1, .ref xo), (0, .ref b)]) hx hb dL_law_2824 hl (by decide) rfl (fun ls hl => ?_)
  refine lv_aload_n hx hb dL_law_2826 rfl (lv_at hl 3 rfl) ?_
  refine lv_aload_n hx hb dL_law_2827 rfl (lv_at hl 5 rfl) ?_
  refine lv_iload hx hb dL_law_2828 (lv_at hl 1 rfl) ?_
  refine lv_iconst (v := 1) hx hb dL_law_2830 (by decide) ?_
  refine lv_iadd hx hb dL_law_2831 ?_
  refine W.eq (g2 := F0 m 2832 ls [.int 1, .ref b, .ref mo]) rfl ?_
  refine va_sld hx hb hX hbl hbA hS (by unfold vp_in; decide) dL_law_2832 ?_
  refine W.eq (g2 := F0 m 2833 ls [.int (xs 1), .ref mo]) rfl ?_
  refine lv_aload_n hx hb dL_law_2833 rfl (lv_at hl 5 rfl) ?_
  refine lv_iload hx hb dL_law_2834 (lv_at hl 1 rfl) ?_
  refine lv_iconst (v := 2) hx hb dL_law_2836 (by decide) ?_
  refine lv_iadd hx hb dL_law_2837 ?_
  refine W.eq (g2 := F0 m 2838 ls [.int 2, .ref b, .int (xs 1), .ref mo]) rfl ?_
  refine va_sld hx hb hX hbl hbA hS (by unfold vp_in; decide) dL_law_2838 ?_
  refine W.eq (g2 := F0 m 2839 ls [.int (xs 2), .int (xs 1), .ref mo]) rfl ?_
  refine lv_aload_n hx hb dL_law_2839 rfl (lv_at hl 5 rfl) ?_
  refine lv_iload hx hb dL_law_2840 (lv_at hl 1 rfl) ?_
  refine lv_iconst (v := 3) hx hb dL_law_2842 (by decide) ?_
  refine lv_iadd hx hb dL_law_2843 ?_
  refine W.eq (g2 := F0 m 2844 ls [.int 3, .ref b, .int (xs 2), .int (xs 1), .ref mo]) rfl ?_
  refine va_sld hx hb hX hbl hbA hS (by unfold vp_in; decide) dL_law_2844 ?_
  refine W.eq (g2 := F0 m 2845 ls [.int (xs 3), .int (xs 2), .int (xs 1), .ref mo]) rfl ?_
  refine call_i (wr := [(xo, .inr (10, xC inp par pla dra lat his f1 f2 0 0 (-1) gx)), (pla, .inr (5, pC 0 0 0 gpl))]) C (run_V (As := [.int (xs 1), .int (xs 2), .int (xs 3)]) (rest := []) C (m_moveVertex l D cI cZ cJ mo 0 0 (-1) 0 0 0 0 0 0 as ak ab ar gm 0 (xs 1) (xs 2) (xs 3) ) cV_L_352 hP hD hS [0] rfl rfl 0 rfl rfl rfl rfl hl.1 rfl (Nat.le_of_ble_eq_true rfl) dL_law_2845 ⟨Nat.le_of_ble_eq_true rfl, Nat.le_of_ble_eq_true rfl⟩ ⟨Nat.le_of_ble_eq_true rfl, Nat.le_of_ble_eq_true rfl⟩) hP hD hS [0] [1, 2] rfl rfl rfl (by decide) (fun u2 H locs hP hD hS => ?_)
  have hP : va_P D CL [(xo, .inr (10, xC inp par pla dra lat his f1 f2 0 0 (-1) gx)), (pla, .inr (5, pC 0 0 0 gpl)), (mo, .inr (11, mC 1 0 0 (-1) 0 0 0 0 0 0 as ak ab ar gm))] H := hP
  have hD : va_D A [(xo, .inr (10, xC inp par pla dra lat his f1 f2 0 0 (-1) gx)), (pla, .inr (5, pC 0 0 0 gpl)), (mo, .inr (11, mC 1 0 0 (-1) 0 0 0 0 0 0 as ak ab ar gm))] := hD
  refine W.widen (k := 2001) (n := 60006) (Nat.le_of_ble_eq_true rfl) (Nat.le_of_ble_eq_true rfl) ?_
  refine W.eq (g2 := F0 m 2848 ls [.int 0]) rfl ?_
  refine lv_istore (lv' := [(6, .int 0), (5, .int 1), (4, .int 0), (3, .ref o), (2, .ref mo), (1, .ref xo), (0, .ref b)]) hx hb dL_law_2848 hl (by decide) rfl (fun ls hl => ?_)
  refine lv_aload_n hx hb dL_law_2850 rfl (lv_at hl 4 rfl) ?_
  refine call_i (wr := [(xo, .inr (10, xC inp par pla dra lat his f1 f2 0 0 (-1) gx)), (pla, .inr (5, pC 0 0 0 gpl))]) C (run_V (As := []) (rest := []) C (m_thrown l D cI cZ cJ mo 0 0 (-1) 0 0 0 0 0 0 as ak ab ar gm 1 ) cV_L_187 hP hD hS [2] rfl rfl 0 rfl rfl rfl rfl hl.1 rfl (Nat.le_of_ble_eq_true rfl) dL_law_2851 ⟨Nat.le_of_ble_eq_true rfl, Nat.le_of_ble_eq_true rfl⟩ ⟨Nat.le_of_ble_eq_true rfl, Nat.le_of_ble_eq_true rfl⟩) hP hD hS [2] [0, 1] rfl rfl rfl (by decide) (fun u3 H locs hP hD hS => ?_)
  have hP : va_P D CL [(xo, .inr (10, xC inp par pla dra lat his f1 f2 0 0 (-1) gx)), (pla, .inr (5, pC 0 0 0 gpl)), (mo, .inr (11, mC 1 0 0 (-1) 0 0 0 0 0 0 as ak ab ar gm))] H := hP
  have hD : va_D A [(xo, .inr (10, xC inp par pla dra lat his f1 f2 0 0 (-1) gx)), (pla, .inr (5, pC 0 0 0 gpl)), (mo, .inr (11, mC 1 0 0 (-1) 0 0 0 0 0 0 as ak ab ar gm))] := hD
  refine W.widen (k := 2001) (n := 60006) (Nat.le_of_ble_eq_true rfl) (Nat.le_of_ble_eq_true rfl) ?_
  refine W.eq (g2 := F0 m 2854 ls [.int 1]) rfl ?_
  refine lv_iload hx hb dL_law_2854 (lv_at hl 1 rfl) ?_
  refine lv_icmp_eq (tgt := 2861) hx hb dL_law_2856 (by decide) (fun _ => ?_) (fun h => absurd (by decide) h)
  refine lv_iload hx hb dL_law_2861 (lv_at hl 1 rfl) ?_
  refine lv_if_ne (tgt := 2878) hx hb dL_law_2863 (by decide) (fun _ => ?_) (fun h => absurd h (by decide))
  refine lv_goto (tgt := 3186) hx hb dL_law_2878 (by decide) ?_
  exact law_exit K hS (lv_sub hl [6, 2] rfl) (Nat.le_of_ble_eq_true rfl) (Nat.le_of_ble_eq_true rfl)
set_option maxHeartbeats 4000000 in
set_option maxRecDepth 100000 in
theorem law_53 {p : Program} {l : Launch} {e : Env} {s : State} {m : MethodId} {below : List Frame} {meth : Method} {c : Code} {b : Nat} {xs : Nat → Int32} {D : va_G} {cI cZ cJ : ClassId} {A : Nat → Prop} (K : LCx p l s m meth c b 6 xs D cI cZ cJ A) {xo inp byt par pla dra lat his f1 f2 mo as ak ab ar o : Nat} {gx gpl gdr gla gf1 gf2 gpa ghi gm : Nat → Value}  {H : Heap} {locs : List Loc} {ls : Array Slot} (hP : va_P D CL (LW cI cZ xo inp byt par pla dra lat his f1 f2 mo as ak ab ar gx gpl gdr gla gf1 gf2 gpa ghi gm) H) (hD : va_D A (LW cI cZ xo inp byt par pla dra lat his f1 f2 mo as ak ab ar gx gpl gdr gla gf1 gf2 gpa ghi gm)) (hS : va_S A s.heap H locs) (hl : lv_has ls 8 [(4, .int 0), (3, .ref o), (2, .ref mo), (1, .ref xo), (0, .ref b)]) : W p l e room_1 s m #[Value.ref b] below meth c H locs 2000 60000 (lw_Z below #[Value.ref b] s) (F0 m 2881 ls []) := by
  obtain ⟨C, hX, hbl, hlt, hAA⟩ := id K
  have hx := C.1
  have hb := C.2.1
  have hbA : ¬ A b := fun h => absurd (hAA b h) (Nat.not_le.mpr hbl)
  have hP : va_P D CL [(xo, .inr (10, xC inp par pla dra lat his f1 f2 0 0 (-1) gx)), (inp, .inr (2, [.int 0, .int 0, .int 0, .int 0, .int 0, .int 0, .ref byt])), (byt, .inl (cI, 600, .inl (fun _ => 0))), (par, .inr (4, [.ref inp, .ref dra, gpa 2, .int 0, .int 0])), (pla, .inr (5, pC 0 0 0 gpl)), (dra, .inr (5, pC 0 0 0 gdr)), (lat, .inr (3, [.int 0, .long 0, gla 2, gla 3, gla 4])), (his, .inr (1, [.int 0, .int 0, ghi 2])), (f1, .inr (5, pC 0 0 0 gf1)), (f2, .inr (5, pC 0 0 0 gf2)), (mo, .inr (11, mC 0 0 0 (-1) 0 0 0 0 0 0 as ak ab ar gm)), (as, .inl (cI, 63, .inl (fun _ => 0))), (ak, .inl (cZ, 2, .inl (fun _ => 0))), (ab, .inl (cI, 600, .inl (fun _ => 0))), (ar, .inl (cI, 63, .inl (fun _ => 0)))] H := hP
  have hD : va_D A [(xo, .inr (10, xC inp par pla dra lat his f1 f2 0 0 (-1) gx)), (inp, .inr (2, [.int 0, .int 0, .int 0, .int 0, .int 0, .int 0, .ref byt])), (byt, .inl (cI, 600, .inl (fun _ => 0))), (par, .inr (4, [.ref inp, .ref dra, gpa 2, .int 0, .int 0])), (pla, .inr (5, pC 0 0 0 gpl)), (dra, .inr (5, pC 0 0 0 gdr)), (lat, .inr (3, [.int 0, .long 0, gla 2, gla 3, gla 4])), (his, .inr (1, [.int 0, .int 0, ghi 2])), (f1, .inr (5, pC 0 0 0 gf1)), (f2, .inr (5, pC 0 0 0 gf2)), (mo, .inr (11, mC 0 0 0 (-1) 0 0 0 0 0 0 as ak ab ar gm)), (as, .inl (cI, 63, .inl (fun _ => 0))), (ak, .inl (cZ, 2, .inl (fun _ => 0))), (ab, .inl (cI, 600, .inl (fun _ => 0))), (ar, .inl (cI, 63, .inl (fun _ => 0)))] := hD
  have hP := hP.sub (ws' := [(xo, .inr (10, xC inp par pla dra lat his f1 f2 0 0 (-1) gx)), (pla, .inr (5, pC 0 0 0 gpl)), (mo, .inr (11, mC 0 0 0 (-1) 0 0 0 0 0 0 as ak ab ar gm))]) [0, 4, 10] rfl
  have hD := hD.sub (ws' := [(xo, .inr (10, xC inp par pla dra lat his f1 f2 0 0 (-1) gx)), (pla, .inr (5, pC 0 0 0 gpl)), (mo, .inr (11, mC 0 0 0 (-1) 0 0 0 0 0 0 as ak ab ar gm))]) [0, 4, 10] (by decide) rfl
  refine lv_aload_n hx hb dL_law_2881 rfl (lv_at hl 3 rfl) ?_
  refine lv_aload_n hx hb dL_law_2882 rfl (lv_at hl 4 rfl) ?_
  refine lv_iload hx hb dL_law_2883 (lv_at hl 0 rfl) ?_
  refine lv_iconst (v := 1) hx hb dL_law_2885 (by decide) ?_
  refine lv_iadd hx hb dL_law_2886 ?_
  refine W.eq (g2 := F0 m 2887 ls [.int 1, .ref b, .ref xo]) rfl ?_
  refine va_sld hx hb hX hbl hbA hS (by unfold vp_in; decide) dL_law_2887 ?_
  refine W.eq (g2 := F0 m 2888 ls [.int (xs 1), .ref xo]) rfl ?_
  refine lv_aload_n hx hb dL_law_2888 rfl (lv_at hl 4 rfl) ?_
  refine lv_iload hx hb dL_law_2889 (lv_at hl 0 rfl) ?_
  refine lv_iconst (v := 2) hx hb dL_law_2891 (by decide) ?_
  refine lv_iadd hx hb dL_law_2892 ?_
  refine W.eq (g2 := F0 m 2893 ls [.int 2, .ref b, .int (xs 1), .ref xo]) rfl ?_
  refine va_sld hx hb hX hbl hbA hS (by unfold vp_in; decide) dL_law_2893 ?_
  refine W.eq (g2 := F0 m 2894 ls [.int (xs 2), .int (xs 1), .ref xo]) rfl ?_
  refine lv_aload_n hx hb dL_law_2894 rfl (lv_at hl 4 rfl) ?_
  refine lv_iload hx hb dL_law_2895 (lv_at hl 0 rfl) ?_
  refine lv_iconst (v := 3) hx hb dL_law_2897 (by decide) ?_
  refine lv_iadd hx hb dL_law_2898 ?_
  refine W.eq (g2 := F0 m 2899 ls [.int 3, .ref b, .int (xs 2), .int (xs 1), .ref xo]) rfl ?_
  refine va_sld hx hb hX hbl hbA hS (by unfold vp_in; decide) dL_law_2899 ?_
  refine W.eq (g2 := F0 m 2900 ls [.int (xs 3), .int (xs 2), .int (xs 1), .ref xo]) rfl ?_
  refine lv_aload_n hx hb dL_law_2900 rfl (lv_at hl 1 rfl) ?_
  refine call_i (wr := [(mo, .inr (11, mC 0 0 0 (-1) 0 0 0 0 0 0 as ak ab ar gm))]) C (run_SW (As := [.ref xo, .int (xs 1), .int (xs 2), .int (xs 3), .ref o]) (rest := []) C (h_insertVertex l hlt D cI cZ cJ xo inp par pla dra lat his f1 f2 0 0 (-1) gx gpl (xs 1) (xs 2) (xs 3) o ) cS_L_353 hP hD hS [0, 1] rfl rfl rfl hl.1 rfl (Nat.le_of_ble_eq_true rfl) dL_law_2901 ⟨Nat.le_of_ble_eq_true rfl, Nat.le_of_ble_eq_true rfl⟩ ⟨Nat.le_of_ble_eq_true rfl, Nat.le_of_ble_eq_true rfl⟩) hP hD hS [0, 1] [2] rfl rfl rfl (by decide) (fun u1 H locs hP hD hS => ?_)
  have hP : va_P D CL [(mo, .inr (11, mC 0 0 0 (-1) 0 0 0 0 0 0 as ak ab ar gm)), (xo, .inr (10, xC inp par pla dra lat his f1 f2 0 0 (-1) gx)), (pla, .inr (5, pC 0 0 0 gpl))] H := hP
  have hD : va_D A [(mo, .inr (11, mC 0 0 0 (-1) 0 0 0 0 0 0 as ak ab ar gm)), (xo, .inr (10, xC inp par pla dra lat his f1 f2 0 0 (-1) gx)), (pla, .inr (5, pC 0 0 0 gpl))] := hD
  refine W.widen (k := 2001) (n := 60006) (Nat.le_of_ble_eq_true rfl) (Nat.le_of_ble_eq_true rfl) ?_
  refine W.eq (g2 := F0 m 2904 ls [.int 1]) rfl ?_
  refine lv_istore (lv' := [(5, .int 1), (4, .int 0), (3, .ref o), (2, .ref mo), (1, .ref xo), (0, .ref b)]) hx hb dL_law_2904 hl (by decide) rfl (fun ls hl => ?_)
  refine lv_aload_n hx hb dL_law_2906 rfl (lv_at hl 3 rfl) ?_
  refine lv_aload_n hx hb dL_law_2907 rfl (lv_at hl 5 rfl) ?_
  refine lv_iload hx hb dL_law_2908 (lv_at hl 1 rfl) ?_
  refine lv_iconst (v := 1) hx hb dL_law_2910 (by decide) ?_
  refine lv_iadd hx hb dL_law_2911 ?_
  refine W.eq (g2 := F0 m 2912 ls [.int 1, .ref b, .ref mo]) rfl ?_
  refine va_sld hx hb hX hbl hbA hS (by unfold vp_in; decide) dL_law_2912 ?_
  refine W.eq (g2 := F0 m 2913 ls [.int (xs 1), .ref mo]) rfl ?_
  refine lv_aload_n hx hb dL_law_2913 rfl (lv_at hl 5 rfl) ?_
  refine lv_iload hx hb dL_law_2914 (lv_at hl 1 rfl) ?_
  refine lv_iconst (v := 2) hx hb dL_law_2916 (by decide) ?_
  refine lv_iadd hx hb dL_law_2917 ?_
  refine W.eq (g2 := F0 m 2918 ls [.int 2, .ref b, .int (xs 1), .ref mo]) rfl ?_
  refine va_sld hx hb hX hbl hbA hS (by unfold vp_in; decide) dL_law_2918 ?_
  refine W.eq (g2 := F0 m 2919 ls [.int (xs 2), .int (xs 1), .ref mo]) rfl ?_
  refine lv_aload_n hx hb dL_law_2919 rfl (lv_at hl 5 rfl) ?_
  refine lv_iload hx hb dL_law_2920 (lv_at hl 1 rfl) ?_
  refine lv_iconst (v := 3) hx hb dL_law_2922 (by decide) ?_
  refine lv_iadd hx hb dL_law_2923 ?_
  refine W.eq (g2 := F0 m 2924 ls [.int 3, .ref b, .int (xs 2), .int (xs 1), .ref mo]) rfl ?_
  refine va_sld hx hb hX hbl hbA hS (by unfold vp_in; decide) dL_law_2924 ?_
  refine W.eq (g2 := F0 m 2925 ls [.int (xs 3), .int (xs 2), .int (xs 1), .ref mo]) rfl ?_
  refine call_i (wr := [(xo, .inr (10, xC inp par pla dra lat his f1 f2 0 0 (-1) gx)), (pla, .inr (5, pC 0 0 0 gpl))]) C (run_V (As := [.int (xs 1), .int (xs 2), .int (xs 3)]) (rest := []) C (m_insertVertex l D cI cZ cJ mo 0 0 (-1) 0 0 0 0 0 0 as ak ab ar gm 0 (xs 1) (xs 2) (xs 3) ) cV_L_355 hP hD hS [0] rfl rfl 0 rfl rfl rfl rfl hl.1 rfl (Nat.le_of_ble_eq_true rfl) dL_law_2925 ⟨Nat.le_of_ble_eq_true rfl, Nat.le_of_ble_eq_true rfl⟩ ⟨Nat.le_of_ble_eq_true rfl, Nat.le_of_ble_eq_true rfl⟩) hP hD hS [0] [1, 2] rfl rfl rfl (by decide) (fun u2 H locs hP hD hS => ?_)
  have hP : va_P D CL [(xo, .inr (10, xC inp par pla dra lat his f1 f2 0 0 (-1) gx)), (pla, .inr (5, pC 0 0 0 gpl)), (mo, .inr (11, mC 1 0 0 (-1) 0 0 0 0 0 0 as ak ab ar gm))] H := hP
  have hD : va_D A [(xo, .inr (10, xC inp par pla dra lat his f1 f2 0 0 (-1) gx)), (pla, .inr (5, pC 0 0 0 gpl)), (mo, .inr (11, mC 1 0 0 (-1) 0 0 0 0 0 0 as ak ab ar gm))] := hD
  refine W.widen (k := 2001) (n := 60006) (Nat.le_of_ble_eq_true rfl) (Nat.le_of_ble_eq_true rfl) ?_
  refine W.eq (g2 := F0 m 2928 ls [.int 0]) rfl ?_
  refine lv_istore (lv' := [(6, .int 0), (5, .int 1), (4, .int 0), (3, .ref o), (2, .ref mo), (1, .ref xo), (0, .ref b)]) hx hb dL_law_2928 hl (by decide) rfl (fun ls hl => ?_)
  refine lv_aload_n hx hb dL_law_2930 rfl (lv_at hl 4 rfl) ?_
  refine call_i (wr := [(xo, .inr (10, xC inp par pla dra lat his f1 f2 0 0 (-1) gx)), (pla, .inr (5, pC 0 0 0 gpl))]) C (run_V (As := []) (rest := []) C (m_thrown l D cI cZ cJ mo 0 0 (-1) 0 0 0 0 0 0 as ak ab ar gm 1 ) cV_L_187 hP hD hS [2] rfl rfl 0 rfl rfl rfl rfl hl.1 rfl (Nat.le_of_ble_eq_true rfl) dL_law_2931 ⟨Nat.le_of_ble_eq_true rfl, Nat.le_of_ble_eq_true rfl⟩ ⟨Nat.le_of_ble_eq_true rfl, Nat.le_of_ble_eq_true rfl⟩) hP hD hS [2] [0, 1] rfl rfl rfl (by decide) (fun u3 H locs hP hD hS => ?_)
  have hP : va_P D CL [(xo, .inr (10, xC inp par pla dra lat his f1 f2 0 0 (-1) gx)), (pla, .inr (5, pC 0 0 0 gpl)), (mo, .inr (11, mC 1 0 0 (-1) 0 0 0 0 0 0 as ak ab ar gm))] H := hP
  have hD : va_D A [(xo, .inr (10, xC inp par pla dra lat his f1 f2 0 0 (-1) gx)), (pla, .inr (5, pC 0 0 0 gpl)), (mo, .inr (11, mC 1 0 0 (-1) 0 0 0 0 0 0 as ak ab ar gm))] := hD
  refine W.widen (k := 2001) (n := 60006) (Nat.le_of_ble_eq_true rfl) (Nat.le_of_ble_eq_true rfl) ?_
  refine W.eq (g2 := F0 m 2934 ls [.int 1]) rfl ?_
  refine lv_iload hx hb dL_law_2934 (lv_at hl 1 rfl) ?_
  refine lv_icmp_eq (tgt := 2941) hx hb dL_law_2936 (by decide) (fun _ => ?_) (fun h => absurd (by decide) h)
  refine lv_iload hx hb dL_law_2941 (lv_at hl 1 rfl) ?_
  refine lv_if_ne (tgt := 2958) hx hb dL_law_2943 (by decide) (fun _ => ?_) (fun h => absurd h (by decide))
  refine lv_goto (tgt := 3186) hx hb dL_law_2958 (by decide) ?_
  exact law_exit K hS (lv_sub hl [6, 2] rfl) (Nat.le_of_ble_eq_true rfl) (Nat.le_of_ble_eq_true rfl)
set_option maxHeartbeats 4000000 in
set_option maxRecDepth 100000 in
theorem law_54 {p : Program} {l : Launch} {e : Env} {s : State} {m : MethodId} {below : List Frame} {meth : Method} {c : Code} {b : Nat} {xs : Nat → Int32} {D : va_G} {cI cZ cJ : ClassId} {A : Nat → Prop} (K : LCx p l s m meth c b 6 xs D cI cZ cJ A) {xo inp byt par pla dra lat his f1 f2 mo as ak ab ar o : Nat} {gx gpl gdr gla gf1 gf2 gpa ghi gm : Nat → Value}  {H : Heap} {locs : List Loc} {ls : Array Slot} (hP : va_P D CL (LW cI cZ xo inp byt par pla dra lat his f1 f2 mo as ak ab ar gx gpl gdr gla gf1 gf2 gpa ghi gm) H) (hD : va_D A (LW cI cZ xo inp byt par pla dra lat his f1 f2 mo as ak ab ar gx gpl gdr gla gf1 gf2 gpa ghi gm)) (hS : va_S A s.heap H locs) (hl : lv_has ls 8 [(4, .int 0), (3, .ref o), (2, .ref mo), (1, .ref xo), (0, .ref b)]) : W p l e room_1 s m #[Value.ref b] below meth c H locs 2000 60000 (lw_Z below #[Value.ref b] s) (F0 m 2961 ls []) := by
  obtain ⟨C, hX, hbl, hlt, hAA⟩ := id K
  have hx := C.1
  have hb := C.2.1
  have hbA : ¬ A b := fun h => absurd (hAA b h) (Nat.not_le.mpr hbl)
  have hP : va_P D CL [(xo, .inr (10, xC inp par pla dra lat his f1 f2 0 0 (-1) gx)), (inp, .inr (2, [.int 0, .int 0, .int 0, .int 0, .int 0, .int 0, .ref byt])), (byt, .inl (cI, 600, .inl (fun _ => 0))), (par, .inr (4, [.ref inp, .ref dra, gpa 2, .int 0, .int 0])), (pla, .inr (5, pC 0 0 0 gpl)), (dra, .inr (5, pC 0 0 0 gdr)), (lat, .inr (3, [.int 0, .long 0, gla 2, gla 3, gla 4])), (his, .inr (1, [.int 0, .int 0, ghi 2])), (f1, .inr (5, pC 0 0 0 gf1)), (f2, .inr (5, pC 0 0 0 gf2)), (mo, .inr (11, mC 0 0 0 (-1) 0 0 0 0 0 0 as ak ab ar gm)), (as, .inl (cI, 63, .inl (fun _ => 0))), (ak, .inl (cZ, 2, .inl (fun _ => 0))), (ab, .inl (cI, 600, .inl (fun _ => 0))), (ar, .inl (cI, 63, .inl (fun _ => 0)))] H := hP
  have hD : va_D A [(xo, .inr (10, xC inp par pla dra lat his f1 f2 0 0 (-1) gx)), (inp, .inr (2, [.int 0, .int 0, .int 0, .int 0, .int 0, .int 0, .ref byt])), (byt, .inl (cI, 600, .inl (fun _ => 0))), (par, .inr (4, [.ref inp, .ref dra, gpa 2, .int 0, .int 0])), (pla, .inr (5, pC 0 0 0 gpl)), (dra, .inr (5, pC 0 0 0 gdr)), (lat, .inr (3, [.int 0, .long 0, gla 2, gla 3, gla 4])), (his, .inr (1, [.int 0, .int 0, ghi 2])), (f1, .inr (5, pC 0 0 0 gf1)), (f2, .inr (5, pC 0 0 0 gf2)), (mo, .inr (11, mC 0 0 0 (-1) 0 0 0 0 0 0 as ak ab ar gm)), (as, .inl (cI, 63, .inl (fun _ => 0))), (ak, .inl (cZ, 2, .inl (fun _ => 0))), (ab, .inl (cI, 600, .inl (fun _ => 0))), (ar, .inl (cI, 63, .inl (fun _ => 0)))] := hD
  have hP := hP.sub (ws' := [(xo, .inr (10, xC inp par pla dra lat his f1 f2 0 0 (-1) gx)), (pla, .inr (5, pC 0 0 0 gpl)), (mo, .inr (11, mC 0 0 0 (-1) 0 0 0 0 0 0 as ak ab ar gm))]) [0, 4, 10] rfl
  have hD := hD.sub (ws' := [(xo, .inr (10, xC inp par pla dra lat his f1 f2 0 0 (-1) gx)), (pla, .inr (5, pC 0 0 0 gpl)), (mo, .inr (11, mC 0 0 0 (-1) 0 0 0 0 0 0 as ak ab ar gm))]) [0, 4, 10] (by decide) rfl
  refine lv_aload_n hx hb dL_law_2961 rfl (lv_at hl 3 rfl) ?_
  refine lv_aload_n hx hb dL_law_2962 rfl (lv_at hl 4 rfl) ?_
  refine lv_iload hx hb dL_law_2963 (lv_at hl 0 rfl) ?_
  refine lv_iconst (v := 1) hx hb dL_law_2965 (by decide) ?_
  refine lv_iadd hx hb dL_law_2966 ?_
  refine W.eq (g2 := F0 m 2967 ls [.int 1, .ref b, .ref xo]) rfl ?_
  refine va_sld hx hb hX hbl hbA hS (by unfold vp_in; decide) dL_law_2967 ?_
  refine W.eq (g2 := F0 m 2968 ls [.int (xs 1), .ref xo]) rfl ?_
  refine lv_aload_n hx hb dL_law_2968 rfl (lv_at hl 1 rfl) ?_
  refine call_i (wr := [(mo, .inr (11, mC 0 0 0 (-1) 0 0 0 0 0 0 as ak ab ar gm))]) C (run_SW (As := [.ref xo, .int (xs 1), .ref o]) (rest := []) C (h_deleteVertex l hlt D cI cZ cJ xo inp par pla dra lat his f1 f2 0 0 (-1) gx gpl (xs 1) o ) cS_L_356 hP hD hS [0, 1] rfl rfl rfl hl.1 rfl (Nat.le_of_ble_eq_true rfl) dL_law_2969 ⟨Nat.le_of_ble_eq_true rfl, Nat.le_of_ble_eq_true rfl⟩ ⟨Nat.le_of_ble_eq_true rfl, Nat.le_of_ble_eq_true rfl⟩) hP hD hS [0, 1] [2] rfl rfl rfl (by decide) (fun u1 H locs hP hD hS => ?_)
  have hP : va_P D CL [(mo, .inr (11, mC 0 0 0 (-1) 0 0 0 0 0 0 as ak ab ar gm)), (xo, .inr (10, xC inp par pla dra lat his f1 f2 0 0 (-1) gx)), (pla, .inr (5, pC 0 0 0 gpl))] H := hP
  have hD : va_D A [(mo, .inr (11, mC 0 0 0 (-1) 0 0 0 0 0 0 as ak ab ar gm)), (xo, .inr (10, xC inp par pla dra lat his f1 f2 0 0 (-1) gx)), (pla, .inr (5, pC 0 0 0 gpl))] := hD
  refine W.widen (k := 2001) (n := 60006) (Nat.le_of_ble_eq_true rfl) (Nat.le_of_ble_eq_true rfl) ?_
  refine W.eq (g2 := F0 m 2972 ls [.int 1]) rfl ?_
  refine lv_istore (lv' := [(5, .int 1), (4, .int 0), (3, .ref o), (2, .ref mo), (1, .ref xo), (0, .ref b)]) hx hb dL_law_2972 hl (by decide) rfl (fun ls hl => ?_)
  refine lv_aload_n hx hb dL_law_2974 rfl (lv_at hl 3 rfl) ?_
  refine lv_aload_n hx hb dL_law_2975 rfl (lv_at hl 5 rfl) ?_
  refine lv_iload hx hb dL_law_2976 (lv_at hl 1 rfl) ?_
  refine lv_iconst (v := 1) hx hb dL_law_2978 (by decide) ?_
  refine lv_iadd hx hb dL_law_2979 ?_
  refine W.eq (g2 := F0 m 2980 ls [.int 1, .ref b, .ref mo]) rfl ?_
  refine va_sld hx hb hX hbl hbA hS (by unfold vp_in; decide) dL_law_2980 ?_
  refine W.eq (g2 := F0 m 2981 ls [.int (xs 1), .ref mo]) rfl ?_
  refine call_i (wr := [(xo, .inr (10, xC inp par pla dra lat his f1 f2 0 0 (-1) gx)), (pla, .inr (5, pC 0 0 0 gpl))]) C (run_V (As := [.int (xs 1)]) (rest := []) C (m_deleteVertex l D cI cZ cJ mo 0 0 (-1) 0 0 0 0 0 0 as ak ab ar gm 0 (xs 1) ) cV_L_358 hP hD hS [0] rfl rfl 0 rfl rfl rfl rfl hl.1 rfl (Nat.le_of_ble_eq_true rfl) dL_law_2981 ⟨Nat.le_of_ble_eq_true rfl, Nat.le_of_ble_eq_true rfl⟩ ⟨Nat.le_of_ble_eq_true rfl, Nat.le_of_ble_eq_true rfl⟩) hP hD hS [0] [1, 2] rfl rfl rfl (by decide) (fun u2 H locs hP hD hS => ?_)
  have hP : va_P D CL [(xo, .inr (10, xC inp par pla dra lat his f1 f2 0 0 (-1) gx)), (pla, .inr (5, pC 0 0 0 gpl)), (mo, .inr (11, mC 1 0 0 (-1) 0 0 0 0 0 0 as ak ab ar gm))] H := hP
  have hD : va_D A [(xo, .inr (10, xC inp par pla dra lat his f1 f2 0 0 (-1) gx)), (pla, .inr (5, pC 0 0 0 gpl)), (mo, .inr (11, mC 1 0 0 (-1) 0 0 0 0 0 0 as ak ab ar gm))] := hD
  refine W.widen (k := 2001) (n := 60006) (Nat.le_of_ble_eq_true rfl) (Nat.le_of_ble_eq_true rfl) ?_
  refine W.eq (g2 := F0 m 2984 ls [.int 0]) rfl ?_
  refine lv_istore (lv' := [(6, .int 0), (5, .int 1), (4, .int 0), (3, .ref o), (2, .ref mo), (1, .ref xo), (0, .ref b)]) hx hb dL_law_2984 hl (by decide) rfl (fun ls hl => ?_)
  refine lv_aload_n hx hb dL_law_2986 rfl (lv_at hl 4 rfl) ?_
  refine call_i (wr := [(xo, .inr (10, xC inp par pla dra lat his f1 f2 0 0 (-1) gx)), (pla, .inr (5, pC 0 0 0 gpl))]) C (run_V (As := []) (rest := []) C (m_thrown l D cI cZ cJ mo 0 0 (-1) 0 0 0 0 0 0 as ak ab ar gm 1 ) cV_L_187 hP hD hS [2] rfl rfl 0 rfl rfl rfl rfl hl.1 rfl (Nat.le_of_ble_eq_true rfl) dL_law_2987 ⟨Nat.le_of_ble_eq_true rfl, Nat.le_of_ble_eq_true rfl⟩ ⟨Nat.le_of_ble_eq_true rfl, Nat.le_of_ble_eq_true rfl⟩) hP hD hS [2] [0, 1] rfl rfl rfl (by decide) (fun u3 H locs hP hD hS => ?_)
  have hP : va_P D CL [(xo, .inr (10, xC inp par pla dra lat his f1 f2 0 0 (-1) gx)), (pla, .inr (5, pC 0 0 0 gpl)), (mo, .inr (11, mC 1 0 0 (-1) 0 0 0 0 0 0 as ak ab ar gm))] H := hP
  have hD : va_D A [(xo, .inr (10, xC inp par pla dra lat his f1 f2 0 0 (-1) gx)), (pla, .inr (5, pC 0 0 0 gpl)), (mo, .inr (11, mC 1 0 0 (-1) 0 0 0 0 0 0 as ak ab ar gm))] := hD
  refine W.widen (k := 2001) (n := 60006) (Nat.le_of_ble_eq_true rfl) (Nat.le_of_ble_eq_true rfl) ?_
  refine W.eq (g2 := F0 m 2990 ls [.int 1]) rfl ?_
  refine lv_iload hx hb dL_law_2990 (lv_at hl 1 rfl) ?_
  refine lv_icmp_eq (tgt := 2997) hx hb dL_law_2992 (by decide) (fun _ => ?_) (fun h => absurd (by decide) h)
  refine lv_iload hx hb dL_law_2997 (lv_at hl 1 rfl) ?_
  refine lv_if_ne (tgt := 3014) hx hb dL_law_2999 (by decide) (fun _ => ?_) (fun h => absurd h (by decide))
  refine lv_goto (tgt := 3186) hx hb dL_law_3014 (by decide) ?_
  exact law_exit K hS (lv_sub hl [6, 2] rfl) (Nat.le_of_ble_eq_true rfl) (Nat.le_of_ble_eq_true rfl)
set_option maxHeartbeats 4000000 in
set_option maxRecDepth 100000 in
theorem law_55 {p : Program} {l : Launch} {e : Env} {s : State} {m : MethodId} {below : List Frame} {meth : Method} {c : Code} {b : Nat} {xs : Nat → Int32} {D : va_G} {cI cZ cJ : ClassId} {A : Nat → Prop} (K : LCx p l s m meth c b 6 xs D cI cZ cJ A) {xo inp byt par pla dra lat his f1 f2 mo as ak ab ar o : Nat} {gx gpl gdr gla gf1 gf2 gpa ghi gm : Nat → Value}  {H : Heap} {locs : List Loc} {ls : Array Slot} (hP : va_P D CL (LW cI cZ xo inp byt par pla dra lat his f1 f2 mo as ak ab ar gx gpl gdr gla gf1 gf2 gpa ghi gm) H) (hD : va_D A (LW cI cZ xo inp byt par pla dra lat his f1 f2 mo as ak ab ar gx gpl gdr gla gf1 gf2 gpa ghi gm)) (hS : va_S A s.heap H locs) (hl : lv_has ls 8 [(4, .int 0), (3, .ref o), (2, .ref mo), (1, .ref xo), (0, .ref b)]) : W p l e room_1 s m #[Value.ref b] below meth c H locs 2000 60000 (lw_Z below #[Value.ref b] s) (F0 m 3017 ls []) := by
  obtain ⟨C, hX, hbl, hlt, hAA⟩ := id K
  have hx := C.1
  have hb := C.2.1
  have hbA : ¬ A b := fun h => absurd (hAA b h) (Nat.not_le.mpr hbl)
  have hP : va_P D CL [(xo, .inr (10, xC inp par pla dra lat his f1 f2 0 0 (-1) gx)), (inp, .inr (2, [.int 0, .int 0, .int 0, .int 0, .int 0, .int 0, .ref byt])), (byt, .inl (cI, 600, .inl (fun _ => 0))), (par, .inr (4, [.ref inp, .ref dra, gpa 2, .int 0, .int 0])), (pla, .inr (5, pC 0 0 0 gpl)), (dra, .inr (5, pC 0 0 0 gdr)), (lat, .inr (3, [.int 0, .long 0, gla 2, gla 3, gla 4])), (his, .inr (1, [.int 0, .int 0, ghi 2])), (f1, .inr (5, pC 0 0 0 gf1)), (f2, .inr (5, pC 0 0 0 gf2)), (mo, .inr (11, mC 0 0 0 (-1) 0 0 0 0 0 0 as ak ab ar gm)), (as, .inl (cI, 63, .inl (fun _ => 0))), (ak, .inl (cZ, 2, .inl (fun _ => 0))), (ab, .inl (cI, 600, .inl (fun _ => 0))), (ar, .inl (cI, 63, .inl (fun _ => 0)))] H := hP
  have hD : va_D A [(xo, .inr (10, xC inp par pla dra lat his f1 f2 0 0 (-1) gx)), (inp, .inr (2, [.int 0, .int 0, .int 0, .int 0, .int 0, .int 0, .ref byt])), (byt, .inl (cI, 600, .inl (fun _ => 0))), (par, .inr (4, [.ref inp, .ref dra, gpa 2, .int 0, .int 0])), (pla, .inr (5, pC 0 0 0 gpl)), (dra, .inr (5, pC 0 0 0 gdr)), (lat, .inr (3, [.int 0, .long 0, gla 2, gla 3, gla 4])), (his, .inr (1, [.int 0, .int 0, ghi 2])), (f1, .inr (5, pC 0 0 0 gf1)), (f2, .inr (5, pC 0 0 0 gf2)), (mo, .inr (11, mC 0 0 0 (-1) 0 0 0 0 0 0 as ak ab ar gm)), (as, .inl (cI, 63, .inl (fun _ => 0))), (ak, .inl (cZ, 2, .inl (fun _ => 0))), (ab, .inl (cI, 600, .inl (fun _ => 0))), (ar, .inl (cI, 63, .inl (fun _ => 0)))] := hD
  have hP := hP.sub (ws' := [(xo, .inr (10, xC inp par pla dra lat his f1 f2 0 0 (-1) gx)), (his, .inr (1, [.int 0, .int 0, ghi 2])), (mo, .inr (11, mC 0 0 0 (-1) 0 0 0 0 0 0 as ak ab ar gm))]) [0, 7, 10] rfl
  have hD := hD.sub (ws' := [(xo, .inr (10, xC inp par pla dra lat his f1 f2 0 0 (-1) gx)), (his, .inr (1, [.int 0, .int 0, ghi 2])), (mo, .inr (11, mC 0 0 0 (-1) 0 0 0 0 0 0 as ak ab ar gm))]) [0, 7, 10] (by decide) rfl
  refine lv_aload_n hx hb dL_law_3017 rfl (lv_at hl 3 rfl) ?_
  refine lv_aload_n hx hb dL_law_3018 rfl (lv_at hl 1 rfl) ?_
  refine call_i (wr := [(mo, .inr (11, mC 0 0 0 (-1) 0 0 0 0 0 0 as ak ab ar gm))]) C (run_SW (As := [.ref xo, .ref o]) (rest := []) C (h_undo l hlt D cI cZ cJ xo inp par pla dra lat his f1 f2 0 0 (-1) gx ghi o ) cS_L_359 hP hD hS [0, 1] rfl rfl rfl hl.1 rfl (Nat.le_of_ble_eq_true rfl) dL_law_3019 ⟨Nat.le_of_ble_eq_true rfl, Nat.le_of_ble_eq_true rfl⟩ ⟨Nat.le_of_ble_eq_true rfl, Nat.le_of_ble_eq_true rfl⟩) hP hD hS [0, 1] [2] rfl rfl rfl (by decide) (fun u1 H locs hP hD hS => ?_)
  have hP : va_P D CL [(mo, .inr (11, mC 0 0 0 (-1) 0 0 0 0 0 0 as ak ab ar gm)), (xo, .inr (10, xC inp par pla dra lat his f1 f2 0 0 (-1) gx)), (his, .inr (1, [.int 0, .int 0, ghi 2]))] H := hP
  have hD : va_D A [(mo, .inr (11, mC 0 0 0 (-1) 0 0 0 0 0 0 as ak ab ar gm)), (xo, .inr (10, xC inp par pla dra lat his f1 f2 0 0 (-1) gx)), (his, .inr (1, [.int 0, .int 0, ghi 2]))] := hD
  refine W.widen (k := 2001) (n := 60006) (Nat.le_of_ble_eq_true rfl) (Nat.le_of_ble_eq_true rfl) ?_
  refine W.eq (g2 := F0 m 3022 ls [.int 1]) rfl ?_
  refine lv_istore (lv' := [(5, .int 1), (4, .int 0), (3, .ref o), (2, .ref mo), (1, .ref xo), (0, .ref b)]) hx hb dL_law_3022 hl (by decide) rfl (fun ls hl => ?_)
  refine lv_aload_n hx hb dL_law_3024 rfl (lv_at hl 3 rfl) ?_
  refine call_i (wr := [(xo, .inr (10, xC inp par pla dra lat his f1 f2 0 0 (-1) gx)), (his, .inr (1, [.int 0, .int 0, ghi 2]))]) C (run_V (As := []) (rest := []) C (m_undo l D cI cZ cJ mo 0 0 (-1) 0 0 0 0 0 0 as ak ab ar gm 0 ) cV_L_361 hP hD hS [0] rfl rfl 0 rfl rfl rfl rfl hl.1 rfl (Nat.le_of_ble_eq_true rfl) dL_law_3025 ⟨Nat.le_of_ble_eq_true rfl, Nat.le_of_ble_eq_true rfl⟩ ⟨Nat.le_of_ble_eq_true rfl, Nat.le_of_ble_eq_true rfl⟩) hP hD hS [0] [1, 2] rfl rfl rfl (by decide) (fun u2 H locs hP hD hS => ?_)
  have hP : va_P D CL [(xo, .inr (10, xC inp par pla dra lat his f1 f2 0 0 (-1) gx)), (his, .inr (1, [.int 0, .int 0, ghi 2])), (mo, .inr (11, mC 1 0 0 (-1) 0 0 0 0 0 0 as ak ab ar gm))] H := hP
  have hD : va_D A [(xo, .inr (10, xC inp par pla dra lat his f1 f2 0 0 (-1) gx)), (his, .inr (1, [.int 0, .int 0, ghi 2])), (mo, .inr (11, mC 1 0 0 (-1) 0 0 0 0 0 0 as ak ab ar gm))] := hD
  refine W.widen (k := 2001) (n := 60006) (Nat.le_of_ble_eq_true rfl) (Nat.le_of_ble_eq_true rfl) ?_
  refine W.eq (g2 := F0 m 3028 ls [.int 0]) rfl ?_
  refine lv_istore (lv' := [(6, .int 0), (5, .int 1), (4, .int 0), (3, .ref o), (2, .ref mo), (1, .ref xo), (0, .ref b)]) hx hb dL_law_3028 hl (by decide) rfl (fun ls hl => ?_)
  refine lv_aload_n hx hb dL_law_3030 rfl (lv_at hl 4 rfl) ?_
  refine call_i (wr := [(xo, .inr (10, xC inp par pla dra lat his f1 f2 0 0 (-1) gx)), (his, .inr (1, [.int 0, .int 0, ghi 2]))]) C (run_V (As := []) (rest := []) C (m_thrown l D cI cZ cJ mo 0 0 (-1) 0 0 0 0 0 0 as ak ab ar gm 1 ) cV_L_187 hP hD hS [2] rfl rfl 0 rfl rfl rfl rfl hl.1 rfl (Nat.le_of_ble_eq_true rfl) dL_law_3031 ⟨Nat.le_of_ble_eq_true rfl, Nat.le_of_ble_eq_true rfl⟩ ⟨Nat.le_of_ble_eq_true rfl, Nat.le_of_ble_eq_true rfl⟩) hP hD hS [2] [0, 1] rfl rfl rfl (by decide) (fun u3 H locs hP hD hS => ?_)
  have hP : va_P D CL [(xo, .inr (10, xC inp par pla dra lat his f1 f2 0 0 (-1) gx)), (his, .inr (1, [.int 0, .int 0, ghi 2])), (mo, .inr (11, mC 1 0 0 (-1) 0 0 0 0 0 0 as ak ab ar gm))] H := hP
  have hD : va_D A [(xo, .inr (10, xC inp par pla dra lat his f1 f2 0 0 (-1) gx)), (his, .inr (1, [.int 0, .int 0, ghi 2])), (mo, .inr (11, mC 1 0 0 (-1) 0 0 0 0 0 0 as ak ab ar gm))] := hD
  refine W.widen (k := 2001) (n := 60006) (Nat.le_of_ble_eq_true rfl) (Nat.le_of_ble_eq_true rfl) ?_
  refine W.eq (g2 := F0 m 3034 ls [.int 1]) rfl ?_
  refine lv_iload hx hb dL_law_3034 (lv_at hl 1 rfl) ?_
  refine lv_icmp_eq (tgt := 3041) hx hb dL_law_3036 (by decide) (fun _ => ?_) (fun h => absurd (by decide) h)
  refine lv_iload hx hb dL_law_3041 (lv_at hl 1 rfl) ?_
  refine lv_if_ne (tgt := 3058) hx hb dL_law_3043 (by decide) (fun _ => ?_) (fun h => absurd h (by decide))
  refine lv_goto (tgt := 3186) hx hb dL_law_3058 (by decide) ?_
  exact law_exit K hS (lv_sub hl [6, 2] rfl) (Nat.le_of_ble_eq_true rfl) (Nat.le_of_ble_eq_true rfl)
set_option maxHeartbeats 4000000 in
set_option maxRecDepth 100000 in
theorem law_56 {p : Program} {l : Launch} {e : Env} {s : State} {m : MethodId} {below : List Frame} {meth : Method} {c : Code} {b : Nat} {xs : Nat → Int32} {D : va_G} {cI cZ cJ : ClassId} {A : Nat → Prop} (K : LCx p l s m meth c b 6 xs D cI cZ cJ A) {xo inp byt par pla dra lat his f1 f2 mo as ak ab ar o : Nat} {gx gpl gdr gla gf1 gf2 gpa ghi gm : Nat → Value}  {H : Heap} {locs : List Loc} {ls : Array Slot} (hP : va_P D CL (LW cI cZ xo inp byt par pla dra lat his f1 f2 mo as ak ab ar gx gpl gdr gla gf1 gf2 gpa ghi gm) H) (hD : va_D A (LW cI cZ xo inp byt par pla dra lat his f1 f2 mo as ak ab ar gx gpl gdr gla gf1 gf2 gpa ghi gm)) (hS : va_S A s.heap H locs) (hl : lv_has ls 8 [(4, .int 0), (3, .ref o), (2, .ref mo), (1, .ref xo), (0, .ref b)]) : W p l e room_1 s m #[Value.ref b] below meth c H locs 2000 60000 (lw_Z below #[Value.ref b] s) (F0 m 3061 ls []) := by
  obtain ⟨C, hX, hbl, hlt, hAA⟩ := id K
  have hx := C.1
  have hb := C.2.1
  have hbA : ¬ A b := fun h => absurd (hAA b h) (Nat.not_le.mpr hbl)
  have hP : va_P D CL [(xo, .inr (10, xC inp par pla dra lat his f1 f2 0 0 (-1) gx)), (inp, .inr (2, [.int 0, .int 0, .int 0, .int 0, .int 0, .int 0, .ref byt])), (byt, .inl (cI, 600, .inl (fun _ => 0))), (par, .inr (4, [.ref inp, .ref dra, gpa 2, .int 0, .int 0])), (pla, .inr (5, pC 0 0 0 gpl)), (dra, .inr (5, pC 0 0 0 gdr)), (lat, .inr (3, [.int 0, .long 0, gla 2, gla 3, gla 4])), (his, .inr (1, [.int 0, .int 0, ghi 2])), (f1, .inr (5, pC 0 0 0 gf1)), (f2, .inr (5, pC 0 0 0 gf2)), (mo, .inr (11, mC 0 0 0 (-1) 0 0 0 0 0 0 as ak ab ar gm)), (as, .inl (cI, 63, .inl (fun _ => 0))), (ak, .inl (cZ, 2, .inl (fun _ => 0))), (ab, .inl (cI, 600, .inl (fun _ => 0))), (ar, .inl (cI, 63, .inl (fun _ => 0)))] H := hP
  have hD : va_D A [(xo, .inr (10, xC inp par pla dra lat his f1 f2 0 0 (-1) gx)), (inp, .inr (2, [.int 0, .int 0, .int 0, .int 0, .int 0, .int 0, .ref byt])), (byt, .inl (cI, 600, .inl (fun _ => 0))), (par, .inr (4, [.ref inp, .ref dra, gpa 2, .int 0, .int 0])), (pla, .inr (5, pC 0 0 0 gpl)), (dra, .inr (5, pC 0 0 0 gdr)), (lat, .inr (3, [.int 0, .long 0, gla 2, gla 3, gla 4])), (his, .inr (1, [.int 0, .int 0, ghi 2])), (f1, .inr (5, pC 0 0 0 gf1)), (f2, .inr (5, pC 0 0 0 gf2)), (mo, .inr (11, mC 0 0 0 (-1) 0 0 0 0 0 0 as ak ab ar gm)), (as, .inl (cI, 63, .inl (fun _ => 0))), (ak, .inl (cZ, 2, .inl (fun _ => 0))), (ab, .inl (cI, 600, .inl (fun _ => 0))), (ar, .inl (cI, 63, .inl (fun _ => 0)))] := hD
  have hP := hP.sub (ws' := [(xo, .inr (10, xC inp par pla dra lat his f1 f2 0 0 (-1) gx)), (his, .inr (1, [.int 0, .int 0, ghi 2])), (mo, .inr (11, mC 0 0 0 (-1) 0 0 0 0 0 0 as ak ab ar gm))]) [0, 7, 10] rfl
  have hD := hD.sub (ws' := [(xo, .inr (10, xC inp par pla dra lat his f1 f2 0 0 (-1) gx)), (his, .inr (1, [.int 0, .int 0, ghi 2])), (mo, .inr (11, mC 0 0 0 (-1) 0 0 0 0 0 0 as ak ab ar gm))]) [0, 7, 10] (by decide) rfl
  refine lv_aload_n hx hb dL_law_3061 rfl (lv_at hl 3 rfl) ?_
  refine call_i (wr := [(mo, .inr (11, mC 0 0 0 (-1) 0 0 0 0 0 0 as ak ab ar gm))]) C (run_V (As := []) (rest := []) C (k_undoable l D cI cZ cJ xo inp par pla dra lat his f1 f2 0 0 (-1) gx ghi ) cV_L_362 hP hD hS [0, 1] rfl rfl 0 rfl rfl rfl rfl hl.1 rfl (Nat.le_of_ble_eq_true rfl) dL_law_3062 ⟨Nat.le_of_ble_eq_true rfl, Nat.le_of_ble_eq_true rfl⟩ ⟨Nat.le_of_ble_eq_true rfl, Nat.le_of_ble_eq_true rfl⟩) hP hD hS [0, 1] [2] rfl rfl rfl (by decide) (fun u1 H locs hP hD hS => ?_)
  have hP : va_P D CL [(mo, .inr (11, mC 0 0 0 (-1) 0 0 0 0 0 0 as ak ab ar gm)), (xo, .inr (10, xC inp par pla dra lat his f1 f2 0 0 (-1) gx)), (his, .inr (1, [.int 0, .int 0, ghi 2]))] H := hP
  have hD : va_D A [(mo, .inr (11, mC 0 0 0 (-1) 0 0 0 0 0 0 as ak ab ar gm)), (xo, .inr (10, xC inp par pla dra lat his f1 f2 0 0 (-1) gx)), (his, .inr (1, [.int 0, .int 0, ghi 2]))] := hD
  refine W.widen (k := 2000) (n := 60000) (Nat.le_of_ble_eq_true rfl) (Nat.le_of_ble_eq_true rfl) ?_
  refine W.eq (g2 := F0 m 3065 ls [.int 0]) rfl ?_
  refine lv_aload_n hx hb dL_law_3065 rfl (lv_at hl 2 rfl) ?_
  refine call_i (wr := [(xo, .inr (10, xC inp par pla dra lat his f1 f2 0 0 (-1) gx)), (his, .inr (1, [.int 0, .int 0, ghi 2]))]) C (run_V (As := []) (rest := [.int 0]) C (m_undoable l D cI cZ cJ mo 0 0 (-1) 0 0 0 0 0 0 as ak ab ar gm 0 ) cV_L_365 hP hD hS [0] rfl rfl 0 rfl rfl rfl rfl hl.1 rfl (Nat.le_of_ble_eq_true rfl) dL_law_3066 ⟨Nat.le_of_ble_eq_true rfl, Nat.le_of_ble_eq_true rfl⟩ ⟨Nat.le_of_ble_eq_true rfl, Nat.le_of_ble_eq_true rfl⟩) hP hD hS [0] [1, 2] rfl rfl rfl (by decide) (fun u2 H locs hP hD hS => ?_)
  have hP : va_P D CL [(xo, .inr (10, xC inp par pla dra lat his f1 f2 0 0 (-1) gx)), (his, .inr (1, [.int 0, .int 0, ghi 2])), (mo, .inr (11, mC 0 0 0 (-1) 0 0 0 0 0 0 as ak ab ar gm))] H := hP
  have hD : va_D A [(xo, .inr (10, xC inp par pla dra lat his f1 f2 0 0 (-1) gx)), (his, .inr (1, [.int 0, .int 0, ghi 2])), (mo, .inr (11, mC 0 0 0 (-1) 0 0 0 0 0 0 as ak ab ar gm))] := hD
  refine W.widen (k := 2000) (n := 60000) (Nat.le_of_ble_eq_true rfl) (Nat.le_of_ble_eq_true rfl) ?_
  refine W.eq (g2 := F0 m 3069 ls [.int 0, .int 0]) rfl ?_
  refine lv_icmp_eq (tgt := 3186) hx hb dL_law_3069 (by decide) (fun _ => ?_) (fun h => absurd (by decide) h)
  exact law_exit K hS (lv_sub hl [4, 0] rfl) (Nat.le_of_ble_eq_true rfl) (Nat.le_of_ble_eq_true rfl)
set_option maxHeartbeats 4000000 in
set_option maxRecDepth 100000 in
theorem law_57 {p : Program} {l : Launch} {e : Env} {s : State} {m : MethodId} {below : List Frame} {meth : Method} {c : Code} {b : Nat} {xs : Nat → Int32} {D : va_G} {cI cZ cJ : ClassId} {A : Nat → Prop} (K : LCx p l s m meth c b 6 xs D cI cZ cJ A) {xo inp byt par pla dra lat his f1 f2 mo as ak ab ar o : Nat} {gx gpl gdr gla gf1 gf2 gpa ghi gm : Nat → Value}  {H : Heap} {locs : List Loc} {ls : Array Slot} (hP : va_P D CL (LW cI cZ xo inp byt par pla dra lat his f1 f2 mo as ak ab ar gx gpl gdr gla gf1 gf2 gpa ghi gm) H) (hD : va_D A (LW cI cZ xo inp byt par pla dra lat his f1 f2 mo as ak ab ar gx gpl gdr gla gf1 gf2 gpa ghi gm)) (hS : va_S A s.heap H locs) (hl : lv_has ls 8 [(4, .int 0), (3, .ref o), (2, .ref mo), (1, .ref xo), (0, .ref b)]) : W p l e room_1 s m #[Value.ref b] below meth c H locs 2000 60000 (lw_Z below #[Value.ref b] s) (F0 m 3074 ls []) := by
  obtain ⟨C, hX, hbl, hlt, hAA⟩ := id K
  have hx := C.1
  have hb := C.2.1
  have hbA : ¬ A b := fun h => absurd (hAA b h) (Nat.not_le.mpr hbl)
  have hP : va_P D CL [(xo, .inr (10, xC inp par pla dra lat his f1 f2 0 0 (-1) gx)), (inp, .inr (2, [.int 0, .int 0, .int 0, .int 0, .int 0, .int 0, .ref byt])), (byt, .inl (cI, 600, .inl (fun _ => 0))), (par, .inr (4, [.ref inp, .ref dra, gpa 2, .int 0, .int 0])), (pla, .inr (5, pC 0 0 0 gpl)), (dra, .inr (5, pC 0 0 0 gdr)), (lat, .inr (3, [.int 0, .long 0, gla 2, gla 3, gla 4])), (his, .inr (1, [.int 0, .int 0, ghi 2])), (f1, .inr (5, pC 0 0 0 gf1)), (f2, .inr (5, pC 0 0 0 gf2)), (mo, .inr (11, mC 0 0 0 (-1) 0 0 0 0 0 0 as ak ab ar gm)), (as, .inl (cI, 63, .inl (fun _ => 0))), (ak, .inl (cZ, 2, .inl (fun _ => 0))), (ab, .inl (cI, 600, .inl (fun _ => 0))), (ar, .inl (cI, 63, .inl (fun _ => 0)))] H := hP
  have hD : va_D A [(xo, .inr (10, xC inp par pla dra lat his f1 f2 0 0 (-1) gx)), (inp, .inr (2, [.int 0, .int 0, .int 0, .int 0, .int 0, .int 0, .ref byt])), (byt, .inl (cI, 600, .inl (fun _ => 0))), (par, .inr (4, [.ref inp, .ref dra, gpa 2, .int 0, .int 0])), (pla, .inr (5, pC 0 0 0 gpl)), (dra, .inr (5, pC 0 0 0 gdr)), (lat, .inr (3, [.int 0, .long 0, gla 2, gla 3, gla 4])), (his, .inr (1, [.int 0, .int 0, ghi 2])), (f1, .inr (5, pC 0 0 0 gf1)), (f2, .inr (5, pC 0 0 0 gf2)), (mo, .inr (11, mC 0 0 0 (-1) 0 0 0 0 0 0 as ak ab ar gm)), (as, .inl (cI, 63, .inl (fun _ => 0))), (ak, .inl (cZ, 2, .inl (fun _ => 0))), (ab, .inl (cI, 600, .inl (fun _ => 0))), (ar, .inl (cI, 63, .inl (fun _ => 0)))] := hD
  have hP := hP.sub (ws' := [(xo, .inr (10, xC inp par pla dra lat his f1 f2 0 0 (-1) gx)), (pla, .inr (5, pC 0 0 0 gpl)), (mo, .inr (11, mC 0 0 0 (-1) 0 0 0 0 0 0 as ak ab ar gm))]) [0, 4, 10] rfl
  have hD := hD.sub (ws' := [(xo, .inr (10, xC inp par pla dra lat his f1 f2 0 0 (-1) gx)), (pla, .inr (5, pC 0 0 0 gpl)), (mo, .inr (11, mC 0 0 0 (-1) 0 0 0 0 0 0 as ak ab ar gm))]) [0, 4, 10] (by decide) rfl
  refine lv_aload_n hx hb dL_law_3074 rfl (lv_at hl 3 rfl) ?_
  refine lv_aload_n hx hb dL_law_3075 rfl (lv_at hl 4 rfl) ?_
  refine lv_iload hx hb dL_law_3076 (lv_at hl 0 rfl) ?_
  refine lv_iconst (v := 1) hx hb dL_law_3078 (by decide) ?_
  refine lv_iadd hx hb dL_law_3079 ?_
  refine W.eq (g2 := F0 m 3080 ls [.int 1, .ref b, .ref xo]) rfl ?_
  refine va_sld hx hb hX hbl hbA hS (by unfold vp_in; decide) dL_law_3080 ?_
  refine W.eq (g2 := F0 m 3081 ls [.int (xs 1), .ref xo]) rfl ?_
  refine lv_aload_n hx hb dL_law_3081 rfl (lv_at hl 1 rfl) ?_
  refine call_i (wr := [(mo, .inr (11, mC 0 0 0 (-1) 0 0 0 0 0 0 as ak ab ar gm))]) C (run_SW (As := [.ref xo, .int (xs 1), .ref o]) (rest := []) C (h_save l hlt D cI cZ cJ xo inp par pla dra lat his f1 f2 0 0 (-1) gx gpl (xs 1) o ) cS_L_366 hP hD hS [0, 1] rfl rfl rfl hl.1 rfl (Nat.le_of_ble_eq_true rfl) dL_law_3082 ⟨Nat.le_of_ble_eq_true rfl, Nat.le_of_ble_eq_true rfl⟩ ⟨Nat.le_of_ble_eq_true rfl, Nat.le_of_ble_eq_true rfl⟩) hP hD hS [0, 1] [2] rfl rfl rfl (by decide) (fun u1 H locs hP hD hS => ?_)
  have hP : va_P D CL [(mo, .inr (11, mC 0 0 0 (-1) 0 0 0 0 0 0 as ak ab ar gm)), (xo, .inr (10, xC inp par pla dra lat his f1 f2 0 0 (-1) gx)), (pla, .inr (5, pC 0 0 0 gpl))] H := hP
  have hD : va_D A [(mo, .inr (11, mC 0 0 0 (-1) 0 0 0 0 0 0 as ak ab ar gm)), (xo, .inr (10, xC inp par pla dra lat his f1 f2 0 0 (-1) gx)), (pla, .inr (5, pC 0 0 0 gpl))] := hD
  refine W.widen (k := 2001) (n := 60006) (Nat.le_of_ble_eq_true rfl) (Nat.le_of_ble_eq_true rfl) ?_
  refine W.eq (g2 := F0 m 3085 ls [.int 1]) rfl ?_
  refine lv_istore (lv' := [(5, .int 1), (4, .int 0), (3, .ref o), (2, .ref mo), (1, .ref xo), (0, .ref b)]) hx hb dL_law_3085 hl (by decide) rfl (fun ls hl => ?_)
  refine lv_aload_n hx hb dL_law_3087 rfl (lv_at hl 3 rfl) ?_
  refine lv_aload_n hx hb dL_law_3088 rfl (lv_at hl 5 rfl) ?_
  refine lv_iload hx hb dL_law_3089 (lv_at hl 1 rfl) ?_
  refine lv_iconst (v := 1) hx hb dL_law_3091 (by decide) ?_
  refine lv_iadd hx hb dL_law_3092 ?_
  refine W.eq (g2 := F0 m 3093 ls [.int 1, .ref b, .ref mo]) rfl ?_
  refine va_sld hx hb hX hbl hbA hS (by unfold vp_in; decide) dL_law_3093 ?_
  refine W.eq (g2 := F0 m 3094 ls [.int (xs 1), .ref mo]) rfl ?_
  refine call_i (wr := [(xo, .inr (10, xC inp par pla dra lat his f1 f2 0 0 (-1) gx)), (pla, .inr (5, pC 0 0 0 gpl))]) C (run_V (As := [.int (xs 1)]) (rest := []) C (m_save l D cI cZ cJ mo 0 0 (-1) 0 0 0 0 0 0 as ak ab ar gm 0 (xs 1) ) cV_L_368 hP hD hS [0] rfl rfl 0 rfl rfl rfl rfl hl.1 rfl (Nat.le_of_ble_eq_true rfl) dL_law_3094 ⟨Nat.le_of_ble_eq_true rfl, Nat.le_of_ble_eq_true rfl⟩ ⟨Nat.le_of_ble_eq_true rfl, Nat.le_of_ble_eq_true rfl⟩) hP hD hS [0] [1, 2] rfl rfl rfl (by decide) (fun u2 H locs hP hD hS => ?_)
  have hP : va_P D CL [(xo, .inr (10, xC inp par pla dra lat his f1 f2 0 0 (-1) gx)), (pla, .inr (5, pC 0 0 0 gpl)), (mo, .inr (11, mC 1 0 0 (-1) 0 0 0 0 0 0 as ak ab ar gm))] H := hP
  have hD : va_D A [(xo, .inr (10, xC inp par pla dra lat his f1 f2 0 0 (-1) gx)), (pla, .inr (5, pC 0 0 0 gpl)), (mo, .inr (11, mC 1 0 0 (-1) 0 0 0 0 0 0 as ak ab ar gm))] := hD
  refine W.widen (k := 2001) (n := 60006) (Nat.le_of_ble_eq_true rfl) (Nat.le_of_ble_eq_true rfl) ?_
  refine W.eq (g2 := F0 m 3097 ls [.int 0]) rfl ?_
  refine lv_istore (lv' := [(6, .int 0), (5, .int 1), (4, .int 0), (3, .ref o), (2, .ref mo), (1, .ref xo), (0, .ref b)]) hx hb dL_law_3097 hl (by decide) rfl (fun ls hl => ?_)
  refine lv_aload_n hx hb dL_law_3099 rfl (lv_at hl 4 rfl) ?_
  refine call_i (wr := [(xo, .inr (10, xC inp par pla dra lat his f1 f2 0 0 (-1) gx)), (pla, .inr (5, pC 0 0 0 gpl))]) C (run_V (As := []) (rest := []) C (m_thrown l D cI cZ cJ mo 0 0 (-1) 0 0 0 0 0 0 as ak ab ar gm 1 ) cV_L_187 hP hD hS [2] rfl rfl 0 rfl rfl rfl rfl hl.1 rfl (Nat.le_of_ble_eq_true rfl) dL_law_3100 ⟨Nat.le_of_ble_eq_true rfl, Nat.le_of_ble_eq_true rfl⟩ ⟨Nat.le_of_ble_eq_true rfl, Nat.le_of_ble_eq_true rfl⟩) hP hD hS [2] [0, 1] rfl rfl rfl (by decide) (fun u3 H locs hP hD hS => ?_)
  have hP : va_P D CL [(xo, .inr (10, xC inp par pla dra lat his f1 f2 0 0 (-1) gx)), (pla, .inr (5, pC 0 0 0 gpl)), (mo, .inr (11, mC 1 0 0 (-1) 0 0 0 0 0 0 as ak ab ar gm))] H := hP
  have hD : va_D A [(xo, .inr (10, xC inp par pla dra lat his f1 f2 0 0 (-1) gx)), (pla, .inr (5, pC 0 0 0 gpl)), (mo, .inr (11, mC 1 0 0 (-1) 0 0 0 0 0 0 as ak ab ar gm))] := hD
  refine W.widen (k := 2001) (n := 60006) (Nat.le_of_ble_eq_true rfl) (Nat.le_of_ble_eq_true rfl) ?_
  refine W.eq (g2 := F0 m 3103 ls [.int 1]) rfl ?_
  refine lv_iload hx hb dL_law_3103 (lv_at hl 1 rfl) ?_
  refine lv_icmp_eq (tgt := 3110) hx hb dL_law_3105 (by decide) (fun _ => ?_) (fun h => absurd (by decide) h)
  refine lv_iload hx hb dL_law_3110 (lv_at hl 1 rfl) ?_
  refine lv_if_ne (tgt := 3127) hx hb dL_law_3112 (by decide) (fun _ => ?_) (fun h => absurd h (by decide))
  refine lv_goto (tgt := 3186) hx hb dL_law_3127 (by decide) ?_
  exact law_exit K hS (lv_sub hl [6, 2] rfl) (Nat.le_of_ble_eq_true rfl) (Nat.le_of_ble_eq_true rfl)
set_option maxHeartbeats 4000000 in
set_option maxRecDepth 100000 in
theorem law_58_l {p : Program} {l : Launch} {e : Env} {s : State} {m : MethodId} {below : List Frame} {meth : Method} {c : Code} {b : Nat} {xs : Nat → Int32} {D : va_G} {cI cZ cJ : ClassId} {A : Nat → Prop} (K : LCx p l s m meth c b 6 xs D cI cZ cJ A) {xo inp byt par pla dra lat his f1 f2 mo as ak ab ar o : Nat} {gx gpl gdr gla gf1 gf2 gpa ghi gm : Nat → Value} (h1 : xs 1 < 0) {H : Heap} {locs : List Loc} {ls : Array Slot} (hP : va_P D CL (LW cI cZ xo inp byt par pla dra lat his f1 f2 mo as ak ab ar gx gpl gdr gla gf1 gf2 gpa ghi gm) H) (hD : va_D A (LW cI cZ xo inp byt par pla dra lat his f1 f2 mo as ak ab ar gx gpl gdr gla gf1 gf2 gpa ghi gm)) (hS : va_S A s.heap H locs) (hl : lv_has ls 8 [(4, .int 0), (3, .ref o), (2, .ref mo), (1, .ref xo), (0, .ref b)]) : W p l e room_1 s m #[Value.ref b] below meth c H locs 2000 60000 (lw_Z below #[Value.ref b] s) (F0 m 3130 ls []) := by
  obtain ⟨C, hX, hbl, hlt, hAA⟩ := id K
  have hx := C.1
  have hb := C.2.1
  have hbA : ¬ A b := fun h => absurd (hAA b h) (Nat.not_le.mpr hbl)
  have hP : va_P D CL [(xo, .inr (10, xC inp par pla dra lat his f1 f2 0 0 (-1) gx)), (inp, .inr (2, [.int 0, .int 0, .int 0, .int 0, .int 0, .int 0, .ref byt])), (byt, .inl (cI, 600, .inl (fun _ => 0))), (par, .inr (4, [.ref inp, .ref dra, gpa 2, .int 0, .int 0])), (pla, .inr (5, pC 0 0 0 gpl)), (dra, .inr (5, pC 0 0 0 gdr)), (lat, .inr (3, [.int 0, .long 0, gla 2, gla 3, gla 4])), (his, .inr (1, [.int 0, .int 0, ghi 2])), (f1, .inr (5, pC 0 0 0 gf1)), (f2, .inr (5, pC 0 0 0 gf2)), (mo, .inr (11, mC 0 0 0 (-1) 0 0 0 0 0 0 as ak ab ar gm)), (as, .inl (cI, 63, .inl (fun _ => 0))), (ak, .inl (cZ, 2, .inl (fun _ => 0))), (ab, .inl (cI, 600, .inl (fun _ => 0))), (ar, .inl (cI, 63, .inl (fun _ => 0)))] H := hP
  have hD : va_D A [(xo, .inr (10, xC inp par pla dra lat his f1 f2 0 0 (-1) gx)), (inp, .inr (2, [.int 0, .int 0, .int 0, .int 0, .int 0, .int 0, .ref byt])), (byt, .inl (cI, 600, .inl (fun _ => 0))), (par, .inr (4, [.ref inp, .ref dra, gpa 2, .int 0, .int 0])), (pla, .inr (5, pC 0 0 0 gpl)), (dra, .inr (5, pC 0 0 0 gdr)), (lat, .inr (3, [.int 0, .long 0, gla 2, gla 3, gla 4])), (his, .inr (1, [.int 0, .int 0, ghi 2])), (f1, .inr (5, pC 0 0 0 gf1)), (f2, .inr (5, pC 0 0 0 gf2)), (mo, .inr (11, mC 0 0 0 (-1) 0 0 0 0 0 0 as ak ab ar gm)), (as, .inl (cI, 63, .inl (fun _ => 0))), (ak, .inl (cZ, 2, .inl (fun _ => 0))), (ab, .inl (cI, 600, .inl (fun _ => 0))), (ar, .inl (cI, 63, .inl (fun _ => 0)))] := hD
  have hP := hP.sub (ws' := [(xo, .inr (10, xC inp par pla dra lat his f1 f2 0 0 (-1) gx)), (mo, .inr (11, mC 0 0 0 (-1) 0 0 0 0 0 0 as ak ab ar gm))]) [0, 10] rfl
  have hD := hD.sub (ws' := [(xo, .inr (10, xC inp par pla dra lat his f1 f2 0 0 (-1) gx)), (mo, .inr (11, mC 0 0 0 (-1) 0 0 0 0 0 0 as ak ab ar gm))]) [0, 10] (by decide) rfl
  refine lv_aload_n hx hb dL_law_3130 rfl (lv_at hl 3 rfl) ?_
  refine lv_aload_n hx hb dL_law_3131 rfl (lv_at hl 4 rfl) ?_
  refine lv_iload hx hb dL_law_3132 (lv_at hl 0 rfl) ?_
  refine lv_iconst (v := 1) hx hb dL_law_3134 (by decide) ?_
  refine lv_iadd hx hb dL_law_3135 ?_
  refine W.eq (g2 := F0 m 3136 ls [.int 1, .ref b, .ref xo]) rfl ?_
  refine va_sld hx hb hX hbl hbA hS (by unfold vp_in; decide) dL_law_3136 ?_
  refine W.eq (g2 := F0 m 3137 ls [.int (xs 1), .ref xo]) rfl ?_
  refine lv_aload_n hx hb dL_law_3137 rfl (lv_at hl 1 rfl) ?_
  refine call_i (wr := [(mo, .inr (11, mC 0 0 0 (-1) 0 0 0 0 0 0 as ak ab ar gm))]) C (run_SW (As := [.ref xo, .int (xs 1), .ref o]) (rest := []) C (h_restore_l l hlt D cI cZ cJ xo inp par pla dra lat his f1 f2 0 0 (-1) gx (xs 1) o h1) cS_L_369 hP hD hS [0] rfl rfl rfl hl.1 rfl (Nat.le_of_ble_eq_true rfl) dL_law_3138 ⟨Nat.le_of_ble_eq_true rfl, Nat.le_of_ble_eq_true rfl⟩ ⟨Nat.le_of_ble_eq_true rfl, Nat.le_of_ble_eq_true rfl⟩) hP hD hS [0] [1] rfl rfl rfl (by decide) (fun u1 H locs hP hD hS => ?_)
  have hP : va_P D CL [(mo, .inr (11, mC 0 0 0 (-1) 0 0 0 0 0 0 as ak ab ar gm)), (xo, .inr (10, xC inp par pla dra lat his f1 f2 0 0 (-1) gx))] H := hP
  have hD : va_D A [(mo, .inr (11, mC 0 0 0 (-1) 0 0 0 0 0 0 as ak ab ar gm)), (xo, .inr (10, xC inp par pla dra lat his f1 f2 0 0 (-1) gx))] := hD
  refine W.widen (k := 2001) (n := 60006) (Nat.le_of_ble_eq_true rfl) (Nat.le_of_ble_eq_true rfl) ?_
  refine W.eq (g2 := F0 m 3141 ls [.int 1]) rfl ?_
  refine lv_istore (lv' := [(5, .int 1), (4, .int 0), (3, .ref o), (2, .ref mo), (1, .ref xo), (0, .ref b)]) hx hb dL_law_3141 hl (by decide) rfl (fun ls hl => ?_)
  refine lv_aload_n hx hb dL_law_3143 rfl (lv_at hl 3 rfl) ?_
  refine lv_aload_n hx hb dL_law_3144 rfl (lv_at hl 5 rfl) ?_
  refine lv_iload hx hb dL_law_3145 (lv_at hl 1 rfl) ?_
  refine lv_iconst (v := 1) hx hb dL_law_3147 (by decide) ?_
  refine lv_iadd hx hb dL_law_3148 ?_
  refine W.eq (g2 := F0 m 3149 ls [.int 1, .ref b, .ref mo]) rfl ?_
  refine va_sld hx hb hX hbl hbA hS (by unfold vp_in; decide) dL_law_3149 ?_
  refine W.eq (g2 := F0 m 3150 ls [.int (xs 1), .ref mo]) rfl ?_
  refine call_i (wr := [(xo, .inr (10, xC inp par pla dra lat his f1 f2 0 0 (-1) gx))]) C (run_V (As := [.int (xs 1)]) (rest := []) C (m_restore_l l D cI cZ cJ mo 0 0 (-1) 0 0 0 0 0 0 as ak ab ar gm 0 (xs 1) h1) cV_L_371 hP hD hS [0] rfl rfl 0 rfl rfl rfl rfl hl.1 rfl (Nat.le_of_ble_eq_true rfl) dL_law_3150 ⟨Nat.le_of_ble_eq_true rfl, Nat.le_of_ble_eq_true rfl⟩ ⟨Nat.le_of_ble_eq_true rfl, Nat.le_of_ble_eq_true rfl⟩) hP hD hS [0] [1] rfl rfl rfl (by decide) (fun u2 H locs hP hD hS => ?_)
  have hP : va_P D CL [(xo, .inr (10, xC inp par pla dra lat his f1 f2 0 0 (-1) gx)), (mo, .inr (11, mC 1 0 0 (-1) 0 0 0 0 0 0 as ak ab ar gm))] H := hP
  have hD : va_D A [(xo, .inr (10, xC inp par pla dra lat his f1 f2 0 0 (-1) gx)), (mo, .inr (11, mC 1 0 0 (-1) 0 0 0 0 0 0 as ak ab ar gm))] := hD
  refine W.widen (k := 2001) (n := 60006) (Nat.le_of_ble_eq_true rfl) (Nat.le_of_ble_eq_true rfl) ?_
  refine W.eq (g2 := F0 m 3153 ls [.int 0]) rfl ?_
  refine lv_istore (lv' := [(6, .int 0), (5, .int 1), (4, .int 0), (3, .ref o), (2, .ref mo), (1, .ref xo), (0, .ref b)]) hx hb dL_law_3153 hl (by decide) rfl (fun ls hl => ?_)
  refine lv_aload_n hx hb dL_law_3155 rfl (lv_at hl 4 rfl) ?_
  refine call_i (wr := [(xo, .inr (10, xC inp par pla dra lat his f1 f2 0 0 (-1) gx))]) C (run_V (As := []) (rest := []) C (m_thrown l D cI cZ cJ mo 0 0 (-1) 0 0 0 0 0 0 as ak ab ar gm 1 ) cV_L_187 hP hD hS [1] rfl rfl 0 rfl rfl rfl rfl hl.1 rfl (Nat.le_of_ble_eq_true rfl) dL_law_3156 ⟨Nat.le_of_ble_eq_true rfl, Nat.le_of_ble_eq_true rfl⟩ ⟨Nat.le_of_ble_eq_true rfl, Nat.le_of_ble_eq_true rfl⟩) hP hD hS [1] [0] rfl rfl rfl (by decide) (fun u3 H locs hP hD hS => ?_)
  have hP : va_P D CL [(xo, .inr (10, xC inp par pla dra lat his f1 f2 0 0 (-1) gx)), (mo, .inr (11, mC 1 0 0 (-1) 0 0 0 0 0 0 as ak ab ar gm))] H := hP
  have hD : va_D A [(xo, .inr (10, xC inp par pla dra lat his f1 f2 0 0 (-1) gx)), (mo, .inr (11, mC 1 0 0 (-1) 0 0 0 0 0 0 as ak ab ar gm))] := hD
  refine W.widen (k := 2001) (n := 60006) (Nat.le_of_ble_eq_true rfl) (Nat.le_of_ble_eq_true rfl) ?_
  refine W.eq (g2 := F0 m 3159 ls [.int 1]) rfl ?_
  refine lv_iload hx hb dL_law_3159 (lv_at hl 1 rfl) ?_
  refine lv_icmp_eq (tgt := 3166) hx hb dL_law_3161 (by decide) (fun _ => ?_) (fun h => absurd (by decide) h)
  refine lv_iload hx hb dL_law_3166 (lv_at hl 1 rfl) ?_
  refine lv_if_ne (tgt := 3183) hx hb dL_law_3168 (by decide) (fun _ => ?_) (fun h => absurd h (by decide))
  refine lv_goto (tgt := 3186) hx hb dL_law_3183 (by decide) ?_
  exact law_exit K hS (lv_sub hl [6, 2] rfl) (Nat.le_of_ble_eq_true rfl) (Nat.le_of_ble_eq_true rfl)
set_option maxHeartbeats 4000000 in
set_option maxRecDepth 100000 in
theorem law_58_g {p : Program} {l : Launch} {e : Env} {s : State} {m : MethodId} {below : List Frame} {meth : Method} {c : Code} {b : Nat} {xs : Nat → Int32} {D : va_G} {cI cZ cJ : ClassId} {A : Nat → Prop} (K : LCx p l s m meth c b 6 xs D cI cZ cJ A) {xo inp byt par pla dra lat his f1 f2 mo as ak ab ar o : Nat} {gx gpl gdr gla gf1 gf2 gpa ghi gm : Nat → Value} (h1 : ¬ xs 1 < 0) (h2 : ¬ xs 1 < 2) {H : Heap} {locs : List Loc} {ls : Array Slot} (hP : va_P D CL (LW cI cZ xo inp byt par pla dra lat his f1 f2 mo as ak ab ar gx gpl gdr gla gf1 gf2 gpa ghi gm) H) (hD : va_D A (LW cI cZ xo inp byt par pla dra lat his f1 f2 mo as ak ab ar gx gpl gdr gla gf1 gf2 gpa ghi gm)) (hS : va_S A s.heap H locs) (hl : lv_has ls 8 [(4, .int 0), (3, .ref o), (2, .ref mo), (1, .ref xo), (0, .ref b)]) : W p l e room_1 s m #[Value.ref b] below meth c H locs 2000 60000 (lw_Z below #[Value.ref b] s) (F0 m 3130 ls []) := by
  obtain ⟨C, hX, hbl, hlt, hAA⟩ := id K
  have hx := C.1
  have hb := C.2.1
  have hbA : ¬ A b := fun h => absurd (hAA b h) (Nat.not_le.mpr hbl)
  have hP : va_P D CL [(xo, .inr (10, xC inp par pla dra lat his f1 f2 0 0 (-1) gx)), (inp, .inr (2, [.int 0, .int 0, .int 0, .int 0, .int 0, .int 0, .ref byt])), (byt, .inl (cI, 600, .inl (fun _ => 0))), (par, .inr (4, [.ref inp, .ref dra, gpa 2, .int 0, .int 0])), (pla, .inr (5, pC 0 0 0 gpl)), (dra, .inr (5, pC 0 0 0 gdr)), (lat, .inr (3, [.int 0, .long 0, gla 2, gla 3, gla 4])), (his, .inr (1, [.int 0, .int 0, ghi 2])), (f1, .inr (5, pC 0 0 0 gf1)), (f2, .inr (5, pC 0 0 0 gf2)), (mo, .inr (11, mC 0 0 0 (-1) 0 0 0 0 0 0 as ak ab ar gm)), (as, .inl (cI, 63, .inl (fun _ => 0))), (ak, .inl (cZ, 2, .inl (fun _ => 0))), (ab, .inl (cI, 600, .inl (fun _ => 0))), (ar, .inl (cI, 63, .inl (fun _ => 0)))] H := hP
  have hD : va_D A [(xo, .inr (10, xC inp par pla dra lat his f1 f2 0 0 (-1) gx)), (inp, .inr (2, [.int 0, .int 0, .int 0, .int 0, .int 0, .int 0, .ref byt])), (byt, .inl (cI, 600, .inl (fun _ => 0))), (par, .inr (4, [.ref inp, .ref dra, gpa 2, .int 0, .int 0])), (pla, .inr (5, pC 0 0 0 gpl)), (dra, .inr (5, pC 0 0 0 gdr)), (lat, .inr (3, [.int 0, .long 0, gla 2, gla 3, gla 4])), (his, .inr (1, [.int 0, .int 0, ghi 2])), (f1, .inr (5, pC 0 0 0 gf1)), (f2, .inr (5, pC 0 0 0 gf2)), (mo, .inr (11, mC 0 0 0 (-1) 0 0 0 0 0 0 as ak ab ar gm)), (as, .inl (cI, 63, .inl (fun _ => 0))), (ak, .inl (cZ, 2, .inl (fun _ => 0))), (ab, .inl (cI, 600, .inl (fun _ => 0))), (ar, .inl (cI, 63, .inl (fun _ => 0)))] := hD
  have hP := hP.sub (ws' := [(xo, .inr (10, xC inp par pla dra lat his f1 f2 0 0 (-1) gx)), (mo, .inr (11, mC 0 0 0 (-1) 0 0 0 0 0 0 as ak ab ar gm))]) [0, 10] rfl
  have hD := hD.sub (ws' := [(xo, .inr (10, xC inp par pla dra lat his f1 f2 0 0 (-1) gx)), (mo, .inr (11, mC 0 0 0 (-1) 0 0 0 0 0 0 as ak ab ar gm))]) [0, 10] (by decide) rfl
  refine lv_aload_n hx hb dL_law_3130 rfl (lv_at hl 3 rfl) ?_
  refine lv_aload_n hx hb dL_law_3131 rfl (lv_at hl 4 rfl) ?_
  refine lv_iload hx hb dL_law_3132 (lv_at hl 0 rfl) ?_
  refine lv_iconst (v := 1) hx hb dL_law_3134 (by decide) ?_
  refine lv_iadd hx hb dL_law_3135 ?_
  refine W.eq (g2 := F0 m 3136 ls [.int 1, .ref b, .ref xo]) rfl ?_
  refine va_sld hx hb hX hbl hbA hS (by unfold vp_in; decide) dL_law_3136 ?_
  refine W.eq (g2 := F0 m 3137 ls [.int (xs 1), .ref xo]) rfl ?_
  refine lv_aload_n hx hb dL_law_3137 rfl (lv_at hl 1 rfl) ?_
  refine call_i (wr := [(mo, .inr (11, mC 0 0 0 (-1) 0 0 0 0 0 0 as ak ab ar gm))]) C (run_SW (As := [.ref xo, .int (xs 1), .ref o]) (rest := []) C (h_restore_g l hlt D cI cZ cJ xo inp par pla dra lat his f1 f2 0 0 (-1) gx (xs 1) o h1 h2) cS_L_369 hP hD hS [0] rfl rfl rfl hl.1 rfl (Nat.le_of_ble_eq_true rfl) dL_law_3138 ⟨Nat.le_of_ble_eq_true rfl, Nat.le_of_ble_eq_true rfl⟩ ⟨Nat.le_of_ble_eq_true rfl, Nat.le_of_ble_eq_true rfl⟩) hP hD hS [0] [1] rfl rfl rfl (by decide) (fun u1 H locs hP hD hS => ?_)
  have hP : va_P D CL [(mo, .inr (11, mC 0 0 0 (-1) 0 0 0 0 0 0 as ak ab ar gm)), (xo, .inr (10, xC inp par pla dra lat his f1 f2 0 0 (-1) gx))] H := hP
  have hD : va_D A [(mo, .inr (11, mC 0 0 0 (-1) 0 0 0 0 0 0 as ak ab ar gm)), (xo, .inr (10, xC inp par pla dra lat his f1 f2 0 0 (-1) gx))] := hD
  refine W.widen (k := 2001) (n := 60006) (Nat.le_of_ble_eq_true rfl) (Nat.le_of_ble_eq_true rfl) ?_
  refine W.eq (g2 := F0 m 3141 ls [.int 1]) rfl ?_
  refine lv_istore (lv' := [(5, .int 1), (4, .int 0), (3, .ref o), (2, .ref mo), (1, .ref xo), (0, .ref b)]) hx hb dL_law_3141 hl (by decide) rfl (fun ls hl => ?_)
  refine lv_aload_n hx hb dL_law_3143 rfl (lv_at hl 3 rfl) ?_
  refine lv_aload_n hx hb dL_law_3144 rfl (lv_at hl 5 rfl) ?_
  refine lv_iload hx hb dL_law_3145 (lv_at hl 1 rfl) ?_
  refine lv_iconst (v := 1) hx hb dL_law_3147 (by decide) ?_
  refine lv_iadd hx hb dL_law_3148 ?_
  refine W.eq (g2 := F0 m 3149 ls [.int 1, .ref b, .ref mo]) rfl ?_
  refine va_sld hx hb hX hbl hbA hS (by unfold vp_in; decide) dL_law_3149 ?_
  refine W.eq (g2 := F0 m 3150 ls [.int (xs 1), .ref mo]) rfl ?_
  refine call_i (wr := [(xo, .inr (10, xC inp par pla dra lat his f1 f2 0 0 (-1) gx))]) C (run_V (As := [.int (xs 1)]) (rest := []) C (m_restore_g l D cI cZ cJ mo 0 0 (-1) 0 0 0 0 0 0 as ak ab ar gm 0 (xs 1) h1 (ge2 h2)) cV_L_371 hP hD hS [0] rfl rfl 0 rfl rfl rfl rfl hl.1 rfl (Nat.le_of_ble_eq_true rfl) dL_law_3150 ⟨Nat.le_of_ble_eq_true rfl, Nat.le_of_ble_eq_true rfl⟩ ⟨Nat.le_of_ble_eq_true rfl, Nat.le_of_ble_eq_true rfl⟩) hP hD hS [0] [1] rfl rfl rfl (by decide) (fun u2 H locs hP hD hS => ?_)
  have hP : va_P D CL [(xo, .inr (10, xC inp par pla dra lat his f1 f2 0 0 (-1) gx)), (mo, .inr (11, mC 1 0 0 (-1) 0 0 0 0 0 0 as ak ab ar gm))] H := hP
  have hD : va_D A [(xo, .inr (10, xC inp par pla dra lat his f1 f2 0 0 (-1) gx)), (mo, .inr (11, mC 1 0 0 (-1) 0 0 0 0 0 0 as ak ab ar gm))] := hD
  refine W.widen (k := 2001) (n := 60006) (Nat.le_of_ble_eq_true rfl) (Nat.le_of_ble_eq_true rfl) ?_
  refine W.eq (g2 := F0 m 3153 ls [.int 0]) rfl ?_
  refine lv_istore (lv' := [(6, .int 0), (5, .int 1), (4, .int 0), (3, .ref o), (2, .ref mo), (1, .ref xo), (0, .ref b)]) hx hb dL_law_3153 hl (by decide) rfl (fun ls hl => ?_)
  refine lv_aload_n hx hb dL_law_3155 rfl (lv_at hl 4 rfl) ?_
  refine call_i (wr := [(xo, .inr (10, xC inp par pla dra lat his f1 f2 0 0 (-1) gx))]) C (run_V (As := []) (rest := []) C (m_thrown l D cI cZ cJ mo 0 0 (-1) 0 0 0 0 0 0 as ak ab ar gm 1 ) cV_L_187 hP hD hS [1] rfl rfl 0 rfl rfl rfl rfl hl.1 rfl (Nat.le_of_ble_eq_true rfl) dL_law_3156 ⟨Nat.le_of_ble_eq_true rfl, Nat.le_of_ble_eq_true rfl⟩ ⟨Nat.le_of_ble_eq_true rfl, Nat.le_of_ble_eq_true rfl⟩) hP hD hS [1] [0] rfl rfl rfl (by decide) (fun u3 H locs hP hD hS => ?_)
  have hP : va_P D CL [(xo, .inr (10, xC inp par pla dra lat his f1 f2 0 0 (-1) gx)), (mo, .inr (11, mC 1 0 0 (-1) 0 0 0 0 0 0 as ak ab ar gm))] H := hP
  have hD : va_D A [(xo, .inr (10, xC inp par pla dra lat his f1 f2 0 0 (-1) gx)), (mo, .inr (11, mC 1 0 0 (-1) 0 0 0 0 0 0 as ak ab ar gm))] := hD
  refine W.widen (k := 2001) (n := 60006) (Nat.le_of_ble_eq_true rfl) (Nat.le_of_ble_eq_true rfl) ?_
  refine W.eq (g2 := F0 m 3159 ls [.int 1]) rfl ?_
  refine lv_iload hx hb dL_law_3159 (lv_at hl 1 rfl) ?_
  refine lv_icmp_eq (tgt := 3166) hx hb dL_law_3161 (by decide) (fun _ => ?_) (fun h => absurd (by decide) h)
  refine lv_iload hx hb dL_law_3166 (lv_at hl 1 rfl) ?_
  refine lv_if_ne (tgt := 3183) hx hb dL_law_3168 (by decide) (fun _ => ?_) (fun h => absurd h (by decide))
  refine lv_goto (tgt := 3186) hx hb dL_law_3183 (by decide) ?_
  exact law_exit K hS (lv_sub hl [6, 2] rfl) (Nat.le_of_ble_eq_true rfl) (Nat.le_of_ble_eq_true rfl)
set_option maxHeartbeats 4000000 in
set_option maxRecDepth 100000 in
theorem law_58_a {p : Program} {l : Launch} {e : Env} {s : State} {m : MethodId} {below : List Frame} {meth : Method} {c : Code} {b : Nat} {xs : Nat → Int32} {D : va_G} {cI cZ cJ : ClassId} {A : Nat → Prop} (K : LCx p l s m meth c b 6 xs D cI cZ cJ A) {xo inp byt par pla dra lat his f1 f2 mo as ak ab ar o : Nat} {gx gpl gdr gla gf1 gf2 gpa ghi gm : Nat → Value} (h1 : ¬ xs 1 < 0) (h2 : xs 1 < 2) (h3 : xs 1 = 0) {H : Heap} {locs : List Loc} {ls : Array Slot} (hP : va_P D CL (LW cI cZ xo inp byt par pla dra lat his f1 f2 mo as ak ab ar gx gpl gdr gla gf1 gf2 gpa ghi gm) H) (hD : va_D A (LW cI cZ xo inp byt par pla dra lat his f1 f2 mo as ak ab ar gx gpl gdr gla gf1 gf2 gpa ghi gm)) (hS : va_S A s.heap H locs) (hl : lv_has ls 8 [(4, .int 0), (3, .ref o), (2, .ref mo), (1, .ref xo), (0, .ref b)]) : W p l e room_1 s m #[Value.ref b] below meth c H locs 2000 60000 (lw_Z below #[Value.ref b] s) (F0 m 3130 ls []) := by
  obtain ⟨C, hX, hbl, hlt, hAA⟩ := id K
  have hx := C.1
  have hb := C.2.1
  have hbA : ¬ A b := fun h => absurd (hAA b h) (Nat.not_le.mpr hbl)
  have hP : va_P D CL [(xo, .inr (10, xC inp par pla dra lat his f1 f2 0 0 (-1) gx)), (inp, .inr (2, [.int 0, .int 0, .int 0, .int 0, .int 0, .int 0, .ref byt])), (byt, .inl (cI, 600, .inl (fun _ => 0))), (par, .inr (4, [.ref inp, .ref dra, gpa 2, .int 0, .int 0])), (pla, .inr (5, pC 0 0 0 gpl)), (dra, .inr (5, pC 0 0 0 gdr)), (lat, .inr (3, [.int 0, .long 0, gla 2, gla 3, gla 4])), (his, .inr (1, [.int 0, .int 0, ghi 2])), (f1, .inr (5, pC 0 0 0 gf1)), (f2, .inr (5, pC 0 0 0 gf2)), (mo, .inr (11, mC 0 0 0 (-1) 0 0 0 0 0 0 as ak ab ar gm)), (as, .inl (cI, 63, .inl (fun _ => 0))), (ak, .inl (cZ, 2, .inl (fun _ => 0))), (ab, .inl (cI, 600, .inl (fun _ => 0))), (ar, .inl (cI, 63, .inl (fun _ => 0)))] H := hP
  have hD : va_D A [(xo, .inr (10, xC inp par pla dra lat his f1 f2 0 0 (-1) gx)), (inp, .inr (2, [.int 0, .int 0, .int 0, .int 0, .int 0, .int 0, .ref byt])), (byt, .inl (cI, 600, .inl (fun _ => 0))), (par, .inr (4, [.ref inp, .ref dra, gpa 2, .int 0, .int 0])), (pla, .inr (5, pC 0 0 0 gpl)), (dra, .inr (5, pC 0 0 0 gdr)), (lat, .inr (3, [.int 0, .long 0, gla 2, gla 3, gla 4])), (his, .inr (1, [.int 0, .int 0, ghi 2])), (f1, .inr (5, pC 0 0 0 gf1)), (f2, .inr (5, pC 0 0 0 gf2)), (mo, .inr (11, mC 0 0 0 (-1) 0 0 0 0 0 0 as ak ab ar gm)), (as, .inl (cI, 63, .inl (fun _ => 0))), (ak, .inl (cZ, 2, .inl (fun _ => 0))), (ab, .inl (cI, 600, .inl (fun _ => 0))), (ar, .inl (cI, 63, .inl (fun _ => 0)))] := hD
  have hP := hP.sub (ws' := [(xo, .inr (10, xC inp par pla dra lat his f1 f2 0 0 (-1) gx)), (f1, .inr (5, pC 0 0 0 gf1)), (mo, .inr (11, mC 0 0 0 (-1) 0 0 0 0 0 0 as ak ab ar gm)), (ak, .inl (cZ, 2, .inl (fun _ => 0)))]) [0, 8, 10, 12] rfl
  have hD := hD.sub (ws' := [(xo, .inr (10, xC inp par pla dra lat his f1 f2 0 0 (-1) gx)), (f1, .inr (5, pC 0 0 0 gf1)), (mo, .inr (11, mC 0 0 0 (-1) 0 0 0 0 0 0 as ak ab ar gm)), (ak, .inl (cZ, 2, .inl (fun _ => 0)))]) [0, 8, 10, 12] (by decide) rfl
  refine lv_aload_n hx hb dL_law_3130 rfl (lv_at hl 3 rfl) ?_
  refine lv_aload_n hx hb dL_law_3131 rfl (lv_at hl 4 rfl) ?_
  refine lv_iload hx hb dL_law_3132 (lv_at hl 0 rfl) ?_
  refine lv_iconst (v := 1) hx hb dL_law_3134 (by decide) ?_
  refine lv_iadd hx hb dL_law_3135 ?_
  refine W.eq (g2 := F0 m 3136 ls [.int 1, .ref b, .ref xo]) rfl ?_
  refine va_sld hx hb hX hbl hbA hS (by unfold vp_in; decide) dL_law_3136 ?_
  refine W.eq (g2 := F0 m 3137 ls [.int (xs 1), .ref xo]) rfl ?_
  refine lv_aload_n hx hb dL_law_3137 rfl (lv_at hl 1 rfl) ?_
  refine call_i (wr := [(mo, .inr (11, mC 0 0 0 (-1) 0 0 0 0 0 0 as ak ab ar gm)), (ak, .inl (cZ, 2, .inl (fun _ => 0)))]) C (run_SW (As := [.ref xo, .int (xs 1), .ref o]) (rest := []) C (h_restore_0 l hlt D cI cZ cJ xo inp par pla dra lat his f1 f2 0 0 (-1) gx gf1 (xs 1) o h1 h2 h3) cS_L_369 hP hD hS [0, 1] rfl rfl rfl hl.1 rfl (Nat.le_of_ble_eq_true rfl) dL_law_3138 ⟨Nat.le_of_ble_eq_true rfl, Nat.le_of_ble_eq_true rfl⟩ ⟨Nat.le_of_ble_eq_true rfl, Nat.le_of_ble_eq_true rfl⟩) hP hD hS [0, 1] [2, 3] rfl rfl rfl (by decide) (fun u1 H locs hP hD hS => ?_)
  have hP : va_P D CL [(mo, .inr (11, mC 0 0 0 (-1) 0 0 0 0 0 0 as ak ab ar gm)), (ak, .inl (cZ, 2, .inl (fun _ => 0))), (f1, .inr (5, pC 0 0 0 gf1)), (xo, .inr (10, xC inp par pla dra lat his f1 f2 0 0 (-1) gx))] H := hP
  have hD : va_D A [(mo, .inr (11, mC 0 0 0 (-1) 0 0 0 0 0 0 as ak ab ar gm)), (ak, .inl (cZ, 2, .inl (fun _ => 0))), (f1, .inr (5, pC 0 0 0 gf1)), (xo, .inr (10, xC inp par pla dra lat his f1 f2 0 0 (-1) gx))] := hD
  refine W.widen (k := 2001) (n := 60006) (Nat.le_of_ble_eq_true rfl) (Nat.le_of_ble_eq_true rfl) ?_
  refine W.eq (g2 := F0 m 3141 ls [.int 2]) rfl ?_
  refine lv_istore (lv' := [(5, .int 2), (4, .int 0), (3, .ref o), (2, .ref mo), (1, .ref xo), (0, .ref b)]) hx hb dL_law_3141 hl (by decide) rfl (fun ls hl => ?_)
  refine lv_aload_n hx hb dL_law_3143 rfl (lv_at hl 3 rfl) ?_
  refine lv_aload_n hx hb dL_law_3144 rfl (lv_at hl 5 rfl) ?_
  refine lv_iload hx hb dL_law_3145 (lv_at hl 1 rfl) ?_
  refine lv_iconst (v := 1) hx hb dL_law_3147 (by decide) ?_
  refine lv_iadd hx hb dL_law_3148 ?_
  refine W.eq (g2 := F0 m 3149 ls [.int 1, .ref b, .ref mo]) rfl ?_
  refine va_sld hx hb hX hbl hbA hS (by unfold vp_in; decide) dL_law_3149 ?_
  refine W.eq (g2 := F0 m 3150 ls [.int (xs 1), .ref mo]) rfl ?_
  refine call_i (wr := [(f1, .inr (5, pC 0 0 0 gf1)), (xo, .inr (10, xC inp par pla dra lat his f1 f2 0 0 (-1) gx))]) C (run_V (As := [.int (xs 1)]) (rest := []) C (m_restore_t l D cI cZ cJ mo 0 0 (-1) 0 0 0 0 0 0 as ak ab ar gm 0 (xs 1) h1 (lt2 h2)) cV_L_371 hP hD hS [0, 1] rfl rfl 0 rfl rfl rfl rfl hl.1 rfl (Nat.le_of_ble_eq_true rfl) dL_law_3150 ⟨Nat.le_of_ble_eq_true rfl, Nat.le_of_ble_eq_true rfl⟩ ⟨Nat.le_of_ble_eq_true rfl, Nat.le_of_ble_eq_true rfl⟩) hP hD hS [0, 1] [2, 3] rfl rfl rfl (by decide) (fun u2 H locs hP hD hS => ?_)
  have hP : va_P D CL [(f1, .inr (5, pC 0 0 0 gf1)), (xo, .inr (10, xC inp par pla dra lat his f1 f2 0 0 (-1) gx)), (ak, .inl (cZ, 2, .inl (fun _ => 0))), (mo, .inr (11, mC 2 0 0 (-1) 0 0 0 0 0 0 as ak ab ar gm))] H := hP
  have hD : va_D A [(f1, .inr (5, pC 0 0 0 gf1)), (xo, .inr (10, xC inp par pla dra lat his f1 f2 0 0 (-1) gx)), (ak, .inl (cZ, 2, .inl (fun _ => 0))), (mo, .inr (11, mC 2 0 0 (-1) 0 0 0 0 0 0 as ak ab ar gm))] := hD
  refine W.widen (k := 2001) (n := 60006) (Nat.le_of_ble_eq_true rfl) (Nat.le_of_ble_eq_true rfl) ?_
  refine W.eq (g2 := F0 m 3153 ls [.int 0]) rfl ?_
  refine lv_istore (lv' := [(6, .int 0), (5, .int 2), (4, .int 0), (3, .ref o), (2, .ref mo), (1, .ref xo), (0, .ref b)]) hx hb dL_law_3153 hl (by decide) rfl (fun ls hl => ?_)
  refine lv_aload_n hx hb dL_law_3155 rfl (lv_at hl 4 rfl) ?_
  refine call_i (wr := [(f1, .inr (5, pC 0 0 0 gf1)), (xo, .inr (10, xC inp par pla dra lat his f1 f2 0 0 (-1) gx)), (ak, .inl (cZ, 2, .inl (fun _ => 0)))]) C (run_V (As := []) (rest := []) C (m_thrown l D cI cZ cJ mo 0 0 (-1) 0 0 0 0 0 0 as ak ab ar gm 2 ) cV_L_187 hP hD hS [3] rfl rfl 0 rfl rfl rfl rfl hl.1 rfl (Nat.le_of_ble_eq_true rfl) dL_law_3156 ⟨Nat.le_of_ble_eq_true rfl, Nat.le_of_ble_eq_true rfl⟩ ⟨Nat.le_of_ble_eq_true rfl, Nat.le_of_ble_eq_true rfl⟩) hP hD hS [3] [0, 1, 2] rfl rfl rfl (by decide) (fun u3 H locs hP hD hS => ?_)
  have hP : va_P D CL [(f1, .inr (5, pC 0 0 0 gf1)), (xo, .inr (10, xC inp par pla dra lat his f1 f2 0 0 (-1) gx)), (ak, .inl (cZ, 2, .inl (fun _ => 0))), (mo, .inr (11, mC 2 0 0 (-1) 0 0 0 0 0 0 as ak ab ar gm))] H := hP
  have hD : va_D A [(f1, .inr (5, pC 0 0 0 gf1)), (xo, .inr (10, xC inp par pla dra lat his f1 f2 0 0 (-1) gx)), (ak, .inl (cZ, 2, .inl (fun _ => 0))), (mo, .inr (11, mC 2 0 0 (-1) 0 0 0 0 0 0 as ak ab ar gm))] := hD
  refine W.widen (k := 2001) (n := 60006) (Nat.le_of_ble_eq_true rfl) (Nat.le_of_ble_eq_true rfl) ?_
  refine W.eq (g2 := F0 m 3159 ls [.int 2]) rfl ?_
  refine lv_iload hx hb dL_law_3159 (lv_at hl 1 rfl) ?_
  refine lv_icmp_eq (tgt := 3166) hx hb dL_law_3161 (by decide) (fun _ => ?_) (fun h => absurd (by decide) h)
  refine lv_iload hx hb dL_law_3166 (lv_at hl 1 rfl) ?_
  refine lv_if_ne (tgt := 3183) hx hb dL_law_3168 (by decide) (fun _ => ?_) (fun h => absurd h (by decide))
  refine lv_goto (tgt := 3186) hx hb dL_law_3183 (by decide) ?_
  exact law_exit K hS (lv_sub hl [6, 2] rfl) (Nat.le_of_ble_eq_true rfl) (Nat.le_of_ble_eq_true rfl)
set_option maxHeartbeats 4000000 in
set_option maxRecDepth 100000 in
theorem law_58_b {p : Program} {l : Launch} {e : Env} {s : State} {m : MethodId} {below : List Frame} {meth : Method} {c : Code} {b : Nat} {xs : Nat → Int32} {D : va_G} {cI cZ cJ : ClassId} {A : Nat → Prop} (K : LCx p l s m meth c b 6 xs D cI cZ cJ A) {xo inp byt par pla dra lat his f1 f2 mo as ak ab ar o : Nat} {gx gpl gdr gla gf1 gf2 gpa ghi gm : Nat → Value} (h1 : ¬ xs 1 < 0) (h2 : xs 1 < 2) (h3 : ¬ xs 1 = 0) {H : Heap} {locs : List Loc} {ls : Array Slot} (hP : va_P D CL (LW cI cZ xo inp byt par pla dra lat his f1 f2 mo as ak ab ar gx gpl gdr gla gf1 gf2 gpa ghi gm) H) (hD : va_D A (LW cI cZ xo inp byt par pla dra lat his f1 f2 mo as ak ab ar gx gpl gdr gla gf1 gf2 gpa ghi gm)) (hS : va_S A s.heap H locs) (hl : lv_has ls 8 [(4, .int 0), (3, .ref o), (2, .ref mo), (1, .ref xo), (0, .ref b)]) : W p l e room_1 s m #[Value.ref b] below meth c H locs 2000 60000 (lw_Z below #[Value.ref b] s) (F0 m 3130 ls []) := by
  obtain ⟨C, hX, hbl, hlt, hAA⟩ := id K
  have hx := C.1
  have hb := C.2.1
  have hbA : ¬ A b := fun h => absurd (hAA b h) (Nat.not_le.mpr hbl)
  have hP : va_P D CL [(xo, .inr (10, xC inp par pla dra lat his f1 f2 0 0 (-1) gx)), (inp, .inr (2, [.int 0, .int 0, .int 0, .int 0, .int 0, .int 0, .ref byt])), (byt, .inl (cI, 600, .inl (fun _ => 0))), (par, .inr (4, [.ref inp, .ref dra, gpa 2, .int 0, .int 0])), (pla, .inr (5, pC 0 0 0 gpl)), (dra, .inr (5, pC 0 0 0 gdr)), (lat, .inr (3, [.int 0, .long 0, gla 2, gla 3, gla 4])), (his, .inr (1, [.int 0, .int 0, ghi 2])), (f1, .inr (5, pC 0 0 0 gf1)), (f2, .inr (5, pC 0 0 0 gf2)), (mo, .inr (11, mC 0 0 0 (-1) 0 0 0 0 0 0 as ak ab ar gm)), (as, .inl (cI, 63, .inl (fun _ => 0))), (ak, .inl (cZ, 2, .inl (fun _ => 0))), (ab, .inl (cI, 600, .inl (fun _ => 0))), (ar, .inl (cI, 63, .inl (fun _ => 0)))] H := hP
  have hD : va_D A [(xo, .inr (10, xC inp par pla dra lat his f1 f2 0 0 (-1) gx)), (inp, .inr (2, [.int 0, .int 0, .int 0, .int 0, .int 0, .int 0, .ref byt])), (byt, .inl (cI, 600, .inl (fun _ => 0))), (par, .inr (4, [.ref inp, .ref dra, gpa 2, .int 0, .int 0])), (pla, .inr (5, pC 0 0 0 gpl)), (dra, .inr (5, pC 0 0 0 gdr)), (lat, .inr (3, [.int 0, .long 0, gla 2, gla 3, gla 4])), (his, .inr (1, [.int 0, .int 0, ghi 2])), (f1, .inr (5, pC 0 0 0 gf1)), (f2, .inr (5, pC 0 0 0 gf2)), (mo, .inr (11, mC 0 0 0 (-1) 0 0 0 0 0 0 as ak ab ar gm)), (as, .inl (cI, 63, .inl (fun _ => 0))), (ak, .inl (cZ, 2, .inl (fun _ => 0))), (ab, .inl (cI, 600, .inl (fun _ => 0))), (ar, .inl (cI, 63, .inl (fun _ => 0)))] := hD
  have hP := hP.sub (ws' := [(xo, .inr (10, xC inp par pla dra lat his f1 f2 0 0 (-1) gx)), (f2, .inr (5, pC 0 0 0 gf2)), (mo, .inr (11, mC 0 0 0 (-1) 0 0 0 0 0 0 as ak ab ar gm)), (ak, .inl (cZ, 2, .inl (fun _ => 0)))]) [0, 9, 10, 12] rfl
  have hD := hD.sub (ws' := [(xo, .inr (10, xC inp par pla dra lat his f1 f2 0 0 (-1) gx)), (f2, .inr (5, pC 0 0 0 gf2)), (mo, .inr (11, mC 0 0 0 (-1) 0 0 0 0 0 0 as ak ab ar gm)), (ak, .inl (cZ, 2, .inl (fun _ => 0)))]) [0, 9, 10, 12] (by decide) rfl
  refine lv_aload_n hx hb dL_law_3130 rfl (lv_at hl 3 rfl) ?_
  refine lv_aload_n hx hb dL_law_3131 rfl (lv_at hl 4 rfl) ?_
  refine lv_iload hx hb dL_law_3132 (lv_at hl 0 rfl) ?_
  refine lv_iconst (v := 1) hx hb dL_law_3134 (by decide) ?_
  refine lv_iadd hx hb dL_law_3135 ?_
  refine W.eq (g2 := F0 m 3136 ls [.int 1, .ref b, .ref xo]) rfl ?_
  refine va_sld hx hb hX hbl hbA hS (by unfold vp_in; decide) dL_law_3136 ?_
  refine W.eq (g2 := F0 m 3137 ls [.int (xs 1), .ref xo]) rfl ?_
  refine lv_aload_n hx hb dL_law_3137 rfl (lv_at hl 1 rfl) ?_
  refine call_i (wr := [(mo, .inr (11, mC 0 0 0 (-1) 0 0 0 0 0 0 as ak ab ar gm)), (ak, .inl (cZ, 2, .inl (fun _ => 0)))]) C (run_SW (As := [.ref xo, .int (xs 1), .ref o]) (rest := []) C (h_restore_1 l hlt D cI cZ cJ xo inp par pla dra lat his f1 f2 0 0 (-1) gx gf2 (xs 1) o h1 h2 h3) cS_L_369 hP hD hS [0, 1] rfl rfl rfl hl.1 rfl (Nat.le_of_ble_eq_true rfl) dL_law_3138 ⟨Nat.le_of_ble_eq_true rfl, Nat.le_of_ble_eq_true rfl⟩ ⟨Nat.le_of_ble_eq_true rfl, Nat.le_of_ble_eq_true rfl⟩) hP hD hS [0, 1] [2, 3] rfl rfl rfl (by decide) (fun u1 H locs hP hD hS => ?_)
  have hP : va_P D CL [(mo, .inr (11, mC 0 0 0 (-1) 0 0 0 0 0 0 as ak ab ar gm)), (ak, .inl (cZ, 2, .inl (fun _ => 0))), (f2, .inr (5, pC 0 0 0 gf2)), (xo, .inr (10, xC inp par pla dra lat his f1 f2 0 0 (-1) gx))] H := hP
  have hD : va_D A [(mo, .inr (11, mC 0 0 0 (-1) 0 0 0 0 0 0 as ak ab ar gm)), (ak, .inl (cZ, 2, .inl (fun _ => 0))), (f2, .inr (5, pC 0 0 0 gf2)), (xo, .inr (10, xC inp par pla dra lat his f1 f2 0 0 (-1) gx))] := hD
  refine W.widen (k := 2001) (n := 60006) (Nat.le_of_ble_eq_true rfl) (Nat.le_of_ble_eq_true rfl) ?_
  refine W.eq (g2 := F0 m 3141 ls [.int 2]) rfl ?_
  refine lv_istore (lv' := [(5, .int 2), (4, .int 0), (3, .ref o), (2, .ref mo), (1, .ref xo), (0, .ref b)]) hx hb dL_law_3141 hl (by decide) rfl (fun ls hl => ?_)
  refine lv_aload_n hx hb dL_law_3143 rfl (lv_at hl 3 rfl) ?_
  refine lv_aload_n hx hb dL_law_3144 rfl (lv_at hl 5 rfl) ?_
  refine lv_iload hx hb dL_law_3145 (lv_at hl 1 rfl) ?_
  refine lv_iconst (v := 1) hx hb dL_law_3147 (by decide) ?_
  refine lv_iadd hx hb dL_law_3148 ?_
  refine W.eq (g2 := F0 m 3149 ls [.int 1, .ref b, .ref mo]) rfl ?_
  refine va_sld hx hb hX hbl hbA hS (by unfold vp_in; decide) dL_law_3149 ?_
  refine W.eq (g2 := F0 m 3150 ls [.int (xs 1), .ref mo]) rfl ?_
  refine call_i (wr := [(f2, .inr (5, pC 0 0 0 gf2)), (xo, .inr (10, xC inp par pla dra lat his f1 f2 0 0 (-1) gx))]) C (run_V (As := [.int (xs 1)]) (rest := []) C (m_restore_t l D cI cZ cJ mo 0 0 (-1) 0 0 0 0 0 0 as ak ab ar gm 0 (xs 1) h1 (lt2 h2)) cV_L_371 hP hD hS [0, 1] rfl rfl 0 rfl rfl rfl rfl hl.1 rfl (Nat.le_of_ble_eq_true rfl) dL_law_3150 ⟨Nat.le_of_ble_eq_true rfl, Nat.le_of_ble_eq_true rfl⟩ ⟨Nat.le_of_ble_eq_true rfl, Nat.le_of_ble_eq_true rfl⟩) hP hD hS [0, 1] [2, 3] rfl rfl rfl (by decide) (fun u2 H locs hP hD hS => ?_)
  have hP : va_P D CL [(f2, .inr (5, pC 0 0 0 gf2)), (xo, .inr (10, xC inp par pla dra lat his f1 f2 0 0 (-1) gx)), (ak, .inl (cZ, 2, .inl (fun _ => 0))), (mo, .inr (11, mC 2 0 0 (-1) 0 0 0 0 0 0 as ak ab ar gm))] H := hP
  have hD : va_D A [(f2, .inr (5, pC 0 0 0 gf2)), (xo, .inr (10, xC inp par pla dra lat his f1 f2 0 0 (-1) gx)), (ak, .inl (cZ, 2, .inl (fun _ => 0))), (mo, .inr (11, mC 2 0 0 (-1) 0 0 0 0 0 0 as ak ab ar gm))] := hD
  refine W.widen (k := 2001) (n := 60006) (Nat.le_of_ble_eq_true rfl) (Nat.le_of_ble_eq_true rfl) ?_
  refine W.eq (g2 := F0 m 3153 ls [.int 0]) rfl ?_
  refine lv_istore (lv' := [(6, .int 0), (5, .int 2), (4, .int 0), (3, .ref o), (2, .ref mo), (1, .ref xo), (0, .ref b)]) hx hb dL_law_3153 hl (by decide) rfl (fun ls hl => ?_)
  refine lv_aload_n hx hb dL_law_3155 rfl (lv_at hl 4 rfl) ?_
  refine call_i (wr := [(f2, .inr (5, pC 0 0 0 gf2)), (xo, .inr (10, xC inp par pla dra lat his f1 f2 0 0 (-1) gx)), (ak, .inl (cZ, 2, .inl (fun _ => 0)))]) C (run_V (As := []) (rest := []) C (m_thrown l D cI cZ cJ mo 0 0 (-1) 0 0 0 0 0 0 as ak ab ar gm 2 ) cV_L_187 hP hD hS [3] rfl rfl 0 rfl rfl rfl rfl hl.1 rfl (Nat.le_of_ble_eq_true rfl) dL_law_3156 ⟨Nat.le_of_ble_eq_true rfl, Nat.le_of_ble_eq_true rfl⟩ ⟨Nat.le_of_ble_eq_true rfl, Nat.le_of_ble_eq_true rfl⟩) hP hD hS [3] [0, 1, 2] rfl rfl rfl (by decide) (fun u3 H locs hP hD hS => ?_)
  have hP : va_P D CL [(f2, .inr (5, pC 0 0 0 gf2)), (xo, .inr (10, xC inp par pla dra lat his f1 f2 0 0 (-1) gx)), (ak, .inl (cZ, 2, .inl (fun _ => 0))), (mo, .inr (11, mC 2 0 0 (-1) 0 0 0 0 0 0 as ak ab ar gm))] H := hP
  have hD : va_D A [(f2, .inr (5, pC 0 0 0 gf2)), (xo, .inr (10, xC inp par pla dra lat his f1 f2 0 0 (-1) gx)), (ak, .inl (cZ, 2, .inl (fun _ => 0))), (mo, .inr (11, mC 2 0 0 (-1) 0 0 0 0 0 0 as ak ab ar gm))] := hD
  refine W.widen (k := 2001) (n := 60006) (Nat.le_of_ble_eq_true rfl) (Nat.le_of_ble_eq_true rfl) ?_
  refine W.eq (g2 := F0 m 3159 ls [.int 2]) rfl ?_
  refine lv_iload hx hb dL_law_3159 (lv_at hl 1 rfl) ?_
  refine lv_icmp_eq (tgt := 3166) hx hb dL_law_3161 (by decide) (fun _ => ?_) (fun h => absurd (by decide) h)
  refine lv_iload hx hb dL_law_3166 (lv_at hl 1 rfl) ?_
  refine lv_if_ne (tgt := 3183) hx hb dL_law_3168 (by decide) (fun _ => ?_) (fun h => absurd h (by decide))
  refine lv_goto (tgt := 3186) hx hb dL_law_3183 (by decide) ?_
  exact law_exit K hS (lv_sub hl [6, 2] rfl) (Nat.le_of_ble_eq_true rfl) (Nat.le_of_ble_eq_true rfl)
theorem law_58 {p : Program} {l : Launch} {e : Env} {s : State} {m : MethodId} {below : List Frame} {meth : Method} {c : Code} {b : Nat} {xs : Nat → Int32} {D : va_G} {cI cZ cJ : ClassId} {A : Nat → Prop} (K : LCx p l s m meth c b 6 xs D cI cZ cJ A) {xo inp byt par pla dra lat his f1 f2 mo as ak ab ar o : Nat} {gx gpl gdr gla gf1 gf2 gpa ghi gm : Nat → Value} {H : Heap} {locs : List Loc} {ls : Array Slot} (hP : va_P D CL (LW cI cZ xo inp byt par pla dra lat his f1 f2 mo as ak ab ar gx gpl gdr gla gf1 gf2 gpa ghi gm) H) (hD : va_D A (LW cI cZ xo inp byt par pla dra lat his f1 f2 mo as ak ab ar gx gpl gdr gla gf1 gf2 gpa ghi gm)) (hS : va_S A s.heap H locs) (hl : lv_has ls 8 [(4, .int 0), (3, .ref o), (2, .ref mo), (1, .ref xo), (0, .ref b)]) : W p l e room_1 s m #[Value.ref b] below meth c H locs 2000 60000 (lw_Z below #[Value.ref b] s) (F0 m 3130 ls []) := by
  by_cases h1 : xs 1 < 0
  · exact law_58_l K h1 hP hD hS hl
  · by_cases h2 : xs 1 < 2
    · by_cases h3 : xs 1 = 0
      · exact law_58_a K h1 h2 h3 hP hD hS hl
      · exact law_58_b K h1 h2 h3 hP hD hS hl
    · exact law_58_g K h1 h2 hP hD hS hl
