set_option maxHeartbeats 4000000 in
set_option maxRecDepth 100000 in
theorem law_17 {p : Program} {l : Launch} {e : Env} {s : State} {m : MethodId} {below : List Frame} {meth : Method} {c : Code} {b : Nat} {xs : Nat → Int32} {D : va_G} {cI cZ cJ : ClassId} {A : Nat → Prop} (K : LCx p l s m meth c b 6 xs D cI cZ cJ A) {xo inp byt par pla dra lat his f1 f2 mo as ak ab ar o : Nat} {gx gpl gdr gla gf1 gf2 gpa ghi gm : Nat → Value}  {H : Heap} {locs : List Loc} {ls : Array Slot} (hP : va_P D CL (LW cI cZ xo inp byt par pla dra lat his f1 f2 mo as ak ab ar gx gpl gdr gla gf1 gf2 gpa ghi gm) H) (hD : va_D A (LW cI cZ xo inp byt par pla dra lat his f1 f2 mo as ak ab ar gx gpl gdr gla gf1 gf2 gpa ghi gm)) (hS : va_S A s.heap H locs) (hl : lv_has ls 8 [(4, .int 0), (3, .ref o), (2, .ref mo), (1, .ref xo), (0, .ref b)]) : W p l e room_1 s m #[Value.ref b] below meth c H locs 2000 60000 (lw_Z below #[Value.ref b] s) (F0 m 1039 ls []) := by
  obtain ⟨C, hX, hbl, hlt, hAA⟩ := id K
  have hx := C.1
  have hb := C.2.1
  have hbA : ¬ A b := fun h => absurd (hAA b h) (Nat.not_le.mpr hbl)
  have hP : va_P D CL [(xo, .inr (10, xC inp par pla dra lat his f1 f2 0 0 (-1) gx)), (inp, .inr (2, [.int 0, .int 0, .int 0, .int 0, .int 0, .int 0, .ref byt])), (byt, .inl (cI, 600, .inl (fun _ => 0))), (par, .inr (4, [.ref inp, .ref dra, gpa 2, .int 0, .int 0])), (pla, .inr (5, pC 0 0 0 gpl)), (dra, .inr (5, pC 0 0 0 gdr)), (lat, .inr (3, [.int 0, .long 0, gla 2, gla 3, gla 4])), (his, .inr (1, [.int 0, .int 0, ghi 2])), (f1, .inr (5, pC 0 0 0 gf1)), (f2, .inr (5, pC 0 0 0 gf2)), (mo, .inr (11, mC 0 0 0 (-1) 0 0 0 0 0 0 as ak ab ar gm)), (as, .inl (cI, 63, .inl (fun _ => 0))), (ak, .inl (cZ, 2, .inl (fun _ => 0))), (ab, .inl (cI, 600, .inl (fun _ => 0))), (ar, .inl (cI, 63, .inl (fun _ => 0)))] H := hP
  have hD : va_D A [(xo, .inr (10, xC inp par pla dra lat his f1 f2 0 0 (-1) gx)), (inp, .inr (2, [.int 0, .int 0, .int 0, .int 0, .int 0, .int 0, .ref byt])), (byt, .inl (cI, 600, .inl (fun _ => 0))), (par, .inr (4, [.ref inp, .ref dra, gpa 2, .int 0, .int 0])), (pla, .inr (5, pC 0 0 0 gpl)), (dra, .inr (5, pC 0 0 0 gdr)), (lat, .inr (3, [.int 0, .long 0, gla 2, gla 3, gla 4])), (his, .inr (1, [.int 0, .int 0, ghi 2])), (f1, .inr (5, pC 0 0 0 gf1)), (f2, .inr (5, pC 0 0 0 gf2)), (mo, .inr (11, mC 0 0 0 (-1) 0 0 0 0 0 0 as ak ab ar gm)), (as, .inl (cI, 63, .inl (fun _ => 0))), (ak, .inl (cZ, 2, .inl (fun _ => 0))), (ab, .inl (cI, 600, .inl (fun _ => 0))), (ar, .inl (cI, 63, .inl (fun _ => 0)))] := hD
  have hP := hP.sub (ws' := [(xo, .inr (10, xC inp par pla dra lat his f1 f2 0 0 (-1) gx)), (pla, .inr (5, pC 0 0 0 gpl)), (mo, .inr (11, mC 0 0 0 (-1) 0 0 0 0 0 0 as ak ab ar gm))]) [0, 4, 10] rfl
  have hD := hD.sub (ws' := [(xo, .inr (10, xC inp par pla dra lat his f1 f2 0 0 (-1) gx)), (pla, .inr (5, pC 0 0 0 gpl)), (mo, .inr (11, mC 0 0 0 (-1) 0 0 0 0 0 0 as ak ab ar gm))]) [0, 4, 10] (by decide) rfl
  refine lv_aload_n hx hb dL_law_1039 rfl (lv_at hl 3 rfl) ?_
  refine lv_aload_n hx hb dL_law_1040 rfl (lv_at hl 1 rfl) ?_
  refine call_i (wr := [(mo, .inr (11, mC 0 0 0 (-1) 0 0 0 0 0 0 as ak ab ar gm))]) C (run_SW (As := [.ref xo, .ref o]) (rest := []) C (h_kernel l hlt D cI cZ cJ xo inp par pla dra lat his f1 f2 0 0 (-1) gx gpl o ) cS_L_242 hP hD hS [0, 1] rfl rfl rfl hl.1 rfl (Nat.le_of_ble_eq_true rfl) dL_law_1041 ⟨Nat.le_of_ble_eq_true rfl, Nat.le_of_ble_eq_true rfl⟩ ⟨Nat.le_of_ble_eq_true rfl, Nat.le_of_ble_eq_true rfl⟩) hP hD hS [0, 1] [2] rfl rfl rfl (by decide) (fun u1 H locs hP hD hS => ?_)
  have hP : va_P D CL [(mo, .inr (11, mC 0 0 0 (-1) 0 0 0 0 0 0 as ak ab ar gm)), (xo, .inr (10, xC inp par pla dra lat his f1 f2 0 0 (-1) gx)), (pla, .inr (5, pC 0 0 0 gpl))] H := hP
  have hD : va_D A [(mo, .inr (11, mC 0 0 0 (-1) 0 0 0 0 0 0 as ak ab ar gm)), (xo, .inr (10, xC inp par pla dra lat his f1 f2 0 0 (-1) gx)), (pla, .inr (5, pC 0 0 0 gpl))] := hD
  refine W.widen (k := 2001) (n := 60006) (Nat.le_of_ble_eq_true rfl) (Nat.le_of_ble_eq_true rfl) ?_
  refine W.eq (g2 := F0 m 1044 ls [.int 1]) rfl ?_
  refine lv_istore (lv' := [(5, .int 1), (4, .int 0), (3, .ref o), (2, .ref mo), (1, .ref xo), (0, .ref b)]) hx hb dL_law_1044 hl (by decide) rfl (fun ls hl => ?_)
  refine lv_aload_n hx hb dL_law_1046 rfl (lv_at hl 3 rfl) ?_
  refine call_l (wr := [(xo, .inr (10, xC inp par pla dra lat his f1 f2 0 0 (-1) gx)), (pla, .inr (5, pC 0 0 0 gpl))]) C (run_V (As := []) (rest := []) C (m_kernel l D cI cZ cJ mo 0 0 (-1) 0 0 0 0 0 0 as ak ab ar gm 0 ) cV_L_244 hP hD hS [0] rfl rfl 0 rfl rfl rfl rfl hl.1 rfl (Nat.le_of_ble_eq_true rfl) dL_law_1047 ⟨Nat.le_of_ble_eq_true rfl, Nat.le_of_ble_eq_true rfl⟩ ⟨Nat.le_of_ble_eq_true rfl, Nat.le_of_ble_eq_true rfl⟩) hP hD hS [0] [1, 2] rfl rfl rfl (by decide) (fun u2 H locs hP hD hS => ?_)
  have hP : va_P D CL [(xo, .inr (10, xC inp par pla dra lat his f1 f2 0 0 (-1) gx)), (pla, .inr (5, pC 0 0 0 gpl)), (mo, .inr (11, mC 1 0 0 (-1) 0 0 0 0 0 0 as ak ab ar gm))] H := hP
  have hD : va_D A [(xo, .inr (10, xC inp par pla dra lat his f1 f2 0 0 (-1) gx)), (pla, .inr (5, pC 0 0 0 gpl)), (mo, .inr (11, mC 1 0 0 (-1) 0 0 0 0 0 0 as ak ab ar gm))] := hD
  refine W.widen (k := 2001) (n := 60006) (Nat.le_of_ble_eq_true rfl) (Nat.le_of_ble_eq_true rfl) ?_
  refine lv_lstore (lv' := [(6, .long 0), (5, .int 1), (4, .int 0), (3, .ref o), (2, .ref mo), (1, .ref xo), (0, .ref b)]) hx hb dL_law_1050 hl (by decide) rfl (fun ls hl => ?_)
  refine lv_aload_n hx hb dL_law_1052 rfl (lv_at hl 4 rfl) ?_
  refine call_i (wr := [(xo, .inr (10, xC inp par pla dra lat his f1 f2 0 0 (-1) gx)), (pla, .inr (5, pC 0 0 0 gpl))]) C (run_V (As := []) (rest := []) C (m_thrown l D cI cZ cJ mo 0 0 (-1) 0 0 0 0 0 0 as ak ab ar gm 1 ) cV_L_187 hP hD hS [2] rfl rfl 0 rfl rfl rfl rfl hl.1 rfl (Nat.le_of_ble_eq_true rfl) dL_law_1053 ⟨Nat.le_of_ble_eq_true rfl, Nat.le_of_ble_eq_true rfl⟩ ⟨Nat.le_of_ble_eq_true rfl, Nat.le_of_ble_eq_true rfl⟩) hP hD hS [2] [0, 1] rfl rfl rfl (by decide) (fun u3 H locs hP hD hS => ?_)
  have hP : va_P D CL [(xo, .inr (10, xC inp par pla dra lat his f1 f2 0 0 (-1) gx)), (pla, .inr (5, pC 0 0 0 gpl)), (mo, .inr (11, mC 1 0 0 (-1) 0 0 0 0 0 0 as ak ab ar gm))] H := hP
  have hD : va_D A [(xo, .inr (10, xC inp par pla dra lat his f1 f2 0 0 (-1) gx)), (pla, .inr (5, pC 0 0 0 gpl)), (mo, .inr (11, mC 1 0 0 (-1) 0 0 0 0 0 0 as ak ab ar gm))] := hD
  refine W.widen (k := 2001) (n := 60006) (Nat.le_of_ble_eq_true rfl) (Nat.le_of_ble_eq_true rfl) ?_
  refine W.eq (g2 := F0 m 1056 ls [.int 1]) rfl ?_
  refine lv_iload hx hb dL_law_1056 (lv_at hl 1 rfl) ?_
  refine lv_icmp_eq (tgt := 1063) hx hb dL_law_1058 (by decide) (fun _ => ?_) (fun h => absurd (by decide) h)
  refine lv_iload hx hb dL_law_1063 (lv_at hl 1 rfl) ?_
  refine lv_if_ne (tgt := 1079) hx hb dL_law_1065 (by decide) (fun _ => ?_) (fun h => absurd h (by decide))
  refine lv_goto (tgt := 3186) hx hb dL_law_1079 (by decide) ?_
  exact law_exit K hS (lv_sub hl [6, 2] rfl) (Nat.le_of_ble_eq_true rfl) (Nat.le_of_ble_eq_true rfl)
set_option maxHeartbeats 4000000 in
set_option maxRecDepth 100000 in
theorem law_18 {p : Program} {l : Launch} {e : Env} {s : State} {m : MethodId} {below : List Frame} {meth : Method} {c : Code} {b : Nat} {xs : Nat → Int32} {D : va_G} {cI cZ cJ : ClassId} {A : Nat → Prop} (K : LCx p l s m meth c b 6 xs D cI cZ cJ A) {xo inp byt par pla dra lat his f1 f2 mo as ak ab ar o : Nat} {gx gpl gdr gla gf1 gf2 gpa ghi gm : Nat → Value}  {H : Heap} {locs : List Loc} {ls : Array Slot} (hP : va_P D CL (LW cI cZ xo inp byt par pla dra lat his f1 f2 mo as ak ab ar gx gpl gdr gla gf1 gf2 gpa ghi gm) H) (hD : va_D A (LW cI cZ xo inp byt par pla dra lat his f1 f2 mo as ak ab ar gx gpl gdr gla gf1 gf2 gpa ghi gm)) (hS : va_S A s.heap H locs) (hl : lv_has ls 8 [(4, .int 0), (3, .ref o), (2, .ref mo), (1, .ref xo), (0, .ref b)]) : W p l e room_1 s m #[Value.ref b] below meth c H locs 2000 60000 (lw_Z below #[Value.ref b] s) (F0 m 1082 ls []) := by
  obtain ⟨C, hX, hbl, hlt, hAA⟩ := id K
  have hx := C.1
  have hb := C.2.1
  have hbA : ¬ A b := fun h => absurd (hAA b h) (Nat.not_le.mpr hbl)
  have hP : va_P D CL [(xo, .inr (10, xC inp par pla dra lat his f1 f2 0 0 (-1) gx)), (inp, .inr (2, [.int 0, .int 0, .int 0, .int 0, .int 0, .int 0, .ref byt])), (byt, .inl (cI, 600, .inl (fun _ => 0))), (par, .inr (4, [.ref inp, .ref dra, gpa 2, .int 0, .int 0])), (pla, .inr (5, pC 0 0 0 gpl)), (dra, .inr (5, pC 0 0 0 gdr)), (lat, .inr (3, [.int 0, .long 0, gla 2, gla 3, gla 4])), (his, .inr (1, [.int 0, .int 0, ghi 2])), (f1, .inr (5, pC 0 0 0 gf1)), (f2, .inr (5, pC 0 0 0 gf2)), (mo, .inr (11, mC 0 0 0 (-1) 0 0 0 0 0 0 as ak ab ar gm)), (as, .inl (cI, 63, .inl (fun _ => 0))), (ak, .inl (cZ, 2, .inl (fun _ => 0))), (ab, .inl (cI, 600, .inl (fun _ => 0))), (ar, .inl (cI, 63, .inl (fun _ => 0)))] H := hP
  have hD : va_D A [(xo, .inr (10, xC inp par pla dra lat his f1 f2 0 0 (-1) gx)), (inp, .inr (2, [.int 0, .int 0, .int 0, .int 0, .int 0, .int 0, .ref byt])), (byt, .inl (cI, 600, .inl (fun _ => 0))), (par, .inr (4, [.ref inp, .ref dra, gpa 2, .int 0, .int 0])), (pla, .inr (5, pC 0 0 0 gpl)), (dra, .inr (5, pC 0 0 0 gdr)), (lat, .inr (3, [.int 0, .long 0, gla 2, gla 3, gla 4])), (his, .inr (1, [.int 0, .int 0, ghi 2])), (f1, .inr (5, pC 0 0 0 gf1)), (f2, .inr (5, pC 0 0 0 gf2)), (mo, .inr (11, mC 0 0 0 (-1) 0 0 0 0 0 0 as ak ab ar gm)), (as, .inl (cI, 63, .inl (fun _ => 0))), (ak, .inl (cZ, 2, .inl (fun _ => 0))), (ab, .inl (cI, 600, .inl (fun _ => 0))), (ar, .inl (cI, 63, .inl (fun _ => 0)))] := hD
  have hP := hP.sub (ws' := [(xo, .inr (10, xC inp par pla dra lat his f1 f2 0 0 (-1) gx)), (pla, .inr (5, pC 0 0 0 gpl)), (mo, .inr (11, mC 0 0 0 (-1) 0 0 0 0 0 0 as ak ab ar gm))]) [0, 4, 10] rfl
  have hD := hD.sub (ws' := [(xo, .inr (10, xC inp par pla dra lat his f1 f2 0 0 (-1) gx)), (pla, .inr (5, pC 0 0 0 gpl)), (mo, .inr (11, mC 0 0 0 (-1) 0 0 0 0 0 0 as ak ab ar gm))]) [0, 4, 10] (by decide) rfl
  refine lv_aload_n hx hb dL_law_1082 rfl (lv_at hl 3 rfl) ?_
  refine lv_aload_n hx hb dL_law_1083 rfl (lv_at hl 4 rfl) ?_
  refine lv_iload hx hb dL_law_1084 (lv_at hl 0 rfl) ?_
  refine lv_iconst (v := 1) hx hb dL_law_1086 (by decide) ?_
  refine lv_iadd hx hb dL_law_1087 ?_
  refine W.eq (g2 := F0 m 1088 ls [.int 1, .ref b, .ref xo]) rfl ?_
  refine va_sld hx hb hX hbl hbA hS (by unfold vp_in; decide) dL_law_1088 ?_
  refine W.eq (g2 := F0 m 1089 ls [.int (xs 1), .ref xo]) rfl ?_
  refine lv_aload_n hx hb dL_law_1089 rfl (lv_at hl 4 rfl) ?_
  refine lv_iload hx hb dL_law_1090 (lv_at hl 0 rfl) ?_
  refine lv_iconst (v := 2) hx hb dL_law_1092 (by decide) ?_
  refine lv_iadd hx hb dL_law_1093 ?_
  refine W.eq (g2 := F0 m 1094 ls [.int 2, .ref b, .int (xs 1), .ref xo]) rfl ?_
  refine va_sld hx hb hX hbl hbA hS (by unfold vp_in; decide) dL_law_1094 ?_
  refine W.eq (g2 := F0 m 1095 ls [.int (xs 2), .int (xs 1), .ref xo]) rfl ?_
  refine lv_aload_n hx hb dL_law_1095 rfl (lv_at hl 1 rfl) ?_
  refine call_i (wr := [(mo, .inr (11, mC 0 0 0 (-1) 0 0 0 0 0 0 as ak ab ar gm))]) C (run_SW (As := [.ref xo, .int (xs 1), .int (xs 2), .ref o]) (rest := []) C (h_linkDistance l hlt D cI cZ cJ xo inp par pla dra lat his f1 f2 0 0 (-1) gx gpl (xs 1) (xs 2) o ) cS_L_245 hP hD hS [0, 1] rfl rfl rfl hl.1 rfl (Nat.le_of_ble_eq_true rfl) dL_law_1096 ⟨Nat.le_of_ble_eq_true rfl, Nat.le_of_ble_eq_true rfl⟩ ⟨Nat.le_of_ble_eq_true rfl, Nat.le_of_ble_eq_true rfl⟩) hP hD hS [0, 1] [2] rfl rfl rfl (by decide) (fun u1 H locs hP hD hS => ?_)
  have hP : va_P D CL [(mo, .inr (11, mC 0 0 0 (-1) 0 0 0 0 0 0 as ak ab ar gm)), (xo, .inr (10, xC inp par pla dra lat his f1 f2 0 0 (-1) gx)), (pla, .inr (5, pC 0 0 0 gpl))] H := hP
  have hD : va_D A [(mo, .inr (11, mC 0 0 0 (-1) 0 0 0 0 0 0 as ak ab ar gm)), (xo, .inr (10, xC inp par pla dra lat his f1 f2 0 0 (-1) gx)), (pla, .inr (5, pC 0 0 0 gpl))] := hD
  refine W.widen (k := 2001) (n := 60006) (Nat.le_of_ble_eq_true rfl) (Nat.le_of_ble_eq_true rfl) ?_
  refine W.eq (g2 := F0 m 1099 ls [.int 1]) rfl ?_
  refine lv_istore (lv' := [(5, .int 1), (4, .int 0), (3, .ref o), (2, .ref mo), (1, .ref xo), (0, .ref b)]) hx hb dL_law_1099 hl (by decide) rfl (fun ls hl => ?_)
  refine lv_aload_n hx hb dL_law_1101 rfl (lv_at hl 3 rfl) ?_
  refine lv_aload_n hx hb dL_law_1102 rfl (lv_at hl 5 rfl) ?_
  refine lv_iload hx hb dL_law_1103 (lv_at hl 1 rfl) ?_
  refine lv_iconst (v := 1) hx hb dL_law_1105 (by decide) ?_
  refine lv_iadd hx hb dL_law_1106 ?_
  refine W.eq (g2 := F0 m 1107 ls [.int 1, .ref b, .ref mo]) rfl ?_
  refine va_sld hx hb hX hbl hbA hS (by unfold vp_in; decide) dL_law_1107 ?_
  refine W.eq (g2 := F0 m 1108 ls [.int (xs 1), .ref mo]) rfl ?_
  refine lv_aload_n hx hb dL_law_1108 rfl (lv_at hl 5 rfl) ?_
  refine lv_iload hx hb dL_law_1109 (lv_at hl 1 rfl) ?_
  refine lv_iconst (v := 2) hx hb dL_law_1111 (by decide) ?_
  refine lv_iadd hx hb dL_law_1112 ?_
  refine W.eq (g2 := F0 m 1113 ls [.int 2, .ref b, .int (xs 1), .ref mo]) rfl ?_
  refine va_sld hx hb hX hbl hbA hS (by unfold vp_in; decide) dL_law_1113 ?_
  refine W.eq (g2 := F0 m 1114 ls [.int (xs 2), .int (xs 1), .ref mo]) rfl ?_
  refine call_i (wr := [(xo, .inr (10, xC inp par pla dra lat his f1 f2 0 0 (-1) gx)), (pla, .inr (5, pC 0 0 0 gpl))]) C (run_V (As := [.int (xs 1), .int (xs 2)]) (rest := []) C (m_linkDistance l D cI cZ cJ mo 0 0 (-1) 0 0 0 0 0 0 as ak ab ar gm 0 (xs 1) (xs 2) ) cV_L_247 hP hD hS [0] rfl rfl 0 rfl rfl rfl rfl hl.1 rfl (Nat.le_of_ble_eq_true rfl) dL_law_1114 ⟨Nat.le_of_ble_eq_true rfl, Nat.le_of_ble_eq_true rfl⟩ ⟨Nat.le_of_ble_eq_true rfl, Nat.le_of_ble_eq_true rfl⟩) hP hD hS [0] [1, 2] rfl rfl rfl (by decide) (fun u2 H locs hP hD hS => ?_)
  have hP : va_P D CL [(xo, .inr (10, xC inp par pla dra lat his f1 f2 0 0 (-1) gx)), (pla, .inr (5, pC 0 0 0 gpl)), (mo, .inr (11, mC 1 0 0 (-1) 0 0 0 0 0 0 as ak ab ar gm))] H := hP
  have hD : va_D A [(xo, .inr (10, xC inp par pla dra lat his f1 f2 0 0 (-1) gx)), (pla, .inr (5, pC 0 0 0 gpl)), (mo, .inr (11, mC 1 0 0 (-1) 0 0 0 0 0 0 as ak ab ar gm))] := hD
  refine W.widen (k := 2001) (n := 60006) (Nat.le_of_ble_eq_true rfl) (Nat.le_of_ble_eq_true rfl) ?_
  refine W.eq (g2 := F0 m 1117 ls [.int 0]) rfl ?_
  refine lv_istore (lv' := [(6, .int 0), (5, .int 1), (4, .int 0), (3, .ref o), (2, .ref mo), (1, .ref xo), (0, .ref b)]) hx hb dL_law_1117 hl (by decide) rfl (fun ls hl => ?_)
  refine lv_aload_n hx hb dL_law_1119 rfl (lv_at hl 4 rfl) ?_
  refine call_i (wr := [(xo, .inr (10, xC inp par pla dra lat his f1 f2 0 0 (-1) gx)), (pla, .inr (5, pC 0 0 0 gpl))]) C (run_V (As := []) (rest := []) C (m_thrown l D cI cZ cJ mo 0 0 (-1) 0 0 0 0 0 0 as ak ab ar gm 1 ) cV_L_187 hP hD hS [2] rfl rfl 0 rfl rfl rfl rfl hl.1 rfl (Nat.le_of_ble_eq_true rfl) dL_law_1120 ⟨Nat.le_of_ble_eq_true rfl, Nat.le_of_ble_eq_true rfl⟩ ⟨Nat.le_of_ble_eq_true rfl, Nat.le_of_ble_eq_true rfl⟩) hP hD hS [2] [0, 1] rfl rfl rfl (by decide) (fun u3 H locs hP hD hS => ?_)
  have hP : va_P D CL [(xo, .inr (10, xC inp par pla dra lat his f1 f2 0 0 (-1) gx)), (pla, .inr (5, pC 0 0 0 gpl)), (mo, .inr (11, mC 1 0 0 (-1) 0 0 0 0 0 0 as ak ab ar gm))] H := hP
  have hD : va_D A [(xo, .inr (10, xC inp par pla dra lat his f1 f2 0 0 (-1) gx)), (pla, .inr (5, pC 0 0 0 gpl)), (mo, .inr (11, mC 1 0 0 (-1) 0 0 0 0 0 0 as ak ab ar gm))] := hD
  refine W.widen (k := 2001) (n := 60006) (Nat.le_of_ble_eq_true rfl) (Nat.le_of_ble_eq_true rfl) ?_
  refine W.eq (g2 := F0 m 1123 ls [.int 1]) rfl ?_
  refine lv_iload hx hb dL_law_1123 (lv_at hl 1 rfl) ?_
  refine lv_icmp_eq (tgt := 1130) hx hb dL_law_1125 (by decide) (fun _ => ?_) (fun h => absurd (by decide) h)
  refine lv_iload hx hb dL_law_1130 (lv_at hl 1 rfl) ?_
  refine lv_if_ne (tgt := 1147) hx hb dL_law_1132 (by decide) (fun _ => ?_) (fun h => absurd h (by decide))
  refine lv_goto (tgt := 3186) hx hb dL_law_1147 (by decide) ?_
  exact law_exit K hS (lv_sub hl [6, 2] rfl) (Nat.le_of_ble_eq_true rfl) (Nat.le_of_ble_eq_true rfl)
set_option maxHeartbeats 4000000 in
set_option maxRecDepth 100000 in
theorem law_19 {p : Program} {l : Launch} {e : Env} {s : State} {m : MethodId} {below : List Frame} {meth : Method} {c : Code} {b : Nat} {xs : Nat → Int32} {D : va_G} {cI cZ cJ : ClassId} {A : Nat → Prop} (K : LCx p l s m meth c b 6 xs D cI cZ cJ A) {xo inp byt par pla dra lat his f1 f2 mo as ak ab ar o : Nat} {gx gpl gdr gla gf1 gf2 gpa ghi gm : Nat → Value}  {H : Heap} {locs : List Loc} {ls : Array Slot} (hP : va_P D CL (LW cI cZ xo inp byt par pla dra lat his f1 f2 mo as ak ab ar gx gpl gdr gla gf1 gf2 gpa ghi gm) H) (hD : va_D A (LW cI cZ xo inp byt par pla dra lat his f1 f2 mo as ak ab ar gx gpl gdr gla gf1 gf2 gpa ghi gm)) (hS : va_S A s.heap H locs) (hl : lv_has ls 8 [(4, .int 0), (3, .ref o), (2, .ref mo), (1, .ref xo), (0, .ref b)]) : W p l e room_1 s m #[Value.ref b] below meth c H locs 2000 60000 (lw_Z below #[Value.ref b] s) (F0 m 1150 ls []) := by
  obtain ⟨C, hX, hbl, hlt, hAA⟩ := id K
  have hx := C.1
  have hb := C.2.1
  have hbA : ¬ A b := fun h => absurd (hAA b h) (Nat.not_le.mpr hbl)
  have hP : va_P D CL [(xo, .inr (10, xC inp par pla dra lat his f1 f2 0 0 (-1) gx)), (inp, .inr (2, [.int 0, .int 0, .int 0, .int 0, .int 0, .int 0, .ref byt])), (byt, .inl (cI, 600, .inl (fun _ => 0))), (par, .inr (4, [.ref inp, .ref dra, gpa 2, .int 0, .int 0])), (pla, .inr (5, pC 0 0 0 gpl)), (dra, .inr (5, pC 0 0 0 gdr)), (lat, .inr (3, [.int 0, .long 0, gla 2, gla 3, gla 4])), (his, .inr (1, [.int 0, .int 0, ghi 2])), (f1, .inr (5, pC 0 0 0 gf1)), (f2, .inr (5, pC 0 0 0 gf2)), (mo, .inr (11, mC 0 0 0 (-1) 0 0 0 0 0 0 as ak ab ar gm)), (as, .inl (cI, 63, .inl (fun _ => 0))), (ak, .inl (cZ, 2, .inl (fun _ => 0))), (ab, .inl (cI, 600, .inl (fun _ => 0))), (ar, .inl (cI, 63, .inl (fun _ => 0)))] H := hP
  have hD : va_D A [(xo, .inr (10, xC inp par pla dra lat his f1 f2 0 0 (-1) gx)), (inp, .inr (2, [.int 0, .int 0, .int 0, .int 0, .int 0, .int 0, .ref byt])), (byt, .inl (cI, 600, .inl (fun _ => 0))), (par, .inr (4, [.ref inp, .ref dra, gpa 2, .int 0, .int 0])), (pla, .inr (5, pC 0 0 0 gpl)), (dra, .inr (5, pC 0 0 0 gdr)), (lat, .inr (3, [.int 0, .long 0, gla 2, gla 3, gla 4])), (his, .inr (1, [.int 0, .int 0, ghi 2])), (f1, .inr (5, pC 0 0 0 gf1)), (f2, .inr (5, pC 0 0 0 gf2)), (mo, .inr (11, mC 0 0 0 (-1) 0 0 0 0 0 0 as ak ab ar gm)), (as, .inl (cI, 63, .inl (fun _ => 0))), (ak, .inl (cZ, 2, .inl (fun _ => 0))), (ab, .inl (cI, 600, .inl (fun _ => 0))), (ar, .inl (cI, 63, .inl (fun _ => 0)))] := hD
  have hP := hP.sub (ws' := [(xo, .inr (10, xC inp par pla dra lat his f1 f2 0 0 (-1) gx)), (pla, .inr (5, pC 0 0 0 gpl)), (mo, .inr (11, mC 0 0 0 (-1) 0 0 0 0 0 0 as ak ab ar gm))]) [0, 4, 10] rfl
  have hD := hD.sub (ws' := [(xo, .inr (10, xC inp par pla dra lat his f1 f2 0 0 (-1) gx)), (pla, .inr (5, pC 0 0 0 gpl)), (mo, .inr (11, mC 0 0 0 (-1) 0 0 0 0 0 0 as ak ab ar gm))]) [0, 4, 10] (by decide) rfl
  refine lv_aload_n hx hb dL_law_1150 rfl (lv_at hl 3 rfl) ?_
  refine lv_aload_n hx hb dL_law_1151 rfl (lv_at hl 1 rfl) ?_
  refine call_i (wr := [(mo, .inr (11, mC 0 0 0 (-1) 0 0 0 0 0 0 as ak ab ar gm))]) C (run_SW (As := [.ref xo, .ref o]) (rest := []) C (h_diameter l hlt D cI cZ cJ xo inp par pla dra lat his f1 f2 0 0 (-1) gx gpl o ) cS_L_248 hP hD hS [0, 1] rfl rfl rfl hl.1 rfl (Nat.le_of_ble_eq_true rfl) dL_law_1152 ⟨Nat.le_of_ble_eq_true rfl, Nat.le_of_ble_eq_true rfl⟩ ⟨Nat.le_of_ble_eq_true rfl, Nat.le_of_ble_eq_true rfl⟩) hP hD hS [0, 1] [2] rfl rfl rfl (by decide) (fun u1 H locs hP hD hS => ?_)
  have hP : va_P D CL [(mo, .inr (11, mC 0 0 0 (-1) 0 0 0 0 0 0 as ak ab ar gm)), (xo, .inr (10, xC inp par pla dra lat his f1 f2 0 0 (-1) gx)), (pla, .inr (5, pC 0 0 0 gpl))] H := hP
  have hD : va_D A [(mo, .inr (11, mC 0 0 0 (-1) 0 0 0 0 0 0 as ak ab ar gm)), (xo, .inr (10, xC inp par pla dra lat his f1 f2 0 0 (-1) gx)), (pla, .inr (5, pC 0 0 0 gpl))] := hD
  refine W.widen (k := 2001) (n := 60006) (Nat.le_of_ble_eq_true rfl) (Nat.le_of_ble_eq_true rfl) ?_
  refine W.eq (g2 := F0 m 1155 ls [.int 1]) rfl ?_
  refine lv_istore (lv' := [(5, .int 1), (4, .int 0), (3, .ref o), (2, .ref mo), (1, .ref xo), (0, .ref b)]) hx hb dL_law_1155 hl (by decide) rfl (fun ls hl => ?_)
  refine lv_aload_n hx hb dL_law_1157 rfl (lv_at hl 3 rfl) ?_
  refine call_i (wr := [(xo, .inr (10, xC inp par pla dra lat his f1 f2 0 0 (-1) gx)), (pla, .inr (5, pC 0 0 0 gpl))]) C (run_V (As := []) (rest := []) C (m_diameter l D cI cZ cJ mo 0 0 (-1) 0 0 0 0 0 0 as ak ab ar gm 0 ) cV_L_250 hP hD hS [0] rfl rfl 0 rfl rfl rfl rfl hl.1 rfl (Nat.le_of_ble_eq_true rfl) dL_law_1158 ⟨Nat.le_of_ble_eq_true rfl, Nat.le_of_ble_eq_true rfl⟩ ⟨Nat.le_of_ble_eq_true rfl, Nat.le_of_ble_eq_true rfl⟩) hP hD hS [0] [1, 2] rfl rfl rfl (by decide) (fun u2 H locs hP hD hS => ?_)
  have hP : va_P D CL [(xo, .inr (10, xC inp par pla dra lat his f1 f2 0 0 (-1) gx)), (pla, .inr (5, pC 0 0 0 gpl)), (mo, .inr (11, mC 1 0 0 (-1) 0 0 0 0 0 0 as ak ab ar gm))] H := hP
  have hD : va_D A [(xo, .inr (10, xC inp par pla dra lat his f1 f2 0 0 (-1) gx)), (pla, .inr (5, pC 0 0 0 gpl)), (mo, .inr (11, mC 1 0 0 (-1) 0 0 0 0 0 0 as ak ab ar gm))] := hD
  refine W.widen (k := 2001) (n := 60006) (Nat.le_of_ble_eq_true rfl) (Nat.le_of_ble_eq_true rfl) ?_
  refine W.eq (g2 := F0 m 1161 ls [.int 0]) rfl ?_
  refine lv_istore (lv' := [(6, .int 0), (5, .int 1), (4, .int 0), (3, .ref o), (2, .ref mo), (1, .ref xo), (0, .ref b)]) hx hb dL_law_1161 hl (by decide) rfl (fun ls hl => ?_)
  refine lv_aload_n hx hb dL_law_1163 rfl (lv_at hl 4 rfl) ?_
  refine call_i (wr := [(xo, .inr (10, xC inp par pla dra lat his f1 f2 0 0 (-1) gx)), (pla, .inr (5, pC 0 0 0 gpl))]) C (run_V (As := []) (rest := []) C (m_thrown l D cI cZ cJ mo 0 0 (-1) 0 0 0 0 0 0 as ak ab ar gm 1 ) cV_L_187 hP hD hS [2] rfl rfl 0 rfl rfl rfl rfl hl.1 rfl (Nat.le_of_ble_eq_true rfl) dL_law_1164 ⟨Nat.le_of_ble_eq_true rfl, Nat.le_of_ble_eq_true rfl⟩ ⟨Nat.le_of_ble_eq_true rfl, Nat.le_of_ble_eq_true rfl⟩) hP hD hS [2] [0, 1] rfl rfl rfl (by decide) (fun u3 H locs hP hD hS => ?_)
  have hP : va_P D CL [(xo, .inr (10, xC inp par pla dra lat his f1 f2 0 0 (-1) gx)), (pla, .inr (5, pC 0 0 0 gpl)), (mo, .inr (11, mC 1 0 0 (-1) 0 0 0 0 0 0 as ak ab ar gm))] H := hP
  have hD : va_D A [(xo, .inr (10, xC inp par pla dra lat his f1 f2 0 0 (-1) gx)), (pla, .inr (5, pC 0 0 0 gpl)), (mo, .inr (11, mC 1 0 0 (-1) 0 0 0 0 0 0 as ak ab ar gm))] := hD
  refine W.widen (k := 2001) (n := 60006) (Nat.le_of_ble_eq_true rfl) (Nat.le_of_ble_eq_true rfl) ?_
  refine W.eq (g2 := F0 m 1167 ls [.int 1]) rfl ?_
  refine lv_iload hx hb dL_law_1167 (lv_at hl 1 rfl) ?_
  refine lv_icmp_eq (tgt := 1174) hx hb dL_law_1169 (by decide) (fun _ => ?_) (fun h => absurd (by decide) h)
  refine lv_iload hx hb dL_law_1174 (lv_at hl 1 rfl) ?_
  refine lv_if_ne (tgt := 1191) hx hb dL_law_1176 (by decide) (fun _ => ?_) (fun h => absurd h (by decide))
  refine lv_goto (tgt := 3186) hx hb dL_law_1191 (by decide) ?_
  exact law_exit K hS (lv_sub hl [6, 2] rfl) (Nat.le_of_ble_eq_true rfl) (Nat.le_of_ble_eq_true rfl)
set_option maxHeartbeats 4000000 in
set_option maxRecDepth 100000 in
theorem law_20 {p : Program} {l : Launch} {e : Env} {s : State} {m : MethodId} {below : List Frame} {meth : Method} {c : Code} {b : Nat} {xs : Nat → Int32} {D : va_G} {cI cZ cJ : ClassId} {A : Nat → Prop} (K : LCx p l s m meth c b 6 xs D cI cZ cJ A) {xo inp byt par pla dra lat his f1 f2 mo as ak ab ar o : Nat} {gx gpl gdr gla gf1 gf2 gpa ghi gm : Nat → Value}  {H : Heap} {locs : List Loc} {ls : Array Slot} (hP : va_P D CL (LW cI cZ xo inp byt par pla dra lat his f1 f2 mo as ak ab ar gx gpl gdr gla gf1 gf2 gpa ghi gm) H) (hD : va_D A (LW cI cZ xo inp byt par pla dra lat his f1 f2 mo as ak ab ar gx gpl gdr gla gf1 gf2 gpa ghi gm)) (hS : va_S A s.heap H locs) (hl : lv_has ls 8 [(4, .int 0), (3, .ref o), (2, .ref mo), (1, .ref xo), (0, .ref b)]) : W p l e room_1 s m #[Value.ref b] below meth c H locs 2000 60000 (lw_Z below #[Value.ref b] s) (F0 m 1194 ls []) := by
  obtain ⟨C, hX, hbl, hlt, hAA⟩ := id K
  have hx := C.1
  have hb := C.2.1
  have hbA : ¬ A b := fun h => absurd (hAA b h) (Nat.not_le.mpr hbl)
  have hP : va_P D CL [(xo, .inr (10, xC inp par pla dra lat his f1 f2 0 0 (-1) gx)), (inp, .inr (2, [.int 0, .int 0, .int 0, .int 0, .int 0, .int 0, .ref byt])), (byt, .inl (cI, 600, .inl (fun _ => 0))), (par, .inr (4, [.ref inp, .ref dra, gpa 2, .int 0, .int 0])), (pla, .inr (5, pC 0 0 0 gpl)), (dra, .inr (5, pC 0 0 0 gdr)), (lat, .inr (3, [.int 0, .long 0, gla 2, gla 3, gla 4])), (his, .inr (1, [.int 0, .int 0, ghi 2])), (f1, .inr (5, pC 0 0 0 gf1)), (f2, .inr (5, pC 0 0 0 gf2)), (mo, .inr (11, mC 0 0 0 (-1) 0 0 0 0 0 0 as ak ab ar gm)), (as, .inl (cI, 63, .inl (fun _ => 0))), (ak, .inl (cZ, 2, .inl (fun _ => 0))), (ab, .inl (cI, 600, .inl (fun _ => 0))), (ar, .inl (cI, 63, .inl (fun _ => 0)))] H := hP
  have hD : va_D A [(xo, .inr (10, xC inp par pla dra lat his f1 f2 0 0 (-1) gx)), (inp, .inr (2, [.int 0, .int 0, .int 0, .int 0, .int 0, .int 0, .ref byt])), (byt, .inl (cI, 600, .inl (fun _ => 0))), (par, .inr (4, [.ref inp, .ref dra, gpa 2, .int 0, .int 0])), (pla, .inr (5, pC 0 0 0 gpl)), (dra, .inr (5, pC 0 0 0 gdr)), (lat, .inr (3, [.int 0, .long 0, gla 2, gla 3, gla 4])), (his, .inr (1, [.int 0, .int 0, ghi 2])), (f1, .inr (5, pC 0 0 0 gf1)), (f2, .inr (5, pC 0 0 0 gf2)), (mo, .inr (11, mC 0 0 0 (-1) 0 0 0 0 0 0 as ak ab ar gm)), (as, .inl (cI, 63, .inl (fun _ => 0))), (ak, .inl (cZ, 2, .inl (fun _ => 0))), (ab, .inl (cI, 600, .inl (fun _ => 0))), (ar, .inl (cI, 63, .inl (fun _ => 0)))] := hD
  have hP := hP.sub (ws' := [(xo, .inr (10, xC inp par pla dra lat his f1 f2 0 0 (-1) gx)), (pla, .inr (5, pC 0 0 0 gpl)), (mo, .inr (11, mC 0 0 0 (-1) 0 0 0 0 0 0 as ak ab ar gm))]) [0, 4, 10] rfl
  have hD := hD.sub (ws' := [(xo, .inr (10, xC inp par pla dra lat his f1 f2 0 0 (-1) gx)), (pla, .inr (5, pC 0 0 0 gpl)), (mo, .inr (11, mC 0 0 0 (-1) 0 0 0 0 0 0 as ak ab ar gm))]) [0, 4, 10] (by decide) rfl
  refine lv_aload_n hx hb dL_law_1194 rfl (lv_at hl 3 rfl) ?_
  refine lv_aload_n hx hb dL_law_1195 rfl (lv_at hl 4 rfl) ?_
  refine lv_iload hx hb dL_law_1196 (lv_at hl 0 rfl) ?_
  refine lv_iconst (v := 1) hx hb dL_law_1198 (by decide) ?_
  refine lv_iadd hx hb dL_law_1199 ?_
  refine W.eq (g2 := F0 m 1200 ls [.int 1, .ref b, .ref xo]) rfl ?_
  refine va_sld hx hb hX hbl hbA hS (by unfold vp_in; decide) dL_law_1200 ?_
  refine W.eq (g2 := F0 m 1201 ls [.int (xs 1), .ref xo]) rfl ?_
  refine lv_aload_n hx hb dL_law_1201 rfl (lv_at hl 1 rfl) ?_
  refine call_i (wr := [(mo, .inr (11, mC 0 0 0 (-1) 0 0 0 0 0 0 as ak ab ar gm))]) C (run_SW (As := [.ref xo, .int (xs 1), .ref o]) (rest := []) C (h_farthest l hlt D cI cZ cJ xo inp par pla dra lat his f1 f2 0 0 (-1) gx gpl (xs 1) o ) cS_L_251 hP hD hS [0, 1] rfl rfl rfl hl.1 rfl (Nat.le_of_ble_eq_true rfl) dL_law_1202 ⟨Nat.le_of_ble_eq_true rfl, Nat.le_of_ble_eq_true rfl⟩ ⟨Nat.le_of_ble_eq_true rfl, Nat.le_of_ble_eq_true rfl⟩) hP hD hS [0, 1] [2] rfl rfl rfl (by decide) (fun u1 H locs hP hD hS => ?_)
  have hP : va_P D CL [(mo, .inr (11, mC 0 0 0 (-1) 0 0 0 0 0 0 as ak ab ar gm)), (xo, .inr (10, xC inp par pla dra lat his f1 f2 0 0 (-1) gx)), (pla, .inr (5, pC 0 0 0 gpl))] H := hP
  have hD : va_D A [(mo, .inr (11, mC 0 0 0 (-1) 0 0 0 0 0 0 as ak ab ar gm)), (xo, .inr (10, xC inp par pla dra lat his f1 f2 0 0 (-1) gx)), (pla, .inr (5, pC 0 0 0 gpl))] := hD
  refine W.widen (k := 2001) (n := 60006) (Nat.le_of_ble_eq_true rfl) (Nat.le_of_ble_eq_true rfl) ?_
  refine W.eq (g2 := F0 m 1205 ls [.int 1]) rfl ?_
  refine lv_istore (lv' := [(5, .int 1), (4, .int 0), (3, .ref o), (2, .ref mo), (1, .ref xo), (0, .ref b)]) hx hb dL_law_1205 hl (by decide) rfl (fun ls hl => ?_)
  refine lv_aload_n hx hb dL_law_1207 rfl (lv_at hl 3 rfl) ?_
  refine lv_aload_n hx hb dL_law_1208 rfl (lv_at hl 5 rfl) ?_
  refine lv_iload hx hb dL_law_1209 (lv_at hl 1 rfl) ?_
  refine lv_iconst (v := 1) hx hb dL_law_1211 (by decide) ?_
  refine lv_iadd hx hb dL_law_1212 ?_
  refine W.eq (g2 := F0 m 1213 ls [.int 1, .ref b, .ref mo]) rfl ?_
  refine va_sld hx hb hX hbl hbA hS (by unfold vp_in; decide) dL_law_1213 ?_
  refine W.eq (g2 := F0 m 1214 ls [.int (xs 1), .ref mo]) rfl ?_
  refine call_i (wr := [(xo, .inr (10, xC inp par pla dra lat his f1 f2 0 0 (-1) gx)), (pla, .inr (5, pC 0 0 0 gpl))]) C (run_V (As := [.int (xs 1)]) (rest := []) C (m_farthest l D cI cZ cJ mo 0 0 (-1) 0 0 0 0 0 0 as ak ab ar gm 0 (xs 1) ) cV_L_253 hP hD hS [0] rfl rfl 0 rfl rfl rfl rfl hl.1 rfl (Nat.le_of_ble_eq_true rfl) dL_law_1214 ⟨Nat.le_of_ble_eq_true rfl, Nat.le_of_ble_eq_true rfl⟩ ⟨Nat.le_of_ble_eq_true rfl, Nat.le_of_ble_eq_true rfl⟩) hP hD hS [0] [1, 2] rfl rfl rfl (by decide) (fun u2 H locs hP hD hS => ?_)
  have hP : va_P D CL [(xo, .inr (10, xC inp par pla dra lat his f1 f2 0 0 (-1) gx)), (pla, .inr (5, pC 0 0 0 gpl)), (mo, .inr (11, mC 1 0 0 (-1) 0 0 0 0 0 0 as ak ab ar gm))] H := hP
  have hD : va_D A [(xo, .inr (10, xC inp par pla dra lat his f1 f2 0 0 (-1) gx)), (pla, .inr (5, pC 0 0 0 gpl)), (mo, .inr (11, mC 1 0 0 (-1) 0 0 0 0 0 0 as ak ab ar gm))] := hD
  refine W.widen (k := 2001) (n := 60006) (Nat.le_of_ble_eq_true rfl) (Nat.le_of_ble_eq_true rfl) ?_
  refine W.eq (g2 := F0 m 1217 ls [.int 0]) rfl ?_
  refine lv_istore (lv' := [(6, .int 0), (5, .int 1), (4, .int 0), (3, .ref o), (2, .ref mo), (1, .ref xo), (0, .ref b)]) hx hb dL_law_1217 hl (by decide) rfl (fun ls hl => ?_)
  refine lv_aload_n hx hb dL_law_1219 rfl (lv_at hl 4 rfl) ?_
  refine call_i (wr := [(xo, .inr (10, xC inp par pla dra lat his f1 f2 0 0 (-1) gx)), (pla, .inr (5, pC 0 0 0 gpl))]) C (run_V (As := []) (rest := []) C (m_thrown l D cI cZ cJ mo 0 0 (-1) 0 0 0 0 0 0 as ak ab ar gm 1 ) cV_L_187 hP hD hS [2] rfl rfl 0 rfl rfl rfl rfl hl.1 rfl (Nat.le_of_ble_eq_true rfl) dL_law_1220 ⟨Nat.le_of_ble_eq_true rfl, Nat.le_of_ble_eq_true rfl⟩ ⟨Nat.le_of_ble_eq_true rfl, Nat.le_of_ble_eq_true rfl⟩) hP hD hS [2] [0, 1] rfl rfl rfl (by decide) (fun u3 H locs hP hD hS => ?_)
  have hP : va_P D CL [(xo, .inr (10, xC inp par pla dra lat his f1 f2 0 0 (-1) gx)), (pla, .inr (5, pC 0 0 0 gpl)), (mo, .inr (11, mC 1 0 0 (-1) 0 0 0 0 0 0 as ak ab ar gm))] H := hP
  have hD : va_D A [(xo, .inr (10, xC inp par pla dra lat his f1 f2 0 0 (-1) gx)), (pla, .inr (5, pC 0 0 0 gpl)), (mo, .inr (11, mC 1 0 0 (-1) 0 0 0 0 0 0 as ak ab ar gm))] := hD
  refine W.widen (k := 2001) (n := 60006) (Nat.le_of_ble_eq_true rfl) (Nat.le_of_ble_eq_true rfl) ?_
  refine W.eq (g2 := F0 m 1223 ls [.int 1]) rfl ?_
  refine lv_iload hx hb dL_law_1223 (lv_at hl 1 rfl) ?_
  refine lv_icmp_eq (tgt := 1230) hx hb dL_law_1225 (by decide) (fun _ => ?_) (fun h => absurd (by decide) h)
  refine lv_iload hx hb dL_law_1230 (lv_at hl 1 rfl) ?_
  refine lv_if_ne (tgt := 1247) hx hb dL_law_1232 (by decide) (fun _ => ?_) (fun h => absurd h (by decide))
  refine lv_goto (tgt := 3186) hx hb dL_law_1247 (by decide) ?_
  exact law_exit K hS (lv_sub hl [6, 2] rfl) (Nat.le_of_ble_eq_true rfl) (Nat.le_of_ble_eq_true rfl)
set_option maxHeartbeats 4000000 in
set_option maxRecDepth 100000 in
theorem law_21 {p : Program} {l : Launch} {e : Env} {s : State} {m : MethodId} {below : List Frame} {meth : Method} {c : Code} {b : Nat} {xs : Nat → Int32} {D : va_G} {cI cZ cJ : ClassId} {A : Nat → Prop} (K : LCx p l s m meth c b 6 xs D cI cZ cJ A) {xo inp byt par pla dra lat his f1 f2 mo as ak ab ar o : Nat} {gx gpl gdr gla gf1 gf2 gpa ghi gm : Nat → Value}  {H : Heap} {locs : List Loc} {ls : Array Slot} (hP : va_P D CL (LW cI cZ xo inp byt par pla dra lat his f1 f2 mo as ak ab ar gx gpl gdr gla gf1 gf2 gpa ghi gm) H) (hD : va_D A (LW cI cZ xo inp byt par pla dra lat his f1 f2 mo as ak ab ar gx gpl gdr gla gf1 gf2 gpa ghi gm)) (hS : va_S A s.heap H locs) (hl : lv_has ls 8 [(4, .int 0), (3, .ref o), (2, .ref mo), (1, .ref xo), (0, .ref b)]) : W p l e room_1 s m #[Value.ref b] below meth c H locs 2000 60000 (lw_Z below #[Value.ref b] s) (F0 m 1250 ls []) := by
  obtain ⟨C, hX, hbl, hlt, hAA⟩ := id K
  have hx := C.1
  have hb := C.2.1
  have hbA : ¬ A b := fun h => absurd (hAA b h) (Nat.not_le.mpr hbl)
  have hP : va_P D CL [(xo, .inr (10, xC inp par pla dra lat his f1 f2 0 0 (-1) gx)), (inp, .inr (2, [.int 0, .int 0, .int 0, .int 0, .int 0, .int 0, .ref byt])), (byt, .inl (cI, 600, .inl (fun _ => 0))), (par, .inr (4, [.ref inp, .ref dra, gpa 2, .int 0, .int 0])), (pla, .inr (5, pC 0 0 0 gpl)), (dra, .inr (5, pC 0 0 0 gdr)), (lat, .inr (3, [.int 0, .long 0, gla 2, gla 3, gla 4])), (his, .inr (1, [.int 0, .int 0, ghi 2])), (f1, .inr (5, pC 0 0 0 gf1)), (f2, .inr (5, pC 0 0 0 gf2)), (mo, .inr (11, mC 0 0 0 (-1) 0 0 0 0 0 0 as ak ab ar gm)), (as, .inl (cI, 63, .inl (fun _ => 0))), (ak, .inl (cZ, 2, .inl (fun _ => 0))), (ab, .inl (cI, 600, .inl (fun _ => 0))), (ar, .inl (cI, 63, .inl (fun _ => 0)))] H := hP
  have hD : va_D A [(xo, .inr (10, xC inp par pla dra lat his f1 f2 0 0 (-1) gx)), (inp, .inr (2, [.int 0, .int 0, .int 0, .int 0, .int 0, .int 0, .ref byt])), (byt, .inl (cI, 600, .inl (fun _ => 0))), (par, .inr (4, [.ref inp, .ref dra, gpa 2, .int 0, .int 0])), (pla, .inr (5, pC 0 0 0 gpl)), (dra, .inr (5, pC 0 0 0 gdr)), (lat, .inr (3, [.int 0, .long 0, gla 2, gla 3, gla 4])), (his, .inr (1, [.int 0, .int 0, ghi 2])), (f1, .inr (5, pC 0 0 0 gf1)), (f2, .inr (5, pC 0 0 0 gf2)), (mo, .inr (11, mC 0 0 0 (-1) 0 0 0 0 0 0 as ak ab ar gm)), (as, .inl (cI, 63, .inl (fun _ => 0))), (ak, .inl (cZ, 2, .inl (fun _ => 0))), (ab, .inl (cI, 600, .inl (fun _ => 0))), (ar, .inl (cI, 63, .inl (fun _ => 0)))] := hD
  have hP := hP.sub (ws' := [(xo, .inr (10, xC inp par pla dra lat his f1 f2 0 0 (-1) gx)), (pla, .inr (5, pC 0 0 0 gpl)), (mo, .inr (11, mC 0 0 0 (-1) 0 0 0 0 0 0 as ak ab ar gm))]) [0, 4, 10] rfl
  have hD := hD.sub (ws' := [(xo, .inr (10, xC inp par pla dra lat his f1 f2 0 0 (-1) gx)), (pla, .inr (5, pC 0 0 0 gpl)), (mo, .inr (11, mC 0 0 0 (-1) 0 0 0 0 0 0 as ak ab ar gm))]) [0, 4, 10] (by decide) rfl
  refine lv_aload_n hx hb dL_law_1250 rfl (lv_at hl 3 rfl) ?_
  refine lv_aload_n hx hb dL_law_1251 rfl (lv_at hl 4 rfl) ?_
  refine lv_iload hx hb dL_law_1252 (lv_at hl 0 rfl) ?_
  refine lv_iconst (v := 1) hx hb dL_law_1254 (by decide) ?_
  refine lv_iadd hx hb dL_law_1255 ?_
  refine W.eq (g2 := F0 m 1256 ls [.int 1, .ref b, .ref xo]) rfl ?_
  refine va_sld hx hb hX hbl hbA hS (by unfold vp_in; decide) dL_law_1256 ?_
  refine W.eq (g2 := F0 m 1257 ls [.int (xs 1), .ref xo]) rfl ?_
  refine lv_aload_n hx hb dL_law_1257 rfl (lv_at hl 1 rfl) ?_
  refine call_i (wr := [(mo, .inr (11, mC 0 0 0 (-1) 0 0 0 0 0 0 as ak ab ar gm))]) C (run_SW (As := [.ref xo, .int (xs 1), .ref o]) (rest := []) C (h_seenFromEdge l hlt D cI cZ cJ xo inp par pla dra lat his f1 f2 0 0 (-1) gx gpl (xs 1) o ) cS_L_254 hP hD hS [0, 1] rfl rfl rfl hl.1 rfl (Nat.le_of_ble_eq_true rfl) dL_law_1258 ⟨Nat.le_of_ble_eq_true rfl, Nat.le_of_ble_eq_true rfl⟩ ⟨Nat.le_of_ble_eq_true rfl, Nat.le_of_ble_eq_true rfl⟩) hP hD hS [0, 1] [2] rfl rfl rfl (by decide) (fun u1 H locs hP hD hS => ?_)
  have hP : va_P D CL [(mo, .inr (11, mC 0 0 0 (-1) 0 0 0 0 0 0 as ak ab ar gm)), (xo, .inr (10, xC inp par pla dra lat his f1 f2 0 0 (-1) gx)), (pla, .inr (5, pC 0 0 0 gpl))] H := hP
  have hD : va_D A [(mo, .inr (11, mC 0 0 0 (-1) 0 0 0 0 0 0 as ak ab ar gm)), (xo, .inr (10, xC inp par pla dra lat his f1 f2 0 0 (-1) gx)), (pla, .inr (5, pC 0 0 0 gpl))] := hD
  refine W.widen (k := 2001) (n := 60006) (Nat.le_of_ble_eq_true rfl) (Nat.le_of_ble_eq_true rfl) ?_
  refine W.eq (g2 := F0 m 1261 ls [.int 1]) rfl ?_
  refine lv_istore (lv' := [(5, .int 1), (4, .int 0), (3, .ref o), (2, .ref mo), (1, .ref xo), (0, .ref b)]) hx hb dL_law_1261 hl (by decide) rfl (fun ls hl => ?_)
  refine lv_aload_n hx hb dL_law_1263 rfl (lv_at hl 3 rfl) ?_
  refine lv_aload_n hx hb dL_law_1264 rfl (lv_at hl 5 rfl) ?_
  refine lv_iload hx hb dL_law_1265 (lv_at hl 1 rfl) ?_
  refine lv_iconst (v := 1) hx hb dL_law_1267 (by decide) ?_
  refine lv_iadd hx hb dL_law_1268 ?_
  refine W.eq (g2 := F0 m 1269 ls [.int 1, .ref b, .ref mo]) rfl ?_
  refine va_sld hx hb hX hbl hbA hS (by unfold vp_in; decide) dL_law_1269 ?_
  refine W.eq (g2 := F0 m 1270 ls [.int (xs 1), .ref mo]) rfl ?_
  refine call_l (wr := [(xo, .inr (10, xC inp par pla dra lat his f1 f2 0 0 (-1) gx)), (pla, .inr (5, pC 0 0 0 gpl))]) C (run_V (As := [.int (xs 1)]) (rest := []) C (m_seenFromEdge l D cI cZ cJ mo 0 0 (-1) 0 0 0 0 0 0 as ak ab ar gm 0 (xs 1) ) cV_L_256 hP hD hS [0] rfl rfl 0 rfl rfl rfl rfl hl.1 rfl (Nat.le_of_ble_eq_true rfl) dL_law_1270 ⟨Nat.le_of_ble_eq_true rfl, Nat.le_of_ble_eq_true rfl⟩ ⟨Nat.le_of_ble_eq_true rfl, Nat.le_of_ble_eq_true rfl⟩) hP hD hS [0] [1, 2] rfl rfl rfl (by decide) (fun u2 H locs hP hD hS => ?_)
  have hP : va_P D CL [(xo, .inr (10, xC inp par pla dra lat his f1 f2 0 0 (-1) gx)), (pla, .inr (5, pC 0 0 0 gpl)), (mo, .inr (11, mC 1 0 0 (-1) 0 0 0 0 0 0 as ak ab ar gm))] H := hP
  have hD : va_D A [(xo, .inr (10, xC inp par pla dra lat his f1 f2 0 0 (-1) gx)), (pla, .inr (5, pC 0 0 0 gpl)), (mo, .inr (11, mC 1 0 0 (-1) 0 0 0 0 0 0 as ak ab ar gm))] := hD
  refine W.widen (k := 2001) (n := 60006) (Nat.le_of_ble_eq_true rfl) (Nat.le_of_ble_eq_true rfl) ?_
  refine lv_lstore (lv' := [(6, .long 0), (5, .int 1), (4, .int 0), (3, .ref o), (2, .ref mo), (1, .ref xo), (0, .ref b)]) hx hb dL_law_1273 hl (by decide) rfl (fun ls hl => ?_)
  refine lv_aload_n hx hb dL_law_1275 rfl (lv_at hl 4 rfl) ?_
  refine call_i (wr := [(xo, .inr (10, xC inp par pla dra lat his f1 f2 0 0 (-1) gx)), (pla, .inr (5, pC 0 0 0 gpl))]) C (run_V (As := []) (rest := []) C (m_thrown l D cI cZ cJ mo 0 0 (-1) 0 0 0 0 0 0 as ak ab ar gm 1 ) cV_L_187 hP hD hS [2] rfl rfl 0 rfl rfl rfl rfl hl.1 rfl (Nat.le_of_ble_eq_true rfl) dL_law_1276 ⟨Nat.le_of_ble_eq_true rfl, Nat.le_of_ble_eq_true rfl⟩ ⟨Nat.le_of_ble_eq_true rfl, Nat.le_of_ble_eq_true rfl⟩) hP hD hS [2] [0, 1] rfl rfl rfl (by decide) (fun u3 H locs hP hD hS => ?_)
  have hP : va_P D CL [(xo, .inr (10, xC inp par pla dra lat his f1 f2 0 0 (-1) gx)), (pla, .inr (5, pC 0 0 0 gpl)), (mo, .inr (11, mC 1 0 0 (-1) 0 0 0 0 0 0 as ak ab ar gm))] H := hP
  have hD : va_D A [(xo, .inr (10, xC inp par pla dra lat his f1 f2 0 0 (-1) gx)), (pla, .inr (5, pC 0 0 0 gpl)), (mo, .inr (11, mC 1 0 0 (-1) 0 0 0 0 0 0 as ak ab ar gm))] := hD
  refine W.widen (k := 2001) (n := 60006) (Nat.le_of_ble_eq_true rfl) (Nat.le_of_ble_eq_true rfl) ?_
  refine W.eq (g2 := F0 m 1279 ls [.int 1]) rfl ?_
  refine lv_iload hx hb dL_law_1279 (lv_at hl 1 rfl) ?_
  refine lv_icmp_eq (tgt := 1286) hx hb dL_law_1281 (by decide) (fun _ => ?_) (fun h => absurd (by decide) h)
  refine lv_iload hx hb dL_law_1286 (lv_at hl 1 rfl) ?_
  refine lv_if_ne (tgt := 1302) hx hb dL_law_1288 (by decide) (fun _ => ?_) (fun h => absurd h (by decide))
  refine lv_goto (tgt := 3186) hx hb dL_law_1302 (by decide) ?_
  exact law_exit K hS (lv_sub hl [6, 2] rfl) (Nat.le_of_ble_eq_true rfl) (Nat.le_of_ble_eq_true rfl)
set_option maxHeartbeats 4000000 in
set_option maxRecDepth 100000 in
theorem law_22 {p : Program} {l : Launch} {e : Env} {s : State} {m : MethodId} {below : List Frame} {meth : Method} {c : Code} {b : Nat} {xs : Nat → Int32} {D : va_G} {cI cZ cJ : ClassId} {A : Nat → Prop} (K : LCx p l s m meth c b 6 xs D cI cZ cJ A) {xo inp byt par pla dra lat his f1 f2 mo as ak ab ar o : Nat} {gx gpl gdr gla gf1 gf2 gpa ghi gm : Nat → Value}  {H : Heap} {locs : List Loc} {ls : Array Slot} (hP : va_P D CL (LW cI cZ xo inp byt par pla dra lat his f1 f2 mo as ak ab ar gx gpl gdr gla gf1 gf2 gpa ghi gm) H) (hD : va_D A (LW cI cZ xo inp byt par pla dra lat his f1 f2 mo as ak ab ar gx gpl gdr gla gf1 gf2 gpa ghi gm)) (hS : va_S A s.heap H locs) (hl : lv_has ls 8 [(4, .int 0), (3, .ref o), (2, .ref mo), (1, .ref xo), (0, .ref b)]) : W p l e room_1 s m #[Value.ref b] below meth c H locs 2000 60000 (lw_Z below #[Value.ref b] s) (F0 m 1305 ls []) := by
  obtain ⟨C, hX, hbl, hlt, hAA⟩ := id K
  have hx := C.1
  have hb := C.2.1
  have hbA : ¬ A b := fun h => absurd (hAA b h) (Nat.not_le.mpr hbl)
  have hP : va_P D CL [(xo, .inr (10, xC inp par pla dra lat his f1 f2 0 0 (-1) gx)), (inp, .inr (2, [.int 0, .int 0, .int 0, .int 0, .int 0, .int 0, .ref byt])), (byt, .inl (cI, 600, .inl (fun _ => 0))), (par, .inr (4, [.ref inp, .ref dra, gpa 2, .int 0, .int 0])), (pla, .inr (5, pC 0 0 0 gpl)), (dra, .inr (5, pC 0 0 0 gdr)), (lat, .inr (3, [.int 0, .long 0, gla 2, gla 3, gla 4])), (his, .inr (1, [.int 0, .int 0, ghi 2])), (f1, .inr (5, pC 0 0 0 gf1)), (f2, .inr (5, pC 0 0 0 gf2)), (mo, .inr (11, mC 0 0 0 (-1) 0 0 0 0 0 0 as ak ab ar gm)), (as, .inl (cI, 63, .inl (fun _ => 0))), (ak, .inl (cZ, 2, .inl (fun _ => 0))), (ab, .inl (cI, 600, .inl (fun _ => 0))), (ar, .inl (cI, 63, .inl (fun _ => 0)))] H := hP
  have hD : va_D A [(xo, .inr (10, xC inp par pla dra lat his f1 f2 0 0 (-1) gx)), (inp, .inr (2, [.int 0, .int 0, .int 0, .int 0, .int 0, .int 0, .ref byt])), (byt, .inl (cI, 600, .inl (fun _ => 0))), (par, .inr (4, [.ref inp, .ref dra, gpa 2, .int 0, .int 0])), (pla, .inr (5, pC 0 0 0 gpl)), (dra, .inr (5, pC 0 0 0 gdr)), (lat, .inr (3, [.int 0, .long 0, gla 2, gla 3, gla 4])), (his, .inr (1, [.int 0, .int 0, ghi 2])), (f1, .inr (5, pC 0 0 0 gf1)), (f2, .inr (5, pC 0 0 0 gf2)), (mo, .inr (11, mC 0 0 0 (-1) 0 0 0 0 0 0 as ak ab ar gm)), (as, .inl (cI, 63, .inl (fun _ => 0))), (ak, .inl (cZ, 2, .inl (fun _ => 0))), (ab, .inl (cI, 600, .inl (fun _ => 0))), (ar, .inl (cI, 63, .inl (fun _ => 0)))] := hD
  have hP := hP.sub (ws' := [(xo, .inr (10, xC inp par pla dra lat his f1 f2 0 0 (-1) gx)), (pla, .inr (5, pC 0 0 0 gpl)), (mo, .inr (11, mC 0 0 0 (-1) 0 0 0 0 0 0 as ak ab ar gm))]) [0, 4, 10] rfl
  have hD := hD.sub (ws' := [(xo, .inr (10, xC inp par pla dra lat his f1 f2 0 0 (-1) gx)), (pla, .inr (5, pC 0 0 0 gpl)), (mo, .inr (11, mC 0 0 0 (-1) 0 0 0 0 0 0 as ak ab ar gm))]) [0, 4, 10] (by decide) rfl
  refine lv_aload_n hx hb dL_law_1305 rfl (lv_at hl 3 rfl) ?_
  refine lv_aload_n hx hb dL_law_1306 rfl (lv_at hl 4 rfl) ?_
  refine lv_iload hx hb dL_law_1307 (lv_at hl 0 rfl) ?_
  refine lv_iconst (v := 1) hx hb dL_law_1309 (by decide) ?_
  refine lv_iadd hx hb dL_law_1310 ?_
  refine W.eq (g2 := F0 m 1311 ls [.int 1, .ref b, .ref xo]) rfl ?_
  refine va_sld hx hb hX hbl hbA hS (by unfold vp_in; decide) dL_law_1311 ?_
  refine W.eq (g2 := F0 m 1312 ls [.int (xs 1), .ref xo]) rfl ?_
  refine lv_aload_n hx hb dL_law_1312 rfl (lv_at hl 4 rfl) ?_
  refine lv_iload hx hb dL_law_1313 (lv_at hl 0 rfl) ?_
  refine lv_iconst (v := 2) hx hb dL_law_1315 (by decide) ?_
  refine lv_iadd hx hb dL_law_1316 ?_
  refine W.eq (g2 := F0 m 1317 ls [.int 2, .ref b, .int (xs 1), .ref xo]) rfl ?_
  refine va_sld hx hb hX hbl hbA hS (by unfold vp_in; decide) dL_law_1317 ?_
  refine W.eq (g2 := F0 m 1318 ls [.int (xs 2), .int (xs 1), .ref xo]) rfl ?_
  refine lv_aload_n hx hb dL_law_1318 rfl (lv_at hl 1 rfl) ?_
  refine call_i (wr := [(mo, .inr (11, mC 0 0 0 (-1) 0 0 0 0 0 0 as ak ab ar gm))]) C (run_SW (As := [.ref xo, .int (xs 1), .int (xs 2), .ref o]) (rest := []) C (h_triangleVertex l hlt D cI cZ cJ xo inp par pla dra lat his f1 f2 0 0 (-1) gx gpl (xs 1) (xs 2) o ) cS_L_257 hP hD hS [0, 1] rfl rfl rfl hl.1 rfl (Nat.le_of_ble_eq_true rfl) dL_law_1319 ⟨Nat.le_of_ble_eq_true rfl, Nat.le_of_ble_eq_true rfl⟩ ⟨Nat.le_of_ble_eq_true rfl, Nat.le_of_ble_eq_true rfl⟩) hP hD hS [0, 1] [2] rfl rfl rfl (by decide) (fun u1 H locs hP hD hS => ?_)
  have hP : va_P D CL [(mo, .inr (11, mC 0 0 0 (-1) 0 0 0 0 0 0 as ak ab ar gm)), (xo, .inr (10, xC inp par pla dra lat his f1 f2 0 0 (-1) gx)), (pla, .inr (5, pC 0 0 0 gpl))] H := hP
  have hD : va_D A [(mo, .inr (11, mC 0 0 0 (-1) 0 0 0 0 0 0 as ak ab ar gm)), (xo, .inr (10, xC inp par pla dra lat his f1 f2 0 0 (-1) gx)), (pla, .inr (5, pC 0 0 0 gpl))] := hD
  refine W.widen (k := 2001) (n := 60006) (Nat.le_of_ble_eq_true rfl) (Nat.le_of_ble_eq_true rfl) ?_
  refine W.eq (g2 := F0 m 1322 ls [.int 1]) rfl ?_
  refine lv_istore (lv' := [(5, .int 1), (4, .int 0), (3, .ref o), (2, .ref mo), (1, .ref xo), (0, .ref b)]) hx hb dL_law_1322 hl (by decide) rfl (fun ls hl => ?_)
  refine lv_aload_n hx hb dL_law_1324 rfl (lv_at hl 3 rfl) ?_
  refine lv_aload_n hx hb dL_law_1325 rfl (lv_at hl 5 rfl) ?_
  refine lv_iload hx hb dL_law_1326 (lv_at hl 1 rfl) ?_
  refine lv_iconst (v := 1) hx hb dL_law_1328 (by decide) ?_
  refine lv_iadd hx hb dL_law_1329 ?_
  refine W.eq (g2 := F0 m 1330 ls [.int 1, .ref b, .ref mo]) rfl ?_
  refine va_sld hx hb hX hbl hbA hS (by unfold vp_in; decide) dL_law_1330 ?_
  refine W.eq (g2 := F0 m 1331 ls [.int (xs 1), .ref mo]) rfl ?_
  refine lv_aload_n hx hb dL_law_1331 rfl (lv_at hl 5 rfl) ?_
  refine lv_iload hx hb dL_law_1332 (lv_at hl 1 rfl) ?_
  refine lv_iconst (v := 2) hx hb dL_law_1334 (by decide) ?_
  refine lv_iadd hx hb dL_law_1335 ?_
  refine W.eq (g2 := F0 m 1336 ls [.int 2, .ref b, .int (xs 1), .ref mo]) rfl ?_
  refine va_sld hx hb hX hbl hbA hS (by unfold vp_in; decide) dL_law_1336 ?_
  refine W.eq (g2 := F0 m 1337 ls [.int (xs 2), .int (xs 1), .ref mo]) rfl ?_
  refine call_i (wr := [(xo, .inr (10, xC inp par pla dra lat his f1 f2 0 0 (-1) gx)), (pla, .inr (5, pC 0 0 0 gpl))]) C (run_V (As := [.int (xs 1), .int (xs 2)]) (rest := []) C (m_triangleVertex l D cI cZ cJ mo 0 0 (-1) 0 0 0 0 0 0 as ak ab ar gm 0 (xs 1) (xs 2) ) cV_L_259 hP hD hS [0] rfl rfl 0 rfl rfl rfl rfl hl.1 rfl (Nat.le_of_ble_eq_true rfl) dL_law_1337 ⟨Nat.le_of_ble_eq_true rfl, Nat.le_of_ble_eq_true rfl⟩ ⟨Nat.le_of_ble_eq_true rfl, Nat.le_of_ble_eq_true rfl⟩) hP hD hS [0] [1, 2] rfl rfl rfl (by decide) (fun u2 H locs hP hD hS => ?_)
  have hP : va_P D CL [(xo, .inr (10, xC inp par pla dra lat his f1 f2 0 0 (-1) gx)), (pla, .inr (5, pC 0 0 0 gpl)), (mo, .inr (11, mC 1 0 0 (-1) 0 0 0 0 0 0 as ak ab ar gm))] H := hP
  have hD : va_D A [(xo, .inr (10, xC inp par pla dra lat his f1 f2 0 0 (-1) gx)), (pla, .inr (5, pC 0 0 0 gpl)), (mo, .inr (11, mC 1 0 0 (-1) 0 0 0 0 0 0 as ak ab ar gm))] := hD
  refine W.widen (k := 2001) (n := 60006) (Nat.le_of_ble_eq_true rfl) (Nat.le_of_ble_eq_true rfl) ?_
  refine W.eq (g2 := F0 m 1340 ls [.int 0]) rfl ?_
  refine lv_istore (lv' := [(6, .int 0), (5, .int 1), (4, .int 0), (3, .ref o), (2, .ref mo), (1, .ref xo), (0, .ref b)]) hx hb dL_law_1340 hl (by decide) rfl (fun ls hl => ?_)
  refine lv_aload_n hx hb dL_law_1342 rfl (lv_at hl 4 rfl) ?_
  refine call_i (wr := [(xo, .inr (10, xC inp par pla dra lat his f1 f2 0 0 (-1) gx)), (pla, .inr (5, pC 0 0 0 gpl))]) C (run_V (As := []) (rest := []) C (m_thrown l D cI cZ cJ mo 0 0 (-1) 0 0 0 0 0 0 as ak ab ar gm 1 ) cV_L_187 hP hD hS [2] rfl rfl 0 rfl rfl rfl rfl hl.1 rfl (Nat.le_of_ble_eq_true rfl) dL_law_1343 ⟨Nat.le_of_ble_eq_true rfl, Nat.le_of_ble_eq_true rfl⟩ ⟨Nat.le_of_ble_eq_true rfl, Nat.le_of_ble_eq_true rfl⟩) hP hD hS [2] [0, 1] rfl rfl rfl (by decide) (fun u3 H locs hP hD hS => ?_)
  have hP : va_P D CL [(xo, .inr (10, xC inp par pla dra lat his f1 f2 0 0 (-1) gx)), (pla, .inr (5, pC 0 0 0 gpl)), (mo, .inr (11, mC 1 0 0 (-1) 0 0 0 0 0 0 as ak ab ar gm))] H := hP
  have hD : va_D A [(xo, .inr (10, xC inp par pla dra lat his f1 f2 0 0 (-1) gx)), (pla, .inr (5, pC 0 0 0 gpl)), (mo, .inr (11, mC 1 0 0 (-1) 0 0 0 0 0 0 as ak ab ar gm))] := hD
  refine W.widen (k := 2001) (n := 60006) (Nat.le_of_ble_eq_true rfl) (Nat.le_of_ble_eq_true rfl) ?_
  refine W.eq (g2 := F0 m 1346 ls [.int 1]) rfl ?_
  refine lv_iload hx hb dL_law_1346 (lv_at hl 1 rfl) ?_
  refine lv_icmp_eq (tgt := 1353) hx hb dL_law_1348 (by decide) (fun _ => ?_) (fun h => absurd (by decide) h)
  refine lv_iload hx hb dL_law_1353 (lv_at hl 1 rfl) ?_
  refine lv_if_ne (tgt := 1370) hx hb dL_law_1355 (by decide) (fun _ => ?_) (fun h => absurd h (by decide))
  refine lv_goto (tgt := 3186) hx hb dL_law_1370 (by decide) ?_
  exact law_exit K hS (lv_sub hl [6, 2] rfl) (Nat.le_of_ble_eq_true rfl) (Nat.le_of_ble_eq_true rfl)
set_option maxHeartbeats 4000000 in
set_option maxRecDepth 100000 in
theorem law_23 {p : Program} {l : Launch} {e : Env} {s : State} {m : MethodId} {below : List Frame} {meth : Method} {c : Code} {b : Nat} {xs : Nat → Int32} {D : va_G} {cI cZ cJ : ClassId} {A : Nat → Prop} (K : LCx p l s m meth c b 6 xs D cI cZ cJ A) {xo inp byt par pla dra lat his f1 f2 mo as ak ab ar o : Nat} {gx gpl gdr gla gf1 gf2 gpa ghi gm : Nat → Value}  {H : Heap} {locs : List Loc} {ls : Array Slot} (hP : va_P D CL (LW cI cZ xo inp byt par pla dra lat his f1 f2 mo as ak ab ar gx gpl gdr gla gf1 gf2 gpa ghi gm) H) (hD : va_D A (LW cI cZ xo inp byt par pla dra lat his f1 f2 mo as ak ab ar gx gpl gdr gla gf1 gf2 gpa ghi gm)) (hS : va_S A s.heap H locs) (hl : lv_has ls 8 [(4, .int 0), (3, .ref o), (2, .ref mo), (1, .ref xo), (0, .ref b)]) : W p l e room_1 s m #[Value.ref b] below meth c H locs 2000 60000 (lw_Z below #[Value.ref b] s) (F0 m 1373 ls []) := by
  obtain ⟨C, hX, hbl, hlt, hAA⟩ := id K
  have hx := C.1
  have hb := C.2.1
  have hbA : ¬ A b := fun h => absurd (hAA b h) (Nat.not_le.mpr hbl)
  have hP : va_P D CL [(xo, .inr (10, xC inp par pla dra lat his f1 f2 0 0 (-1) gx)), (inp, .inr (2, [.int 0, .int 0, .int 0, .int 0, .int 0, .int 0, .ref byt])), (byt, .inl (cI, 600, .inl (fun _ => 0))), (par, .inr (4, [.ref inp, .ref dra, gpa 2, .int 0, .int 0])), (pla, .inr (5, pC 0 0 0 gpl)), (dra, .inr (5, pC 0 0 0 gdr)), (lat, .inr (3, [.int 0, .long 0, gla 2, gla 3, gla 4])), (his, .inr (1, [.int 0, .int 0, ghi 2])), (f1, .inr (5, pC 0 0 0 gf1)), (f2, .inr (5, pC 0 0 0 gf2)), (mo, .inr (11, mC 0 0 0 (-1) 0 0 0 0 0 0 as ak ab ar gm)), (as, .inl (cI, 63, .inl (fun _ => 0))), (ak, .inl (cZ, 2, .inl (fun _ => 0))), (ab, .inl (cI, 600, .inl (fun _ => 0))), (ar, .inl (cI, 63, .inl (fun _ => 0)))] H := hP
  have hD : va_D A [(xo, .inr (10, xC inp par pla dra lat his f1 f2 0 0 (-1) gx)), (inp, .inr (2, [.int 0, .int 0, .int 0, .int 0, .int 0, .int 0, .ref byt])), (byt, .inl (cI, 600, .inl (fun _ => 0))), (par, .inr (4, [.ref inp, .ref dra, gpa 2, .int 0, .int 0])), (pla, .inr (5, pC 0 0 0 gpl)), (dra, .inr (5, pC 0 0 0 gdr)), (lat, .inr (3, [.int 0, .long 0, gla 2, gla 3, gla 4])), (his, .inr (1, [.int 0, .int 0, ghi 2])), (f1, .inr (5, pC 0 0 0 gf1)), (f2, .inr (5, pC 0 0 0 gf2)), (mo, .inr (11, mC 0 0 0 (-1) 0 0 0 0 0 0 as ak ab ar gm)), (as, .inl (cI, 63, .inl (fun _ => 0))), (ak, .inl (cZ, 2, .inl (fun _ => 0))), (ab, .inl (cI, 600, .inl (fun _ => 0))), (ar, .inl (cI, 63, .inl (fun _ => 0)))] := hD
  have hP := hP.sub (ws' := [(xo, .inr (10, xC inp par pla dra lat his f1 f2 0 0 (-1) gx)), (pla, .inr (5, pC 0 0 0 gpl)), (mo, .inr (11, mC 0 0 0 (-1) 0 0 0 0 0 0 as ak ab ar gm))]) [0, 4, 10] rfl
  have hD := hD.sub (ws' := [(xo, .inr (10, xC inp par pla dra lat his f1 f2 0 0 (-1) gx)), (pla, .inr (5, pC 0 0 0 gpl)), (mo, .inr (11, mC 0 0 0 (-1) 0 0 0 0 0 0 as ak ab ar gm))]) [0, 4, 10] (by decide) rfl
  refine lv_aload_n hx hb dL_law_1373 rfl (lv_at hl 3 rfl) ?_
  refine lv_aload_n hx hb dL_law_1374 rfl (lv_at hl 4 rfl) ?_
  refine lv_iload hx hb dL_law_1375 (lv_at hl 0 rfl) ?_
  refine lv_iconst (v := 1) hx hb dL_law_1377 (by decide) ?_
  refine lv_iadd hx hb dL_law_1378 ?_
  refine W.eq (g2 := F0 m 1379 ls [.int 1, .ref b, .ref xo]) rfl ?_
  refine va_sld hx hb hX hbl hbA hS (by unfold vp_in; decide) dL_law_1379 ?_
  refine W.eq (g2 := F0 m 1380 ls [.int (xs 1), .ref xo]) rfl ?_
  refine lv_aload_n hx hb dL_law_1380 rfl (lv_at hl 1 rfl) ?_
  refine call_i (wr := [(mo, .inr (11, mC 0 0 0 (-1) 0 0 0 0 0 0 as ak ab ar gm))]) C (run_SW (As := [.ref xo, .int (xs 1), .ref o]) (rest := []) C (h_triangleArea l hlt D cI cZ cJ xo inp par pla dra lat his f1 f2 0 0 (-1) gx gpl (xs 1) o ) cS_L_260 hP hD hS [0, 1] rfl rfl rfl hl.1 rfl (Nat.le_of_ble_eq_true rfl) dL_law_1381 ⟨Nat.le_of_ble_eq_true rfl, Nat.le_of_ble_eq_true rfl⟩ ⟨Nat.le_of_ble_eq_true rfl, Nat.le_of_ble_eq_true rfl⟩) hP hD hS [0, 1] [2] rfl rfl rfl (by decide) (fun u1 H locs hP hD hS => ?_)
  have hP : va_P D CL [(mo, .inr (11, mC 0 0 0 (-1) 0 0 0 0 0 0 as ak ab ar gm)), (xo, .inr (10, xC inp par pla dra lat his f1 f2 0 0 (-1) gx)), (pla, .inr (5, pC 0 0 0 gpl))] H := hP
  have hD : va_D A [(mo, .inr (11, mC 0 0 0 (-1) 0 0 0 0 0 0 as ak ab ar gm)), (xo, .inr (10, xC inp par pla dra lat his f1 f2 0 0 (-1) gx)), (pla, .inr (5, pC 0 0 0 gpl))] := hD
  refine W.widen (k := 2001) (n := 60006) (Nat.le_of_ble_eq_true rfl) (Nat.le_of_ble_eq_true rfl) ?_
  refine W.eq (g2 := F0 m 1384 ls [.int 1]) rfl ?_
  refine lv_istore (lv' := [(5, .int 1), (4, .int 0), (3, .ref o), (2, .ref mo), (1, .ref xo), (0, .ref b)]) hx hb dL_law_1384 hl (by decide) rfl (fun ls hl => ?_)
  refine lv_aload_n hx hb dL_law_1386 rfl (lv_at hl 3 rfl) ?_
  refine lv_aload_n hx hb dL_law_1387 rfl (lv_at hl 5 rfl) ?_
  refine lv_iload hx hb dL_law_1388 (lv_at hl 1 rfl) ?_
  refine lv_iconst (v := 1) hx hb dL_law_1390 (by decide) ?_
  refine lv_iadd hx hb dL_law_1391 ?_
  refine W.eq (g2 := F0 m 1392 ls [.int 1, .ref b, .ref mo]) rfl ?_
  refine va_sld hx hb hX hbl hbA hS (by unfold vp_in; decide) dL_law_1392 ?_
  refine W.eq (g2 := F0 m 1393 ls [.int (xs 1), .ref mo]) rfl ?_
  refine call_i (wr := [(xo, .inr (10, xC inp par pla dra lat his f1 f2 0 0 (-1) gx)), (pla, .inr (5, pC 0 0 0 gpl))]) C (run_V (As := [.int (xs 1)]) (rest := []) C (m_triangleArea l D cI cZ cJ mo 0 0 (-1) 0 0 0 0 0 0 as ak ab ar gm 0 (xs 1) ) cV_L_262 hP hD hS [0] rfl rfl 0 rfl rfl rfl rfl hl.1 rfl (Nat.le_of_ble_eq_true rfl) dL_law_1393 ⟨Nat.le_of_ble_eq_true rfl, Nat.le_of_ble_eq_true rfl⟩ ⟨Nat.le_of_ble_eq_true rfl, Nat.le_of_ble_eq_true rfl⟩) hP hD hS [0] [1, 2] rfl rfl rfl (by decide) (fun u2 H locs hP hD hS => ?_)
  have hP : va_P D CL [(xo, .inr (10, xC inp par pla dra lat his f1 f2 0 0 (-1) gx)), (pla, .inr (5, pC 0 0 0 gpl)), (mo, .inr (11, mC 1 0 0 (-1) 0 0 0 0 0 0 as ak ab ar gm))] H := hP
  have hD : va_D A [(xo, .inr (10, xC inp par pla dra lat his f1 f2 0 0 (-1) gx)), (pla, .inr (5, pC 0 0 0 gpl)), (mo, .inr (11, mC 1 0 0 (-1) 0 0 0 0 0 0 as ak ab ar gm))] := hD
  refine W.widen (k := 2001) (n := 60006) (Nat.le_of_ble_eq_true rfl) (Nat.le_of_ble_eq_true rfl) ?_
  refine W.eq (g2 := F0 m 1396 ls [.int 0]) rfl ?_
  refine lv_istore (lv' := [(6, .int 0), (5, .int 1), (4, .int 0), (3, .ref o), (2, .ref mo), (1, .ref xo), (0, .ref b)]) hx hb dL_law_1396 hl (by decide) rfl (fun ls hl => ?_)
  refine lv_aload_n hx hb dL_law_1398 rfl (lv_at hl 4 rfl) ?_
  refine call_i (wr := [(xo, .inr (10, xC inp par pla dra lat his f1 f2 0 0 (-1) gx)), (pla, .inr (5, pC 0 0 0 gpl))]) C (run_V (As := []) (rest := []) C (m_thrown l D cI cZ cJ mo 0 0 (-1) 0 0 0 0 0 0 as ak ab ar gm 1 ) cV_L_187 hP hD hS [2] rfl rfl 0 rfl rfl rfl rfl hl.1 rfl (Nat.le_of_ble_eq_true rfl) dL_law_1399 ⟨Nat.le_of_ble_eq_true rfl, Nat.le_of_ble_eq_true rfl⟩ ⟨Nat.le_of_ble_eq_true rfl, Nat.le_of_ble_eq_true rfl⟩) hP hD hS [2] [0, 1] rfl rfl rfl (by decide) (fun u3 H locs hP hD hS => ?_)
  have hP : va_P D CL [(xo, .inr (10, xC inp par pla dra lat his f1 f2 0 0 (-1) gx)), (pla, .inr (5, pC 0 0 0 gpl)), (mo, .inr (11, mC 1 0 0 (-1) 0 0 0 0 0 0 as ak ab ar gm))] H := hP
  have hD : va_D A [(xo, .inr (10, xC inp par pla dra lat his f1 f2 0 0 (-1) gx)), (pla, .inr (5, pC 0 0 0 gpl)), (mo, .inr (11, mC 1 0 0 (-1) 0 0 0 0 0 0 as ak ab ar gm))] := hD
  refine W.widen (k := 2001) (n := 60006) (Nat.le_of_ble_eq_true rfl) (Nat.le_of_ble_eq_true rfl) ?_
  refine W.eq (g2 := F0 m 1402 ls [.int 1]) rfl ?_
  refine lv_iload hx hb dL_law_1402 (lv_at hl 1 rfl) ?_
  refine lv_icmp_eq (tgt := 1409) hx hb dL_law_1404 (by decide) (fun _ => ?_) (fun h => absurd (by decide) h)
  refine lv_iload hx hb dL_law_1409 (lv_at hl 1 rfl) ?_
  refine lv_if_ne (tgt := 1426) hx hb dL_law_1411 (by decide) (fun _ => ?_) (fun h => absurd h (by decide))
  refine lv_goto (tgt := 3186) hx hb dL_law_1426 (by decide) ?_
  exact law_exit K hS (lv_sub hl [6, 2] rfl) (Nat.le_of_ble_eq_true rfl) (Nat.le_of_ble_eq_true rfl)
set_option maxHeartbeats 4000000 in
set_option maxRecDepth 100000 in
theorem law_24 {p : Program} {l : Launch} {e : Env} {s : State} {m : MethodId} {below : List Frame} {meth : Method} {c : Code} {b : Nat} {xs : Nat → Int32} {D : va_G} {cI cZ cJ : ClassId} {A : Nat → Prop} (K : LCx p l s m meth c b 6 xs D cI cZ cJ A) {xo inp byt par pla dra lat his f1 f2 mo as ak ab ar o : Nat} {gx gpl gdr gla gf1 gf2 gpa ghi gm : Nat → Value}  {H : Heap} {locs : List Loc} {ls : Array Slot} (hP : va_P D CL (LW cI cZ xo inp byt par pla dra lat his f1 f2 mo as ak ab ar gx gpl gdr gla gf1 gf2 gpa ghi gm) H) (hD : va_D A (LW cI cZ xo inp byt par pla dra lat his f1 f2 mo as ak ab ar gx gpl gdr gla gf1 gf2 gpa ghi gm)) (hS : va_S A s.heap H locs) (hl : lv_has ls 8 [(4, .int 0), (3, .ref o), (2, .ref mo), (1, .ref xo), (0, .ref b)]) : W p l e room_1 s m #[Value.ref b] below meth c H locs 2000 60000 (lw_Z below #[Value.ref b] s) (F0 m 1429 ls []) := by
  obtain ⟨C, hX, hbl, hlt, hAA⟩ := id K
  have hx := C.1
  have hb := C.2.1
  have hbA : ¬ A b := fun h => absurd (hAA b h) (Nat.not_le.mpr hbl)
  have hP : va_P D CL [(xo, .inr (10, xC inp par pla dra lat his f1 f2 0 0 (-1) gx)), (inp, .inr (2, [.int 0, .int 0, .int 0, .int 0, .int 0, .int 0, .ref byt])), (byt, .inl (cI, 600, .inl (fun _ => 0))), (par, .inr (4, [.ref inp, .ref dra, gpa 2, .int 0, .int 0])), (pla, .inr (5, pC 0 0 0 gpl)), (dra, .inr (5, pC 0 0 0 gdr)), (lat, .inr (3, [.int 0, .long 0, gla 2, gla 3, gla 4])), (his, .inr (1, [.int 0, .int 0, ghi 2])), (f1, .inr (5, pC 0 0 0 gf1)), (f2, .inr (5, pC 0 0 0 gf2)), (mo, .inr (11, mC 0 0 0 (-1) 0 0 0 0 0 0 as ak ab ar gm)), (as, .inl (cI, 63, .inl (fun _ => 0))), (ak, .inl (cZ, 2, .inl (fun _ => 0))), (ab, .inl (cI, 600, .inl (fun _ => 0))), (ar, .inl (cI, 63, .inl (fun _ => 0)))] H := hP
  have hD : va_D A [(xo, .inr (10, xC inp par pla dra lat his f1 f2 0 0 (-1) gx)), (inp, .inr (2, [.int 0, .int 0, .int 0, .int 0, .int 0, .int 0, .ref byt])), (byt, .inl (cI, 600, .inl (fun _ => 0))), (par, .inr (4, [.ref inp, .ref dra, gpa 2, .int 0, .int 0])), (pla, .inr (5, pC 0 0 0 gpl)), (dra, .inr (5, pC 0 0 0 gdr)), (lat, .inr (3, [.int 0, .long 0, gla 2, gla 3, gla 4])), (his, .inr (1, [.int 0, .int 0, ghi 2])), (f1, .inr (5, pC 0 0 0 gf1)), (f2, .inr (5, pC 0 0 0 gf2)), (mo, .inr (11, mC 0 0 0 (-1) 0 0 0 0 0 0 as ak ab ar gm)), (as, .inl (cI, 63, .inl (fun _ => 0))), (ak, .inl (cZ, 2, .inl (fun _ => 0))), (ab, .inl (cI, 600, .inl (fun _ => 0))), (ar, .inl (cI, 63, .inl (fun _ => 0)))] := hD
  have hP := hP.sub (ws' := [(xo, .inr (10, xC inp par pla dra lat his f1 f2 0 0 (-1) gx)), (pla, .inr (5, pC 0 0 0 gpl)), (mo, .inr (11, mC 0 0 0 (-1) 0 0 0 0 0 0 as ak ab ar gm))]) [0, 4, 10] rfl
  have hD := hD.sub (ws' := [(xo, .inr (10, xC inp par pla dra lat his f1 f2 0 0 (-1) gx)), (pla, .inr (5, pC 0 0 0 gpl)), (mo, .inr (11, mC 0 0 0 (-1) 0 0 0 0 0 0 as ak ab ar gm))]) [0, 4, 10] (by decide) rfl
  refine lv_aload_n hx hb dL_law_1429 rfl (lv_at hl 3 rfl) ?_
  refine lv_aload_n hx hb dL_law_1430 rfl (lv_at hl 4 rfl) ?_
  refine lv_iload hx hb dL_law_1431 (lv_at hl 0 rfl) ?_
  refine lv_iconst (v := 1) hx hb dL_law_1433 (by decide) ?_
  refine lv_iadd hx hb dL_law_1434 ?_
  refine W.eq (g2 := F0 m 1435 ls [.int 1, .ref b, .ref xo]) rfl ?_
  refine va_sld hx hb hX hbl hbA hS (by unfold vp_in; decide) dL_law_1435 ?_
  refine W.eq (g2 := F0 m 1436 ls [.int (xs 1), .ref xo]) rfl ?_
  refine lv_aload_n hx hb dL_law_1436 rfl (lv_at hl 1 rfl) ?_
  refine call_i (wr := [(mo, .inr (11, mC 0 0 0 (-1) 0 0 0 0 0 0 as ak ab ar gm))]) C (run_SW (As := [.ref xo, .int (xs 1), .ref o]) (rest := []) C (h_colour l hlt D cI cZ cJ xo inp par pla dra lat his f1 f2 0 0 (-1) gx gpl (xs 1) o ) cS_L_263 hP hD hS [0, 1] rfl rfl rfl hl.1 rfl (Nat.le_of_ble_eq_true rfl) dL_law_1437 ⟨Nat.le_of_ble_eq_true rfl, Nat.le_of_ble_eq_true rfl⟩ ⟨Nat.le_of_ble_eq_true rfl, Nat.le_of_ble_eq_true rfl⟩) hP hD hS [0, 1] [2] rfl rfl rfl (by decide) (fun u1 H locs hP hD hS => ?_)
  have hP : va_P D CL [(mo, .inr (11, mC 0 0 0 (-1) 0 0 0 0 0 0 as ak ab ar gm)), (xo, .inr (10, xC inp par pla dra lat his f1 f2 0 0 (-1) gx)), (pla, .inr (5, pC 0 0 0 gpl))] H := hP
  have hD : va_D A [(mo, .inr (11, mC 0 0 0 (-1) 0 0 0 0 0 0 as ak ab ar gm)), (xo, .inr (10, xC inp par pla dra lat his f1 f2 0 0 (-1) gx)), (pla, .inr (5, pC 0 0 0 gpl))] := hD
  refine W.widen (k := 2001) (n := 60006) (Nat.le_of_ble_eq_true rfl) (Nat.le_of_ble_eq_true rfl) ?_
  refine W.eq (g2 := F0 m 1440 ls [.int 1]) rfl ?_
  refine lv_istore (lv' := [(5, .int 1), (4, .int 0), (3, .ref o), (2, .ref mo), (1, .ref xo), (0, .ref b)]) hx hb dL_law_1440 hl (by decide) rfl (fun ls hl => ?_)
  refine lv_aload_n hx hb dL_law_1442 rfl (lv_at hl 3 rfl) ?_
  refine lv_aload_n hx hb dL_law_1443 rfl (lv_at hl 5 rfl) ?_
  refine lv_iload hx hb dL_law_1444 (lv_at hl 1 rfl) ?_
  refine lv_iconst (v := 1) hx hb dL_law_1446 (by decide) ?_
  refine lv_iadd hx hb dL_law_1447 ?_
  refine W.eq (g2 := F0 m 1448 ls [.int 1, .ref b, .ref mo]) rfl ?_
  refine va_sld hx hb hX hbl hbA hS (by unfold vp_in; decide) dL_law_1448 ?_
  refine W.eq (g2 := F0 m 1449 ls [.int (xs 1), .ref mo]) rfl ?_
  refine call_i (wr := [(xo, .inr (10, xC inp par pla dra lat his f1 f2 0 0 (-1) gx)), (pla, .inr (5, pC 0 0 0 gpl))]) C (run_V (As := [.int (xs 1)]) (rest := []) C (m_colour l D cI cZ cJ mo 0 0 (-1) 0 0 0 0 0 0 as ak ab ar gm 0 (xs 1) ) cV_L_265 hP hD hS [0] rfl rfl 0 rfl rfl rfl rfl hl.1 rfl (Nat.le_of_ble_eq_true rfl) dL_law_1449 ⟨Nat.le_of_ble_eq_true rfl, Nat.le_of_ble_eq_true rfl⟩ ⟨Nat.le_of_ble_eq_true rfl, Nat.le_of_ble_eq_true rfl⟩) hP hD hS [0] [1, 2] rfl rfl rfl (by decide) (fun u2 H locs hP hD hS => ?_)
  have hP : va_P D CL [(xo, .inr (10, xC inp par pla dra lat his f1 f2 0 0 (-1) gx)), (pla, .inr (5, pC 0 0 0 gpl)), (mo, .inr (11, mC 1 0 0 (-1) 0 0 0 0 0 0 as ak ab ar gm))] H := hP
  have hD : va_D A [(xo, .inr (10, xC inp par pla dra lat his f1 f2 0 0 (-1) gx)), (pla, .inr (5, pC 0 0 0 gpl)), (mo, .inr (11, mC 1 0 0 (-1) 0 0 0 0 0 0 as ak ab ar gm))] := hD
  refine W.widen (k := 2001) (n := 60006) (Nat.le_of_ble_eq_true rfl) (Nat.le_of_ble_eq_true rfl) ?_
  refine W.eq (g2 := F0 m 1452 ls [.int 0]) rfl ?_
  refine lv_istore (lv' := [(6, .int 0), (5, .int 1), (4, .int 0), (3, .ref o), (2, .ref mo), (1, .ref xo), (0, .ref b)]) hx hb dL_law_1452 hl (by decide) rfl (fun ls hl => ?_)
  refine lv_aload_n hx hb dL_law_1454 rfl (lv_at hl 4 rfl) ?_
  refine call_i (wr := [(xo, .inr (10, xC inp par pla dra lat his f1 f2 0 0 (-1) gx)), (pla, .inr (5, pC 0 0 0 gpl))]) C (run_V (As := []) (rest := []) C (m_thrown l D cI cZ cJ mo 0 0 (-1) 0 0 0 0 0 0 as ak ab ar gm 1 ) cV_L_187 hP hD hS [2] rfl rfl 0 rfl rfl rfl rfl hl.1 rfl (Nat.le_of_ble_eq_true rfl) dL_law_1455 ⟨Nat.le_of_ble_eq_true rfl, Nat.le_of_ble_eq_true rfl⟩ ⟨Nat.le_of_ble_eq_true rfl, Nat.le_of_ble_eq_true rfl⟩) hP hD hS [2] [0, 1] rfl rfl rfl (by decide) (fun u3 H locs hP hD hS => ?_)
  have hP : va_P D CL [(xo, .inr (10, xC inp par pla dra lat his f1 f2 0 0 (-1) gx)), (pla, .inr (5, pC 0 0 0 gpl)), (mo, .inr (11, mC 1 0 0 (-1) 0 0 0 0 0 0 as ak ab ar gm))] H := hP
  have hD : va_D A [(xo, .inr (10, xC inp par pla dra lat his f1 f2 0 0 (-1) gx)), (pla, .inr (5, pC 0 0 0 gpl)), (mo, .inr (11, mC 1 0 0 (-1) 0 0 0 0 0 0 as ak ab ar gm))] := hD
  refine W.widen (k := 2001) (n := 60006) (Nat.le_of_ble_eq_true rfl) (Nat.le_of_ble_eq_true rfl) ?_
  refine W.eq (g2 := F0 m 1458 ls [.int 1]) rfl ?_
  refine lv_iload hx hb dL_law_1458 (lv_at hl 1 rfl) ?_
  refine lv_icmp_eq (tgt := 1465) hx hb dL_law_1460 (by decide) (fun _ => ?_) (fun h => absurd (by decide) h)
  refine lv_iload hx hb dL_law_1465 (lv_at hl 1 rfl) ?_
  refine lv_if_ne (tgt := 1482) hx hb dL_law_1467 (by decide) (fun _ => ?_) (fun h => absurd h (by decide))
  refine lv_goto (tgt := 3186) hx hb dL_law_1482 (by decide) ?_
  exact law_exit K hS (lv_sub hl [6, 2] rfl) (Nat.le_of_ble_eq_true rfl) (Nat.le_of_ble_eq_true rfl)
set_option maxHeartbeats 4000000 in
set_option maxRecDepth 100000 in
theorem law_25 {p : Program} {l : Launch} {e : Env} {s : State} {m : MethodId} {below : List Frame} {meth : Method} {c : Code} {b : Nat} {xs : Nat → Int32} {D : va_G} {cI cZ cJ : ClassId} {A : Nat → Prop} (K : LCx p l s m meth c b 6 xs D cI cZ cJ A) {xo inp byt par pla dra lat his f1 f2 mo as ak ab ar o : Nat} {gx gpl gdr gla gf1 gf2 gpa ghi gm : Nat → Value}  {H : Heap} {locs : List Loc} {ls : Array Slot} (hP : va_P D CL (LW cI cZ xo inp byt par pla dra lat his f1 f2 mo as ak ab ar gx gpl gdr gla gf1 gf2 gpa ghi gm) H) (hD : va_D A (LW cI cZ xo inp byt par pla dra lat his f1 f2 mo as ak ab ar gx gpl gdr gla gf1 gf2 gpa ghi gm)) (hS : va_S A s.heap H locs) (hl : lv_has ls 8 [(4, .int 0), (3, .ref o), (2, .ref mo), (1, .ref xo), (0, .ref b)]) : W p l e room_1 s m #[Value.ref b] below meth c H locs 2000 60000 (lw_Z below #[Value.ref b] s) (F0 m 1485 ls []) := by
  obtain ⟨C, hX, hbl, hlt, hAA⟩ := id K
  have hx := C.1
  have hb := C.2.1
  have hbA : ¬ A b := fun h => absurd (hAA b h) (Nat.not_le.mpr hbl)
  have hP : va_P D CL [(xo, .inr (10, xC inp par pla dra lat his f1 f2 0 0 (-1) gx)), (inp, .inr (2, [.int 0, .int 0, .int 0, .int 0, .int 0, .int 0, .ref byt])), (byt, .inl (cI, 600, .inl (fun _ => 0))), (par, .inr (4, [.ref inp, .ref dra, gpa 2, .int 0, .int 0])), (pla, .inr (5, pC 0 0 0 gpl)), (dra, .inr (5, pC 0 0 0 gdr)), (lat, .inr (3, [.int 0, .long 0, gla 2, gla 3, gla 4])), (his, .inr (1, [.int 0, .int 0, ghi 2])), (f1, .inr (5, pC 0 0 0 gf1)), (f2, .inr (5, pC 0 0 0 gf2)), (mo, .inr (11, mC 0 0 0 (-1) 0 0 0 0 0 0 as ak ab ar gm)), (as, .inl (cI, 63, .inl (fun _ => 0))), (ak, .inl (cZ, 2, .inl (fun _ => 0))), (ab, .inl (cI, 600, .inl (fun _ => 0))), (ar, .inl (cI, 63, .inl (fun _ => 0)))] H := hP
  have hD : va_D A [(xo, .inr (10, xC inp par pla dra lat his f1 f2 0 0 (-1) gx)), (inp, .inr (2, [.int 0, .int 0, .int 0, .int 0, .int 0, .int 0, .ref byt])), (byt, .inl (cI, 600, .inl (fun _ => 0))), (par, .inr (4, [.ref inp, .ref dra, gpa 2, .int 0, .int 0])), (pla, .inr (5, pC 0 0 0 gpl)), (dra, .inr (5, pC 0 0 0 gdr)), (lat, .inr (3, [.int 0, .long 0, gla 2, gla 3, gla 4])), (his, .inr (1, [.int 0, .int 0, ghi 2])), (f1, .inr (5, pC 0 0 0 gf1)), (f2, .inr (5, pC 0 0 0 gf2)), (mo, .inr (11, mC 0 0 0 (-1) 0 0 0 0 0 0 as ak ab ar gm)), (as, .inl (cI, 63, .inl (fun _ => 0))), (ak, .inl (cZ, 2, .inl (fun _ => 0))), (ab, .inl (cI, 600, .inl (fun _ => 0))), (ar, .inl (cI, 63, .inl (fun _ => 0)))] := hD
  have hP := hP.sub (ws' := [(xo, .inr (10, xC inp par pla dra lat his f1 f2 0 0 (-1) gx)), (pla, .inr (5, pC 0 0 0 gpl)), (mo, .inr (11, mC 0 0 0 (-1) 0 0 0 0 0 0 as ak ab ar gm))]) [0, 4, 10] rfl
  have hD := hD.sub (ws' := [(xo, .inr (10, xC inp par pla dra lat his f1 f2 0 0 (-1) gx)), (pla, .inr (5, pC 0 0 0 gpl)), (mo, .inr (11, mC 0 0 0 (-1) 0 0 0 0 0 0 as ak ab ar gm))]) [0, 4, 10] (by decide) rfl
  refine lv_aload_n hx hb dL_law_1485 rfl (lv_at hl 3 rfl) ?_
  refine lv_aload_n hx hb dL_law_1486 rfl (lv_at hl 1 rfl) ?_
  refine call_i (wr := [(mo, .inr (11, mC 0 0 0 (-1) 0 0 0 0 0 0 as ak ab ar gm))]) C (run_SW (As := [.ref xo, .ref o]) (rest := []) C (h_colourGuards l hlt D cI cZ cJ xo inp par pla dra lat his f1 f2 0 0 (-1) gx gpl o ) cS_L_266 hP hD hS [0, 1] rfl rfl rfl hl.1 rfl (Nat.le_of_ble_eq_true rfl) dL_law_1487 ⟨Nat.le_of_ble_eq_true rfl, Nat.le_of_ble_eq_true rfl⟩ ⟨Nat.le_of_ble_eq_true rfl, Nat.le_of_ble_eq_true rfl⟩) hP hD hS [0, 1] [2] rfl rfl rfl (by decide) (fun u1 H locs hP hD hS => ?_)
  have hP : va_P D CL [(mo, .inr (11, mC 0 0 0 (-1) 0 0 0 0 0 0 as ak ab ar gm)), (xo, .inr (10, xC inp par pla dra lat his f1 f2 0 0 (-1) gx)), (pla, .inr (5, pC 0 0 0 gpl))] H := hP
  have hD : va_D A [(mo, .inr (11, mC 0 0 0 (-1) 0 0 0 0 0 0 as ak ab ar gm)), (xo, .inr (10, xC inp par pla dra lat his f1 f2 0 0 (-1) gx)), (pla, .inr (5, pC 0 0 0 gpl))] := hD
  refine W.widen (k := 2001) (n := 60006) (Nat.le_of_ble_eq_true rfl) (Nat.le_of_ble_eq_true rfl) ?_
  refine W.eq (g2 := F0 m 1490 ls [.int 1]) rfl ?_
  refine lv_istore (lv' := [(5, .int 1), (4, .int 0), (3, .ref o), (2, .ref mo), (1, .ref xo), (0, .ref b)]) hx hb dL_law_1490 hl (by decide) rfl (fun ls hl => ?_)
  refine lv_aload_n hx hb dL_law_1492 rfl (lv_at hl 3 rfl) ?_
  refine call_i (wr := [(xo, .inr (10, xC inp par pla dra lat his f1 f2 0 0 (-1) gx)), (pla, .inr (5, pC 0 0 0 gpl))]) C (run_V (As := []) (rest := []) C (m_colourGuards l D cI cZ cJ mo 0 0 (-1) 0 0 0 0 0 0 as ak ab ar gm 0 ) cV_L_268 hP hD hS [0] rfl rfl 0 rfl rfl rfl rfl hl.1 rfl (Nat.le_of_ble_eq_true rfl) dL_law_1493 ⟨Nat.le_of_ble_eq_true rfl, Nat.le_of_ble_eq_true rfl⟩ ⟨Nat.le_of_ble_eq_true rfl, Nat.le_of_ble_eq_true rfl⟩) hP hD hS [0] [1, 2] rfl rfl rfl (by decide) (fun u2 H locs hP hD hS => ?_)
  have hP : va_P D CL [(xo, .inr (10, xC inp par pla dra lat his f1 f2 0 0 (-1) gx)), (pla, .inr (5, pC 0 0 0 gpl)), (mo, .inr (11, mC 1 0 0 (-1) 0 0 0 0 0 0 as ak ab ar gm))] H := hP
  have hD : va_D A [(xo, .inr (10, xC inp par pla dra lat his f1 f2 0 0 (-1) gx)), (pla, .inr (5, pC 0 0 0 gpl)), (mo, .inr (11, mC 1 0 0 (-1) 0 0 0 0 0 0 as ak ab ar gm))] := hD
  refine W.widen (k := 2001) (n := 60006) (Nat.le_of_ble_eq_true rfl) (Nat.le_of_ble_eq_true rfl) ?_
  refine W.eq (g2 := F0 m 1496 ls [.int 0]) rfl ?_
  refine lv_istore (lv' := [(6, .int 0), (5, .int 1), (4, .int 0), (3, .ref o), (2, .ref mo), (1, .ref xo), (0, .ref b)]) hx hb dL_law_1496 hl (by decide) rfl (fun ls hl => ?_)
  refine lv_aload_n hx hb dL_law_1498 rfl (lv_at hl 4 rfl) ?_
  refine call_i (wr := [(xo, .inr (10, xC inp par pla dra lat his f1 f2 0 0 (-1) gx)), (pla, .inr (5, pC 0 0 0 gpl))]) C (run_V (As := []) (rest := []) C (m_thrown l D cI cZ cJ mo 0 0 (-1) 0 0 0 0 0 0 as ak ab ar gm 1 ) cV_L_187 hP hD hS [2] rfl rfl 0 rfl rfl rfl rfl hl.1 rfl (Nat.le_of_ble_eq_true rfl) dL_law_1499 ⟨Nat.le_of_ble_eq_true rfl, Nat.le_of_ble_eq_true rfl⟩ ⟨Nat.le_of_ble_eq_true rfl, Nat.le_of_ble_eq_true rfl⟩) hP hD hS [2] [0, 1] rfl rfl rfl (by decide) (fun u3 H locs hP hD hS => ?_)
  have hP : va_P D CL [(xo, .inr (10, xC inp par pla dra lat his f1 f2 0 0 (-1) gx)), (pla, .inr (5, pC 0 0 0 gpl)), (mo, .inr (11, mC 1 0 0 (-1) 0 0 0 0 0 0 as ak ab ar gm))] H := hP
  have hD : va_D A [(xo, .inr (10, xC inp par pla dra lat his f1 f2 0 0 (-1) gx)), (pla, .inr (5, pC 0 0 0 gpl)), (mo, .inr (11, mC 1 0 0 (-1) 0 0 0 0 0 0 as ak ab ar gm))] := hD
  refine W.widen (k := 2001) (n := 60006) (Nat.le_of_ble_eq_true rfl) (Nat.le_of_ble_eq_true rfl) ?_
  refine W.eq (g2 := F0 m 1502 ls [.int 1]) rfl ?_
  refine lv_iload hx hb dL_law_1502 (lv_at hl 1 rfl) ?_
  refine lv_icmp_eq (tgt := 1509) hx hb dL_law_1504 (by decide) (fun _ => ?_) (fun h => absurd (by decide) h)
  refine lv_iload hx hb dL_law_1509 (lv_at hl 1 rfl) ?_
  refine lv_if_ne (tgt := 1526) hx hb dL_law_1511 (by decide) (fun _ => ?_) (fun h => absurd h (by decide))
  refine lv_goto (tgt := 3186) hx hb dL_law_1526 (by decide) ?_
  exact law_exit K hS (lv_sub hl [6, 2] rfl) (Nat.le_of_ble_eq_true rfl) (Nat.le_of_ble_eq_true rfl)
set_option maxHeartbeats 4000000 in
set_option maxRecDepth 100000 in
theorem law_26 {p : Program} {l : Launch} {e : Env} {s : State} {m : MethodId} {below : List Frame} {meth : Method} {c : Code} {b : Nat} {xs : Nat → Int32} {D : va_G} {cI cZ cJ : ClassId} {A : Nat → Prop} (K : LCx p l s m meth c b 6 xs D cI cZ cJ A) {xo inp byt par pla dra lat his f1 f2 mo as ak ab ar o : Nat} {gx gpl gdr gla gf1 gf2 gpa ghi gm : Nat → Value}  {H : Heap} {locs : List Loc} {ls : Array Slot} (hP : va_P D CL (LW cI cZ xo inp byt par pla dra lat his f1 f2 mo as ak ab ar gx gpl gdr gla gf1 gf2 gpa ghi gm) H) (hD : va_D A (LW cI cZ xo inp byt par pla dra lat his f1 f2 mo as ak ab ar gx gpl gdr gla gf1 gf2 gpa ghi gm)) (hS : va_S A s.heap H locs) (hl : lv_has ls 8 [(4, .int 0), (3, .ref o), (2, .ref mo), (1, .ref xo), (0, .ref b)]) : W p l e room_1 s m #[Value.ref b] below meth c H locs 2000 60000 (lw_Z below #[Value.ref b] s) (F0 m 1529 ls []) := by
  obtain ⟨C, hX, hbl, hlt, hAA⟩ := id K
  have hx := C.1
  have hb := C.2.1
  have hbA : ¬ A b := fun h => absurd (hAA b h) (Nat.not_le.mpr hbl)
  have hP : va_P D CL [(xo, .inr (10, xC inp par pla dra lat his f1 f2 0 0 (-1) gx)), (inp, .inr (2, [.int 0, .int 0, .int 0, .int 0, .int 0, .int 0, .ref byt])), (byt, .inl (cI, 600, .inl (fun _ => 0))), (par, .inr (4, [.ref inp, .ref dra, gpa 2, .int 0, .int 0])), (pla, .inr (5, pC 0 0 0 gpl)), (dra, .inr (5, pC 0 0 0 gdr)), (lat, .inr (3, [.int 0, .long 0, gla 2, gla 3, gla 4])), (his, .inr (1, [.int 0, .int 0, ghi 2])), (f1, .inr (5, pC 0 0 0 gf1)), (f2, .inr (5, pC 0 0 0 gf2)), (mo, .inr (11, mC 0 0 0 (-1) 0 0 0 0 0 0 as ak ab ar gm)), (as, .inl (cI, 63, .inl (fun _ => 0))), (ak, .inl (cZ, 2, .inl (fun _ => 0))), (ab, .inl (cI, 600, .inl (fun _ => 0))), (ar, .inl (cI, 63, .inl (fun _ => 0)))] H := hP
  have hD : va_D A [(xo, .inr (10, xC inp par pla dra lat his f1 f2 0 0 (-1) gx)), (inp, .inr (2, [.int 0, .int 0, .int 0, .int 0, .int 0, .int 0, .ref byt])), (byt, .inl (cI, 600, .inl (fun _ => 0))), (par, .inr (4, [.ref inp, .ref dra, gpa 2, .int 0, .int 0])), (pla, .inr (5, pC 0 0 0 gpl)), (dra, .inr (5, pC 0 0 0 gdr)), (lat, .inr (3, [.int 0, .long 0, gla 2, gla 3, gla 4])), (his, .inr (1, [.int 0, .int 0, ghi 2])), (f1, .inr (5, pC 0 0 0 gf1)), (f2, .inr (5, pC 0 0 0 gf2)), (mo, .inr (11, mC 0 0 0 (-1) 0 0 0 0 0 0 as ak ab ar gm)), (as, .inl (cI, 63, .inl (fun _ => 0))), (ak, .inl (cZ, 2, .inl (fun _ => 0))), (ab, .inl (cI, 600, .inl (fun _ => 0))), (ar, .inl (cI, 63, .inl (fun _ => 0)))] := hD
  have hP := hP.sub (ws' := [(xo, .inr (10, xC inp par pla dra lat his f1 f2 0 0 (-1) gx)), (pla, .inr (5, pC 0 0 0 gpl)), (mo, .inr (11, mC 0 0 0 (-1) 0 0 0 0 0 0 as ak ab ar gm))]) [0, 4, 10] rfl
  have hD := hD.sub (ws' := [(xo, .inr (10, xC inp par pla dra lat his f1 f2 0 0 (-1) gx)), (pla, .inr (5, pC 0 0 0 gpl)), (mo, .inr (11, mC 0 0 0 (-1) 0 0 0 0 0 0 as ak ab ar gm))]) [0, 4, 10] (by decide) rfl
  refine lv_aload_n hx hb dL_law_1529 rfl (lv_at hl 3 rfl) ?_
  refine lv_aload_n hx hb dL_law_1530 rfl (lv_at hl 1 rfl) ?_
  refine call_i (wr := [(mo, .inr (11, mC 0 0 0 (-1) 0 0 0 0 0 0 as ak ab ar gm))]) C (run_SW (As := [.ref xo, .ref o]) (rest := []) C (h_vertexGuards l hlt D cI cZ cJ xo inp par pla dra lat his f1 f2 0 0 (-1) gx gpl o ) cS_L_269 hP hD hS [0, 1] rfl rfl rfl hl.1 rfl (Nat.le_of_ble_eq_true rfl) dL_law_1531 ⟨Nat.le_of_ble_eq_true rfl, Nat.le_of_ble_eq_true rfl⟩ ⟨Nat.le_of_ble_eq_true rfl, Nat.le_of_ble_eq_true rfl⟩) hP hD hS [0, 1] [2] rfl rfl rfl (by decide) (fun u1 H locs hP hD hS => ?_)
  have hP : va_P D CL [(mo, .inr (11, mC 0 0 0 (-1) 0 0 0 0 0 0 as ak ab ar gm)), (xo, .inr (10, xC inp par pla dra lat his f1 f2 0 0 (-1) gx)), (pla, .inr (5, pC 0 0 0 gpl))] H := hP
  have hD : va_D A [(mo, .inr (11, mC 0 0 0 (-1) 0 0 0 0 0 0 as ak ab ar gm)), (xo, .inr (10, xC inp par pla dra lat his f1 f2 0 0 (-1) gx)), (pla, .inr (5, pC 0 0 0 gpl))] := hD
  refine W.widen (k := 2001) (n := 60006) (Nat.le_of_ble_eq_true rfl) (Nat.le_of_ble_eq_true rfl) ?_
  refine W.eq (g2 := F0 m 1534 ls [.int 1]) rfl ?_
  refine lv_istore (lv' := [(5, .int 1), (4, .int 0), (3, .ref o), (2, .ref mo), (1, .ref xo), (0, .ref b)]) hx hb dL_law_1534 hl (by decide) rfl (fun ls hl => ?_)
  refine lv_aload_n hx hb dL_law_1536 rfl (lv_at hl 3 rfl) ?_
  refine call_i (wr := [(xo, .inr (10, xC inp par pla dra lat his f1 f2 0 0 (-1) gx)), (pla, .inr (5, pC 0 0 0 gpl))]) C (run_V (As := []) (rest := []) C (m_vertexGuards l D cI cZ cJ mo 0 0 (-1) 0 0 0 0 0 0 as ak ab ar gm 0 ) cV_L_271 hP hD hS [0] rfl rfl 0 rfl rfl rfl rfl hl.1 rfl (Nat.le_of_ble_eq_true rfl) dL_law_1537 ⟨Nat.le_of_ble_eq_true rfl, Nat.le_of_ble_eq_true rfl⟩ ⟨Nat.le_of_ble_eq_true rfl, Nat.le_of_ble_eq_true rfl⟩) hP hD hS [0] [1, 2] rfl rfl rfl (by decide) (fun u2 H locs hP hD hS => ?_)
  have hP : va_P D CL [(xo, .inr (10, xC inp par pla dra lat his f1 f2 0 0 (-1) gx)), (pla, .inr (5, pC 0 0 0 gpl)), (mo, .inr (11, mC 1 0 0 (-1) 0 0 0 0 0 0 as ak ab ar gm))] H := hP
  have hD : va_D A [(xo, .inr (10, xC inp par pla dra lat his f1 f2 0 0 (-1) gx)), (pla, .inr (5, pC 0 0 0 gpl)), (mo, .inr (11, mC 1 0 0 (-1) 0 0 0 0 0 0 as ak ab ar gm))] := hD
  refine W.widen (k := 2001) (n := 60006) (Nat.le_of_ble_eq_true rfl) (Nat.le_of_ble_eq_true rfl) ?_
  refine W.eq (g2 := F0 m 1540 ls [.int 0]) rfl ?_
  refine lv_istore (lv' := [(6, .int 0), (5, .int 1), (4, .int 0), (3, .ref o), (2, .ref mo), (1, .ref xo), (0, .ref b)]) hx hb dL_law_1540 hl (by decide) rfl (fun ls hl => ?_)
  refine lv_aload_n hx hb dL_law_1542 rfl (lv_at hl 4 rfl) ?_
  refine call_i (wr := [(xo, .inr (10, xC inp par pla dra lat his f1 f2 0 0 (-1) gx)), (pla, .inr (5, pC 0 0 0 gpl))]) C (run_V (As := []) (rest := []) C (m_thrown l D cI cZ cJ mo 0 0 (-1) 0 0 0 0 0 0 as ak ab ar gm 1 ) cV_L_187 hP hD hS [2] rfl rfl 0 rfl rfl rfl rfl hl.1 rfl (Nat.le_of_ble_eq_true rfl) dL_law_1543 ⟨Nat.le_of_ble_eq_true rfl, Nat.le_of_ble_eq_true rfl⟩ ⟨Nat.le_of_ble_eq_true rfl, Nat.le_of_ble_eq_true rfl⟩) hP hD hS [2] [0, 1] rfl rfl rfl (by decide) (fun u3 H locs hP hD hS => ?_)
  have hP : va_P D CL [(xo, .inr (10, xC inp par pla dra lat his f1 f2 0 0 (-1) gx)), (pla, .inr (5, pC 0 0 0 gpl)), (mo, .inr (11, mC 1 0 0 (-1) 0 0 0 0 0 0 as ak ab ar gm))] H := hP
  have hD : va_D A [(xo, .inr (10, xC inp par pla dra lat his f1 f2 0 0 (-1) gx)), (pla, .inr (5, pC 0 0 0 gpl)), (mo, .inr (11, mC 1 0 0 (-1) 0 0 0 0 0 0 as ak ab ar gm))] := hD
  refine W.widen (k := 2001) (n := 60006) (Nat.le_of_ble_eq_true rfl) (Nat.le_of_ble_eq_true rfl) ?_
  refine W.eq (g2 := F0 m 1546 ls [.int 1]) rfl ?_
  refine lv_iload hx hb dL_law_1546 (lv_at hl 1 rfl) ?_
  refine lv_icmp_eq (tgt := 1553) hx hb dL_law_1548 (by decide) (fun _ => ?_) (fun h => absurd (by decide) h)
  refine lv_iload hx hb dL_law_1553 (lv_at hl 1 rfl) ?_
  refine lv_if_ne (tgt := 1570) hx hb dL_law_1555 (by decide) (fun _ => ?_) (fun h => absurd h (by decide))
  refine lv_goto (tgt := 3186) hx hb dL_law_1570 (by decide) ?_
  exact law_exit K hS (lv_sub hl [6, 2] rfl) (Nat.le_of_ble_eq_true rfl) (Nat.le_of_ble_eq_true rfl)
set_option maxHeartbeats 4000000 in
set_option maxRecDepth 100000 in
theorem law_27 {p : Program} {l : Launch} {e : Env} {s : State} {m : MethodId} {below : List Frame} {meth : Method} {c : Code} {b : Nat} {xs : Nat → Int32} {D : va_G} {cI cZ cJ : ClassId} {A : Nat → Prop} (K : LCx p l s m meth c b 6 xs D cI cZ cJ A) {xo inp byt par pla dra lat his f1 f2 mo as ak ab ar o : Nat} {gx gpl gdr gla gf1 gf2 gpa ghi gm : Nat → Value}  {H : Heap} {locs : List Loc} {ls : Array Slot} (hP : va_P D CL (LW cI cZ xo inp byt par pla dra lat his f1 f2 mo as ak ab ar gx gpl gdr gla gf1 gf2 gpa ghi gm) H) (hD : va_D A (LW cI cZ xo inp byt par pla dra lat his f1 f2 mo as ak ab ar gx gpl gdr gla gf1 gf2 gpa ghi gm)) (hS : va_S A s.heap H locs) (hl : lv_has ls 8 [(4, .int 0), (3, .ref o), (2, .ref mo), (1, .ref xo), (0, .ref b)]) : W p l e room_1 s m #[Value.ref b] below meth c H locs 2000 60000 (lw_Z below #[Value.ref b] s) (F0 m 1573 ls []) := by
  obtain ⟨C, hX, hbl, hlt, hAA⟩ := id K
  have hx := C.1
  have hb := C.2.1
  have hbA : ¬ A b := fun h => absurd (hAA b h) (Nat.not_le.mpr hbl)
  have hP : va_P D CL [(xo, .inr (10, xC inp par pla dra lat his f1 f2 0 0 (-1) gx)), (inp, .inr (2, [.int 0, .int 0, .int 0, .int 0, .int 0, .int 0, .ref byt])), (byt, .inl (cI, 600, .inl (fun _ => 0))), (par, .inr (4, [.ref inp, .ref dra, gpa 2, .int 0, .int 0])), (pla, .inr (5, pC 0 0 0 gpl)), (dra, .inr (5, pC 0 0 0 gdr)), (lat, .inr (3, [.int 0, .long 0, gla 2, gla 3, gla 4])), (his, .inr (1, [.int 0, .int 0, ghi 2])), (f1, .inr (5, pC 0 0 0 gf1)), (f2, .inr (5, pC 0 0 0 gf2)), (mo, .inr (11, mC 0 0 0 (-1) 0 0 0 0 0 0 as ak ab ar gm)), (as, .inl (cI, 63, .inl (fun _ => 0))), (ak, .inl (cZ, 2, .inl (fun _ => 0))), (ab, .inl (cI, 600, .inl (fun _ => 0))), (ar, .inl (cI, 63, .inl (fun _ => 0)))] H := hP
  have hD : va_D A [(xo, .inr (10, xC inp par pla dra lat his f1 f2 0 0 (-1) gx)), (inp, .inr (2, [.int 0, .int 0, .int 0, .int 0, .int 0, .int 0, .ref byt])), (byt, .inl (cI, 600, .inl (fun _ => 0))), (par, .inr (4, [.ref inp, .ref dra, gpa 2, .int 0, .int 0])), (pla, .inr (5, pC 0 0 0 gpl)), (dra, .inr (5, pC 0 0 0 gdr)), (lat, .inr (3, [.int 0, .long 0, gla 2, gla 3, gla 4])), (his, .inr (1, [.int 0, .int 0, ghi 2])), (f1, .inr (5, pC 0 0 0 gf1)), (f2, .inr (5, pC 0 0 0 gf2)), (mo, .inr (11, mC 0 0 0 (-1) 0 0 0 0 0 0 as ak ab ar gm)), (as, .inl (cI, 63, .inl (fun _ => 0))), (ak, .inl (cZ, 2, .inl (fun _ => 0))), (ab, .inl (cI, 600, .inl (fun _ => 0))), (ar, .inl (cI, 63, .inl (fun _ => 0)))] := hD
  have hP := hP.sub (ws' := [(xo, .inr (10, xC inp par pla dra lat his f1 f2 0 0 (-1) gx)), (pla, .inr (5, pC 0 0 0 gpl)), (mo, .inr (11, mC 0 0 0 (-1) 0 0 0 0 0 0 as ak ab ar gm))]) [0, 4, 10] rfl
  have hD := hD.sub (ws' := [(xo, .inr (10, xC inp par pla dra lat his f1 f2 0 0 (-1) gx)), (pla, .inr (5, pC 0 0 0 gpl)), (mo, .inr (11, mC 0 0 0 (-1) 0 0 0 0 0 0 as ak ab ar gm))]) [0, 4, 10] (by decide) rfl
  refine lv_aload_n hx hb dL_law_1573 rfl (lv_at hl 3 rfl) ?_
  refine lv_aload_n hx hb dL_law_1574 rfl (lv_at hl 1 rfl) ?_
  refine call_i (wr := [(mo, .inr (11, mC 0 0 0 (-1) 0 0 0 0 0 0 as ak ab ar gm))]) C (run_SW (As := [.ref xo, .ref o]) (rest := []) C (h_edgeGuards l hlt D cI cZ cJ xo inp par pla dra lat his f1 f2 0 0 (-1) gx gpl o ) cS_L_272 hP hD hS [0, 1] rfl rfl rfl hl.1 rfl (Nat.le_of_ble_eq_true rfl) dL_law_1575 ⟨Nat.le_of_ble_eq_true rfl, Nat.le_of_ble_eq_true rfl⟩ ⟨Nat.le_of_ble_eq_true rfl, Nat.le_of_ble_eq_true rfl⟩) hP hD hS [0, 1] [2] rfl rfl rfl (by decide) (fun u1 H locs hP hD hS => ?_)
  have hP : va_P D CL [(mo, .inr (11, mC 0 0 0 (-1) 0 0 0 0 0 0 as ak ab ar gm)), (xo, .inr (10, xC inp par pla dra lat his f1 f2 0 0 (-1) gx)), (pla, .inr (5, pC 0 0 0 gpl))] H := hP
  have hD : va_D A [(mo, .inr (11, mC 0 0 0 (-1) 0 0 0 0 0 0 as ak ab ar gm)), (xo, .inr (10, xC inp par pla dra lat his f1 f2 0 0 (-1) gx)), (pla, .inr (5, pC 0 0 0 gpl))] := hD
  refine W.widen (k := 2001) (n := 60006) (Nat.le_of_ble_eq_true rfl) (Nat.le_of_ble_eq_true rfl) ?_
  refine W.eq (g2 := F0 m 1578 ls [.int 1]) rfl ?_
  refine lv_istore (lv' := [(5, .int 1), (4, .int 0), (3, .ref o), (2, .ref mo), (1, .ref xo), (0, .ref b)]) hx hb dL_law_1578 hl (by decide) rfl (fun ls hl => ?_)
  refine lv_aload_n hx hb dL_law_1580 rfl (lv_at hl 3 rfl) ?_
  refine call_i (wr := [(xo, .inr (10, xC inp par pla dra lat his f1 f2 0 0 (-1) gx)), (pla, .inr (5, pC 0 0 0 gpl))]) C (run_V (As := []) (rest := []) C (m_edgeGuards l D cI cZ cJ mo 0 0 (-1) 0 0 0 0 0 0 as ak ab ar gm 0 ) cV_L_274 hP hD hS [0] rfl rfl 0 rfl rfl rfl rfl hl.1 rfl (Nat.le_of_ble_eq_true rfl) dL_law_1581 ⟨Nat.le_of_ble_eq_true rfl, Nat.le_of_ble_eq_true rfl⟩ ⟨Nat.le_of_ble_eq_true rfl, Nat.le_of_ble_eq_true rfl⟩) hP hD hS [0] [1, 2] rfl rfl rfl (by decide) (fun u2 H locs hP hD hS => ?_)
  have hP : va_P D CL [(xo, .inr (10, xC inp par pla dra lat his f1 f2 0 0 (-1) gx)), (pla, .inr (5, pC 0 0 0 gpl)), (mo, .inr (11, mC 1 0 0 (-1) 0 0 0 0 0 0 as ak ab ar gm))] H := hP
  have hD : va_D A [(xo, .inr (10, xC inp par pla dra lat his f1 f2 0 0 (-1) gx)), (pla, .inr (5, pC 0 0 0 gpl)), (mo, .inr (11, mC 1 0 0 (-1) 0 0 0 0 0 0 as ak ab ar gm))] := hD
  refine W.widen (k := 2001) (n := 60006) (Nat.le_of_ble_eq_true rfl) (Nat.le_of_ble_eq_true rfl) ?_
  refine W.eq (g2 := F0 m 1584 ls [.int 0]) rfl ?_
  refine lv_istore (lv' := [(6, .int 0), (5, .int 1), (4, .int 0), (3, .ref o), (2, .ref mo), (1, .ref xo), (0, .ref b)]) hx hb dL_law_1584 hl (by decide) rfl (fun ls hl => ?_)
  refine lv_aload_n hx hb dL_law_1586 rfl (lv_at hl 4 rfl) ?_
  refine call_i (wr := [(xo, .inr (10, xC inp par pla dra lat his f1 f2 0 0 (-1) gx)), (pla, .inr (5, pC 0 0 0 gpl))]) C (run_V (As := []) (rest := []) C (m_thrown l D cI cZ cJ mo 0 0 (-1) 0 0 0 0 0 0 as ak ab ar gm 1 ) cV_L_187 hP hD hS [2] rfl rfl 0 rfl rfl rfl rfl hl.1 rfl (Nat.le_of_ble_eq_true rfl) dL_law_1587 ⟨Nat.le_of_ble_eq_true rfl, Nat.le_of_ble_eq_true rfl⟩ ⟨Nat.le_of_ble_eq_true rfl, Nat.le_of_ble_eq_true rfl⟩) hP hD hS [2] [0, 1] rfl rfl rfl (by decide) (fun u3 H locs hP hD hS => ?_)
  have hP : va_P D CL [(xo, .inr (10, xC inp par pla dra lat his f1 f2 0 0 (-1) gx)), (pla, .inr (5, pC 0 0 0 gpl)), (mo, .inr (11, mC 1 0 0 (-1) 0 0 0 0 0 0 as ak ab ar gm))] H := hP
  have hD : va_D A [(xo, .inr (10, xC inp par pla dra lat his f1 f2 0 0 (-1) gx)), (pla, .inr (5, pC 0 0 0 gpl)), (mo, .inr (11, mC 1 0 0 (-1) 0 0 0 0 0 0 as ak ab ar gm))] := hD
  refine W.widen (k := 2001) (n := 60006) (Nat.le_of_ble_eq_true rfl) (Nat.le_of_ble_eq_true rfl) ?_
  refine W.eq (g2 := F0 m 1590 ls [.int 1]) rfl ?_
  refine lv_iload hx hb dL_law_1590 (lv_at hl 1 rfl) ?_
  refine lv_icmp_eq (tgt := 1597) hx hb dL_law_1592 (by decide) (fun _ => ?_) (fun h => absurd (by decide) h)
  refine lv_iload hx hb dL_law_1597 (lv_at hl 1 rfl) ?_
  refine lv_if_ne (tgt := 1614) hx hb dL_law_1599 (by decide) (fun _ => ?_) (fun h => absurd h (by decide))
  refine lv_goto (tgt := 3186) hx hb dL_law_1614 (by decide) ?_
  exact law_exit K hS (lv_sub hl [6, 2] rfl) (Nat.le_of_ble_eq_true rfl) (Nat.le_of_ble_eq_true rfl)
set_option maxHeartbeats 4000000 in
set_option maxRecDepth 100000 in
theorem law_28 {p : Program} {l : Launch} {e : Env} {s : State} {m : MethodId} {below : List Frame} {meth : Method} {c : Code} {b : Nat} {xs : Nat → Int32} {D : va_G} {cI cZ cJ : ClassId} {A : Nat → Prop} (K : LCx p l s m meth c b 6 xs D cI cZ cJ A) {xo inp byt par pla dra lat his f1 f2 mo as ak ab ar o : Nat} {gx gpl gdr gla gf1 gf2 gpa ghi gm : Nat → Value}  {H : Heap} {locs : List Loc} {ls : Array Slot} (hP : va_P D CL (LW cI cZ xo inp byt par pla dra lat his f1 f2 mo as ak ab ar gx gpl gdr gla gf1 gf2 gpa ghi gm) H) (hD : va_D A (LW cI cZ xo inp byt par pla dra lat his f1 f2 mo as ak ab ar gx gpl gdr gla gf1 gf2 gpa ghi gm)) (hS : va_S A s.heap H locs) (hl : lv_has ls 8 [(4, .int 0), (3, .ref o), (2, .ref mo), (1, .ref xo), (0, .ref b)]) : W p l e room_1 s m #[Value.ref b] below meth c H locs 2000 60000 (lw_Z below #[Value.ref b] s) (F0 m 1617 ls []) := by
  obtain ⟨C, hX, hbl, hlt, hAA⟩ := id K
  have hx := C.1
  have hb := C.2.1
  have hbA : ¬ A b := fun h => absurd (hAA b h) (Nat.not_le.mpr hbl)
  have hP : va_P D CL [(xo, .inr (10, xC inp par pla dra lat his f1 f2 0 0 (-1) gx)), (inp, .inr (2, [.int 0, .int 0, .int 0, .int 0, .int 0, .int 0, .ref byt])), (byt, .inl (cI, 600, .inl (fun _ => 0))), (par, .inr (4, [.ref inp, .ref dra, gpa 2, .int 0, .int 0])), (pla, .inr (5, pC 0 0 0 gpl)), (dra, .inr (5, pC 0 0 0 gdr)), (lat, .inr (3, [.int 0, .long 0, gla 2, gla 3, gla 4])), (his, .inr (1, [.int 0, .int 0, ghi 2])), (f1, .inr (5, pC 0 0 0 gf1)), (f2, .inr (5, pC 0 0 0 gf2)), (mo, .inr (11, mC 0 0 0 (-1) 0 0 0 0 0 0 as ak ab ar gm)), (as, .inl (cI, 63, .inl (fun _ => 0))), (ak, .inl (cZ, 2, .inl (fun _ => 0))), (ab, .inl (cI, 600, .inl (fun _ => 0))), (ar, .inl (cI, 63, .inl (fun _ => 0)))] H := hP
  have hD : va_D A [(xo, .inr (10, xC inp par pla dra lat his f1 f2 0 0 (-1) gx)), (inp, .inr (2, [.int 0, .int 0, .int 0, .int 0, .int 0, .int 0, .ref byt])), (byt, .inl (cI, 600, .inl (fun _ => 0))), (par, .inr (4, [.ref inp, .ref dra, gpa 2, .int 0, .int 0])), (pla, .inr (5, pC 0 0 0 gpl)), (dra, .inr (5, pC 0 0 0 gdr)), (lat, .inr (3, [.int 0, .long 0, gla 2, gla 3, gla 4])), (his, .inr (1, [.int 0, .int 0, ghi 2])), (f1, .inr (5, pC 0 0 0 gf1)), (f2, .inr (5, pC 0 0 0 gf2)), (mo, .inr (11, mC 0 0 0 (-1) 0 0 0 0 0 0 as ak ab ar gm)), (as, .inl (cI, 63, .inl (fun _ => 0))), (ak, .inl (cZ, 2, .inl (fun _ => 0))), (ab, .inl (cI, 600, .inl (fun _ => 0))), (ar, .inl (cI, 63, .inl (fun _ => 0)))] := hD
  have hP := hP.sub (ws' := [(xo, .inr (10, xC inp par pla dra lat his f1 f2 0 0 (-1) gx)), (pla, .inr (5, pC 0 0 0 gpl)), (mo, .inr (11, mC 0 0 0 (-1) 0 0 0 0 0 0 as ak ab ar gm))]) [0, 4, 10] rfl
  have hD := hD.sub (ws' := [(xo, .inr (10, xC inp par pla dra lat his f1 f2 0 0 (-1) gx)), (pla, .inr (5, pC 0 0 0 gpl)), (mo, .inr (11, mC 0 0 0 (-1) 0 0 0 0 0 0 as ak ab ar gm))]) [0, 4, 10] (by decide) rfl
  refine lv_aload_n hx hb dL_law_1617 rfl (lv_at hl 3 rfl) ?_
  refine lv_aload_n hx hb dL_law_1618 rfl (lv_at hl 1 rfl) ?_
  refine call_i (wr := [(mo, .inr (11, mC 0 0 0 (-1) 0 0 0 0 0 0 as ak ab ar gm))]) C (run_SW (As := [.ref xo, .ref o]) (rest := []) C (h_guardNumber l hlt D cI cZ cJ xo inp par pla dra lat his f1 f2 0 0 (-1) gx gpl o ) cS_L_275 hP hD hS [0, 1] rfl rfl rfl hl.1 rfl (Nat.le_of_ble_eq_true rfl) dL_law_1619 ⟨Nat.le_of_ble_eq_true rfl, Nat.le_of_ble_eq_true rfl⟩ ⟨Nat.le_of_ble_eq_true rfl, Nat.le_of_ble_eq_true rfl⟩) hP hD hS [0, 1] [2] rfl rfl rfl (by decide) (fun u1 H locs hP hD hS => ?_)
  have hP : va_P D CL [(mo, .inr (11, mC 0 0 0 (-1) 0 0 0 0 0 0 as ak ab ar gm)), (xo, .inr (10, xC inp par pla dra lat his f1 f2 0 0 (-1) gx)), (pla, .inr (5, pC 0 0 0 gpl))] H := hP
  have hD : va_D A [(mo, .inr (11, mC 0 0 0 (-1) 0 0 0 0 0 0 as ak ab ar gm)), (xo, .inr (10, xC inp par pla dra lat his f1 f2 0 0 (-1) gx)), (pla, .inr (5, pC 0 0 0 gpl))] := hD
  refine W.widen (k := 2001) (n := 60006) (Nat.le_of_ble_eq_true rfl) (Nat.le_of_ble_eq_true rfl) ?_
  refine W.eq (g2 := F0 m 1622 ls [.int 1]) rfl ?_
  refine lv_istore (lv' := [(5, .int 1), (4, .int 0), (3, .ref o), (2, .ref mo), (1, .ref xo), (0, .ref b)]) hx hb dL_law_1622 hl (by decide) rfl (fun ls hl => ?_)
  refine lv_aload_n hx hb dL_law_1624 rfl (lv_at hl 3 rfl) ?_
  refine call_i (wr := [(xo, .inr (10, xC inp par pla dra lat his f1 f2 0 0 (-1) gx)), (pla, .inr (5, pC 0 0 0 gpl))]) C (run_V (As := []) (rest := []) C (m_guardNumber l D cI cZ cJ mo 0 0 (-1) 0 0 0 0 0 0 as ak ab ar gm 0 ) cV_L_277 hP hD hS [0] rfl rfl 0 rfl rfl rfl rfl hl.1 rfl (Nat.le_of_ble_eq_true rfl) dL_law_1625 ⟨Nat.le_of_ble_eq_true rfl, Nat.le_of_ble_eq_true rfl⟩ ⟨Nat.le_of_ble_eq_true rfl, Nat.le_of_ble_eq_true rfl⟩) hP hD hS [0] [1, 2] rfl rfl rfl (by decide) (fun u2 H locs hP hD hS => ?_)
  have hP : va_P D CL [(xo, .inr (10, xC inp par pla dra lat his f1 f2 0 0 (-1) gx)), (pla, .inr (5, pC 0 0 0 gpl)), (mo, .inr (11, mC 1 0 0 (-1) 0 0 0 0 0 0 as ak ab ar gm))] H := hP
  have hD : va_D A [(xo, .inr (10, xC inp par pla dra lat his f1 f2 0 0 (-1) gx)), (pla, .inr (5, pC 0 0 0 gpl)), (mo, .inr (11, mC 1 0 0 (-1) 0 0 0 0 0 0 as ak ab ar gm))] := hD
  refine W.widen (k := 2001) (n := 60006) (Nat.le_of_ble_eq_true rfl) (Nat.le_of_ble_eq_true rfl) ?_
  refine W.eq (g2 := F0 m 1628 ls [.int 0]) rfl ?_
  refine lv_istore (lv' := [(6, .int 0), (5, .int 1), (4, .int 0), (3, .ref o), (2, .ref mo), (1, .ref xo), (0, .ref b)]) hx hb dL_law_1628 hl (by decide) rfl (fun ls hl => ?_)
  refine lv_aload_n hx hb dL_law_1630 rfl (lv_at hl 4 rfl) ?_
  refine call_i (wr := [(xo, .inr (10, xC inp par pla dra lat his f1 f2 0 0 (-1) gx)), (pla, .inr (5, pC 0 0 0 gpl))]) C (run_V (As := []) (rest := []) C (m_thrown l D cI cZ cJ mo 0 0 (-1) 0 0 0 0 0 0 as ak ab ar gm 1 ) cV_L_187 hP hD hS [2] rfl rfl 0 rfl rfl rfl rfl hl.1 rfl (Nat.le_of_ble_eq_true rfl) dL_law_1631 ⟨Nat.le_of_ble_eq_true rfl, Nat.le_of_ble_eq_true rfl⟩ ⟨Nat.le_of_ble_eq_true rfl, Nat.le_of_ble_eq_true rfl⟩) hP hD hS [2] [0, 1] rfl rfl rfl (by decide) (fun u3 H locs hP hD hS => ?_)
  have hP : va_P D CL [(xo, .inr (10, xC inp par pla dra lat his f1 f2 0 0 (-1) gx)), (pla, .inr (5, pC 0 0 0 gpl)), (mo, .inr (11, mC 1 0 0 (-1) 0 0 0 0 0 0 as ak ab ar gm))] H := hP
  have hD : va_D A [(xo, .inr (10, xC inp par pla dra lat his f1 f2 0 0 (-1) gx)), (pla, .inr (5, pC 0 0 0 gpl)), (mo, .inr (11, mC 1 0 0 (-1) 0 0 0 0 0 0 as ak ab ar gm))] := hD
  refine W.widen (k := 2001) (n := 60006) (Nat.le_of_ble_eq_true rfl) (Nat.le_of_ble_eq_true rfl) ?_
  refine W.eq (g2 := F0 m 1634 ls [.int 1]) rfl ?_
  refine lv_iload hx hb dL_law_1634 (lv_at hl 1 rfl) ?_
  refine lv_icmp_eq (tgt := 1641) hx hb dL_law_1636 (by decide) (fun _ => ?_) (fun h => absurd (by decide) h)
  refine lv_iload hx hb dL_law_1641 (lv_at hl 1 rfl) ?_
  refine lv_if_ne (tgt := 1658) hx hb dL_law_1643 (by decide) (fun _ => ?_) (fun h => absurd h (by decide))
  refine lv_goto (tgt := 3186) hx hb dL_law_1658 (by decide) ?_
  exact law_exit K hS (lv_sub hl [6, 2] rfl) (Nat.le_of_ble_eq_true rfl) (Nat.le_of_ble_eq_true rfl)
set_option maxHeartbeats 4000000 in
set_option maxRecDepth 100000 in
theorem law_29 {p : Program} {l : Launch} {e : Env} {s : State} {m : MethodId} {below : List Frame} {meth : Method} {c : Code} {b : Nat} {xs : Nat → Int32} {D : va_G} {cI cZ cJ : ClassId} {A : Nat → Prop} (K : LCx p l s m meth c b 6 xs D cI cZ cJ A) {xo inp byt par pla dra lat his f1 f2 mo as ak ab ar o : Nat} {gx gpl gdr gla gf1 gf2 gpa ghi gm : Nat → Value}  {H : Heap} {locs : List Loc} {ls : Array Slot} (hP : va_P D CL (LW cI cZ xo inp byt par pla dra lat his f1 f2 mo as ak ab ar gx gpl gdr gla gf1 gf2 gpa ghi gm) H) (hD : va_D A (LW cI cZ xo inp byt par pla dra lat his f1 f2 mo as ak ab ar gx gpl gdr gla gf1 gf2 gpa ghi gm)) (hS : va_S A s.heap H locs) (hl : lv_has ls 8 [(4, .int 0), (3, .ref o), (2, .ref mo), (1, .ref xo), (0, .ref b)]) : W p l e room_1 s m #[Value.ref b] below meth c H locs 2000 60000 (lw_Z below #[Value.ref b] s) (F0 m 1661 ls []) := by
  obtain ⟨C, hX, hbl, hlt, hAA⟩ := id K
  have hx := C.1
  have hb := C.2.1
  have hbA : ¬ A b := fun h => absurd (hAA b h) (Nat.not_le.mpr hbl)
  have hP : va_P D CL [(xo, .inr (10, xC inp par pla dra lat his f1 f2 0 0 (-1) gx)), (inp, .inr (2, [.int 0, .int 0, .int 0, .int 0, .int 0, .int 0, .ref byt])), (byt, .inl (cI, 600, .inl (fun _ => 0))), (par, .inr (4, [.ref inp, .ref dra, gpa 2, .int 0, .int 0])), (pla, .inr (5, pC 0 0 0 gpl)), (dra, .inr (5, pC 0 0 0 gdr)), (lat, .inr (3, [.int 0, .long 0, gla 2, gla 3, gla 4])), (his, .inr (1, [.int 0, .int 0, ghi 2])), (f1, .inr (5, pC 0 0 0 gf1)), (f2, .inr (5, pC 0 0 0 gf2)), (mo, .inr (11, mC 0 0 0 (-1) 0 0 0 0 0 0 as ak ab ar gm)), (as, .inl (cI, 63, .inl (fun _ => 0))), (ak, .inl (cZ, 2, .inl (fun _ => 0))), (ab, .inl (cI, 600, .inl (fun _ => 0))), (ar, .inl (cI, 63, .inl (fun _ => 0)))] H := hP
  have hD : va_D A [(xo, .inr (10, xC inp par pla dra lat his f1 f2 0 0 (-1) gx)), (inp, .inr (2, [.int 0, .int 0, .int 0, .int 0, .int 0, .int 0, .ref byt])), (byt, .inl (cI, 600, .inl (fun _ => 0))), (par, .inr (4, [.ref inp, .ref dra, gpa 2, .int 0, .int 0])), (pla, .inr (5, pC 0 0 0 gpl)), (dra, .inr (5, pC 0 0 0 gdr)), (lat, .inr (3, [.int 0, .long 0, gla 2, gla 3, gla 4])), (his, .inr (1, [.int 0, .int 0, ghi 2])), (f1, .inr (5, pC 0 0 0 gf1)), (f2, .inr (5, pC 0 0 0 gf2)), (mo, .inr (11, mC 0 0 0 (-1) 0 0 0 0 0 0 as ak ab ar gm)), (as, .inl (cI, 63, .inl (fun _ => 0))), (ak, .inl (cZ, 2, .inl (fun _ => 0))), (ab, .inl (cI, 600, .inl (fun _ => 0))), (ar, .inl (cI, 63, .inl (fun _ => 0)))] := hD
  have hP := hP.sub (ws' := [(xo, .inr (10, xC inp par pla dra lat his f1 f2 0 0 (-1) gx)), (pla, .inr (5, pC 0 0 0 gpl)), (mo, .inr (11, mC 0 0 0 (-1) 0 0 0 0 0 0 as ak ab ar gm))]) [0, 4, 10] rfl
  have hD := hD.sub (ws' := [(xo, .inr (10, xC inp par pla dra lat his f1 f2 0 0 (-1) gx)), (pla, .inr (5, pC 0 0 0 gpl)), (mo, .inr (11, mC 0 0 0 (-1) 0 0 0 0 0 0 as ak ab ar gm))]) [0, 4, 10] (by decide) rfl
  refine lv_aload_n hx hb dL_law_1661 rfl (lv_at hl 3 rfl) ?_
  refine lv_aload_n hx hb dL_law_1662 rfl (lv_at hl 4 rfl) ?_
  refine lv_iload hx hb dL_law_1663 (lv_at hl 0 rfl) ?_
  refine lv_iconst (v := 1) hx hb dL_law_1665 (by decide) ?_
  refine lv_iadd hx hb dL_law_1666 ?_
  refine W.eq (g2 := F0 m 1667 ls [.int 1, .ref b, .ref xo]) rfl ?_
  refine va_sld hx hb hX hbl hbA hS (by unfold vp_in; decide) dL_law_1667 ?_
  refine W.eq (g2 := F0 m 1668 ls [.int (xs 1), .ref xo]) rfl ?_
  refine lv_aload_n hx hb dL_law_1668 rfl (lv_at hl 1 rfl) ?_
  refine call_i (wr := [(mo, .inr (11, mC 0 0 0 (-1) 0 0 0 0 0 0 as ak ab ar gm))]) C (run_SW (As := [.ref xo, .int (xs 1), .ref o]) (rest := []) C (h_guardPoint l hlt D cI cZ cJ xo inp par pla dra lat his f1 f2 0 0 (-1) gx gpl (xs 1) o ) cS_L_278 hP hD hS [0, 1] rfl rfl rfl hl.1 rfl (Nat.le_of_ble_eq_true rfl) dL_law_1669 ⟨Nat.le_of_ble_eq_true rfl, Nat.le_of_ble_eq_true rfl⟩ ⟨Nat.le_of_ble_eq_true rfl, Nat.le_of_ble_eq_true rfl⟩) hP hD hS [0, 1] [2] rfl rfl rfl (by decide) (fun u1 H locs hP hD hS => ?_)
  have hP : va_P D CL [(mo, .inr (11, mC 0 0 0 (-1) 0 0 0 0 0 0 as ak ab ar gm)), (xo, .inr (10, xC inp par pla dra lat his f1 f2 0 0 (-1) gx)), (pla, .inr (5, pC 0 0 0 gpl))] H := hP
  have hD : va_D A [(mo, .inr (11, mC 0 0 0 (-1) 0 0 0 0 0 0 as ak ab ar gm)), (xo, .inr (10, xC inp par pla dra lat his f1 f2 0 0 (-1) gx)), (pla, .inr (5, pC 0 0 0 gpl))] := hD
  refine W.widen (k := 2001) (n := 60006) (Nat.le_of_ble_eq_true rfl) (Nat.le_of_ble_eq_true rfl) ?_
  refine W.eq (g2 := F0 m 1672 ls [.int 1]) rfl ?_
  refine lv_istore (lv' := [(5, .int 1), (4, .int 0), (3, .ref o), (2, .ref mo), (1, .ref xo), (0, .ref b)]) hx hb dL_law_1672 hl (by decide) rfl (fun ls hl => ?_)
  refine lv_aload_n hx hb dL_law_1674 rfl (lv_at hl 3 rfl) ?_
  refine lv_aload_n hx hb dL_law_1675 rfl (lv_at hl 5 rfl) ?_
  refine lv_iload hx hb dL_law_1676 (lv_at hl 1 rfl) ?_
  refine lv_iconst (v := 1) hx hb dL_law_1678 (by decide) ?_
  refine lv_iadd hx hb dL_law_1679 ?_
  refine W.eq (g2 := F0 m 1680 ls [.int 1, .ref b, .ref mo]) rfl ?_
  refine va_sld hx hb hX hbl hbA hS (by unfold vp_in; decide) dL_law_1680 ?_
  refine W.eq (g2 := F0 m 1681 ls [.int (xs 1), .ref mo]) rfl ?_
  refine call_i (wr := [(xo, .inr (10, xC inp par pla dra lat his f1 f2 0 0 (-1) gx)), (pla, .inr (5, pC 0 0 0 gpl))]) C (run_V (As := [.int (xs 1)]) (rest := []) C (m_guardPoint l D cI cZ cJ mo 0 0 (-1) 0 0 0 0 0 0 as ak ab ar gm 0 (xs 1) ) cV_L_280 hP hD hS [0] rfl rfl 0 rfl rfl rfl rfl hl.1 rfl (Nat.le_of_ble_eq_true rfl) dL_law_1681 ⟨Nat.le_of_ble_eq_true rfl, Nat.le_of_ble_eq_true rfl⟩ ⟨Nat.le_of_ble_eq_true rfl, Nat.le_of_ble_eq_true rfl⟩) hP hD hS [0] [1, 2] rfl rfl rfl (by decide) (fun u2 H locs hP hD hS => ?_)
  have hP : va_P D CL [(xo, .inr (10, xC inp par pla dra lat his f1 f2 0 0 (-1) gx)), (pla, .inr (5, pC 0 0 0 gpl)), (mo, .inr (11, mC 1 0 0 (-1) 0 0 0 0 0 0 as ak ab ar gm))] H := hP
  have hD : va_D A [(xo, .inr (10, xC inp par pla dra lat his f1 f2 0 0 (-1) gx)), (pla, .inr (5, pC 0 0 0 gpl)), (mo, .inr (11, mC 1 0 0 (-1) 0 0 0 0 0 0 as ak ab ar gm))] := hD
  refine W.widen (k := 2001) (n := 60006) (Nat.le_of_ble_eq_true rfl) (Nat.le_of_ble_eq_true rfl) ?_
  refine W.eq (g2 := F0 m 1684 ls [.int 0]) rfl ?_
  refine lv_istore (lv' := [(6, .int 0), (5, .int 1), (4, .int 0), (3, .ref o), (2, .ref mo), (1, .ref xo), (0, .ref b)]) hx hb dL_law_1684 hl (by decide) rfl (fun ls hl => ?_)
  refine lv_aload_n hx hb dL_law_1686 rfl (lv_at hl 4 rfl) ?_
  refine call_i (wr := [(xo, .inr (10, xC inp par pla dra lat his f1 f2 0 0 (-1) gx)), (pla, .inr (5, pC 0 0 0 gpl))]) C (run_V (As := []) (rest := []) C (m_thrown l D cI cZ cJ mo 0 0 (-1) 0 0 0 0 0 0 as ak ab ar gm 1 ) cV_L_187 hP hD hS [2] rfl rfl 0 rfl rfl rfl rfl hl.1 rfl (Nat.le_of_ble_eq_true rfl) dL_law_1687 ⟨Nat.le_of_ble_eq_true rfl, Nat.le_of_ble_eq_true rfl⟩ ⟨Nat.le_of_ble_eq_true rfl, Nat.le_of_ble_eq_true rfl⟩) hP hD hS [2] [0, 1] rfl rfl rfl (by decide) (fun u3 H locs hP hD hS => ?_)
  have hP : va_P D CL [(xo, .inr (10, xC inp par pla dra lat his f1 f2 0 0 (-1) gx)), (pla, .inr (5, pC 0 0 0 gpl)), (mo, .inr (11, mC 1 0 0 (-1) 0 0 0 0 0 0 as ak ab ar gm))] H := hP
  have hD : va_D A [(xo, .inr (10, xC inp par pla dra lat his f1 f2 0 0 (-1) gx)), (pla, .inr (5, pC 0 0 0 gpl)), (mo, .inr (11, mC 1 0 0 (-1) 0 0 0 0 0 0 as ak ab ar gm))] := hD
  refine W.widen (k := 2001) (n := 60006) (Nat.le_of_ble_eq_true rfl) (Nat.le_of_ble_eq_true rfl) ?_
  refine W.eq (g2 := F0 m 1690 ls [.int 1]) rfl ?_
  refine lv_iload hx hb dL_law_1690 (lv_at hl 1 rfl) ?_
  refine lv_icmp_eq (tgt := 1697) hx hb dL_law_1692 (by decide) (fun _ => ?_) (fun h => absurd (by decide) h)
  refine lv_iload hx hb dL_law_1697 (lv_at hl 1 rfl) ?_
  refine lv_if_ne (tgt := 1714) hx hb dL_law_1699 (by decide) (fun _ => ?_) (fun h => absurd h (by decide))
  refine lv_goto (tgt := 3186) hx hb dL_law_1714 (by decide) ?_
  exact law_exit K hS (lv_sub hl [6, 2] rfl) (Nat.le_of_ble_eq_true rfl) (Nat.le_of_ble_eq_true rfl)
set_option maxHeartbeats 4000000 in
set_option maxRecDepth 100000 in
theorem law_30 {p : Program} {l : Launch} {e : Env} {s : State} {m : MethodId} {below : List Frame} {meth : Method} {c : Code} {b : Nat} {xs : Nat → Int32} {D : va_G} {cI cZ cJ : ClassId} {A : Nat → Prop} (K : LCx p l s m meth c b 6 xs D cI cZ cJ A) {xo inp byt par pla dra lat his f1 f2 mo as ak ab ar o : Nat} {gx gpl gdr gla gf1 gf2 gpa ghi gm : Nat → Value}  {H : Heap} {locs : List Loc} {ls : Array Slot} (hP : va_P D CL (LW cI cZ xo inp byt par pla dra lat his f1 f2 mo as ak ab ar gx gpl gdr gla gf1 gf2 gpa ghi gm) H) (hD : va_D A (LW cI cZ xo inp byt par pla dra lat his f1 f2 mo as ak ab ar gx gpl gdr gla gf1 gf2 gpa ghi gm)) (hS : va_S A s.heap H locs) (hl : lv_has ls 8 [(4, .int 0), (3, .ref o), (2, .ref mo), (1, .ref xo), (0, .ref b)]) : W p l e room_1 s m #[Value.ref b] below meth c H locs 2000 60000 (lw_Z below #[Value.ref b] s) (F0 m 1717 ls []) := by
  obtain ⟨C, hX, hbl, hlt, hAA⟩ := id K
  have hx := C.1
  have hb := C.2.1
  have hbA : ¬ A b := fun h => absurd (hAA b h) (Nat.not_le.mpr hbl)
  have hP : va_P D CL [(xo, .inr (10, xC inp par pla dra lat his f1 f2 0 0 (-1) gx)), (inp, .inr (2, [.int 0, .int 0, .int 0, .int 0, .int 0, .int 0, .ref byt])), (byt, .inl (cI, 600, .inl (fun _ => 0))), (par, .inr (4, [.ref inp, .ref dra, gpa 2, .int 0, .int 0])), (pla, .inr (5, pC 0 0 0 gpl)), (dra, .inr (5, pC 0 0 0 gdr)), (lat, .inr (3, [.int 0, .long 0, gla 2, gla 3, gla 4])), (his, .inr (1, [.int 0, .int 0, ghi 2])), (f1, .inr (5, pC 0 0 0 gf1)), (f2, .inr (5, pC 0 0 0 gf2)), (mo, .inr (11, mC 0 0 0 (-1) 0 0 0 0 0 0 as ak ab ar gm)), (as, .inl (cI, 63, .inl (fun _ => 0))), (ak, .inl (cZ, 2, .inl (fun _ => 0))), (ab, .inl (cI, 600, .inl (fun _ => 0))), (ar, .inl (cI, 63, .inl (fun _ => 0)))] H := hP
  have hD : va_D A [(xo, .inr (10, xC inp par pla dra lat his f1 f2 0 0 (-1) gx)), (inp, .inr (2, [.int 0, .int 0, .int 0, .int 0, .int 0, .int 0, .ref byt])), (byt, .inl (cI, 600, .inl (fun _ => 0))), (par, .inr (4, [.ref inp, .ref dra, gpa 2, .int 0, .int 0])), (pla, .inr (5, pC 0 0 0 gpl)), (dra, .inr (5, pC 0 0 0 gdr)), (lat, .inr (3, [.int 0, .long 0, gla 2, gla 3, gla 4])), (his, .inr (1, [.int 0, .int 0, ghi 2])), (f1, .inr (5, pC 0 0 0 gf1)), (f2, .inr (5, pC 0 0 0 gf2)), (mo, .inr (11, mC 0 0 0 (-1) 0 0 0 0 0 0 as ak ab ar gm)), (as, .inl (cI, 63, .inl (fun _ => 0))), (ak, .inl (cZ, 2, .inl (fun _ => 0))), (ab, .inl (cI, 600, .inl (fun _ => 0))), (ar, .inl (cI, 63, .inl (fun _ => 0)))] := hD
  have hP := hP.sub (ws' := [(xo, .inr (10, xC inp par pla dra lat his f1 f2 0 0 (-1) gx)), (pla, .inr (5, pC 0 0 0 gpl)), (mo, .inr (11, mC 0 0 0 (-1) 0 0 0 0 0 0 as ak ab ar gm))]) [0, 4, 10] rfl
  have hD := hD.sub (ws' := [(xo, .inr (10, xC inp par pla dra lat his f1 f2 0 0 (-1) gx)), (pla, .inr (5, pC 0 0 0 gpl)), (mo, .inr (11, mC 0 0 0 (-1) 0 0 0 0 0 0 as ak ab ar gm))]) [0, 4, 10] (by decide) rfl
  refine lv_aload_n hx hb dL_law_1717 rfl (lv_at hl 3 rfl) ?_
  refine lv_aload_n hx hb dL_law_1718 rfl (lv_at hl 1 rfl) ?_
  refine call_i (wr := [(mo, .inr (11, mC 0 0 0 (-1) 0 0 0 0 0 0 as ak ab ar gm))]) C (run_SW (As := [.ref xo, .ref o]) (rest := []) C (h_witnessNumber l hlt D cI cZ cJ xo inp par pla dra lat his f1 f2 0 0 (-1) gx gpl o ) cS_L_281 hP hD hS [0, 1] rfl rfl rfl hl.1 rfl (Nat.le_of_ble_eq_true rfl) dL_law_1719 ⟨Nat.le_of_ble_eq_true rfl, Nat.le_of_ble_eq_true rfl⟩ ⟨Nat.le_of_ble_eq_true rfl, Nat.le_of_ble_eq_true rfl⟩) hP hD hS [0, 1] [2] rfl rfl rfl (by decide) (fun u1 H locs hP hD hS => ?_)
  have hP : va_P D CL [(mo, .inr (11, mC 0 0 0 (-1) 0 0 0 0 0 0 as ak ab ar gm)), (xo, .inr (10, xC inp par pla dra lat his f1 f2 0 0 (-1) gx)), (pla, .inr (5, pC 0 0 0 gpl))] H := hP
  have hD : va_D A [(mo, .inr (11, mC 0 0 0 (-1) 0 0 0 0 0 0 as ak ab ar gm)), (xo, .inr (10, xC inp par pla dra lat his f1 f2 0 0 (-1) gx)), (pla, .inr (5, pC 0 0 0 gpl))] := hD
  refine W.widen (k := 2001) (n := 60006) (Nat.le_of_ble_eq_true rfl) (Nat.le_of_ble_eq_true rfl) ?_
  refine W.eq (g2 := F0 m 1722 ls [.int 1]) rfl ?_
  refine lv_istore (lv' := [(5, .int 1), (4, .int 0), (3, .ref o), (2, .ref mo), (1, .ref xo), (0, .ref b)]) hx hb dL_law_1722 hl (by decide) rfl (fun ls hl => ?_)
  refine lv_aload_n hx hb dL_law_1724 rfl (lv_at hl 3 rfl) ?_
  refine call_i (wr := [(xo, .inr (10, xC inp par pla dra lat his f1 f2 0 0 (-1) gx)), (pla, .inr (5, pC 0 0 0 gpl))]) C (run_V (As := []) (rest := []) C (m_witnessNumber l D cI cZ cJ mo 0 0 (-1) 0 0 0 0 0 0 as ak ab ar gm 0 ) cV_L_283 hP hD hS [0] rfl rfl 0 rfl rfl rfl rfl hl.1 rfl (Nat.le_of_ble_eq_true rfl) dL_law_1725 ⟨Nat.le_of_ble_eq_true rfl, Nat.le_of_ble_eq_true rfl⟩ ⟨Nat.le_of_ble_eq_true rfl, Nat.le_of_ble_eq_true rfl⟩) hP hD hS [0] [1, 2] rfl rfl rfl (by decide) (fun u2 H locs hP hD hS => ?_)
  have hP : va_P D CL [(xo, .inr (10, xC inp par pla dra lat his f1 f2 0 0 (-1) gx)), (pla, .inr (5, pC 0 0 0 gpl)), (mo, .inr (11, mC 1 0 0 (-1) 0 0 0 0 0 0 as ak ab ar gm))] H := hP
  have hD : va_D A [(xo, .inr (10, xC inp par pla dra lat his f1 f2 0 0 (-1) gx)), (pla, .inr (5, pC 0 0 0 gpl)), (mo, .inr (11, mC 1 0 0 (-1) 0 0 0 0 0 0 as ak ab ar gm))] := hD
  refine W.widen (k := 2001) (n := 60006) (Nat.le_of_ble_eq_true rfl) (Nat.le_of_ble_eq_true rfl) ?_
  refine W.eq (g2 := F0 m 1728 ls [.int 0]) rfl ?_
  refine lv_istore (lv' := [(6, .int 0), (5, .int 1), (4, .int 0), (3, .ref o), (2, .ref mo), (1, .ref xo), (0, .ref b)]) hx hb dL_law_1728 hl (by decide) rfl (fun ls hl => ?_)
  refine lv_aload_n hx hb dL_law_1730 rfl (lv_at hl 4 rfl) ?_
  refine call_i (wr := [(xo, .inr (10, xC inp par pla dra lat his f1 f2 0 0 (-1) gx)), (pla, .inr (5, pC 0 0 0 gpl))]) C (run_V (As := []) (rest := []) C (m_thrown l D cI cZ cJ mo 0 0 (-1) 0 0 0 0 0 0 as ak ab ar gm 1 ) cV_L_187 hP hD hS [2] rfl rfl 0 rfl rfl rfl rfl hl.1 rfl (Nat.le_of_ble_eq_true rfl) dL_law_1731 ⟨Nat.le_of_ble_eq_true rfl, Nat.le_of_ble_eq_true rfl⟩ ⟨Nat.le_of_ble_eq_true rfl, Nat.le_of_ble_eq_true rfl⟩) hP hD hS [2] [0, 1] rfl rfl rfl (by decide) (fun u3 H locs hP hD hS => ?_)
  have hP : va_P D CL [(xo, .inr (10, xC inp par pla dra lat his f1 f2 0 0 (-1) gx)), (pla, .inr (5, pC 0 0 0 gpl)), (mo, .inr (11, mC 1 0 0 (-1) 0 0 0 0 0 0 as ak ab ar gm))] H := hP
  have hD : va_D A [(xo, .inr (10, xC inp par pla dra lat his f1 f2 0 0 (-1) gx)), (pla, .inr (5, pC 0 0 0 gpl)), (mo, .inr (11, mC 1 0 0 (-1) 0 0 0 0 0 0 as ak ab ar gm))] := hD
  refine W.widen (k := 2001) (n := 60006) (Nat.le_of_ble_eq_true rfl) (Nat.le_of_ble_eq_true rfl) ?_
  refine W.eq (g2 := F0 m 1734 ls [.int 1]) rfl ?_
  refine lv_iload hx hb dL_law_1734 (lv_at hl 1 rfl) ?_
  refine lv_icmp_eq (tgt := 1741) hx hb dL_law_1736 (by decide) (fun _ => ?_) (fun h => absurd (by decide) h)
  refine lv_iload hx hb dL_law_1741 (lv_at hl 1 rfl) ?_
  refine lv_if_ne (tgt := 1758) hx hb dL_law_1743 (by decide) (fun _ => ?_) (fun h => absurd h (by decide))
  refine lv_goto (tgt := 3186) hx hb dL_law_1758 (by decide) ?_
  exact law_exit K hS (lv_sub hl [6, 2] rfl) (Nat.le_of_ble_eq_true rfl) (Nat.le_of_ble_eq_true rfl)
set_option maxHeartbeats 4000000 in
set_option maxRecDepth 100000 in
theorem law_31 {p : Program} {l : Launch} {e : Env} {s : State} {m : MethodId} {below : List Frame} {meth : Method} {c : Code} {b : Nat} {xs : Nat → Int32} {D : va_G} {cI cZ cJ : ClassId} {A : Nat → Prop} (K : LCx p l s m meth c b 6 xs D cI cZ cJ A) {xo inp byt par pla dra lat his f1 f2 mo as ak ab ar o : Nat} {gx gpl gdr gla gf1 gf2 gpa ghi gm : Nat → Value}  {H : Heap} {locs : List Loc} {ls : Array Slot} (hP : va_P D CL (LW cI cZ xo inp byt par pla dra lat his f1 f2 mo as ak ab ar gx gpl gdr gla gf1 gf2 gpa ghi gm) H) (hD : va_D A (LW cI cZ xo inp byt par pla dra lat his f1 f2 mo as ak ab ar gx gpl gdr gla gf1 gf2 gpa ghi gm)) (hS : va_S A s.heap H locs) (hl : lv_has ls 8 [(4, .int 0), (3, .ref o), (2, .ref mo), (1, .ref xo), (0, .ref b)]) : W p l e room_1 s m #[Value.ref b] below meth c H locs 2000 60000 (lw_Z below #[Value.ref b] s) (F0 m 1761 ls []) := by
  obtain ⟨C, hX, hbl, hlt, hAA⟩ := id K
  have hx := C.1
  have hb := C.2.1
  have hbA : ¬ A b := fun h => absurd (hAA b h) (Nat.not_le.mpr hbl)
  have hP : va_P D CL [(xo, .inr (10, xC inp par pla dra lat his f1 f2 0 0 (-1) gx)), (inp, .inr (2, [.int 0, .int 0, .int 0, .int 0, .int 0, .int 0, .ref byt])), (byt, .inl (cI, 600, .inl (fun _ => 0))), (par, .inr (4, [.ref inp, .ref dra, gpa 2, .int 0, .int 0])), (pla, .inr (5, pC 0 0 0 gpl)), (dra, .inr (5, pC 0 0 0 gdr)), (lat, .inr (3, [.int 0, .long 0, gla 2, gla 3, gla 4])), (his, .inr (1, [.int 0, .int 0, ghi 2])), (f1, .inr (5, pC 0 0 0 gf1)), (f2, .inr (5, pC 0 0 0 gf2)), (mo, .inr (11, mC 0 0 0 (-1) 0 0 0 0 0 0 as ak ab ar gm)), (as, .inl (cI, 63, .inl (fun _ => 0))), (ak, .inl (cZ, 2, .inl (fun _ => 0))), (ab, .inl (cI, 600, .inl (fun _ => 0))), (ar, .inl (cI, 63, .inl (fun _ => 0)))] H := hP
  have hD : va_D A [(xo, .inr (10, xC inp par pla dra lat his f1 f2 0 0 (-1) gx)), (inp, .inr (2, [.int 0, .int 0, .int 0, .int 0, .int 0, .int 0, .ref byt])), (byt, .inl (cI, 600, .inl (fun _ => 0))), (par, .inr (4, [.ref inp, .ref dra, gpa 2, .int 0, .int 0])), (pla, .inr (5, pC 0 0 0 gpl)), (dra, .inr (5, pC 0 0 0 gdr)), (lat, .inr (3, [.int 0, .long 0, gla 2, gla 3, gla 4])), (his, .inr (1, [.int 0, .int 0, ghi 2])), (f1, .inr (5, pC 0 0 0 gf1)), (f2, .inr (5, pC 0 0 0 gf2)), (mo, .inr (11, mC 0 0 0 (-1) 0 0 0 0 0 0 as ak ab ar gm)), (as, .inl (cI, 63, .inl (fun _ => 0))), (ak, .inl (cZ, 2, .inl (fun _ => 0))), (ab, .inl (cI, 600, .inl (fun _ => 0))), (ar, .inl (cI, 63, .inl (fun _ => 0)))] := hD
  have hP := hP.sub (ws' := [(xo, .inr (10, xC inp par pla dra lat his f1 f2 0 0 (-1) gx)), (pla, .inr (5, pC 0 0 0 gpl)), (mo, .inr (11, mC 0 0 0 (-1) 0 0 0 0 0 0 as ak ab ar gm))]) [0, 4, 10] rfl
  have hD := hD.sub (ws' := [(xo, .inr (10, xC inp par pla dra lat his f1 f2 0 0 (-1) gx)), (pla, .inr (5, pC 0 0 0 gpl)), (mo, .inr (11, mC 0 0 0 (-1) 0 0 0 0 0 0 as ak ab ar gm))]) [0, 4, 10] (by decide) rfl
  refine lv_aload_n hx hb dL_law_1761 rfl (lv_at hl 3 rfl) ?_
  refine lv_aload_n hx hb dL_law_1762 rfl (lv_at hl 4 rfl) ?_
  refine lv_iload hx hb dL_law_1763 (lv_at hl 0 rfl) ?_
  refine lv_iconst (v := 1) hx hb dL_law_1765 (by decide) ?_
  refine lv_iadd hx hb dL_law_1766 ?_
  refine W.eq (g2 := F0 m 1767 ls [.int 1, .ref b, .ref xo]) rfl ?_
  refine va_sld hx hb hX hbl hbA hS (by unfold vp_in; decide) dL_law_1767 ?_
  refine W.eq (g2 := F0 m 1768 ls [.int (xs 1), .ref xo]) rfl ?_
  refine lv_aload_n hx hb dL_law_1768 rfl (lv_at hl 1 rfl) ?_
  refine call_i (wr := [(mo, .inr (11, mC 0 0 0 (-1) 0 0 0 0 0 0 as ak ab ar gm))]) C (run_SW (As := [.ref xo, .int (xs 1), .ref o]) (rest := []) C (h_witness l hlt D cI cZ cJ xo inp par pla dra lat his f1 f2 0 0 (-1) gx gpl (xs 1) o ) cS_L_284 hP hD hS [0, 1] rfl rfl rfl hl.1 rfl (Nat.le_of_ble_eq_true rfl) dL_law_1769 ⟨Nat.le_of_ble_eq_true rfl, Nat.le_of_ble_eq_true rfl⟩ ⟨Nat.le_of_ble_eq_true rfl, Nat.le_of_ble_eq_true rfl⟩) hP hD hS [0, 1] [2] rfl rfl rfl (by decide) (fun u1 H locs hP hD hS => ?_)
  have hP : va_P D CL [(mo, .inr (11, mC 0 0 0 (-1) 0 0 0 0 0 0 as ak ab ar gm)), (xo, .inr (10, xC inp par pla dra lat his f1 f2 0 0 (-1) gx)), (pla, .inr (5, pC 0 0 0 gpl))] H := hP
  have hD : va_D A [(mo, .inr (11, mC 0 0 0 (-1) 0 0 0 0 0 0 as ak ab ar gm)), (xo, .inr (10, xC inp par pla dra lat his f1 f2 0 0 (-1) gx)), (pla, .inr (5, pC 0 0 0 gpl))] := hD
  refine W.widen (k := 2001) (n := 60006) (Nat.le_of_ble_eq_true rfl) (Nat.le_of_ble_eq_true rfl) ?_
  refine W.eq (g2 := F0 m 1772 ls [.int 1]) rfl ?_
  refine lv_istore (lv' := [(5, .int 1), (4, .int 0), (3, .ref o), (2, .ref mo), (1, .ref xo), (0, .ref b)]) hx hb dL_law_1772 hl (by decide) rfl (fun ls hl => ?_)
  refine lv_aload_n hx hb dL_law_1774 rfl (lv_at hl 3 rfl) ?_
  refine lv_aload_n hx hb dL_law_1775 rfl (lv_at hl 5 rfl) ?_
  refine lv_iload hx hb dL_law_1776 (lv_at hl 1 rfl) ?_
  refine lv_iconst (v := 1) hx hb dL_law_1778 (by decide) ?_
  refine lv_iadd hx hb dL_law_1779 ?_
  refine W.eq (g2 := F0 m 1780 ls [.int 1, .ref b, .ref mo]) rfl ?_
  refine va_sld hx hb hX hbl hbA hS (by unfold vp_in; decide) dL_law_1780 ?_
  refine W.eq (g2 := F0 m 1781 ls [.int (xs 1), .ref mo]) rfl ?_
  refine call_i (wr := [(xo, .inr (10, xC inp par pla dra lat his f1 f2 0 0 (-1) gx)), (pla, .inr (5, pC 0 0 0 gpl))]) C (run_V (As := [.int (xs 1)]) (rest := []) C (m_witness l D cI cZ cJ mo 0 0 (-1) 0 0 0 0 0 0 as ak ab ar gm 0 (xs 1) ) cV_L_286 hP hD hS [0] rfl rfl 0 rfl rfl rfl rfl hl.1 rfl (Nat.le_of_ble_eq_true rfl) dL_law_1781 ⟨Nat.le_of_ble_eq_true rfl, Nat.le_of_ble_eq_true rfl⟩ ⟨Nat.le_of_ble_eq_true rfl, Nat.le_of_ble_eq_true rfl⟩) hP hD hS [0] [1, 2] rfl rfl rfl (by decide) (fun u2 H locs hP hD hS => ?_)
  have hP : va_P D CL [(xo, .inr (10, xC inp par pla dra lat his f1 f2 0 0 (-1) gx)), (pla, .inr (5, pC 0 0 0 gpl)), (mo, .inr (11, mC 1 0 0 (-1) 0 0 0 0 0 0 as ak ab ar gm))] H := hP
  have hD : va_D A [(xo, .inr (10, xC inp par pla dra lat his f1 f2 0 0 (-1) gx)), (pla, .inr (5, pC 0 0 0 gpl)), (mo, .inr (11, mC 1 0 0 (-1) 0 0 0 0 0 0 as ak ab ar gm))] := hD
  refine W.widen (k := 2001) (n := 60006) (Nat.le_of_ble_eq_true rfl) (Nat.le_of_ble_eq_true rfl) ?_
  refine W.eq (g2 := F0 m 1784 ls [.int 0]) rfl ?_
  refine lv_istore (lv' := [(6, .int 0), (5, .int 1), (4, .int 0), (3, .ref o), (2, .ref mo), (1, .ref xo), (0, .ref b)]) hx hb dL_law_1784 hl (by decide) rfl (fun ls hl => ?_)
  refine lv_aload_n hx hb dL_law_1786 rfl (lv_at hl 4 rfl) ?_
  refine call_i (wr := [(xo, .inr (10, xC inp par pla dra lat his f1 f2 0 0 (-1) gx)), (pla, .inr (5, pC 0 0 0 gpl))]) C (run_V (As := []) (rest := []) C (m_thrown l D cI cZ cJ mo 0 0 (-1) 0 0 0 0 0 0 as ak ab ar gm 1 ) cV_L_187 hP hD hS [2] rfl rfl 0 rfl rfl rfl rfl hl.1 rfl (Nat.le_of_ble_eq_true rfl) dL_law_1787 ⟨Nat.le_of_ble_eq_true rfl, Nat.le_of_ble_eq_true rfl⟩ ⟨Nat.le_of_ble_eq_true rfl, Nat.le_of_ble_eq_true rfl⟩) hP hD hS [2] [0, 1] rfl rfl rfl (by decide) (fun u3 H locs hP hD hS => ?_)
  have hP : va_P D CL [(xo, .inr (10, xC inp par pla dra lat his f1 f2 0 0 (-1) gx)), (pla, .inr (5, pC 0 0 0 gpl)), (mo, .inr (11, mC 1 0 0 (-1) 0 0 0 0 0 0 as ak ab ar gm))] H := hP
  have hD : va_D A [(xo, .inr (10, xC inp par pla dra lat his f1 f2 0 0 (-1) gx)), (pla, .inr (5, pC 0 0 0 gpl)), (mo, .inr (11, mC 1 0 0 (-1) 0 0 0 0 0 0 as ak ab ar gm))] := hD
  refine W.widen (k := 2001) (n := 60006) (Nat.le_of_ble_eq_true rfl) (Nat.le_of_ble_eq_true rfl) ?_
  refine W.eq (g2 := F0 m 1790 ls [.int 1]) rfl ?_
  refine lv_iload hx hb dL_law_1790 (lv_at hl 1 rfl) ?_
  refine lv_icmp_eq (tgt := 1797) hx hb dL_law_1792 (by decide) (fun _ => ?_) (fun h => absurd (by decide) h)
  refine lv_iload hx hb dL_law_1797 (lv_at hl 1 rfl) ?_
  refine lv_if_ne (tgt := 1814) hx hb dL_law_1799 (by decide) (fun _ => ?_) (fun h => absurd h (by decide))
  refine lv_goto (tgt := 3186) hx hb dL_law_1814 (by decide) ?_
  exact law_exit K hS (lv_sub hl [6, 2] rfl) (Nat.le_of_ble_eq_true rfl) (Nat.le_of_ble_eq_true rfl)
set_option maxHeartbeats 4000000 in
set_option maxRecDepth 100000 in
theorem law_32 {p : Program} {l : Launch} {e : Env} {s : State} {m : MethodId} {below : List Frame} {meth : Method} {c : Code} {b : Nat} {xs : Nat → Int32} {D : va_G} {cI cZ cJ : ClassId} {A : Nat → Prop} (K : LCx p l s m meth c b 6 xs D cI cZ cJ A) {xo inp byt par pla dra lat his f1 f2 mo as ak ab ar o : Nat} {gx gpl gdr gla gf1 gf2 gpa ghi gm : Nat → Value}  {H : Heap} {locs : List Loc} {ls : Array Slot} (hP : va_P D CL (LW cI cZ xo inp byt par pla dra lat his f1 f2 mo as ak ab ar gx gpl gdr gla gf1 gf2 gpa ghi gm) H) (hD : va_D A (LW cI cZ xo inp byt par pla dra lat his f1 f2 mo as ak ab ar gx gpl gdr gla gf1 gf2 gpa ghi gm)) (hS : va_S A s.heap H locs) (hl : lv_has ls 8 [(4, .int 0), (3, .ref o), (2, .ref mo), (1, .ref xo), (0, .ref b)]) : W p l e room_1 s m #[Value.ref b] below meth c H locs 2000 60000 (lw_Z below #[Value.ref b] s) (F0 m 1817 ls []) := by
  obtain ⟨C, hX, hbl, hlt, hAA⟩ := id K
  have hx := C.1
  have hb := C.2.1
  have hbA : ¬ A b := fun h => absurd (hAA b h) (Nat.not_le.mpr hbl)
  have hP : va_P D CL [(xo, .inr (10, xC inp par pla dra lat his f1 f2 0 0 (-1) gx)), (inp, .inr (2, [.int 0, .int 0, .int 0, .int 0, .int 0, .int 0, .ref byt])), (byt, .inl (cI, 600, .inl (fun _ => 0))), (par, .inr (4, [.ref inp, .ref dra, gpa 2, .int 0, .int 0])), (pla, .inr (5, pC 0 0 0 gpl)), (dra, .inr (5, pC 0 0 0 gdr)), (lat, .inr (3, [.int 0, .long 0, gla 2, gla 3, gla 4])), (his, .inr (1, [.int 0, .int 0, ghi 2])), (f1, .inr (5, pC 0 0 0 gf1)), (f2, .inr (5, pC 0 0 0 gf2)), (mo, .inr (11, mC 0 0 0 (-1) 0 0 0 0 0 0 as ak ab ar gm)), (as, .inl (cI, 63, .inl (fun _ => 0))), (ak, .inl (cZ, 2, .inl (fun _ => 0))), (ab, .inl (cI, 600, .inl (fun _ => 0))), (ar, .inl (cI, 63, .inl (fun _ => 0)))] H := hP
  have hD : va_D A [(xo, .inr (10, xC inp par pla dra lat his f1 f2 0 0 (-1) gx)), (inp, .inr (2, [.int 0, .int 0, .int 0, .int 0, .int 0, .int 0, .ref byt])), (byt, .inl (cI, 600, .inl (fun _ => 0))), (par, .inr (4, [.ref inp, .ref dra, gpa 2, .int 0, .int 0])), (pla, .inr (5, pC 0 0 0 gpl)), (dra, .inr (5, pC 0 0 0 gdr)), (lat, .inr (3, [.int 0, .long 0, gla 2, gla 3, gla 4])), (his, .inr (1, [.int 0, .int 0, ghi 2])), (f1, .inr (5, pC 0 0 0 gf1)), (f2, .inr (5, pC 0 0 0 gf2)), (mo, .inr (11, mC 0 0 0 (-1) 0 0 0 0 0 0 as ak ab ar gm)), (as, .inl (cI, 63, .inl (fun _ => 0))), (ak, .inl (cZ, 2, .inl (fun _ => 0))), (ab, .inl (cI, 600, .inl (fun _ => 0))), (ar, .inl (cI, 63, .inl (fun _ => 0)))] := hD
  have hP := hP.sub (ws' := [(xo, .inr (10, xC inp par pla dra lat his f1 f2 0 0 (-1) gx)), (pla, .inr (5, pC 0 0 0 gpl)), (mo, .inr (11, mC 0 0 0 (-1) 0 0 0 0 0 0 as ak ab ar gm))]) [0, 4, 10] rfl
  have hD := hD.sub (ws' := [(xo, .inr (10, xC inp par pla dra lat his f1 f2 0 0 (-1) gx)), (pla, .inr (5, pC 0 0 0 gpl)), (mo, .inr (11, mC 0 0 0 (-1) 0 0 0 0 0 0 as ak ab ar gm))]) [0, 4, 10] (by decide) rfl
  refine lv_aload_n hx hb dL_law_1817 rfl (lv_at hl 3 rfl) ?_
  refine lv_aload_n hx hb dL_law_1818 rfl (lv_at hl 1 rfl) ?_
  refine call_i (wr := [(mo, .inr (11, mC 0 0 0 (-1) 0 0 0 0 0 0 as ak ab ar gm))]) C (run_SW (As := [.ref xo, .ref o]) (rest := []) C (h_hiddenNumber l hlt D cI cZ cJ xo inp par pla dra lat his f1 f2 0 0 (-1) gx gpl o ) cS_L_287 hP hD hS [0, 1] rfl rfl rfl hl.1 rfl (Nat.le_of_ble_eq_true rfl) dL_law_1819 ⟨Nat.le_of_ble_eq_true rfl, Nat.le_of_ble_eq_true rfl⟩ ⟨Nat.le_of_ble_eq_true rfl, Nat.le_of_ble_eq_true rfl⟩) hP hD hS [0, 1] [2] rfl rfl rfl (by decide) (fun u1 H locs hP hD hS => ?_)
  have hP : va_P D CL [(mo, .inr (11, mC 0 0 0 (-1) 0 0 0 0 0 0 as ak ab ar gm)), (xo, .inr (10, xC inp par pla dra lat his f1 f2 0 0 (-1) gx)), (pla, .inr (5, pC 0 0 0 gpl))] H := hP
  have hD : va_D A [(mo, .inr (11, mC 0 0 0 (-1) 0 0 0 0 0 0 as ak ab ar gm)), (xo, .inr (10, xC inp par pla dra lat his f1 f2 0 0 (-1) gx)), (pla, .inr (5, pC 0 0 0 gpl))] := hD
  refine W.widen (k := 2001) (n := 60006) (Nat.le_of_ble_eq_true rfl) (Nat.le_of_ble_eq_true rfl) ?_
  refine W.eq (g2 := F0 m 1822 ls [.int 1]) rfl ?_
  refine lv_istore (lv' := [(5, .int 1), (4, .int 0), (3, .ref o), (2, .ref mo), (1, .ref xo), (0, .ref b)]) hx hb dL_law_1822 hl (by decide) rfl (fun ls hl => ?_)
  refine lv_aload_n hx hb dL_law_1824 rfl (lv_at hl 3 rfl) ?_
  refine call_i (wr := [(xo, .inr (10, xC inp par pla dra lat his f1 f2 0 0 (-1) gx)), (pla, .inr (5, pC 0 0 0 gpl))]) C (run_V (As := []) (rest := []) C (m_hiddenNumber l D cI cZ cJ mo 0 0 (-1) 0 0 0 0 0 0 as ak ab ar gm 0 ) cV_L_289 hP hD hS [0] rfl rfl 0 rfl rfl rfl rfl hl.1 rfl (Nat.le_of_ble_eq_true rfl) dL_law_1825 ⟨Nat.le_of_ble_eq_true rfl, Nat.le_of_ble_eq_true rfl⟩ ⟨Nat.le_of_ble_eq_true rfl, Nat.le_of_ble_eq_true rfl⟩) hP hD hS [0] [1, 2] rfl rfl rfl (by decide) (fun u2 H locs hP hD hS => ?_)
  have hP : va_P D CL [(xo, .inr (10, xC inp par pla dra lat his f1 f2 0 0 (-1) gx)), (pla, .inr (5, pC 0 0 0 gpl)), (mo, .inr (11, mC 1 0 0 (-1) 0 0 0 0 0 0 as ak ab ar gm))] H := hP
  have hD : va_D A [(xo, .inr (10, xC inp par pla dra lat his f1 f2 0 0 (-1) gx)), (pla, .inr (5, pC 0 0 0 gpl)), (mo, .inr (11, mC 1 0 0 (-1) 0 0 0 0 0 0 as ak ab ar gm))] := hD
  refine W.widen (k := 2001) (n := 60006) (Nat.le_of_ble_eq_true rfl) (Nat.le_of_ble_eq_true rfl) ?_
  refine W.eq (g2 := F0 m 1828 ls [.int 0]) rfl ?_
  refine lv_istore (lv' := [(6, .int 0), (5, .int 1), (4, .int 0), (3, .ref o), (2, .ref mo), (1, .ref xo), (0, .ref b)]) hx hb dL_law_1828 hl (by decide) rfl (fun ls hl => ?_)
  refine lv_aload_n hx hb dL_law_1830 rfl (lv_at hl 4 rfl) ?_
  refine call_i (wr := [(xo, .inr (10, xC inp par pla dra lat his f1 f2 0 0 (-1) gx)), (pla, .inr (5, pC 0 0 0 gpl))]) C (run_V (As := []) (rest := []) C (m_thrown l D cI cZ cJ mo 0 0 (-1) 0 0 0 0 0 0 as ak ab ar gm 1 ) cV_L_187 hP hD hS [2] rfl rfl 0 rfl rfl rfl rfl hl.1 rfl (Nat.le_of_ble_eq_true rfl) dL_law_1831 ⟨Nat.le_of_ble_eq_true rfl, Nat.le_of_ble_eq_true rfl⟩ ⟨Nat.le_of_ble_eq_true rfl, Nat.le_of_ble_eq_true rfl⟩) hP hD hS [2] [0, 1] rfl rfl rfl (by decide) (fun u3 H locs hP hD hS => ?_)
  have hP : va_P D CL [(xo, .inr (10, xC inp par pla dra lat his f1 f2 0 0 (-1) gx)), (pla, .inr (5, pC 0 0 0 gpl)), (mo, .inr (11, mC 1 0 0 (-1) 0 0 0 0 0 0 as ak ab ar gm))] H := hP
  have hD : va_D A [(xo, .inr (10, xC inp par pla dra lat his f1 f2 0 0 (-1) gx)), (pla, .inr (5, pC 0 0 0 gpl)), (mo, .inr (11, mC 1 0 0 (-1) 0 0 0 0 0 0 as ak ab ar gm))] := hD
  refine W.widen (k := 2001) (n := 60006) (Nat.le_of_ble_eq_true rfl) (Nat.le_of_ble_eq_true rfl) ?_
  refine W.eq (g2 := F0 m 1834 ls [.int 1]) rfl ?_
  refine lv_iload hx hb dL_law_1834 (lv_at hl 1 rfl) ?_
  refine lv_icmp_eq (tgt := 1841) hx hb dL_law_1836 (by decide) (fun _ => ?_) (fun h => absurd (by decide) h)
  refine lv_iload hx hb dL_law_1841 (lv_at hl 1 rfl) ?_
  refine lv_if_ne (tgt := 1858) hx hb dL_law_1843 (by decide) (fun _ => ?_) (fun h => absurd h (by decide))
  refine lv_goto (tgt := 3186) hx hb dL_law_1858 (by decide) ?_
  exact law_exit K hS (lv_sub hl [6, 2] rfl) (Nat.le_of_ble_eq_true rfl) (Nat.le_of_ble_eq_true rfl)
set_option maxHeartbeats 4000000 in
set_option maxRecDepth 100000 in
theorem law_33 {p : Program} {l : Launch} {e : Env} {s : State} {m : MethodId} {below : List Frame} {meth : Method} {c : Code} {b : Nat} {xs : Nat → Int32} {D : va_G} {cI cZ cJ : ClassId} {A : Nat → Prop} (K : LCx p l s m meth c b 6 xs D cI cZ cJ A) {xo inp byt par pla dra lat his f1 f2 mo as ak ab ar o : Nat} {gx gpl gdr gla gf1 gf2 gpa ghi gm : Nat → Value}  {H : Heap} {locs : List Loc} {ls : Array Slot} (hP : va_P D CL (LW cI cZ xo inp byt par pla dra lat his f1 f2 mo as ak ab ar gx gpl gdr gla gf1 gf2 gpa ghi gm) H) (hD : va_D A (LW cI cZ xo inp byt par pla dra lat his f1 f2 mo as ak ab ar gx gpl gdr gla gf1 gf2 gpa ghi gm)) (hS : va_S A s.heap H locs) (hl : lv_has ls 8 [(4, .int 0), (3, .ref o), (2, .ref mo), (1, .ref xo), (0, .ref b)]) : W p l e room_1 s m #[Value.ref b] below meth c H locs 2000 60000 (lw_Z below #[Value.ref b] s) (F0 m 1861 ls []) := by
  obtain ⟨C, hX, hbl, hlt, hAA⟩ := id K
  have hx := C.1
  have hb := C.2.1
  have hbA : ¬ A b := fun h => absurd (hAA b h) (Nat.not_le.mpr hbl)
  have hP : va_P D CL [(xo, .inr (10, xC inp par pla dra lat his f1 f2 0 0 (-1) gx)), (inp, .inr (2, [.int 0, .int 0, .int 0, .int 0, .int 0, .int 0, .ref byt])), (byt, .inl (cI, 600, .inl (fun _ => 0))), (par, .inr (4, [.ref inp, .ref dra, gpa 2, .int 0, .int 0])), (pla, .inr (5, pC 0 0 0 gpl)), (dra, .inr (5, pC 0 0 0 gdr)), (lat, .inr (3, [.int 0, .long 0, gla 2, gla 3, gla 4])), (his, .inr (1, [.int 0, .int 0, ghi 2])), (f1, .inr (5, pC 0 0 0 gf1)), (f2, .inr (5, pC 0 0 0 gf2)), (mo, .inr (11, mC 0 0 0 (-1) 0 0 0 0 0 0 as ak ab ar gm)), (as, .inl (cI, 63, .inl (fun _ => 0))), (ak, .inl (cZ, 2, .inl (fun _ => 0))), (ab, .inl (cI, 600, .inl (fun _ => 0))), (ar, .inl (cI, 63, .inl (fun _ => 0)))] H := hP
  have hD : va_D A [(xo, .inr (10, xC inp par pla dra lat his f1 f2 0 0 (-1) gx)), (inp, .inr (2, [.int 0, .int 0, .int 0, .int 0, .int 0, .int 0, .ref byt])), (byt, .inl (cI, 600, .inl (fun _ => 0))), (par, .inr (4, [.ref inp, .ref dra, gpa 2, .int 0, .int 0])), (pla, .inr (5, pC 0 0 0 gpl)), (dra, .inr (5, pC 0 0 0 gdr)), (lat, .inr (3, [.int 0, .long 0, gla 2, gla 3, gla 4])), (his, .inr (1, [.int 0, .int 0, ghi 2])), (f1, .inr (5, pC 0 0 0 gf1)), (f2, .inr (5, pC 0 0 0 gf2)), (mo, .inr (11, mC 0 0 0 (-1) 0 0 0 0 0 0 as ak ab ar gm)), (as, .inl (cI, 63, .inl (fun _ => 0))), (ak, .inl (cZ, 2, .inl (fun _ => 0))), (ab, .inl (cI, 600, .inl (fun _ => 0))), (ar, .inl (cI, 63, .inl (fun _ => 0)))] := hD
  have hP := hP.sub (ws' := [(xo, .inr (10, xC inp par pla dra lat his f1 f2 0 0 (-1) gx)), (pla, .inr (5, pC 0 0 0 gpl)), (mo, .inr (11, mC 0 0 0 (-1) 0 0 0 0 0 0 as ak ab ar gm)), (as, .inl (cI, 63, .inl (fun _ => 0)))]) [0, 4, 10, 11] rfl
  have hD := hD.sub (ws' := [(xo, .inr (10, xC inp par pla dra lat his f1 f2 0 0 (-1) gx)), (pla, .inr (5, pC 0 0 0 gpl)), (mo, .inr (11, mC 0 0 0 (-1) 0 0 0 0 0 0 as ak ab ar gm)), (as, .inl (cI, 63, .inl (fun _ => 0)))]) [0, 4, 10, 11] (by decide) rfl
  refine lv_aload_n hx hb dL_law_1861 rfl (lv_at hl 3 rfl) ?_
  refine call_i (wr := [(mo, .inr (11, mC 0 0 0 (-1) 0 0 0 0 0 0 as ak ab ar gm)), (as, .inl (cI, 63, .inl (fun _ => 0)))]) C (run_V (As := []) (rest := []) C (k_guards l D cI cZ cJ xo inp par pla dra lat his f1 f2 0 0 (-1) gx gpl ) cV_L_290 hP hD hS [0, 1] rfl rfl 0 rfl rfl rfl rfl hl.1 rfl (Nat.le_of_ble_eq_true rfl) dL_law_1862 ⟨Nat.le_of_ble_eq_true rfl, Nat.le_of_ble_eq_true rfl⟩ ⟨Nat.le_of_ble_eq_true rfl, Nat.le_of_ble_eq_true rfl⟩) hP hD hS [0, 1] [2, 3] rfl rfl rfl (by decide) (fun u1 H locs hP hD hS => ?_)
  have hP : va_P D CL [(mo, .inr (11, mC 0 0 0 (-1) 0 0 0 0 0 0 as ak ab ar gm)), (as, .inl (cI, 63, .inl (fun _ => 0))), (xo, .inr (10, xC inp par pla dra lat his f1 f2 0 0 (-1) gx)), (pla, .inr (5, pC 0 0 0 gpl))] H := hP
  have hD : va_D A [(mo, .inr (11, mC 0 0 0 (-1) 0 0 0 0 0 0 as ak ab ar gm)), (as, .inl (cI, 63, .inl (fun _ => 0))), (xo, .inr (10, xC inp par pla dra lat his f1 f2 0 0 (-1) gx)), (pla, .inr (5, pC 0 0 0 gpl))] := hD
  refine W.widen (k := 2000) (n := 60000) (Nat.le_of_ble_eq_true rfl) (Nat.le_of_ble_eq_true rfl) ?_
  refine W.eq (g2 := F0 m 1865 ls [.int 0]) rfl ?_
  refine lv_aload_n hx hb dL_law_1865 rfl (lv_at hl 2 rfl) ?_
  refine call_i (wr := [(xo, .inr (10, xC inp par pla dra lat his f1 f2 0 0 (-1) gx)), (pla, .inr (5, pC 0 0 0 gpl))]) C (run_V (As := []) (rest := [.int 0]) C (m_guards l D cI cZ cJ mo 0 0 (-1) 0 0 0 0 0 0 as ak ab ar gm 0 (fun _ => 0) ) cV_L_293 hP hD hS [0, 1] rfl rfl 0 rfl rfl rfl rfl hl.1 rfl (Nat.le_of_ble_eq_true rfl) dL_law_1866 ⟨Nat.le_of_ble_eq_true rfl, Nat.le_of_ble_eq_true rfl⟩ ⟨Nat.le_of_ble_eq_true rfl, Nat.le_of_ble_eq_true rfl⟩) hP hD hS [0, 1] [2, 3] rfl rfl rfl (by decide) (fun u2 H locs hP hD hS => ?_)
  have hP : va_P D CL [(xo, .inr (10, xC inp par pla dra lat his f1 f2 0 0 (-1) gx)), (pla, .inr (5, pC 0 0 0 gpl)), (as, .inl (cI, 63, .inl (fun _ => 0))), (mo, .inr (11, mC 0 0 0 (-1) 0 0 0 0 0 0 as ak ab ar gm))] H := hP
  have hD : va_D A [(xo, .inr (10, xC inp par pla dra lat his f1 f2 0 0 (-1) gx)), (pla, .inr (5, pC 0 0 0 gpl)), (as, .inl (cI, 63, .inl (fun _ => 0))), (mo, .inr (11, mC 0 0 0 (-1) 0 0 0 0 0 0 as ak ab ar gm))] := hD
  refine W.widen (k := 2000) (n := 60000) (Nat.le_of_ble_eq_true rfl) (Nat.le_of_ble_eq_true rfl) ?_
  refine W.eq (g2 := F0 m 1869 ls [.int 0, .int 0]) rfl ?_
  refine lv_icmp_eq (tgt := 3186) hx hb dL_law_1869 (by decide) (fun _ => ?_) (fun h => absurd (by decide) h)
  exact law_exit K hS (lv_sub hl [4, 0] rfl) (Nat.le_of_ble_eq_true rfl) (Nat.le_of_ble_eq_true rfl)
set_option maxHeartbeats 4000000 in
set_option maxRecDepth 100000 in
theorem law_34 {p : Program} {l : Launch} {e : Env} {s : State} {m : MethodId} {below : List Frame} {meth : Method} {c : Code} {b : Nat} {xs : Nat → Int32} {D : va_G} {cI cZ cJ : ClassId} {A : Nat → Prop} (K : LCx p l s m meth c b 6 xs D cI cZ cJ A) {xo inp byt par pla dra lat his f1 f2 mo as ak ab ar o : Nat} {gx gpl gdr gla gf1 gf2 gpa ghi gm : Nat → Value}  {H : Heap} {locs : List Loc} {ls : Array Slot} (hP : va_P D CL (LW cI cZ xo inp byt par pla dra lat his f1 f2 mo as ak ab ar gx gpl gdr gla gf1 gf2 gpa ghi gm) H) (hD : va_D A (LW cI cZ xo inp byt par pla dra lat his f1 f2 mo as ak ab ar gx gpl gdr gla gf1 gf2 gpa ghi gm)) (hS : va_S A s.heap H locs) (hl : lv_has ls 8 [(4, .int 0), (3, .ref o), (2, .ref mo), (1, .ref xo), (0, .ref b)]) : W p l e room_1 s m #[Value.ref b] below meth c H locs 2000 60000 (lw_Z below #[Value.ref b] s) (F0 m 1874 ls []) := by
  obtain ⟨C, hX, hbl, hlt, hAA⟩ := id K
  have hx := C.1
  have hb := C.2.1
  have hbA : ¬ A b := fun h => absurd (hAA b h) (Nat.not_le.mpr hbl)
  have hP : va_P D CL [(xo, .inr (10, xC inp par pla dra lat his f1 f2 0 0 (-1) gx)), (inp, .inr (2, [.int 0, .int 0, .int 0, .int 0, .int 0, .int 0, .ref byt])), (byt, .inl (cI, 600, .inl (fun _ => 0))), (par, .inr (4, [.ref inp, .ref dra, gpa 2, .int 0, .int 0])), (pla, .inr (5, pC 0 0 0 gpl)), (dra, .inr (5, pC 0 0 0 gdr)), (lat, .inr (3, [.int 0, .long 0, gla 2, gla 3, gla 4])), (his, .inr (1, [.int 0, .int 0, ghi 2])), (f1, .inr (5, pC 0 0 0 gf1)), (f2, .inr (5, pC 0 0 0 gf2)), (mo, .inr (11, mC 0 0 0 (-1) 0 0 0 0 0 0 as ak ab ar gm)), (as, .inl (cI, 63, .inl (fun _ => 0))), (ak, .inl (cZ, 2, .inl (fun _ => 0))), (ab, .inl (cI, 600, .inl (fun _ => 0))), (ar, .inl (cI, 63, .inl (fun _ => 0)))] H := hP
  have hD : va_D A [(xo, .inr (10, xC inp par pla dra lat his f1 f2 0 0 (-1) gx)), (inp, .inr (2, [.int 0, .int 0, .int 0, .int 0, .int 0, .int 0, .ref byt])), (byt, .inl (cI, 600, .inl (fun _ => 0))), (par, .inr (4, [.ref inp, .ref dra, gpa 2, .int 0, .int 0])), (pla, .inr (5, pC 0 0 0 gpl)), (dra, .inr (5, pC 0 0 0 gdr)), (lat, .inr (3, [.int 0, .long 0, gla 2, gla 3, gla 4])), (his, .inr (1, [.int 0, .int 0, ghi 2])), (f1, .inr (5, pC 0 0 0 gf1)), (f2, .inr (5, pC 0 0 0 gf2)), (mo, .inr (11, mC 0 0 0 (-1) 0 0 0 0 0 0 as ak ab ar gm)), (as, .inl (cI, 63, .inl (fun _ => 0))), (ak, .inl (cZ, 2, .inl (fun _ => 0))), (ab, .inl (cI, 600, .inl (fun _ => 0))), (ar, .inl (cI, 63, .inl (fun _ => 0)))] := hD
  have hP := hP.sub (ws' := [(xo, .inr (10, xC inp par pla dra lat his f1 f2 0 0 (-1) gx)), (pla, .inr (5, pC 0 0 0 gpl)), (mo, .inr (11, mC 0 0 0 (-1) 0 0 0 0 0 0 as ak ab ar gm))]) [0, 4, 10] rfl
  have hD := hD.sub (ws' := [(xo, .inr (10, xC inp par pla dra lat his f1 f2 0 0 (-1) gx)), (pla, .inr (5, pC 0 0 0 gpl)), (mo, .inr (11, mC 0 0 0 (-1) 0 0 0 0 0 0 as ak ab ar gm))]) [0, 4, 10] (by decide) rfl
  refine lv_aload_n hx hb dL_law_1874 rfl (lv_at hl 3 rfl) ?_
  refine lv_aload_n hx hb dL_law_1875 rfl (lv_at hl 4 rfl) ?_
  refine lv_iload hx hb dL_law_1876 (lv_at hl 0 rfl) ?_
  refine lv_iconst (v := 1) hx hb dL_law_1878 (by decide) ?_
  refine lv_iadd hx hb dL_law_1879 ?_
  refine W.eq (g2 := F0 m 1880 ls [.int 1, .ref b, .ref xo]) rfl ?_
  refine va_sld hx hb hX hbl hbA hS (by unfold vp_in; decide) dL_law_1880 ?_
  refine W.eq (g2 := F0 m 1881 ls [.int (xs 1), .ref xo]) rfl ?_
  refine lv_aload_n hx hb dL_law_1881 rfl (lv_at hl 1 rfl) ?_
  refine call_i (wr := [(mo, .inr (11, mC 0 0 0 (-1) 0 0 0 0 0 0 as ak ab ar gm))]) C (run_SW (As := [.ref xo, .int (xs 1), .ref o]) (rest := []) C (h_guardAt l hlt D cI cZ cJ xo inp par pla dra lat his f1 f2 0 0 (-1) gx gpl (xs 1) o ) cS_L_294 hP hD hS [0, 1] rfl rfl rfl hl.1 rfl (Nat.le_of_ble_eq_true rfl) dL_law_1882 ⟨Nat.le_of_ble_eq_true rfl, Nat.le_of_ble_eq_true rfl⟩ ⟨Nat.le_of_ble_eq_true rfl, Nat.le_of_ble_eq_true rfl⟩) hP hD hS [0, 1] [2] rfl rfl rfl (by decide) (fun u1 H locs hP hD hS => ?_)
  have hP : va_P D CL [(mo, .inr (11, mC 0 0 0 (-1) 0 0 0 0 0 0 as ak ab ar gm)), (xo, .inr (10, xC inp par pla dra lat his f1 f2 0 0 (-1) gx)), (pla, .inr (5, pC 0 0 0 gpl))] H := hP
  have hD : va_D A [(mo, .inr (11, mC 0 0 0 (-1) 0 0 0 0 0 0 as ak ab ar gm)), (xo, .inr (10, xC inp par pla dra lat his f1 f2 0 0 (-1) gx)), (pla, .inr (5, pC 0 0 0 gpl))] := hD
  refine W.widen (k := 2001) (n := 60006) (Nat.le_of_ble_eq_true rfl) (Nat.le_of_ble_eq_true rfl) ?_
  refine W.eq (g2 := F0 m 1885 ls [.int 1]) rfl ?_
  refine lv_istore (lv' := [(5, .int 1), (4, .int 0), (3, .ref o), (2, .ref mo), (1, .ref xo), (0, .ref b)]) hx hb dL_law_1885 hl (by decide) rfl (fun ls hl => ?_)
  refine lv_aload_n hx hb dL_law_1887 rfl (lv_at hl 3 rfl) ?_
  refine lv_aload_n hx hb dL_law_1888 rfl (lv_at hl 5 rfl) ?_
  refine lv_iload hx hb dL_law_1889 (lv_at hl 1 rfl) ?_
  refine lv_iconst (v := 1) hx hb dL_law_1891 (by decide) ?_
  refine lv_iadd hx hb dL_law_1892 ?_
  refine W.eq (g2 := F0 m 1893 ls [.int 1, .ref b, .ref mo]) rfl ?_
  refine va_sld hx hb hX hbl hbA hS (by unfold vp_in; decide) dL_law_1893 ?_
  refine W.eq (g2 := F0 m 1894 ls [.int (xs 1), .ref mo]) rfl ?_
  refine call_i (wr := [(xo, .inr (10, xC inp par pla dra lat his f1 f2 0 0 (-1) gx)), (pla, .inr (5, pC 0 0 0 gpl))]) C (run_V (As := [.int (xs 1)]) (rest := []) C (m_guardAt l D cI cZ cJ mo 0 0 (-1) 0 0 0 0 0 0 as ak ab ar gm 0 (xs 1) ) cV_L_296 hP hD hS [0] rfl rfl 0 rfl rfl rfl rfl hl.1 rfl (Nat.le_of_ble_eq_true rfl) dL_law_1894 ⟨Nat.le_of_ble_eq_true rfl, Nat.le_of_ble_eq_true rfl⟩ ⟨Nat.le_of_ble_eq_true rfl, Nat.le_of_ble_eq_true rfl⟩) hP hD hS [0] [1, 2] rfl rfl rfl (by decide) (fun u2 H locs hP hD hS => ?_)
  have hP : va_P D CL [(xo, .inr (10, xC inp par pla dra lat his f1 f2 0 0 (-1) gx)), (pla, .inr (5, pC 0 0 0 gpl)), (mo, .inr (11, mC 1 0 0 (-1) 0 0 0 0 0 0 as ak ab ar gm))] H := hP
  have hD : va_D A [(xo, .inr (10, xC inp par pla dra lat his f1 f2 0 0 (-1) gx)), (pla, .inr (5, pC 0 0 0 gpl)), (mo, .inr (11, mC 1 0 0 (-1) 0 0 0 0 0 0 as ak ab ar gm))] := hD
  refine W.widen (k := 2001) (n := 60006) (Nat.le_of_ble_eq_true rfl) (Nat.le_of_ble_eq_true rfl) ?_
  refine W.eq (g2 := F0 m 1897 ls [.int 0]) rfl ?_
  refine lv_istore (lv' := [(6, .int 0), (5, .int 1), (4, .int 0), (3, .ref o), (2, .ref mo), (1, .ref xo), (0, .ref b)]) hx hb dL_law_1897 hl (by decide) rfl (fun ls hl => ?_)
  refine lv_aload_n hx hb dL_law_1899 rfl (lv_at hl 4 rfl) ?_
  refine call_i (wr := [(xo, .inr (10, xC inp par pla dra lat his f1 f2 0 0 (-1) gx)), (pla, .inr (5, pC 0 0 0 gpl))]) C (run_V (As := []) (rest := []) C (m_thrown l D cI cZ cJ mo 0 0 (-1) 0 0 0 0 0 0 as ak ab ar gm 1 ) cV_L_187 hP hD hS [2] rfl rfl 0 rfl rfl rfl rfl hl.1 rfl (Nat.le_of_ble_eq_true rfl) dL_law_1900 ⟨Nat.le_of_ble_eq_true rfl, Nat.le_of_ble_eq_true rfl⟩ ⟨Nat.le_of_ble_eq_true rfl, Nat.le_of_ble_eq_true rfl⟩) hP hD hS [2] [0, 1] rfl rfl rfl (by decide) (fun u3 H locs hP hD hS => ?_)
  have hP : va_P D CL [(xo, .inr (10, xC inp par pla dra lat his f1 f2 0 0 (-1) gx)), (pla, .inr (5, pC 0 0 0 gpl)), (mo, .inr (11, mC 1 0 0 (-1) 0 0 0 0 0 0 as ak ab ar gm))] H := hP
  have hD : va_D A [(xo, .inr (10, xC inp par pla dra lat his f1 f2 0 0 (-1) gx)), (pla, .inr (5, pC 0 0 0 gpl)), (mo, .inr (11, mC 1 0 0 (-1) 0 0 0 0 0 0 as ak ab ar gm))] := hD
  refine W.widen (k := 2001) (n := 60006) (Nat.le_of_ble_eq_true rfl) (Nat.le_of_ble_eq_true rfl) ?_
  refine W.eq (g2 := F0 m 1903 ls [.int 1]) rfl ?_
  refine lv_iload hx hb dL_law_1903 (lv_at hl 1 rfl) ?_
  refine lv_icmp_eq (tgt := 1910) hx hb dL_law_1905 (by decide) (fun _ => ?_) (fun h => absurd (by decide) h)
  refine lv_iload hx hb dL_law_1910 (lv_at hl 1 rfl) ?_
  refine lv_if_ne (tgt := 1927) hx hb dL_law_1912 (by decide) (fun _ => ?_) (fun h => absurd h (by decide))
  refine lv_goto (tgt := 3186) hx hb dL_law_1927 (by decide) ?_
  exact law_exit K hS (lv_sub hl [6, 2] rfl) (Nat.le_of_ble_eq_true rfl) (Nat.le_of_ble_eq_true rfl)
set_option maxHeartbeats 4000000 in
set_option maxRecDepth 100000 in
theorem law_35 {p : Program} {l : Launch} {e : Env} {s : State} {m : MethodId} {below : List Frame} {meth : Method} {c : Code} {b : Nat} {xs : Nat → Int32} {D : va_G} {cI cZ cJ : ClassId} {A : Nat → Prop} (K : LCx p l s m meth c b 6 xs D cI cZ cJ A) {xo inp byt par pla dra lat his f1 f2 mo as ak ab ar o : Nat} {gx gpl gdr gla gf1 gf2 gpa ghi gm : Nat → Value}  {H : Heap} {locs : List Loc} {ls : Array Slot} (hP : va_P D CL (LW cI cZ xo inp byt par pla dra lat his f1 f2 mo as ak ab ar gx gpl gdr gla gf1 gf2 gpa ghi gm) H) (hD : va_D A (LW cI cZ xo inp byt par pla dra lat his f1 f2 mo as ak ab ar gx gpl gdr gla gf1 gf2 gpa ghi gm)) (hS : va_S A s.heap H locs) (hl : lv_has ls 8 [(4, .int 0), (3, .ref o), (2, .ref mo), (1, .ref xo), (0, .ref b)]) : W p l e room_1 s m #[Value.ref b] below meth c H locs 2000 60000 (lw_Z below #[Value.ref b] s) (F0 m 1930 ls []) := by
  obtain ⟨C, hX, hbl, hlt, hAA⟩ := id K
  have hx := C.1
  have hb := C.2.1
  have hbA : ¬ A b := fun h => absurd (hAA b h) (Nat.not_le.mpr hbl)
  have hP : va_P D CL [(xo, .inr (10, xC inp par pla dra lat his f1 f2 0 0 (-1) gx)), (inp, .inr (2, [.int 0, .int 0, .int 0, .int 0, .int 0, .int 0, .ref byt])), (byt, .inl (cI, 600, .inl (fun _ => 0))), (par, .inr (4, [.ref inp, .ref dra, gpa 2, .int 0, .int 0])), (pla, .inr (5, pC 0 0 0 gpl)), (dra, .inr (5, pC 0 0 0 gdr)), (lat, .inr (3, [.int 0, .long 0, gla 2, gla 3, gla 4])), (his, .inr (1, [.int 0, .int 0, ghi 2])), (f1, .inr (5, pC 0 0 0 gf1)), (f2, .inr (5, pC 0 0 0 gf2)), (mo, .inr (11, mC 0 0 0 (-1) 0 0 0 0 0 0 as ak ab ar gm)), (as, .inl (cI, 63, .inl (fun _ => 0))), (ak, .inl (cZ, 2, .inl (fun _ => 0))), (ab, .inl (cI, 600, .inl (fun _ => 0))), (ar, .inl (cI, 63, .inl (fun _ => 0)))] H := hP
  have hD : va_D A [(xo, .inr (10, xC inp par pla dra lat his f1 f2 0 0 (-1) gx)), (inp, .inr (2, [.int 0, .int 0, .int 0, .int 0, .int 0, .int 0, .ref byt])), (byt, .inl (cI, 600, .inl (fun _ => 0))), (par, .inr (4, [.ref inp, .ref dra, gpa 2, .int 0, .int 0])), (pla, .inr (5, pC 0 0 0 gpl)), (dra, .inr (5, pC 0 0 0 gdr)), (lat, .inr (3, [.int 0, .long 0, gla 2, gla 3, gla 4])), (his, .inr (1, [.int 0, .int 0, ghi 2])), (f1, .inr (5, pC 0 0 0 gf1)), (f2, .inr (5, pC 0 0 0 gf2)), (mo, .inr (11, mC 0 0 0 (-1) 0 0 0 0 0 0 as ak ab ar gm)), (as, .inl (cI, 63, .inl (fun _ => 0))), (ak, .inl (cZ, 2, .inl (fun _ => 0))), (ab, .inl (cI, 600, .inl (fun _ => 0))), (ar, .inl (cI, 63, .inl (fun _ => 0)))] := hD
  have hP := hP.sub (ws' := [(xo, .inr (10, xC inp par pla dra lat his f1 f2 0 0 (-1) gx)), (pla, .inr (5, pC 0 0 0 gpl)), (mo, .inr (11, mC 0 0 0 (-1) 0 0 0 0 0 0 as ak ab ar gm))]) [0, 4, 10] rfl
  have hD := hD.sub (ws' := [(xo, .inr (10, xC inp par pla dra lat his f1 f2 0 0 (-1) gx)), (pla, .inr (5, pC 0 0 0 gpl)), (mo, .inr (11, mC 0 0 0 (-1) 0 0 0 0 0 0 as ak ab ar gm))]) [0, 4, 10] (by decide) rfl
  refine lv_aload_n hx hb dL_law_1930 rfl (lv_at hl 3 rfl) ?_
  refine lv_aload_n hx hb dL_law_1931 rfl (lv_at hl 4 rfl) ?_
  refine lv_iload hx hb dL_law_1932 (lv_at hl 0 rfl) ?_
  refine lv_iconst (v := 1) hx hb dL_law_1934 (by decide) ?_
  refine lv_iadd hx hb dL_law_1935 ?_
  refine W.eq (g2 := F0 m 1936 ls [.int 1, .ref b, .ref xo]) rfl ?_
  refine va_sld hx hb hX hbl hbA hS (by unfold vp_in; decide) dL_law_1936 ?_
  refine W.eq (g2 := F0 m 1937 ls [.int (xs 1), .ref xo]) rfl ?_
  refine lv_aload_n hx hb dL_law_1937 rfl (lv_at hl 1 rfl) ?_
  refine call_i (wr := [(mo, .inr (11, mC 0 0 0 (-1) 0 0 0 0 0 0 as ak ab ar gm))]) C (run_SW (As := [.ref xo, .int (xs 1), .ref o]) (rest := []) C (h_guardRange l hlt D cI cZ cJ xo inp par pla dra lat his f1 f2 0 0 (-1) gx gpl (xs 1) o ) cS_L_297 hP hD hS [0, 1] rfl rfl rfl hl.1 rfl (Nat.le_of_ble_eq_true rfl) dL_law_1938 ⟨Nat.le_of_ble_eq_true rfl, Nat.le_of_ble_eq_true rfl⟩ ⟨Nat.le_of_ble_eq_true rfl, Nat.le_of_ble_eq_true rfl⟩) hP hD hS [0, 1] [2] rfl rfl rfl (by decide) (fun u1 H locs hP hD hS => ?_)
  have hP : va_P D CL [(mo, .inr (11, mC 0 0 0 (-1) 0 0 0 0 0 0 as ak ab ar gm)), (xo, .inr (10, xC inp par pla dra lat his f1 f2 0 0 (-1) gx)), (pla, .inr (5, pC 0 0 0 gpl))] H := hP
  have hD : va_D A [(mo, .inr (11, mC 0 0 0 (-1) 0 0 0 0 0 0 as ak ab ar gm)), (xo, .inr (10, xC inp par pla dra lat his f1 f2 0 0 (-1) gx)), (pla, .inr (5, pC 0 0 0 gpl))] := hD
  refine W.widen (k := 2001) (n := 60006) (Nat.le_of_ble_eq_true rfl) (Nat.le_of_ble_eq_true rfl) ?_
  refine W.eq (g2 := F0 m 1941 ls [.int 1]) rfl ?_
  refine lv_istore (lv' := [(5, .int 1), (4, .int 0), (3, .ref o), (2, .ref mo), (1, .ref xo), (0, .ref b)]) hx hb dL_law_1941 hl (by decide) rfl (fun ls hl => ?_)
  refine lv_aload_n hx hb dL_law_1943 rfl (lv_at hl 3 rfl) ?_
  refine lv_aload_n hx hb dL_law_1944 rfl (lv_at hl 5 rfl) ?_
  refine lv_iload hx hb dL_law_1945 (lv_at hl 1 rfl) ?_
  refine lv_iconst (v := 1) hx hb dL_law_1947 (by decide) ?_
  refine lv_iadd hx hb dL_law_1948 ?_
  refine W.eq (g2 := F0 m 1949 ls [.int 1, .ref b, .ref mo]) rfl ?_
  refine va_sld hx hb hX hbl hbA hS (by unfold vp_in; decide) dL_law_1949 ?_
  refine W.eq (g2 := F0 m 1950 ls [.int (xs 1), .ref mo]) rfl ?_
  refine call_i (wr := [(xo, .inr (10, xC inp par pla dra lat his f1 f2 0 0 (-1) gx)), (pla, .inr (5, pC 0 0 0 gpl))]) C (run_V (As := [.int (xs 1)]) (rest := []) C (m_guardRange l D cI cZ cJ mo 0 0 (-1) 0 0 0 0 0 0 as ak ab ar gm 0 (xs 1) ) cV_L_299 hP hD hS [0] rfl rfl 0 rfl rfl rfl rfl hl.1 rfl (Nat.le_of_ble_eq_true rfl) dL_law_1950 ⟨Nat.le_of_ble_eq_true rfl, Nat.le_of_ble_eq_true rfl⟩ ⟨Nat.le_of_ble_eq_true rfl, Nat.le_of_ble_eq_true rfl⟩) hP hD hS [0] [1, 2] rfl rfl rfl (by decide) (fun u2 H locs hP hD hS => ?_)
  have hP : va_P D CL [(xo, .inr (10, xC inp par pla dra lat his f1 f2 0 0 (-1) gx)), (pla, .inr (5, pC 0 0 0 gpl)), (mo, .inr (11, mC 1 0 0 (-1) 0 0 0 0 0 0 as ak ab ar gm))] H := hP
  have hD : va_D A [(xo, .inr (10, xC inp par pla dra lat his f1 f2 0 0 (-1) gx)), (pla, .inr (5, pC 0 0 0 gpl)), (mo, .inr (11, mC 1 0 0 (-1) 0 0 0 0 0 0 as ak ab ar gm))] := hD
  refine W.widen (k := 2001) (n := 60006) (Nat.le_of_ble_eq_true rfl) (Nat.le_of_ble_eq_true rfl) ?_
  refine W.eq (g2 := F0 m 1953 ls [.int 0]) rfl ?_
  refine lv_istore (lv' := [(6, .int 0), (5, .int 1), (4, .int 0), (3, .ref o), (2, .ref mo), (1, .ref xo), (0, .ref b)]) hx hb dL_law_1953 hl (by decide) rfl (fun ls hl => ?_)
  refine lv_aload_n hx hb dL_law_1955 rfl (lv_at hl 4 rfl) ?_
  refine call_i (wr := [(xo, .inr (10, xC inp par pla dra lat his f1 f2 0 0 (-1) gx)), (pla, .inr (5, pC 0 0 0 gpl))]) C (run_V (As := []) (rest := []) C (m_thrown l D cI cZ cJ mo 0 0 (-1) 0 0 0 0 0 0 as ak ab ar gm 1 ) cV_L_187 hP hD hS [2] rfl rfl 0 rfl rfl rfl rfl hl.1 rfl (Nat.le_of_ble_eq_true rfl) dL_law_1956 ⟨Nat.le_of_ble_eq_true rfl, Nat.le_of_ble_eq_true rfl⟩ ⟨Nat.le_of_ble_eq_true rfl, Nat.le_of_ble_eq_true rfl⟩) hP hD hS [2] [0, 1] rfl rfl rfl (by decide) (fun u3 H locs hP hD hS => ?_)
  have hP : va_P D CL [(xo, .inr (10, xC inp par pla dra lat his f1 f2 0 0 (-1) gx)), (pla, .inr (5, pC 0 0 0 gpl)), (mo, .inr (11, mC 1 0 0 (-1) 0 0 0 0 0 0 as ak ab ar gm))] H := hP
  have hD : va_D A [(xo, .inr (10, xC inp par pla dra lat his f1 f2 0 0 (-1) gx)), (pla, .inr (5, pC 0 0 0 gpl)), (mo, .inr (11, mC 1 0 0 (-1) 0 0 0 0 0 0 as ak ab ar gm))] := hD
  refine W.widen (k := 2001) (n := 60006) (Nat.le_of_ble_eq_true rfl) (Nat.le_of_ble_eq_true rfl) ?_
  refine W.eq (g2 := F0 m 1959 ls [.int 1]) rfl ?_
  refine lv_iload hx hb dL_law_1959 (lv_at hl 1 rfl) ?_
  refine lv_icmp_eq (tgt := 1966) hx hb dL_law_1961 (by decide) (fun _ => ?_) (fun h => absurd (by decide) h)
  refine lv_iload hx hb dL_law_1966 (lv_at hl 1 rfl) ?_
  refine lv_if_ne (tgt := 1983) hx hb dL_law_1968 (by decide) (fun _ => ?_) (fun h => absurd h (by decide))
  refine lv_goto (tgt := 3186) hx hb dL_law_1983 (by decide) ?_
  exact law_exit K hS (lv_sub hl [6, 2] rfl) (Nat.le_of_ble_eq_true rfl) (Nat.le_of_ble_eq_true rfl)
set_option maxHeartbeats 4000000 in
set_option maxRecDepth 100000 in
theorem law_36 {p : Program} {l : Launch} {e : Env} {s : State} {m : MethodId} {below : List Frame} {meth : Method} {c : Code} {b : Nat} {xs : Nat → Int32} {D : va_G} {cI cZ cJ : ClassId} {A : Nat → Prop} (K : LCx p l s m meth c b 6 xs D cI cZ cJ A) {xo inp byt par pla dra lat his f1 f2 mo as ak ab ar o : Nat} {gx gpl gdr gla gf1 gf2 gpa ghi gm : Nat → Value}  {H : Heap} {locs : List Loc} {ls : Array Slot} (hP : va_P D CL (LW cI cZ xo inp byt par pla dra lat his f1 f2 mo as ak ab ar gx gpl gdr gla gf1 gf2 gpa ghi gm) H) (hD : va_D A (LW cI cZ xo inp byt par pla dra lat his f1 f2 mo as ak ab ar gx gpl gdr gla gf1 gf2 gpa ghi gm)) (hS : va_S A s.heap H locs) (hl : lv_has ls 8 [(4, .int 0), (3, .ref o), (2, .ref mo), (1, .ref xo), (0, .ref b)]) : W p l e room_1 s m #[Value.ref b] below meth c H locs 2000 60000 (lw_Z below #[Value.ref b] s) (F0 m 1986 ls []) := by
  obtain ⟨C, hX, hbl, hlt, hAA⟩ := id K
  have hx := C.1
  have hb := C.2.1
  have hbA : ¬ A b := fun h => absurd (hAA b h) (Nat.not_le.mpr hbl)
  have hP : va_P D CL [(xo, .inr (10, xC inp par pla dra lat his f1 f2 0 0 (-1) gx)), (inp, .inr (2, [.int 0, .int 0, .int 0, .int 0, .int 0, .int 0, .ref byt])), (byt, .inl (cI, 600, .inl (fun _ => 0))), (par, .inr (4, [.ref inp, .ref dra, gpa 2, .int 0, .int 0])), (pla, .inr (5, pC 0 0 0 gpl)), (dra, .inr (5, pC 0 0 0 gdr)), (lat, .inr (3, [.int 0, .long 0, gla 2, gla 3, gla 4])), (his, .inr (1, [.int 0, .int 0, ghi 2])), (f1, .inr (5, pC 0 0 0 gf1)), (f2, .inr (5, pC 0 0 0 gf2)), (mo, .inr (11, mC 0 0 0 (-1) 0 0 0 0 0 0 as ak ab ar gm)), (as, .inl (cI, 63, .inl (fun _ => 0))), (ak, .inl (cZ, 2, .inl (fun _ => 0))), (ab, .inl (cI, 600, .inl (fun _ => 0))), (ar, .inl (cI, 63, .inl (fun _ => 0)))] H := hP
  have hD : va_D A [(xo, .inr (10, xC inp par pla dra lat his f1 f2 0 0 (-1) gx)), (inp, .inr (2, [.int 0, .int 0, .int 0, .int 0, .int 0, .int 0, .ref byt])), (byt, .inl (cI, 600, .inl (fun _ => 0))), (par, .inr (4, [.ref inp, .ref dra, gpa 2, .int 0, .int 0])), (pla, .inr (5, pC 0 0 0 gpl)), (dra, .inr (5, pC 0 0 0 gdr)), (lat, .inr (3, [.int 0, .long 0, gla 2, gla 3, gla 4])), (his, .inr (1, [.int 0, .int 0, ghi 2])), (f1, .inr (5, pC 0 0 0 gf1)), (f2, .inr (5, pC 0 0 0 gf2)), (mo, .inr (11, mC 0 0 0 (-1) 0 0 0 0 0 0 as ak ab ar gm)), (as, .inl (cI, 63, .inl (fun _ => 0))), (ak, .inl (cZ, 2, .inl (fun _ => 0))), (ab, .inl (cI, 600, .inl (fun _ => 0))), (ar, .inl (cI, 63, .inl (fun _ => 0)))] := hD
  have hP := hP.sub (ws' := [(xo, .inr (10, xC inp par pla dra lat his f1 f2 0 0 (-1) gx)), (pla, .inr (5, pC 0 0 0 gpl)), (mo, .inr (11, mC 0 0 0 (-1) 0 0 0 0 0 0 as ak ab ar gm))]) [0, 4, 10] rfl
  have hD := hD.sub (ws' := [(xo, .inr (10, xC inp par pla dra lat his f1 f2 0 0 (-1) gx)), (pla, .inr (5, pC 0 0 0 gpl)), (mo, .inr (11, mC 0 0 0 (-1) 0 0 0 0 0 0 as ak ab ar gm))]) [0, 4, 10] (by decide) rfl
  refine lv_aload_n hx hb dL_law_1986 rfl (lv_at hl 3 rfl) ?_
  refine lv_aload_n hx hb dL_law_1987 rfl (lv_at hl 4 rfl) ?_
  refine lv_iload hx hb dL_law_1988 (lv_at hl 0 rfl) ?_
  refine lv_iconst (v := 1) hx hb dL_law_1990 (by decide) ?_
  refine lv_iadd hx hb dL_law_1991 ?_
  refine W.eq (g2 := F0 m 1992 ls [.int 1, .ref b, .ref xo]) rfl ?_
  refine va_sld hx hb hX hbl hbA hS (by unfold vp_in; decide) dL_law_1992 ?_
  refine W.eq (g2 := F0 m 1993 ls [.int (xs 1), .ref xo]) rfl ?_
  refine lv_aload_n hx hb dL_law_1993 rfl (lv_at hl 1 rfl) ?_
  refine call_i (wr := [(mo, .inr (11, mC 0 0 0 (-1) 0 0 0 0 0 0 as ak ab ar gm))]) C (run_SW (As := [.ref xo, .int (xs 1), .ref o]) (rest := []) C (h_watched l hlt D cI cZ cJ xo inp par pla dra lat his f1 f2 0 0 (-1) gx gpl (xs 1) o ) cS_L_300 hP hD hS [0, 1] rfl rfl rfl hl.1 rfl (Nat.le_of_ble_eq_true rfl) dL_law_1994 ⟨Nat.le_of_ble_eq_true rfl, Nat.le_of_ble_eq_true rfl⟩ ⟨Nat.le_of_ble_eq_true rfl, Nat.le_of_ble_eq_true rfl⟩) hP hD hS [0, 1] [2] rfl rfl rfl (by decide) (fun u1 H locs hP hD hS => ?_)
  have hP : va_P D CL [(mo, .inr (11, mC 0 0 0 (-1) 0 0 0 0 0 0 as ak ab ar gm)), (xo, .inr (10, xC inp par pla dra lat his f1 f2 0 0 (-1) gx)), (pla, .inr (5, pC 0 0 0 gpl))] H := hP
  have hD : va_D A [(mo, .inr (11, mC 0 0 0 (-1) 0 0 0 0 0 0 as ak ab ar gm)), (xo, .inr (10, xC inp par pla dra lat his f1 f2 0 0 (-1) gx)), (pla, .inr (5, pC 0 0 0 gpl))] := hD
  refine W.widen (k := 2001) (n := 60006) (Nat.le_of_ble_eq_true rfl) (Nat.le_of_ble_eq_true rfl) ?_
  refine W.eq (g2 := F0 m 1997 ls [.int 1]) rfl ?_
  refine lv_istore (lv' := [(5, .int 1), (4, .int 0), (3, .ref o), (2, .ref mo), (1, .ref xo), (0, .ref b)]) hx hb dL_law_1997 hl (by decide) rfl (fun ls hl => ?_)
  refine lv_aload_n hx hb dL_law_1999 rfl (lv_at hl 3 rfl) ?_
  refine lv_aload_n hx hb dL_law_2000 rfl (lv_at hl 5 rfl) ?_
  refine lv_iload hx hb dL_law_2001 (lv_at hl 1 rfl) ?_
  refine lv_iconst (v := 1) hx hb dL_law_2003 (by decide) ?_
  refine lv_iadd hx hb dL_law_2004 ?_
  refine W.eq (g2 := F0 m 2005 ls [.int 1, .ref b, .ref mo]) rfl ?_
  refine va_sld hx hb hX hbl hbA hS (by unfold vp_in; decide) dL_law_2005 ?_
  refine W.eq (g2 := F0 m 2006 ls [.int (xs 1), .ref mo]) rfl ?_
  refine call_l (wr := [(xo, .inr (10, xC inp par pla dra lat his f1 f2 0 0 (-1) gx)), (pla, .inr (5, pC 0 0 0 gpl))]) C (run_V (As := [.int (xs 1)]) (rest := []) C (m_watched l D cI cZ cJ mo 0 0 (-1) 0 0 0 0 0 0 as ak ab ar gm 0 (xs 1) ) cV_L_302 hP hD hS [0] rfl rfl 0 rfl rfl rfl rfl hl.1 rfl (Nat.le_of_ble_eq_true rfl) dL_law_2006 ⟨Nat.le_of_ble_eq_true rfl, Nat.le_of_ble_eq_true rfl⟩ ⟨Nat.le_of_ble_eq_true rfl, Nat.le_of_ble_eq_true rfl⟩) hP hD hS [0] [1, 2] rfl rfl rfl (by decide) (fun u2 H locs hP hD hS => ?_)
  have hP : va_P D CL [(xo, .inr (10, xC inp par pla dra lat his f1 f2 0 0 (-1) gx)), (pla, .inr (5, pC 0 0 0 gpl)), (mo, .inr (11, mC 1 0 0 (-1) 0 0 0 0 0 0 as ak ab ar gm))] H := hP
  have hD : va_D A [(xo, .inr (10, xC inp par pla dra lat his f1 f2 0 0 (-1) gx)), (pla, .inr (5, pC 0 0 0 gpl)), (mo, .inr (11, mC 1 0 0 (-1) 0 0 0 0 0 0 as ak ab ar gm))] := hD
  refine W.widen (k := 2001) (n := 60006) (Nat.le_of_ble_eq_true rfl) (Nat.le_of_ble_eq_true rfl) ?_
  refine lv_lstore (lv' := [(6, .long 0), (5, .int 1), (4, .int 0), (3, .ref o), (2, .ref mo), (1, .ref xo), (0, .ref b)]) hx hb dL_law_2009 hl (by decide) rfl (fun ls hl => ?_)
  refine lv_aload_n hx hb dL_law_2011 rfl (lv_at hl 4 rfl) ?_
  refine call_i (wr := [(xo, .inr (10, xC inp par pla dra lat his f1 f2 0 0 (-1) gx)), (pla, .inr (5, pC 0 0 0 gpl))]) C (run_V (As := []) (rest := []) C (m_thrown l D cI cZ cJ mo 0 0 (-1) 0 0 0 0 0 0 as ak ab ar gm 1 ) cV_L_187 hP hD hS [2] rfl rfl 0 rfl rfl rfl rfl hl.1 rfl (Nat.le_of_ble_eq_true rfl) dL_law_2012 ⟨Nat.le_of_ble_eq_true rfl, Nat.le_of_ble_eq_true rfl⟩ ⟨Nat.le_of_ble_eq_true rfl, Nat.le_of_ble_eq_true rfl⟩) hP hD hS [2] [0, 1] rfl rfl rfl (by decide) (fun u3 H locs hP hD hS => ?_)
  have hP : va_P D CL [(xo, .inr (10, xC inp par pla dra lat his f1 f2 0 0 (-1) gx)), (pla, .inr (5, pC 0 0 0 gpl)), (mo, .inr (11, mC 1 0 0 (-1) 0 0 0 0 0 0 as ak ab ar gm))] H := hP
  have hD : va_D A [(xo, .inr (10, xC inp par pla dra lat his f1 f2 0 0 (-1) gx)), (pla, .inr (5, pC 0 0 0 gpl)), (mo, .inr (11, mC 1 0 0 (-1) 0 0 0 0 0 0 as ak ab ar gm))] := hD
  refine W.widen (k := 2001) (n := 60006) (Nat.le_of_ble_eq_true rfl) (Nat.le_of_ble_eq_true rfl) ?_
  refine W.eq (g2 := F0 m 2015 ls [.int 1]) rfl ?_
  refine lv_iload hx hb dL_law_2015 (lv_at hl 1 rfl) ?_
  refine lv_icmp_eq (tgt := 2022) hx hb dL_law_2017 (by decide) (fun _ => ?_) (fun h => absurd (by decide) h)
  refine lv_iload hx hb dL_law_2022 (lv_at hl 1 rfl) ?_
  refine lv_if_ne (tgt := 2038) hx hb dL_law_2024 (by decide) (fun _ => ?_) (fun h => absurd h (by decide))
  refine lv_goto (tgt := 3186) hx hb dL_law_2038 (by decide) ?_
  exact law_exit K hS (lv_sub hl [6, 2] rfl) (Nat.le_of_ble_eq_true rfl) (Nat.le_of_ble_eq_true rfl)
