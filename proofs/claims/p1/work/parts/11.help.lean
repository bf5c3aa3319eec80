set_option maxHeartbeats 4000000 in
set_option maxRecDepth 100000 in
theorem h_vertexX (l : Launch) (hlt : l.stackTraces = false) (D : va_G) (cI cZ cJ : ClassId) (x : Nat) (inp : Nat) (par : Nat) (pla : Nat) (dra : Nat) (lat : Nat) (his : Nat) (f1 : Nat) (f2 : Nat) (hd : Int32) (ec : Int32) (ea : Int32) (g : Nat → Value) (gp : Nat → Value) (a0 : Int32) (o : Nat)  : cMW l yL_vertexX cL_vertexX 4 (some .int) [(0, 9, 12, 20), (0, 9, 15, 13)] D (TT cI cZ cJ) [.ref x, .int a0, .ref o] [(x, .inr (10, xC inp par pla dra lat his f1 f2 hd ec ea g)), (pla, .inr (5, pC 0 0 0 gp))] (qI D (TT cI cZ cJ) (fun u : Unit => 1) (fun u : Unit => [(x, .inr (10, xC inp par pla dra lat his f1 f2 hd ec ea g)), (pla, .inr (5, pC 0 0 0 gp))])) 2 1 6 := by
  refine enterW (by decide) (Nat.le_of_ble_eq_true rfl) ?_
  intro p e s m below meth c ls A C htab hP hD hS hl
  have hx := C.1
  have hb := C.2.1
  have hl : lv_has ls 4 [(0, .ref x), (1, .int a0), (2, .ref o)] := hl
  refine lv_aload_n hx hb dL_vertexX_0 rfl (lv_at hl 2 rfl) ?_
  refine lv_iconst (v := 0) hx hb dL_vertexX_1 (by decide) ?_
  refine lv_aload_n hx hb dL_vertexX_2 rfl (lv_at hl 0 rfl) ?_
  refine lv_iload_n hx hb dL_vertexX_3 rfl (lv_at hl 1 rfl) ?_
  refine call_X (wr := []) C (run_VX (As := [.int a0]) (rest := [.int 0, .ref o]) C (k_vertexX l hlt D cI cZ cJ x inp par pla dra lat his f1 f2 hd ec ea g gp a0 ) cV_L_17 hP hD hS [0, 1] rfl rfl 0 rfl rfl rfl rfl hl.1 rfl (Nat.le_of_ble_eq_true rfl) dL_vertexX_4 ⟨Nat.le_of_ble_eq_true rfl, Nat.le_of_ble_eq_true rfl⟩ ⟨Nat.le_of_ble_eq_true rfl, Nat.le_of_ble_eq_true rfl⟩) hP hD hS [0, 1] [] rfl rfl rfl (by decide) (fun ce q9 H locs hce hcv hcl hP hD hS => ?_)
  have hP : va_P D CL [(x, .inr (10, xC inp par pla dra lat his f1 f2 hd ec ea g)), (pla, .inr (5, pC 0 0 0 gp))] H := hP
  have hD : va_D A [(x, .inr (10, xC inp par pla dra lat his f1 f2 hd ec ea g)), (pla, .inr (5, pC 0 0 0 gp))] := hD
  refine vx_widen (k := 1) (n := 6) (Nat.le_of_ble_eq_true rfl) (Nat.le_of_ble_eq_true rfl) ?_
  refine r_catch (E := "java/lang/IllegalStateException") C (by decide) [] ⟨0, 9, 12, 20⟩ [⟨0, 9, 15, 13⟩] (htab.trans rfl) (fun z hz => nomatch hz) rfl (by decide) w_42 hce hcv hcl ?_
  refine W.eq (g2 := F0 m 12 ls [.ref q9]) rfl ?_
  refine lv_astore_n (lv' := [(3, .ref q9), (0, .ref x), (1, .int a0), (2, .ref o)]) hx hb dL_vertexX_12 rfl hl (by decide) rfl (fun ls hl => ?_)
  refine lv_iconst (v := 1) hx hb dL_vertexX_13 (by decide) ?_
  exact r_iret C hP hD hS () rfl rfl (Nat.le_of_ble_eq_true rfl) (Nat.le_of_ble_eq_true rfl) dL_vertexX_14
set_option maxHeartbeats 4000000 in
set_option maxRecDepth 100000 in
theorem h_vertexY (l : Launch) (hlt : l.stackTraces = false) (D : va_G) (cI cZ cJ : ClassId) (x : Nat) (inp : Nat) (par : Nat) (pla : Nat) (dra : Nat) (lat : Nat) (his : Nat) (f1 : Nat) (f2 : Nat) (hd : Int32) (ec : Int32) (ea : Int32) (g : Nat → Value) (gp : Nat → Value) (a0 : Int32) (o : Nat)  : cMW l yL_vertexY cL_vertexY 4 (some .int) [(0, 9, 12, 20), (0, 9, 15, 13)] D (TT cI cZ cJ) [.ref x, .int a0, .ref o] [(x, .inr (10, xC inp par pla dra lat his f1 f2 hd ec ea g)), (pla, .inr (5, pC 0 0 0 gp))] (qI D (TT cI cZ cJ) (fun u : Unit => 1) (fun u : Unit => [(x, .inr (10, xC inp par pla dra lat his f1 f2 hd ec ea g)), (pla, .inr (5, pC 0 0 0 gp))])) 2 1 6 := by
  refine enterW (by decide) (Nat.le_of_ble_eq_true rfl) ?_
  intro p e s m below meth c ls A C htab hP hD hS hl
  have hx := C.1
  have hb := C.2.1
  have hl : lv_has ls 4 [(0, .ref x), (1, .int a0), (2, .ref o)] := hl
  refine lv_aload_n hx hb dL_vertexY_0 rfl (lv_at hl 2 rfl) ?_
  refine lv_iconst (v := 0) hx hb dL_vertexY_1 (by decide) ?_
  refine lv_aload_n hx hb dL_vertexY_2 rfl (lv_at hl 0 rfl) ?_
  refine lv_iload_n hx hb dL_vertexY_3 rfl (lv_at hl 1 rfl) ?_
  refine call_X (wr := []) C (run_VX (As := [.int a0]) (rest := [.int 0, .ref o]) C (k_vertexY l hlt D cI cZ cJ x inp par pla dra lat his f1 f2 hd ec ea g gp a0 ) cV_L_22 hP hD hS [0, 1] rfl rfl 0 rfl rfl rfl rfl hl.1 rfl (Nat.le_of_ble_eq_true rfl) dL_vertexY_4 ⟨Nat.le_of_ble_eq_true rfl, Nat.le_of_ble_eq_true rfl⟩ ⟨Nat.le_of_ble_eq_true rfl, Nat.le_of_ble_eq_true rfl⟩) hP hD hS [0, 1] [] rfl rfl rfl (by decide) (fun ce q9 H locs hce hcv hcl hP hD hS => ?_)
  have hP : va_P D CL [(x, .inr (10, xC inp par pla dra lat his f1 f2 hd ec ea g)), (pla, .inr (5, pC 0 0 0 gp))] H := hP
  have hD : va_D A [(x, .inr (10, xC inp par pla dra lat his f1 f2 hd ec ea g)), (pla, .inr (5, pC 0 0 0 gp))] := hD
  refine vx_widen (k := 1) (n := 6) (Nat.le_of_ble_eq_true rfl) (Nat.le_of_ble_eq_true rfl) ?_
  refine r_catch (E := "java/lang/IllegalStateException") C (by decide) [] ⟨0, 9, 12, 20⟩ [⟨0, 9, 15, 13⟩] (htab.trans rfl) (fun z hz => nomatch hz) rfl (by decide) w_42 hce hcv hcl ?_
  refine W.eq (g2 := F0 m 12 ls [.ref q9]) rfl ?_
  refine lv_astore_n (lv' := [(3, .ref q9), (0, .ref x), (1, .int a0), (2, .ref o)]) hx hb dL_vertexY_12 rfl hl (by decide) rfl (fun ls hl => ?_)
  refine lv_iconst (v := 1) hx hb dL_vertexY_13 (by decide) ?_
  exact r_iret C hP hD hS () rfl rfl (Nat.le_of_ble_eq_true rfl) (Nat.le_of_ble_eq_true rfl) dL_vertexY_14
set_option maxHeartbeats 4000000 in
set_option maxRecDepth 100000 in
theorem h_doubleArea (l : Launch) (hlt : l.stackTraces = false) (D : va_G) (cI cZ cJ : ClassId) (x : Nat) (inp : Nat) (par : Nat) (pla : Nat) (dra : Nat) (lat : Nat) (his : Nat) (f1 : Nat) (f2 : Nat) (hd : Int32) (ec : Int32) (ea : Int32) (g : Nat → Value) (gp : Nat → Value) (o : Nat)  : cMW l yL_doubleArea cL_doubleArea 3 (some .int) [(0, 8, 11, 20)] D (TT cI cZ cJ) [.ref x, .ref o] [(x, .inr (10, xC inp par pla dra lat his f1 f2 hd ec ea g)), (pla, .inr (5, pC 0 0 0 gp))] (qI D (TT cI cZ cJ) (fun u : Unit => 1) (fun u : Unit => [(x, .inr (10, xC inp par pla dra lat his f1 f2 hd ec ea g)), (pla, .inr (5, pC 0 0 0 gp))])) 2 1 6 := by
  refine enterW (by decide) (Nat.le_of_ble_eq_true rfl) ?_
  intro p e s m below meth c ls A C htab hP hD hS hl
  have hx := C.1
  have hb := C.2.1
  have hl : lv_has ls 3 [(0, .ref x), (1, .ref o)] := hl
  refine lv_aload_n hx hb dL_doubleArea_0 rfl (lv_at hl 1 rfl) ?_
  refine lv_iconst (v := 0) hx hb dL_doubleArea_1 (by decide) ?_
  refine lv_aload_n hx hb dL_doubleArea_2 rfl (lv_at hl 0 rfl) ?_
  refine call_X (wr := []) C (run_VX (As := []) (rest := [.int 0, .ref o]) C (k_doubleArea l hlt D cI cZ cJ x inp par pla dra lat his f1 f2 hd ec ea g gp ) cV_L_25 hP hD hS [0, 1] rfl rfl 0 rfl rfl rfl rfl hl.1 rfl (Nat.le_of_ble_eq_true rfl) dL_doubleArea_3 ⟨Nat.le_of_ble_eq_true rfl, Nat.le_of_ble_eq_true rfl⟩ ⟨Nat.le_of_ble_eq_true rfl, Nat.le_of_ble_eq_true rfl⟩) hP hD hS [0, 1] [] rfl rfl rfl (by decide) (fun ce q9 H locs hce hcv hcl hP hD hS => ?_)
  have hP : va_P D CL [(x, .inr (10, xC inp par pla dra lat his f1 f2 hd ec ea g)), (pla, .inr (5, pC 0 0 0 gp))] H := hP
  have hD : va_D A [(x, .inr (10, xC inp par pla dra lat his f1 f2 hd ec ea g)), (pla, .inr (5, pC 0 0 0 gp))] := hD
  refine vx_widen (k := 1) (n := 6) (Nat.le_of_ble_eq_true rfl) (Nat.le_of_ble_eq_true rfl) ?_
  refine r_catch (E := "java/lang/IllegalStateException") C (by decide) [] ⟨0, 8, 11, 20⟩ [] (htab.trans rfl) (fun z hz => nomatch hz) rfl (by decide) w_42 hce hcv hcl ?_
  refine W.eq (g2 := F0 m 11 ls [.ref q9]) rfl ?_
  refine lv_astore_n (lv' := [(2, .ref q9), (0, .ref x), (1, .ref o)]) hx hb dL_doubleArea_11 rfl hl (by decide) rfl (fun ls hl => ?_)
  refine lv_iconst (v := 1) hx hb dL_doubleArea_12 (by decide) ?_
  exact r_iret C hP hD hS () rfl rfl (Nat.le_of_ble_eq_true rfl) (Nat.le_of_ble_eq_true rfl) dL_doubleArea_13
set_option maxHeartbeats 4000000 in
set_option maxRecDepth 100000 in
theorem h_reflexVertices (l : Launch) (hlt : l.stackTraces = false) (D : va_G) (cI cZ cJ : ClassId) (x : Nat) (inp : Nat) (par : Nat) (pla : Nat) (dra : Nat) (lat : Nat) (his : Nat) (f1 : Nat) (f2 : Nat) (hd : Int32) (ec : Int32) (ea : Int32) (g : Nat → Value) (gp : Nat → Value) (o : Nat)  : cMW l yL_reflexVertices cL_reflexVertices 3 (some .int) [(0, 8, 11, 20)] D (TT cI cZ cJ) [.ref x, .ref o] [(x, .inr (10, xC inp par pla dra lat his f1 f2 hd ec ea g)), (pla, .inr (5, pC 0 0 0 gp))] (qI D (TT cI cZ cJ) (fun u : Unit => 1) (fun u : Unit => [(x, .inr (10, xC inp par pla dra lat his f1 f2 hd ec ea g)), (pla, .inr (5, pC 0 0 0 gp))])) 2 1 6 := by
  refine enterW (by decide) (Nat.le_of_ble_eq_true rfl) ?_
  intro p e s m below meth c ls A C htab hP hD hS hl
  have hx := C.1
  have hb := C.2.1
  have hl : lv_has ls 3 [(0, .ref x), (1, .ref o)] := hl
  refine lv_aload_n hx hb dL_reflexVertices_0 rfl (lv_at hl 1 rfl) ?_
  refine lv_iconst (v := 0) hx hb dL_reflexVertices_1 (by decide) ?_
  refine lv_aload_n hx hb dL_reflexVertices_2 rfl (lv_at hl 0 rfl) ?_
  refine call_X (wr := []) C (run_VX (As := []) (rest := [.int 0, .ref o]) C (k_reflexVertices l hlt D cI cZ cJ x inp par pla dra lat his f1 f2 hd ec ea g gp ) cV_L_29 hP hD hS [0, 1] rfl rfl 0 rfl rfl rfl rfl hl.1 rfl (Nat.le_of_ble_eq_true rfl) dL_reflexVertices_3 ⟨Nat.le_of_ble_eq_true rfl, Nat.le_of_ble_eq_true rfl⟩ ⟨Nat.le_of_ble_eq_true rfl, Nat.le_of_ble_eq_true rfl⟩) hP hD hS [0, 1] [] rfl rfl rfl (by decide) (fun ce q9 H locs hce hcv hcl hP hD hS => ?_)
  have hP : va_P D CL [(x, .inr (10, xC inp par pla dra lat his f1 f2 hd ec ea g)), (pla, .inr (5, pC 0 0 0 gp))] H := hP
  have hD : va_D A [(x, .inr (10, xC inp par pla dra lat his f1 f2 hd ec ea g)), (pla, .inr (5, pC 0 0 0 gp))] := hD
  refine vx_widen (k := 1) (n := 6) (Nat.le_of_ble_eq_true rfl) (Nat.le_of_ble_eq_true rfl) ?_
  refine r_catch (E := "java/lang/IllegalStateException") C (by decide) [] ⟨0, 8, 11, 20⟩ [] (htab.trans rfl) (fun z hz => nomatch hz) rfl (by decide) w_42 hce hcv hcl ?_
  refine W.eq (g2 := F0 m 11 ls [.ref q9]) rfl ?_
  refine lv_astore_n (lv' := [(2, .ref q9), (0, .ref x), (1, .ref o)]) hx hb dL_reflexVertices_11 rfl hl (by decide) rfl (fun ls hl => ?_)
  refine lv_iconst (v := 1) hx hb dL_reflexVertices_12 (by decide) ?_
  exact r_iret C hP hD hS () rfl rfl (Nat.le_of_ble_eq_true rfl) (Nat.le_of_ble_eq_true rfl) dL_reflexVertices_13
set_option maxHeartbeats 4000000 in
set_option maxRecDepth 100000 in
theorem h_pointX (l : Launch) (hlt : l.stackTraces = false) (D : va_G) (cI cZ cJ : ClassId) (x : Nat) (inp : Nat) (par : Nat) (pla : Nat) (dra : Nat) (lat : Nat) (his : Nat) (f1 : Nat) (f2 : Nat) (hd : Int32) (ec : Int32) (ea : Int32) (g : Nat → Value) (gp : Nat → Value) (a0 : Int32) (o : Nat)  : cMW l yL_pointX cL_pointX 4 (some .int) [(0, 9, 12, 20), (0, 9, 15, 13)] D (TT cI cZ cJ) [.ref x, .int a0, .ref o] [(x, .inr (10, xC inp par pla dra lat his f1 f2 hd ec ea g)), (pla, .inr (5, pC 0 0 0 gp))] (qI D (TT cI cZ cJ) (fun u : Unit => 1) (fun u : Unit => [(x, .inr (10, xC inp par pla dra lat his f1 f2 hd ec ea g)), (pla, .inr (5, pC 0 0 0 gp))])) 2 1 6 := by
  refine enterW (by decide) (Nat.le_of_ble_eq_true rfl) ?_
  intro p e s m below meth c ls A C htab hP hD hS hl
  have hx := C.1
  have hb := C.2.1
  have hl : lv_has ls 4 [(0, .ref x), (1, .int a0), (2, .ref o)] := hl
  refine lv_aload_n hx hb dL_pointX_0 rfl (lv_at hl 2 rfl) ?_
  refine lv_iconst (v := 0) hx hb dL_pointX_1 (by decide) ?_
  refine lv_aload_n hx hb dL_pointX_2 rfl (lv_at hl 0 rfl) ?_
  refine lv_iload_n hx hb dL_pointX_3 rfl (lv_at hl 1 rfl) ?_
  refine call_X (wr := []) C (run_VX (As := [.int a0]) (rest := [.int 0, .ref o]) C (k_pointX l hlt D cI cZ cJ x inp par pla dra lat his f1 f2 hd ec ea g gp a0 ) cV_L_32 hP hD hS [0, 1] rfl rfl 0 rfl rfl rfl rfl hl.1 rfl (Nat.le_of_ble_eq_true rfl) dL_pointX_4 ⟨Nat.le_of_ble_eq_true rfl, Nat.le_of_ble_eq_true rfl⟩ ⟨Nat.le_of_ble_eq_true rfl, Nat.le_of_ble_eq_true rfl⟩) hP hD hS [0, 1] [] rfl rfl rfl (by decide) (fun ce q9 H locs hce hcv hcl hP hD hS => ?_)
  have hP : va_P D CL [(x, .inr (10, xC inp par pla dra lat his f1 f2 hd ec ea g)), (pla, .inr (5, pC 0 0 0 gp))] H := hP
  have hD : va_D A [(x, .inr (10, xC inp par pla dra lat his f1 f2 hd ec ea g)), (pla, .inr (5, pC 0 0 0 gp))] := hD
  refine vx_widen (k := 1) (n := 6) (Nat.le_of_ble_eq_true rfl) (Nat.le_of_ble_eq_true rfl) ?_
  refine r_catch (E := "java/lang/IllegalStateException") C (by decide) [] ⟨0, 9, 12, 20⟩ [⟨0, 9, 15, 13⟩] (htab.trans rfl) (fun z hz => nomatch hz) rfl (by decide) w_42 hce hcv hcl ?_
  refine W.eq (g2 := F0 m 12 ls [.ref q9]) rfl ?_
  refine lv_astore_n (lv' := [(3, .ref q9), (0, .ref x), (1, .int a0), (2, .ref o)]) hx hb dL_pointX_12 rfl hl (by decide) rfl (fun ls hl => ?_)
  refine lv_iconst (v := 1) hx hb dL_pointX_13 (by decide) ?_
  exact r_iret C hP hD hS () rfl rfl (Nat.le_of_ble_eq_true rfl) (Nat.le_of_ble_eq_true rfl) dL_pointX_14
set_option maxHeartbeats 4000000 in
set_option maxRecDepth 100000 in
theorem h_pointY (l : Launch) (hlt : l.stackTraces = false) (D : va_G) (cI cZ cJ : ClassId) (x : Nat) (inp : Nat) (par : Nat) (pla : Nat) (dra : Nat) (lat : Nat) (his : Nat) (f1 : Nat) (f2 : Nat) (hd : Int32) (ec : Int32) (ea : Int32) (g : Nat → Value) (gp : Nat → Value) (a0 : Int32) (o : Nat)  : cMW l yL_pointY cL_pointY 4 (some .int) [(0, 9, 12, 20), (0, 9, 15, 13)] D (TT cI cZ cJ) [.ref x, .int a0, .ref o] [(x, .inr (10, xC inp par pla dra lat his f1 f2 hd ec ea g)), (pla, .inr (5, pC 0 0 0 gp))] (qI D (TT cI cZ cJ) (fun u : Unit => 1) (fun u : Unit => [(x, .inr (10, xC inp par pla dra lat his f1 f2 hd ec ea g)), (pla, .inr (5, pC 0 0 0 gp))])) 2 1 6 := by
  refine enterW (by decide) (Nat.le_of_ble_eq_true rfl) ?_
  intro p e s m below meth c ls A C htab hP hD hS hl
  have hx := C.1
  have hb := C.2.1
  have hl : lv_has ls 4 [(0, .ref x), (1, .int a0), (2, .ref o)] := hl
  refine lv_aload_n hx hb dL_pointY_0 rfl (lv_at hl 2 rfl) ?_
  refine lv_iconst (v := 0) hx hb dL_pointY_1 (by decide) ?_
  refine lv_aload_n hx hb dL_pointY_2 rfl (lv_at hl 0 rfl) ?_
  refine lv_iload_n hx hb dL_pointY_3 rfl (lv_at hl 1 rfl) ?_
  refine call_X (wr := []) C (run_VX (As := [.int a0]) (rest := [.int 0, .ref o]) C (k_pointY l hlt D cI cZ cJ x inp par pla dra lat his f1 f2 hd ec ea g gp a0 ) cV_L_35 hP hD hS [0, 1] rfl rfl 0 rfl rfl rfl rfl hl.1 rfl (Nat.le_of_ble_eq_true rfl) dL_pointY_4 ⟨Nat.le_of_ble_eq_true rfl, Nat.le_of_ble_eq_true rfl⟩ ⟨Nat.le_of_ble_eq_true rfl, Nat.le_of_ble_eq_true rfl⟩) hP hD hS [0, 1] [] rfl rfl rfl (by decide) (fun ce q9 H locs hce hcv hcl hP hD hS => ?_)
  have hP : va_P D CL [(x, .inr (10, xC inp par pla dra lat his f1 f2 hd ec ea g)), (pla, .inr (5, pC 0 0 0 gp))] H := hP
  have hD : va_D A [(x, .inr (10, xC inp par pla dra lat his f1 f2 hd ec ea g)), (pla, .inr (5, pC 0 0 0 gp))] := hD
  refine vx_widen (k := 1) (n := 6) (Nat.le_of_ble_eq_true rfl) (Nat.le_of_ble_eq_true rfl) ?_
  refine r_catch (E := "java/lang/IllegalStateException") C (by decide) [] ⟨0, 9, 12, 20⟩ [⟨0, 9, 15, 13⟩] (htab.trans rfl) (fun z hz => nomatch hz) rfl (by decide) w_42 hce hcv hcl ?_
  refine W.eq (g2 := F0 m 12 ls [.ref q9]) rfl ?_
  refine lv_astore_n (lv' := [(3, .ref q9), (0, .ref x), (1, .int a0), (2, .ref o)]) hx hb dL_pointY_12 rfl hl (by decide) rfl (fun ls hl => ?_)
  refine lv_iconst (v := 1) hx hb dL_pointY_13 (by decide) ?_
  exact r_iret C hP hD hS () rfl rfl (Nat.le_of_ble_eq_true rfl) (Nat.le_of_ble_eq_true rfl) dL_pointY_14
set_option maxHeartbeats 4000000 in
set_option maxRecDepth 100000 in
theorem h_pointAt (l : Launch) (hlt : l.stackTraces = false) (D : va_G) (cI cZ cJ : ClassId) (x : Nat) (inp : Nat) (par : Nat) (pla : Nat) (dra : Nat) (lat : Nat) (his : Nat) (f1 : Nat) (f2 : Nat) (hd : Int32) (ec : Int32) (ea : Int32) (g : Nat → Value) (gp : Nat → Value) (a0 : Int32) (a1 : Int32) (o : Nat)  : cMW l yL_pointAt cL_pointAt 5 (some .int) [(0, 10, 13, 20)] D (TT cI cZ cJ) [.ref x, .int a0, .int a1, .ref o] [(x, .inr (10, xC inp par pla dra lat his f1 f2 hd ec ea g)), (pla, .inr (5, pC 0 0 0 gp))] (qI D (TT cI cZ cJ) (fun u : Unit => 1) (fun u : Unit => [(x, .inr (10, xC inp par pla dra lat his f1 f2 hd ec ea g)), (pla, .inr (5, pC 0 0 0 gp))])) 2 1 6 := by
  refine enterW (by decide) (Nat.le_of_ble_eq_true rfl) ?_
  intro p e s m below meth c ls A C htab hP hD hS hl
  have hx := C.1
  have hb := C.2.1
  have hl : lv_has ls 5 [(0, .ref x), (1, .int a0), (2, .int a1), (3, .ref o)] := hl
  refine lv_aload_n hx hb dL_pointAt_0 rfl (lv_at hl 3 rfl) ?_
  refine lv_iconst (v := 0) hx hb dL_pointAt_1 (by decide) ?_
  refine lv_aload_n hx hb dL_pointAt_2 rfl (lv_at hl 0 rfl) ?_
  refine lv_iload_n hx hb dL_pointAt_3 rfl (lv_at hl 1 rfl) ?_
  refine lv_iload_n hx hb dL_pointAt_4 rfl (lv_at hl 2 rfl) ?_
  refine call_X (wr := []) C (run_VX (As := [.int a0, .int a1]) (rest := [.int 0, .ref o]) C (k_pointAt l hlt D cI cZ cJ x inp par pla dra lat his f1 f2 hd ec ea g gp a0 a1 ) cV_L_38 hP hD hS [0, 1] rfl rfl 0 rfl rfl rfl rfl hl.1 rfl (Nat.le_of_ble_eq_true rfl) dL_pointAt_5 ⟨Nat.le_of_ble_eq_true rfl, Nat.le_of_ble_eq_true rfl⟩ ⟨Nat.le_of_ble_eq_true rfl, Nat.le_of_ble_eq_true rfl⟩) hP hD hS [0, 1] [] rfl rfl rfl (by decide) (fun ce q9 H locs hce hcv hcl hP hD hS => ?_)
  have hP : va_P D CL [(x, .inr (10, xC inp par pla dra lat his f1 f2 hd ec ea g)), (pla, .inr (5, pC 0 0 0 gp))] H := hP
  have hD : va_D A [(x, .inr (10, xC inp par pla dra lat his f1 f2 hd ec ea g)), (pla, .inr (5, pC 0 0 0 gp))] := hD
  refine vx_widen (k := 1) (n := 6) (Nat.le_of_ble_eq_true rfl) (Nat.le_of_ble_eq_true rfl) ?_
  refine r_catch (E := "java/lang/IllegalStateException") C (by decide) [] ⟨0, 10, 13, 20⟩ [] (htab.trans rfl) (fun z hz => nomatch hz) rfl (by decide) w_42 hce hcv hcl ?_
  refine W.eq (g2 := F0 m 13 ls [.ref q9]) rfl ?_
  refine lv_astore (lv' := [(4, .ref q9), (0, .ref x), (1, .int a0), (2, .int a1), (3, .ref o)]) hx hb dL_pointAt_13 hl (by decide) rfl (fun ls hl => ?_)
  refine lv_iconst (v := 1) hx hb dL_pointAt_15 (by decide) ?_
  exact r_iret C hP hD hS () rfl rfl (Nat.le_of_ble_eq_true rfl) (Nat.le_of_ble_eq_true rfl) dL_pointAt_16
set_option maxHeartbeats 4000000 in
set_option maxRecDepth 100000 in
theorem h_boundary (l : Launch) (hlt : l.stackTraces = false) (D : va_G) (cI cZ cJ : ClassId) (x : Nat) (inp : Nat) (par : Nat) (pla : Nat) (dra : Nat) (lat : Nat) (his : Nat) (f1 : Nat) (f2 : Nat) (hd : Int32) (ec : Int32) (ea : Int32) (g : Nat → Value) (gp : Nat → Value) (o : Nat)  : cMW l yL_boundary cL_boundary 3 (some .int) [(0, 7, 10, 20)] D (TT cI cZ cJ) [.ref x, .ref o] [(x, .inr (10, xC inp par pla dra lat his f1 f2 hd ec ea g)), (pla, .inr (5, pC 0 0 0 gp))] (qI D (TT cI cZ cJ) (fun u : Unit => 1) (fun u : Unit => [(x, .inr (10, xC inp par pla dra lat his f1 f2 hd ec ea g)), (pla, .inr (5, pC 0 0 0 gp))])) 2 1 6 := by
  refine enterW (by decide) (Nat.le_of_ble_eq_true rfl) ?_
  intro p e s m below meth c ls A C htab hP hD hS hl
  have hx := C.1
  have hb := C.2.1
  have hl : lv_has ls 3 [(0, .ref x), (1, .ref o)] := hl
  refine lv_aload_n hx hb dL_boundary_0 rfl (lv_at hl 1 rfl) ?_
  refine lv_iconst (v := 0) hx hb dL_boundary_1 (by decide) ?_
  refine lv_aload_n hx hb dL_boundary_2 rfl (lv_at hl 0 rfl) ?_
  refine call_X (wr := []) C (run_VX (As := []) (rest := [.int 0, .ref o]) C (k_boundary l hlt D cI cZ cJ x inp par pla dra lat his f1 f2 hd ec ea g gp ) cV_L_42 hP hD hS [0, 1] rfl rfl 0 rfl rfl rfl rfl hl.1 rfl (Nat.le_of_ble_eq_true rfl) dL_boundary_3 ⟨Nat.le_of_ble_eq_true rfl, Nat.le_of_ble_eq_true rfl⟩ ⟨Nat.le_of_ble_eq_true rfl, Nat.le_of_ble_eq_true rfl⟩) hP hD hS [0, 1] [] rfl rfl rfl (by decide) (fun ce q9 H locs hce hcv hcl hP hD hS => ?_)
  have hP : va_P D CL [(x, .inr (10, xC inp par pla dra lat his f1 f2 hd ec ea g)), (pla, .inr (5, pC 0 0 0 gp))] H := hP
  have hD : va_D A [(x, .inr (10, xC inp par pla dra lat his f1 f2 hd ec ea g)), (pla, .inr (5, pC 0 0 0 gp))] := hD
  refine vx_widen (k := 1) (n := 6) (Nat.le_of_ble_eq_true rfl) (Nat.le_of_ble_eq_true rfl) ?_
  refine r_catch (E := "java/lang/IllegalStateException") C (by decide) [] ⟨0, 7, 10, 20⟩ [] (htab.trans rfl) (fun z hz => nomatch hz) rfl (by decide) w_42 hce hcv hcl ?_
  refine W.eq (g2 := F0 m 10 ls [.ref q9]) rfl ?_
  refine lv_astore_n (lv' := [(2, .ref q9), (0, .ref x), (1, .ref o)]) hx hb dL_boundary_10 rfl hl (by decide) rfl (fun ls hl => ?_)
  refine lv_iconst (v := 1) hx hb dL_boundary_11 (by decide) ?_
  exact r_iret C hP hD hS () rfl rfl (Nat.le_of_ble_eq_true rfl) (Nat.le_of_ble_eq_true rfl) dL_boundary_12
set_option maxHeartbeats 4000000 in
set_option maxRecDepth 100000 in
theorem h_sees (l : Launch) (hlt : l.stackTraces = false) (D : va_G) (cI cZ cJ : ClassId) (x : Nat) (inp : Nat) (par : Nat) (pla : Nat) (dra : Nat) (lat : Nat) (his : Nat) (f1 : Nat) (f2 : Nat) (hd : Int32) (ec : Int32) (ea : Int32) (g : Nat → Value) (gp : Nat → Value) (a0 : Int32) (a1 : Int32) (o : Nat)  : cMW l yL_sees cL_sees 5 (some .int) [(0, 17, 20, 20), (0, 17, 24, 13)] D (TT cI cZ cJ) [.ref x, .int a0, .int a1, .ref o] [(x, .inr (10, xC inp par pla dra lat his f1 f2 hd ec ea g)), (pla, .inr (5, pC 0 0 0 gp))] (qI D (TT cI cZ cJ) (fun u : Unit => 1) (fun u : Unit => [(x, .inr (10, xC inp par pla dra lat his f1 f2 hd ec ea g)), (pla, .inr (5, pC 0 0 0 gp))])) 2 1 6 := by
  refine enterW (by decide) (Nat.le_of_ble_eq_true rfl) ?_
  intro p e s m below meth c ls A C htab hP hD hS hl
  have hx := C.1
  have hb := C.2.1
  have hl : lv_has ls 5 [(0, .ref x), (1, .int a0), (2, .int a1), (3, .ref o)] := hl
  refine lv_aload_n hx hb dL_sees_0 rfl (lv_at hl 3 rfl) ?_
  refine lv_iconst (v := 0) hx hb dL_sees_1 (by decide) ?_
  refine lv_aload_n hx hb dL_sees_2 rfl (lv_at hl 0 rfl) ?_
  refine lv_iload_n hx hb dL_sees_3 rfl (lv_at hl 1 rfl) ?_
  refine lv_iload_n hx hb dL_sees_4 rfl (lv_at hl 2 rfl) ?_
  refine call_X (wr := []) C (run_VX (As := [.int a0, .int a1]) (rest := [.int 0, .ref o]) C (k_sees l hlt D cI cZ cJ x inp par pla dra lat his f1 f2 hd ec ea g gp a0 a1 ) cV_L_46 hP hD hS [0, 1] rfl rfl 0 rfl rfl rfl rfl hl.1 rfl (Nat.le_of_ble_eq_true rfl) dL_sees_5 ⟨Nat.le_of_ble_eq_true rfl, Nat.le_of_ble_eq_true rfl⟩ ⟨Nat.le_of_ble_eq_true rfl, Nat.le_of_ble_eq_true rfl⟩) hP hD hS [0, 1] [] rfl rfl rfl (by decide) (fun ce q9 H locs hce hcv hcl hP hD hS => ?_)
  have hP : va_P D CL [(x, .inr (10, xC inp par pla dra lat his f1 f2 hd ec ea g)), (pla, .inr (5, pC 0 0 0 gp))] H := hP
  have hD : va_D A [(x, .inr (10, xC inp par pla dra lat his f1 f2 hd ec ea g)), (pla, .inr (5, pC 0 0 0 gp))] := hD
  refine vx_widen (k := 1) (n := 6) (Nat.le_of_ble_eq_true rfl) (Nat.le_of_ble_eq_true rfl) ?_
  refine r_catch (E := "java/lang/IllegalStateException") C (by decide) [] ⟨0, 17, 20, 20⟩ [⟨0, 17, 24, 13⟩] (htab.trans rfl) (fun z hz => nomatch hz) rfl (by decide) w_42 hce hcv hcl ?_
  refine W.eq (g2 := F0 m 20 ls [.ref q9]) rfl ?_
  refine lv_astore (lv' := [(4, .ref q9), (0, .ref x), (1, .int a0), (2, .int a1), (3, .ref o)]) hx hb dL_sees_20 hl (by decide) rfl (fun ls hl => ?_)
  refine lv_iconst (v := 1) hx hb dL_sees_22 (by decide) ?_
  exact r_iret C hP hD hS () rfl rfl (Nat.le_of_ble_eq_true rfl) (Nat.le_of_ble_eq_true rfl) dL_sees_23
set_option maxHeartbeats 4000000 in
set_option maxRecDepth 100000 in
theorem h_visible (l : Launch) (hlt : l.stackTraces = false) (D : va_G) (cI cZ cJ : ClassId) (x : Nat) (inp : Nat) (par : Nat) (pla : Nat) (dra : Nat) (lat : Nat) (his : Nat) (f1 : Nat) (f2 : Nat) (hd : Int32) (ec : Int32) (ea : Int32) (g : Nat → Value) (gp : Nat → Value) (a0 : Int32) (o : Nat)  : cMW l yL_visible cL_visible 4 (some .int) [(0, 8, 11, 20), (0, 8, 14, 13)] D (TT cI cZ cJ) [.ref x, .int a0, .ref o] [(x, .inr (10, xC inp par pla dra lat his f1 f2 hd ec ea g)), (pla, .inr (5, pC 0 0 0 gp))] (qI D (TT cI cZ cJ) (fun u : Unit => 1) (fun u : Unit => [(x, .inr (10, xC inp par pla dra lat his f1 f2 hd ec ea g)), (pla, .inr (5, pC 0 0 0 gp))])) 2 1 6 := by
  refine enterW (by decide) (Nat.le_of_ble_eq_true rfl) ?_
  intro p e s m below meth c ls A C htab hP hD hS hl
  have hx := C.1
  have hb := C.2.1
  have hl : lv_has ls 4 [(0, .ref x), (1, .int a0), (2, .ref o)] := hl
  refine lv_aload_n hx hb dL_visible_0 rfl (lv_at hl 2 rfl) ?_
  refine lv_iconst (v := 0) hx hb dL_visible_1 (by decide) ?_
  refine lv_aload_n hx hb dL_visible_2 rfl (lv_at hl 0 rfl) ?_
  refine lv_iload_n hx hb dL_visible_3 rfl (lv_at hl 1 rfl) ?_
  refine call_X (wr := []) C (run_VX (As := [.int a0]) (rest := [.int 0, .ref o]) C (k_visible l hlt D cI cZ cJ x inp par pla dra lat his f1 f2 hd ec ea g gp a0 ) cV_L_50 hP hD hS [0, 1] rfl rfl 0 rfl rfl rfl rfl hl.1 rfl (Nat.le_of_ble_eq_true rfl) dL_visible_4 ⟨Nat.le_of_ble_eq_true rfl, Nat.le_of_ble_eq_true rfl⟩ ⟨Nat.le_of_ble_eq_true rfl, Nat.le_of_ble_eq_true rfl⟩) hP hD hS [0, 1] [] rfl rfl rfl (by decide) (fun ce q9 H locs hce hcv hcl hP hD hS => ?_)
  have hP : va_P D CL [(x, .inr (10, xC inp par pla dra lat his f1 f2 hd ec ea g)), (pla, .inr (5, pC 0 0 0 gp))] H := hP
  have hD : va_D A [(x, .inr (10, xC inp par pla dra lat his f1 f2 hd ec ea g)), (pla, .inr (5, pC 0 0 0 gp))] := hD
  refine vx_widen (k := 1) (n := 6) (Nat.le_of_ble_eq_true rfl) (Nat.le_of_ble_eq_true rfl) ?_
  refine r_catch (E := "java/lang/IllegalStateException") C (by decide) [] ⟨0, 8, 11, 20⟩ [⟨0, 8, 14, 13⟩] (htab.trans rfl) (fun z hz => nomatch hz) rfl (by decide) w_42 hce hcv hcl ?_
  refine W.eq (g2 := F0 m 11 ls [.ref q9]) rfl ?_
  refine lv_astore_n (lv' := [(3, .ref q9), (0, .ref x), (1, .int a0), (2, .ref o)]) hx hb dL_visible_11 rfl hl (by decide) rfl (fun ls hl => ?_)
  refine lv_iconst (v := 1) hx hb dL_visible_12 (by decide) ?_
  exact r_iret C hP hD hS () rfl rfl (Nat.le_of_ble_eq_true rfl) (Nat.le_of_ble_eq_true rfl) dL_visible_13
set_option maxHeartbeats 4000000 in
set_option maxRecDepth 100000 in
theorem h_kernel (l : Launch) (hlt : l.stackTraces = false) (D : va_G) (cI cZ cJ : ClassId) (x : Nat) (inp : Nat) (par : Nat) (pla : Nat) (dra : Nat) (lat : Nat) (his : Nat) (f1 : Nat) (f2 : Nat) (hd : Int32) (ec : Int32) (ea : Int32) (g : Nat → Value) (gp : Nat → Value) (o : Nat)  : cMW l yL_kernel cL_kernel 3 (some .int) [(0, 7, 10, 20)] D (TT cI cZ cJ) [.ref x, .ref o] [(x, .inr (10, xC inp par pla dra lat his f1 f2 hd ec ea g)), (pla, .inr (5, pC 0 0 0 gp))] (qI D (TT cI cZ cJ) (fun u : Unit => 1) (fun u : Unit => [(x, .inr (10, xC inp par pla dra lat his f1 f2 hd ec ea g)), (pla, .inr (5, pC 0 0 0 gp))])) 2 1 6 := by
  refine enterW (by decide) (Nat.le_of_ble_eq_true rfl) ?_
  intro p e s m below meth c ls A C htab hP hD hS hl
  have hx := C.1
  have hb := C.2.1
  have hl : lv_has ls 3 [(0, .ref x), (1, .ref o)] := hl
  refine lv_aload_n hx hb dL_kernel_0 rfl (lv_at hl 1 rfl) ?_
  refine lv_iconst (v := 0) hx hb dL_kernel_1 (by decide) ?_
  refine lv_aload_n hx hb dL_kernel_2 rfl (lv_at hl 0 rfl) ?_
  refine call_X (wr := []) C (run_VX (As := []) (rest := [.int 0, .ref o]) C (k_kernel l hlt D cI cZ cJ x inp par pla dra lat his f1 f2 hd ec ea g gp ) cV_L_54 hP hD hS [0, 1] rfl rfl 0 rfl rfl rfl rfl hl.1 rfl (Nat.le_of_ble_eq_true rfl) dL_kernel_3 ⟨Nat.le_of_ble_eq_true rfl, Nat.le_of_ble_eq_true rfl⟩ ⟨Nat.le_of_ble_eq_true rfl, Nat.le_of_ble_eq_true rfl⟩) hP hD hS [0, 1] [] rfl rfl rfl (by decide) (fun ce q9 H locs hce hcv hcl hP hD hS => ?_)
  have hP : va_P D CL [(x, .inr (10, xC inp par pla dra lat his f1 f2 hd ec ea g)), (pla, .inr (5, pC 0 0 0 gp))] H := hP
  have hD : va_D A [(x, .inr (10, xC inp par pla dra lat his f1 f2 hd ec ea g)), (pla, .inr (5, pC 0 0 0 gp))] := hD
  refine vx_widen (k := 1) (n := 6) (Nat.le_of_ble_eq_true rfl) (Nat.le_of_ble_eq_true rfl) ?_
  refine r_catch (E := "java/lang/IllegalStateException") C (by decide) [] ⟨0, 7, 10, 20⟩ [] (htab.trans rfl) (fun z hz => nomatch hz) rfl (by decide) w_42 hce hcv hcl ?_
  refine W.eq (g2 := F0 m 10 ls [.ref q9]) rfl ?_
  refine lv_astore_n (lv' := [(2, .ref q9), (0, .ref x), (1, .ref o)]) hx hb dL_kernel_10 rfl hl (by decide) rfl (fun ls hl => ?_)
  refine lv_iconst (v := 1) hx hb dL_kernel_11 (by decide) ?_
  exact r_iret C hP hD hS () rfl rfl (Nat.le_of_ble_eq_true rfl) (Nat.le_of_ble_eq_true rfl) dL_kernel_12
set_option maxHeartbeats 4000000 in
set_option maxRecDepth 100000 in
theorem h_linkDistance (l : Launch) (hlt : l.stackTraces = false) (D : va_G) (cI cZ cJ : ClassId) (x : Nat) (inp : Nat) (par : Nat) (pla : Nat) (dra : Nat) (lat : Nat) (his : Nat) (f1 : Nat) (f2 : Nat) (hd : Int32) (ec : Int32) (ea : Int32) (g : Nat → Value) (gp : Nat → Value) (a0 : Int32) (a1 : Int32) (o : Nat)  : cMW l yL_linkDistance cL_linkDistance 5 (some .int) [(0, 10, 13, 20), (0, 10, 17, 13)] D (TT cI cZ cJ) [.ref x, .int a0, .int a1, .ref o] [(x, .inr (10, xC inp par pla dra lat his f1 f2 hd ec ea g)), (pla, .inr (5, pC 0 0 0 gp))] (qI D (TT cI cZ cJ) (fun u : Unit => 1) (fun u : Unit => [(x, .inr (10, xC inp par pla dra lat his f1 f2 hd ec ea g)), (pla, .inr (5, pC 0 0 0 gp))])) 2 1 6 := by
  refine enterW (by decide) (Nat.le_of_ble_eq_true rfl) ?_
  intro p e s m below meth c ls A C htab hP hD hS hl
  have hx := C.1
  have hb := C.2.1
  have hl : lv_has ls 5 [(0, .ref x), (1, .int a0), (2, .int a1), (3, .ref o)] := hl
  refine lv_aload_n hx hb dL_linkDistance_0 rfl (lv_at hl 3 rfl) ?_
  refine lv_iconst (v := 0) hx hb dL_linkDistance_1 (by decide) ?_
  refine lv_aload_n hx hb dL_linkDistance_2 rfl (lv_at hl 0 rfl) ?_
  refine lv_iload_n hx hb dL_linkDistance_3 rfl (lv_at hl 1 rfl) ?_
  refine lv_iload_n hx hb dL_linkDistance_4 rfl (lv_at hl 2 rfl) ?_
  refine call_X (wr := []) C (run_VX (As := [.int a0, .int a1]) (rest := [.int 0, .ref o]) C (k_linkDistance l hlt D cI cZ cJ x inp par pla dra lat his f1 f2 hd ec ea g gp a0 a1 ) cV_L_57 hP hD hS [0, 1] rfl rfl 0 rfl rfl rfl rfl hl.1 rfl (Nat.le_of_ble_eq_true rfl) dL_linkDistance_5 ⟨Nat.le_of_ble_eq_true rfl, Nat.le_of_ble_eq_true rfl⟩ ⟨Nat.le_of_ble_eq_true rfl, Nat.le_of_ble_eq_true rfl⟩) hP hD hS [0, 1] [] rfl rfl rfl (by decide) (fun ce q9 H locs hce hcv hcl hP hD hS => ?_)
  have hP : va_P D CL [(x, .inr (10, xC inp par pla dra lat his f1 f2 hd ec ea g)), (pla, .inr (5, pC 0 0 0 gp))] H := hP
  have hD : va_D A [(x, .inr (10, xC inp par pla dra lat his f1 f2 hd ec ea g)), (pla, .inr (5, pC 0 0 0 gp))] := hD
  refine vx_widen (k := 1) (n := 6) (Nat.le_of_ble_eq_true rfl) (Nat.le_of_ble_eq_true rfl) ?_
  refine r_catch (E := "java/lang/IllegalStateException") C (by decide) [] ⟨0, 10, 13, 20⟩ [⟨0, 10, 17, 13⟩] (htab.trans rfl) (fun z hz => nomatch hz) rfl (by decide) w_42 hce hcv hcl ?_
  refine W.eq (g2 := F0 m 13 ls [.ref q9]) rfl ?_
  refine lv_astore (lv' := [(4, .ref q9), (0, .ref x), (1, .int a0), (2, .int a1), (3, .ref o)]) hx hb dL_linkDistance_13 hl (by decide) rfl (fun ls hl => ?_)
  refine lv_iconst (v := 1) hx hb dL_linkDistance_15 (by decide) ?_
  exact r_iret C hP hD hS () rfl rfl (Nat.le_of_ble_eq_true rfl) (Nat.le_of_ble_eq_true rfl) dL_linkDistance_16
set_option maxHeartbeats 4000000 in
set_option maxRecDepth 100000 in
theorem h_diameter (l : Launch) (hlt : l.stackTraces = false) (D : va_G) (cI cZ cJ : ClassId) (x : Nat) (inp : Nat) (par : Nat) (pla : Nat) (dra : Nat) (lat : Nat) (his : Nat) (f1 : Nat) (f2 : Nat) (hd : Int32) (ec : Int32) (ea : Int32) (g : Nat → Value) (gp : Nat → Value) (o : Nat)  : cMW l yL_diameter cL_diameter 3 (some .int) [(0, 8, 11, 20)] D (TT cI cZ cJ) [.ref x, .ref o] [(x, .inr (10, xC inp par pla dra lat his f1 f2 hd ec ea g)), (pla, .inr (5, pC 0 0 0 gp))] (qI D (TT cI cZ cJ) (fun u : Unit => 1) (fun u : Unit => [(x, .inr (10, xC inp par pla dra lat his f1 f2 hd ec ea g)), (pla, .inr (5, pC 0 0 0 gp))])) 2 1 6 := by
  refine enterW (by decide) (Nat.le_of_ble_eq_true rfl) ?_
  intro p e s m below meth c ls A C htab hP hD hS hl
  have hx := C.1
  have hb := C.2.1
  have hl : lv_has ls 3 [(0, .ref x), (1, .ref o)] := hl
  refine lv_aload_n hx hb dL_diameter_0 rfl (lv_at hl 1 rfl) ?_
  refine lv_iconst (v := 0) hx hb dL_diameter_1 (by decide) ?_
  refine lv_aload_n hx hb dL_diameter_2 rfl (lv_at hl 0 rfl) ?_
  refine call_X (wr := []) C (run_VX (As := []) (rest := [.int 0, .ref o]) C (k_diameter l hlt D cI cZ cJ x inp par pla dra lat his f1 f2 hd ec ea g gp ) cV_L_60 hP hD hS [0, 1] rfl rfl 0 rfl rfl rfl rfl hl.1 rfl (Nat.le_of_ble_eq_true rfl) dL_diameter_3 ⟨Nat.le_of_ble_eq_true rfl, Nat.le_of_ble_eq_true rfl⟩ ⟨Nat.le_of_ble_eq_true rfl, Nat.le_of_ble_eq_true rfl⟩) hP hD hS [0, 1] [] rfl rfl rfl (by decide) (fun ce q9 H locs hce hcv hcl hP hD hS => ?_)
  have hP : va_P D CL [(x, .inr (10, xC inp par pla dra lat his f1 f2 hd ec ea g)), (pla, .inr (5, pC 0 0 0 gp))] H := hP
  have hD : va_D A [(x, .inr (10, xC inp par pla dra lat his f1 f2 hd ec ea g)), (pla, .inr (5, pC 0 0 0 gp))] := hD
  refine vx_widen (k := 1) (n := 6) (Nat.le_of_ble_eq_true rfl) (Nat.le_of_ble_eq_true rfl) ?_
  refine r_catch (E := "java/lang/IllegalStateException") C (by decide) [] ⟨0, 8, 11, 20⟩ [] (htab.trans rfl) (fun z hz => nomatch hz) rfl (by decide) w_42 hce hcv hcl ?_
  refine W.eq (g2 := F0 m 11 ls [.ref q9]) rfl ?_
  refine lv_astore_n (lv' := [(2, .ref q9), (0, .ref x), (1, .ref o)]) hx hb dL_diameter_11 rfl hl (by decide) rfl (fun ls hl => ?_)
  refine lv_iconst (v := 1) hx hb dL_diameter_12 (by decide) ?_
  exact r_iret C hP hD hS () rfl rfl (Nat.le_of_ble_eq_true rfl) (Nat.le_of_ble_eq_true rfl) dL_diameter_13
set_option maxHeartbeats 4000000 in
set_option maxRecDepth 100000 in
theorem h_farthest (l : Launch) (hlt : l.stackTraces = false) (D : va_G) (cI cZ cJ : ClassId) (x : Nat) (inp : Nat) (par : Nat) (pla : Nat) (dra : Nat) (lat : Nat) (his : Nat) (f1 : Nat) (f2 : Nat) (hd : Int32) (ec : Int32) (ea : Int32) (g : Nat → Value) (gp : Nat → Value) (a0 : Int32) (o : Nat)  : cMW l yL_farthest cL_farthest 4 (some .int) [(0, 9, 12, 20), (0, 9, 15, 13)] D (TT cI cZ cJ) [.ref x, .int a0, .ref o] [(x, .inr (10, xC inp par pla dra lat his f1 f2 hd ec ea g)), (pla, .inr (5, pC 0 0 0 gp))] (qI D (TT cI cZ cJ) (fun u : Unit => 1) (fun u : Unit => [(x, .inr (10, xC inp par pla dra lat his f1 f2 hd ec ea g)), (pla, .inr (5, pC 0 0 0 gp))])) 2 1 6 := by
  refine enterW (by decide) (Nat.le_of_ble_eq_true rfl) ?_
  intro p e s m below meth c ls A C htab hP hD hS hl
  have hx := C.1
  have hb := C.2.1
  have hl : lv_has ls 4 [(0, .ref x), (1, .int a0), (2, .ref o)] := hl
  refine lv_aload_n hx hb dL_farthest_0 rfl (lv_at hl 2 rfl) ?_
  refine lv_iconst (v := 0) hx hb dL_farthest_1 (by decide) ?_
  refine lv_aload_n hx hb dL_farthest_2 rfl (lv_at hl 0 rfl) ?_
  refine lv_iload_n hx hb dL_farthest_3 rfl (lv_at hl 1 rfl) ?_
  refine call_X (wr := []) C (run_VX (As := [.int a0]) (rest := [.int 0, .ref o]) C (k_farthest l hlt D cI cZ cJ x inp par pla dra lat his f1 f2 hd ec ea g gp a0 ) cV_L_63 hP hD hS [0, 1] rfl rfl 0 rfl rfl rfl rfl hl.1 rfl (Nat.le_of_ble_eq_true rfl) dL_farthest_4 ⟨Nat.le_of_ble_eq_true rfl, Nat.le_of_ble_eq_true rfl⟩ ⟨Nat.le_of_ble_eq_true rfl, Nat.le_of_ble_eq_true rfl⟩) hP hD hS [0, 1] [] rfl rfl rfl (by decide) (fun ce q9 H locs hce hcv hcl hP hD hS => ?_)
  have hP : va_P D CL [(x, .inr (10, xC inp par pla dra lat his f1 f2 hd ec ea g)), (pla, .inr (5, pC 0 0 0 gp))] H := hP
  have hD : va_D A [(x, .inr (10, xC inp par pla dra lat his f1 f2 hd ec ea g)), (pla, .inr (5, pC 0 0 0 gp))] := hD
  refine vx_widen (k := 1) (n := 6) (Nat.le_of_ble_eq_true rfl) (Nat.le_of_ble_eq_true rfl) ?_
  refine r_catch (E := "java/lang/IllegalStateException") C (by decide) [] ⟨0, 9, 12, 20⟩ [⟨0, 9, 15, 13⟩] (htab.trans rfl) (fun z hz => nomatch hz) rfl (by decide) w_42 hce hcv hcl ?_
  refine W.eq (g2 := F0 m 12 ls [.ref q9]) rfl ?_
  refine lv_astore_n (lv' := [(3, .ref q9), (0, .ref x), (1, .int a0), (2, .ref o)]) hx hb dL_farthest_12 rfl hl (by decide) rfl (fun ls hl => ?_)
  refine lv_iconst (v := 1) hx hb dL_farthest_13 (by decide) ?_
  exact r_iret C hP hD hS () rfl rfl (Nat.le_of_ble_eq_true rfl) (Nat.le_of_ble_eq_true rfl) dL_farthest_14
set_option maxHeartbeats 4000000 in
set_option maxRecDepth 100000 in
theorem h_seenFromEdge (l : Launch) (hlt : l.stackTraces = false) (D : va_G) (cI cZ cJ : ClassId) (x : Nat) (inp : Nat) (par : Nat) (pla : Nat) (dra : Nat) (lat : Nat) (his : Nat) (f1 : Nat) (f2 : Nat) (hd : Int32) (ec : Int32) (ea : Int32) (g : Nat → Value) (gp : Nat → Value) (a0 : Int32) (o : Nat)  : cMW l yL_seenFromEdge cL_seenFromEdge 4 (some .int) [(0, 8, 11, 20), (0, 8, 14, 13)] D (TT cI cZ cJ) [.ref x, .int a0, .ref o] [(x, .inr (10, xC inp par pla dra lat his f1 f2 hd ec ea g)), (pla, .inr (5, pC 0 0 0 gp))] (qI D (TT cI cZ cJ) (fun u : Unit => 1) (fun u : Unit => [(x, .inr (10, xC inp par pla dra lat his f1 f2 hd ec ea g)), (pla, .inr (5, pC 0 0 0 gp))])) 2 1 6 := by
  refine enterW (by decide) (Nat.le_of_ble_eq_true rfl) ?_
  intro p e s m below meth c ls A C htab hP hD hS hl
  have hx := C.1
  have hb := C.2.1
  have hl : lv_has ls 4 [(0, .ref x), (1, .int a0), (2, .ref o)] := hl
  refine lv_aload_n hx hb dL_seenFromEdge_0 rfl (lv_at hl 2 rfl) ?_
  refine lv_iconst (v := 0) hx hb dL_seenFromEdge_1 (by decide) ?_
  refine lv_aload_n hx hb dL_seenFromEdge_2 rfl (lv_at hl 0 rfl) ?_
  refine lv_iload_n hx hb dL_seenFromEdge_3 rfl (lv_at hl 1 rfl) ?_
  refine call_X (wr := []) C (run_VX (As := [.int a0]) (rest := [.int 0, .ref o]) C (k_seenFromEdge l hlt D cI cZ cJ x inp par pla dra lat his f1 f2 hd ec ea g gp a0 ) cV_L_66 hP hD hS [0, 1] rfl rfl 0 rfl rfl rfl rfl hl.1 rfl (Nat.le_of_ble_eq_true rfl) dL_seenFromEdge_4 ⟨Nat.le_of_ble_eq_true rfl, Nat.le_of_ble_eq_true rfl⟩ ⟨Nat.le_of_ble_eq_true rfl, Nat.le_of_ble_eq_true rfl⟩) hP hD hS [0, 1] [] rfl rfl rfl (by decide) (fun ce q9 H locs hce hcv hcl hP hD hS => ?_)
  have hP : va_P D CL [(x, .inr (10, xC inp par pla dra lat his f1 f2 hd ec ea g)), (pla, .inr (5, pC 0 0 0 gp))] H := hP
  have hD : va_D A [(x, .inr (10, xC inp par pla dra lat his f1 f2 hd ec ea g)), (pla, .inr (5, pC 0 0 0 gp))] := hD
  refine vx_widen (k := 1) (n := 6) (Nat.le_of_ble_eq_true rfl) (Nat.le_of_ble_eq_true rfl) ?_
  refine r_catch (E := "java/lang/IllegalStateException") C (by decide) [] ⟨0, 8, 11, 20⟩ [⟨0, 8, 14, 13⟩] (htab.trans rfl) (fun z hz => nomatch hz) rfl (by decide) w_42 hce hcv hcl ?_
  refine W.eq (g2 := F0 m 11 ls [.ref q9]) rfl ?_
  refine lv_astore_n (lv' := [(3, .ref q9), (0, .ref x), (1, .int a0), (2, .ref o)]) hx hb dL_seenFromEdge_11 rfl hl (by decide) rfl (fun ls hl => ?_)
  refine lv_iconst (v := 1) hx hb dL_seenFromEdge_12 (by decide) ?_
  exact r_iret C hP hD hS () rfl rfl (Nat.le_of_ble_eq_true rfl) (Nat.le_of_ble_eq_true rfl) dL_seenFromEdge_13
set_option maxHeartbeats 4000000 in
set_option maxRecDepth 100000 in
theorem h_triangleVertex (l : Launch) (hlt : l.stackTraces = false) (D : va_G) (cI cZ cJ : ClassId) (x : Nat) (inp : Nat) (par : Nat) (pla : Nat) (dra : Nat) (lat : Nat) (his : Nat) (f1 : Nat) (f2 : Nat) (hd : Int32) (ec : Int32) (ea : Int32) (g : Nat → Value) (gp : Nat → Value) (a0 : Int32) (a1 : Int32) (o : Nat)  : cMW l yL_triangleVertex cL_triangleVertex 5 (some .int) [(0, 10, 13, 20), (0, 10, 17, 13), (0, 10, 21, 15)] D (TT cI cZ cJ) [.ref x, .int a0, .int a1, .ref o] [(x, .inr (10, xC inp par pla dra lat his f1 f2 hd ec ea g)), (pla, .inr (5, pC 0 0 0 gp))] (qI D (TT cI cZ cJ) (fun u : Unit => 1) (fun u : Unit => [(x, .inr (10, xC inp par pla dra lat his f1 f2 hd ec ea g)), (pla, .inr (5, pC 0 0 0 gp))])) 2 1 6 := by
  refine enterW (by decide) (Nat.le_of_ble_eq_true rfl) ?_
  intro p e s m below meth c ls A C htab hP hD hS hl
  have hx := C.1
  have hb := C.2.1
  have hl : lv_has ls 5 [(0, .ref x), (1, .int a0), (2, .int a1), (3, .ref o)] := hl
  refine lv_aload_n hx hb dL_triangleVertex_0 rfl (lv_at hl 3 rfl) ?_
  refine lv_iconst (v := 0) hx hb dL_triangleVertex_1 (by decide) ?_
  refine lv_aload_n hx hb dL_triangleVertex_2 rfl (lv_at hl 0 rfl) ?_
  refine lv_iload_n hx hb dL_triangleVertex_3 rfl (lv_at hl 1 rfl) ?_
  refine lv_iload_n hx hb dL_triangleVertex_4 rfl (lv_at hl 2 rfl) ?_
  refine call_X (wr := []) C (run_VX (As := [.int a0, .int a1]) (rest := [.int 0, .ref o]) C (k_triangleVertex l hlt D cI cZ cJ x inp par pla dra lat his f1 f2 hd ec ea g gp a0 a1 ) cV_L_69 hP hD hS [0, 1] rfl rfl 0 rfl rfl rfl rfl hl.1 rfl (Nat.le_of_ble_eq_true rfl) dL_triangleVertex_5 ⟨Nat.le_of_ble_eq_true rfl, Nat.le_of_ble_eq_true rfl⟩ ⟨Nat.le_of_ble_eq_true rfl, Nat.le_of_ble_eq_true rfl⟩) hP hD hS [0, 1] [] rfl rfl rfl (by decide) (fun ce q9 H locs hce hcv hcl hP hD hS => ?_)
  have hP : va_P D CL [(x, .inr (10, xC inp par pla dra lat his f1 f2 hd ec ea g)), (pla, .inr (5, pC 0 0 0 gp))] H := hP
  have hD : va_D A [(x, .inr (10, xC inp par pla dra lat his f1 f2 hd ec ea g)), (pla, .inr (5, pC 0 0 0 gp))] := hD
  refine vx_widen (k := 1) (n := 6) (Nat.le_of_ble_eq_true rfl) (Nat.le_of_ble_eq_true rfl) ?_
  refine r_catch (E := "java/lang/IllegalStateException") C (by decide) [] ⟨0, 10, 13, 20⟩ [⟨0, 10, 17, 13⟩, ⟨0, 10, 21, 15⟩] (htab.trans rfl) (fun z hz => nomatch hz) rfl (by decide) w_42 hce hcv hcl ?_
  refine W.eq (g2 := F0 m 13 ls [.ref q9]) rfl ?_
  refine lv_astore (lv' := [(4, .ref q9), (0, .ref x), (1, .int a0), (2, .int a1), (3, .ref o)]) hx hb dL_triangleVertex_13 hl (by decide) rfl (fun ls hl => ?_)
  refine lv_iconst (v := 1) hx hb dL_triangleVertex_15 (by decide) ?_
  exact r_iret C hP hD hS () rfl rfl (Nat.le_of_ble_eq_true rfl) (Nat.le_of_ble_eq_true rfl) dL_triangleVertex_16
set_option maxHeartbeats 4000000 in
set_option maxRecDepth 100000 in
theorem h_triangleArea (l : Launch) (hlt : l.stackTraces = false) (D : va_G) (cI cZ cJ : ClassId) (x : Nat) (inp : Nat) (par : Nat) (pla : Nat) (dra : Nat) (lat : Nat) (his : Nat) (f1 : Nat) (f2 : Nat) (hd : Int32) (ec : Int32) (ea : Int32) (g : Nat → Value) (gp : Nat → Value) (a0 : Int32) (o : Nat)  : cMW l yL_triangleArea cL_triangleArea 4 (some .int) [(0, 9, 12, 20), (0, 9, 15, 13)] D (TT cI cZ cJ) [.ref x, .int a0, .ref o] [(x, .inr (10, xC inp par pla dra lat his f1 f2 hd ec ea g)), (pla, .inr (5, pC 0 0 0 gp))] (qI D (TT cI cZ cJ) (fun u : Unit => 1) (fun u : Unit => [(x, .inr (10, xC inp par pla dra lat his f1 f2 hd ec ea g)), (pla, .inr (5, pC 0 0 0 gp))])) 2 1 6 := by
  refine enterW (by decide) (Nat.le_of_ble_eq_true rfl) ?_
  intro p e s m below meth c ls A C htab hP hD hS hl
  have hx := C.1
  have hb := C.2.1
  have hl : lv_has ls 4 [(0, .ref x), (1, .int a0), (2, .ref o)] := hl
  refine lv_aload_n hx hb dL_triangleArea_0 rfl (lv_at hl 2 rfl) ?_
  refine lv_iconst (v := 0) hx hb dL_triangleArea_1 (by decide) ?_
  refine lv_aload_n hx hb dL_triangleArea_2 rfl (lv_at hl 0 rfl) ?_
  refine lv_iload_n hx hb dL_triangleArea_3 rfl (lv_at hl 1 rfl) ?_
  refine call_X (wr := []) C (run_VX (As := [.int a0]) (rest := [.int 0, .ref o]) C (k_triangleArea l hlt D cI cZ cJ x inp par pla dra lat his f1 f2 hd ec ea g gp a0 ) cV_L_72 hP hD hS [0, 1] rfl rfl 0 rfl rfl rfl rfl hl.1 rfl (Nat.le_of_ble_eq_true rfl) dL_triangleArea_4 ⟨Nat.le_of_ble_eq_true rfl, Nat.le_of_ble_eq_true rfl⟩ ⟨Nat.le_of_ble_eq_true rfl, Nat.le_of_ble_eq_true rfl⟩) hP hD hS [0, 1] [] rfl rfl rfl (by decide) (fun ce q9 H locs hce hcv hcl hP hD hS => ?_)
  have hP : va_P D CL [(x, .inr (10, xC inp par pla dra lat his f1 f2 hd ec ea g)), (pla, .inr (5, pC 0 0 0 gp))] H := hP
  have hD : va_D A [(x, .inr (10, xC inp par pla dra lat his f1 f2 hd ec ea g)), (pla, .inr (5, pC 0 0 0 gp))] := hD
  refine vx_widen (k := 1) (n := 6) (Nat.le_of_ble_eq_true rfl) (Nat.le_of_ble_eq_true rfl) ?_
  refine r_catch (E := "java/lang/IllegalStateException") C (by decide) [] ⟨0, 9, 12, 20⟩ [⟨0, 9, 15, 13⟩] (htab.trans rfl) (fun z hz => nomatch hz) rfl (by decide) w_42 hce hcv hcl ?_
  refine W.eq (g2 := F0 m 12 ls [.ref q9]) rfl ?_
  refine lv_astore_n (lv' := [(3, .ref q9), (0, .ref x), (1, .int a0), (2, .ref o)]) hx hb dL_triangleArea_12 rfl hl (by decide) rfl (fun ls hl => ?_)
  refine lv_iconst (v := 1) hx hb dL_triangleArea_13 (by decide) ?_
  exact r_iret C hP hD hS () rfl rfl (Nat.le_of_ble_eq_true rfl) (Nat.le_of_ble_eq_true rfl) dL_triangleArea_14
set_option maxHeartbeats 4000000 in
set_option maxRecDepth 100000 in
theorem h_colour (l : Launch) (hlt : l.stackTraces = false) (D : va_G) (cI cZ cJ : ClassId) (x : Nat) (inp : Nat) (par : Nat) (pla : Nat) (dra : Nat) (lat : Nat) (his : Nat) (f1 : Nat) (f2 : Nat) (hd : Int32) (ec : Int32) (ea : Int32) (g : Nat → Value) (gp : Nat → Value) (a0 : Int32) (o : Nat)  : cMW l yL_colour cL_colour 4 (some .int) [(0, 9, 12, 20), (0, 9, 15, 13)] D (TT cI cZ cJ) [.ref x, .int a0, .ref o] [(x, .inr (10, xC inp par pla dra lat his f1 f2 hd ec ea g)), (pla, .inr (5, pC 0 0 0 gp))] (qI D (TT cI cZ cJ) (fun u : Unit => 1) (fun u : Unit => [(x, .inr (10, xC inp par pla dra lat his f1 f2 hd ec ea g)), (pla, .inr (5, pC 0 0 0 gp))])) 2 1 6 := by
  refine enterW (by decide) (Nat.le_of_ble_eq_true rfl) ?_
  intro p e s m below meth c ls A C htab hP hD hS hl
  have hx := C.1
  have hb := C.2.1
  have hl : lv_has ls 4 [(0, .ref x), (1, .int a0), (2, .ref o)] := hl
  refine lv_aload_n hx hb dL_colour_0 rfl (lv_at hl 2 rfl) ?_
  refine lv_iconst (v := 0) hx hb dL_colour_1 (by decide) ?_
  refine lv_aload_n hx hb dL_colour_2 rfl (lv_at hl 0 rfl) ?_
  refine lv_iload_n hx hb dL_colour_3 rfl (lv_at hl 1 rfl) ?_
  refine call_X (wr := []) C (run_VX (As := [.int a0]) (rest := [.int 0, .ref o]) C (k_colour l hlt D cI cZ cJ x inp par pla dra lat his f1 f2 hd ec ea g gp a0 ) cV_L_75 hP hD hS [0, 1] rfl rfl 0 rfl rfl rfl rfl hl.1 rfl (Nat.le_of_ble_eq_true rfl) dL_colour_4 ⟨Nat.le_of_ble_eq_true rfl, Nat.le_of_ble_eq_true rfl⟩ ⟨Nat.le_of_ble_eq_true rfl, Nat.le_of_ble_eq_true rfl⟩) hP hD hS [0, 1] [] rfl rfl rfl (by decide) (fun ce q9 H locs hce hcv hcl hP hD hS => ?_)
  have hP : va_P D CL [(x, .inr (10, xC inp par pla dra lat his f1 f2 hd ec ea g)), (pla, .inr (5, pC 0 0 0 gp))] H := hP
  have hD : va_D A [(x, .inr (10, xC inp par pla dra lat his f1 f2 hd ec ea g)), (pla, .inr (5, pC 0 0 0 gp))] := hD
  refine vx_widen (k := 1) (n := 6) (Nat.le_of_ble_eq_true rfl) (Nat.le_of_ble_eq_true rfl) ?_
  refine r_catch (E := "java/lang/IllegalStateException") C (by decide) [] ⟨0, 9, 12, 20⟩ [⟨0, 9, 15, 13⟩] (htab.trans rfl) (fun z hz => nomatch hz) rfl (by decide) w_42 hce hcv hcl ?_
  refine W.eq (g2 := F0 m 12 ls [.ref q9]) rfl ?_
  refine lv_astore_n (lv' := [(3, .ref q9), (0, .ref x), (1, .int a0), (2, .ref o)]) hx hb dL_colour_12 rfl hl (by decide) rfl (fun ls hl => ?_)
  refine lv_iconst (v := 1) hx hb dL_colour_13 (by decide) ?_
  exact r_iret C hP hD hS () rfl rfl (Nat.le_of_ble_eq_true rfl) (Nat.le_of_ble_eq_true rfl) dL_colour_14
set_option maxHeartbeats 4000000 in
set_option maxRecDepth 100000 in
theorem h_colourGuards (l : Launch) (hlt : l.stackTraces = false) (D : va_G) (cI cZ cJ : ClassId) (x : Nat) (inp : Nat) (par : Nat) (pla : Nat) (dra : Nat) (lat : Nat) (his : Nat) (f1 : Nat) (f2 : Nat) (hd : Int32) (ec : Int32) (ea : Int32) (g : Nat → Value) (gp : Nat → Value) (o : Nat)  : cMW l yL_colourGuards cL_colourGuards 3 (some .int) [(0, 8, 11, 20)] D (TT cI cZ cJ) [.ref x, .ref o] [(x, .inr (10, xC inp par pla dra lat his f1 f2 hd ec ea g)), (pla, .inr (5, pC 0 0 0 gp))] (qI D (TT cI cZ cJ) (fun u : Unit => 1) (fun u : Unit => [(x, .inr (10, xC inp par pla dra lat his f1 f2 hd ec ea g)), (pla, .inr (5, pC 0 0 0 gp))])) 2 1 6 := by
  refine enterW (by decide) (Nat.le_of_ble_eq_true rfl) ?_
  intro p e s m below meth c ls A C htab hP hD hS hl
  have hx := C.1
  have hb := C.2.1
  have hl : lv_has ls 3 [(0, .ref x), (1, .ref o)] := hl
  refine lv_aload_n hx hb dL_colourGuards_0 rfl (lv_at hl 1 rfl) ?_
  refine lv_iconst (v := 0) hx hb dL_colourGuards_1 (by decide) ?_
  refine lv_aload_n hx hb dL_colourGuards_2 rfl (lv_at hl 0 rfl) ?_
  refine call_X (wr := []) C (run_VX (As := []) (rest := [.int 0, .ref o]) C (k_colourGuards l hlt D cI cZ cJ x inp par pla dra lat his f1 f2 hd ec ea g gp ) cV_L_78 hP hD hS [0, 1] rfl rfl 0 rfl rfl rfl rfl hl.1 rfl (Nat.le_of_ble_eq_true rfl) dL_colourGuards_3 ⟨Nat.le_of_ble_eq_true rfl, Nat.le_of_ble_eq_true rfl⟩ ⟨Nat.le_of_ble_eq_true rfl, Nat.le_of_ble_eq_true rfl⟩) hP hD hS [0, 1] [] rfl rfl rfl (by decide) (fun ce q9 H locs hce hcv hcl hP hD hS => ?_)
  have hP : va_P D CL [(x, .inr (10, xC inp par pla dra lat his f1 f2 hd ec ea g)), (pla, .inr (5, pC 0 0 0 gp))] H := hP
  have hD : va_D A [(x, .inr (10, xC inp par pla dra lat his f1 f2 hd ec ea g)), (pla, .inr (5, pC 0 0 0 gp))] := hD
  refine vx_widen (k := 1) (n := 6) (Nat.le_of_ble_eq_true rfl) (Nat.le_of_ble_eq_true rfl) ?_
  refine r_catch (E := "java/lang/IllegalStateException") C (by decide) [] ⟨0, 8, 11, 20⟩ [] (htab.trans rfl) (fun z hz => nomatch hz) rfl (by decide) w_42 hce hcv hcl ?_
  refine W.eq (g2 := F0 m 11 ls [.ref q9]) rfl ?_
  refine lv_astore_n (lv' := [(2, .ref q9), (0, .ref x), (1, .ref o)]) hx hb dL_colourGuards_11 rfl hl (by decide) rfl (fun ls hl => ?_)
  refine lv_iconst (v := 1) hx hb dL_colourGuards_12 (by decide) ?_
  exact r_iret C hP hD hS () rfl rfl (Nat.le_of_ble_eq_true rfl) (Nat.le_of_ble_eq_true rfl) dL_colourGuards_13
set_option maxHeartbeats 4000000 in
set_option maxRecDepth 100000 in
theorem h_vertexGuards (l : Launch) (hlt : l.stackTraces = false) (D : va_G) (cI cZ cJ : ClassId) (x : Nat) (inp : Nat) (par : Nat) (pla : Nat) (dra : Nat) (lat : Nat) (his : Nat) (f1 : Nat) (f2 : Nat) (hd : Int32) (ec : Int32) (ea : Int32) (g : Nat → Value) (gp : Nat → Value) (o : Nat)  : cMW l yL_vertexGuards cL_vertexGuards 3 (some .int) [(0, 8, 11, 20)] D (TT cI cZ cJ) [.ref x, .ref o] [(x, .inr (10, xC inp par pla dra lat his f1 f2 hd ec ea g)), (pla, .inr (5, pC 0 0 0 gp))] (qI D (TT cI cZ cJ) (fun u : Unit => 1) (fun u : Unit => [(x, .inr (10, xC inp par pla dra lat his f1 f2 hd ec ea g)), (pla, .inr (5, pC 0 0 0 gp))])) 2 1 6 := by
  refine enterW (by decide) (Nat.le_of_ble_eq_true rfl) ?_
  intro p e s m below meth c ls A C htab hP hD hS hl
  have hx := C.1
  have hb := C.2.1
  have hl : lv_has ls 3 [(0, .ref x), (1, .ref o)] := hl
  refine lv_aload_n hx hb dL_vertexGuards_0 rfl (lv_at hl 1 rfl) ?_
  refine lv_iconst (v := 0) hx hb dL_vertexGuards_1 (by decide) ?_
  refine lv_aload_n hx hb dL_vertexGuards_2 rfl (lv_at hl 0 rfl) ?_
  refine call_X (wr := []) C (run_VX (As := []) (rest := [.int 0, .ref o]) C (k_vertexGuards l hlt D cI cZ cJ x inp par pla dra lat his f1 f2 hd ec ea g gp ) cV_L_81 hP hD hS [0, 1] rfl rfl 0 rfl rfl rfl rfl hl.1 rfl (Nat.le_of_ble_eq_true rfl) dL_vertexGuards_3 ⟨Nat.le_of_ble_eq_true rfl, Nat.le_of_ble_eq_true rfl⟩ ⟨Nat.le_of_ble_eq_true rfl, Nat.le_of_ble_eq_true rfl⟩) hP hD hS [0, 1] [] rfl rfl rfl (by decide) (fun ce q9 H locs hce hcv hcl hP hD hS => ?_)
  have hP : va_P D CL [(x, .inr (10, xC inp par pla dra lat his f1 f2 hd ec ea g)), (pla, .inr (5, pC 0 0 0 gp))] H := hP
  have hD : va_D A [(x, .inr (10, xC inp par pla dra lat his f1 f2 hd ec ea g)), (pla, .inr (5, pC 0 0 0 gp))] := hD
  refine vx_widen (k := 1) (n := 6) (Nat.le_of_ble_eq_true rfl) (Nat.le_of_ble_eq_true rfl) ?_
  refine r_catch (E := "java/lang/IllegalStateException") C (by decide) [] ⟨0, 8, 11, 20⟩ [] (htab.trans rfl) (fun z hz => nomatch hz) rfl (by decide) w_42 hce hcv hcl ?_
  refine W.eq (g2 := F0 m 11 ls [.ref q9]) rfl ?_
  refine lv_astore_n (lv' := [(2, .ref q9), (0, .ref x), (1, .ref o)]) hx hb dL_vertexGuards_11 rfl hl (by decide) rfl (fun ls hl => ?_)
  refine lv_iconst (v := 1) hx hb dL_vertexGuards_12 (by decide) ?_
  exact r_iret C hP hD hS () rfl rfl (Nat.le_of_ble_eq_true rfl) (Nat.le_of_ble_eq_true rfl) dL_vertexGuards_13
set_option maxHeartbeats 4000000 in
set_option maxRecDepth 100000 in
theorem h_edgeGuards (l : Launch) (hlt : l.stackTraces = false) (D : va_G) (cI cZ cJ : ClassId) (x : Nat) (inp : Nat) (par : Nat) (pla : Nat) (dra : Nat) (lat : Nat) (his : Nat) (f1 : Nat) (f2 : Nat) (hd : Int32) (ec : Int32) (ea : Int32) (g : Nat → Value) (gp : Nat → Value) (o : Nat)  : cMW l yL_edgeGuards cL_edgeGuards 3 (some .int) [(0, 8, 11, 20)] D (TT cI cZ cJ) [.ref x, .ref o] [(x, .inr (10, xC inp par pla dra lat his f1 f2 hd ec ea g)), (pla, .inr (5, pC 0 0 0 gp))] (qI D (TT cI cZ cJ) (fun u : Unit => 1) (fun u : Unit => [(x, .inr (10, xC inp par pla dra lat his f1 f2 hd ec ea g)), (pla, .inr (5, pC 0 0 0 gp))])) 2 1 6 := by
  refine enterW (by decide) (Nat.le_of_ble_eq_true rfl) ?_
  intro p e s m below meth c ls A C htab hP hD hS hl
  have hx := C.1
  have hb := C.2.1
  have hl : lv_has ls 3 [(0, .ref x), (1, .ref o)] := hl
  refine lv_aload_n hx hb dL_edgeGuards_0 rfl (lv_at hl 1 rfl) ?_
  refine lv_iconst (v := 0) hx hb dL_edgeGuards_1 (by decide) ?_
  refine lv_aload_n hx hb dL_edgeGuards_2 rfl (lv_at hl 0 rfl) ?_
  refine call_X (wr := []) C (run_VX (As := []) (rest := [.int 0, .ref o]) C (k_edgeGuards l hlt D cI cZ cJ x inp par pla dra lat his f1 f2 hd ec ea g gp ) cV_L_84 hP hD hS [0, 1] rfl rfl 0 rfl rfl rfl rfl hl.1 rfl (Nat.le_of_ble_eq_true rfl) dL_edgeGuards_3 ⟨Nat.le_of_ble_eq_true rfl, Nat.le_of_ble_eq_true rfl⟩ ⟨Nat.le_of_ble_eq_true rfl, Nat.le_of_ble_eq_true rfl⟩) hP hD hS [0, 1] [] rfl rfl rfl (by decide) (fun ce q9 H locs hce hcv hcl hP hD hS => ?_)
  have hP : va_P D CL [(x, .inr (10, xC inp par pla dra lat his f1 f2 hd ec ea g)), (pla, .inr (5, pC 0 0 0 gp))] H := hP
  have hD : va_D A [(x, .inr (10, xC inp par pla dra lat his f1 f2 hd ec ea g)), (pla, .inr (5, pC 0 0 0 gp))] := hD
  refine vx_widen (k := 1) (n := 6) (Nat.le_of_ble_eq_true rfl) (Nat.le_of_ble_eq_true rfl) ?_
  refine r_catch (E := "java/lang/IllegalStateException") C (by decide) [] ⟨0, 8, 11, 20⟩ [] (htab.trans rfl) (fun z hz => nomatch hz) rfl (by decide) w_42 hce hcv hcl ?_
  refine W.eq (g2 := F0 m 11 ls [.ref q9]) rfl ?_
  refine lv_astore_n (lv' := [(2, .ref q9), (0, .ref x), (1, .ref o)]) hx hb dL_edgeGuards_11 rfl hl (by decide) rfl (fun ls hl => ?_)
  refine lv_iconst (v := 1) hx hb dL_edgeGuards_12 (by decide) ?_
  exact r_iret C hP hD hS () rfl rfl (Nat.le_of_ble_eq_true rfl) (Nat.le_of_ble_eq_true rfl) dL_edgeGuards_13
set_option maxHeartbeats 4000000 in
set_option maxRecDepth 100000 in
theorem h_guardNumber (l : Launch) (hlt : l.stackTraces = false) (D : va_G) (cI cZ cJ : ClassId) (x : Nat) (inp : Nat) (par : Nat) (pla : Nat) (dra : Nat) (lat : Nat) (his : Nat) (f1 : Nat) (f2 : Nat) (hd : Int32) (ec : Int32) (ea : Int32) (g : Nat → Value) (gp : Nat → Value) (o : Nat)  : cMW l yL_guardNumber cL_guardNumber 3 (some .int) [(0, 8, 11, 20)] D (TT cI cZ cJ) [.ref x, .ref o] [(x, .inr (10, xC inp par pla dra lat his f1 f2 hd ec ea g)), (pla, .inr (5, pC 0 0 0 gp))] (qI D (TT cI cZ cJ) (fun u : Unit => 1) (fun u : Unit => [(x, .inr (10, xC inp par pla dra lat his f1 f2 hd ec ea g)), (pla, .inr (5, pC 0 0 0 gp))])) 2 1 6 := by
  refine enterW (by decide) (Nat.le_of_ble_eq_true rfl) ?_
  intro p e s m below meth c ls A C htab hP hD hS hl
  have hx := C.1
  have hb := C.2.1
  have hl : lv_has ls 3 [(0, .ref x), (1, .ref o)] := hl
  refine lv_aload_n hx hb dL_guardNumber_0 rfl (lv_at hl 1 rfl) ?_
  refine lv_iconst (v := 0) hx hb dL_guardNumber_1 (by decide) ?_
  refine lv_aload_n hx hb dL_guardNumber_2 rfl (lv_at hl 0 rfl) ?_
  refine call_X (wr := []) C (run_VX (As := []) (rest := [.int 0, .ref o]) C (k_guardNumber l hlt D cI cZ cJ x inp par pla dra lat his f1 f2 hd ec ea g gp ) cV_L_87 hP hD hS [0, 1] rfl rfl 0 rfl rfl rfl rfl hl.1 rfl (Nat.le_of_ble_eq_true rfl) dL_guardNumber_3 ⟨Nat.le_of_ble_eq_true rfl, Nat.le_of_ble_eq_true rfl⟩ ⟨Nat.le_of_ble_eq_true rfl, Nat.le_of_ble_eq_true rfl⟩) hP hD hS [0, 1] [] rfl rfl rfl (by decide) (fun ce q9 H locs hce hcv hcl hP hD hS => ?_)
  have hP : va_P D CL [(x, .inr (10, xC inp par pla dra lat his f1 f2 hd ec ea g)), (pla, .inr (5, pC 0 0 0 gp))] H := hP
  have hD : va_D A [(x, .inr (10, xC inp par pla dra lat his f1 f2 hd ec ea g)), (pla, .inr (5, pC 0 0 0 gp))] := hD
  refine vx_widen (k := 1) (n := 6) (Nat.le_of_ble_eq_true rfl) (Nat.le_of_ble_eq_true rfl) ?_
  refine r_catch (E := "java/lang/IllegalStateException") C (by decide) [] ⟨0, 8, 11, 20⟩ [] (htab.trans rfl) (fun z hz => nomatch hz) rfl (by decide) w_42 hce hcv hcl ?_
  refine W.eq (g2 := F0 m 11 ls [.ref q9]) rfl ?_
  refine lv_astore_n (lv' := [(2, .ref q9), (0, .ref x), (1, .ref o)]) hx hb dL_guardNumber_11 rfl hl (by decide) rfl (fun ls hl => ?_)
  refine lv_iconst (v := 1) hx hb dL_guardNumber_12 (by decide) ?_
  exact r_iret C hP hD hS () rfl rfl (Nat.le_of_ble_eq_true rfl) (Nat.le_of_ble_eq_true rfl) dL_guardNumber_13
set_option maxHeartbeats 4000000 in
set_option maxRecDepth 100000 in
theorem h_guardPoint (l : Launch) (hlt : l.stackTraces = false) (D : va_G) (cI cZ cJ : ClassId) (x : Nat) (inp : Nat) (par : Nat) (pla : Nat) (dra : Nat) (lat : Nat) (his : Nat) (f1 : Nat) (f2 : Nat) (hd : Int32) (ec : Int32) (ea : Int32) (g : Nat → Value) (gp : Nat → Value) (a0 : Int32) (o : Nat)  : cMW l yL_guardPoint cL_guardPoint 4 (some .int) [(0, 9, 12, 20), (0, 9, 15, 13)] D (TT cI cZ cJ) [.ref x, .int a0, .ref o] [(x, .inr (10, xC inp par pla dra lat his f1 f2 hd ec ea g)), (pla, .inr (5, pC 0 0 0 gp))] (qI D (TT cI cZ cJ) (fun u : Unit => 1) (fun u : Unit => [(x, .inr (10, xC inp par pla dra lat his f1 f2 hd ec ea g)), (pla, .inr (5, pC 0 0 0 gp))])) 2 1 6 := by
  refine enterW (by decide) (Nat.le_of_ble_eq_true rfl) ?_
  intro p e s m below meth c ls A C htab hP hD hS hl
  have hx := C.1
  have hb := C.2.1
  have hl : lv_has ls 4 [(0, .ref x), (1, .int a0), (2, .ref o)] := hl
  refine lv_aload_n hx hb dL_guardPoint_0 rfl (lv_at hl 2 rfl) ?_
  refine lv_iconst (v := 0) hx hb dL_guardPoint_1 (by decide) ?_
  refine lv_aload_n hx hb dL_guardPoint_2 rfl (lv_at hl 0 rfl) ?_
  refine lv_iload_n hx hb dL_guardPoint_3 rfl (lv_at hl 1 rfl) ?_
  refine call_X (wr := []) C (run_VX (As := [.int a0]) (rest := [.int 0, .ref o]) C (k_guardPoint l hlt D cI cZ cJ x inp par pla dra lat his f1 f2 hd ec ea g gp a0 ) cV_L_90 hP hD hS [0, 1] rfl rfl 0 rfl rfl rfl rfl hl.1 rfl (Nat.le_of_ble_eq_true rfl) dL_guardPoint_4 ⟨Nat.le_of_ble_eq_true rfl, Nat.le_of_ble_eq_true rfl⟩ ⟨Nat.le_of_ble_eq_true rfl, Nat.le_of_ble_eq_true rfl⟩) hP hD hS [0, 1] [] rfl rfl rfl (by decide) (fun ce q9 H locs hce hcv hcl hP hD hS => ?_)
  have hP : va_P D CL [(x, .inr (10, xC inp par pla dra lat his f1 f2 hd ec ea g)), (pla, .inr (5, pC 0 0 0 gp))] H := hP
  have hD : va_D A [(x, .inr (10, xC inp par pla dra lat his f1 f2 hd ec ea g)), (pla, .inr (5, pC 0 0 0 gp))] := hD
  refine vx_widen (k := 1) (n := 6) (Nat.le_of_ble_eq_true rfl) (Nat.le_of_ble_eq_true rfl) ?_
  refine r_catch (E := "java/lang/IllegalStateException") C (by decide) [] ⟨0, 9, 12, 20⟩ [⟨0, 9, 15, 13⟩] (htab.trans rfl) (fun z hz => nomatch hz) rfl (by decide) w_42 hce hcv hcl ?_
  refine W.eq (g2 := F0 m 12 ls [.ref q9]) rfl ?_
  refine lv_astore_n (lv' := [(3, .ref q9), (0, .ref x), (1, .int a0), (2, .ref o)]) hx hb dL_guardPoint_12 rfl hl (by decide) rfl (fun ls hl => ?_)
  refine lv_iconst (v := 1) hx hb dL_guardPoint_13 (by decide) ?_
  exact r_iret C hP hD hS () rfl rfl (Nat.le_of_ble_eq_true rfl) (Nat.le_of_ble_eq_true rfl) dL_guardPoint_14
set_option maxHeartbeats 4000000 in
set_option maxRecDepth 100000 in
theorem h_witnessNumber (l : Launch) (hlt : l.stackTraces = false) (D : va_G) (cI cZ cJ : ClassId) (x : Nat) (inp : Nat) (par : Nat) (pla : Nat) (dra : Nat) (lat : Nat) (his : Nat) (f1 : Nat) (f2 : Nat) (hd : Int32) (ec : Int32) (ea : Int32) (g : Nat → Value) (gp : Nat → Value) (o : Nat)  : cMW l yL_witnessNumber cL_witnessNumber 3 (some .int) [(0, 8, 11, 20)] D (TT cI cZ cJ) [.ref x, .ref o] [(x, .inr (10, xC inp par pla dra lat his f1 f2 hd ec ea g)), (pla, .inr (5, pC 0 0 0 gp))] (qI D (TT cI cZ cJ) (fun u : Unit => 1) (fun u : Unit => [(x, .inr (10, xC inp par pla dra lat his f1 f2 hd ec ea g)), (pla, .inr (5, pC 0 0 0 gp))])) 2 1 6 := by
  refine enterW (by decide) (Nat.le_of_ble_eq_true rfl) ?_
  intro p e s m below meth c ls A C htab hP hD hS hl
  have hx := C.1
  have hb := C.2.1
  have hl : lv_has ls 3 [(0, .ref x), (1, .ref o)] := hl
  refine lv_aload_n hx hb dL_witnessNumber_0 rfl (lv_at hl 1 rfl) ?_
  refine lv_iconst (v := 0) hx hb dL_witnessNumber_1 (by decide) ?_
  refine lv_aload_n hx hb dL_witnessNumber_2 rfl (lv_at hl 0 rfl) ?_
  refine call_X (wr := []) C (run_VX (As := []) (rest := [.int 0, .ref o]) C (k_witnessNumber l hlt D cI cZ cJ x inp par pla dra lat his f1 f2 hd ec ea g gp ) cV_L_93 hP hD hS [0, 1] rfl rfl 0 rfl rfl rfl rfl hl.1 rfl (Nat.le_of_ble_eq_true rfl) dL_witnessNumber_3 ⟨Nat.le_of_ble_eq_true rfl, Nat.le_of_ble_eq_true rfl⟩ ⟨Nat.le_of_ble_eq_true rfl, Nat.le_of_ble_eq_true rfl⟩) hP hD hS [0, 1] [] rfl rfl rfl (by decide) (fun ce q9 H locs hce hcv hcl hP hD hS => ?_)
  have hP : va_P D CL [(x, .inr (10, xC inp par pla dra lat his f1 f2 hd ec ea g)), (pla, .inr (5, pC 0 0 0 gp))] H := hP
  have hD : va_D A [(x, .inr (10, xC inp par pla dra lat his f1 f2 hd ec ea g)), (pla, .inr (5, pC 0 0 0 gp))] := hD
  refine vx_widen (k := 1) (n := 6) (Nat.le_of_ble_eq_true rfl) (Nat.le_of_ble_eq_true rfl) ?_
  refine r_catch (E := "java/lang/IllegalStateException") C (by decide) [] ⟨0, 8, 11, 20⟩ [] (htab.trans rfl) (fun z hz => nomatch hz) rfl (by decide) w_42 hce hcv hcl ?_
  refine W.eq (g2 := F0 m 11 ls [.ref q9]) rfl ?_
  refine lv_astore_n (lv' := [(2, .ref q9), (0, .ref x), (1, .ref o)]) hx hb dL_witnessNumber_11 rfl hl (by decide) rfl (fun ls hl => ?_)
  refine lv_iconst (v := 1) hx hb dL_witnessNumber_12 (by decide) ?_
  exact r_iret C hP hD hS () rfl rfl (Nat.le_of_ble_eq_true rfl) (Nat.le_of_ble_eq_true rfl) dL_witnessNumber_13
set_option maxHeartbeats 4000000 in
set_option maxRecDepth 100000 in
theorem h_witness (l : Launch) (hlt : l.stackTraces = false) (D : va_G) (cI cZ cJ : ClassId) (x : Nat) (inp : Nat) (par : Nat) (pla : Nat) (dra : Nat) (lat : Nat) (his : Nat) (f1 : Nat) (f2 : Nat) (hd : Int32) (ec : Int32) (ea : Int32) (g : Nat → Value) (gp : Nat → Value) (a0 : Int32) (o : Nat)  : cMW l yL_witness cL_witness 4 (some .int) [(0, 9, 12, 20), (0, 9, 15, 13)] D (TT cI cZ cJ) [.ref x, .int a0, .ref o] [(x, .inr (10, xC inp par pla dra lat his f1 f2 hd ec ea g)), (pla, .inr (5, pC 0 0 0 gp))] (qI D (TT cI cZ cJ) (fun u : Unit => 1) (fun u : Unit => [(x, .inr (10, xC inp par pla dra lat his f1 f2 hd ec ea g)), (pla, .inr (5, pC 0 0 0 gp))])) 2 1 6 := by
  refine enterW (by decide) (Nat.le_of_ble_eq_true rfl) ?_
  intro p e s m below meth c ls A C htab hP hD hS hl
  have hx := C.1
  have hb := C.2.1
  have hl : lv_has ls 4 [(0, .ref x), (1, .int a0), (2, .ref o)] := hl
  refine lv_aload_n hx hb dL_witness_0 rfl (lv_at hl 2 rfl) ?_
  refine lv_iconst (v := 0) hx hb dL_witness_1 (by decide) ?_
  refine lv_aload_n hx hb dL_witness_2 rfl (lv_at hl 0 rfl) ?_
  refine lv_iload_n hx hb dL_witness_3 rfl (lv_at hl 1 rfl) ?_
  refine call_X (wr := []) C (run_VX (As := [.int a0]) (rest := [.int 0, .ref o]) C (k_witness l hlt D cI cZ cJ x inp par pla dra lat his f1 f2 hd ec ea g gp a0 ) cV_L_96 hP hD hS [0, 1] rfl rfl 0 rfl rfl rfl rfl hl.1 rfl (Nat.le_of_ble_eq_true rfl) dL_witness_4 ⟨Nat.le_of_ble_eq_true rfl, Nat.le_of_ble_eq_true rfl⟩ ⟨Nat.le_of_ble_eq_true rfl, Nat.le_of_ble_eq_true rfl⟩) hP hD hS [0, 1] [] rfl rfl rfl (by decide) (fun ce q9 H locs hce hcv hcl hP hD hS => ?_)
  have hP : va_P D CL [(x, .inr (10, xC inp par pla dra lat his f1 f2 hd ec ea g)), (pla, .inr (5, pC 0 0 0 gp))] H := hP
  have hD : va_D A [(x, .inr (10, xC inp par pla dra lat his f1 f2 hd ec ea g)), (pla, .inr (5, pC 0 0 0 gp))] := hD
  refine vx_widen (k := 1) (n := 6) (Nat.le_of_ble_eq_true rfl) (Nat.le_of_ble_eq_true rfl) ?_
  refine r_catch (E := "java/lang/IllegalStateException") C (by decide) [] ⟨0, 9, 12, 20⟩ [⟨0, 9, 15, 13⟩] (htab.trans rfl) (fun z hz => nomatch hz) rfl (by decide) w_42 hce hcv hcl ?_
  refine W.eq (g2 := F0 m 12 ls [.ref q9]) rfl ?_
  refine lv_astore_n (lv' := [(3, .ref q9), (0, .ref x), (1, .int a0), (2, .ref o)]) hx hb dL_witness_12 rfl hl (by decide) rfl (fun ls hl => ?_)
  refine lv_iconst (v := 1) hx hb dL_witness_13 (by decide) ?_
  exact r_iret C hP hD hS () rfl rfl (Nat.le_of_ble_eq_true rfl) (Nat.le_of_ble_eq_true rfl) dL_witness_14
set_option maxHeartbeats 4000000 in
set_option maxRecDepth 100000 in
theorem h_hiddenNumber (l : Launch) (hlt : l.stackTraces = false) (D : va_G) (cI cZ cJ : ClassId) (x : Nat) (inp : Nat) (par : Nat) (pla : Nat) (dra : Nat) (lat : Nat) (his : Nat) (f1 : Nat) (f2 : Nat) (hd : Int32) (ec : Int32) (ea : Int32) (g : Nat → Value) (gp : Nat → Value) (o : Nat)  : cMW l yL_hiddenNumber cL_hiddenNumber 3 (some .int) [(0, 8, 11, 20)] D (TT cI cZ cJ) [.ref x, .ref o] [(x, .inr (10, xC inp par pla dra lat his f1 f2 hd ec ea g)), (pla, .inr (5, pC 0 0 0 gp))] (qI D (TT cI cZ cJ) (fun u : Unit => 1) (fun u : Unit => [(x, .inr (10, xC inp par pla dra lat his f1 f2 hd ec ea g)), (pla, .inr (5, pC 0 0 0 gp))])) 2 1 6 := by
  refine enterW (by decide) (Nat.le_of_ble_eq_true rfl) ?_
  intro p e s m below meth c ls A C htab hP hD hS hl
  have hx := C.1
  have hb := C.2.1
  have hl : lv_has ls 3 [(0, .ref x), (1, .ref o)] := hl
  refine lv_aload_n hx hb dL_hiddenNumber_0 rfl (lv_at hl 1 rfl) ?_
  refine lv_iconst (v := 0) hx hb dL_hiddenNumber_1 (by decide) ?_
  refine lv_aload_n hx hb dL_hiddenNumber_2 rfl (lv_at hl 0 rfl) ?_
  refine call_X (wr := []) C (run_VX (As := []) (rest := [.int 0, .ref o]) C (k_hiddenNumber l hlt D cI cZ cJ x inp par pla dra lat his f1 f2 hd ec ea g gp ) cV_L_99 hP hD hS [0, 1] rfl rfl 0 rfl rfl rfl rfl hl.1 rfl (Nat.le_of_ble_eq_true rfl) dL_hiddenNumber_3 ⟨Nat.le_of_ble_eq_true rfl, Nat.le_of_ble_eq_true rfl⟩ ⟨Nat.le_of_ble_eq_true rfl, Nat.le_of_ble_eq_true rfl⟩) hP hD hS [0, 1] [] rfl rfl rfl (by decide) (fun ce q9 H locs hce hcv hcl hP hD hS => ?_)
  have hP : va_P D CL [(x, .inr (10, xC inp par pla dra lat his f1 f2 hd ec ea g)), (pla, .inr (5, pC 0 0 0 gp))] H := hP
  have hD : va_D A [(x, .inr (10, xC inp par pla dra lat his f1 f2 hd ec ea g)), (pla, .inr (5, pC 0 0 0 gp))] := hD
  refine vx_widen (k := 1) (n := 6) (Nat.le_of_ble_eq_true rfl) (Nat.le_of_ble_eq_true rfl) ?_
  refine r_catch (E := "java/lang/IllegalStateException") C (by decide) [] ⟨0, 8, 11, 20⟩ [] (htab.trans rfl) (fun z hz => nomatch hz) rfl (by decide) w_42 hce hcv hcl ?_
  refine W.eq (g2 := F0 m 11 ls [.ref q9]) rfl ?_
  refine lv_astore_n (lv' := [(2, .ref q9), (0, .ref x), (1, .ref o)]) hx hb dL_hiddenNumber_11 rfl hl (by decide) rfl (fun ls hl => ?_)
  refine lv_iconst (v := 1) hx hb dL_hiddenNumber_12 (by decide) ?_
  exact r_iret C hP hD hS () rfl rfl (Nat.le_of_ble_eq_true rfl) (Nat.le_of_ble_eq_true rfl) dL_hiddenNumber_13
set_option maxHeartbeats 4000000 in
set_option maxRecDepth 100000 in
theorem h_guardAt (l : Launch) (hlt : l.stackTraces = false) (D : va_G) (cI cZ cJ : ClassId) (x : Nat) (inp : Nat) (par : Nat) (pla : Nat) (dra : Nat) (lat : Nat) (his : Nat) (f1 : Nat) (f2 : Nat) (hd : Int32) (ec : Int32) (ea : Int32) (g : Nat → Value) (gp : Nat → Value) (a0 : Int32) (o : Nat)  : cMW l yL_guardAt cL_guardAt 4 (some .int) [(0, 9, 12, 20), (0, 9, 15, 13)] D (TT cI cZ cJ) [.ref x, .int a0, .ref o] [(x, .inr (10, xC inp par pla dra lat his f1 f2 hd ec ea g)), (pla, .inr (5, pC 0 0 0 gp))] (qI D (TT cI cZ cJ) (fun u : Unit => 1) (fun u : Unit => [(x, .inr (10, xC inp par pla dra lat his f1 f2 hd ec ea g)), (pla, .inr (5, pC 0 0 0 gp))])) 2 1 6 := by
  refine enterW (by decide) (Nat.le_of_ble_eq_true rfl) ?_
  intro p e s m below meth c ls A C htab hP hD hS hl
  have hx := C.1
  have hb := C.2.1
  have hl : lv_has ls 4 [(0, .ref x), (1, .int a0), (2, .ref o)] := hl
  refine lv_aload_n hx hb dL_guardAt_0 rfl (lv_at hl 2 rfl) ?_
  refine lv_iconst (v := 0) hx hb dL_guardAt_1 (by decide) ?_
  refine lv_aload_n hx hb dL_guardAt_2 rfl (lv_at hl 0 rfl) ?_
  refine lv_iload_n hx hb dL_guardAt_3 rfl (lv_at hl 1 rfl) ?_
  refine call_X (wr := []) C (run_VX (As := [.int a0]) (rest := [.int 0, .ref o]) C (k_guardAt l hlt D cI cZ cJ x inp par pla dra lat his f1 f2 hd ec ea g gp a0 ) cV_L_102 hP hD hS [0, 1] rfl rfl 0 rfl rfl rfl rfl hl.1 rfl (Nat.le_of_ble_eq_true rfl) dL_guardAt_4 ⟨Nat.le_of_ble_eq_true rfl, Nat.le_of_ble_eq_true rfl⟩ ⟨Nat.le_of_ble_eq_true rfl, Nat.le_of_ble_eq_true rfl⟩) hP hD hS [0, 1] [] rfl rfl rfl (by decide) (fun ce q9 H locs hce hcv hcl hP hD hS => ?_)
  have hP : va_P D CL [(x, .inr (10, xC inp par pla dra lat his f1 f2 hd ec ea g)), (pla, .inr (5, pC 0 0 0 gp))] H := hP
  have hD : va_D A [(x, .inr (10, xC inp par pla dra lat his f1 f2 hd ec ea g)), (pla, .inr (5, pC 0 0 0 gp))] := hD
  refine vx_widen (k := 1) (n := 6) (Nat.le_of_ble_eq_true rfl) (Nat.le_of_ble_eq_true rfl) ?_
  refine r_catch (E := "java/lang/IllegalStateException") C (by decide) [] ⟨0, 9, 12, 20⟩ [⟨0, 9, 15, 13⟩] (htab.trans rfl) (fun z hz => nomatch hz) rfl (by decide) w_42 hce hcv hcl ?_
  refine W.eq (g2 := F0 m 12 ls [.ref q9]) rfl ?_
  refine lv_astore_n (lv' := [(3, .ref q9), (0, .ref x), (1, .int a0), (2, .ref o)]) hx hb dL_guardAt_12 rfl hl (by decide) rfl (fun ls hl => ?_)
  refine lv_iconst (v := 1) hx hb dL_guardAt_13 (by decide) ?_
  exact r_iret C hP hD hS () rfl rfl (Nat.le_of_ble_eq_true rfl) (Nat.le_of_ble_eq_true rfl) dL_guardAt_14
set_option maxHeartbeats 4000000 in
set_option maxRecDepth 100000 in
theorem h_guardRange (l : Launch) (hlt : l.stackTraces = false) (D : va_G) (cI cZ cJ : ClassId) (x : Nat) (inp : Nat) (par : Nat) (pla : Nat) (dra : Nat) (lat : Nat) (his : Nat) (f1 : Nat) (f2 : Nat) (hd : Int32) (ec : Int32) (ea : Int32) (g : Nat → Value) (gp : Nat → Value) (a0 : Int32) (o : Nat)  : cMW l yL_guardRange cL_guardRange 4 (some .int) [(0, 9, 12, 20), (0, 9, 15, 13)] D (TT cI cZ cJ) [.ref x, .int a0, .ref o] [(x, .inr (10, xC inp par pla dra lat his f1 f2 hd ec ea g)), (pla, .inr (5, pC 0 0 0 gp))] (qI D (TT cI cZ cJ) (fun u : Unit => 1) (fun u : Unit => [(x, .inr (10, xC inp par pla dra lat his f1 f2 hd ec ea g)), (pla, .inr (5, pC 0 0 0 gp))])) 2 1 6 := by
  refine enterW (by decide) (Nat.le_of_ble_eq_true rfl) ?_
  intro p e s m below meth c ls A C htab hP hD hS hl
  have hx := C.1
  have hb := C.2.1
  have hl : lv_has ls 4 [(0, .ref x), (1, .int a0), (2, .ref o)] := hl
  refine lv_aload_n hx hb dL_guardRange_0 rfl (lv_at hl 2 rfl) ?_
  refine lv_iconst (v := 0) hx hb dL_guardRange_1 (by decide) ?_
  refine lv_aload_n hx hb dL_guardRange_2 rfl (lv_at hl 0 rfl) ?_
  refine lv_iload_n hx hb dL_guardRange_3 rfl (lv_at hl 1 rfl) ?_
  refine call_X (wr := []) C (run_VX (As := [.int a0]) (rest := [.int 0, .ref o]) C (k_guardRange l hlt D cI cZ cJ x inp par pla dra lat his f1 f2 hd ec ea g gp a0 ) cV_L_105 hP hD hS [0, 1] rfl rfl 0 rfl rfl rfl rfl hl.1 rfl (Nat.le_of_ble_eq_true rfl) dL_guardRange_4 ⟨Nat.le_of_ble_eq_true rfl, Nat.le_of_ble_eq_true rfl⟩ ⟨Nat.le_of_ble_eq_true rfl, Nat.le_of_ble_eq_true rfl⟩) hP hD hS [0, 1] [] rfl rfl rfl (by decide) (fun ce q9 H locs hce hcv hcl hP hD hS => ?_)
  have hP : va_P D CL [(x, .inr (10, xC inp par pla dra lat his f1 f2 hd ec ea g)), (pla, .inr (5, pC 0 0 0 gp))] H := hP
  have hD : va_D A [(x, .inr (10, xC inp par pla dra lat his f1 f2 hd ec ea g)), (pla, .inr (5, pC 0 0 0 gp))] := hD
  refine vx_widen (k := 1) (n := 6) (Nat.le_of_ble_eq_true rfl) (Nat.le_of_ble_eq_true rfl) ?_
  refine r_catch (E := "java/lang/IllegalStateException") C (by decide) [] ⟨0, 9, 12, 20⟩ [⟨0, 9, 15, 13⟩] (htab.trans rfl) (fun z hz => nomatch hz) rfl (by decide) w_42 hce hcv hcl ?_
  refine W.eq (g2 := F0 m 12 ls [.ref q9]) rfl ?_
  refine lv_astore_n (lv' := [(3, .ref q9), (0, .ref x), (1, .int a0), (2, .ref o)]) hx hb dL_guardRange_12 rfl hl (by decide) rfl (fun ls hl => ?_)
  refine lv_iconst (v := 1) hx hb dL_guardRange_13 (by decide) ?_
  exact r_iret C hP hD hS () rfl rfl (Nat.le_of_ble_eq_true rfl) (Nat.le_of_ble_eq_true rfl) dL_guardRange_14
set_option maxHeartbeats 4000000 in
set_option maxRecDepth 100000 in
theorem h_watched (l : Launch) (hlt : l.stackTraces = false) (D : va_G) (cI cZ cJ : ClassId) (x : Nat) (inp : Nat) (par : Nat) (pla : Nat) (dra : Nat) (lat : Nat) (his : Nat) (f1 : Nat) (f2 : Nat) (hd : Int32) (ec : Int32) (ea : Int32) (g : Nat → Value) (gp : Nat → Value) (a0 : Int32) (o : Nat)  : cMW l yL_watched cL_watched 4 (some .int) [(0, 8, 11, 20), (0, 8, 14, 13)] D (TT cI cZ cJ) [.ref x, .int a0, .ref o] [(x, .inr (10, xC inp par pla dra lat his f1 f2 hd ec ea g)), (pla, .inr (5, pC 0 0 0 gp))] (qI D (TT cI cZ cJ) (fun u : Unit => 1) (fun u : Unit => [(x, .inr (10, xC inp par pla dra lat his f1 f2 hd ec ea g)), (pla, .inr (5, pC 0 0 0 gp))])) 2 1 6 := by
  refine enterW (by decide) (Nat.le_of_ble_eq_true rfl) ?_
  intro p e s m below meth c ls A C htab hP hD hS hl
  have hx := C.1
  have hb := C.2.1
  have hl : lv_has ls 4 [(0, .ref x), (1, .int a0), (2, .ref o)] := hl
  refine lv_aload_n hx hb dL_watched_0 rfl (lv_at hl 2 rfl) ?_
  refine lv_iconst (v := 0) hx hb dL_watched_1 (by decide) ?_
  refine lv_aload_n hx hb dL_watched_2 rfl (lv_at hl 0 rfl) ?_
  refine lv_iload_n hx hb dL_watched_3 rfl (lv_at hl 1 rfl) ?_
  refine call_X (wr := []) C (run_VX (As := [.int a0]) (rest := [.int 0, .ref o]) C (k_watched l hlt D cI cZ cJ x inp par pla dra lat his f1 f2 hd ec ea g gp a0 ) cV_L_108 hP hD hS [0, 1] rfl rfl 0 rfl rfl rfl rfl hl.1 rfl (Nat.le_of_ble_eq_true rfl) dL_watched_4 ⟨Nat.le_of_ble_eq_true rfl, Nat.le_of_ble_eq_true rfl⟩ ⟨Nat.le_of_ble_eq_true rfl, Nat.le_of_ble_eq_true rfl⟩) hP hD hS [0, 1] [] rfl rfl rfl (by decide) (fun ce q9 H locs hce hcv hcl hP hD hS => ?_)
  have hP : va_P D CL [(x, .inr (10, xC inp par pla dra lat his f1 f2 hd ec ea g)), (pla, .inr (5, pC 0 0 0 gp))] H := hP
  have hD : va_D A [(x, .inr (10, xC inp par pla dra lat his f1 f2 hd ec ea g)), (pla, .inr (5, pC 0 0 0 gp))] := hD
  refine vx_widen (k := 1) (n := 6) (Nat.le_of_ble_eq_true rfl) (Nat.le_of_ble_eq_true rfl) ?_
  refine r_catch (E := "java/lang/IllegalStateException") C (by decide) [] ⟨0, 8, 11, 20⟩ [⟨0, 8, 14, 13⟩] (htab.trans rfl) (fun z hz => nomatch hz) rfl (by decide) w_42 hce hcv hcl ?_
  refine W.eq (g2 := F0 m 11 ls [.ref q9]) rfl ?_
  refine lv_astore_n (lv' := [(3, .ref q9), (0, .ref x), (1, .int a0), (2, .ref o)]) hx hb dL_watched_11 rfl hl (by decide) rfl (fun ls hl => ?_)
  refine lv_iconst (v := 1) hx hb dL_watched_12 (by decide) ?_
  exact r_iret C hP hD hS () rfl rfl (Nat.le_of_ble_eq_true rfl) (Nat.le_of_ble_eq_true rfl) dL_watched_13
set_option maxHeartbeats 4000000 in
set_option maxRecDepth 100000 in
theorem h_unwatched (l : Launch) (hlt : l.stackTraces = false) (D : va_G) (cI cZ cJ : ClassId) (x : Nat) (inp : Nat) (par : Nat) (pla : Nat) (dra : Nat) (lat : Nat) (his : Nat) (f1 : Nat) (f2 : Nat) (hd : Int32) (ec : Int32) (ea : Int32) (g : Nat → Value) (gp : Nat → Value) (o : Nat)  : cMW l yL_unwatched cL_unwatched 3 (some .int) [(0, 7, 10, 20)] D (TT cI cZ cJ) [.ref x, .ref o] [(x, .inr (10, xC inp par pla dra lat his f1 f2 hd ec ea g)), (pla, .inr (5, pC 0 0 0 gp))] (qI D (TT cI cZ cJ) (fun u : Unit => 1) (fun u : Unit => [(x, .inr (10, xC inp par pla dra lat his f1 f2 hd ec ea g)), (pla, .inr (5, pC 0 0 0 gp))])) 2 1 6 := by
  refine enterW (by decide) (Nat.le_of_ble_eq_true rfl) ?_
  intro p e s m below meth c ls A C htab hP hD hS hl
  have hx := C.1
  have hb := C.2.1
  have hl : lv_has ls 3 [(0, .ref x), (1, .ref o)] := hl
  refine lv_aload_n hx hb dL_unwatched_0 rfl (lv_at hl 1 rfl) ?_
  refine lv_iconst (v := 0) hx hb dL_unwatched_1 (by decide) ?_
  refine lv_aload_n hx hb dL_unwatched_2 rfl (lv_at hl 0 rfl) ?_
  refine call_X (wr := []) C (run_VX (As := []) (rest := [.int 0, .ref o]) C (k_unwatched l hlt D cI cZ cJ x inp par pla dra lat his f1 f2 hd ec ea g gp ) cV_L_111 hP hD hS [0, 1] rfl rfl 0 rfl rfl rfl rfl hl.1 rfl (Nat.le_of_ble_eq_true rfl) dL_unwatched_3 ⟨Nat.le_of_ble_eq_true rfl, Nat.le_of_ble_eq_true rfl⟩ ⟨Nat.le_of_ble_eq_true rfl, Nat.le_of_ble_eq_true rfl⟩) hP hD hS [0, 1] [] rfl rfl rfl (by decide) (fun ce q9 H locs hce hcv hcl hP hD hS => ?_)
  have hP : va_P D CL [(x, .inr (10, xC inp par pla dra lat his f1 f2 hd ec ea g)), (pla, .inr (5, pC 0 0 0 gp))] H := hP
  have hD : va_D A [(x, .inr (10, xC inp par pla dra lat his f1 f2 hd ec ea g)), (pla, .inr (5, pC 0 0 0 gp))] := hD
  refine vx_widen (k := 1) (n := 6) (Nat.le_of_ble_eq_true rfl) (Nat.le_of_ble_eq_true rfl) ?_
  refine r_catch (E := "java/lang/IllegalStateException") C (by decide) [] ⟨0, 7, 10, 20⟩ [] (htab.trans rfl) (fun z hz => nomatch hz) rfl (by decide) w_42 hce hcv hcl ?_
  refine W.eq (g2 := F0 m 10 ls [.ref q9]) rfl ?_
  refine lv_astore_n (lv' := [(2, .ref q9), (0, .ref x), (1, .ref o)]) hx hb dL_unwatched_10 rfl hl (by decide) rfl (fun ls hl => ?_)
  refine lv_iconst (v := 1) hx hb dL_unwatched_11 (by decide) ?_
  exact r_iret C hP hD hS () rfl rfl (Nat.le_of_ble_eq_true rfl) (Nat.le_of_ble_eq_true rfl) dL_unwatched_12
set_option maxHeartbeats 4000000 in
set_option maxRecDepth 100000 in
theorem h_watchers (l : Launch) (hlt : l.stackTraces = false) (D : va_G) (cI cZ cJ : ClassId) (x : Nat) (inp : Nat) (par : Nat) (pla : Nat) (dra : Nat) (lat : Nat) (his : Nat) (f1 : Nat) (f2 : Nat) (hd : Int32) (ec : Int32) (ea : Int32) (g : Nat → Value) (gp : Nat → Value) (a0 : Int32) (o : Nat)  : cMW l yL_watchers cL_watchers 4 (some .int) [(0, 9, 12, 20), (0, 9, 15, 13)] D (TT cI cZ cJ) [.ref x, .int a0, .ref o] [(x, .inr (10, xC inp par pla dra lat his f1 f2 hd ec ea g)), (pla, .inr (5, pC 0 0 0 gp))] (qI D (TT cI cZ cJ) (fun u : Unit => 1) (fun u : Unit => [(x, .inr (10, xC inp par pla dra lat his f1 f2 hd ec ea g)), (pla, .inr (5, pC 0 0 0 gp))])) 2 1 6 := by
  refine enterW (by decide) (Nat.le_of_ble_eq_true rfl) ?_
  intro p e s m below meth c ls A C htab hP hD hS hl
  have hx := C.1
  have hb := C.2.1
  have hl : lv_has ls 4 [(0, .ref x), (1, .int a0), (2, .ref o)] := hl
  refine lv_aload_n hx hb dL_watchers_0 rfl (lv_at hl 2 rfl) ?_
  refine lv_iconst (v := 0) hx hb dL_watchers_1 (by decide) ?_
  refine lv_aload_n hx hb dL_watchers_2 rfl (lv_at hl 0 rfl) ?_
  refine lv_iload_n hx hb dL_watchers_3 rfl (lv_at hl 1 rfl) ?_
  refine call_X (wr := []) C (run_VX (As := [.int a0]) (rest := [.int 0, .ref o]) C (k_watchers l hlt D cI cZ cJ x inp par pla dra lat his f1 f2 hd ec ea g gp a0 ) cV_L_114 hP hD hS [0, 1] rfl rfl 0 rfl rfl rfl rfl hl.1 rfl (Nat.le_of_ble_eq_true rfl) dL_watchers_4 ⟨Nat.le_of_ble_eq_true rfl, Nat.le_of_ble_eq_true rfl⟩ ⟨Nat.le_of_ble_eq_true rfl, Nat.le_of_ble_eq_true rfl⟩) hP hD hS [0, 1] [] rfl rfl rfl (by decide) (fun ce q9 H locs hce hcv hcl hP hD hS => ?_)
  have hP : va_P D CL [(x, .inr (10, xC inp par pla dra lat his f1 f2 hd ec ea g)), (pla, .inr (5, pC 0 0 0 gp))] H := hP
  have hD : va_D A [(x, .inr (10, xC inp par pla dra lat his f1 f2 hd ec ea g)), (pla, .inr (5, pC 0 0 0 gp))] := hD
  refine vx_widen (k := 1) (n := 6) (Nat.le_of_ble_eq_true rfl) (Nat.le_of_ble_eq_true rfl) ?_
  refine r_catch (E := "java/lang/IllegalStateException") C (by decide) [] ⟨0, 9, 12, 20⟩ [⟨0, 9, 15, 13⟩] (htab.trans rfl) (fun z hz => nomatch hz) rfl (by decide) w_42 hce hcv hcl ?_
  refine W.eq (g2 := F0 m 12 ls [.ref q9]) rfl ?_
  refine lv_astore_n (lv' := [(3, .ref q9), (0, .ref x), (1, .int a0), (2, .ref o)]) hx hb dL_watchers_12 rfl hl (by decide) rfl (fun ls hl => ?_)
  refine lv_iconst (v := 1) hx hb dL_watchers_13 (by decide) ?_
  exact r_iret C hP hD hS () rfl rfl (Nat.le_of_ble_eq_true rfl) (Nat.le_of_ble_eq_true rfl) dL_watchers_14
set_option maxHeartbeats 4000000 in
set_option maxRecDepth 100000 in
theorem h_redundantGuards (l : Launch) (hlt : l.stackTraces = false) (D : va_G) (cI cZ cJ : ClassId) (x : Nat) (inp : Nat) (par : Nat) (pla : Nat) (dra : Nat) (lat : Nat) (his : Nat) (f1 : Nat) (f2 : Nat) (hd : Int32) (ec : Int32) (ea : Int32) (g : Nat → Value) (gp : Nat → Value) (o : Nat)  : cMW l yL_redundantGuards cL_redundantGuards 3 (some .int) [(0, 8, 11, 20)] D (TT cI cZ cJ) [.ref x, .ref o] [(x, .inr (10, xC inp par pla dra lat his f1 f2 hd ec ea g)), (pla, .inr (5, pC 0 0 0 gp))] (qI D (TT cI cZ cJ) (fun u : Unit => 1) (fun u : Unit => [(x, .inr (10, xC inp par pla dra lat his f1 f2 hd ec ea g)), (pla, .inr (5, pC 0 0 0 gp))])) 2 1 6 := by
  refine enterW (by decide) (Nat.le_of_ble_eq_true rfl) ?_
  intro p e s m below meth c ls A C htab hP hD hS hl
  have hx := C.1
  have hb := C.2.1
  have hl : lv_has ls 3 [(0, .ref x), (1, .ref o)] := hl
  refine lv_aload_n hx hb dL_redundantGuards_0 rfl (lv_at hl 1 rfl) ?_
  refine lv_iconst (v := 0) hx hb dL_redundantGuards_1 (by decide) ?_
  refine lv_aload_n hx hb dL_redundantGuards_2 rfl (lv_at hl 0 rfl) ?_
  refine call_X (wr := []) C (run_VX (As := []) (rest := [.int 0, .ref o]) C (k_redundantGuards l hlt D cI cZ cJ x inp par pla dra lat his f1 f2 hd ec ea g gp ) cV_L_117 hP hD hS [0, 1] rfl rfl 0 rfl rfl rfl rfl hl.1 rfl (Nat.le_of_ble_eq_true rfl) dL_redundantGuards_3 ⟨Nat.le_of_ble_eq_true rfl, Nat.le_of_ble_eq_true rfl⟩ ⟨Nat.le_of_ble_eq_true rfl, Nat.le_of_ble_eq_true rfl⟩) hP hD hS [0, 1] [] rfl rfl rfl (by decide) (fun ce q9 H locs hce hcv hcl hP hD hS => ?_)
  have hP : va_P D CL [(x, .inr (10, xC inp par pla dra lat his f1 f2 hd ec ea g)), (pla, .inr (5, pC 0 0 0 gp))] H := hP
  have hD : va_D A [(x, .inr (10, xC inp par pla dra lat his f1 f2 hd ec ea g)), (pla, .inr (5, pC 0 0 0 gp))] := hD
  refine vx_widen (k := 1) (n := 6) (Nat.le_of_ble_eq_true rfl) (Nat.le_of_ble_eq_true rfl) ?_
  refine r_catch (E := "java/lang/IllegalStateException") C (by decide) [] ⟨0, 8, 11, 20⟩ [] (htab.trans rfl) (fun z hz => nomatch hz) rfl (by decide) w_42 hce hcv hcl ?_
  refine W.eq (g2 := F0 m 11 ls [.ref q9]) rfl ?_
  refine lv_astore_n (lv' := [(2, .ref q9), (0, .ref x), (1, .ref o)]) hx hb dL_redundantGuards_11 rfl hl (by decide) rfl (fun ls hl => ?_)
  refine lv_iconst (v := 1) hx hb dL_redundantGuards_12 (by decide) ?_
  exact r_iret C hP hD hS () rfl rfl (Nat.le_of_ble_eq_true rfl) (Nat.le_of_ble_eq_true rfl) dL_redundantGuards_13
set_option maxHeartbeats 4000000 in
set_option maxRecDepth 100000 in
theorem h_bestPoint (l : Launch) (hlt : l.stackTraces = false) (D : va_G) (cI cZ cJ : ClassId) (x : Nat) (inp : Nat) (par : Nat) (pla : Nat) (dra : Nat) (lat : Nat) (his : Nat) (f1 : Nat) (f2 : Nat) (hd : Int32) (ec : Int32) (ea : Int32) (g : Nat → Value) (gp : Nat → Value) (o : Nat)  : cMW l yL_bestPoint cL_bestPoint 3 (some .int) [(0, 8, 11, 20)] D (TT cI cZ cJ) [.ref x, .ref o] [(x, .inr (10, xC inp par pla dra lat his f1 f2 hd ec ea g)), (pla, .inr (5, pC 0 0 0 gp))] (qI D (TT cI cZ cJ) (fun u : Unit => 1) (fun u : Unit => [(x, .inr (10, xC inp par pla dra lat his f1 f2 hd ec ea g)), (pla, .inr (5, pC 0 0 0 gp))])) 2 1 6 := by
  refine enterW (by decide) (Nat.le_of_ble_eq_true rfl) ?_
  intro p e s m below meth c ls A C htab hP hD hS hl
  have hx := C.1
  have hb := C.2.1
  have hl : lv_has ls 3 [(0, .ref x), (1, .ref o)] := hl
  refine lv_aload_n hx hb dL_bestPoint_0 rfl (lv_at hl 1 rfl) ?_
  refine lv_iconst (v := 0) hx hb dL_bestPoint_1 (by decide) ?_
  refine lv_aload_n hx hb dL_bestPoint_2 rfl (lv_at hl 0 rfl) ?_
  refine call_X (wr := []) C (run_VX (As := []) (rest := [.int 0, .ref o]) C (k_bestPoint l hlt D cI cZ cJ x inp par pla dra lat his f1 f2 hd ec ea g gp ) cV_L_120 hP hD hS [0, 1] rfl rfl 0 rfl rfl rfl rfl hl.1 rfl (Nat.le_of_ble_eq_true rfl) dL_bestPoint_3 ⟨Nat.le_of_ble_eq_true rfl, Nat.le_of_ble_eq_true rfl⟩ ⟨Nat.le_of_ble_eq_true rfl, Nat.le_of_ble_eq_true rfl⟩) hP hD hS [0, 1] [] rfl rfl rfl (by decide) (fun ce q9 H locs hce hcv hcl hP hD hS => ?_)
  have hP : va_P D CL [(x, .inr (10, xC inp par pla dra lat his f1 f2 hd ec ea g)), (pla, .inr (5, pC 0 0 0 gp))] H := hP
  have hD : va_D A [(x, .inr (10, xC inp par pla dra lat his f1 f2 hd ec ea g)), (pla, .inr (5, pC 0 0 0 gp))] := hD
  refine vx_widen (k := 1) (n := 6) (Nat.le_of_ble_eq_true rfl) (Nat.le_of_ble_eq_true rfl) ?_
  refine r_catch (E := "java/lang/IllegalStateException") C (by decide) [] ⟨0, 8, 11, 20⟩ [] (htab.trans rfl) (fun z hz => nomatch hz) rfl (by decide) w_42 hce hcv hcl ?_
  refine W.eq (g2 := F0 m 11 ls [.ref q9]) rfl ?_
  refine lv_astore_n (lv' := [(2, .ref q9), (0, .ref x), (1, .ref o)]) hx hb dL_bestPoint_11 rfl hl (by decide) rfl (fun ls hl => ?_)
  refine lv_iconst (v := 1) hx hb dL_bestPoint_12 (by decide) ?_
  exact r_iret C hP hD hS () rfl rfl (Nat.le_of_ble_eq_true rfl) (Nat.le_of_ble_eq_true rfl) dL_bestPoint_13
set_option maxHeartbeats 4000000 in
set_option maxRecDepth 100000 in
theorem h_greedyGuards (l : Launch) (hlt : l.stackTraces = false) (D : va_G) (cI cZ cJ : ClassId) (x : Nat) (inp : Nat) (par : Nat) (pla : Nat) (dra : Nat) (lat : Nat) (his : Nat) (f1 : Nat) (f2 : Nat) (hd : Int32) (ec : Int32) (ea : Int32) (g : Nat → Value) (gp : Nat → Value) (o : Nat)  : cMW l yL_greedyGuards cL_greedyGuards 3 (some .int) [(0, 8, 11, 20)] D (TT cI cZ cJ) [.ref x, .ref o] [(x, .inr (10, xC inp par pla dra lat his f1 f2 hd ec ea g)), (pla, .inr (5, pC 0 0 0 gp))] (qI D (TT cI cZ cJ) (fun u : Unit => 1) (fun u : Unit => [(x, .inr (10, xC inp par pla dra lat his f1 f2 hd ec ea g)), (pla, .inr (5, pC 0 0 0 gp))])) 2 1 6 := by
  refine enterW (by decide) (Nat.le_of_ble_eq_true rfl) ?_
  intro p e s m below meth c ls A C htab hP hD hS hl
  have hx := C.1
  have hb := C.2.1
  have hl : lv_has ls 3 [(0, .ref x), (1, .ref o)] := hl
  refine lv_aload_n hx hb dL_greedyGuards_0 rfl (lv_at hl 1 rfl) ?_
  refine lv_iconst (v := 0) hx hb dL_greedyGuards_1 (by decide) ?_
  refine lv_aload_n hx hb dL_greedyGuards_2 rfl (lv_at hl 0 rfl) ?_
  refine call_X (wr := []) C (run_VX (As := []) (rest := [.int 0, .ref o]) C (k_greedyGuards l hlt D cI cZ cJ x inp par pla dra lat his f1 f2 hd ec ea g gp ) cV_L_123 hP hD hS [0, 1] rfl rfl 0 rfl rfl rfl rfl hl.1 rfl (Nat.le_of_ble_eq_true rfl) dL_greedyGuards_3 ⟨Nat.le_of_ble_eq_true rfl, Nat.le_of_ble_eq_true rfl⟩ ⟨Nat.le_of_ble_eq_true rfl, Nat.le_of_ble_eq_true rfl⟩) hP hD hS [0, 1] [] rfl rfl rfl (by decide) (fun ce q9 H locs hce hcv hcl hP hD hS => ?_)
  have hP : va_P D CL [(x, .inr (10, xC inp par pla dra lat his f1 f2 hd ec ea g)), (pla, .inr (5, pC 0 0 0 gp))] H := hP
  have hD : va_D A [(x, .inr (10, xC inp par pla dra lat his f1 f2 hd ec ea g)), (pla, .inr (5, pC 0 0 0 gp))] := hD
  refine vx_widen (k := 1) (n := 6) (Nat.le_of_ble_eq_true rfl) (Nat.le_of_ble_eq_true rfl) ?_
  refine r_catch (E := "java/lang/IllegalStateException") C (by decide) [] ⟨0, 8, 11, 20⟩ [] (htab.trans rfl) (fun z hz => nomatch hz) rfl (by decide) w_42 hce hcv hcl ?_
  refine W.eq (g2 := F0 m 11 ls [.ref q9]) rfl ?_
  refine lv_astore_n (lv' := [(2, .ref q9), (0, .ref x), (1, .ref o)]) hx hb dL_greedyGuards_11 rfl hl (by decide) rfl (fun ls hl => ?_)
  refine lv_iconst (v := 1) hx hb dL_greedyGuards_12 (by decide) ?_
  exact r_iret C hP hD hS () rfl rfl (Nat.le_of_ble_eq_true rfl) (Nat.le_of_ble_eq_true rfl) dL_greedyGuards_13
set_option maxHeartbeats 4000000 in
set_option maxRecDepth 100000 in
theorem h_treasureAt (l : Launch) (hlt : l.stackTraces = false) (D : va_G) (cI cZ cJ : ClassId) (x : Nat) (inp : Nat) (par : Nat) (pla : Nat) (dra : Nat) (lat : Nat) (his : Nat) (f1 : Nat) (f2 : Nat) (hd : Int32) (ec : Int32) (ea : Int32) (g : Nat → Value) (gp : Nat → Value) (a0 : Int32) (o : Nat)  : cMW l yL_treasureAt cL_treasureAt 4 (some .int) [(0, 9, 12, 20), (0, 9, 15, 13)] D (TT cI cZ cJ) [.ref x, .int a0, .ref o] [(x, .inr (10, xC inp par pla dra lat his f1 f2 hd ec ea g)), (pla, .inr (5, pC 0 0 0 gp))] (qI D (TT cI cZ cJ) (fun u : Unit => 1) (fun u : Unit => [(x, .inr (10, xC inp par pla dra lat his f1 f2 hd ec ea g)), (pla, .inr (5, pC 0 0 0 gp))])) 2 1 6 := by
  refine enterW (by decide) (Nat.le_of_ble_eq_true rfl) ?_
  intro p e s m below meth c ls A C htab hP hD hS hl
  have hx := C.1
  have hb := C.2.1
  have hl : lv_has ls 4 [(0, .ref x), (1, .int a0), (2, .ref o)] := hl
  refine lv_aload_n hx hb dL_treasureAt_0 rfl (lv_at hl 2 rfl) ?_
  refine lv_iconst (v := 0) hx hb dL_treasureAt_1 (by decide) ?_
  refine lv_aload_n hx hb dL_treasureAt_2 rfl (lv_at hl 0 rfl) ?_
  refine lv_iload_n hx hb dL_treasureAt_3 rfl (lv_at hl 1 rfl) ?_
  refine call_X (wr := []) C (run_VX (As := [.int a0]) (rest := [.int 0, .ref o]) C (k_treasureAt l hlt D cI cZ cJ x inp par pla dra lat his f1 f2 hd ec ea g gp a0 ) cV_L_126 hP hD hS [0, 1] rfl rfl 0 rfl rfl rfl rfl hl.1 rfl (Nat.le_of_ble_eq_true rfl) dL_treasureAt_4 ⟨Nat.le_of_ble_eq_true rfl, Nat.le_of_ble_eq_true rfl⟩ ⟨Nat.le_of_ble_eq_true rfl, Nat.le_of_ble_eq_true rfl⟩) hP hD hS [0, 1] [] rfl rfl rfl (by decide) (fun ce q9 H locs hce hcv hcl hP hD hS => ?_)
  have hP : va_P D CL [(x, .inr (10, xC inp par pla dra lat his f1 f2 hd ec ea g)), (pla, .inr (5, pC 0 0 0 gp))] H := hP
  have hD : va_D A [(x, .inr (10, xC inp par pla dra lat his f1 f2 hd ec ea g)), (pla, .inr (5, pC 0 0 0 gp))] := hD
  refine vx_widen (k := 1) (n := 6) (Nat.le_of_ble_eq_true rfl) (Nat.le_of_ble_eq_true rfl) ?_
  refine r_catch (E := "java/lang/IllegalStateException") C (by decide) [] ⟨0, 9, 12, 20⟩ [⟨0, 9, 15, 13⟩] (htab.trans rfl) (fun z hz => nomatch hz) rfl (by decide) w_42 hce hcv hcl ?_
  refine W.eq (g2 := F0 m 12 ls [.ref q9]) rfl ?_
  refine lv_astore_n (lv' := [(3, .ref q9), (0, .ref x), (1, .int a0), (2, .ref o)]) hx hb dL_treasureAt_12 rfl hl (by decide) rfl (fun ls hl => ?_)
  refine lv_iconst (v := 1) hx hb dL_treasureAt_13 (by decide) ?_
  exact r_iret C hP hD hS () rfl rfl (Nat.le_of_ble_eq_true rfl) (Nat.le_of_ble_eq_true rfl) dL_treasureAt_14
set_option maxHeartbeats 4000000 in
set_option maxRecDepth 100000 in
theorem h_watchedValue (l : Launch) (hlt : l.stackTraces = false) (D : va_G) (cI cZ cJ : ClassId) (x : Nat) (inp : Nat) (par : Nat) (pla : Nat) (dra : Nat) (lat : Nat) (his : Nat) (f1 : Nat) (f2 : Nat) (hd : Int32) (ec : Int32) (ea : Int32) (g : Nat → Value) (gp : Nat → Value) (o : Nat)  : cMW l yL_watchedValue cL_watchedValue 3 (some .int) [(0, 8, 11, 20)] D (TT cI cZ cJ) [.ref x, .ref o] [(x, .inr (10, xC inp par pla dra lat his f1 f2 hd ec ea g)), (pla, .inr (5, pC 0 0 0 gp))] (qI D (TT cI cZ cJ) (fun u : Unit => 1) (fun u : Unit => [(x, .inr (10, xC inp par pla dra lat his f1 f2 hd ec ea g)), (pla, .inr (5, pC 0 0 0 gp))])) 2 1 6 := by
  refine enterW (by decide) (Nat.le_of_ble_eq_true rfl) ?_
  intro p e s m below meth c ls A C htab hP hD hS hl
  have hx := C.1
  have hb := C.2.1
  have hl : lv_has ls 3 [(0, .ref x), (1, .ref o)] := hl
  refine lv_aload_n hx hb dL_watchedValue_0 rfl (lv_at hl 1 rfl) ?_
  refine lv_iconst (v := 0) hx hb dL_watchedValue_1 (by decide) ?_
  refine lv_aload_n hx hb dL_watchedValue_2 rfl (lv_at hl 0 rfl) ?_
  refine call_X (wr := []) C (run_VX (As := []) (rest := [.int 0, .ref o]) C (k_watchedValue l hlt D cI cZ cJ x inp par pla dra lat his f1 f2 hd ec ea g gp ) cV_L_129 hP hD hS [0, 1] rfl rfl 0 rfl rfl rfl rfl hl.1 rfl (Nat.le_of_ble_eq_true rfl) dL_watchedValue_3 ⟨Nat.le_of_ble_eq_true rfl, Nat.le_of_ble_eq_true rfl⟩ ⟨Nat.le_of_ble_eq_true rfl, Nat.le_of_ble_eq_true rfl⟩) hP hD hS [0, 1] [] rfl rfl rfl (by decide) (fun ce q9 H locs hce hcv hcl hP hD hS => ?_)
  have hP : va_P D CL [(x, .inr (10, xC inp par pla dra lat his f1 f2 hd ec ea g)), (pla, .inr (5, pC 0 0 0 gp))] H := hP
  have hD : va_D A [(x, .inr (10, xC inp par pla dra lat his f1 f2 hd ec ea g)), (pla, .inr (5, pC 0 0 0 gp))] := hD
  refine vx_widen (k := 1) (n := 6) (Nat.le_of_ble_eq_true rfl) (Nat.le_of_ble_eq_true rfl) ?_
  refine r_catch (E := "java/lang/IllegalStateException") C (by decide) [] ⟨0, 8, 11, 20⟩ [] (htab.trans rfl) (fun z hz => nomatch hz) rfl (by decide) w_42 hce hcv hcl ?_
  refine W.eq (g2 := F0 m 11 ls [.ref q9]) rfl ?_
  refine lv_astore_n (lv' := [(2, .ref q9), (0, .ref x), (1, .ref o)]) hx hb dL_watchedValue_11 rfl hl (by decide) rfl (fun ls hl => ?_)
  refine lv_iconst (v := 1) hx hb dL_watchedValue_12 (by decide) ?_
  exact r_iret C hP hD hS () rfl rfl (Nat.le_of_ble_eq_true rfl) (Nat.le_of_ble_eq_true rfl) dL_watchedValue_13
set_option maxHeartbeats 4000000 in
set_option maxRecDepth 100000 in
theorem h_bestValue (l : Launch) (hlt : l.stackTraces = false) (D : va_G) (cI cZ cJ : ClassId) (x : Nat) (inp : Nat) (par : Nat) (pla : Nat) (dra : Nat) (lat : Nat) (his : Nat) (f1 : Nat) (f2 : Nat) (hd : Int32) (ec : Int32) (ea : Int32) (g : Nat → Value) (gp : Nat → Value) (o : Nat)  : cMW l yL_bestValue cL_bestValue 3 (some .int) [(0, 8, 11, 20)] D (TT cI cZ cJ) [.ref x, .ref o] [(x, .inr (10, xC inp par pla dra lat his f1 f2 hd ec ea g)), (pla, .inr (5, pC 0 0 0 gp))] (qI D (TT cI cZ cJ) (fun u : Unit => 1) (fun u : Unit => [(x, .inr (10, xC inp par pla dra lat his f1 f2 hd ec ea g)), (pla, .inr (5, pC 0 0 0 gp))])) 2 1 6 := by
  refine enterW (by decide) (Nat.le_of_ble_eq_true rfl) ?_
  intro p e s m below meth c ls A C htab hP hD hS hl
  have hx := C.1
  have hb := C.2.1
  have hl : lv_has ls 3 [(0, .ref x), (1, .ref o)] := hl
  refine lv_aload_n hx hb dL_bestValue_0 rfl (lv_at hl 1 rfl) ?_
  refine lv_iconst (v := 0) hx hb dL_bestValue_1 (by decide) ?_
  refine lv_aload_n hx hb dL_bestValue_2 rfl (lv_at hl 0 rfl) ?_
  refine call_X (wr := []) C (run_VX (As := []) (rest := [.int 0, .ref o]) C (k_bestValue l hlt D cI cZ cJ x inp par pla dra lat his f1 f2 hd ec ea g gp ) cV_L_132 hP hD hS [0, 1] rfl rfl 0 rfl rfl rfl rfl hl.1 rfl (Nat.le_of_ble_eq_true rfl) dL_bestValue_3 ⟨Nat.le_of_ble_eq_true rfl, Nat.le_of_ble_eq_true rfl⟩ ⟨Nat.le_of_ble_eq_true rfl, Nat.le_of_ble_eq_true rfl⟩) hP hD hS [0, 1] [] rfl rfl rfl (by decide) (fun ce q9 H locs hce hcv hcl hP hD hS => ?_)
  have hP : va_P D CL [(x, .inr (10, xC inp par pla dra lat his f1 f2 hd ec ea g)), (pla, .inr (5, pC 0 0 0 gp))] H := hP
  have hD : va_D A [(x, .inr (10, xC inp par pla dra lat his f1 f2 hd ec ea g)), (pla, .inr (5, pC 0 0 0 gp))] := hD
  refine vx_widen (k := 1) (n := 6) (Nat.le_of_ble_eq_true rfl) (Nat.le_of_ble_eq_true rfl) ?_
  refine r_catch (E := "java/lang/IllegalStateException") C (by decide) [] ⟨0, 8, 11, 20⟩ [] (htab.trans rfl) (fun z hz => nomatch hz) rfl (by decide) w_42 hce hcv hcl ?_
  refine W.eq (g2 := F0 m 11 ls [.ref q9]) rfl ?_
  refine lv_astore_n (lv' := [(2, .ref q9), (0, .ref x), (1, .ref o)]) hx hb dL_bestValue_11 rfl hl (by decide) rfl (fun ls hl => ?_)
  refine lv_iconst (v := 1) hx hb dL_bestValue_12 (by decide) ?_
  exact r_iret C hP hD hS () rfl rfl (Nat.le_of_ble_eq_true rfl) (Nat.le_of_ble_eq_true rfl) dL_bestValue_13
set_option maxHeartbeats 4000000 in
set_option maxRecDepth 100000 in
theorem h_draw (l : Launch) (hlt : l.stackTraces = false) (D : va_G) (cI cZ cJ : ClassId) (x : Nat) (inp : Nat) (par : Nat) (pla : Nat) (dra : Nat) (lat : Nat) (his : Nat) (f1 : Nat) (f2 : Nat) (hd : Int32) (ec : Int32) (ea : Int32) (g : Nat → Value) (gp : Nat → Value) (a0 : Int32) (o : Nat)  : cMW l yL_draw cL_draw 4 (some .int) [(0, 9, 12, 20), (0, 9, 15, 15)] D (TT cI cZ cJ) [.ref x, .int a0, .ref o] [(x, .inr (10, xC inp par pla dra lat his f1 f2 hd ec ea g)), (pla, .inr (5, pC 0 0 0 gp))] (qI D (TT cI cZ cJ) (fun u : Unit => 1) (fun u : Unit => [(x, .inr (10, xC inp par pla dra lat his f1 f2 hd ec ea g)), (pla, .inr (5, pC 0 0 0 gp))])) 2 1 6 := by
  refine enterW (by decide) (Nat.le_of_ble_eq_true rfl) ?_
  intro p e s m below meth c ls A C htab hP hD hS hl
  have hx := C.1
  have hb := C.2.1
  have hl : lv_has ls 4 [(0, .ref x), (1, .int a0), (2, .ref o)] := hl
  refine lv_aload_n hx hb dL_draw_0 rfl (lv_at hl 2 rfl) ?_
  refine lv_iconst (v := 0) hx hb dL_draw_1 (by decide) ?_
  refine lv_aload_n hx hb dL_draw_2 rfl (lv_at hl 0 rfl) ?_
  refine lv_iload_n hx hb dL_draw_3 rfl (lv_at hl 1 rfl) ?_
  refine call_X (wr := []) C (run_VX (As := [.int a0]) (rest := [.int 0, .ref o]) C (k_draw l hlt D cI cZ cJ x inp par pla dra lat his f1 f2 hd ec ea g gp a0 ) cV_L_135 hP hD hS [0, 1] rfl rfl 0 rfl rfl rfl rfl hl.1 rfl (Nat.le_of_ble_eq_true rfl) dL_draw_4 ⟨Nat.le_of_ble_eq_true rfl, Nat.le_of_ble_eq_true rfl⟩ ⟨Nat.le_of_ble_eq_true rfl, Nat.le_of_ble_eq_true rfl⟩) hP hD hS [0, 1] [] rfl rfl rfl (by decide) (fun ce q9 H locs hce hcv hcl hP hD hS => ?_)
  have hP : va_P D CL [(x, .inr (10, xC inp par pla dra lat his f1 f2 hd ec ea g)), (pla, .inr (5, pC 0 0 0 gp))] H := hP
  have hD : va_D A [(x, .inr (10, xC inp par pla dra lat his f1 f2 hd ec ea g)), (pla, .inr (5, pC 0 0 0 gp))] := hD
  refine vx_widen (k := 1) (n := 6) (Nat.le_of_ble_eq_true rfl) (Nat.le_of_ble_eq_true rfl) ?_
  refine r_catch (E := "java/lang/IllegalStateException") C (by decide) [] ⟨0, 9, 12, 20⟩ [⟨0, 9, 15, 15⟩] (htab.trans rfl) (fun z hz => nomatch hz) rfl (by decide) w_42 hce hcv hcl ?_
  refine W.eq (g2 := F0 m 12 ls [.ref q9]) rfl ?_
  refine lv_astore_n (lv' := [(3, .ref q9), (0, .ref x), (1, .int a0), (2, .ref o)]) hx hb dL_draw_12 rfl hl (by decide) rfl (fun ls hl => ?_)
  refine lv_iconst (v := 1) hx hb dL_draw_13 (by decide) ?_
  exact r_iret C hP hD hS () rfl rfl (Nat.le_of_ble_eq_true rfl) (Nat.le_of_ble_eq_true rfl) dL_draw_14
set_option maxHeartbeats 4000000 in
set_option maxRecDepth 100000 in
theorem h_addGuard (l : Launch) (hlt : l.stackTraces = false) (D : va_G) (cI cZ cJ : ClassId) (x : Nat) (inp : Nat) (par : Nat) (pla : Nat) (dra : Nat) (lat : Nat) (his : Nat) (f1 : Nat) (f2 : Nat) (hd : Int32) (ec : Int32) (ea : Int32) (g : Nat → Value) (gp : Nat → Value) (a0 : Int32) (a1 : Int32) (o : Nat)  : cMW l yL_addGuard cL_addGuard 5 (some .int) [(0, 10, 13, 20), (0, 10, 17, 13), (0, 10, 21, 15)] D (TT cI cZ cJ) [.ref x, .int a0, .int a1, .ref o] [(x, .inr (10, xC inp par pla dra lat his f1 f2 hd ec ea g)), (pla, .inr (5, pC 0 0 0 gp))] (qI D (TT cI cZ cJ) (fun u : Unit => 1) (fun u : Unit => [(x, .inr (10, xC inp par pla dra lat his f1 f2 hd ec ea g)), (pla, .inr (5, pC 0 0 0 gp))])) 2 1 6 := by
  refine enterW (by decide) (Nat.le_of_ble_eq_true rfl) ?_
  intro p e s m below meth c ls A C htab hP hD hS hl
  have hx := C.1
  have hb := C.2.1
  have hl : lv_has ls 5 [(0, .ref x), (1, .int a0), (2, .int a1), (3, .ref o)] := hl
  refine lv_aload_n hx hb dL_addGuard_0 rfl (lv_at hl 3 rfl) ?_
  refine lv_iconst (v := 0) hx hb dL_addGuard_1 (by decide) ?_
  refine lv_aload_n hx hb dL_addGuard_2 rfl (lv_at hl 0 rfl) ?_
  refine lv_iload_n hx hb dL_addGuard_3 rfl (lv_at hl 1 rfl) ?_
  refine lv_iload_n hx hb dL_addGuard_4 rfl (lv_at hl 2 rfl) ?_
  refine call_X (wr := []) C (run_VX (As := [.int a0, .int a1]) (rest := [.int 0, .ref o]) C (k_addGuard l hlt D cI cZ cJ x inp par pla dra lat his f1 f2 hd ec ea g gp a0 a1 ) cV_L_141 hP hD hS [0, 1] rfl rfl 0 rfl rfl rfl rfl hl.1 rfl (Nat.le_of_ble_eq_true rfl) dL_addGuard_5 ⟨Nat.le_of_ble_eq_true rfl, Nat.le_of_ble_eq_true rfl⟩ ⟨Nat.le_of_ble_eq_true rfl, Nat.le_of_ble_eq_true rfl⟩) hP hD hS [0, 1] [] rfl rfl rfl (by decide) (fun ce q9 H locs hce hcv hcl hP hD hS => ?_)
  have hP : va_P D CL [(x, .inr (10, xC inp par pla dra lat his f1 f2 hd ec ea g)), (pla, .inr (5, pC 0 0 0 gp))] H := hP
  have hD : va_D A [(x, .inr (10, xC inp par pla dra lat his f1 f2 hd ec ea g)), (pla, .inr (5, pC 0 0 0 gp))] := hD
  refine vx_widen (k := 1) (n := 6) (Nat.le_of_ble_eq_true rfl) (Nat.le_of_ble_eq_true rfl) ?_
  refine r_catch (E := "java/lang/IllegalStateException") C (by decide) [] ⟨0, 10, 13, 20⟩ [⟨0, 10, 17, 13⟩, ⟨0, 10, 21, 15⟩] (htab.trans rfl) (fun z hz => nomatch hz) rfl (by decide) w_42 hce hcv hcl ?_
  refine W.eq (g2 := F0 m 13 ls [.ref q9]) rfl ?_
  refine lv_astore (lv' := [(4, .ref q9), (0, .ref x), (1, .int a0), (2, .int a1), (3, .ref o)]) hx hb dL_addGuard_13 hl (by decide) rfl (fun ls hl => ?_)
  refine lv_iconst (v := 1) hx hb dL_addGuard_15 (by decide) ?_
  exact r_iret C hP hD hS () rfl rfl (Nat.le_of_ble_eq_true rfl) (Nat.le_of_ble_eq_true rfl) dL_addGuard_16
set_option maxHeartbeats 4000000 in
set_option maxRecDepth 100000 in
theorem h_removeGuard (l : Launch) (hlt : l.stackTraces = false) (D : va_G) (cI cZ cJ : ClassId) (x : Nat) (inp : Nat) (par : Nat) (pla : Nat) (dra : Nat) (lat : Nat) (his : Nat) (f1 : Nat) (f2 : Nat) (hd : Int32) (ec : Int32) (ea : Int32) (g : Nat → Value) (gp : Nat → Value) (a0 : Int32) (o : Nat)  : cMW l yL_removeGuard cL_removeGuard 4 (some .int) [(0, 9, 12, 20), (0, 9, 15, 13)] D (TT cI cZ cJ) [.ref x, .int a0, .ref o] [(x, .inr (10, xC inp par pla dra lat his f1 f2 hd ec ea g)), (pla, .inr (5, pC 0 0 0 gp))] (qI D (TT cI cZ cJ) (fun u : Unit => 1) (fun u : Unit => [(x, .inr (10, xC inp par pla dra lat his f1 f2 hd ec ea g)), (pla, .inr (5, pC 0 0 0 gp))])) 2 1 6 := by
  refine enterW (by decide) (Nat.le_of_ble_eq_true rfl) ?_
  intro p e s m below meth c ls A C htab hP hD hS hl
  have hx := C.1
  have hb := C.2.1
  have hl : lv_has ls 4 [(0, .ref x), (1, .int a0), (2, .ref o)] := hl
  refine lv_aload_n hx hb dL_removeGuard_0 rfl (lv_at hl 2 rfl) ?_
  refine lv_iconst (v := 0) hx hb dL_removeGuard_1 (by decide) ?_
  refine lv_aload_n hx hb dL_removeGuard_2 rfl (lv_at hl 0 rfl) ?_
  refine lv_iload_n hx hb dL_removeGuard_3 rfl (lv_at hl 1 rfl) ?_
  refine call_X (wr := []) C (run_VX (As := [.int a0]) (rest := [.int 0, .ref o]) C (k_removeGuard l hlt D cI cZ cJ x inp par pla dra lat his f1 f2 hd ec ea g gp a0 ) cV_L_144 hP hD hS [0, 1] rfl rfl 0 rfl rfl rfl rfl hl.1 rfl (Nat.le_of_ble_eq_true rfl) dL_removeGuard_4 ⟨Nat.le_of_ble_eq_true rfl, Nat.le_of_ble_eq_true rfl⟩ ⟨Nat.le_of_ble_eq_true rfl, Nat.le_of_ble_eq_true rfl⟩) hP hD hS [0, 1] [] rfl rfl rfl (by decide) (fun ce q9 H locs hce hcv hcl hP hD hS => ?_)
  have hP : va_P D CL [(x, .inr (10, xC inp par pla dra lat his f1 f2 hd ec ea g)), (pla, .inr (5, pC 0 0 0 gp))] H := hP
  have hD : va_D A [(x, .inr (10, xC inp par pla dra lat his f1 f2 hd ec ea g)), (pla, .inr (5, pC 0 0 0 gp))] := hD
  refine vx_widen (k := 1) (n := 6) (Nat.le_of_ble_eq_true rfl) (Nat.le_of_ble_eq_true rfl) ?_
  refine r_catch (E := "java/lang/IllegalStateException") C (by decide) [] ⟨0, 9, 12, 20⟩ [⟨0, 9, 15, 13⟩] (htab.trans rfl) (fun z hz => nomatch hz) rfl (by decide) w_42 hce hcv hcl ?_
  refine W.eq (g2 := F0 m 12 ls [.ref q9]) rfl ?_
  refine lv_astore_n (lv' := [(3, .ref q9), (0, .ref x), (1, .int a0), (2, .ref o)]) hx hb dL_removeGuard_12 rfl hl (by decide) rfl (fun ls hl => ?_)
  refine lv_iconst (v := 1) hx hb dL_removeGuard_13 (by decide) ?_
  exact r_iret C hP hD hS () rfl rfl (Nat.le_of_ble_eq_true rfl) (Nat.le_of_ble_eq_true rfl) dL_removeGuard_14
set_option maxHeartbeats 4000000 in
set_option maxRecDepth 100000 in
theorem h_moveGuard (l : Launch) (hlt : l.stackTraces = false) (D : va_G) (cI cZ cJ : ClassId) (x : Nat) (inp : Nat) (par : Nat) (pla : Nat) (dra : Nat) (lat : Nat) (his : Nat) (f1 : Nat) (f2 : Nat) (hd : Int32) (ec : Int32) (ea : Int32) (g : Nat → Value) (gp : Nat → Value) (a0 : Int32) (a1 : Int32) (o : Nat)  : cMW l yL_moveGuard cL_moveGuard 5 (some .int) [(0, 10, 13, 20), (0, 10, 17, 13)] D (TT cI cZ cJ) [.ref x, .int a0, .int a1, .ref o] [(x, .inr (10, xC inp par pla dra lat his f1 f2 hd ec ea g)), (pla, .inr (5, pC 0 0 0 gp))] (qI D (TT cI cZ cJ) (fun u : Unit => 1) (fun u : Unit => [(x, .inr (10, xC inp par pla dra lat his f1 f2 hd ec ea g)), (pla, .inr (5, pC 0 0 0 gp))])) 2 1 6 := by
  refine enterW (by decide) (Nat.le_of_ble_eq_true rfl) ?_
  intro p e s m below meth c ls A C htab hP hD hS hl
  have hx := C.1
  have hb := C.2.1
  have hl : lv_has ls 5 [(0, .ref x), (1, .int a0), (2, .int a1), (3, .ref o)] := hl
  refine lv_aload_n hx hb dL_moveGuard_0 rfl (lv_at hl 3 rfl) ?_
  refine lv_iconst (v := 0) hx hb dL_moveGuard_1 (by decide) ?_
  refine lv_aload_n hx hb dL_moveGuard_2 rfl (lv_at hl 0 rfl) ?_
  refine lv_iload_n hx hb dL_moveGuard_3 rfl (lv_at hl 1 rfl) ?_
  refine lv_iload_n hx hb dL_moveGuard_4 rfl (lv_at hl 2 rfl) ?_
  refine call_X (wr := []) C (run_VX (As := [.int a0, .int a1]) (rest := [.int 0, .ref o]) C (k_moveGuard l hlt D cI cZ cJ x inp par pla dra lat his f1 f2 hd ec ea g gp a0 a1 ) cV_L_147 hP hD hS [0, 1] rfl rfl 0 rfl rfl rfl rfl hl.1 rfl (Nat.le_of_ble_eq_true rfl) dL_moveGuard_5 ⟨Nat.le_of_ble_eq_true rfl, Nat.le_of_ble_eq_true rfl⟩ ⟨Nat.le_of_ble_eq_true rfl, Nat.le_of_ble_eq_true rfl⟩) hP hD hS [0, 1] [] rfl rfl rfl (by decide) (fun ce q9 H locs hce hcv hcl hP hD hS => ?_)
  have hP : va_P D CL [(x, .inr (10, xC inp par pla dra lat his f1 f2 hd ec ea g)), (pla, .inr (5, pC 0 0 0 gp))] H := hP
  have hD : va_D A [(x, .inr (10, xC inp par pla dra lat his f1 f2 hd ec ea g)), (pla, .inr (5, pC 0 0 0 gp))] := hD
  refine vx_widen (k := 1) (n := 6) (Nat.le_of_ble_eq_true rfl) (Nat.le_of_ble_eq_true rfl) ?_
  refine r_catch (E := "java/lang/IllegalStateException") C (by decide) [] ⟨0, 10, 13, 20⟩ [⟨0, 10, 17, 13⟩] (htab.trans rfl) (fun z hz => nomatch hz) rfl (by decide) w_42 hce hcv hcl ?_
  refine W.eq (g2 := F0 m 13 ls [.ref q9]) rfl ?_
  refine lv_astore (lv' := [(4, .ref q9), (0, .ref x), (1, .int a0), (2, .int a1), (3, .ref o)]) hx hb dL_moveGuard_13 hl (by decide) rfl (fun ls hl => ?_)
  refine lv_iconst (v := 1) hx hb dL_moveGuard_15 (by decide) ?_
  exact r_iret C hP hD hS () rfl rfl (Nat.le_of_ble_eq_true rfl) (Nat.le_of_ble_eq_true rfl) dL_moveGuard_16
set_option maxHeartbeats 4000000 in
set_option maxRecDepth 100000 in
theorem h_setRange (l : Launch) (hlt : l.stackTraces = false) (D : va_G) (cI cZ cJ : ClassId) (x : Nat) (inp : Nat) (par : Nat) (pla : Nat) (dra : Nat) (lat : Nat) (his : Nat) (f1 : Nat) (f2 : Nat) (hd : Int32) (ec : Int32) (ea : Int32) (g : Nat → Value) (gp : Nat → Value) (a0 : Int32) (a1 : Int32) (o : Nat)  : cMW l yL_setRange cL_setRange 5 (some .int) [(0, 10, 13, 20), (0, 10, 17, 13), (0, 10, 21, 15)] D (TT cI cZ cJ) [.ref x, .int a0, .int a1, .ref o] [(x, .inr (10, xC inp par pla dra lat his f1 f2 hd ec ea g)), (pla, .inr (5, pC 0 0 0 gp))] (qI D (TT cI cZ cJ) (fun u : Unit => 1) (fun u : Unit => [(x, .inr (10, xC inp par pla dra lat his f1 f2 hd ec ea g)), (pla, .inr (5, pC 0 0 0 gp))])) 2 1 6 := by
  refine enterW (by decide) (Nat.le_of_ble_eq_true rfl) ?_
  intro p e s m below meth c ls A C htab hP hD hS hl
  have hx := C.1
  have hb := C.2.1
  have hl : lv_has ls 5 [(0, .ref x), (1, .int a0), (2, .int a1), (3, .ref o)] := hl
  refine lv_aload_n hx hb dL_setRange_0 rfl (lv_at hl 3 rfl) ?_
  refine lv_iconst (v := 0) hx hb dL_setRange_1 (by decide) ?_
  refine lv_aload_n hx hb dL_setRange_2 rfl (lv_at hl 0 rfl) ?_
  refine lv_iload_n hx hb dL_setRange_3 rfl (lv_at hl 1 rfl) ?_
  refine lv_iload_n hx hb dL_setRange_4 rfl (lv_at hl 2 rfl) ?_
  refine call_X (wr := []) C (run_VX (As := [.int a0, .int a1]) (rest := [.int 0, .ref o]) C (k_setRange l hlt D cI cZ cJ x inp par pla dra lat his f1 f2 hd ec ea g gp a0 a1 ) cV_L_150 hP hD hS [0, 1] rfl rfl 0 rfl rfl rfl rfl hl.1 rfl (Nat.le_of_ble_eq_true rfl) dL_setRange_5 ⟨Nat.le_of_ble_eq_true rfl, Nat.le_of_ble_eq_true rfl⟩ ⟨Nat.le_of_ble_eq_true rfl, Nat.le_of_ble_eq_true rfl⟩) hP hD hS [0, 1] [] rfl rfl rfl (by decide) (fun ce q9 H locs hce hcv hcl hP hD hS => ?_)
  have hP : va_P D CL [(x, .inr (10, xC inp par pla dra lat his f1 f2 hd ec ea g)), (pla, .inr (5, pC 0 0 0 gp))] H := hP
  have hD : va_D A [(x, .inr (10, xC inp par pla dra lat his f1 f2 hd ec ea g)), (pla, .inr (5, pC 0 0 0 gp))] := hD
  refine vx_widen (k := 1) (n := 6) (Nat.le_of_ble_eq_true rfl) (Nat.le_of_ble_eq_true rfl) ?_
  refine r_catch (E := "java/lang/IllegalStateException") C (by decide) [] ⟨0, 10, 13, 20⟩ [⟨0, 10, 17, 13⟩, ⟨0, 10, 21, 15⟩] (htab.trans rfl) (fun z hz => nomatch hz) rfl (by decide) w_42 hce hcv hcl ?_
  refine W.eq (g2 := F0 m 13 ls [.ref q9]) rfl ?_
  refine lv_astore (lv' := [(4, .ref q9), (0, .ref x), (1, .int a0), (2, .int a1), (3, .ref o)]) hx hb dL_setRange_13 hl (by decide) rfl (fun ls hl => ?_)
  refine lv_iconst (v := 1) hx hb dL_setRange_15 (by decide) ?_
  exact r_iret C hP hD hS () rfl rfl (Nat.le_of_ble_eq_true rfl) (Nat.le_of_ble_eq_true rfl) dL_setRange_16
set_option maxHeartbeats 4000000 in
set_option maxRecDepth 100000 in
theorem h_moveVertex (l : Launch) (hlt : l.stackTraces = false) (D : va_G) (cI cZ cJ : ClassId) (x : Nat) (inp : Nat) (par : Nat) (pla : Nat) (dra : Nat) (lat : Nat) (his : Nat) (f1 : Nat) (f2 : Nat) (hd : Int32) (ec : Int32) (ea : Int32) (g : Nat → Value) (gp : Nat → Value) (a0 : Int32) (a1 : Int32) (a2 : Int32) (o : Nat)  : cMW l yL_moveVertex cL_moveVertex 6 (some .int) [(0, 12, 15, 20), (0, 12, 19, 13), (0, 12, 23, 15)] D (TT cI cZ cJ) [.ref x, .int a0, .int a1, .int a2, .ref o] [(x, .inr (10, xC inp par pla dra lat his f1 f2 hd ec ea g)), (pla, .inr (5, pC 0 0 0 gp))] (qI D (TT cI cZ cJ) (fun u : Unit => 1) (fun u : Unit => [(x, .inr (10, xC inp par pla dra lat his f1 f2 hd ec ea g)), (pla, .inr (5, pC 0 0 0 gp))])) 2 1 6 := by
  refine enterW (by decide) (Nat.le_of_ble_eq_true rfl) ?_
  intro p e s m below meth c ls A C htab hP hD hS hl
  have hx := C.1
  have hb := C.2.1
  have hl : lv_has ls 6 [(0, .ref x), (1, .int a0), (2, .int a1), (3, .int a2), (4, .ref o)] := hl
  refine lv_aload hx hb dL_moveVertex_0 (lv_at hl 4 rfl) ?_
  refine lv_iconst (v := 0) hx hb dL_moveVertex_2 (by decide) ?_
  refine lv_aload_n hx hb dL_moveVertex_3 rfl (lv_at hl 0 rfl) ?_
  refine lv_iload_n hx hb dL_moveVertex_4 rfl (lv_at hl 1 rfl) ?_
  refine lv_iload_n hx hb dL_moveVertex_5 rfl (lv_at hl 2 rfl) ?_
  refine lv_iload_n hx hb dL_moveVertex_6 rfl (lv_at hl 3 rfl) ?_
  refine call_X (wr := []) C (run_VX (As := [.int a0, .int a1, .int a2]) (rest := [.int 0, .ref o]) C (k_moveVertex l hlt D cI cZ cJ x inp par pla dra lat his f1 f2 hd ec ea g gp a0 a1 a2 ) cV_L_153 hP hD hS [0, 1] rfl rfl 0 rfl rfl rfl rfl hl.1 rfl (Nat.le_of_ble_eq_true rfl) dL_moveVertex_7 ⟨Nat.le_of_ble_eq_true rfl, Nat.le_of_ble_eq_true rfl⟩ ⟨Nat.le_of_ble_eq_true rfl, Nat.le_of_ble_eq_true rfl⟩) hP hD hS [0, 1] [] rfl rfl rfl (by decide) (fun ce q9 H locs hce hcv hcl hP hD hS => ?_)
  have hP : va_P D CL [(x, .inr (10, xC inp par pla dra lat his f1 f2 hd ec ea g)), (pla, .inr (5, pC 0 0 0 gp))] H := hP
  have hD : va_D A [(x, .inr (10, xC inp par pla dra lat his f1 f2 hd ec ea g)), (pla, .inr (5, pC 0 0 0 gp))] := hD
  refine vx_widen (k := 1) (n := 6) (Nat.le_of_ble_eq_true rfl) (Nat.le_of_ble_eq_true rfl) ?_
  refine r_catch (E := "java/lang/IllegalStateException") C (by decide) [] ⟨0, 12, 15, 20⟩ [⟨0, 12, 19, 13⟩, ⟨0, 12, 23, 15⟩] (htab.trans rfl) (fun z hz => nomatch hz) rfl (by decide) w_42 hce hcv hcl ?_
  refine W.eq (g2 := F0 m 15 ls [.ref q9]) rfl ?_
  refine lv_astore (lv' := [(5, .ref q9), (0, .ref x), (1, .int a0), (2, .int a1), (3, .int a2), (4, .ref o)]) hx hb dL_moveVertex_15 hl (by decide) rfl (fun ls hl => ?_)
  refine lv_iconst (v := 1) hx hb dL_moveVertex_17 (by decide) ?_
  exact r_iret C hP hD hS () rfl rfl (Nat.le_of_ble_eq_true rfl) (Nat.le_of_ble_eq_true rfl) dL_moveVertex_18
set_option maxHeartbeats 4000000 in
set_option maxRecDepth 100000 in
theorem h_insertVertex (l : Launch) (hlt : l.stackTraces = false) (D : va_G) (cI cZ cJ : ClassId) (x : Nat) (inp : Nat) (par : Nat) (pla : Nat) (dra : Nat) (lat : Nat) (his : Nat) (f1 : Nat) (f2 : Nat) (hd : Int32) (ec : Int32) (ea : Int32) (g : Nat → Value) (gp : Nat → Value) (a0 : Int32) (a1 : Int32) (a2 : Int32) (o : Nat)  : cMW l yL_insertVertex cL_insertVertex 6 (some .int) [(0, 12, 15, 20), (0, 12, 19, 13), (0, 12, 23, 15)] D (TT cI cZ cJ) [.ref x, .int a0, .int a1, .int a2, .ref o] [(x, .inr (10, xC inp par pla dra lat his f1 f2 hd ec ea g)), (pla, .inr (5, pC 0 0 0 gp))] (qI D (TT cI cZ cJ) (fun u : Unit => 1) (fun u : Unit => [(x, .inr (10, xC inp par pla dra lat his f1 f2 hd ec ea g)), (pla, .inr (5, pC 0 0 0 gp))])) 2 1 6 := by
  refine enterW (by decide) (Nat.le_of_ble_eq_true rfl) ?_
  intro p e s m below meth c ls A C htab hP hD hS hl
  have hx := C.1
  have hb := C.2.1
  have hl : lv_has ls 6 [(0, .ref x), (1, .int a0), (2, .int a1), (3, .int a2), (4, .ref o)] := hl
  refine lv_aload hx hb dL_insertVertex_0 (lv_at hl 4 rfl) ?_
  refine lv_iconst (v := 0) hx hb dL_insertVertex_2 (by decide) ?_
  refine lv_aload_n hx hb dL_insertVertex_3 rfl (lv_at hl 0 rfl) ?_
  refine lv_iload_n hx hb dL_insertVertex_4 rfl (lv_at hl 1 rfl) ?_
  refine lv_iload_n hx hb dL_insertVertex_5 rfl (lv_at hl 2 rfl) ?_
  refine lv_iload_n hx hb dL_insertVertex_6 rfl (lv_at hl 3 rfl) ?_
  refine call_X (wr := []) C (run_VX (As := [.int a0, .int a1, .int a2]) (rest := [.int 0, .ref o]) C (k_insertVertex l hlt D cI cZ cJ x inp par pla dra lat his f1 f2 hd ec ea g gp a0 a1 a2 ) cV_L_157 hP hD hS [0, 1] rfl rfl 0 rfl rfl rfl rfl hl.1 rfl (Nat.le_of_ble_eq_true rfl) dL_insertVertex_7 ⟨Nat.le_of_ble_eq_true rfl, Nat.le_of_ble_eq_true rfl⟩ ⟨Nat.le_of_ble_eq_true rfl, Nat.le_of_ble_eq_true rfl⟩) hP hD hS [0, 1] [] rfl rfl rfl (by decide) (fun ce q9 H locs hce hcv hcl hP hD hS => ?_)
  have hP : va_P D CL [(x, .inr (10, xC inp par pla dra lat his f1 f2 hd ec ea g)), (pla, .inr (5, pC 0 0 0 gp))] H := hP
  have hD : va_D A [(x, .inr (10, xC inp par pla dra lat his f1 f2 hd ec ea g)), (pla, .inr (5, pC 0 0 0 gp))] := hD
  refine vx_widen (k := 1) (n := 6) (Nat.le_of_ble_eq_true rfl) (Nat.le_of_ble_eq_true rfl) ?_
  refine r_catch (E := "java/lang/IllegalStateException") C (by decide) [] ⟨0, 12, 15, 20⟩ [⟨0, 12, 19, 13⟩, ⟨0, 12, 23, 15⟩] (htab.trans rfl) (fun z hz => nomatch hz) rfl (by decide) w_42 hce hcv hcl ?_
  refine W.eq (g2 := F0 m 15 ls [.ref q9]) rfl ?_
  refine lv_astore (lv' := [(5, .ref q9), (0, .ref x), (1, .int a0), (2, .int a1), (3, .int a2), (4, .ref o)]) hx hb dL_insertVertex_15 hl (by decide) rfl (fun ls hl => ?_)
  refine lv_iconst (v := 1) hx hb dL_insertVertex_17 (by decide) ?_
  exact r_iret C hP hD hS () rfl rfl (Nat.le_of_ble_eq_true rfl) (Nat.le_of_ble_eq_true rfl) dL_insertVertex_18
set_option maxHeartbeats 4000000 in
set_option maxRecDepth 100000 in
theorem h_deleteVertex (l : Launch) (hlt : l.stackTraces = false) (D : va_G) (cI cZ cJ : ClassId) (x : Nat) (inp : Nat) (par : Nat) (pla : Nat) (dra : Nat) (lat : Nat) (his : Nat) (f1 : Nat) (f2 : Nat) (hd : Int32) (ec : Int32) (ea : Int32) (g : Nat → Value) (gp : Nat → Value) (a0 : Int32) (o : Nat)  : cMW l yL_deleteVertex cL_deleteVertex 4 (some .int) [(0, 9, 12, 20), (0, 9, 15, 13), (0, 9, 18, 15)] D (TT cI cZ cJ) [.ref x, .int a0, .ref o] [(x, .inr (10, xC inp par pla dra lat his f1 f2 hd ec ea g)), (pla, .inr (5, pC 0 0 0 gp))] (qI D (TT cI cZ cJ) (fun u : Unit => 1) (fun u : Unit => [(x, .inr (10, xC inp par pla dra lat his f1 f2 hd ec ea g)), (pla, .inr (5, pC 0 0 0 gp))])) 2 1 6 := by
  refine enterW (by decide) (Nat.le_of_ble_eq_true rfl) ?_
  intro p e s m below meth c ls A C htab hP hD hS hl
  have hx := C.1
  have hb := C.2.1
  have hl : lv_has ls 4 [(0, .ref x), (1, .int a0), (2, .ref o)] := hl
  refine lv_aload_n hx hb dL_deleteVertex_0 rfl (lv_at hl 2 rfl) ?_
  refine lv_iconst (v := 0) hx hb dL_deleteVertex_1 (by decide) ?_
  refine lv_aload_n hx hb dL_deleteVertex_2 rfl (lv_at hl 0 rfl) ?_
  refine lv_iload_n hx hb dL_deleteVertex_3 rfl (lv_at hl 1 rfl) ?_
  refine call_X (wr := []) C (run_VX (As := [.int a0]) (rest := [.int 0, .ref o]) C (k_deleteVertex l hlt D cI cZ cJ x inp par pla dra lat his f1 f2 hd ec ea g gp a0 ) cV_L_160 hP hD hS [0, 1] rfl rfl 0 rfl rfl rfl rfl hl.1 rfl (Nat.le_of_ble_eq_true rfl) dL_deleteVertex_4 ⟨Nat.le_of_ble_eq_true rfl, Nat.le_of_ble_eq_true rfl⟩ ⟨Nat.le_of_ble_eq_true rfl, Nat.le_of_ble_eq_true rfl⟩) hP hD hS [0, 1] [] rfl rfl rfl (by decide) (fun ce q9 H locs hce hcv hcl hP hD hS => ?_)
  have hP : va_P D CL [(x, .inr (10, xC inp par pla dra lat his f1 f2 hd ec ea g)), (pla, .inr (5, pC 0 0 0 gp))] H := hP
  have hD : va_D A [(x, .inr (10, xC inp par pla dra lat his f1 f2 hd ec ea g)), (pla, .inr (5, pC 0 0 0 gp))] := hD
  refine vx_widen (k := 1) (n := 6) (Nat.le_of_ble_eq_true rfl) (Nat.le_of_ble_eq_true rfl) ?_
  refine r_catch (E := "java/lang/IllegalStateException") C (by decide) [] ⟨0, 9, 12, 20⟩ [⟨0, 9, 15, 13⟩, ⟨0, 9, 18, 15⟩] (htab.trans rfl) (fun z hz => nomatch hz) rfl (by decide) w_42 hce hcv hcl ?_
  refine W.eq (g2 := F0 m 12 ls [.ref q9]) rfl ?_
  refine lv_astore_n (lv' := [(3, .ref q9), (0, .ref x), (1, .int a0), (2, .ref o)]) hx hb dL_deleteVertex_12 rfl hl (by decide) rfl (fun ls hl => ?_)
  refine lv_iconst (v := 1) hx hb dL_deleteVertex_13 (by decide) ?_
  exact r_iret C hP hD hS () rfl rfl (Nat.le_of_ble_eq_true rfl) (Nat.le_of_ble_eq_true rfl) dL_deleteVertex_14
set_option maxHeartbeats 4000000 in
set_option maxRecDepth 100000 in
theorem h_save (l : Launch) (hlt : l.stackTraces = false) (D : va_G) (cI cZ cJ : ClassId) (x : Nat) (inp : Nat) (par : Nat) (pla : Nat) (dra : Nat) (lat : Nat) (his : Nat) (f1 : Nat) (f2 : Nat) (hd : Int32) (ec : Int32) (ea : Int32) (g : Nat → Value) (gp : Nat → Value) (a0 : Int32) (o : Nat)  : cMW l yL_save cL_save 4 (some .int) [(0, 9, 12, 20), (0, 9, 15, 13)] D (TT cI cZ cJ) [.ref x, .int a0, .ref o] [(x, .inr (10, xC inp par pla dra lat his f1 f2 hd ec ea g)), (pla, .inr (5, pC 0 0 0 gp))] (qI D (TT cI cZ cJ) (fun u : Unit => 1) (fun u : Unit => [(x, .inr (10, xC inp par pla dra lat his f1 f2 hd ec ea g)), (pla, .inr (5, pC 0 0 0 gp))])) 2 1 6 := by
  refine enterW (by decide) (Nat.le_of_ble_eq_true rfl) ?_
  intro p e s m below meth c ls A C htab hP hD hS hl
  have hx := C.1
  have hb := C.2.1
  have hl : lv_has ls 4 [(0, .ref x), (1, .int a0), (2, .ref o)] := hl
  refine lv_aload_n hx hb dL_save_0 rfl (lv_at hl 2 rfl) ?_
  refine lv_iconst (v := 0) hx hb dL_save_1 (by decide) ?_
  refine lv_aload_n hx hb dL_save_2 rfl (lv_at hl 0 rfl) ?_
  refine lv_iload_n hx hb dL_save_3 rfl (lv_at hl 1 rfl) ?_
  refine call_X (wr := []) C (run_VX (As := [.int a0]) (rest := [.int 0, .ref o]) C (k_save l hlt D cI cZ cJ x inp par pla dra lat his f1 f2 hd ec ea g gp a0 ) cV_L_166 hP hD hS [0, 1] rfl rfl 0 rfl rfl rfl rfl hl.1 rfl (Nat.le_of_ble_eq_true rfl) dL_save_4 ⟨Nat.le_of_ble_eq_true rfl, Nat.le_of_ble_eq_true rfl⟩ ⟨Nat.le_of_ble_eq_true rfl, Nat.le_of_ble_eq_true rfl⟩) hP hD hS [0, 1] [] rfl rfl rfl (by decide) (fun ce q9 H locs hce hcv hcl hP hD hS => ?_)
  have hP : va_P D CL [(x, .inr (10, xC inp par pla dra lat his f1 f2 hd ec ea g)), (pla, .inr (5, pC 0 0 0 gp))] H := hP
  have hD : va_D A [(x, .inr (10, xC inp par pla dra lat his f1 f2 hd ec ea g)), (pla, .inr (5, pC 0 0 0 gp))] := hD
  refine vx_widen (k := 1) (n := 6) (Nat.le_of_ble_eq_true rfl) (Nat.le_of_ble_eq_true rfl) ?_
  refine r_catch (E := "java/lang/IllegalStateException") C (by decide) [] ⟨0, 9, 12, 20⟩ [⟨0, 9, 15, 13⟩] (htab.trans rfl) (fun z hz => nomatch hz) rfl (by decide) w_42 hce hcv hcl ?_
  refine W.eq (g2 := F0 m 12 ls [.ref q9]) rfl ?_
  refine lv_astore_n (lv' := [(3, .ref q9), (0, .ref x), (1, .int a0), (2, .ref o)]) hx hb dL_save_12 rfl hl (by decide) rfl (fun ls hl => ?_)
  refine lv_iconst (v := 1) hx hb dL_save_13 (by decide) ?_
  exact r_iret C hP hD hS () rfl rfl (Nat.le_of_ble_eq_true rfl) (Nat.le_of_ble_eq_true rfl) dL_save_14
