set_option maxHeartbeats 4000000 in
set_option maxRecDepth 100000 in
theorem k_needPolygon (l : Launch) (hlt : l.stackTraces = false) (D : va_G) (cI cZ cJ : ClassId) (x : Nat) (inp : Nat) (par : Nat) (pla : Nat) (dra : Nat) (lat : Nat) (his : Nat) (f1 : Nat) (f2 : Nat) (hd : Int32) (ec : Int32) (ea : Int32) (g : Nat → Value) (gp : Nat → Value)  : cX l yX11_needPolygon cX11_needPolygon 1 none D (TT cI cZ cJ) [.ref x] [(x, .inr (10, xC inp par pla dra lat his f1 f2 hd ec ea g)), (pla, .inr (5, pC 0 0 0 gp))] "java/lang/IllegalStateException" [(x, .inr (10, xC inp par pla dra lat his f1 f2 hd ec ea g)), (pla, .inr (5, pC 0 0 0 gp))] 0 1 6 := by
  refine enterX (by decide) (Nat.le_of_ble_eq_true rfl) ?_
  intro p e s m below meth c ls A C htab hP hD hS hl
  have hx := C.1
  have hb := C.2.1
  have hl : lv_has ls 1 [(0, .ref x)] := hl
  refine lv_aload_n hx hb dX11_needPolygon_0 rfl (lv_at hl 0 rfl) ?_
  refine r_get (v := .ref pla) C hP 0 rfl fg_X11_19 rfl dX11_needPolygon_1 ?_
  refine r_get (v := .int 0) C hP 1 rfl fg_X11_152 rfl dX11_needPolygon_4 ?_
  refine lv_if_ne (tgt := 21) hx hb dX11_needPolygon_7 (by decide) (fun h => absurd h (by decide)) (fun _ => ?_)
  exact r_throwW C htab hlt hP hD hS tf_X11_311_360 hl.1 dX11_needPolygon_10 dX11_needPolygon_13 dX11_needPolygon_14 dX11_needPolygon_17 dX11_needPolygon_20 rfl (Nat.le_of_ble_eq_true rfl) (Nat.le_of_ble_eq_true rfl) (Nat.le_of_ble_eq_true rfl) (Nat.le_of_ble_eq_true rfl) (Nat.le_of_ble_eq_true rfl) (Nat.le_of_ble_eq_true rfl)
set_option maxHeartbeats 4000000 in
set_option maxRecDepth 100000 in
theorem k_vertexX (l : Launch) (hlt : l.stackTraces = false) (D : va_G) (cI cZ cJ : ClassId) (x : Nat) (inp : Nat) (par : Nat) (pla : Nat) (dra : Nat) (lat : Nat) (his : Nat) (f1 : Nat) (f2 : Nat) (hd : Int32) (ec : Int32) (ea : Int32) (g : Nat → Value) (gp : Nat → Value) (a0 : Int32)  : cX l yX11_vertexX cX11_vertexX 2 (some .int) D (TT cI cZ cJ) [.ref x, .int a0] [(x, .inr (10, xC inp par pla dra lat his f1 f2 hd ec ea g)), (pla, .inr (5, pC 0 0 0 gp))] "java/lang/IllegalStateException" [(x, .inr (10, xC inp par pla dra lat his f1 f2 hd ec ea g)), (pla, .inr (5, pC 0 0 0 gp))] 1 1 6 := by
  refine enterX (by decide) (Nat.le_of_ble_eq_true rfl) ?_
  intro p e s m below meth c ls A C htab hP hD hS hl
  have hx := C.1
  have hb := C.2.1
  have hl : lv_has ls 2 [(0, .ref x), (1, .int a0)] := hl
  refine lv_aload_n hx hb dX11_vertexX_0 rfl (lv_at hl 0 rfl) ?_
  refine call_X (wr := []) C (run_VX (As := []) (rest := []) C (k_needPolygon l hlt D cI cZ cJ x inp par pla dra lat his f1 f2 hd ec ea g gp ) cV_X11_155 hP hD hS [0, 1] rfl rfl 0 rfl rfl rfl rfl hl.1 rfl (Nat.le_of_ble_eq_true rfl) dX11_vertexX_1 ⟨Nat.le_of_ble_eq_true rfl, Nat.le_of_ble_eq_true rfl⟩ ⟨Nat.le_of_ble_eq_true rfl, Nat.le_of_ble_eq_true rfl⟩) hP hD hS [0, 1] [] rfl rfl rfl (by decide) (fun ce q9 H locs hce hcv hcl hP hD hS => ?_)
  have hP : va_P D CL [(x, .inr (10, xC inp par pla dra lat his f1 f2 hd ec ea g)), (pla, .inr (5, pC 0 0 0 gp))] H := hP
  have hD : va_D A [(x, .inr (10, xC inp par pla dra lat his f1 f2 hd ec ea g)), (pla, .inr (5, pC 0 0 0 gp))] := hD
  refine vx_widen (k := 1) (n := 6) (Nat.le_of_ble_eq_true rfl) (Nat.le_of_ble_eq_true rfl) ?_
  exact r_out C htab hce hcv hcl hP hD hS rfl (Nat.le_of_ble_eq_true rfl) (Nat.le_of_ble_eq_true rfl)
set_option maxHeartbeats 4000000 in
set_option maxRecDepth 100000 in
theorem k_vertexY (l : Launch) (hlt : l.stackTraces = false) (D : va_G) (cI cZ cJ : ClassId) (x : Nat) (inp : Nat) (par : Nat) (pla : Nat) (dra : Nat) (lat : Nat) (his : Nat) (f1 : Nat) (f2 : Nat) (hd : Int32) (ec : Int32) (ea : Int32) (g : Nat → Value) (gp : Nat → Value) (a0 : Int32)  : cX l yX11_vertexY cX11_vertexY 2 (some .int) D (TT cI cZ cJ) [.ref x, .int a0] [(x, .inr (10, xC inp par pla dra lat his f1 f2 hd ec ea g)), (pla, .inr (5, pC 0 0 0 gp))] "java/lang/IllegalStateException" [(x, .inr (10, xC inp par pla dra lat his f1 f2 hd ec ea g)), (pla, .inr (5, pC 0 0 0 gp))] 1 1 6 := by
  refine enterX (by decide) (Nat.le_of_ble_eq_true rfl) ?_
  intro p e s m below meth c ls A C htab hP hD hS hl
  have hx := C.1
  have hb := C.2.1
  have hl : lv_has ls 2 [(0, .ref x), (1, .int a0)] := hl
  refine lv_aload_n hx hb dX11_vertexY_0 rfl (lv_at hl 0 rfl) ?_
  refine call_X (wr := []) C (run_VX (As := []) (rest := []) C (k_needPolygon l hlt D cI cZ cJ x inp par pla dra lat his f1 f2 hd ec ea g gp ) cV_X11_155 hP hD hS [0, 1] rfl rfl 0 rfl rfl rfl rfl hl.1 rfl (Nat.le_of_ble_eq_true rfl) dX11_vertexY_1 ⟨Nat.le_of_ble_eq_true rfl, Nat.le_of_ble_eq_true rfl⟩ ⟨Nat.le_of_ble_eq_true rfl, Nat.le_of_ble_eq_true rfl⟩) hP hD hS [0, 1] [] rfl rfl rfl (by decide) (fun ce q9 H locs hce hcv hcl hP hD hS => ?_)
  have hP : va_P D CL [(x, .inr (10, xC inp par pla dra lat his f1 f2 hd ec ea g)), (pla, .inr (5, pC 0 0 0 gp))] H := hP
  have hD : va_D A [(x, .inr (10, xC inp par pla dra lat his f1 f2 hd ec ea g)), (pla, .inr (5, pC 0 0 0 gp))] := hD
  refine vx_widen (k := 1) (n := 6) (Nat.le_of_ble_eq_true rfl) (Nat.le_of_ble_eq_true rfl) ?_
  exact r_out C htab hce hcv hcl hP hD hS rfl (Nat.le_of_ble_eq_true rfl) (Nat.le_of_ble_eq_true rfl)
set_option maxHeartbeats 4000000 in
set_option maxRecDepth 100000 in
theorem k_doubleArea (l : Launch) (hlt : l.stackTraces = false) (D : va_G) (cI cZ cJ : ClassId) (x : Nat) (inp : Nat) (par : Nat) (pla : Nat) (dra : Nat) (lat : Nat) (his : Nat) (f1 : Nat) (f2 : Nat) (hd : Int32) (ec : Int32) (ea : Int32) (g : Nat → Value) (gp : Nat → Value)  : cX l yX11_doubleArea cX11_doubleArea 1 (some .int) D (TT cI cZ cJ) [.ref x] [(x, .inr (10, xC inp par pla dra lat his f1 f2 hd ec ea g)), (pla, .inr (5, pC 0 0 0 gp))] "java/lang/IllegalStateException" [(x, .inr (10, xC inp par pla dra lat his f1 f2 hd ec ea g)), (pla, .inr (5, pC 0 0 0 gp))] 1 1 6 := by
  refine enterX (by decide) (Nat.le_of_ble_eq_true rfl) ?_
  intro p e s m below meth c ls A C htab hP hD hS hl
  have hx := C.1
  have hb := C.2.1
  have hl : lv_has ls 1 [(0, .ref x)] := hl
  refine lv_aload_n hx hb dX11_doubleArea_0 rfl (lv_at hl 0 rfl) ?_
  refine call_X (wr := []) C (run_VX (As := []) (rest := []) C (k_needPolygon l hlt D cI cZ cJ x inp par pla dra lat his f1 f2 hd ec ea g gp ) cV_X11_155 hP hD hS [0, 1] rfl rfl 0 rfl rfl rfl rfl hl.1 rfl (Nat.le_of_ble_eq_true rfl) dX11_doubleArea_1 ⟨Nat.le_of_ble_eq_true rfl, Nat.le_of_ble_eq_true rfl⟩ ⟨Nat.le_of_ble_eq_true rfl, Nat.le_of_ble_eq_true rfl⟩) hP hD hS [0, 1] [] rfl rfl rfl (by decide) (fun ce q9 H locs hce hcv hcl hP hD hS => ?_)
  have hP : va_P D CL [(x, .inr (10, xC inp par pla dra lat his f1 f2 hd ec ea g)), (pla, .inr (5, pC 0 0 0 gp))] H := hP
  have hD : va_D A [(x, .inr (10, xC inp par pla dra lat his f1 f2 hd ec ea g)), (pla, .inr (5, pC 0 0 0 gp))] := hD
  refine vx_widen (k := 1) (n := 6) (Nat.le_of_ble_eq_true rfl) (Nat.le_of_ble_eq_true rfl) ?_
  exact r_out C htab hce hcv hcl hP hD hS rfl (Nat.le_of_ble_eq_true rfl) (Nat.le_of_ble_eq_true rfl)
set_option maxHeartbeats 4000000 in
set_option maxRecDepth 100000 in
theorem k_reflexVertices (l : Launch) (hlt : l.stackTraces = false) (D : va_G) (cI cZ cJ : ClassId) (x : Nat) (inp : Nat) (par : Nat) (pla : Nat) (dra : Nat) (lat : Nat) (his : Nat) (f1 : Nat) (f2 : Nat) (hd : Int32) (ec : Int32) (ea : Int32) (g : Nat → Value) (gp : Nat → Value)  : cX l yX11_reflexVertices cX11_reflexVertices 1 (some .int) D (TT cI cZ cJ) [.ref x] [(x, .inr (10, xC inp par pla dra lat his f1 f2 hd ec ea g)), (pla, .inr (5, pC 0 0 0 gp))] "java/lang/IllegalStateException" [(x, .inr (10, xC inp par pla dra lat his f1 f2 hd ec ea g)), (pla, .inr (5, pC 0 0 0 gp))] 1 1 6 := by
  refine enterX (by decide) (Nat.le_of_ble_eq_true rfl) ?_
  intro p e s m below meth c ls A C htab hP hD hS hl
  have hx := C.1
  have hb := C.2.1
  have hl : lv_has ls 1 [(0, .ref x)] := hl
  refine lv_aload_n hx hb dX11_reflexVertices_0 rfl (lv_at hl 0 rfl) ?_
  refine call_X (wr := []) C (run_VX (As := []) (rest := []) C (k_needPolygon l hlt D cI cZ cJ x inp par pla dra lat his f1 f2 hd ec ea g gp ) cV_X11_155 hP hD hS [0, 1] rfl rfl 0 rfl rfl rfl rfl hl.1 rfl (Nat.le_of_ble_eq_true rfl) dX11_reflexVertices_1 ⟨Nat.le_of_ble_eq_true rfl, Nat.le_of_ble_eq_true rfl⟩ ⟨Nat.le_of_ble_eq_true rfl, Nat.le_of_ble_eq_true rfl⟩) hP hD hS [0, 1] [] rfl rfl rfl (by decide) (fun ce q9 H locs hce hcv hcl hP hD hS => ?_)
  have hP : va_P D CL [(x, .inr (10, xC inp par pla dra lat his f1 f2 hd ec ea g)), (pla, .inr (5, pC 0 0 0 gp))] H := hP
  have hD : va_D A [(x, .inr (10, xC inp par pla dra lat his f1 f2 hd ec ea g)), (pla, .inr (5, pC 0 0 0 gp))] := hD
  refine vx_widen (k := 1) (n := 6) (Nat.le_of_ble_eq_true rfl) (Nat.le_of_ble_eq_true rfl) ?_
  exact r_out C htab hce hcv hcl hP hD hS rfl (Nat.le_of_ble_eq_true rfl) (Nat.le_of_ble_eq_true rfl)
set_option maxHeartbeats 4000000 in
set_option maxRecDepth 100000 in
theorem k_pointX (l : Launch) (hlt : l.stackTraces = false) (D : va_G) (cI cZ cJ : ClassId) (x : Nat) (inp : Nat) (par : Nat) (pla : Nat) (dra : Nat) (lat : Nat) (his : Nat) (f1 : Nat) (f2 : Nat) (hd : Int32) (ec : Int32) (ea : Int32) (g : Nat → Value) (gp : Nat → Value) (a0 : Int32)  : cX l yX11_pointX cX11_pointX 2 (some .int) D (TT cI cZ cJ) [.ref x, .int a0] [(x, .inr (10, xC inp par pla dra lat his f1 f2 hd ec ea g)), (pla, .inr (5, pC 0 0 0 gp))] "java/lang/IllegalStateException" [(x, .inr (10, xC inp par pla dra lat his f1 f2 hd ec ea g)), (pla, .inr (5, pC 0 0 0 gp))] 1 1 6 := by
  refine enterX (by decide) (Nat.le_of_ble_eq_true rfl) ?_
  intro p e s m below meth c ls A C htab hP hD hS hl
  have hx := C.1
  have hb := C.2.1
  have hl : lv_has ls 2 [(0, .ref x), (1, .int a0)] := hl
  refine lv_aload_n hx hb dX11_pointX_0 rfl (lv_at hl 0 rfl) ?_
  refine call_X (wr := []) C (run_VX (As := []) (rest := []) C (k_needPolygon l hlt D cI cZ cJ x inp par pla dra lat his f1 f2 hd ec ea g gp ) cV_X11_155 hP hD hS [0, 1] rfl rfl 0 rfl rfl rfl rfl hl.1 rfl (Nat.le_of_ble_eq_true rfl) dX11_pointX_1 ⟨Nat.le_of_ble_eq_true rfl, Nat.le_of_ble_eq_true rfl⟩ ⟨Nat.le_of_ble_eq_true rfl, Nat.le_of_ble_eq_true rfl⟩) hP hD hS [0, 1] [] rfl rfl rfl (by decide) (fun ce q9 H locs hce hcv hcl hP hD hS => ?_)
  have hP : va_P D CL [(x, .inr (10, xC inp par pla dra lat his f1 f2 hd ec ea g)), (pla, .inr (5, pC 0 0 0 gp))] H := hP
  have hD : va_D A [(x, .inr (10, xC inp par pla dra lat his f1 f2 hd ec ea g)), (pla, .inr (5, pC 0 0 0 gp))] := hD
  refine vx_widen (k := 1) (n := 6) (Nat.le_of_ble_eq_true rfl) (Nat.le_of_ble_eq_true rfl) ?_
  exact r_out C htab hce hcv hcl hP hD hS rfl (Nat.le_of_ble_eq_true rfl) (Nat.le_of_ble_eq_true rfl)
set_option maxHeartbeats 4000000 in
set_option maxRecDepth 100000 in
theorem k_pointY (l : Launch) (hlt : l.stackTraces = false) (D : va_G) (cI cZ cJ : ClassId) (x : Nat) (inp : Nat) (par : Nat) (pla : Nat) (dra : Nat) (lat : Nat) (his : Nat) (f1 : Nat) (f2 : Nat) (hd : Int32) (ec : Int32) (ea : Int32) (g : Nat → Value) (gp : Nat → Value) (a0 : Int32)  : cX l yX11_pointY cX11_pointY 2 (some .int) D (TT cI cZ cJ) [.ref x, .int a0] [(x, .inr (10, xC inp par pla dra lat his f1 f2 hd ec ea g)), (pla, .inr (5, pC 0 0 0 gp))] "java/lang/IllegalStateException" [(x, .inr (10, xC inp par pla dra lat his f1 f2 hd ec ea g)), (pla, .inr (5, pC 0 0 0 gp))] 1 1 6 := by
  refine enterX (by decide) (Nat.le_of_ble_eq_true rfl) ?_
  intro p e s m below meth c ls A C htab hP hD hS hl
  have hx := C.1
  have hb := C.2.1
  have hl : lv_has ls 2 [(0, .ref x), (1, .int a0)] := hl
  refine lv_aload_n hx hb dX11_pointY_0 rfl (lv_at hl 0 rfl) ?_
  refine call_X (wr := []) C (run_VX (As := []) (rest := []) C (k_needPolygon l hlt D cI cZ cJ x inp par pla dra lat his f1 f2 hd ec ea g gp ) cV_X11_155 hP hD hS [0, 1] rfl rfl 0 rfl rfl rfl rfl hl.1 rfl (Nat.le_of_ble_eq_true rfl) dX11_pointY_1 ⟨Nat.le_of_ble_eq_true rfl, Nat.le_of_ble_eq_true rfl⟩ ⟨Nat.le_of_ble_eq_true rfl, Nat.le_of_ble_eq_true rfl⟩) hP hD hS [0, 1] [] rfl rfl rfl (by decide) (fun ce q9 H locs hce hcv hcl hP hD hS => ?_)
  have hP : va_P D CL [(x, .inr (10, xC inp par pla dra lat his f1 f2 hd ec ea g)), (pla, .inr (5, pC 0 0 0 gp))] H := hP
  have hD : va_D A [(x, .inr (10, xC inp par pla dra lat his f1 f2 hd ec ea g)), (pla, .inr (5, pC 0 0 0 gp))] := hD
  refine vx_widen (k := 1) (n := 6) (Nat.le_of_ble_eq_true rfl) (Nat.le_of_ble_eq_true rfl) ?_
  exact r_out C htab hce hcv hcl hP hD hS rfl (Nat.le_of_ble_eq_true rfl) (Nat.le_of_ble_eq_true rfl)
set_option maxHeartbeats 4000000 in
set_option maxRecDepth 100000 in
theorem k_pointAt (l : Launch) (hlt : l.stackTraces = false) (D : va_G) (cI cZ cJ : ClassId) (x : Nat) (inp : Nat) (par : Nat) (pla : Nat) (dra : Nat) (lat : Nat) (his : Nat) (f1 : Nat) (f2 : Nat) (hd : Int32) (ec : Int32) (ea : Int32) (g : Nat → Value) (gp : Nat → Value) (a0 : Int32) (a1 : Int32)  : cX l yX11_pointAt cX11_pointAt 3 (some .int) D (TT cI cZ cJ) [.ref x, .int a0, .int a1] [(x, .inr (10, xC inp par pla dra lat his f1 f2 hd ec ea g)), (pla, .inr (5, pC 0 0 0 gp))] "java/lang/IllegalStateException" [(x, .inr (10, xC inp par pla dra lat his f1 f2 hd ec ea g)), (pla, .inr (5, pC 0 0 0 gp))] 1 1 6 := by
  refine enterX (by decide) (Nat.le_of_ble_eq_true rfl) ?_
  intro p e s m below meth c ls A C htab hP hD hS hl
  have hx := C.1
  have hb := C.2.1
  have hl : lv_has ls 3 [(0, .ref x), (1, .int a0), (2, .int a1)] := hl
  refine lv_aload_n hx hb dX11_pointAt_0 rfl (lv_at hl 0 rfl) ?_
  refine call_X (wr := []) C (run_VX (As := []) (rest := []) C (k_needPolygon l hlt D cI cZ cJ x inp par pla dra lat his f1 f2 hd ec ea g gp ) cV_X11_155 hP hD hS [0, 1] rfl rfl 0 rfl rfl rfl rfl hl.1 rfl (Nat.le_of_ble_eq_true rfl) dX11_pointAt_1 ⟨Nat.le_of_ble_eq_true rfl, Nat.le_of_ble_eq_true rfl⟩ ⟨Nat.le_of_ble_eq_true rfl, Nat.le_of_ble_eq_true rfl⟩) hP hD hS [0, 1] [] rfl rfl rfl (by decide) (fun ce q9 H locs hce hcv hcl hP hD hS => ?_)
  have hP : va_P D CL [(x, .inr (10, xC inp par pla dra lat his f1 f2 hd ec ea g)), (pla, .inr (5, pC 0 0 0 gp))] H := hP
  have hD : va_D A [(x, .inr (10, xC inp par pla dra lat his f1 f2 hd ec ea g)), (pla, .inr (5, pC 0 0 0 gp))] := hD
  refine vx_widen (k := 1) (n := 6) (Nat.le_of_ble_eq_true rfl) (Nat.le_of_ble_eq_true rfl) ?_
  exact r_out C htab hce hcv hcl hP hD hS rfl (Nat.le_of_ble_eq_true rfl) (Nat.le_of_ble_eq_true rfl)
set_option maxHeartbeats 4000000 in
set_option maxRecDepth 100000 in
theorem k_boundary (l : Launch) (hlt : l.stackTraces = false) (D : va_G) (cI cZ cJ : ClassId) (x : Nat) (inp : Nat) (par : Nat) (pla : Nat) (dra : Nat) (lat : Nat) (his : Nat) (f1 : Nat) (f2 : Nat) (hd : Int32) (ec : Int32) (ea : Int32) (g : Nat → Value) (gp : Nat → Value)  : cX l yX11_boundary cX11_boundary 1 (some .long) D (TT cI cZ cJ) [.ref x] [(x, .inr (10, xC inp par pla dra lat his f1 f2 hd ec ea g)), (pla, .inr (5, pC 0 0 0 gp))] "java/lang/IllegalStateException" [(x, .inr (10, xC inp par pla dra lat his f1 f2 hd ec ea g)), (pla, .inr (5, pC 0 0 0 gp))] 1 1 6 := by
  refine enterX (by decide) (Nat.le_of_ble_eq_true rfl) ?_
  intro p e s m below meth c ls A C htab hP hD hS hl
  have hx := C.1
  have hb := C.2.1
  have hl : lv_has ls 1 [(0, .ref x)] := hl
  refine lv_aload_n hx hb dX11_boundary_0 rfl (lv_at hl 0 rfl) ?_
  refine call_X (wr := []) C (run_VX (As := []) (rest := []) C (k_needPolygon l hlt D cI cZ cJ x inp par pla dra lat his f1 f2 hd ec ea g gp ) cV_X11_155 hP hD hS [0, 1] rfl rfl 0 rfl rfl rfl rfl hl.1 rfl (Nat.le_of_ble_eq_true rfl) dX11_boundary_1 ⟨Nat.le_of_ble_eq_true rfl, Nat.le_of_ble_eq_true rfl⟩ ⟨Nat.le_of_ble_eq_true rfl, Nat.le_of_ble_eq_true rfl⟩) hP hD hS [0, 1] [] rfl rfl rfl (by decide) (fun ce q9 H locs hce hcv hcl hP hD hS => ?_)
  have hP : va_P D CL [(x, .inr (10, xC inp par pla dra lat his f1 f2 hd ec ea g)), (pla, .inr (5, pC 0 0 0 gp))] H := hP
  have hD : va_D A [(x, .inr (10, xC inp par pla dra lat his f1 f2 hd ec ea g)), (pla, .inr (5, pC 0 0 0 gp))] := hD
  refine vx_widen (k := 1) (n := 6) (Nat.le_of_ble_eq_true rfl) (Nat.le_of_ble_eq_true rfl) ?_
  exact r_out C htab hce hcv hcl hP hD hS rfl (Nat.le_of_ble_eq_true rfl) (Nat.le_of_ble_eq_true rfl)
set_option maxHeartbeats 4000000 in
set_option maxRecDepth 100000 in
theorem k_sees (l : Launch) (hlt : l.stackTraces = false) (D : va_G) (cI cZ cJ : ClassId) (x : Nat) (inp : Nat) (par : Nat) (pla : Nat) (dra : Nat) (lat : Nat) (his : Nat) (f1 : Nat) (f2 : Nat) (hd : Int32) (ec : Int32) (ea : Int32) (g : Nat → Value) (gp : Nat → Value) (a0 : Int32) (a1 : Int32)  : cX l yX11_sees cX11_sees 3 (some .boolean) D (TT cI cZ cJ) [.ref x, .int a0, .int a1] [(x, .inr (10, xC inp par pla dra lat his f1 f2 hd ec ea g)), (pla, .inr (5, pC 0 0 0 gp))] "java/lang/IllegalStateException" [(x, .inr (10, xC inp par pla dra lat his f1 f2 hd ec ea g)), (pla, .inr (5, pC 0 0 0 gp))] 1 1 6 := by
  refine enterX (by decide) (Nat.le_of_ble_eq_true rfl) ?_
  intro p e s m below meth c ls A C htab hP hD hS hl
  have hx := C.1
  have hb := C.2.1
  have hl : lv_has ls 3 [(0, .ref x), (1, .int a0), (2, .int a1)] := hl
  refine lv_aload_n hx hb dX11_sees_0 rfl (lv_at hl 0 rfl) ?_
  refine call_X (wr := []) C (run_VX (As := []) (rest := []) C (k_needPolygon l hlt D cI cZ cJ x inp par pla dra lat his f1 f2 hd ec ea g gp ) cV_X11_155 hP hD hS [0, 1] rfl rfl 0 rfl rfl rfl rfl hl.1 rfl (Nat.le_of_ble_eq_true rfl) dX11_sees_1 ⟨Nat.le_of_ble_eq_true rfl, Nat.le_of_ble_eq_true rfl⟩ ⟨Nat.le_of_ble_eq_true rfl, Nat.le_of_ble_eq_true rfl⟩) hP hD hS [0, 1] [] rfl rfl rfl (by decide) (fun ce q9 H locs hce hcv hcl hP hD hS => ?_)
  have hP : va_P D CL [(x, .inr (10, xC inp par pla dra lat his f1 f2 hd ec ea g)), (pla, .inr (5, pC 0 0 0 gp))] H := hP
  have hD : va_D A [(x, .inr (10, xC inp par pla dra lat his f1 f2 hd ec ea g)), (pla, .inr (5, pC 0 0 0 gp))] := hD
  refine vx_widen (k := 1) (n := 6) (Nat.le_of_ble_eq_true rfl) (Nat.le_of_ble_eq_true rfl) ?_
  exact r_out C htab hce hcv hcl hP hD hS rfl (Nat.le_of_ble_eq_true rfl) (Nat.le_of_ble_eq_true rfl)
set_option maxHeartbeats 4000000 in
set_option maxRecDepth 100000 in
theorem k_visible (l : Launch) (hlt : l.stackTraces = false) (D : va_G) (cI cZ cJ : ClassId) (x : Nat) (inp : Nat) (par : Nat) (pla : Nat) (dra : Nat) (lat : Nat) (his : Nat) (f1 : Nat) (f2 : Nat) (hd : Int32) (ec : Int32) (ea : Int32) (g : Nat → Value) (gp : Nat → Value) (a0 : Int32)  : cX l yX11_visible cX11_visible 2 (some .long) D (TT cI cZ cJ) [.ref x, .int a0] [(x, .inr (10, xC inp par pla dra lat his f1 f2 hd ec ea g)), (pla, .inr (5, pC 0 0 0 gp))] "java/lang/IllegalStateException" [(x, .inr (10, xC inp par pla dra lat his f1 f2 hd ec ea g)), (pla, .inr (5, pC 0 0 0 gp))] 1 1 6 := by
  refine enterX (by decide) (Nat.le_of_ble_eq_true rfl) ?_
  intro p e s m below meth c ls A C htab hP hD hS hl
  have hx := C.1
  have hb := C.2.1
  have hl : lv_has ls 2 [(0, .ref x), (1, .int a0)] := hl
  refine lv_aload_n hx hb dX11_visible_0 rfl (lv_at hl 0 rfl) ?_
  refine call_X (wr := []) C (run_VX (As := []) (rest := []) C (k_needPolygon l hlt D cI cZ cJ x inp par pla dra lat his f1 f2 hd ec ea g gp ) cV_X11_155 hP hD hS [0, 1] rfl rfl 0 rfl rfl rfl rfl hl.1 rfl (Nat.le_of_ble_eq_true rfl) dX11_visible_1 ⟨Nat.le_of_ble_eq_true rfl, Nat.le_of_ble_eq_true rfl⟩ ⟨Nat.le_of_ble_eq_true rfl, Nat.le_of_ble_eq_true rfl⟩) hP hD hS [0, 1] [] rfl rfl rfl (by decide) (fun ce q9 H locs hce hcv hcl hP hD hS => ?_)
  have hP : va_P D CL [(x, .inr (10, xC inp par pla dra lat his f1 f2 hd ec ea g)), (pla, .inr (5, pC 0 0 0 gp))] H := hP
  have hD : va_D A [(x, .inr (10, xC inp par pla dra lat his f1 f2 hd ec ea g)), (pla, .inr (5, pC 0 0 0 gp))] := hD
  refine vx_widen (k := 1) (n := 6) (Nat.le_of_ble_eq_true rfl) (Nat.le_of_ble_eq_true rfl) ?_
  exact r_out C htab hce hcv hcl hP hD hS rfl (Nat.le_of_ble_eq_true rfl) (Nat.le_of_ble_eq_true rfl)
set_option maxHeartbeats 4000000 in
set_option maxRecDepth 100000 in
theorem k_kernel (l : Launch) (hlt : l.stackTraces = false) (D : va_G) (cI cZ cJ : ClassId) (x : Nat) (inp : Nat) (par : Nat) (pla : Nat) (dra : Nat) (lat : Nat) (his : Nat) (f1 : Nat) (f2 : Nat) (hd : Int32) (ec : Int32) (ea : Int32) (g : Nat → Value) (gp : Nat → Value)  : cX l yX11_kernel cX11_kernel 1 (some .long) D (TT cI cZ cJ) [.ref x] [(x, .inr (10, xC inp par pla dra lat his f1 f2 hd ec ea g)), (pla, .inr (5, pC 0 0 0 gp))] "java/lang/IllegalStateException" [(x, .inr (10, xC inp par pla dra lat his f1 f2 hd ec ea g)), (pla, .inr (5, pC 0 0 0 gp))] 1 1 6 := by
  refine enterX (by decide) (Nat.le_of_ble_eq_true rfl) ?_
  intro p e s m below meth c ls A C htab hP hD hS hl
  have hx := C.1
  have hb := C.2.1
  have hl : lv_has ls 1 [(0, .ref x)] := hl
  refine lv_aload_n hx hb dX11_kernel_0 rfl (lv_at hl 0 rfl) ?_
  refine call_X (wr := []) C (run_VX (As := []) (rest := []) C (k_needPolygon l hlt D cI cZ cJ x inp par pla dra lat his f1 f2 hd ec ea g gp ) cV_X11_155 hP hD hS [0, 1] rfl rfl 0 rfl rfl rfl rfl hl.1 rfl (Nat.le_of_ble_eq_true rfl) dX11_kernel_1 ⟨Nat.le_of_ble_eq_true rfl, Nat.le_of_ble_eq_true rfl⟩ ⟨Nat.le_of_ble_eq_true rfl, Nat.le_of_ble_eq_true rfl⟩) hP hD hS [0, 1] [] rfl rfl rfl (by decide) (fun ce q9 H locs hce hcv hcl hP hD hS => ?_)
  have hP : va_P D CL [(x, .inr (10, xC inp par pla dra lat his f1 f2 hd ec ea g)), (pla, .inr (5, pC 0 0 0 gp))] H := hP
  have hD : va_D A [(x, .inr (10, xC inp par pla dra lat his f1 f2 hd ec ea g)), (pla, .inr (5, pC 0 0 0 gp))] := hD
  refine vx_widen (k := 1) (n := 6) (Nat.le_of_ble_eq_true rfl) (Nat.le_of_ble_eq_true rfl) ?_
  exact r_out C htab hce hcv hcl hP hD hS rfl (Nat.le_of_ble_eq_true rfl) (Nat.le_of_ble_eq_true rfl)
set_option maxHeartbeats 4000000 in
set_option maxRecDepth 100000 in
theorem k_linkDistance (l : Launch) (hlt : l.stackTraces = false) (D : va_G) (cI cZ cJ : ClassId) (x : Nat) (inp : Nat) (par : Nat) (pla : Nat) (dra : Nat) (lat : Nat) (his : Nat) (f1 : Nat) (f2 : Nat) (hd : Int32) (ec : Int32) (ea : Int32) (g : Nat → Value) (gp : Nat → Value) (a0 : Int32) (a1 : Int32)  : cX l yX11_linkDistance cX11_linkDistance 3 (some .int) D (TT cI cZ cJ) [.ref x, .int a0, .int a1] [(x, .inr (10, xC inp par pla dra lat his f1 f2 hd ec ea g)), (pla, .inr (5, pC 0 0 0 gp))] "java/lang/IllegalStateException" [(x, .inr (10, xC inp par pla dra lat his f1 f2 hd ec ea g)), (pla, .inr (5, pC 0 0 0 gp))] 1 1 6 := by
  refine enterX (by decide) (Nat.le_of_ble_eq_true rfl) ?_
  intro p e s m below meth c ls A C htab hP hD hS hl
  have hx := C.1
  have hb := C.2.1
  have hl : lv_has ls 3 [(0, .ref x), (1, .int a0), (2, .int a1)] := hl
  refine lv_aload_n hx hb dX11_linkDistance_0 rfl (lv_at hl 0 rfl) ?_
  refine call_X (wr := []) C (run_VX (As := []) (rest := []) C (k_needPolygon l hlt D cI cZ cJ x inp par pla dra lat his f1 f2 hd ec ea g gp ) cV_X11_155 hP hD hS [0, 1] rfl rfl 0 rfl rfl rfl rfl hl.1 rfl (Nat.le_of_ble_eq_true rfl) dX11_linkDistance_1 ⟨Nat.le_of_ble_eq_true rfl, Nat.le_of_ble_eq_true rfl⟩ ⟨Nat.le_of_ble_eq_true rfl, Nat.le_of_ble_eq_true rfl⟩) hP hD hS [0, 1] [] rfl rfl rfl (by decide) (fun ce q9 H locs hce hcv hcl hP hD hS => ?_)
  have hP : va_P D CL [(x, .inr (10, xC inp par pla dra lat his f1 f2 hd ec ea g)), (pla, .inr (5, pC 0 0 0 gp))] H := hP
  have hD : va_D A [(x, .inr (10, xC inp par pla dra lat his f1 f2 hd ec ea g)), (pla, .inr (5, pC 0 0 0 gp))] := hD
  refine vx_widen (k := 1) (n := 6) (Nat.le_of_ble_eq_true rfl) (Nat.le_of_ble_eq_true rfl) ?_
  exact r_out C htab hce hcv hcl hP hD hS rfl (Nat.le_of_ble_eq_true rfl) (Nat.le_of_ble_eq_true rfl)
set_option maxHeartbeats 4000000 in
set_option maxRecDepth 100000 in
theorem k_diameter (l : Launch) (hlt : l.stackTraces = false) (D : va_G) (cI cZ cJ : ClassId) (x : Nat) (inp : Nat) (par : Nat) (pla : Nat) (dra : Nat) (lat : Nat) (his : Nat) (f1 : Nat) (f2 : Nat) (hd : Int32) (ec : Int32) (ea : Int32) (g : Nat → Value) (gp : Nat → Value)  : cX l yX11_diameter cX11_diameter 1 (some .int) D (TT cI cZ cJ) [.ref x] [(x, .inr (10, xC inp par pla dra lat his f1 f2 hd ec ea g)), (pla, .inr (5, pC 0 0 0 gp))] "java/lang/IllegalStateException" [(x, .inr (10, xC inp par pla dra lat his f1 f2 hd ec ea g)), (pla, .inr (5, pC 0 0 0 gp))] 1 1 6 := by
  refine enterX (by decide) (Nat.le_of_ble_eq_true rfl) ?_
  intro p e s m below meth c ls A C htab hP hD hS hl
  have hx := C.1
  have hb := C.2.1
  have hl : lv_has ls 1 [(0, .ref x)] := hl
  refine lv_aload_n hx hb dX11_diameter_0 rfl (lv_at hl 0 rfl) ?_
  refine call_X (wr := []) C (run_VX (As := []) (rest := []) C (k_needPolygon l hlt D cI cZ cJ x inp par pla dra lat his f1 f2 hd ec ea g gp ) cV_X11_155 hP hD hS [0, 1] rfl rfl 0 rfl rfl rfl rfl hl.1 rfl (Nat.le_of_ble_eq_true rfl) dX11_diameter_1 ⟨Nat.le_of_ble_eq_true rfl, Nat.le_of_ble_eq_true rfl⟩ ⟨Nat.le_of_ble_eq_true rfl, Nat.le_of_ble_eq_true rfl⟩) hP hD hS [0, 1] [] rfl rfl rfl (by decide) (fun ce q9 H locs hce hcv hcl hP hD hS => ?_)
  have hP : va_P D CL [(x, .inr (10, xC inp par pla dra lat his f1 f2 hd ec ea g)), (pla, .inr (5, pC 0 0 0 gp))] H := hP
  have hD : va_D A [(x, .inr (10, xC inp par pla dra lat his f1 f2 hd ec ea g)), (pla, .inr (5, pC 0 0 0 gp))] := hD
  refine vx_widen (k := 1) (n := 6) (Nat.le_of_ble_eq_true rfl) (Nat.le_of_ble_eq_true rfl) ?_
  exact r_out C htab hce hcv hcl hP hD hS rfl (Nat.le_of_ble_eq_true rfl) (Nat.le_of_ble_eq_true rfl)
set_option maxHeartbeats 4000000 in
set_option maxRecDepth 100000 in
theorem k_farthest (l : Launch) (hlt : l.stackTraces = false) (D : va_G) (cI cZ cJ : ClassId) (x : Nat) (inp : Nat) (par : Nat) (pla : Nat) (dra : Nat) (lat : Nat) (his : Nat) (f1 : Nat) (f2 : Nat) (hd : Int32) (ec : Int32) (ea : Int32) (g : Nat → Value) (gp : Nat → Value) (a0 : Int32)  : cX l yX11_farthest cX11_farthest 2 (some .int) D (TT cI cZ cJ) [.ref x, .int a0] [(x, .inr (10, xC inp par pla dra lat his f1 f2 hd ec ea g)), (pla, .inr (5, pC 0 0 0 gp))] "java/lang/IllegalStateException" [(x, .inr (10, xC inp par pla dra lat his f1 f2 hd ec ea g)), (pla, .inr (5, pC 0 0 0 gp))] 1 1 6 := by
  refine enterX (by decide) (Nat.le_of_ble_eq_true rfl) ?_
  intro p e s m below meth c ls A C htab hP hD hS hl
  have hx := C.1
  have hb := C.2.1
  have hl : lv_has ls 2 [(0, .ref x), (1, .int a0)] := hl
  refine lv_aload_n hx hb dX11_farthest_0 rfl (lv_at hl 0 rfl) ?_
  refine call_X (wr := []) C (run_VX (As := []) (rest := []) C (k_needPolygon l hlt D cI cZ cJ x inp par pla dra lat his f1 f2 hd ec ea g gp ) cV_X11_155 hP hD hS [0, 1] rfl rfl 0 rfl rfl rfl rfl hl.1 rfl (Nat.le_of_ble_eq_true rfl) dX11_farthest_1 ⟨Nat.le_of_ble_eq_true rfl, Nat.le_of_ble_eq_true rfl⟩ ⟨Nat.le_of_ble_eq_true rfl, Nat.le_of_ble_eq_true rfl⟩) hP hD hS [0, 1] [] rfl rfl rfl (by decide) (fun ce q9 H locs hce hcv hcl hP hD hS => ?_)
  have hP : va_P D CL [(x, .inr (10, xC inp par pla dra lat his f1 f2 hd ec ea g)), (pla, .inr (5, pC 0 0 0 gp))] H := hP
  have hD : va_D A [(x, .inr (10, xC inp par pla dra lat his f1 f2 hd ec ea g)), (pla, .inr (5, pC 0 0 0 gp))] := hD
  refine vx_widen (k := 1) (n := 6) (Nat.le_of_ble_eq_true rfl) (Nat.le_of_ble_eq_true rfl) ?_
  exact r_out C htab hce hcv hcl hP hD hS rfl (Nat.le_of_ble_eq_true rfl) (Nat.le_of_ble_eq_true rfl)
set_option maxHeartbeats 4000000 in
set_option maxRecDepth 100000 in
theorem k_seenFromEdge (l : Launch) (hlt : l.stackTraces = false) (D : va_G) (cI cZ cJ : ClassId) (x : Nat) (inp : Nat) (par : Nat) (pla : Nat) (dra : Nat) (lat : Nat) (his : Nat) (f1 : Nat) (f2 : Nat) (hd : Int32) (ec : Int32) (ea : Int32) (g : Nat → Value) (gp : Nat → Value) (a0 : Int32)  : cX l yX11_seenFromEdge cX11_seenFromEdge 2 (some .long) D (TT cI cZ cJ) [.ref x, .int a0] [(x, .inr (10, xC inp par pla dra lat his f1 f2 hd ec ea g)), (pla, .inr (5, pC 0 0 0 gp))] "java/lang/IllegalStateException" [(x, .inr (10, xC inp par pla dra lat his f1 f2 hd ec ea g)), (pla, .inr (5, pC 0 0 0 gp))] 1 1 6 := by
  refine enterX (by decide) (Nat.le_of_ble_eq_true rfl) ?_
  intro p e s m below meth c ls A C htab hP hD hS hl
  have hx := C.1
  have hb := C.2.1
  have hl : lv_has ls 2 [(0, .ref x), (1, .int a0)] := hl
  refine lv_aload_n hx hb dX11_seenFromEdge_0 rfl (lv_at hl 0 rfl) ?_
  refine call_X (wr := []) C (run_VX (As := []) (rest := []) C (k_needPolygon l hlt D cI cZ cJ x inp par pla dra lat his f1 f2 hd ec ea g gp ) cV_X11_155 hP hD hS [0, 1] rfl rfl 0 rfl rfl rfl rfl hl.1 rfl (Nat.le_of_ble_eq_true rfl) dX11_seenFromEdge_1 ⟨Nat.le_of_ble_eq_true rfl, Nat.le_of_ble_eq_true rfl⟩ ⟨Nat.le_of_ble_eq_true rfl, Nat.le_of_ble_eq_true rfl⟩) hP hD hS [0, 1] [] rfl rfl rfl (by decide) (fun ce q9 H locs hce hcv hcl hP hD hS => ?_)
  have hP : va_P D CL [(x, .inr (10, xC inp par pla dra lat his f1 f2 hd ec ea g)), (pla, .inr (5, pC 0 0 0 gp))] H := hP
  have hD : va_D A [(x, .inr (10, xC inp par pla dra lat his f1 f2 hd ec ea g)), (pla, .inr (5, pC 0 0 0 gp))] := hD
  refine vx_widen (k := 1) (n := 6) (Nat.le_of_ble_eq_true rfl) (Nat.le_of_ble_eq_true rfl) ?_
  exact r_out C htab hce hcv hcl hP hD hS rfl (Nat.le_of_ble_eq_true rfl) (Nat.le_of_ble_eq_true rfl)
set_option maxHeartbeats 4000000 in
set_option maxRecDepth 100000 in
theorem k_triangleVertex (l : Launch) (hlt : l.stackTraces = false) (D : va_G) (cI cZ cJ : ClassId) (x : Nat) (inp : Nat) (par : Nat) (pla : Nat) (dra : Nat) (lat : Nat) (his : Nat) (f1 : Nat) (f2 : Nat) (hd : Int32) (ec : Int32) (ea : Int32) (g : Nat → Value) (gp : Nat → Value) (a0 : Int32) (a1 : Int32)  : cX l yX11_triangleVertex cX11_triangleVertex 3 (some .int) D (TT cI cZ cJ) [.ref x, .int a0, .int a1] [(x, .inr (10, xC inp par pla dra lat his f1 f2 hd ec ea g)), (pla, .inr (5, pC 0 0 0 gp))] "java/lang/IllegalStateException" [(x, .inr (10, xC inp par pla dra lat his f1 f2 hd ec ea g)), (pla, .inr (5, pC 0 0 0 gp))] 1 1 6 := by
  refine enterX (by decide) (Nat.le_of_ble_eq_true rfl) ?_
  intro p e s m below meth c ls A C htab hP hD hS hl
  have hx := C.1
  have hb := C.2.1
  have hl : lv_has ls 3 [(0, .ref x), (1, .int a0), (2, .int a1)] := hl
  refine lv_aload_n hx hb dX11_triangleVertex_0 rfl (lv_at hl 0 rfl) ?_
  refine call_X (wr := []) C (run_VX (As := []) (rest := []) C (k_needPolygon l hlt D cI cZ cJ x inp par pla dra lat his f1 f2 hd ec ea g gp ) cV_X11_155 hP hD hS [0, 1] rfl rfl 0 rfl rfl rfl rfl hl.1 rfl (Nat.le_of_ble_eq_true rfl) dX11_triangleVertex_1 ⟨Nat.le_of_ble_eq_true rfl, Nat.le_of_ble_eq_true rfl⟩ ⟨Nat.le_of_ble_eq_true rfl, Nat.le_of_ble_eq_true rfl⟩) hP hD hS [0, 1] [] rfl rfl rfl (by decide) (fun ce q9 H locs hce hcv hcl hP hD hS => ?_)
  have hP : va_P D CL [(x, .inr (10, xC inp par pla dra lat his f1 f2 hd ec ea g)), (pla, .inr (5, pC 0 0 0 gp))] H := hP
  have hD : va_D A [(x, .inr (10, xC inp par pla dra lat his f1 f2 hd ec ea g)), (pla, .inr (5, pC 0 0 0 gp))] := hD
  refine vx_widen (k := 1) (n := 6) (Nat.le_of_ble_eq_true rfl) (Nat.le_of_ble_eq_true rfl) ?_
  exact r_out C htab hce hcv hcl hP hD hS rfl (Nat.le_of_ble_eq_true rfl) (Nat.le_of_ble_eq_true rfl)
set_option maxHeartbeats 4000000 in
set_option maxRecDepth 100000 in
theorem k_triangleArea (l : Launch) (hlt : l.stackTraces = false) (D : va_G) (cI cZ cJ : ClassId) (x : Nat) (inp : Nat) (par : Nat) (pla : Nat) (dra : Nat) (lat : Nat) (his : Nat) (f1 : Nat) (f2 : Nat) (hd : Int32) (ec : Int32) (ea : Int32) (g : Nat → Value) (gp : Nat → Value) (a0 : Int32)  : cX l yX11_triangleArea cX11_triangleArea 2 (some .int) D (TT cI cZ cJ) [.ref x, .int a0] [(x, .inr (10, xC inp par pla dra lat his f1 f2 hd ec ea g)), (pla, .inr (5, pC 0 0 0 gp))] "java/lang/IllegalStateException" [(x, .inr (10, xC inp par pla dra lat his f1 f2 hd ec ea g)), (pla, .inr (5, pC 0 0 0 gp))] 1 1 6 := by
  refine enterX (by decide) (Nat.le_of_ble_eq_true rfl) ?_
  intro p e s m below meth c ls A C htab hP hD hS hl
  have hx := C.1
  have hb := C.2.1
  have hl : lv_has ls 2 [(0, .ref x), (1, .int a0)] := hl
  refine lv_aload_n hx hb dX11_triangleArea_0 rfl (lv_at hl 0 rfl) ?_
  refine call_X (wr := []) C (run_VX (As := []) (rest := []) C (k_needPolygon l hlt D cI cZ cJ x inp par pla dra lat his f1 f2 hd ec ea g gp ) cV_X11_155 hP hD hS [0, 1] rfl rfl 0 rfl rfl rfl rfl hl.1 rfl (Nat.le_of_ble_eq_true rfl) dX11_triangleArea_1 ⟨Nat.le_of_ble_eq_true rfl, Nat.le_of_ble_eq_true rfl⟩ ⟨Nat.le_of_ble_eq_true rfl, Nat.le_of_ble_eq_true rfl⟩) hP hD hS [0, 1] [] rfl rfl rfl (by decide) (fun ce q9 H locs hce hcv hcl hP hD hS => ?_)
  have hP : va_P D CL [(x, .inr (10, xC inp par pla dra lat his f1 f2 hd ec ea g)), (pla, .inr (5, pC 0 0 0 gp))] H := hP
  have hD : va_D A [(x, .inr (10, xC inp par pla dra lat his f1 f2 hd ec ea g)), (pla, .inr (5, pC 0 0 0 gp))] := hD
  refine vx_widen (k := 1) (n := 6) (Nat.le_of_ble_eq_true rfl) (Nat.le_of_ble_eq_true rfl) ?_
  exact r_out C htab hce hcv hcl hP hD hS rfl (Nat.le_of_ble_eq_true rfl) (Nat.le_of_ble_eq_true rfl)
set_option maxHeartbeats 4000000 in
set_option maxRecDepth 100000 in
theorem k_colour (l : Launch) (hlt : l.stackTraces = false) (D : va_G) (cI cZ cJ : ClassId) (x : Nat) (inp : Nat) (par : Nat) (pla : Nat) (dra : Nat) (lat : Nat) (his : Nat) (f1 : Nat) (f2 : Nat) (hd : Int32) (ec : Int32) (ea : Int32) (g : Nat → Value) (gp : Nat → Value) (a0 : Int32)  : cX l yX11_colour cX11_colour 2 (some .int) D (TT cI cZ cJ) [.ref x, .int a0] [(x, .inr (10, xC inp par pla dra lat his f1 f2 hd ec ea g)), (pla, .inr (5, pC 0 0 0 gp))] "java/lang/IllegalStateException" [(x, .inr (10, xC inp par pla dra lat his f1 f2 hd ec ea g)), (pla, .inr (5, pC 0 0 0 gp))] 1 1 6 := by
  refine enterX (by decide) (Nat.le_of_ble_eq_true rfl) ?_
  intro p e s m below meth c ls A C htab hP hD hS hl
  have hx := C.1
  have hb := C.2.1
  have hl : lv_has ls 2 [(0, .ref x), (1, .int a0)] := hl
  refine lv_aload_n hx hb dX11_colour_0 rfl (lv_at hl 0 rfl) ?_
  refine call_X (wr := []) C (run_VX (As := []) (rest := []) C (k_needPolygon l hlt D cI cZ cJ x inp par pla dra lat his f1 f2 hd ec ea g gp ) cV_X11_155 hP hD hS [0, 1] rfl rfl 0 rfl rfl rfl rfl hl.1 rfl (Nat.le_of_ble_eq_true rfl) dX11_colour_1 ⟨Nat.le_of_ble_eq_true rfl, Nat.le_of_ble_eq_true rfl⟩ ⟨Nat.le_of_ble_eq_true rfl, Nat.le_of_ble_eq_true rfl⟩) hP hD hS [0, 1] [] rfl rfl rfl (by decide) (fun ce q9 H locs hce hcv hcl hP hD hS => ?_)
  have hP : va_P D CL [(x, .inr (10, xC inp par pla dra lat his f1 f2 hd ec ea g)), (pla, .inr (5, pC 0 0 0 gp))] H := hP
  have hD : va_D A [(x, .inr (10, xC inp par pla dra lat his f1 f2 hd ec ea g)), (pla, .inr (5, pC 0 0 0 gp))] := hD
  refine vx_widen (k := 1) (n := 6) (Nat.le_of_ble_eq_true rfl) (Nat.le_of_ble_eq_true rfl) ?_
  exact r_out C htab hce hcv hcl hP hD hS rfl (Nat.le_of_ble_eq_true rfl) (Nat.le_of_ble_eq_true rfl)
set_option maxHeartbeats 4000000 in
set_option maxRecDepth 100000 in
theorem k_colourGuards (l : Launch) (hlt : l.stackTraces = false) (D : va_G) (cI cZ cJ : ClassId) (x : Nat) (inp : Nat) (par : Nat) (pla : Nat) (dra : Nat) (lat : Nat) (his : Nat) (f1 : Nat) (f2 : Nat) (hd : Int32) (ec : Int32) (ea : Int32) (g : Nat → Value) (gp : Nat → Value)  : cX l yX11_colourGuards cX11_colourGuards 1 (some .int) D (TT cI cZ cJ) [.ref x] [(x, .inr (10, xC inp par pla dra lat his f1 f2 hd ec ea g)), (pla, .inr (5, pC 0 0 0 gp))] "java/lang/IllegalStateException" [(x, .inr (10, xC inp par pla dra lat his f1 f2 hd ec ea g)), (pla, .inr (5, pC 0 0 0 gp))] 1 1 6 := by
  refine enterX (by decide) (Nat.le_of_ble_eq_true rfl) ?_
  intro p e s m below meth c ls A C htab hP hD hS hl
  have hx := C.1
  have hb := C.2.1
  have hl : lv_has ls 1 [(0, .ref x)] := hl
  refine lv_aload_n hx hb dX11_colourGuards_0 rfl (lv_at hl 0 rfl) ?_
  refine call_X (wr := []) C (run_VX (As := []) (rest := []) C (k_needPolygon l hlt D cI cZ cJ x inp par pla dra lat his f1 f2 hd ec ea g gp ) cV_X11_155 hP hD hS [0, 1] rfl rfl 0 rfl rfl rfl rfl hl.1 rfl (Nat.le_of_ble_eq_true rfl) dX11_colourGuards_1 ⟨Nat.le_of_ble_eq_true rfl, Nat.le_of_ble_eq_true rfl⟩ ⟨Nat.le_of_ble_eq_true rfl, Nat.le_of_ble_eq_true rfl⟩) hP hD hS [0, 1] [] rfl rfl rfl (by decide) (fun ce q9 H locs hce hcv hcl hP hD hS => ?_)
  have hP : va_P D CL [(x, .inr (10, xC inp par pla dra lat his f1 f2 hd ec ea g)), (pla, .inr (5, pC 0 0 0 gp))] H := hP
  have hD : va_D A [(x, .inr (10, xC inp par pla dra lat his f1 f2 hd ec ea g)), (pla, .inr (5, pC 0 0 0 gp))] := hD
  refine vx_widen (k := 1) (n := 6) (Nat.le_of_ble_eq_true rfl) (Nat.le_of_ble_eq_true rfl) ?_
  exact r_out C htab hce hcv hcl hP hD hS rfl (Nat.le_of_ble_eq_true rfl) (Nat.le_of_ble_eq_true rfl)
set_option maxHeartbeats 4000000 in
set_option maxRecDepth 100000 in
theorem k_vertexGuards (l : Launch) (hlt : l.stackTraces = false) (D : va_G) (cI cZ cJ : ClassId) (x : Nat) (inp : Nat) (par : Nat) (pla : Nat) (dra : Nat) (lat : Nat) (his : Nat) (f1 : Nat) (f2 : Nat) (hd : Int32) (ec : Int32) (ea : Int32) (g : Nat → Value) (gp : Nat → Value)  : cX l yX11_vertexGuards cX11_vertexGuards 1 (some .int) D (TT cI cZ cJ) [.ref x] [(x, .inr (10, xC inp par pla dra lat his f1 f2 hd ec ea g)), (pla, .inr (5, pC 0 0 0 gp))] "java/lang/IllegalStateException" [(x, .inr (10, xC inp par pla dra lat his f1 f2 hd ec ea g)), (pla, .inr (5, pC 0 0 0 gp))] 1 1 6 := by
  refine enterX (by decide) (Nat.le_of_ble_eq_true rfl) ?_
  intro p e s m below meth c ls A C htab hP hD hS hl
  have hx := C.1
  have hb := C.2.1
  have hl : lv_has ls 1 [(0, .ref x)] := hl
  refine lv_aload_n hx hb dX11_vertexGuards_0 rfl (lv_at hl 0 rfl) ?_
  refine call_X (wr := []) C (run_VX (As := []) (rest := []) C (k_needPolygon l hlt D cI cZ cJ x inp par pla dra lat his f1 f2 hd ec ea g gp ) cV_X11_155 hP hD hS [0, 1] rfl rfl 0 rfl rfl rfl rfl hl.1 rfl (Nat.le_of_ble_eq_true rfl) dX11_vertexGuards_1 ⟨Nat.le_of_ble_eq_true rfl, Nat.le_of_ble_eq_true rfl⟩ ⟨Nat.le_of_ble_eq_true rfl, Nat.le_of_ble_eq_true rfl⟩) hP hD hS [0, 1] [] rfl rfl rfl (by decide) (fun ce q9 H locs hce hcv hcl hP hD hS => ?_)
  have hP : va_P D CL [(x, .inr (10, xC inp par pla dra lat his f1 f2 hd ec ea g)), (pla, .inr (5, pC 0 0 0 gp))] H := hP
  have hD : va_D A [(x, .inr (10, xC inp par pla dra lat his f1 f2 hd ec ea g)), (pla, .inr (5, pC 0 0 0 gp))] := hD
  refine vx_widen (k := 1) (n := 6) (Nat.le_of_ble_eq_true rfl) (Nat.le_of_ble_eq_true rfl) ?_
  exact r_out C htab hce hcv hcl hP hD hS rfl (Nat.le_of_ble_eq_true rfl) (Nat.le_of_ble_eq_true rfl)
set_option maxHeartbeats 4000000 in
set_option maxRecDepth 100000 in
theorem k_edgeGuards (l : Launch) (hlt : l.stackTraces = false) (D : va_G) (cI cZ cJ : ClassId) (x : Nat) (inp : Nat) (par : Nat) (pla : Nat) (dra : Nat) (lat : Nat) (his : Nat) (f1 : Nat) (f2 : Nat) (hd : Int32) (ec : Int32) (ea : Int32) (g : Nat → Value) (gp : Nat → Value)  : cX l yX11_edgeGuards cX11_edgeGuards 1 (some .int) D (TT cI cZ cJ) [.ref x] [(x, .inr (10, xC inp par pla dra lat his f1 f2 hd ec ea g)), (pla, .inr (5, pC 0 0 0 gp))] "java/lang/IllegalStateException" [(x, .inr (10, xC inp par pla dra lat his f1 f2 hd ec ea g)), (pla, .inr (5, pC 0 0 0 gp))] 1 1 6 := by
  refine enterX (by decide) (Nat.le_of_ble_eq_true rfl) ?_
  intro p e s m below meth c ls A C htab hP hD hS hl
  have hx := C.1
  have hb := C.2.1
  have hl : lv_has ls 1 [(0, .ref x)] := hl
  refine lv_aload_n hx hb dX11_edgeGuards_0 rfl (lv_at hl 0 rfl) ?_
  refine call_X (wr := []) C (run_VX (As := []) (rest := []) C (k_needPolygon l hlt D cI cZ cJ x inp par pla dra lat his f1 f2 hd ec ea g gp ) cV_X11_155 hP hD hS [0, 1] rfl rfl 0 rfl rfl rfl rfl hl.1 rfl (Nat.le_of_ble_eq_true rfl) dX11_edgeGuards_1 ⟨Nat.le_of_ble_eq_true rfl, Nat.le_of_ble_eq_true rfl⟩ ⟨Nat.le_of_ble_eq_true rfl, Nat.le_of_ble_eq_true rfl⟩) hP hD hS [0, 1] [] rfl rfl rfl (by decide) (fun ce q9 H locs hce hcv hcl hP hD hS => ?_)
  have hP : va_P D CL [(x, .inr (10, xC inp par pla dra lat his f1 f2 hd ec ea g)), (pla, .inr (5, pC 0 0 0 gp))] H := hP
  have hD : va_D A [(x, .inr (10, xC inp par pla dra lat his f1 f2 hd ec ea g)), (pla, .inr (5, pC 0 0 0 gp))] := hD
  refine vx_widen (k := 1) (n := 6) (Nat.le_of_ble_eq_true rfl) (Nat.le_of_ble_eq_true rfl) ?_
  exact r_out C htab hce hcv hcl hP hD hS rfl (Nat.le_of_ble_eq_true rfl) (Nat.le_of_ble_eq_true rfl)
set_option maxHeartbeats 4000000 in
set_option maxRecDepth 100000 in
theorem k_guardNumber (l : Launch) (hlt : l.stackTraces = false) (D : va_G) (cI cZ cJ : ClassId) (x : Nat) (inp : Nat) (par : Nat) (pla : Nat) (dra : Nat) (lat : Nat) (his : Nat) (f1 : Nat) (f2 : Nat) (hd : Int32) (ec : Int32) (ea : Int32) (g : Nat → Value) (gp : Nat → Value)  : cX l yX11_guardNumber cX11_guardNumber 1 (some .int) D (TT cI cZ cJ) [.ref x] [(x, .inr (10, xC inp par pla dra lat his f1 f2 hd ec ea g)), (pla, .inr (5, pC 0 0 0 gp))] "java/lang/IllegalStateException" [(x, .inr (10, xC inp par pla dra lat his f1 f2 hd ec ea g)), (pla, .inr (5, pC 0 0 0 gp))] 1 1 6 := by
  refine enterX (by decide) (Nat.le_of_ble_eq_true rfl) ?_
  intro p e s m below meth c ls A C htab hP hD hS hl
  have hx := C.1
  have hb := C.2.1
  have hl : lv_has ls 1 [(0, .ref x)] := hl
  refine lv_aload_n hx hb dX11_guardNumber_0 rfl (lv_at hl 0 rfl) ?_
  refine call_X (wr := []) C (run_VX (As := []) (rest := []) C (k_needPolygon l hlt D cI cZ cJ x inp par pla dra lat his f1 f2 hd ec ea g gp ) cV_X11_155 hP hD hS [0, 1] rfl rfl 0 rfl rfl rfl rfl hl.1 rfl (Nat.le_of_ble_eq_true rfl) dX11_guardNumber_1 ⟨Nat.le_of_ble_eq_true rfl, Nat.le_of_ble_eq_true rfl⟩ ⟨Nat.le_of_ble_eq_true rfl, Nat.le_of_ble_eq_true rfl⟩) hP hD hS [0, 1] [] rfl rfl rfl (by decide) (fun ce q9 H locs hce hcv hcl hP hD hS => ?_)
  have hP : va_P D CL [(x, .inr (10, xC inp par pla dra lat his f1 f2 hd ec ea g)), (pla, .inr (5, pC 0 0 0 gp))] H := hP
  have hD : va_D A [(x, .inr (10, xC inp par pla dra lat his f1 f2 hd ec ea g)), (pla, .inr (5, pC 0 0 0 gp))] := hD
  refine vx_widen (k := 1) (n := 6) (Nat.le_of_ble_eq_true rfl) (Nat.le_of_ble_eq_true rfl) ?_
  exact r_out C htab hce hcv hcl hP hD hS rfl (Nat.le_of_ble_eq_true rfl) (Nat.le_of_ble_eq_true rfl)
set_option maxHeartbeats 4000000 in
set_option maxRecDepth 100000 in
theorem k_guardPoint (l : Launch) (hlt : l.stackTraces = false) (D : va_G) (cI cZ cJ : ClassId) (x : Nat) (inp : Nat) (par : Nat) (pla : Nat) (dra : Nat) (lat : Nat) (his : Nat) (f1 : Nat) (f2 : Nat) (hd : Int32) (ec : Int32) (ea : Int32) (g : Nat → Value) (gp : Nat → Value) (a0 : Int32)  : cX l yX11_guardPoint cX11_guardPoint 2 (some .int) D (TT cI cZ cJ) [.ref x, .int a0] [(x, .inr (10, xC inp par pla dra lat his f1 f2 hd ec ea g)), (pla, .inr (5, pC 0 0 0 gp))] "java/lang/IllegalStateException" [(x, .inr (10, xC inp par pla dra lat his f1 f2 hd ec ea g)), (pla, .inr (5, pC 0 0 0 gp))] 1 1 6 := by
  refine enterX (by decide) (Nat.le_of_ble_eq_true rfl) ?_
  intro p e s m below meth c ls A C htab hP hD hS hl
  have hx := C.1
  have hb := C.2.1
  have hl : lv_has ls 2 [(0, .ref x), (1, .int a0)] := hl
  refine lv_aload_n hx hb dX11_guardPoint_0 rfl (lv_at hl 0 rfl) ?_
  refine call_X (wr := []) C (run_VX (As := []) (rest := []) C (k_needPolygon l hlt D cI cZ cJ x inp par pla dra lat his f1 f2 hd ec ea g gp ) cV_X11_155 hP hD hS [0, 1] rfl rfl 0 rfl rfl rfl rfl hl.1 rfl (Nat.le_of_ble_eq_true rfl) dX11_guardPoint_1 ⟨Nat.le_of_ble_eq_true rfl, Nat.le_of_ble_eq_true rfl⟩ ⟨Nat.le_of_ble_eq_true rfl, Nat.le_of_ble_eq_true rfl⟩) hP hD hS [0, 1] [] rfl rfl rfl (by decide) (fun ce q9 H locs hce hcv hcl hP hD hS => ?_)
  have hP : va_P D CL [(x, .inr (10, xC inp par pla dra lat his f1 f2 hd ec ea g)), (pla, .inr (5, pC 0 0 0 gp))] H := hP
  have hD : va_D A [(x, .inr (10, xC inp par pla dra lat his f1 f2 hd ec ea g)), (pla, .inr (5, pC 0 0 0 gp))] := hD
  refine vx_widen (k := 1) (n := 6) (Nat.le_of_ble_eq_true rfl) (Nat.le_of_ble_eq_true rfl) ?_
  exact r_out C htab hce hcv hcl hP hD hS rfl (Nat.le_of_ble_eq_true rfl) (Nat.le_of_ble_eq_true rfl)
set_option maxHeartbeats 4000000 in
set_option maxRecDepth 100000 in
theorem k_witnessNumber (l : Launch) (hlt : l.stackTraces = false) (D : va_G) (cI cZ cJ : ClassId) (x : Nat) (inp : Nat) (par : Nat) (pla : Nat) (dra : Nat) (lat : Nat) (his : Nat) (f1 : Nat) (f2 : Nat) (hd : Int32) (ec : Int32) (ea : Int32) (g : Nat → Value) (gp : Nat → Value)  : cX l yX11_witnessNumber cX11_witnessNumber 1 (some .int) D (TT cI cZ cJ) [.ref x] [(x, .inr (10, xC inp par pla dra lat his f1 f2 hd ec ea g)), (pla, .inr (5, pC 0 0 0 gp))] "java/lang/IllegalStateException" [(x, .inr (10, xC inp par pla dra lat his f1 f2 hd ec ea g)), (pla, .inr (5, pC 0 0 0 gp))] 1 1 6 := by
  refine enterX (by decide) (Nat.le_of_ble_eq_true rfl) ?_
  intro p e s m below meth c ls A C htab hP hD hS hl
  have hx := C.1
  have hb := C.2.1
  have hl : lv_has ls 1 [(0, .ref x)] := hl
  refine lv_aload_n hx hb dX11_witnessNumber_0 rfl (lv_at hl 0 rfl) ?_
  refine call_X (wr := []) C (run_VX (As := []) (rest := []) C (k_needPolygon l hlt D cI cZ cJ x inp par pla dra lat his f1 f2 hd ec ea g gp ) cV_X11_155 hP hD hS [0, 1] rfl rfl 0 rfl rfl rfl rfl hl.1 rfl (Nat.le_of_ble_eq_true rfl) dX11_witnessNumber_1 ⟨Nat.le_of_ble_eq_true rfl, Nat.le_of_ble_eq_true rfl⟩ ⟨Nat.le_of_ble_eq_true rfl, Nat.le_of_ble_eq_true rfl⟩) hP hD hS [0, 1] [] rfl rfl rfl (by decide) (fun ce q9 H locs hce hcv hcl hP hD hS => ?_)
  have hP : va_P D CL [(x, .inr (10, xC inp par pla dra lat his f1 f2 hd ec ea g)), (pla, .inr (5, pC 0 0 0 gp))] H := hP
  have hD : va_D A [(x, .inr (10, xC inp par pla dra lat his f1 f2 hd ec ea g)), (pla, .inr (5, pC 0 0 0 gp))] := hD
  refine vx_widen (k := 1) (n := 6) (Nat.le_of_ble_eq_true rfl) (Nat.le_of_ble_eq_true rfl) ?_
  exact r_out C htab hce hcv hcl hP hD hS rfl (Nat.le_of_ble_eq_true rfl) (Nat.le_of_ble_eq_true rfl)
set_option maxHeartbeats 4000000 in
set_option maxRecDepth 100000 in
theorem k_witness (l : Launch) (hlt : l.stackTraces = false) (D : va_G) (cI cZ cJ : ClassId) (x : Nat) (inp : Nat) (par : Nat) (pla : Nat) (dra : Nat) (lat : Nat) (his : Nat) (f1 : Nat) (f2 : Nat) (hd : Int32) (ec : Int32) (ea : Int32) (g : Nat → Value) (gp : Nat → Value) (a0 : Int32)  : cX l yX11_witness cX11_witness 2 (some .int) D (TT cI cZ cJ) [.ref x, .int a0] [(x, .inr (10, xC inp par pla dra lat his f1 f2 hd ec ea g)), (pla, .inr (5, pC 0 0 0 gp))] "java/lang/IllegalStateException" [(x, .inr (10, xC inp par pla dra lat his f1 f2 hd ec ea g)), (pla, .inr (5, pC 0 0 0 gp))] 1 1 6 := by
  refine enterX (by decide) (Nat.le_of_ble_eq_true rfl) ?_
  intro p e s m below meth c ls A C htab hP hD hS hl
  have hx := C.1
  have hb := C.2.1
  have hl : lv_has ls 2 [(0, .ref x), (1, .int a0)] := hl
  refine lv_aload_n hx hb dX11_witness_0 rfl (lv_at hl 0 rfl) ?_
  refine call_X (wr := []) C (run_VX (As := []) (rest := []) C (k_needPolygon l hlt D cI cZ cJ x inp par pla dra lat his f1 f2 hd ec ea g gp ) cV_X11_155 hP hD hS [0, 1] rfl rfl 0 rfl rfl rfl rfl hl.1 rfl (Nat.le_of_ble_eq_true rfl) dX11_witness_1 ⟨Nat.le_of_ble_eq_true rfl, Nat.le_of_ble_eq_true rfl⟩ ⟨Nat.le_of_ble_eq_true rfl, Nat.le_of_ble_eq_true rfl⟩) hP hD hS [0, 1] [] rfl rfl rfl (by decide) (fun ce q9 H locs hce hcv hcl hP hD hS => ?_)
  have hP : va_P D CL [(x, .inr (10, xC inp par pla dra lat his f1 f2 hd ec ea g)), (pla, .inr (5, pC 0 0 0 gp))] H := hP
  have hD : va_D A [(x, .inr (10, xC inp par pla dra lat his f1 f2 hd ec ea g)), (pla, .inr (5, pC 0 0 0 gp))] := hD
  refine vx_widen (k := 1) (n := 6) (Nat.le_of_ble_eq_true rfl) (Nat.le_of_ble_eq_true rfl) ?_
  exact r_out C htab hce hcv hcl hP hD hS rfl (Nat.le_of_ble_eq_true rfl) (Nat.le_of_ble_eq_true rfl)
set_option maxHeartbeats 4000000 in
set_option maxRecDepth 100000 in
theorem k_hiddenNumber (l : Launch) (hlt : l.stackTraces = false) (D : va_G) (cI cZ cJ : ClassId) (x : Nat) (inp : Nat) (par : Nat) (pla : Nat) (dra : Nat) (lat : Nat) (his : Nat) (f1 : Nat) (f2 : Nat) (hd : Int32) (ec : Int32) (ea : Int32) (g : Nat → Value) (gp : Nat → Value)  : cX l yX11_hiddenNumber cX11_hiddenNumber 1 (some .int) D (TT cI cZ cJ) [.ref x] [(x, .inr (10, xC inp par pla dra lat his f1 f2 hd ec ea g)), (pla, .inr (5, pC 0 0 0 gp))] "java/lang/IllegalStateException" [(x, .inr (10, xC inp par pla dra lat his f1 f2 hd ec ea g)), (pla, .inr (5, pC 0 0 0 gp))] 1 1 6 := by
  refine enterX (by decide) (Nat.le_of_ble_eq_true rfl) ?_
  intro p e s m below meth c ls A C htab hP hD hS hl
  have hx := C.1
  have hb := C.2.1
  have hl : lv_has ls 1 [(0, .ref x)] := hl
  refine lv_aload_n hx hb dX11_hiddenNumber_0 rfl (lv_at hl 0 rfl) ?_
  refine call_X (wr := []) C (run_VX (As := []) (rest := []) C (k_needPolygon l hlt D cI cZ cJ x inp par pla dra lat his f1 f2 hd ec ea g gp ) cV_X11_155 hP hD hS [0, 1] rfl rfl 0 rfl rfl rfl rfl hl.1 rfl (Nat.le_of_ble_eq_true rfl) dX11_hiddenNumber_1 ⟨Nat.le_of_ble_eq_true rfl, Nat.le_of_ble_eq_true rfl⟩ ⟨Nat.le_of_ble_eq_true rfl, Nat.le_of_ble_eq_true rfl⟩) hP hD hS [0, 1] [] rfl rfl rfl (by decide) (fun ce q9 H locs hce hcv hcl hP hD hS => ?_)
  have hP : va_P D CL [(x, .inr (10, xC inp par pla dra lat his f1 f2 hd ec ea g)), (pla, .inr (5, pC 0 0 0 gp))] H := hP
  have hD : va_D A [(x, .inr (10, xC inp par pla dra lat his f1 f2 hd ec ea g)), (pla, .inr (5, pC 0 0 0 gp))] := hD
  refine vx_widen (k := 1) (n := 6) (Nat.le_of_ble_eq_true rfl) (Nat.le_of_ble_eq_true rfl) ?_
  exact r_out C htab hce hcv hcl hP hD hS rfl (Nat.le_of_ble_eq_true rfl) (Nat.le_of_ble_eq_true rfl)
set_option maxHeartbeats 4000000 in
set_option maxRecDepth 100000 in
theorem k_guardAt (l : Launch) (hlt : l.stackTraces = false) (D : va_G) (cI cZ cJ : ClassId) (x : Nat) (inp : Nat) (par : Nat) (pla : Nat) (dra : Nat) (lat : Nat) (his : Nat) (f1 : Nat) (f2 : Nat) (hd : Int32) (ec : Int32) (ea : Int32) (g : Nat → Value) (gp : Nat → Value) (a0 : Int32)  : cX l yX11_guardAt cX11_guardAt 2 (some .int) D (TT cI cZ cJ) [.ref x, .int a0] [(x, .inr (10, xC inp par pla dra lat his f1 f2 hd ec ea g)), (pla, .inr (5, pC 0 0 0 gp))] "java/lang/IllegalStateException" [(x, .inr (10, xC inp par pla dra lat his f1 f2 hd ec ea g)), (pla, .inr (5, pC 0 0 0 gp))] 1 1 6 := by
  refine enterX (by decide) (Nat.le_of_ble_eq_true rfl) ?_
  intro p e s m below meth c ls A C htab hP hD hS hl
  have hx := C.1
  have hb := C.2.1
  have hl : lv_has ls 2 [(0, .ref x), (1, .int a0)] := hl
  refine lv_aload_n hx hb dX11_guardAt_0 rfl (lv_at hl 0 rfl) ?_
  refine call_X (wr := []) C (run_VX (As := []) (rest := []) C (k_needPolygon l hlt D cI cZ cJ x inp par pla dra lat his f1 f2 hd ec ea g gp ) cV_X11_155 hP hD hS [0, 1] rfl rfl 0 rfl rfl rfl rfl hl.1 rfl (Nat.le_of_ble_eq_true rfl) dX11_guardAt_1 ⟨Nat.le_of_ble_eq_true rfl, Nat.le_of_ble_eq_true rfl⟩ ⟨Nat.le_of_ble_eq_true rfl, Nat.le_of_ble_eq_true rfl⟩) hP hD hS [0, 1] [] rfl rfl rfl (by decide) (fun ce q9 H locs hce hcv hcl hP hD hS => ?_)
  have hP : va_P D CL [(x, .inr (10, xC inp par pla dra lat his f1 f2 hd ec ea g)), (pla, .inr (5, pC 0 0 0 gp))] H := hP
  have hD : va_D A [(x, .inr (10, xC inp par pla dra lat his f1 f2 hd ec ea g)), (pla, .inr (5, pC 0 0 0 gp))] := hD
  refine vx_widen (k := 1) (n := 6) (Nat.le_of_ble_eq_true rfl) (Nat.le_of_ble_eq_true rfl) ?_
  exact r_out C htab hce hcv hcl hP hD hS rfl (Nat.le_of_ble_eq_true rfl) (Nat.le_of_ble_eq_true rfl)
set_option maxHeartbeats 4000000 in
set_option maxRecDepth 100000 in
theorem k_guardRange (l : Launch) (hlt : l.stackTraces = false) (D : va_G) (cI cZ cJ : ClassId) (x : Nat) (inp : Nat) (par : Nat) (pla : Nat) (dra : Nat) (lat : Nat) (his : Nat) (f1 : Nat) (f2 : Nat) (hd : Int32) (ec : Int32) (ea : Int32) (g : Nat → Value) (gp : Nat → Value) (a0 : Int32)  : cX l yX11_guardRange cX11_guardRange 2 (some .int) D (TT cI cZ cJ) [.ref x, .int a0] [(x, .inr (10, xC inp par pla dra lat his f1 f2 hd ec ea g)), (pla, .inr (5, pC 0 0 0 gp))] "java/lang/IllegalStateException" [(x, .inr (10, xC inp par pla dra lat his f1 f2 hd ec ea g)), (pla, .inr (5, pC 0 0 0 gp))] 1 1 6 := by
  refine enterX (by decide) (Nat.le_of_ble_eq_true rfl) ?_
  intro p e s m below meth c ls A C htab hP hD hS hl
  have hx := C.1
  have hb := C.2.1
  have hl : lv_has ls 2 [(0, .ref x), (1, .int a0)] := hl
  refine lv_aload_n hx hb dX11_guardRange_0 rfl (lv_at hl 0 rfl) ?_
  refine call_X (wr := []) C (run_VX (As := []) (rest := []) C (k_needPolygon l hlt D cI cZ cJ x inp par pla dra lat his f1 f2 hd ec ea g gp ) cV_X11_155 hP hD hS [0, 1] rfl rfl 0 rfl rfl rfl rfl hl.1 rfl (Nat.le_of_ble_eq_true rfl) dX11_guardRange_1 ⟨Nat.le_of_ble_eq_true rfl, Nat.le_of_ble_eq_true rfl⟩ ⟨Nat.le_of_ble_eq_true rfl, Nat.le_of_ble_eq_true rfl⟩) hP hD hS [0, 1] [] rfl rfl rfl (by decide) (fun ce q9 H locs hce hcv hcl hP hD hS => ?_)
  have hP : va_P D CL [(x, .inr (10, xC inp par pla dra lat his f1 f2 hd ec ea g)), (pla, .inr (5, pC 0 0 0 gp))] H := hP
  have hD : va_D A [(x, .inr (10, xC inp par pla dra lat his f1 f2 hd ec ea g)), (pla, .inr (5, pC 0 0 0 gp))] := hD
  refine vx_widen (k := 1) (n := 6) (Nat.le_of_ble_eq_true rfl) (Nat.le_of_ble_eq_true rfl) ?_
  exact r_out C htab hce hcv hcl hP hD hS rfl (Nat.le_of_ble_eq_true rfl) (Nat.le_of_ble_eq_true rfl)
set_option maxHeartbeats 4000000 in
set_option maxRecDepth 100000 in
theorem k_watched (l : Launch) (hlt : l.stackTraces = false) (D : va_G) (cI cZ cJ : ClassId) (x : Nat) (inp : Nat) (par : Nat) (pla : Nat) (dra : Nat) (lat : Nat) (his : Nat) (f1 : Nat) (f2 : Nat) (hd : Int32) (ec : Int32) (ea : Int32) (g : Nat → Value) (gp : Nat → Value) (a0 : Int32)  : cX l yX11_watched cX11_watched 2 (some .long) D (TT cI cZ cJ) [.ref x, .int a0] [(x, .inr (10, xC inp par pla dra lat his f1 f2 hd ec ea g)), (pla, .inr (5, pC 0 0 0 gp))] "java/lang/IllegalStateException" [(x, .inr (10, xC inp par pla dra lat his f1 f2 hd ec ea g)), (pla, .inr (5, pC 0 0 0 gp))] 1 1 6 := by
  refine enterX (by decide) (Nat.le_of_ble_eq_true rfl) ?_
  intro p e s m below meth c ls A C htab hP hD hS hl
  have hx := C.1
  have hb := C.2.1
  have hl : lv_has ls 2 [(0, .ref x), (1, .int a0)] := hl
  refine lv_aload_n hx hb dX11_watched_0 rfl (lv_at hl 0 rfl) ?_
  refine call_X (wr := []) C (run_VX (As := []) (rest := []) C (k_needPolygon l hlt D cI cZ cJ x inp par pla dra lat his f1 f2 hd ec ea g gp ) cV_X11_155 hP hD hS [0, 1] rfl rfl 0 rfl rfl rfl rfl hl.1 rfl (Nat.le_of_ble_eq_true rfl) dX11_watched_1 ⟨Nat.le_of_ble_eq_true rfl, Nat.le_of_ble_eq_true rfl⟩ ⟨Nat.le_of_ble_eq_true rfl, Nat.le_of_ble_eq_true rfl⟩) hP hD hS [0, 1] [] rfl rfl rfl (by decide) (fun ce q9 H locs hce hcv hcl hP hD hS => ?_)
  have hP : va_P D CL [(x, .inr (10, xC inp par pla dra lat his f1 f2 hd ec ea g)), (pla, .inr (5, pC 0 0 0 gp))] H := hP
  have hD : va_D A [(x, .inr (10, xC inp par pla dra lat his f1 f2 hd ec ea g)), (pla, .inr (5, pC 0 0 0 gp))] := hD
  refine vx_widen (k := 1) (n := 6) (Nat.le_of_ble_eq_true rfl) (Nat.le_of_ble_eq_true rfl) ?_
  exact r_out C htab hce hcv hcl hP hD hS rfl (Nat.le_of_ble_eq_true rfl) (Nat.le_of_ble_eq_true rfl)
set_option maxHeartbeats 4000000 in
set_option maxRecDepth 100000 in
theorem k_unwatched (l : Launch) (hlt : l.stackTraces = false) (D : va_G) (cI cZ cJ : ClassId) (x : Nat) (inp : Nat) (par : Nat) (pla : Nat) (dra : Nat) (lat : Nat) (his : Nat) (f1 : Nat) (f2 : Nat) (hd : Int32) (ec : Int32) (ea : Int32) (g : Nat → Value) (gp : Nat → Value)  : cX l yX11_unwatched cX11_unwatched 1 (some .long) D (TT cI cZ cJ) [.ref x] [(x, .inr (10, xC inp par pla dra lat his f1 f2 hd ec ea g)), (pla, .inr (5, pC 0 0 0 gp))] "java/lang/IllegalStateException" [(x, .inr (10, xC inp par pla dra lat his f1 f2 hd ec ea g)), (pla, .inr (5, pC 0 0 0 gp))] 1 1 6 := by
  refine enterX (by decide) (Nat.le_of_ble_eq_true rfl) ?_
  intro p e s m below meth c ls A C htab hP hD hS hl
  have hx := C.1
  have hb := C.2.1
  have hl : lv_has ls 1 [(0, .ref x)] := hl
  refine lv_aload_n hx hb dX11_unwatched_0 rfl (lv_at hl 0 rfl) ?_
  refine call_X (wr := []) C (run_VX (As := []) (rest := []) C (k_needPolygon l hlt D cI cZ cJ x inp par pla dra lat his f1 f2 hd ec ea g gp ) cV_X11_155 hP hD hS [0, 1] rfl rfl 0 rfl rfl rfl rfl hl.1 rfl (Nat.le_of_ble_eq_true rfl) dX11_unwatched_1 ⟨Nat.le_of_ble_eq_true rfl, Nat.le_of_ble_eq_true rfl⟩ ⟨Nat.le_of_ble_eq_true rfl, Nat.le_of_ble_eq_true rfl⟩) hP hD hS [0, 1] [] rfl rfl rfl (by decide) (fun ce q9 H locs hce hcv hcl hP hD hS => ?_)
  have hP : va_P D CL [(x, .inr (10, xC inp par pla dra lat his f1 f2 hd ec ea g)), (pla, .inr (5, pC 0 0 0 gp))] H := hP
  have hD : va_D A [(x, .inr (10, xC inp par pla dra lat his f1 f2 hd ec ea g)), (pla, .inr (5, pC 0 0 0 gp))] := hD
  refine vx_widen (k := 1) (n := 6) (Nat.le_of_ble_eq_true rfl) (Nat.le_of_ble_eq_true rfl) ?_
  exact r_out C htab hce hcv hcl hP hD hS rfl (Nat.le_of_ble_eq_true rfl) (Nat.le_of_ble_eq_true rfl)
set_option maxHeartbeats 4000000 in
set_option maxRecDepth 100000 in
theorem k_watchers (l : Launch) (hlt : l.stackTraces = false) (D : va_G) (cI cZ cJ : ClassId) (x : Nat) (inp : Nat) (par : Nat) (pla : Nat) (dra : Nat) (lat : Nat) (his : Nat) (f1 : Nat) (f2 : Nat) (hd : Int32) (ec : Int32) (ea : Int32) (g : Nat → Value) (gp : Nat → Value) (a0 : Int32)  : cX l yX11_watchers cX11_watchers 2 (some .int) D (TT cI cZ cJ) [.ref x, .int a0] [(x, .inr (10, xC inp par pla dra lat his f1 f2 hd ec ea g)), (pla, .inr (5, pC 0 0 0 gp))] "java/lang/IllegalStateException" [(x, .inr (10, xC inp par pla dra lat his f1 f2 hd ec ea g)), (pla, .inr (5, pC 0 0 0 gp))] 1 1 6 := by
  refine enterX (by decide) (Nat.le_of_ble_eq_true rfl) ?_
  intro p e s m below meth c ls A C htab hP hD hS hl
  have hx := C.1
  have hb := C.2.1
  have hl : lv_has ls 2 [(0, .ref x), (1, .int a0)] := hl
  refine lv_aload_n hx hb dX11_watchers_0 rfl (lv_at hl 0 rfl) ?_
  refine call_X (wr := []) C (run_VX (As := []) (rest := []) C (k_needPolygon l hlt D cI cZ cJ x inp par pla dra lat his f1 f2 hd ec ea g gp ) cV_X11_155 hP hD hS [0, 1] rfl rfl 0 rfl rfl rfl rfl hl.1 rfl (Nat.le_of_ble_eq_true rfl) dX11_watchers_1 ⟨Nat.le_of_ble_eq_true rfl, Nat.le_of_ble_eq_true rfl⟩ ⟨Nat.le_of_ble_eq_true rfl, Nat.le_of_ble_eq_true rfl⟩) hP hD hS [0, 1] [] rfl rfl rfl (by decide) (fun ce q9 H locs hce hcv hcl hP hD hS => ?_)
  have hP : va_P D CL [(x, .inr (10, xC inp par pla dra lat his f1 f2 hd ec ea g)), (pla, .inr (5, pC 0 0 0 gp))] H := hP
  have hD : va_D A [(x, .inr (10, xC inp par pla dra lat his f1 f2 hd ec ea g)), (pla, .inr (5, pC 0 0 0 gp))] := hD
  refine vx_widen (k := 1) (n := 6) (Nat.le_of_ble_eq_true rfl) (Nat.le_of_ble_eq_true rfl) ?_
  exact r_out C htab hce hcv hcl hP hD hS rfl (Nat.le_of_ble_eq_true rfl) (Nat.le_of_ble_eq_true rfl)
set_option maxHeartbeats 4000000 in
set_option maxRecDepth 100000 in
theorem k_redundantGuards (l : Launch) (hlt : l.stackTraces = false) (D : va_G) (cI cZ cJ : ClassId) (x : Nat) (inp : Nat) (par : Nat) (pla : Nat) (dra : Nat) (lat : Nat) (his : Nat) (f1 : Nat) (f2 : Nat) (hd : Int32) (ec : Int32) (ea : Int32) (g : Nat → Value) (gp : Nat → Value)  : cX l yX11_redundantGuards cX11_redundantGuards 1 (some .int) D (TT cI cZ cJ) [.ref x] [(x, .inr (10, xC inp par pla dra lat his f1 f2 hd ec ea g)), (pla, .inr (5, pC 0 0 0 gp))] "java/lang/IllegalStateException" [(x, .inr (10, xC inp par pla dra lat his f1 f2 hd ec ea g)), (pla, .inr (5, pC 0 0 0 gp))] 1 1 6 := by
  refine enterX (by decide) (Nat.le_of_ble_eq_true rfl) ?_
  intro p e s m below meth c ls A C htab hP hD hS hl
  have hx := C.1
  have hb := C.2.1
  have hl : lv_has ls 1 [(0, .ref x)] := hl
  refine lv_aload_n hx hb dX11_redundantGuards_0 rfl (lv_at hl 0 rfl) ?_
  refine call_X (wr := []) C (run_VX (As := []) (rest := []) C (k_needPolygon l hlt D cI cZ cJ x inp par pla dra lat his f1 f2 hd ec ea g gp ) cV_X11_155 hP hD hS [0, 1] rfl rfl 0 rfl rfl rfl rfl hl.1 rfl (Nat.le_of_ble_eq_true rfl) dX11_redundantGuards_1 ⟨Nat.le_of_ble_eq_true rfl, Nat.le_of_ble_eq_true rfl⟩ ⟨Nat.le_of_ble_eq_true rfl, Nat.le_of_ble_eq_true rfl⟩) hP hD hS [0, 1] [] rfl rfl rfl (by decide) (fun ce q9 H locs hce hcv hcl hP hD hS => ?_)
  have hP : va_P D CL [(x, .inr (10, xC inp par pla dra lat his f1 f2 hd ec ea g)), (pla, .inr (5, pC 0 0 0 gp))] H := hP
  have hD : va_D A [(x, .inr (10, xC inp par pla dra lat his f1 f2 hd ec ea g)), (pla, .inr (5, pC 0 0 0 gp))] := hD
  refine vx_widen (k := 1) (n := 6) (Nat.le_of_ble_eq_true rfl) (Nat.le_of_ble_eq_true rfl) ?_
  exact r_out C htab hce hcv hcl hP hD hS rfl (Nat.le_of_ble_eq_true rfl) (Nat.le_of_ble_eq_true rfl)
set_option maxHeartbeats 4000000 in
set_option maxRecDepth 100000 in
theorem k_bestPoint (l : Launch) (hlt : l.stackTraces = false) (D : va_G) (cI cZ cJ : ClassId) (x : Nat) (inp : Nat) (par : Nat) (pla : Nat) (dra : Nat) (lat : Nat) (his : Nat) (f1 : Nat) (f2 : Nat) (hd : Int32) (ec : Int32) (ea : Int32) (g : Nat → Value) (gp : Nat → Value)  : cX l yX11_bestPoint cX11_bestPoint 1 (some .int) D (TT cI cZ cJ) [.ref x] [(x, .inr (10, xC inp par pla dra lat his f1 f2 hd ec ea g)), (pla, .inr (5, pC 0 0 0 gp))] "java/lang/IllegalStateException" [(x, .inr (10, xC inp par pla dra lat his f1 f2 hd ec ea g)), (pla, .inr (5, pC 0 0 0 gp))] 1 1 6 := by
  refine enterX (by decide) (Nat.le_of_ble_eq_true rfl) ?_
  intro p e s m below meth c ls A C htab hP hD hS hl
  have hx := C.1
  have hb := C.2.1
  have hl : lv_has ls 1 [(0, .ref x)] := hl
  refine lv_aload_n hx hb dX11_bestPoint_0 rfl (lv_at hl 0 rfl) ?_
  refine call_X (wr := []) C (run_VX (As := []) (rest := []) C (k_needPolygon l hlt D cI cZ cJ x inp par pla dra lat his f1 f2 hd ec ea g gp ) cV_X11_155 hP hD hS [0, 1] rfl rfl 0 rfl rfl rfl rfl hl.1 rfl (Nat.le_of_ble_eq_true rfl) dX11_bestPoint_1 ⟨Nat.le_of_ble_eq_true rfl, Nat.le_of_ble_eq_true rfl⟩ ⟨Nat.le_of_ble_eq_true rfl, Nat.le_of_ble_eq_true rfl⟩) hP hD hS [0, 1] [] rfl rfl rfl (by decide) (fun ce q9 H locs hce hcv hcl hP hD hS => ?_)
  have hP : va_P D CL [(x, .inr (10, xC inp par pla dra lat his f1 f2 hd ec ea g)), (pla, .inr (5, pC 0 0 0 gp))] H := hP
  have hD : va_D A [(x, .inr (10, xC inp par pla dra lat his f1 f2 hd ec ea g)), (pla, .inr (5, pC 0 0 0 gp))] := hD
  refine vx_widen (k := 1) (n := 6) (Nat.le_of_ble_eq_true rfl) (Nat.le_of_ble_eq_true rfl) ?_
  exact r_out C htab hce hcv hcl hP hD hS rfl (Nat.le_of_ble_eq_true rfl) (Nat.le_of_ble_eq_true rfl)
set_option maxHeartbeats 4000000 in
set_option maxRecDepth 100000 in
theorem k_greedyGuards (l : Launch) (hlt : l.stackTraces = false) (D : va_G) (cI cZ cJ : ClassId) (x : Nat) (inp : Nat) (par : Nat) (pla : Nat) (dra : Nat) (lat : Nat) (his : Nat) (f1 : Nat) (f2 : Nat) (hd : Int32) (ec : Int32) (ea : Int32) (g : Nat → Value) (gp : Nat → Value)  : cX l yX11_greedyGuards cX11_greedyGuards 1 (some .int) D (TT cI cZ cJ) [.ref x] [(x, .inr (10, xC inp par pla dra lat his f1 f2 hd ec ea g)), (pla, .inr (5, pC 0 0 0 gp))] "java/lang/IllegalStateException" [(x, .inr (10, xC inp par pla dra lat his f1 f2 hd ec ea g)), (pla, .inr (5, pC 0 0 0 gp))] 1 1 6 := by
  refine enterX (by decide) (Nat.le_of_ble_eq_true rfl) ?_
  intro p e s m below meth c ls A C htab hP hD hS hl
  have hx := C.1
  have hb := C.2.1
  have hl : lv_has ls 1 [(0, .ref x)] := hl
  refine lv_aload_n hx hb dX11_greedyGuards_0 rfl (lv_at hl 0 rfl) ?_
  refine call_X (wr := []) C (run_VX (As := []) (rest := []) C (k_needPolygon l hlt D cI cZ cJ x inp par pla dra lat his f1 f2 hd ec ea g gp ) cV_X11_155 hP hD hS [0, 1] rfl rfl 0 rfl rfl rfl rfl hl.1 rfl (Nat.le_of_ble_eq_true rfl) dX11_greedyGuards_1 ⟨Nat.le_of_ble_eq_true rfl, Nat.le_of_ble_eq_true rfl⟩ ⟨Nat.le_of_ble_eq_true rfl, Nat.le_of_ble_eq_true rfl⟩) hP hD hS [0, 1] [] rfl rfl rfl (by decide) (fun ce q9 H locs hce hcv hcl hP hD hS => ?_)
  have hP : va_P D CL [(x, .inr (10, xC inp par pla dra lat his f1 f2 hd ec ea g)), (pla, .inr (5, pC 0 0 0 gp))] H := hP
  have hD : va_D A [(x, .inr (10, xC inp par pla dra lat his f1 f2 hd ec ea g)), (pla, .inr (5, pC 0 0 0 gp))] := hD
  refine vx_widen (k := 1) (n := 6) (Nat.le_of_ble_eq_true rfl) (Nat.le_of_ble_eq_true rfl) ?_
  exact r_out C htab hce hcv hcl hP hD hS rfl (Nat.le_of_ble_eq_true rfl) (Nat.le_of_ble_eq_true rfl)
set_option maxHeartbeats 4000000 in
set_option maxRecDepth 100000 in
theorem k_treasureAt (l : Launch) (hlt : l.stackTraces = false) (D : va_G) (cI cZ cJ : ClassId) (x : Nat) (inp : Nat) (par : Nat) (pla : Nat) (dra : Nat) (lat : Nat) (his : Nat) (f1 : Nat) (f2 : Nat) (hd : Int32) (ec : Int32) (ea : Int32) (g : Nat → Value) (gp : Nat → Value) (a0 : Int32)  : cX l yX11_treasureAt cX11_treasureAt 2 (some .int) D (TT cI cZ cJ) [.ref x, .int a0] [(x, .inr (10, xC inp par pla dra lat his f1 f2 hd ec ea g)), (pla, .inr (5, pC 0 0 0 gp))] "java/lang/IllegalStateException" [(x, .inr (10, xC inp par pla dra lat his f1 f2 hd ec ea g)), (pla, .inr (5, pC 0 0 0 gp))] 1 1 6 := by
  refine enterX (by decide) (Nat.le_of_ble_eq_true rfl) ?_
  intro p e s m below meth c ls A C htab hP hD hS hl
  have hx := C.1
  have hb := C.2.1
  have hl : lv_has ls 2 [(0, .ref x), (1, .int a0)] := hl
  refine lv_aload_n hx hb dX11_treasureAt_0 rfl (lv_at hl 0 rfl) ?_
  refine call_X (wr := []) C (run_VX (As := []) (rest := []) C (k_needPolygon l hlt D cI cZ cJ x inp par pla dra lat his f1 f2 hd ec ea g gp ) cV_X11_155 hP hD hS [0, 1] rfl rfl 0 rfl rfl rfl rfl hl.1 rfl (Nat.le_of_ble_eq_true rfl) dX11_treasureAt_1 ⟨Nat.le_of_ble_eq_true rfl, Nat.le_of_ble_eq_true rfl⟩ ⟨Nat.le_of_ble_eq_true rfl, Nat.le_of_ble_eq_true rfl⟩) hP hD hS [0, 1] [] rfl rfl rfl (by decide) (fun ce q9 H locs hce hcv hcl hP hD hS => ?_)
  have hP : va_P D CL [(x, .inr (10, xC inp par pla dra lat his f1 f2 hd ec ea g)), (pla, .inr (5, pC 0 0 0 gp))] H := hP
  have hD : va_D A [(x, .inr (10, xC inp par pla dra lat his f1 f2 hd ec ea g)), (pla, .inr (5, pC 0 0 0 gp))] := hD
  refine vx_widen (k := 1) (n := 6) (Nat.le_of_ble_eq_true rfl) (Nat.le_of_ble_eq_true rfl) ?_
  exact r_out C htab hce hcv hcl hP hD hS rfl (Nat.le_of_ble_eq_true rfl) (Nat.le_of_ble_eq_true rfl)
set_option maxHeartbeats 4000000 in
set_option maxRecDepth 100000 in
theorem k_watchedValue (l : Launch) (hlt : l.stackTraces = false) (D : va_G) (cI cZ cJ : ClassId) (x : Nat) (inp : Nat) (par : Nat) (pla : Nat) (dra : Nat) (lat : Nat) (his : Nat) (f1 : Nat) (f2 : Nat) (hd : Int32) (ec : Int32) (ea : Int32) (g : Nat → Value) (gp : Nat → Value)  : cX l yX11_watchedValue cX11_watchedValue 1 (some .int) D (TT cI cZ cJ) [.ref x] [(x, .inr (10, xC inp par pla dra lat his f1 f2 hd ec ea g)), (pla, .inr (5, pC 0 0 0 gp))] "java/lang/IllegalStateException" [(x, .inr (10, xC inp par pla dra lat his f1 f2 hd ec ea g)), (pla, .inr (5, pC 0 0 0 gp))] 1 1 6 := by
  refine enterX (by decide) (Nat.le_of_ble_eq_true rfl) ?_
  intro p e s m below meth c ls A C htab hP hD hS hl
  have hx := C.1
  have hb := C.2.1
  have hl : lv_has ls 1 [(0, .ref x)] := hl
  refine lv_aload_n hx hb dX11_watchedValue_0 rfl (lv_at hl 0 rfl) ?_
  refine call_X (wr := []) C (run_VX (As := []) (rest := []) C (k_needPolygon l hlt D cI cZ cJ x inp par pla dra lat his f1 f2 hd ec ea g gp ) cV_X11_155 hP hD hS [0, 1] rfl rfl 0 rfl rfl rfl rfl hl.1 rfl (Nat.le_of_ble_eq_true rfl) dX11_watchedValue_1 ⟨Nat.le_of_ble_eq_true rfl, Nat.le_of_ble_eq_true rfl⟩ ⟨Nat.le_of_ble_eq_true rfl, Nat.le_of_ble_eq_true rfl⟩) hP hD hS [0, 1] [] rfl rfl rfl (by decide) (fun ce q9 H locs hce hcv hcl hP hD hS => ?_)
  have hP : va_P D CL [(x, .inr (10, xC inp par pla dra lat his f1 f2 hd ec ea g)), (pla, .inr (5, pC 0 0 0 gp))] H := hP
  have hD : va_D A [(x, .inr (10, xC inp par pla dra lat his f1 f2 hd ec ea g)), (pla, .inr (5, pC 0 0 0 gp))] := hD
  refine vx_widen (k := 1) (n := 6) (Nat.le_of_ble_eq_true rfl) (Nat.le_of_ble_eq_true rfl) ?_
  exact r_out C htab hce hcv hcl hP hD hS rfl (Nat.le_of_ble_eq_true rfl) (Nat.le_of_ble_eq_true rfl)
set_option maxHeartbeats 4000000 in
set_option maxRecDepth 100000 in
theorem k_bestValue (l : Launch) (hlt : l.stackTraces = false) (D : va_G) (cI cZ cJ : ClassId) (x : Nat) (inp : Nat) (par : Nat) (pla : Nat) (dra : Nat) (lat : Nat) (his : Nat) (f1 : Nat) (f2 : Nat) (hd : Int32) (ec : Int32) (ea : Int32) (g : Nat → Value) (gp : Nat → Value)  : cX l yX11_bestValue cX11_bestValue 1 (some .int) D (TT cI cZ cJ) [.ref x] [(x, .inr (10, xC inp par pla dra lat his f1 f2 hd ec ea g)), (pla, .inr (5, pC 0 0 0 gp))] "java/lang/IllegalStateException" [(x, .inr (10, xC inp par pla dra lat his f1 f2 hd ec ea g)), (pla, .inr (5, pC 0 0 0 gp))] 1 1 6 := by
  refine enterX (by decide) (Nat.le_of_ble_eq_true rfl) ?_
  intro p e s m below meth c ls A C htab hP hD hS hl
  have hx := C.1
  have hb := C.2.1
  have hl : lv_has ls 1 [(0, .ref x)] := hl
  refine lv_aload_n hx hb dX11_bestValue_0 rfl (lv_at hl 0 rfl) ?_
  refine call_X (wr := []) C (run_VX (As := []) (rest := []) C (k_needPolygon l hlt D cI cZ cJ x inp par pla dra lat his f1 f2 hd ec ea g gp ) cV_X11_155 hP hD hS [0, 1] rfl rfl 0 rfl rfl rfl rfl hl.1 rfl (Nat.le_of_ble_eq_true rfl) dX11_bestValue_1 ⟨Nat.le_of_ble_eq_true rfl, Nat.le_of_ble_eq_true rfl⟩ ⟨Nat.le_of_ble_eq_true rfl, Nat.le_of_ble_eq_true rfl⟩) hP hD hS [0, 1] [] rfl rfl rfl (by decide) (fun ce q9 H locs hce hcv hcl hP hD hS => ?_)
  have hP : va_P D CL [(x, .inr (10, xC inp par pla dra lat his f1 f2 hd ec ea g)), (pla, .inr (5, pC 0 0 0 gp))] H := hP
  have hD : va_D A [(x, .inr (10, xC inp par pla dra lat his f1 f2 hd ec ea g)), (pla, .inr (5, pC 0 0 0 gp))] := hD
  refine vx_widen (k := 1) (n := 6) (Nat.le_of_ble_eq_true rfl) (Nat.le_of_ble_eq_true rfl) ?_
  exact r_out C htab hce hcv hcl hP hD hS rfl (Nat.le_of_ble_eq_true rfl) (Nat.le_of_ble_eq_true rfl)
set_option maxHeartbeats 4000000 in
set_option maxRecDepth 100000 in
theorem k_draw (l : Launch) (hlt : l.stackTraces = false) (D : va_G) (cI cZ cJ : ClassId) (x : Nat) (inp : Nat) (par : Nat) (pla : Nat) (dra : Nat) (lat : Nat) (his : Nat) (f1 : Nat) (f2 : Nat) (hd : Int32) (ec : Int32) (ea : Int32) (g : Nat → Value) (gp : Nat → Value) (a0 : Int32)  : cX l yX11_draw cX11_draw 6 (some .int) D (TT cI cZ cJ) [.ref x, .int a0] [(x, .inr (10, xC inp par pla dra lat his f1 f2 hd ec ea g)), (pla, .inr (5, pC 0 0 0 gp))] "java/lang/IllegalStateException" [(x, .inr (10, xC inp par pla dra lat his f1 f2 hd ec ea g)), (pla, .inr (5, pC 0 0 0 gp))] 1 1 6 := by
  refine enterX (by decide) (Nat.le_of_ble_eq_true rfl) ?_
  intro p e s m below meth c ls A C htab hP hD hS hl
  have hx := C.1
  have hb := C.2.1
  have hl : lv_has ls 6 [(0, .ref x), (1, .int a0)] := hl
  refine lv_aload_n hx hb dX11_draw_0 rfl (lv_at hl 0 rfl) ?_
  refine call_X (wr := []) C (run_VX (As := []) (rest := []) C (k_needPolygon l hlt D cI cZ cJ x inp par pla dra lat his f1 f2 hd ec ea g gp ) cV_X11_155 hP hD hS [0, 1] rfl rfl 0 rfl rfl rfl rfl hl.1 rfl (Nat.le_of_ble_eq_true rfl) dX11_draw_1 ⟨Nat.le_of_ble_eq_true rfl, Nat.le_of_ble_eq_true rfl⟩ ⟨Nat.le_of_ble_eq_true rfl, Nat.le_of_ble_eq_true rfl⟩) hP hD hS [0, 1] [] rfl rfl rfl (by decide) (fun ce q9 H locs hce hcv hcl hP hD hS => ?_)
  have hP : va_P D CL [(x, .inr (10, xC inp par pla dra lat his f1 f2 hd ec ea g)), (pla, .inr (5, pC 0 0 0 gp))] H := hP
  have hD : va_D A [(x, .inr (10, xC inp par pla dra lat his f1 f2 hd ec ea g)), (pla, .inr (5, pC 0 0 0 gp))] := hD
  refine vx_widen (k := 1) (n := 6) (Nat.le_of_ble_eq_true rfl) (Nat.le_of_ble_eq_true rfl) ?_
  exact r_out C htab hce hcv hcl hP hD hS rfl (Nat.le_of_ble_eq_true rfl) (Nat.le_of_ble_eq_true rfl)
set_option maxHeartbeats 4000000 in
set_option maxRecDepth 100000 in
theorem k_addGuard (l : Launch) (hlt : l.stackTraces = false) (D : va_G) (cI cZ cJ : ClassId) (x : Nat) (inp : Nat) (par : Nat) (pla : Nat) (dra : Nat) (lat : Nat) (his : Nat) (f1 : Nat) (f2 : Nat) (hd : Int32) (ec : Int32) (ea : Int32) (g : Nat → Value) (gp : Nat → Value) (a0 : Int32) (a1 : Int32)  : cX l yX11_addGuard cX11_addGuard 3 (some .int) D (TT cI cZ cJ) [.ref x, .int a0, .int a1] [(x, .inr (10, xC inp par pla dra lat his f1 f2 hd ec ea g)), (pla, .inr (5, pC 0 0 0 gp))] "java/lang/IllegalStateException" [(x, .inr (10, xC inp par pla dra lat his f1 f2 hd ec ea g)), (pla, .inr (5, pC 0 0 0 gp))] 1 1 6 := by
  refine enterX (by decide) (Nat.le_of_ble_eq_true rfl) ?_
  intro p e s m below meth c ls A C htab hP hD hS hl
  have hx := C.1
  have hb := C.2.1
  have hl : lv_has ls 3 [(0, .ref x), (1, .int a0), (2, .int a1)] := hl
  refine lv_aload_n hx hb dX11_addGuard_0 rfl (lv_at hl 0 rfl) ?_
  refine call_X (wr := []) C (run_VX (As := []) (rest := []) C (k_needPolygon l hlt D cI cZ cJ x inp par pla dra lat his f1 f2 hd ec ea g gp ) cV_X11_155 hP hD hS [0, 1] rfl rfl 0 rfl rfl rfl rfl hl.1 rfl (Nat.le_of_ble_eq_true rfl) dX11_addGuard_1 ⟨Nat.le_of_ble_eq_true rfl, Nat.le_of_ble_eq_true rfl⟩ ⟨Nat.le_of_ble_eq_true rfl, Nat.le_of_ble_eq_true rfl⟩) hP hD hS [0, 1] [] rfl rfl rfl (by decide) (fun ce q9 H locs hce hcv hcl hP hD hS => ?_)
  have hP : va_P D CL [(x, .inr (10, xC inp par pla dra lat his f1 f2 hd ec ea g)), (pla, .inr (5, pC 0 0 0 gp))] H := hP
  have hD : va_D A [(x, .inr (10, xC inp par pla dra lat his f1 f2 hd ec ea g)), (pla, .inr (5, pC 0 0 0 gp))] := hD
  refine vx_widen (k := 1) (n := 6) (Nat.le_of_ble_eq_true rfl) (Nat.le_of_ble_eq_true rfl) ?_
  exact r_out C htab hce hcv hcl hP hD hS rfl (Nat.le_of_ble_eq_true rfl) (Nat.le_of_ble_eq_true rfl)
set_option maxHeartbeats 4000000 in
set_option maxRecDepth 100000 in
theorem k_removeGuard (l : Launch) (hlt : l.stackTraces = false) (D : va_G) (cI cZ cJ : ClassId) (x : Nat) (inp : Nat) (par : Nat) (pla : Nat) (dra : Nat) (lat : Nat) (his : Nat) (f1 : Nat) (f2 : Nat) (hd : Int32) (ec : Int32) (ea : Int32) (g : Nat → Value) (gp : Nat → Value) (a0 : Int32)  : cX l yX11_removeGuard cX11_removeGuard 2 (some .int) D (TT cI cZ cJ) [.ref x, .int a0] [(x, .inr (10, xC inp par pla dra lat his f1 f2 hd ec ea g)), (pla, .inr (5, pC 0 0 0 gp))] "java/lang/IllegalStateException" [(x, .inr (10, xC inp par pla dra lat his f1 f2 hd ec ea g)), (pla, .inr (5, pC 0 0 0 gp))] 1 1 6 := by
  refine enterX (by decide) (Nat.le_of_ble_eq_true rfl) ?_
  intro p e s m below meth c ls A C htab hP hD hS hl
  have hx := C.1
  have hb := C.2.1
  have hl : lv_has ls 2 [(0, .ref x), (1, .int a0)] := hl
  refine lv_aload_n hx hb dX11_removeGuard_0 rfl (lv_at hl 0 rfl) ?_
  refine call_X (wr := []) C (run_VX (As := []) (rest := []) C (k_needPolygon l hlt D cI cZ cJ x inp par pla dra lat his f1 f2 hd ec ea g gp ) cV_X11_155 hP hD hS [0, 1] rfl rfl 0 rfl rfl rfl rfl hl.1 rfl (Nat.le_of_ble_eq_true rfl) dX11_removeGuard_1 ⟨Nat.le_of_ble_eq_true rfl, Nat.le_of_ble_eq_true rfl⟩ ⟨Nat.le_of_ble_eq_true rfl, Nat.le_of_ble_eq_true rfl⟩) hP hD hS [0, 1] [] rfl rfl rfl (by decide) (fun ce q9 H locs hce hcv hcl hP hD hS => ?_)
  have hP : va_P D CL [(x, .inr (10, xC inp par pla dra lat his f1 f2 hd ec ea g)), (pla, .inr (5, pC 0 0 0 gp))] H := hP
  have hD : va_D A [(x, .inr (10, xC inp par pla dra lat his f1 f2 hd ec ea g)), (pla, .inr (5, pC 0 0 0 gp))] := hD
  refine vx_widen (k := 1) (n := 6) (Nat.le_of_ble_eq_true rfl) (Nat.le_of_ble_eq_true rfl) ?_
  exact r_out C htab hce hcv hcl hP hD hS rfl (Nat.le_of_ble_eq_true rfl) (Nat.le_of_ble_eq_true rfl)
set_option maxHeartbeats 4000000 in
set_option maxRecDepth 100000 in
theorem k_moveGuard (l : Launch) (hlt : l.stackTraces = false) (D : va_G) (cI cZ cJ : ClassId) (x : Nat) (inp : Nat) (par : Nat) (pla : Nat) (dra : Nat) (lat : Nat) (his : Nat) (f1 : Nat) (f2 : Nat) (hd : Int32) (ec : Int32) (ea : Int32) (g : Nat → Value) (gp : Nat → Value) (a0 : Int32) (a1 : Int32)  : cX l yX11_moveGuard cX11_moveGuard 4 (some .int) D (TT cI cZ cJ) [.ref x, .int a0, .int a1] [(x, .inr (10, xC inp par pla dra lat his f1 f2 hd ec ea g)), (pla, .inr (5, pC 0 0 0 gp))] "java/lang/IllegalStateException" [(x, .inr (10, xC inp par pla dra lat his f1 f2 hd ec ea g)), (pla, .inr (5, pC 0 0 0 gp))] 1 1 6 := by
  refine enterX (by decide) (Nat.le_of_ble_eq_true rfl) ?_
  intro p e s m below meth c ls A C htab hP hD hS hl
  have hx := C.1
  have hb := C.2.1
  have hl : lv_has ls 4 [(0, .ref x), (1, .int a0), (2, .int a1)] := hl
  refine lv_aload_n hx hb dX11_moveGuard_0 rfl (lv_at hl 0 rfl) ?_
  refine call_X (wr := []) C (run_VX (As := []) (rest := []) C (k_needPolygon l hlt D cI cZ cJ x inp par pla dra lat his f1 f2 hd ec ea g gp ) cV_X11_155 hP hD hS [0, 1] rfl rfl 0 rfl rfl rfl rfl hl.1 rfl (Nat.le_of_ble_eq_true rfl) dX11_moveGuard_1 ⟨Nat.le_of_ble_eq_true rfl, Nat.le_of_ble_eq_true rfl⟩ ⟨Nat.le_of_ble_eq_true rfl, Nat.le_of_ble_eq_true rfl⟩) hP hD hS [0, 1] [] rfl rfl rfl (by decide) (fun ce q9 H locs hce hcv hcl hP hD hS => ?_)
  have hP : va_P D CL [(x, .inr (10, xC inp par pla dra lat his f1 f2 hd ec ea g)), (pla, .inr (5, pC 0 0 0 gp))] H := hP
  have hD : va_D A [(x, .inr (10, xC inp par pla dra lat his f1 f2 hd ec ea g)), (pla, .inr (5, pC 0 0 0 gp))] := hD
  refine vx_widen (k := 1) (n := 6) (Nat.le_of_ble_eq_true rfl) (Nat.le_of_ble_eq_true rfl) ?_
  exact r_out C htab hce hcv hcl hP hD hS rfl (Nat.le_of_ble_eq_true rfl) (Nat.le_of_ble_eq_true rfl)
set_option maxHeartbeats 4000000 in
set_option maxRecDepth 100000 in
theorem k_setRange (l : Launch) (hlt : l.stackTraces = false) (D : va_G) (cI cZ cJ : ClassId) (x : Nat) (inp : Nat) (par : Nat) (pla : Nat) (dra : Nat) (lat : Nat) (his : Nat) (f1 : Nat) (f2 : Nat) (hd : Int32) (ec : Int32) (ea : Int32) (g : Nat → Value) (gp : Nat → Value) (a0 : Int32) (a1 : Int32)  : cX l yX11_setRange cX11_setRange 4 (some .int) D (TT cI cZ cJ) [.ref x, .int a0, .int a1] [(x, .inr (10, xC inp par pla dra lat his f1 f2 hd ec ea g)), (pla, .inr (5, pC 0 0 0 gp))] "java/lang/IllegalStateException" [(x, .inr (10, xC inp par pla dra lat his f1 f2 hd ec ea g)), (pla, .inr (5, pC 0 0 0 gp))] 1 1 6 := by
  refine enterX (by decide) (Nat.le_of_ble_eq_true rfl) ?_
  intro p e s m below meth c ls A C htab hP hD hS hl
  have hx := C.1
  have hb := C.2.1
  have hl : lv_has ls 4 [(0, .ref x), (1, .int a0), (2, .int a1)] := hl
  refine lv_aload_n hx hb dX11_setRange_0 rfl (lv_at hl 0 rfl) ?_
  refine call_X (wr := []) C (run_VX (As := []) (rest := []) C (k_needPolygon l hlt D cI cZ cJ x inp par pla dra lat his f1 f2 hd ec ea g gp ) cV_X11_155 hP hD hS [0, 1] rfl rfl 0 rfl rfl rfl rfl hl.1 rfl (Nat.le_of_ble_eq_true rfl) dX11_setRange_1 ⟨Nat.le_of_ble_eq_true rfl, Nat.le_of_ble_eq_true rfl⟩ ⟨Nat.le_of_ble_eq_true rfl, Nat.le_of_ble_eq_true rfl⟩) hP hD hS [0, 1] [] rfl rfl rfl (by decide) (fun ce q9 H locs hce hcv hcl hP hD hS => ?_)
  have hP : va_P D CL [(x, .inr (10, xC inp par pla dra lat his f1 f2 hd ec ea g)), (pla, .inr (5, pC 0 0 0 gp))] H := hP
  have hD : va_D A [(x, .inr (10, xC inp par pla dra lat his f1 f2 hd ec ea g)), (pla, .inr (5, pC 0 0 0 gp))] := hD
  refine vx_widen (k := 1) (n := 6) (Nat.le_of_ble_eq_true rfl) (Nat.le_of_ble_eq_true rfl) ?_
  exact r_out C htab hce hcv hcl hP hD hS rfl (Nat.le_of_ble_eq_true rfl) (Nat.le_of_ble_eq_true rfl)
set_option maxHeartbeats 4000000 in
set_option maxRecDepth 100000 in
theorem k_moveVertex (l : Launch) (hlt : l.stackTraces = false) (D : va_G) (cI cZ cJ : ClassId) (x : Nat) (inp : Nat) (par : Nat) (pla : Nat) (dra : Nat) (lat : Nat) (his : Nat) (f1 : Nat) (f2 : Nat) (hd : Int32) (ec : Int32) (ea : Int32) (g : Nat → Value) (gp : Nat → Value) (a0 : Int32) (a1 : Int32) (a2 : Int32)  : cX l yX11_moveVertex cX11_moveVertex 4 (some .int) D (TT cI cZ cJ) [.ref x, .int a0, .int a1, .int a2] [(x, .inr (10, xC inp par pla dra lat his f1 f2 hd ec ea g)), (pla, .inr (5, pC 0 0 0 gp))] "java/lang/IllegalStateException" [(x, .inr (10, xC inp par pla dra lat his f1 f2 hd ec ea g)), (pla, .inr (5, pC 0 0 0 gp))] 1 1 6 := by
  refine enterX (by decide) (Nat.le_of_ble_eq_true rfl) ?_
  intro p e s m below meth c ls A C htab hP hD hS hl
  have hx := C.1
  have hb := C.2.1
  have hl : lv_has ls 4 [(0, .ref x), (1, .int a0), (2, .int a1), (3, .int a2)] := hl
  refine lv_aload_n hx hb dX11_moveVertex_0 rfl (lv_at hl 0 rfl) ?_
  refine call_X (wr := []) C (run_VX (As := []) (rest := []) C (k_needPolygon l hlt D cI cZ cJ x inp par pla dra lat his f1 f2 hd ec ea g gp ) cV_X11_155 hP hD hS [0, 1] rfl rfl 0 rfl rfl rfl rfl hl.1 rfl (Nat.le_of_ble_eq_true rfl) dX11_moveVertex_1 ⟨Nat.le_of_ble_eq_true rfl, Nat.le_of_ble_eq_true rfl⟩ ⟨Nat.le_of_ble_eq_true rfl, Nat.le_of_ble_eq_true rfl⟩) hP hD hS [0, 1] [] rfl rfl rfl (by decide) (fun ce q9 H locs hce hcv hcl hP hD hS => ?_)
  have hP : va_P D CL [(x, .inr (10, xC inp par pla dra lat his f1 f2 hd ec ea g)), (pla, .inr (5, pC 0 0 0 gp))] H := hP
  have hD : va_D A [(x, .inr (10, xC inp par pla dra lat his f1 f2 hd ec ea g)), (pla, .inr (5, pC 0 0 0 gp))] := hD
  refine vx_widen (k := 1) (n := 6) (Nat.le_of_ble_eq_true rfl) (Nat.le_of_ble_eq_true rfl) ?_
  exact r_out C htab hce hcv hcl hP hD hS rfl (Nat.le_of_ble_eq_true rfl) (Nat.le_of_ble_eq_true rfl)
set_option maxHeartbeats 4000000 in
set_option maxRecDepth 100000 in
theorem k_insertVertex (l : Launch) (hlt : l.stackTraces = false) (D : va_G) (cI cZ cJ : ClassId) (x : Nat) (inp : Nat) (par : Nat) (pla : Nat) (dra : Nat) (lat : Nat) (his : Nat) (f1 : Nat) (f2 : Nat) (hd : Int32) (ec : Int32) (ea : Int32) (g : Nat → Value) (gp : Nat → Value) (a0 : Int32) (a1 : Int32) (a2 : Int32)  : cX l yX11_insertVertex cX11_insertVertex 4 (some .int) D (TT cI cZ cJ) [.ref x, .int a0, .int a1, .int a2] [(x, .inr (10, xC inp par pla dra lat his f1 f2 hd ec ea g)), (pla, .inr (5, pC 0 0 0 gp))] "java/lang/IllegalStateException" [(x, .inr (10, xC inp par pla dra lat his f1 f2 hd ec ea g)), (pla, .inr (5, pC 0 0 0 gp))] 1 1 6 := by
  refine enterX (by decide) (Nat.le_of_ble_eq_true rfl) ?_
  intro p e s m below meth c ls A C htab hP hD hS hl
  have hx := C.1
  have hb := C.2.1
  have hl : lv_has ls 4 [(0, .ref x), (1, .int a0), (2, .int a1), (3, .int a2)] := hl
  refine lv_aload_n hx hb dX11_insertVertex_0 rfl (lv_at hl 0 rfl) ?_
  refine call_X (wr := []) C (run_VX (As := []) (rest := []) C (k_needPolygon l hlt D cI cZ cJ x inp par pla dra lat his f1 f2 hd ec ea g gp ) cV_X11_155 hP hD hS [0, 1] rfl rfl 0 rfl rfl rfl rfl hl.1 rfl (Nat.le_of_ble_eq_true rfl) dX11_insertVertex_1 ⟨Nat.le_of_ble_eq_true rfl, Nat.le_of_ble_eq_true rfl⟩ ⟨Nat.le_of_ble_eq_true rfl, Nat.le_of_ble_eq_true rfl⟩) hP hD hS [0, 1] [] rfl rfl rfl (by decide) (fun ce q9 H locs hce hcv hcl hP hD hS => ?_)
  have hP : va_P D CL [(x, .inr (10, xC inp par pla dra lat his f1 f2 hd ec ea g)), (pla, .inr (5, pC 0 0 0 gp))] H := hP
  have hD : va_D A [(x, .inr (10, xC inp par pla dra lat his f1 f2 hd ec ea g)), (pla, .inr (5, pC 0 0 0 gp))] := hD
  refine vx_widen (k := 1) (n := 6) (Nat.le_of_ble_eq_true rfl) (Nat.le_of_ble_eq_true rfl) ?_
  exact r_out C htab hce hcv hcl hP hD hS rfl (Nat.le_of_ble_eq_true rfl) (Nat.le_of_ble_eq_true rfl)
set_option maxHeartbeats 4000000 in
set_option maxRecDepth 100000 in
theorem k_deleteVertex (l : Launch) (hlt : l.stackTraces = false) (D : va_G) (cI cZ cJ : ClassId) (x : Nat) (inp : Nat) (par : Nat) (pla : Nat) (dra : Nat) (lat : Nat) (his : Nat) (f1 : Nat) (f2 : Nat) (hd : Int32) (ec : Int32) (ea : Int32) (g : Nat → Value) (gp : Nat → Value) (a0 : Int32)  : cX l yX11_deleteVertex cX11_deleteVertex 2 (some .int) D (TT cI cZ cJ) [.ref x, .int a0] [(x, .inr (10, xC inp par pla dra lat his f1 f2 hd ec ea g)), (pla, .inr (5, pC 0 0 0 gp))] "java/lang/IllegalStateException" [(x, .inr (10, xC inp par pla dra lat his f1 f2 hd ec ea g)), (pla, .inr (5, pC 0 0 0 gp))] 1 1 6 := by
  refine enterX (by decide) (Nat.le_of_ble_eq_true rfl) ?_
  intro p e s m below meth c ls A C htab hP hD hS hl
  have hx := C.1
  have hb := C.2.1
  have hl : lv_has ls 2 [(0, .ref x), (1, .int a0)] := hl
  refine lv_aload_n hx hb dX11_deleteVertex_0 rfl (lv_at hl 0 rfl) ?_
  refine call_X (wr := []) C (run_VX (As := []) (rest := []) C (k_needPolygon l hlt D cI cZ cJ x inp par pla dra lat his f1 f2 hd ec ea g gp ) cV_X11_155 hP hD hS [0, 1] rfl rfl 0 rfl rfl rfl rfl hl.1 rfl (Nat.le_of_ble_eq_true rfl) dX11_deleteVertex_1 ⟨Nat.le_of_ble_eq_true rfl, Nat.le_of_ble_eq_true rfl⟩ ⟨Nat.le_of_ble_eq_true rfl, Nat.le_of_ble_eq_true rfl⟩) hP hD hS [0, 1] [] rfl rfl rfl (by decide) (fun ce q9 H locs hce hcv hcl hP hD hS => ?_)
  have hP : va_P D CL [(x, .inr (10, xC inp par pla dra lat his f1 f2 hd ec ea g)), (pla, .inr (5, pC 0 0 0 gp))] H := hP
  have hD : va_D A [(x, .inr (10, xC inp par pla dra lat his f1 f2 hd ec ea g)), (pla, .inr (5, pC 0 0 0 gp))] := hD
  refine vx_widen (k := 1) (n := 6) (Nat.le_of_ble_eq_true rfl) (Nat.le_of_ble_eq_true rfl) ?_
  exact r_out C htab hce hcv hcl hP hD hS rfl (Nat.le_of_ble_eq_true rfl) (Nat.le_of_ble_eq_true rfl)
set_option maxHeartbeats 4000000 in
set_option maxRecDepth 100000 in
theorem k_save (l : Launch) (hlt : l.stackTraces = false) (D : va_G) (cI cZ cJ : ClassId) (x : Nat) (inp : Nat) (par : Nat) (pla : Nat) (dra : Nat) (lat : Nat) (his : Nat) (f1 : Nat) (f2 : Nat) (hd : Int32) (ec : Int32) (ea : Int32) (g : Nat → Value) (gp : Nat → Value) (a0 : Int32)  : cX l yX11_save cX11_save 2 (some .int) D (TT cI cZ cJ) [.ref x, .int a0] [(x, .inr (10, xC inp par pla dra lat his f1 f2 hd ec ea g)), (pla, .inr (5, pC 0 0 0 gp))] "java/lang/IllegalStateException" [(x, .inr (10, xC inp par pla dra lat his f1 f2 hd ec ea g)), (pla, .inr (5, pC 0 0 0 gp))] 1 1 6 := by
  refine enterX (by decide) (Nat.le_of_ble_eq_true rfl) ?_
  intro p e s m below meth c ls A C htab hP hD hS hl
  have hx := C.1
  have hb := C.2.1
  have hl : lv_has ls 2 [(0, .ref x), (1, .int a0)] := hl
  refine lv_aload_n hx hb dX11_save_0 rfl (lv_at hl 0 rfl) ?_
  refine call_X (wr := []) C (run_VX (As := []) (rest := []) C (k_needPolygon l hlt D cI cZ cJ x inp par pla dra lat his f1 f2 hd ec ea g gp ) cV_X11_155 hP hD hS [0, 1] rfl rfl 0 rfl rfl rfl rfl hl.1 rfl (Nat.le_of_ble_eq_true rfl) dX11_save_1 ⟨Nat.le_of_ble_eq_true rfl, Nat.le_of_ble_eq_true rfl⟩ ⟨Nat.le_of_ble_eq_true rfl, Nat.le_of_ble_eq_true rfl⟩) hP hD hS [0, 1] [] rfl rfl rfl (by decide) (fun ce q9 H locs hce hcv hcl hP hD hS => ?_)
  have hP : va_P D CL [(x, .inr (10, xC inp par pla dra lat his f1 f2 hd ec ea g)), (pla, .inr (5, pC 0 0 0 gp))] H := hP
  have hD : va_D A [(x, .inr (10, xC inp par pla dra lat his f1 f2 hd ec ea g)), (pla, .inr (5, pC 0 0 0 gp))] := hD
  refine vx_widen (k := 1) (n := 6) (Nat.le_of_ble_eq_true rfl) (Nat.le_of_ble_eq_true rfl) ?_
  exact r_out C htab hce hcv hcl hP hD hS rfl (Nat.le_of_ble_eq_true rfl) (Nat.le_of_ble_eq_true rfl)
