set_option maxHeartbeats 4000000 in
set_option maxRecDepth 100000 in
theorem k_parseError (l : Launch) (D : va_G) (cI cZ cJ : ClassId) (x : Nat) (inp : Nat) (par : Nat) (pla : Nat) (dra : Nat) (lat : Nat) (his : Nat) (f1 : Nat) (f2 : Nat) (hd : Int32) (ec : Int32) (ea : Int32) (g : Nat → Value)  : cM l yX11_parseError cX11_parseError 1 (some .int) D (TT cI cZ cJ) [.ref x] [(x, .inr (10, xC inp par pla dra lat his f1 f2 hd ec ea g))] (qI D (TT cI cZ cJ) (fun u : Unit => ec) (fun u : Unit => [(x, .inr (10, xC inp par pla dra lat his f1 f2 hd ec ea g))])) 0 0 0 := by
  refine enterM (by decide) (Nat.le_of_ble_eq_true rfl) ?_
  intro p e s m below meth c ls A C hP hD hS hl
  have hx := C.1
  have hb := C.2.1
  have hl : lv_has ls 1 [(0, .ref x)] := hl
  refine lv_aload_n hx hb dX11_parseError_0 rfl (lv_at hl 0 rfl) ?_
  refine r_get (v := .int ec) C hP 0 rfl fg_X11_109 rfl dX11_parseError_1 ?_
  exact r_iret C hP hD hS () rfl rfl (Nat.le_of_ble_eq_true rfl) (Nat.le_of_ble_eq_true rfl) dX11_parseError_4
set_option maxHeartbeats 4000000 in
set_option maxRecDepth 100000 in
theorem k_errorPosition (l : Launch) (D : va_G) (cI cZ cJ : ClassId) (x : Nat) (inp : Nat) (par : Nat) (pla : Nat) (dra : Nat) (lat : Nat) (his : Nat) (f1 : Nat) (f2 : Nat) (hd : Int32) (ec : Int32) (ea : Int32) (g : Nat → Value)  : cM l yX11_errorPosition cX11_errorPosition 1 (some .int) D (TT cI cZ cJ) [.ref x] [(x, .inr (10, xC inp par pla dra lat his f1 f2 hd ec ea g))] (qI D (TT cI cZ cJ) (fun u : Unit => ea) (fun u : Unit => [(x, .inr (10, xC inp par pla dra lat his f1 f2 hd ec ea g))])) 0 0 0 := by
  refine enterM (by decide) (Nat.le_of_ble_eq_true rfl) ?_
  intro p e s m below meth c ls A C hP hD hS hl
  have hx := C.1
  have hb := C.2.1
  have hl : lv_has ls 1 [(0, .ref x)] := hl
  refine lv_aload_n hx hb dX11_errorPosition_0 rfl (lv_at hl 0 rfl) ?_
  refine r_get (v := .int ea) C hP 0 rfl fg_X11_113 rfl dX11_errorPosition_1 ?_
  exact r_iret C hP hD hS () rfl rfl (Nat.le_of_ble_eq_true rfl) (Nat.le_of_ble_eq_true rfl) dX11_errorPosition_4
set_option maxHeartbeats 4000000 in
set_option maxRecDepth 100000 in
theorem k_buffered (l : Launch) (D : va_G) (cI cZ cJ : ClassId) (x : Nat) (inp : Nat) (par : Nat) (pla : Nat) (dra : Nat) (lat : Nat) (his : Nat) (f1 : Nat) (f2 : Nat) (hd : Int32) (ec : Int32) (ea : Int32) (g : Nat → Value) (byt : Nat)  : cM l yX11_buffered cX11_buffered 1 (some .int) D (TT cI cZ cJ) [.ref x] [(x, .inr (10, xC inp par pla dra lat his f1 f2 hd ec ea g)), (inp, .inr (2, [.int 0, .int 0, .int 0, .int 0, .int 0, .int 0, .ref byt]))] (qI D (TT cI cZ cJ) (fun u : Unit => 0) (fun u : Unit => [(x, .inr (10, xC inp par pla dra lat his f1 f2 hd ec ea g)), (inp, .inr (2, [.int 0, .int 0, .int 0, .int 0, .int 0, .int 0, .ref byt]))])) 0 0 0 := by
  refine enterM (by decide) (Nat.le_of_ble_eq_true rfl) ?_
  intro p e s m below meth c ls A C hP hD hS hl
  have hx := C.1
  have hb := C.2.1
  have hl : lv_has ls 1 [(0, .ref x)] := hl
  refine lv_aload_n hx hb dX11_buffered_0 rfl (lv_at hl 0 rfl) ?_
  refine r_get (v := .ref inp) C hP 0 rfl fg_X11_12 rfl dX11_buffered_1 ?_
  refine r_get (v := .int 0) C hP 1 rfl fg_X11_116 rfl dX11_buffered_4 ?_
  exact r_iret C hP hD hS () rfl rfl (Nat.le_of_ble_eq_true rfl) (Nat.le_of_ble_eq_true rfl) dX11_buffered_7
set_option maxHeartbeats 4000000 in
set_option maxRecDepth 100000 in
theorem k_vertices (l : Launch) (D : va_G) (cI cZ cJ : ClassId) (x : Nat) (inp : Nat) (par : Nat) (pla : Nat) (dra : Nat) (lat : Nat) (his : Nat) (f1 : Nat) (f2 : Nat) (hd : Int32) (ec : Int32) (ea : Int32) (g : Nat → Value) (gp : Nat → Value)  : cM l yX11_vertices cX11_vertices 1 (some .int) D (TT cI cZ cJ) [.ref x] [(x, .inr (10, xC inp par pla dra lat his f1 f2 hd ec ea g)), (pla, .inr (5, pC 0 0 0 gp))] (qI D (TT cI cZ cJ) (fun u : Unit => 0) (fun u : Unit => [(x, .inr (10, xC inp par pla dra lat his f1 f2 hd ec ea g)), (pla, .inr (5, pC 0 0 0 gp))])) 0 0 0 := by
  refine enterM (by decide) (Nat.le_of_ble_eq_true rfl) ?_
  intro p e s m below meth c ls A C hP hD hS hl
  have hx := C.1
  have hb := C.2.1
  have hl : lv_has ls 1 [(0, .ref x)] := hl
  refine lv_aload_n hx hb dX11_vertices_0 rfl (lv_at hl 0 rfl) ?_
  refine r_get (v := .ref pla) C hP 0 rfl fg_X11_19 rfl dX11_vertices_1 ?_
  refine r_get (v := .int 0) C hP 1 rfl fg_X11_152 rfl dX11_vertices_4 ?_
  exact r_iret C hP hD hS () rfl rfl (Nat.le_of_ble_eq_true rfl) (Nat.le_of_ble_eq_true rfl) dX11_vertices_7
set_option maxHeartbeats 4000000 in
set_option maxRecDepth 100000 in
theorem k_guards (l : Launch) (D : va_G) (cI cZ cJ : ClassId) (x : Nat) (inp : Nat) (par : Nat) (pla : Nat) (dra : Nat) (lat : Nat) (his : Nat) (f1 : Nat) (f2 : Nat) (hd : Int32) (ec : Int32) (ea : Int32) (g : Nat → Value) (gp : Nat → Value)  : cM l yX11_guards cX11_guards 1 (some .int) D (TT cI cZ cJ) [.ref x] [(x, .inr (10, xC inp par pla dra lat his f1 f2 hd ec ea g)), (pla, .inr (5, pC 0 0 0 gp))] (qI D (TT cI cZ cJ) (fun u : Unit => 0) (fun u : Unit => [(x, .inr (10, xC inp par pla dra lat his f1 f2 hd ec ea g)), (pla, .inr (5, pC 0 0 0 gp))])) 0 0 0 := by
  refine enterM (by decide) (Nat.le_of_ble_eq_true rfl) ?_
  intro p e s m below meth c ls A C hP hD hS hl
  have hx := C.1
  have hb := C.2.1
  have hl : lv_has ls 1 [(0, .ref x)] := hl
  refine lv_aload_n hx hb dX11_guards_0 rfl (lv_at hl 0 rfl) ?_
  refine r_get (v := .ref pla) C hP 0 rfl fg_X11_19 rfl dX11_guards_1 ?_
  refine r_get (v := .int 0) C hP 1 rfl fg_X11_262 rfl dX11_guards_4 ?_
  exact r_iret C hP hD hS () rfl rfl (Nat.le_of_ble_eq_true rfl) (Nat.le_of_ble_eq_true rfl) dX11_guards_7
set_option maxHeartbeats 4000000 in
set_option maxRecDepth 100000 in
theorem k_treasures (l : Launch) (D : va_G) (cI cZ cJ : ClassId) (x : Nat) (inp : Nat) (par : Nat) (pla : Nat) (dra : Nat) (lat : Nat) (his : Nat) (f1 : Nat) (f2 : Nat) (hd : Int32) (ec : Int32) (ea : Int32) (g : Nat → Value) (gp : Nat → Value)  : cM l yX11_treasures cX11_treasures 1 (some .int) D (TT cI cZ cJ) [.ref x] [(x, .inr (10, xC inp par pla dra lat his f1 f2 hd ec ea g)), (pla, .inr (5, pC 0 0 0 gp))] (qI D (TT cI cZ cJ) (fun u : Unit => 0) (fun u : Unit => [(x, .inr (10, xC inp par pla dra lat his f1 f2 hd ec ea g)), (pla, .inr (5, pC 0 0 0 gp))])) 0 0 0 := by
  refine enterM (by decide) (Nat.le_of_ble_eq_true rfl) ?_
  intro p e s m below meth c ls A C hP hD hS hl
  have hx := C.1
  have hb := C.2.1
  have hl : lv_has ls 1 [(0, .ref x)] := hl
  refine lv_aload_n hx hb dX11_treasures_0 rfl (lv_at hl 0 rfl) ?_
  refine r_get (v := .ref pla) C hP 0 rfl fg_X11_19 rfl dX11_treasures_1 ?_
  refine r_get (v := .int 0) C hP 1 rfl fg_X11_295 rfl dX11_treasures_4 ?_
  exact r_iret C hP hD hS () rfl rfl (Nat.le_of_ble_eq_true rfl) (Nat.le_of_ble_eq_true rfl) dX11_treasures_7
set_option maxHeartbeats 4000000 in
set_option maxRecDepth 100000 in
theorem k_points (l : Launch) (D : va_G) (cI cZ cJ : ClassId) (x : Nat) (inp : Nat) (par : Nat) (pla : Nat) (dra : Nat) (lat : Nat) (his : Nat) (f1 : Nat) (f2 : Nat) (hd : Int32) (ec : Int32) (ea : Int32) (g : Nat → Value) (gl : Nat → Value)  : cM l yX11_points cX11_points 1 (some .int) D (TT cI cZ cJ) [.ref x] [(x, .inr (10, xC inp par pla dra lat his f1 f2 hd ec ea g)), (lat, .inr (3, [.int 0, .long 0, gl 2, gl 3, gl 4]))] (qI D (TT cI cZ cJ) (fun u : Unit => 0) (fun u : Unit => [(x, .inr (10, xC inp par pla dra lat his f1 f2 hd ec ea g)), (lat, .inr (3, [.int 0, .long 0, gl 2, gl 3, gl 4]))])) 0 0 0 := by
  refine enterM (by decide) (Nat.le_of_ble_eq_true rfl) ?_
  intro p e s m below meth c ls A C hP hD hS hl
  have hx := C.1
  have hb := C.2.1
  have hl : lv_has ls 1 [(0, .ref x)] := hl
  refine lv_aload_n hx hb dX11_points_0 rfl (lv_at hl 0 rfl) ?_
  refine r_get (v := .ref lat) C hP 0 rfl fg_X11_29 rfl dX11_points_1 ?_
  refine r_get (v := .int 0) C hP 1 rfl fg_X11_149 rfl dX11_points_4 ?_
  exact r_iret C hP hD hS () rfl rfl (Nat.le_of_ble_eq_true rfl) (Nat.le_of_ble_eq_true rfl) dX11_points_7
set_option maxHeartbeats 4000000 in
set_option maxRecDepth 100000 in
theorem k_undoable (l : Launch) (D : va_G) (cI cZ cJ : ClassId) (x : Nat) (inp : Nat) (par : Nat) (pla : Nat) (dra : Nat) (lat : Nat) (his : Nat) (f1 : Nat) (f2 : Nat) (hd : Int32) (ec : Int32) (ea : Int32) (g : Nat → Value) (gh : Nat → Value)  : cM l yX11_undoable cX11_undoable 1 (some .int) D (TT cI cZ cJ) [.ref x] [(x, .inr (10, xC inp par pla dra lat his f1 f2 hd ec ea g)), (his, .inr (1, [.int 0, .int 0, gh 2]))] (qI D (TT cI cZ cJ) (fun u : Unit => 0) (fun u : Unit => [(x, .inr (10, xC inp par pla dra lat his f1 f2 hd ec ea g)), (his, .inr (1, [.int 0, .int 0, gh 2]))])) 0 0 0 := by
  refine enterM (by decide) (Nat.le_of_ble_eq_true rfl) ?_
  intro p e s m below meth c ls A C hP hD hS hl
  have hx := C.1
  have hb := C.2.1
  have hl : lv_has ls 1 [(0, .ref x)] := hl
  refine lv_aload_n hx hb dX11_undoable_0 rfl (lv_at hl 0 rfl) ?_
  refine r_get (v := .ref his) C hP 0 rfl fg_X11_91 rfl dX11_undoable_1 ?_
  refine r_get (v := .int 0) C hP 1 rfl fg_X11_348 rfl dX11_undoable_4 ?_
  exact r_iret C hP hD hS () rfl rfl (Nat.le_of_ble_eq_true rfl) (Nat.le_of_ble_eq_true rfl) dX11_undoable_7
