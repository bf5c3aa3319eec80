set_option maxHeartbeats 4000000 in
set_option maxRecDepth 100000 in
theorem k_undo (l : Launch) (hlt : l.stackTraces = false) (D : va_G) (cI cZ cJ : ClassId) (x : Nat) (inp : Nat) (par : Nat) (pla : Nat) (dra : Nat) (lat : Nat) (his : Nat) (f1 : Nat) (f2 : Nat) (hd : Int32) (ec : Int32) (ea : Int32) (g : Nat → Value) (gh : Nat → Value)  : cX l yX11_undo cX11_undo 1 (some .int) D (TT cI cZ cJ) [.ref x] [(x, .inr (10, xC inp par pla dra lat his f1 f2 hd ec ea g)), (his, .inr (1, [.int 0, .int 0, gh 2]))] "java/lang/IllegalStateException" [(x, .inr (10, xC inp par pla dra lat his f1 f2 hd ec ea g)), (his, .inr (1, [.int 0, .int 0, gh 2]))] 1 1 6 := by
  refine enterX (by decide) (Nat.le_of_ble_eq_true rfl) ?_
  intro p e s m below meth c ls A C htab hP hD hS hl
  have hx := C.1
  have hb := C.2.1
  have hl : lv_has ls 1 [(0, .ref x)] := hl
  refine lv_aload_n hx hb dX11_undo_0 rfl (lv_at hl 0 rfl) ?_
  refine r_get (v := .ref his) C hP 0 rfl fg_X11_91 rfl dX11_undo_1 ?_
  refine r_get (v := .int 0) C hP 1 rfl fg_X11_348 rfl dX11_undo_4 ?_
  refine lv_if_ne (tgt := 21) hx hb dX11_undo_7 (by decide) (fun h => absurd h (by decide)) (fun _ => ?_)
  exact r_throwW C htab hlt hP hD hS tf_X11_311_349 hl.1 dX11_undo_10 dX11_undo_13 dX11_undo_14 dX11_undo_17 dX11_undo_20 rfl (Nat.le_of_ble_eq_true rfl) (Nat.le_of_ble_eq_true rfl) (Nat.le_of_ble_eq_true rfl) (Nat.le_of_ble_eq_true rfl) (Nat.le_of_ble_eq_true rfl) (Nat.le_of_ble_eq_true rfl)
set_option maxHeartbeats 4000000 in
set_option maxRecDepth 100000 in
theorem h_undo (l : Launch) (hlt : l.stackTraces = false) (D : va_G) (cI cZ cJ : ClassId) (x : Nat) (inp : Nat) (par : Nat) (pla : Nat) (dra : Nat) (lat : Nat) (his : Nat) (f1 : Nat) (f2 : Nat) (hd : Int32) (ec : Int32) (ea : Int32) (g : Nat → Value) (gh : Nat → Value) (o : Nat)  : cMW l yL_undo cL_undo 3 (some .int) [(0, 8, 11, 20)] D (TT cI cZ cJ) [.ref x, .ref o] [(x, .inr (10, xC inp par pla dra lat his f1 f2 hd ec ea g)), (his, .inr (1, [.int 0, .int 0, gh 2]))] (qI D (TT cI cZ cJ) (fun u : Unit => 1) (fun u : Unit => [(x, .inr (10, xC inp par pla dra lat his f1 f2 hd ec ea g)), (his, .inr (1, [.int 0, .int 0, gh 2]))])) 5 1 6 := by
  refine enterW (by decide) (Nat.le_of_ble_eq_true rfl) ?_
  intro p e s m below meth c ls A C htab hP hD hS hl
  have hx := C.1
  have hb := C.2.1
  have hl : lv_has ls 3 [(0, .ref x), (1, .ref o)] := hl
  refine lv_aload_n hx hb dL_undo_0 rfl (lv_at hl 1 rfl) ?_
  refine lv_iconst (v := 0) hx hb dL_undo_1 (by decide) ?_
  refine lv_aload_n hx hb dL_undo_2 rfl (lv_at hl 0 rfl) ?_
  refine call_X (wr := []) C (run_VX (As := []) (rest := [.int 0, .ref o]) C (k_undo l hlt D cI cZ cJ x inp par pla dra lat his f1 f2 hd ec ea g gh ) cV_L_163 hP hD hS [0, 1] rfl rfl 0 rfl rfl rfl rfl hl.1 rfl (Nat.le_of_ble_eq_true rfl) dL_undo_3 ⟨Nat.le_of_ble_eq_true rfl, Nat.le_of_ble_eq_true rfl⟩ ⟨Nat.le_of_ble_eq_true rfl, Nat.le_of_ble_eq_true rfl⟩) hP hD hS [0, 1] [] rfl rfl rfl (by decide) (fun ce q9 H locs hce hcv hcl hP hD hS => ?_)
  have hP : va_P D CL [(x, .inr (10, xC inp par pla dra lat his f1 f2 hd ec ea g)), (his, .inr (1, [.int 0, .int 0, gh 2]))] H := hP
  have hD : va_D A [(x, .inr (10, xC inp par pla dra lat his f1 f2 hd ec ea g)), (his, .inr (1, [.int 0, .int 0, gh 2]))] := hD
  refine vx_widen (k := 1) (n := 6) (Nat.le_of_ble_eq_true rfl) (Nat.le_of_ble_eq_true rfl) ?_
  refine r_catch (E := "java/lang/IllegalStateException") C (by decide) [] ⟨0, 8, 11, 20⟩ [] (htab.trans rfl) (fun z hz => nomatch hz) rfl (by decide) w_42 hce hcv hcl ?_
  refine W.eq (g2 := F0 m 11 ls [.ref q9]) rfl ?_
  refine lv_astore_n (lv' := [(2, .ref q9), (0, .ref x), (1, .ref o)]) hx hb dL_undo_11 rfl hl (by decide) rfl (fun ls hl => ?_)
  refine lv_iconst (v := 1) hx hb dL_undo_12 (by decide) ?_
  exact r_iret C hP hD hS () rfl rfl (Nat.le_of_ble_eq_true rfl) (Nat.le_of_ble_eq_true rfl) dL_undo_13
set_option maxHeartbeats 4000000 in
set_option maxRecDepth 100000 in
theorem k_ni_l (l : Launch) (hlt : l.stackTraces = false) (D : va_G) (cI cZ cJ : ClassId) (a0 : Int32) (a1 : Int32) (h1 : a0 < 0) : cX l yX11_needIndex cX11_needIndex 2 none D (TT cI cZ cJ) [.int a0, .int a1] [] "java/lang/IndexOutOfBoundsException" [] 0 1 6 := by
  refine enterX (by decide) (Nat.le_of_ble_eq_true rfl) ?_
  intro p e s m below meth c ls A C htab hP hD hS hl
  have hx := C.1
  have hb := C.2.1
  have hl : lv_has ls 2 [(0, .int a0), (1, .int a1)] := hl
  refine lv_iload_n hx hb dX11_needIndex_0 rfl (lv_at hl 0 rfl) ?_
  refine lv_if_lt (tgt := 9) hx hb dX11_needIndex_1 (by decide) (fun _ => ?_) (fun h => absurd h1 h)
  exact r_throwW C htab hlt hP hD hS tf_X11_123_362 hl.1 dX11_needIndex_9 dX11_needIndex_12 dX11_needIndex_13 dX11_needIndex_16 dX11_needIndex_19 rfl (Nat.le_of_ble_eq_true rfl) (Nat.le_of_ble_eq_true rfl) (Nat.le_of_ble_eq_true rfl) (Nat.le_of_ble_eq_true rfl) (Nat.le_of_ble_eq_true rfl) (Nat.le_of_ble_eq_true rfl)
set_option maxHeartbeats 4000000 in
set_option maxRecDepth 100000 in
theorem k_ni_g (l : Launch) (hlt : l.stackTraces = false) (D : va_G) (cI cZ cJ : ClassId) (a0 : Int32) (a1 : Int32) (h1 : ¬ a0 < 0) (h2 : ¬ a0 < a1) : cX l yX11_needIndex cX11_needIndex 2 none D (TT cI cZ cJ) [.int a0, .int a1] [] "java/lang/IndexOutOfBoundsException" [] 0 1 6 := by
  refine enterX (by decide) (Nat.le_of_ble_eq_true rfl) ?_
  intro p e s m below meth c ls A C htab hP hD hS hl
  have hx := C.1
  have hb := C.2.1
  have hl : lv_has ls 2 [(0, .int a0), (1, .int a1)] := hl
  refine lv_iload_n hx hb dX11_needIndex_0 rfl (lv_at hl 0 rfl) ?_
  refine lv_if_lt (tgt := 9) hx hb dX11_needIndex_1 (by decide) (fun h => absurd h h1) (fun _ => ?_)
  refine lv_iload_n hx hb dX11_needIndex_4 rfl (lv_at hl 0 rfl) ?_
  refine lv_iload_n hx hb dX11_needIndex_5 rfl (lv_at hl 1 rfl) ?_
  refine lv_icmp_lt (tgt := 20) hx hb dX11_needIndex_6 (by decide) (fun h => absurd h h2) (fun _ => ?_)
  exact r_throwW C htab hlt hP hD hS tf_X11_123_362 hl.1 dX11_needIndex_9 dX11_needIndex_12 dX11_needIndex_13 dX11_needIndex_16 dX11_needIndex_19 rfl (Nat.le_of_ble_eq_true rfl) (Nat.le_of_ble_eq_true rfl) (Nat.le_of_ble_eq_true rfl) (Nat.le_of_ble_eq_true rfl) (Nat.le_of_ble_eq_true rfl) (Nat.le_of_ble_eq_true rfl)
set_option maxHeartbeats 4000000 in
set_option maxRecDepth 100000 in
theorem k_ni_t (l : Launch) (D : va_G) (cI cZ cJ : ClassId) (a0 : Int32) (a1 : Int32) (h1 : ¬ a0 < 0) (h2 : a0 < a1) : cM l yX11_needIndex cX11_needIndex 2 none D (TT cI cZ cJ) [.int a0, .int a1] [] (qV D (TT cI cZ cJ) (fun u : Unit => [])) 0 0 0 := by
  refine enterM (by decide) (Nat.le_of_ble_eq_true rfl) ?_
  intro p e s m below meth c ls A C hP hD hS hl
  have hx := C.1
  have hb := C.2.1
  have hl : lv_has ls 2 [(0, .int a0), (1, .int a1)] := hl
  refine lv_iload_n hx hb dX11_needIndex_0 rfl (lv_at hl 0 rfl) ?_
  refine lv_if_lt (tgt := 9) hx hb dX11_needIndex_1 (by decide) (fun h => absurd h h1) (fun _ => ?_)
  refine lv_iload_n hx hb dX11_needIndex_4 rfl (lv_at hl 0 rfl) ?_
  refine lv_iload_n hx hb dX11_needIndex_5 rfl (lv_at hl 1 rfl) ?_
  refine lv_icmp_lt (tgt := 20) hx hb dX11_needIndex_6 (by decide) (fun _ => ?_) (fun h => absurd h2 h)
  exact r_vret C hP hD hS () rfl (Nat.le_of_ble_eq_true rfl) (Nat.le_of_ble_eq_true rfl) dX11_needIndex_20
set_option maxHeartbeats 4000000 in
set_option maxRecDepth 100000 in
theorem k_drawnByte_l (l : Launch) (hlt : l.stackTraces = false) (D : va_G) (cI cZ cJ : ClassId) (x : Nat) (inp : Nat) (par : Nat) (pla : Nat) (dra : Nat) (lat : Nat) (his : Nat) (f1 : Nat) (f2 : Nat) (ec : Int32) (ea : Int32) (g : Nat → Value) (a0 : Int32) (h1 : a0 < 0) : cX l yX11_drawnByte cX11_drawnByte 2 (some .int) D (TT cI cZ cJ) [.ref x, .int a0] [(x, .inr (10, xC inp par pla dra lat his f1 f2 0 ec ea g))] "java/lang/IndexOutOfBoundsException" [(x, .inr (10, xC inp par pla dra lat his f1 f2 0 ec ea g))] 1 1 6 := by
  refine enterX (by decide) (Nat.le_of_ble_eq_true rfl) ?_
  intro p e s m below meth c ls A C htab hP hD hS hl
  have hx := C.1
  have hb := C.2.1
  have hl : lv_has ls 2 [(0, .ref x), (1, .int a0)] := hl
  refine lv_iload_n hx hb dX11_drawnByte_0 rfl (lv_at hl 1 rfl) ?_
  refine lv_aload_n hx hb dX11_drawnByte_1 rfl (lv_at hl 0 rfl) ?_
  refine r_get (v := .int 0) C hP 0 rfl fg_X11_105 rfl dX11_drawnByte_2 ?_
  refine lv_if_eq (tgt := 13) hx hb dX11_drawnByte_5 (by decide) (fun _ => ?_) (fun h => absurd (by decide) h)
  refine lv_iconst (v := 0) hx hb dX11_drawnByte_13 (by decide) ?_
  refine call_X (wr := [(x, .inr (10, xC inp par pla dra lat his f1 f2 0 ec ea g))]) C (run_SX (As := [.int a0, .int 0]) (rest := []) C (k_ni_l l hlt D cI cZ cJ a0 0 h1) cS_X11_158 hP hD hS [] rfl rfl rfl hl.1 rfl (Nat.le_of_ble_eq_true rfl) dX11_drawnByte_14 ⟨Nat.le_of_ble_eq_true rfl, Nat.le_of_ble_eq_true rfl⟩ ⟨Nat.le_of_ble_eq_true rfl, Nat.le_of_ble_eq_true rfl⟩) hP hD hS [] [0] rfl rfl rfl (by decide) (fun ce q9 H locs hce hcv hcl hP hD hS => ?_)
  have hP : va_P D CL [(x, .inr (10, xC inp par pla dra lat his f1 f2 0 ec ea g))] H := hP
  have hD : va_D A [(x, .inr (10, xC inp par pla dra lat his f1 f2 0 ec ea g))] := hD
  refine vx_widen (k := 1) (n := 6) (Nat.le_of_ble_eq_true rfl) (Nat.le_of_ble_eq_true rfl) ?_
  exact r_out C htab hce hcv hcl hP hD hS rfl (Nat.le_of_ble_eq_true rfl) (Nat.le_of_ble_eq_true rfl)
set_option maxHeartbeats 4000000 in
set_option maxRecDepth 100000 in
theorem k_drawnByte_g (l : Launch) (hlt : l.stackTraces = false) (D : va_G) (cI cZ cJ : ClassId) (x : Nat) (inp : Nat) (par : Nat) (pla : Nat) (dra : Nat) (lat : Nat) (his : Nat) (f1 : Nat) (f2 : Nat) (ec : Int32) (ea : Int32) (g : Nat → Value) (a0 : Int32) (h1 : ¬ a0 < 0) : cX l yX11_drawnByte cX11_drawnByte 2 (some .int) D (TT cI cZ cJ) [.ref x, .int a0] [(x, .inr (10, xC inp par pla dra lat his f1 f2 0 ec ea g))] "java/lang/IndexOutOfBoundsException" [(x, .inr (10, xC inp par pla dra lat his f1 f2 0 ec ea g))] 1 1 6 := by
  refine enterX (by decide) (Nat.le_of_ble_eq_true rfl) ?_
  intro p e s m below meth c ls A C htab hP hD hS hl
  have hx := C.1
  have hb := C.2.1
  have hl : lv_has ls 2 [(0, .ref x), (1, .int a0)] := hl
  refine lv_iload_n hx hb dX11_drawnByte_0 rfl (lv_at hl 1 rfl) ?_
  refine lv_aload_n hx hb dX11_drawnByte_1 rfl (lv_at hl 0 rfl) ?_
  refine r_get (v := .int 0) C hP 0 rfl fg_X11_105 rfl dX11_drawnByte_2 ?_
  refine lv_if_eq (tgt := 13) hx hb dX11_drawnByte_5 (by decide) (fun _ => ?_) (fun h => absurd (by decide) h)
  refine lv_iconst (v := 0) hx hb dX11_drawnByte_13 (by decide) ?_
  refine call_X (wr := [(x, .inr (10, xC inp par pla dra lat his f1 f2 0 ec ea g))]) C (run_SX (As := [.int a0, .int 0]) (rest := []) C (k_ni_g l hlt D cI cZ cJ a0 0 h1 h1) cS_X11_158 hP hD hS [] rfl rfl rfl hl.1 rfl (Nat.le_of_ble_eq_true rfl) dX11_drawnByte_14 ⟨Nat.le_of_ble_eq_true rfl, Nat.le_of_ble_eq_true rfl⟩ ⟨Nat.le_of_ble_eq_true rfl, Nat.le_of_ble_eq_true rfl⟩) hP hD hS [] [0] rfl rfl rfl (by decide) (fun ce q9 H locs hce hcv hcl hP hD hS => ?_)
  have hP : va_P D CL [(x, .inr (10, xC inp par pla dra lat his f1 f2 0 ec ea g))] H := hP
  have hD : va_D A [(x, .inr (10, xC inp par pla dra lat his f1 f2 0 ec ea g))] := hD
  refine vx_widen (k := 1) (n := 6) (Nat.le_of_ble_eq_true rfl) (Nat.le_of_ble_eq_true rfl) ?_
  exact r_out C htab hce hcv hcl hP hD hS rfl (Nat.le_of_ble_eq_true rfl) (Nat.le_of_ble_eq_true rfl)
set_option maxHeartbeats 4000000 in
set_option maxRecDepth 100000 in
theorem h_drawnByte_l (l : Launch) (hlt : l.stackTraces = false) (D : va_G) (cI cZ cJ : ClassId) (x : Nat) (inp : Nat) (par : Nat) (pla : Nat) (dra : Nat) (lat : Nat) (his : Nat) (f1 : Nat) (f2 : Nat) (ec : Int32) (ea : Int32) (g : Nat → Value) (a0 : Int32) (o : Nat) (h1 : a0 < 0) : cMW l yL_drawnByte cL_drawnByte 4 (some .int) [(0, 9, 12, 13)] D (TT cI cZ cJ) [.ref x, .int a0, .ref o] [(x, .inr (10, xC inp par pla dra lat his f1 f2 0 ec ea g))] (qI D (TT cI cZ cJ) (fun u : Unit => 1) (fun u : Unit => [(x, .inr (10, xC inp par pla dra lat his f1 f2 0 ec ea g))])) 5 1 6 := by
  refine enterW (by decide) (Nat.le_of_ble_eq_true rfl) ?_
  intro p e s m below meth c ls A C htab hP hD hS hl
  have hx := C.1
  have hb := C.2.1
  have hl : lv_has ls 4 [(0, .ref x), (1, .int a0), (2, .ref o)] := hl
  refine lv_aload_n hx hb dL_drawnByte_0 rfl (lv_at hl 2 rfl) ?_
  refine lv_iconst (v := 0) hx hb dL_drawnByte_1 (by decide) ?_
  refine lv_aload_n hx hb dL_drawnByte_2 rfl (lv_at hl 0 rfl) ?_
  refine lv_iload_n hx hb dL_drawnByte_3 rfl (lv_at hl 1 rfl) ?_
  refine call_X (wr := []) C (run_VX (As := [.int a0]) (rest := [.int 0, .ref o]) C (k_drawnByte_l l hlt D cI cZ cJ x inp par pla dra lat his f1 f2 ec ea g a0 h1) cV_L_138 hP hD hS [0] rfl rfl 0 rfl rfl rfl rfl hl.1 rfl (Nat.le_of_ble_eq_true rfl) dL_drawnByte_4 ⟨Nat.le_of_ble_eq_true rfl, Nat.le_of_ble_eq_true rfl⟩ ⟨Nat.le_of_ble_eq_true rfl, Nat.le_of_ble_eq_true rfl⟩) hP hD hS [0] [] rfl rfl rfl (by decide) (fun ce q9 H locs hce hcv hcl hP hD hS => ?_)
  have hP : va_P D CL [(x, .inr (10, xC inp par pla dra lat his f1 f2 0 ec ea g))] H := hP
  have hD : va_D A [(x, .inr (10, xC inp par pla dra lat his f1 f2 0 ec ea g))] := hD
  refine vx_widen (k := 1) (n := 6) (Nat.le_of_ble_eq_true rfl) (Nat.le_of_ble_eq_true rfl) ?_
  refine r_catch (E := "java/lang/IndexOutOfBoundsException") C (by decide) [] ⟨0, 9, 12, 13⟩ [] (htab.trans rfl) (fun z hz => nomatch hz) rfl (by decide) w_546 hce hcv hcl ?_
  refine W.eq (g2 := F0 m 12 ls [.ref q9]) rfl ?_
  refine lv_astore_n (lv' := [(3, .ref q9), (0, .ref x), (1, .int a0), (2, .ref o)]) hx hb dL_drawnByte_12 rfl hl (by decide) rfl (fun ls hl => ?_)
  refine lv_iconst (v := 1) hx hb dL_drawnByte_13 (by decide) ?_
  exact r_iret C hP hD hS () rfl rfl (Nat.le_of_ble_eq_true rfl) (Nat.le_of_ble_eq_true rfl) dL_drawnByte_14
set_option maxHeartbeats 4000000 in
set_option maxRecDepth 100000 in
theorem h_drawnByte_g (l : Launch) (hlt : l.stackTraces = false) (D : va_G) (cI cZ cJ : ClassId) (x : Nat) (inp : Nat) (par : Nat) (pla : Nat) (dra : Nat) (lat : Nat) (his : Nat) (f1 : Nat) (f2 : Nat) (ec : Int32) (ea : Int32) (g : Nat → Value) (a0 : Int32) (o : Nat) (h1 : ¬ a0 < 0) : cMW l yL_drawnByte cL_drawnByte 4 (some .int) [(0, 9, 12, 13)] D (TT cI cZ cJ) [.ref x, .int a0, .ref o] [(x, .inr (10, xC inp par pla dra lat his f1 f2 0 ec ea g))] (qI D (TT cI cZ cJ) (fun u : Unit => 1) (fun u : Unit => [(x, .inr (10, xC inp par pla dra lat his f1 f2 0 ec ea g))])) 5 1 6 := by
  refine enterW (by decide) (Nat.le_of_ble_eq_true rfl) ?_
  intro p e s m below meth c ls A C htab hP hD hS hl
  have hx := C.1
  have hb := C.2.1
  have hl : lv_has ls 4 [(0, .ref x), (1, .int a0), (2, .ref o)] := hl
  refine lv_aload_n hx hb dL_drawnByte_0 rfl (lv_at hl 2 rfl) ?_
  refine lv_iconst (v := 0) hx hb dL_drawnByte_1 (by decide) ?_
  refine lv_aload_n hx hb dL_drawnByte_2 rfl (lv_at hl 0 rfl) ?_
  refine lv_iload_n hx hb dL_drawnByte_3 rfl (lv_at hl 1 rfl) ?_
  refine call_X (wr := []) C (run_VX (As := [.int a0]) (rest := [.int 0, .ref o]) C (k_drawnByte_g l hlt D cI cZ cJ x inp par pla dra lat his f1 f2 ec ea g a0 h1) cV_L_138 hP hD hS [0] rfl rfl 0 rfl rfl rfl rfl hl.1 rfl (Nat.le_of_ble_eq_true rfl) dL_drawnByte_4 ⟨Nat.le_of_ble_eq_true rfl, Nat.le_of_ble_eq_true rfl⟩ ⟨Nat.le_of_ble_eq_true rfl, Nat.le_of_ble_eq_true rfl⟩) hP hD hS [0] [] rfl rfl rfl (by decide) (fun ce q9 H locs hce hcv hcl hP hD hS => ?_)
  have hP : va_P D CL [(x, .inr (10, xC inp par pla dra lat his f1 f2 0 ec ea g))] H := hP
  have hD : va_D A [(x, .inr (10, xC inp par pla dra lat his f1 f2 0 ec ea g))] := hD
  refine vx_widen (k := 1) (n := 6) (Nat.le_of_ble_eq_true rfl) (Nat.le_of_ble_eq_true rfl) ?_
  refine r_catch (E := "java/lang/IndexOutOfBoundsException") C (by decide) [] ⟨0, 9, 12, 13⟩ [] (htab.trans rfl) (fun z hz => nomatch hz) rfl (by decide) w_546 hce hcv hcl ?_
  refine W.eq (g2 := F0 m 12 ls [.ref q9]) rfl ?_
  refine lv_astore_n (lv' := [(3, .ref q9), (0, .ref x), (1, .int a0), (2, .ref o)]) hx hb dL_drawnByte_12 rfl hl (by decide) rfl (fun ls hl => ?_)
  refine lv_iconst (v := 1) hx hb dL_drawnByte_13 (by decide) ?_
  exact r_iret C hP hD hS () rfl rfl (Nat.le_of_ble_eq_true rfl) (Nat.le_of_ble_eq_true rfl) dL_drawnByte_14
set_option maxHeartbeats 4000000 in
set_option maxRecDepth 100000 in
theorem k_savedIn_0 (l : Launch) (D : va_G) (cI cZ cJ : ClassId) (x : Nat) (inp : Nat) (par : Nat) (pla : Nat) (dra : Nat) (lat : Nat) (his : Nat) (f1 : Nat) (f2 : Nat) (hd : Int32) (ec : Int32) (ea : Int32) (g : Nat → Value) (a0 : Int32) (h1 : a0 = 0) : cM l yX11_savedIn cX11_savedIn 2 (some (.object "GalleryGuards$Plan")) D (TT cI cZ cJ) [.ref x, .int a0] [(x, .inr (10, xC inp par pla dra lat his f1 f2 hd ec ea g))] (qR D (TT cI cZ cJ) (fun u : Unit => f1) (fun u : Unit => [(x, .inr (10, xC inp par pla dra lat his f1 f2 hd ec ea g))])) 0 0 0 := by
  refine enterM (by decide) (Nat.le_of_ble_eq_true rfl) ?_
  intro p e s m below meth c ls A C hP hD hS hl
  have hx := C.1
  have hb := C.2.1
  have hl : lv_has ls 2 [(0, .ref x), (1, .int a0)] := hl
  refine lv_iload_n hx hb dX11_savedIn_0 rfl (lv_at hl 1 rfl) ?_
  refine lv_if_ne (tgt := 11) hx hb dX11_savedIn_1 (by decide) (fun h => absurd h1 h) (fun _ => ?_)
  refine lv_aload_n hx hb dX11_savedIn_4 rfl (lv_at hl 0 rfl) ?_
  refine r_get (v := .ref f1) C hP 0 rfl fg_X11_95 rfl dX11_savedIn_5 ?_
  refine lv_goto (tgt := 15) hx hb dX11_savedIn_8 (by decide) ?_
  exact r_aret C (Or.inl ⟨_, rfl⟩) hP hD hS () rfl rfl (Nat.le_of_ble_eq_true rfl) (Nat.le_of_ble_eq_true rfl) dX11_savedIn_15
set_option maxHeartbeats 4000000 in
set_option maxRecDepth 100000 in
theorem k_savedIn_1 (l : Launch) (D : va_G) (cI cZ cJ : ClassId) (x : Nat) (inp : Nat) (par : Nat) (pla : Nat) (dra : Nat) (lat : Nat) (his : Nat) (f1 : Nat) (f2 : Nat) (hd : Int32) (ec : Int32) (ea : Int32) (g : Nat → Value) (a0 : Int32) (h1 : ¬ a0 = 0) : cM l yX11_savedIn cX11_savedIn 2 (some (.object "GalleryGuards$Plan")) D (TT cI cZ cJ) [.ref x, .int a0] [(x, .inr (10, xC inp par pla dra lat his f1 f2 hd ec ea g))] (qR D (TT cI cZ cJ) (fun u : Unit => f2) (fun u : Unit => [(x, .inr (10, xC inp par pla dra lat his f1 f2 hd ec ea g))])) 0 0 0 := by
  refine enterM (by decide) (Nat.le_of_ble_eq_true rfl) ?_
  intro p e s m below meth c ls A C hP hD hS hl
  have hx := C.1
  have hb := C.2.1
  have hl : lv_has ls 2 [(0, .ref x), (1, .int a0)] := hl
  refine lv_iload_n hx hb dX11_savedIn_0 rfl (lv_at hl 1 rfl) ?_
  refine lv_if_ne (tgt := 11) hx hb dX11_savedIn_1 (by decide) (fun _ => ?_) (fun h => absurd h h1)
  refine lv_aload_n hx hb dX11_savedIn_11 rfl (lv_at hl 0 rfl) ?_
  refine r_get (v := .ref f2) C hP 0 rfl fg_X11_98 rfl dX11_savedIn_12 ?_
  exact r_aret C (Or.inl ⟨_, rfl⟩) hP hD hS () rfl rfl (Nat.le_of_ble_eq_true rfl) (Nat.le_of_ble_eq_true rfl) dX11_savedIn_15
set_option maxHeartbeats 4000000 in
set_option maxRecDepth 100000 in
theorem k_restore_l (l : Launch) (hlt : l.stackTraces = false) (D : va_G) (cI cZ cJ : ClassId) (x : Nat) (inp : Nat) (par : Nat) (pla : Nat) (dra : Nat) (lat : Nat) (his : Nat) (f1 : Nat) (f2 : Nat) (hd : Int32) (ec : Int32) (ea : Int32) (g : Nat → Value) (a0 : Int32) (h1 : a0 < 0) : cX l yX11_restore cX11_restore 2 (some .int) D (TT cI cZ cJ) [.ref x, .int a0] [(x, .inr (10, xC inp par pla dra lat his f1 f2 hd ec ea g))] "java/lang/IndexOutOfBoundsException" [(x, .inr (10, xC inp par pla dra lat his f1 f2 hd ec ea g))] 1 1 6 := by
  refine enterX (by decide) (Nat.le_of_ble_eq_true rfl) ?_
  intro p e s m below meth c ls A C htab hP hD hS hl
  have hx := C.1
  have hb := C.2.1
  have hl : lv_has ls 2 [(0, .ref x), (1, .int a0)] := hl
  refine lv_iload_n hx hb dX11_restore_0 rfl (lv_at hl 1 rfl) ?_
  refine lv_iconst (v := 2) hx hb dX11_restore_1 (by decide) ?_
  refine call_X (wr := [(x, .inr (10, xC inp par pla dra lat his f1 f2 hd ec ea g))]) C (run_SX (As := [.int a0, .int 2]) (rest := []) C (k_ni_l l hlt D cI cZ cJ a0 2 h1) cS_X11_158 hP hD hS [] rfl rfl rfl hl.1 rfl (Nat.le_of_ble_eq_true rfl) dX11_restore_2 ⟨Nat.le_of_ble_eq_true rfl, Nat.le_of_ble_eq_true rfl⟩ ⟨Nat.le_of_ble_eq_true rfl, Nat.le_of_ble_eq_true rfl⟩) hP hD hS [] [0] rfl rfl rfl (by decide) (fun ce q9 H locs hce hcv hcl hP hD hS => ?_)
  have hP : va_P D CL [(x, .inr (10, xC inp par pla dra lat his f1 f2 hd ec ea g))] H := hP
  have hD : va_D A [(x, .inr (10, xC inp par pla dra lat his f1 f2 hd ec ea g))] := hD
  refine vx_widen (k := 1) (n := 6) (Nat.le_of_ble_eq_true rfl) (Nat.le_of_ble_eq_true rfl) ?_
  exact r_out C htab hce hcv hcl hP hD hS rfl (Nat.le_of_ble_eq_true rfl) (Nat.le_of_ble_eq_true rfl)
set_option maxHeartbeats 4000000 in
set_option maxRecDepth 100000 in
theorem k_restore_g (l : Launch) (hlt : l.stackTraces = false) (D : va_G) (cI cZ cJ : ClassId) (x : Nat) (inp : Nat) (par : Nat) (pla : Nat) (dra : Nat) (lat : Nat) (his : Nat) (f1 : Nat) (f2 : Nat) (hd : Int32) (ec : Int32) (ea : Int32) (g : Nat → Value) (a0 : Int32) (h1 : ¬ a0 < 0) (h2 : ¬ a0 < 2) : cX l yX11_restore cX11_restore 2 (some .int) D (TT cI cZ cJ) [.ref x, .int a0] [(x, .inr (10, xC inp par pla dra lat his f1 f2 hd ec ea g))] "java/lang/IndexOutOfBoundsException" [(x, .inr (10, xC inp par pla dra lat his f1 f2 hd ec ea g))] 1 1 6 := by
  refine enterX (by decide) (Nat.le_of_ble_eq_true rfl) ?_
  intro p e s m below meth c ls A C htab hP hD hS hl
  have hx := C.1
  have hb := C.2.1
  have hl : lv_has ls 2 [(0, .ref x), (1, .int a0)] := hl
  refine lv_iload_n hx hb dX11_restore_0 rfl (lv_at hl 1 rfl) ?_
  refine lv_iconst (v := 2) hx hb dX11_restore_1 (by decide) ?_
  refine call_X (wr := [(x, .inr (10, xC inp par pla dra lat his f1 f2 hd ec ea g))]) C (run_SX (As := [.int a0, .int 2]) (rest := []) C (k_ni_g l hlt D cI cZ cJ a0 2 h1 h2) cS_X11_158 hP hD hS [] rfl rfl rfl hl.1 rfl (Nat.le_of_ble_eq_true rfl) dX11_restore_2 ⟨Nat.le_of_ble_eq_true rfl, Nat.le_of_ble_eq_true rfl⟩ ⟨Nat.le_of_ble_eq_true rfl, Nat.le_of_ble_eq_true rfl⟩) hP hD hS [] [0] rfl rfl rfl (by decide) (fun ce q9 H locs hce hcv hcl hP hD hS => ?_)
  have hP : va_P D CL [(x, .inr (10, xC inp par pla dra lat his f1 f2 hd ec ea g))] H := hP
  have hD : va_D A [(x, .inr (10, xC inp par pla dra lat his f1 f2 hd ec ea g))] := hD
  refine vx_widen (k := 1) (n := 6) (Nat.le_of_ble_eq_true rfl) (Nat.le_of_ble_eq_true rfl) ?_
  exact r_out C htab hce hcv hcl hP hD hS rfl (Nat.le_of_ble_eq_true rfl) (Nat.le_of_ble_eq_true rfl)
set_option maxHeartbeats 4000000 in
set_option maxRecDepth 100000 in
theorem k_restore_0 (l : Launch) (hlt : l.stackTraces = false) (D : va_G) (cI cZ cJ : ClassId) (x : Nat) (inp : Nat) (par : Nat) (pla : Nat) (dra : Nat) (lat : Nat) (his : Nat) (f1 : Nat) (f2 : Nat) (hd : Int32) (ec : Int32) (ea : Int32) (g : Nat → Value) (gp : Nat → Value) (a0 : Int32) (h1 : ¬ a0 < 0) (h2 : a0 < 2) (h3 : a0 = 0) : cX l yX11_restore cX11_restore 2 (some .int) D (TT cI cZ cJ) [.ref x, .int a0] [(x, .inr (10, xC inp par pla dra lat his f1 f2 hd ec ea g)), (f1, .inr (5, pC 0 0 0 gp))] "java/lang/IllegalStateException" [(f1, .inr (5, pC 0 0 0 gp)), (x, .inr (10, xC inp par pla dra lat his f1 f2 hd ec ea g))] 1 1 6 := by
  refine enterX (by decide) (Nat.le_of_ble_eq_true rfl) ?_
  intro p e s m below meth c ls A C htab hP hD hS hl
  have hx := C.1
  have hb := C.2.1
  have hl : lv_has ls 2 [(0, .ref x), (1, .int a0)] := hl
  refine lv_iload_n hx hb dX11_restore_0 rfl (lv_at hl 1 rfl) ?_
  refine lv_iconst (v := 2) hx hb dX11_restore_1 (by decide) ?_
  refine call_v (wr := [(x, .inr (10, xC inp par pla dra lat his f1 f2 hd ec ea g)), (f1, .inr (5, pC 0 0 0 gp))]) C (run_S (As := [.int a0, .int 2]) (rest := []) C (k_ni_t l D cI cZ cJ a0 2 h1 h2) cS_X11_158 hP hD hS [] rfl rfl rfl hl.1 rfl (Nat.le_of_ble_eq_true rfl) dX11_restore_2 ⟨Nat.le_of_ble_eq_true rfl, Nat.le_of_ble_eq_true rfl⟩ ⟨Nat.le_of_ble_eq_true rfl, Nat.le_of_ble_eq_true rfl⟩) hP hD hS [] [0, 1] rfl rfl rfl (by decide) (fun u1 H locs hP hD hS => ?_)
  have hP : va_P D CL [(x, .inr (10, xC inp par pla dra lat his f1 f2 hd ec ea g)), (f1, .inr (5, pC 0 0 0 gp))] H := hP
  have hD : va_D A [(x, .inr (10, xC inp par pla dra lat his f1 f2 hd ec ea g)), (f1, .inr (5, pC 0 0 0 gp))] := hD
  refine W.widen (k := 0) (n := 0) (Nat.le_of_ble_eq_true rfl) (Nat.le_of_ble_eq_true rfl) ?_
  refine lv_aload_n hx hb dX11_restore_5 rfl (lv_at hl 0 rfl) ?_
  refine lv_iload_n hx hb dX11_restore_6 rfl (lv_at hl 1 rfl) ?_
  refine call_r (wr := [(f1, .inr (5, pC 0 0 0 gp))]) C (run_V (As := [.int a0]) (rest := []) C (k_savedIn_0 l D cI cZ cJ x inp par pla dra lat his f1 f2 hd ec ea g a0 h3) cV_X11_354 hP hD hS [0] rfl rfl 0 rfl rfl rfl rfl hl.1 rfl (Nat.le_of_ble_eq_true rfl) dX11_restore_7 ⟨Nat.le_of_ble_eq_true rfl, Nat.le_of_ble_eq_true rfl⟩ ⟨Nat.le_of_ble_eq_true rfl, Nat.le_of_ble_eq_true rfl⟩) hP hD hS [0] [1] rfl rfl rfl (by decide) (fun u2 H locs hP hD hS => ?_)
  have hP : va_P D CL [(f1, .inr (5, pC 0 0 0 gp)), (x, .inr (10, xC inp par pla dra lat his f1 f2 hd ec ea g))] H := hP
  have hD : va_D A [(f1, .inr (5, pC 0 0 0 gp)), (x, .inr (10, xC inp par pla dra lat his f1 f2 hd ec ea g))] := hD
  refine W.widen (k := 0) (n := 0) (Nat.le_of_ble_eq_true rfl) (Nat.le_of_ble_eq_true rfl) ?_
  refine W.eq (g2 := F0 m 10 ls [.ref f1]) rfl ?_
  refine r_get (v := .int 0) C hP 0 rfl fg_X11_152 rfl dX11_restore_10 ?_
  refine lv_if_ne (tgt := 27) hx hb dX11_restore_13 (by decide) (fun h => absurd h (by decide)) (fun _ => ?_)
  exact r_throwW C htab hlt hP hD hS tf_X11_311_358 hl.1 dX11_restore_16 dX11_restore_19 dX11_restore_20 dX11_restore_23 dX11_restore_26 rfl (Nat.le_of_ble_eq_true rfl) (Nat.le_of_ble_eq_true rfl) (Nat.le_of_ble_eq_true rfl) (Nat.le_of_ble_eq_true rfl) (Nat.le_of_ble_eq_true rfl) (Nat.le_of_ble_eq_true rfl)
set_option maxHeartbeats 4000000 in
set_option maxRecDepth 100000 in
theorem k_restore_1 (l : Launch) (hlt : l.stackTraces = false) (D : va_G) (cI cZ cJ : ClassId) (x : Nat) (inp : Nat) (par : Nat) (pla : Nat) (dra : Nat) (lat : Nat) (his : Nat) (f1 : Nat) (f2 : Nat) (hd : Int32) (ec : Int32) (ea : Int32) (g : Nat → Value) (gp : Nat → Value) (a0 : Int32) (h1 : ¬ a0 < 0) (h2 : a0 < 2) (h3 : ¬ a0 = 0) : cX l yX11_restore cX11_restore 2 (some .int) D (TT cI cZ cJ) [.ref x, .int a0] [(x, .inr (10, xC inp par pla dra lat his f1 f2 hd ec ea g)), (f2, .inr (5, pC 0 0 0 gp))] "java/lang/IllegalStateException" [(f2, .inr (5, pC 0 0 0 gp)), (x, .inr (10, xC inp par pla dra lat his f1 f2 hd ec ea g))] 1 1 6 := by
  refine enterX (by decide) (Nat.le_of_ble_eq_true rfl) ?_
  intro p e s m below meth c ls A C htab hP hD hS hl
  have hx := C.1
  have hb := C.2.1
  have hl : lv_has ls 2 [(0, .ref x), (1, .int a0)] := hl
  refine lv_iload_n hx hb dX11_restore_0 rfl (lv_at hl 1 rfl) ?_
  refine lv_iconst (v := 2) hx hb dX11_restore_1 (by decide) ?_
  refine call_v (wr := [(x, .inr (10, xC inp par pla dra lat his f1 f2 hd ec ea g)), (f2, .inr (5, pC 0 0 0 gp))]) C (run_S (As := [.int a0, .int 2]) (rest := []) C (k_ni_t l D cI cZ cJ a0 2 h1 h2) cS_X11_158 hP hD hS [] rfl rfl rfl hl.1 rfl (Nat.le_of_ble_eq_true rfl) dX11_restore_2 ⟨Nat.le_of_ble_eq_true rfl, Nat.le_of_ble_eq_true rfl⟩ ⟨Nat.le_of_ble_eq_true rfl, Nat.le_of_ble_eq_true rfl⟩) hP hD hS [] [0, 1] rfl rfl rfl (by decide) (fun u1 H locs hP hD hS => ?_)
  have hP : va_P D CL [(x, .inr (10, xC inp par pla dra lat his f1 f2 hd ec ea g)), (f2, .inr (5, pC 0 0 0 gp))] H := hP
  have hD : va_D A [(x, .inr (10, xC inp par pla dra lat his f1 f2 hd ec ea g)), (f2, .inr (5, pC 0 0 0 gp))] := hD
  refine W.widen (k := 0) (n := 0) (Nat.le_of_ble_eq_true rfl) (Nat.le_of_ble_eq_true rfl) ?_
  refine lv_aload_n hx hb dX11_restore_5 rfl (lv_at hl 0 rfl) ?_
  refine lv_iload_n hx hb dX11_restore_6 rfl (lv_at hl 1 rfl) ?_
  refine call_r (wr := [(f2, .inr (5, pC 0 0 0 gp))]) C (run_V (As := [.int a0]) (rest := []) C (k_savedIn_1 l D cI cZ cJ x inp par pla dra lat his f1 f2 hd ec ea g a0 h3) cV_X11_354 hP hD hS [0] rfl rfl 0 rfl rfl rfl rfl hl.1 rfl (Nat.le_of_ble_eq_true rfl) dX11_restore_7 ⟨Nat.le_of_ble_eq_true rfl, Nat.le_of_ble_eq_true rfl⟩ ⟨Nat.le_of_ble_eq_true rfl, Nat.le_of_ble_eq_true rfl⟩) hP hD hS [0] [1] rfl rfl rfl (by decide) (fun u2 H locs hP hD hS => ?_)
  have hP : va_P D CL [(f2, .inr (5, pC 0 0 0 gp)), (x, .inr (10, xC inp par pla dra lat his f1 f2 hd ec ea g))] H := hP
  have hD : va_D A [(f2, .inr (5, pC 0 0 0 gp)), (x, .inr (10, xC inp par pla dra lat his f1 f2 hd ec ea g))] := hD
  refine W.widen (k := 0) (n := 0) (Nat.le_of_ble_eq_true rfl) (Nat.le_of_ble_eq_true rfl) ?_
  refine W.eq (g2 := F0 m 10 ls [.ref f2]) rfl ?_
  refine r_get (v := .int 0) C hP 0 rfl fg_X11_152 rfl dX11_restore_10 ?_
  refine lv_if_ne (tgt := 27) hx hb dX11_restore_13 (by decide) (fun h => absurd h (by decide)) (fun _ => ?_)
  exact r_throwW C htab hlt hP hD hS tf_X11_311_358 hl.1 dX11_restore_16 dX11_restore_19 dX11_restore_20 dX11_restore_23 dX11_restore_26 rfl (Nat.le_of_ble_eq_true rfl) (Nat.le_of_ble_eq_true rfl) (Nat.le_of_ble_eq_true rfl) (Nat.le_of_ble_eq_true rfl) (Nat.le_of_ble_eq_true rfl) (Nat.le_of_ble_eq_true rfl)
set_option maxHeartbeats 4000000 in
set_option maxRecDepth 100000 in
theorem h_restore_l (l : Launch) (hlt : l.stackTraces = false) (D : va_G) (cI cZ cJ : ClassId) (x : Nat) (inp : Nat) (par : Nat) (pla : Nat) (dra : Nat) (lat : Nat) (his : Nat) (f1 : Nat) (f2 : Nat) (hd : Int32) (ec : Int32) (ea : Int32) (g : Nat → Value) (a0 : Int32) (o : Nat) (h1 : a0 < 0) : cMW l yL_restore cL_restore 4 (some .int) [(0, 9, 12, 13), (0, 9, 15, 20)] D (TT cI cZ cJ) [.ref x, .int a0, .ref o] [(x, .inr (10, xC inp par pla dra lat his f1 f2 hd ec ea g))] (qI D (TT cI cZ cJ) (fun u : Unit => 1) (fun u : Unit => [(x, .inr (10, xC inp par pla dra lat his f1 f2 hd ec ea g))])) 5 1 6 := by
  refine enterW (by decide) (Nat.le_of_ble_eq_true rfl) ?_
  intro p e s m below meth c ls A C htab hP hD hS hl
  have hx := C.1
  have hb := C.2.1
  have hl : lv_has ls 4 [(0, .ref x), (1, .int a0), (2, .ref o)] := hl
  refine lv_aload_n hx hb dL_restore_0 rfl (lv_at hl 2 rfl) ?_
  refine lv_iconst (v := 0) hx hb dL_restore_1 (by decide) ?_
  refine lv_aload_n hx hb dL_restore_2 rfl (lv_at hl 0 rfl) ?_
  refine lv_iload_n hx hb dL_restore_3 rfl (lv_at hl 1 rfl) ?_
  refine call_X (wr := []) C (run_VX (As := [.int a0]) (rest := [.int 0, .ref o]) C (k_restore_l l hlt D cI cZ cJ x inp par pla dra lat his f1 f2 hd ec ea g a0 h1) cV_L_169 hP hD hS [0] rfl rfl 0 rfl rfl rfl rfl hl.1 rfl (Nat.le_of_ble_eq_true rfl) dL_restore_4 ⟨Nat.le_of_ble_eq_true rfl, Nat.le_of_ble_eq_true rfl⟩ ⟨Nat.le_of_ble_eq_true rfl, Nat.le_of_ble_eq_true rfl⟩) hP hD hS [0] [] rfl rfl rfl (by decide) (fun ce q9 H locs hce hcv hcl hP hD hS => ?_)
  have hP : va_P D CL [(x, .inr (10, xC inp par pla dra lat his f1 f2 hd ec ea g))] H := hP
  have hD : va_D A [(x, .inr (10, xC inp par pla dra lat his f1 f2 hd ec ea g))] := hD
  refine vx_widen (k := 1) (n := 6) (Nat.le_of_ble_eq_true rfl) (Nat.le_of_ble_eq_true rfl) ?_
  refine r_catch (E := "java/lang/IndexOutOfBoundsException") C (by decide) [] ⟨0, 9, 12, 13⟩ [⟨0, 9, 15, 20⟩] (htab.trans rfl) (fun z hz => nomatch hz) rfl (by decide) w_546 hce hcv hcl ?_
  refine W.eq (g2 := F0 m 12 ls [.ref q9]) rfl ?_
  refine lv_astore_n (lv' := [(3, .ref q9), (0, .ref x), (1, .int a0), (2, .ref o)]) hx hb dL_restore_12 rfl hl (by decide) rfl (fun ls hl => ?_)
  refine lv_iconst (v := 1) hx hb dL_restore_13 (by decide) ?_
  exact r_iret C hP hD hS () rfl rfl (Nat.le_of_ble_eq_true rfl) (Nat.le_of_ble_eq_true rfl) dL_restore_14
set_option maxHeartbeats 4000000 in
set_option maxRecDepth 100000 in
theorem h_restore_g (l : Launch) (hlt : l.stackTraces = false) (D : va_G) (cI cZ cJ : ClassId) (x : Nat) (inp : Nat) (par : Nat) (pla : Nat) (dra : Nat) (lat : Nat) (his : Nat) (f1 : Nat) (f2 : Nat) (hd : Int32) (ec : Int32) (ea : Int32) (g : Nat → Value) (a0 : Int32) (o : Nat) (h1 : ¬ a0 < 0) (h2 : ¬ a0 < 2) : cMW l yL_restore cL_restore 4 (some .int) [(0, 9, 12, 13), (0, 9, 15, 20)] D (TT cI cZ cJ) [.ref x, .int a0, .ref o] [(x, .inr (10, xC inp par pla dra lat his f1 f2 hd ec ea g))] (qI D (TT cI cZ cJ) (fun u : Unit => 1) (fun u : Unit => [(x, .inr (10, xC inp par pla dra lat his f1 f2 hd ec ea g))])) 5 1 6 := by
  refine enterW (by decide) (Nat.le_of_ble_eq_true rfl) ?_
  intro p e s m below meth c ls A C htab hP hD hS hl
  have hx := C.1
  have hb := C.2.1
  have hl : lv_has ls 4 [(0, .ref x), (1, .int a0), (2, .ref o)] := hl
  refine lv_aload_n hx hb dL_restore_0 rfl (lv_at hl 2 rfl) ?_
  refine lv_iconst (v := 0) hx hb dL_restore_1 (by decide) ?_
  refine lv_aload_n hx hb dL_restore_2 rfl (lv_at hl 0 rfl) ?_
  refine lv_iload_n hx hb dL_restore_3 rfl (lv_at hl 1 rfl) ?_
  refine call_X (wr := []) C (run_VX (As := [.int a0]) (rest := [.int 0, .ref o]) C (k_restore_g l hlt D cI cZ cJ x inp par pla dra lat his f1 f2 hd ec ea g a0 h1 h2) cV_L_169 hP hD hS [0] rfl rfl 0 rfl rfl rfl rfl hl.1 rfl (Nat.le_of_ble_eq_true rfl) dL_restore_4 ⟨Nat.le_of_ble_eq_true rfl, Nat.le_of_ble_eq_true rfl⟩ ⟨Nat.le_of_ble_eq_true rfl, Nat.le_of_ble_eq_true rfl⟩) hP hD hS [0] [] rfl rfl rfl (by decide) (fun ce q9 H locs hce hcv hcl hP hD hS => ?_)
  have hP : va_P D CL [(x, .inr (10, xC inp par pla dra lat his f1 f2 hd ec ea g))] H := hP
  have hD : va_D A [(x, .inr (10, xC inp par pla dra lat his f1 f2 hd ec ea g))] := hD
  refine vx_widen (k := 1) (n := 6) (Nat.le_of_ble_eq_true rfl) (Nat.le_of_ble_eq_true rfl) ?_
  refine r_catch (E := "java/lang/IndexOutOfBoundsException") C (by decide) [] ⟨0, 9, 12, 13⟩ [⟨0, 9, 15, 20⟩] (htab.trans rfl) (fun z hz => nomatch hz) rfl (by decide) w_546 hce hcv hcl ?_
  refine W.eq (g2 := F0 m 12 ls [.ref q9]) rfl ?_
  refine lv_astore_n (lv' := [(3, .ref q9), (0, .ref x), (1, .int a0), (2, .ref o)]) hx hb dL_restore_12 rfl hl (by decide) rfl (fun ls hl => ?_)
  refine lv_iconst (v := 1) hx hb dL_restore_13 (by decide) ?_
  exact r_iret C hP hD hS () rfl rfl (Nat.le_of_ble_eq_true rfl) (Nat.le_of_ble_eq_true rfl) dL_restore_14
set_option maxHeartbeats 4000000 in
set_option maxRecDepth 100000 in
theorem h_restore_0 (l : Launch) (hlt : l.stackTraces = false) (D : va_G) (cI cZ cJ : ClassId) (x : Nat) (inp : Nat) (par : Nat) (pla : Nat) (dra : Nat) (lat : Nat) (his : Nat) (f1 : Nat) (f2 : Nat) (hd : Int32) (ec : Int32) (ea : Int32) (g : Nat → Value) (gp : Nat → Value) (a0 : Int32) (o : Nat) (h1 : ¬ a0 < 0) (h2 : a0 < 2) (h3 : a0 = 0) : cMW l yL_restore cL_restore 4 (some .int) [(0, 9, 12, 13), (0, 9, 15, 20)] D (TT cI cZ cJ) [.ref x, .int a0, .ref o] [(x, .inr (10, xC inp par pla dra lat his f1 f2 hd ec ea g)), (f1, .inr (5, pC 0 0 0 gp))] (qI D (TT cI cZ cJ) (fun u : Unit => 2) (fun u : Unit => [(f1, .inr (5, pC 0 0 0 gp)), (x, .inr (10, xC inp par pla dra lat his f1 f2 hd ec ea g))])) 5 1 6 := by
  refine enterW (by decide) (Nat.le_of_ble_eq_true rfl) ?_
  intro p e s m below meth c ls A C htab hP hD hS hl
  have hx := C.1
  have hb := C.2.1
  have hl : lv_has ls 4 [(0, .ref x), (1, .int a0), (2, .ref o)] := hl
  refine lv_aload_n hx hb dL_restore_0 rfl (lv_at hl 2 rfl) ?_
  refine lv_iconst (v := 0) hx hb dL_restore_1 (by decide) ?_
  refine lv_aload_n hx hb dL_restore_2 rfl (lv_at hl 0 rfl) ?_
  refine lv_iload_n hx hb dL_restore_3 rfl (lv_at hl 1 rfl) ?_
  refine call_X (wr := []) C (run_VX (As := [.int a0]) (rest := [.int 0, .ref o]) C (k_restore_0 l hlt D cI cZ cJ x inp par pla dra lat his f1 f2 hd ec ea g gp a0 h1 h2 h3) cV_L_169 hP hD hS [0, 1] rfl rfl 0 rfl rfl rfl rfl hl.1 rfl (Nat.le_of_ble_eq_true rfl) dL_restore_4 ⟨Nat.le_of_ble_eq_true rfl, Nat.le_of_ble_eq_true rfl⟩ ⟨Nat.le_of_ble_eq_true rfl, Nat.le_of_ble_eq_true rfl⟩) hP hD hS [0, 1] [] rfl rfl rfl (by decide) (fun ce q9 H locs hce hcv hcl hP hD hS => ?_)
  have hP : va_P D CL [(f1, .inr (5, pC 0 0 0 gp)), (x, .inr (10, xC inp par pla dra lat his f1 f2 hd ec ea g))] H := hP
  have hD : va_D A [(f1, .inr (5, pC 0 0 0 gp)), (x, .inr (10, xC inp par pla dra lat his f1 f2 hd ec ea g))] := hD
  refine vx_widen (k := 1) (n := 6) (Nat.le_of_ble_eq_true rfl) (Nat.le_of_ble_eq_true rfl) ?_
  refine r_catch (E := "java/lang/IllegalStateException") C (by decide) [⟨0, 9, 12, 13⟩] ⟨0, 9, 15, 20⟩ [] (htab.trans rfl) (fun z hz => by rw [List.mem_singleton.mp hz]; exact Or.inr ⟨by decide, "java/lang/IndexOutOfBoundsException", w_546, C.2.2.2.2.2.2.2.2.1.2.2.1 ("java/lang/IllegalStateException", "java/lang/IndexOutOfBoundsException") (by decide)⟩) rfl (by decide) w_42 hce hcv hcl ?_
  refine W.eq (g2 := F0 m 15 ls [.ref q9]) rfl ?_
  refine lv_astore_n (lv' := [(3, .ref q9), (0, .ref x), (1, .int a0), (2, .ref o)]) hx hb dL_restore_15 rfl hl (by decide) rfl (fun ls hl => ?_)
  refine lv_iconst (v := 2) hx hb dL_restore_16 (by decide) ?_
  exact r_iret C hP hD hS () rfl rfl (Nat.le_of_ble_eq_true rfl) (Nat.le_of_ble_eq_true rfl) dL_restore_17
set_option maxHeartbeats 4000000 in
set_option maxRecDepth 100000 in
theorem h_restore_1 (l : Launch) (hlt : l.stackTraces = false) (D : va_G) (cI cZ cJ : ClassId) (x : Nat) (inp : Nat) (par : Nat) (pla : Nat) (dra : Nat) (lat : Nat) (his : Nat) (f1 : Nat) (f2 : Nat) (hd : Int32) (ec : Int32) (ea : Int32) (g : Nat → Value) (gp : Nat → Value) (a0 : Int32) (o : Nat) (h1 : ¬ a0 < 0) (h2 : a0 < 2) (h3 : ¬ a0 = 0) : cMW l yL_restore cL_restore 4 (some .int) [(0, 9, 12, 13), (0, 9, 15, 20)] D (TT cI cZ cJ) [.ref x, .int a0, .ref o] [(x, .inr (10, xC inp par pla dra lat his f1 f2 hd ec ea g)), (f2, .inr (5, pC 0 0 0 gp))] (qI D (TT cI cZ cJ) (fun u : Unit => 2) (fun u : Unit => [(f2, .inr (5, pC 0 0 0 gp)), (x, .inr (10, xC inp par pla dra lat his f1 f2 hd ec ea g))])) 5 1 6 := by
  refine enterW (by decide) (Nat.le_of_ble_eq_true rfl) ?_
  intro p e s m below meth c ls A C htab hP hD hS hl
  have hx := C.1
  have hb := C.2.1
  have hl : lv_has ls 4 [(0, .ref x), (1, .int a0), (2, .ref o)] := hl
  refine lv_aload_n hx hb dL_restore_0 rfl (lv_at hl 2 rfl) ?_
  refine lv_iconst (v := 0) hx hb dL_restore_1 (by decide) ?_
  refine lv_aload_n hx hb dL_restore_2 rfl (lv_at hl 0 rfl) ?_
  refine lv_iload_n hx hb dL_restore_3 rfl (lv_at hl 1 rfl) ?_
  refine call_X (wr := []) C (run_VX (As := [.int a0]) (rest := [.int 0, .ref o]) C (k_restore_1 l hlt D cI cZ cJ x inp par pla dra lat his f1 f2 hd ec ea g gp a0 h1 h2 h3) cV_L_169 hP hD hS [0, 1] rfl rfl 0 rfl rfl rfl rfl hl.1 rfl (Nat.le_of_ble_eq_true rfl) dL_restore_4 ⟨Nat.le_of_ble_eq_true rfl, Nat.le_of_ble_eq_true rfl⟩ ⟨Nat.le_of_ble_eq_true rfl, Nat.le_of_ble_eq_true rfl⟩) hP hD hS [0, 1] [] rfl rfl rfl (by decide) (fun ce q9 H locs hce hcv hcl hP hD hS => ?_)
  have hP : va_P D CL [(f2, .inr (5, pC 0 0 0 gp)), (x, .inr (10, xC inp par pla dra lat his f1 f2 hd ec ea g))] H := hP
  have hD : va_D A [(f2, .inr (5, pC 0 0 0 gp)), (x, .inr (10, xC inp par pla dra lat his f1 f2 hd ec ea g))] := hD
  refine vx_widen (k := 1) (n := 6) (Nat.le_of_ble_eq_true rfl) (Nat.le_of_ble_eq_true rfl) ?_
  refine r_catch (E := "java/lang/IllegalStateException") C (by decide) [⟨0, 9, 12, 13⟩] ⟨0, 9, 15, 20⟩ [] (htab.trans rfl) (fun z hz => by rw [List.mem_singleton.mp hz]; exact Or.inr ⟨by decide, "java/lang/IndexOutOfBoundsException", w_546, C.2.2.2.2.2.2.2.2.1.2.2.1 ("java/lang/IllegalStateException", "java/lang/IndexOutOfBoundsException") (by decide)⟩) rfl (by decide) w_42 hce hcv hcl ?_
  refine W.eq (g2 := F0 m 15 ls [.ref q9]) rfl ?_
  refine lv_astore_n (lv' := [(3, .ref q9), (0, .ref x), (1, .int a0), (2, .ref o)]) hx hb dL_restore_15 rfl hl (by decide) rfl (fun ls hl => ?_)
  refine lv_iconst (v := 2) hx hb dL_restore_16 (by decide) ?_
  exact r_iret C hP hD hS () rfl rfl (Nat.le_of_ble_eq_true rfl) (Nat.le_of_ble_eq_true rfl) dL_restore_17
