set_option maxHeartbeats 4000000 in
set_option maxRecDepth 100000 in
theorem k_load_l (l : Launch) (hlt : l.stackTraces = false) (D : va_G) (cI cZ cJ : ClassId) (x : Nat) (inp : Nat) (par : Nat) (pla : Nat) (dra : Nat) (lat : Nat) (his : Nat) (f1 : Nat) (f2 : Nat) (hd : Int32) (ec : Int32) (ea : Int32) (g : Nat → Value) (a0 : Int32) (h1 : a0 < 0) : cX l yX11_load cX11_load 2 (some .int) D (TT cI cZ cJ) [.ref x, .int a0] [(x, .inr (10, xC inp par pla dra lat his f1 f2 hd ec ea g))] "java/lang/IndexOutOfBoundsException" [(x, .inr (10, xC inp par pla dra lat his f1 f2 hd ec ea g))] 0 1 6 := by
  refine enterX (by decide) (Nat.le_of_ble_eq_true rfl) ?_
  intro p e s m below meth c ls A C htab hP hD hS hl
  have hx := C.1
  have hb := C.2.1
  have hl : lv_has ls 2 [(0, .ref x), (1, .int a0)] := hl
  refine lv_iload_n hx hb dX11_load_0 rfl (lv_at hl 1 rfl) ?_
  refine lv_if_lt (tgt := 15) hx hb dX11_load_1 (by decide) (fun _ => ?_) (fun h => absurd h1 h)
  exact r_throwS C htab hlt hP hD hS tf_X11_123_125 hl.1 dX11_load_15 dX11_load_18 dX11_load_19 dX11_load_21 dX11_load_24 rfl (Nat.le_of_ble_eq_true rfl) (Nat.le_of_ble_eq_true rfl) (Nat.le_of_ble_eq_true rfl) (Nat.le_of_ble_eq_true rfl) (Nat.le_of_ble_eq_true rfl) (Nat.le_of_ble_eq_true rfl)
set_option maxHeartbeats 4000000 in
set_option maxRecDepth 100000 in
theorem k_load_g (l : Launch) (hlt : l.stackTraces = false) (D : va_G) (cI cZ cJ : ClassId) (x : Nat) (inp : Nat) (par : Nat) (pla : Nat) (dra : Nat) (lat : Nat) (his : Nat) (f1 : Nat) (f2 : Nat) (hd : Int32) (ec : Int32) (ea : Int32) (g : Nat → Value) (byt : Nat) (a0 : Int32) (h1 : ¬ a0 < 0) (h2 : ¬ a0 ≤ 0) : cX l yX11_load cX11_load 2 (some .int) D (TT cI cZ cJ) [.ref x, .int a0] [(x, .inr (10, xC inp par pla dra lat his f1 f2 hd ec ea g)), (inp, .inr (2, [.int 0, .int 0, .int 0, .int 0, .int 0, .int 0, .ref byt]))] "java/lang/IndexOutOfBoundsException" [(x, .inr (10, xC inp par pla dra lat his f1 f2 hd ec ea g)), (inp, .inr (2, [.int 0, .int 0, .int 0, .int 0, .int 0, .int 0, .ref byt]))] 0 1 6 := by
  refine enterX (by decide) (Nat.le_of_ble_eq_true rfl) ?_
  intro p e s m below meth c ls A C htab hP hD hS hl
  have hx := C.1
  have hb := C.2.1
  have hl : lv_has ls 2 [(0, .ref x), (1, .int a0)] := hl
  refine lv_iload_n hx hb dX11_load_0 rfl (lv_at hl 1 rfl) ?_
  refine lv_if_lt (tgt := 15) hx hb dX11_load_1 (by decide) (fun h => absurd h h1) (fun _ => ?_)
  refine lv_iload_n hx hb dX11_load_4 rfl (lv_at hl 1 rfl) ?_
  refine lv_aload_n hx hb dX11_load_5 rfl (lv_at hl 0 rfl) ?_
  refine r_get (v := .ref inp) C hP 0 rfl fg_X11_12 rfl dX11_load_6 ?_
  refine r_get (v := .int 0) C hP 1 rfl fg_X11_116 rfl dX11_load_9 ?_
  refine lv_icmp_le (tgt := 25) hx hb dX11_load_12 (by decide) (fun h => absurd h h2) (fun _ => ?_)
  exact r_throwS C htab hlt hP hD hS tf_X11_123_125 hl.1 dX11_load_15 dX11_load_18 dX11_load_19 dX11_load_21 dX11_load_24 rfl (Nat.le_of_ble_eq_true rfl) (Nat.le_of_ble_eq_true rfl) (Nat.le_of_ble_eq_true rfl) (Nat.le_of_ble_eq_true rfl) (Nat.le_of_ble_eq_true rfl) (Nat.le_of_ble_eq_true rfl)
set_option maxHeartbeats 4000000 in
set_option maxRecDepth 100000 in
theorem k_clear (l : Launch) (D : va_G) (cI cZ cJ : ClassId) (pl0 : Nat) (gp : Nat → Value)  : cM l yX6_clear cX6_clear 1 none D (TT cI cZ cJ) [.ref pl0] [(pl0, .inr (5, pC 0 0 0 gp))] (qV D (TT cI cZ cJ) (fun u : Unit => [(pl0, .inr (5, pC 0 0 0 gp))])) 0 0 0 := by
  refine enterM (by decide) (Nat.le_of_ble_eq_true rfl) ?_
  intro p e s m below meth c ls A C hP hD hS hl
  have hx := C.1
  have hb := C.2.1
  have hl : lv_has ls 1 [(0, .ref pl0)] := hl
  refine lv_aload_n hx hb dX6_clear_0 rfl (lv_at hl 0 rfl) ?_
  refine lv_iconst (v := 0) hx hb dX6_clear_1 (by decide) ?_
  refine r_put C hP hD hS 0 rfl fg_X6_9 rfl rfl (Nat.le_of_ble_eq_true rfl) dX6_clear_2 [(pl0, .inr (5, pC 0 0 0 gp))] rfl (fun H locs hP hD hS => ?_)
  refine lv_aload_n hx hb dX6_clear_5 rfl (lv_at hl 0 rfl) ?_
  refine lv_iconst (v := 0) hx hb dX6_clear_6 (by decide) ?_
  refine r_put C hP hD hS 0 rfl fg_X6_15 rfl rfl (Nat.le_of_ble_eq_true rfl) dX6_clear_7 [(pl0, .inr (5, pC 0 0 0 gp))] rfl (fun H locs hP hD hS => ?_)
  refine lv_aload_n hx hb dX6_clear_10 rfl (lv_at hl 0 rfl) ?_
  refine lv_iconst (v := 0) hx hb dX6_clear_11 (by decide) ?_
  refine r_put C hP hD hS 0 rfl fg_X6_18 rfl rfl (Nat.le_of_ble_eq_true rfl) dX6_clear_12 [(pl0, .inr (5, pC 0 0 0 gp))] rfl (fun H locs hP hD hS => ?_)
  exact r_vret C hP hD hS () rfl (Nat.le_of_ble_eq_true rfl) (Nat.le_of_ble_eq_true rfl) dX6_clear_15
set_option maxHeartbeats 4000000 in
set_option maxRecDepth 100000 in
theorem k_runEnd (l : Launch) (D : va_G) (cI cZ cJ : ClassId) (inp : Nat) (byt : Nat)  : cM l yX2_runEnd cX2_runEnd 5 (some .int) D (TT cI cZ cJ) [.ref inp, .int 0, .int 32, .int 32] [(inp, .inr (2, [.int 0, .int 0, .int 0, .int 0, .int 0, .int 0, .ref byt]))] (qI D (TT cI cZ cJ) (fun u : Unit => 0) (fun u : Unit => [(inp, .inr (2, [.int 0, .int 0, .int 0, .int 0, .int 0, .int 0, .ref byt]))])) 0 0 0 := by
  refine enterM (by decide) (Nat.le_of_ble_eq_true rfl) ?_
  intro p e s m below meth c ls A C hP hD hS hl
  have hx := C.1
  have hb := C.2.1
  have hl : lv_has ls 5 [(0, .ref inp), (1, .int 0), (2, .int 32), (3, .int 32)] := hl
  refine lv_iload_n hx hb dX2_runEnd_0 rfl (lv_at hl 1 rfl) ?_
  refine lv_iconst (v := 0) hx hb dX2_runEnd_1 (by decide) ?_
  refine va_mmax hx hb (C.2.2.1.trans hl.1.symm) C.2.2.2.1 (C.2.2.2.2.1 _ w_559) (C.2.2.2.2.1 _ w_560) (C.2.2.2.2.1 _ w_561) (C.2.2.2.2.1 _ w_562) (Nat.le_of_ble_eq_true rfl) (Nat.le_of_ble_eq_true rfl) (Nat.le_of_ble_eq_true rfl) (Nat.le_of_ble_eq_true rfl) dX2_runEnd_2 ?_
  refine W.eq (g2 := F0 m 5 ls [.int 0]) rfl ?_
  refine lv_istore (lv' := [(4, .int 0), (0, .ref inp), (1, .int 0), (2, .int 32), (3, .int 32)]) hx hb dX2_runEnd_5 hl (by decide) rfl (fun ls hl => ?_)
  refine lv_iload hx hb dX2_runEnd_7 (lv_at hl 0 rfl) ?_
  refine lv_aload_n hx hb dX2_runEnd_9 rfl (lv_at hl 1 rfl) ?_
  refine r_get (v := .int 0) C hP 0 rfl fg_X2_27 rfl dX2_runEnd_10 ?_
  refine lv_icmp_ge (tgt := 55) hx hb dX2_runEnd_13 (by decide) (fun _ => ?_) (fun h => absurd (by decide) h)
  refine lv_aload_n hx hb dX2_runEnd_55 rfl (lv_at hl 1 rfl) ?_
  refine r_get (v := .int 0) C hP 0 rfl fg_X2_27 rfl dX2_runEnd_56 ?_
  exact r_iret C hP hD hS () rfl rfl (Nat.le_of_ble_eq_true rfl) (Nat.le_of_ble_eq_true rfl) dX2_runEnd_59
set_option maxHeartbeats 4000000 in
set_option maxRecDepth 100000 in
theorem k_readToken (l : Launch) (D : va_G) (cI cZ cJ : ClassId) (inp : Nat) (byt : Nat)  : cM l yX2_readToken cX2_readToken 2 none D (TT cI cZ cJ) [.ref inp] [(inp, .inr (2, [.int 0, .int 0, .int 0, .int 0, .int 0, .int 0, .ref byt]))] (qV D (TT cI cZ cJ) (fun u : Unit => [(inp, .inr (2, [.int 0, .int 0, .int 0, .int 0, .int 0, .int 0, .ref byt]))])) 1 0 0 := by
  refine enterM (by decide) (Nat.le_of_ble_eq_true rfl) ?_
  intro p e s m below meth c ls A C hP hD hS hl
  have hx := C.1
  have hb := C.2.1
  have hl : lv_has ls 2 [(0, .ref inp)] := hl
  refine lv_aload_n hx hb dX2_readToken_0 rfl (lv_at hl 0 rfl) ?_
  refine lv_aload_n hx hb dX2_readToken_1 rfl (lv_at hl 0 rfl) ?_
  refine lv_aload_n hx hb dX2_readToken_2 rfl (lv_at hl 0 rfl) ?_
  refine r_get (v := .int 0) C hP 0 rfl fg_X2_24 rfl dX2_readToken_3 ?_
  refine lv_bipush (v := 32) hx hb dX2_readToken_6 (by decide) ?_
  refine lv_bipush (v := 32) hx hb dX2_readToken_8 (by decide) ?_
  refine call_i (wr := []) C (run_V (As := [.int 0, .int 32, .int 32]) (rest := [.ref inp]) C (k_runEnd l D cI cZ cJ inp byt ) cV_X2_37 hP hD hS [0] rfl rfl 0 rfl rfl rfl rfl hl.1 rfl (Nat.le_of_ble_eq_true rfl) dX2_readToken_10 ⟨Nat.le_of_ble_eq_true rfl, Nat.le_of_ble_eq_true rfl⟩ ⟨Nat.le_of_ble_eq_true rfl, Nat.le_of_ble_eq_true rfl⟩) hP hD hS [0] [] rfl rfl rfl (by decide) (fun u1 H locs hP hD hS => ?_)
  have hP : va_P D CL [(inp, .inr (2, [.int 0, .int 0, .int 0, .int 0, .int 0, .int 0, .ref byt]))] H := hP
  have hD : va_D A [(inp, .inr (2, [.int 0, .int 0, .int 0, .int 0, .int 0, .int 0, .ref byt]))] := hD
  refine W.widen (k := 0) (n := 0) (Nat.le_of_ble_eq_true rfl) (Nat.le_of_ble_eq_true rfl) ?_
  refine W.eq (g2 := F0 m 13 ls [.int 0, .ref inp]) rfl ?_
  refine r_put C hP hD hS 0 rfl fg_X2_18 rfl rfl (Nat.le_of_ble_eq_true rfl) dX2_readToken_13 [(inp, .inr (2, [.int 0, .int 0, .int 0, .int 0, .int 0, .int 0, .ref byt]))] rfl (fun H locs hP hD hS => ?_)
  refine lv_aload_n hx hb dX2_readToken_16 rfl (lv_at hl 0 rfl) ?_
  refine r_get (v := .int 0) C hP 0 rfl fg_X2_18 rfl dX2_readToken_17 ?_
  refine lv_aload_n hx hb dX2_readToken_20 rfl (lv_at hl 0 rfl) ?_
  refine r_get (v := .int 0) C hP 0 rfl fg_X2_27 rfl dX2_readToken_21 ?_
  refine lv_icmp_ge (tgt := 37) hx hb dX2_readToken_24 (by decide) (fun _ => ?_) (fun h => absurd (by decide) h)
  refine lv_aload_n hx hb dX2_readToken_37 rfl (lv_at hl 0 rfl) ?_
  refine lv_iconst (v := 0) hx hb dX2_readToken_38 (by decide) ?_
  refine r_put C hP hD hS 0 rfl fg_X2_15 rfl rfl (Nat.le_of_ble_eq_true rfl) dX2_readToken_39 [(inp, .inr (2, [.int 0, .int 0, .int 0, .int 0, .int 0, .int 0, .ref byt]))] rfl (fun H locs hP hD hS => ?_)
  refine lv_aload_n hx hb dX2_readToken_42 rfl (lv_at hl 0 rfl) ?_
  refine lv_aload_n hx hb dX2_readToken_43 rfl (lv_at hl 0 rfl) ?_
  refine r_get (v := .int 0) C hP 0 rfl fg_X2_18 rfl dX2_readToken_44 ?_
  refine r_put C hP hD hS 0 rfl fg_X2_24 rfl rfl (Nat.le_of_ble_eq_true rfl) dX2_readToken_47 [(inp, .inr (2, [.int 0, .int 0, .int 0, .int 0, .int 0, .int 0, .ref byt]))] rfl (fun H locs hP hD hS => ?_)
  exact r_vret C hP hD hS () rfl (Nat.le_of_ble_eq_true rfl) (Nat.le_of_ble_eq_true rfl) dX2_readToken_50
set_option maxHeartbeats 4000000 in
set_option maxRecDepth 100000 in
theorem k_startText (l : Launch) (D : va_G) (cI cZ cJ : ClassId) (inp : Nat) (byt : Nat)  : cM l yX2_startText cX2_startText 2 none D (TT cI cZ cJ) [.ref inp, .int 0] [(inp, .inr (2, [.int 0, .int 0, .int 0, .int 0, .int 0, .int 0, .ref byt]))] (qV D (TT cI cZ cJ) (fun u : Unit => [(inp, .inr (2, [.int 0, .int 0, .int 0, .int 0, .int 0, .int 0, .ref byt]))])) 2 0 0 := by
  refine enterM (by decide) (Nat.le_of_ble_eq_true rfl) ?_
  intro p e s m below meth c ls A C hP hD hS hl
  have hx := C.1
  have hb := C.2.1
  have hl : lv_has ls 2 [(0, .ref inp), (1, .int 0)] := hl
  refine lv_aload_n hx hb dX2_startText_0 rfl (lv_at hl 0 rfl) ?_
  refine lv_iload_n hx hb dX2_startText_1 rfl (lv_at hl 1 rfl) ?_
  refine r_put C hP hD hS 0 rfl fg_X2_27 rfl rfl (Nat.le_of_ble_eq_true rfl) dX2_startText_2 [(inp, .inr (2, [.int 0, .int 0, .int 0, .int 0, .int 0, .int 0, .ref byt]))] rfl (fun H locs hP hD hS => ?_)
  refine lv_aload_n hx hb dX2_startText_5 rfl (lv_at hl 0 rfl) ?_
  refine lv_iconst (v := 0) hx hb dX2_startText_6 (by decide) ?_
  refine r_put C hP hD hS 0 rfl fg_X2_24 rfl rfl (Nat.le_of_ble_eq_true rfl) dX2_startText_7 [(inp, .inr (2, [.int 0, .int 0, .int 0, .int 0, .int 0, .int 0, .ref byt]))] rfl (fun H locs hP hD hS => ?_)
  refine lv_aload_n hx hb dX2_startText_10 rfl (lv_at hl 0 rfl) ?_
  refine call_v (wr := []) C (run_V (As := []) (rest := []) C (k_readToken l D cI cZ cJ inp byt ) cV_X2_34 hP hD hS [0] rfl rfl 0 rfl rfl rfl rfl hl.1 rfl (Nat.le_of_ble_eq_true rfl) dX2_startText_11 ⟨Nat.le_of_ble_eq_true rfl, Nat.le_of_ble_eq_true rfl⟩ ⟨Nat.le_of_ble_eq_true rfl, Nat.le_of_ble_eq_true rfl⟩) hP hD hS [0] [] rfl rfl rfl (by decide) (fun u1 H locs hP hD hS => ?_)
  have hP : va_P D CL [(inp, .inr (2, [.int 0, .int 0, .int 0, .int 0, .int 0, .int 0, .ref byt]))] H := hP
  have hD : va_D A [(inp, .inr (2, [.int 0, .int 0, .int 0, .int 0, .int 0, .int 0, .ref byt]))] := hD
  refine W.widen (k := 0) (n := 0) (Nat.le_of_ble_eq_true rfl) (Nat.le_of_ble_eq_true rfl) ?_
  exact r_vret C hP hD hS () rfl (Nat.le_of_ble_eq_true rfl) (Nat.le_of_ble_eq_true rfl) dX2_startText_14
set_option maxHeartbeats 4000000 in
set_option maxRecDepth 100000 in
theorem k_isWord (l : Launch) (D : va_G) (cI cZ cJ : ClassId) (inp : Nat) (byt : Nat) (st0 : Nat)  : cM l yX2_isWord cX2_isWord 4 (some .boolean) D (TT cI cZ cJ) [.ref inp, .ref st0] [(inp, .inr (2, [.int 0, .int 0, .int 0, .int 0, .int 0, .int 0, .ref byt]))] (qI D (TT cI cZ cJ) (fun u : Unit => 0) (fun u : Unit => [(inp, .inr (2, [.int 0, .int 0, .int 0, .int 0, .int 0, .int 0, .ref byt]))])) 0 0 0 := by
  refine enterM (by decide) (Nat.le_of_ble_eq_true rfl) ?_
  intro p e s m below meth c ls A C hP hD hS hl
  have hx := C.1
  have hb := C.2.1
  have hl : lv_has ls 4 [(0, .ref inp), (1, .ref st0)] := hl
  refine lv_aload_n hx hb dX2_isWord_0 rfl (lv_at hl 0 rfl) ?_
  refine r_get (v := .int 0) C hP 0 rfl fg_X2_15 rfl dX2_isWord_1 ?_
  refine lv_iconst (v := 1) hx hb dX2_isWord_4 (by decide) ?_
  refine lv_icmp_ne (tgt := 24) hx hb dX2_isWord_5 (by decide) (fun _ => ?_) (fun h => absurd h (by decide))
  refine lv_iconst (v := 0) hx hb dX2_isWord_24 (by decide) ?_
  exact r_zret C hP hD hS () rfl rfl rfl (Nat.le_of_ble_eq_true rfl) (Nat.le_of_ble_eq_true rfl) dX2_isWord_25
set_option maxHeartbeats 4000000 in
set_option maxRecDepth 100000 in
theorem k_parse (l : Launch) (D : va_G) (cI cZ cJ : ClassId) (par : Nat) (inp : Nat) (byt : Nat) (dra : Nat) (gr : Nat → Value) (gp : Nat → Value)  : cM l yX5_parse cX5_parse 3 (some .int) D (TT cI cZ cJ) [.ref par, .int 0] [(par, .inr (4, [.ref inp, .ref dra, gr 2, .int 0, .int 0])), (inp, .inr (2, [.int 0, .int 0, .int 0, .int 0, .int 0, .int 0, .ref byt])), (dra, .inr (5, pC 0 0 0 gp))] (qI D (TT cI cZ cJ) (fun u : Unit => 1) (fun u : Unit => [(par, .inr (4, [.ref inp, .ref dra, gr 2, .int 0, .int 0])), (inp, .inr (2, [.int 0, .int 0, .int 0, .int 0, .int 0, .int 0, .ref byt])), (dra, .inr (5, pC 0 0 0 gp))])) 3 0 0 := by
  refine enterM (by decide) (Nat.le_of_ble_eq_true rfl) ?_
  intro p e s m below meth c ls A C hP hD hS hl
  have hx := C.1
  have hb := C.2.1
  have hl : lv_has ls 3 [(0, .ref par), (1, .int 0)] := hl
  refine lv_aload_n hx hb dX5_parse_0 rfl (lv_at hl 0 rfl) ?_
  refine r_get (v := .ref dra) C hP 0 rfl fg_X5_22 rfl dX5_parse_1 ?_
  refine call_v (wr := [(par, .inr (4, [.ref inp, .ref dra, gr 2, .int 0, .int 0])), (inp, .inr (2, [.int 0, .int 0, .int 0, .int 0, .int 0, .int 0, .ref byt]))]) C (run_V (As := []) (rest := []) C (k_clear l D cI cZ cJ dra gp ) cV_X5_30 hP hD hS [2] rfl rfl 0 rfl rfl rfl rfl hl.1 rfl (Nat.le_of_ble_eq_true rfl) dX5_parse_4 ⟨Nat.le_of_ble_eq_true rfl, Nat.le_of_ble_eq_true rfl⟩ ⟨Nat.le_of_ble_eq_true rfl, Nat.le_of_ble_eq_true rfl⟩) hP hD hS [2] [0, 1] rfl rfl rfl (by decide) (fun u1 H locs hP hD hS => ?_)
  have hP : va_P D CL [(par, .inr (4, [.ref inp, .ref dra, gr 2, .int 0, .int 0])), (inp, .inr (2, [.int 0, .int 0, .int 0, .int 0, .int 0, .int 0, .ref byt])), (dra, .inr (5, pC 0 0 0 gp))] H := hP
  have hD : va_D A [(par, .inr (4, [.ref inp, .ref dra, gr 2, .int 0, .int 0])), (inp, .inr (2, [.int 0, .int 0, .int 0, .int 0, .int 0, .int 0, .ref byt])), (dra, .inr (5, pC 0 0 0 gp))] := hD
  refine W.widen (k := 0) (n := 0) (Nat.le_of_ble_eq_true rfl) (Nat.le_of_ble_eq_true rfl) ?_
  refine lv_aload_n hx hb dX5_parse_7 rfl (lv_at hl 0 rfl) ?_
  refine r_get (v := .ref inp) C hP 0 rfl fg_X5_18 rfl dX5_parse_8 ?_
  refine lv_iload_n hx hb dX5_parse_11 rfl (lv_at hl 1 rfl) ?_
  refine call_v (wr := [(par, .inr (4, [.ref inp, .ref dra, gr 2, .int 0, .int 0])), (dra, .inr (5, pC 0 0 0 gp))]) C (run_V (As := [.int 0]) (rest := []) C (k_startText l D cI cZ cJ inp byt ) cV_X5_35 hP hD hS [1] rfl rfl 0 rfl rfl rfl rfl hl.1 rfl (Nat.le_of_ble_eq_true rfl) dX5_parse_12 ⟨Nat.le_of_ble_eq_true rfl, Nat.le_of_ble_eq_true rfl⟩ ⟨Nat.le_of_ble_eq_true rfl, Nat.le_of_ble_eq_true rfl⟩) hP hD hS [1] [0, 2] rfl rfl rfl (by decide) (fun u2 H locs hP hD hS => ?_)
  have hP : va_P D CL [(par, .inr (4, [.ref inp, .ref dra, gr 2, .int 0, .int 0])), (dra, .inr (5, pC 0 0 0 gp)), (inp, .inr (2, [.int 0, .int 0, .int 0, .int 0, .int 0, .int 0, .ref byt]))] H := hP
  have hD : va_D A [(par, .inr (4, [.ref inp, .ref dra, gr 2, .int 0, .int 0])), (dra, .inr (5, pC 0 0 0 gp)), (inp, .inr (2, [.int 0, .int 0, .int 0, .int 0, .int 0, .int 0, .ref byt]))] := hD
  refine W.widen (k := 0) (n := 0) (Nat.le_of_ble_eq_true rfl) (Nat.le_of_ble_eq_true rfl) ?_
  refine lv_aload_n hx hb dX5_parse_15 rfl (lv_at hl 0 rfl) ?_
  refine r_get (v := .ref inp) C hP 0 rfl fg_X5_18 rfl dX5_parse_16 ?_
  refine r_ldcS (text := "polygon") C (by decide) dX5_parse_19 (fun q3 => ?_)
  refine call_i (wr := [(par, .inr (4, [.ref inp, .ref dra, gr 2, .int 0, .int 0])), (dra, .inr (5, pC 0 0 0 gp))]) C (run_V (As := [.ref q3]) (rest := []) C (k_isWord l D cI cZ cJ inp byt q3 ) cV_X5_43 hP hD hS [2] rfl rfl 0 rfl rfl rfl rfl hl.1 rfl (Nat.le_of_ble_eq_true rfl) dX5_parse_21 ⟨Nat.le_of_ble_eq_true rfl, Nat.le_of_ble_eq_true rfl⟩ ⟨Nat.le_of_ble_eq_true rfl, Nat.le_of_ble_eq_true rfl⟩) hP hD hS [2] [0, 1] rfl rfl rfl (by decide) (fun u4 H locs hP hD hS => ?_)
  have hP : va_P D CL [(par, .inr (4, [.ref inp, .ref dra, gr 2, .int 0, .int 0])), (dra, .inr (5, pC 0 0 0 gp)), (inp, .inr (2, [.int 0, .int 0, .int 0, .int 0, .int 0, .int 0, .ref byt]))] H := hP
  have hD : va_D A [(par, .inr (4, [.ref inp, .ref dra, gr 2, .int 0, .int 0])), (dra, .inr (5, pC 0 0 0 gp)), (inp, .inr (2, [.int 0, .int 0, .int 0, .int 0, .int 0, .int 0, .ref byt]))] := hD
  refine W.widen (k := 0) (n := 0) (Nat.le_of_ble_eq_true rfl) (Nat.le_of_ble_eq_true rfl) ?_
  refine W.eq (g2 := F0 m 24 ls [.int 0]) rfl ?_
  refine lv_if_ne (tgt := 29) hx hb dX5_parse_24 (by decide) (fun h => absurd h (by decide)) (fun _ => ?_)
  refine lv_iconst (v := 1) hx hb dX5_parse_27 (by decide) ?_
  have hP := hP.sub (ws' := [(par, .inr (4, [.ref inp, .ref dra, gr 2, .int 0, .int 0])), (inp, .inr (2, [.int 0, .int 0, .int 0, .int 0, .int 0, .int 0, .ref byt])), (dra, .inr (5, pC 0 0 0 gp))]) [0, 2, 1] rfl
  have hD := hD.sub (ws' := [(par, .inr (4, [.ref inp, .ref dra, gr 2, .int 0, .int 0])), (inp, .inr (2, [.int 0, .int 0, .int 0, .int 0, .int 0, .int 0, .ref byt])), (dra, .inr (5, pC 0 0 0 gp))]) [0, 2, 1] (by decide) rfl
  exact r_iret C hP hD hS () rfl rfl (Nat.le_of_ble_eq_true rfl) (Nat.le_of_ble_eq_true rfl) dX5_parse_28
set_option maxHeartbeats 4000000 in
set_option maxRecDepth 100000 in
theorem k_load_0 (l : Launch) (hlt : l.stackTraces = false) (D : va_G) (cI cZ cJ : ClassId) (x : Nat) (inp : Nat) (par : Nat) (pla : Nat) (dra : Nat) (lat : Nat) (his : Nat) (f1 : Nat) (f2 : Nat) (hd : Int32) (ec : Int32) (ea : Int32) (g : Nat → Value) (byt : Nat) (gr : Nat → Value) (gp : Nat → Value)  : cX l yX11_load cX11_load 2 (some .int) D (TT cI cZ cJ) [.ref x, .int 0] [(x, .inr (10, xC inp par pla dra lat his f1 f2 hd ec ea g)), (inp, .inr (2, [.int 0, .int 0, .int 0, .int 0, .int 0, .int 0, .ref byt])), (par, .inr (4, [.ref inp, .ref dra, gr 2, .int 0, .int 0])), (dra, .inr (5, pC 0 0 0 gp))] "java/lang/IllegalArgumentException" [(x, .inr (10, xC inp par pla dra lat his f1 f2 hd 1 0 g)), (inp, .inr (2, [.int 0, .int 0, .int 0, .int 0, .int 0, .int 0, .ref byt])), (par, .inr (4, [.ref inp, .ref dra, gr 2, .int 0, .int 0])), (dra, .inr (5, pC 0 0 0 gp))] 4 1 6 := by
  refine enterX (by decide) (Nat.le_of_ble_eq_true rfl) ?_
  intro p e s m below meth c ls A C htab hP hD hS hl
  have hx := C.1
  have hb := C.2.1
  have hl : lv_has ls 2 [(0, .ref x), (1, .int 0)] := hl
  refine lv_iload_n hx hb dX11_load_0 rfl (lv_at hl 1 rfl) ?_
  refine lv_if_lt (tgt := 15) hx hb dX11_load_1 (by decide) (fun h => absurd h (by decide)) (fun _ => ?_)
  refine lv_iload_n hx hb dX11_load_4 rfl (lv_at hl 1 rfl) ?_
  refine lv_aload_n hx hb dX11_load_5 rfl (lv_at hl 0 rfl) ?_
  refine r_get (v := .ref inp) C hP 0 rfl fg_X11_12 rfl dX11_load_6 ?_
  refine r_get (v := .int 0) C hP 1 rfl fg_X11_116 rfl dX11_load_9 ?_
  refine lv_icmp_le (tgt := 25) hx hb dX11_load_12 (by decide) (fun _ => ?_) (fun h => absurd (by decide) h)
  refine lv_aload_n hx hb dX11_load_25 rfl (lv_at hl 0 rfl) ?_
  refine lv_aload_n hx hb dX11_load_26 rfl (lv_at hl 0 rfl) ?_
  refine r_get (v := .ref par) C hP 0 rfl fg_X11_41 rfl dX11_load_27 ?_
  refine lv_iload_n hx hb dX11_load_30 rfl (lv_at hl 1 rfl) ?_
  refine call_i (wr := [(x, .inr (10, xC inp par pla dra lat his f1 f2 hd ec ea g))]) C (run_V (As := [.int 0]) (rest := [.ref x]) C (k_parse l D cI cZ cJ par inp byt dra gr gp ) cV_X11_130 hP hD hS [2, 1, 3] rfl rfl 0 rfl rfl rfl rfl hl.1 rfl (Nat.le_of_ble_eq_true rfl) dX11_load_31 ⟨Nat.le_of_ble_eq_true rfl, Nat.le_of_ble_eq_true rfl⟩ ⟨Nat.le_of_ble_eq_true rfl, Nat.le_of_ble_eq_true rfl⟩) hP hD hS [2, 1, 3] [0] rfl rfl rfl (by decide) (fun u1 H locs hP hD hS => ?_)
  have hP : va_P D CL [(x, .inr (10, xC inp par pla dra lat his f1 f2 hd ec ea g)), (par, .inr (4, [.ref inp, .ref dra, gr 2, .int 0, .int 0])), (inp, .inr (2, [.int 0, .int 0, .int 0, .int 0, .int 0, .int 0, .ref byt])), (dra, .inr (5, pC 0 0 0 gp))] H := hP
  have hD : va_D A [(x, .inr (10, xC inp par pla dra lat his f1 f2 hd ec ea g)), (par, .inr (4, [.ref inp, .ref dra, gr 2, .int 0, .int 0])), (inp, .inr (2, [.int 0, .int 0, .int 0, .int 0, .int 0, .int 0, .ref byt])), (dra, .inr (5, pC 0 0 0 gp))] := hD
  refine W.widen (k := 0) (n := 0) (Nat.le_of_ble_eq_true rfl) (Nat.le_of_ble_eq_true rfl) ?_
  refine W.eq (g2 := F0 m 34 ls [.int 1, .ref x]) rfl ?_
  refine r_put C hP hD hS 0 rfl fg_X11_109 rfl rfl (Nat.le_of_ble_eq_true rfl) dX11_load_34 [(x, .inr (10, xC inp par pla dra lat his f1 f2 hd 1 ea g)), (par, .inr (4, [.ref inp, .ref dra, gr 2, .int 0, .int 0])), (inp, .inr (2, [.int 0, .int 0, .int 0, .int 0, .int 0, .int 0, .ref byt])), (dra, .inr (5, pC 0 0 0 gp))] rfl (fun H locs hP hD hS => ?_)
  refine lv_aload_n hx hb dX11_load_37 rfl (lv_at hl 0 rfl) ?_
  refine lv_aload_n hx hb dX11_load_38 rfl (lv_at hl 0 rfl) ?_
  refine r_get (v := .int 1) C hP 0 rfl fg_X11_109 rfl dX11_load_39 ?_
  refine lv_if_ne (tgt := 49) hx hb dX11_load_42 (by decide) (fun _ => ?_) (fun h => absurd h (by decide))
  refine lv_aload_n hx hb dX11_load_49 rfl (lv_at hl 0 rfl) ?_
  refine r_get (v := .ref inp) C hP 0 rfl fg_X11_12 rfl dX11_load_50 ?_
  refine r_get (v := .int 0) C hP 2 rfl fg_X11_134 rfl dX11_load_53 ?_
  refine r_put C hP hD hS 0 rfl fg_X11_113 rfl rfl (Nat.le_of_ble_eq_true rfl) dX11_load_56 [(x, .inr (10, xC inp par pla dra lat his f1 f2 hd 1 0 g)), (par, .inr (4, [.ref inp, .ref dra, gr 2, .int 0, .int 0])), (inp, .inr (2, [.int 0, .int 0, .int 0, .int 0, .int 0, .int 0, .ref byt])), (dra, .inr (5, pC 0 0 0 gp))] rfl (fun H locs hP hD hS => ?_)
  refine lv_aload_n hx hb dX11_load_59 rfl (lv_at hl 0 rfl) ?_
  refine r_get (v := .ref inp) C hP 0 rfl fg_X11_12 rfl dX11_load_60 ?_
  refine lv_iconst (v := 0) hx hb dX11_load_63 (by decide) ?_
  refine r_put C hP hD hS 2 rfl fg_X11_116 rfl rfl (Nat.le_of_ble_eq_true rfl) dX11_load_64 [(x, .inr (10, xC inp par pla dra lat his f1 f2 hd 1 0 g)), (par, .inr (4, [.ref inp, .ref dra, gr 2, .int 0, .int 0])), (inp, .inr (2, [.int 0, .int 0, .int 0, .int 0, .int 0, .int 0, .ref byt])), (dra, .inr (5, pC 0 0 0 gp))] rfl (fun H locs hP hD hS => ?_)
  refine lv_aload_n hx hb dX11_load_67 rfl (lv_at hl 0 rfl) ?_
  refine r_get (v := .int 1) C hP 0 rfl fg_X11_109 rfl dX11_load_68 ?_
  refine lv_if_eq (tgt := 84) hx hb dX11_load_71 (by decide) (fun h => absurd h (by decide)) (fun _ => ?_)
  have hP := hP.sub (ws' := [(x, .inr (10, xC inp par pla dra lat his f1 f2 hd 1 0 g)), (inp, .inr (2, [.int 0, .int 0, .int 0, .int 0, .int 0, .int 0, .ref byt])), (par, .inr (4, [.ref inp, .ref dra, gr 2, .int 0, .int 0])), (dra, .inr (5, pC 0 0 0 gp))]) [0, 2, 1, 3] rfl
  have hD := hD.sub (ws' := [(x, .inr (10, xC inp par pla dra lat his f1 f2 hd 1 0 g)), (inp, .inr (2, [.int 0, .int 0, .int 0, .int 0, .int 0, .int 0, .ref byt])), (par, .inr (4, [.ref inp, .ref dra, gr 2, .int 0, .int 0])), (dra, .inr (5, pC 0 0 0 gp))]) [0, 2, 1, 3] (by decide) rfl
  exact r_throwS C htab hlt hP hD hS tf_X11_137_139 hl.1 dX11_load_74 dX11_load_77 dX11_load_78 dX11_load_80 dX11_load_83 rfl (Nat.le_of_ble_eq_true rfl) (Nat.le_of_ble_eq_true rfl) (Nat.le_of_ble_eq_true rfl) (Nat.le_of_ble_eq_true rfl) (Nat.le_of_ble_eq_true rfl) (Nat.le_of_ble_eq_true rfl)
set_option maxHeartbeats 4000000 in
set_option maxRecDepth 100000 in
theorem h_load_l (l : Launch) (hlt : l.stackTraces = false) (D : va_G) (cI cZ cJ : ClassId) (x : Nat) (inp : Nat) (par : Nat) (pla : Nat) (dra : Nat) (lat : Nat) (his : Nat) (f1 : Nat) (f2 : Nat) (hd : Int32) (ec : Int32) (ea : Int32) (g : Nat → Value) (a0 : Int32) (o : Nat) (h1 : a0 < 0) : cMW l yL_load cL_load 4 (some .int) [(0, 9, 12, 13), (0, 9, 15, 15)] D (TT cI cZ cJ) [.ref x, .int a0, .ref o] [(x, .inr (10, xC inp par pla dra lat his f1 f2 hd ec ea g))] (qI D (TT cI cZ cJ) (fun u : Unit => 1) (fun u : Unit => [(x, .inr (10, xC inp par pla dra lat his f1 f2 hd ec ea g))])) 5 1 6 := by
  refine enterW (by decide) (Nat.le_of_ble_eq_true rfl) ?_
  intro p e s m below meth c ls A C htab hP hD hS hl
  have hx := C.1
  have hb := C.2.1
  have hl : lv_has ls 4 [(0, .ref x), (1, .int a0), (2, .ref o)] := hl
  refine lv_aload_n hx hb dL_load_0 rfl (lv_at hl 2 rfl) ?_
  refine lv_iconst (v := 0) hx hb dL_load_1 (by decide) ?_
  refine lv_aload_n hx hb dL_load_2 rfl (lv_at hl 0 rfl) ?_
  refine lv_iload_n hx hb dL_load_3 rfl (lv_at hl 1 rfl) ?_
  refine call_X (wr := []) C (run_VX (As := [.int a0]) (rest := [.int 0, .ref o]) C (k_load_l l hlt D cI cZ cJ x inp par pla dra lat his f1 f2 hd ec ea g a0 h1) cV_L_7 hP hD hS [0] rfl rfl 0 rfl rfl rfl rfl hl.1 rfl (Nat.le_of_ble_eq_true rfl) dL_load_4 ⟨Nat.le_of_ble_eq_true rfl, Nat.le_of_ble_eq_true rfl⟩ ⟨Nat.le_of_ble_eq_true rfl, Nat.le_of_ble_eq_true rfl⟩) hP hD hS [0] [] rfl rfl rfl (by decide) (fun ce q9 H locs hce hcv hcl hP hD hS => ?_)
  have hP : va_P D CL [(x, .inr (10, xC inp par pla dra lat his f1 f2 hd ec ea g))] H := hP
  have hD : va_D A [(x, .inr (10, xC inp par pla dra lat his f1 f2 hd ec ea g))] := hD
  refine vx_widen (k := 1) (n := 6) (Nat.le_of_ble_eq_true rfl) (Nat.le_of_ble_eq_true rfl) ?_
  refine r_catch (E := "java/lang/IndexOutOfBoundsException") C (by decide) [] ⟨0, 9, 12, 13⟩ [⟨0, 9, 15, 15⟩] (htab.trans rfl) (fun z hz => nomatch hz) rfl (by decide) w_546 hce hcv hcl ?_
  refine W.eq (g2 := F0 m 12 ls [.ref q9]) rfl ?_
  refine lv_astore_n (lv' := [(3, .ref q9), (0, .ref x), (1, .int a0), (2, .ref o)]) hx hb dL_load_12 rfl hl (by decide) rfl (fun ls hl => ?_)
  refine lv_iconst (v := 1) hx hb dL_load_13 (by decide) ?_
  exact r_iret C hP hD hS () rfl rfl (Nat.le_of_ble_eq_true rfl) (Nat.le_of_ble_eq_true rfl) dL_load_14
set_option maxHeartbeats 4000000 in
set_option maxRecDepth 100000 in
theorem h_load_g (l : Launch) (hlt : l.stackTraces = false) (D : va_G) (cI cZ cJ : ClassId) (x : Nat) (inp : Nat) (par : Nat) (pla : Nat) (dra : Nat) (lat : Nat) (his : Nat) (f1 : Nat) (f2 : Nat) (hd : Int32) (ec : Int32) (ea : Int32) (g : Nat → Value) (byt : Nat) (a0 : Int32) (o : Nat) (h1 : ¬ a0 < 0) (h2 : ¬ a0 ≤ 0) : cMW l yL_load cL_load 4 (some .int) [(0, 9, 12, 13), (0, 9, 15, 15)] D (TT cI cZ cJ) [.ref x, .int a0, .ref o] [(x, .inr (10, xC inp par pla dra lat his f1 f2 hd ec ea g)), (inp, .inr (2, [.int 0, .int 0, .int 0, .int 0, .int 0, .int 0, .ref byt]))] (qI D (TT cI cZ cJ) (fun u : Unit => 1) (fun u : Unit => [(x, .inr (10, xC inp par pla dra lat his f1 f2 hd ec ea g)), (inp, .inr (2, [.int 0, .int 0, .int 0, .int 0, .int 0, .int 0, .ref byt]))])) 5 1 6 := by
  refine enterW (by decide) (Nat.le_of_ble_eq_true rfl) ?_
  intro p e s m below meth c ls A C htab hP hD hS hl
  have hx := C.1
  have hb := C.2.1
  have hl : lv_has ls 4 [(0, .ref x), (1, .int a0), (2, .ref o)] := hl
  refine lv_aload_n hx hb dL_load_0 rfl (lv_at hl 2 rfl) ?_
  refine lv_iconst (v := 0) hx hb dL_load_1 (by decide) ?_
  refine lv_aload_n hx hb dL_load_2 rfl (lv_at hl 0 rfl) ?_
  refine lv_iload_n hx hb dL_load_3 rfl (lv_at hl 1 rfl) ?_
  refine call_X (wr := []) C (run_VX (As := [.int a0]) (rest := [.int 0, .ref o]) C (k_load_g l hlt D cI cZ cJ x inp par pla dra lat his f1 f2 hd ec ea g byt a0 h1 h2) cV_L_7 hP hD hS [0, 1] rfl rfl 0 rfl rfl rfl rfl hl.1 rfl (Nat.le_of_ble_eq_true rfl) dL_load_4 ⟨Nat.le_of_ble_eq_true rfl, Nat.le_of_ble_eq_true rfl⟩ ⟨Nat.le_of_ble_eq_true rfl, Nat.le_of_ble_eq_true rfl⟩) hP hD hS [0, 1] [] rfl rfl rfl (by decide) (fun ce q9 H locs hce hcv hcl hP hD hS => ?_)
  have hP : va_P D CL [(x, .inr (10, xC inp par pla dra lat his f1 f2 hd ec ea g)), (inp, .inr (2, [.int 0, .int 0, .int 0, .int 0, .int 0, .int 0, .ref byt]))] H := hP
  have hD : va_D A [(x, .inr (10, xC inp par pla dra lat his f1 f2 hd ec ea g)), (inp, .inr (2, [.int 0, .int 0, .int 0, .int 0, .int 0, .int 0, .ref byt]))] := hD
  refine vx_widen (k := 1) (n := 6) (Nat.le_of_ble_eq_true rfl) (Nat.le_of_ble_eq_true rfl) ?_
  refine r_catch (E := "java/lang/IndexOutOfBoundsException") C (by decide) [] ⟨0, 9, 12, 13⟩ [⟨0, 9, 15, 15⟩] (htab.trans rfl) (fun z hz => nomatch hz) rfl (by decide) w_546 hce hcv hcl ?_
  refine W.eq (g2 := F0 m 12 ls [.ref q9]) rfl ?_
  refine lv_astore_n (lv' := [(3, .ref q9), (0, .ref x), (1, .int a0), (2, .ref o)]) hx hb dL_load_12 rfl hl (by decide) rfl (fun ls hl => ?_)
  refine lv_iconst (v := 1) hx hb dL_load_13 (by decide) ?_
  exact r_iret C hP hD hS () rfl rfl (Nat.le_of_ble_eq_true rfl) (Nat.le_of_ble_eq_true rfl) dL_load_14
set_option maxHeartbeats 4000000 in
set_option maxRecDepth 100000 in
theorem h_load_0 (l : Launch) (hlt : l.stackTraces = false) (D : va_G) (cI cZ cJ : ClassId) (x : Nat) (inp : Nat) (par : Nat) (pla : Nat) (dra : Nat) (lat : Nat) (his : Nat) (f1 : Nat) (f2 : Nat) (hd : Int32) (ec : Int32) (ea : Int32) (g : Nat → Value) (byt : Nat) (gr : Nat → Value) (gp : Nat → Value) (o : Nat)  : cMW l yL_load cL_load 4 (some .int) [(0, 9, 12, 13), (0, 9, 15, 15)] D (TT cI cZ cJ) [.ref x, .int 0, .ref o] [(x, .inr (10, xC inp par pla dra lat his f1 f2 hd ec ea g)), (inp, .inr (2, [.int 0, .int 0, .int 0, .int 0, .int 0, .int 0, .ref byt])), (par, .inr (4, [.ref inp, .ref dra, gr 2, .int 0, .int 0])), (dra, .inr (5, pC 0 0 0 gp))] (qI D (TT cI cZ cJ) (fun u : Unit => 2) (fun u : Unit => [(x, .inr (10, xC inp par pla dra lat his f1 f2 hd 1 0 g)), (inp, .inr (2, [.int 0, .int 0, .int 0, .int 0, .int 0, .int 0, .ref byt])), (par, .inr (4, [.ref inp, .ref dra, gr 2, .int 0, .int 0])), (dra, .inr (5, pC 0 0 0 gp))])) 5 1 6 := by
  refine enterW (by decide) (Nat.le_of_ble_eq_true rfl) ?_
  intro p e s m below meth c ls A C htab hP hD hS hl
  have hx := C.1
  have hb := C.2.1
  have hl : lv_has ls 4 [(0, .ref x), (1, .int 0), (2, .ref o)] := hl
  refine lv_aload_n hx hb dL_load_0 rfl (lv_at hl 2 rfl) ?_
  refine lv_iconst (v := 0) hx hb dL_load_1 (by decide) ?_
  refine lv_aload_n hx hb dL_load_2 rfl (lv_at hl 0 rfl) ?_
  refine lv_iload_n hx hb dL_load_3 rfl (lv_at hl 1 rfl) ?_
  refine call_X (wr := []) C (run_VX (As := [.int 0]) (rest := [.int 0, .ref o]) C (k_load_0 l hlt D cI cZ cJ x inp par pla dra lat his f1 f2 hd ec ea g byt gr gp ) cV_L_7 hP hD hS [0, 1, 2, 3] rfl rfl 0 rfl rfl rfl rfl hl.1 rfl (Nat.le_of_ble_eq_true rfl) dL_load_4 ⟨Nat.le_of_ble_eq_true rfl, Nat.le_of_ble_eq_true rfl⟩ ⟨Nat.le_of_ble_eq_true rfl, Nat.le_of_ble_eq_true rfl⟩) hP hD hS [0, 1, 2, 3] [] rfl rfl rfl (by decide) (fun ce q9 H locs hce hcv hcl hP hD hS => ?_)
  have hP : va_P D CL [(x, .inr (10, xC inp par pla dra lat his f1 f2 hd 1 0 g)), (inp, .inr (2, [.int 0, .int 0, .int 0, .int 0, .int 0, .int 0, .ref byt])), (par, .inr (4, [.ref inp, .ref dra, gr 2, .int 0, .int 0])), (dra, .inr (5, pC 0 0 0 gp))] H := hP
  have hD : va_D A [(x, .inr (10, xC inp par pla dra lat his f1 f2 hd 1 0 g)), (inp, .inr (2, [.int 0, .int 0, .int 0, .int 0, .int 0, .int 0, .ref byt])), (par, .inr (4, [.ref inp, .ref dra, gr 2, .int 0, .int 0])), (dra, .inr (5, pC 0 0 0 gp))] := hD
  refine vx_widen (k := 1) (n := 6) (Nat.le_of_ble_eq_true rfl) (Nat.le_of_ble_eq_true rfl) ?_
  refine r_catch (E := "java/lang/IllegalArgumentException") C (by decide) [⟨0, 9, 12, 13⟩] ⟨0, 9, 15, 15⟩ [] (htab.trans rfl) (fun z hz => by rw [List.mem_singleton.mp hz]; exact Or.inr ⟨by decide, "java/lang/IndexOutOfBoundsException", w_546, C.2.2.2.2.2.2.2.2.1.2.2.1 ("java/lang/IllegalArgumentException", "java/lang/IndexOutOfBoundsException") (by decide)⟩) rfl (by decide) w_594 hce hcv hcl ?_
  refine W.eq (g2 := F0 m 15 ls [.ref q9]) rfl ?_
  refine lv_astore_n (lv' := [(3, .ref q9), (0, .ref x), (1, .int 0), (2, .ref o)]) hx hb dL_load_15 rfl hl (by decide) rfl (fun ls hl => ?_)
  refine lv_iconst (v := 2) hx hb dL_load_16 (by decide) ?_
  exact r_iret C hP hD hS () rfl rfl (Nat.le_of_ble_eq_true rfl) (Nat.le_of_ble_eq_true rfl) dL_load_17
