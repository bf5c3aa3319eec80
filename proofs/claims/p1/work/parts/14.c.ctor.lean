set_option maxHeartbeats 4000000 in
set_option maxRecDepth 100000 in
theorem i_Plan (l : Launch) (D : va_G) (cI cZ cJ : ClassId) (h0 : Nat)  : cM l yX6_init cX6_init 1 none D (TT cI cZ cJ) [.ref h0] [(h0, .inr (5, [.int 0, .int 0, .int 0, .null, .null, .null, .null, .null, .null, .null, .null]))] (qV D (TT cI cZ cJ) (fun u : Nat → Value => [(h0, .inr (5, pC 0 0 0 u))])) 0 8 60 := by
  refine enterM (by decide) (Nat.le_of_ble_eq_true rfl) ?_
  intro p e s m below meth c ls A C hP hD hS hl
  have hx := C.1
  have hb := C.2.1
  have hl : lv_has ls 1 [(0, .ref h0)] := hl
  refine lv_aload_n hx hb dX6_init_0 rfl (lv_at hl 0 rfl) ?_
  refine r_obj C w_306 w_307 w_308 hl.1 dX6_init_1 (Nat.le_of_ble_eq_true rfl) (Nat.le_of_ble_eq_true rfl) ?_
  refine lv_aload_n hx hb dX6_init_4 rfl (lv_at hl 0 rfl) ?_
  refine lv_iconst (v := 0) hx hb dX6_init_5 (by decide) ?_
  refine r_put C hP hD hS 0 rfl fg_X6_9 rfl rfl (Nat.le_of_ble_eq_true rfl) dX6_init_6 [(h0, .inr (5, [.int 0, .int 0, .int 0, .null, .null, .null, .null, .null, .null, .null, .null]))] rfl (fun H locs hP hD hS => ?_)
  refine lv_aload_n hx hb dX6_init_9 rfl (lv_at hl 0 rfl) ?_
  refine lv_iconst (v := 0) hx hb dX6_init_10 (by decide) ?_
  refine r_put C hP hD hS 0 rfl fg_X6_15 rfl rfl (Nat.le_of_ble_eq_true rfl) dX6_init_11 [(h0, .inr (5, [.int 0, .int 0, .int 0, .null, .null, .null, .null, .null, .null, .null, .null]))] rfl (fun H locs hP hD hS => ?_)
  refine lv_aload_n hx hb dX6_init_14 rfl (lv_at hl 0 rfl) ?_
  refine lv_iconst (v := 0) hx hb dX6_init_15 (by decide) ?_
  refine r_put C hP hD hS 0 rfl fg_X6_18 rfl rfl (Nat.le_of_ble_eq_true rfl) dX6_init_16 [(h0, .inr (5, [.int 0, .int 0, .int 0, .null, .null, .null, .null, .null, .null, .null, .null]))] rfl (fun H locs hP hD hS => ?_)
  refine lv_aload_n hx hb dX6_init_19 rfl (lv_at hl 0 rfl) ?_
  refine lv_bipush (v := 12) hx hb dX6_init_20 (by decide) ?_
  refine r_newaF (atype := .int) (ty := .int) (N' := 12) (a0 := (12, .inl (fun _ => 0))) C hP hD hS w_312 rfl (fun _ => rfl) (by decide) (by decide) (Nat.le_of_ble_eq_true rfl) (Nat.le_of_ble_eq_true rfl) (Nat.le_of_ble_eq_true rfl) dX6_init_22 (fun q1 H hP hS => ?_)
  refine W.widen (k := 1) (n := 12) (Nat.le_of_ble_eq_true rfl) (Nat.le_of_ble_eq_true rfl) ?_
  refine r_putF C rfl hP hD hS 0 rfl fg_X6_21 rfl rfl (Nat.le_of_ble_eq_true rfl) dX6_init_24 [(h0, .inr (5, [.int 0, .int 0, .int 0, .ref q1, .null, .null, .null, .null, .null, .null, .null]))] rfl (fun H locs hP hD hS => ?_)
  refine lv_aload_n hx hb dX6_init_27 rfl (lv_at hl 0 rfl) ?_
  refine lv_bipush (v := 12) hx hb dX6_init_28 (by decide) ?_
  refine r_newaF (atype := .int) (ty := .int) (N' := 12) (a0 := (12, .inl (fun _ => 0))) C hP hD hS w_312 rfl (fun _ => rfl) (by decide) (by decide) (Nat.le_of_ble_eq_true rfl) (Nat.le_of_ble_eq_true rfl) (Nat.le_of_ble_eq_true rfl) dX6_init_30 (fun q2 H hP hS => ?_)
  refine W.widen (k := 2) (n := 24) (Nat.le_of_ble_eq_true rfl) (Nat.le_of_ble_eq_true rfl) ?_
  refine r_putF C rfl hP hD hS 0 rfl fg_X6_25 rfl rfl (Nat.le_of_ble_eq_true rfl) dX6_init_32 [(h0, .inr (5, [.int 0, .int 0, .int 0, .ref q1, .ref q2, .null, .null, .null, .null, .null, .null]))] rfl (fun H locs hP hD hS => ?_)
  refine lv_aload_n hx hb dX6_init_35 rfl (lv_at hl 0 rfl) ?_
  refine lv_bipush (v := 6) hx hb dX6_init_36 (by decide) ?_
  refine r_newaF (atype := .int) (ty := .int) (N' := 6) (a0 := (6, .inl (fun _ => 0))) C hP hD hS w_312 rfl (fun _ => rfl) (by decide) (by decide) (Nat.le_of_ble_eq_true rfl) (Nat.le_of_ble_eq_true rfl) (Nat.le_of_ble_eq_true rfl) dX6_init_38 (fun q3 H hP hS => ?_)
  refine W.widen (k := 3) (n := 30) (Nat.le_of_ble_eq_true rfl) (Nat.le_of_ble_eq_true rfl) ?_
  refine r_putF C rfl hP hD hS 0 rfl fg_X6_28 rfl rfl (Nat.le_of_ble_eq_true rfl) dX6_init_40 [(h0, .inr (5, [.int 0, .int 0, .int 0, .ref q1, .ref q2, .ref q3, .null, .null, .null, .null, .null]))] rfl (fun H locs hP hD hS => ?_)
  refine lv_aload_n hx hb dX6_init_43 rfl (lv_at hl 0 rfl) ?_
  refine lv_bipush (v := 6) hx hb dX6_init_44 (by decide) ?_
  refine r_newaF (atype := .int) (ty := .int) (N' := 6) (a0 := (6, .inl (fun _ => 0))) C hP hD hS w_312 rfl (fun _ => rfl) (by decide) (by decide) (Nat.le_of_ble_eq_true rfl) (Nat.le_of_ble_eq_true rfl) (Nat.le_of_ble_eq_true rfl) dX6_init_46 (fun q4 H hP hS => ?_)
  refine W.widen (k := 4) (n := 36) (Nat.le_of_ble_eq_true rfl) (Nat.le_of_ble_eq_true rfl) ?_
  refine r_putF C rfl hP hD hS 0 rfl fg_X6_31 rfl rfl (Nat.le_of_ble_eq_true rfl) dX6_init_48 [(h0, .inr (5, [.int 0, .int 0, .int 0, .ref q1, .ref q2, .ref q3, .ref q4, .null, .null, .null, .null]))] rfl (fun H locs hP hD hS => ?_)
  refine lv_aload_n hx hb dX6_init_51 rfl (lv_at hl 0 rfl) ?_
  refine lv_bipush (v := 6) hx hb dX6_init_52 (by decide) ?_
  refine r_newaF (atype := .int) (ty := .int) (N' := 6) (a0 := (6, .inl (fun _ => 0))) C hP hD hS w_312 rfl (fun _ => rfl) (by decide) (by decide) (Nat.le_of_ble_eq_true rfl) (Nat.le_of_ble_eq_true rfl) (Nat.le_of_ble_eq_true rfl) dX6_init_54 (fun q5 H hP hS => ?_)
  refine W.widen (k := 5) (n := 42) (Nat.le_of_ble_eq_true rfl) (Nat.le_of_ble_eq_true rfl) ?_
  refine r_putF C rfl hP hD hS 0 rfl fg_X6_34 rfl rfl (Nat.le_of_ble_eq_true rfl) dX6_init_56 [(h0, .inr (5, [.int 0, .int 0, .int 0, .ref q1, .ref q2, .ref q3, .ref q4, .ref q5, .null, .null, .null]))] rfl (fun H locs hP hD hS => ?_)
  refine lv_aload_n hx hb dX6_init_59 rfl (lv_at hl 0 rfl) ?_
  refine lv_bipush (v := 6) hx hb dX6_init_60 (by decide) ?_
  refine r_newaF (atype := .int) (ty := .int) (N' := 6) (a0 := (6, .inl (fun _ => 0))) C hP hD hS w_312 rfl (fun _ => rfl) (by decide) (by decide) (Nat.le_of_ble_eq_true rfl) (Nat.le_of_ble_eq_true rfl) (Nat.le_of_ble_eq_true rfl) dX6_init_62 (fun q6 H hP hS => ?_)
  refine W.widen (k := 6) (n := 48) (Nat.le_of_ble_eq_true rfl) (Nat.le_of_ble_eq_true rfl) ?_
  refine r_putF C rfl hP hD hS 0 rfl fg_X6_37 rfl rfl (Nat.le_of_ble_eq_true rfl) dX6_init_64 [(h0, .inr (5, [.int 0, .int 0, .int 0, .ref q1, .ref q2, .ref q3, .ref q4, .ref q5, .ref q6, .null, .null]))] rfl (fun H locs hP hD hS => ?_)
  refine lv_aload_n hx hb dX6_init_67 rfl (lv_at hl 0 rfl) ?_
  refine lv_bipush (v := 6) hx hb dX6_init_68 (by decide) ?_
  refine r_newaF (atype := .int) (ty := .int) (N' := 6) (a0 := (6, .inl (fun _ => 0))) C hP hD hS w_312 rfl (fun _ => rfl) (by decide) (by decide) (Nat.le_of_ble_eq_true rfl) (Nat.le_of_ble_eq_true rfl) (Nat.le_of_ble_eq_true rfl) dX6_init_70 (fun q7 H hP hS => ?_)
  refine W.widen (k := 7) (n := 54) (Nat.le_of_ble_eq_true rfl) (Nat.le_of_ble_eq_true rfl) ?_
  refine r_putF C rfl hP hD hS 0 rfl fg_X6_40 rfl rfl (Nat.le_of_ble_eq_true rfl) dX6_init_72 [(h0, .inr (5, [.int 0, .int 0, .int 0, .ref q1, .ref q2, .ref q3, .ref q4, .ref q5, .ref q6, .ref q7, .null]))] rfl (fun H locs hP hD hS => ?_)
  refine lv_aload_n hx hb dX6_init_75 rfl (lv_at hl 0 rfl) ?_
  refine lv_bipush (v := 6) hx hb dX6_init_76 (by decide) ?_
  refine r_newaF (atype := .int) (ty := .int) (N' := 6) (a0 := (6, .inl (fun _ => 0))) C hP hD hS w_312 rfl (fun _ => rfl) (by decide) (by decide) (Nat.le_of_ble_eq_true rfl) (Nat.le_of_ble_eq_true rfl) (Nat.le_of_ble_eq_true rfl) dX6_init_78 (fun q8 H hP hS => ?_)
  refine W.widen (k := 8) (n := 60) (Nat.le_of_ble_eq_true rfl) (Nat.le_of_ble_eq_true rfl) ?_
  refine r_putF C rfl hP hD hS 0 rfl fg_X6_43 rfl rfl (Nat.le_of_ble_eq_true rfl) dX6_init_80 [(h0, .inr (5, [.int 0, .int 0, .int 0, .ref q1, .ref q2, .ref q3, .ref q4, .ref q5, .ref q6, .ref q7, .ref q8]))] rfl (fun H locs hP hD hS => ?_)
  exact r_vret C hP hD hS (fun k => ([.int 0, .int 0, .int 0, .ref q1, .ref q2, .ref q3, .ref q4, .ref q5, .ref q6, .ref q7, .ref q8] : List Value).getD k .null) rfl (Nat.le_of_ble_eq_true rfl) (Nat.le_of_ble_eq_true rfl) dX6_init_83
set_option maxHeartbeats 4000000 in
set_option maxRecDepth 100000 in
theorem i_Input (l : Launch) (D : va_G) (cI cZ cJ : ClassId) (h0 : Nat)  : cM l yX2_init cX2_init 1 none D (TT cI cZ cJ) [.ref h0] [(h0, .inr (2, [.int 0, .int 0, .int 0, .int 0, .int 0, .int 0, .null]))] (qV D (TT cI cZ cJ) (fun u : Nat => [(h0, .inr (2, [.int 0, .int 0, .int 0, .int 0, .int 0, .int 0, .ref u])), (u, .inl (cI, 600, .inl (fun _ => 0)))])) 0 1 600 := by
  refine enterM (by decide) (Nat.le_of_ble_eq_true rfl) ?_
  intro p e s m below meth c ls A C hP hD hS hl
  have hx := C.1
  have hb := C.2.1
  have hl : lv_has ls 1 [(0, .ref h0)] := hl
  refine lv_aload_n hx hb dX2_init_0 rfl (lv_at hl 0 rfl) ?_
  refine r_obj C w_321 w_307 w_308 hl.1 dX2_init_1 (Nat.le_of_ble_eq_true rfl) (Nat.le_of_ble_eq_true rfl) ?_
  refine lv_aload_n hx hb dX2_init_4 rfl (lv_at hl 0 rfl) ?_
  refine lv_iconst (v := 0) hx hb dX2_init_5 (by decide) ?_
  refine r_put C hP hD hS 0 rfl fg_X2_9 rfl rfl (Nat.le_of_ble_eq_true rfl) dX2_init_6 [(h0, .inr (2, [.int 0, .int 0, .int 0, .int 0, .int 0, .int 0, .null]))] rfl (fun H locs hP hD hS => ?_)
  refine lv_aload_n hx hb dX2_init_9 rfl (lv_at hl 0 rfl) ?_
  refine lv_iconst (v := 0) hx hb dX2_init_10 (by decide) ?_
  refine r_put C hP hD hS 0 rfl fg_X2_15 rfl rfl (Nat.le_of_ble_eq_true rfl) dX2_init_11 [(h0, .inr (2, [.int 0, .int 0, .int 0, .int 0, .int 0, .int 0, .null]))] rfl (fun H locs hP hD hS => ?_)
  refine lv_aload_n hx hb dX2_init_14 rfl (lv_at hl 0 rfl) ?_
  refine lv_iconst (v := 0) hx hb dX2_init_15 (by decide) ?_
  refine r_put C hP hD hS 0 rfl fg_X2_18 rfl rfl (Nat.le_of_ble_eq_true rfl) dX2_init_16 [(h0, .inr (2, [.int 0, .int 0, .int 0, .int 0, .int 0, .int 0, .null]))] rfl (fun H locs hP hD hS => ?_)
  refine lv_aload_n hx hb dX2_init_19 rfl (lv_at hl 0 rfl) ?_
  refine lv_iconst (v := 0) hx hb dX2_init_20 (by decide) ?_
  refine r_put C hP hD hS 0 rfl fg_X2_21 rfl rfl (Nat.le_of_ble_eq_true rfl) dX2_init_21 [(h0, .inr (2, [.int 0, .int 0, .int 0, .int 0, .int 0, .int 0, .null]))] rfl (fun H locs hP hD hS => ?_)
  refine lv_aload_n hx hb dX2_init_24 rfl (lv_at hl 0 rfl) ?_
  refine lv_iconst (v := 0) hx hb dX2_init_25 (by decide) ?_
  refine r_put C hP hD hS 0 rfl fg_X2_24 rfl rfl (Nat.le_of_ble_eq_true rfl) dX2_init_26 [(h0, .inr (2, [.int 0, .int 0, .int 0, .int 0, .int 0, .int 0, .null]))] rfl (fun H locs hP hD hS => ?_)
  refine lv_aload_n hx hb dX2_init_29 rfl (lv_at hl 0 rfl) ?_
  refine lv_iconst (v := 0) hx hb dX2_init_30 (by decide) ?_
  refine r_put C hP hD hS 0 rfl fg_X2_27 rfl rfl (Nat.le_of_ble_eq_true rfl) dX2_init_31 [(h0, .inr (2, [.int 0, .int 0, .int 0, .int 0, .int 0, .int 0, .null]))] rfl (fun H locs hP hD hS => ?_)
  refine lv_aload_n hx hb dX2_init_34 rfl (lv_at hl 0 rfl) ?_
  refine lv_sipush (v := 600) hx hb dX2_init_35 (by decide) ?_
  refine r_newa (cA := cI) (atype := .int) (ty := .int) (N' := 600) (a0 := (600, .inl (fun _ => 0))) C hP hD hS w_312 rfl 0 rfl (fun _ => rfl) (by decide) (by decide) (Nat.le_of_ble_eq_true rfl) (Nat.le_of_ble_eq_true rfl) (Nat.le_of_ble_eq_true rfl) dX2_init_38 (fun q1 H hP hD hS => ?_)
  have hP : va_P D CL [(h0, .inr (2, [.int 0, .int 0, .int 0, .int 0, .int 0, .int 0, .null])), (q1, .inl (cI, 600, .inl (fun _ => 0)))] H := hP
  have hD : va_D A [(h0, .inr (2, [.int 0, .int 0, .int 0, .int 0, .int 0, .int 0, .null])), (q1, .inl (cI, 600, .inl (fun _ => 0)))] := hD
  refine W.widen (k := 1) (n := 600) (Nat.le_of_ble_eq_true rfl) (Nat.le_of_ble_eq_true rfl) ?_
  refine r_putF C rfl hP hD hS 0 rfl fg_X2_30 rfl rfl (Nat.le_of_ble_eq_true rfl) dX2_init_40 [(h0, .inr (2, [.int 0, .int 0, .int 0, .int 0, .int 0, .int 0, .ref q1])), (q1, .inl (cI, 600, .inl (fun _ => 0)))] rfl (fun H locs hP hD hS => ?_)
  exact r_vret C hP hD hS q1 rfl (Nat.le_of_ble_eq_true rfl) (Nat.le_of_ble_eq_true rfl) dX2_init_43
set_option maxHeartbeats 4000000 in
set_option maxRecDepth 100000 in
theorem i_Lattice (l : Launch) (D : va_G) (cI cZ cJ : ClassId) (h0 : Nat)  : cM l yX3_init cX3_init 1 none D (TT cI cZ cJ) [.ref h0] [(h0, .inr (3, [.int 0, .long 0, .null, .null, .null]))] (qV D (TT cI cZ cJ) (fun u : Nat → Value => [(h0, .inr (3, [.int 0, .long 0, u 2, u 3, u 4]))])) 0 3 384 := by
  refine enterM (by decide) (Nat.le_of_ble_eq_true rfl) ?_
  intro p e s m below meth c ls A C hP hD hS hl
  have hx := C.1
  have hb := C.2.1
  have hl : lv_has ls 1 [(0, .ref h0)] := hl
  refine lv_aload_n hx hb dX3_init_0 rfl (lv_at hl 0 rfl) ?_
  refine r_obj C w_336 w_307 w_308 hl.1 dX3_init_1 (Nat.le_of_ble_eq_true rfl) (Nat.le_of_ble_eq_true rfl) ?_
  refine lv_aload_n hx hb dX3_init_4 rfl (lv_at hl 0 rfl) ?_
  refine lv_iconst (v := 0) hx hb dX3_init_5 (by decide) ?_
  refine r_put C hP hD hS 0 rfl fg_X3_9 rfl rfl (Nat.le_of_ble_eq_true rfl) dX3_init_6 [(h0, .inr (3, [.int 0, .long 0, .null, .null, .null]))] rfl (fun H locs hP hD hS => ?_)
  refine lv_aload_n hx hb dX3_init_9 rfl (lv_at hl 0 rfl) ?_
  refine lv_lconst (v := 0) hx hb dX3_init_10 (by decide) ?_
  refine r_put C hP hD hS 0 rfl fg_X3_15 rfl rfl (Nat.le_of_ble_eq_true rfl) dX3_init_11 [(h0, .inr (3, [.int 0, .long 0, .null, .null, .null]))] rfl (fun H locs hP hD hS => ?_)
  refine lv_aload_n hx hb dX3_init_14 rfl (lv_at hl 0 rfl) ?_
  refine lv_bipush (v := 64) hx hb dX3_init_15 (by decide) ?_
  refine r_newaF (atype := .int) (ty := .int) (N' := 64) (a0 := (64, .inl (fun _ => 0))) C hP hD hS w_312 rfl (fun _ => rfl) (by decide) (by decide) (Nat.le_of_ble_eq_true rfl) (Nat.le_of_ble_eq_true rfl) (Nat.le_of_ble_eq_true rfl) dX3_init_17 (fun q1 H hP hS => ?_)
  refine W.widen (k := 1) (n := 64) (Nat.le_of_ble_eq_true rfl) (Nat.le_of_ble_eq_true rfl) ?_
  refine r_putF C rfl hP hD hS 0 rfl fg_X3_19 rfl rfl (Nat.le_of_ble_eq_true rfl) dX3_init_19 [(h0, .inr (3, [.int 0, .long 0, .ref q1, .null, .null]))] rfl (fun H locs hP hD hS => ?_)
  refine lv_aload_n hx hb dX3_init_22 rfl (lv_at hl 0 rfl) ?_
  refine lv_bipush (v := 64) hx hb dX3_init_23 (by decide) ?_
  refine r_newaF (atype := .int) (ty := .int) (N' := 64) (a0 := (64, .inl (fun _ => 0))) C hP hD hS w_312 rfl (fun _ => rfl) (by decide) (by decide) (Nat.le_of_ble_eq_true rfl) (Nat.le_of_ble_eq_true rfl) (Nat.le_of_ble_eq_true rfl) dX3_init_25 (fun q2 H hP hS => ?_)
  refine W.widen (k := 2) (n := 128) (Nat.le_of_ble_eq_true rfl) (Nat.le_of_ble_eq_true rfl) ?_
  refine r_putF C rfl hP hD hS 0 rfl fg_X3_23 rfl rfl (Nat.le_of_ble_eq_true rfl) dX3_init_27 [(h0, .inr (3, [.int 0, .long 0, .ref q1, .ref q2, .null]))] rfl (fun H locs hP hD hS => ?_)
  refine lv_aload_n hx hb dX3_init_30 rfl (lv_at hl 0 rfl) ?_
  refine lv_sipush (v := 256) hx hb dX3_init_31 (by decide) ?_
  refine r_newaF (atype := .int) (ty := .int) (N' := 256) (a0 := (256, .inl (fun _ => 0))) C hP hD hS w_312 rfl (fun _ => rfl) (by decide) (by decide) (Nat.le_of_ble_eq_true rfl) (Nat.le_of_ble_eq_true rfl) (Nat.le_of_ble_eq_true rfl) dX3_init_34 (fun q3 H hP hS => ?_)
  refine W.widen (k := 3) (n := 384) (Nat.le_of_ble_eq_true rfl) (Nat.le_of_ble_eq_true rfl) ?_
  refine r_putF C rfl hP hD hS 0 rfl fg_X3_26 rfl rfl (Nat.le_of_ble_eq_true rfl) dX3_init_36 [(h0, .inr (3, [.int 0, .long 0, .ref q1, .ref q2, .ref q3]))] rfl (fun H locs hP hD hS => ?_)
  exact r_vret C hP hD hS (fun k => ([.int 0, .long 0, .ref q1, .ref q2, .ref q3] : List Value).getD k .null) rfl (Nat.le_of_ble_eq_true rfl) (Nat.le_of_ble_eq_true rfl) dX3_init_39
set_option maxHeartbeats 4000000 in
set_option maxRecDepth 100000 in
theorem i_Parser (l : Launch) (D : va_G) (cI cZ cJ : ClassId) (h0 : Nat) (b0 : Nat) (b1 : Nat) (b2 : Nat)  : cM l yX5_init cX5_init 4 none D (TT cI cZ cJ) [.ref h0, .ref b0, .ref b1, .ref b2] [(h0, .inr (4, [.null, .null, .null, .int 0, .int 0]))] (qV D (TT cI cZ cJ) (fun u : Unit => [(h0, .inr (4, [.ref b0, .ref b1, .ref b2, .int 0, .int 0]))])) 0 0 0 := by
  refine enterM (by decide) (Nat.le_of_ble_eq_true rfl) ?_
  intro p e s m below meth c ls A C hP hD hS hl
  have hx := C.1
  have hb := C.2.1
  have hl : lv_has ls 4 [(0, .ref h0), (1, .ref b0), (2, .ref b1), (3, .ref b2)] := hl
  refine lv_aload_n hx hb dX5_init_0 rfl (lv_at hl 0 rfl) ?_
  refine r_obj C w_347 w_307 w_308 hl.1 dX5_init_1 (Nat.le_of_ble_eq_true rfl) (Nat.le_of_ble_eq_true rfl) ?_
  refine lv_aload_n hx hb dX5_init_4 rfl (lv_at hl 0 rfl) ?_
  refine lv_iconst (v := 0) hx hb dX5_init_5 (by decide) ?_
  refine r_put C hP hD hS 0 rfl fg_X5_9 rfl rfl (Nat.le_of_ble_eq_true rfl) dX5_init_6 [(h0, .inr (4, [.null, .null, .null, .int 0, .int 0]))] rfl (fun H locs hP hD hS => ?_)
  refine lv_aload_n hx hb dX5_init_9 rfl (lv_at hl 0 rfl) ?_
  refine lv_iconst (v := 0) hx hb dX5_init_10 (by decide) ?_
  refine r_put C hP hD hS 0 rfl fg_X5_15 rfl rfl (Nat.le_of_ble_eq_true rfl) dX5_init_11 [(h0, .inr (4, [.null, .null, .null, .int 0, .int 0]))] rfl (fun H locs hP hD hS => ?_)
  refine lv_aload_n hx hb dX5_init_14 rfl (lv_at hl 0 rfl) ?_
  refine lv_aload_n hx hb dX5_init_15 rfl (lv_at hl 1 rfl) ?_
  refine r_putF C rfl hP hD hS 0 rfl fg_X5_18 rfl rfl (Nat.le_of_ble_eq_true rfl) dX5_init_16 [(h0, .inr (4, [.ref b0, .null, .null, .int 0, .int 0]))] rfl (fun H locs hP hD hS => ?_)
  refine lv_aload_n hx hb dX5_init_19 rfl (lv_at hl 0 rfl) ?_
  refine lv_aload_n hx hb dX5_init_20 rfl (lv_at hl 2 rfl) ?_
  refine r_putF C rfl hP hD hS 0 rfl fg_X5_22 rfl rfl (Nat.le_of_ble_eq_true rfl) dX5_init_21 [(h0, .inr (4, [.ref b0, .ref b1, .null, .int 0, .int 0]))] rfl (fun H locs hP hD hS => ?_)
  refine lv_aload_n hx hb dX5_init_24 rfl (lv_at hl 0 rfl) ?_
  refine lv_aload_n hx hb dX5_init_25 rfl (lv_at hl 3 rfl) ?_
  refine r_putF C rfl hP hD hS 0 rfl fg_X5_26 rfl rfl (Nat.le_of_ble_eq_true rfl) dX5_init_26 [(h0, .inr (4, [.ref b0, .ref b1, .ref b2, .int 0, .int 0]))] rfl (fun H locs hP hD hS => ?_)
  exact r_vret C hP hD hS () rfl (Nat.le_of_ble_eq_true rfl) (Nat.le_of_ble_eq_true rfl) dX5_init_29
set_option maxHeartbeats 4000000 in
set_option maxRecDepth 100000 in
theorem i_X7 (l : Launch) (D : va_G) (cI cZ cJ : ClassId) (h0 : Nat) (b0 : Nat) (b1 : Nat)  : cM l yX7_init cX7_init 3 none D (TT cI cZ cJ) [.ref h0, .ref b0, .ref b1] [(h0, .inr (6, [.null, .null, .null, .int 0]))] (qV D (TT cI cZ cJ) (fun u : Unit => [])) 0 1 64 := by
  refine enterM (by decide) (Nat.le_of_ble_eq_true rfl) ?_
  intro p e s m below meth c ls A C hP hD hS hl
  have hx := C.1
  have hb := C.2.1
  have hl : lv_has ls 3 [(0, .ref h0), (1, .ref b0), (2, .ref b1)] := hl
  refine lv_aload_n hx hb dX7_init_0 rfl (lv_at hl 0 rfl) ?_
  refine r_obj C w_358 w_307 w_308 hl.1 dX7_init_1 (Nat.le_of_ble_eq_true rfl) (Nat.le_of_ble_eq_true rfl) ?_
  refine lv_aload_n hx hb dX7_init_4 rfl (lv_at hl 0 rfl) ?_
  refine lv_bipush (v := 64) hx hb dX7_init_5 (by decide) ?_
  refine r_newaF (atype := .long) (ty := .long) (N' := 64) (a0 := (64, .inr (.inl (fun _ => 0)))) C hP hD hS w_359 rfl (fun _ => rfl) (by decide) (by decide) (Nat.le_of_ble_eq_true rfl) (Nat.le_of_ble_eq_true rfl) (Nat.le_of_ble_eq_true rfl) dX7_init_7 (fun q1 H hP hS => ?_)
  refine W.widen (k := 1) (n := 64) (Nat.le_of_ble_eq_true rfl) (Nat.le_of_ble_eq_true rfl) ?_
  refine r_putF C rfl hP hD hS 0 rfl fg_X7_9 rfl rfl (Nat.le_of_ble_eq_true rfl) dX7_init_9 [(h0, .inr (6, [.null, .null, .ref q1, .int 0]))] rfl (fun H locs hP hD hS => ?_)
  refine lv_aload_n hx hb dX7_init_12 rfl (lv_at hl 0 rfl) ?_
  refine lv_iconst (v := 0) hx hb dX7_init_13 (by decide) ?_
  refine r_put C hP hD hS 0 rfl fg_X7_15 rfl rfl (Nat.le_of_ble_eq_true rfl) dX7_init_14 [(h0, .inr (6, [.null, .null, .ref q1, .int 0]))] rfl (fun H locs hP hD hS => ?_)
  refine lv_aload_n hx hb dX7_init_17 rfl (lv_at hl 0 rfl) ?_
  refine lv_aload_n hx hb dX7_init_18 rfl (lv_at hl 1 rfl) ?_
  refine r_putF C rfl hP hD hS 0 rfl fg_X7_19 rfl rfl (Nat.le_of_ble_eq_true rfl) dX7_init_19 [(h0, .inr (6, [.ref b0, .null, .ref q1, .int 0]))] rfl (fun H locs hP hD hS => ?_)
  refine lv_aload_n hx hb dX7_init_22 rfl (lv_at hl 0 rfl) ?_
  refine lv_aload_n hx hb dX7_init_23 rfl (lv_at hl 2 rfl) ?_
  refine r_putF C rfl hP hD hS 0 rfl fg_X7_23 rfl rfl (Nat.le_of_ble_eq_true rfl) dX7_init_24 [(h0, .inr (6, [.ref b0, .ref b1, .ref q1, .int 0]))] rfl (fun H locs hP hD hS => ?_)
  have hP := hP.sub (ws' := []) [] rfl
  have hD := hD.sub (ws' := []) [] (by decide) rfl
  exact r_vret C hP hD hS () rfl (Nat.le_of_ble_eq_true rfl) (Nat.le_of_ble_eq_true rfl) dX7_init_27
set_option maxHeartbeats 4000000 in
set_option maxRecDepth 100000 in
theorem i_X9 (l : Launch) (D : va_G) (cI cZ cJ : ClassId) (h0 : Nat) (b0 : Nat)  : cM l yX9_init cX9_init 2 none D (TT cI cZ cJ) [.ref h0, .ref b0] [(h0, .inr (8, [.null, .null, .null, .null, .null, .null, .null, .int 0, .int 0]))] (qV D (TT cI cZ cJ) (fun u : Unit => [])) 0 6 64 := by
  refine enterM (by decide) (Nat.le_of_ble_eq_true rfl) ?_
  intro p e s m below meth c ls A C hP hD hS hl
  have hx := C.1
  have hb := C.2.1
  have hl : lv_has ls 2 [(0, .ref h0), (1, .ref b0)] := hl
  refine lv_aload_n hx hb dX9_init_0 rfl (lv_at hl 0 rfl) ?_
  refine r_obj C w_368 w_307 w_308 hl.1 dX9_init_1 (Nat.le_of_ble_eq_true rfl) (Nat.le_of_ble_eq_true rfl) ?_
  refine lv_aload_n hx hb dX9_init_4 rfl (lv_at hl 0 rfl) ?_
  refine lv_bipush (v := 10) hx hb dX9_init_5 (by decide) ?_
  refine r_newaF (atype := .int) (ty := .int) (N' := 10) (a0 := (10, .inl (fun _ => 0))) C hP hD hS w_312 rfl (fun _ => rfl) (by decide) (by decide) (Nat.le_of_ble_eq_true rfl) (Nat.le_of_ble_eq_true rfl) (Nat.le_of_ble_eq_true rfl) dX9_init_7 (fun q1 H hP hS => ?_)
  refine W.widen (k := 1) (n := 10) (Nat.le_of_ble_eq_true rfl) (Nat.le_of_ble_eq_true rfl) ?_
  refine r_putF C rfl hP hD hS 0 rfl fg_X9_9 rfl rfl (Nat.le_of_ble_eq_true rfl) dX9_init_9 [(h0, .inr (8, [.null, .ref q1, .null, .null, .null, .null, .null, .int 0, .int 0]))] rfl (fun H locs hP hD hS => ?_)
  refine lv_aload_n hx hb dX9_init_12 rfl (lv_at hl 0 rfl) ?_
  refine lv_bipush (v := 10) hx hb dX9_init_13 (by decide) ?_
  refine r_newaF (atype := .int) (ty := .int) (N' := 10) (a0 := (10, .inl (fun _ => 0))) C hP hD hS w_312 rfl (fun _ => rfl) (by decide) (by decide) (Nat.le_of_ble_eq_true rfl) (Nat.le_of_ble_eq_true rfl) (Nat.le_of_ble_eq_true rfl) dX9_init_15 (fun q2 H hP hS => ?_)
  refine W.widen (k := 2) (n := 20) (Nat.le_of_ble_eq_true rfl) (Nat.le_of_ble_eq_true rfl) ?_
  refine r_putF C rfl hP hD hS 0 rfl fg_X9_15 rfl rfl (Nat.le_of_ble_eq_true rfl) dX9_init_17 [(h0, .inr (8, [.null, .ref q1, .ref q2, .null, .null, .null, .null, .int 0, .int 0]))] rfl (fun H locs hP hD hS => ?_)
  refine lv_aload_n hx hb dX9_init_20 rfl (lv_at hl 0 rfl) ?_
  refine lv_bipush (v := 10) hx hb dX9_init_21 (by decide) ?_
  refine r_newaF (atype := .int) (ty := .int) (N' := 10) (a0 := (10, .inl (fun _ => 0))) C hP hD hS w_312 rfl (fun _ => rfl) (by decide) (by decide) (Nat.le_of_ble_eq_true rfl) (Nat.le_of_ble_eq_true rfl) (Nat.le_of_ble_eq_true rfl) dX9_init_23 (fun q3 H hP hS => ?_)
  refine W.widen (k := 3) (n := 30) (Nat.le_of_ble_eq_true rfl) (Nat.le_of_ble_eq_true rfl) ?_
  refine r_putF C rfl hP hD hS 0 rfl fg_X9_18 rfl rfl (Nat.le_of_ble_eq_true rfl) dX9_init_25 [(h0, .inr (8, [.null, .ref q1, .ref q2, .ref q3, .null, .null, .null, .int 0, .int 0]))] rfl (fun H locs hP hD hS => ?_)
  refine lv_aload_n hx hb dX9_init_28 rfl (lv_at hl 0 rfl) ?_
  refine lv_bipush (v := 10) hx hb dX9_init_29 (by decide) ?_
  refine r_newaF (atype := .int) (ty := .int) (N' := 10) (a0 := (10, .inl (fun _ => 0))) C hP hD hS w_312 rfl (fun _ => rfl) (by decide) (by decide) (Nat.le_of_ble_eq_true rfl) (Nat.le_of_ble_eq_true rfl) (Nat.le_of_ble_eq_true rfl) dX9_init_31 (fun q4 H hP hS => ?_)
  refine W.widen (k := 4) (n := 40) (Nat.le_of_ble_eq_true rfl) (Nat.le_of_ble_eq_true rfl) ?_
  refine r_putF C rfl hP hD hS 0 rfl fg_X9_21 rfl rfl (Nat.le_of_ble_eq_true rfl) dX9_init_33 [(h0, .inr (8, [.null, .ref q1, .ref q2, .ref q3, .ref q4, .null, .null, .int 0, .int 0]))] rfl (fun H locs hP hD hS => ?_)
  refine lv_aload_n hx hb dX9_init_36 rfl (lv_at hl 0 rfl) ?_
  refine lv_bipush (v := 12) hx hb dX9_init_37 (by decide) ?_
  refine r_newaF (atype := .int) (ty := .int) (N' := 12) (a0 := (12, .inl (fun _ => 0))) C hP hD hS w_312 rfl (fun _ => rfl) (by decide) (by decide) (Nat.le_of_ble_eq_true rfl) (Nat.le_of_ble_eq_true rfl) (Nat.le_of_ble_eq_true rfl) dX9_init_39 (fun q5 H hP hS => ?_)
  refine W.widen (k := 5) (n := 52) (Nat.le_of_ble_eq_true rfl) (Nat.le_of_ble_eq_true rfl) ?_
  refine r_putF C rfl hP hD hS 0 rfl fg_X9_24 rfl rfl (Nat.le_of_ble_eq_true rfl) dX9_init_41 [(h0, .inr (8, [.null, .ref q1, .ref q2, .ref q3, .ref q4, .ref q5, .null, .int 0, .int 0]))] rfl (fun H locs hP hD hS => ?_)
  refine lv_aload_n hx hb dX9_init_44 rfl (lv_at hl 0 rfl) ?_
  refine lv_bipush (v := 12) hx hb dX9_init_45 (by decide) ?_
  refine r_newaF (atype := .int) (ty := .int) (N' := 12) (a0 := (12, .inl (fun _ => 0))) C hP hD hS w_312 rfl (fun _ => rfl) (by decide) (by decide) (Nat.le_of_ble_eq_true rfl) (Nat.le_of_ble_eq_true rfl) (Nat.le_of_ble_eq_true rfl) dX9_init_47 (fun q6 H hP hS => ?_)
  refine W.widen (k := 6) (n := 64) (Nat.le_of_ble_eq_true rfl) (Nat.le_of_ble_eq_true rfl) ?_
  refine r_putF C rfl hP hD hS 0 rfl fg_X9_27 rfl rfl (Nat.le_of_ble_eq_true rfl) dX9_init_49 [(h0, .inr (8, [.null, .ref q1, .ref q2, .ref q3, .ref q4, .ref q5, .ref q6, .int 0, .int 0]))] rfl (fun H locs hP hD hS => ?_)
  refine lv_aload_n hx hb dX9_init_52 rfl (lv_at hl 0 rfl) ?_
  refine lv_iconst (v := 0) hx hb dX9_init_53 (by decide) ?_
  refine r_put C hP hD hS 0 rfl fg_X9_30 rfl rfl (Nat.le_of_ble_eq_true rfl) dX9_init_54 [(h0, .inr (8, [.null, .ref q1, .ref q2, .ref q3, .ref q4, .ref q5, .ref q6, .int 0, .int 0]))] rfl (fun H locs hP hD hS => ?_)
  refine lv_aload_n hx hb dX9_init_57 rfl (lv_at hl 0 rfl) ?_
  refine lv_iconst (v := 0) hx hb dX9_init_58 (by decide) ?_
  refine r_put C hP hD hS 0 rfl fg_X9_34 rfl rfl (Nat.le_of_ble_eq_true rfl) dX9_init_59 [(h0, .inr (8, [.null, .ref q1, .ref q2, .ref q3, .ref q4, .ref q5, .ref q6, .int 0, .int 0]))] rfl (fun H locs hP hD hS => ?_)
  refine lv_aload_n hx hb dX9_init_62 rfl (lv_at hl 0 rfl) ?_
  refine lv_aload_n hx hb dX9_init_63 rfl (lv_at hl 1 rfl) ?_
  refine r_putF C rfl hP hD hS 0 rfl fg_X9_38 rfl rfl (Nat.le_of_ble_eq_true rfl) dX9_init_64 [(h0, .inr (8, [.ref b0, .ref q1, .ref q2, .ref q3, .ref q4, .ref q5, .ref q6, .int 0, .int 0]))] rfl (fun H locs hP hD hS => ?_)
  have hP := hP.sub (ws' := []) [] rfl
  have hD := hD.sub (ws' := []) [] (by decide) rfl
  exact r_vret C hP hD hS () rfl (Nat.le_of_ble_eq_true rfl) (Nat.le_of_ble_eq_true rfl) dX9_init_67
set_option maxHeartbeats 4000000 in
set_option maxRecDepth 100000 in
theorem i_X0 (l : Launch) (D : va_G) (cI cZ cJ : ClassId) (h0 : Nat) (b0 : Nat) (b1 : Nat) (b2 : Nat)  : cM l yX0_init cX0_init 4 none D (TT cI cZ cJ) [.ref h0, .ref b0, .ref b1, .ref b2] [(h0, .inr (0, [.null, .null, .null, .null, .null, .null, .int 0, .int 0, .int 0]))] (qV D (TT cI cZ cJ) (fun u : Unit => [])) 0 3 81 := by
  refine enterM (by decide) (Nat.le_of_ble_eq_true rfl) ?_
  intro p e s m below meth c ls A C hP hD hS hl
  have hx := C.1
  have hb := C.2.1
  have hl : lv_has ls 4 [(0, .ref h0), (1, .ref b0), (2, .ref b1), (3, .ref b2)] := hl
  refine lv_aload_n hx hb dX0_init_0 rfl (lv_at hl 0 rfl) ?_
  refine r_obj C w_387 w_307 w_308 hl.1 dX0_init_1 (Nat.le_of_ble_eq_true rfl) (Nat.le_of_ble_eq_true rfl) ?_
  refine lv_aload_n hx hb dX0_init_4 rfl (lv_at hl 0 rfl) ?_
  refine lv_bipush (v := 12) hx hb dX0_init_5 (by decide) ?_
  refine r_newaF (atype := .long) (ty := .long) (N' := 12) (a0 := (12, .inr (.inl (fun _ => 0)))) C hP hD hS w_359 rfl (fun _ => rfl) (by decide) (by decide) (Nat.le_of_ble_eq_true rfl) (Nat.le_of_ble_eq_true rfl) (Nat.le_of_ble_eq_true rfl) dX0_init_7 (fun q1 H hP hS => ?_)
  refine W.widen (k := 1) (n := 12) (Nat.le_of_ble_eq_true rfl) (Nat.le_of_ble_eq_true rfl) ?_
  refine r_putF C rfl hP hD hS 0 rfl fg_X0_9 rfl rfl (Nat.le_of_ble_eq_true rfl) dX0_init_9 [(h0, .inr (0, [.null, .null, .null, .ref q1, .null, .null, .int 0, .int 0, .int 0]))] rfl (fun H locs hP hD hS => ?_)
  refine lv_aload_n hx hb dX0_init_12 rfl (lv_at hl 0 rfl) ?_
  refine lv_bipush (v := 65) hx hb dX0_init_13 (by decide) ?_
  refine r_newaF (atype := .long) (ty := .long) (N' := 65) (a0 := (65, .inr (.inl (fun _ => 0)))) C hP hD hS w_359 rfl (fun _ => rfl) (by decide) (by decide) (Nat.le_of_ble_eq_true rfl) (Nat.le_of_ble_eq_true rfl) (Nat.le_of_ble_eq_true rfl) dX0_init_15 (fun q2 H hP hS => ?_)
  refine W.widen (k := 2) (n := 77) (Nat.le_of_ble_eq_true rfl) (Nat.le_of_ble_eq_true rfl) ?_
  refine r_putF C rfl hP hD hS 0 rfl fg_X0_15 rfl rfl (Nat.le_of_ble_eq_true rfl) dX0_init_17 [(h0, .inr (0, [.null, .null, .null, .ref q1, .ref q2, .null, .int 0, .int 0, .int 0]))] rfl (fun H locs hP hD hS => ?_)
  refine lv_aload_n hx hb dX0_init_20 rfl (lv_at hl 0 rfl) ?_
  refine lv_iconst (v := 4) hx hb dX0_init_21 (by decide) ?_
  refine r_newaF (atype := .int) (ty := .int) (N' := 4) (a0 := (4, .inl (fun _ => 0))) C hP hD hS w_312 rfl (fun _ => rfl) (by decide) (by decide) (Nat.le_of_ble_eq_true rfl) (Nat.le_of_ble_eq_true rfl) (Nat.le_of_ble_eq_true rfl) dX0_init_22 (fun q3 H hP hS => ?_)
  refine W.widen (k := 3) (n := 81) (Nat.le_of_ble_eq_true rfl) (Nat.le_of_ble_eq_true rfl) ?_
  refine r_putF C rfl hP hD hS 0 rfl fg_X0_18 rfl rfl (Nat.le_of_ble_eq_true rfl) dX0_init_24 [(h0, .inr (0, [.null, .null, .null, .ref q1, .ref q2, .ref q3, .int 0, .int 0, .int 0]))] rfl (fun H locs hP hD hS => ?_)
  refine lv_aload_n hx hb dX0_init_27 rfl (lv_at hl 0 rfl) ?_
  refine lv_iconst (v := 0) hx hb dX0_init_28 (by decide) ?_
  refine r_put C hP hD hS 0 rfl fg_X0_22 rfl rfl (Nat.le_of_ble_eq_true rfl) dX0_init_29 [(h0, .inr (0, [.null, .null, .null, .ref q1, .ref q2, .ref q3, .int 0, .int 0, .int 0]))] rfl (fun H locs hP hD hS => ?_)
  refine lv_aload_n hx hb dX0_init_32 rfl (lv_at hl 0 rfl) ?_
  refine lv_iconst (v := 0) hx hb dX0_init_33 (by decide) ?_
  refine r_put C hP hD hS 0 rfl fg_X0_26 rfl rfl (Nat.le_of_ble_eq_true rfl) dX0_init_34 [(h0, .inr (0, [.null, .null, .null, .ref q1, .ref q2, .ref q3, .int 0, .int 0, .int 0]))] rfl (fun H locs hP hD hS => ?_)
  refine lv_aload_n hx hb dX0_init_37 rfl (lv_at hl 0 rfl) ?_
  refine lv_iconst (v := 0) hx hb dX0_init_38 (by decide) ?_
  refine r_put C hP hD hS 0 rfl fg_X0_29 rfl rfl (Nat.le_of_ble_eq_true rfl) dX0_init_39 [(h0, .inr (0, [.null, .null, .null, .ref q1, .ref q2, .ref q3, .int 0, .int 0, .int 0]))] rfl (fun H locs hP hD hS => ?_)
  refine lv_aload_n hx hb dX0_init_42 rfl (lv_at hl 0 rfl) ?_
  refine lv_aload_n hx hb dX0_init_43 rfl (lv_at hl 1 rfl) ?_
  refine r_putF C rfl hP hD hS 0 rfl fg_X0_32 rfl rfl (Nat.le_of_ble_eq_true rfl) dX0_init_44 [(h0, .inr (0, [.ref b0, .null, .null, .ref q1, .ref q2, .ref q3, .int 0, .int 0, .int 0]))] rfl (fun H locs hP hD hS => ?_)
  refine lv_aload_n hx hb dX0_init_47 rfl (lv_at hl 0 rfl) ?_
  refine lv_aload_n hx hb dX0_init_48 rfl (lv_at hl 2 rfl) ?_
  refine r_putF C rfl hP hD hS 0 rfl fg_X0_36 rfl rfl (Nat.le_of_ble_eq_true rfl) dX0_init_49 [(h0, .inr (0, [.ref b0, .ref b1, .null, .ref q1, .ref q2, .ref q3, .int 0, .int 0, .int 0]))] rfl (fun H locs hP hD hS => ?_)
  refine lv_aload_n hx hb dX0_init_52 rfl (lv_at hl 0 rfl) ?_
  refine lv_aload_n hx hb dX0_init_53 rfl (lv_at hl 3 rfl) ?_
  refine r_putF C rfl hP hD hS 0 rfl fg_X0_40 rfl rfl (Nat.le_of_ble_eq_true rfl) dX0_init_54 [(h0, .inr (0, [.ref b0, .ref b1, .ref b2, .ref q1, .ref q2, .ref q3, .int 0, .int 0, .int 0]))] rfl (fun H locs hP hD hS => ?_)
  have hP := hP.sub (ws' := []) [] rfl
  have hD := hD.sub (ws' := []) [] (by decide) rfl
  exact r_vret C hP hD hS () rfl (Nat.le_of_ble_eq_true rfl) (Nat.le_of_ble_eq_true rfl) dX0_init_57
set_option maxHeartbeats 4000000 in
set_option maxRecDepth 100000 in
theorem i_X8 (l : Launch) (D : va_G) (cI cZ cJ : ClassId) (h0 : Nat) (b0 : Nat)  : cM l yX8_init cX8_init 2 none D (TT cI cZ cJ) [.ref h0, .ref b0] [(h0, .inr (7, [.null, .null, .null, .int 0, .int 0]))] (qV D (TT cI cZ cJ) (fun u : Unit => [])) 0 2 68 := by
  refine enterM (by decide) (Nat.le_of_ble_eq_true rfl) ?_
  intro p e s m below meth c ls A C hP hD hS hl
  have hx := C.1
  have hb := C.2.1
  have hl : lv_has ls 2 [(0, .ref h0), (1, .ref b0)] := hl
  refine lv_aload_n hx hb dX8_init_0 rfl (lv_at hl 0 rfl) ?_
  refine r_obj C w_406 w_307 w_308 hl.1 dX8_init_1 (Nat.le_of_ble_eq_true rfl) (Nat.le_of_ble_eq_true rfl) ?_
  refine lv_aload_n hx hb dX8_init_4 rfl (lv_at hl 0 rfl) ?_
  refine lv_bipush (v := 64) hx hb dX8_init_5 (by decide) ?_
  refine r_newaF (atype := .long) (ty := .long) (N' := 64) (a0 := (64, .inr (.inl (fun _ => 0)))) C hP hD hS w_359 rfl (fun _ => rfl) (by decide) (by decide) (Nat.le_of_ble_eq_true rfl) (Nat.le_of_ble_eq_true rfl) (Nat.le_of_ble_eq_true rfl) dX8_init_7 (fun q1 H hP hS => ?_)
  refine W.widen (k := 1) (n := 64) (Nat.le_of_ble_eq_true rfl) (Nat.le_of_ble_eq_true rfl) ?_
  refine r_putF C rfl hP hD hS 0 rfl fg_X8_9 rfl rfl (Nat.le_of_ble_eq_true rfl) dX8_init_9 [(h0, .inr (7, [.null, .ref q1, .null, .int 0, .int 0]))] rfl (fun H locs hP hD hS => ?_)
  refine lv_aload_n hx hb dX8_init_12 rfl (lv_at hl 0 rfl) ?_
  refine lv_iconst (v := 4) hx hb dX8_init_13 (by decide) ?_
  refine r_newaF (atype := .int) (ty := .int) (N' := 4) (a0 := (4, .inl (fun _ => 0))) C hP hD hS w_312 rfl (fun _ => rfl) (by decide) (by decide) (Nat.le_of_ble_eq_true rfl) (Nat.le_of_ble_eq_true rfl) (Nat.le_of_ble_eq_true rfl) dX8_init_14 (fun q2 H hP hS => ?_)
  refine W.widen (k := 2) (n := 68) (Nat.le_of_ble_eq_true rfl) (Nat.le_of_ble_eq_true rfl) ?_
  refine r_putF C rfl hP hD hS 0 rfl fg_X8_15 rfl rfl (Nat.le_of_ble_eq_true rfl) dX8_init_16 [(h0, .inr (7, [.null, .ref q1, .ref q2, .int 0, .int 0]))] rfl (fun H locs hP hD hS => ?_)
  refine lv_aload_n hx hb dX8_init_19 rfl (lv_at hl 0 rfl) ?_
  refine lv_iconst (v := 0) hx hb dX8_init_20 (by decide) ?_
  refine r_put C hP hD hS 0 rfl fg_X8_19 rfl rfl (Nat.le_of_ble_eq_true rfl) dX8_init_21 [(h0, .inr (7, [.null, .ref q1, .ref q2, .int 0, .int 0]))] rfl (fun H locs hP hD hS => ?_)
  refine lv_aload_n hx hb dX8_init_24 rfl (lv_at hl 0 rfl) ?_
  refine lv_iconst (v := 0) hx hb dX8_init_25 (by decide) ?_
  refine r_put C hP hD hS 0 rfl fg_X8_23 rfl rfl (Nat.le_of_ble_eq_true rfl) dX8_init_26 [(h0, .inr (7, [.null, .ref q1, .ref q2, .int 0, .int 0]))] rfl (fun H locs hP hD hS => ?_)
  refine lv_aload_n hx hb dX8_init_29 rfl (lv_at hl 0 rfl) ?_
  refine lv_aload_n hx hb dX8_init_30 rfl (lv_at hl 1 rfl) ?_
  refine r_putF C rfl hP hD hS 0 rfl fg_X8_26 rfl rfl (Nat.le_of_ble_eq_true rfl) dX8_init_31 [(h0, .inr (7, [.ref b0, .ref q1, .ref q2, .int 0, .int 0]))] rfl (fun H locs hP hD hS => ?_)
  have hP := hP.sub (ws' := []) [] rfl
  have hD := hD.sub (ws' := []) [] (by decide) rfl
  exact r_vret C hP hD hS () rfl (Nat.le_of_ble_eq_true rfl) (Nat.le_of_ble_eq_true rfl) dX8_init_34
set_option maxHeartbeats 4000000 in
set_option maxRecDepth 100000 in
theorem i_X10 (l : Launch) (D : va_G) (cI cZ cJ : ClassId) (h0 : Nat) (b0 : Nat) (b1 : Nat) (b2 : Nat)  : cM l yX10_init cX10_init 4 none D (TT cI cZ cJ) [.ref h0, .ref b0, .ref b1, .ref b2] [(h0, .inr (9, [.null, .null, .null]))] (qV D (TT cI cZ cJ) (fun u : Unit => [])) 0 0 0 := by
  refine enterM (by decide) (Nat.le_of_ble_eq_true rfl) ?_
  intro p e s m below meth c ls A C hP hD hS hl
  have hx := C.1
  have hb := C.2.1
  have hl : lv_has ls 4 [(0, .ref h0), (1, .ref b0), (2, .ref b1), (3, .ref b2)] := hl
  refine lv_aload_n hx hb dX10_init_0 rfl (lv_at hl 0 rfl) ?_
  refine r_obj C w_417 w_307 w_308 hl.1 dX10_init_1 (Nat.le_of_ble_eq_true rfl) (Nat.le_of_ble_eq_true rfl) ?_
  refine lv_aload_n hx hb dX10_init_4 rfl (lv_at hl 0 rfl) ?_
  refine lv_aload_n hx hb dX10_init_5 rfl (lv_at hl 1 rfl) ?_
  refine r_putF C rfl hP hD hS 0 rfl fg_X10_9 rfl rfl (Nat.le_of_ble_eq_true rfl) dX10_init_6 [(h0, .inr (9, [.ref b0, .null, .null]))] rfl (fun H locs hP hD hS => ?_)
  refine lv_aload_n hx hb dX10_init_9 rfl (lv_at hl 0 rfl) ?_
  refine lv_aload_n hx hb dX10_init_10 rfl (lv_at hl 2 rfl) ?_
  refine r_putF C rfl hP hD hS 0 rfl fg_X10_15 rfl rfl (Nat.le_of_ble_eq_true rfl) dX10_init_11 [(h0, .inr (9, [.ref b0, .ref b1, .null]))] rfl (fun H locs hP hD hS => ?_)
  refine lv_aload_n hx hb dX10_init_14 rfl (lv_at hl 0 rfl) ?_
  refine lv_aload_n hx hb dX10_init_15 rfl (lv_at hl 3 rfl) ?_
  refine r_putF C rfl hP hD hS 0 rfl fg_X10_19 rfl rfl (Nat.le_of_ble_eq_true rfl) dX10_init_16 [(h0, .inr (9, [.ref b0, .ref b1, .ref b2]))] rfl (fun H locs hP hD hS => ?_)
  have hP := hP.sub (ws' := []) [] rfl
  have hD := hD.sub (ws' := []) [] (by decide) rfl
  exact r_vret C hP hD hS () rfl (Nat.le_of_ble_eq_true rfl) (Nat.le_of_ble_eq_true rfl) dX10_init_19
set_option maxHeartbeats 4000000 in
set_option maxRecDepth 100000 in
theorem i_History (l : Launch) (D : va_G) (cI cZ cJ : ClassId) (h0 : Nat)  : cM l yX1_init cX1_init 2 none D (TT cI cZ cJ) [.ref h0] [(h0, .inr (1, [.int 0, .int 0, .null]))] (qV D (TT cI cZ cJ) (fun u : Nat => [(h0, .inr (1, [.int 0, .int 0, .ref u]))])) 1 73 576 := by
  refine enterM (by decide) (Nat.le_of_ble_eq_true rfl) ?_
  intro p e s m below meth c ls A C hP hD hS hl
  have hx := C.1
  have hb := C.2.1
  have hl : lv_has ls 2 [(0, .ref h0)] := hl
  refine lv_aload_n hx hb dX1_init_0 rfl (lv_at hl 0 rfl) ?_
  refine r_obj C w_424 w_307 w_308 hl.1 dX1_init_1 (Nat.le_of_ble_eq_true rfl) (Nat.le_of_ble_eq_true rfl) ?_
  refine lv_aload_n hx hb dX1_init_4 rfl (lv_at hl 0 rfl) ?_
  refine lv_iconst (v := 0) hx hb dX1_init_5 (by decide) ?_
  refine r_put C hP hD hS 0 rfl fg_X1_9 rfl rfl (Nat.le_of_ble_eq_true rfl) dX1_init_6 [(h0, .inr (1, [.int 0, .int 0, .null]))] rfl (fun H locs hP hD hS => ?_)
  refine lv_aload_n hx hb dX1_init_9 rfl (lv_at hl 0 rfl) ?_
  refine lv_iconst (v := 0) hx hb dX1_init_10 (by decide) ?_
  refine r_put C hP hD hS 0 rfl fg_X1_15 rfl rfl (Nat.le_of_ble_eq_true rfl) dX1_init_11 [(h0, .inr (1, [.int 0, .int 0, .null]))] rfl (fun H locs hP hD hS => ?_)
  refine lv_aload_n hx hb dX1_init_14 rfl (lv_at hl 0 rfl) ?_
  refine lv_bipush (v := 8) hx hb dX1_init_15 (by decide) ?_
  refine r_anew C hP hD hS w_430 C.2.2.2.2.2.2.2.2.1.2.1 (N' := 8) (by decide) (by decide) (Nat.le_of_ble_eq_true rfl) (Nat.le_of_ble_eq_true rfl) (Nat.le_of_ble_eq_true rfl) dX1_init_17 (fun q1 cA H hK2 hP hD hS => ?_)
  have hP : va_P D CL [(h0, .inr (1, [.int 0, .int 0, .null])), (q1, .inl (cA, 8, .inr (.inr (.inr (.inr (fun _ => none))))))] H := hP
  have hD : va_D A [(h0, .inr (1, [.int 0, .int 0, .null])), (q1, .inl (cA, 8, .inr (.inr (.inr (.inr (fun _ => none))))))] := hD
  refine W.widen (k := 1) (n := 8) (Nat.le_of_ble_eq_true rfl) (Nat.le_of_ble_eq_true rfl) ?_
  refine r_putF C rfl hP hD hS 0 rfl fg_X1_20 rfl rfl (Nat.le_of_ble_eq_true rfl) dX1_init_20 [(h0, .inr (1, [.int 0, .int 0, .ref q1])), (q1, .inl (cA, 8, .inr (.inr (.inr (.inr (fun _ => none))))))] rfl (fun H locs hP hD hS => ?_)
  refine lv_iconst (v := 0) hx hb dX1_init_23 (by decide) ?_
  refine lv_istore_n (lv' := [(1, .int 0), (0, .ref h0)]) hx hb dX1_init_24 rfl hl (by decide) rfl (fun ls hl => ?_)
  refine lv_iload_n hx hb dX1_init_25 rfl (lv_at hl 0 rfl) ?_
  refine lv_bipush (v := 8) hx hb dX1_init_26 (by decide) ?_
  refine lv_icmp_ge (tgt := 50) hx hb dX1_init_28 (by decide) (fun h => absurd h (by decide)) (fun _ => ?_)
  refine lv_aload_n hx hb dX1_init_31 rfl (lv_at hl 1 rfl) ?_
  refine r_get (v := .ref q1) C hP 0 rfl fg_X1_20 rfl dX1_init_32 ?_
  refine lv_iload_n hx hb dX1_init_35 rfl (lv_at hl 0 rfl) ?_
  refine r_new C hP hD hS nw_X1_18 (Nat.le_of_ble_eq_true rfl) (Nat.le_of_ble_eq_true rfl) dX1_init_36 (fun q2 H hP hD hS => ?_)
  have hP : va_P D CL [(h0, .inr (1, [.int 0, .int 0, .ref q1])), (q1, .inl (cA, 8, .inr (.inr (.inr (.inr (fun _ => none)))))), (q2, .inr (5, [.int 0, .int 0, .int 0, .null, .null, .null, .null, .null, .null, .null, .null]))] H := hP
  have hD : va_D A [(h0, .inr (1, [.int 0, .int 0, .ref q1])), (q1, .inl (cA, 8, .inr (.inr (.inr (.inr (fun _ => none)))))), (q2, .inr (5, [.int 0, .int 0, .int 0, .null, .null, .null, .null, .null, .null, .null, .null]))] := hD
  refine W.widen (k := 2) (n := 19) (Nat.le_of_ble_eq_true rfl) (Nat.le_of_ble_eq_true rfl) ?_
  refine lv_dup hx hb dX1_init_39 rfl ?_
  refine call_v (wr := [(h0, .inr (1, [.int 0, .int 0, .ref q1])), (q1, .inl (cA, 8, .inr (.inr (.inr (.inr (fun _ => none))))))]) C (run_IN (As := []) (rest := [.ref q2, .int 0, .ref q1]) C (i_Plan l D cI cZ cJ q2 ) cI_X1_24 hP hD hS [2] rfl rfl rfl hl.1 rfl (Nat.le_of_ble_eq_true rfl) dX1_init_40 ⟨Nat.le_of_ble_eq_true rfl, Nat.le_of_ble_eq_true rfl⟩ ⟨Nat.le_of_ble_eq_true rfl, Nat.le_of_ble_eq_true rfl⟩) hP hD hS [2] [0, 1] rfl rfl rfl (by decide) (fun u3 H locs hP hD hS => ?_)
  have hP : va_P D CL [(h0, .inr (1, [.int 0, .int 0, .ref q1])), (q1, .inl (cA, 8, .inr (.inr (.inr (.inr (fun _ => none)))))), (q2, .inr (5, pC 0 0 0 u3))] H := hP
  have hD : va_D A [(h0, .inr (1, [.int 0, .int 0, .ref q1])), (q1, .inl (cA, 8, .inr (.inr (.inr (.inr (fun _ => none)))))), (q2, .inr (5, pC 0 0 0 u3))] := hD
  refine W.widen (k := 10) (n := 79) (Nat.le_of_ble_eq_true rfl) (Nat.le_of_ble_eq_true rfl) ?_
  refine va_astq hx hb hK2 hP hD hS 1 3 2 5 rfl rfl rfl rfl (by unfold vp_in; decide) dX1_init_43 (fun H locs hP hD hS => ?_)
  obtain ⟨f4, ef4⟩ : ∃ z : Nat → Option Nat, z = va_up (fun _ => none) (0 : Int32).toNatClampNeg (some q2) := ⟨_, rfl⟩
  have hP : va_P D CL [(h0, .inr (1, [.int 0, .int 0, .ref q1])), (q1, .inl (cA, 8, .inr (.inr (.inr (.inr f4))))), (q2, .inr (5, pC 0 0 0 u3))] H := by rw [ef4]; exact hP
  have hD : va_D A [(h0, .inr (1, [.int 0, .int 0, .ref q1])), (q1, .inl (cA, 8, .inr (.inr (.inr (.inr f4))))), (q2, .inr (5, pC 0 0 0 u3))] := by rw [ef4]; exact hD
  have hP := hP.sub (ws' := [(h0, .inr (1, [.int 0, .int 0, .ref q1])), (q1, .inl (cA, 8, .inr (.inr (.inr (.inr f4)))))]) [0, 1] rfl
  have hD := hD.sub (ws' := [(h0, .inr (1, [.int 0, .int 0, .ref q1])), (q1, .inl (cA, 8, .inr (.inr (.inr (.inr f4)))))]) [0, 1] (by decide) rfl
  refine lv_iinc (v := 1) (lv' := [(1, .int 1), (0, .ref h0)]) hx hb dX1_init_44 hl (k := 0) rfl (by decide) (by decide) rfl (fun ls hl => ?_)
  refine lv_goto (tgt := 25) hx hb dX1_init_47 (by decide) ?_
  refine lv_iload_n hx hb dX1_init_25 rfl (lv_at hl 0 rfl) ?_
  refine lv_bipush (v := 8) hx hb dX1_init_26 (by decide) ?_
  refine lv_icmp_ge (tgt := 50) hx hb dX1_init_28 (by decide) (fun h => absurd h (by decide)) (fun _ => ?_)
  refine lv_aload_n hx hb dX1_init_31 rfl (lv_at hl 1 rfl) ?_
  refine r_get (v := .ref q1) C hP 0 rfl fg_X1_20 rfl dX1_init_32 ?_
  refine lv_iload_n hx hb dX1_init_35 rfl (lv_at hl 0 rfl) ?_
  refine r_new C hP hD hS nw_X1_18 (Nat.le_of_ble_eq_true rfl) (Nat.le_of_ble_eq_true rfl) dX1_init_36 (fun q5 H hP hD hS => ?_)
  have hP : va_P D CL [(h0, .inr (1, [.int 0, .int 0, .ref q1])), (q1, .inl (cA, 8, .inr (.inr (.inr (.inr f4))))), (q5, .inr (5, [.int 0, .int 0, .int 0, .null, .null, .null, .null, .null, .null, .null, .null]))] H := hP
  have hD : va_D A [(h0, .inr (1, [.int 0, .int 0, .ref q1])), (q1, .inl (cA, 8, .inr (.inr (.inr (.inr f4))))), (q5, .inr (5, [.int 0, .int 0, .int 0, .null, .null, .null, .null, .null, .null, .null, .null]))] := hD
  refine W.widen (k := 11) (n := 90) (Nat.le_of_ble_eq_true rfl) (Nat.le_of_ble_eq_true rfl) ?_
  refine lv_dup hx hb dX1_init_39 rfl ?_
  refine call_v (wr := [(h0, .inr (1, [.int 0, .int 0, .ref q1])), (q1, .inl (cA, 8, .inr (.inr (.inr (.inr f4)))))]) C (run_IN (As := []) (rest := [.ref q5, .int 1, .ref q1]) C (i_Plan l D cI cZ cJ q5 ) cI_X1_24 hP hD hS [2] rfl rfl rfl hl.1 rfl (Nat.le_of_ble_eq_true rfl) dX1_init_40 ⟨Nat.le_of_ble_eq_true rfl, Nat.le_of_ble_eq_true rfl⟩ ⟨Nat.le_of_ble_eq_true rfl, Nat.le_of_ble_eq_true rfl⟩) hP hD hS [2] [0, 1] rfl rfl rfl (by decide) (fun u6 H locs hP hD hS => ?_)
  have hP : va_P D CL [(h0, .inr (1, [.int 0, .int 0, .ref q1])), (q1, .inl (cA, 8, .inr (.inr (.inr (.inr f4))))), (q5, .inr (5, pC 0 0 0 u6))] H := hP
  have hD : va_D A [(h0, .inr (1, [.int 0, .int 0, .ref q1])), (q1, .inl (cA, 8, .inr (.inr (.inr (.inr f4))))), (q5, .inr (5, pC 0 0 0 u6))] := hD
  refine W.widen (k := 19) (n := 150) (Nat.le_of_ble_eq_true rfl) (Nat.le_of_ble_eq_true rfl) ?_
  refine va_astq hx hb hK2 hP hD hS 1 3 2 5 rfl rfl rfl rfl (by unfold vp_in; decide) dX1_init_43 (fun H locs hP hD hS => ?_)
  obtain ⟨f7, ef7⟩ : ∃ z : Nat → Option Nat, z = va_up f4 (1 : Int32).toNatClampNeg (some q5) := ⟨_, rfl⟩
  have hP : va_P D CL [(h0, .inr (1, [.int 0, .int 0, .ref q1])), (q1, .inl (cA, 8, .inr (.inr (.inr (.inr f7))))), (q5, .inr (5, pC 0 0 0 u6))] H := by rw [ef7]; exact hP
  have hD : va_D A [(h0, .inr (1, [.int 0, .int 0, .ref q1])), (q1, .inl (cA, 8, .inr (.inr (.inr (.inr f7))))), (q5, .inr (5, pC 0 0 0 u6))] := by rw [ef7]; exact hD
  have hP := hP.sub (ws' := [(h0, .inr (1, [.int 0, .int 0, .ref q1])), (q1, .inl (cA, 8, .inr (.inr (.inr (.inr f7)))))]) [0, 1] rfl
  have hD := hD.sub (ws' := [(h0, .inr (1, [.int 0, .int 0, .ref q1])), (q1, .inl (cA, 8, .inr (.inr (.inr (.inr f7)))))]) [0, 1] (by decide) rfl
  refine lv_iinc (v := 2) (lv' := [(1, .int 2), (0, .ref h0)]) hx hb dX1_init_44 hl (k := 0) rfl (by decide) (by decide) rfl (fun ls hl => ?_)
  refine lv_goto (tgt := 25) hx hb dX1_init_47 (by decide) ?_
  refine lv_iload_n hx hb dX1_init_25 rfl (lv_at hl 0 rfl) ?_
  refine lv_bipush (v := 8) hx hb dX1_init_26 (by decide) ?_
  refine lv_icmp_ge (tgt := 50) hx hb dX1_init_28 (by decide) (fun h => absurd h (by decide)) (fun _ => ?_)
  refine lv_aload_n hx hb dX1_init_31 rfl (lv_at hl 1 rfl) ?_
  refine r_get (v := .ref q1) C hP 0 rfl fg_X1_20 rfl dX1_init_32 ?_
  refine lv_iload_n hx hb dX1_init_35 rfl (lv_at hl 0 rfl) ?_
  refine r_new C hP hD hS nw_X1_18 (Nat.le_of_ble_eq_true rfl) (Nat.le_of_ble_eq_true rfl) dX1_init_36 (fun q8 H hP hD hS => ?_)
  have hP : va_P D CL [(h0, .inr (1, [.int 0, .int 0, .ref q1])), (q1, .inl (cA, 8, .inr (.inr (.inr (.inr f7))))), (q8, .inr (5, [.int 0, .int 0, .int 0, .null, .null, .null, .null, .null, .null, .null, .null]))] H := hP
  have hD : va_D A [(h0, .inr (1, [.int 0, .int 0, .ref q1])), (q1, .inl (cA, 8, .inr (.inr (.inr (.inr f7))))), (q8, .inr (5, [.int 0, .int 0, .int 0, .null, .null, .null, .null, .null, .null, .null, .null]))] := hD
  refine W.widen (k := 20) (n := 161) (Nat.le_of_ble_eq_true rfl) (Nat.le_of_ble_eq_true rfl) ?_
  refine lv_dup hx hb dX1_init_39 rfl ?_
  refine call_v (wr := [(h0, .inr (1, [.int 0, .int 0, .ref q1])), (q1, .inl (cA, 8, .inr (.inr (.inr (.inr f7)))))]) C (run_IN (As := []) (rest := [.ref q8, .int 2, .ref q1]) C (i_Plan l D cI cZ cJ q8 ) cI_X1_24 hP hD hS [2] rfl rfl rfl hl.1 rfl (Nat.le_of_ble_eq_true rfl) dX1_init_40 ⟨Nat.le_of_ble_eq_true rfl, Nat.le_of_ble_eq_true rfl⟩ ⟨Nat.le_of_ble_eq_true rfl, Nat.le_of_ble_eq_true rfl⟩) hP hD hS [2] [0, 1] rfl rfl rfl (by decide) (fun u9 H locs hP hD hS => ?_)
  have hP : va_P D CL [(h0, .inr (1, [.int 0, .int 0, .ref q1])), (q1, .inl (cA, 8, .inr (.inr (.inr (.inr f7))))), (q8, .inr (5, pC 0 0 0 u9))] H := hP
  have hD : va_D A [(h0, .inr (1, [.int 0, .int 0, .ref q1])), (q1, .inl (cA, 8, .inr (.inr (.inr (.inr f7))))), (q8, .inr (5, pC 0 0 0 u9))] := hD
  refine W.widen (k := 28) (n := 221) (Nat.le_of_ble_eq_true rfl) (Nat.le_of_ble_eq_true rfl) ?_
  refine va_astq hx hb hK2 hP hD hS 1 3 2 5 rfl rfl rfl rfl (by unfold vp_in; decide) dX1_init_43 (fun H locs hP hD hS => ?_)
  obtain ⟨f10, ef10⟩ : ∃ z : Nat → Option Nat, z = va_up f7 (2 : Int32).toNatClampNeg (some q8) := ⟨_, rfl⟩
  have hP : va_P D CL [(h0, .inr (1, [.int 0, .int 0, .ref q1])), (q1, .inl (cA, 8, .inr (.inr (.inr (.inr f10))))), (q8, .inr (5, pC 0 0 0 u9))] H := by rw [ef10]; exact hP
  have hD : va_D A [(h0, .inr (1, [.int 0, .int 0, .ref q1])), (q1, .inl (cA, 8, .inr (.inr (.inr (.inr f10))))), (q8, .inr (5, pC 0 0 0 u9))] := by rw [ef10]; exact hD
  have hP := hP.sub (ws' := [(h0, .inr (1, [.int 0, .int 0, .ref q1])), (q1, .inl (cA, 8, .inr (.inr (.inr (.inr f10)))))]) [0, 1] rfl
  have hD := hD.sub (ws' := [(h0, .inr (1, [.int 0, .int 0, .ref q1])), (q1, .inl (cA, 8, .inr (.inr (.inr (.inr f10)))))]) [0, 1] (by decide) rfl
  refine lv_iinc (v := 3) (lv' := [(1, .int 3), (0, .ref h0)]) hx hb dX1_init_44 hl (k := 0) rfl (by decide) (by decide) rfl (fun ls hl => ?_)
  refine lv_goto (tgt := 25) hx hb dX1_init_47 (by decide) ?_
  refine lv_iload_n hx hb dX1_init_25 rfl (lv_at hl 0 rfl) ?_
  refine lv_bipush (v := 8) hx hb dX1_init_26 (by decide) ?_
  refine lv_icmp_ge (tgt := 50) hx hb dX1_init_28 (by decide) (fun h => absurd h (by decide)) (fun _ => ?_)
  refine lv_aload_n hx hb dX1_init_31 rfl (lv_at hl 1 rfl) ?_
  refine r_get (v := .ref q1) C hP 0 rfl fg_X1_20 rfl dX1_init_32 ?_
  refine lv_iload_n hx hb dX1_init_35 rfl (lv_at hl 0 rfl) ?_
  refine r_new C hP hD hS nw_X1_18 (Nat.le_of_ble_eq_true rfl) (Nat.le_of_ble_eq_true rfl) dX1_init_36 (fun q11 H hP hD hS => ?_)
  have hP : va_P D CL [(h0, .inr (1, [.int 0, .int 0, .ref q1])), (q1, .inl (cA, 8, .inr (.inr (.inr (.inr f10))))), (q11, .inr (5, [.int 0, .int 0, .int 0, .null, .null, .null, .null, .null, .null, .null, .null]))] H := hP
  have hD : va_D A [(h0, .inr (1, [.int 0, .int 0, .ref q1])), (q1, .inl (cA, 8, .inr (.inr (.inr (.inr f10))))), (q11, .inr (5, [.int 0, .int 0, .int 0, .null, .null, .null, .null, .null, .null, .null, .null]))] := hD
  refine W.widen (k := 29) (n := 232) (Nat.le_of_ble_eq_true rfl) (Nat.le_of_ble_eq_true rfl) ?_
  refine lv_dup hx hb dX1_init_39 rfl ?_
  refine call_v (wr := [(h0, .inr (1, [.int 0, .int 0, .ref q1])), (q1, .inl (cA, 8, .inr (.inr (.inr (.inr f10)))))]) C (run_IN (As := []) (rest := [.ref q11, .int 3, .ref q1]) C (i_Plan l D cI cZ cJ q11 ) cI_X1_24 hP hD hS [2] rfl rfl rfl hl.1 rfl (Nat.le_of_ble_eq_true rfl) dX1_init_40 ⟨Nat.le_of_ble_eq_true rfl, Nat.le_of_ble_eq_true rfl⟩ ⟨Nat.le_of_ble_eq_true rfl, Nat.le_of_ble_eq_true rfl⟩) hP hD hS [2] [0, 1] rfl rfl rfl (by decide) (fun u12 H locs hP hD hS => ?_)
  have hP : va_P D CL [(h0, .inr (1, [.int 0, .int 0, .ref q1])), (q1, .inl (cA, 8, .inr (.inr (.inr (.inr f10))))), (q11, .inr (5, pC 0 0 0 u12))] H := hP
  have hD : va_D A [(h0, .inr (1, [.int 0, .int 0, .ref q1])), (q1, .inl (cA, 8, .inr (.inr (.inr (.inr f10))))), (q11, .inr (5, pC 0 0 0 u12))] := hD
  refine W.widen (k := 37) (n := 292) (Nat.le_of_ble_eq_true rfl) (Nat.le_of_ble_eq_true rfl) ?_
  refine va_astq hx hb hK2 hP hD hS 1 3 2 5 rfl rfl rfl rfl (by unfold vp_in; decide) dX1_init_43 (fun H locs hP hD hS => ?_)
  obtain ⟨f13, ef13⟩ : ∃ z : Nat → Option Nat, z = va_up f10 (3 : Int32).toNatClampNeg (some q11) := ⟨_, rfl⟩
  have hP : va_P D CL [(h0, .inr (1, [.int 0, .int 0, .ref q1])), (q1, .inl (cA, 8, .inr (.inr (.inr (.inr f13))))), (q11, .inr (5, pC 0 0 0 u12))] H := by rw [ef13]; exact hP
  have hD : va_D A [(h0, .inr (1, [.int 0, .int 0, .ref q1])), (q1, .inl (cA, 8, .inr (.inr (.inr (.inr f13))))), (q11, .inr (5, pC 0 0 0 u12))] := by rw [ef13]; exact hD
  have hP := hP.sub (ws' := [(h0, .inr (1, [.int 0, .int 0, .ref q1])), (q1, .inl (cA, 8, .inr (.inr (.inr (.inr f13)))))]) [0, 1] rfl
  have hD := hD.sub (ws' := [(h0, .inr (1, [.int 0, .int 0, .ref q1])), (q1, .inl (cA, 8, .inr (.inr (.inr (.inr f13)))))]) [0, 1] (by decide) rfl
  refine lv_iinc (v := 4) (lv' := [(1, .int 4), (0, .ref h0)]) hx hb dX1_init_44 hl (k := 0) rfl (by decide) (by decide) rfl (fun ls hl => ?_)
  refine lv_goto (tgt := 25) hx hb dX1_init_47 (by decide) ?_
  refine lv_iload_n hx hb dX1_init_25 rfl (lv_at hl 0 rfl) ?_
  refine lv_bipush (v := 8) hx hb dX1_init_26 (by decide) ?_
  refine lv_icmp_ge (tgt := 50) hx hb dX1_init_28 (by decide) (fun h => absurd h (by decide)) (fun _ => ?_)
  refine lv_aload_n hx hb dX1_init_31 rfl (lv_at hl 1 rfl) ?_
  refine r_get (v := .ref q1) C hP 0 rfl fg_X1_20 rfl dX1_init_32 ?_
  refine lv_iload_n hx hb dX1_init_35 rfl (lv_at hl 0 rfl) ?_
  refine r_new C hP hD hS nw_X1_18 (Nat.le_of_ble_eq_true rfl) (Nat.le_of_ble_eq_true rfl) dX1_init_36 (fun q14 H hP hD hS => ?_)
  have hP : va_P D CL [(h0, .inr (1, [.int 0, .int 0, .ref q1])), (q1, .inl (cA, 8, .inr (.inr (.inr (.inr f13))))), (q14, .inr (5, [.int 0, .int 0, .int 0, .null, .null, .null, .null, .null, .null, .null, .null]))] H := hP
  have hD : va_D A [(h0, .inr (1, [.int 0, .int 0, .ref q1])), (q1, .inl (cA, 8, .inr (.inr (.inr (.inr f13))))), (q14, .inr (5, [.int 0, .int 0, .int 0, .null, .null, .null, .null, .null, .null, .null, .null]))] := hD
  refine W.widen (k := 38) (n := 303) (Nat.le_of_ble_eq_true rfl) (Nat.le_of_ble_eq_true rfl) ?_
  refine lv_dup hx hb dX1_init_39 rfl ?_
  refine call_v (wr := [(h0, .inr (1, [.int 0, .int 0, .ref q1])), (q1, .inl (cA, 8, .inr (.inr (.inr (.inr f13)))))]) C (run_IN (As := []) (rest := [.ref q14, .int 4, .ref q1]) C (i_Plan l D cI cZ cJ q14 ) cI_X1_24 hP hD hS [2] rfl rfl rfl hl.1 rfl (Nat.le_of_ble_eq_true rfl) dX1_init_40 ⟨Nat.le_of_ble_eq_true rfl, Nat.le_of_ble_eq_true rfl⟩ ⟨Nat.le_of_ble_eq_true rfl, Nat.le_of_ble_eq_true rfl⟩) hP hD hS [2] [0, 1] rfl rfl rfl (by decide) (fun u15 H locs hP hD hS => ?_)
  have hP : va_P D CL [(h0, .inr (1, [.int 0, .int 0, .ref q1])), (q1, .inl (cA, 8, .inr (.inr (.inr (.inr f13))))), (q14, .inr (5, pC 0 0 0 u15))] H := hP
  have hD : va_D A [(h0, .inr (1, [.int 0, .int 0, .ref q1])), (q1, .inl (cA, 8, .inr (.inr (.inr (.inr f13))))), (q14, .inr (5, pC 0 0 0 u15))] := hD
  refine W.widen (k := 46) (n := 363) (Nat.le_of_ble_eq_true rfl) (Nat.le_of_ble_eq_true rfl) ?_
  refine va_astq hx hb hK2 hP hD hS 1 3 2 5 rfl rfl rfl rfl (by unfold vp_in; decide) dX1_init_43 (fun H locs hP hD hS => ?_)
  obtain ⟨f16, ef16⟩ : ∃ z : Nat → Option Nat, z = va_up f13 (4 : Int32).toNatClampNeg (some q14) := ⟨_, rfl⟩
  have hP : va_P D CL [(h0, .inr (1, [.int 0, .int 0, .ref q1])), (q1, .inl (cA, 8, .inr (.inr (.inr (.inr f16))))), (q14, .inr (5, pC 0 0 0 u15))] H := by rw [ef16]; exact hP
  have hD : va_D A [(h0, .inr (1, [.int 0, .int 0, .ref q1])), (q1, .inl (cA, 8, .inr (.inr (.inr (.inr f16))))), (q14, .inr (5, pC 0 0 0 u15))] := by rw [ef16]; exact hD
  have hP := hP.sub (ws' := [(h0, .inr (1, [.int 0, .int 0, .ref q1])), (q1, .inl (cA, 8, .inr (.inr (.inr (.inr f16)))))]) [0, 1] rfl
  have hD := hD.sub (ws' := [(h0, .inr (1, [.int 0, .int 0, .ref q1])), (q1, .inl (cA, 8, .inr (.inr (.inr (.inr f16)))))]) [0, 1] (by decide) rfl
  refine lv_iinc (v := 5) (lv' := [(1, .int 5), (0, .ref h0)]) hx hb dX1_init_44 hl (k := 0) rfl (by decide) (by decide) rfl (fun ls hl => ?_)
  refine lv_goto (tgt := 25) hx hb dX1_init_47 (by decide) ?_
  refine lv_iload_n hx hb dX1_init_25 rfl (lv_at hl 0 rfl) ?_
  refine lv_bipush (v := 8) hx hb dX1_init_26 (by decide) ?_
  refine lv_icmp_ge (tgt := 50) hx hb dX1_init_28 (by decide) (fun h => absurd h (by decide)) (fun _ => ?_)
  refine lv_aload_n hx hb dX1_init_31 rfl (lv_at hl 1 rfl) ?_
  refine r_get (v := .ref q1) C hP 0 rfl fg_X1_20 rfl dX1_init_32 ?_
  refine lv_iload_n hx hb dX1_init_35 rfl (lv_at hl 0 rfl) ?_
  refine r_new C hP hD hS nw_X1_18 (Nat.le_of_ble_eq_true rfl) (Nat.le_of_ble_eq_true rfl) dX1_init_36 (fun q17 H hP hD hS => ?_)
  have hP : va_P D CL [(h0, .inr (1, [.int 0, .int 0, .ref q1])), (q1, .inl (cA, 8, .inr (.inr (.inr (.inr f16))))), (q17, .inr (5, [.int 0, .int 0, .int 0, .null, .null, .null, .null, .null, .null, .null, .null]))] H := hP
  have hD : va_D A [(h0, .inr (1, [.int 0, .int 0, .ref q1])), (q1, .inl (cA, 8, .inr (.inr (.inr (.inr f16))))), (q17, .inr (5, [.int 0, .int 0, .int 0, .null, .null, .null, .null, .null, .null, .null, .null]))] := hD
  refine W.widen (k := 47) (n := 374) (Nat.le_of_ble_eq_true rfl) (Nat.le_of_ble_eq_true rfl) ?_
  refine lv_dup hx hb dX1_init_39 rfl ?_
  refine call_v (wr := [(h0, .inr (1, [.int 0, .int 0, .ref q1])), (q1, .inl (cA, 8, .inr (.inr (.inr (.inr f16)))))]) C (run_IN (As := []) (rest := [.ref q17, .int 5, .ref q1]) C (i_Plan l D cI cZ cJ q17 ) cI_X1_24 hP hD hS [2] rfl rfl rfl hl.1 rfl (Nat.le_of_ble_eq_true rfl) dX1_init_40 ⟨Nat.le_of_ble_eq_true rfl, Nat.le_of_ble_eq_true rfl⟩ ⟨Nat.le_of_ble_eq_true rfl, Nat.le_of_ble_eq_true rfl⟩) hP hD hS [2] [0, 1] rfl rfl rfl (by decide) (fun u18 H locs hP hD hS => ?_)
  have hP : va_P D CL [(h0, .inr (1, [.int 0, .int 0, .ref q1])), (q1, .inl (cA, 8, .inr (.inr (.inr (.inr f16))))), (q17, .inr (5, pC 0 0 0 u18))] H := hP
  have hD : va_D A [(h0, .inr (1, [.int 0, .int 0, .ref q1])), (q1, .inl (cA, 8, .inr (.inr (.inr (.inr f16))))), (q17, .inr (5, pC 0 0 0 u18))] := hD
  refine W.widen (k := 55) (n := 434) (Nat.le_of_ble_eq_true rfl) (Nat.le_of_ble_eq_true rfl) ?_
  refine va_astq hx hb hK2 hP hD hS 1 3 2 5 rfl rfl rfl rfl (by unfold vp_in; decide) dX1_init_43 (fun H locs hP hD hS => ?_)
  obtain ⟨f19, ef19⟩ : ∃ z : Nat → Option Nat, z = va_up f16 (5 : Int32).toNatClampNeg (some q17) := ⟨_, rfl⟩
  have hP : va_P D CL [(h0, .inr (1, [.int 0, .int 0, .ref q1])), (q1, .inl (cA, 8, .inr (.inr (.inr (.inr f19))))), (q17, .inr (5, pC 0 0 0 u18))] H := by rw [ef19]; exact hP
  have hD : va_D A [(h0, .inr (1, [.int 0, .int 0, .ref q1])), (q1, .inl (cA, 8, .inr (.inr (.inr (.inr f19))))), (q17, .inr (5, pC 0 0 0 u18))] := by rw [ef19]; exact hD
  have hP := hP.sub (ws' := [(h0, .inr (1, [.int 0, .int 0, .ref q1])), (q1, .inl (cA, 8, .inr (.inr (.inr (.inr f19)))))]) [0, 1] rfl
  have hD := hD.sub (ws' := [(h0, .inr (1, [.int 0, .int 0, .ref q1])), (q1, .inl (cA, 8, .inr (.inr (.inr (.inr f19)))))]) [0, 1] (by decide) rfl
  refine lv_iinc (v := 6) (lv' := [(1, .int 6), (0, .ref h0)]) hx hb dX1_init_44 hl (k := 0) rfl (by decide) (by decide) rfl (fun ls hl => ?_)
  refine lv_goto (tgt := 25) hx hb dX1_init_47 (by decide) ?_
  refine lv_iload_n hx hb dX1_init_25 rfl (lv_at hl 0 rfl) ?_
  refine lv_bipush (v := 8) hx hb dX1_init_26 (by decide) ?_
  refine lv_icmp_ge (tgt := 50) hx hb dX1_init_28 (by decide) (fun h => absurd h (by decide)) (fun _ => ?_)
  refine lv_aload_n hx hb dX1_init_31 rfl (lv_at hl 1 rfl) ?_
  refine r_get (v := .ref q1) C hP 0 rfl fg_X1_20 rfl dX1_init_32 ?_
  refine lv_iload_n hx hb dX1_init_35 rfl (lv_at hl 0 rfl) ?_
  refine r_new C hP hD hS nw_X1_18 (Nat.le_of_ble_eq_true rfl) (Nat.le_of_ble_eq_true rfl) dX1_init_36 (fun q20 H hP hD hS => ?_)
  have hP : va_P D CL [(h0, .inr (1, [.int 0, .int 0, .ref q1])), (q1, .inl (cA, 8, .inr (.inr (.inr (.inr f19))))), (q20, .inr (5, [.int 0, .int 0, .int 0, .null, .null, .null, .null, .null, .null, .null, .null]))] H := hP
  have hD : va_D A [(h0, .inr (1, [.int 0, .int 0, .ref q1])), (q1, .inl (cA, 8, .inr (.inr (.inr (.inr f19))))), (q20, .inr (5, [.int 0, .int 0, .int 0, .null, .null, .null, .null, .null, .null, .null, .null]))] := hD
  refine W.widen (k := 56) (n := 445) (Nat.le_of_ble_eq_true rfl) (Nat.le_of_ble_eq_true rfl) ?_
  refine lv_dup hx hb dX1_init_39 rfl ?_
  refine call_v (wr := [(h0, .inr (1, [.int 0, .int 0, .ref q1])), (q1, .inl (cA, 8, .inr (.inr (.inr (.inr f19)))))]) C (run_IN (As := []) (rest := [.ref q20, .int 6, .ref q1]) C (i_Plan l D cI cZ cJ q20 ) cI_X1_24 hP hD hS [2] rfl rfl rfl hl.1 rfl (Nat.le_of_ble_eq_true rfl) dX1_init_40 ⟨Nat.le_of_ble_eq_true rfl, Nat.le_of_ble_eq_true rfl⟩ ⟨Nat.le_of_ble_eq_true rfl, Nat.le_of_ble_eq_true rfl⟩) hP hD hS [2] [0, 1] rfl rfl rfl (by decide) (fun u21 H locs hP hD hS => ?_)
  have hP : va_P D CL [(h0, .inr (1, [.int 0, .int 0, .ref q1])), (q1, .inl (cA, 8, .inr (.inr (.inr (.inr f19))))), (q20, .inr (5, pC 0 0 0 u21))] H := hP
  have hD : va_D A [(h0, .inr (1, [.int 0, .int 0, .ref q1])), (q1, .inl (cA, 8, .inr (.inr (.inr (.inr f19))))), (q20, .inr (5, pC 0 0 0 u21))] := hD
  refine W.widen (k := 64) (n := 505) (Nat.le_of_ble_eq_true rfl) (Nat.le_of_ble_eq_true rfl) ?_
  refine va_astq hx hb hK2 hP hD hS 1 3 2 5 rfl rfl rfl rfl (by unfold vp_in; decide) dX1_init_43 (fun H locs hP hD hS => ?_)
  obtain ⟨f22, ef22⟩ : ∃ z : Nat → Option Nat, z = va_up f19 (6 : Int32).toNatClampNeg (some q20) := ⟨_, rfl⟩
  have hP : va_P D CL [(h0, .inr (1, [.int 0, .int 0, .ref q1])), (q1, .inl (cA, 8, .inr (.inr (.inr (.inr f22))))), (q20, .inr (5, pC 0 0 0 u21))] H := by rw [ef22]; exact hP
  have hD : va_D A [(h0, .inr (1, [.int 0, .int 0, .ref q1])), (q1, .inl (cA, 8, .inr (.inr (.inr (.inr f22))))), (q20, .inr (5, pC 0 0 0 u21))] := by rw [ef22]; exact hD
  have hP := hP.sub (ws' := [(h0, .inr (1, [.int 0, .int 0, .ref q1])), (q1, .inl (cA, 8, .inr (.inr (.inr (.inr f22)))))]) [0, 1] rfl
  have hD := hD.sub (ws' := [(h0, .inr (1, [.int 0, .int 0, .ref q1])), (q1, .inl (cA, 8, .inr (.inr (.inr (.inr f22)))))]) [0, 1] (by decide) rfl
  refine lv_iinc (v := 7) (lv' := [(1, .int 7), (0, .ref h0)]) hx hb dX1_init_44 hl (k := 0) rfl (by decide) (by decide) rfl (fun ls hl => ?_)
  refine lv_goto (tgt := 25) hx hb dX1_init_47 (by decide) ?_
  refine lv_iload_n hx hb dX1_init_25 rfl (lv_at hl 0 rfl) ?_
  refine lv_bipush (v := 8) hx hb dX1_init_26 (by decide) ?_
  refine lv_icmp_ge (tgt := 50) hx hb dX1_init_28 (by decide) (fun h => absurd h (by decide)) (fun _ => ?_)
  refine lv_aload_n hx hb dX1_init_31 rfl (lv_at hl 1 rfl) ?_
  refine r_get (v := .ref q1) C hP 0 rfl fg_X1_20 rfl dX1_init_32 ?_
  refine lv_iload_n hx hb dX1_init_35 rfl (lv_at hl 0 rfl) ?_
  refine r_new C hP hD hS nw_X1_18 (Nat.le_of_ble_eq_true rfl) (Nat.le_of_ble_eq_true rfl) dX1_init_36 (fun q23 H hP hD hS => ?_)
  have hP : va_P D CL [(h0, .inr (1, [.int 0, .int 0, .ref q1])), (q1, .inl (cA, 8, .inr (.inr (.inr (.inr f22))))), (q23, .inr (5, [.int 0, .int 0, .int 0, .null, .null, .null, .null, .null, .null, .null, .null]))] H := hP
  have hD : va_D A [(h0, .inr (1, [.int 0, .int 0, .ref q1])), (q1, .inl (cA, 8, .inr (.inr (.inr (.inr f22))))), (q23, .inr (5, [.int 0, .int 0, .int 0, .null, .null, .null, .null, .null, .null, .null, .null]))] := hD
  refine W.widen (k := 65) (n := 516) (Nat.le_of_ble_eq_true rfl) (Nat.le_of_ble_eq_true rfl) ?_
  refine lv_dup hx hb dX1_init_39 rfl ?_
  refine call_v (wr := [(h0, .inr (1, [.int 0, .int 0, .ref q1])), (q1, .inl (cA, 8, .inr (.inr (.inr (.inr f22)))))]) C (run_IN (As := []) (rest := [.ref q23, .int 7, .ref q1]) C (i_Plan l D cI cZ cJ q23 ) cI_X1_24 hP hD hS [2] rfl rfl rfl hl.1 rfl (Nat.le_of_ble_eq_true rfl) dX1_init_40 ⟨Nat.le_of_ble_eq_true rfl, Nat.le_of_ble_eq_true rfl⟩ ⟨Nat.le_of_ble_eq_true rfl, Nat.le_of_ble_eq_true rfl⟩) hP hD hS [2] [0, 1] rfl rfl rfl (by decide) (fun u24 H locs hP hD hS => ?_)
  have hP : va_P D CL [(h0, .inr (1, [.int 0, .int 0, .ref q1])), (q1, .inl (cA, 8, .inr (.inr (.inr (.inr f22))))), (q23, .inr (5, pC 0 0 0 u24))] H := hP
  have hD : va_D A [(h0, .inr (1, [.int 0, .int 0, .ref q1])), (q1, .inl (cA, 8, .inr (.inr (.inr (.inr f22))))), (q23, .inr (5, pC 0 0 0 u24))] := hD
  refine W.widen (k := 73) (n := 576) (Nat.le_of_ble_eq_true rfl) (Nat.le_of_ble_eq_true rfl) ?_
  refine va_astq hx hb hK2 hP hD hS 1 3 2 5 rfl rfl rfl rfl (by unfold vp_in; decide) dX1_init_43 (fun H locs hP hD hS => ?_)
  obtain ⟨f25, ef25⟩ : ∃ z : Nat → Option Nat, z = va_up f22 (7 : Int32).toNatClampNeg (some q23) := ⟨_, rfl⟩
  have hP : va_P D CL [(h0, .inr (1, [.int 0, .int 0, .ref q1])), (q1, .inl (cA, 8, .inr (.inr (.inr (.inr f25))))), (q23, .inr (5, pC 0 0 0 u24))] H := by rw [ef25]; exact hP
  have hD : va_D A [(h0, .inr (1, [.int 0, .int 0, .ref q1])), (q1, .inl (cA, 8, .inr (.inr (.inr (.inr f25))))), (q23, .inr (5, pC 0 0 0 u24))] := by rw [ef25]; exact hD
  have hP := hP.sub (ws' := [(h0, .inr (1, [.int 0, .int 0, .ref q1])), (q1, .inl (cA, 8, .inr (.inr (.inr (.inr f25)))))]) [0, 1] rfl
  have hD := hD.sub (ws' := [(h0, .inr (1, [.int 0, .int 0, .ref q1])), (q1, .inl (cA, 8, .inr (.inr (.inr (.inr f25)))))]) [0, 1] (by decide) rfl
  refine lv_iinc (v := 8) (lv' := [(1, .int 8), (0, .ref h0)]) hx hb dX1_init_44 hl (k := 0) rfl (by decide) (by decide) rfl (fun ls hl => ?_)
  refine lv_goto (tgt := 25) hx hb dX1_init_47 (by decide) ?_
  refine lv_iload_n hx hb dX1_init_25 rfl (lv_at hl 0 rfl) ?_
  refine lv_bipush (v := 8) hx hb dX1_init_26 (by decide) ?_
  refine lv_icmp_ge (tgt := 50) hx hb dX1_init_28 (by decide) (fun _ => ?_) (fun h => absurd (by decide) h)
  have hP := hP.sub (ws' := [(h0, .inr (1, [.int 0, .int 0, .ref q1]))]) [0] rfl
  have hD := hD.sub (ws' := [(h0, .inr (1, [.int 0, .int 0, .ref q1]))]) [0] (by decide) rfl
  exact r_vret C hP hD hS q1 rfl (Nat.le_of_ble_eq_true rfl) (Nat.le_of_ble_eq_true rfl) dX1_init_50
