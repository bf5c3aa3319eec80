set_option maxHeartbeats 4000000 in
set_option maxRecDepth 100000 in
theorem k_add_0 (l : Launch) (D : va_G) (cI cZ cJ : ClassId) (inp : Nat) (byt : Nat) (w0 : Int32) (f0 : Nat → Int32)  : cM l yX2_addWord cX2_addWord 3 none D (TT cI cZ cJ) [.ref inp, .int w0] [(inp, .inr (2, [.int 0, .int 0, .int 0, .int 0, .int 0, .int 0, .ref byt])), (byt, .inl (cI, 600, .inl f0))] (qV D (TT cI cZ cJ) (fun u : Nat → Int32 => [(inp, .inr (2, [.int 4, .int 0, .int 0, .int 0, .int 0, .int 0, .ref byt])), (byt, .inl (cI, 600, .inl u))])) 0 0 0 := by
  refine enterM (by decide) (Nat.le_of_ble_eq_true rfl) ?_
  intro p e s m below meth c ls A C hP hD hS hl
  have hx := C.1
  have hb := C.2.1
  have hl : lv_has ls 3 [(0, .ref inp), (1, .int w0)] := hl
  refine lv_bipush (v := 24) hx hb dX2_addWord_0 (by decide) ?_
  refine lv_istore_n (lv' := [(2, .int 24), (0, .ref inp), (1, .int w0)]) hx hb dX2_addWord_2 rfl hl (by decide) rfl (fun ls hl => ?_)
  refine lv_iload_n hx hb dX2_addWord_3 rfl (lv_at hl 0 rfl) ?_
  refine lv_if_lt (tgt := 49) hx hb dX2_addWord_4 (by decide) (fun h => absurd h (by decide)) (fun _ => ?_)
  refine lv_aload_n hx hb dX2_addWord_7 rfl (lv_at hl 1 rfl) ?_
  refine r_get (v := .int 0) C hP 0 rfl fg_X2_9 rfl dX2_addWord_8 ?_
  refine lv_sipush (v := 600) hx hb dX2_addWord_11 (by decide) ?_
  refine lv_icmp_ge (tgt := 43) hx hb dX2_addWord_14 (by decide) (fun h => absurd h (by decide)) (fun _ => ?_)
  refine lv_aload_n hx hb dX2_addWord_17 rfl (lv_at hl 1 rfl) ?_
  refine r_get (v := .ref byt) C hP 0 rfl fg_X2_30 rfl dX2_addWord_18 ?_
  refine lv_aload_n hx hb dX2_addWord_21 rfl (lv_at hl 1 rfl) ?_
  refine r_get (v := .int 0) C hP 0 rfl fg_X2_9 rfl dX2_addWord_22 ?_
  refine lv_iload_n hx hb dX2_addWord_25 rfl (lv_at hl 2 rfl) ?_
  refine lv_iload_n hx hb dX2_addWord_26 rfl (lv_at hl 0 rfl) ?_
  refine lv_iushr hx hb dX2_addWord_27 rfl ?_
  refine lv_topi (fun x1 ex1 => ?_)
  refine lv_sipush (v := 255) hx hb dX2_addWord_28 (by decide) ?_
  refine lv_iand hx hb dX2_addWord_31 ?_
  refine lv_topi (fun x2 ex2 => ?_)
  refine va_iast hx hb C.2.2.2.2.2.1 hP hD hS 1 0 rfl rfl (by unfold vp_in; decide) dX2_addWord_32 (fun H locs hP hD hS => ?_)
  obtain ⟨f3, ef3⟩ : ∃ z : Nat → Int32, z = upd f0 (0 : Int32).toNatClampNeg x2 := ⟨_, rfl⟩
  have hP : va_P D CL [(inp, .inr (2, [.int 0, .int 0, .int 0, .int 0, .int 0, .int 0, .ref byt])), (byt, .inl (cI, 600, .inl f3))] H := by rw [ef3]; exact hP
  have hD : va_D A [(inp, .inr (2, [.int 0, .int 0, .int 0, .int 0, .int 0, .int 0, .ref byt])), (byt, .inl (cI, 600, .inl f3))] := by rw [ef3]; exact hD
  refine lv_aload_n hx hb dX2_addWord_33 rfl (lv_at hl 1 rfl) ?_
  refine lv_dup hx hb dX2_addWord_34 rfl ?_
  refine r_get (v := .int 0) C hP 0 rfl fg_X2_9 rfl dX2_addWord_35 ?_
  refine lv_iconst (v := 1) hx hb dX2_addWord_38 (by decide) ?_
  refine lv_iadd hx hb dX2_addWord_39 ?_
  refine W.eq (g2 := F0 m 40 ls [.int 1, .ref inp]) rfl ?_
  refine r_put C hP hD hS 0 rfl fg_X2_9 rfl rfl (Nat.le_of_ble_eq_true rfl) dX2_addWord_40 [(inp, .inr (2, [.int 1, .int 0, .int 0, .int 0, .int 0, .int 0, .ref byt])), (byt, .inl (cI, 600, .inl f3))] rfl (fun H locs hP hD hS => ?_)
  refine lv_iinc (v := 16) (lv' := [(2, .int 16), (0, .ref inp), (1, .int w0)]) hx hb dX2_addWord_43 hl (k := 0) rfl (by decide) (by decide) rfl (fun ls hl => ?_)
  refine lv_goto (tgt := 3) hx hb dX2_addWord_46 (by decide) ?_
  refine lv_iload_n hx hb dX2_addWord_3 rfl (lv_at hl 0 rfl) ?_
  refine lv_if_lt (tgt := 49) hx hb dX2_addWord_4 (by decide) (fun h => absurd h (by decide)) (fun _ => ?_)
  refine lv_aload_n hx hb dX2_addWord_7 rfl (lv_at hl 1 rfl) ?_
  refine r_get (v := .int 1) C hP 0 rfl fg_X2_9 rfl dX2_addWord_8 ?_
  refine lv_sipush (v := 600) hx hb dX2_addWord_11 (by decide) ?_
  refine lv_icmp_ge (tgt := 43) hx hb dX2_addWord_14 (by decide) (fun h => absurd h (by decide)) (fun _ => ?_)
  refine lv_aload_n hx hb dX2_addWord_17 rfl (lv_at hl 1 rfl) ?_
  refine r_get (v := .ref byt) C hP 0 rfl fg_X2_30 rfl dX2_addWord_18 ?_
  refine lv_aload_n hx hb dX2_addWord_21 rfl (lv_at hl 1 rfl) ?_
  refine r_get (v := .int 1) C hP 0 rfl fg_X2_9 rfl dX2_addWord_22 ?_
  refine lv_iload_n hx hb dX2_addWord_25 rfl (lv_at hl 2 rfl) ?_
  refine lv_iload_n hx hb dX2_addWord_26 rfl (lv_at hl 0 rfl) ?_
  refine lv_iushr hx hb dX2_addWord_27 rfl ?_
  refine lv_topi (fun x4 ex4 => ?_)
  refine lv_sipush (v := 255) hx hb dX2_addWord_28 (by decide) ?_
  refine lv_iand hx hb dX2_addWord_31 ?_
  refine lv_topi (fun x5 ex5 => ?_)
  refine va_iast hx hb C.2.2.2.2.2.1 hP hD hS 1 0 rfl rfl (by unfold vp_in; decide) dX2_addWord_32 (fun H locs hP hD hS => ?_)
  obtain ⟨f6, ef6⟩ : ∃ z : Nat → Int32, z = upd f3 (1 : Int32).toNatClampNeg x5 := ⟨_, rfl⟩
  have hP : va_P D CL [(inp, .inr (2, [.int 1, .int 0, .int 0, .int 0, .int 0, .int 0, .ref byt])), (byt, .inl (cI, 600, .inl f6))] H := by rw [ef6]; exact hP
  have hD : va_D A [(inp, .inr (2, [.int 1, .int 0, .int 0, .int 0, .int 0, .int 0, .ref byt])), (byt, .inl (cI, 600, .inl f6))] := by rw [ef6]; exact hD
  refine lv_aload_n hx hb dX2_addWord_33 rfl (lv_at hl 1 rfl) ?_
  refine lv_dup hx hb dX2_addWord_34 rfl ?_
  refine r_get (v := .int 1) C hP 0 rfl fg_X2_9 rfl dX2_addWord_35 ?_
  refine lv_iconst (v := 1) hx hb dX2_addWord_38 (by decide) ?_
  refine lv_iadd hx hb dX2_addWord_39 ?_
  refine W.eq (g2 := F0 m 40 ls [.int 2, .ref inp]) rfl ?_
  refine r_put C hP hD hS 0 rfl fg_X2_9 rfl rfl (Nat.le_of_ble_eq_true rfl) dX2_addWord_40 [(inp, .inr (2, [.int 2, .int 0, .int 0, .int 0, .int 0, .int 0, .ref byt])), (byt, .inl (cI, 600, .inl f6))] rfl (fun H locs hP hD hS => ?_)
  refine lv_iinc (v := 8) (lv' := [(2, .int 8), (0, .ref inp), (1, .int w0)]) hx hb dX2_addWord_43 hl (k := 0) rfl (by decide) (by decide) rfl (fun ls hl => ?_)
  refine lv_goto (tgt := 3) hx hb dX2_addWord_46 (by decide) ?_
  refine lv_iload_n hx hb dX2_addWord_3 rfl (lv_at hl 0 rfl) ?_
  refine lv_if_lt (tgt := 49) hx hb dX2_addWord_4 (by decide) (fun h => absurd h (by decide)) (fun _ => ?_)
  refine lv_aload_n hx hb dX2_addWord_7 rfl (lv_at hl 1 rfl) ?_
  refine r_get (v := .int 2) C hP 0 rfl fg_X2_9 rfl dX2_addWord_8 ?_
  refine lv_sipush (v := 600) hx hb dX2_addWord_11 (by decide) ?_
  refine lv_icmp_ge (tgt := 43) hx hb dX2_addWord_14 (by decide) (fun h => absurd h (by decide)) (fun _ => ?_)
  refine lv_aload_n hx hb dX2_addWord_17 rfl (lv_at hl 1 rfl) ?_
  refine r_get (v := .ref byt) C hP 0 rfl fg_X2_30 rfl dX2_addWord_18 ?_
  refine lv_aload_n hx hb dX2_addWord_21 rfl (lv_at hl 1 rfl) ?_
  refine r_get (v := .int 2) C hP 0 rfl fg_X2_9 rfl dX2_addWord_22 ?_
  refine lv_iload_n hx hb dX2_addWord_25 rfl (lv_at hl 2 rfl) ?_
  refine lv_iload_n hx hb dX2_addWord_26 rfl (lv_at hl 0 rfl) ?_
  refine lv_iushr hx hb dX2_addWord_27 rfl ?_
  refine lv_topi (fun x7 ex7 => ?_)
  refine lv_sipush (v := 255) hx hb dX2_addWord_28 (by decide) ?_
  refine lv_iand hx hb dX2_addWord_31 ?_
  refine lv_topi (fun x8 ex8 => ?_)
  refine va_iast hx hb C.2.2.2.2.2.1 hP hD hS 1 0 rfl rfl (by unfold vp_in; decide) dX2_addWord_32 (fun H locs hP hD hS => ?_)
  obtain ⟨f9, ef9⟩ : ∃ z : Nat → Int32, z = upd f6 (2 : Int32).toNatClampNeg x8 := ⟨_, rfl⟩
  have hP : va_P D CL [(inp, .inr (2, [.int 2, .int 0, .int 0, .int 0, .int 0, .int 0, .ref byt])), (byt, .inl (cI, 600, .inl f9))] H := by rw [ef9]; exact hP
  have hD : va_D A [(inp, .inr (2, [.int 2, .int 0, .int 0, .int 0, .int 0, .int 0, .ref byt])), (byt, .inl (cI, 600, .inl f9))] := by rw [ef9]; exact hD
  refine lv_aload_n hx hb dX2_addWord_33 rfl (lv_at hl 1 rfl) ?_
  refine lv_dup hx hb dX2_addWord_34 rfl ?_
  refine r_get (v := .int 2) C hP 0 rfl fg_X2_9 rfl dX2_addWord_35 ?_
  refine lv_iconst (v := 1) hx hb dX2_addWord_38 (by decide) ?_
  refine lv_iadd hx hb dX2_addWord_39 ?_
  refine W.eq (g2 := F0 m 40 ls [.int 3, .ref inp]) rfl ?_
  refine r_put C hP hD hS 0 rfl fg_X2_9 rfl rfl (Nat.le_of_ble_eq_true rfl) dX2_addWord_40 [(inp, .inr (2, [.int 3, .int 0, .int 0, .int 0, .int 0, .int 0, .ref byt])), (byt, .inl (cI, 600, .inl f9))] rfl (fun H locs hP hD hS => ?_)
  refine lv_iinc (v := 0) (lv' := [(2, .int 0), (0, .ref inp), (1, .int w0)]) hx hb dX2_addWord_43 hl (k := 0) rfl (by decide) (by decide) rfl (fun ls hl => ?_)
  refine lv_goto (tgt := 3) hx hb dX2_addWord_46 (by decide) ?_
  refine lv_iload_n hx hb dX2_addWord_3 rfl (lv_at hl 0 rfl) ?_
  refine lv_if_lt (tgt := 49) hx hb dX2_addWord_4 (by decide) (fun h => absurd h (by decide)) (fun _ => ?_)
  refine lv_aload_n hx hb dX2_addWord_7 rfl (lv_at hl 1 rfl) ?_
  refine r_get (v := .int 3) C hP 0 rfl fg_X2_9 rfl dX2_addWord_8 ?_
  refine lv_sipush (v := 600) hx hb dX2_addWord_11 (by decide) ?_
  refine lv_icmp_ge (tgt := 43) hx hb dX2_addWord_14 (by decide) (fun h => absurd h (by decide)) (fun _ => ?_)
  refine lv_aload_n hx hb dX2_addWord_17 rfl (lv_at hl 1 rfl) ?_
  refine r_get (v := .ref byt) C hP 0 rfl fg_X2_30 rfl dX2_addWord_18 ?_
  refine lv_aload_n hx hb dX2_addWord_21 rfl (lv_at hl 1 rfl) ?_
  refine r_get (v := .int 3) C hP 0 rfl fg_X2_9 rfl dX2_addWord_22 ?_
  refine lv_iload_n hx hb dX2_addWord_25 rfl (lv_at hl 2 rfl) ?_
  refine lv_iload_n hx hb dX2_addWord_26 rfl (lv_at hl 0 rfl) ?_
  refine lv_iushr hx hb dX2_addWord_27 rfl ?_
  refine lv_topi (fun x10 ex10 => ?_)
  refine lv_sipush (v := 255) hx hb dX2_addWord_28 (by decide) ?_
  refine lv_iand hx hb dX2_addWord_31 ?_
  refine lv_topi (fun x11 ex11 => ?_)
  refine va_iast hx hb C.2.2.2.2.2.1 hP hD hS 1 0 rfl rfl (by unfold vp_in; decide) dX2_addWord_32 (fun H locs hP hD hS => ?_)
  obtain ⟨f12, ef12⟩ : ∃ z : Nat → Int32, z = upd f9 (3 : Int32).toNatClampNeg x11 := ⟨_, rfl⟩
  have hP : va_P D CL [(inp, .inr (2, [.int 3, .int 0, .int 0, .int 0, .int 0, .int 0, .ref byt])), (byt, .inl (cI, 600, .inl f12))] H := by rw [ef12]; exact hP
  have hD : va_D A [(inp, .inr (2, [.int 3, .int 0, .int 0, .int 0, .int 0, .int 0, .ref byt])), (byt, .inl (cI, 600, .inl f12))] := by rw [ef12]; exact hD
  refine lv_aload_n hx hb dX2_addWord_33 rfl (lv_at hl 1 rfl) ?_
  refine lv_dup hx hb dX2_addWord_34 rfl ?_
  refine r_get (v := .int 3) C hP 0 rfl fg_X2_9 rfl dX2_addWord_35 ?_
  refine lv_iconst (v := 1) hx hb dX2_addWord_38 (by decide) ?_
  refine lv_iadd hx hb dX2_addWord_39 ?_
  refine W.eq (g2 := F0 m 40 ls [.int 4, .ref inp]) rfl ?_
  refine r_put C hP hD hS 0 rfl fg_X2_9 rfl rfl (Nat.le_of_ble_eq_true rfl) dX2_addWord_40 [(inp, .inr (2, [.int 4, .int 0, .int 0, .int 0, .int 0, .int 0, .ref byt])), (byt, .inl (cI, 600, .inl f12))] rfl (fun H locs hP hD hS => ?_)
  refine lv_iinc (v := (-8)) (lv' := [(2, .int (-8)), (0, .ref inp), (1, .int w0)]) hx hb dX2_addWord_43 hl (k := 0) rfl (by decide) (by decide) rfl (fun ls hl => ?_)
  refine lv_goto (tgt := 3) hx hb dX2_addWord_46 (by decide) ?_
  refine lv_iload_n hx hb dX2_addWord_3 rfl (lv_at hl 0 rfl) ?_
  refine lv_if_lt (tgt := 49) hx hb dX2_addWord_4 (by decide) (fun _ => ?_) (fun h => absurd (by decide) h)
  exact r_vret C hP hD hS f12 rfl (Nat.le_of_ble_eq_true rfl) (Nat.le_of_ble_eq_true rfl) dX2_addWord_49
set_option maxHeartbeats 4000000 in
set_option maxRecDepth 100000 in
theorem k_add_4 (l : Launch) (D : va_G) (cI cZ cJ : ClassId) (inp : Nat) (byt : Nat) (w0 : Int32) (f0 : Nat → Int32)  : cM l yX2_addWord cX2_addWord 3 none D (TT cI cZ cJ) [.ref inp, .int w0] [(inp, .inr (2, [.int 4, .int 0, .int 0, .int 0, .int 0, .int 0, .ref byt])), (byt, .inl (cI, 600, .inl f0))] (qV D (TT cI cZ cJ) (fun u : Nat → Int32 => [(inp, .inr (2, [.int 8, .int 0, .int 0, .int 0, .int 0, .int 0, .ref byt])), (byt, .inl (cI, 600, .inl u))])) 0 0 0 := by
  refine enterM (by decide) (Nat.le_of_ble_eq_true rfl) ?_
  intro p e s m below meth c ls A C hP hD hS hl
  have hx := C.1
  have hb := C.2.1
  have hl : lv_has ls 3 [(0, .ref inp), (1, .int w0)] := hl
  refine lv_bipush (v := 24) hx hb dX2_addWord_0 (by decide) ?_
  refine lv_istore_n (lv' := [(2, .int 24), (0, .ref inp), (1, .int w0)]) hx hb dX2_addWord_2 rfl hl (by decide) rfl (fun ls hl => ?_)
  refine lv_iload_n hx hb dX2_addWord_3 rfl (lv_at hl 0 rfl) ?_
  refine lv_if_lt (tgt := 49) hx hb dX2_addWord_4 (by decide) (fun h => absurd h (by decide)) (fun _ => ?_)
  refine lv_aload_n hx hb dX2_addWord_7 rfl (lv_at hl 1 rfl) ?_
  refine r_get (v := .int 4) C hP 0 rfl fg_X2_9 rfl dX2_addWord_8 ?_
  refine lv_sipush (v := 600) hx hb dX2_addWord_11 (by decide) ?_
  refine lv_icmp_ge (tgt := 43) hx hb dX2_addWord_14 (by decide) (fun h => absurd h (by decide)) (fun _ => ?_)
  refine lv_aload_n hx hb dX2_addWord_17 rfl (lv_at hl 1 rfl) ?_
  refine r_get (v := .ref byt) C hP 0 rfl fg_X2_30 rfl dX2_addWord_18 ?_
  refine lv_aload_n hx hb dX2_addWord_21 rfl (lv_at hl 1 rfl) ?_
  refine r_get (v := .int 4) C hP 0 rfl fg_X2_9 rfl dX2_addWord_22 ?_
  refine lv_iload_n hx hb dX2_addWord_25 rfl (lv_at hl 2 rfl) ?_
  refine lv_iload_n hx hb dX2_addWord_26 rfl (lv_at hl 0 rfl) ?_
  refine lv_iushr hx hb dX2_addWord_27 rfl ?_
  refine lv_topi (fun x1 ex1 => ?_)
  refine lv_sipush (v := 255) hx hb dX2_addWord_28 (by decide) ?_
  refine lv_iand hx hb dX2_addWord_31 ?_
  refine lv_topi (fun x2 ex2 => ?_)
  refine va_iast hx hb C.2.2.2.2.2.1 hP hD hS 1 0 rfl rfl (by unfold vp_in; decide) dX2_addWord_32 (fun H locs hP hD hS => ?_)
  obtain ⟨f3, ef3⟩ : ∃ z : Nat → Int32, z = upd f0 (4 : Int32).toNatClampNeg x2 := ⟨_, rfl⟩
  have hP : va_P D CL [(inp, .inr (2, [.int 4, .int 0, .int 0, .int 0, .int 0, .int 0, .ref byt])), (byt, .inl (cI, 600, .inl f3))] H := by rw [ef3]; exact hP
  have hD : va_D A [(inp, .inr (2, [.int 4, .int 0, .int 0, .int 0, .int 0, .int 0, .ref byt])), (byt, .inl (cI, 600, .inl f3))] := by rw [ef3]; exact hD
  refine lv_aload_n hx hb dX2_addWord_33 rfl (lv_at hl 1 rfl) ?_
  refine lv_dup hx hb dX2_addWord_34 rfl ?_
  refine r_get (v := .int 4) C hP 0 rfl fg_X2_9 rfl dX2_addWord_35 ?_
  refine lv_iconst (v := 1) hx hb dX2_addWord_38 (by decide) ?_
  refine lv_iadd hx hb dX2_addWord_39 ?_
  refine W.eq (g2 := F0 m 40 ls [.int 5, .ref inp]) rfl ?_
  refine r_put C hP hD hS 0 rfl fg_X2_9 rfl rfl (Nat.le_of_ble_eq_true rfl) dX2_addWord_40 [(inp, .inr (2, [.int 5, .int 0, .int 0, .int 0, .int 0, .int 0, .ref byt])), (byt, .inl (cI, 600, .inl f3))] rfl (fun H locs hP hD hS => ?_)
  refine lv_iinc (v := 16) (lv' := [(2, .int 16), (0, .ref inp), (1, .int w0)]) hx hb dX2_addWord_43 hl (k := 0) rfl (by decide) (by decide) rfl (fun ls hl => ?_)
  refine lv_goto (tgt := 3) hx hb dX2_addWord_46 (by decide) ?_
  refine lv_iload_n hx hb dX2_addWord_3 rfl (lv_at hl 0 rfl) ?_
  refine lv_if_lt (tgt := 49) hx hb dX2_addWord_4 (by decide) (fun h => absurd h (by decide)) (fun _ => ?_)
  refine lv_aload_n hx hb dX2_addWord_7 rfl (lv_at hl 1 rfl) ?_
  refine r_get (v := .int 5) C hP 0 rfl fg_X2_9 rfl dX2_addWord_8 ?_
  refine lv_sipush (v := 600) hx hb dX2_addWord_11 (by decide) ?_
  refine lv_icmp_ge (tgt := 43) hx hb dX2_addWord_14 (by decide) (fun h => absurd h (by decide)) (fun _ => ?_)
  refine lv_aload_n hx hb dX2_addWord_17 rfl (lv_at hl 1 rfl) ?_
  refine r_get (v := .ref byt) C hP 0 rfl fg_X2_30 rfl dX2_addWord_18 ?_
  refine lv_aload_n hx hb dX2_addWord_21 rfl (lv_at hl 1 rfl) ?_
  refine r_get (v := .int 5) C hP 0 rfl fg_X2_9 rfl dX2_addWord_22 ?_
  refine lv_iload_n hx hb dX2_addWord_25 rfl (lv_at hl 2 rfl) ?_
  refine lv_iload_n hx hb dX2_addWord_26 rfl (lv_at hl 0 rfl) ?_
  refine lv_iushr hx hb dX2_addWord_27 rfl ?_
  refine lv_topi (fun x4 ex4 => ?_)
  refine lv_sipush (v := 255) hx hb dX2_addWord_28 (by decide) ?_
  refine lv_iand hx hb dX2_addWord_31 ?_
  refine lv_topi (fun x5 ex5 => ?_)
  refine va_iast hx hb C.2.2.2.2.2.1 hP hD hS 1 0 rfl rfl (by unfold vp_in; decide) dX2_addWord_32 (fun H locs hP hD hS => ?_)
  obtain ⟨f6, ef6⟩ : ∃ z : Nat → Int32, z = upd f3 (5 : Int32).toNatClampNeg x5 := ⟨_, rfl⟩
  have hP : va_P D CL [(inp, .inr (2, [.int 5, .int 0, .int 0, .int 0, .int 0, .int 0, .ref byt])), (byt, .inl (cI, 600, .inl f6))] H := by rw [ef6]; exact hP
  have hD : va_D A [(inp, .inr (2, [.int 5, .int 0, .int 0, .int 0, .int 0, .int 0, .ref byt])), (byt, .inl (cI, 600, .inl f6))] := by rw [ef6]; exact hD
  refine lv_aload_n hx hb dX2_addWord_33 rfl (lv_at hl 1 rfl) ?_
  refine lv_dup hx hb dX2_addWord_34 rfl ?_
  refine r_get (v := .int 5) C hP 0 rfl fg_X2_9 rfl dX2_addWord_35 ?_
  refine lv_iconst (v := 1) hx hb dX2_addWord_38 (by decide) ?_
  refine lv_iadd hx hb dX2_addWord_39 ?_
  refine W.eq (g2 := F0 m 40 ls [.int 6, .ref inp]) rfl ?_
  refine r_put C hP hD hS 0 rfl fg_X2_9 rfl rfl (Nat.le_of_ble_eq_true rfl) dX2_addWord_40 [(inp, .inr (2, [.int 6, .int 0, .int 0, .int 0, .int 0, .int 0, .ref byt])), (byt, .inl (cI, 600, .inl f6))] rfl (fun H locs hP hD hS => ?_)
  refine lv_iinc (v := 8) (lv' := [(2, .int 8), (0, .ref inp), (1, .int w0)]) hx hb dX2_addWord_43 hl (k := 0) rfl (by decide) (by decide) rfl (fun ls hl => ?_)
  refine lv_goto (tgt := 3) hx hb dX2_addWord_46 (by decide) ?_
  refine lv_iload_n hx hb dX2_addWord_3 rfl (lv_at hl 0 rfl) ?_
  refine lv_if_lt (tgt := 49) hx hb dX2_addWord_4 (by decide) (fun h => absurd h (by decide)) (fun _ => ?_)
  refine lv_aload_n hx hb dX2_addWord_7 rfl (lv_at hl 1 rfl) ?_
  refine r_get (v := .int 6) C hP 0 rfl fg_X2_9 rfl dX2_addWord_8 ?_
  refine lv_sipush (v := 600) hx hb dX2_addWord_11 (by decide) ?_
  refine lv_icmp_ge (tgt := 43) hx hb dX2_addWord_14 (by decide) (fun h => absurd h (by decide)) (fun _ => ?_)
  refine lv_aload_n hx hb dX2_addWord_17 rfl (lv_at hl 1 rfl) ?_
  refine r_get (v := .ref byt) C hP 0 rfl fg_X2_30 rfl dX2_addWord_18 ?_
  refine lv_aload_n hx hb dX2_addWord_21 rfl (lv_at hl 1 rfl) ?_
  refine r_get (v := .int 6) C hP 0 rfl fg_X2_9 rfl dX2_addWord_22 ?_
  refine lv_iload_n hx hb dX2_addWord_25 rfl (lv_at hl 2 rfl) ?_
  refine lv_iload_n hx hb dX2_addWord_26 rfl (lv_at hl 0 rfl) ?_
  refine lv_iushr hx hb dX2_addWord_27 rfl ?_
  refine lv_topi (fun x7 ex7 => ?_)
  refine lv_sipush (v := 255) hx hb dX2_addWord_28 (by decide) ?_
  refine lv_iand hx hb dX2_addWord_31 ?_
  refine lv_topi (fun x8 ex8 => ?_)
  refine va_iast hx hb C.2.2.2.2.2.1 hP hD hS 1 0 rfl rfl (by unfold vp_in; decide) dX2_addWord_32 (fun H locs hP hD hS => ?_)
  obtain ⟨f9, ef9⟩ : ∃ z : Nat → Int32, z = upd f6 (6 : Int32).toNatClampNeg x8 := ⟨_, rfl⟩
  have hP : va_P D CL [(inp, .inr (2, [.int 6, .int 0, .int 0, .int 0, .int 0, .int 0, .ref byt])), (byt, .inl (cI, 600, .inl f9))] H := by rw [ef9]; exact hP
  have hD : va_D A [(inp, .inr (2, [.int 6, .int 0, .int 0, .int 0, .int 0, .int 0, .ref byt])), (byt, .inl (cI, 600, .inl f9))] := by rw [ef9]; exact hD
  refine lv_aload_n hx hb dX2_addWord_33 rfl (lv_at hl 1 rfl) ?_
  refine lv_dup hx hb dX2_addWord_34 rfl ?_
  refine r_get (v := .int 6) C hP 0 rfl fg_X2_9 rfl dX2_addWord_35 ?_
  refine lv_iconst (v := 1) hx hb dX2_addWord_38 (by decide) ?_
  refine lv_iadd hx hb dX2_addWord_39 ?_
  refine W.eq (g2 := F0 m 40 ls [.int 7, .ref inp]) rfl ?_
  refine r_put C hP hD hS 0 rfl fg_X2_9 rfl rfl (Nat.le_of_ble_eq_true rfl) dX2_addWord_40 [(inp, .inr (2, [.int 7, .int 0, .int 0, .int 0, .int 0, .int 0, .ref byt])), (byt, .inl (cI, 600, .inl f9))] rfl (fun H locs hP hD hS => ?_)
  refine lv_iinc (v := 0) (lv' := [(2, .int 0), (0, .ref inp), (1, .int w0)]) hx hb dX2_addWord_43 hl (k := 0) rfl (by decide) (by decide) rfl (fun ls hl => ?_)
  refine lv_goto (tgt := 3) hx hb dX2_addWord_46 (by decide) ?_
  refine lv_iload_n hx hb dX2_addWord_3 rfl (lv_at hl 0 rfl) ?_
  refine lv_if_lt (tgt := 49) hx hb dX2_addWord_4 (by decide) (fun h => absurd h (by decide)) (fun _ => ?_)
  refine lv_aload_n hx hb dX2_addWord_7 rfl (lv_at hl 1 rfl) ?_
  refine r_get (v := .int 7) C hP 0 rfl fg_X2_9 rfl dX2_addWord_8 ?_
  refine lv_sipush (v := 600) hx hb dX2_addWord_11 (by decide) ?_
  refine lv_icmp_ge (tgt := 43) hx hb dX2_addWord_14 (by decide) (fun h => absurd h (by decide)) (fun _ => ?_)
  refine lv_aload_n hx hb dX2_addWord_17 rfl (lv_at hl 1 rfl) ?_
  refine r_get (v := .ref byt) C hP 0 rfl fg_X2_30 rfl dX2_addWord_18 ?_
  refine lv_aload_n hx hb dX2_addWord_21 rfl (lv_at hl 1 rfl) ?_
  refine r_get (v := .int 7) C hP 0 rfl fg_X2_9 rfl dX2_addWord_22 ?_
  refine lv_iload_n hx hb dX2_addWord_25 rfl (lv_at hl 2 rfl) ?_
  refine lv_iload_n hx hb dX2_addWord_26 rfl (lv_at hl 0 rfl) ?_
  refine lv_iushr hx hb dX2_addWord_27 rfl ?_
  refine lv_topi (fun x10 ex10 => ?_)
  refine lv_sipush (v := 255) hx hb dX2_addWord_28 (by decide) ?_
  refine lv_iand hx hb dX2_addWord_31 ?_
  refine lv_topi (fun x11 ex11 => ?_)
  refine va_iast hx hb C.2.2.2.2.2.1 hP hD hS 1 0 rfl rfl (by unfold vp_in; decide) dX2_addWord_32 (fun H locs hP hD hS => ?_)
  obtain ⟨f12, ef12⟩ : ∃ z : Nat → Int32, z = upd f9 (7 : Int32).toNatClampNeg x11 := ⟨_, rfl⟩
  have hP : va_P D CL [(inp, .inr (2, [.int 7, .int 0, .int 0, .int 0, .int 0, .int 0, .ref byt])), (byt, .inl (cI, 600, .inl f12))] H := by rw [ef12]; exact hP
  have hD : va_D A [(inp, .inr (2, [.int 7, .int 0, .int 0, .int 0, .int 0, .int 0, .ref byt])), (byt, .inl (cI, 600, .inl f12))] := by rw [ef12]; exact hD
  refine lv_aload_n hx hb dX2_addWord_33 rfl (lv_at hl 1 rfl) ?_
  refine lv_dup hx hb dX2_addWord_34 rfl ?_
  refine r_get (v := .int 7) C hP 0 rfl fg_X2_9 rfl dX2_addWord_35 ?_
  refine lv_iconst (v := 1) hx hb dX2_addWord_38 (by decide) ?_
  refine lv_iadd hx hb dX2_addWord_39 ?_
  refine W.eq (g2 := F0 m 40 ls [.int 8, .ref inp]) rfl ?_
  refine r_put C hP hD hS 0 rfl fg_X2_9 rfl rfl (Nat.le_of_ble_eq_true rfl) dX2_addWord_40 [(inp, .inr (2, [.int 8, .int 0, .int 0, .int 0, .int 0, .int 0, .ref byt])), (byt, .inl (cI, 600, .inl f12))] rfl (fun H locs hP hD hS => ?_)
  refine lv_iinc (v := (-8)) (lv' := [(2, .int (-8)), (0, .ref inp), (1, .int w0)]) hx hb dX2_addWord_43 hl (k := 0) rfl (by decide) (by decide) rfl (fun ls hl => ?_)
  refine lv_goto (tgt := 3) hx hb dX2_addWord_46 (by decide) ?_
  refine lv_iload_n hx hb dX2_addWord_3 rfl (lv_at hl 0 rfl) ?_
  refine lv_if_lt (tgt := 49) hx hb dX2_addWord_4 (by decide) (fun _ => ?_) (fun h => absurd (by decide) h)
  exact r_vret C hP hD hS f12 rfl (Nat.le_of_ble_eq_true rfl) (Nat.le_of_ble_eq_true rfl) dX2_addWord_49
set_option maxHeartbeats 4000000 in
set_option maxRecDepth 100000 in
theorem k_add_8 (l : Launch) (D : va_G) (cI cZ cJ : ClassId) (inp : Nat) (byt : Nat) (w0 : Int32) (f0 : Nat → Int32)  : cM l yX2_addWord cX2_addWord 3 none D (TT cI cZ cJ) [.ref inp, .int w0] [(inp, .inr (2, [.int 8, .int 0, .int 0, .int 0, .int 0, .int 0, .ref byt])), (byt, .inl (cI, 600, .inl f0))] (qV D (TT cI cZ cJ) (fun u : Nat → Int32 => [(inp, .inr (2, [.int 12, .int 0, .int 0, .int 0, .int 0, .int 0, .ref byt])), (byt, .inl (cI, 600, .inl u))])) 0 0 0 := by
  refine enterM (by decide) (Nat.le_of_ble_eq_true rfl) ?_
  intro p e s m below meth c ls A C hP hD hS hl
  have hx := C.1
  have hb := C.2.1
  have hl : lv_has ls 3 [(0, .ref inp), (1, .int w0)] := hl
  refine lv_bipush (v := 24) hx hb dX2_addWord_0 (by decide) ?_
  refine lv_istore_n (lv' := [(2, .int 24), (0, .ref inp), (1, .int w0)]) hx hb dX2_addWord_2 rfl hl (by decide) rfl (fun ls hl => ?_)
  refine lv_iload_n hx hb dX2_addWord_3 rfl (lv_at hl 0 rfl) ?_
  refine lv_if_lt (tgt := 49) hx hb dX2_addWord_4 (by decide) (fun h => absurd h (by decide)) (fun _ => ?_)
  refine lv_aload_n hx hb dX2_addWord_7 rfl (lv_at hl 1 rfl) ?_
  refine r_get (v := .int 8) C hP 0 rfl fg_X2_9 rfl dX2_addWord_8 ?_
  refine lv_sipush (v := 600) hx hb dX2_addWord_11 (by decide) ?_
  refine lv_icmp_ge (tgt := 43) hx hb dX2_addWord_14 (by decide) (fun h => absurd h (by decide)) (fun _ => ?_)
  refine lv_aload_n hx hb dX2_addWord_17 rfl (lv_at hl 1 rfl) ?_
  refine r_get (v := .ref byt) C hP 0 rfl fg_X2_30 rfl dX2_addWord_18 ?_
  refine lv_aload_n hx hb dX2_addWord_21 rfl (lv_at hl 1 rfl) ?_
  refine r_get (v := .int 8) C hP 0 rfl fg_X2_9 rfl dX2_addWord_22 ?_
  refine lv_iload_n hx hb dX2_addWord_25 rfl (lv_at hl 2 rfl) ?_
  refine lv_iload_n hx hb dX2_addWord_26 rfl (lv_at hl 0 rfl) ?_
  refine lv_iushr hx hb dX2_addWord_27 rfl ?_
  refine lv_topi (fun x1 ex1 => ?_)
  refine lv_sipush (v := 255) hx hb dX2_addWord_28 (by decide) ?_
  refine lv_iand hx hb dX2_addWord_31 ?_
  refine lv_topi (fun x2 ex2 => ?_)
  refine va_iast hx hb C.2.2.2.2.2.1 hP hD hS 1 0 rfl rfl (by unfold vp_in; decide) dX2_addWord_32 (fun H locs hP hD hS => ?_)
  obtain ⟨f3, ef3⟩ : ∃ z : Nat → Int32, z = upd f0 (8 : Int32).toNatClampNeg x2 := ⟨_, rfl⟩
  have hP : va_P D CL [(inp, .inr (2, [.int 8, .int 0, .int 0, .int 0, .int 0, .int 0, .ref byt])), (byt, .inl (cI, 600, .inl f3))] H := by rw [ef3]; exact hP
  have hD : va_D A [(inp, .inr (2, [.int 8, .int 0, .int 0, .int 0, .int 0, .int 0, .ref byt])), (byt, .inl (cI, 600, .inl f3))] := by rw [ef3]; exact hD
  refine lv_aload_n hx hb dX2_addWord_33 rfl (lv_at hl 1 rfl) ?_
  refine lv_dup hx hb dX2_addWord_34 rfl ?_
  refine r_get (v := .int 8) C hP 0 rfl fg_X2_9 rfl dX2_addWord_35 ?_
  refine lv_iconst (v := 1) hx hb dX2_addWord_38 (by decide) ?_
  refine lv_iadd hx hb dX2_addWord_39 ?_
  refine W.eq (g2 := F0 m 40 ls [.int 9, .ref inp]) rfl ?_
  refine r_put C hP hD hS 0 rfl fg_X2_9 rfl rfl (Nat.le_of_ble_eq_true rfl) dX2_addWord_40 [(inp, .inr (2, [.int 9, .int 0, .int 0, .int 0, .int 0, .int 0, .ref byt])), (byt, .inl (cI, 600, .inl f3))] rfl (fun H locs hP hD hS => ?_)
  refine lv_iinc (v := 16) (lv' := [(2, .int 16), (0, .ref inp), (1, .int w0)]) hx hb dX2_addWord_43 hl (k := 0) rfl (by decide) (by decide) rfl (fun ls hl => ?_)
  refine lv_goto (tgt := 3) hx hb dX2_addWord_46 (by decide) ?_
  refine lv_iload_n hx hb dX2_addWord_3 rfl (lv_at hl 0 rfl) ?_
  refine lv_if_lt (tgt := 49) hx hb dX2_addWord_4 (by decide) (fun h => absurd h (by decide)) (fun _ => ?_)
  refine lv_aload_n hx hb dX2_addWord_7 rfl (lv_at hl 1 rfl) ?_
  refine r_get (v := .int 9) C hP 0 rfl fg_X2_9 rfl dX2_addWord_8 ?_
  refine lv_sipush (v := 600) hx hb dX2_addWord_11 (by decide) ?_
  refine lv_icmp_ge (tgt := 43) hx hb dX2_addWord_14 (by decide) (fun h => absurd h (by decide)) (fun _ => ?_)
  refine lv_aload_n hx hb dX2_addWord_17 rfl (lv_at hl 1 rfl) ?_
  refine r_get (v := .ref byt) C hP 0 rfl fg_X2_30 rfl dX2_addWord_18 ?_
  refine lv_aload_n hx hb dX2_addWord_21 rfl (lv_at hl 1 rfl) ?_
  refine r_get (v := .int 9) C hP 0 rfl fg_X2_9 rfl dX2_addWord_22 ?_
  refine lv_iload_n hx hb dX2_addWord_25 rfl (lv_at hl 2 rfl) ?_
  refine lv_iload_n hx hb dX2_addWord_26 rfl (lv_at hl 0 rfl) ?_
  refine lv_iushr hx hb dX2_addWord_27 rfl ?_
  refine lv_topi (fun x4 ex4 => ?_)
  refine lv_sipush (v := 255) hx hb dX2_addWord_28 (by decide) ?_
  refine lv_iand hx hb dX2_addWord_31 ?_
  refine lv_topi (fun x5 ex5 => ?_)
  refine va_iast hx hb C.2.2.2.2.2.1 hP hD hS 1 0 rfl rfl (by unfold vp_in; decide) dX2_addWord_32 (fun H locs hP hD hS => ?_)
  obtain ⟨f6, ef6⟩ : ∃ z : Nat → Int32, z = upd f3 (9 : Int32).toNatClampNeg x5 := ⟨_, rfl⟩
  have hP : va_P D CL [(inp, .inr (2, [.int 9, .int 0, .int 0, .int 0, .int 0, .int 0, .ref byt])), (byt, .inl (cI, 600, .inl f6))] H := by rw [ef6]; exact hP
  have hD : va_D A [(inp, .inr (2, [.int 9, .int 0, .int 0, .int 0, .int 0, .int 0, .ref byt])), (byt, .inl (cI, 600, .inl f6))] := by rw [ef6]; exact hD
  refine lv_aload_n hx hb dX2_addWord_33 rfl (lv_at hl 1 rfl) ?_
  refine lv_dup hx hb dX2_addWord_34 rfl ?_
  refine r_get (v := .int 9) C hP 0 rfl fg_X2_9 rfl dX2_addWord_35 ?_
  refine lv_iconst (v := 1) hx hb dX2_addWord_38 (by decide) ?_
  refine lv_iadd hx hb dX2_addWord_39 ?_
  refine W.eq (g2 := F0 m 40 ls [.int 10, .ref inp]) rfl ?_
  refine r_put C hP hD hS 0 rfl fg_X2_9 rfl rfl (Nat.le_of_ble_eq_true rfl) dX2_addWord_40 [(inp, .inr (2, [.int 10, .int 0, .int 0, .int 0, .int 0, .int 0, .ref byt])), (byt, .inl (cI, 600, .inl f6))] rfl (fun H locs hP hD hS => ?_)
  refine lv_iinc (v := 8) (lv' := [(2, .int 8), (0, .ref inp), (1, .int w0)]) hx hb dX2_addWord_43 hl (k := 0) rfl (by decide) (by decide) rfl (fun ls hl => ?_)
  refine lv_goto (tgt := 3) hx hb dX2_addWord_46 (by decide) ?_
  refine lv_iload_n hx hb dX2_addWord_3 rfl (lv_at hl 0 rfl) ?_
  refine lv_if_lt (tgt := 49) hx hb dX2_addWord_4 (by decide) (fun h => absurd h (by decide)) (fun _ => ?_)
  refine lv_aload_n hx hb dX2_addWord_7 rfl (lv_at hl 1 rfl) ?_
  refine r_get (v := .int 10) C hP 0 rfl fg_X2_9 rfl dX2_addWord_8 ?_
  refine lv_sipush (v := 600) hx hb dX2_addWord_11 (by decide) ?_
  refine lv_icmp_ge (tgt := 43) hx hb dX2_addWord_14 (by decide) (fun h => absurd h (by decide)) (fun _ => ?_)
  refine lv_aload_n hx hb dX2_addWord_17 rfl (lv_at hl 1 rfl) ?_
  refine r_get (v := .ref byt) C hP 0 rfl fg_X2_30 rfl dX2_addWord_18 ?_
  refine lv_aload_n hx hb dX2_addWord_21 rfl (lv_at hl 1 rfl) ?_
  refine r_get (v := .int 10) C hP 0 rfl fg_X2_9 rfl dX2_addWord_22 ?_
  refine lv_iload_n hx hb dX2_addWord_25 rfl (lv_at hl 2 rfl) ?_
  refine lv_iload_n hx hb dX2_addWord_26 rfl (lv_at hl 0 rfl) ?_
  refine lv_iushr hx hb dX2_addWord_27 rfl ?_
  refine lv_topi (fun x7 ex7 => ?_)
  refine lv_sipush (v := 255) hx hb dX2_addWord_28 (by decide) ?_
  refine lv_iand hx hb dX2_addWord_31 ?_
  refine lv_topi (fun x8 ex8 => ?_)
  refine va_iast hx hb C.2.2.2.2.2.1 hP hD hS 1 0 rfl rfl (by unfold vp_in; decide) dX2_addWord_32 (fun H locs hP hD hS => ?_)
  obtain ⟨f9, ef9⟩ : ∃ z : Nat → Int32, z = upd f6 (10 : Int32).toNatClampNeg x8 := ⟨_, rfl⟩
  have hP : va_P D CL [(inp, .inr (2, [.int 10, .int 0, .int 0, .int 0, .int 0, .int 0, .ref byt])), (byt, .inl (cI, 600, .inl f9))] H := by rw [ef9]; exact hP
  have hD : va_D A [(inp, .inr (2, [.int 10, .int 0, .int 0, .int 0, .int 0, .int 0, .ref byt])), (byt, .inl (cI, 600, .inl f9))] := by rw [ef9]; exact hD
  refine lv_aload_n hx hb dX2_addWord_33 rfl (lv_at hl 1 rfl) ?_
  refine lv_dup hx hb dX2_addWord_34 rfl ?_
  refine r_get (v := .int 10) C hP 0 rfl fg_X2_9 rfl dX2_addWord_35 ?_
  refine lv_iconst (v := 1) hx hb dX2_addWord_38 (by decide) ?_
  refine lv_iadd hx hb dX2_addWord_39 ?_
  refine W.eq (g2 := F0 m 40 ls [.int 11, .ref inp]) rfl ?_
  refine r_put C hP hD hS 0 rfl fg_X2_9 rfl rfl (Nat.le_of_ble_eq_true rfl) dX2_addWord_40 [(inp, .inr (2, [.int 11, .int 0, .int 0, .int 0, .int 0, .int 0, .ref byt])), (byt, .inl (cI, 600, .inl f9))] rfl (fun H locs hP hD hS => ?_)
  refine lv_iinc (v := 0) (lv' := [(2, .int 0), (0, .ref inp), (1, .int w0)]) hx hb dX2_addWord_43 hl (k := 0) rfl (by decide) (by decide) rfl (fun ls hl => ?_)
  refine lv_goto (tgt := 3) hx hb dX2_addWord_46 (by decide) ?_
  refine lv_iload_n hx hb dX2_addWord_3 rfl (lv_at hl 0 rfl) ?_
  refine lv_if_lt (tgt := 49) hx hb dX2_addWord_4 (by decide) (fun h => absurd h (by decide)) (fun _ => ?_)
  refine lv_aload_n hx hb dX2_addWord_7 rfl (lv_at hl 1 rfl) ?_
  refine r_get (v := .int 11) C hP 0 rfl fg_X2_9 rfl dX2_addWord_8 ?_
  refine lv_sipush (v := 600) hx hb dX2_addWord_11 (by decide) ?_
  refine lv_icmp_ge (tgt := 43) hx hb dX2_addWord_14 (by decide) (fun h => absurd h (by decide)) (fun _ => ?_)
  refine lv_aload_n hx hb dX2_addWord_17 rfl (lv_at hl 1 rfl) ?_
  refine r_get (v := .ref byt) C hP 0 rfl fg_X2_30 rfl dX2_addWord_18 ?_
  refine lv_aload_n hx hb dX2_addWord_21 rfl (lv_at hl 1 rfl) ?_
  refine r_get (v := .int 11) C hP 0 rfl fg_X2_9 rfl dX2_addWord_22 ?_
  refine lv_iload_n hx hb dX2_addWord_25 rfl (lv_at hl 2 rfl) ?_
  refine lv_iload_n hx hb dX2_addWord_26 rfl (lv_at hl 0 rfl) ?_
  refine lv_iushr hx hb dX2_addWord_27 rfl ?_
  refine lv_topi (fun x10 ex10 => ?_)
  refine lv_sipush (v := 255) hx hb dX2_addWord_28 (by decide) ?_
  refine lv_iand hx hb dX2_addWord_31 ?_
  refine lv_topi (fun x11 ex11 => ?_)
  refine va_iast hx hb C.2.2.2.2.2.1 hP hD hS 1 0 rfl rfl (by unfold vp_in; decide) dX2_addWord_32 (fun H locs hP hD hS => ?_)
  obtain ⟨f12, ef12⟩ : ∃ z : Nat → Int32, z = upd f9 (11 : Int32).toNatClampNeg x11 := ⟨_, rfl⟩
  have hP : va_P D CL [(inp, .inr (2, [.int 11, .int 0, .int 0, .int 0, .int 0, .int 0, .ref byt])), (byt, .inl (cI, 600, .inl f12))] H := by rw [ef12]; exact hP
  have hD : va_D A [(inp, .inr (2, [.int 11, .int 0, .int 0, .int 0, .int 0, .int 0, .ref byt])), (byt, .inl (cI, 600, .inl f12))] := by rw [ef12]; exact hD
  refine lv_aload_n hx hb dX2_addWord_33 rfl (lv_at hl 1 rfl) ?_
  refine lv_dup hx hb dX2_addWord_34 rfl ?_
  refine r_get (v := .int 11) C hP 0 rfl fg_X2_9 rfl dX2_addWord_35 ?_
  refine lv_iconst (v := 1) hx hb dX2_addWord_38 (by decide) ?_
  refine lv_iadd hx hb dX2_addWord_39 ?_
  refine W.eq (g2 := F0 m 40 ls [.int 12, .ref inp]) rfl ?_
  refine r_put C hP hD hS 0 rfl fg_X2_9 rfl rfl (Nat.le_of_ble_eq_true rfl) dX2_addWord_40 [(inp, .inr (2, [.int 12, .int 0, .int 0, .int 0, .int 0, .int 0, .ref byt])), (byt, .inl (cI, 600, .inl f12))] rfl (fun H locs hP hD hS => ?_)
  refine lv_iinc (v := (-8)) (lv' := [(2, .int (-8)), (0, .ref inp), (1, .int w0)]) hx hb dX2_addWord_43 hl (k := 0) rfl (by decide) (by decide) rfl (fun ls hl => ?_)
  refine lv_goto (tgt := 3) hx hb dX2_addWord_46 (by decide) ?_
  refine lv_iload_n hx hb dX2_addWord_3 rfl (lv_at hl 0 rfl) ?_
  refine lv_if_lt (tgt := 49) hx hb dX2_addWord_4 (by decide) (fun _ => ?_) (fun h => absurd (by decide) h)
  exact r_vret C hP hD hS f12 rfl (Nat.le_of_ble_eq_true rfl) (Nat.le_of_ble_eq_true rfl) dX2_addWord_49
set_option maxHeartbeats 4000000 in
set_option maxRecDepth 100000 in
theorem k_add_12 (l : Launch) (D : va_G) (cI cZ cJ : ClassId) (inp : Nat) (byt : Nat) (w0 : Int32) (f0 : Nat → Int32)  : cM l yX2_addWord cX2_addWord 3 none D (TT cI cZ cJ) [.ref inp, .int w0] [(inp, .inr (2, [.int 12, .int 0, .int 0, .int 0, .int 0, .int 0, .ref byt])), (byt, .inl (cI, 600, .inl f0))] (qV D (TT cI cZ cJ) (fun u : Nat → Int32 => [(inp, .inr (2, [.int 16, .int 0, .int 0, .int 0, .int 0, .int 0, .ref byt])), (byt, .inl (cI, 600, .inl u))])) 0 0 0 := by
  refine enterM (by decide) (Nat.le_of_ble_eq_true rfl) ?_
  intro p e s m below meth c ls A C hP hD hS hl
  have hx := C.1
  have hb := C.2.1
  have hl : lv_has ls 3 [(0, .ref inp), (1, .int w0)] := hl
  refine lv_bipush (v := 24) hx hb dX2_addWord_0 (by decide) ?_
  refine lv_istore_n (lv' := [(2, .int 24), (0, .ref inp), (1, .int w0)]) hx hb dX2_addWord_2 rfl hl (by decide) rfl (fun ls hl => ?_)
  refine lv_iload_n hx hb dX2_addWord_3 rfl (lv_at hl 0 rfl) ?_
  refine lv_if_lt (tgt := 49) hx hb dX2_addWord_4 (by decide) (fun h => absurd h (by decide)) (fun _ => ?_)
  refine lv_aload_n hx hb dX2_addWord_7 rfl (lv_at hl 1 rfl) ?_
  refine r_get (v := .int 12) C hP 0 rfl fg_X2_9 rfl dX2_addWord_8 ?_
  refine lv_sipush (v := 600) hx hb dX2_addWord_11 (by decide) ?_
  refine lv_icmp_ge (tgt := 43) hx hb dX2_addWord_14 (by decide) (fun h => absurd h (by decide)) (fun _ => ?_)
  refine lv_aload_n hx hb dX2_addWord_17 rfl (lv_at hl 1 rfl) ?_
  refine r_get (v := .ref byt) C hP 0 rfl fg_X2_30 rfl dX2_addWord_18 ?_
  refine lv_aload_n hx hb dX2_addWord_21 rfl (lv_at hl 1 rfl) ?_
  refine r_get (v := .int 12) C hP 0 rfl fg_X2_9 rfl dX2_addWord_22 ?_
  refine lv_iload_n hx hb dX2_addWord_25 rfl (lv_at hl 2 rfl) ?_
  refine lv_iload_n hx hb dX2_addWord_26 rfl (lv_at hl 0 rfl) ?_
  refine lv_iushr hx hb dX2_addWord_27 rfl ?_
  refine lv_topi (fun x1 ex1 => ?_)
  refine lv_sipush (v := 255) hx hb dX2_addWord_28 (by decide) ?_
  refine lv_iand hx hb dX2_addWord_31 ?_
  refine lv_topi (fun x2 ex2 => ?_)
  refine va_iast hx hb C.2.2.2.2.2.1 hP hD hS 1 0 rfl rfl (by unfold vp_in; decide) dX2_addWord_32 (fun H locs hP hD hS => ?_)
  obtain ⟨f3, ef3⟩ : ∃ z : Nat → Int32, z = upd f0 (12 : Int32).toNatClampNeg x2 := ⟨_, rfl⟩
  have hP : va_P D CL [(inp, .inr (2, [.int 12, .int 0, .int 0, .int 0, .int 0, .int 0, .ref byt])), (byt, .inl (cI, 600, .inl f3))] H := by rw [ef3]; exact hP
  have hD : va_D A [(inp, .inr (2, [.int 12, .int 0, .int 0, .int 0, .int 0, .int 0, .ref byt])), (byt, .inl (cI, 600, .inl f3))] := by rw [ef3]; exact hD
  refine lv_aload_n hx hb dX2_addWord_33 rfl (lv_at hl 1 rfl) ?_
  refine lv_dup hx hb dX2_addWord_34 rfl ?_
  refine r_get (v := .int 12) C hP 0 rfl fg_X2_9 rfl dX2_addWord_35 ?_
  refine lv_iconst (v := 1) hx hb dX2_addWord_38 (by decide) ?_
  refine lv_iadd hx hb dX2_addWord_39 ?_
  refine W.eq (g2 := F0 m 40 ls [.int 13, .ref inp]) rfl ?_
  refine r_put C hP hD hS 0 rfl fg_X2_9 rfl rfl (Nat.le_of_ble_eq_true rfl) dX2_addWord_40 [(inp, .inr (2, [.int 13, .int 0, .int 0, .int 0, .int 0, .int 0, .ref byt])), (byt, .inl (cI, 600, .inl f3))] rfl (fun H locs hP hD hS => ?_)
  refine lv_iinc (v := 16) (lv' := [(2, .int 16), (0, .ref inp), (1, .int w0)]) hx hb dX2_addWord_43 hl (k := 0) rfl (by decide) (by decide) rfl (fun ls hl => ?_)
  refine lv_goto (tgt := 3) hx hb dX2_addWord_46 (by decide) ?_
  refine lv_iload_n hx hb dX2_addWord_3 rfl (lv_at hl 0 rfl) ?_
  refine lv_if_lt (tgt := 49) hx hb dX2_addWord_4 (by decide) (fun h => absurd h (by decide)) (fun _ => ?_)
  refine lv_aload_n hx hb dX2_addWord_7 rfl (lv_at hl 1 rfl) ?_
  refine r_get (v := .int 13) C hP 0 rfl fg_X2_9 rfl dX2_addWord_8 ?_
  refine lv_sipush (v := 600) hx hb dX2_addWord_11 (by decide) ?_
  refine lv_icmp_ge (tgt := 43) hx hb dX2_addWord_14 (by decide) (fun h => absurd h (by decide)) (fun _ => ?_)
  refine lv_aload_n hx hb dX2_addWord_17 rfl (lv_at hl 1 rfl) ?_
  refine r_get (v := .ref byt) C hP 0 rfl fg_X2_30 rfl dX2_addWord_18 ?_
  refine lv_aload_n hx hb dX2_addWord_21 rfl (lv_at hl 1 rfl) ?_
  refine r_get (v := .int 13) C hP 0 rfl fg_X2_9 rfl dX2_addWord_22 ?_
  refine lv_iload_n hx hb dX2_addWord_25 rfl (lv_at hl 2 rfl) ?_
  refine lv_iload_n hx hb dX2_addWord_26 rfl (lv_at hl 0 rfl) ?_
  refine lv_iushr hx hb dX2_addWord_27 rfl ?_
  refine lv_topi (fun x4 ex4 => ?_)
  refine lv_sipush (v := 255) hx hb dX2_addWord_28 (by decide) ?_
  refine lv_iand hx hb dX2_addWord_31 ?_
  refine lv_topi (fun x5 ex5 => ?_)
  refine va_iast hx hb C.2.2.2.2.2.1 hP hD hS 1 0 rfl rfl (by unfold vp_in; decide) dX2_addWord_32 (fun H locs hP hD hS => ?_)
  obtain ⟨f6, ef6⟩ : ∃ z : Nat → Int32, z = upd f3 (13 : Int32).toNatClampNeg x5 := ⟨_, rfl⟩
  have hP : va_P D CL [(inp, .inr (2, [.int 13, .int 0, .int 0, .int 0, .int 0, .int 0, .ref byt])), (byt, .inl (cI, 600, .inl f6))] H := by rw [ef6]; exact hP
  have hD : va_D A [(inp, .inr (2, [.int 13, .int 0, .int 0, .int 0, .int 0, .int 0, .ref byt])), (byt, .inl (cI, 600, .inl f6))] := by rw [ef6]; exact hD
  refine lv_aload_n hx hb dX2_addWord_33 rfl (lv_at hl 1 rfl) ?_
  refine lv_dup hx hb dX2_addWord_34 rfl ?_
  refine r_get (v := .int 13) C hP 0 rfl fg_X2_9 rfl dX2_addWord_35 ?_
  refine lv_iconst (v := 1) hx hb dX2_addWord_38 (by decide) ?_
  refine lv_iadd hx hb dX2_addWord_39 ?_
  refine W.eq (g2 := F0 m 40 ls [.int 14, .ref inp]) rfl ?_
  refine r_put C hP hD hS 0 rfl fg_X2_9 rfl rfl (Nat.le_of_ble_eq_true rfl) dX2_addWord_40 [(inp, .inr (2, [.int 14, .int 0, .int 0, .int 0, .int 0, .int 0, .ref byt])), (byt, .inl (cI, 600, .inl f6))] rfl (fun H locs hP hD hS => ?_)
  refine lv_iinc (v := 8) (lv' := [(2, .int 8), (0, .ref inp), (1, .int w0)]) hx hb dX2_addWord_43 hl (k := 0) rfl (by decide) (by decide) rfl (fun ls hl => ?_)
  refine lv_goto (tgt := 3) hx hb dX2_addWord_46 (by decide) ?_
  refine lv_iload_n hx hb dX2_addWord_3 rfl (lv_at hl 0 rfl) ?_
  refine lv_if_lt (tgt := 49) hx hb dX2_addWord_4 (by decide) (fun h => absurd h (by decide)) (fun _ => ?_)
  refine lv_aload_n hx hb dX2_addWord_7 rfl (lv_at hl 1 rfl) ?_
  refine r_get (v := .int 14) C hP 0 rfl fg_X2_9 rfl dX2_addWord_8 ?_
  refine lv_sipush (v := 600) hx hb dX2_addWord_11 (by decide) ?_
  refine lv_icmp_ge (tgt := 43) hx hb dX2_addWord_14 (by decide) (fun h => absurd h (by decide)) (fun _ => ?_)
  refine lv_aload_n hx hb dX2_addWord_17 rfl (lv_at hl 1 rfl) ?_
  refine r_get (v := .ref byt) C hP 0 rfl fg_X2_30 rfl dX2_addWord_18 ?_
  refine lv_aload_n hx hb dX2_addWord_21 rfl (lv_at hl 1 rfl) ?_
  refine r_get (v := .int 14) C hP 0 rfl fg_X2_9 rfl dX2_addWord_22 ?_
  refine lv_iload_n hx hb dX2_addWord_25 rfl (lv_at hl 2 rfl) ?_
  refine lv_iload_n hx hb dX2_addWord_26 rfl (lv_at hl 0 rfl) ?_
  refine lv_iushr hx hb dX2_addWord_27 rfl ?_
  refine lv_topi (fun x7 ex7 => ?_)
  refine lv_sipush (v := 255) hx hb dX2_addWord_28 (by decide) ?_
  refine lv_iand hx hb dX2_addWord_31 ?_
  refine lv_topi (fun x8 ex8 => ?_)
  refine va_iast hx hb C.2.2.2.2.2.1 hP hD hS 1 0 rfl rfl (by unfold vp_in; decide) dX2_addWord_32 (fun H locs hP hD hS => ?_)
  obtain ⟨f9, ef9⟩ : ∃ z : Nat → Int32, z = upd f6 (14 : Int32).toNatClampNeg x8 := ⟨_, rfl⟩
  have hP : va_P D CL [(inp, .inr (2, [.int 14, .int 0, .int 0, .int 0, .int 0, .int 0, .ref byt])), (byt, .inl (cI, 600, .inl f9))] H := by rw [ef9]; exact hP
  have hD : va_D A [(inp, .inr (2, [.int 14, .int 0, .int 0, .int 0, .int 0, .int 0, .ref byt])), (byt, .inl (cI, 600, .inl f9))] := by rw [ef9]; exact hD
  refine lv_aload_n hx hb dX2_addWord_33 rfl (lv_at hl 1 rfl) ?_
  refine lv_dup hx hb dX2_addWord_34 rfl ?_
  refine r_get (v := .int 14) C hP 0 rfl fg_X2_9 rfl dX2_addWord_35 ?_
  refine lv_iconst (v := 1) hx hb dX2_addWord_38 (by decide) ?_
  refine lv_iadd hx hb dX2_addWord_39 ?_
  refine W.eq (g2 := F0 m 40 ls [.int 15, .ref inp]) rfl ?_
  refine r_put C hP hD hS 0 rfl fg_X2_9 rfl rfl (Nat.le_of_ble_eq_true rfl) dX2_addWord_40 [(inp, .inr (2, [.int 15, .int 0, .int 0, .int 0, .int 0, .int 0, .ref byt])), (byt, .inl (cI, 600, .inl f9))] rfl (fun H locs hP hD hS => ?_)
  refine lv_iinc (v := 0) (lv' := [(2, .int 0), (0, .ref inp), (1, .int w0)]) hx hb dX2_addWord_43 hl (k := 0) rfl (by decide) (by decide) rfl (fun ls hl => ?_)
  refine lv_goto (tgt := 3) hx hb dX2_addWord_46 (by decide) ?_
  refine lv_iload_n hx hb dX2_addWord_3 rfl (lv_at hl 0 rfl) ?_
  refine lv_if_lt (tgt := 49) hx hb dX2_addWord_4 (by decide) (fun h => absurd h (by decide)) (fun _ => ?_)
  refine lv_aload_n hx hb dX2_addWord_7 rfl (lv_at hl 1 rfl) ?_
  refine r_get (v := .int 15) C hP 0 rfl fg_X2_9 rfl dX2_addWord_8 ?_
  refine lv_sipush (v := 600) hx hb dX2_addWord_11 (by decide) ?_
  refine lv_icmp_ge (tgt := 43) hx hb dX2_addWord_14 (by decide) (fun h => absurd h (by decide)) (fun _ => ?_)
  refine lv_aload_n hx hb dX2_addWord_17 rfl (lv_at hl 1 rfl) ?_
  refine r_get (v := .ref byt) C hP 0 rfl fg_X2_30 rfl dX2_addWord_18 ?_
  refine lv_aload_n hx hb dX2_addWord_21 rfl (lv_at hl 1 rfl) ?_
  refine r_get (v := .int 15) C hP 0 rfl fg_X2_9 rfl dX2_addWord_22 ?_
  refine lv_iload_n hx hb dX2_addWord_25 rfl (lv_at hl 2 rfl) ?_
  refine lv_iload_n hx hb dX2_addWord_26 rfl (lv_at hl 0 rfl) ?_
  refine lv_iushr hx hb dX2_addWord_27 rfl ?_
  refine lv_topi (fun x10 ex10 => ?_)
  refine lv_sipush (v := 255) hx hb dX2_addWord_28 (by decide) ?_
  refine lv_iand hx hb dX2_addWord_31 ?_
  refine lv_topi (fun x11 ex11 => ?_)
  refine va_iast hx hb C.2.2.2.2.2.1 hP hD hS 1 0 rfl rfl (by unfold vp_in; decide) dX2_addWord_32 (fun H locs hP hD hS => ?_)
  obtain ⟨f12, ef12⟩ : ∃ z : Nat → Int32, z = upd f9 (15 : Int32).toNatClampNeg x11 := ⟨_, rfl⟩
  have hP : va_P D CL [(inp, .inr (2, [.int 15, .int 0, .int 0, .int 0, .int 0, .int 0, .ref byt])), (byt, .inl (cI, 600, .inl f12))] H := by rw [ef12]; exact hP
  have hD : va_D A [(inp, .inr (2, [.int 15, .int 0, .int 0, .int 0, .int 0, .int 0, .ref byt])), (byt, .inl (cI, 600, .inl f12))] := by rw [ef12]; exact hD
  refine lv_aload_n hx hb dX2_addWord_33 rfl (lv_at hl 1 rfl) ?_
  refine lv_dup hx hb dX2_addWord_34 rfl ?_
  refine r_get (v := .int 15) C hP 0 rfl fg_X2_9 rfl dX2_addWord_35 ?_
  refine lv_iconst (v := 1) hx hb dX2_addWord_38 (by decide) ?_
  refine lv_iadd hx hb dX2_addWord_39 ?_
  refine W.eq (g2 := F0 m 40 ls [.int 16, .ref inp]) rfl ?_
  refine r_put C hP hD hS 0 rfl fg_X2_9 rfl rfl (Nat.le_of_ble_eq_true rfl) dX2_addWord_40 [(inp, .inr (2, [.int 16, .int 0, .int 0, .int 0, .int 0, .int 0, .ref byt])), (byt, .inl (cI, 600, .inl f12))] rfl (fun H locs hP hD hS => ?_)
  refine lv_iinc (v := (-8)) (lv' := [(2, .int (-8)), (0, .ref inp), (1, .int w0)]) hx hb dX2_addWord_43 hl (k := 0) rfl (by decide) (by decide) rfl (fun ls hl => ?_)
  refine lv_goto (tgt := 3) hx hb dX2_addWord_46 (by decide) ?_
  refine lv_iload_n hx hb dX2_addWord_3 rfl (lv_at hl 0 rfl) ?_
  refine lv_if_lt (tgt := 49) hx hb dX2_addWord_4 (by decide) (fun _ => ?_) (fun h => absurd (by decide) h)
  exact r_vret C hP hD hS f12 rfl (Nat.le_of_ble_eq_true rfl) (Nat.le_of_ble_eq_true rfl) dX2_addWord_49
set_option maxHeartbeats 4000000 in
set_option maxRecDepth 100000 in
theorem k_add_16 (l : Launch) (D : va_G) (cI cZ cJ : ClassId) (inp : Nat) (byt : Nat) (w0 : Int32) (f0 : Nat → Int32)  : cM l yX2_addWord cX2_addWord 3 none D (TT cI cZ cJ) [.ref inp, .int w0] [(inp, .inr (2, [.int 16, .int 0, .int 0, .int 0, .int 0, .int 0, .ref byt])), (byt, .inl (cI, 600, .inl f0))] (qV D (TT cI cZ cJ) (fun u : Nat → Int32 => [(inp, .inr (2, [.int 20, .int 0, .int 0, .int 0, .int 0, .int 0, .ref byt])), (byt, .inl (cI, 600, .inl u))])) 0 0 0 := by
  refine enterM (by decide) (Nat.le_of_ble_eq_true rfl) ?_
  intro p e s m below meth c ls A C hP hD hS hl
  have hx := C.1
  have hb := C.2.1
  have hl : lv_has ls 3 [(0, .ref inp), (1, .int w0)] := hl
  refine lv_bipush (v := 24) hx hb dX2_addWord_0 (by decide) ?_
  refine lv_istore_n (lv' := [(2, .int 24), (0, .ref inp), (1, .int w0)]) hx hb dX2_addWord_2 rfl hl (by decide) rfl (fun ls hl => ?_)
  refine lv_iload_n hx hb dX2_addWord_3 rfl (lv_at hl 0 rfl) ?_
  refine lv_if_lt (tgt := 49) hx hb dX2_addWord_4 (by decide) (fun h => absurd h (by decide)) (fun _ => ?_)
  refine lv_aload_n hx hb dX2_addWord_7 rfl (lv_at hl 1 rfl) ?_
  refine r_get (v := .int 16) C hP 0 rfl fg_X2_9 rfl dX2_addWord_8 ?_
  refine lv_sipush (v := 600) hx hb dX2_addWord_11 (by decide) ?_
  refine lv_icmp_ge (tgt := 43) hx hb dX2_addWord_14 (by decide) (fun h => absurd h (by decide)) (fun _ => ?_)
  refine lv_aload_n hx hb dX2_addWord_17 rfl (lv_at hl 1 rfl) ?_
  refine r_get (v := .ref byt) C hP 0 rfl fg_X2_30 rfl dX2_addWord_18 ?_
  refine lv_aload_n hx hb dX2_addWord_21 rfl (lv_at hl 1 rfl) ?_
  refine r_get (v := .int 16) C hP 0 rfl fg_X2_9 rfl dX2_addWord_22 ?_
  refine lv_iload_n hx hb dX2_addWord_25 rfl (lv_at hl 2 rfl) ?_
  refine lv_iload_n hx hb dX2_addWord_26 rfl (lv_at hl 0 rfl) ?_
  refine lv_iushr hx hb dX2_addWord_27 rfl ?_
  refine lv_topi (fun x1 ex1 => ?_)
  refine lv_sipush (v := 255) hx hb dX2_addWord_28 (by decide) ?_
  refine lv_iand hx hb dX2_addWord_31 ?_
  refine lv_topi (fun x2 ex2 => ?_)
  refine va_iast hx hb C.2.2.2.2.2.1 hP hD hS 1 0 rfl rfl (by unfold vp_in; decide) dX2_addWord_32 (fun H locs hP hD hS => ?_)
  obtain ⟨f3, ef3⟩ : ∃ z : Nat → Int32, z = upd f0 (16 : Int32).toNatClampNeg x2 := ⟨_, rfl⟩
  have hP : va_P D CL [(inp, .inr (2, [.int 16, .int 0, .int 0, .int 0, .int 0, .int 0, .ref byt])), (byt, .inl (cI, 600, .inl f3))] H := by rw [ef3]; exact hP
  have hD : va_D A [(inp, .inr (2, [.int 16, .int 0, .int 0, .int 0, .int 0, .int 0, .ref byt])), (byt, .inl (cI, 600, .inl f3))] := by rw [ef3]; exact hD
  refine lv_aload_n hx hb dX2_addWord_33 rfl (lv_at hl 1 rfl) ?_
  refine lv_dup hx hb dX2_addWord_34 rfl ?_
  refine r_get (v := .int 16) C hP 0 rfl fg_X2_9 rfl dX2_addWord_35 ?_
  refine lv_iconst (v := 1) hx hb dX2_addWord_38 (by decide) ?_
  refine lv_iadd hx hb dX2_addWord_39 ?_
  refine W.eq (g2 := F0 m 40 ls [.int 17, .ref inp]) rfl ?_
  refine r_put C hP hD hS 0 rfl fg_X2_9 rfl rfl (Nat.le_of_ble_eq_true rfl) dX2_addWord_40 [(inp, .inr (2, [.int 17, .int 0, .int 0, .int 0, .int 0, .int 0, .ref byt])), (byt, .inl (cI, 600, .inl f3))] rfl (fun H locs hP hD hS => ?_)
  refine lv_iinc (v := 16) (lv' := [(2, .int 16), (0, .ref inp), (1, .int w0)]) hx hb dX2_addWord_43 hl (k := 0) rfl (by decide) (by decide) rfl (fun ls hl => ?_)
  refine lv_goto (tgt := 3) hx hb dX2_addWord_46 (by decide) ?_
  refine lv_iload_n hx hb dX2_addWord_3 rfl (lv_at hl 0 rfl) ?_
  refine lv_if_lt (tgt := 49) hx hb dX2_addWord_4 (by decide) (fun h => absurd h (by decide)) (fun _ => ?_)
  refine lv_aload_n hx hb dX2_addWord_7 rfl (lv_at hl 1 rfl) ?_
  refine r_get (v := .int 17) C hP 0 rfl fg_X2_9 rfl dX2_addWord_8 ?_
  refine lv_sipush (v := 600) hx hb dX2_addWord_11 (by decide) ?_
  refine lv_icmp_ge (tgt := 43) hx hb dX2_addWord_14 (by decide) (fun h => absurd h (by decide)) (fun _ => ?_)
  refine lv_aload_n hx hb dX2_addWord_17 rfl (lv_at hl 1 rfl) ?_
  refine r_get (v := .ref byt) C hP 0 rfl fg_X2_30 rfl dX2_addWord_18 ?_
  refine lv_aload_n hx hb dX2_addWord_21 rfl (lv_at hl 1 rfl) ?_
  refine r_get (v := .int 17) C hP 0 rfl fg_X2_9 rfl dX2_addWord_22 ?_
  refine lv_iload_n hx hb dX2_addWord_25 rfl (lv_at hl 2 rfl) ?_
  refine lv_iload_n hx hb dX2_addWord_26 rfl (lv_at hl 0 rfl) ?_
  refine lv_iushr hx hb dX2_addWord_27 rfl ?_
  refine lv_topi (fun x4 ex4 => ?_)
  refine lv_sipush (v := 255) hx hb dX2_addWord_28 (by decide) ?_
  refine lv_iand hx hb dX2_addWord_31 ?_
  refine lv_topi (fun x5 ex5 => ?_)
  refine va_iast hx hb C.2.2.2.2.2.1 hP hD hS 1 0 rfl rfl (by unfold vp_in; decide) dX2_addWord_32 (fun H locs hP hD hS => ?_)
  obtain ⟨f6, ef6⟩ : ∃ z : Nat → Int32, z = upd f3 (17 : Int32).toNatClampNeg x5 := ⟨_, rfl⟩
  have hP : va_P D CL [(inp, .inr (2, [.int 17, .int 0, .int 0, .int 0, .int 0, .int 0, .ref byt])), (byt, .inl (cI, 600, .inl f6))] H := by rw [ef6]; exact hP
  have hD : va_D A [(inp, .inr (2, [.int 17, .int 0, .int 0, .int 0, .int 0, .int 0, .ref byt])), (byt, .inl (cI, 600, .inl f6))] := by rw [ef6]; exact hD
  refine lv_aload_n hx hb dX2_addWord_33 rfl (lv_at hl 1 rfl) ?_
  refine lv_dup hx hb dX2_addWord_34 rfl ?_
  refine r_get (v := .int 17) C hP 0 rfl fg_X2_9 rfl dX2_addWord_35 ?_
  refine lv_iconst (v := 1) hx hb dX2_addWord_38 (by decide) ?_
  refine lv_iadd hx hb dX2_addWord_39 ?_
  refine W.eq (g2 := F0 m 40 ls [.int 18, .ref inp]) rfl ?_
  refine r_put C hP hD hS 0 rfl fg_X2_9 rfl rfl (Nat.le_of_ble_eq_true rfl) dX2_addWord_40 [(inp, .inr (2, [.int 18, .int 0, .int 0, .int 0, .int 0, .int 0, .ref byt])), (byt, .inl (cI, 600, .inl f6))] rfl (fun H locs hP hD hS => ?_)
  refine lv_iinc (v := 8) (lv' := [(2, .int 8), (0, .ref inp), (1, .int w0)]) hx hb dX2_addWord_43 hl (k := 0) rfl (by decide) (by decide) rfl (fun ls hl => ?_)
  refine lv_goto (tgt := 3) hx hb dX2_addWord_46 (by decide) ?_
  refine lv_iload_n hx hb dX2_addWord_3 rfl (lv_at hl 0 rfl) ?_
  refine lv_if_lt (tgt := 49) hx hb dX2_addWord_4 (by decide) (fun h => absurd h (by decide)) (fun _ => ?_)
  refine lv_aload_n hx hb dX2_addWord_7 rfl (lv_at hl 1 rfl) ?_
  refine r_get (v := .int 18) C hP 0 rfl fg_X2_9 rfl dX2_addWord_8 ?_
  refine lv_sipush (v := 600) hx hb dX2_addWord_11 (by decide) ?_
  refine lv_icmp_ge (tgt := 43) hx hb dX2_addWord_14 (by decide) (fun h => absurd h (by decide)) (fun _ => ?_)
  refine lv_aload_n hx hb dX2_addWord_17 rfl (lv_at hl 1 rfl) ?_
  refine r_get (v := .ref byt) C hP 0 rfl fg_X2_30 rfl dX2_addWord_18 ?_
  refine lv_aload_n hx hb dX2_addWord_21 rfl (lv_at hl 1 rfl) ?_
  refine r_get (v := .int 18) C hP 0 rfl fg_X2_9 rfl dX2_addWord_22 ?_
  refine lv_iload_n hx hb dX2_addWord_25 rfl (lv_at hl 2 rfl) ?_
  refine lv_iload_n hx hb dX2_addWord_26 rfl (lv_at hl 0 rfl) ?_
  refine lv_iushr hx hb dX2_addWord_27 rfl ?_
  refine lv_topi (fun x7 ex7 => ?_)
  refine lv_sipush (v := 255) hx hb dX2_addWord_28 (by decide) ?_
  refine lv_iand hx hb dX2_addWord_31 ?_
  refine lv_topi (fun x8 ex8 => ?_)
  refine va_iast hx hb C.2.2.2.2.2.1 hP hD hS 1 0 rfl rfl (by unfold vp_in; decide) dX2_addWord_32 (fun H locs hP hD hS => ?_)
  obtain ⟨f9, ef9⟩ : ∃ z : Nat → Int32, z = upd f6 (18 : Int32).toNatClampNeg x8 := ⟨_, rfl⟩
  have hP : va_P D CL [(inp, .inr (2, [.int 18, .int 0, .int 0, .int 0, .int 0, .int 0, .ref byt])), (byt, .inl (cI, 600, .inl f9))] H := by rw [ef9]; exact hP
  have hD : va_D A [(inp, .inr (2, [.int 18, .int 0, .int 0, .int 0, .int 0, .int 0, .ref byt])), (byt, .inl (cI, 600, .inl f9))] := by rw [ef9]; exact hD
  refine lv_aload_n hx hb dX2_addWord_33 rfl (lv_at hl 1 rfl) ?_
  refine lv_dup hx hb dX2_addWord_34 rfl ?_
  refine r_get (v := .int 18) C hP 0 rfl fg_X2_9 rfl dX2_addWord_35 ?_
  refine lv_iconst (v := 1) hx hb dX2_addWord_38 (by decide) ?_
  refine lv_iadd hx hb dX2_addWord_39 ?_
  refine W.eq (g2 := F0 m 40 ls [.int 19, .ref inp]) rfl ?_
  refine r_put C hP hD hS 0 rfl fg_X2_9 rfl rfl (Nat.le_of_ble_eq_true rfl) dX2_addWord_40 [(inp, .inr (2, [.int 19, .int 0, .int 0, .int 0, .int 0, .int 0, .ref byt])), (byt, .inl (cI, 600, .inl f9))] rfl (fun H locs hP hD hS => ?_)
  refine lv_iinc (v := 0) (lv' := [(2, .int 0), (0, .ref inp), (1, .int w0)]) hx hb dX2_addWord_43 hl (k := 0) rfl (by decide) (by decide) rfl (fun ls hl => ?_)
  refine lv_goto (tgt := 3) hx hb dX2_addWord_46 (by decide) ?_
  refine lv_iload_n hx hb dX2_addWord_3 rfl (lv_at hl 0 rfl) ?_
  refine lv_if_lt (tgt := 49) hx hb dX2_addWord_4 (by decide) (fun h => absurd h (by decide)) (fun _ => ?_)
  refine lv_aload_n hx hb dX2_addWord_7 rfl (lv_at hl 1 rfl) ?_
  refine r_get (v := .int 19) C hP 0 rfl fg_X2_9 rfl dX2_addWord_8 ?_
  refine lv_sipush (v := 600) hx hb dX2_addWord_11 (by decide) ?_
  refine lv_icmp_ge (tgt := 43) hx hb dX2_addWord_14 (by decide) (fun h => absurd h (by decide)) (fun _ => ?_)
  refine lv_aload_n hx hb dX2_addWord_17 rfl (lv_at hl 1 rfl) ?_
  refine r_get (v := .ref byt) C hP 0 rfl fg_X2_30 rfl dX2_addWord_18 ?_
  refine lv_aload_n hx hb dX2_addWord_21 rfl (lv_at hl 1 rfl) ?_
  refine r_get (v := .int 19) C hP 0 rfl fg_X2_9 rfl dX2_addWord_22 ?_
  refine lv_iload_n hx hb dX2_addWord_25 rfl (lv_at hl 2 rfl) ?_
  refine lv_iload_n hx hb dX2_addWord_26 rfl (lv_at hl 0 rfl) ?_
  refine lv_iushr hx hb dX2_addWord_27 rfl ?_
  refine lv_topi (fun x10 ex10 => ?_)
  refine lv_sipush (v := 255) hx hb dX2_addWord_28 (by decide) ?_
  refine lv_iand hx hb dX2_addWord_31 ?_
  refine lv_topi (fun x11 ex11 => ?_)
  refine va_iast hx hb C.2.2.2.2.2.1 hP hD hS 1 0 rfl rfl (by unfold vp_in; decide) dX2_addWord_32 (fun H locs hP hD hS => ?_)
  obtain ⟨f12, ef12⟩ : ∃ z : Nat → Int32, z = upd f9 (19 : Int32).toNatClampNeg x11 := ⟨_, rfl⟩
  have hP : va_P D CL [(inp, .inr (2, [.int 19, .int 0, .int 0, .int 0, .int 0, .int 0, .ref byt])), (byt, .inl (cI, 600, .inl f12))] H := by rw [ef12]; exact hP
  have hD : va_D A [(inp, .inr (2, [.int 19, .int 0, .int 0, .int 0, .int 0, .int 0, .ref byt])), (byt, .inl (cI, 600, .inl f12))] := by rw [ef12]; exact hD
  refine lv_aload_n hx hb dX2_addWord_33 rfl (lv_at hl 1 rfl) ?_
  refine lv_dup hx hb dX2_addWord_34 rfl ?_
  refine r_get (v := .int 19) C hP 0 rfl fg_X2_9 rfl dX2_addWord_35 ?_
  refine lv_iconst (v := 1) hx hb dX2_addWord_38 (by decide) ?_
  refine lv_iadd hx hb dX2_addWord_39 ?_
  refine W.eq (g2 := F0 m 40 ls [.int 20, .ref inp]) rfl ?_
  refine r_put C hP hD hS 0 rfl fg_X2_9 rfl rfl (Nat.le_of_ble_eq_true rfl) dX2_addWord_40 [(inp, .inr (2, [.int 20, .int 0, .int 0, .int 0, .int 0, .int 0, .ref byt])), (byt, .inl (cI, 600, .inl f12))] rfl (fun H locs hP hD hS => ?_)
  refine lv_iinc (v := (-8)) (lv' := [(2, .int (-8)), (0, .ref inp), (1, .int w0)]) hx hb dX2_addWord_43 hl (k := 0) rfl (by decide) (by decide) rfl (fun ls hl => ?_)
  refine lv_goto (tgt := 3) hx hb dX2_addWord_46 (by decide) ?_
  refine lv_iload_n hx hb dX2_addWord_3 rfl (lv_at hl 0 rfl) ?_
  refine lv_if_lt (tgt := 49) hx hb dX2_addWord_4 (by decide) (fun _ => ?_) (fun h => absurd (by decide) h)
  exact r_vret C hP hD hS f12 rfl (Nat.le_of_ble_eq_true rfl) (Nat.le_of_ble_eq_true rfl) dX2_addWord_49
set_option maxHeartbeats 4000000 in
set_option maxRecDepth 100000 in
theorem k_append (l : Launch) (D : va_G) (cI cZ cJ : ClassId) (x : Nat) (inp : Nat) (par : Nat) (pla : Nat) (dra : Nat) (lat : Nat) (his : Nat) (f1 : Nat) (f2 : Nat) (hd : Int32) (ec : Int32) (ea : Int32) (g : Nat → Value) (byt : Nat) (f0 : Nat → Int32) (a0 : Int32) (a1 : Int32) (a2 : Int32) (a3 : Int32) (a4 : Int32)  : cM l yX11_append cX11_append 6 (some .int) D (TT cI cZ cJ) [.ref x, .int a0, .int a1, .int a2, .int a3, .int a4] [(x, .inr (10, xC inp par pla dra lat his f1 f2 hd ec ea g)), (inp, .inr (2, [.int 0, .int 0, .int 0, .int 0, .int 0, .int 0, .ref byt])), (byt, .inl (cI, 600, .inl f0))] (qI D (TT cI cZ cJ) (fun u : Nat → Int32 => 20) (fun u : Nat → Int32 => [(x, .inr (10, xC inp par pla dra lat his f1 f2 hd ec ea g)), (inp, .inr (2, [.int 20, .int 0, .int 0, .int 0, .int 0, .int 0, .ref byt])), (byt, .inl (cI, 600, .inl u))])) 1 0 0 := by
  refine enterM (by decide) (Nat.le_of_ble_eq_true rfl) ?_
  intro p e s m below meth c ls A C hP hD hS hl
  have hx := C.1
  have hb := C.2.1
  have hl : lv_has ls 6 [(0, .ref x), (1, .int a0), (2, .int a1), (3, .int a2), (4, .int a3), (5, .int a4)] := hl
  refine lv_aload_n hx hb dX11_append_0 rfl (lv_at hl 0 rfl) ?_
  refine r_get (v := .ref inp) C hP 0 rfl fg_X11_12 rfl dX11_append_1 ?_
  refine r_get (v := .int 0) C hP 1 rfl fg_X11_116 rfl dX11_append_4 ?_
  refine lv_bipush (v := 20) hx hb dX11_append_7 (by decide) ?_
  refine lv_iadd hx hb dX11_append_9 ?_
  refine W.eq (g2 := F0 m 10 ls [.int 20]) rfl ?_
  refine lv_sipush (v := 600) hx hb dX11_append_10 (by decide) ?_
  refine lv_icmp_le (tgt := 18) hx hb dX11_append_13 (by decide) (fun _ => ?_) (fun h => absurd (by decide) h)
  refine lv_aload_n hx hb dX11_append_18 rfl (lv_at hl 0 rfl) ?_
  refine r_get (v := .ref inp) C hP 0 rfl fg_X11_12 rfl dX11_append_19 ?_
  refine lv_iload_n hx hb dX11_append_22 rfl (lv_at hl 1 rfl) ?_
  refine call_v (wr := [(x, .inr (10, xC inp par pla dra lat his f1 f2 hd ec ea g))]) C (run_V (As := [.int a0]) (rest := []) C (k_add_0 l D cI cZ cJ inp byt a0 f0 ) cV_X11_119 hP hD hS [1, 2] rfl rfl 0 rfl rfl rfl rfl hl.1 rfl (Nat.le_of_ble_eq_true rfl) dX11_append_23 ⟨Nat.le_of_ble_eq_true rfl, Nat.le_of_ble_eq_true rfl⟩ ⟨Nat.le_of_ble_eq_true rfl, Nat.le_of_ble_eq_true rfl⟩) hP hD hS [1, 2] [0] rfl rfl rfl (by decide) (fun u1 H locs hP hD hS => ?_)
  have hP : va_P D CL [(x, .inr (10, xC inp par pla dra lat his f1 f2 hd ec ea g)), (inp, .inr (2, [.int 4, .int 0, .int 0, .int 0, .int 0, .int 0, .ref byt])), (byt, .inl (cI, 600, .inl u1))] H := hP
  have hD : va_D A [(x, .inr (10, xC inp par pla dra lat his f1 f2 hd ec ea g)), (inp, .inr (2, [.int 4, .int 0, .int 0, .int 0, .int 0, .int 0, .ref byt])), (byt, .inl (cI, 600, .inl u1))] := hD
  refine W.widen (k := 0) (n := 0) (Nat.le_of_ble_eq_true rfl) (Nat.le_of_ble_eq_true rfl) ?_
  refine lv_aload_n hx hb dX11_append_26 rfl (lv_at hl 0 rfl) ?_
  refine r_get (v := .ref inp) C hP 0 rfl fg_X11_12 rfl dX11_append_27 ?_
  refine lv_iload_n hx hb dX11_append_30 rfl (lv_at hl 2 rfl) ?_
  refine call_v (wr := [(x, .inr (10, xC inp par pla dra lat his f1 f2 hd ec ea g))]) C (run_V (As := [.int a1]) (rest := []) C (k_add_4 l D cI cZ cJ inp byt a1 u1 ) cV_X11_119 hP hD hS [1, 2] rfl rfl 0 rfl rfl rfl rfl hl.1 rfl (Nat.le_of_ble_eq_true rfl) dX11_append_31 ⟨Nat.le_of_ble_eq_true rfl, Nat.le_of_ble_eq_true rfl⟩ ⟨Nat.le_of_ble_eq_true rfl, Nat.le_of_ble_eq_true rfl⟩) hP hD hS [1, 2] [0] rfl rfl rfl (by decide) (fun u2 H locs hP hD hS => ?_)
  have hP : va_P D CL [(x, .inr (10, xC inp par pla dra lat his f1 f2 hd ec ea g)), (inp, .inr (2, [.int 8, .int 0, .int 0, .int 0, .int 0, .int 0, .ref byt])), (byt, .inl (cI, 600, .inl u2))] H := hP
  have hD : va_D A [(x, .inr (10, xC inp par pla dra lat his f1 f2 hd ec ea g)), (inp, .inr (2, [.int 8, .int 0, .int 0, .int 0, .int 0, .int 0, .ref byt])), (byt, .inl (cI, 600, .inl u2))] := hD
  refine W.widen (k := 0) (n := 0) (Nat.le_of_ble_eq_true rfl) (Nat.le_of_ble_eq_true rfl) ?_
  refine lv_aload_n hx hb dX11_append_34 rfl (lv_at hl 0 rfl) ?_
  refine r_get (v := .ref inp) C hP 0 rfl fg_X11_12 rfl dX11_append_35 ?_
  refine lv_iload_n hx hb dX11_append_38 rfl (lv_at hl 3 rfl) ?_
  refine call_v (wr := [(x, .inr (10, xC inp par pla dra lat his f1 f2 hd ec ea g))]) C (run_V (As := [.int a2]) (rest := []) C (k_add_8 l D cI cZ cJ inp byt a2 u2 ) cV_X11_119 hP hD hS [1, 2] rfl rfl 0 rfl rfl rfl rfl hl.1 rfl (Nat.le_of_ble_eq_true rfl) dX11_append_39 ⟨Nat.le_of_ble_eq_true rfl, Nat.le_of_ble_eq_true rfl⟩ ⟨Nat.le_of_ble_eq_true rfl, Nat.le_of_ble_eq_true rfl⟩) hP hD hS [1, 2] [0] rfl rfl rfl (by decide) (fun u3 H locs hP hD hS => ?_)
  have hP : va_P D CL [(x, .inr (10, xC inp par pla dra lat his f1 f2 hd ec ea g)), (inp, .inr (2, [.int 12, .int 0, .int 0, .int 0, .int 0, .int 0, .ref byt])), (byt, .inl (cI, 600, .inl u3))] H := hP
  have hD : va_D A [(x, .inr (10, xC inp par pla dra lat his f1 f2 hd ec ea g)), (inp, .inr (2, [.int 12, .int 0, .int 0, .int 0, .int 0, .int 0, .ref byt])), (byt, .inl (cI, 600, .inl u3))] := hD
  refine W.widen (k := 0) (n := 0) (Nat.le_of_ble_eq_true rfl) (Nat.le_of_ble_eq_true rfl) ?_
  refine lv_aload_n hx hb dX11_append_42 rfl (lv_at hl 0 rfl) ?_
  refine r_get (v := .ref inp) C hP 0 rfl fg_X11_12 rfl dX11_append_43 ?_
  refine lv_iload hx hb dX11_append_46 (lv_at hl 4 rfl) ?_
  refine call_v (wr := [(x, .inr (10, xC inp par pla dra lat his f1 f2 hd ec ea g))]) C (run_V (As := [.int a3]) (rest := []) C (k_add_12 l D cI cZ cJ inp byt a3 u3 ) cV_X11_119 hP hD hS [1, 2] rfl rfl 0 rfl rfl rfl rfl hl.1 rfl (Nat.le_of_ble_eq_true rfl) dX11_append_48 ⟨Nat.le_of_ble_eq_true rfl, Nat.le_of_ble_eq_true rfl⟩ ⟨Nat.le_of_ble_eq_true rfl, Nat.le_of_ble_eq_true rfl⟩) hP hD hS [1, 2] [0] rfl rfl rfl (by decide) (fun u4 H locs hP hD hS => ?_)
  have hP : va_P D CL [(x, .inr (10, xC inp par pla dra lat his f1 f2 hd ec ea g)), (inp, .inr (2, [.int 16, .int 0, .int 0, .int 0, .int 0, .int 0, .ref byt])), (byt, .inl (cI, 600, .inl u4))] H := hP
  have hD : va_D A [(x, .inr (10, xC inp par pla dra lat his f1 f2 hd ec ea g)), (inp, .inr (2, [.int 16, .int 0, .int 0, .int 0, .int 0, .int 0, .ref byt])), (byt, .inl (cI, 600, .inl u4))] := hD
  refine W.widen (k := 0) (n := 0) (Nat.le_of_ble_eq_true rfl) (Nat.le_of_ble_eq_true rfl) ?_
  refine lv_aload_n hx hb dX11_append_51 rfl (lv_at hl 0 rfl) ?_
  refine r_get (v := .ref inp) C hP 0 rfl fg_X11_12 rfl dX11_append_52 ?_
  refine lv_iload hx hb dX11_append_55 (lv_at hl 5 rfl) ?_
  refine call_v (wr := [(x, .inr (10, xC inp par pla dra lat his f1 f2 hd ec ea g))]) C (run_V (As := [.int a4]) (rest := []) C (k_add_16 l D cI cZ cJ inp byt a4 u4 ) cV_X11_119 hP hD hS [1, 2] rfl rfl 0 rfl rfl rfl rfl hl.1 rfl (Nat.le_of_ble_eq_true rfl) dX11_append_57 ⟨Nat.le_of_ble_eq_true rfl, Nat.le_of_ble_eq_true rfl⟩ ⟨Nat.le_of_ble_eq_true rfl, Nat.le_of_ble_eq_true rfl⟩) hP hD hS [1, 2] [0] rfl rfl rfl (by decide) (fun u5 H locs hP hD hS => ?_)
  have hP : va_P D CL [(x, .inr (10, xC inp par pla dra lat his f1 f2 hd ec ea g)), (inp, .inr (2, [.int 20, .int 0, .int 0, .int 0, .int 0, .int 0, .ref byt])), (byt, .inl (cI, 600, .inl u5))] H := hP
  have hD : va_D A [(x, .inr (10, xC inp par pla dra lat his f1 f2 hd ec ea g)), (inp, .inr (2, [.int 20, .int 0, .int 0, .int 0, .int 0, .int 0, .ref byt])), (byt, .inl (cI, 600, .inl u5))] := hD
  refine W.widen (k := 0) (n := 0) (Nat.le_of_ble_eq_true rfl) (Nat.le_of_ble_eq_true rfl) ?_
  refine lv_aload_n hx hb dX11_append_60 rfl (lv_at hl 0 rfl) ?_
  refine r_get (v := .ref inp) C hP 0 rfl fg_X11_12 rfl dX11_append_61 ?_
  refine r_get (v := .int 20) C hP 1 rfl fg_X11_116 rfl dX11_append_64 ?_
  exact r_iret C hP hD hS u5 rfl rfl (Nat.le_of_ble_eq_true rfl) (Nat.le_of_ble_eq_true rfl) dX11_append_67
set_option maxHeartbeats 4000000 in
set_option maxRecDepth 100000 in
theorem m_append (l : Launch) (D : va_G) (cI cZ cJ : ClassId) (mo : Nat) (pe : Int32) (ep : Int32) (sz : Int32) (nx : Int32) (fr : Int32) (so : Int32) (wr : Int32) (wa : Int32) (as : Nat) (ak : Nat) (ab : Nat) (ar : Nat) (g : Nat → Value) (th : Int32) (f0 : Nat → Int32) (a0 : Int32) (a1 : Int32) (a2 : Int32) (a3 : Int32) (a4 : Int32)  : cM l yX12_append cX12_append 8 (some .int) D (TT cI cZ cJ) [.ref mo, .int a0, .int a1, .int a2, .int a3, .int a4] [(mo, .inr (11, mC th 0 pe ep sz nx fr so wr wa as ak ab ar g)), (ab, .inl (cI, 600, .inl f0))] (qI D (TT cI cZ cJ) (fun u : Nat → Int32 => 20) (fun u : Nat → Int32 => [(mo, .inr (11, mC 0 20 pe ep sz nx fr so wr wa as ak ab ar g)), (ab, .inl (cI, 600, .inl u))])) 0 0 0 := by
  refine enterM (by decide) (Nat.le_of_ble_eq_true rfl) ?_
  intro p e s m below meth c ls A C hP hD hS hl
  have hx := C.1
  have hb := C.2.1
  have hl : lv_has ls 8 [(0, .ref mo), (1, .int a0), (2, .int a1), (3, .int a2), (4, .int a3), (5, .int a4)] := hl
  refine lv_aload_n hx hb dX12_append_0 rfl (lv_at hl 0 rfl) ?_
  refine lv_iconst (v := 0) hx hb dX12_append_1 (by decide) ?_
  refine r_put C hP hD hS 0 rfl fg_X12_79 rfl rfl (Nat.le_of_ble_eq_true rfl) dX12_append_2 [(mo, .inr (11, mC 0 0 pe ep sz nx fr so wr wa as ak ab ar g)), (ab, .inl (cI, 600, .inl f0))] rfl (fun H locs hP hD hS => ?_)
  refine lv_aload_n hx hb dX12_append_5 rfl (lv_at hl 0 rfl) ?_
  refine r_get (v := .int 0) C hP 0 rfl fg_X12_90 rfl dX12_append_6 ?_
  refine lv_bipush (v := 20) hx hb dX12_append_9 (by decide) ?_
  refine lv_iadd hx hb dX12_append_11 ?_
  refine W.eq (g2 := F0 m 12 ls [.int 20]) rfl ?_
  refine lv_sipush (v := 600) hx hb dX12_append_12 (by decide) ?_
  refine lv_icmp_le (tgt := 20) hx hb dX12_append_15 (by decide) (fun _ => ?_) (fun h => absurd (by decide) h)
  refine lv_iconst (v := 0) hx hb dX12_append_20 (by decide) ?_
  refine lv_istore (lv' := [(6, .int 0), (0, .ref mo), (1, .int a0), (2, .int a1), (3, .int a2), (4, .int a3), (5, .int a4)]) hx hb dX12_append_21 hl (by decide) rfl (fun ls hl => ?_)
  refine lv_iload hx hb dX12_append_23 (lv_at hl 0 rfl) ?_
  refine lv_bipush (v := 20) hx hb dX12_append_25 (by decide) ?_
  refine lv_icmp_ge (tgt := 113) hx hb dX12_append_27 (by decide) (fun h => absurd h (by decide)) (fun _ => ?_)
  refine lv_iload hx hb dX12_append_30 (lv_at hl 0 rfl) ?_
  refine lv_iconst (v := 4) hx hb dX12_append_32 (by decide) ?_
  refine lv_icmp_ge (tgt := 40) hx hb dX12_append_33 (by decide) (fun h => absurd h (by decide)) (fun _ => ?_)
  refine lv_iload_n hx hb dX12_append_36 rfl (lv_at hl 2 rfl) ?_
  refine lv_goto (tgt := 76) hx hb dX12_append_37 (by decide) ?_
  refine lv_istore (lv' := [(7, .int a0), (6, .int 0), (0, .ref mo), (1, .int a0), (2, .int a1), (3, .int a2), (4, .int a3), (5, .int a4)]) hx hb dX12_append_76 hl (by decide) rfl (fun ls hl => ?_)
  refine lv_aload_n hx hb dX12_append_78 rfl (lv_at hl 2 rfl) ?_
  refine r_get (v := .ref ab) C hP 0 rfl fg_X12_20 rfl dX12_append_79 ?_
  refine lv_aload_n hx hb dX12_append_82 rfl (lv_at hl 2 rfl) ?_
  refine r_get (v := .int 0) C hP 0 rfl fg_X12_90 rfl dX12_append_83 ?_
  refine lv_iload hx hb dX12_append_86 (lv_at hl 1 rfl) ?_
  refine lv_iadd hx hb dX12_append_88 ?_
  refine W.eq (g2 := F0 m 89 ls [.int 0, .ref ab]) rfl ?_
  refine lv_iload hx hb dX12_append_89 (lv_at hl 0 rfl) ?_
  refine lv_bipush (v := 24) hx hb dX12_append_91 (by decide) ?_
  refine lv_bipush (v := 8) hx hb dX12_append_93 (by decide) ?_
  refine lv_iload hx hb dX12_append_95 (lv_at hl 1 rfl) ?_
  refine lv_iconst (v := 4) hx hb dX12_append_97 (by decide) ?_
  refine lv_irem hx hb dX12_append_98 (by decide) ?_
  refine W.eq (g2 := F0 m 99 ls [.int 0, .int 8, .int 24, .int a0, .int 0, .ref ab]) rfl ?_
  refine lv_imul hx hb dX12_append_99 ?_
  refine W.eq (g2 := F0 m 100 ls [.int 0, .int 24, .int a0, .int 0, .ref ab]) rfl ?_
  refine lv_isub hx hb dX12_append_100 ?_
  refine W.eq (g2 := F0 m 101 ls [.int 24, .int a0, .int 0, .ref ab]) rfl ?_
  refine lv_ishr hx hb dX12_append_101 ?_
  refine lv_topi (fun x1 ex1 => ?_)
  refine lv_sipush (v := 255) hx hb dX12_append_102 (by decide) ?_
  refine lv_iand hx hb dX12_append_105 ?_
  refine lv_topi (fun x2 ex2 => ?_)
  refine va_iast hx hb C.2.2.2.2.2.1 hP hD hS 1 0 rfl rfl (by unfold vp_in; decide) dX12_append_106 (fun H locs hP hD hS => ?_)
  obtain ⟨f3, ef3⟩ : ∃ z : Nat → Int32, z = upd f0 (0 : Int32).toNatClampNeg x2 := ⟨_, rfl⟩
  have hP : va_P D CL [(mo, .inr (11, mC 0 0 pe ep sz nx fr so wr wa as ak ab ar g)), (ab, .inl (cI, 600, .inl f3))] H := by rw [ef3]; exact hP
  have hD : va_D A [(mo, .inr (11, mC 0 0 pe ep sz nx fr so wr wa as ak ab ar g)), (ab, .inl (cI, 600, .inl f3))] := by rw [ef3]; exact hD
  refine lv_iinc (v := 1) (lv' := [(6, .int 1), (7, .int a0), (0, .ref mo), (1, .int a0), (2, .int a1), (3, .int a2), (4, .int a3), (5, .int a4)]) hx hb dX12_append_107 hl (k := 1) rfl (by decide) (by decide) rfl (fun ls hl => ?_)
  refine lv_goto (tgt := 23) hx hb dX12_append_110 (by decide) ?_
  refine lv_iload hx hb dX12_append_23 (lv_at hl 0 rfl) ?_
  refine lv_bipush (v := 20) hx hb dX12_append_25 (by decide) ?_
  refine lv_icmp_ge (tgt := 113) hx hb dX12_append_27 (by decide) (fun h => absurd h (by decide)) (fun _ => ?_)
  refine lv_iload hx hb dX12_append_30 (lv_at hl 0 rfl) ?_
  refine lv_iconst (v := 4) hx hb dX12_append_32 (by decide) ?_
  refine lv_icmp_ge (tgt := 40) hx hb dX12_append_33 (by decide) (fun h => absurd h (by decide)) (fun _ => ?_)
  refine lv_iload_n hx hb dX12_append_36 rfl (lv_at hl 3 rfl) ?_
  refine lv_goto (tgt := 76) hx hb dX12_append_37 (by decide) ?_
  refine lv_istore (lv' := [(7, .int a0), (6, .int 1), (0, .ref mo), (1, .int a0), (2, .int a1), (3, .int a2), (4, .int a3), (5, .int a4)]) hx hb dX12_append_76 hl (by decide) rfl (fun ls hl => ?_)
  refine lv_aload_n hx hb dX12_append_78 rfl (lv_at hl 2 rfl) ?_
  refine r_get (v := .ref ab) C hP 0 rfl fg_X12_20 rfl dX12_append_79 ?_
  refine lv_aload_n hx hb dX12_append_82 rfl (lv_at hl 2 rfl) ?_
  refine r_get (v := .int 0) C hP 0 rfl fg_X12_90 rfl dX12_append_83 ?_
  refine lv_iload hx hb dX12_append_86 (lv_at hl 1 rfl) ?_
  refine lv_iadd hx hb dX12_append_88 ?_
  refine W.eq (g2 := F0 m 89 ls [.int 1, .ref ab]) rfl ?_
  refine lv_iload hx hb dX12_append_89 (lv_at hl 0 rfl) ?_
  refine lv_bipush (v := 24) hx hb dX12_append_91 (by decide) ?_
  refine lv_bipush (v := 8) hx hb dX12_append_93 (by decide) ?_
  refine lv_iload hx hb dX12_append_95 (lv_at hl 1 rfl) ?_
  refine lv_iconst (v := 4) hx hb dX12_append_97 (by decide) ?_
  refine lv_irem hx hb dX12_append_98 (by decide) ?_
  refine W.eq (g2 := F0 m 99 ls [.int 1, .int 8, .int 24, .int a0, .int 1, .ref ab]) rfl ?_
  refine lv_imul hx hb dX12_append_99 ?_
  refine W.eq (g2 := F0 m 100 ls [.int 8, .int 24, .int a0, .int 1, .ref ab]) rfl ?_
  refine lv_isub hx hb dX12_append_100 ?_
  refine W.eq (g2 := F0 m 101 ls [.int 16, .int a0, .int 1, .ref ab]) rfl ?_
  refine lv_ishr hx hb dX12_append_101 ?_
  refine lv_topi (fun x4 ex4 => ?_)
  refine lv_sipush (v := 255) hx hb dX12_append_102 (by decide) ?_
  refine lv_iand hx hb dX12_append_105 ?_
  refine lv_topi (fun x5 ex5 => ?_)
  refine va_iast hx hb C.2.2.2.2.2.1 hP hD hS 1 0 rfl rfl (by unfold vp_in; decide) dX12_append_106 (fun H locs hP hD hS => ?_)
  obtain ⟨f6, ef6⟩ : ∃ z : Nat → Int32, z = upd f3 (1 : Int32).toNatClampNeg x5 := ⟨_, rfl⟩
  have hP : va_P D CL [(mo, .inr (11, mC 0 0 pe ep sz nx fr so wr wa as ak ab ar g)), (ab, .inl (cI, 600, .inl f6))] H := by rw [ef6]; exact hP
  have hD : va_D A [(mo, .inr (11, mC 0 0 pe ep sz nx fr so wr wa as ak ab ar g)), (ab, .inl (cI, 600, .inl f6))] := by rw [ef6]; exact hD
  refine lv_iinc (v := 2) (lv' := [(6, .int 2), (7, .int a0), (0, .ref mo), (1, .int a0), (2, .int a1), (3, .int a2), (4, .int a3), (5, .int a4)]) hx hb dX12_append_107 hl (k := 1) rfl (by decide) (by decide) rfl (fun ls hl => ?_)
  refine lv_goto (tgt := 23) hx hb dX12_append_110 (by decide) ?_
  refine lv_iload hx hb dX12_append_23 (lv_at hl 0 rfl) ?_
  refine lv_bipush (v := 20) hx hb dX12_append_25 (by decide) ?_
  refine lv_icmp_ge (tgt := 113) hx hb dX12_append_27 (by decide) (fun h => absurd h (by decide)) (fun _ => ?_)
  refine lv_iload hx hb dX12_append_30 (lv_at hl 0 rfl) ?_
  refine lv_iconst (v := 4) hx hb dX12_append_32 (by decide) ?_
  refine lv_icmp_ge (tgt := 40) hx hb dX12_append_33 (by decide) (fun h => absurd h (by decide)) (fun _ => ?_)
  refine lv_iload_n hx hb dX12_append_36 rfl (lv_at hl 3 rfl) ?_
  refine lv_goto (tgt := 76) hx hb dX12_append_37 (by decide) ?_
  refine lv_istore (lv' := [(7, .int a0), (6, .int 2), (0, .ref mo), (1, .int a0), (2, .int a1), (3, .int a2), (4, .int a3), (5, .int a4)]) hx hb dX12_append_76 hl (by decide) rfl (fun ls hl => ?_)
  refine lv_aload_n hx hb dX12_append_78 rfl (lv_at hl 2 rfl) ?_
  refine r_get (v := .ref ab) C hP 0 rfl fg_X12_20 rfl dX12_append_79 ?_
  refine lv_aload_n hx hb dX12_append_82 rfl (lv_at hl 2 rfl) ?_
  refine r_get (v := .int 0) C hP 0 rfl fg_X12_90 rfl dX12_append_83 ?_
  refine lv_iload hx hb dX12_append_86 (lv_at hl 1 rfl) ?_
  refine lv_iadd hx hb dX12_append_88 ?_
  refine W.eq (g2 := F0 m 89 ls [.int 2, .ref ab]) rfl ?_
  refine lv_iload hx hb dX12_append_89 (lv_at hl 0 rfl) ?_
  refine lv_bipush (v := 24) hx hb dX12_append_91 (by decide) ?_
  refine lv_bipush (v := 8) hx hb dX12_append_93 (by decide) ?_
  refine lv_iload hx hb dX12_append_95 (lv_at hl 1 rfl) ?_
  refine lv_iconst (v := 4) hx hb dX12_append_97 (by decide) ?_
  refine lv_irem hx hb dX12_append_98 (by decide) ?_
  refine W.eq (g2 := F0 m 99 ls [.int 2, .int 8, .int 24, .int a0, .int 2, .ref ab]) rfl ?_
  refine lv_imul hx hb dX12_append_99 ?_
  refine W.eq (g2 := F0 m 100 ls [.int 16, .int 24, .int a0, .int 2, .ref ab]) rfl ?_
  refine lv_isub hx hb dX12_append_100 ?_
  refine W.eq (g2 := F0 m 101 ls [.int 8, .int a0, .int 2, .ref ab]) rfl ?_
  refine lv_ishr hx hb dX12_append_101 ?_
  refine lv_topi (fun x7 ex7 => ?_)
  refine lv_sipush (v := 255) hx hb dX12_append_102 (by decide) ?_
  refine lv_iand hx hb dX12_append_105 ?_
  refine lv_topi (fun x8 ex8 => ?_)
  refine va_iast hx hb C.2.2.2.2.2.1 hP hD hS 1 0 rfl rfl (by unfold vp_in; decide) dX12_append_106 (fun H locs hP hD hS => ?_)
  obtain ⟨f9, ef9⟩ : ∃ z : Nat → Int32, z = upd f6 (2 : Int32).toNatClampNeg x8 := ⟨_, rfl⟩
  have hP : va_P D CL [(mo, .inr (11, mC 0 0 pe ep sz nx fr so wr wa as ak ab ar g)), (ab, .inl (cI, 600, .inl f9))] H := by rw [ef9]; exact hP
  have hD : va_D A [(mo, .inr (11, mC 0 0 pe ep sz nx fr so wr wa as ak ab ar g)), (ab, .inl (cI, 600, .inl f9))] := by rw [ef9]; exact hD
  refine lv_iinc (v := 3) (lv' := [(6, .int 3), (7, .int a0), (0, .ref mo), (1, .int a0), (2, .int a1), (3, .int a2), (4, .int a3), (5, .int a4)]) hx hb dX12_append_107 hl (k := 1) rfl (by decide) (by decide) rfl (fun ls hl => ?_)
  refine lv_goto (tgt := 23) hx hb dX12_append_110 (by decide) ?_
  refine lv_iload hx hb dX12_append_23 (lv_at hl 0 rfl) ?_
  refine lv_bipush (v := 20) hx hb dX12_append_25 (by decide) ?_
  refine lv_icmp_ge (tgt := 113) hx hb dX12_append_27 (by decide) (fun h => absurd h (by decide)) (fun _ => ?_)
  refine lv_iload hx hb dX12_append_30 (lv_at hl 0 rfl) ?_
  refine lv_iconst (v := 4) hx hb dX12_append_32 (by decide) ?_
  refine lv_icmp_ge (tgt := 40) hx hb dX12_append_33 (by decide) (fun h => absurd h (by decide)) (fun _ => ?_)
  refine lv_iload_n hx hb dX12_append_36 rfl (lv_at hl 3 rfl) ?_
  refine lv_goto (tgt := 76) hx hb dX12_append_37 (by decide) ?_
  refine lv_istore (lv' := [(7, .int a0), (6, .int 3), (0, .ref mo), (1, .int a0), (2, .int a1), (3, .int a2), (4, .int a3), (5, .int a4)]) hx hb dX12_append_76 hl (by decide) rfl (fun ls hl => ?_)
  refine lv_aload_n hx hb dX12_append_78 rfl (lv_at hl 2 rfl) ?_
  refine r_get (v := .ref ab) C hP 0 rfl fg_X12_20 rfl dX12_append_79 ?_
  refine lv_aload_n hx hb dX12_append_82 rfl (lv_at hl 2 rfl) ?_
  refine r_get (v := .int 0) C hP 0 rfl fg_X12_90 rfl dX12_append_83 ?_
  refine lv_iload hx hb dX12_append_86 (lv_at hl 1 rfl) ?_
  refine lv_iadd hx hb dX12_append_88 ?_
  refine W.eq (g2 := F0 m 89 ls [.int 3, .ref ab]) rfl ?_
  refine lv_iload hx hb dX12_append_89 (lv_at hl 0 rfl) ?_
  refine lv_bipush (v := 24) hx hb dX12_append_91 (by decide) ?_
  refine lv_bipush (v := 8) hx hb dX12_append_93 (by decide) ?_
  refine lv_iload hx hb dX12_append_95 (lv_at hl 1 rfl) ?_
  refine lv_iconst (v := 4) hx hb dX12_append_97 (by decide) ?_
  refine lv_irem hx hb dX12_append_98 (by decide) ?_
  refine W.eq (g2 := F0 m 99 ls [.int 3, .int 8, .int 24, .int a0, .int 3, .ref ab]) rfl ?_
  refine lv_imul hx hb dX12_append_99 ?_
  refine W.eq (g2 := F0 m 100 ls [.int 24, .int 24, .int a0, .int 3, .ref ab]) rfl ?_
  refine lv_isub hx hb dX12_append_100 ?_
  refine W.eq (g2 := F0 m 101 ls [.int 0, .int a0, .int 3, .ref ab]) rfl ?_
  refine lv_ishr hx hb dX12_append_101 ?_
  refine lv_topi (fun x10 ex10 => ?_)
  refine lv_sipush (v := 255) hx hb dX12_append_102 (by decide) ?_
  refine lv_iand hx hb dX12_append_105 ?_
  refine lv_topi (fun x11 ex11 => ?_)
  refine va_iast hx hb C.2.2.2.2.2.1 hP hD hS 1 0 rfl rfl (by unfold vp_in; decide) dX12_append_106 (fun H locs hP hD hS => ?_)
  obtain ⟨f12, ef12⟩ : ∃ z : Nat → Int32, z = upd f9 (3 : Int32).toNatClampNeg x11 := ⟨_, rfl⟩
  have hP : va_P D CL [(mo, .inr (11, mC 0 0 pe ep sz nx fr so wr wa as ak ab ar g)), (ab, .inl (cI, 600, .inl f12))] H := by rw [ef12]; exact hP
  have hD : va_D A [(mo, .inr (11, mC 0 0 pe ep sz nx fr so wr wa as ak ab ar g)), (ab, .inl (cI, 600, .inl f12))] := by rw [ef12]; exact hD
  refine lv_iinc (v := 4) (lv' := [(6, .int 4), (7, .int a0), (0, .ref mo), (1, .int a0), (2, .int a1), (3, .int a2), (4, .int a3), (5, .int a4)]) hx hb dX12_append_107 hl (k := 1) rfl (by decide) (by decide) rfl (fun ls hl => ?_)
  refine lv_goto (tgt := 23) hx hb dX12_append_110 (by decide) ?_
  refine lv_iload hx hb dX12_append_23 (lv_at hl 0 rfl) ?_
  refine lv_bipush (v := 20) hx hb dX12_append_25 (by decide) ?_
  refine lv_icmp_ge (tgt := 113) hx hb dX12_append_27 (by decide) (fun h => absurd h (by decide)) (fun _ => ?_)
  refine lv_iload hx hb dX12_append_30 (lv_at hl 0 rfl) ?_
  refine lv_iconst (v := 4) hx hb dX12_append_32 (by decide) ?_
  refine lv_icmp_ge (tgt := 40) hx hb dX12_append_33 (by decide) (fun _ => ?_) (fun h => absurd (by decide) h)
  refine lv_iload hx hb dX12_append_40 (lv_at hl 0 rfl) ?_
  refine lv_bipush (v := 8) hx hb dX12_append_42 (by decide) ?_
  refine lv_icmp_ge (tgt := 51) hx hb dX12_append_44 (by decide) (fun h => absurd h (by decide)) (fun _ => ?_)
  refine lv_iload_n hx hb dX12_append_47 rfl (lv_at hl 4 rfl) ?_
  refine lv_goto (tgt := 76) hx hb dX12_append_48 (by decide) ?_
  refine lv_istore (lv' := [(7, .int a1), (6, .int 4), (0, .ref mo), (1, .int a0), (2, .int a1), (3, .int a2), (4, .int a3), (5, .int a4)]) hx hb dX12_append_76 hl (by decide) rfl (fun ls hl => ?_)
  refine lv_aload_n hx hb dX12_append_78 rfl (lv_at hl 2 rfl) ?_
  refine r_get (v := .ref ab) C hP 0 rfl fg_X12_20 rfl dX12_append_79 ?_
  refine lv_aload_n hx hb dX12_append_82 rfl (lv_at hl 2 rfl) ?_
  refine r_get (v := .int 0) C hP 0 rfl fg_X12_90 rfl dX12_append_83 ?_
  refine lv_iload hx hb dX12_append_86 (lv_at hl 1 rfl) ?_
  refine lv_iadd hx hb dX12_append_88 ?_
  refine W.eq (g2 := F0 m 89 ls [.int 4, .ref ab]) rfl ?_
  refine lv_iload hx hb dX12_append_89 (lv_at hl 0 rfl) ?_
  refine lv_bipush (v := 24) hx hb dX12_append_91 (by decide) ?_
  refine lv_bipush (v := 8) hx hb dX12_append_93 (by decide) ?_
  refine lv_iload hx hb dX12_append_95 (lv_at hl 1 rfl) ?_
  refine lv_iconst (v := 4) hx hb dX12_append_97 (by decide) ?_
  refine lv_irem hx hb dX12_append_98 (by decide) ?_
  refine W.eq (g2 := F0 m 99 ls [.int 0, .int 8, .int 24, .int a1, .int 4, .ref ab]) rfl ?_
  refine lv_imul hx hb dX12_append_99 ?_
  refine W.eq (g2 := F0 m 100 ls [.int 0, .int 24, .int a1, .int 4, .ref ab]) rfl ?_
  refine lv_isub hx hb dX12_append_100 ?_
  refine W.eq (g2 := F0 m 101 ls [.int 24, .int a1, .int 4, .ref ab]) rfl ?_
  refine lv_ishr hx hb dX12_append_101 ?_
  refine lv_topi (fun x13 ex13 => ?_)
  refine lv_sipush (v := 255) hx hb dX12_append_102 (by decide) ?_
  refine lv_iand hx hb dX12_append_105 ?_
  refine lv_topi (fun x14 ex14 => ?_)
  refine va_iast hx hb C.2.2.2.2.2.1 hP hD hS 1 0 rfl rfl (by unfold vp_in; decide) dX12_append_106 (fun H locs hP hD hS => ?_)
  obtain ⟨f15, ef15⟩ : ∃ z : Nat → Int32, z = upd f12 (4 : Int32).toNatClampNeg x14 := ⟨_, rfl⟩
  have hP : va_P D CL [(mo, .inr (11, mC 0 0 pe ep sz nx fr so wr wa as ak ab ar g)), (ab, .inl (cI, 600, .inl f15))] H := by rw [ef15]; exact hP
  have hD : va_D A [(mo, .inr (11, mC 0 0 pe ep sz nx fr so wr wa as ak ab ar g)), (ab, .inl (cI, 600, .inl f15))] := by rw [ef15]; exact hD
  refine lv_iinc (v := 5) (lv' := [(6, .int 5), (7, .int a1), (0, .ref mo), (1, .int a0), (2, .int a1), (3, .int a2), (4, .int a3), (5, .int a4)]) hx hb dX12_append_107 hl (k := 1) rfl (by decide) (by decide) rfl (fun ls hl => ?_)
  refine lv_goto (tgt := 23) hx hb dX12_append_110 (by decide) ?_
  refine lv_iload hx hb dX12_append_23 (lv_at hl 0 rfl) ?_
  refine lv_bipush (v := 20) hx hb dX12_append_25 (by decide) ?_
  refine lv_icmp_ge (tgt := 113) hx hb dX12_append_27 (by decide) (fun h => absurd h (by decide)) (fun _ => ?_)
  refine lv_iload hx hb dX12_append_30 (lv_at hl 0 rfl) ?_
  refine lv_iconst (v := 4) hx hb dX12_append_32 (by decide) ?_
  refine lv_icmp_ge (tgt := 40) hx hb dX12_append_33 (by decide) (fun _ => ?_) (fun h => absurd (by decide) h)
  refine lv_iload hx hb dX12_append_40 (lv_at hl 0 rfl) ?_
  refine lv_bipush (v := 8) hx hb dX12_append_42 (by decide) ?_
  refine lv_icmp_ge (tgt := 51) hx hb dX12_append_44 (by decide) (fun h => absurd h (by decide)) (fun _ => ?_)
  refine lv_iload_n hx hb dX12_append_47 rfl (lv_at hl 4 rfl) ?_
  refine lv_goto (tgt := 76) hx hb dX12_append_48 (by decide) ?_
  refine lv_istore (lv' := [(7, .int a1), (6, .int 5), (0, .ref mo), (1, .int a0), (2, .int a1), (3, .int a2), (4, .int a3), (5, .int a4)]) hx hb dX12_append_76 hl (by decide) rfl (fun ls hl => ?_)
  refine lv_aload_n hx hb dX12_append_78 rfl (lv_at hl 2 rfl) ?_
  refine r_get (v := .ref ab) C hP 0 rfl fg_X12_20 rfl dX12_append_79 ?_
  refine lv_aload_n hx hb dX12_append_82 rfl (lv_at hl 2 rfl) ?_
  refine r_get (v := .int 0) C hP 0 rfl fg_X12_90 rfl dX12_append_83 ?_
  refine lv_iload hx hb dX12_append_86 (lv_at hl 1 rfl) ?_
  refine lv_iadd hx hb dX12_append_88 ?_
  refine W.eq (g2 := F0 m 89 ls [.int 5, .ref ab]) rfl ?_
  refine lv_iload hx hb dX12_append_89 (lv_at hl 0 rfl) ?_
  refine lv_bipush (v := 24) hx hb dX12_append_91 (by decide) ?_
  refine lv_bipush (v := 8) hx hb dX12_append_93 (by decide) ?_
  refine lv_iload hx hb dX12_append_95 (lv_at hl 1 rfl) ?_
  refine lv_iconst (v := 4) hx hb dX12_append_97 (by decide) ?_
  refine lv_irem hx hb dX12_append_98 (by decide) ?_
  refine W.eq (g2 := F0 m 99 ls [.int 1, .int 8, .int 24, .int a1, .int 5, .ref ab]) rfl ?_
  refine lv_imul hx hb dX12_append_99 ?_
  refine W.eq (g2 := F0 m 100 ls [.int 8, .int 24, .int a1, .int 5, .ref ab]) rfl ?_
  refine lv_isub hx hb dX12_append_100 ?_
  refine W.eq (g2 := F0 m 101 ls [.int 16, .int a1, .int 5, .ref ab]) rfl ?_
  refine lv_ishr hx hb dX12_append_101 ?_
  refine lv_topi (fun x16 ex16 => ?_)
  refine lv_sipush (v := 255) hx hb dX12_append_102 (by decide) ?_
  refine lv_iand hx hb dX12_append_105 ?_
  refine lv_topi (fun x17 ex17 => ?_)
  refine va_iast hx hb C.2.2.2.2.2.1 hP hD hS 1 0 rfl rfl (by unfold vp_in; decide) dX12_append_106 (fun H locs hP hD hS => ?_)
  obtain ⟨f18, ef18⟩ : ∃ z : Nat → Int32, z = upd f15 (5 : Int32).toNatClampNeg x17 := ⟨_, rfl⟩
  have hP : va_P D CL [(mo, .inr (11, mC 0 0 pe ep sz nx fr so wr wa as ak ab ar g)), (ab, .inl (cI, 600, .inl f18))] H := by rw [ef18]; exact hP
  have hD : va_D A [(mo, .inr (11, mC 0 0 pe ep sz nx fr so wr wa as ak ab ar g)), (ab, .inl (cI, 600, .inl f18))] := by rw [ef18]; exact hD
  refine lv_iinc (v := 6) (lv' := [(6, .int 6), (7, .int a1), (0, .ref mo), (1, .int a0), (2, .int a1), (3, .int a2), (4, .int a3), (5, .int a4)]) hx hb dX12_append_107 hl (k := 1) rfl (by decide) (by decide) rfl (fun ls hl => ?_)
  refine lv_goto (tgt := 23) hx hb dX12_append_110 (by decide) ?_
  refine lv_iload hx hb dX12_append_23 (lv_at hl 0 rfl) ?_
  refine lv_bipush (v := 20) hx hb dX12_append_25 (by decide) ?_
  refine lv_icmp_ge (tgt := 113) hx hb dX12_append_27 (by decide) (fun h => absurd h (by decide)) (fun _ => ?_)
  refine lv_iload hx hb dX12_append_30 (lv_at hl 0 rfl) ?_
  refine lv_iconst (v := 4) hx hb dX12_append_32 (by decide) ?_
  refine lv_icmp_ge (tgt := 40) hx hb dX12_append_33 (by decide) (fun _ => ?_) (fun h => absurd (by decide) h)
  refine lv_iload hx hb dX12_append_40 (lv_at hl 0 rfl) ?_
  refine lv_bipush (v := 8) hx hb dX12_append_42 (by decide) ?_
  refine lv_icmp_ge (tgt := 51) hx hb dX12_append_44 (by decide) (fun h => absurd h (by decide)) (fun _ => ?_)
  refine lv_iload_n hx hb dX12_append_47 rfl (lv_at hl 4 rfl) ?_
  refine lv_goto (tgt := 76) hx hb dX12_append_48 (by decide) ?_
  refine lv_istore (lv' := [(7, .int a1), (6, .int 6), (0, .ref mo), (1, .int a0), (2, .int a1), (3, .int a2), (4, .int a3), (5, .int a4)]) hx hb dX12_append_76 hl (by decide) rfl (fun ls hl => ?_)
  refine lv_aload_n hx hb dX12_append_78 rfl (lv_at hl 2 rfl) ?_
  refine r_get (v := .ref ab) C hP 0 rfl fg_X12_20 rfl dX12_append_79 ?_
  refine lv_aload_n hx hb dX12_append_82 rfl (lv_at hl 2 rfl) ?_
  refine r_get (v := .int 0) C hP 0 rfl fg_X12_90 rfl dX12_append_83 ?_
  refine lv_iload hx hb dX12_append_86 (lv_at hl 1 rfl) ?_
  refine lv_iadd hx hb dX12_append_88 ?_
  refine W.eq (g2 := F0 m 89 ls [.int 6, .ref ab]) rfl ?_
  refine lv_iload hx hb dX12_append_89 (lv_at hl 0 rfl) ?_
  refine lv_bipush (v := 24) hx hb dX12_append_91 (by decide) ?_
  refine lv_bipush (v := 8) hx hb dX12_append_93 (by decide) ?_
  refine lv_iload hx hb dX12_append_95 (lv_at hl 1 rfl) ?_
  refine lv_iconst (v := 4) hx hb dX12_append_97 (by decide) ?_
  refine lv_irem hx hb dX12_append_98 (by decide) ?_
  refine W.eq (g2 := F0 m 99 ls [.int 2, .int 8, .int 24, .int a1, .int 6, .ref ab]) rfl ?_
  refine lv_imul hx hb dX12_append_99 ?_
  refine W.eq (g2 := F0 m 100 ls [.int 16, .int 24, .int a1, .int 6, .ref ab]) rfl ?_
  refine lv_isub hx hb dX12_append_100 ?_
  refine W.eq (g2 := F0 m 101 ls [.int 8, .int a1, .int 6, .ref ab]) rfl ?_
  refine lv_ishr hx hb dX12_append_101 ?_
  refine lv_topi (fun x19 ex19 => ?_)
  refine lv_sipush (v := 255) hx hb dX12_append_102 (by decide) ?_
  refine lv_iand hx hb dX12_append_105 ?_
  refine lv_topi (fun x20 ex20 => ?_)
  refine va_iast hx hb C.2.2.2.2.2.1 hP hD hS 1 0 rfl rfl (by unfold vp_in; decide) dX12_append_106 (fun H locs hP hD hS => ?_)
  obtain ⟨f21, ef21⟩ : ∃ z : Nat → Int32, z = upd f18 (6 : Int32).toNatClampNeg x20 := ⟨_, rfl⟩
  have hP : va_P D CL [(mo, .inr (11, mC 0 0 pe ep sz nx fr so wr wa as ak ab ar g)), (ab, .inl (cI, 600, .inl f21))] H := by rw [ef21]; exact hP
  have hD : va_D A [(mo, .inr (11, mC 0 0 pe ep sz nx fr so wr wa as ak ab ar g)), (ab, .inl (cI, 600, .inl f21))] := by rw [ef21]; exact hD
  refine lv_iinc (v := 7) (lv' := [(6, .int 7), (7, .int a1), (0, .ref mo), (1, .int a0), (2, .int a1), (3, .int a2), (4, .int a3), (5, .int a4)]) hx hb dX12_append_107 hl (k := 1) rfl (by decide) (by decide) rfl (fun ls hl => ?_)
  refine lv_goto (tgt := 23) hx hb dX12_append_110 (by decide) ?_
  refine lv_iload hx hb dX12_append_23 (lv_at hl 0 rfl) ?_
  refine lv_bipush (v := 20) hx hb dX12_append_25 (by decide) ?_
  refine lv_icmp_ge (tgt := 113) hx hb dX12_append_27 (by decide) (fun h => absurd h (by decide)) (fun _ => ?_)
  refine lv_iload hx hb dX12_append_30 (lv_at hl 0 rfl) ?_
  refine lv_iconst (v := 4) hx hb dX12_append_32 (by decide) ?_
  refine lv_icmp_ge (tgt := 40) hx hb dX12_append_33 (by decide) (fun _ => ?_) (fun h => absurd (by decide) h)
  refine lv_iload hx hb dX12_append_40 (lv_at hl 0 rfl) ?_
  refine lv_bipush (v := 8) hx hb dX12_append_42 (by decide) ?_
  refine lv_icmp_ge (tgt := 51) hx hb dX12_append_44 (by decide) (fun h => absurd h (by decide)) (fun _ => ?_)
  refine lv_iload_n hx hb dX12_append_47 rfl (lv_at hl 4 rfl) ?_
  refine lv_goto (tgt := 76) hx hb dX12_append_48 (by decide) ?_
  refine lv_istore (lv' := [(7, .int a1), (6, .int 7), (0, .ref mo), (1, .int a0), (2, .int a1), (3, .int a2), (4, .int a3), (5, .int a4)]) hx hb dX12_append_76 hl (by decide) rfl (fun ls hl => ?_)
  refine lv_aload_n hx hb dX12_append_78 rfl (lv_at hl 2 rfl) ?_
  refine r_get (v := .ref ab) C hP 0 rfl fg_X12_20 rfl dX12_append_79 ?_
  refine lv_aload_n hx hb dX12_append_82 rfl (lv_at hl 2 rfl) ?_
  refine r_get (v := .int 0) C hP 0 rfl fg_X12_90 rfl dX12_append_83 ?_
  refine lv_iload hx hb dX12_append_86 (lv_at hl 1 rfl) ?_
  refine lv_iadd hx hb dX12_append_88 ?_
  refine W.eq (g2 := F0 m 89 ls [.int 7, .ref ab]) rfl ?_
  refine lv_iload hx hb dX12_append_89 (lv_at hl 0 rfl) ?_
  refine lv_bipush (v := 24) hx hb dX12_append_91 (by decide) ?_
  refine lv_bipush (v := 8) hx hb dX12_append_93 (by decide) ?_
  refine lv_iload hx hb dX12_append_95 (lv_at hl 1 rfl) ?_
  refine lv_iconst (v := 4) hx hb dX12_append_97 (by decide) ?_
  refine lv_irem hx hb dX12_append_98 (by decide) ?_
  refine W.eq (g2 := F0 m 99 ls [.int 3, .int 8, .int 24, .int a1, .int 7, .ref ab]) rfl ?_
  refine lv_imul hx hb dX12_append_99 ?_
  refine W.eq (g2 := F0 m 100 ls [.int 24, .int 24, .int a1, .int 7, .ref ab]) rfl ?_
  refine lv_isub hx hb dX12_append_100 ?_
  refine W.eq (g2 := F0 m 101 ls [.int 0, .int a1, .int 7, .ref ab]) rfl ?_
  refine lv_ishr hx hb dX12_append_101 ?_
  refine lv_topi (fun x22 ex22 => ?_)
  refine lv_sipush (v := 255) hx hb dX12_append_102 (by decide) ?_
  refine lv_iand hx hb dX12_append_105 ?_
  refine lv_topi (fun x23 ex23 => ?_)
  refine va_iast hx hb C.2.2.2.2.2.1 hP hD hS 1 0 rfl rfl (by unfold vp_in; decide) dX12_append_106 (fun H locs hP hD hS => ?_)
  obtain ⟨f24, ef24⟩ : ∃ z : Nat → Int32, z = upd f21 (7 : Int32).toNatClampNeg x23 := ⟨_, rfl⟩
  have hP : va_P D CL [(mo, .inr (11, mC 0 0 pe ep sz nx fr so wr wa as ak ab ar g)), (ab, .inl (cI, 600, .inl f24))] H := by rw [ef24]; exact hP
  have hD : va_D A [(mo, .inr (11, mC 0 0 pe ep sz nx fr so wr wa as ak ab ar g)), (ab, .inl (cI, 600, .inl f24))] := by rw [ef24]; exact hD
  refine lv_iinc (v := 8) (lv' := [(6, .int 8), (7, .int a1), (0, .ref mo), (1, .int a0), (2, .int a1), (3, .int a2), (4, .int a3), (5, .int a4)]) hx hb dX12_append_107 hl (k := 1) rfl (by decide) (by decide) rfl (fun ls hl => ?_)
  refine lv_goto (tgt := 23) hx hb dX12_append_110 (by decide) ?_
  refine lv_iload hx hb dX12_append_23 (lv_at hl 0 rfl) ?_
  refine lv_bipush (v := 20) hx hb dX12_append_25 (by decide) ?_
  refine lv_icmp_ge (tgt := 113) hx hb dX12_append_27 (by decide) (fun h => absurd h (by decide)) (fun _ => ?_)
  refine lv_iload hx hb dX12_append_30 (lv_at hl 0 rfl) ?_
  refine lv_iconst (v := 4) hx hb dX12_append_32 (by decide) ?_
  refine lv_icmp_ge (tgt := 40) hx hb dX12_append_33 (by decide) (fun _ => ?_) (fun h => absurd (by decide) h)
  refine lv_iload hx hb dX12_append_40 (lv_at hl 0 rfl) ?_
  refine lv_bipush (v := 8) hx hb dX12_append_42 (by decide) ?_
  refine lv_icmp_ge (tgt := 51) hx hb dX12_append_44 (by decide) (fun _ => ?_) (fun h => absurd (by decide) h)
  refine lv_iload hx hb dX12_append_51 (lv_at hl 0 rfl) ?_
  refine lv_bipush (v := 12) hx hb dX12_append_53 (by decide) ?_
  refine lv_icmp_ge (tgt := 62) hx hb dX12_append_55 (by decide) (fun h => absurd h (by decide)) (fun _ => ?_)
  refine lv_iload_n hx hb dX12_append_58 rfl (lv_at hl 5 rfl) ?_
  refine lv_goto (tgt := 76) hx hb dX12_append_59 (by decide) ?_
  refine lv_istore (lv' := [(7, .int a2), (6, .int 8), (0, .ref mo), (1, .int a0), (2, .int a1), (3, .int a2), (4, .int a3), (5, .int a4)]) hx hb dX12_append_76 hl (by decide) rfl (fun ls hl => ?_)
  refine lv_aload_n hx hb dX12_append_78 rfl (lv_at hl 2 rfl) ?_
  refine r_get (v := .ref ab) C hP 0 rfl fg_X12_20 rfl dX12_append_79 ?_
  refine lv_aload_n hx hb dX12_append_82 rfl (lv_at hl 2 rfl) ?_
  refine r_get (v := .int 0) C hP 0 rfl fg_X12_90 rfl dX12_append_83 ?_
  refine lv_iload hx hb dX12_append_86 (lv_at hl 1 rfl) ?_
  refine lv_iadd hx hb dX12_append_88 ?_
  refine W.eq (g2 := F0 m 89 ls [.int 8, .ref ab]) rfl ?_
  refine lv_iload hx hb dX12_append_89 (lv_at hl 0 rfl) ?_
  refine lv_bipush (v := 24) hx hb dX12_append_91 (by decide) ?_
  refine lv_bipush (v := 8) hx hb dX12_append_93 (by decide) ?_
  refine lv_iload hx hb dX12_append_95 (lv_at hl 1 rfl) ?_
  refine lv_iconst (v := 4) hx hb dX12_append_97 (by decide) ?_
  refine lv_irem hx hb dX12_append_98 (by decide) ?_
  refine W.eq (g2 := F0 m 99 ls [.int 0, .int 8, .int 24, .int a2, .int 8, .ref ab]) rfl ?_
  refine lv_imul hx hb dX12_append_99 ?_
  refine W.eq (g2 := F0 m 100 ls [.int 0, .int 24, .int a2, .int 8, .ref ab]) rfl ?_
  refine lv_isub hx hb dX12_append_100 ?_
  refine W.eq (g2 := F0 m 101 ls [.int 24, .int a2, .int 8, .ref ab]) rfl ?_
  refine lv_ishr hx hb dX12_append_101 ?_
  refine lv_topi (fun x25 ex25 => ?_)
  refine lv_sipush (v := 255) hx hb dX12_append_102 (by decide) ?_
  refine lv_iand hx hb dX12_append_105 ?_
  refine lv_topi (fun x26 ex26 => ?_)
  refine va_iast hx hb C.2.2.2.2.2.1 hP hD hS 1 0 rfl rfl (by unfold vp_in; decide) dX12_append_106 (fun H locs hP hD hS => ?_)
  obtain ⟨f27, ef27⟩ : ∃ z : Nat → Int32, z = upd f24 (8 : Int32).toNatClampNeg x26 := ⟨_, rfl⟩
  have hP : va_P D CL [(mo, .inr (11, mC 0 0 pe ep sz nx fr so wr wa as ak ab ar g)), (ab, .inl (cI, 600, .inl f27))] H := by rw [ef27]; exact hP
  have hD : va_D A [(mo, .inr (11, mC 0 0 pe ep sz nx fr so wr wa as ak ab ar g)), (ab, .inl (cI, 600, .inl f27))] := by rw [ef27]; exact hD
  refine lv_iinc (v := 9) (lv' := [(6, .int 9), (7, .int a2), (0, .ref mo), (1, .int a0), (2, .int a1), (3, .int a2), (4, .int a3), (5, .int a4)]) hx hb dX12_append_107 hl (k := 1) rfl (by decide) (by decide) rfl (fun ls hl => ?_)
  refine lv_goto (tgt := 23) hx hb dX12_append_110 (by decide) ?_
  refine lv_iload hx hb dX12_append_23 (lv_at hl 0 rfl) ?_
  refine lv_bipush (v := 20) hx hb dX12_append_25 (by decide) ?_
  refine lv_icmp_ge (tgt := 113) hx hb dX12_append_27 (by decide) (fun h => absurd h (by decide)) (fun _ => ?_)
  refine lv_iload hx hb dX12_append_30 (lv_at hl 0 rfl) ?_
  refine lv_iconst (v := 4) hx hb dX12_append_32 (by decide) ?_
  refine lv_icmp_ge (tgt := 40) hx hb dX12_append_33 (by decide) (fun _ => ?_) (fun h => absurd (by decide) h)
  refine lv_iload hx hb dX12_append_40 (lv_at hl 0 rfl) ?_
  refine lv_bipush (v := 8) hx hb dX12_append_42 (by decide) ?_
  refine lv_icmp_ge (tgt := 51) hx hb dX12_append_44 (by decide) (fun _ => ?_) (fun h => absurd (by decide) h)
  refine lv_iload hx hb dX12_append_51 (lv_at hl 0 rfl) ?_
  refine lv_bipush (v := 12) hx hb dX12_append_53 (by decide) ?_
  refine lv_icmp_ge (tgt := 62) hx hb dX12_append_55 (by decide) (fun h => absurd h (by decide)) (fun _ => ?_)
  refine lv_iload_n hx hb dX12_append_58 rfl (lv_at hl 5 rfl) ?_
  refine lv_goto (tgt := 76) hx hb dX12_append_59 (by decide) ?_
  refine lv_istore (lv' := [(7, .int a2), (6, .int 9), (0, .ref mo), (1, .int a0), (2, .int a1), (3, .int a2), (4, .int a3), (5, .int a4)]) hx hb dX12_append_76 hl (by decide) rfl (fun ls hl => ?_)
  refine lv_aload_n hx hb dX12_append_78 rfl (lv_at hl 2 rfl) ?_
  refine r_get (v := .ref ab) C hP 0 rfl fg_X12_20 rfl dX12_append_79 ?_
  refine lv_aload_n hx hb dX12_append_82 rfl (lv_at hl 2 rfl) ?_
  refine r_get (v := .int 0) C hP 0 rfl fg_X12_90 rfl dX12_append_83 ?_
  refine lv_iload hx hb dX12_append_86 (lv_at hl 1 rfl) ?_
  refine lv_iadd hx hb dX12_append_88 ?_
  refine W.eq (g2 := F0 m 89 ls [.int 9, .ref ab]) rfl ?_
  refine lv_iload hx hb dX12_append_89 (lv_at hl 0 rfl) ?_
  refine lv_bipush (v := 24) hx hb dX12_append_91 (by decide) ?_
  refine lv_bipush (v := 8) hx hb dX12_append_93 (by decide) ?_
  refine lv_iload hx hb dX12_append_95 (lv_at hl 1 rfl) ?_
  refine lv_iconst (v := 4) hx hb dX12_append_97 (by decide) ?_
  refine lv_irem hx hb dX12_append_98 (by decide) ?_
  refine W.eq (g2 := F0 m 99 ls [.int 1, .int 8, .int 24, .int a2, .int 9, .ref ab]) rfl ?_
  refine lv_imul hx hb dX12_append_99 ?_
  refine W.eq (g2 := F0 m 100 ls [.int 8, .int 24, .int a2, .int 9, .ref ab]) rfl ?_
  refine lv_isub hx hb dX12_append_100 ?_
  refine W.eq (g2 := F0 m 101 ls [.int 16, .int a2, .int 9, .ref ab]) rfl ?_
  refine lv_ishr hx hb dX12_append_101 ?_
  refine lv_topi (fun x28 ex28 => ?_)
  refine lv_sipush (v := 255) hx hb dX12_append_102 (by decide) ?_
  refine lv_iand hx hb dX12_append_105 ?_
  refine lv_topi (fun x29 ex29 => ?_)
  refine va_iast hx hb C.2.2.2.2.2.1 hP hD hS 1 0 rfl rfl (by unfold vp_in; decide) dX12_append_106 (fun H locs hP hD hS => ?_)
  obtain ⟨f30, ef30⟩ : ∃ z : Nat → Int32, z = upd f27 (9 : Int32).toNatClampNeg x29 := ⟨_, rfl⟩
  have hP : va_P D CL [(mo, .inr (11, mC 0 0 pe ep sz nx fr so wr wa as ak ab ar g)), (ab, .inl (cI, 600, .inl f30))] H := by rw [ef30]; exact hP
  have hD : va_D A [(mo, .inr (11, mC 0 0 pe ep sz nx fr so wr wa as ak ab ar g)), (ab, .inl (cI, 600, .inl f30))] := by rw [ef30]; exact hD
  refine lv_iinc (v := 10) (lv' := [(6, .int 10), (7, .int a2), (0, .ref mo), (1, .int a0), (2, .int a1), (3, .int a2), (4, .int a3), (5, .int a4)]) hx hb dX12_append_107 hl (k := 1) rfl (by decide) (by decide) rfl (fun ls hl => ?_)
  refine lv_goto (tgt := 23) hx hb dX12_append_110 (by decide) ?_
  refine lv_iload hx hb dX12_append_23 (lv_at hl 0 rfl) ?_
  refine lv_bipush (v := 20) hx hb dX12_append_25 (by decide) ?_
  refine lv_icmp_ge (tgt := 113) hx hb dX12_append_27 (by decide) (fun h => absurd h (by decide)) (fun _ => ?_)
  refine lv_iload hx hb dX12_append_30 (lv_at hl 0 rfl) ?_
  refine lv_iconst (v := 4) hx hb dX12_append_32 (by decide) ?_
  refine lv_icmp_ge (tgt := 40) hx hb dX12_append_33 (by decide) (fun _ => ?_) (fun h => absurd (by decide) h)
  refine lv_iload hx hb dX12_append_40 (lv_at hl 0 rfl) ?_
  refine lv_bipush (v := 8) hx hb dX12_append_42 (by decide) ?_
  refine lv_icmp_ge (tgt := 51) hx hb dX12_append_44 (by decide) (fun _ => ?_) (fun h => absurd (by decide) h)
  refine lv_iload hx hb dX12_append_51 (lv_at hl 0 rfl) ?_
  refine lv_bipush (v := 12) hx hb dX12_append_53 (by decide) ?_
  refine lv_icmp_ge (tgt := 62) hx hb dX12_append_55 (by decide) (fun h => absurd h (by decide)) (fun _ => ?_)
  refine lv_iload_n hx hb dX12_append_58 rfl (lv_at hl 5 rfl) ?_
  refine lv_goto (tgt := 76) hx hb dX12_append_59 (by decide) ?_
  refine lv_istore (lv' := [(7, .int a2), (6, .int 10), (0, .ref mo), (1, .int a0), (2, .int a1), (3, .int a2), (4, .int a3), (5, .int a4)]) hx hb dX12_append_76 hl (by decide) rfl (fun ls hl => ?_)
  refine lv_aload_n hx hb dX12_append_78 rfl (lv_at hl 2 rfl) ?_
  refine r_get (v := .ref ab) C hP 0 rfl fg_X12_20 rfl dX12_append_79 ?_
  refine lv_aload_n hx hb dX12_append_82 rfl (lv_at hl 2 rfl) ?_
  refine r_get (v := .int 0) C hP 0 rfl fg_X12_90 rfl dX12_append_83 ?_
  refine lv_iload hx hb dX12_append_86 (lv_at hl 1 rfl) ?_
  refine lv_iadd hx hb dX12_append_88 ?_
  refine W.eq (g2 := F0 m 89 ls [.int 10, .ref ab]) rfl ?_
  refine lv_iload hx hb dX12_append_89 (lv_at hl 0 rfl) ?_
  refine lv_bipush (v := 24) hx hb dX12_append_91 (by decide) ?_
  refine lv_bipush (v := 8) hx hb dX12_append_93 (by decide) ?_
  refine lv_iload hx hb dX12_append_95 (lv_at hl 1 rfl) ?_
  refine lv_iconst (v := 4) hx hb dX12_append_97 (by decide) ?_
  refine lv_irem hx hb dX12_append_98 (by decide) ?_
  refine W.eq (g2 := F0 m 99 ls [.int 2, .int 8, .int 24, .int a2, .int 10, .ref ab]) rfl ?_
  refine lv_imul hx hb dX12_append_99 ?_
  refine W.eq (g2 := F0 m 100 ls [.int 16, .int 24, .int a2, .int 10, .ref ab]) rfl ?_
  refine lv_isub hx hb dX12_append_100 ?_
  refine W.eq (g2 := F0 m 101 ls [.int 8, .int a2, .int 10, .ref ab]) rfl ?_
  refine lv_ishr hx hb dX12_append_101 ?_
  refine lv_topi (fun x31 ex31 => ?_)
  refine lv_sipush (v := 255) hx hb dX12_append_102 (by decide) ?_
  refine lv_iand hx hb dX12_append_105 ?_
  refine lv_topi (fun x32 ex32 => ?_)
  refine va_iast hx hb C.2.2.2.2.2.1 hP hD hS 1 0 rfl rfl (by unfold vp_in; decide) dX12_append_106 (fun H locs hP hD hS => ?_)
  obtain ⟨f33, ef33⟩ : ∃ z : Nat → Int32, z = upd f30 (10 : Int32).toNatClampNeg x32 := ⟨_, rfl⟩
  have hP : va_P D CL [(mo, .inr (11, mC 0 0 pe ep sz nx fr so wr wa as ak ab ar g)), (ab, .inl (cI, 600, .inl f33))] H := by rw [ef33]; exact hP
  have hD : va_D A [(mo, .inr (11, mC 0 0 pe ep sz nx fr so wr wa as ak ab ar g)), (ab, .inl (cI, 600, .inl f33))] := by rw [ef33]; exact hD
  refine lv_iinc (v := 11) (lv' := [(6, .int 11), (7, .int a2), (0, .ref mo), (1, .int a0), (2, .int a1), (3, .int a2), (4, .int a3), (5, .int a4)]) hx hb dX12_append_107 hl (k := 1) rfl (by decide) (by decide) rfl (fun ls hl => ?_)
  refine lv_goto (tgt := 23) hx hb dX12_append_110 (by decide) ?_
  refine lv_iload hx hb dX12_append_23 (lv_at hl 0 rfl) ?_
  refine lv_bipush (v := 20) hx hb dX12_append_25 (by decide) ?_
  refine lv_icmp_ge (tgt := 113) hx hb dX12_append_27 (by decide) (fun h => absurd h (by decide)) (fun _ => ?_)
  refine lv_iload hx hb dX12_append_30 (lv_at hl 0 rfl) ?_
  refine lv_iconst (v := 4) hx hb dX12_append_32 (by decide) ?_
  refine lv_icmp_ge (tgt := 40) hx hb dX12_append_33 (by decide) (fun _ => ?_) (fun h => absurd (by decide) h)
  refine lv_iload hx hb dX12_append_40 (lv_at hl 0 rfl) ?_
  refine lv_bipush (v := 8) hx hb dX12_append_42 (by decide) ?_
  refine lv_icmp_ge (tgt := 51) hx hb dX12_append_44 (by decide) (fun _ => ?_) (fun h => absurd (by decide) h)
  refine lv_iload hx hb dX12_append_51 (lv_at hl 0 rfl) ?_
  refine lv_bipush (v := 12) hx hb dX12_append_53 (by decide) ?_
  refine lv_icmp_ge (tgt := 62) hx hb dX12_append_55 (by decide) (fun h => absurd h (by decide)) (fun _ => ?_)
  refine lv_iload_n hx hb dX12_append_58 rfl (lv_at hl 5 rfl) ?_
  refine lv_goto (tgt := 76) hx hb dX12_append_59 (by decide) ?_
  refine lv_istore (lv' := [(7, .int a2), (6, .int 11), (0, .ref mo), (1, .int a0), (2, .int a1), (3, .int a2), (4, .int a3), (5, .int a4)]) hx hb dX12_append_76 hl (by decide) rfl (fun ls hl => ?_)
  refine lv_aload_n hx hb dX12_append_78 rfl (lv_at hl 2 rfl) ?_
  refine r_get (v := .ref ab) C hP 0 rfl fg_X12_20 rfl dX12_append_79 ?_
  refine lv_aload_n hx hb dX12_append_82 rfl (lv_at hl 2 rfl) ?_
  refine r_get (v := .int 0) C hP 0 rfl fg_X12_90 rfl dX12_append_83 ?_
  refine lv_iload hx hb dX12_append_86 (lv_at hl 1 rfl) ?_
  refine lv_iadd hx hb dX12_append_88 ?_
  refine W.eq (g2 := F0 m 89 ls [.int 11, .ref ab]) rfl ?_
  refine lv_iload hx hb dX12_append_89 (lv_at hl 0 rfl) ?_
  refine lv_bipush (v := 24) hx hb dX12_append_91 (by decide) ?_
  refine lv_bipush (v := 8) hx hb dX12_append_93 (by decide) ?_
  refine lv_iload hx hb dX12_append_95 (lv_at hl 1 rfl) ?_
  refine lv_iconst (v := 4) hx hb dX12_append_97 (by decide) ?_
  refine lv_irem hx hb dX12_append_98 (by decide) ?_
  refine W.eq (g2 := F0 m 99 ls [.int 3, .int 8, .int 24, .int a2, .int 11, .ref ab]) rfl ?_
  refine lv_imul hx hb dX12_append_99 ?_
  refine W.eq (g2 := F0 m 100 ls [.int 24, .int 24, .int a2, .int 11, .ref ab]) rfl ?_
  refine lv_isub hx hb dX12_append_100 ?_
  refine W.eq (g2 := F0 m 101 ls [.int 0, .int a2, .int 11, .ref ab]) rfl ?_
  refine lv_ishr hx hb dX12_append_101 ?_
  refine lv_topi (fun x34 ex34 => ?_)
  refine lv_sipush (v := 255) hx hb dX12_append_102 (by decide) ?_
  refine lv_iand hx hb dX12_append_105 ?_
  refine lv_topi (fun x35 ex35 => ?_)
  refine va_iast hx hb C.2.2.2.2.2.1 hP hD hS 1 0 rfl rfl (by unfold vp_in; decide) dX12_append_106 (fun H locs hP hD hS => ?_)
  obtain ⟨f36, ef36⟩ : ∃ z : Nat → Int32, z = upd f33 (11 : Int32).toNatClampNeg x35 := ⟨_, rfl⟩
  have hP : va_P D CL [(mo, .inr (11, mC 0 0 pe ep sz nx fr so wr wa as ak ab ar g)), (ab, .inl (cI, 600, .inl f36))] H := by rw [ef36]; exact hP
  have hD : va_D A [(mo, .inr (11, mC 0 0 pe ep sz nx fr so wr wa as ak ab ar g)), (ab, .inl (cI, 600, .inl f36))] := by rw [ef36]; exact hD
  refine lv_iinc (v := 12) (lv' := [(6, .int 12), (7, .int a2), (0, .ref mo), (1, .int a0), (2, .int a1), (3, .int a2), (4, .int a3), (5, .int a4)]) hx hb dX12_append_107 hl (k := 1) rfl (by decide) (by decide) rfl (fun ls hl => ?_)
  refine lv_goto (tgt := 23) hx hb dX12_append_110 (by decide) ?_
  refine lv_iload hx hb dX12_append_23 (lv_at hl 0 rfl) ?_
  refine lv_bipush (v := 20) hx hb dX12_append_25 (by decide) ?_
  refine lv_icmp_ge (tgt := 113) hx hb dX12_append_27 (by decide) (fun h => absurd h (by decide)) (fun _ => ?_)
  refine lv_iload hx hb dX12_append_30 (lv_at hl 0 rfl) ?_
  refine lv_iconst (v := 4) hx hb dX12_append_32 (by decide) ?_
  refine lv_icmp_ge (tgt := 40) hx hb dX12_append_33 (by decide) (fun _ => ?_) (fun h => absurd (by decide) h)
  refine lv_iload hx hb dX12_append_40 (lv_at hl 0 rfl) ?_
  refine lv_bipush (v := 8) hx hb dX12_append_42 (by decide) ?_
  refine lv_icmp_ge (tgt := 51) hx hb dX12_append_44 (by decide) (fun _ => ?_) (fun h => absurd (by decide) h)
  refine lv_iload hx hb dX12_append_51 (lv_at hl 0 rfl) ?_
  refine lv_bipush (v := 12) hx hb dX12_append_53 (by decide) ?_
  refine lv_icmp_ge (tgt := 62) hx hb dX12_append_55 (by decide) (fun _ => ?_) (fun h => absurd (by decide) h)
  refine lv_iload hx hb dX12_append_62 (lv_at hl 0 rfl) ?_
  refine lv_bipush (v := 16) hx hb dX12_append_64 (by decide) ?_
  refine lv_icmp_ge (tgt := 74) hx hb dX12_append_66 (by decide) (fun h => absurd h (by decide)) (fun _ => ?_)
  refine lv_iload hx hb dX12_append_69 (lv_at hl 6 rfl) ?_
  refine lv_goto (tgt := 76) hx hb dX12_append_71 (by decide) ?_
  refine lv_istore (lv' := [(7, .int a3), (6, .int 12), (0, .ref mo), (1, .int a0), (2, .int a1), (3, .int a2), (4, .int a3), (5, .int a4)]) hx hb dX12_append_76 hl (by decide) rfl (fun ls hl => ?_)
  refine lv_aload_n hx hb dX12_append_78 rfl (lv_at hl 2 rfl) ?_
  refine r_get (v := .ref ab) C hP 0 rfl fg_X12_20 rfl dX12_append_79 ?_
  refine lv_aload_n hx hb dX12_append_82 rfl (lv_at hl 2 rfl) ?_
  refine r_get (v := .int 0) C hP 0 rfl fg_X12_90 rfl dX12_append_83 ?_
  refine lv_iload hx hb dX12_append_86 (lv_at hl 1 rfl) ?_
  refine lv_iadd hx hb dX12_append_88 ?_
  refine W.eq (g2 := F0 m 89 ls [.int 12, .ref ab]) rfl ?_
  refine lv_iload hx hb dX12_append_89 (lv_at hl 0 rfl) ?_
  refine lv_bipush (v := 24) hx hb dX12_append_91 (by decide) ?_
  refine lv_bipush (v := 8) hx hb dX12_append_93 (by decide) ?_
  refine lv_iload hx hb dX12_append_95 (lv_at hl 1 rfl) ?_
  refine lv_iconst (v := 4) hx hb dX12_append_97 (by decide) ?_
  refine lv_irem hx hb dX12_append_98 (by decide) ?_
  refine W.eq (g2 := F0 m 99 ls [.int 0, .int 8, .int 24, .int a3, .int 12, .ref ab]) rfl ?_
  refine lv_imul hx hb dX12_append_99 ?_
  refine W.eq (g2 := F0 m 100 ls [.int 0, .int 24, .int a3, .int 12, .ref ab]) rfl ?_
  refine lv_isub hx hb dX12_append_100 ?_
  refine W.eq (g2 := F0 m 101 ls [.int 24, .int a3, .int 12, .ref ab]) rfl ?_
  refine lv_ishr hx hb dX12_append_101 ?_
  refine lv_topi (fun x37 ex37 => ?_)
  refine lv_sipush (v := 255) hx hb dX12_append_102 (by decide) ?_
  refine lv_iand hx hb dX12_append_105 ?_
  refine lv_topi (fun x38 ex38 => ?_)
  refine va_iast hx hb C.2.2.2.2.2.1 hP hD hS 1 0 rfl rfl (by unfold vp_in; decide) dX12_append_106 (fun H locs hP hD hS => ?_)
  obtain ⟨f39, ef39⟩ : ∃ z : Nat → Int32, z = upd f36 (12 : Int32).toNatClampNeg x38 := ⟨_, rfl⟩
  have hP : va_P D CL [(mo, .inr (11, mC 0 0 pe ep sz nx fr so wr wa as ak ab ar g)), (ab, .inl (cI, 600, .inl f39))] H := by rw [ef39]; exact hP
  have hD : va_D A [(mo, .inr (11, mC 0 0 pe ep sz nx fr so wr wa as ak ab ar g)), (ab, .inl (cI, 600, .inl f39))] := by rw [ef39]; exact hD
  refine lv_iinc (v := 13) (lv' := [(6, .int 13), (7, .int a3), (0, .ref mo), (1, .int a0), (2, .int a1), (3, .int a2), (4, .int a3), (5, .int a4)]) hx hb dX12_append_107 hl (k := 1) rfl (by decide) (by decide) rfl (fun ls hl => ?_)
  refine lv_goto (tgt := 23) hx hb dX12_append_110 (by decide) ?_
  refine lv_iload hx hb dX12_append_23 (lv_at hl 0 rfl) ?_
  refine lv_bipush (v := 20) hx hb dX12_append_25 (by decide) ?_
  refine lv_icmp_ge (tgt := 113) hx hb dX12_append_27 (by decide) (fun h => absurd h (by decide)) (fun _ => ?_)
  refine lv_iload hx hb dX12_append_30 (lv_at hl 0 rfl) ?_
  refine lv_iconst (v := 4) hx hb dX12_append_32 (by decide) ?_
  refine lv_icmp_ge (tgt := 40) hx hb dX12_append_33 (by decide) (fun _ => ?_) (fun h => absurd (by decide) h)
  refine lv_iload hx hb dX12_append_40 (lv_at hl 0 rfl) ?_
  refine lv_bipush (v := 8) hx hb dX12_append_42 (by decide) ?_
  refine lv_icmp_ge (tgt := 51) hx hb dX12_append_44 (by decide) (fun _ => ?_) (fun h => absurd (by decide) h)
  refine lv_iload hx hb dX12_append_51 (lv_at hl 0 rfl) ?_
  refine lv_bipush (v := 12) hx hb dX12_append_53 (by decide) ?_
  refine lv_icmp_ge (tgt := 62) hx hb dX12_append_55 (by decide) (fun _ => ?_) (fun h => absurd (by decide) h)
  refine lv_iload hx hb dX12_append_62 (lv_at hl 0 rfl) ?_
  refine lv_bipush (v := 16) hx hb dX12_append_64 (by decide) ?_
  refine lv_icmp_ge (tgt := 74) hx hb dX12_append_66 (by decide) (fun h => absurd h (by decide)) (fun _ => ?_)
  refine lv_iload hx hb dX12_append_69 (lv_at hl 6 rfl) ?_
  refine lv_goto (tgt := 76) hx hb dX12_append_71 (by decide) ?_
  refine lv_istore (lv' := [(7, .int a3), (6, .int 13), (0, .ref mo), (1, .int a0), (2, .int a1), (3, .int a2), (4, .int a3), (5, .int a4)]) hx hb dX12_append_76 hl (by decide) rfl (fun ls hl => ?_)
  refine lv_aload_n hx hb dX12_append_78 rfl (lv_at hl 2 rfl) ?_
  refine r_get (v := .ref ab) C hP 0 rfl fg_X12_20 rfl dX12_append_79 ?_
  refine lv_aload_n hx hb dX12_append_82 rfl (lv_at hl 2 rfl) ?_
  refine r_get (v := .int 0) C hP 0 rfl fg_X12_90 rfl dX12_append_83 ?_
  refine lv_iload hx hb dX12_append_86 (lv_at hl 1 rfl) ?_
  refine lv_iadd hx hb dX12_append_88 ?_
  refine W.eq (g2 := F0 m 89 ls [.int 13, .ref ab]) rfl ?_
  refine lv_iload hx hb dX12_append_89 (lv_at hl 0 rfl) ?_
  refine lv_bipush (v := 24) hx hb dX12_append_91 (by decide) ?_
  refine lv_bipush (v := 8) hx hb dX12_append_93 (by decide) ?_
  refine lv_iload hx hb dX12_append_95 (lv_at hl 1 rfl) ?_
  refine lv_iconst (v := 4) hx hb dX12_append_97 (by decide) ?_
  refine lv_irem hx hb dX12_append_98 (by decide) ?_
  refine W.eq (g2 := F0 m 99 ls [.int 1, .int 8, .int 24, .int a3, .int 13, .ref ab]) rfl ?_
  refine lv_imul hx hb dX12_append_99 ?_
  refine W.eq (g2 := F0 m 100 ls [.int 8, .int 24, .int a3, .int 13, .ref ab]) rfl ?_
  refine lv_isub hx hb dX12_append_100 ?_
  refine W.eq (g2 := F0 m 101 ls [.int 16, .int a3, .int 13, .ref ab]) rfl ?_
  refine lv_ishr hx hb dX12_append_101 ?_
  refine lv_topi (fun x40 ex40 => ?_)
  refine lv_sipush (v := 255) hx hb dX12_append_102 (by decide) ?_
  refine lv_iand hx hb dX12_append_105 ?_
  refine lv_topi (fun x41 ex41 => ?_)
  refine va_iast hx hb C.2.2.2.2.2.1 hP hD hS 1 0 rfl rfl (by unfold vp_in; decide) dX12_append_106 (fun H locs hP hD hS => ?_)
  obtain ⟨f42, ef42⟩ : ∃ z : Nat → Int32, z = upd f39 (13 : Int32).toNatClampNeg x41 := ⟨_, rfl⟩
  have hP : va_P D CL [(mo, .inr (11, mC 0 0 pe ep sz nx fr so wr wa as ak ab ar g)), (ab, .inl (cI, 600, .inl f42))] H := by rw [ef42]; exact hP
  have hD : va_D A [(mo, .inr (11, mC 0 0 pe ep sz nx fr so wr wa as ak ab ar g)), (ab, .inl (cI, 600, .inl f42))] := by rw [ef42]; exact hD
  refine lv_iinc (v := 14) (lv' := [(6, .int 14), (7, .int a3), (0, .ref mo), (1, .int a0), (2, .int a1), (3, .int a2), (4, .int a3), (5, .int a4)]) hx hb dX12_append_107 hl (k := 1) rfl (by decide) (by decide) rfl (fun ls hl => ?_)
  refine lv_goto (tgt := 23) hx hb dX12_append_110 (by decide) ?_
  refine lv_iload hx hb dX12_append_23 (lv_at hl 0 rfl) ?_
  refine lv_bipush (v := 20) hx hb dX12_append_25 (by decide) ?_
  refine lv_icmp_ge (tgt := 113) hx hb dX12_append_27 (by decide) (fun h => absurd h (by decide)) (fun _ => ?_)
  refine lv_iload hx hb dX12_append_30 (lv_at hl 0 rfl) ?_
  refine lv_iconst (v := 4) hx hb dX12_append_32 (by decide) ?_
  refine lv_icmp_ge (tgt := 40) hx hb dX12_append_33 (by decide) (fun _ => ?_) (fun h => absurd (by decide) h)
  refine lv_iload hx hb dX12_append_40 (lv_at hl 0 rfl) ?_
  refine lv_bipush (v := 8) hx hb dX12_append_42 (by decide) ?_
  refine lv_icmp_ge (tgt := 51) hx hb dX12_append_44 (by decide) (fun _ => ?_) (fun h => absurd (by decide) h)
  refine lv_iload hx hb dX12_append_51 (lv_at hl 0 rfl) ?_
  refine lv_bipush (v := 12) hx hb dX12_append_53 (by decide) ?_
  refine lv_icmp_ge (tgt := 62) hx hb dX12_append_55 (by decide) (fun _ => ?_) (fun h => absurd (by decide) h)
  refine lv_iload hx hb dX12_append_62 (lv_at hl 0 rfl) ?_
  refine lv_bipush (v := 16) hx hb dX12_append_64 (by decide) ?_
  refine lv_icmp_ge (tgt := 74) hx hb dX12_append_66 (by decide) (fun h => absurd h (by decide)) (fun _ => ?_)
  refine lv_iload hx hb dX12_append_69 (lv_at hl 6 rfl) ?_
  refine lv_goto (tgt := 76) hx hb dX12_append_71 (by decide) ?_
  refine lv_istore (lv' := [(7, .int a3), (6, .int 14), (0, .ref mo), (1, .int a0), (2, .int a1), (3, .int a2), (4, .int a3), (5, .int a4)]) hx hb dX12_append_76 hl (by decide) rfl (fun ls hl => ?_)
  refine lv_aload_n hx hb dX12_append_78 rfl (lv_at hl 2 rfl) ?_
  refine r_get (v := .ref ab) C hP 0 rfl fg_X12_20 rfl dX12_append_79 ?_
  refine lv_aload_n hx hb dX12_append_82 rfl (lv_at hl 2 rfl) ?_
  refine r_get (v := .int 0) C hP 0 rfl fg_X12_90 rfl dX12_append_83 ?_
  refine lv_iload hx hb dX12_append_86 (lv_at hl 1 rfl) ?_
  refine lv_iadd hx hb dX12_append_88 ?_
  refine W.eq (g2 := F0 m 89 ls [.int 14, .ref ab]) rfl ?_
  refine lv_iload hx hb dX12_append_89 (lv_at hl 0 rfl) ?_
  refine lv_bipush (v := 24) hx hb dX12_append_91 (by decide) ?_
  refine lv_bipush (v := 8) hx hb dX12_append_93 (by decide) ?_
  refine lv_iload hx hb dX12_append_95 (lv_at hl 1 rfl) ?_
  refine lv_iconst (v := 4) hx hb dX12_append_97 (by decide) ?_
  refine lv_irem hx hb dX12_append_98 (by decide) ?_
  refine W.eq (g2 := F0 m 99 ls [.int 2, .int 8, .int 24, .int a3, .int 14, .ref ab]) rfl ?_
  refine lv_imul hx hb dX12_append_99 ?_
  refine W.eq (g2 := F0 m 100 ls [.int 16, .int 24, .int a3, .int 14, .ref ab]) rfl ?_
  refine lv_isub hx hb dX12_append_100 ?_
  refine W.eq (g2 := F0 m 101 ls [.int 8, .int a3, .int 14, .ref ab]) rfl ?_
  refine lv_ishr hx hb dX12_append_101 ?_
  refine lv_topi (fun x43 ex43 => ?_)
  refine lv_sipush (v := 255) hx hb dX12_append_102 (by decide) ?_
  refine lv_iand hx hb dX12_append_105 ?_
  refine lv_topi (fun x44 ex44 => ?_)
  refine va_iast hx hb C.2.2.2.2.2.1 hP hD hS 1 0 rfl rfl (by unfold vp_in; decide) dX12_append_106 (fun H locs hP hD hS => ?_)
  obtain ⟨f45, ef45⟩ : ∃ z : Nat → Int32, z = upd f42 (14 : Int32).toNatClampNeg x44 := ⟨_, rfl⟩
  have hP : va_P D CL [(mo, .inr (11, mC 0 0 pe ep sz nx fr so wr wa as ak ab ar g)), (ab, .inl (cI, 600, .inl f45))] H := by rw [ef45]; exact hP
  have hD : va_D A [(mo, .inr (11, mC 0 0 pe ep sz nx fr so wr wa as ak ab ar g)), (ab, .inl (cI, 600, .inl f45))] := by rw [ef45]; exact hD
  refine lv_iinc (v := 15) (lv' := [(6, .int 15), (7, .int a3), (0, .ref mo), (1, .int a0), (2, .int a1), (3, .int a2), (4, .int a3), (5, .int a4)]) hx hb dX12_append_107 hl (k := 1) rfl (by decide) (by decide) rfl (fun ls hl => ?_)
  refine lv_goto (tgt := 23) hx hb dX12_append_110 (by decide) ?_
  refine lv_iload hx hb dX12_append_23 (lv_at hl 0 rfl) ?_
  refine lv_bipush (v := 20) hx hb dX12_append_25 (by decide) ?_
  refine lv_icmp_ge (tgt := 113) hx hb dX12_append_27 (by decide) (fun h => absurd h (by decide)) (fun _ => ?_)
  refine lv_iload hx hb dX12_append_30 (lv_at hl 0 rfl) ?_
  refine lv_iconst (v := 4) hx hb dX12_append_32 (by decide) ?_
  refine lv_icmp_ge (tgt := 40) hx hb dX12_append_33 (by decide) (fun _ => ?_) (fun h => absurd (by decide) h)
  refine lv_iload hx hb dX12_append_40 (lv_at hl 0 rfl) ?_
  refine lv_bipush (v := 8) hx hb dX12_append_42 (by decide) ?_
  refine lv_icmp_ge (tgt := 51) hx hb dX12_append_44 (by decide) (fun _ => ?_) (fun h => absurd (by decide) h)
  refine lv_iload hx hb dX12_append_51 (lv_at hl 0 rfl) ?_
  refine lv_bipush (v := 12) hx hb dX12_append_53 (by decide) ?_
  refine lv_icmp_ge (tgt := 62) hx hb dX12_append_55 (by decide) (fun _ => ?_) (fun h => absurd (by decide) h)
  refine lv_iload hx hb dX12_append_62 (lv_at hl 0 rfl) ?_
  refine lv_bipush (v := 16) hx hb dX12_append_64 (by decide) ?_
  refine lv_icmp_ge (tgt := 74) hx hb dX12_append_66 (by decide) (fun h => absurd h (by decide)) (fun _ => ?_)
  refine lv_iload hx hb dX12_append_69 (lv_at hl 6 rfl) ?_
  refine lv_goto (tgt := 76) hx hb dX12_append_71 (by decide) ?_
  refine lv_istore (lv' := [(7, .int a3), (6, .int 15), (0, .ref mo), (1, .int a0), (2, .int a1), (3, .int a2), (4, .int a3), (5, .int a4)]) hx hb dX12_append_76 hl (by decide) rfl (fun ls hl => ?_)
  refine lv_aload_n hx hb dX12_append_78 rfl (lv_at hl 2 rfl) ?_
  refine r_get (v := .ref ab) C hP 0 rfl fg_X12_20 rfl dX12_append_79 ?_
  refine lv_aload_n hx hb dX12_append_82 rfl (lv_at hl 2 rfl) ?_
  refine r_get (v := .int 0) C hP 0 rfl fg_X12_90 rfl dX12_append_83 ?_
  refine lv_iload hx hb dX12_append_86 (lv_at hl 1 rfl) ?_
  refine lv_iadd hx hb dX12_append_88 ?_
  refine W.eq (g2 := F0 m 89 ls [.int 15, .ref ab]) rfl ?_
  refine lv_iload hx hb dX12_append_89 (lv_at hl 0 rfl) ?_
  refine lv_bipush (v := 24) hx hb dX12_append_91 (by decide) ?_
  refine lv_bipush (v := 8) hx hb dX12_append_93 (by decide) ?_
  refine lv_iload hx hb dX12_append_95 (lv_at hl 1 rfl) ?_
  refine lv_iconst (v := 4) hx hb dX12_append_97 (by decide) ?_
  refine lv_irem hx hb dX12_append_98 (by decide) ?_
  refine W.eq (g2 := F0 m 99 ls [.int 3, .int 8, .int 24, .int a3, .int 15, .ref ab]) rfl ?_
  refine lv_imul hx hb dX12_append_99 ?_
  refine W.eq (g2 := F0 m 100 ls [.int 24, .int 24, .int a3, .int 15, .ref ab]) rfl ?_
  refine lv_isub hx hb dX12_append_100 ?_
  refine W.eq (g2 := F0 m 101 ls [.int 0, .int a3, .int 15, .ref ab]) rfl ?_
  refine lv_ishr hx hb dX12_append_101 ?_
  refine lv_topi (fun x46 ex46 => ?_)
  refine lv_sipush (v := 255) hx hb dX12_append_102 (by decide) ?_
  refine lv_iand hx hb dX12_append_105 ?_
  refine lv_topi (fun x47 ex47 => ?_)
  refine va_iast hx hb C.2.2.2.2.2.1 hP hD hS 1 0 rfl rfl (by unfold vp_in; decide) dX12_append_106 (fun H locs hP hD hS => ?_)
  obtain ⟨f48, ef48⟩ : ∃ z : Nat → Int32, z = upd f45 (15 : Int32).toNatClampNeg x47 := ⟨_, rfl⟩
  have hP : va_P D CL [(mo, .inr (11, mC 0 0 pe ep sz nx fr so wr wa as ak ab ar g)), (ab, .inl (cI, 600, .inl f48))] H := by rw [ef48]; exact hP
  have hD : va_D A [(mo, .inr (11, mC 0 0 pe ep sz nx fr so wr wa as ak ab ar g)), (ab, .inl (cI, 600, .inl f48))] := by rw [ef48]; exact hD
  refine lv_iinc (v := 16) (lv' := [(6, .int 16), (7, .int a3), (0, .ref mo), (1, .int a0), (2, .int a1), (3, .int a2), (4, .int a3), (5, .int a4)]) hx hb dX12_append_107 hl (k := 1) rfl (by decide) (by decide) rfl (fun ls hl => ?_)
  refine lv_goto (tgt := 23) hx hb dX12_append_110 (by decide) ?_
  refine lv_iload hx hb dX12_append_23 (lv_at hl 0 rfl) ?_
  refine lv_bipush (v := 20) hx hb dX12_append_25 (by decide) ?_
  refine lv_icmp_ge (tgt := 113) hx hb dX12_append_27 (by decide) (fun h => absurd h (by decide)) (fun _ => ?_)
  refine lv_iload hx hb dX12_append_30 (lv_at hl 0 rfl) ?_
  refine lv_iconst (v := 4) hx hb dX12_append_32 (by decide) ?_
  refine lv_icmp_ge (tgt := 40) hx hb dX12_append_33 (by decide) (fun _ => ?_) (fun h => absurd (by decide) h)
  refine lv_iload hx hb dX12_append_40 (lv_at hl 0 rfl) ?_
  refine lv_bipush (v := 8) hx hb dX12_append_42 (by decide) ?_
  refine lv_icmp_ge (tgt := 51) hx hb dX12_append_44 (by decide) (fun _ => ?_) (fun h => absurd (by decide) h)
  refine lv_iload hx hb dX12_append_51 (lv_at hl 0 rfl) ?_
  refine lv_bipush (v := 12) hx hb dX12_append_53 (by decide) ?_
  refine lv_icmp_ge (tgt := 62) hx hb dX12_append_55 (by decide) (fun _ => ?_) (fun h => absurd (by decide) h)
  refine lv_iload hx hb dX12_append_62 (lv_at hl 0 rfl) ?_
  refine lv_bipush (v := 16) hx hb dX12_append_64 (by decide) ?_
  refine lv_icmp_ge (tgt := 74) hx hb dX12_append_66 (by decide) (fun _ => ?_) (fun h => absurd (by decide) h)
  refine lv_iload hx hb dX12_append_74 (lv_at hl 7 rfl) ?_
  refine lv_istore (lv' := [(7, .int a4), (6, .int 16), (0, .ref mo), (1, .int a0), (2, .int a1), (3, .int a2), (4, .int a3), (5, .int a4)]) hx hb dX12_append_76 hl (by decide) rfl (fun ls hl => ?_)
  refine lv_aload_n hx hb dX12_append_78 rfl (lv_at hl 2 rfl) ?_
  refine r_get (v := .ref ab) C hP 0 rfl fg_X12_20 rfl dX12_append_79 ?_
  refine lv_aload_n hx hb dX12_append_82 rfl (lv_at hl 2 rfl) ?_
  refine r_get (v := .int 0) C hP 0 rfl fg_X12_90 rfl dX12_append_83 ?_
  refine lv_iload hx hb dX12_append_86 (lv_at hl 1 rfl) ?_
  refine lv_iadd hx hb dX12_append_88 ?_
  refine W.eq (g2 := F0 m 89 ls [.int 16, .ref ab]) rfl ?_
  refine lv_iload hx hb dX12_append_89 (lv_at hl 0 rfl) ?_
  refine lv_bipush (v := 24) hx hb dX12_append_91 (by decide) ?_
  refine lv_bipush (v := 8) hx hb dX12_append_93 (by decide) ?_
  refine lv_iload hx hb dX12_append_95 (lv_at hl 1 rfl) ?_
  refine lv_iconst (v := 4) hx hb dX12_append_97 (by decide) ?_
  refine lv_irem hx hb dX12_append_98 (by decide) ?_
  refine W.eq (g2 := F0 m 99 ls [.int 0, .int 8, .int 24, .int a4, .int 16, .ref ab]) rfl ?_
  refine lv_imul hx hb dX12_append_99 ?_
  refine W.eq (g2 := F0 m 100 ls [.int 0, .int 24, .int a4, .int 16, .ref ab]) rfl ?_
  refine lv_isub hx hb dX12_append_100 ?_
  refine W.eq (g2 := F0 m 101 ls [.int 24, .int a4, .int 16, .ref ab]) rfl ?_
  refine lv_ishr hx hb dX12_append_101 ?_
  refine lv_topi (fun x49 ex49 => ?_)
  refine lv_sipush (v := 255) hx hb dX12_append_102 (by decide) ?_
  refine lv_iand hx hb dX12_append_105 ?_
  refine lv_topi (fun x50 ex50 => ?_)
  refine va_iast hx hb C.2.2.2.2.2.1 hP hD hS 1 0 rfl rfl (by unfold vp_in; decide) dX12_append_106 (fun H locs hP hD hS => ?_)
  obtain ⟨f51, ef51⟩ : ∃ z : Nat → Int32, z = upd f48 (16 : Int32).toNatClampNeg x50 := ⟨_, rfl⟩
  have hP : va_P D CL [(mo, .inr (11, mC 0 0 pe ep sz nx fr so wr wa as ak ab ar g)), (ab, .inl (cI, 600, .inl f51))] H := by rw [ef51]; exact hP
  have hD : va_D A [(mo, .inr (11, mC 0 0 pe ep sz nx fr so wr wa as ak ab ar g)), (ab, .inl (cI, 600, .inl f51))] := by rw [ef51]; exact hD
  refine lv_iinc (v := 17) (lv' := [(6, .int 17), (7, .int a4), (0, .ref mo), (1, .int a0), (2, .int a1), (3, .int a2), (4, .int a3), (5, .int a4)]) hx hb dX12_append_107 hl (k := 1) rfl (by decide) (by decide) rfl (fun ls hl => ?_)
  refine lv_goto (tgt := 23) hx hb dX12_append_110 (by decide) ?_
  refine lv_iload hx hb dX12_append_23 (lv_at hl 0 rfl) ?_
  refine lv_bipush (v := 20) hx hb dX12_append_25 (by decide) ?_
  refine lv_icmp_ge (tgt := 113) hx hb dX12_append_27 (by decide) (fun h => absurd h (by decide)) (fun _ => ?_)
  refine lv_iload hx hb dX12_append_30 (lv_at hl 0 rfl) ?_
  refine lv_iconst (v := 4) hx hb dX12_append_32 (by decide) ?_
  refine lv_icmp_ge (tgt := 40) hx hb dX12_append_33 (by decide) (fun _ => ?_) (fun h => absurd (by decide) h)
  refine lv_iload hx hb dX12_append_40 (lv_at hl 0 rfl) ?_
  refine lv_bipush (v := 8) hx hb dX12_append_42 (by decide) ?_
  refine lv_icmp_ge (tgt := 51) hx hb dX12_append_44 (by decide) (fun _ => ?_) (fun h => absurd (by decide) h)
  refine lv_iload hx hb dX12_append_51 (lv_at hl 0 rfl) ?_
  refine lv_bipush (v := 12) hx hb dX12_append_53 (by decide) ?_
  refine lv_icmp_ge (tgt := 62) hx hb dX12_append_55 (by decide) (fun _ => ?_) (fun h => absurd (by decide) h)
  refine lv_iload hx hb dX12_append_62 (lv_at hl 0 rfl) ?_
  refine lv_bipush (v := 16) hx hb dX12_append_64 (by decide) ?_
  refine lv_icmp_ge (tgt := 74) hx hb dX12_append_66 (by decide) (fun _ => ?_) (fun h => absurd (by decide) h)
  refine lv_iload hx hb dX12_append_74 (lv_at hl 7 rfl) ?_
  refine lv_istore (lv' := [(7, .int a4), (6, .int 17), (0, .ref mo), (1, .int a0), (2, .int a1), (3, .int a2), (4, .int a3), (5, .int a4)]) hx hb dX12_append_76 hl (by decide) rfl (fun ls hl => ?_)
  refine lv_aload_n hx hb dX12_append_78 rfl (lv_at hl 2 rfl) ?_
  refine r_get (v := .ref ab) C hP 0 rfl fg_X12_20 rfl dX12_append_79 ?_
  refine lv_aload_n hx hb dX12_append_82 rfl (lv_at hl 2 rfl) ?_
  refine r_get (v := .int 0) C hP 0 rfl fg_X12_90 rfl dX12_append_83 ?_
  refine lv_iload hx hb dX12_append_86 (lv_at hl 1 rfl) ?_
  refine lv_iadd hx hb dX12_append_88 ?_
  refine W.eq (g2 := F0 m 89 ls [.int 17, .ref ab]) rfl ?_
  refine lv_iload hx hb dX12_append_89 (lv_at hl 0 rfl) ?_
  refine lv_bipush (v := 24) hx hb dX12_append_91 (by decide) ?_
  refine lv_bipush (v := 8) hx hb dX12_append_93 (by decide) ?_
  refine lv_iload hx hb dX12_append_95 (lv_at hl 1 rfl) ?_
  refine lv_iconst (v := 4) hx hb dX12_append_97 (by decide) ?_
  refine lv_irem hx hb dX12_append_98 (by decide) ?_
  refine W.eq (g2 := F0 m 99 ls [.int 1, .int 8, .int 24, .int a4, .int 17, .ref ab]) rfl ?_
  refine lv_imul hx hb dX12_append_99 ?_
  refine W.eq (g2 := F0 m 100 ls [.int 8, .int 24, .int a4, .int 17, .ref ab]) rfl ?_
  refine lv_isub hx hb dX12_append_100 ?_
  refine W.eq (g2 := F0 m 101 ls [.int 16, .int a4, .int 17, .ref ab]) rfl ?_
  refine lv_ishr hx hb dX12_append_101 ?_
  refine lv_topi (fun x52 ex52 => ?_)
  refine lv_sipush (v := 255) hx hb dX12_append_102 (by decide) ?_
  refine lv_iand hx hb dX12_append_105 ?_
  refine lv_topi (fun x53 ex53 => ?_)
  refine va_iast hx hb C.2.2.2.2.2.1 hP hD hS 1 0 rfl rfl (by unfold vp_in; decide) dX12_append_106 (fun H locs hP hD hS => ?_)
  obtain ⟨f54, ef54⟩ : ∃ z : Nat → Int32, z = upd f51 (17 : Int32).toNatClampNeg x53 := ⟨_, rfl⟩
  have hP : va_P D CL [(mo, .inr (11, mC 0 0 pe ep sz nx fr so wr wa as ak ab ar g)), (ab, .inl (cI, 600, .inl f54))] H := by rw [ef54]; exact hP
  have hD : va_D A [(mo, .inr (11, mC 0 0 pe ep sz nx fr so wr wa as ak ab ar g)), (ab, .inl (cI, 600, .inl f54))] := by rw [ef54]; exact hD
  refine lv_iinc (v := 18) (lv' := [(6, .int 18), (7, .int a4), (0, .ref mo), (1, .int a0), (2, .int a1), (3, .int a2), (4, .int a3), (5, .int a4)]) hx hb dX12_append_107 hl (k := 1) rfl (by decide) (by decide) rfl (fun ls hl => ?_)
  refine lv_goto (tgt := 23) hx hb dX12_append_110 (by decide) ?_
  refine lv_iload hx hb dX12_append_23 (lv_at hl 0 rfl) ?_
  refine lv_bipush (v := 20) hx hb dX12_append_25 (by decide) ?_
  refine lv_icmp_ge (tgt := 113) hx hb dX12_append_27 (by decide) (fun h => absurd h (by decide)) (fun _ => ?_)
  refine lv_iload hx hb dX12_append_30 (lv_at hl 0 rfl) ?_
  refine lv_iconst (v := 4) hx hb dX12_append_32 (by decide) ?_
  refine lv_icmp_ge (tgt := 40) hx hb dX12_append_33 (by decide) (fun _ => ?_) (fun h => absurd (by decide) h)
  refine lv_iload hx hb dX12_append_40 (lv_at hl 0 rfl) ?_
  refine lv_bipush (v := 8) hx hb dX12_append_42 (by decide) ?_
  refine lv_icmp_ge (tgt := 51) hx hb dX12_append_44 (by decide) (fun _ => ?_) (fun h => absurd (by decide) h)
  refine lv_iload hx hb dX12_append_51 (lv_at hl 0 rfl) ?_
  refine lv_bipush (v := 12) hx hb dX12_append_53 (by decide) ?_
  refine lv_icmp_ge (tgt := 62) hx hb dX12_append_55 (by decide) (fun _ => ?_) (fun h => absurd (by decide) h)
  refine lv_iload hx hb dX12_append_62 (lv_at hl 0 rfl) ?_
  refine lv_bipush (v := 16) hx hb dX12_append_64 (by decide) ?_
  refine lv_icmp_ge (tgt := 74) hx hb dX12_append_66 (by decide) (fun _ => ?_) (fun h => absurd (by decide) h)
  refine lv_iload hx hb dX12_append_74 (lv_at hl 7 rfl) ?_
  refine lv_istore (lv' := [(7, .int a4), (6, .int 18), (0, .ref mo), (1, .int a0), (2, .int a1), (3, .int a2), (4, .int a3), (5, .int a4)]) hx hb dX12_append_76 hl (by decide) rfl (fun ls hl => ?_)
  refine lv_aload_n hx hb dX12_append_78 rfl (lv_at hl 2 rfl) ?_
  refine r_get (v := .ref ab) C hP 0 rfl fg_X12_20 rfl dX12_append_79 ?_
  refine lv_aload_n hx hb dX12_append_82 rfl (lv_at hl 2 rfl) ?_
  refine r_get (v := .int 0) C hP 0 rfl fg_X12_90 rfl dX12_append_83 ?_
  refine lv_iload hx hb dX12_append_86 (lv_at hl 1 rfl) ?_
  refine lv_iadd hx hb dX12_append_88 ?_
  refine W.eq (g2 := F0 m 89 ls [.int 18, .ref ab]) rfl ?_
  refine lv_iload hx hb dX12_append_89 (lv_at hl 0 rfl) ?_
  refine lv_bipush (v := 24) hx hb dX12_append_91 (by decide) ?_
  refine lv_bipush (v := 8) hx hb dX12_append_93 (by decide) ?_
  refine lv_iload hx hb dX12_append_95 (lv_at hl 1 rfl) ?_
  refine lv_iconst (v := 4) hx hb dX12_append_97 (by decide) ?_
  refine lv_irem hx hb dX12_append_98 (by decide) ?_
  refine W.eq (g2 := F0 m 99 ls [.int 2, .int 8, .int 24, .int a4, .int 18, .ref ab]) rfl ?_
  refine lv_imul hx hb dX12_append_99 ?_
  refine W.eq (g2 := F0 m 100 ls [.int 16, .int 24, .int a4, .int 18, .ref ab]) rfl ?_
  refine lv_isub hx hb dX12_append_100 ?_
  refine W.eq (g2 := F0 m 101 ls [.int 8, .int a4, .int 18, .ref ab]) rfl ?_
  refine lv_ishr hx hb dX12_append_101 ?_
  refine lv_topi (fun x55 ex55 => ?_)
  refine lv_sipush (v := 255) hx hb dX12_append_102 (by decide) ?_
  refine lv_iand hx hb dX12_append_105 ?_
  refine lv_topi (fun x56 ex56 => ?_)
  refine va_iast hx hb C.2.2.2.2.2.1 hP hD hS 1 0 rfl rfl (by unfold vp_in; decide) dX12_append_106 (fun H locs hP hD hS => ?_)
  obtain ⟨f57, ef57⟩ : ∃ z : Nat → Int32, z = upd f54 (18 : Int32).toNatClampNeg x56 := ⟨_, rfl⟩
  have hP : va_P D CL [(mo, .inr (11, mC 0 0 pe ep sz nx fr so wr wa as ak ab ar g)), (ab, .inl (cI, 600, .inl f57))] H := by rw [ef57]; exact hP
  have hD : va_D A [(mo, .inr (11, mC 0 0 pe ep sz nx fr so wr wa as ak ab ar g)), (ab, .inl (cI, 600, .inl f57))] := by rw [ef57]; exact hD
  refine lv_iinc (v := 19) (lv' := [(6, .int 19), (7, .int a4), (0, .ref mo), (1, .int a0), (2, .int a1), (3, .int a2), (4, .int a3), (5, .int a4)]) hx hb dX12_append_107 hl (k := 1) rfl (by decide) (by decide) rfl (fun ls hl => ?_)
  refine lv_goto (tgt := 23) hx hb dX12_append_110 (by decide) ?_
  refine lv_iload hx hb dX12_append_23 (lv_at hl 0 rfl) ?_
  refine lv_bipush (v := 20) hx hb dX12_append_25 (by decide) ?_
  refine lv_icmp_ge (tgt := 113) hx hb dX12_append_27 (by decide) (fun h => absurd h (by decide)) (fun _ => ?_)
  refine lv_iload hx hb dX12_append_30 (lv_at hl 0 rfl) ?_
  refine lv_iconst (v := 4) hx hb dX12_append_32 (by decide) ?_
  refine lv_icmp_ge (tgt := 40) hx hb dX12_append_33 (by decide) (fun _ => ?_) (fun h => absurd (by decide) h)
  refine lv_iload hx hb dX12_append_40 (lv_at hl 0 rfl) ?_
  refine lv_bipush (v := 8) hx hb dX12_append_42 (by decide) ?_
  refine lv_icmp_ge (tgt := 51) hx hb dX12_append_44 (by decide) (fun _ => ?_) (fun h => absurd (by decide) h)
  refine lv_iload hx hb dX12_append_51 (lv_at hl 0 rfl) ?_
  refine lv_bipush (v := 12) hx hb dX12_append_53 (by decide) ?_
  refine lv_icmp_ge (tgt := 62) hx hb dX12_append_55 (by decide) (fun _ => ?_) (fun h => absurd (by decide) h)
  refine lv_iload hx hb dX12_append_62 (lv_at hl 0 rfl) ?_
  refine lv_bipush (v := 16) hx hb dX12_append_64 (by decide) ?_
  refine lv_icmp_ge (tgt := 74) hx hb dX12_append_66 (by decide) (fun _ => ?_) (fun h => absurd (by decide) h)
  refine lv_iload hx hb dX12_append_74 (lv_at hl 7 rfl) ?_
  refine lv_istore (lv' := [(7, .int a4), (6, .int 19), (0, .ref mo), (1, .int a0), (2, .int a1), (3, .int a2), (4, .int a3), (5, .int a4)]) hx hb dX12_append_76 hl (by decide) rfl (fun ls hl => ?_)
  refine lv_aload_n hx hb dX12_append_78 rfl (lv_at hl 2 rfl) ?_
  refine r_get (v := .ref ab) C hP 0 rfl fg_X12_20 rfl dX12_append_79 ?_
  refine lv_aload_n hx hb dX12_append_82 rfl (lv_at hl 2 rfl) ?_
  refine r_get (v := .int 0) C hP 0 rfl fg_X12_90 rfl dX12_append_83 ?_
  refine lv_iload hx hb dX12_append_86 (lv_at hl 1 rfl) ?_
  refine lv_iadd hx hb dX12_append_88 ?_
  refine W.eq (g2 := F0 m 89 ls [.int 19, .ref ab]) rfl ?_
  refine lv_iload hx hb dX12_append_89 (lv_at hl 0 rfl) ?_
  refine lv_bipush (v := 24) hx hb dX12_append_91 (by decide) ?_
  refine lv_bipush (v := 8) hx hb dX12_append_93 (by decide) ?_
  refine lv_iload hx hb dX12_append_95 (lv_at hl 1 rfl) ?_
  refine lv_iconst (v := 4) hx hb dX12_append_97 (by decide) ?_
  refine lv_irem hx hb dX12_append_98 (by decide) ?_
  refine W.eq (g2 := F0 m 99 ls [.int 3, .int 8, .int 24, .int a4, .int 19, .ref ab]) rfl ?_
  refine lv_imul hx hb dX12_append_99 ?_
  refine W.eq (g2 := F0 m 100 ls [.int 24, .int 24, .int a4, .int 19, .ref ab]) rfl ?_
  refine lv_isub hx hb dX12_append_100 ?_
  refine W.eq (g2 := F0 m 101 ls [.int 0, .int a4, .int 19, .ref ab]) rfl ?_
  refine lv_ishr hx hb dX12_append_101 ?_
  refine lv_topi (fun x58 ex58 => ?_)
  refine lv_sipush (v := 255) hx hb dX12_append_102 (by decide) ?_
  refine lv_iand hx hb dX12_append_105 ?_
  refine lv_topi (fun x59 ex59 => ?_)
  refine va_iast hx hb C.2.2.2.2.2.1 hP hD hS 1 0 rfl rfl (by unfold vp_in; decide) dX12_append_106 (fun H locs hP hD hS => ?_)
  obtain ⟨f60, ef60⟩ : ∃ z : Nat → Int32, z = upd f57 (19 : Int32).toNatClampNeg x59 := ⟨_, rfl⟩
  have hP : va_P D CL [(mo, .inr (11, mC 0 0 pe ep sz nx fr so wr wa as ak ab ar g)), (ab, .inl (cI, 600, .inl f60))] H := by rw [ef60]; exact hP
  have hD : va_D A [(mo, .inr (11, mC 0 0 pe ep sz nx fr so wr wa as ak ab ar g)), (ab, .inl (cI, 600, .inl f60))] := by rw [ef60]; exact hD
  refine lv_iinc (v := 20) (lv' := [(6, .int 20), (7, .int a4), (0, .ref mo), (1, .int a0), (2, .int a1), (3, .int a2), (4, .int a3), (5, .int a4)]) hx hb dX12_append_107 hl (k := 1) rfl (by decide) (by decide) rfl (fun ls hl => ?_)
  refine lv_goto (tgt := 23) hx hb dX12_append_110 (by decide) ?_
  refine lv_iload hx hb dX12_append_23 (lv_at hl 0 rfl) ?_
  refine lv_bipush (v := 20) hx hb dX12_append_25 (by decide) ?_
  refine lv_icmp_ge (tgt := 113) hx hb dX12_append_27 (by decide) (fun _ => ?_) (fun h => absurd (by decide) h)
  refine lv_aload_n hx hb dX12_append_113 rfl (lv_at hl 2 rfl) ?_
  refine lv_dup hx hb dX12_append_114 rfl ?_
  refine r_get (v := .int 0) C hP 0 rfl fg_X12_90 rfl dX12_append_115 ?_
  refine lv_bipush (v := 20) hx hb dX12_append_118 (by decide) ?_
  refine lv_iadd hx hb dX12_append_120 ?_
  refine W.eq (g2 := F0 m 121 ls [.int 20, .ref mo]) rfl ?_
  refine r_put C hP hD hS 0 rfl fg_X12_90 rfl rfl (Nat.le_of_ble_eq_true rfl) dX12_append_121 [(mo, .inr (11, mC 0 20 pe ep sz nx fr so wr wa as ak ab ar g)), (ab, .inl (cI, 600, .inl f60))] rfl (fun H locs hP hD hS => ?_)
  refine lv_aload_n hx hb dX12_append_124 rfl (lv_at hl 2 rfl) ?_
  refine r_get (v := .int 20) C hP 0 rfl fg_X12_90 rfl dX12_append_125 ?_
  exact r_iret C hP hD hS f60 rfl rfl (Nat.le_of_ble_eq_true rfl) (Nat.le_of_ble_eq_true rfl) dX12_append_128
