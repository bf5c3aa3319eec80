set_option maxHeartbeats 4000000 in
set_option maxRecDepth 100000 in
theorem m_load_l (l : Launch) (D : va_G) (cI cZ cJ : ClassId) (mo : Nat) (bu : Int32) (pe : Int32) (ep : Int32) (sz : Int32) (nx : Int32) (fr : Int32) (so : Int32) (wr : Int32) (wa : Int32) (as : Nat) (ak : Nat) (ab : Nat) (ar : Nat) (g : Nat → Value) (th : Int32) (a0 : Int32) (h1 : a0 < 0) : cM l yX12_load cX12_load 3 (some .int) D (TT cI cZ cJ) [.ref mo, .int a0] [(mo, .inr (11, mC th bu pe ep sz nx fr so wr wa as ak ab ar g))] (qI D (TT cI cZ cJ) (fun u : Unit => 0) (fun u : Unit => [(mo, .inr (11, mC 1 bu pe ep sz nx fr so wr wa as ak ab ar g))])) 1 0 0 := by
  refine enterM (by decide) (Nat.le_of_ble_eq_true rfl) ?_
  intro p e s m below meth c ls A C hP hD hS hl
  have hx := C.1
  have hb := C.2.1
  have hl : lv_has ls 3 [(0, .ref mo), (1, .int a0)] := hl
  refine lv_aload_n hx hb dX12_load_0 rfl (lv_at hl 0 rfl) ?_
  refine lv_iconst (v := 0) hx hb dX12_load_1 (by decide) ?_
  refine r_put C hP hD hS 0 rfl fg_X12_79 rfl rfl (Nat.le_of_ble_eq_true rfl) dX12_load_2 [(mo, .inr (11, mC 0 bu pe ep sz nx fr so wr wa as ak ab ar g))] rfl (fun H locs hP hD hS => ?_)
  refine lv_aload_n hx hb dX12_load_5 rfl (lv_at hl 0 rfl) ?_
  refine lv_iload_n hx hb dX12_load_6 rfl (lv_at hl 1 rfl) ?_
  refine lv_iconst (v := 0) hx hb dX12_load_7 (by decide) ?_
  refine lv_aload_n hx hb dX12_load_8 rfl (lv_at hl 0 rfl) ?_
  refine r_get (v := .int bu) C hP 0 rfl fg_X12_90 rfl dX12_load_9 ?_
  refine call_i (wr := [(mo, .inr (11, mC 0 bu pe ep sz nx fr so wr wa as ak ab ar g))]) C (run_S (As := [.int a0, .int 0, .int bu]) (rest := [.ref mo]) C (m_in_l l D cI cZ cJ a0 0 bu h1) cS_X12_148 hP hD hS [] rfl rfl rfl hl.1 rfl (Nat.le_of_ble_eq_true rfl) dX12_load_12 ⟨Nat.le_of_ble_eq_true rfl, Nat.le_of_ble_eq_true rfl⟩ ⟨Nat.le_of_ble_eq_true rfl, Nat.le_of_ble_eq_true rfl⟩) hP hD hS [] [0] rfl rfl rfl (by decide) (fun u1 H locs hP hD hS => ?_)
  have hP : va_P D CL [(mo, .inr (11, mC 0 bu pe ep sz nx fr so wr wa as ak ab ar g))] H := hP
  have hD : va_D A [(mo, .inr (11, mC 0 bu pe ep sz nx fr so wr wa as ak ab ar g))] := hD
  refine W.widen (k := 0) (n := 0) (Nat.le_of_ble_eq_true rfl) (Nat.le_of_ble_eq_true rfl) ?_
  refine W.eq (g2 := F0 m 15 ls [.int 0, .ref mo]) rfl ?_
  refine lv_if_ne (tgt := 22) hx hb dX12_load_15 (by decide) (fun h => absurd h (by decide)) (fun _ => ?_)
  refine lv_iconst (v := 1) hx hb dX12_load_18 (by decide) ?_
  refine lv_goto (tgt := 23) hx hb dX12_load_19 (by decide) ?_
  refine lv_iconst (v := 1) hx hb dX12_load_23 (by decide) ?_
  refine call_i (wr := []) C (run_V (As := [.int 1, .int 1]) (rest := []) C (m_refuse_y l D cI cZ cJ mo bu pe ep sz nx fr so wr wa as ak ab ar g 1 (by decide)) cV_X12_86 hP hD hS [0] rfl rfl 0 rfl rfl rfl rfl hl.1 rfl (Nat.le_of_ble_eq_true rfl) dX12_load_24 ⟨Nat.le_of_ble_eq_true rfl, Nat.le_of_ble_eq_true rfl⟩ ⟨Nat.le_of_ble_eq_true rfl, Nat.le_of_ble_eq_true rfl⟩) hP hD hS [0] [] rfl rfl rfl (by decide) (fun u2 H locs hP hD hS => ?_)
  have hP : va_P D CL [(mo, .inr (11, mC 1 bu pe ep sz nx fr so wr wa as ak ab ar g))] H := hP
  have hD : va_D A [(mo, .inr (11, mC 1 bu pe ep sz nx fr so wr wa as ak ab ar g))] := hD
  refine W.widen (k := 0) (n := 0) (Nat.le_of_ble_eq_true rfl) (Nat.le_of_ble_eq_true rfl) ?_
  refine W.eq (g2 := F0 m 27 ls [.int 1]) rfl ?_
  refine lv_if_eq (tgt := 32) hx hb dX12_load_27 (by decide) (fun h => absurd h (by decide)) (fun _ => ?_)
  refine lv_iconst (v := 0) hx hb dX12_load_30 (by decide) ?_
  exact r_iret C hP hD hS () rfl rfl (Nat.le_of_ble_eq_true rfl) (Nat.le_of_ble_eq_true rfl) dX12_load_31
set_option maxHeartbeats 4000000 in
set_option maxRecDepth 100000 in
theorem m_load_g (l : Launch) (D : va_G) (cI cZ cJ : ClassId) (mo : Nat) (pe : Int32) (ep : Int32) (sz : Int32) (nx : Int32) (fr : Int32) (so : Int32) (wr : Int32) (wa : Int32) (as : Nat) (ak : Nat) (ab : Nat) (ar : Nat) (g : Nat → Value) (th : Int32) (a0 : Int32) (h1 : ¬ a0 < 0) (h2 : 0 < a0) : cM l yX12_load cX12_load 3 (some .int) D (TT cI cZ cJ) [.ref mo, .int a0] [(mo, .inr (11, mC th 0 pe ep sz nx fr so wr wa as ak ab ar g))] (qI D (TT cI cZ cJ) (fun u : Unit => 0) (fun u : Unit => [(mo, .inr (11, mC 1 0 pe ep sz nx fr so wr wa as ak ab ar g))])) 1 0 0 := by
  refine enterM (by decide) (Nat.le_of_ble_eq_true rfl) ?_
  intro p e s m below meth c ls A C hP hD hS hl
  have hx := C.1
  have hb := C.2.1
  have hl : lv_has ls 3 [(0, .ref mo), (1, .int a0)] := hl
  refine lv_aload_n hx hb dX12_load_0 rfl (lv_at hl 0 rfl) ?_
  refine lv_iconst (v := 0) hx hb dX12_load_1 (by decide) ?_
  refine r_put C hP hD hS 0 rfl fg_X12_79 rfl rfl (Nat.le_of_ble_eq_true rfl) dX12_load_2 [(mo, .inr (11, mC 0 0 pe ep sz nx fr so wr wa as ak ab ar g))] rfl (fun H locs hP hD hS => ?_)
  refine lv_aload_n hx hb dX12_load_5 rfl (lv_at hl 0 rfl) ?_
  refine lv_iload_n hx hb dX12_load_6 rfl (lv_at hl 1 rfl) ?_
  refine lv_iconst (v := 0) hx hb dX12_load_7 (by decide) ?_
  refine lv_aload_n hx hb dX12_load_8 rfl (lv_at hl 0 rfl) ?_
  refine r_get (v := .int 0) C hP 0 rfl fg_X12_90 rfl dX12_load_9 ?_
  refine call_i (wr := [(mo, .inr (11, mC 0 0 pe ep sz nx fr so wr wa as ak ab ar g))]) C (run_S (As := [.int a0, .int 0, .int 0]) (rest := [.ref mo]) C (m_in_g l D cI cZ cJ a0 0 0 h1 h2) cS_X12_148 hP hD hS [] rfl rfl rfl hl.1 rfl (Nat.le_of_ble_eq_true rfl) dX12_load_12 ⟨Nat.le_of_ble_eq_true rfl, Nat.le_of_ble_eq_true rfl⟩ ⟨Nat.le_of_ble_eq_true rfl, Nat.le_of_ble_eq_true rfl⟩) hP hD hS [] [0] rfl rfl rfl (by decide) (fun u1 H locs hP hD hS => ?_)
  have hP : va_P D CL [(mo, .inr (11, mC 0 0 pe ep sz nx fr so wr wa as ak ab ar g))] H := hP
  have hD : va_D A [(mo, .inr (11, mC 0 0 pe ep sz nx fr so wr wa as ak ab ar g))] := hD
  refine W.widen (k := 0) (n := 0) (Nat.le_of_ble_eq_true rfl) (Nat.le_of_ble_eq_true rfl) ?_
  refine W.eq (g2 := F0 m 15 ls [.int 0, .ref mo]) rfl ?_
  refine lv_if_ne (tgt := 22) hx hb dX12_load_15 (by decide) (fun h => absurd h (by decide)) (fun _ => ?_)
  refine lv_iconst (v := 1) hx hb dX12_load_18 (by decide) ?_
  refine lv_goto (tgt := 23) hx hb dX12_load_19 (by decide) ?_
  refine lv_iconst (v := 1) hx hb dX12_load_23 (by decide) ?_
  refine call_i (wr := []) C (run_V (As := [.int 1, .int 1]) (rest := []) C (m_refuse_y l D cI cZ cJ mo 0 pe ep sz nx fr so wr wa as ak ab ar g 1 (by decide)) cV_X12_86 hP hD hS [0] rfl rfl 0 rfl rfl rfl rfl hl.1 rfl (Nat.le_of_ble_eq_true rfl) dX12_load_24 ⟨Nat.le_of_ble_eq_true rfl, Nat.le_of_ble_eq_true rfl⟩ ⟨Nat.le_of_ble_eq_true rfl, Nat.le_of_ble_eq_true rfl⟩) hP hD hS [0] [] rfl rfl rfl (by decide) (fun u2 H locs hP hD hS => ?_)
  have hP : va_P D CL [(mo, .inr (11, mC 1 0 pe ep sz nx fr so wr wa as ak ab ar g))] H := hP
  have hD : va_D A [(mo, .inr (11, mC 1 0 pe ep sz nx fr so wr wa as ak ab ar g))] := hD
  refine W.widen (k := 0) (n := 0) (Nat.le_of_ble_eq_true rfl) (Nat.le_of_ble_eq_true rfl) ?_
  refine W.eq (g2 := F0 m 27 ls [.int 1]) rfl ?_
  refine lv_if_eq (tgt := 32) hx hb dX12_load_27 (by decide) (fun h => absurd h (by decide)) (fun _ => ?_)
  refine lv_iconst (v := 0) hx hb dX12_load_30 (by decide) ?_
  exact r_iret C hP hD hS () rfl rfl (Nat.le_of_ble_eq_true rfl) (Nat.le_of_ble_eq_true rfl) dX12_load_31
set_option maxHeartbeats 4000000 in
set_option maxRecDepth 100000 in
theorem m_seen (l : Launch) (D : va_G) (cI cZ cJ : ClassId) (mo : Nat) (bu : Int32) (pe : Int32) (ep : Int32) (nx : Int32) (fr : Int32) (so : Int32) (wr : Int32) (wa : Int32) (as : Nat) (ak : Nat) (ab : Nat) (ar : Nat) (g : Nat → Value) (th : Int32)  : cM l yX12_seen cX12_seen 2 (some .int) D (TT cI cZ cJ) [.ref mo, .int 0] [(mo, .inr (11, mC th bu pe ep 0 nx fr so wr wa as ak ab ar g))] (qI D (TT cI cZ cJ) (fun u : Unit => -1) (fun u : Unit => [(mo, .inr (11, mC th bu pe ep 0 nx fr so wr wa as ak ab ar g))])) 0 0 0 := by
  refine enterM (by decide) (Nat.le_of_ble_eq_true rfl) ?_
  intro p e s m below meth c ls A C hP hD hS hl
  have hx := C.1
  have hb := C.2.1
  have hl : lv_has ls 2 [(0, .ref mo), (1, .int 0)] := hl
  refine lv_iload_n hx hb dX12_seen_0 rfl (lv_at hl 1 rfl) ?_
  refine lv_aload_n hx hb dX12_seen_1 rfl (lv_at hl 0 rfl) ?_
  refine r_get (v := .int 0) C hP 0 rfl fg_X12_96 rfl dX12_seen_2 ?_
  refine lv_icmp_ge (tgt := 17) hx hb dX12_seen_5 (by decide) (fun _ => ?_) (fun h => absurd (by decide) h)
  refine lv_iconst (v := -1) hx hb dX12_seen_17 (by decide) ?_
  exact r_iret C hP hD hS () rfl rfl (Nat.le_of_ble_eq_true rfl) (Nat.le_of_ble_eq_true rfl) dX12_seen_18
set_option maxHeartbeats 4000000 in
set_option maxRecDepth 100000 in
theorem m_token (l : Launch) (D : va_G) (cI cZ cJ : ClassId) (mo : Nat) (bu : Int32) (pe : Int32) (ep : Int32) (fr : Int32) (so : Int32) (wr : Int32) (wa : Int32) (as : Nat) (ak : Nat) (ab : Nat) (ar : Nat) (g : Nat → Value) (th : Int32)  : cM l yX12_token cX12_token 3 none D (TT cI cZ cJ) [.ref mo] [(mo, .inr (11, mC th bu pe ep 0 0 fr so wr wa as ak ab ar g))] (qV D (TT cI cZ cJ) (fun u : Unit => [(mo, .inr (11, mC th bu pe ep 0 0 0 0 wr wa as ak ab ar g))])) 1 0 0 := by
  refine enterM (by decide) (Nat.le_of_ble_eq_true rfl) ?_
  intro p e s m below meth c ls A C hP hD hS hl
  have hx := C.1
  have hb := C.2.1
  have hl : lv_has ls 3 [(0, .ref mo)] := hl
  refine lv_aload_n hx hb dX12_token_0 rfl (lv_at hl 0 rfl) ?_
  refine lv_aload_n hx hb dX12_token_1 rfl (lv_at hl 0 rfl) ?_
  refine r_get (v := .int 0) C hP 0 rfl fg_X12_99 rfl dX12_token_2 ?_
  refine call_i (wr := []) C (run_V (As := [.int 0]) (rest := []) C (m_seen l D cI cZ cJ mo bu pe ep 0 fr so wr wa as ak ab ar g th ) cV_X12_102 hP hD hS [0] rfl rfl 0 rfl rfl rfl rfl hl.1 rfl (Nat.le_of_ble_eq_true rfl) dX12_token_5 ⟨Nat.le_of_ble_eq_true rfl, Nat.le_of_ble_eq_true rfl⟩ ⟨Nat.le_of_ble_eq_true rfl, Nat.le_of_ble_eq_true rfl⟩) hP hD hS [0] [] rfl rfl rfl (by decide) (fun u1 H locs hP hD hS => ?_)
  have hP : va_P D CL [(mo, .inr (11, mC th bu pe ep 0 0 fr so wr wa as ak ab ar g))] H := hP
  have hD : va_D A [(mo, .inr (11, mC th bu pe ep 0 0 fr so wr wa as ak ab ar g))] := hD
  refine W.widen (k := 0) (n := 0) (Nat.le_of_ble_eq_true rfl) (Nat.le_of_ble_eq_true rfl) ?_
  refine W.eq (g2 := F0 m 8 ls [.int (-1)]) rfl ?_
  refine lv_bipush (v := 32) hx hb dX12_token_8 (by decide) ?_
  refine lv_icmp_ne (tgt := 26) hx hb dX12_token_10 (by decide) (fun _ => ?_) (fun h => absurd h (by decide))
  refine lv_aload_n hx hb dX12_token_26 rfl (lv_at hl 0 rfl) ?_
  refine lv_aload_n hx hb dX12_token_27 rfl (lv_at hl 0 rfl) ?_
  refine r_get (v := .int 0) C hP 0 rfl fg_X12_99 rfl dX12_token_28 ?_
  refine r_put C hP hD hS 0 rfl fg_X12_106 rfl rfl (Nat.le_of_ble_eq_true rfl) dX12_token_31 [(mo, .inr (11, mC th bu pe ep 0 0 0 so wr wa as ak ab ar g))] rfl (fun H locs hP hD hS => ?_)
  refine lv_aload_n hx hb dX12_token_34 rfl (lv_at hl 0 rfl) ?_
  refine lv_aload_n hx hb dX12_token_35 rfl (lv_at hl 0 rfl) ?_
  refine r_get (v := .int 0) C hP 0 rfl fg_X12_99 rfl dX12_token_36 ?_
  refine call_i (wr := []) C (run_V (As := [.int 0]) (rest := []) C (m_seen l D cI cZ cJ mo bu pe ep 0 0 so wr wa as ak ab ar g th ) cV_X12_102 hP hD hS [0] rfl rfl 0 rfl rfl rfl rfl hl.1 rfl (Nat.le_of_ble_eq_true rfl) dX12_token_39 ⟨Nat.le_of_ble_eq_true rfl, Nat.le_of_ble_eq_true rfl⟩ ⟨Nat.le_of_ble_eq_true rfl, Nat.le_of_ble_eq_true rfl⟩) hP hD hS [0] [] rfl rfl rfl (by decide) (fun u2 H locs hP hD hS => ?_)
  have hP : va_P D CL [(mo, .inr (11, mC th bu pe ep 0 0 0 so wr wa as ak ab ar g))] H := hP
  have hD : va_D A [(mo, .inr (11, mC th bu pe ep 0 0 0 so wr wa as ak ab ar g))] := hD
  refine W.widen (k := 0) (n := 0) (Nat.le_of_ble_eq_true rfl) (Nat.le_of_ble_eq_true rfl) ?_
  refine W.eq (g2 := F0 m 42 ls [.int (-1)]) rfl ?_
  refine lv_istore_n (lv' := [(1, .int (-1)), (0, .ref mo)]) hx hb dX12_token_42 rfl hl (by decide) rfl (fun ls hl => ?_)
  refine lv_iload_n hx hb dX12_token_43 rfl (lv_at hl 0 rfl) ?_
  refine lv_iconst (v := -1) hx hb dX12_token_44 (by decide) ?_
  refine lv_icmp_ne (tgt := 56) hx hb dX12_token_45 (by decide) (fun h => absurd h (by decide)) (fun _ => ?_)
  refine lv_aload_n hx hb dX12_token_48 rfl (lv_at hl 1 rfl) ?_
  refine lv_iconst (v := 0) hx hb dX12_token_49 (by decide) ?_
  refine r_put C hP hD hS 0 rfl fg_X12_109 rfl rfl (Nat.le_of_ble_eq_true rfl) dX12_token_50 [(mo, .inr (11, mC th bu pe ep 0 0 0 0 wr wa as ak ab ar g))] rfl (fun H locs hP hD hS => ?_)
  refine lv_goto (tgt := 270) hx hb dX12_token_53 (by decide) ?_
  exact r_vret C hP hD hS () rfl (Nat.le_of_ble_eq_true rfl) (Nat.le_of_ble_eq_true rfl) dX12_token_270
set_option maxHeartbeats 4000000 in
set_option maxRecDepth 100000 in
theorem m_isWord (l : Launch) (D : va_G) (cI cZ cJ : ClassId) (mo : Nat) (bu : Int32) (pe : Int32) (ep : Int32) (sz : Int32) (nx : Int32) (fr : Int32) (wa : Int32) (as : Nat) (ak : Nat) (ab : Nat) (ar : Nat) (g : Nat → Value) (th : Int32) (st0 : Nat)  : cM l yX12_isWord cX12_isWord 3 (some .boolean) D (TT cI cZ cJ) [.ref mo, .ref st0] [(mo, .inr (11, mC th bu pe ep sz nx fr 0 0 wa as ak ab ar g))] (qI D (TT cI cZ cJ) (fun u : Unit => 0) (fun u : Unit => [(mo, .inr (11, mC th bu pe ep sz nx fr 0 0 wa as ak ab ar g))])) 0 0 0 := by
  refine enterM (by decide) (Nat.le_of_ble_eq_true rfl) ?_
  intro p e s m below meth c ls A C hP hD hS hl
  have hx := C.1
  have hb := C.2.1
  have hl : lv_has ls 3 [(0, .ref mo), (1, .ref st0)] := hl
  refine lv_aload_n hx hb dX12_isWord_0 rfl (lv_at hl 0 rfl) ?_
  refine r_get (v := .int 0) C hP 0 rfl fg_X12_125 rfl dX12_isWord_1 ?_
  refine lv_if_ne (tgt := 26) hx hb dX12_isWord_4 (by decide) (fun h => absurd h (by decide)) (fun _ => ?_)
  refine lv_aload_n hx hb dX12_isWord_7 rfl (lv_at hl 0 rfl) ?_
  refine r_get (v := .int 0) C hP 0 rfl fg_X12_109 rfl dX12_isWord_8 ?_
  refine lv_iconst (v := 1) hx hb dX12_isWord_11 (by decide) ?_
  refine lv_icmp_ne (tgt := 26) hx hb dX12_isWord_12 (by decide) (fun _ => ?_) (fun h => absurd h (by decide))
  refine lv_iconst (v := 0) hx hb dX12_isWord_26 (by decide) ?_
  exact r_zret C hP hD hS () rfl rfl rfl (Nat.le_of_ble_eq_true rfl) (Nat.le_of_ble_eq_true rfl) dX12_isWord_27
set_option maxHeartbeats 4000000 in
set_option maxRecDepth 100000 in
theorem m_fails (l : Launch) (D : va_G) (cI cZ cJ : ClassId) (mo : Nat) (bu : Int32) (pe : Int32) (ep : Int32) (sz : Int32) (nx : Int32) (so : Int32) (wa : Int32) (as : Nat) (ak : Nat) (ab : Nat) (ar : Nat) (g : Nat → Value) (th : Int32)  : cM l yX12_fails cX12_fails 2 none D (TT cI cZ cJ) [.ref mo, .int 1] [(mo, .inr (11, mC th bu pe ep sz nx 0 so 0 wa as ak ab ar g))] (qV D (TT cI cZ cJ) (fun u : Unit => [(mo, .inr (11, mC th bu pe ep sz nx 0 so 1 0 as ak ab ar g))])) 0 0 0 := by
  refine enterM (by decide) (Nat.le_of_ble_eq_true rfl) ?_
  intro p e s m below meth c ls A C hP hD hS hl
  have hx := C.1
  have hb := C.2.1
  have hl : lv_has ls 2 [(0, .ref mo), (1, .int 1)] := hl
  refine lv_aload_n hx hb dX12_fails_0 rfl (lv_at hl 0 rfl) ?_
  refine r_get (v := .int 0) C hP 0 rfl fg_X12_125 rfl dX12_fails_1 ?_
  refine lv_if_ne (tgt := 20) hx hb dX12_fails_4 (by decide) (fun h => absurd h (by decide)) (fun _ => ?_)
  refine lv_aload_n hx hb dX12_fails_7 rfl (lv_at hl 0 rfl) ?_
  refine lv_iload_n hx hb dX12_fails_8 rfl (lv_at hl 1 rfl) ?_
  refine r_put C hP hD hS 0 rfl fg_X12_125 rfl rfl (Nat.le_of_ble_eq_true rfl) dX12_fails_9 [(mo, .inr (11, mC th bu pe ep sz nx 0 so 1 wa as ak ab ar g))] rfl (fun H locs hP hD hS => ?_)
  refine lv_aload_n hx hb dX12_fails_12 rfl (lv_at hl 0 rfl) ?_
  refine lv_aload_n hx hb dX12_fails_13 rfl (lv_at hl 0 rfl) ?_
  refine r_get (v := .int 0) C hP 0 rfl fg_X12_106 rfl dX12_fails_14 ?_
  refine r_put C hP hD hS 0 rfl fg_X12_128 rfl rfl (Nat.le_of_ble_eq_true rfl) dX12_fails_17 [(mo, .inr (11, mC th bu pe ep sz nx 0 so 1 0 as ak ab ar g))] rfl (fun H locs hP hD hS => ?_)
  exact r_vret C hP hD hS () rfl (Nat.le_of_ble_eq_true rfl) (Nat.le_of_ble_eq_true rfl) dX12_fails_20
set_option maxHeartbeats 4000000 in
set_option maxRecDepth 100000 in
theorem m_goesOn (l : Launch) (D : va_G) (cI cZ cJ : ClassId) (mo : Nat) (bu : Int32) (pe : Int32) (ep : Int32) (sz : Int32) (nx : Int32) (fr : Int32) (so : Int32) (wa : Int32) (as : Nat) (ak : Nat) (ab : Nat) (ar : Nat) (g : Nat → Value) (th : Int32)  : cM l yX12_goesOn cX12_goesOn 1 none D (TT cI cZ cJ) [.ref mo] [(mo, .inr (11, mC th bu pe ep sz nx fr so 1 wa as ak ab ar g))] (qV D (TT cI cZ cJ) (fun u : Unit => [(mo, .inr (11, mC th bu pe ep sz nx fr so 1 wa as ak ab ar g))])) 0 0 0 := by
  refine enterM (by decide) (Nat.le_of_ble_eq_true rfl) ?_
  intro p e s m below meth c ls A C hP hD hS hl
  have hx := C.1
  have hb := C.2.1
  have hl : lv_has ls 1 [(0, .ref mo)] := hl
  refine lv_aload_n hx hb dX12_goesOn_0 rfl (lv_at hl 0 rfl) ?_
  refine r_get (v := .int 1) C hP 0 rfl fg_X12_125 rfl dX12_goesOn_1 ?_
  refine lv_if_ne (tgt := 11) hx hb dX12_goesOn_4 (by decide) (fun _ => ?_) (fun h => absurd h (by decide))
  exact r_vret C hP hD hS () rfl (Nat.le_of_ble_eq_true rfl) (Nat.le_of_ble_eq_true rfl) dX12_goesOn_11
set_option maxHeartbeats 4000000 in
set_option maxRecDepth 100000 in
theorem m_polygonLine (l : Launch) (D : va_G) (cI cZ cJ : ClassId) (mo : Nat) (bu : Int32) (pe : Int32) (ep : Int32) (sz : Int32) (nx : Int32) (wa : Int32) (as : Nat) (ak : Nat) (ab : Nat) (ar : Nat) (g : Nat → Value) (th : Int32)  : cM l yX12_polygonLine cX12_polygonLine 3 none D (TT cI cZ cJ) [.ref mo] [(mo, .inr (11, mC th bu pe ep sz nx 0 0 0 wa as ak ab ar g))] (qV D (TT cI cZ cJ) (fun u : Unit => [(mo, .inr (11, mC th bu pe ep sz nx 0 0 1 0 as ak ab ar g))])) 1 0 0 := by
  refine enterM (by decide) (Nat.le_of_ble_eq_true rfl) ?_
  intro p e s m below meth c ls A C hP hD hS hl
  have hx := C.1
  have hb := C.2.1
  have hl : lv_has ls 3 [(0, .ref mo)] := hl
  refine lv_aload_n hx hb dX12_polygonLine_0 rfl (lv_at hl 0 rfl) ?_
  refine r_ldcS (text := "polygon") C (by decide) dX12_polygonLine_1 (fun q1 => ?_)
  refine call_i (wr := []) C (run_V (As := [.ref q1]) (rest := []) C (m_isWord l D cI cZ cJ mo bu pe ep sz nx 0 wa as ak ab ar g th q1 ) cV_X12_161 hP hD hS [0] rfl rfl 0 rfl rfl rfl rfl hl.1 rfl (Nat.le_of_ble_eq_true rfl) dX12_polygonLine_3 ⟨Nat.le_of_ble_eq_true rfl, Nat.le_of_ble_eq_true rfl⟩ ⟨Nat.le_of_ble_eq_true rfl, Nat.le_of_ble_eq_true rfl⟩) hP hD hS [0] [] rfl rfl rfl (by decide) (fun u2 H locs hP hD hS => ?_)
  have hP : va_P D CL [(mo, .inr (11, mC th bu pe ep sz nx 0 0 0 wa as ak ab ar g))] H := hP
  have hD : va_D A [(mo, .inr (11, mC th bu pe ep sz nx 0 0 0 wa as ak ab ar g))] := hD
  refine W.widen (k := 0) (n := 0) (Nat.le_of_ble_eq_true rfl) (Nat.le_of_ble_eq_true rfl) ?_
  refine W.eq (g2 := F0 m 6 ls [.int 0]) rfl ?_
  refine lv_if_ne (tgt := 14) hx hb dX12_polygonLine_6 (by decide) (fun h => absurd h (by decide)) (fun _ => ?_)
  refine lv_aload_n hx hb dX12_polygonLine_9 rfl (lv_at hl 0 rfl) ?_
  refine lv_iconst (v := 1) hx hb dX12_polygonLine_10 (by decide) ?_
  refine call_v (wr := []) C (run_V (As := [.int 1]) (rest := []) C (m_fails l D cI cZ cJ mo bu pe ep sz nx 0 wa as ak ab ar g th ) cV_X12_144 hP hD hS [0] rfl rfl 0 rfl rfl rfl rfl hl.1 rfl (Nat.le_of_ble_eq_true rfl) dX12_polygonLine_11 ⟨Nat.le_of_ble_eq_true rfl, Nat.le_of_ble_eq_true rfl⟩ ⟨Nat.le_of_ble_eq_true rfl, Nat.le_of_ble_eq_true rfl⟩) hP hD hS [0] [] rfl rfl rfl (by decide) (fun u3 H locs hP hD hS => ?_)
  have hP : va_P D CL [(mo, .inr (11, mC th bu pe ep sz nx 0 0 1 0 as ak ab ar g))] H := hP
  have hD : va_D A [(mo, .inr (11, mC th bu pe ep sz nx 0 0 1 0 as ak ab ar g))] := hD
  refine W.widen (k := 0) (n := 0) (Nat.le_of_ble_eq_true rfl) (Nat.le_of_ble_eq_true rfl) ?_
  refine lv_aload_n hx hb dX12_polygonLine_14 rfl (lv_at hl 0 rfl) ?_
  refine call_v (wr := []) C (run_V (As := []) (rest := []) C (m_goesOn l D cI cZ cJ mo bu pe ep sz nx 0 0 0 as ak ab ar g th ) cV_X12_156 hP hD hS [0] rfl rfl 0 rfl rfl rfl rfl hl.1 rfl (Nat.le_of_ble_eq_true rfl) dX12_polygonLine_15 ⟨Nat.le_of_ble_eq_true rfl, Nat.le_of_ble_eq_true rfl⟩ ⟨Nat.le_of_ble_eq_true rfl, Nat.le_of_ble_eq_true rfl⟩) hP hD hS [0] [] rfl rfl rfl (by decide) (fun u4 H locs hP hD hS => ?_)
  have hP : va_P D CL [(mo, .inr (11, mC th bu pe ep sz nx 0 0 1 0 as ak ab ar g))] H := hP
  have hD : va_D A [(mo, .inr (11, mC th bu pe ep sz nx 0 0 1 0 as ak ab ar g))] := hD
  refine W.widen (k := 0) (n := 0) (Nat.le_of_ble_eq_true rfl) (Nat.le_of_ble_eq_true rfl) ?_
  refine lv_aload_n hx hb dX12_polygonLine_18 rfl (lv_at hl 0 rfl) ?_
  refine r_get (v := .int 1) C hP 0 rfl fg_X12_125 rfl dX12_polygonLine_19 ?_
  refine lv_if_ne (tgt := 135) hx hb dX12_polygonLine_22 (by decide) (fun _ => ?_) (fun h => absurd h (by decide))
  refine lv_aload_n hx hb dX12_polygonLine_135 rfl (lv_at hl 0 rfl) ?_
  refine r_get (v := .int 0) C hP 0 rfl fg_X12_109 rfl dX12_polygonLine_136 ?_
  refine lv_iconst (v := 3) hx hb dX12_polygonLine_139 (by decide) ?_
  refine lv_icmp_eq (tgt := 155) hx hb dX12_polygonLine_140 (by decide) (fun h => absurd h (by decide)) (fun _ => ?_)
  refine lv_aload_n hx hb dX12_polygonLine_143 rfl (lv_at hl 0 rfl) ?_
  refine r_get (v := .int 0) C hP 0 rfl fg_X12_109 rfl dX12_polygonLine_144 ?_
  refine lv_if_eq (tgt := 155) hx hb dX12_polygonLine_147 (by decide) (fun _ => ?_) (fun h => absurd (by decide) h)
  refine lv_aload_n hx hb dX12_polygonLine_155 rfl (lv_at hl 0 rfl) ?_
  refine r_get (v := .int 1) C hP 0 rfl fg_X12_125 rfl dX12_polygonLine_156 ?_
  refine lv_if_ne (tgt := 177) hx hb dX12_polygonLine_159 (by decide) (fun _ => ?_) (fun h => absurd h (by decide))
  exact r_vret C hP hD hS () rfl (Nat.le_of_ble_eq_true rfl) (Nat.le_of_ble_eq_true rfl) dX12_polygonLine_177
set_option maxHeartbeats 4000000 in
set_option maxRecDepth 100000 in
theorem m_reads (l : Launch) (D : va_G) (cI cZ cJ : ClassId) (mo : Nat) (bu : Int32) (pe : Int32) (ep : Int32) (sz : Int32) (nx : Int32) (fr : Int32) (so : Int32) (wr : Int32) (wa : Int32) (as : Nat) (ak : Nat) (ab : Nat) (ar : Nat) (g : Nat → Value) (th : Int32) (f0 : Nat → Int32)  : cM l yX12_reads cX12_reads 3 none D (TT cI cZ cJ) [.ref mo, .int 0] [(mo, .inr (11, mC th bu pe ep sz nx fr so wr wa as ak ab ar g)), (ar, .inl (cI, 63, .inl f0))] (qV D (TT cI cZ cJ) (fun u : Nat → Int32 => [(mo, .inr (11, mC th bu pe ep 0 0 0 0 1 0 as ak ab ar g)), (ar, .inl (cI, 63, .inl u))])) 2 0 0 := by
  refine enterM (by decide) (Nat.le_of_ble_eq_true rfl) ?_
  intro p e s m below meth c ls A C hP hD hS hl
  have hx := C.1
  have hb := C.2.1
  have hl : lv_has ls 3 [(0, .ref mo), (1, .int 0)] := hl
  refine lv_aload_n hx hb dX12_reads_0 rfl (lv_at hl 0 rfl) ?_
  refine lv_iload_n hx hb dX12_reads_1 rfl (lv_at hl 1 rfl) ?_
  refine r_put C hP hD hS 0 rfl fg_X12_96 rfl rfl (Nat.le_of_ble_eq_true rfl) dX12_reads_2 [(mo, .inr (11, mC th bu pe ep 0 nx fr so wr wa as ak ab ar g)), (ar, .inl (cI, 63, .inl f0))] rfl (fun H locs hP hD hS => ?_)
  refine lv_aload_n hx hb dX12_reads_5 rfl (lv_at hl 0 rfl) ?_
  refine lv_iconst (v := 0) hx hb dX12_reads_6 (by decide) ?_
  refine r_put C hP hD hS 0 rfl fg_X12_99 rfl rfl (Nat.le_of_ble_eq_true rfl) dX12_reads_7 [(mo, .inr (11, mC th bu pe ep 0 0 fr so wr wa as ak ab ar g)), (ar, .inl (cI, 63, .inl f0))] rfl (fun H locs hP hD hS => ?_)
  refine lv_aload_n hx hb dX12_reads_10 rfl (lv_at hl 0 rfl) ?_
  refine lv_iconst (v := 0) hx hb dX12_reads_11 (by decide) ?_
  refine r_put C hP hD hS 0 rfl fg_X12_125 rfl rfl (Nat.le_of_ble_eq_true rfl) dX12_reads_12 [(mo, .inr (11, mC th bu pe ep 0 0 fr so 0 wa as ak ab ar g)), (ar, .inl (cI, 63, .inl f0))] rfl (fun H locs hP hD hS => ?_)
  refine lv_aload_n hx hb dX12_reads_15 rfl (lv_at hl 0 rfl) ?_
  refine lv_iconst (v := -1) hx hb dX12_reads_16 (by decide) ?_
  refine r_put C hP hD hS 0 rfl fg_X12_128 rfl rfl (Nat.le_of_ble_eq_true rfl) dX12_reads_17 [(mo, .inr (11, mC th bu pe ep 0 0 fr so 0 (-1) as ak ab ar g)), (ar, .inl (cI, 63, .inl f0))] rfl (fun H locs hP hD hS => ?_)
  refine lv_iconst (v := 0) hx hb dX12_reads_20 (by decide) ?_
  refine lv_istore_n (lv' := [(2, .int 0), (0, .ref mo), (1, .int 0)]) hx hb dX12_reads_21 rfl hl (by decide) rfl (fun ls hl => ?_)
  have loop : ∀ (j i : Nat), i + j = 63 → ∀ (H : Heap) (locs : List Loc) (ls : Array Slot) (f : Nat → Int32), va_P D CL [(mo, .inr (11, mC th bu pe ep 0 0 fr so 0 (-1) as ak ab ar g)), (ar, .inl (cI, 63, .inl f))] H → va_D A [(mo, .inr (11, mC th bu pe ep 0 0 fr so 0 (-1) as ak ab ar g)), (ar, .inl (cI, 63, .inl f))] → va_S A s.heap H locs → lv_has ls 3 [(2, .int (nI i)), (0, .ref mo), (1, .int 0)] → (∀ (H : Heap) (locs : List Loc) (ls : Array Slot) (f : Nat → Int32), va_P D CL [(mo, .inr (11, mC th bu pe ep 0 0 fr so 0 (-1) as ak ab ar g)), (ar, .inl (cI, 63, .inl f))] H → va_D A [(mo, .inr (11, mC th bu pe ep 0 0 fr so 0 (-1) as ak ab ar g)), (ar, .inl (cI, 63, .inl f))] → va_S A s.heap H locs → lv_has ls 3 [(2, .int (nI 63)), (0, .ref mo), (1, .int 0)] → W p l e (rmd 2 0 0) s m ([.ref mo, .int 0] : List Value).toArray below meth c H locs 0 0 (MQ below (qV D (TT cI cZ cJ) (fun u : Nat → Int32 => [(mo, .inr (11, mC th bu pe ep 0 0 0 0 1 0 as ak ab ar g)), (ar, .inl (cI, 63, .inl u))]) A) ([.ref mo, .int 0] : List Value).toArray s 0 0 A) (F0 m 41 ls [])) → W p l e (rmd 2 0 0) s m ([.ref mo, .int 0] : List Value).toArray below meth c H locs 0 0 (MQ below (qV D (TT cI cZ cJ) (fun u : Nat → Int32 => [(mo, .inr (11, mC th bu pe ep 0 0 0 0 1 0 as ak ab ar g)), (ar, .inl (cI, 63, .inl u))]) A) ([.ref mo, .int 0] : List Value).toArray s 0 0 A) (F0 m 22 ls []) := by
    intro j
    induction j with
    | zero =>
      intro i hi H locs ls f hP hD hS hl K
      have hi63 : i = 63 := by omega
      subst hi63
      refine lv_iload_n hx hb dX12_reads_22 rfl (lv_at hl 0 rfl) ?_
      refine lv_bipush (v := 63) hx hb dX12_reads_23 (by decide) ?_
      refine lv_icmp_ge (tgt := 41) hx hb dX12_reads_25 (by decide) (fun _ => ?_) (fun h => absurd (by decide) h)
      exact K H locs ls f hP hD hS hl
    | succ j ih =>
      intro i hi H locs ls f hP hD hS hl K
      refine lv_iload_n hx hb dX12_reads_22 rfl (lv_at hl 0 rfl) ?_
      refine lv_bipush (v := 63) hx hb dX12_reads_23 (by decide) ?_
      refine lv_icmp_ge (tgt := 41) hx hb dX12_reads_25 (by decide) (fun h => absurd h (nI_ge (show i < 63 by omega) (by decide))) (fun _ => ?_)
      refine lv_aload_n hx hb dX12_reads_28 rfl (lv_at hl 1 rfl) ?_
      refine r_get (v := .ref ar) C hP 0 rfl fg_X12_30 rfl dX12_reads_29 ?_
      refine lv_iload_n hx hb dX12_reads_32 rfl (lv_at hl 0 rfl) ?_
      refine lv_iconst (v := 0) hx hb dX12_reads_33 (by decide) ?_
      refine va_iast hx hb C.2.2.2.2.2.1 hP hD hS 1 0 rfl rfl (vp_in_nI (show i < 63 by omega) (by decide)) dX12_reads_34 (fun H locs hP hD hS => ?_)
      obtain ⟨f1, ef1⟩ : ∃ z : Nat → Int32, z = upd f ((nI i) : Int32).toNatClampNeg 0 := ⟨_, rfl⟩
      have hP : va_P D CL [(mo, .inr (11, mC th bu pe ep 0 0 fr so 0 (-1) as ak ab ar g)), (ar, .inl (cI, 63, .inl f1))] H := by rw [ef1]; exact hP
      have hD : va_D A [(mo, .inr (11, mC th bu pe ep 0 0 fr so 0 (-1) as ak ab ar g)), (ar, .inl (cI, 63, .inl f1))] := by rw [ef1]; exact hD
      refine lv_iinc (v := (nI (i + 1))) (lv' := [(2, .int (nI (i + 1))), (0, .ref mo), (1, .int 0)]) hx hb dX12_reads_35 hl (k := 0) rfl (by rw [← nI_1]; rfl) (by decide) rfl (fun ls hl => ?_)
      refine lv_goto (tgt := 22) hx hb dX12_reads_38 (by decide) ?_
      exact ih (i + 1) (by omega) H locs ls _ hP hD hS (lv_sub hl [0, 1, 2] rfl) K
  refine loop 63 0 rfl H locs ls f0 hP hD hS (lv_sub hl [0, 1, 2] rfl) (fun H locs ls f9 hP hD hS hl => ?_)
  refine lv_aload_n hx hb dX12_reads_41 rfl (lv_at hl 1 rfl) ?_
  refine call_v (wr := [(ar, .inl (cI, 63, .inl f9))]) C (run_V (As := []) (rest := []) C (m_token l D cI cZ cJ mo bu pe ep fr so 0 (-1) as ak ab ar g th ) cV_X12_131 hP hD hS [0] rfl rfl 0 rfl rfl rfl rfl hl.1 rfl (Nat.le_of_ble_eq_true rfl) dX12_reads_42 ⟨Nat.le_of_ble_eq_true rfl, Nat.le_of_ble_eq_true rfl⟩ ⟨Nat.le_of_ble_eq_true rfl, Nat.le_of_ble_eq_true rfl⟩) hP hD hS [0] [1] rfl rfl rfl (by decide) (fun u1 H locs hP hD hS => ?_)
  have hP : va_P D CL [(ar, .inl (cI, 63, .inl f9)), (mo, .inr (11, mC th bu pe ep 0 0 0 0 0 (-1) as ak ab ar g))] H := hP
  have hD : va_D A [(ar, .inl (cI, 63, .inl f9)), (mo, .inr (11, mC th bu pe ep 0 0 0 0 0 (-1) as ak ab ar g))] := hD
  refine W.widen (k := 0) (n := 0) (Nat.le_of_ble_eq_true rfl) (Nat.le_of_ble_eq_true rfl) ?_
  refine lv_aload_n hx hb dX12_reads_45 rfl (lv_at hl 1 rfl) ?_
  refine call_v (wr := [(ar, .inl (cI, 63, .inl f9))]) C (run_V (As := []) (rest := []) C (m_polygonLine l D cI cZ cJ mo bu pe ep 0 0 (-1) as ak ab ar g th ) cV_X12_178 hP hD hS [1] rfl rfl 0 rfl rfl rfl rfl hl.1 rfl (Nat.le_of_ble_eq_true rfl) dX12_reads_46 ⟨Nat.le_of_ble_eq_true rfl, Nat.le_of_ble_eq_true rfl⟩ ⟨Nat.le_of_ble_eq_true rfl, Nat.le_of_ble_eq_true rfl⟩) hP hD hS [1] [0] rfl rfl rfl (by decide) (fun u2 H locs hP hD hS => ?_)
  have hP : va_P D CL [(ar, .inl (cI, 63, .inl f9)), (mo, .inr (11, mC th bu pe ep 0 0 0 0 1 0 as ak ab ar g))] H := hP
  have hD : va_D A [(ar, .inl (cI, 63, .inl f9)), (mo, .inr (11, mC th bu pe ep 0 0 0 0 1 0 as ak ab ar g))] := hD
  refine W.widen (k := 0) (n := 0) (Nat.le_of_ble_eq_true rfl) (Nat.le_of_ble_eq_true rfl) ?_
  refine lv_aload_n hx hb dX12_reads_49 rfl (lv_at hl 1 rfl) ?_
  refine r_get (v := .int 1) C hP 1 rfl fg_X12_125 rfl dX12_reads_50 ?_
  refine lv_if_ne (tgt := 107) hx hb dX12_reads_53 (by decide) (fun _ => ?_) (fun h => absurd h (by decide))
  refine lv_aload_n hx hb dX12_reads_107 rfl (lv_at hl 1 rfl) ?_
  refine r_get (v := .int 0) C hP 1 rfl fg_X12_109 rfl dX12_reads_108 ?_
  refine lv_if_eq (tgt := 119) hx hb dX12_reads_111 (by decide) (fun _ => ?_) (fun h => absurd (by decide) h)
  have hP := hP.sub (ws' := [(mo, .inr (11, mC th bu pe ep 0 0 0 0 1 0 as ak ab ar g)), (ar, .inl (cI, 63, .inl f9))]) [1, 0] rfl
  have hD := hD.sub (ws' := [(mo, .inr (11, mC th bu pe ep 0 0 0 0 1 0 as ak ab ar g)), (ar, .inl (cI, 63, .inl f9))]) [1, 0] (by decide) rfl
  exact r_vret C hP hD hS f9 rfl (Nat.le_of_ble_eq_true rfl) (Nat.le_of_ble_eq_true rfl) dX12_reads_119
set_option maxHeartbeats 4000000 in
set_option maxRecDepth 100000 in
theorem m_load_0 (l : Launch) (D : va_G) (cI cZ cJ : ClassId) (mo : Nat) (pe : Int32) (ep : Int32) (sz : Int32) (nx : Int32) (fr : Int32) (so : Int32) (wr : Int32) (wa : Int32) (as : Nat) (ak : Nat) (ab : Nat) (ar : Nat) (g : Nat → Value) (th : Int32) (f0 : Nat → Int32)  : cM l yX12_load cX12_load 3 (some .int) D (TT cI cZ cJ) [.ref mo, .int 0] [(mo, .inr (11, mC th 0 pe ep sz nx fr so wr wa as ak ab ar g)), (ar, .inl (cI, 63, .inl f0))] (qI D (TT cI cZ cJ) (fun u : Nat → Int32 => 0) (fun u : Nat → Int32 => [(mo, .inr (11, mC 2 0 1 0 0 0 0 0 1 0 as ak ab ar g)), (ar, .inl (cI, 63, .inl u))])) 3 0 0 := by
  refine enterM (by decide) (Nat.le_of_ble_eq_true rfl) ?_
  intro p e s m below meth c ls A C hP hD hS hl
  have hx := C.1
  have hb := C.2.1
  have hl : lv_has ls 3 [(0, .ref mo), (1, .int 0)] := hl
  refine lv_aload_n hx hb dX12_load_0 rfl (lv_at hl 0 rfl) ?_
  refine lv_iconst (v := 0) hx hb dX12_load_1 (by decide) ?_
  refine r_put C hP hD hS 0 rfl fg_X12_79 rfl rfl (Nat.le_of_ble_eq_true rfl) dX12_load_2 [(mo, .inr (11, mC 0 0 pe ep sz nx fr so wr wa as ak ab ar g)), (ar, .inl (cI, 63, .inl f0))] rfl (fun H locs hP hD hS => ?_)
  refine lv_aload_n hx hb dX12_load_5 rfl (lv_at hl 0 rfl) ?_
  refine lv_iload_n hx hb dX12_load_6 rfl (lv_at hl 1 rfl) ?_
  refine lv_iconst (v := 0) hx hb dX12_load_7 (by decide) ?_
  refine lv_aload_n hx hb dX12_load_8 rfl (lv_at hl 0 rfl) ?_
  refine r_get (v := .int 0) C hP 0 rfl fg_X12_90 rfl dX12_load_9 ?_
  refine call_i (wr := [(mo, .inr (11, mC 0 0 pe ep sz nx fr so wr wa as ak ab ar g)), (ar, .inl (cI, 63, .inl f0))]) C (run_S (As := [.int 0, .int 0, .int 0]) (rest := [.ref mo]) C (m_in_t l D cI cZ cJ 0 0 0 (by decide) (by decide)) cS_X12_148 hP hD hS [] rfl rfl rfl hl.1 rfl (Nat.le_of_ble_eq_true rfl) dX12_load_12 ⟨Nat.le_of_ble_eq_true rfl, Nat.le_of_ble_eq_true rfl⟩ ⟨Nat.le_of_ble_eq_true rfl, Nat.le_of_ble_eq_true rfl⟩) hP hD hS [] [0, 1] rfl rfl rfl (by decide) (fun u1 H locs hP hD hS => ?_)
  have hP : va_P D CL [(mo, .inr (11, mC 0 0 pe ep sz nx fr so wr wa as ak ab ar g)), (ar, .inl (cI, 63, .inl f0))] H := hP
  have hD : va_D A [(mo, .inr (11, mC 0 0 pe ep sz nx fr so wr wa as ak ab ar g)), (ar, .inl (cI, 63, .inl f0))] := hD
  refine W.widen (k := 0) (n := 0) (Nat.le_of_ble_eq_true rfl) (Nat.le_of_ble_eq_true rfl) ?_
  refine W.eq (g2 := F0 m 15 ls [.int 1, .ref mo]) rfl ?_
  refine lv_if_ne (tgt := 22) hx hb dX12_load_15 (by decide) (fun _ => ?_) (fun h => absurd h (by decide))
  refine lv_iconst (v := 0) hx hb dX12_load_22 (by decide) ?_
  refine lv_iconst (v := 1) hx hb dX12_load_23 (by decide) ?_
  refine call_i (wr := [(ar, .inl (cI, 63, .inl f0))]) C (run_V (As := [.int 0, .int 1]) (rest := []) C (m_refuse_n l D cI cZ cJ mo 0 pe ep sz nx fr so wr wa as ak ab ar g 1 ) cV_X12_86 hP hD hS [0] rfl rfl 0 rfl rfl rfl rfl hl.1 rfl (Nat.le_of_ble_eq_true rfl) dX12_load_24 ⟨Nat.le_of_ble_eq_true rfl, Nat.le_of_ble_eq_true rfl⟩ ⟨Nat.le_of_ble_eq_true rfl, Nat.le_of_ble_eq_true rfl⟩) hP hD hS [0] [1] rfl rfl rfl (by decide) (fun u2 H locs hP hD hS => ?_)
  have hP : va_P D CL [(ar, .inl (cI, 63, .inl f0)), (mo, .inr (11, mC 0 0 pe ep sz nx fr so wr wa as ak ab ar g))] H := hP
  have hD : va_D A [(ar, .inl (cI, 63, .inl f0)), (mo, .inr (11, mC 0 0 pe ep sz nx fr so wr wa as ak ab ar g))] := hD
  refine W.widen (k := 0) (n := 0) (Nat.le_of_ble_eq_true rfl) (Nat.le_of_ble_eq_true rfl) ?_
  refine W.eq (g2 := F0 m 27 ls [.int 0]) rfl ?_
  refine lv_if_eq (tgt := 32) hx hb dX12_load_27 (by decide) (fun _ => ?_) (fun h => absurd (by decide) h)
  refine lv_aload_n hx hb dX12_load_32 rfl (lv_at hl 0 rfl) ?_
  refine lv_iconst (v := 0) hx hb dX12_load_33 (by decide) ?_
  refine r_put C hP hD hS 1 rfl fg_X12_90 rfl rfl (Nat.le_of_ble_eq_true rfl) dX12_load_34 [(ar, .inl (cI, 63, .inl f0)), (mo, .inr (11, mC 0 0 pe ep sz nx fr so wr wa as ak ab ar g))] rfl (fun H locs hP hD hS => ?_)
  refine lv_aload_n hx hb dX12_load_37 rfl (lv_at hl 0 rfl) ?_
  refine lv_iload_n hx hb dX12_load_38 rfl (lv_at hl 1 rfl) ?_
  refine call_v (wr := []) C (run_V (As := [.int 0]) (rest := []) C (m_reads l D cI cZ cJ mo 0 pe ep sz nx fr so wr wa as ak ab ar g 0 f0 ) cV_X12_189 hP hD hS [1, 0] rfl rfl 0 rfl rfl rfl rfl hl.1 rfl (Nat.le_of_ble_eq_true rfl) dX12_load_39 ⟨Nat.le_of_ble_eq_true rfl, Nat.le_of_ble_eq_true rfl⟩ ⟨Nat.le_of_ble_eq_true rfl, Nat.le_of_ble_eq_true rfl⟩) hP hD hS [1, 0] [] rfl rfl rfl (by decide) (fun u3 H locs hP hD hS => ?_)
  have hP : va_P D CL [(mo, .inr (11, mC 0 0 pe ep 0 0 0 0 1 0 as ak ab ar g)), (ar, .inl (cI, 63, .inl u3))] H := hP
  have hD : va_D A [(mo, .inr (11, mC 0 0 pe ep 0 0 0 0 1 0 as ak ab ar g)), (ar, .inl (cI, 63, .inl u3))] := hD
  refine W.widen (k := 0) (n := 0) (Nat.le_of_ble_eq_true rfl) (Nat.le_of_ble_eq_true rfl) ?_
  refine lv_aload_n hx hb dX12_load_42 rfl (lv_at hl 0 rfl) ?_
  refine lv_aload_n hx hb dX12_load_43 rfl (lv_at hl 0 rfl) ?_
  refine r_get (v := .int 1) C hP 0 rfl fg_X12_125 rfl dX12_load_44 ?_
  refine r_put C hP hD hS 0 rfl fg_X12_93 rfl rfl (Nat.le_of_ble_eq_true rfl) dX12_load_47 [(mo, .inr (11, mC 0 0 1 ep 0 0 0 0 1 0 as ak ab ar g)), (ar, .inl (cI, 63, .inl u3))] rfl (fun H locs hP hD hS => ?_)
  refine lv_aload_n hx hb dX12_load_50 rfl (lv_at hl 0 rfl) ?_
  refine lv_aload_n hx hb dX12_load_51 rfl (lv_at hl 0 rfl) ?_
  refine r_get (v := .int 1) C hP 0 rfl fg_X12_125 rfl dX12_load_52 ?_
  refine lv_if_ne (tgt := 62) hx hb dX12_load_55 (by decide) (fun _ => ?_) (fun h => absurd h (by decide))
  refine lv_aload_n hx hb dX12_load_62 rfl (lv_at hl 0 rfl) ?_
  refine r_get (v := .int 0) C hP 0 rfl fg_X12_128 rfl dX12_load_63 ?_
  refine r_put C hP hD hS 0 rfl fg_X12_23 rfl rfl (Nat.le_of_ble_eq_true rfl) dX12_load_66 [(mo, .inr (11, mC 0 0 1 0 0 0 0 0 1 0 as ak ab ar g)), (ar, .inl (cI, 63, .inl u3))] rfl (fun H locs hP hD hS => ?_)
  refine lv_aload_n hx hb dX12_load_69 rfl (lv_at hl 0 rfl) ?_
  refine lv_aload_n hx hb dX12_load_70 rfl (lv_at hl 0 rfl) ?_
  refine r_get (v := .int 1) C hP 0 rfl fg_X12_125 rfl dX12_load_71 ?_
  refine lv_if_eq (tgt := 81) hx hb dX12_load_74 (by decide) (fun h => absurd h (by decide)) (fun _ => ?_)
  refine lv_iconst (v := 1) hx hb dX12_load_77 (by decide) ?_
  refine lv_goto (tgt := 82) hx hb dX12_load_78 (by decide) ?_
  refine lv_iconst (v := 2) hx hb dX12_load_82 (by decide) ?_
  refine call_i (wr := [(ar, .inl (cI, 63, .inl u3))]) C (run_V (As := [.int 1, .int 2]) (rest := []) C (m_refuse_y l D cI cZ cJ mo 0 1 0 0 0 0 0 1 0 as ak ab ar g 2 (by decide)) cV_X12_86 hP hD hS [0] rfl rfl 0 rfl rfl rfl rfl hl.1 rfl (Nat.le_of_ble_eq_true rfl) dX12_load_83 ⟨Nat.le_of_ble_eq_true rfl, Nat.le_of_ble_eq_true rfl⟩ ⟨Nat.le_of_ble_eq_true rfl, Nat.le_of_ble_eq_true rfl⟩) hP hD hS [0] [1] rfl rfl rfl (by decide) (fun u4 H locs hP hD hS => ?_)
  have hP : va_P D CL [(ar, .inl (cI, 63, .inl u3)), (mo, .inr (11, mC 2 0 1 0 0 0 0 0 1 0 as ak ab ar g))] H := hP
  have hD : va_D A [(ar, .inl (cI, 63, .inl u3)), (mo, .inr (11, mC 2 0 1 0 0 0 0 0 1 0 as ak ab ar g))] := hD
  refine W.widen (k := 0) (n := 0) (Nat.le_of_ble_eq_true rfl) (Nat.le_of_ble_eq_true rfl) ?_
  refine W.eq (g2 := F0 m 86 ls [.int 1]) rfl ?_
  refine lv_if_eq (tgt := 91) hx hb dX12_load_86 (by decide) (fun h => absurd h (by decide)) (fun _ => ?_)
  refine lv_iconst (v := 0) hx hb dX12_load_89 (by decide) ?_
  have hP := hP.sub (ws' := [(mo, .inr (11, mC 2 0 1 0 0 0 0 0 1 0 as ak ab ar g)), (ar, .inl (cI, 63, .inl u3))]) [1, 0] rfl
  have hD := hD.sub (ws' := [(mo, .inr (11, mC 2 0 1 0 0 0 0 0 1 0 as ak ab ar g)), (ar, .inl (cI, 63, .inl u3))]) [1, 0] (by decide) rfl
  exact r_iret C hP hD hS u3 rfl rfl (Nat.le_of_ble_eq_true rfl) (Nat.le_of_ble_eq_true rfl) dX12_load_90
