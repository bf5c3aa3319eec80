set_option maxHeartbeats 4000000 in
set_option maxRecDepth 100000 in
theorem m_refuse_y (l : Launch) (D : va_G) (cI cZ cJ : ClassId) (mo : Nat) (bu : Int32) (pe : Int32) (ep : Int32) (sz : Int32) (nx : Int32) (fr : Int32) (so : Int32) (wr : Int32) (wa : Int32) (as : Nat) (ak : Nat) (ab : Nat) (ar : Nat) (g : Nat → Value) (cd0 : Int32) (hc : ¬ cd0 = 0) : cM l yX12_refuse cX12_refuse 3 (some .boolean) D (TT cI cZ cJ) [.ref mo, .int 1, .int cd0] [(mo, .inr (11, mC 0 bu pe ep sz nx fr so wr wa as ak ab ar g))] (qI D (TT cI cZ cJ) (fun u : Unit => 1) (fun u : Unit => [(mo, .inr (11, mC cd0 bu pe ep sz nx fr so wr wa as ak ab ar g))])) 0 0 0 := by
  refine enterM (by decide) (Nat.le_of_ble_eq_true rfl) ?_
  intro p e s m below meth c ls A C hP hD hS hl
  have hx := C.1
  have hb := C.2.1
  have hl : lv_has ls 3 [(0, .ref mo), (1, .int 1), (2, .int cd0)] := hl
  refine lv_aload_n hx hb dX12_refuse_0 rfl (lv_at hl 0 rfl) ?_
  refine r_get (v := .int 0) C hP 0 rfl fg_X12_79 rfl dX12_refuse_1 ?_
  refine lv_if_ne (tgt := 16) hx hb dX12_refuse_4 (by decide) (fun h => absurd h (by decide)) (fun _ => ?_)
  refine lv_iload_n hx hb dX12_refuse_7 rfl (lv_at hl 1 rfl) ?_
  refine lv_if_eq (tgt := 16) hx hb dX12_refuse_8 (by decide) (fun h => absurd h (by decide)) (fun _ => ?_)
  refine lv_aload_n hx hb dX12_refuse_11 rfl (lv_at hl 0 rfl) ?_
  refine lv_iload_n hx hb dX12_refuse_12 rfl (lv_at hl 2 rfl) ?_
  refine r_put C hP hD hS 0 rfl fg_X12_79 rfl rfl (Nat.le_of_ble_eq_true rfl) dX12_refuse_13 [(mo, .inr (11, mC cd0 bu pe ep sz nx fr so wr wa as ak ab ar g))] rfl (fun H locs hP hD hS => ?_)
  refine lv_aload_n hx hb dX12_refuse_16 rfl (lv_at hl 0 rfl) ?_
  refine r_get (v := .int cd0) C hP 0 rfl fg_X12_79 rfl dX12_refuse_17 ?_
  refine lv_if_eq (tgt := 27) hx hb dX12_refuse_20 (by decide) (fun h => absurd h hc) (fun _ => ?_)
  refine lv_iconst (v := 1) hx hb dX12_refuse_23 (by decide) ?_
  refine lv_goto (tgt := 28) hx hb dX12_refuse_24 (by decide) ?_
  exact r_zret C hP hD hS () rfl rfl rfl (Nat.le_of_ble_eq_true rfl) (Nat.le_of_ble_eq_true rfl) dX12_refuse_28
set_option maxHeartbeats 4000000 in
set_option maxRecDepth 100000 in
theorem m_refuse_n (l : Launch) (D : va_G) (cI cZ cJ : ClassId) (mo : Nat) (bu : Int32) (pe : Int32) (ep : Int32) (sz : Int32) (nx : Int32) (fr : Int32) (so : Int32) (wr : Int32) (wa : Int32) (as : Nat) (ak : Nat) (ab : Nat) (ar : Nat) (g : Nat → Value) (cd0 : Int32)  : cM l yX12_refuse cX12_refuse 3 (some .boolean) D (TT cI cZ cJ) [.ref mo, .int 0, .int cd0] [(mo, .inr (11, mC 0 bu pe ep sz nx fr so wr wa as ak ab ar g))] (qI D (TT cI cZ cJ) (fun u : Unit => 0) (fun u : Unit => [(mo, .inr (11, mC 0 bu pe ep sz nx fr so wr wa as ak ab ar g))])) 0 0 0 := by
  refine enterM (by decide) (Nat.le_of_ble_eq_true rfl) ?_
  intro p e s m below meth c ls A C hP hD hS hl
  have hx := C.1
  have hb := C.2.1
  have hl : lv_has ls 3 [(0, .ref mo), (1, .int 0), (2, .int cd0)] := hl
  refine lv_aload_n hx hb dX12_refuse_0 rfl (lv_at hl 0 rfl) ?_
  refine r_get (v := .int 0) C hP 0 rfl fg_X12_79 rfl dX12_refuse_1 ?_
  refine lv_if_ne (tgt := 16) hx hb dX12_refuse_4 (by decide) (fun h => absurd h (by decide)) (fun _ => ?_)
  refine lv_iload_n hx hb dX12_refuse_7 rfl (lv_at hl 1 rfl) ?_
  refine lv_if_eq (tgt := 16) hx hb dX12_refuse_8 (by decide) (fun _ => ?_) (fun h => absurd (by decide) h)
  refine lv_aload_n hx hb dX12_refuse_16 rfl (lv_at hl 0 rfl) ?_
  refine r_get (v := .int 0) C hP 0 rfl fg_X12_79 rfl dX12_refuse_17 ?_
  refine lv_if_eq (tgt := 27) hx hb dX12_refuse_20 (by decide) (fun _ => ?_) (fun h => absurd (by decide) h)
  refine lv_iconst (v := 0) hx hb dX12_refuse_27 (by decide) ?_
  exact r_zret C hP hD hS () rfl rfl rfl (Nat.le_of_ble_eq_true rfl) (Nat.le_of_ble_eq_true rfl) dX12_refuse_28
set_option maxHeartbeats 4000000 in
set_option maxRecDepth 100000 in
theorem m_in_t (l : Launch) (D : va_G) (cI cZ cJ : ClassId) (a0 : Int32) (a1 : Int32) (a2 : Int32) (h1 : ¬ a0 < a1) (h2 : ¬ a2 < a0) : cM l yX12_in cX12_in 3 (some .boolean) D (TT cI cZ cJ) [.int a0, .int a1, .int a2] [] (qI D (TT cI cZ cJ) (fun u : Unit => 1) (fun u : Unit => [])) 0 0 0 := by
  refine enterM (by decide) (Nat.le_of_ble_eq_true rfl) ?_
  intro p e s m below meth c ls A C hP hD hS hl
  have hx := C.1
  have hb := C.2.1
  have hl : lv_has ls 3 [(0, .int a0), (1, .int a1), (2, .int a2)] := hl
  refine lv_iload_n hx hb dX12_in_0 rfl (lv_at hl 0 rfl) ?_
  refine lv_iload_n hx hb dX12_in_1 rfl (lv_at hl 1 rfl) ?_
  refine lv_icmp_lt (tgt := 14) hx hb dX12_in_2 (by decide) (fun h => absurd h h1) (fun _ => ?_)
  refine lv_iload_n hx hb dX12_in_5 rfl (lv_at hl 0 rfl) ?_
  refine lv_iload_n hx hb dX12_in_6 rfl (lv_at hl 2 rfl) ?_
  refine lv_icmp_gt (tgt := 14) hx hb dX12_in_7 (by decide) (fun h => absurd h h2) (fun _ => ?_)
  refine lv_iconst (v := 1) hx hb dX12_in_10 (by decide) ?_
  refine lv_goto (tgt := 15) hx hb dX12_in_11 (by decide) ?_
  exact r_zret C hP hD hS () rfl rfl rfl (Nat.le_of_ble_eq_true rfl) (Nat.le_of_ble_eq_true rfl) dX12_in_15
set_option maxHeartbeats 4000000 in
set_option maxRecDepth 100000 in
theorem m_in_l (l : Launch) (D : va_G) (cI cZ cJ : ClassId) (a0 : Int32) (a1 : Int32) (a2 : Int32) (h1 : a0 < a1) : cM l yX12_in cX12_in 3 (some .boolean) D (TT cI cZ cJ) [.int a0, .int a1, .int a2] [] (qI D (TT cI cZ cJ) (fun u : Unit => 0) (fun u : Unit => [])) 0 0 0 := by
  refine enterM (by decide) (Nat.le_of_ble_eq_true rfl) ?_
  intro p e s m below meth c ls A C hP hD hS hl
  have hx := C.1
  have hb := C.2.1
  have hl : lv_has ls 3 [(0, .int a0), (1, .int a1), (2, .int a2)] := hl
  refine lv_iload_n hx hb dX12_in_0 rfl (lv_at hl 0 rfl) ?_
  refine lv_iload_n hx hb dX12_in_1 rfl (lv_at hl 1 rfl) ?_
  refine lv_icmp_lt (tgt := 14) hx hb dX12_in_2 (by decide) (fun _ => ?_) (fun h => absurd h1 h)
  refine lv_iconst (v := 0) hx hb dX12_in_14 (by decide) ?_
  exact r_zret C hP hD hS () rfl rfl rfl (Nat.le_of_ble_eq_true rfl) (Nat.le_of_ble_eq_true rfl) dX12_in_15
set_option maxHeartbeats 4000000 in
set_option maxRecDepth 100000 in
theorem m_in_g (l : Launch) (D : va_G) (cI cZ cJ : ClassId) (a0 : Int32) (a1 : Int32) (a2 : Int32) (h1 : ¬ a0 < a1) (h2 : a2 < a0) : cM l yX12_in cX12_in 3 (some .boolean) D (TT cI cZ cJ) [.int a0, .int a1, .int a2] [] (qI D (TT cI cZ cJ) (fun u : Unit => 0) (fun u : Unit => [])) 0 0 0 := by
  refine enterM (by decide) (Nat.le_of_ble_eq_true rfl) ?_
  intro p e s m below meth c ls A C hP hD hS hl
  have hx := C.1
  have hb := C.2.1
  have hl : lv_has ls 3 [(0, .int a0), (1, .int a1), (2, .int a2)] := hl
  refine lv_iload_n hx hb dX12_in_0 rfl (lv_at hl 0 rfl) ?_
  refine lv_iload_n hx hb dX12_in_1 rfl (lv_at hl 1 rfl) ?_
  refine lv_icmp_lt (tgt := 14) hx hb dX12_in_2 (by decide) (fun h => absurd h h1) (fun _ => ?_)
  refine lv_iload_n hx hb dX12_in_5 rfl (lv_at hl 0 rfl) ?_
  refine lv_iload_n hx hb dX12_in_6 rfl (lv_at hl 2 rfl) ?_
  refine lv_icmp_gt (tgt := 14) hx hb dX12_in_7 (by decide) (fun _ => ?_) (fun h => absurd h2 h)
  refine lv_iconst (v := 0) hx hb dX12_in_14 (by decide) ?_
  exact r_zret C hP hD hS () rfl rfl rfl (Nat.le_of_ble_eq_true rfl) (Nat.le_of_ble_eq_true rfl) dX12_in_15
set_option maxHeartbeats 4000000 in
set_option maxRecDepth 100000 in
theorem m_noPolygon (l : Launch) (D : va_G) (cI cZ cJ : ClassId) (mo : Nat) (bu : Int32) (pe : Int32) (ep : Int32) (sz : Int32) (nx : Int32) (fr : Int32) (so : Int32) (wr : Int32) (wa : Int32) (as : Nat) (ak : Nat) (ab : Nat) (ar : Nat) (g : Nat → Value) (th : Int32)  : cM l yX12_noPolygon cX12_noPolygon 1 (some .boolean) D (TT cI cZ cJ) [.ref mo] [(mo, .inr (11, mC th bu pe ep sz nx fr so wr wa as ak ab ar g))] (qI D (TT cI cZ cJ) (fun u : Unit => 1) (fun u : Unit => [(mo, .inr (11, mC 1 bu pe ep sz nx fr so wr wa as ak ab ar g))])) 1 0 0 := by
  refine enterM (by decide) (Nat.le_of_ble_eq_true rfl) ?_
  intro p e s m below meth c ls A C hP hD hS hl
  have hx := C.1
  have hb := C.2.1
  have hl : lv_has ls 1 [(0, .ref mo)] := hl
  refine lv_aload_n hx hb dX12_noPolygon_0 rfl (lv_at hl 0 rfl) ?_
  refine lv_iconst (v := 0) hx hb dX12_noPolygon_1 (by decide) ?_
  refine r_put C hP hD hS 0 rfl fg_X12_79 rfl rfl (Nat.le_of_ble_eq_true rfl) dX12_noPolygon_2 [(mo, .inr (11, mC 0 bu pe ep sz nx fr so wr wa as ak ab ar g))] rfl (fun H locs hP hD hS => ?_)
  refine lv_aload_n hx hb dX12_noPolygon_5 rfl (lv_at hl 0 rfl) ?_
  refine lv_aload_n hx hb dX12_noPolygon_6 rfl (lv_at hl 0 rfl) ?_
  refine r_get (v := .int 0) C hP 0 rfl fg_X12_82 rfl dX12_noPolygon_7 ?_
  refine lv_if_ne (tgt := 17) hx hb dX12_noPolygon_10 (by decide) (fun h => absurd h (by decide)) (fun _ => ?_)
  refine lv_iconst (v := 1) hx hb dX12_noPolygon_13 (by decide) ?_
  refine lv_goto (tgt := 18) hx hb dX12_noPolygon_14 (by decide) ?_
  refine lv_iconst (v := 1) hx hb dX12_noPolygon_18 (by decide) ?_
  refine call_i (wr := []) C (run_V (As := [.int 1, .int 1]) (rest := []) C (m_refuse_y l D cI cZ cJ mo bu pe ep sz nx fr so wr wa as ak ab ar g 1 (by decide)) cV_X12_86 hP hD hS [0] rfl rfl 0 rfl rfl rfl rfl hl.1 rfl (Nat.le_of_ble_eq_true rfl) dX12_noPolygon_19 ⟨Nat.le_of_ble_eq_true rfl, Nat.le_of_ble_eq_true rfl⟩ ⟨Nat.le_of_ble_eq_true rfl, Nat.le_of_ble_eq_true rfl⟩) hP hD hS [0] [] rfl rfl rfl (by decide) (fun u1 H locs hP hD hS => ?_)
  have hP : va_P D CL [(mo, .inr (11, mC 1 bu pe ep sz nx fr so wr wa as ak ab ar g))] H := hP
  have hD : va_D A [(mo, .inr (11, mC 1 bu pe ep sz nx fr so wr wa as ak ab ar g))] := hD
  refine W.widen (k := 0) (n := 0) (Nat.le_of_ble_eq_true rfl) (Nat.le_of_ble_eq_true rfl) ?_
  refine W.eq (g2 := F0 m 22 ls [.int 1]) rfl ?_
  exact r_zret C hP hD hS () rfl rfl rfl (Nat.le_of_ble_eq_true rfl) (Nat.le_of_ble_eq_true rfl) dX12_noPolygon_22
set_option maxHeartbeats 4000000 in
set_option maxRecDepth 100000 in
theorem m_noVertex (l : Launch) (D : va_G) (cI cZ cJ : ClassId) (mo : Nat) (bu : Int32) (pe : Int32) (ep : Int32) (sz : Int32) (nx : Int32) (fr : Int32) (so : Int32) (wr : Int32) (wa : Int32) (as : Nat) (ak : Nat) (ab : Nat) (ar : Nat) (g : Nat → Value) (th : Int32) (a0 : Int32)  : cM l yX12_noVertex cX12_noVertex 2 (some .boolean) D (TT cI cZ cJ) [.ref mo, .int a0] [(mo, .inr (11, mC th bu pe ep sz nx fr so wr wa as ak ab ar g))] (qI D (TT cI cZ cJ) (fun u : Unit => 1) (fun u : Unit => [(mo, .inr (11, mC 1 bu pe ep sz nx fr so wr wa as ak ab ar g))])) 2 0 0 := by
  refine enterM (by decide) (Nat.le_of_ble_eq_true rfl) ?_
  intro p e s m below meth c ls A C hP hD hS hl
  have hx := C.1
  have hb := C.2.1
  have hl : lv_has ls 2 [(0, .ref mo), (1, .int a0)] := hl
  refine lv_aload_n hx hb dX12_noVertex_0 rfl (lv_at hl 0 rfl) ?_
  refine call_i (wr := []) C (run_V (As := []) (rest := []) C (m_noPolygon l D cI cZ cJ mo bu pe ep sz nx fr so wr wa as ak ab ar g th ) cV_X12_247 hP hD hS [0] rfl rfl 0 rfl rfl rfl rfl hl.1 rfl (Nat.le_of_ble_eq_true rfl) dX12_noVertex_1 ⟨Nat.le_of_ble_eq_true rfl, Nat.le_of_ble_eq_true rfl⟩ ⟨Nat.le_of_ble_eq_true rfl, Nat.le_of_ble_eq_true rfl⟩) hP hD hS [0] [] rfl rfl rfl (by decide) (fun u1 H locs hP hD hS => ?_)
  have hP : va_P D CL [(mo, .inr (11, mC 1 bu pe ep sz nx fr so wr wa as ak ab ar g))] H := hP
  have hD : va_D A [(mo, .inr (11, mC 1 bu pe ep sz nx fr so wr wa as ak ab ar g))] := hD
  refine W.widen (k := 0) (n := 0) (Nat.le_of_ble_eq_true rfl) (Nat.le_of_ble_eq_true rfl) ?_
  refine W.eq (g2 := F0 m 4 ls [.int 1]) rfl ?_
  refine lv_if_ne (tgt := 36) hx hb dX12_noVertex_4 (by decide) (fun _ => ?_) (fun h => absurd h (by decide))
  refine lv_iconst (v := 1) hx hb dX12_noVertex_36 (by decide) ?_
  refine lv_goto (tgt := 41) hx hb dX12_noVertex_37 (by decide) ?_
  exact r_zret C hP hD hS () rfl rfl rfl (Nat.le_of_ble_eq_true rfl) (Nat.le_of_ble_eq_true rfl) dX12_noVertex_41
set_option maxHeartbeats 4000000 in
set_option maxRecDepth 100000 in
theorem m_noPoint (l : Launch) (D : va_G) (cI cZ cJ : ClassId) (mo : Nat) (bu : Int32) (pe : Int32) (ep : Int32) (sz : Int32) (nx : Int32) (fr : Int32) (so : Int32) (wr : Int32) (wa : Int32) (as : Nat) (ak : Nat) (ab : Nat) (ar : Nat) (g : Nat → Value) (th : Int32) (a0 : Int32)  : cM l yX12_noPoint cX12_noPoint 2 (some .boolean) D (TT cI cZ cJ) [.ref mo, .int a0] [(mo, .inr (11, mC th bu pe ep sz nx fr so wr wa as ak ab ar g))] (qI D (TT cI cZ cJ) (fun u : Unit => 1) (fun u : Unit => [(mo, .inr (11, mC 1 bu pe ep sz nx fr so wr wa as ak ab ar g))])) 2 0 0 := by
  refine enterM (by decide) (Nat.le_of_ble_eq_true rfl) ?_
  intro p e s m below meth c ls A C hP hD hS hl
  have hx := C.1
  have hb := C.2.1
  have hl : lv_has ls 2 [(0, .ref mo), (1, .int a0)] := hl
  refine lv_aload_n hx hb dX12_noPoint_0 rfl (lv_at hl 0 rfl) ?_
  refine call_i (wr := []) C (run_V (As := []) (rest := []) C (m_noPolygon l D cI cZ cJ mo bu pe ep sz nx fr so wr wa as ak ab ar g th ) cV_X12_247 hP hD hS [0] rfl rfl 0 rfl rfl rfl rfl hl.1 rfl (Nat.le_of_ble_eq_true rfl) dX12_noPoint_1 ⟨Nat.le_of_ble_eq_true rfl, Nat.le_of_ble_eq_true rfl⟩ ⟨Nat.le_of_ble_eq_true rfl, Nat.le_of_ble_eq_true rfl⟩) hP hD hS [0] [] rfl rfl rfl (by decide) (fun u1 H locs hP hD hS => ?_)
  have hP : va_P D CL [(mo, .inr (11, mC 1 bu pe ep sz nx fr so wr wa as ak ab ar g))] H := hP
  have hD : va_D A [(mo, .inr (11, mC 1 bu pe ep sz nx fr so wr wa as ak ab ar g))] := hD
  refine W.widen (k := 0) (n := 0) (Nat.le_of_ble_eq_true rfl) (Nat.le_of_ble_eq_true rfl) ?_
  refine W.eq (g2 := F0 m 4 ls [.int 1]) rfl ?_
  refine lv_if_ne (tgt := 34) hx hb dX12_noPoint_4 (by decide) (fun _ => ?_) (fun h => absurd h (by decide))
  refine lv_iconst (v := 1) hx hb dX12_noPoint_34 (by decide) ?_
  refine lv_goto (tgt := 39) hx hb dX12_noPoint_35 (by decide) ?_
  exact r_zret C hP hD hS () rfl rfl rfl (Nat.le_of_ble_eq_true rfl) (Nat.le_of_ble_eq_true rfl) dX12_noPoint_39
set_option maxHeartbeats 4000000 in
set_option maxRecDepth 100000 in
theorem m_noGuard (l : Launch) (D : va_G) (cI cZ cJ : ClassId) (mo : Nat) (bu : Int32) (pe : Int32) (ep : Int32) (sz : Int32) (nx : Int32) (fr : Int32) (so : Int32) (wr : Int32) (wa : Int32) (as : Nat) (ak : Nat) (ab : Nat) (ar : Nat) (g : Nat → Value) (th : Int32) (a0 : Int32)  : cM l yX12_noGuard cX12_noGuard 2 (some .boolean) D (TT cI cZ cJ) [.ref mo, .int a0] [(mo, .inr (11, mC th bu pe ep sz nx fr so wr wa as ak ab ar g))] (qI D (TT cI cZ cJ) (fun u : Unit => 1) (fun u : Unit => [(mo, .inr (11, mC 1 bu pe ep sz nx fr so wr wa as ak ab ar g))])) 2 0 0 := by
  refine enterM (by decide) (Nat.le_of_ble_eq_true rfl) ?_
  intro p e s m below meth c ls A C hP hD hS hl
  have hx := C.1
  have hb := C.2.1
  have hl : lv_has ls 2 [(0, .ref mo), (1, .int a0)] := hl
  refine lv_aload_n hx hb dX12_noGuard_0 rfl (lv_at hl 0 rfl) ?_
  refine call_i (wr := []) C (run_V (As := []) (rest := []) C (m_noPolygon l D cI cZ cJ mo bu pe ep sz nx fr so wr wa as ak ab ar g th ) cV_X12_247 hP hD hS [0] rfl rfl 0 rfl rfl rfl rfl hl.1 rfl (Nat.le_of_ble_eq_true rfl) dX12_noGuard_1 ⟨Nat.le_of_ble_eq_true rfl, Nat.le_of_ble_eq_true rfl⟩ ⟨Nat.le_of_ble_eq_true rfl, Nat.le_of_ble_eq_true rfl⟩) hP hD hS [0] [] rfl rfl rfl (by decide) (fun u1 H locs hP hD hS => ?_)
  have hP : va_P D CL [(mo, .inr (11, mC 1 bu pe ep sz nx fr so wr wa as ak ab ar g))] H := hP
  have hD : va_D A [(mo, .inr (11, mC 1 bu pe ep sz nx fr so wr wa as ak ab ar g))] := hD
  refine W.widen (k := 0) (n := 0) (Nat.le_of_ble_eq_true rfl) (Nat.le_of_ble_eq_true rfl) ?_
  refine W.eq (g2 := F0 m 4 ls [.int 1]) rfl ?_
  refine lv_if_ne (tgt := 36) hx hb dX12_noGuard_4 (by decide) (fun _ => ?_) (fun h => absurd h (by decide))
  refine lv_iconst (v := 1) hx hb dX12_noGuard_36 (by decide) ?_
  refine lv_goto (tgt := 41) hx hb dX12_noGuard_37 (by decide) ?_
  exact r_zret C hP hD hS () rfl rfl rfl (Nat.le_of_ble_eq_true rfl) (Nat.le_of_ble_eq_true rfl) dX12_noGuard_41
set_option maxHeartbeats 4000000 in
set_option maxRecDepth 100000 in
theorem m_noTriangle (l : Launch) (D : va_G) (cI cZ cJ : ClassId) (mo : Nat) (bu : Int32) (pe : Int32) (ep : Int32) (sz : Int32) (nx : Int32) (fr : Int32) (so : Int32) (wr : Int32) (wa : Int32) (as : Nat) (ak : Nat) (ab : Nat) (ar : Nat) (g : Nat → Value) (th : Int32) (a0 : Int32)  : cM l yX12_noTriangle cX12_noTriangle 2 (some .boolean) D (TT cI cZ cJ) [.ref mo, .int a0] [(mo, .inr (11, mC th bu pe ep sz nx fr so wr wa as ak ab ar g))] (qI D (TT cI cZ cJ) (fun u : Unit => 1) (fun u : Unit => [(mo, .inr (11, mC 1 bu pe ep sz nx fr so wr wa as ak ab ar g))])) 2 0 0 := by
  refine enterM (by decide) (Nat.le_of_ble_eq_true rfl) ?_
  intro p e s m below meth c ls A C hP hD hS hl
  have hx := C.1
  have hb := C.2.1
  have hl : lv_has ls 2 [(0, .ref mo), (1, .int a0)] := hl
  refine lv_aload_n hx hb dX12_noTriangle_0 rfl (lv_at hl 0 rfl) ?_
  refine call_i (wr := []) C (run_V (As := []) (rest := []) C (m_noPolygon l D cI cZ cJ mo bu pe ep sz nx fr so wr wa as ak ab ar g th ) cV_X12_247 hP hD hS [0] rfl rfl 0 rfl rfl rfl rfl hl.1 rfl (Nat.le_of_ble_eq_true rfl) dX12_noTriangle_1 ⟨Nat.le_of_ble_eq_true rfl, Nat.le_of_ble_eq_true rfl⟩ ⟨Nat.le_of_ble_eq_true rfl, Nat.le_of_ble_eq_true rfl⟩) hP hD hS [0] [] rfl rfl rfl (by decide) (fun u1 H locs hP hD hS => ?_)
  have hP : va_P D CL [(mo, .inr (11, mC 1 bu pe ep sz nx fr so wr wa as ak ab ar g))] H := hP
  have hD : va_D A [(mo, .inr (11, mC 1 bu pe ep sz nx fr so wr wa as ak ab ar g))] := hD
  refine W.widen (k := 0) (n := 0) (Nat.le_of_ble_eq_true rfl) (Nat.le_of_ble_eq_true rfl) ?_
  refine W.eq (g2 := F0 m 4 ls [.int 1]) rfl ?_
  refine lv_if_ne (tgt := 36) hx hb dX12_noTriangle_4 (by decide) (fun _ => ?_) (fun h => absurd h (by decide))
  refine lv_iconst (v := 1) hx hb dX12_noTriangle_36 (by decide) ?_
  refine lv_goto (tgt := 41) hx hb dX12_noTriangle_37 (by decide) ?_
  exact r_zret C hP hD hS () rfl rfl rfl (Nat.le_of_ble_eq_true rfl) (Nat.le_of_ble_eq_true rfl) dX12_noTriangle_41
set_option maxHeartbeats 4000000 in
set_option maxRecDepth 100000 in
theorem m_told (l : Launch) (D : va_G) (cI cZ cJ : ClassId) (mo : Nat) (bu : Int32) (pe : Int32) (ep : Int32) (sz : Int32) (nx : Int32) (fr : Int32) (so : Int32) (wr : Int32) (wa : Int32) (as : Nat) (ak : Nat) (ab : Nat) (ar : Nat) (g : Nat → Value) (th : Int32) (a0 : Int32)  : cM l yX12_told cX12_told 2 (some .int) D (TT cI cZ cJ) [.ref mo, .int a0] [(mo, .inr (11, mC th bu pe ep sz nx fr so wr wa as ak ab ar g))] (qI D (TT cI cZ cJ) (fun u : Unit => 0) (fun u : Unit => [(mo, .inr (11, mC 0 bu pe ep sz nx fr so wr wa as ak ab ar g))])) 0 0 0 := by
  refine enterM (by decide) (Nat.le_of_ble_eq_true rfl) ?_
  intro p e s m below meth c ls A C hP hD hS hl
  have hx := C.1
  have hb := C.2.1
  have hl : lv_has ls 2 [(0, .ref mo), (1, .int a0)] := hl
  refine lv_aload_n hx hb dX12_told_0 rfl (lv_at hl 0 rfl) ?_
  refine lv_iconst (v := 0) hx hb dX12_told_1 (by decide) ?_
  refine r_put C hP hD hS 0 rfl fg_X12_79 rfl rfl (Nat.le_of_ble_eq_true rfl) dX12_told_2 [(mo, .inr (11, mC 0 bu pe ep sz nx fr so wr wa as ak ab ar g))] rfl (fun H locs hP hD hS => ?_)
  refine lv_aload_n hx hb dX12_told_5 rfl (lv_at hl 0 rfl) ?_
  refine r_get (v := .int 0) C hP 0 rfl fg_X12_82 rfl dX12_told_6 ?_
  refine lv_if_eq (tgt := 16) hx hb dX12_told_9 (by decide) (fun _ => ?_) (fun h => absurd (by decide) h)
  refine lv_iconst (v := 0) hx hb dX12_told_16 (by decide) ?_
  exact r_iret C hP hD hS () rfl rfl (Nat.le_of_ble_eq_true rfl) (Nat.le_of_ble_eq_true rfl) dX12_told_17
