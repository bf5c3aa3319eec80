set_option maxHeartbeats 4000000 in
set_option maxRecDepth 100000 in
theorem m_vertexX (l : Launch) (D : va_G) (cI cZ cJ : ClassId) (mo : Nat) (bu : Int32) (pe : Int32) (ep : Int32) (sz : Int32) (nx : Int32) (fr : Int32) (so : Int32) (wr : Int32) (wa : Int32) (as : Nat) (ak : Nat) (ab : Nat) (ar : Nat) (g : Nat → Value) (th : Int32) (a0 : Int32)  : cM l yX12_vertexX cX12_vertexX 2 (some .int) D (TT cI cZ cJ) [.ref mo, .int a0] [(mo, .inr (11, mC th bu pe ep sz nx fr so wr wa as ak ab ar g))] (qI D (TT cI cZ cJ) (fun u : Unit => 0) (fun u : Unit => [(mo, .inr (11, mC 1 bu pe ep sz nx fr so wr wa as ak ab ar g))])) 3 0 0 := by
  refine enterM (by decide) (Nat.le_of_ble_eq_true rfl) ?_
  intro p e s m below meth c ls A C hP hD hS hl
  have hx := C.1
  have hb := C.2.1
  have hl : lv_has ls 2 [(0, .ref mo), (1, .int a0)] := hl
  refine lv_aload_n hx hb dX12_vertexX_0 rfl (lv_at hl 0 rfl) ?_
  refine lv_iload_n hx hb dX12_vertexX_1 rfl (lv_at hl 1 rfl) ?_
  refine call_i (wr := []) C (run_V (As := [.int a0]) (rest := []) C (m_noVertex l D cI cZ cJ mo bu pe ep sz nx fr so wr wa as ak ab ar g th a0 ) cV_X12_251 hP hD hS [0] rfl rfl 0 rfl rfl rfl rfl hl.1 rfl (Nat.le_of_ble_eq_true rfl) dX12_vertexX_2 ⟨Nat.le_of_ble_eq_true rfl, Nat.le_of_ble_eq_true rfl⟩ ⟨Nat.le_of_ble_eq_true rfl, Nat.le_of_ble_eq_true rfl⟩) hP hD hS [0] [] rfl rfl rfl (by decide) (fun u1 H locs hP hD hS => ?_)
  have hP : va_P D CL [(mo, .inr (11, mC 1 bu pe ep sz nx fr so wr wa as ak ab ar g))] H := hP
  have hD : va_D A [(mo, .inr (11, mC 1 bu pe ep sz nx fr so wr wa as ak ab ar g))] := hD
  refine W.widen (k := 0) (n := 0) (Nat.le_of_ble_eq_true rfl) (Nat.le_of_ble_eq_true rfl) ?_
  refine W.eq (g2 := F0 m 5 ls [.int 1]) rfl ?_
  refine lv_if_eq (tgt := 12) hx hb dX12_vertexX_5 (by decide) (fun h => absurd h (by decide)) (fun _ => ?_)
  refine lv_iconst (v := 0) hx hb dX12_vertexX_8 (by decide) ?_
  refine lv_goto (tgt := 20) hx hb dX12_vertexX_9 (by decide) ?_
  exact r_iret C hP hD hS () rfl rfl (Nat.le_of_ble_eq_true rfl) (Nat.le_of_ble_eq_true rfl) dX12_vertexX_20
set_option maxHeartbeats 4000000 in
set_option maxRecDepth 100000 in
theorem m_vertexY (l : Launch) (D : va_G) (cI cZ cJ : ClassId) (mo : Nat) (bu : Int32) (pe : Int32) (ep : Int32) (sz : Int32) (nx : Int32) (fr : Int32) (so : Int32) (wr : Int32) (wa : Int32) (as : Nat) (ak : Nat) (ab : Nat) (ar : Nat) (g : Nat → Value) (th : Int32) (a0 : Int32)  : cM l yX12_vertexY cX12_vertexY 2 (some .int) D (TT cI cZ cJ) [.ref mo, .int a0] [(mo, .inr (11, mC th bu pe ep sz nx fr so wr wa as ak ab ar g))] (qI D (TT cI cZ cJ) (fun u : Unit => 0) (fun u : Unit => [(mo, .inr (11, mC 1 bu pe ep sz nx fr so wr wa as ak ab ar g))])) 3 0 0 := by
  refine enterM (by decide) (Nat.le_of_ble_eq_true rfl) ?_
  intro p e s m below meth c ls A C hP hD hS hl
  have hx := C.1
  have hb := C.2.1
  have hl : lv_has ls 2 [(0, .ref mo), (1, .int a0)] := hl
  refine lv_aload_n hx hb dX12_vertexY_0 rfl (lv_at hl 0 rfl) ?_
  refine lv_iload_n hx hb dX12_vertexY_1 rfl (lv_at hl 1 rfl) ?_
  refine call_i (wr := []) C (run_V (As := [.int a0]) (rest := []) C (m_noVertex l D cI cZ cJ mo bu pe ep sz nx fr so wr wa as ak ab ar g th a0 ) cV_X12_251 hP hD hS [0] rfl rfl 0 rfl rfl rfl rfl hl.1 rfl (Nat.le_of_ble_eq_true rfl) dX12_vertexY_2 ⟨Nat.le_of_ble_eq_true rfl, Nat.le_of_ble_eq_true rfl⟩ ⟨Nat.le_of_ble_eq_true rfl, Nat.le_of_ble_eq_true rfl⟩) hP hD hS [0] [] rfl rfl rfl (by decide) (fun u1 H locs hP hD hS => ?_)
  have hP : va_P D CL [(mo, .inr (11, mC 1 bu pe ep sz nx fr so wr wa as ak ab ar g))] H := hP
  have hD : va_D A [(mo, .inr (11, mC 1 bu pe ep sz nx fr so wr wa as ak ab ar g))] := hD
  refine W.widen (k := 0) (n := 0) (Nat.le_of_ble_eq_true rfl) (Nat.le_of_ble_eq_true rfl) ?_
  refine W.eq (g2 := F0 m 5 ls [.int 1]) rfl ?_
  refine lv_if_eq (tgt := 12) hx hb dX12_vertexY_5 (by decide) (fun h => absurd h (by decide)) (fun _ => ?_)
  refine lv_iconst (v := 0) hx hb dX12_vertexY_8 (by decide) ?_
  refine lv_goto (tgt := 21) hx hb dX12_vertexY_9 (by decide) ?_
  exact r_iret C hP hD hS () rfl rfl (Nat.le_of_ble_eq_true rfl) (Nat.le_of_ble_eq_true rfl) dX12_vertexY_21
set_option maxHeartbeats 4000000 in
set_option maxRecDepth 100000 in
theorem m_doubleArea (l : Launch) (D : va_G) (cI cZ cJ : ClassId) (mo : Nat) (bu : Int32) (pe : Int32) (ep : Int32) (sz : Int32) (nx : Int32) (fr : Int32) (so : Int32) (wr : Int32) (wa : Int32) (as : Nat) (ak : Nat) (ab : Nat) (ar : Nat) (g : Nat → Value) (th : Int32)  : cM l yX12_doubleArea cX12_doubleArea 1 (some .int) D (TT cI cZ cJ) [.ref mo] [(mo, .inr (11, mC th bu pe ep sz nx fr so wr wa as ak ab ar g))] (qI D (TT cI cZ cJ) (fun u : Unit => 0) (fun u : Unit => [(mo, .inr (11, mC 1 bu pe ep sz nx fr so wr wa as ak ab ar g))])) 3 0 0 := by
  refine enterM (by decide) (Nat.le_of_ble_eq_true rfl) ?_
  intro p e s m below meth c ls A C hP hD hS hl
  have hx := C.1
  have hb := C.2.1
  have hl : lv_has ls 1 [(0, .ref mo)] := hl
  refine lv_aload_n hx hb dX12_doubleArea_0 rfl (lv_at hl 0 rfl) ?_
  refine call_i (wr := []) C (run_V (As := []) (rest := []) C (m_noPolygon l D cI cZ cJ mo bu pe ep sz nx fr so wr wa as ak ab ar g th ) cV_X12_247 hP hD hS [0] rfl rfl 0 rfl rfl rfl rfl hl.1 rfl (Nat.le_of_ble_eq_true rfl) dX12_doubleArea_1 ⟨Nat.le_of_ble_eq_true rfl, Nat.le_of_ble_eq_true rfl⟩ ⟨Nat.le_of_ble_eq_true rfl, Nat.le_of_ble_eq_true rfl⟩) hP hD hS [0] [] rfl rfl rfl (by decide) (fun u1 H locs hP hD hS => ?_)
  have hP : va_P D CL [(mo, .inr (11, mC 1 bu pe ep sz nx fr so wr wa as ak ab ar g))] H := hP
  have hD : va_D A [(mo, .inr (11, mC 1 bu pe ep sz nx fr so wr wa as ak ab ar g))] := hD
  refine W.widen (k := 0) (n := 0) (Nat.le_of_ble_eq_true rfl) (Nat.le_of_ble_eq_true rfl) ?_
  refine W.eq (g2 := F0 m 4 ls [.int 1]) rfl ?_
  refine lv_if_eq (tgt := 9) hx hb dX12_doubleArea_4 (by decide) (fun h => absurd h (by decide)) (fun _ => ?_)
  refine lv_iconst (v := 0) hx hb dX12_doubleArea_7 (by decide) ?_
  exact r_iret C hP hD hS () rfl rfl (Nat.le_of_ble_eq_true rfl) (Nat.le_of_ble_eq_true rfl) dX12_doubleArea_8
set_option maxHeartbeats 4000000 in
set_option maxRecDepth 100000 in
theorem m_reflexVertices (l : Launch) (D : va_G) (cI cZ cJ : ClassId) (mo : Nat) (bu : Int32) (pe : Int32) (ep : Int32) (sz : Int32) (nx : Int32) (fr : Int32) (so : Int32) (wr : Int32) (wa : Int32) (as : Nat) (ak : Nat) (ab : Nat) (ar : Nat) (g : Nat → Value) (th : Int32)  : cM l yX12_reflexVertices cX12_reflexVertices 4 (some .int) D (TT cI cZ cJ) [.ref mo] [(mo, .inr (11, mC th bu pe ep sz nx fr so wr wa as ak ab ar g))] (qI D (TT cI cZ cJ) (fun u : Unit => 0) (fun u : Unit => [(mo, .inr (11, mC 1 bu pe ep sz nx fr so wr wa as ak ab ar g))])) 3 0 0 := by
  refine enterM (by decide) (Nat.le_of_ble_eq_true rfl) ?_
  intro p e s m below meth c ls A C hP hD hS hl
  have hx := C.1
  have hb := C.2.1
  have hl : lv_has ls 4 [(0, .ref mo)] := hl
  refine lv_aload_n hx hb dX12_reflexVertices_0 rfl (lv_at hl 0 rfl) ?_
  refine call_i (wr := []) C (run_V (As := []) (rest := []) C (m_noPolygon l D cI cZ cJ mo bu pe ep sz nx fr so wr wa as ak ab ar g th ) cV_X12_247 hP hD hS [0] rfl rfl 0 rfl rfl rfl rfl hl.1 rfl (Nat.le_of_ble_eq_true rfl) dX12_reflexVertices_1 ⟨Nat.le_of_ble_eq_true rfl, Nat.le_of_ble_eq_true rfl⟩ ⟨Nat.le_of_ble_eq_true rfl, Nat.le_of_ble_eq_true rfl⟩) hP hD hS [0] [] rfl rfl rfl (by decide) (fun u1 H locs hP hD hS => ?_)
  have hP : va_P D CL [(mo, .inr (11, mC 1 bu pe ep sz nx fr so wr wa as ak ab ar g))] H := hP
  have hD : va_D A [(mo, .inr (11, mC 1 bu pe ep sz nx fr so wr wa as ak ab ar g))] := hD
  refine W.widen (k := 0) (n := 0) (Nat.le_of_ble_eq_true rfl) (Nat.le_of_ble_eq_true rfl) ?_
  refine W.eq (g2 := F0 m 4 ls [.int 1]) rfl ?_
  refine lv_if_eq (tgt := 9) hx hb dX12_reflexVertices_4 (by decide) (fun h => absurd h (by decide)) (fun _ => ?_)
  refine lv_iconst (v := 0) hx hb dX12_reflexVertices_7 (by decide) ?_
  exact r_iret C hP hD hS () rfl rfl (Nat.le_of_ble_eq_true rfl) (Nat.le_of_ble_eq_true rfl) dX12_reflexVertices_8
set_option maxHeartbeats 4000000 in
set_option maxRecDepth 100000 in
theorem m_pointX (l : Launch) (D : va_G) (cI cZ cJ : ClassId) (mo : Nat) (bu : Int32) (pe : Int32) (ep : Int32) (sz : Int32) (nx : Int32) (fr : Int32) (so : Int32) (wr : Int32) (wa : Int32) (as : Nat) (ak : Nat) (ab : Nat) (ar : Nat) (g : Nat → Value) (th : Int32) (a0 : Int32)  : cM l yX12_pointX cX12_pointX 2 (some .int) D (TT cI cZ cJ) [.ref mo, .int a0] [(mo, .inr (11, mC th bu pe ep sz nx fr so wr wa as ak ab ar g))] (qI D (TT cI cZ cJ) (fun u : Unit => 0) (fun u : Unit => [(mo, .inr (11, mC 1 bu pe ep sz nx fr so wr wa as ak ab ar g))])) 3 0 0 := by
  refine enterM (by decide) (Nat.le_of_ble_eq_true rfl) ?_
  intro p e s m below meth c ls A C hP hD hS hl
  have hx := C.1
  have hb := C.2.1
  have hl : lv_has ls 2 [(0, .ref mo), (1, .int a0)] := hl
  refine lv_aload_n hx hb dX12_pointX_0 rfl (lv_at hl 0 rfl) ?_
  refine lv_iload_n hx hb dX12_pointX_1 rfl (lv_at hl 1 rfl) ?_
  refine call_i (wr := []) C (run_V (As := [.int a0]) (rest := []) C (m_noPoint l D cI cZ cJ mo bu pe ep sz nx fr so wr wa as ak ab ar g th a0 ) cV_X12_254 hP hD hS [0] rfl rfl 0 rfl rfl rfl rfl hl.1 rfl (Nat.le_of_ble_eq_true rfl) dX12_pointX_2 ⟨Nat.le_of_ble_eq_true rfl, Nat.le_of_ble_eq_true rfl⟩ ⟨Nat.le_of_ble_eq_true rfl, Nat.le_of_ble_eq_true rfl⟩) hP hD hS [0] [] rfl rfl rfl (by decide) (fun u1 H locs hP hD hS => ?_)
  have hP : va_P D CL [(mo, .inr (11, mC 1 bu pe ep sz nx fr so wr wa as ak ab ar g))] H := hP
  have hD : va_D A [(mo, .inr (11, mC 1 bu pe ep sz nx fr so wr wa as ak ab ar g))] := hD
  refine W.widen (k := 0) (n := 0) (Nat.le_of_ble_eq_true rfl) (Nat.le_of_ble_eq_true rfl) ?_
  refine W.eq (g2 := F0 m 5 ls [.int 1]) rfl ?_
  refine lv_if_eq (tgt := 12) hx hb dX12_pointX_5 (by decide) (fun h => absurd h (by decide)) (fun _ => ?_)
  refine lv_iconst (v := 0) hx hb dX12_pointX_8 (by decide) ?_
  refine lv_goto (tgt := 18) hx hb dX12_pointX_9 (by decide) ?_
  exact r_iret C hP hD hS () rfl rfl (Nat.le_of_ble_eq_true rfl) (Nat.le_of_ble_eq_true rfl) dX12_pointX_18
set_option maxHeartbeats 4000000 in
set_option maxRecDepth 100000 in
theorem m_pointY (l : Launch) (D : va_G) (cI cZ cJ : ClassId) (mo : Nat) (bu : Int32) (pe : Int32) (ep : Int32) (sz : Int32) (nx : Int32) (fr : Int32) (so : Int32) (wr : Int32) (wa : Int32) (as : Nat) (ak : Nat) (ab : Nat) (ar : Nat) (g : Nat → Value) (th : Int32) (a0 : Int32)  : cM l yX12_pointY cX12_pointY 2 (some .int) D (TT cI cZ cJ) [.ref mo, .int a0] [(mo, .inr (11, mC th bu pe ep sz nx fr so wr wa as ak ab ar g))] (qI D (TT cI cZ cJ) (fun u : Unit => 0) (fun u : Unit => [(mo, .inr (11, mC 1 bu pe ep sz nx fr so wr wa as ak ab ar g))])) 3 0 0 := by
  refine enterM (by decide) (Nat.le_of_ble_eq_true rfl) ?_
  intro p e s m below meth c ls A C hP hD hS hl
  have hx := C.1
  have hb := C.2.1
  have hl : lv_has ls 2 [(0, .ref mo), (1, .int a0)] := hl
  refine lv_aload_n hx hb dX12_pointY_0 rfl (lv_at hl 0 rfl) ?_
  refine lv_iload_n hx hb dX12_pointY_1 rfl (lv_at hl 1 rfl) ?_
  refine call_i (wr := []) C (run_V (As := [.int a0]) (rest := []) C (m_noPoint l D cI cZ cJ mo bu pe ep sz nx fr so wr wa as ak ab ar g th a0 ) cV_X12_254 hP hD hS [0] rfl rfl 0 rfl rfl rfl rfl hl.1 rfl (Nat.le_of_ble_eq_true rfl) dX12_pointY_2 ⟨Nat.le_of_ble_eq_true rfl, Nat.le_of_ble_eq_true rfl⟩ ⟨Nat.le_of_ble_eq_true rfl, Nat.le_of_ble_eq_true rfl⟩) hP hD hS [0] [] rfl rfl rfl (by decide) (fun u1 H locs hP hD hS => ?_)
  have hP : va_P D CL [(mo, .inr (11, mC 1 bu pe ep sz nx fr so wr wa as ak ab ar g))] H := hP
  have hD : va_D A [(mo, .inr (11, mC 1 bu pe ep sz nx fr so wr wa as ak ab ar g))] := hD
  refine W.widen (k := 0) (n := 0) (Nat.le_of_ble_eq_true rfl) (Nat.le_of_ble_eq_true rfl) ?_
  refine W.eq (g2 := F0 m 5 ls [.int 1]) rfl ?_
  refine lv_if_eq (tgt := 12) hx hb dX12_pointY_5 (by decide) (fun h => absurd h (by decide)) (fun _ => ?_)
  refine lv_iconst (v := 0) hx hb dX12_pointY_8 (by decide) ?_
  refine lv_goto (tgt := 18) hx hb dX12_pointY_9 (by decide) ?_
  exact r_iret C hP hD hS () rfl rfl (Nat.le_of_ble_eq_true rfl) (Nat.le_of_ble_eq_true rfl) dX12_pointY_18
set_option maxHeartbeats 4000000 in
set_option maxRecDepth 100000 in
theorem m_pointAt (l : Launch) (D : va_G) (cI cZ cJ : ClassId) (mo : Nat) (bu : Int32) (pe : Int32) (ep : Int32) (sz : Int32) (nx : Int32) (fr : Int32) (so : Int32) (wr : Int32) (wa : Int32) (as : Nat) (ak : Nat) (ab : Nat) (ar : Nat) (g : Nat → Value) (th : Int32) (a0 : Int32) (a1 : Int32)  : cM l yX12_pointAt cX12_pointAt 3 (some .int) D (TT cI cZ cJ) [.ref mo, .int a0, .int a1] [(mo, .inr (11, mC th bu pe ep sz nx fr so wr wa as ak ab ar g))] (qI D (TT cI cZ cJ) (fun u : Unit => 0) (fun u : Unit => [(mo, .inr (11, mC 1 bu pe ep sz nx fr so wr wa as ak ab ar g))])) 3 0 0 := by
  refine enterM (by decide) (Nat.le_of_ble_eq_true rfl) ?_
  intro p e s m below meth c ls A C hP hD hS hl
  have hx := C.1
  have hb := C.2.1
  have hl : lv_has ls 3 [(0, .ref mo), (1, .int a0), (2, .int a1)] := hl
  refine lv_aload_n hx hb dX12_pointAt_0 rfl (lv_at hl 0 rfl) ?_
  refine call_i (wr := []) C (run_V (As := []) (rest := []) C (m_noPolygon l D cI cZ cJ mo bu pe ep sz nx fr so wr wa as ak ab ar g th ) cV_X12_247 hP hD hS [0] rfl rfl 0 rfl rfl rfl rfl hl.1 rfl (Nat.le_of_ble_eq_true rfl) dX12_pointAt_1 ⟨Nat.le_of_ble_eq_true rfl, Nat.le_of_ble_eq_true rfl⟩ ⟨Nat.le_of_ble_eq_true rfl, Nat.le_of_ble_eq_true rfl⟩) hP hD hS [0] [] rfl rfl rfl (by decide) (fun u1 H locs hP hD hS => ?_)
  have hP : va_P D CL [(mo, .inr (11, mC 1 bu pe ep sz nx fr so wr wa as ak ab ar g))] H := hP
  have hD : va_D A [(mo, .inr (11, mC 1 bu pe ep sz nx fr so wr wa as ak ab ar g))] := hD
  refine W.widen (k := 0) (n := 0) (Nat.le_of_ble_eq_true rfl) (Nat.le_of_ble_eq_true rfl) ?_
  refine W.eq (g2 := F0 m 4 ls [.int 1]) rfl ?_
  refine lv_if_eq (tgt := 11) hx hb dX12_pointAt_4 (by decide) (fun h => absurd h (by decide)) (fun _ => ?_)
  refine lv_iconst (v := 0) hx hb dX12_pointAt_7 (by decide) ?_
  refine lv_goto (tgt := 17) hx hb dX12_pointAt_8 (by decide) ?_
  exact r_iret C hP hD hS () rfl rfl (Nat.le_of_ble_eq_true rfl) (Nat.le_of_ble_eq_true rfl) dX12_pointAt_17
set_option maxHeartbeats 4000000 in
set_option maxRecDepth 100000 in
theorem m_boundary (l : Launch) (D : va_G) (cI cZ cJ : ClassId) (mo : Nat) (bu : Int32) (pe : Int32) (ep : Int32) (sz : Int32) (nx : Int32) (fr : Int32) (so : Int32) (wr : Int32) (wa : Int32) (as : Nat) (ak : Nat) (ab : Nat) (ar : Nat) (g : Nat → Value) (th : Int32)  : cM l yX12_boundary cX12_boundary 4 (some .long) D (TT cI cZ cJ) [.ref mo] [(mo, .inr (11, mC th bu pe ep sz nx fr so wr wa as ak ab ar g))] (qL D (TT cI cZ cJ) (fun u : Unit => 0) (fun u : Unit => [(mo, .inr (11, mC 1 bu pe ep sz nx fr so wr wa as ak ab ar g))])) 3 0 0 := by
  refine enterM (by decide) (Nat.le_of_ble_eq_true rfl) ?_
  intro p e s m below meth c ls A C hP hD hS hl
  have hx := C.1
  have hb := C.2.1
  have hl : lv_has ls 4 [(0, .ref mo)] := hl
  refine lv_aload_n hx hb dX12_boundary_0 rfl (lv_at hl 0 rfl) ?_
  refine call_i (wr := []) C (run_V (As := []) (rest := []) C (m_noPolygon l D cI cZ cJ mo bu pe ep sz nx fr so wr wa as ak ab ar g th ) cV_X12_247 hP hD hS [0] rfl rfl 0 rfl rfl rfl rfl hl.1 rfl (Nat.le_of_ble_eq_true rfl) dX12_boundary_1 ⟨Nat.le_of_ble_eq_true rfl, Nat.le_of_ble_eq_true rfl⟩ ⟨Nat.le_of_ble_eq_true rfl, Nat.le_of_ble_eq_true rfl⟩) hP hD hS [0] [] rfl rfl rfl (by decide) (fun u1 H locs hP hD hS => ?_)
  have hP : va_P D CL [(mo, .inr (11, mC 1 bu pe ep sz nx fr so wr wa as ak ab ar g))] H := hP
  have hD : va_D A [(mo, .inr (11, mC 1 bu pe ep sz nx fr so wr wa as ak ab ar g))] := hD
  refine W.widen (k := 0) (n := 0) (Nat.le_of_ble_eq_true rfl) (Nat.le_of_ble_eq_true rfl) ?_
  refine W.eq (g2 := F0 m 4 ls [.int 1]) rfl ?_
  refine lv_if_eq (tgt := 9) hx hb dX12_boundary_4 (by decide) (fun h => absurd h (by decide)) (fun _ => ?_)
  refine lv_lconst (v := 0) hx hb dX12_boundary_7 (by decide) ?_
  exact r_lret C hP hD hS () rfl rfl (Nat.le_of_ble_eq_true rfl) (Nat.le_of_ble_eq_true rfl) dX12_boundary_8
set_option maxHeartbeats 4000000 in
set_option maxRecDepth 100000 in
theorem m_sees (l : Launch) (D : va_G) (cI cZ cJ : ClassId) (mo : Nat) (bu : Int32) (pe : Int32) (ep : Int32) (sz : Int32) (nx : Int32) (fr : Int32) (so : Int32) (wr : Int32) (wa : Int32) (as : Nat) (ak : Nat) (ab : Nat) (ar : Nat) (g : Nat → Value) (th : Int32) (a0 : Int32) (a1 : Int32)  : cM l yX12_sees cX12_sees 3 (some .boolean) D (TT cI cZ cJ) [.ref mo, .int a0, .int a1] [(mo, .inr (11, mC th bu pe ep sz nx fr so wr wa as ak ab ar g))] (qI D (TT cI cZ cJ) (fun u : Unit => 0) (fun u : Unit => [(mo, .inr (11, mC 1 bu pe ep sz nx fr so wr wa as ak ab ar g))])) 3 0 0 := by
  refine enterM (by decide) (Nat.le_of_ble_eq_true rfl) ?_
  intro p e s m below meth c ls A C hP hD hS hl
  have hx := C.1
  have hb := C.2.1
  have hl : lv_has ls 3 [(0, .ref mo), (1, .int a0), (2, .int a1)] := hl
  refine lv_aload_n hx hb dX12_sees_0 rfl (lv_at hl 0 rfl) ?_
  refine lv_iload_n hx hb dX12_sees_1 rfl (lv_at hl 1 rfl) ?_
  refine call_i (wr := []) C (run_V (As := [.int a0]) (rest := []) C (m_noPoint l D cI cZ cJ mo bu pe ep sz nx fr so wr wa as ak ab ar g th a0 ) cV_X12_254 hP hD hS [0] rfl rfl 0 rfl rfl rfl rfl hl.1 rfl (Nat.le_of_ble_eq_true rfl) dX12_sees_2 ⟨Nat.le_of_ble_eq_true rfl, Nat.le_of_ble_eq_true rfl⟩ ⟨Nat.le_of_ble_eq_true rfl, Nat.le_of_ble_eq_true rfl⟩) hP hD hS [0] [] rfl rfl rfl (by decide) (fun u1 H locs hP hD hS => ?_)
  have hP : va_P D CL [(mo, .inr (11, mC 1 bu pe ep sz nx fr so wr wa as ak ab ar g))] H := hP
  have hD : va_D A [(mo, .inr (11, mC 1 bu pe ep sz nx fr so wr wa as ak ab ar g))] := hD
  refine W.widen (k := 0) (n := 0) (Nat.le_of_ble_eq_true rfl) (Nat.le_of_ble_eq_true rfl) ?_
  refine W.eq (g2 := F0 m 5 ls [.int 1]) rfl ?_
  refine lv_if_ne (tgt := 35) hx hb dX12_sees_5 (by decide) (fun _ => ?_) (fun h => absurd h (by decide))
  refine lv_iconst (v := 0) hx hb dX12_sees_35 (by decide) ?_
  exact r_zret C hP hD hS () rfl rfl rfl (Nat.le_of_ble_eq_true rfl) (Nat.le_of_ble_eq_true rfl) dX12_sees_36
set_option maxHeartbeats 4000000 in
set_option maxRecDepth 100000 in
theorem m_visible (l : Launch) (D : va_G) (cI cZ cJ : ClassId) (mo : Nat) (bu : Int32) (pe : Int32) (ep : Int32) (sz : Int32) (nx : Int32) (fr : Int32) (so : Int32) (wr : Int32) (wa : Int32) (as : Nat) (ak : Nat) (ab : Nat) (ar : Nat) (g : Nat → Value) (th : Int32) (a0 : Int32)  : cM l yX12_visible cX12_visible 2 (some .long) D (TT cI cZ cJ) [.ref mo, .int a0] [(mo, .inr (11, mC th bu pe ep sz nx fr so wr wa as ak ab ar g))] (qL D (TT cI cZ cJ) (fun u : Unit => 0) (fun u : Unit => [(mo, .inr (11, mC 1 bu pe ep sz nx fr so wr wa as ak ab ar g))])) 3 0 0 := by
  refine enterM (by decide) (Nat.le_of_ble_eq_true rfl) ?_
  intro p e s m below meth c ls A C hP hD hS hl
  have hx := C.1
  have hb := C.2.1
  have hl : lv_has ls 2 [(0, .ref mo), (1, .int a0)] := hl
  refine lv_aload_n hx hb dX12_visible_0 rfl (lv_at hl 0 rfl) ?_
  refine lv_iload_n hx hb dX12_visible_1 rfl (lv_at hl 1 rfl) ?_
  refine call_i (wr := []) C (run_V (As := [.int a0]) (rest := []) C (m_noPoint l D cI cZ cJ mo bu pe ep sz nx fr so wr wa as ak ab ar g th a0 ) cV_X12_254 hP hD hS [0] rfl rfl 0 rfl rfl rfl rfl hl.1 rfl (Nat.le_of_ble_eq_true rfl) dX12_visible_2 ⟨Nat.le_of_ble_eq_true rfl, Nat.le_of_ble_eq_true rfl⟩ ⟨Nat.le_of_ble_eq_true rfl, Nat.le_of_ble_eq_true rfl⟩) hP hD hS [0] [] rfl rfl rfl (by decide) (fun u1 H locs hP hD hS => ?_)
  have hP : va_P D CL [(mo, .inr (11, mC 1 bu pe ep sz nx fr so wr wa as ak ab ar g))] H := hP
  have hD : va_D A [(mo, .inr (11, mC 1 bu pe ep sz nx fr so wr wa as ak ab ar g))] := hD
  refine W.widen (k := 0) (n := 0) (Nat.le_of_ble_eq_true rfl) (Nat.le_of_ble_eq_true rfl) ?_
  refine W.eq (g2 := F0 m 5 ls [.int 1]) rfl ?_
  refine lv_if_eq (tgt := 10) hx hb dX12_visible_5 (by decide) (fun h => absurd h (by decide)) (fun _ => ?_)
  refine lv_lconst (v := 0) hx hb dX12_visible_8 (by decide) ?_
  exact r_lret C hP hD hS () rfl rfl (Nat.le_of_ble_eq_true rfl) (Nat.le_of_ble_eq_true rfl) dX12_visible_9
set_option maxHeartbeats 4000000 in
set_option maxRecDepth 100000 in
theorem m_kernel (l : Launch) (D : va_G) (cI cZ cJ : ClassId) (mo : Nat) (bu : Int32) (pe : Int32) (ep : Int32) (sz : Int32) (nx : Int32) (fr : Int32) (so : Int32) (wr : Int32) (wa : Int32) (as : Nat) (ak : Nat) (ab : Nat) (ar : Nat) (g : Nat → Value) (th : Int32)  : cM l yX12_kernel cX12_kernel 4 (some .long) D (TT cI cZ cJ) [.ref mo] [(mo, .inr (11, mC th bu pe ep sz nx fr so wr wa as ak ab ar g))] (qL D (TT cI cZ cJ) (fun u : Unit => 0) (fun u : Unit => [(mo, .inr (11, mC 1 bu pe ep sz nx fr so wr wa as ak ab ar g))])) 3 0 0 := by
  refine enterM (by decide) (Nat.le_of_ble_eq_true rfl) ?_
  intro p e s m below meth c ls A C hP hD hS hl
  have hx := C.1
  have hb := C.2.1
  have hl : lv_has ls 4 [(0, .ref mo)] := hl
  refine lv_aload_n hx hb dX12_kernel_0 rfl (lv_at hl 0 rfl) ?_
  refine call_i (wr := []) C (run_V (As := []) (rest := []) C (m_noPolygon l D cI cZ cJ mo bu pe ep sz nx fr so wr wa as ak ab ar g th ) cV_X12_247 hP hD hS [0] rfl rfl 0 rfl rfl rfl rfl hl.1 rfl (Nat.le_of_ble_eq_true rfl) dX12_kernel_1 ⟨Nat.le_of_ble_eq_true rfl, Nat.le_of_ble_eq_true rfl⟩ ⟨Nat.le_of_ble_eq_true rfl, Nat.le_of_ble_eq_true rfl⟩) hP hD hS [0] [] rfl rfl rfl (by decide) (fun u1 H locs hP hD hS => ?_)
  have hP : va_P D CL [(mo, .inr (11, mC 1 bu pe ep sz nx fr so wr wa as ak ab ar g))] H := hP
  have hD : va_D A [(mo, .inr (11, mC 1 bu pe ep sz nx fr so wr wa as ak ab ar g))] := hD
  refine W.widen (k := 0) (n := 0) (Nat.le_of_ble_eq_true rfl) (Nat.le_of_ble_eq_true rfl) ?_
  refine W.eq (g2 := F0 m 4 ls [.int 1]) rfl ?_
  refine lv_if_eq (tgt := 9) hx hb dX12_kernel_4 (by decide) (fun h => absurd h (by decide)) (fun _ => ?_)
  refine lv_lconst (v := 0) hx hb dX12_kernel_7 (by decide) ?_
  exact r_lret C hP hD hS () rfl rfl (Nat.le_of_ble_eq_true rfl) (Nat.le_of_ble_eq_true rfl) dX12_kernel_8
set_option maxHeartbeats 4000000 in
set_option maxRecDepth 100000 in
theorem m_linkDistance (l : Launch) (D : va_G) (cI cZ cJ : ClassId) (mo : Nat) (bu : Int32) (pe : Int32) (ep : Int32) (sz : Int32) (nx : Int32) (fr : Int32) (so : Int32) (wr : Int32) (wa : Int32) (as : Nat) (ak : Nat) (ab : Nat) (ar : Nat) (g : Nat → Value) (th : Int32) (a0 : Int32) (a1 : Int32)  : cM l yX12_linkDistance cX12_linkDistance 4 (some .int) D (TT cI cZ cJ) [.ref mo, .int a0, .int a1] [(mo, .inr (11, mC th bu pe ep sz nx fr so wr wa as ak ab ar g))] (qI D (TT cI cZ cJ) (fun u : Unit => 0) (fun u : Unit => [(mo, .inr (11, mC 1 bu pe ep sz nx fr so wr wa as ak ab ar g))])) 3 0 0 := by
  refine enterM (by decide) (Nat.le_of_ble_eq_true rfl) ?_
  intro p e s m below meth c ls A C hP hD hS hl
  have hx := C.1
  have hb := C.2.1
  have hl : lv_has ls 4 [(0, .ref mo), (1, .int a0), (2, .int a1)] := hl
  refine lv_aload_n hx hb dX12_linkDistance_0 rfl (lv_at hl 0 rfl) ?_
  refine lv_iload_n hx hb dX12_linkDistance_1 rfl (lv_at hl 1 rfl) ?_
  refine call_i (wr := []) C (run_V (As := [.int a0]) (rest := []) C (m_noPoint l D cI cZ cJ mo bu pe ep sz nx fr so wr wa as ak ab ar g th a0 ) cV_X12_254 hP hD hS [0] rfl rfl 0 rfl rfl rfl rfl hl.1 rfl (Nat.le_of_ble_eq_true rfl) dX12_linkDistance_2 ⟨Nat.le_of_ble_eq_true rfl, Nat.le_of_ble_eq_true rfl⟩ ⟨Nat.le_of_ble_eq_true rfl, Nat.le_of_ble_eq_true rfl⟩) hP hD hS [0] [] rfl rfl rfl (by decide) (fun u1 H locs hP hD hS => ?_)
  have hP : va_P D CL [(mo, .inr (11, mC 1 bu pe ep sz nx fr so wr wa as ak ab ar g))] H := hP
  have hD : va_D A [(mo, .inr (11, mC 1 bu pe ep sz nx fr so wr wa as ak ab ar g))] := hD
  refine W.widen (k := 0) (n := 0) (Nat.le_of_ble_eq_true rfl) (Nat.le_of_ble_eq_true rfl) ?_
  refine W.eq (g2 := F0 m 5 ls [.int 1]) rfl ?_
  refine lv_if_ne (tgt := 35) hx hb dX12_linkDistance_5 (by decide) (fun _ => ?_) (fun h => absurd h (by decide))
  refine lv_iconst (v := 0) hx hb dX12_linkDistance_35 (by decide) ?_
  exact r_iret C hP hD hS () rfl rfl (Nat.le_of_ble_eq_true rfl) (Nat.le_of_ble_eq_true rfl) dX12_linkDistance_36
set_option maxHeartbeats 4000000 in
set_option maxRecDepth 100000 in
theorem m_diameter (l : Launch) (D : va_G) (cI cZ cJ : ClassId) (mo : Nat) (bu : Int32) (pe : Int32) (ep : Int32) (sz : Int32) (nx : Int32) (fr : Int32) (so : Int32) (wr : Int32) (wa : Int32) (as : Nat) (ak : Nat) (ab : Nat) (ar : Nat) (g : Nat → Value) (th : Int32)  : cM l yX12_diameter cX12_diameter 4 (some .int) D (TT cI cZ cJ) [.ref mo] [(mo, .inr (11, mC th bu pe ep sz nx fr so wr wa as ak ab ar g))] (qI D (TT cI cZ cJ) (fun u : Unit => 0) (fun u : Unit => [(mo, .inr (11, mC 1 bu pe ep sz nx fr so wr wa as ak ab ar g))])) 3 0 0 := by
  refine enterM (by decide) (Nat.le_of_ble_eq_true rfl) ?_
  intro p e s m below meth c ls A C hP hD hS hl
  have hx := C.1
  have hb := C.2.1
  have hl : lv_has ls 4 [(0, .ref mo)] := hl
  refine lv_aload_n hx hb dX12_diameter_0 rfl (lv_at hl 0 rfl) ?_
  refine call_i (wr := []) C (run_V (As := []) (rest := []) C (m_noPolygon l D cI cZ cJ mo bu pe ep sz nx fr so wr wa as ak ab ar g th ) cV_X12_247 hP hD hS [0] rfl rfl 0 rfl rfl rfl rfl hl.1 rfl (Nat.le_of_ble_eq_true rfl) dX12_diameter_1 ⟨Nat.le_of_ble_eq_true rfl, Nat.le_of_ble_eq_true rfl⟩ ⟨Nat.le_of_ble_eq_true rfl, Nat.le_of_ble_eq_true rfl⟩) hP hD hS [0] [] rfl rfl rfl (by decide) (fun u1 H locs hP hD hS => ?_)
  have hP : va_P D CL [(mo, .inr (11, mC 1 bu pe ep sz nx fr so wr wa as ak ab ar g))] H := hP
  have hD : va_D A [(mo, .inr (11, mC 1 bu pe ep sz nx fr so wr wa as ak ab ar g))] := hD
  refine W.widen (k := 0) (n := 0) (Nat.le_of_ble_eq_true rfl) (Nat.le_of_ble_eq_true rfl) ?_
  refine W.eq (g2 := F0 m 4 ls [.int 1]) rfl ?_
  refine lv_if_eq (tgt := 9) hx hb dX12_diameter_4 (by decide) (fun h => absurd h (by decide)) (fun _ => ?_)
  refine lv_iconst (v := 0) hx hb dX12_diameter_7 (by decide) ?_
  exact r_iret C hP hD hS () rfl rfl (Nat.le_of_ble_eq_true rfl) (Nat.le_of_ble_eq_true rfl) dX12_diameter_8
set_option maxHeartbeats 4000000 in
set_option maxRecDepth 100000 in
theorem m_farthest (l : Launch) (D : va_G) (cI cZ cJ : ClassId) (mo : Nat) (bu : Int32) (pe : Int32) (ep : Int32) (sz : Int32) (nx : Int32) (fr : Int32) (so : Int32) (wr : Int32) (wa : Int32) (as : Nat) (ak : Nat) (ab : Nat) (ar : Nat) (g : Nat → Value) (th : Int32) (a0 : Int32)  : cM l yX12_farthest cX12_farthest 4 (some .int) D (TT cI cZ cJ) [.ref mo, .int a0] [(mo, .inr (11, mC th bu pe ep sz nx fr so wr wa as ak ab ar g))] (qI D (TT cI cZ cJ) (fun u : Unit => 0) (fun u : Unit => [(mo, .inr (11, mC 1 bu pe ep sz nx fr so wr wa as ak ab ar g))])) 3 0 0 := by
  refine enterM (by decide) (Nat.le_of_ble_eq_true rfl) ?_
  intro p e s m below meth c ls A C hP hD hS hl
  have hx := C.1
  have hb := C.2.1
  have hl : lv_has ls 4 [(0, .ref mo), (1, .int a0)] := hl
  refine lv_aload_n hx hb dX12_farthest_0 rfl (lv_at hl 0 rfl) ?_
  refine lv_iload_n hx hb dX12_farthest_1 rfl (lv_at hl 1 rfl) ?_
  refine call_i (wr := []) C (run_V (As := [.int a0]) (rest := []) C (m_noPoint l D cI cZ cJ mo bu pe ep sz nx fr so wr wa as ak ab ar g th a0 ) cV_X12_254 hP hD hS [0] rfl rfl 0 rfl rfl rfl rfl hl.1 rfl (Nat.le_of_ble_eq_true rfl) dX12_farthest_2 ⟨Nat.le_of_ble_eq_true rfl, Nat.le_of_ble_eq_true rfl⟩ ⟨Nat.le_of_ble_eq_true rfl, Nat.le_of_ble_eq_true rfl⟩) hP hD hS [0] [] rfl rfl rfl (by decide) (fun u1 H locs hP hD hS => ?_)
  have hP : va_P D CL [(mo, .inr (11, mC 1 bu pe ep sz nx fr so wr wa as ak ab ar g))] H := hP
  have hD : va_D A [(mo, .inr (11, mC 1 bu pe ep sz nx fr so wr wa as ak ab ar g))] := hD
  refine W.widen (k := 0) (n := 0) (Nat.le_of_ble_eq_true rfl) (Nat.le_of_ble_eq_true rfl) ?_
  refine W.eq (g2 := F0 m 5 ls [.int 1]) rfl ?_
  refine lv_if_eq (tgt := 10) hx hb dX12_farthest_5 (by decide) (fun h => absurd h (by decide)) (fun _ => ?_)
  refine lv_iconst (v := 0) hx hb dX12_farthest_8 (by decide) ?_
  exact r_iret C hP hD hS () rfl rfl (Nat.le_of_ble_eq_true rfl) (Nat.le_of_ble_eq_true rfl) dX12_farthest_9
set_option maxHeartbeats 4000000 in
set_option maxRecDepth 100000 in
theorem m_seenFromEdge (l : Launch) (D : va_G) (cI cZ cJ : ClassId) (mo : Nat) (bu : Int32) (pe : Int32) (ep : Int32) (sz : Int32) (nx : Int32) (fr : Int32) (so : Int32) (wr : Int32) (wa : Int32) (as : Nat) (ak : Nat) (ab : Nat) (ar : Nat) (g : Nat → Value) (th : Int32) (a0 : Int32)  : cM l yX12_seenFromEdge cX12_seenFromEdge 2 (some .long) D (TT cI cZ cJ) [.ref mo, .int a0] [(mo, .inr (11, mC th bu pe ep sz nx fr so wr wa as ak ab ar g))] (qL D (TT cI cZ cJ) (fun u : Unit => 0) (fun u : Unit => [(mo, .inr (11, mC 1 bu pe ep sz nx fr so wr wa as ak ab ar g))])) 3 0 0 := by
  refine enterM (by decide) (Nat.le_of_ble_eq_true rfl) ?_
  intro p e s m below meth c ls A C hP hD hS hl
  have hx := C.1
  have hb := C.2.1
  have hl : lv_has ls 2 [(0, .ref mo), (1, .int a0)] := hl
  refine lv_aload_n hx hb dX12_seenFromEdge_0 rfl (lv_at hl 0 rfl) ?_
  refine lv_iload_n hx hb dX12_seenFromEdge_1 rfl (lv_at hl 1 rfl) ?_
  refine call_i (wr := []) C (run_V (As := [.int a0]) (rest := []) C (m_noVertex l D cI cZ cJ mo bu pe ep sz nx fr so wr wa as ak ab ar g th a0 ) cV_X12_251 hP hD hS [0] rfl rfl 0 rfl rfl rfl rfl hl.1 rfl (Nat.le_of_ble_eq_true rfl) dX12_seenFromEdge_2 ⟨Nat.le_of_ble_eq_true rfl, Nat.le_of_ble_eq_true rfl⟩ ⟨Nat.le_of_ble_eq_true rfl, Nat.le_of_ble_eq_true rfl⟩) hP hD hS [0] [] rfl rfl rfl (by decide) (fun u1 H locs hP hD hS => ?_)
  have hP : va_P D CL [(mo, .inr (11, mC 1 bu pe ep sz nx fr so wr wa as ak ab ar g))] H := hP
  have hD : va_D A [(mo, .inr (11, mC 1 bu pe ep sz nx fr so wr wa as ak ab ar g))] := hD
  refine W.widen (k := 0) (n := 0) (Nat.le_of_ble_eq_true rfl) (Nat.le_of_ble_eq_true rfl) ?_
  refine W.eq (g2 := F0 m 5 ls [.int 1]) rfl ?_
  refine lv_if_eq (tgt := 10) hx hb dX12_seenFromEdge_5 (by decide) (fun h => absurd h (by decide)) (fun _ => ?_)
  refine lv_lconst (v := 0) hx hb dX12_seenFromEdge_8 (by decide) ?_
  exact r_lret C hP hD hS () rfl rfl (Nat.le_of_ble_eq_true rfl) (Nat.le_of_ble_eq_true rfl) dX12_seenFromEdge_9
set_option maxHeartbeats 4000000 in
set_option maxRecDepth 100000 in
theorem m_triangleVertex (l : Launch) (D : va_G) (cI cZ cJ : ClassId) (mo : Nat) (bu : Int32) (pe : Int32) (ep : Int32) (sz : Int32) (nx : Int32) (fr : Int32) (so : Int32) (wr : Int32) (wa : Int32) (as : Nat) (ak : Nat) (ab : Nat) (ar : Nat) (g : Nat → Value) (th : Int32) (a0 : Int32) (a1 : Int32)  : cM l yX12_triangleVertex cX12_triangleVertex 3 (some .int) D (TT cI cZ cJ) [.ref mo, .int a0, .int a1] [(mo, .inr (11, mC th bu pe ep sz nx fr so wr wa as ak ab ar g))] (qI D (TT cI cZ cJ) (fun u : Unit => 0) (fun u : Unit => [(mo, .inr (11, mC 1 bu pe ep sz nx fr so wr wa as ak ab ar g))])) 3 0 0 := by
  refine enterM (by decide) (Nat.le_of_ble_eq_true rfl) ?_
  intro p e s m below meth c ls A C hP hD hS hl
  have hx := C.1
  have hb := C.2.1
  have hl : lv_has ls 3 [(0, .ref mo), (1, .int a0), (2, .int a1)] := hl
  refine lv_aload_n hx hb dX12_triangleVertex_0 rfl (lv_at hl 0 rfl) ?_
  refine lv_iload_n hx hb dX12_triangleVertex_1 rfl (lv_at hl 1 rfl) ?_
  refine call_i (wr := []) C (run_V (As := [.int a0]) (rest := []) C (m_noTriangle l D cI cZ cJ mo bu pe ep sz nx fr so wr wa as ak ab ar g th a0 ) cV_X12_301 hP hD hS [0] rfl rfl 0 rfl rfl rfl rfl hl.1 rfl (Nat.le_of_ble_eq_true rfl) dX12_triangleVertex_2 ⟨Nat.le_of_ble_eq_true rfl, Nat.le_of_ble_eq_true rfl⟩ ⟨Nat.le_of_ble_eq_true rfl, Nat.le_of_ble_eq_true rfl⟩) hP hD hS [0] [] rfl rfl rfl (by decide) (fun u1 H locs hP hD hS => ?_)
  have hP : va_P D CL [(mo, .inr (11, mC 1 bu pe ep sz nx fr so wr wa as ak ab ar g))] H := hP
  have hD : va_D A [(mo, .inr (11, mC 1 bu pe ep sz nx fr so wr wa as ak ab ar g))] := hD
  refine W.widen (k := 0) (n := 0) (Nat.le_of_ble_eq_true rfl) (Nat.le_of_ble_eq_true rfl) ?_
  refine W.eq (g2 := F0 m 5 ls [.int 1]) rfl ?_
  refine lv_if_ne (tgt := 30) hx hb dX12_triangleVertex_5 (by decide) (fun _ => ?_) (fun h => absurd h (by decide))
  refine lv_iconst (v := 0) hx hb dX12_triangleVertex_30 (by decide) ?_
  exact r_iret C hP hD hS () rfl rfl (Nat.le_of_ble_eq_true rfl) (Nat.le_of_ble_eq_true rfl) dX12_triangleVertex_31
set_option maxHeartbeats 4000000 in
set_option maxRecDepth 100000 in
theorem m_triangleArea (l : Launch) (D : va_G) (cI cZ cJ : ClassId) (mo : Nat) (bu : Int32) (pe : Int32) (ep : Int32) (sz : Int32) (nx : Int32) (fr : Int32) (so : Int32) (wr : Int32) (wa : Int32) (as : Nat) (ak : Nat) (ab : Nat) (ar : Nat) (g : Nat → Value) (th : Int32) (a0 : Int32)  : cM l yX12_triangleArea cX12_triangleArea 6 (some .int) D (TT cI cZ cJ) [.ref mo, .int a0] [(mo, .inr (11, mC th bu pe ep sz nx fr so wr wa as ak ab ar g))] (qI D (TT cI cZ cJ) (fun u : Unit => 0) (fun u : Unit => [(mo, .inr (11, mC 1 bu pe ep sz nx fr so wr wa as ak ab ar g))])) 3 0 0 := by
  refine enterM (by decide) (Nat.le_of_ble_eq_true rfl) ?_
  intro p e s m below meth c ls A C hP hD hS hl
  have hx := C.1
  have hb := C.2.1
  have hl : lv_has ls 6 [(0, .ref mo), (1, .int a0)] := hl
  refine lv_aload_n hx hb dX12_triangleArea_0 rfl (lv_at hl 0 rfl) ?_
  refine lv_iload_n hx hb dX12_triangleArea_1 rfl (lv_at hl 1 rfl) ?_
  refine call_i (wr := []) C (run_V (As := [.int a0]) (rest := []) C (m_noTriangle l D cI cZ cJ mo bu pe ep sz nx fr so wr wa as ak ab ar g th a0 ) cV_X12_301 hP hD hS [0] rfl rfl 0 rfl rfl rfl rfl hl.1 rfl (Nat.le_of_ble_eq_true rfl) dX12_triangleArea_2 ⟨Nat.le_of_ble_eq_true rfl, Nat.le_of_ble_eq_true rfl⟩ ⟨Nat.le_of_ble_eq_true rfl, Nat.le_of_ble_eq_true rfl⟩) hP hD hS [0] [] rfl rfl rfl (by decide) (fun u1 H locs hP hD hS => ?_)
  have hP : va_P D CL [(mo, .inr (11, mC 1 bu pe ep sz nx fr so wr wa as ak ab ar g))] H := hP
  have hD : va_D A [(mo, .inr (11, mC 1 bu pe ep sz nx fr so wr wa as ak ab ar g))] := hD
  refine W.widen (k := 0) (n := 0) (Nat.le_of_ble_eq_true rfl) (Nat.le_of_ble_eq_true rfl) ?_
  refine W.eq (g2 := F0 m 5 ls [.int 1]) rfl ?_
  refine lv_if_eq (tgt := 10) hx hb dX12_triangleArea_5 (by decide) (fun h => absurd h (by decide)) (fun _ => ?_)
  refine lv_iconst (v := 0) hx hb dX12_triangleArea_8 (by decide) ?_
  exact r_iret C hP hD hS () rfl rfl (Nat.le_of_ble_eq_true rfl) (Nat.le_of_ble_eq_true rfl) dX12_triangleArea_9
set_option maxHeartbeats 4000000 in
set_option maxRecDepth 100000 in
theorem m_colour (l : Launch) (D : va_G) (cI cZ cJ : ClassId) (mo : Nat) (bu : Int32) (pe : Int32) (ep : Int32) (sz : Int32) (nx : Int32) (fr : Int32) (so : Int32) (wr : Int32) (wa : Int32) (as : Nat) (ak : Nat) (ab : Nat) (ar : Nat) (g : Nat → Value) (th : Int32) (a0 : Int32)  : cM l yX12_colour cX12_colour 2 (some .int) D (TT cI cZ cJ) [.ref mo, .int a0] [(mo, .inr (11, mC th bu pe ep sz nx fr so wr wa as ak ab ar g))] (qI D (TT cI cZ cJ) (fun u : Unit => 0) (fun u : Unit => [(mo, .inr (11, mC 1 bu pe ep sz nx fr so wr wa as ak ab ar g))])) 3 0 0 := by
  refine enterM (by decide) (Nat.le_of_ble_eq_true rfl) ?_
  intro p e s m below meth c ls A C hP hD hS hl
  have hx := C.1
  have hb := C.2.1
  have hl : lv_has ls 2 [(0, .ref mo), (1, .int a0)] := hl
  refine lv_aload_n hx hb dX12_colour_0 rfl (lv_at hl 0 rfl) ?_
  refine lv_iload_n hx hb dX12_colour_1 rfl (lv_at hl 1 rfl) ?_
  refine call_i (wr := []) C (run_V (As := [.int a0]) (rest := []) C (m_noVertex l D cI cZ cJ mo bu pe ep sz nx fr so wr wa as ak ab ar g th a0 ) cV_X12_251 hP hD hS [0] rfl rfl 0 rfl rfl rfl rfl hl.1 rfl (Nat.le_of_ble_eq_true rfl) dX12_colour_2 ⟨Nat.le_of_ble_eq_true rfl, Nat.le_of_ble_eq_true rfl⟩ ⟨Nat.le_of_ble_eq_true rfl, Nat.le_of_ble_eq_true rfl⟩) hP hD hS [0] [] rfl rfl rfl (by decide) (fun u1 H locs hP hD hS => ?_)
  have hP : va_P D CL [(mo, .inr (11, mC 1 bu pe ep sz nx fr so wr wa as ak ab ar g))] H := hP
  have hD : va_D A [(mo, .inr (11, mC 1 bu pe ep sz nx fr so wr wa as ak ab ar g))] := hD
  refine W.widen (k := 0) (n := 0) (Nat.le_of_ble_eq_true rfl) (Nat.le_of_ble_eq_true rfl) ?_
  refine W.eq (g2 := F0 m 5 ls [.int 1]) rfl ?_
  refine lv_if_eq (tgt := 10) hx hb dX12_colour_5 (by decide) (fun h => absurd h (by decide)) (fun _ => ?_)
  refine lv_iconst (v := 0) hx hb dX12_colour_8 (by decide) ?_
  exact r_iret C hP hD hS () rfl rfl (Nat.le_of_ble_eq_true rfl) (Nat.le_of_ble_eq_true rfl) dX12_colour_9
set_option maxHeartbeats 4000000 in
set_option maxRecDepth 100000 in
theorem m_colourGuards (l : Launch) (D : va_G) (cI cZ cJ : ClassId) (mo : Nat) (bu : Int32) (pe : Int32) (ep : Int32) (sz : Int32) (nx : Int32) (fr : Int32) (so : Int32) (wr : Int32) (wa : Int32) (as : Nat) (ak : Nat) (ab : Nat) (ar : Nat) (g : Nat → Value) (th : Int32)  : cM l yX12_colourGuards cX12_colourGuards 3 (some .int) D (TT cI cZ cJ) [.ref mo] [(mo, .inr (11, mC th bu pe ep sz nx fr so wr wa as ak ab ar g))] (qI D (TT cI cZ cJ) (fun u : Unit => 0) (fun u : Unit => [(mo, .inr (11, mC 1 bu pe ep sz nx fr so wr wa as ak ab ar g))])) 3 0 0 := by
  refine enterM (by decide) (Nat.le_of_ble_eq_true rfl) ?_
  intro p e s m below meth c ls A C hP hD hS hl
  have hx := C.1
  have hb := C.2.1
  have hl : lv_has ls 3 [(0, .ref mo)] := hl
  refine lv_aload_n hx hb dX12_colourGuards_0 rfl (lv_at hl 0 rfl) ?_
  refine call_i (wr := []) C (run_V (As := []) (rest := []) C (m_noPolygon l D cI cZ cJ mo bu pe ep sz nx fr so wr wa as ak ab ar g th ) cV_X12_247 hP hD hS [0] rfl rfl 0 rfl rfl rfl rfl hl.1 rfl (Nat.le_of_ble_eq_true rfl) dX12_colourGuards_1 ⟨Nat.le_of_ble_eq_true rfl, Nat.le_of_ble_eq_true rfl⟩ ⟨Nat.le_of_ble_eq_true rfl, Nat.le_of_ble_eq_true rfl⟩) hP hD hS [0] [] rfl rfl rfl (by decide) (fun u1 H locs hP hD hS => ?_)
  have hP : va_P D CL [(mo, .inr (11, mC 1 bu pe ep sz nx fr so wr wa as ak ab ar g))] H := hP
  have hD : va_D A [(mo, .inr (11, mC 1 bu pe ep sz nx fr so wr wa as ak ab ar g))] := hD
  refine W.widen (k := 0) (n := 0) (Nat.le_of_ble_eq_true rfl) (Nat.le_of_ble_eq_true rfl) ?_
  refine W.eq (g2 := F0 m 4 ls [.int 1]) rfl ?_
  refine lv_if_eq (tgt := 9) hx hb dX12_colourGuards_4 (by decide) (fun h => absurd h (by decide)) (fun _ => ?_)
  refine lv_iconst (v := 0) hx hb dX12_colourGuards_7 (by decide) ?_
  exact r_iret C hP hD hS () rfl rfl (Nat.le_of_ble_eq_true rfl) (Nat.le_of_ble_eq_true rfl) dX12_colourGuards_8
set_option maxHeartbeats 4000000 in
set_option maxRecDepth 100000 in
theorem m_vertexGuards (l : Launch) (D : va_G) (cI cZ cJ : ClassId) (mo : Nat) (bu : Int32) (pe : Int32) (ep : Int32) (sz : Int32) (nx : Int32) (fr : Int32) (so : Int32) (wr : Int32) (wa : Int32) (as : Nat) (ak : Nat) (ab : Nat) (ar : Nat) (g : Nat → Value) (th : Int32)  : cM l yX12_vertexGuards cX12_vertexGuards 1 (some .int) D (TT cI cZ cJ) [.ref mo] [(mo, .inr (11, mC th bu pe ep sz nx fr so wr wa as ak ab ar g))] (qI D (TT cI cZ cJ) (fun u : Unit => 0) (fun u : Unit => [(mo, .inr (11, mC 1 bu pe ep sz nx fr so wr wa as ak ab ar g))])) 3 0 0 := by
  refine enterM (by decide) (Nat.le_of_ble_eq_true rfl) ?_
  intro p e s m below meth c ls A C hP hD hS hl
  have hx := C.1
  have hb := C.2.1
  have hl : lv_has ls 1 [(0, .ref mo)] := hl
  refine lv_aload_n hx hb dX12_vertexGuards_0 rfl (lv_at hl 0 rfl) ?_
  refine call_i (wr := []) C (run_V (As := []) (rest := []) C (m_noPolygon l D cI cZ cJ mo bu pe ep sz nx fr so wr wa as ak ab ar g th ) cV_X12_247 hP hD hS [0] rfl rfl 0 rfl rfl rfl rfl hl.1 rfl (Nat.le_of_ble_eq_true rfl) dX12_vertexGuards_1 ⟨Nat.le_of_ble_eq_true rfl, Nat.le_of_ble_eq_true rfl⟩ ⟨Nat.le_of_ble_eq_true rfl, Nat.le_of_ble_eq_true rfl⟩) hP hD hS [0] [] rfl rfl rfl (by decide) (fun u1 H locs hP hD hS => ?_)
  have hP : va_P D CL [(mo, .inr (11, mC 1 bu pe ep sz nx fr so wr wa as ak ab ar g))] H := hP
  have hD : va_D A [(mo, .inr (11, mC 1 bu pe ep sz nx fr so wr wa as ak ab ar g))] := hD
  refine W.widen (k := 0) (n := 0) (Nat.le_of_ble_eq_true rfl) (Nat.le_of_ble_eq_true rfl) ?_
  refine W.eq (g2 := F0 m 4 ls [.int 1]) rfl ?_
  refine lv_if_eq (tgt := 11) hx hb dX12_vertexGuards_4 (by decide) (fun h => absurd h (by decide)) (fun _ => ?_)
  refine lv_iconst (v := 0) hx hb dX12_vertexGuards_7 (by decide) ?_
  refine lv_goto (tgt := 16) hx hb dX12_vertexGuards_8 (by decide) ?_
  exact r_iret C hP hD hS () rfl rfl (Nat.le_of_ble_eq_true rfl) (Nat.le_of_ble_eq_true rfl) dX12_vertexGuards_16
set_option maxHeartbeats 4000000 in
set_option maxRecDepth 100000 in
theorem m_edgeGuards (l : Launch) (D : va_G) (cI cZ cJ : ClassId) (mo : Nat) (bu : Int32) (pe : Int32) (ep : Int32) (sz : Int32) (nx : Int32) (fr : Int32) (so : Int32) (wr : Int32) (wa : Int32) (as : Nat) (ak : Nat) (ab : Nat) (ar : Nat) (g : Nat → Value) (th : Int32)  : cM l yX12_edgeGuards cX12_edgeGuards 1 (some .int) D (TT cI cZ cJ) [.ref mo] [(mo, .inr (11, mC th bu pe ep sz nx fr so wr wa as ak ab ar g))] (qI D (TT cI cZ cJ) (fun u : Unit => 0) (fun u : Unit => [(mo, .inr (11, mC 1 bu pe ep sz nx fr so wr wa as ak ab ar g))])) 3 0 0 := by
  refine enterM (by decide) (Nat.le_of_ble_eq_true rfl) ?_
  intro p e s m below meth c ls A C hP hD hS hl
  have hx := C.1
  have hb := C.2.1
  have hl : lv_has ls 1 [(0, .ref mo)] := hl
  refine lv_aload_n hx hb dX12_edgeGuards_0 rfl (lv_at hl 0 rfl) ?_
  refine call_i (wr := []) C (run_V (As := []) (rest := []) C (m_noPolygon l D cI cZ cJ mo bu pe ep sz nx fr so wr wa as ak ab ar g th ) cV_X12_247 hP hD hS [0] rfl rfl 0 rfl rfl rfl rfl hl.1 rfl (Nat.le_of_ble_eq_true rfl) dX12_edgeGuards_1 ⟨Nat.le_of_ble_eq_true rfl, Nat.le_of_ble_eq_true rfl⟩ ⟨Nat.le_of_ble_eq_true rfl, Nat.le_of_ble_eq_true rfl⟩) hP hD hS [0] [] rfl rfl rfl (by decide) (fun u1 H locs hP hD hS => ?_)
  have hP : va_P D CL [(mo, .inr (11, mC 1 bu pe ep sz nx fr so wr wa as ak ab ar g))] H := hP
  have hD : va_D A [(mo, .inr (11, mC 1 bu pe ep sz nx fr so wr wa as ak ab ar g))] := hD
  refine W.widen (k := 0) (n := 0) (Nat.le_of_ble_eq_true rfl) (Nat.le_of_ble_eq_true rfl) ?_
  refine W.eq (g2 := F0 m 4 ls [.int 1]) rfl ?_
  refine lv_if_eq (tgt := 11) hx hb dX12_edgeGuards_4 (by decide) (fun h => absurd h (by decide)) (fun _ => ?_)
  refine lv_iconst (v := 0) hx hb dX12_edgeGuards_7 (by decide) ?_
  refine lv_goto (tgt := 16) hx hb dX12_edgeGuards_8 (by decide) ?_
  exact r_iret C hP hD hS () rfl rfl (Nat.le_of_ble_eq_true rfl) (Nat.le_of_ble_eq_true rfl) dX12_edgeGuards_16
set_option maxHeartbeats 4000000 in
set_option maxRecDepth 100000 in
theorem m_guardNumber (l : Launch) (D : va_G) (cI cZ cJ : ClassId) (mo : Nat) (bu : Int32) (pe : Int32) (ep : Int32) (sz : Int32) (nx : Int32) (fr : Int32) (so : Int32) (wr : Int32) (wa : Int32) (as : Nat) (ak : Nat) (ab : Nat) (ar : Nat) (g : Nat → Value) (th : Int32)  : cM l yX12_guardNumber cX12_guardNumber 1 (some .int) D (TT cI cZ cJ) [.ref mo] [(mo, .inr (11, mC th bu pe ep sz nx fr so wr wa as ak ab ar g))] (qI D (TT cI cZ cJ) (fun u : Unit => 0) (fun u : Unit => [(mo, .inr (11, mC 1 bu pe ep sz nx fr so wr wa as ak ab ar g))])) 3 0 0 := by
  refine enterM (by decide) (Nat.le_of_ble_eq_true rfl) ?_
  intro p e s m below meth c ls A C hP hD hS hl
  have hx := C.1
  have hb := C.2.1
  have hl : lv_has ls 1 [(0, .ref mo)] := hl
  refine lv_aload_n hx hb dX12_guardNumber_0 rfl (lv_at hl 0 rfl) ?_
  refine call_i (wr := []) C (run_V (As := []) (rest := []) C (m_noPolygon l D cI cZ cJ mo bu pe ep sz nx fr so wr wa as ak ab ar g th ) cV_X12_247 hP hD hS [0] rfl rfl 0 rfl rfl rfl rfl hl.1 rfl (Nat.le_of_ble_eq_true rfl) dX12_guardNumber_1 ⟨Nat.le_of_ble_eq_true rfl, Nat.le_of_ble_eq_true rfl⟩ ⟨Nat.le_of_ble_eq_true rfl, Nat.le_of_ble_eq_true rfl⟩) hP hD hS [0] [] rfl rfl rfl (by decide) (fun u1 H locs hP hD hS => ?_)
  have hP : va_P D CL [(mo, .inr (11, mC 1 bu pe ep sz nx fr so wr wa as ak ab ar g))] H := hP
  have hD : va_D A [(mo, .inr (11, mC 1 bu pe ep sz nx fr so wr wa as ak ab ar g))] := hD
  refine W.widen (k := 0) (n := 0) (Nat.le_of_ble_eq_true rfl) (Nat.le_of_ble_eq_true rfl) ?_
  refine W.eq (g2 := F0 m 4 ls [.int 1]) rfl ?_
  refine lv_if_eq (tgt := 9) hx hb dX12_guardNumber_4 (by decide) (fun h => absurd h (by decide)) (fun _ => ?_)
  refine lv_iconst (v := 0) hx hb dX12_guardNumber_7 (by decide) ?_
  exact r_iret C hP hD hS () rfl rfl (Nat.le_of_ble_eq_true rfl) (Nat.le_of_ble_eq_true rfl) dX12_guardNumber_8
set_option maxHeartbeats 4000000 in
set_option maxRecDepth 100000 in
theorem m_guardPoint (l : Launch) (D : va_G) (cI cZ cJ : ClassId) (mo : Nat) (bu : Int32) (pe : Int32) (ep : Int32) (sz : Int32) (nx : Int32) (fr : Int32) (so : Int32) (wr : Int32) (wa : Int32) (as : Nat) (ak : Nat) (ab : Nat) (ar : Nat) (g : Nat → Value) (th : Int32) (a0 : Int32)  : cM l yX12_guardPoint cX12_guardPoint 2 (some .int) D (TT cI cZ cJ) [.ref mo, .int a0] [(mo, .inr (11, mC th bu pe ep sz nx fr so wr wa as ak ab ar g))] (qI D (TT cI cZ cJ) (fun u : Unit => 0) (fun u : Unit => [(mo, .inr (11, mC 1 bu pe ep sz nx fr so wr wa as ak ab ar g))])) 3 0 0 := by
  refine enterM (by decide) (Nat.le_of_ble_eq_true rfl) ?_
  intro p e s m below meth c ls A C hP hD hS hl
  have hx := C.1
  have hb := C.2.1
  have hl : lv_has ls 2 [(0, .ref mo), (1, .int a0)] := hl
  refine lv_aload_n hx hb dX12_guardPoint_0 rfl (lv_at hl 0 rfl) ?_
  refine call_i (wr := []) C (run_V (As := []) (rest := []) C (m_noPolygon l D cI cZ cJ mo bu pe ep sz nx fr so wr wa as ak ab ar g th ) cV_X12_247 hP hD hS [0] rfl rfl 0 rfl rfl rfl rfl hl.1 rfl (Nat.le_of_ble_eq_true rfl) dX12_guardPoint_1 ⟨Nat.le_of_ble_eq_true rfl, Nat.le_of_ble_eq_true rfl⟩ ⟨Nat.le_of_ble_eq_true rfl, Nat.le_of_ble_eq_true rfl⟩) hP hD hS [0] [] rfl rfl rfl (by decide) (fun u1 H locs hP hD hS => ?_)
  have hP : va_P D CL [(mo, .inr (11, mC 1 bu pe ep sz nx fr so wr wa as ak ab ar g))] H := hP
  have hD : va_D A [(mo, .inr (11, mC 1 bu pe ep sz nx fr so wr wa as ak ab ar g))] := hD
  refine W.widen (k := 0) (n := 0) (Nat.le_of_ble_eq_true rfl) (Nat.le_of_ble_eq_true rfl) ?_
  refine W.eq (g2 := F0 m 4 ls [.int 1]) rfl ?_
  refine lv_if_eq (tgt := 9) hx hb dX12_guardPoint_4 (by decide) (fun h => absurd h (by decide)) (fun _ => ?_)
  refine lv_iconst (v := 0) hx hb dX12_guardPoint_7 (by decide) ?_
  exact r_iret C hP hD hS () rfl rfl (Nat.le_of_ble_eq_true rfl) (Nat.le_of_ble_eq_true rfl) dX12_guardPoint_8
set_option maxHeartbeats 4000000 in
set_option maxRecDepth 100000 in
theorem m_witnessNumber (l : Launch) (D : va_G) (cI cZ cJ : ClassId) (mo : Nat) (bu : Int32) (pe : Int32) (ep : Int32) (sz : Int32) (nx : Int32) (fr : Int32) (so : Int32) (wr : Int32) (wa : Int32) (as : Nat) (ak : Nat) (ab : Nat) (ar : Nat) (g : Nat → Value) (th : Int32)  : cM l yX12_witnessNumber cX12_witnessNumber 1 (some .int) D (TT cI cZ cJ) [.ref mo] [(mo, .inr (11, mC th bu pe ep sz nx fr so wr wa as ak ab ar g))] (qI D (TT cI cZ cJ) (fun u : Unit => 0) (fun u : Unit => [(mo, .inr (11, mC 1 bu pe ep sz nx fr so wr wa as ak ab ar g))])) 3 0 0 := by
  refine enterM (by decide) (Nat.le_of_ble_eq_true rfl) ?_
  intro p e s m below meth c ls A C hP hD hS hl
  have hx := C.1
  have hb := C.2.1
  have hl : lv_has ls 1 [(0, .ref mo)] := hl
  refine lv_aload_n hx hb dX12_witnessNumber_0 rfl (lv_at hl 0 rfl) ?_
  refine call_i (wr := []) C (run_V (As := []) (rest := []) C (m_noPolygon l D cI cZ cJ mo bu pe ep sz nx fr so wr wa as ak ab ar g th ) cV_X12_247 hP hD hS [0] rfl rfl 0 rfl rfl rfl rfl hl.1 rfl (Nat.le_of_ble_eq_true rfl) dX12_witnessNumber_1 ⟨Nat.le_of_ble_eq_true rfl, Nat.le_of_ble_eq_true rfl⟩ ⟨Nat.le_of_ble_eq_true rfl, Nat.le_of_ble_eq_true rfl⟩) hP hD hS [0] [] rfl rfl rfl (by decide) (fun u1 H locs hP hD hS => ?_)
  have hP : va_P D CL [(mo, .inr (11, mC 1 bu pe ep sz nx fr so wr wa as ak ab ar g))] H := hP
  have hD : va_D A [(mo, .inr (11, mC 1 bu pe ep sz nx fr so wr wa as ak ab ar g))] := hD
  refine W.widen (k := 0) (n := 0) (Nat.le_of_ble_eq_true rfl) (Nat.le_of_ble_eq_true rfl) ?_
  refine W.eq (g2 := F0 m 4 ls [.int 1]) rfl ?_
  refine lv_if_eq (tgt := 9) hx hb dX12_witnessNumber_4 (by decide) (fun h => absurd h (by decide)) (fun _ => ?_)
  refine lv_iconst (v := 0) hx hb dX12_witnessNumber_7 (by decide) ?_
  exact r_iret C hP hD hS () rfl rfl (Nat.le_of_ble_eq_true rfl) (Nat.le_of_ble_eq_true rfl) dX12_witnessNumber_8
set_option maxHeartbeats 4000000 in
set_option maxRecDepth 100000 in
theorem m_witness (l : Launch) (D : va_G) (cI cZ cJ : ClassId) (mo : Nat) (bu : Int32) (pe : Int32) (ep : Int32) (sz : Int32) (nx : Int32) (fr : Int32) (so : Int32) (wr : Int32) (wa : Int32) (as : Nat) (ak : Nat) (ab : Nat) (ar : Nat) (g : Nat → Value) (th : Int32) (a0 : Int32)  : cM l yX12_witness cX12_witness 2 (some .int) D (TT cI cZ cJ) [.ref mo, .int a0] [(mo, .inr (11, mC th bu pe ep sz nx fr so wr wa as ak ab ar g))] (qI D (TT cI cZ cJ) (fun u : Unit => 0) (fun u : Unit => [(mo, .inr (11, mC 1 bu pe ep sz nx fr so wr wa as ak ab ar g))])) 3 0 0 := by
  refine enterM (by decide) (Nat.le_of_ble_eq_true rfl) ?_
  intro p e s m below meth c ls A C hP hD hS hl
  have hx := C.1
  have hb := C.2.1
  have hl : lv_has ls 2 [(0, .ref mo), (1, .int a0)] := hl
  refine lv_aload_n hx hb dX12_witness_0 rfl (lv_at hl 0 rfl) ?_
  refine call_i (wr := []) C (run_V (As := []) (rest := []) C (m_noPolygon l D cI cZ cJ mo bu pe ep sz nx fr so wr wa as ak ab ar g th ) cV_X12_247 hP hD hS [0] rfl rfl 0 rfl rfl rfl rfl hl.1 rfl (Nat.le_of_ble_eq_true rfl) dX12_witness_1 ⟨Nat.le_of_ble_eq_true rfl, Nat.le_of_ble_eq_true rfl⟩ ⟨Nat.le_of_ble_eq_true rfl, Nat.le_of_ble_eq_true rfl⟩) hP hD hS [0] [] rfl rfl rfl (by decide) (fun u1 H locs hP hD hS => ?_)
  have hP : va_P D CL [(mo, .inr (11, mC 1 bu pe ep sz nx fr so wr wa as ak ab ar g))] H := hP
  have hD : va_D A [(mo, .inr (11, mC 1 bu pe ep sz nx fr so wr wa as ak ab ar g))] := hD
  refine W.widen (k := 0) (n := 0) (Nat.le_of_ble_eq_true rfl) (Nat.le_of_ble_eq_true rfl) ?_
  refine W.eq (g2 := F0 m 4 ls [.int 1]) rfl ?_
  refine lv_if_eq (tgt := 9) hx hb dX12_witness_4 (by decide) (fun h => absurd h (by decide)) (fun _ => ?_)
  refine lv_iconst (v := 0) hx hb dX12_witness_7 (by decide) ?_
  exact r_iret C hP hD hS () rfl rfl (Nat.le_of_ble_eq_true rfl) (Nat.le_of_ble_eq_true rfl) dX12_witness_8
set_option maxHeartbeats 4000000 in
set_option maxRecDepth 100000 in
theorem m_hiddenNumber (l : Launch) (D : va_G) (cI cZ cJ : ClassId) (mo : Nat) (bu : Int32) (pe : Int32) (ep : Int32) (sz : Int32) (nx : Int32) (fr : Int32) (so : Int32) (wr : Int32) (wa : Int32) (as : Nat) (ak : Nat) (ab : Nat) (ar : Nat) (g : Nat → Value) (th : Int32)  : cM l yX12_hiddenNumber cX12_hiddenNumber 1 (some .int) D (TT cI cZ cJ) [.ref mo] [(mo, .inr (11, mC th bu pe ep sz nx fr so wr wa as ak ab ar g))] (qI D (TT cI cZ cJ) (fun u : Unit => 0) (fun u : Unit => [(mo, .inr (11, mC 1 bu pe ep sz nx fr so wr wa as ak ab ar g))])) 3 0 0 := by
  refine enterM (by decide) (Nat.le_of_ble_eq_true rfl) ?_
  intro p e s m below meth c ls A C hP hD hS hl
  have hx := C.1
  have hb := C.2.1
  have hl : lv_has ls 1 [(0, .ref mo)] := hl
  refine lv_aload_n hx hb dX12_hiddenNumber_0 rfl (lv_at hl 0 rfl) ?_
  refine call_i (wr := []) C (run_V (As := []) (rest := []) C (m_noPolygon l D cI cZ cJ mo bu pe ep sz nx fr so wr wa as ak ab ar g th ) cV_X12_247 hP hD hS [0] rfl rfl 0 rfl rfl rfl rfl hl.1 rfl (Nat.le_of_ble_eq_true rfl) dX12_hiddenNumber_1 ⟨Nat.le_of_ble_eq_true rfl, Nat.le_of_ble_eq_true rfl⟩ ⟨Nat.le_of_ble_eq_true rfl, Nat.le_of_ble_eq_true rfl⟩) hP hD hS [0] [] rfl rfl rfl (by decide) (fun u1 H locs hP hD hS => ?_)
  have hP : va_P D CL [(mo, .inr (11, mC 1 bu pe ep sz nx fr so wr wa as ak ab ar g))] H := hP
  have hD : va_D A [(mo, .inr (11, mC 1 bu pe ep sz nx fr so wr wa as ak ab ar g))] := hD
  refine W.widen (k := 0) (n := 0) (Nat.le_of_ble_eq_true rfl) (Nat.le_of_ble_eq_true rfl) ?_
  refine W.eq (g2 := F0 m 4 ls [.int 1]) rfl ?_
  refine lv_if_eq (tgt := 9) hx hb dX12_hiddenNumber_4 (by decide) (fun h => absurd h (by decide)) (fun _ => ?_)
  refine lv_iconst (v := 0) hx hb dX12_hiddenNumber_7 (by decide) ?_
  exact r_iret C hP hD hS () rfl rfl (Nat.le_of_ble_eq_true rfl) (Nat.le_of_ble_eq_true rfl) dX12_hiddenNumber_8
set_option maxHeartbeats 4000000 in
set_option maxRecDepth 100000 in
theorem m_guardAt (l : Launch) (D : va_G) (cI cZ cJ : ClassId) (mo : Nat) (bu : Int32) (pe : Int32) (ep : Int32) (sz : Int32) (nx : Int32) (fr : Int32) (so : Int32) (wr : Int32) (wa : Int32) (as : Nat) (ak : Nat) (ab : Nat) (ar : Nat) (g : Nat → Value) (th : Int32) (a0 : Int32)  : cM l yX12_guardAt cX12_guardAt 2 (some .int) D (TT cI cZ cJ) [.ref mo, .int a0] [(mo, .inr (11, mC th bu pe ep sz nx fr so wr wa as ak ab ar g))] (qI D (TT cI cZ cJ) (fun u : Unit => 0) (fun u : Unit => [(mo, .inr (11, mC 1 bu pe ep sz nx fr so wr wa as ak ab ar g))])) 3 0 0 := by
  refine enterM (by decide) (Nat.le_of_ble_eq_true rfl) ?_
  intro p e s m below meth c ls A C hP hD hS hl
  have hx := C.1
  have hb := C.2.1
  have hl : lv_has ls 2 [(0, .ref mo), (1, .int a0)] := hl
  refine lv_aload_n hx hb dX12_guardAt_0 rfl (lv_at hl 0 rfl) ?_
  refine lv_iload_n hx hb dX12_guardAt_1 rfl (lv_at hl 1 rfl) ?_
  refine call_i (wr := []) C (run_V (As := [.int a0]) (rest := []) C (m_noGuard l D cI cZ cJ mo bu pe ep sz nx fr so wr wa as ak ab ar g th a0 ) cV_X12_356 hP hD hS [0] rfl rfl 0 rfl rfl rfl rfl hl.1 rfl (Nat.le_of_ble_eq_true rfl) dX12_guardAt_2 ⟨Nat.le_of_ble_eq_true rfl, Nat.le_of_ble_eq_true rfl⟩ ⟨Nat.le_of_ble_eq_true rfl, Nat.le_of_ble_eq_true rfl⟩) hP hD hS [0] [] rfl rfl rfl (by decide) (fun u1 H locs hP hD hS => ?_)
  have hP : va_P D CL [(mo, .inr (11, mC 1 bu pe ep sz nx fr so wr wa as ak ab ar g))] H := hP
  have hD : va_D A [(mo, .inr (11, mC 1 bu pe ep sz nx fr so wr wa as ak ab ar g))] := hD
  refine W.widen (k := 0) (n := 0) (Nat.le_of_ble_eq_true rfl) (Nat.le_of_ble_eq_true rfl) ?_
  refine W.eq (g2 := F0 m 5 ls [.int 1]) rfl ?_
  refine lv_if_eq (tgt := 12) hx hb dX12_guardAt_5 (by decide) (fun h => absurd h (by decide)) (fun _ => ?_)
  refine lv_iconst (v := 0) hx hb dX12_guardAt_8 (by decide) ?_
  refine lv_goto (tgt := 28) hx hb dX12_guardAt_9 (by decide) ?_
  exact r_iret C hP hD hS () rfl rfl (Nat.le_of_ble_eq_true rfl) (Nat.le_of_ble_eq_true rfl) dX12_guardAt_28
set_option maxHeartbeats 4000000 in
set_option maxRecDepth 100000 in
theorem m_guardRange (l : Launch) (D : va_G) (cI cZ cJ : ClassId) (mo : Nat) (bu : Int32) (pe : Int32) (ep : Int32) (sz : Int32) (nx : Int32) (fr : Int32) (so : Int32) (wr : Int32) (wa : Int32) (as : Nat) (ak : Nat) (ab : Nat) (ar : Nat) (g : Nat → Value) (th : Int32) (a0 : Int32)  : cM l yX12_guardRange cX12_guardRange 2 (some .int) D (TT cI cZ cJ) [.ref mo, .int a0] [(mo, .inr (11, mC th bu pe ep sz nx fr so wr wa as ak ab ar g))] (qI D (TT cI cZ cJ) (fun u : Unit => 0) (fun u : Unit => [(mo, .inr (11, mC 1 bu pe ep sz nx fr so wr wa as ak ab ar g))])) 3 0 0 := by
  refine enterM (by decide) (Nat.le_of_ble_eq_true rfl) ?_
  intro p e s m below meth c ls A C hP hD hS hl
  have hx := C.1
  have hb := C.2.1
  have hl : lv_has ls 2 [(0, .ref mo), (1, .int a0)] := hl
  refine lv_aload_n hx hb dX12_guardRange_0 rfl (lv_at hl 0 rfl) ?_
  refine lv_iload_n hx hb dX12_guardRange_1 rfl (lv_at hl 1 rfl) ?_
  refine call_i (wr := []) C (run_V (As := [.int a0]) (rest := []) C (m_noGuard l D cI cZ cJ mo bu pe ep sz nx fr so wr wa as ak ab ar g th a0 ) cV_X12_356 hP hD hS [0] rfl rfl 0 rfl rfl rfl rfl hl.1 rfl (Nat.le_of_ble_eq_true rfl) dX12_guardRange_2 ⟨Nat.le_of_ble_eq_true rfl, Nat.le_of_ble_eq_true rfl⟩ ⟨Nat.le_of_ble_eq_true rfl, Nat.le_of_ble_eq_true rfl⟩) hP hD hS [0] [] rfl rfl rfl (by decide) (fun u1 H locs hP hD hS => ?_)
  have hP : va_P D CL [(mo, .inr (11, mC 1 bu pe ep sz nx fr so wr wa as ak ab ar g))] H := hP
  have hD : va_D A [(mo, .inr (11, mC 1 bu pe ep sz nx fr so wr wa as ak ab ar g))] := hD
  refine W.widen (k := 0) (n := 0) (Nat.le_of_ble_eq_true rfl) (Nat.le_of_ble_eq_true rfl) ?_
  refine W.eq (g2 := F0 m 5 ls [.int 1]) rfl ?_
  refine lv_if_eq (tgt := 12) hx hb dX12_guardRange_5 (by decide) (fun h => absurd h (by decide)) (fun _ => ?_)
  refine lv_iconst (v := 0) hx hb dX12_guardRange_8 (by decide) ?_
  refine lv_goto (tgt := 18) hx hb dX12_guardRange_9 (by decide) ?_
  exact r_iret C hP hD hS () rfl rfl (Nat.le_of_ble_eq_true rfl) (Nat.le_of_ble_eq_true rfl) dX12_guardRange_18
set_option maxHeartbeats 4000000 in
set_option maxRecDepth 100000 in
theorem m_watched (l : Launch) (D : va_G) (cI cZ cJ : ClassId) (mo : Nat) (bu : Int32) (pe : Int32) (ep : Int32) (sz : Int32) (nx : Int32) (fr : Int32) (so : Int32) (wr : Int32) (wa : Int32) (as : Nat) (ak : Nat) (ab : Nat) (ar : Nat) (g : Nat → Value) (th : Int32) (a0 : Int32)  : cM l yX12_watched cX12_watched 2 (some .long) D (TT cI cZ cJ) [.ref mo, .int a0] [(mo, .inr (11, mC th bu pe ep sz nx fr so wr wa as ak ab ar g))] (qL D (TT cI cZ cJ) (fun u : Unit => 0) (fun u : Unit => [(mo, .inr (11, mC 1 bu pe ep sz nx fr so wr wa as ak ab ar g))])) 3 0 0 := by
  refine enterM (by decide) (Nat.le_of_ble_eq_true rfl) ?_
  intro p e s m below meth c ls A C hP hD hS hl
  have hx := C.1
  have hb := C.2.1
  have hl : lv_has ls 2 [(0, .ref mo), (1, .int a0)] := hl
  refine lv_aload_n hx hb dX12_watched_0 rfl (lv_at hl 0 rfl) ?_
  refine lv_iload_n hx hb dX12_watched_1 rfl (lv_at hl 1 rfl) ?_
  refine call_i (wr := []) C (run_V (As := [.int a0]) (rest := []) C (m_noGuard l D cI cZ cJ mo bu pe ep sz nx fr so wr wa as ak ab ar g th a0 ) cV_X12_356 hP hD hS [0] rfl rfl 0 rfl rfl rfl rfl hl.1 rfl (Nat.le_of_ble_eq_true rfl) dX12_watched_2 ⟨Nat.le_of_ble_eq_true rfl, Nat.le_of_ble_eq_true rfl⟩ ⟨Nat.le_of_ble_eq_true rfl, Nat.le_of_ble_eq_true rfl⟩) hP hD hS [0] [] rfl rfl rfl (by decide) (fun u1 H locs hP hD hS => ?_)
  have hP : va_P D CL [(mo, .inr (11, mC 1 bu pe ep sz nx fr so wr wa as ak ab ar g))] H := hP
  have hD : va_D A [(mo, .inr (11, mC 1 bu pe ep sz nx fr so wr wa as ak ab ar g))] := hD
  refine W.widen (k := 0) (n := 0) (Nat.le_of_ble_eq_true rfl) (Nat.le_of_ble_eq_true rfl) ?_
  refine W.eq (g2 := F0 m 5 ls [.int 1]) rfl ?_
  refine lv_if_eq (tgt := 10) hx hb dX12_watched_5 (by decide) (fun h => absurd h (by decide)) (fun _ => ?_)
  refine lv_lconst (v := 0) hx hb dX12_watched_8 (by decide) ?_
  exact r_lret C hP hD hS () rfl rfl (Nat.le_of_ble_eq_true rfl) (Nat.le_of_ble_eq_true rfl) dX12_watched_9
set_option maxHeartbeats 4000000 in
set_option maxRecDepth 100000 in
theorem m_unwatched (l : Launch) (D : va_G) (cI cZ cJ : ClassId) (mo : Nat) (bu : Int32) (pe : Int32) (ep : Int32) (sz : Int32) (nx : Int32) (fr : Int32) (so : Int32) (wr : Int32) (wa : Int32) (as : Nat) (ak : Nat) (ab : Nat) (ar : Nat) (g : Nat → Value) (th : Int32)  : cM l yX12_unwatched cX12_unwatched 1 (some .long) D (TT cI cZ cJ) [.ref mo] [(mo, .inr (11, mC th bu pe ep sz nx fr so wr wa as ak ab ar g))] (qL D (TT cI cZ cJ) (fun u : Unit => 0) (fun u : Unit => [(mo, .inr (11, mC 1 bu pe ep sz nx fr so wr wa as ak ab ar g))])) 3 0 0 := by
  refine enterM (by decide) (Nat.le_of_ble_eq_true rfl) ?_
  intro p e s m below meth c ls A C hP hD hS hl
  have hx := C.1
  have hb := C.2.1
  have hl : lv_has ls 1 [(0, .ref mo)] := hl
  refine lv_aload_n hx hb dX12_unwatched_0 rfl (lv_at hl 0 rfl) ?_
  refine call_i (wr := []) C (run_V (As := []) (rest := []) C (m_noPolygon l D cI cZ cJ mo bu pe ep sz nx fr so wr wa as ak ab ar g th ) cV_X12_247 hP hD hS [0] rfl rfl 0 rfl rfl rfl rfl hl.1 rfl (Nat.le_of_ble_eq_true rfl) dX12_unwatched_1 ⟨Nat.le_of_ble_eq_true rfl, Nat.le_of_ble_eq_true rfl⟩ ⟨Nat.le_of_ble_eq_true rfl, Nat.le_of_ble_eq_true rfl⟩) hP hD hS [0] [] rfl rfl rfl (by decide) (fun u1 H locs hP hD hS => ?_)
  have hP : va_P D CL [(mo, .inr (11, mC 1 bu pe ep sz nx fr so wr wa as ak ab ar g))] H := hP
  have hD : va_D A [(mo, .inr (11, mC 1 bu pe ep sz nx fr so wr wa as ak ab ar g))] := hD
  refine W.widen (k := 0) (n := 0) (Nat.le_of_ble_eq_true rfl) (Nat.le_of_ble_eq_true rfl) ?_
  refine W.eq (g2 := F0 m 4 ls [.int 1]) rfl ?_
  refine lv_if_eq (tgt := 11) hx hb dX12_unwatched_4 (by decide) (fun h => absurd h (by decide)) (fun _ => ?_)
  refine lv_lconst (v := 0) hx hb dX12_unwatched_7 (by decide) ?_
  refine lv_goto (tgt := 25) hx hb dX12_unwatched_8 (by decide) ?_
  exact r_lret C hP hD hS () rfl rfl (Nat.le_of_ble_eq_true rfl) (Nat.le_of_ble_eq_true rfl) dX12_unwatched_25
set_option maxHeartbeats 4000000 in
set_option maxRecDepth 100000 in
theorem m_watchers (l : Launch) (D : va_G) (cI cZ cJ : ClassId) (mo : Nat) (bu : Int32) (pe : Int32) (ep : Int32) (sz : Int32) (nx : Int32) (fr : Int32) (so : Int32) (wr : Int32) (wa : Int32) (as : Nat) (ak : Nat) (ab : Nat) (ar : Nat) (g : Nat → Value) (th : Int32) (a0 : Int32)  : cM l yX12_watchers cX12_watchers 4 (some .int) D (TT cI cZ cJ) [.ref mo, .int a0] [(mo, .inr (11, mC th bu pe ep sz nx fr so wr wa as ak ab ar g))] (qI D (TT cI cZ cJ) (fun u : Unit => 0) (fun u : Unit => [(mo, .inr (11, mC 1 bu pe ep sz nx fr so wr wa as ak ab ar g))])) 3 0 0 := by
  refine enterM (by decide) (Nat.le_of_ble_eq_true rfl) ?_
  intro p e s m below meth c ls A C hP hD hS hl
  have hx := C.1
  have hb := C.2.1
  have hl : lv_has ls 4 [(0, .ref mo), (1, .int a0)] := hl
  refine lv_aload_n hx hb dX12_watchers_0 rfl (lv_at hl 0 rfl) ?_
  refine lv_iload_n hx hb dX12_watchers_1 rfl (lv_at hl 1 rfl) ?_
  refine call_i (wr := []) C (run_V (As := [.int a0]) (rest := []) C (m_noPoint l D cI cZ cJ mo bu pe ep sz nx fr so wr wa as ak ab ar g th a0 ) cV_X12_254 hP hD hS [0] rfl rfl 0 rfl rfl rfl rfl hl.1 rfl (Nat.le_of_ble_eq_true rfl) dX12_watchers_2 ⟨Nat.le_of_ble_eq_true rfl, Nat.le_of_ble_eq_true rfl⟩ ⟨Nat.le_of_ble_eq_true rfl, Nat.le_of_ble_eq_true rfl⟩) hP hD hS [0] [] rfl rfl rfl (by decide) (fun u1 H locs hP hD hS => ?_)
  have hP : va_P D CL [(mo, .inr (11, mC 1 bu pe ep sz nx fr so wr wa as ak ab ar g))] H := hP
  have hD : va_D A [(mo, .inr (11, mC 1 bu pe ep sz nx fr so wr wa as ak ab ar g))] := hD
  refine W.widen (k := 0) (n := 0) (Nat.le_of_ble_eq_true rfl) (Nat.le_of_ble_eq_true rfl) ?_
  refine W.eq (g2 := F0 m 5 ls [.int 1]) rfl ?_
  refine lv_if_eq (tgt := 10) hx hb dX12_watchers_5 (by decide) (fun h => absurd h (by decide)) (fun _ => ?_)
  refine lv_iconst (v := 0) hx hb dX12_watchers_8 (by decide) ?_
  exact r_iret C hP hD hS () rfl rfl (Nat.le_of_ble_eq_true rfl) (Nat.le_of_ble_eq_true rfl) dX12_watchers_9
set_option maxHeartbeats 4000000 in
set_option maxRecDepth 100000 in
theorem m_redundantGuards (l : Launch) (D : va_G) (cI cZ cJ : ClassId) (mo : Nat) (bu : Int32) (pe : Int32) (ep : Int32) (sz : Int32) (nx : Int32) (fr : Int32) (so : Int32) (wr : Int32) (wa : Int32) (as : Nat) (ak : Nat) (ab : Nat) (ar : Nat) (g : Nat → Value) (th : Int32)  : cM l yX12_redundantGuards cX12_redundantGuards 3 (some .int) D (TT cI cZ cJ) [.ref mo] [(mo, .inr (11, mC th bu pe ep sz nx fr so wr wa as ak ab ar g))] (qI D (TT cI cZ cJ) (fun u : Unit => 0) (fun u : Unit => [(mo, .inr (11, mC 1 bu pe ep sz nx fr so wr wa as ak ab ar g))])) 3 0 0 := by
  refine enterM (by decide) (Nat.le_of_ble_eq_true rfl) ?_
  intro p e s m below meth c ls A C hP hD hS hl
  have hx := C.1
  have hb := C.2.1
  have hl : lv_has ls 3 [(0, .ref mo)] := hl
  refine lv_aload_n hx hb dX12_redundantGuards_0 rfl (lv_at hl 0 rfl) ?_
  refine call_i (wr := []) C (run_V (As := []) (rest := []) C (m_noPolygon l D cI cZ cJ mo bu pe ep sz nx fr so wr wa as ak ab ar g th ) cV_X12_247 hP hD hS [0] rfl rfl 0 rfl rfl rfl rfl hl.1 rfl (Nat.le_of_ble_eq_true rfl) dX12_redundantGuards_1 ⟨Nat.le_of_ble_eq_true rfl, Nat.le_of_ble_eq_true rfl⟩ ⟨Nat.le_of_ble_eq_true rfl, Nat.le_of_ble_eq_true rfl⟩) hP hD hS [0] [] rfl rfl rfl (by decide) (fun u1 H locs hP hD hS => ?_)
  have hP : va_P D CL [(mo, .inr (11, mC 1 bu pe ep sz nx fr so wr wa as ak ab ar g))] H := hP
  have hD : va_D A [(mo, .inr (11, mC 1 bu pe ep sz nx fr so wr wa as ak ab ar g))] := hD
  refine W.widen (k := 0) (n := 0) (Nat.le_of_ble_eq_true rfl) (Nat.le_of_ble_eq_true rfl) ?_
  refine W.eq (g2 := F0 m 4 ls [.int 1]) rfl ?_
  refine lv_if_eq (tgt := 9) hx hb dX12_redundantGuards_4 (by decide) (fun h => absurd h (by decide)) (fun _ => ?_)
  refine lv_iconst (v := 0) hx hb dX12_redundantGuards_7 (by decide) ?_
  exact r_iret C hP hD hS () rfl rfl (Nat.le_of_ble_eq_true rfl) (Nat.le_of_ble_eq_true rfl) dX12_redundantGuards_8
set_option maxHeartbeats 4000000 in
set_option maxRecDepth 100000 in
theorem m_bestPoint (l : Launch) (D : va_G) (cI cZ cJ : ClassId) (mo : Nat) (bu : Int32) (pe : Int32) (ep : Int32) (sz : Int32) (nx : Int32) (fr : Int32) (so : Int32) (wr : Int32) (wa : Int32) (as : Nat) (ak : Nat) (ab : Nat) (ar : Nat) (g : Nat → Value) (th : Int32)  : cM l yX12_bestPoint cX12_bestPoint 1 (some .int) D (TT cI cZ cJ) [.ref mo] [(mo, .inr (11, mC th bu pe ep sz nx fr so wr wa as ak ab ar g))] (qI D (TT cI cZ cJ) (fun u : Unit => 0) (fun u : Unit => [(mo, .inr (11, mC 1 bu pe ep sz nx fr so wr wa as ak ab ar g))])) 3 0 0 := by
  refine enterM (by decide) (Nat.le_of_ble_eq_true rfl) ?_
  intro p e s m below meth c ls A C hP hD hS hl
  have hx := C.1
  have hb := C.2.1
  have hl : lv_has ls 1 [(0, .ref mo)] := hl
  refine lv_aload_n hx hb dX12_bestPoint_0 rfl (lv_at hl 0 rfl) ?_
  refine call_i (wr := []) C (run_V (As := []) (rest := []) C (m_noPolygon l D cI cZ cJ mo bu pe ep sz nx fr so wr wa as ak ab ar g th ) cV_X12_247 hP hD hS [0] rfl rfl 0 rfl rfl rfl rfl hl.1 rfl (Nat.le_of_ble_eq_true rfl) dX12_bestPoint_1 ⟨Nat.le_of_ble_eq_true rfl, Nat.le_of_ble_eq_true rfl⟩ ⟨Nat.le_of_ble_eq_true rfl, Nat.le_of_ble_eq_true rfl⟩) hP hD hS [0] [] rfl rfl rfl (by decide) (fun u1 H locs hP hD hS => ?_)
  have hP : va_P D CL [(mo, .inr (11, mC 1 bu pe ep sz nx fr so wr wa as ak ab ar g))] H := hP
  have hD : va_D A [(mo, .inr (11, mC 1 bu pe ep sz nx fr so wr wa as ak ab ar g))] := hD
  refine W.widen (k := 0) (n := 0) (Nat.le_of_ble_eq_true rfl) (Nat.le_of_ble_eq_true rfl) ?_
  refine W.eq (g2 := F0 m 4 ls [.int 1]) rfl ?_
  refine lv_if_eq (tgt := 11) hx hb dX12_bestPoint_4 (by decide) (fun h => absurd h (by decide)) (fun _ => ?_)
  refine lv_iconst (v := 0) hx hb dX12_bestPoint_7 (by decide) ?_
  refine lv_goto (tgt := 29) hx hb dX12_bestPoint_8 (by decide) ?_
  exact r_iret C hP hD hS () rfl rfl (Nat.le_of_ble_eq_true rfl) (Nat.le_of_ble_eq_true rfl) dX12_bestPoint_29
set_option maxHeartbeats 4000000 in
set_option maxRecDepth 100000 in
theorem m_greedyGuards (l : Launch) (D : va_G) (cI cZ cJ : ClassId) (mo : Nat) (bu : Int32) (pe : Int32) (ep : Int32) (sz : Int32) (nx : Int32) (fr : Int32) (so : Int32) (wr : Int32) (wa : Int32) (as : Nat) (ak : Nat) (ab : Nat) (ar : Nat) (g : Nat → Value) (th : Int32)  : cM l yX12_greedyGuards cX12_greedyGuards 4 (some .int) D (TT cI cZ cJ) [.ref mo] [(mo, .inr (11, mC th bu pe ep sz nx fr so wr wa as ak ab ar g))] (qI D (TT cI cZ cJ) (fun u : Unit => 0) (fun u : Unit => [(mo, .inr (11, mC 1 bu pe ep sz nx fr so wr wa as ak ab ar g))])) 3 0 0 := by
  refine enterM (by decide) (Nat.le_of_ble_eq_true rfl) ?_
  intro p e s m below meth c ls A C hP hD hS hl
  have hx := C.1
  have hb := C.2.1
  have hl : lv_has ls 4 [(0, .ref mo)] := hl
  refine lv_aload_n hx hb dX12_greedyGuards_0 rfl (lv_at hl 0 rfl) ?_
  refine call_i (wr := []) C (run_V (As := []) (rest := []) C (m_noPolygon l D cI cZ cJ mo bu pe ep sz nx fr so wr wa as ak ab ar g th ) cV_X12_247 hP hD hS [0] rfl rfl 0 rfl rfl rfl rfl hl.1 rfl (Nat.le_of_ble_eq_true rfl) dX12_greedyGuards_1 ⟨Nat.le_of_ble_eq_true rfl, Nat.le_of_ble_eq_true rfl⟩ ⟨Nat.le_of_ble_eq_true rfl, Nat.le_of_ble_eq_true rfl⟩) hP hD hS [0] [] rfl rfl rfl (by decide) (fun u1 H locs hP hD hS => ?_)
  have hP : va_P D CL [(mo, .inr (11, mC 1 bu pe ep sz nx fr so wr wa as ak ab ar g))] H := hP
  have hD : va_D A [(mo, .inr (11, mC 1 bu pe ep sz nx fr so wr wa as ak ab ar g))] := hD
  refine W.widen (k := 0) (n := 0) (Nat.le_of_ble_eq_true rfl) (Nat.le_of_ble_eq_true rfl) ?_
  refine W.eq (g2 := F0 m 4 ls [.int 1]) rfl ?_
  refine lv_if_eq (tgt := 9) hx hb dX12_greedyGuards_4 (by decide) (fun h => absurd h (by decide)) (fun _ => ?_)
  refine lv_iconst (v := 0) hx hb dX12_greedyGuards_7 (by decide) ?_
  exact r_iret C hP hD hS () rfl rfl (Nat.le_of_ble_eq_true rfl) (Nat.le_of_ble_eq_true rfl) dX12_greedyGuards_8
set_option maxHeartbeats 4000000 in
set_option maxRecDepth 100000 in
theorem m_treasureAt (l : Launch) (D : va_G) (cI cZ cJ : ClassId) (mo : Nat) (bu : Int32) (pe : Int32) (ep : Int32) (sz : Int32) (nx : Int32) (fr : Int32) (so : Int32) (wr : Int32) (wa : Int32) (as : Nat) (ak : Nat) (ab : Nat) (ar : Nat) (g : Nat → Value) (th : Int32) (a0 : Int32)  : cM l yX12_treasureAt cX12_treasureAt 2 (some .int) D (TT cI cZ cJ) [.ref mo, .int a0] [(mo, .inr (11, mC th bu pe ep sz nx fr so wr wa as ak ab ar g))] (qI D (TT cI cZ cJ) (fun u : Unit => 0) (fun u : Unit => [(mo, .inr (11, mC 1 bu pe ep sz nx fr so wr wa as ak ab ar g))])) 3 0 0 := by
  refine enterM (by decide) (Nat.le_of_ble_eq_true rfl) ?_
  intro p e s m below meth c ls A C hP hD hS hl
  have hx := C.1
  have hb := C.2.1
  have hl : lv_has ls 2 [(0, .ref mo), (1, .int a0)] := hl
  refine lv_aload_n hx hb dX12_treasureAt_0 rfl (lv_at hl 0 rfl) ?_
  refine call_i (wr := []) C (run_V (As := []) (rest := []) C (m_noPolygon l D cI cZ cJ mo bu pe ep sz nx fr so wr wa as ak ab ar g th ) cV_X12_247 hP hD hS [0] rfl rfl 0 rfl rfl rfl rfl hl.1 rfl (Nat.le_of_ble_eq_true rfl) dX12_treasureAt_1 ⟨Nat.le_of_ble_eq_true rfl, Nat.le_of_ble_eq_true rfl⟩ ⟨Nat.le_of_ble_eq_true rfl, Nat.le_of_ble_eq_true rfl⟩) hP hD hS [0] [] rfl rfl rfl (by decide) (fun u1 H locs hP hD hS => ?_)
  have hP : va_P D CL [(mo, .inr (11, mC 1 bu pe ep sz nx fr so wr wa as ak ab ar g))] H := hP
  have hD : va_D A [(mo, .inr (11, mC 1 bu pe ep sz nx fr so wr wa as ak ab ar g))] := hD
  refine W.widen (k := 0) (n := 0) (Nat.le_of_ble_eq_true rfl) (Nat.le_of_ble_eq_true rfl) ?_
  refine W.eq (g2 := F0 m 4 ls [.int 1]) rfl ?_
  refine lv_if_ne (tgt := 36) hx hb dX12_treasureAt_4 (by decide) (fun _ => ?_) (fun h => absurd h (by decide))
  refine lv_iconst (v := 0) hx hb dX12_treasureAt_36 (by decide) ?_
  refine lv_goto (tgt := 56) hx hb dX12_treasureAt_37 (by decide) ?_
  exact r_iret C hP hD hS () rfl rfl (Nat.le_of_ble_eq_true rfl) (Nat.le_of_ble_eq_true rfl) dX12_treasureAt_56
set_option maxHeartbeats 4000000 in
set_option maxRecDepth 100000 in
theorem m_watchedValue (l : Launch) (D : va_G) (cI cZ cJ : ClassId) (mo : Nat) (bu : Int32) (pe : Int32) (ep : Int32) (sz : Int32) (nx : Int32) (fr : Int32) (so : Int32) (wr : Int32) (wa : Int32) (as : Nat) (ak : Nat) (ab : Nat) (ar : Nat) (g : Nat → Value) (th : Int32)  : cM l yX12_watchedValue cX12_watchedValue 1 (some .int) D (TT cI cZ cJ) [.ref mo] [(mo, .inr (11, mC th bu pe ep sz nx fr so wr wa as ak ab ar g))] (qI D (TT cI cZ cJ) (fun u : Unit => 0) (fun u : Unit => [(mo, .inr (11, mC 1 bu pe ep sz nx fr so wr wa as ak ab ar g))])) 3 0 0 := by
  refine enterM (by decide) (Nat.le_of_ble_eq_true rfl) ?_
  intro p e s m below meth c ls A C hP hD hS hl
  have hx := C.1
  have hb := C.2.1
  have hl : lv_has ls 1 [(0, .ref mo)] := hl
  refine lv_aload_n hx hb dX12_watchedValue_0 rfl (lv_at hl 0 rfl) ?_
  refine call_i (wr := []) C (run_V (As := []) (rest := []) C (m_noPolygon l D cI cZ cJ mo bu pe ep sz nx fr so wr wa as ak ab ar g th ) cV_X12_247 hP hD hS [0] rfl rfl 0 rfl rfl rfl rfl hl.1 rfl (Nat.le_of_ble_eq_true rfl) dX12_watchedValue_1 ⟨Nat.le_of_ble_eq_true rfl, Nat.le_of_ble_eq_true rfl⟩ ⟨Nat.le_of_ble_eq_true rfl, Nat.le_of_ble_eq_true rfl⟩) hP hD hS [0] [] rfl rfl rfl (by decide) (fun u1 H locs hP hD hS => ?_)
  have hP : va_P D CL [(mo, .inr (11, mC 1 bu pe ep sz nx fr so wr wa as ak ab ar g))] H := hP
  have hD : va_D A [(mo, .inr (11, mC 1 bu pe ep sz nx fr so wr wa as ak ab ar g))] := hD
  refine W.widen (k := 0) (n := 0) (Nat.le_of_ble_eq_true rfl) (Nat.le_of_ble_eq_true rfl) ?_
  refine W.eq (g2 := F0 m 4 ls [.int 1]) rfl ?_
  refine lv_if_eq (tgt := 11) hx hb dX12_watchedValue_4 (by decide) (fun h => absurd h (by decide)) (fun _ => ?_)
  refine lv_iconst (v := 0) hx hb dX12_watchedValue_7 (by decide) ?_
  refine lv_goto (tgt := 20) hx hb dX12_watchedValue_8 (by decide) ?_
  exact r_iret C hP hD hS () rfl rfl (Nat.le_of_ble_eq_true rfl) (Nat.le_of_ble_eq_true rfl) dX12_watchedValue_20
set_option maxHeartbeats 4000000 in
set_option maxRecDepth 100000 in
theorem m_bestValue (l : Launch) (D : va_G) (cI cZ cJ : ClassId) (mo : Nat) (bu : Int32) (pe : Int32) (ep : Int32) (sz : Int32) (nx : Int32) (fr : Int32) (so : Int32) (wr : Int32) (wa : Int32) (as : Nat) (ak : Nat) (ab : Nat) (ar : Nat) (g : Nat → Value) (th : Int32)  : cM l yX12_bestValue cX12_bestValue 7 (some .int) D (TT cI cZ cJ) [.ref mo] [(mo, .inr (11, mC th bu pe ep sz nx fr so wr wa as ak ab ar g))] (qI D (TT cI cZ cJ) (fun u : Unit => 0) (fun u : Unit => [(mo, .inr (11, mC 1 bu pe ep sz nx fr so wr wa as ak ab ar g))])) 3 0 0 := by
  refine enterM (by decide) (Nat.le_of_ble_eq_true rfl) ?_
  intro p e s m below meth c ls A C hP hD hS hl
  have hx := C.1
  have hb := C.2.1
  have hl : lv_has ls 7 [(0, .ref mo)] := hl
  refine lv_aload_n hx hb dX12_bestValue_0 rfl (lv_at hl 0 rfl) ?_
  refine call_i (wr := []) C (run_V (As := []) (rest := []) C (m_noPolygon l D cI cZ cJ mo bu pe ep sz nx fr so wr wa as ak ab ar g th ) cV_X12_247 hP hD hS [0] rfl rfl 0 rfl rfl rfl rfl hl.1 rfl (Nat.le_of_ble_eq_true rfl) dX12_bestValue_1 ⟨Nat.le_of_ble_eq_true rfl, Nat.le_of_ble_eq_true rfl⟩ ⟨Nat.le_of_ble_eq_true rfl, Nat.le_of_ble_eq_true rfl⟩) hP hD hS [0] [] rfl rfl rfl (by decide) (fun u1 H locs hP hD hS => ?_)
  have hP : va_P D CL [(mo, .inr (11, mC 1 bu pe ep sz nx fr so wr wa as ak ab ar g))] H := hP
  have hD : va_D A [(mo, .inr (11, mC 1 bu pe ep sz nx fr so wr wa as ak ab ar g))] := hD
  refine W.widen (k := 0) (n := 0) (Nat.le_of_ble_eq_true rfl) (Nat.le_of_ble_eq_true rfl) ?_
  refine W.eq (g2 := F0 m 4 ls [.int 1]) rfl ?_
  refine lv_if_eq (tgt := 9) hx hb dX12_bestValue_4 (by decide) (fun h => absurd h (by decide)) (fun _ => ?_)
  refine lv_iconst (v := 0) hx hb dX12_bestValue_7 (by decide) ?_
  exact r_iret C hP hD hS () rfl rfl (Nat.le_of_ble_eq_true rfl) (Nat.le_of_ble_eq_true rfl) dX12_bestValue_8
set_option maxHeartbeats 4000000 in
set_option maxRecDepth 100000 in
theorem m_draw (l : Launch) (D : va_G) (cI cZ cJ : ClassId) (mo : Nat) (bu : Int32) (pe : Int32) (ep : Int32) (sz : Int32) (nx : Int32) (fr : Int32) (so : Int32) (wr : Int32) (wa : Int32) (as : Nat) (ak : Nat) (ab : Nat) (ar : Nat) (g : Nat → Value) (th : Int32) (a0 : Int32)  : cM l yX12_draw cX12_draw 7 (some .int) D (TT cI cZ cJ) [.ref mo, .int a0] [(mo, .inr (11, mC th bu pe ep sz nx fr so wr wa as ak ab ar g))] (qI D (TT cI cZ cJ) (fun u : Unit => 0) (fun u : Unit => [(mo, .inr (11, mC 1 bu pe ep sz nx fr so wr wa as ak ab ar g))])) 3 0 0 := by
  refine enterM (by decide) (Nat.le_of_ble_eq_true rfl) ?_
  intro p e s m below meth c ls A C hP hD hS hl
  have hx := C.1
  have hb := C.2.1
  have hl : lv_has ls 7 [(0, .ref mo), (1, .int a0)] := hl
  refine lv_aload_n hx hb dX12_draw_0 rfl (lv_at hl 0 rfl) ?_
  refine call_i (wr := []) C (run_V (As := []) (rest := []) C (m_noPolygon l D cI cZ cJ mo bu pe ep sz nx fr so wr wa as ak ab ar g th ) cV_X12_247 hP hD hS [0] rfl rfl 0 rfl rfl rfl rfl hl.1 rfl (Nat.le_of_ble_eq_true rfl) dX12_draw_1 ⟨Nat.le_of_ble_eq_true rfl, Nat.le_of_ble_eq_true rfl⟩ ⟨Nat.le_of_ble_eq_true rfl, Nat.le_of_ble_eq_true rfl⟩) hP hD hS [0] [] rfl rfl rfl (by decide) (fun u1 H locs hP hD hS => ?_)
  have hP : va_P D CL [(mo, .inr (11, mC 1 bu pe ep sz nx fr so wr wa as ak ab ar g))] H := hP
  have hD : va_D A [(mo, .inr (11, mC 1 bu pe ep sz nx fr so wr wa as ak ab ar g))] := hD
  refine W.widen (k := 0) (n := 0) (Nat.le_of_ble_eq_true rfl) (Nat.le_of_ble_eq_true rfl) ?_
  refine W.eq (g2 := F0 m 4 ls [.int 1]) rfl ?_
  refine lv_if_ne (tgt := 30) hx hb dX12_draw_4 (by decide) (fun _ => ?_) (fun h => absurd h (by decide))
  refine lv_iconst (v := 0) hx hb dX12_draw_30 (by decide) ?_
  exact r_iret C hP hD hS () rfl rfl (Nat.le_of_ble_eq_true rfl) (Nat.le_of_ble_eq_true rfl) dX12_draw_31
set_option maxHeartbeats 4000000 in
set_option maxRecDepth 100000 in
theorem m_addGuard (l : Launch) (D : va_G) (cI cZ cJ : ClassId) (mo : Nat) (bu : Int32) (pe : Int32) (ep : Int32) (sz : Int32) (nx : Int32) (fr : Int32) (so : Int32) (wr : Int32) (wa : Int32) (as : Nat) (ak : Nat) (ab : Nat) (ar : Nat) (g : Nat → Value) (th : Int32) (a0 : Int32) (a1 : Int32)  : cM l yX12_addGuard cX12_addGuard 4 (some .int) D (TT cI cZ cJ) [.ref mo, .int a0, .int a1] [(mo, .inr (11, mC th bu pe ep sz nx fr so wr wa as ak ab ar g))] (qI D (TT cI cZ cJ) (fun u : Unit => 0) (fun u : Unit => [(mo, .inr (11, mC 1 bu pe ep sz nx fr so wr wa as ak ab ar g))])) 3 0 0 := by
  refine enterM (by decide) (Nat.le_of_ble_eq_true rfl) ?_
  intro p e s m below meth c ls A C hP hD hS hl
  have hx := C.1
  have hb := C.2.1
  have hl : lv_has ls 4 [(0, .ref mo), (1, .int a0), (2, .int a1)] := hl
  refine lv_aload_n hx hb dX12_addGuard_0 rfl (lv_at hl 0 rfl) ?_
  refine lv_iload_n hx hb dX12_addGuard_1 rfl (lv_at hl 1 rfl) ?_
  refine call_i (wr := []) C (run_V (As := [.int a0]) (rest := []) C (m_noPoint l D cI cZ cJ mo bu pe ep sz nx fr so wr wa as ak ab ar g th a0 ) cV_X12_254 hP hD hS [0] rfl rfl 0 rfl rfl rfl rfl hl.1 rfl (Nat.le_of_ble_eq_true rfl) dX12_addGuard_2 ⟨Nat.le_of_ble_eq_true rfl, Nat.le_of_ble_eq_true rfl⟩ ⟨Nat.le_of_ble_eq_true rfl, Nat.le_of_ble_eq_true rfl⟩) hP hD hS [0] [] rfl rfl rfl (by decide) (fun u1 H locs hP hD hS => ?_)
  have hP : va_P D CL [(mo, .inr (11, mC 1 bu pe ep sz nx fr so wr wa as ak ab ar g))] H := hP
  have hD : va_D A [(mo, .inr (11, mC 1 bu pe ep sz nx fr so wr wa as ak ab ar g))] := hD
  refine W.widen (k := 0) (n := 0) (Nat.le_of_ble_eq_true rfl) (Nat.le_of_ble_eq_true rfl) ?_
  refine W.eq (g2 := F0 m 5 ls [.int 1]) rfl ?_
  refine lv_if_ne (tgt := 55) hx hb dX12_addGuard_5 (by decide) (fun _ => ?_) (fun h => absurd h (by decide))
  refine lv_iconst (v := 0) hx hb dX12_addGuard_55 (by decide) ?_
  exact r_iret C hP hD hS () rfl rfl (Nat.le_of_ble_eq_true rfl) (Nat.le_of_ble_eq_true rfl) dX12_addGuard_56
set_option maxHeartbeats 4000000 in
set_option maxRecDepth 100000 in
theorem m_removeGuard (l : Launch) (D : va_G) (cI cZ cJ : ClassId) (mo : Nat) (bu : Int32) (pe : Int32) (ep : Int32) (sz : Int32) (nx : Int32) (fr : Int32) (so : Int32) (wr : Int32) (wa : Int32) (as : Nat) (ak : Nat) (ab : Nat) (ar : Nat) (g : Nat → Value) (th : Int32) (a0 : Int32)  : cM l yX12_removeGuard cX12_removeGuard 3 (some .int) D (TT cI cZ cJ) [.ref mo, .int a0] [(mo, .inr (11, mC th bu pe ep sz nx fr so wr wa as ak ab ar g))] (qI D (TT cI cZ cJ) (fun u : Unit => 0) (fun u : Unit => [(mo, .inr (11, mC 1 bu pe ep sz nx fr so wr wa as ak ab ar g))])) 3 0 0 := by
  refine enterM (by decide) (Nat.le_of_ble_eq_true rfl) ?_
  intro p e s m below meth c ls A C hP hD hS hl
  have hx := C.1
  have hb := C.2.1
  have hl : lv_has ls 3 [(0, .ref mo), (1, .int a0)] := hl
  refine lv_aload_n hx hb dX12_removeGuard_0 rfl (lv_at hl 0 rfl) ?_
  refine lv_iload_n hx hb dX12_removeGuard_1 rfl (lv_at hl 1 rfl) ?_
  refine call_i (wr := []) C (run_V (As := [.int a0]) (rest := []) C (m_noGuard l D cI cZ cJ mo bu pe ep sz nx fr so wr wa as ak ab ar g th a0 ) cV_X12_356 hP hD hS [0] rfl rfl 0 rfl rfl rfl rfl hl.1 rfl (Nat.le_of_ble_eq_true rfl) dX12_removeGuard_2 ⟨Nat.le_of_ble_eq_true rfl, Nat.le_of_ble_eq_true rfl⟩ ⟨Nat.le_of_ble_eq_true rfl, Nat.le_of_ble_eq_true rfl⟩) hP hD hS [0] [] rfl rfl rfl (by decide) (fun u1 H locs hP hD hS => ?_)
  have hP : va_P D CL [(mo, .inr (11, mC 1 bu pe ep sz nx fr so wr wa as ak ab ar g))] H := hP
  have hD : va_D A [(mo, .inr (11, mC 1 bu pe ep sz nx fr so wr wa as ak ab ar g))] := hD
  refine W.widen (k := 0) (n := 0) (Nat.le_of_ble_eq_true rfl) (Nat.le_of_ble_eq_true rfl) ?_
  refine W.eq (g2 := F0 m 5 ls [.int 1]) rfl ?_
  refine lv_if_eq (tgt := 10) hx hb dX12_removeGuard_5 (by decide) (fun h => absurd h (by decide)) (fun _ => ?_)
  refine lv_iconst (v := 0) hx hb dX12_removeGuard_8 (by decide) ?_
  exact r_iret C hP hD hS () rfl rfl (Nat.le_of_ble_eq_true rfl) (Nat.le_of_ble_eq_true rfl) dX12_removeGuard_9
set_option maxHeartbeats 4000000 in
set_option maxRecDepth 100000 in
theorem m_moveGuard (l : Launch) (D : va_G) (cI cZ cJ : ClassId) (mo : Nat) (bu : Int32) (pe : Int32) (ep : Int32) (sz : Int32) (nx : Int32) (fr : Int32) (so : Int32) (wr : Int32) (wa : Int32) (as : Nat) (ak : Nat) (ab : Nat) (ar : Nat) (g : Nat → Value) (th : Int32) (a0 : Int32) (a1 : Int32)  : cM l yX12_moveGuard cX12_moveGuard 4 (some .int) D (TT cI cZ cJ) [.ref mo, .int a0, .int a1] [(mo, .inr (11, mC th bu pe ep sz nx fr so wr wa as ak ab ar g))] (qI D (TT cI cZ cJ) (fun u : Unit => 0) (fun u : Unit => [(mo, .inr (11, mC 1 bu pe ep sz nx fr so wr wa as ak ab ar g))])) 3 0 0 := by
  refine enterM (by decide) (Nat.le_of_ble_eq_true rfl) ?_
  intro p e s m below meth c ls A C hP hD hS hl
  have hx := C.1
  have hb := C.2.1
  have hl : lv_has ls 4 [(0, .ref mo), (1, .int a0), (2, .int a1)] := hl
  refine lv_aload_n hx hb dX12_moveGuard_0 rfl (lv_at hl 0 rfl) ?_
  refine lv_iload_n hx hb dX12_moveGuard_1 rfl (lv_at hl 1 rfl) ?_
  refine call_i (wr := []) C (run_V (As := [.int a0]) (rest := []) C (m_noGuard l D cI cZ cJ mo bu pe ep sz nx fr so wr wa as ak ab ar g th a0 ) cV_X12_356 hP hD hS [0] rfl rfl 0 rfl rfl rfl rfl hl.1 rfl (Nat.le_of_ble_eq_true rfl) dX12_moveGuard_2 ⟨Nat.le_of_ble_eq_true rfl, Nat.le_of_ble_eq_true rfl⟩ ⟨Nat.le_of_ble_eq_true rfl, Nat.le_of_ble_eq_true rfl⟩) hP hD hS [0] [] rfl rfl rfl (by decide) (fun u1 H locs hP hD hS => ?_)
  have hP : va_P D CL [(mo, .inr (11, mC 1 bu pe ep sz nx fr so wr wa as ak ab ar g))] H := hP
  have hD : va_D A [(mo, .inr (11, mC 1 bu pe ep sz nx fr so wr wa as ak ab ar g))] := hD
  refine W.widen (k := 0) (n := 0) (Nat.le_of_ble_eq_true rfl) (Nat.le_of_ble_eq_true rfl) ?_
  refine W.eq (g2 := F0 m 5 ls [.int 1]) rfl ?_
  refine lv_if_ne (tgt := 35) hx hb dX12_moveGuard_5 (by decide) (fun _ => ?_) (fun h => absurd h (by decide))
  refine lv_iconst (v := 0) hx hb dX12_moveGuard_35 (by decide) ?_
  exact r_iret C hP hD hS () rfl rfl (Nat.le_of_ble_eq_true rfl) (Nat.le_of_ble_eq_true rfl) dX12_moveGuard_36
set_option maxHeartbeats 4000000 in
set_option maxRecDepth 100000 in
theorem m_setRange (l : Launch) (D : va_G) (cI cZ cJ : ClassId) (mo : Nat) (bu : Int32) (pe : Int32) (ep : Int32) (sz : Int32) (nx : Int32) (fr : Int32) (so : Int32) (wr : Int32) (wa : Int32) (as : Nat) (ak : Nat) (ab : Nat) (ar : Nat) (g : Nat → Value) (th : Int32) (a0 : Int32) (a1 : Int32)  : cM l yX12_setRange cX12_setRange 4 (some .int) D (TT cI cZ cJ) [.ref mo, .int a0, .int a1] [(mo, .inr (11, mC th bu pe ep sz nx fr so wr wa as ak ab ar g))] (qI D (TT cI cZ cJ) (fun u : Unit => 0) (fun u : Unit => [(mo, .inr (11, mC 1 bu pe ep sz nx fr so wr wa as ak ab ar g))])) 3 0 0 := by
  refine enterM (by decide) (Nat.le_of_ble_eq_true rfl) ?_
  intro p e s m below meth c ls A C hP hD hS hl
  have hx := C.1
  have hb := C.2.1
  have hl : lv_has ls 4 [(0, .ref mo), (1, .int a0), (2, .int a1)] := hl
  refine lv_aload_n hx hb dX12_setRange_0 rfl (lv_at hl 0 rfl) ?_
  refine lv_iload_n hx hb dX12_setRange_1 rfl (lv_at hl 1 rfl) ?_
  refine call_i (wr := []) C (run_V (As := [.int a0]) (rest := []) C (m_noGuard l D cI cZ cJ mo bu pe ep sz nx fr so wr wa as ak ab ar g th a0 ) cV_X12_356 hP hD hS [0] rfl rfl 0 rfl rfl rfl rfl hl.1 rfl (Nat.le_of_ble_eq_true rfl) dX12_setRange_2 ⟨Nat.le_of_ble_eq_true rfl, Nat.le_of_ble_eq_true rfl⟩ ⟨Nat.le_of_ble_eq_true rfl, Nat.le_of_ble_eq_true rfl⟩) hP hD hS [0] [] rfl rfl rfl (by decide) (fun u1 H locs hP hD hS => ?_)
  have hP : va_P D CL [(mo, .inr (11, mC 1 bu pe ep sz nx fr so wr wa as ak ab ar g))] H := hP
  have hD : va_D A [(mo, .inr (11, mC 1 bu pe ep sz nx fr so wr wa as ak ab ar g))] := hD
  refine W.widen (k := 0) (n := 0) (Nat.le_of_ble_eq_true rfl) (Nat.le_of_ble_eq_true rfl) ?_
  refine W.eq (g2 := F0 m 5 ls [.int 1]) rfl ?_
  refine lv_if_ne (tgt := 31) hx hb dX12_setRange_5 (by decide) (fun _ => ?_) (fun h => absurd h (by decide))
  refine lv_iconst (v := 0) hx hb dX12_setRange_31 (by decide) ?_
  exact r_iret C hP hD hS () rfl rfl (Nat.le_of_ble_eq_true rfl) (Nat.le_of_ble_eq_true rfl) dX12_setRange_32
set_option maxHeartbeats 4000000 in
set_option maxRecDepth 100000 in
theorem m_moveVertex (l : Launch) (D : va_G) (cI cZ cJ : ClassId) (mo : Nat) (bu : Int32) (pe : Int32) (ep : Int32) (sz : Int32) (nx : Int32) (fr : Int32) (so : Int32) (wr : Int32) (wa : Int32) (as : Nat) (ak : Nat) (ab : Nat) (ar : Nat) (g : Nat → Value) (th : Int32) (a0 : Int32) (a1 : Int32) (a2 : Int32)  : cM l yX12_moveVertex cX12_moveVertex 4 (some .int) D (TT cI cZ cJ) [.ref mo, .int a0, .int a1, .int a2] [(mo, .inr (11, mC th bu pe ep sz nx fr so wr wa as ak ab ar g))] (qI D (TT cI cZ cJ) (fun u : Unit => 0) (fun u : Unit => [(mo, .inr (11, mC 1 bu pe ep sz nx fr so wr wa as ak ab ar g))])) 3 0 0 := by
  refine enterM (by decide) (Nat.le_of_ble_eq_true rfl) ?_
  intro p e s m below meth c ls A C hP hD hS hl
  have hx := C.1
  have hb := C.2.1
  have hl : lv_has ls 4 [(0, .ref mo), (1, .int a0), (2, .int a1), (3, .int a2)] := hl
  refine lv_aload_n hx hb dX12_moveVertex_0 rfl (lv_at hl 0 rfl) ?_
  refine lv_iload_n hx hb dX12_moveVertex_1 rfl (lv_at hl 1 rfl) ?_
  refine call_i (wr := []) C (run_V (As := [.int a0]) (rest := []) C (m_noVertex l D cI cZ cJ mo bu pe ep sz nx fr so wr wa as ak ab ar g th a0 ) cV_X12_251 hP hD hS [0] rfl rfl 0 rfl rfl rfl rfl hl.1 rfl (Nat.le_of_ble_eq_true rfl) dX12_moveVertex_2 ⟨Nat.le_of_ble_eq_true rfl, Nat.le_of_ble_eq_true rfl⟩ ⟨Nat.le_of_ble_eq_true rfl, Nat.le_of_ble_eq_true rfl⟩) hP hD hS [0] [] rfl rfl rfl (by decide) (fun u1 H locs hP hD hS => ?_)
  have hP : va_P D CL [(mo, .inr (11, mC 1 bu pe ep sz nx fr so wr wa as ak ab ar g))] H := hP
  have hD : va_D A [(mo, .inr (11, mC 1 bu pe ep sz nx fr so wr wa as ak ab ar g))] := hD
  refine W.widen (k := 0) (n := 0) (Nat.le_of_ble_eq_true rfl) (Nat.le_of_ble_eq_true rfl) ?_
  refine W.eq (g2 := F0 m 5 ls [.int 1]) rfl ?_
  refine lv_if_ne (tgt := 22) hx hb dX12_moveVertex_5 (by decide) (fun _ => ?_) (fun h => absurd h (by decide))
  refine lv_iconst (v := 0) hx hb dX12_moveVertex_22 (by decide) ?_
  exact r_iret C hP hD hS () rfl rfl (Nat.le_of_ble_eq_true rfl) (Nat.le_of_ble_eq_true rfl) dX12_moveVertex_23
set_option maxHeartbeats 4000000 in
set_option maxRecDepth 100000 in
theorem m_insertVertex (l : Launch) (D : va_G) (cI cZ cJ : ClassId) (mo : Nat) (bu : Int32) (pe : Int32) (ep : Int32) (sz : Int32) (nx : Int32) (fr : Int32) (so : Int32) (wr : Int32) (wa : Int32) (as : Nat) (ak : Nat) (ab : Nat) (ar : Nat) (g : Nat → Value) (th : Int32) (a0 : Int32) (a1 : Int32) (a2 : Int32)  : cM l yX12_insertVertex cX12_insertVertex 5 (some .int) D (TT cI cZ cJ) [.ref mo, .int a0, .int a1, .int a2] [(mo, .inr (11, mC th bu pe ep sz nx fr so wr wa as ak ab ar g))] (qI D (TT cI cZ cJ) (fun u : Unit => 0) (fun u : Unit => [(mo, .inr (11, mC 1 bu pe ep sz nx fr so wr wa as ak ab ar g))])) 3 0 0 := by
  refine enterM (by decide) (Nat.le_of_ble_eq_true rfl) ?_
  intro p e s m below meth c ls A C hP hD hS hl
  have hx := C.1
  have hb := C.2.1
  have hl : lv_has ls 5 [(0, .ref mo), (1, .int a0), (2, .int a1), (3, .int a2)] := hl
  refine lv_aload_n hx hb dX12_insertVertex_0 rfl (lv_at hl 0 rfl) ?_
  refine lv_iload_n hx hb dX12_insertVertex_1 rfl (lv_at hl 1 rfl) ?_
  refine call_i (wr := []) C (run_V (As := [.int a0]) (rest := []) C (m_noVertex l D cI cZ cJ mo bu pe ep sz nx fr so wr wa as ak ab ar g th a0 ) cV_X12_251 hP hD hS [0] rfl rfl 0 rfl rfl rfl rfl hl.1 rfl (Nat.le_of_ble_eq_true rfl) dX12_insertVertex_2 ⟨Nat.le_of_ble_eq_true rfl, Nat.le_of_ble_eq_true rfl⟩ ⟨Nat.le_of_ble_eq_true rfl, Nat.le_of_ble_eq_true rfl⟩) hP hD hS [0] [] rfl rfl rfl (by decide) (fun u1 H locs hP hD hS => ?_)
  have hP : va_P D CL [(mo, .inr (11, mC 1 bu pe ep sz nx fr so wr wa as ak ab ar g))] H := hP
  have hD : va_D A [(mo, .inr (11, mC 1 bu pe ep sz nx fr so wr wa as ak ab ar g))] := hD
  refine W.widen (k := 0) (n := 0) (Nat.le_of_ble_eq_true rfl) (Nat.le_of_ble_eq_true rfl) ?_
  refine W.eq (g2 := F0 m 5 ls [.int 1]) rfl ?_
  refine lv_if_ne (tgt := 41) hx hb dX12_insertVertex_5 (by decide) (fun _ => ?_) (fun h => absurd h (by decide))
  refine lv_iconst (v := 0) hx hb dX12_insertVertex_41 (by decide) ?_
  exact r_iret C hP hD hS () rfl rfl (Nat.le_of_ble_eq_true rfl) (Nat.le_of_ble_eq_true rfl) dX12_insertVertex_42
set_option maxHeartbeats 4000000 in
set_option maxRecDepth 100000 in
theorem m_deleteVertex (l : Launch) (D : va_G) (cI cZ cJ : ClassId) (mo : Nat) (bu : Int32) (pe : Int32) (ep : Int32) (sz : Int32) (nx : Int32) (fr : Int32) (so : Int32) (wr : Int32) (wa : Int32) (as : Nat) (ak : Nat) (ab : Nat) (ar : Nat) (g : Nat → Value) (th : Int32) (a0 : Int32)  : cM l yX12_deleteVertex cX12_deleteVertex 3 (some .int) D (TT cI cZ cJ) [.ref mo, .int a0] [(mo, .inr (11, mC th bu pe ep sz nx fr so wr wa as ak ab ar g))] (qI D (TT cI cZ cJ) (fun u : Unit => 0) (fun u : Unit => [(mo, .inr (11, mC 1 bu pe ep sz nx fr so wr wa as ak ab ar g))])) 3 0 0 := by
  refine enterM (by decide) (Nat.le_of_ble_eq_true rfl) ?_
  intro p e s m below meth c ls A C hP hD hS hl
  have hx := C.1
  have hb := C.2.1
  have hl : lv_has ls 3 [(0, .ref mo), (1, .int a0)] := hl
  refine lv_aload_n hx hb dX12_deleteVertex_0 rfl (lv_at hl 0 rfl) ?_
  refine lv_iload_n hx hb dX12_deleteVertex_1 rfl (lv_at hl 1 rfl) ?_
  refine call_i (wr := []) C (run_V (As := [.int a0]) (rest := []) C (m_noVertex l D cI cZ cJ mo bu pe ep sz nx fr so wr wa as ak ab ar g th a0 ) cV_X12_251 hP hD hS [0] rfl rfl 0 rfl rfl rfl rfl hl.1 rfl (Nat.le_of_ble_eq_true rfl) dX12_deleteVertex_2 ⟨Nat.le_of_ble_eq_true rfl, Nat.le_of_ble_eq_true rfl⟩ ⟨Nat.le_of_ble_eq_true rfl, Nat.le_of_ble_eq_true rfl⟩) hP hD hS [0] [] rfl rfl rfl (by decide) (fun u1 H locs hP hD hS => ?_)
  have hP : va_P D CL [(mo, .inr (11, mC 1 bu pe ep sz nx fr so wr wa as ak ab ar g))] H := hP
  have hD : va_D A [(mo, .inr (11, mC 1 bu pe ep sz nx fr so wr wa as ak ab ar g))] := hD
  refine W.widen (k := 0) (n := 0) (Nat.le_of_ble_eq_true rfl) (Nat.le_of_ble_eq_true rfl) ?_
  refine W.eq (g2 := F0 m 5 ls [.int 1]) rfl ?_
  refine lv_if_ne (tgt := 31) hx hb dX12_deleteVertex_5 (by decide) (fun _ => ?_) (fun h => absurd h (by decide))
  refine lv_iconst (v := 0) hx hb dX12_deleteVertex_31 (by decide) ?_
  exact r_iret C hP hD hS () rfl rfl (Nat.le_of_ble_eq_true rfl) (Nat.le_of_ble_eq_true rfl) dX12_deleteVertex_32
set_option maxHeartbeats 4000000 in
set_option maxRecDepth 100000 in
theorem m_save (l : Launch) (D : va_G) (cI cZ cJ : ClassId) (mo : Nat) (bu : Int32) (pe : Int32) (ep : Int32) (sz : Int32) (nx : Int32) (fr : Int32) (so : Int32) (wr : Int32) (wa : Int32) (as : Nat) (ak : Nat) (ab : Nat) (ar : Nat) (g : Nat → Value) (th : Int32) (a0 : Int32)  : cM l yX12_save cX12_save 2 (some .int) D (TT cI cZ cJ) [.ref mo, .int a0] [(mo, .inr (11, mC th bu pe ep sz nx fr so wr wa as ak ab ar g))] (qI D (TT cI cZ cJ) (fun u : Unit => 0) (fun u : Unit => [(mo, .inr (11, mC 1 bu pe ep sz nx fr so wr wa as ak ab ar g))])) 3 0 0 := by
  refine enterM (by decide) (Nat.le_of_ble_eq_true rfl) ?_
  intro p e s m below meth c ls A C hP hD hS hl
  have hx := C.1
  have hb := C.2.1
  have hl : lv_has ls 2 [(0, .ref mo), (1, .int a0)] := hl
  refine lv_aload_n hx hb dX12_save_0 rfl (lv_at hl 0 rfl) ?_
  refine call_i (wr := []) C (run_V (As := []) (rest := []) C (m_noPolygon l D cI cZ cJ mo bu pe ep sz nx fr so wr wa as ak ab ar g th ) cV_X12_247 hP hD hS [0] rfl rfl 0 rfl rfl rfl rfl hl.1 rfl (Nat.le_of_ble_eq_true rfl) dX12_save_1 ⟨Nat.le_of_ble_eq_true rfl, Nat.le_of_ble_eq_true rfl⟩ ⟨Nat.le_of_ble_eq_true rfl, Nat.le_of_ble_eq_true rfl⟩) hP hD hS [0] [] rfl rfl rfl (by decide) (fun u1 H locs hP hD hS => ?_)
  have hP : va_P D CL [(mo, .inr (11, mC 1 bu pe ep sz nx fr so wr wa as ak ab ar g))] H := hP
  have hD : va_D A [(mo, .inr (11, mC 1 bu pe ep sz nx fr so wr wa as ak ab ar g))] := hD
  refine W.widen (k := 0) (n := 0) (Nat.le_of_ble_eq_true rfl) (Nat.le_of_ble_eq_true rfl) ?_
  refine W.eq (g2 := F0 m 4 ls [.int 1]) rfl ?_
  refine lv_if_ne (tgt := 29) hx hb dX12_save_4 (by decide) (fun _ => ?_) (fun h => absurd h (by decide))
  refine lv_iconst (v := 0) hx hb dX12_save_29 (by decide) ?_
  exact r_iret C hP hD hS () rfl rfl (Nat.le_of_ble_eq_true rfl) (Nat.le_of_ble_eq_true rfl) dX12_save_30
set_option maxHeartbeats 4000000 in
set_option maxRecDepth 100000 in
theorem m_parseError (l : Launch) (D : va_G) (cI cZ cJ : ClassId) (mo : Nat) (bu : Int32) (pe : Int32) (ep : Int32) (sz : Int32) (nx : Int32) (fr : Int32) (so : Int32) (wr : Int32) (wa : Int32) (as : Nat) (ak : Nat) (ab : Nat) (ar : Nat) (g : Nat → Value) (th : Int32)  : cM l yX12_parseError cX12_parseError 1 (some .int) D (TT cI cZ cJ) [.ref mo] [(mo, .inr (11, mC th bu pe ep sz nx fr so wr wa as ak ab ar g))] (qI D (TT cI cZ cJ) (fun u : Unit => pe) (fun u : Unit => [(mo, .inr (11, mC 0 bu pe ep sz nx fr so wr wa as ak ab ar g))])) 0 0 0 := by
  refine enterM (by decide) (Nat.le_of_ble_eq_true rfl) ?_
  intro p e s m below meth c ls A C hP hD hS hl
  have hx := C.1
  have hb := C.2.1
  have hl : lv_has ls 1 [(0, .ref mo)] := hl
  refine lv_aload_n hx hb dX12_parseError_0 rfl (lv_at hl 0 rfl) ?_
  refine lv_iconst (v := 0) hx hb dX12_parseError_1 (by decide) ?_
  refine r_put C hP hD hS 0 rfl fg_X12_79 rfl rfl (Nat.le_of_ble_eq_true rfl) dX12_parseError_2 [(mo, .inr (11, mC 0 bu pe ep sz nx fr so wr wa as ak ab ar g))] rfl (fun H locs hP hD hS => ?_)
  refine lv_aload_n hx hb dX12_parseError_5 rfl (lv_at hl 0 rfl) ?_
  refine r_get (v := .int pe) C hP 0 rfl fg_X12_93 rfl dX12_parseError_6 ?_
  exact r_iret C hP hD hS () rfl rfl (Nat.le_of_ble_eq_true rfl) (Nat.le_of_ble_eq_true rfl) dX12_parseError_9
set_option maxHeartbeats 4000000 in
set_option maxRecDepth 100000 in
theorem m_errorPosition (l : Launch) (D : va_G) (cI cZ cJ : ClassId) (mo : Nat) (bu : Int32) (pe : Int32) (ep : Int32) (sz : Int32) (nx : Int32) (fr : Int32) (so : Int32) (wr : Int32) (wa : Int32) (as : Nat) (ak : Nat) (ab : Nat) (ar : Nat) (g : Nat → Value) (th : Int32)  : cM l yX12_errorPosition cX12_errorPosition 1 (some .int) D (TT cI cZ cJ) [.ref mo] [(mo, .inr (11, mC th bu pe ep sz nx fr so wr wa as ak ab ar g))] (qI D (TT cI cZ cJ) (fun u : Unit => ep) (fun u : Unit => [(mo, .inr (11, mC 0 bu pe ep sz nx fr so wr wa as ak ab ar g))])) 0 0 0 := by
  refine enterM (by decide) (Nat.le_of_ble_eq_true rfl) ?_
  intro p e s m below meth c ls A C hP hD hS hl
  have hx := C.1
  have hb := C.2.1
  have hl : lv_has ls 1 [(0, .ref mo)] := hl
  refine lv_aload_n hx hb dX12_errorPosition_0 rfl (lv_at hl 0 rfl) ?_
  refine lv_iconst (v := 0) hx hb dX12_errorPosition_1 (by decide) ?_
  refine r_put C hP hD hS 0 rfl fg_X12_79 rfl rfl (Nat.le_of_ble_eq_true rfl) dX12_errorPosition_2 [(mo, .inr (11, mC 0 bu pe ep sz nx fr so wr wa as ak ab ar g))] rfl (fun H locs hP hD hS => ?_)
  refine lv_aload_n hx hb dX12_errorPosition_5 rfl (lv_at hl 0 rfl) ?_
  refine r_get (v := .int ep) C hP 0 rfl fg_X12_23 rfl dX12_errorPosition_6 ?_
  exact r_iret C hP hD hS () rfl rfl (Nat.le_of_ble_eq_true rfl) (Nat.le_of_ble_eq_true rfl) dX12_errorPosition_9
set_option maxHeartbeats 4000000 in
set_option maxRecDepth 100000 in
theorem m_buffered (l : Launch) (D : va_G) (cI cZ cJ : ClassId) (mo : Nat) (bu : Int32) (pe : Int32) (ep : Int32) (sz : Int32) (nx : Int32) (fr : Int32) (so : Int32) (wr : Int32) (wa : Int32) (as : Nat) (ak : Nat) (ab : Nat) (ar : Nat) (g : Nat → Value) (th : Int32)  : cM l yX12_buffered cX12_buffered 1 (some .int) D (TT cI cZ cJ) [.ref mo] [(mo, .inr (11, mC th bu pe ep sz nx fr so wr wa as ak ab ar g))] (qI D (TT cI cZ cJ) (fun u : Unit => bu) (fun u : Unit => [(mo, .inr (11, mC 0 bu pe ep sz nx fr so wr wa as ak ab ar g))])) 0 0 0 := by
  refine enterM (by decide) (Nat.le_of_ble_eq_true rfl) ?_
  intro p e s m below meth c ls A C hP hD hS hl
  have hx := C.1
  have hb := C.2.1
  have hl : lv_has ls 1 [(0, .ref mo)] := hl
  refine lv_aload_n hx hb dX12_buffered_0 rfl (lv_at hl 0 rfl) ?_
  refine lv_iconst (v := 0) hx hb dX12_buffered_1 (by decide) ?_
  refine r_put C hP hD hS 0 rfl fg_X12_79 rfl rfl (Nat.le_of_ble_eq_true rfl) dX12_buffered_2 [(mo, .inr (11, mC 0 bu pe ep sz nx fr so wr wa as ak ab ar g))] rfl (fun H locs hP hD hS => ?_)
  refine lv_aload_n hx hb dX12_buffered_5 rfl (lv_at hl 0 rfl) ?_
  refine r_get (v := .int bu) C hP 0 rfl fg_X12_90 rfl dX12_buffered_6 ?_
  exact r_iret C hP hD hS () rfl rfl (Nat.le_of_ble_eq_true rfl) (Nat.le_of_ble_eq_true rfl) dX12_buffered_9
set_option maxHeartbeats 4000000 in
set_option maxRecDepth 100000 in
theorem m_thrown (l : Launch) (D : va_G) (cI cZ cJ : ClassId) (mo : Nat) (bu : Int32) (pe : Int32) (ep : Int32) (sz : Int32) (nx : Int32) (fr : Int32) (so : Int32) (wr : Int32) (wa : Int32) (as : Nat) (ak : Nat) (ab : Nat) (ar : Nat) (g : Nat → Value) (th : Int32)  : cM l yX12_thrown cX12_thrown 1 (some .int) D (TT cI cZ cJ) [.ref mo] [(mo, .inr (11, mC th bu pe ep sz nx fr so wr wa as ak ab ar g))] (qI D (TT cI cZ cJ) (fun u : Unit => th) (fun u : Unit => [(mo, .inr (11, mC th bu pe ep sz nx fr so wr wa as ak ab ar g))])) 0 0 0 := by
  refine enterM (by decide) (Nat.le_of_ble_eq_true rfl) ?_
  intro p e s m below meth c ls A C hP hD hS hl
  have hx := C.1
  have hb := C.2.1
  have hl : lv_has ls 1 [(0, .ref mo)] := hl
  refine lv_aload_n hx hb dX12_thrown_0 rfl (lv_at hl 0 rfl) ?_
  refine r_get (v := .int th) C hP 0 rfl fg_X12_79 rfl dX12_thrown_1 ?_
  exact r_iret C hP hD hS () rfl rfl (Nat.le_of_ble_eq_true rfl) (Nat.le_of_ble_eq_true rfl) dX12_thrown_4
set_option maxHeartbeats 4000000 in
set_option maxRecDepth 100000 in
theorem m_points (l : Launch) (D : va_G) (cI cZ cJ : ClassId) (mo : Nat) (bu : Int32) (pe : Int32) (ep : Int32) (sz : Int32) (nx : Int32) (fr : Int32) (so : Int32) (wr : Int32) (wa : Int32) (as : Nat) (ak : Nat) (ab : Nat) (ar : Nat) (g : Nat → Value) (th : Int32)  : cM l yX12_points cX12_points 1 (some .int) D (TT cI cZ cJ) [.ref mo] [(mo, .inr (11, mC th bu pe ep sz nx fr so wr wa as ak ab ar g))] (qI D (TT cI cZ cJ) (fun u : Unit => 0) (fun u : Unit => [(mo, .inr (11, mC 0 bu pe ep sz nx fr so wr wa as ak ab ar g))])) 1 0 0 := by
  refine enterM (by decide) (Nat.le_of_ble_eq_true rfl) ?_
  intro p e s m below meth c ls A C hP hD hS hl
  have hx := C.1
  have hb := C.2.1
  have hl : lv_has ls 1 [(0, .ref mo)] := hl
  refine lv_aload_n hx hb dX12_points_0 rfl (lv_at hl 0 rfl) ?_
  refine lv_aload_n hx hb dX12_points_1 rfl (lv_at hl 0 rfl) ?_
  refine r_get (v := .int 0) C hP 0 rfl fg_X12_201 rfl dX12_points_2 ?_
  refine call_i (wr := []) C (run_V (As := [.int 0]) (rest := []) C (m_told l D cI cZ cJ mo bu pe ep sz nx fr so wr wa as ak ab ar g th 0 ) cV_X12_244 hP hD hS [0] rfl rfl 0 rfl rfl rfl rfl hl.1 rfl (Nat.le_of_ble_eq_true rfl) dX12_points_5 ⟨Nat.le_of_ble_eq_true rfl, Nat.le_of_ble_eq_true rfl⟩ ⟨Nat.le_of_ble_eq_true rfl, Nat.le_of_ble_eq_true rfl⟩) hP hD hS [0] [] rfl rfl rfl (by decide) (fun u1 H locs hP hD hS => ?_)
  have hP : va_P D CL [(mo, .inr (11, mC 0 bu pe ep sz nx fr so wr wa as ak ab ar g))] H := hP
  have hD : va_D A [(mo, .inr (11, mC 0 bu pe ep sz nx fr so wr wa as ak ab ar g))] := hD
  refine W.widen (k := 0) (n := 0) (Nat.le_of_ble_eq_true rfl) (Nat.le_of_ble_eq_true rfl) ?_
  refine W.eq (g2 := F0 m 8 ls [.int 0]) rfl ?_
  exact r_iret C hP hD hS () rfl rfl (Nat.le_of_ble_eq_true rfl) (Nat.le_of_ble_eq_true rfl) dX12_points_8
set_option maxHeartbeats 4000000 in
set_option maxRecDepth 100000 in
theorem m_undoable (l : Launch) (D : va_G) (cI cZ cJ : ClassId) (mo : Nat) (bu : Int32) (pe : Int32) (ep : Int32) (sz : Int32) (nx : Int32) (fr : Int32) (so : Int32) (wr : Int32) (wa : Int32) (as : Nat) (ak : Nat) (ab : Nat) (ar : Nat) (g : Nat → Value) (th : Int32)  : cM l yX12_undoable cX12_undoable 1 (some .int) D (TT cI cZ cJ) [.ref mo] [(mo, .inr (11, mC th bu pe ep sz nx fr so wr wa as ak ab ar g))] (qI D (TT cI cZ cJ) (fun u : Unit => 0) (fun u : Unit => [(mo, .inr (11, mC 0 bu pe ep sz nx fr so wr wa as ak ab ar g))])) 1 0 0 := by
  refine enterM (by decide) (Nat.le_of_ble_eq_true rfl) ?_
  intro p e s m below meth c ls A C hP hD hS hl
  have hx := C.1
  have hb := C.2.1
  have hl : lv_has ls 1 [(0, .ref mo)] := hl
  refine lv_aload_n hx hb dX12_undoable_0 rfl (lv_at hl 0 rfl) ?_
  refine lv_aload_n hx hb dX12_undoable_1 rfl (lv_at hl 0 rfl) ?_
  refine r_get (v := .int 0) C hP 0 rfl fg_X12_192 rfl dX12_undoable_2 ?_
  refine call_i (wr := []) C (run_V (As := [.int 0]) (rest := []) C (m_told l D cI cZ cJ mo bu pe ep sz nx fr so wr wa as ak ab ar g th 0 ) cV_X12_244 hP hD hS [0] rfl rfl 0 rfl rfl rfl rfl hl.1 rfl (Nat.le_of_ble_eq_true rfl) dX12_undoable_5 ⟨Nat.le_of_ble_eq_true rfl, Nat.le_of_ble_eq_true rfl⟩ ⟨Nat.le_of_ble_eq_true rfl, Nat.le_of_ble_eq_true rfl⟩) hP hD hS [0] [] rfl rfl rfl (by decide) (fun u1 H locs hP hD hS => ?_)
  have hP : va_P D CL [(mo, .inr (11, mC 0 bu pe ep sz nx fr so wr wa as ak ab ar g))] H := hP
  have hD : va_D A [(mo, .inr (11, mC 0 bu pe ep sz nx fr so wr wa as ak ab ar g))] := hD
  refine W.widen (k := 0) (n := 0) (Nat.le_of_ble_eq_true rfl) (Nat.le_of_ble_eq_true rfl) ?_
  refine W.eq (g2 := F0 m 8 ls [.int 0]) rfl ?_
  exact r_iret C hP hD hS () rfl rfl (Nat.le_of_ble_eq_true rfl) (Nat.le_of_ble_eq_true rfl) dX12_undoable_8
set_option maxHeartbeats 4000000 in
set_option maxRecDepth 100000 in
theorem m_vertices (l : Launch) (D : va_G) (cI cZ cJ : ClassId) (mo : Nat) (bu : Int32) (pe : Int32) (ep : Int32) (sz : Int32) (nx : Int32) (fr : Int32) (so : Int32) (wr : Int32) (wa : Int32) (as : Nat) (ak : Nat) (ab : Nat) (ar : Nat) (g : Nat → Value) (th : Int32) (fs : Nat → Int32)  : cM l yX12_vertices cX12_vertices 1 (some .int) D (TT cI cZ cJ) [.ref mo] [(mo, .inr (11, mC th bu pe ep sz nx fr so wr wa as ak ab ar g)), (as, .inl (cI, 63, .inl fs))] (qI D (TT cI cZ cJ) (fun u : Unit => 0) (fun u : Unit => [(as, .inl (cI, 63, .inl fs)), (mo, .inr (11, mC 0 bu pe ep sz nx fr so wr wa as ak ab ar g))])) 1 0 0 := by
  refine enterM (by decide) (Nat.le_of_ble_eq_true rfl) ?_
  intro p e s m below meth c ls A C hP hD hS hl
  have hx := C.1
  have hb := C.2.1
  have hl : lv_has ls 1 [(0, .ref mo)] := hl
  refine lv_aload_n hx hb dX12_vertices_0 rfl (lv_at hl 0 rfl) ?_
  refine lv_aload_n hx hb dX12_vertices_1 rfl (lv_at hl 0 rfl) ?_
  refine r_get (v := .ref as) C hP 0 rfl fg_X12_7 rfl dX12_vertices_2 ?_
  refine lv_iconst (v := 0) hx hb dX12_vertices_5 (by decide) ?_
  refine va_iald hx hb C.2.2.2.2.2.1 hP 1 0 rfl rfl (by unfold vp_in; decide) dX12_vertices_6 ?_
  refine lv_topi (fun x1 ex1 => ?_)
  refine call_i (wr := [(as, .inl (cI, 63, .inl fs))]) C (run_V (As := [.int x1]) (rest := []) C (m_told l D cI cZ cJ mo bu pe ep sz nx fr so wr wa as ak ab ar g th x1 ) cV_X12_244 hP hD hS [0] rfl rfl 0 rfl rfl rfl rfl hl.1 rfl (Nat.le_of_ble_eq_true rfl) dX12_vertices_7 ⟨Nat.le_of_ble_eq_true rfl, Nat.le_of_ble_eq_true rfl⟩ ⟨Nat.le_of_ble_eq_true rfl, Nat.le_of_ble_eq_true rfl⟩) hP hD hS [0] [1] rfl rfl rfl (by decide) (fun u2 H locs hP hD hS => ?_)
  have hP : va_P D CL [(as, .inl (cI, 63, .inl fs)), (mo, .inr (11, mC 0 bu pe ep sz nx fr so wr wa as ak ab ar g))] H := hP
  have hD : va_D A [(as, .inl (cI, 63, .inl fs)), (mo, .inr (11, mC 0 bu pe ep sz nx fr so wr wa as ak ab ar g))] := hD
  refine W.widen (k := 0) (n := 0) (Nat.le_of_ble_eq_true rfl) (Nat.le_of_ble_eq_true rfl) ?_
  refine W.eq (g2 := F0 m 10 ls [.int 0]) rfl ?_
  exact r_iret C hP hD hS () rfl rfl (Nat.le_of_ble_eq_true rfl) (Nat.le_of_ble_eq_true rfl) dX12_vertices_10
set_option maxHeartbeats 4000000 in
set_option maxRecDepth 100000 in
theorem m_guards (l : Launch) (D : va_G) (cI cZ cJ : ClassId) (mo : Nat) (bu : Int32) (pe : Int32) (ep : Int32) (sz : Int32) (nx : Int32) (fr : Int32) (so : Int32) (wr : Int32) (wa : Int32) (as : Nat) (ak : Nat) (ab : Nat) (ar : Nat) (g : Nat → Value) (th : Int32) (fs : Nat → Int32)  : cM l yX12_guards cX12_guards 1 (some .int) D (TT cI cZ cJ) [.ref mo] [(mo, .inr (11, mC th bu pe ep sz nx fr so wr wa as ak ab ar g)), (as, .inl (cI, 63, .inl fs))] (qI D (TT cI cZ cJ) (fun u : Unit => 0) (fun u : Unit => [(as, .inl (cI, 63, .inl fs)), (mo, .inr (11, mC 0 bu pe ep sz nx fr so wr wa as ak ab ar g))])) 1 0 0 := by
  refine enterM (by decide) (Nat.le_of_ble_eq_true rfl) ?_
  intro p e s m below meth c ls A C hP hD hS hl
  have hx := C.1
  have hb := C.2.1
  have hl : lv_has ls 1 [(0, .ref mo)] := hl
  refine lv_aload_n hx hb dX12_guards_0 rfl (lv_at hl 0 rfl) ?_
  refine lv_aload_n hx hb dX12_guards_1 rfl (lv_at hl 0 rfl) ?_
  refine r_get (v := .ref as) C hP 0 rfl fg_X12_7 rfl dX12_guards_2 ?_
  refine lv_iconst (v := 1) hx hb dX12_guards_5 (by decide) ?_
  refine va_iald hx hb C.2.2.2.2.2.1 hP 1 0 rfl rfl (by unfold vp_in; decide) dX12_guards_6 ?_
  refine lv_topi (fun x1 ex1 => ?_)
  refine call_i (wr := [(as, .inl (cI, 63, .inl fs))]) C (run_V (As := [.int x1]) (rest := []) C (m_told l D cI cZ cJ mo bu pe ep sz nx fr so wr wa as ak ab ar g th x1 ) cV_X12_244 hP hD hS [0] rfl rfl 0 rfl rfl rfl rfl hl.1 rfl (Nat.le_of_ble_eq_true rfl) dX12_guards_7 ⟨Nat.le_of_ble_eq_true rfl, Nat.le_of_ble_eq_true rfl⟩ ⟨Nat.le_of_ble_eq_true rfl, Nat.le_of_ble_eq_true rfl⟩) hP hD hS [0] [1] rfl rfl rfl (by decide) (fun u2 H locs hP hD hS => ?_)
  have hP : va_P D CL [(as, .inl (cI, 63, .inl fs)), (mo, .inr (11, mC 0 bu pe ep sz nx fr so wr wa as ak ab ar g))] H := hP
  have hD : va_D A [(as, .inl (cI, 63, .inl fs)), (mo, .inr (11, mC 0 bu pe ep sz nx fr so wr wa as ak ab ar g))] := hD
  refine W.widen (k := 0) (n := 0) (Nat.le_of_ble_eq_true rfl) (Nat.le_of_ble_eq_true rfl) ?_
  refine W.eq (g2 := F0 m 10 ls [.int 0]) rfl ?_
  exact r_iret C hP hD hS () rfl rfl (Nat.le_of_ble_eq_true rfl) (Nat.le_of_ble_eq_true rfl) dX12_guards_10
set_option maxHeartbeats 4000000 in
set_option maxRecDepth 100000 in
theorem m_treasures (l : Launch) (D : va_G) (cI cZ cJ : ClassId) (mo : Nat) (bu : Int32) (pe : Int32) (ep : Int32) (sz : Int32) (nx : Int32) (fr : Int32) (so : Int32) (wr : Int32) (wa : Int32) (as : Nat) (ak : Nat) (ab : Nat) (ar : Nat) (g : Nat → Value) (th : Int32) (fs : Nat → Int32)  : cM l yX12_treasures cX12_treasures 1 (some .int) D (TT cI cZ cJ) [.ref mo] [(mo, .inr (11, mC th bu pe ep sz nx fr so wr wa as ak ab ar g)), (as, .inl (cI, 63, .inl fs))] (qI D (TT cI cZ cJ) (fun u : Unit => 0) (fun u : Unit => [(as, .inl (cI, 63, .inl fs)), (mo, .inr (11, mC 0 bu pe ep sz nx fr so wr wa as ak ab ar g))])) 1 0 0 := by
  refine enterM (by decide) (Nat.le_of_ble_eq_true rfl) ?_
  intro p e s m below meth c ls A C hP hD hS hl
  have hx := C.1
  have hb := C.2.1
  have hl : lv_has ls 1 [(0, .ref mo)] := hl
  refine lv_aload_n hx hb dX12_treasures_0 rfl (lv_at hl 0 rfl) ?_
  refine lv_aload_n hx hb dX12_treasures_1 rfl (lv_at hl 0 rfl) ?_
  refine r_get (v := .ref as) C hP 0 rfl fg_X12_7 rfl dX12_treasures_2 ?_
  refine lv_iconst (v := 2) hx hb dX12_treasures_5 (by decide) ?_
  refine va_iald hx hb C.2.2.2.2.2.1 hP 1 0 rfl rfl (by unfold vp_in; decide) dX12_treasures_6 ?_
  refine lv_topi (fun x1 ex1 => ?_)
  refine call_i (wr := [(as, .inl (cI, 63, .inl fs))]) C (run_V (As := [.int x1]) (rest := []) C (m_told l D cI cZ cJ mo bu pe ep sz nx fr so wr wa as ak ab ar g th x1 ) cV_X12_244 hP hD hS [0] rfl rfl 0 rfl rfl rfl rfl hl.1 rfl (Nat.le_of_ble_eq_true rfl) dX12_treasures_7 ⟨Nat.le_of_ble_eq_true rfl, Nat.le_of_ble_eq_true rfl⟩ ⟨Nat.le_of_ble_eq_true rfl, Nat.le_of_ble_eq_true rfl⟩) hP hD hS [0] [1] rfl rfl rfl (by decide) (fun u2 H locs hP hD hS => ?_)
  have hP : va_P D CL [(as, .inl (cI, 63, .inl fs)), (mo, .inr (11, mC 0 bu pe ep sz nx fr so wr wa as ak ab ar g))] H := hP
  have hD : va_D A [(as, .inl (cI, 63, .inl fs)), (mo, .inr (11, mC 0 bu pe ep sz nx fr so wr wa as ak ab ar g))] := hD
  refine W.widen (k := 0) (n := 0) (Nat.le_of_ble_eq_true rfl) (Nat.le_of_ble_eq_true rfl) ?_
  refine W.eq (g2 := F0 m 10 ls [.int 0]) rfl ?_
  exact r_iret C hP hD hS () rfl rfl (Nat.le_of_ble_eq_true rfl) (Nat.le_of_ble_eq_true rfl) dX12_treasures_10
set_option maxHeartbeats 4000000 in
set_option maxRecDepth 100000 in
theorem m_drawnByte (l : Launch) (D : va_G) (cI cZ cJ : ClassId) (mo : Nat) (bu : Int32) (pe : Int32) (ep : Int32) (sz : Int32) (nx : Int32) (fr : Int32) (so : Int32) (wr : Int32) (wa : Int32) (as : Nat) (ak : Nat) (ab : Nat) (ar : Nat) (g : Nat → Value) (th : Int32) (a0 : Int32)  : cM l yX12_drawnByte cX12_drawnByte 2 (some .int) D (TT cI cZ cJ) [.ref mo, .int a0] [(mo, .inr (11, mC th bu pe ep sz nx fr so wr wa as ak ab ar g))] (qI D (TT cI cZ cJ) (fun u : Unit => 0) (fun u : Unit => [(mo, .inr (11, mC 1 bu pe ep sz nx fr so wr wa as ak ab ar g))])) 1 0 0 := by
  refine enterM (by decide) (Nat.le_of_ble_eq_true rfl) ?_
  intro p e s m below meth c ls A C hP hD hS hl
  have hx := C.1
  have hb := C.2.1
  have hl : lv_has ls 2 [(0, .ref mo), (1, .int a0)] := hl
  refine lv_aload_n hx hb dX12_drawnByte_0 rfl (lv_at hl 0 rfl) ?_
  refine lv_iconst (v := 0) hx hb dX12_drawnByte_1 (by decide) ?_
  refine r_put C hP hD hS 0 rfl fg_X12_79 rfl rfl (Nat.le_of_ble_eq_true rfl) dX12_drawnByte_2 [(mo, .inr (11, mC 0 bu pe ep sz nx fr so wr wa as ak ab ar g))] rfl (fun H locs hP hD hS => ?_)
  refine lv_aload_n hx hb dX12_drawnByte_5 rfl (lv_at hl 0 rfl) ?_
  refine lv_aload_n hx hb dX12_drawnByte_6 rfl (lv_at hl 0 rfl) ?_
  refine r_get (v := .int 0) C hP 0 rfl fg_X12_370 rfl dX12_drawnByte_7 ?_
  refine lv_if_eq (tgt := 23) hx hb dX12_drawnByte_10 (by decide) (fun _ => ?_) (fun h => absurd (by decide) h)
  refine lv_iconst (v := 1) hx hb dX12_drawnByte_23 (by decide) ?_
  refine lv_goto (tgt := 28) hx hb dX12_drawnByte_24 (by decide) ?_
  refine lv_iconst (v := 1) hx hb dX12_drawnByte_28 (by decide) ?_
  refine call_i (wr := []) C (run_V (As := [.int 1, .int 1]) (rest := []) C (m_refuse_y l D cI cZ cJ mo bu pe ep sz nx fr so wr wa as ak ab ar g 1 (by decide)) cV_X12_86 hP hD hS [0] rfl rfl 0 rfl rfl rfl rfl hl.1 rfl (Nat.le_of_ble_eq_true rfl) dX12_drawnByte_29 ⟨Nat.le_of_ble_eq_true rfl, Nat.le_of_ble_eq_true rfl⟩ ⟨Nat.le_of_ble_eq_true rfl, Nat.le_of_ble_eq_true rfl⟩) hP hD hS [0] [] rfl rfl rfl (by decide) (fun u1 H locs hP hD hS => ?_)
  have hP : va_P D CL [(mo, .inr (11, mC 1 bu pe ep sz nx fr so wr wa as ak ab ar g))] H := hP
  have hD : va_D A [(mo, .inr (11, mC 1 bu pe ep sz nx fr so wr wa as ak ab ar g))] := hD
  refine W.widen (k := 0) (n := 0) (Nat.le_of_ble_eq_true rfl) (Nat.le_of_ble_eq_true rfl) ?_
  refine W.eq (g2 := F0 m 32 ls [.int 1]) rfl ?_
  refine lv_if_eq (tgt := 39) hx hb dX12_drawnByte_32 (by decide) (fun h => absurd h (by decide)) (fun _ => ?_)
  refine lv_iconst (v := 0) hx hb dX12_drawnByte_35 (by decide) ?_
  refine lv_goto (tgt := 45) hx hb dX12_drawnByte_36 (by decide) ?_
  exact r_iret C hP hD hS () rfl rfl (Nat.le_of_ble_eq_true rfl) (Nat.le_of_ble_eq_true rfl) dX12_drawnByte_45
set_option maxHeartbeats 4000000 in
set_option maxRecDepth 100000 in
theorem m_undo (l : Launch) (D : va_G) (cI cZ cJ : ClassId) (mo : Nat) (bu : Int32) (pe : Int32) (ep : Int32) (sz : Int32) (nx : Int32) (fr : Int32) (so : Int32) (wr : Int32) (wa : Int32) (as : Nat) (ak : Nat) (ab : Nat) (ar : Nat) (g : Nat → Value) (th : Int32)  : cM l yX12_undo cX12_undo 1 (some .int) D (TT cI cZ cJ) [.ref mo] [(mo, .inr (11, mC th bu pe ep sz nx fr so wr wa as ak ab ar g))] (qI D (TT cI cZ cJ) (fun u : Unit => 0) (fun u : Unit => [(mo, .inr (11, mC 1 bu pe ep sz nx fr so wr wa as ak ab ar g))])) 1 0 0 := by
  refine enterM (by decide) (Nat.le_of_ble_eq_true rfl) ?_
  intro p e s m below meth c ls A C hP hD hS hl
  have hx := C.1
  have hb := C.2.1
  have hl : lv_has ls 1 [(0, .ref mo)] := hl
  refine lv_aload_n hx hb dX12_undo_0 rfl (lv_at hl 0 rfl) ?_
  refine lv_iconst (v := 0) hx hb dX12_undo_1 (by decide) ?_
  refine r_put C hP hD hS 0 rfl fg_X12_79 rfl rfl (Nat.le_of_ble_eq_true rfl) dX12_undo_2 [(mo, .inr (11, mC 0 bu pe ep sz nx fr so wr wa as ak ab ar g))] rfl (fun H locs hP hD hS => ?_)
  refine lv_aload_n hx hb dX12_undo_5 rfl (lv_at hl 0 rfl) ?_
  refine lv_aload_n hx hb dX12_undo_6 rfl (lv_at hl 0 rfl) ?_
  refine r_get (v := .int 0) C hP 0 rfl fg_X12_192 rfl dX12_undo_7 ?_
  refine lv_if_ne (tgt := 17) hx hb dX12_undo_10 (by decide) (fun h => absurd h (by decide)) (fun _ => ?_)
  refine lv_iconst (v := 1) hx hb dX12_undo_13 (by decide) ?_
  refine lv_goto (tgt := 18) hx hb dX12_undo_14 (by decide) ?_
  refine lv_iconst (v := 1) hx hb dX12_undo_18 (by decide) ?_
  refine call_i (wr := []) C (run_V (As := [.int 1, .int 1]) (rest := []) C (m_refuse_y l D cI cZ cJ mo bu pe ep sz nx fr so wr wa as ak ab ar g 1 (by decide)) cV_X12_86 hP hD hS [0] rfl rfl 0 rfl rfl rfl rfl hl.1 rfl (Nat.le_of_ble_eq_true rfl) dX12_undo_19 ⟨Nat.le_of_ble_eq_true rfl, Nat.le_of_ble_eq_true rfl⟩ ⟨Nat.le_of_ble_eq_true rfl, Nat.le_of_ble_eq_true rfl⟩) hP hD hS [0] [] rfl rfl rfl (by decide) (fun u1 H locs hP hD hS => ?_)
  have hP : va_P D CL [(mo, .inr (11, mC 1 bu pe ep sz nx fr so wr wa as ak ab ar g))] H := hP
  have hD : va_D A [(mo, .inr (11, mC 1 bu pe ep sz nx fr so wr wa as ak ab ar g))] := hD
  refine W.widen (k := 0) (n := 0) (Nat.le_of_ble_eq_true rfl) (Nat.le_of_ble_eq_true rfl) ?_
  refine W.eq (g2 := F0 m 22 ls [.int 1]) rfl ?_
  refine lv_if_eq (tgt := 27) hx hb dX12_undo_22 (by decide) (fun h => absurd h (by decide)) (fun _ => ?_)
  refine lv_iconst (v := 0) hx hb dX12_undo_25 (by decide) ?_
  exact r_iret C hP hD hS () rfl rfl (Nat.le_of_ble_eq_true rfl) (Nat.le_of_ble_eq_true rfl) dX12_undo_26
set_option maxHeartbeats 4000000 in
set_option maxRecDepth 100000 in
theorem m_restore_l (l : Launch) (D : va_G) (cI cZ cJ : ClassId) (mo : Nat) (bu : Int32) (pe : Int32) (ep : Int32) (sz : Int32) (nx : Int32) (fr : Int32) (so : Int32) (wr : Int32) (wa : Int32) (as : Nat) (ak : Nat) (ab : Nat) (ar : Nat) (g : Nat → Value) (th : Int32) (a0 : Int32) (h1 : a0 < 0) : cM l yX12_restore cX12_restore 2 (some .int) D (TT cI cZ cJ) [.ref mo, .int a0] [(mo, .inr (11, mC th bu pe ep sz nx fr so wr wa as ak ab ar g))] (qI D (TT cI cZ cJ) (fun u : Unit => 0) (fun u : Unit => [(mo, .inr (11, mC 1 bu pe ep sz nx fr so wr wa as ak ab ar g))])) 1 0 0 := by
  refine enterM (by decide) (Nat.le_of_ble_eq_true rfl) ?_
  intro p e s m below meth c ls A C hP hD hS hl
  have hx := C.1
  have hb := C.2.1
  have hl : lv_has ls 2 [(0, .ref mo), (1, .int a0)] := hl
  refine lv_aload_n hx hb dX12_restore_0 rfl (lv_at hl 0 rfl) ?_
  refine lv_iconst (v := 0) hx hb dX12_restore_1 (by decide) ?_
  refine r_put C hP hD hS 0 rfl fg_X12_79 rfl rfl (Nat.le_of_ble_eq_true rfl) dX12_restore_2 [(mo, .inr (11, mC 0 bu pe ep sz nx fr so wr wa as ak ab ar g))] rfl (fun H locs hP hD hS => ?_)
  refine lv_aload_n hx hb dX12_restore_5 rfl (lv_at hl 0 rfl) ?_
  refine lv_iload_n hx hb dX12_restore_6 rfl (lv_at hl 1 rfl) ?_
  refine lv_iconst (v := 0) hx hb dX12_restore_7 (by decide) ?_
  refine lv_iconst (v := 1) hx hb dX12_restore_8 (by decide) ?_
  refine call_i (wr := [(mo, .inr (11, mC 0 bu pe ep sz nx fr so wr wa as ak ab ar g))]) C (run_S (As := [.int a0, .int 0, .int 1]) (rest := [.ref mo]) C (m_in_l l D cI cZ cJ a0 0 1 h1) cS_X12_148 hP hD hS [] rfl rfl rfl hl.1 rfl (Nat.le_of_ble_eq_true rfl) dX12_restore_9 ⟨Nat.le_of_ble_eq_true rfl, Nat.le_of_ble_eq_true rfl⟩ ⟨Nat.le_of_ble_eq_true rfl, Nat.le_of_ble_eq_true rfl⟩) hP hD hS [] [0] rfl rfl rfl (by decide) (fun u1 H locs hP hD hS => ?_)
  have hP : va_P D CL [(mo, .inr (11, mC 0 bu pe ep sz nx fr so wr wa as ak ab ar g))] H := hP
  have hD : va_D A [(mo, .inr (11, mC 0 bu pe ep sz nx fr so wr wa as ak ab ar g))] := hD
  refine W.widen (k := 0) (n := 0) (Nat.le_of_ble_eq_true rfl) (Nat.le_of_ble_eq_true rfl) ?_
  refine W.eq (g2 := F0 m 12 ls [.int 0, .ref mo]) rfl ?_
  refine lv_if_ne (tgt := 19) hx hb dX12_restore_12 (by decide) (fun h => absurd h (by decide)) (fun _ => ?_)
  refine lv_iconst (v := 1) hx hb dX12_restore_15 (by decide) ?_
  refine lv_goto (tgt := 20) hx hb dX12_restore_16 (by decide) ?_
  refine lv_iconst (v := 1) hx hb dX12_restore_20 (by decide) ?_
  refine call_i (wr := []) C (run_V (As := [.int 1, .int 1]) (rest := []) C (m_refuse_y l D cI cZ cJ mo bu pe ep sz nx fr so wr wa as ak ab ar g 1 (by decide)) cV_X12_86 hP hD hS [0] rfl rfl 0 rfl rfl rfl rfl hl.1 rfl (Nat.le_of_ble_eq_true rfl) dX12_restore_21 ⟨Nat.le_of_ble_eq_true rfl, Nat.le_of_ble_eq_true rfl⟩ ⟨Nat.le_of_ble_eq_true rfl, Nat.le_of_ble_eq_true rfl⟩) hP hD hS [0] [] rfl rfl rfl (by decide) (fun u2 H locs hP hD hS => ?_)
  have hP : va_P D CL [(mo, .inr (11, mC 1 bu pe ep sz nx fr so wr wa as ak ab ar g))] H := hP
  have hD : va_D A [(mo, .inr (11, mC 1 bu pe ep sz nx fr so wr wa as ak ab ar g))] := hD
  refine W.widen (k := 0) (n := 0) (Nat.le_of_ble_eq_true rfl) (Nat.le_of_ble_eq_true rfl) ?_
  refine W.eq (g2 := F0 m 24 ls [.int 1]) rfl ?_
  refine lv_if_ne (tgt := 49) hx hb dX12_restore_24 (by decide) (fun _ => ?_) (fun h => absurd h (by decide))
  refine lv_iconst (v := 0) hx hb dX12_restore_49 (by decide) ?_
  exact r_iret C hP hD hS () rfl rfl (Nat.le_of_ble_eq_true rfl) (Nat.le_of_ble_eq_true rfl) dX12_restore_50
set_option maxHeartbeats 4000000 in
set_option maxRecDepth 100000 in
theorem m_restore_g (l : Launch) (D : va_G) (cI cZ cJ : ClassId) (mo : Nat) (bu : Int32) (pe : Int32) (ep : Int32) (sz : Int32) (nx : Int32) (fr : Int32) (so : Int32) (wr : Int32) (wa : Int32) (as : Nat) (ak : Nat) (ab : Nat) (ar : Nat) (g : Nat → Value) (th : Int32) (a0 : Int32) (h1 : ¬ a0 < 0) (h2 : 1 < a0) : cM l yX12_restore cX12_restore 2 (some .int) D (TT cI cZ cJ) [.ref mo, .int a0] [(mo, .inr (11, mC th bu pe ep sz nx fr so wr wa as ak ab ar g))] (qI D (TT cI cZ cJ) (fun u : Unit => 0) (fun u : Unit => [(mo, .inr (11, mC 1 bu pe ep sz nx fr so wr wa as ak ab ar g))])) 1 0 0 := by
  refine enterM (by decide) (Nat.le_of_ble_eq_true rfl) ?_
  intro p e s m below meth c ls A C hP hD hS hl
  have hx := C.1
  have hb := C.2.1
  have hl : lv_has ls 2 [(0, .ref mo), (1, .int a0)] := hl
  refine lv_aload_n hx hb dX12_restore_0 rfl (lv_at hl 0 rfl) ?_
  refine lv_iconst (v := 0) hx hb dX12_restore_1 (by decide) ?_
  refine r_put C hP hD hS 0 rfl fg_X12_79 rfl rfl (Nat.le_of_ble_eq_true rfl) dX12_restore_2 [(mo, .inr (11, mC 0 bu pe ep sz nx fr so wr wa as ak ab ar g))] rfl (fun H locs hP hD hS => ?_)
  refine lv_aload_n hx hb dX12_restore_5 rfl (lv_at hl 0 rfl) ?_
  refine lv_iload_n hx hb dX12_restore_6 rfl (lv_at hl 1 rfl) ?_
  refine lv_iconst (v := 0) hx hb dX12_restore_7 (by decide) ?_
  refine lv_iconst (v := 1) hx hb dX12_restore_8 (by decide) ?_
  refine call_i (wr := [(mo, .inr (11, mC 0 bu pe ep sz nx fr so wr wa as ak ab ar g))]) C (run_S (As := [.int a0, .int 0, .int 1]) (rest := [.ref mo]) C (m_in_g l D cI cZ cJ a0 0 1 h1 h2) cS_X12_148 hP hD hS [] rfl rfl rfl hl.1 rfl (Nat.le_of_ble_eq_true rfl) dX12_restore_9 ⟨Nat.le_of_ble_eq_true rfl, Nat.le_of_ble_eq_true rfl⟩ ⟨Nat.le_of_ble_eq_true rfl, Nat.le_of_ble_eq_true rfl⟩) hP hD hS [] [0] rfl rfl rfl (by decide) (fun u1 H locs hP hD hS => ?_)
  have hP : va_P D CL [(mo, .inr (11, mC 0 bu pe ep sz nx fr so wr wa as ak ab ar g))] H := hP
  have hD : va_D A [(mo, .inr (11, mC 0 bu pe ep sz nx fr so wr wa as ak ab ar g))] := hD
  refine W.widen (k := 0) (n := 0) (Nat.le_of_ble_eq_true rfl) (Nat.le_of_ble_eq_true rfl) ?_
  refine W.eq (g2 := F0 m 12 ls [.int 0, .ref mo]) rfl ?_
  refine lv_if_ne (tgt := 19) hx hb dX12_restore_12 (by decide) (fun h => absurd h (by decide)) (fun _ => ?_)
  refine lv_iconst (v := 1) hx hb dX12_restore_15 (by decide) ?_
  refine lv_goto (tgt := 20) hx hb dX12_restore_16 (by decide) ?_
  refine lv_iconst (v := 1) hx hb dX12_restore_20 (by decide) ?_
  refine call_i (wr := []) C (run_V (As := [.int 1, .int 1]) (rest := []) C (m_refuse_y l D cI cZ cJ mo bu pe ep sz nx fr so wr wa as ak ab ar g 1 (by decide)) cV_X12_86 hP hD hS [0] rfl rfl 0 rfl rfl rfl rfl hl.1 rfl (Nat.le_of_ble_eq_true rfl) dX12_restore_21 ⟨Nat.le_of_ble_eq_true rfl, Nat.le_of_ble_eq_true rfl⟩ ⟨Nat.le_of_ble_eq_true rfl, Nat.le_of_ble_eq_true rfl⟩) hP hD hS [0] [] rfl rfl rfl (by decide) (fun u2 H locs hP hD hS => ?_)
  have hP : va_P D CL [(mo, .inr (11, mC 1 bu pe ep sz nx fr so wr wa as ak ab ar g))] H := hP
  have hD : va_D A [(mo, .inr (11, mC 1 bu pe ep sz nx fr so wr wa as ak ab ar g))] := hD
  refine W.widen (k := 0) (n := 0) (Nat.le_of_ble_eq_true rfl) (Nat.le_of_ble_eq_true rfl) ?_
  refine W.eq (g2 := F0 m 24 ls [.int 1]) rfl ?_
  refine lv_if_ne (tgt := 49) hx hb dX12_restore_24 (by decide) (fun _ => ?_) (fun h => absurd h (by decide))
  refine lv_iconst (v := 0) hx hb dX12_restore_49 (by decide) ?_
  exact r_iret C hP hD hS () rfl rfl (Nat.le_of_ble_eq_true rfl) (Nat.le_of_ble_eq_true rfl) dX12_restore_50
set_option maxHeartbeats 4000000 in
set_option maxRecDepth 100000 in
theorem m_restore_t (l : Launch) (D : va_G) (cI cZ cJ : ClassId) (mo : Nat) (bu : Int32) (pe : Int32) (ep : Int32) (sz : Int32) (nx : Int32) (fr : Int32) (so : Int32) (wr : Int32) (wa : Int32) (as : Nat) (ak : Nat) (ab : Nat) (ar : Nat) (g : Nat → Value) (th : Int32) (a0 : Int32) (h1 : ¬ a0 < 0) (h2 : ¬ 1 < a0) : cM l yX12_restore cX12_restore 2 (some .int) D (TT cI cZ cJ) [.ref mo, .int a0] [(mo, .inr (11, mC th bu pe ep sz nx fr so wr wa as ak ab ar g)), (ak, .inl (cZ, 2, .inl (fun _ => 0)))] (qI D (TT cI cZ cJ) (fun u : Unit => 0) (fun u : Unit => [(ak, .inl (cZ, 2, .inl (fun _ => 0))), (mo, .inr (11, mC 2 bu pe ep sz nx fr so wr wa as ak ab ar g))])) 1 0 0 := by
  refine enterM (by decide) (Nat.le_of_ble_eq_true rfl) ?_
  intro p e s m below meth c ls A C hP hD hS hl
  have hx := C.1
  have hb := C.2.1
  have hl : lv_has ls 2 [(0, .ref mo), (1, .int a0)] := hl
  refine lv_aload_n hx hb dX12_restore_0 rfl (lv_at hl 0 rfl) ?_
  refine lv_iconst (v := 0) hx hb dX12_restore_1 (by decide) ?_
  refine r_put C hP hD hS 0 rfl fg_X12_79 rfl rfl (Nat.le_of_ble_eq_true rfl) dX12_restore_2 [(mo, .inr (11, mC 0 bu pe ep sz nx fr so wr wa as ak ab ar g)), (ak, .inl (cZ, 2, .inl (fun _ => 0)))] rfl (fun H locs hP hD hS => ?_)
  refine lv_aload_n hx hb dX12_restore_5 rfl (lv_at hl 0 rfl) ?_
  refine lv_iload_n hx hb dX12_restore_6 rfl (lv_at hl 1 rfl) ?_
  refine lv_iconst (v := 0) hx hb dX12_restore_7 (by decide) ?_
  refine lv_iconst (v := 1) hx hb dX12_restore_8 (by decide) ?_
  refine call_i (wr := [(mo, .inr (11, mC 0 bu pe ep sz nx fr so wr wa as ak ab ar g)), (ak, .inl (cZ, 2, .inl (fun _ => 0)))]) C (run_S (As := [.int a0, .int 0, .int 1]) (rest := [.ref mo]) C (m_in_t l D cI cZ cJ a0 0 1 h1 h2) cS_X12_148 hP hD hS [] rfl rfl rfl hl.1 rfl (Nat.le_of_ble_eq_true rfl) dX12_restore_9 ⟨Nat.le_of_ble_eq_true rfl, Nat.le_of_ble_eq_true rfl⟩ ⟨Nat.le_of_ble_eq_true rfl, Nat.le_of_ble_eq_true rfl⟩) hP hD hS [] [0, 1] rfl rfl rfl (by decide) (fun u1 H locs hP hD hS => ?_)
  have hP : va_P D CL [(mo, .inr (11, mC 0 bu pe ep sz nx fr so wr wa as ak ab ar g)), (ak, .inl (cZ, 2, .inl (fun _ => 0)))] H := hP
  have hD : va_D A [(mo, .inr (11, mC 0 bu pe ep sz nx fr so wr wa as ak ab ar g)), (ak, .inl (cZ, 2, .inl (fun _ => 0)))] := hD
  refine W.widen (k := 0) (n := 0) (Nat.le_of_ble_eq_true rfl) (Nat.le_of_ble_eq_true rfl) ?_
  refine W.eq (g2 := F0 m 12 ls [.int 1, .ref mo]) rfl ?_
  refine lv_if_ne (tgt := 19) hx hb dX12_restore_12 (by decide) (fun _ => ?_) (fun h => absurd h (by decide))
  refine lv_iconst (v := 0) hx hb dX12_restore_19 (by decide) ?_
  refine lv_iconst (v := 1) hx hb dX12_restore_20 (by decide) ?_
  refine call_i (wr := [(ak, .inl (cZ, 2, .inl (fun _ => 0)))]) C (run_V (As := [.int 0, .int 1]) (rest := []) C (m_refuse_n l D cI cZ cJ mo bu pe ep sz nx fr so wr wa as ak ab ar g 1 ) cV_X12_86 hP hD hS [0] rfl rfl 0 rfl rfl rfl rfl hl.1 rfl (Nat.le_of_ble_eq_true rfl) dX12_restore_21 ⟨Nat.le_of_ble_eq_true rfl, Nat.le_of_ble_eq_true rfl⟩ ⟨Nat.le_of_ble_eq_true rfl, Nat.le_of_ble_eq_true rfl⟩) hP hD hS [0] [1] rfl rfl rfl (by decide) (fun u2 H locs hP hD hS => ?_)
  have hP : va_P D CL [(ak, .inl (cZ, 2, .inl (fun _ => 0))), (mo, .inr (11, mC 0 bu pe ep sz nx fr so wr wa as ak ab ar g))] H := hP
  have hD : va_D A [(ak, .inl (cZ, 2, .inl (fun _ => 0))), (mo, .inr (11, mC 0 bu pe ep sz nx fr so wr wa as ak ab ar g))] := hD
  refine W.widen (k := 0) (n := 0) (Nat.le_of_ble_eq_true rfl) (Nat.le_of_ble_eq_true rfl) ?_
  refine W.eq (g2 := F0 m 24 ls [.int 0]) rfl ?_
  refine lv_if_ne (tgt := 49) hx hb dX12_restore_24 (by decide) (fun h => absurd h (by decide)) (fun _ => ?_)
  refine lv_aload_n hx hb dX12_restore_27 rfl (lv_at hl 0 rfl) ?_
  refine lv_aload_n hx hb dX12_restore_28 rfl (lv_at hl 0 rfl) ?_
  refine r_get (v := .ref ak) C hP 1 rfl fg_X12_16 rfl dX12_restore_29 ?_
  refine lv_iload_n hx hb dX12_restore_32 rfl (lv_at hl 1 rfl) ?_
  refine va_zald hx hb C.2.2.2.2.2.1 hP 0 1 rfl rfl (vin2 h1 h2) dX12_restore_33 ?_
  refine W.eq (g2 := F0 m 34 ls [.int 0, .ref mo]) rfl ?_
  refine lv_if_ne (tgt := 41) hx hb dX12_restore_34 (by decide) (fun h => absurd h (by decide)) (fun _ => ?_)
  refine lv_iconst (v := 1) hx hb dX12_restore_37 (by decide) ?_
  refine lv_goto (tgt := 42) hx hb dX12_restore_38 (by decide) ?_
  refine lv_iconst (v := 2) hx hb dX12_restore_42 (by decide) ?_
  refine call_i (wr := [(ak, .inl (cZ, 2, .inl (fun _ => 0)))]) C (run_V (As := [.int 1, .int 2]) (rest := []) C (m_refuse_y l D cI cZ cJ mo bu pe ep sz nx fr so wr wa as ak ab ar g 2 (by decide)) cV_X12_86 hP hD hS [1] rfl rfl 0 rfl rfl rfl rfl hl.1 rfl (Nat.le_of_ble_eq_true rfl) dX12_restore_43 ⟨Nat.le_of_ble_eq_true rfl, Nat.le_of_ble_eq_true rfl⟩ ⟨Nat.le_of_ble_eq_true rfl, Nat.le_of_ble_eq_true rfl⟩) hP hD hS [1] [0] rfl rfl rfl (by decide) (fun u3 H locs hP hD hS => ?_)
  have hP : va_P D CL [(ak, .inl (cZ, 2, .inl (fun _ => 0))), (mo, .inr (11, mC 2 bu pe ep sz nx fr so wr wa as ak ab ar g))] H := hP
  have hD : va_D A [(ak, .inl (cZ, 2, .inl (fun _ => 0))), (mo, .inr (11, mC 2 bu pe ep sz nx fr so wr wa as ak ab ar g))] := hD
  refine W.widen (k := 0) (n := 0) (Nat.le_of_ble_eq_true rfl) (Nat.le_of_ble_eq_true rfl) ?_
  refine W.eq (g2 := F0 m 46 ls [.int 1]) rfl ?_
  refine lv_if_eq (tgt := 51) hx hb dX12_restore_46 (by decide) (fun h => absurd h (by decide)) (fun _ => ?_)
  refine lv_iconst (v := 0) hx hb dX12_restore_49 (by decide) ?_
  exact r_iret C hP hD hS () rfl rfl (Nat.le_of_ble_eq_true rfl) (Nat.le_of_ble_eq_true rfl) dX12_restore_50
