/-! the law's cases (printed by law.py) -/
set_option maxRecDepth 100000 in
theorem cs_45 {p : Program} {l : Launch} {e : Env} {s : State} {m : MethodId} {below : List Frame} {meth : Method} {c : Code} {b L : Nat} {xs : Nat → Int32} {D : va_G} {cs : Nat → ClassId} {ad : Nat → Nat} {A : Nat → Prop} (K : LX p l s m meth c b L xs D cs ad A) {i : Nat} (hi : i + 6 ≤ L) (hL : L ≤ 3072) {σ : SG} (hJ : JW σ) {cells slots : Nat} (hcc : cells + 2 ≤ 601024) (hss : slots + 12 ≤ 7293034) (kk : ∀ σ', JW σ' → GL p l e s m below meth c b D cs ad A σ' (cells + 2) (slots + 12) 3186 [(0, .ref 250), (1, .ref 0), (2, .ref 140), (3, .ref 162), (4, .int (nJ i))] []) : GL p l e s m below meth c b D cs ad A σ cells slots 2385 [(0, .ref 250), (1, .ref 0), (2, .ref 140), (3, .ref 162), (4, .int (nJ i))] [] := by
  obtain ⟨Sc, Sm, hC, hM, R, M⟩ := hJ
  refine gl_run K doc_45 2 (pc' := 2387) (lv' := [(0, .ref 250), (1, .ref 0), (2, .ref 140), (3, .ref 162), (4, .int (nJ i))]) (st' := [.ref 162, .ref 0]) (ob := []) rfl fm_n ?_
  obtain ⟨f1, c1, t, σ1, f2, rm, σ2, f3, σ3, e1, hc, e2, e3, ob1, ob2, J3, hz⟩ := two (f := Int32.toInt64) (vM := vI) (a160 R M) hC hM (fun rc rm S1 T h1 h2 => wr_350 (d := 0) h1 h2) (fun r h => S_291 (d := 0) h) (q_291 (d := 0) M) (fun c o T h => mRi h)
  refine gl_S (k' := 350) (As := [.ref 0, .ref 162]) (rest := []) K (dOK_lk doc_45 (pc := 2387) rfl) rfl lS_328 rfl (Nat.le_of_ble_eq_true rfl) (Nat.le_of_ble_eq_true rfl) (by decide) e1 (by omega) (by omega) ?_
  refine gl_run K doc_45 2 (pc' := 2393) (lv' := [(5, .int t), (0, .ref 250), (1, .ref 0), (2, .ref 140), (3, .ref 162), (4, .int (nJ i))]) (st' := [.ref 140]) (ob := []) rfl fm_n ?_
  refine gl_V (k' := 291) (As := []) (rest := []) (ci := 11) (q := (RX12, TX12, 41)) K (dOK_lk doc_45 (pc := 2393) rfl) rfl rfl lV_330 rfl rfl rfl (Nat.le_of_ble_eq_true rfl) (Nat.le_of_ble_eq_true rfl) ob1 (by decide) e2 (by omega) (by omega) ?_
  refine gl_run K doc_45 2 (pc' := 2399) (lv' := [(6, .int rm), (5, .int t), (0, .ref 250), (1, .ref 0), (2, .ref 140), (3, .ref 162), (4, .int (nJ i))]) (st' := [.ref 140]) (ob := []) rfl fm_n ?_
  refine gl_V (k' := 367) (As := []) (rest := []) (ci := 11) (q := (RX12, TX12, 41)) K (dOK_lk doc_45 (pc := 2399) rfl) rfl rfl lV_187 rfl rfl rfl (Nat.le_of_ble_eq_true rfl) (Nat.le_of_ble_eq_true rfl) ob2 (by decide) e3 (by omega) (by omega) ?_
  refine gl_run K doc_45 1 (pc' := 2404) (lv' := [(6, .int rm), (5, .int t), (0, .ref 250), (1, .ref 0), (2, .ref 140), (3, .ref 162), (4, .int (nJ i))]) (st' := [.int t, .int t]) (ob := []) rfl fm_n ?_
  refine gl_eq (tgt := 2409) K (dOK_lk doc_45 (pc := 2404) rfl) (by decide) rfl ?_
  refine gl_run K doc_45 1 (pc' := 2411) (lv' := [(6, .int rm), (5, .int t), (0, .ref 250), (1, .ref 0), (2, .ref 140), (3, .ref 162), (4, .int (nJ i))]) (st' := [.int t]) (ob := []) rfl fm_n ?_
  by_cases h0 : t = 0
  · obtain ⟨g, hg1, hg2⟩ := hz h0
    refine gl_n (tgt := 2426) K (dOK_lk doc_45 (pc := 2411) rfl) (by decide) (cI_ne1 h0) ?_
    refine gl_run K doc_45 2 (pc' := 2416) (lv' := [(6, .int rm), (5, .int t), (0, .ref 250), (1, .ref 0), (2, .ref 140), (3, .ref 162), (4, .int (nJ i))]) (st' := [.int (Int32.ofInt 0), .ref 162]) (ob := []) rfl fm_n ?_
    refine gl_laload K (dOK_lk doc_45 (pc := 2416) rfl) hg1 ?_
    rw [hg2]
    refine gl_run K doc_45 2 (pc' := 2420) (lv' := [(6, .int rm), (5, .int t), (0, .ref 250), (1, .ref 0), (2, .ref 140), (3, .ref 162), (4, .int (nJ i))]) (st' := [.long (Int32.toInt64 rm), .long (Int32.toInt64 rm)]) (ob := []) rfl fm_n ?_
    refine gl_lcmp K (dOK_lk doc_45 (pc := 2420) rfl) ?_
    rw [lcm3_0]
    refine gl_y (tgt := 2426) K (dOK_lk doc_45 (pc := 2421) rfl) (by decide) rfl ?_
    refine gl_run K doc_45 1 (pc' := 3186) (lv' := [(6, .int rm), (5, .int t), (0, .ref 250), (1, .ref 0), (2, .ref 140), (3, .ref 162), (4, .int (nJ i))]) (st' := []) (ob := []) rfl fm_n ?_
    refine gl_lv (lv' := [(0, .ref 250), (1, .ref 0), (2, .ref 140), (3, .ref 162), (4, .int (nJ i))]) (fm_c (List.mem_of_getElem? (i := 2) rfl) (fm_c (List.mem_of_getElem? (i := 3) rfl) (fm_c (List.mem_of_getElem? (i := 4) rfl) (fm_c (List.mem_of_getElem? (i := 5) rfl) (fm_c (List.mem_of_getElem? (i := 6) rfl) fm_n))))) ?_
    exact gl_wide (by omega) (by omega) (kk _ J3)
  · refine gl_y (tgt := 2426) K (dOK_lk doc_45 (pc := 2411) rfl) (by decide) (cI_ne0 h0) ?_
    refine gl_run K doc_45 1 (pc' := 3186) (lv' := [(6, .int rm), (5, .int t), (0, .ref 250), (1, .ref 0), (2, .ref 140), (3, .ref 162), (4, .int (nJ i))]) (st' := []) (ob := []) rfl fm_n ?_
    refine gl_lv (lv' := [(0, .ref 250), (1, .ref 0), (2, .ref 140), (3, .ref 162), (4, .int (nJ i))]) (fm_c (List.mem_of_getElem? (i := 2) rfl) (fm_c (List.mem_of_getElem? (i := 3) rfl) (fm_c (List.mem_of_getElem? (i := 4) rfl) (fm_c (List.mem_of_getElem? (i := 5) rfl) (fm_c (List.mem_of_getElem? (i := 6) rfl) fm_n))))) ?_
    exact gl_wide (by omega) (by omega) (kk _ J3)
set_option maxRecDepth 100000 in
theorem cs_46 {p : Program} {l : Launch} {e : Env} {s : State} {m : MethodId} {below : List Frame} {meth : Method} {c : Code} {b L : Nat} {xs : Nat → Int32} {D : va_G} {cs : Nat → ClassId} {ad : Nat → Nat} {A : Nat → Prop} (K : LX p l s m meth c b L xs D cs ad A) {i : Nat} (hi : i + 6 ≤ L) (hL : L ≤ 3072) {σ : SG} (hJ : JW σ) {cells slots : Nat} (hcc : cells + 2 ≤ 601024) (hss : slots + 12 ≤ 7293034) (kk : ∀ σ', JW σ' → GL p l e s m below meth c b D cs ad A σ' (cells + 2) (slots + 12) 3186 [(0, .ref 250), (1, .ref 0), (2, .ref 140), (3, .ref 162), (4, .int (nJ i))] []) : GL p l e s m below meth c b D cs ad A σ cells slots 2429 [(0, .ref 250), (1, .ref 0), (2, .ref 140), (3, .ref 162), (4, .int (nJ i))] [] := by
  obtain ⟨Sc, Sm, hC, hM, R, M⟩ := hJ
  refine gl_run K doc_46 7 (pc' := 2437) (lv' := [(0, .ref 250), (1, .ref 0), (2, .ref 140), (3, .ref 162), (4, .int (nJ i))]) (st' := [.ref 162, .int (ag xs i 1), .ref 0]) (ob := [nJ i + Int32.ofInt 1]) rfl (fm_c (ob_ok hi hL 1 (by decide)) fm_n) ?_
  obtain ⟨f1, c1, t, σ1, f2, rm, σ2, f3, σ3, e1, hc, e2, e3, ob1, ob2, J3, hz⟩ := two (f := Int32.toInt64) (vM := vI) (a161 R M ((ag xs i 1))) hC hM (fun rc rm S1 T h1 h2 => wr_351 (d := 0) h1 h2) (fun r h => S_295 (d := 0) h) (q_295 (d := 0) M) (fun c o T h => mRi h)
  refine gl_S (k' := 351) (As := [.ref 0, .int (ag xs i 1), .ref 162]) (rest := []) K (dOK_lk doc_46 (pc := 2437) rfl) rfl lS_331 rfl (Nat.le_of_ble_eq_true rfl) (Nat.le_of_ble_eq_true rfl) (by decide) e1 (by omega) (by omega) ?_
  refine gl_run K doc_46 7 (pc' := 2449) (lv' := [(5, .int t), (0, .ref 250), (1, .ref 0), (2, .ref 140), (3, .ref 162), (4, .int (nJ i))]) (st' := [.int (ag xs i 1), .ref 140]) (ob := [nJ i + Int32.ofInt 1]) rfl (fm_c (ob_ok hi hL 1 (by decide)) fm_n) ?_
  refine gl_V (k' := 295) (As := [.int (ag xs i 1)]) (rest := []) (ci := 11) (q := (RX12, TX12, 41)) K (dOK_lk doc_46 (pc := 2449) rfl) rfl rfl lV_333 rfl rfl rfl (Nat.le_of_ble_eq_true rfl) (Nat.le_of_ble_eq_true rfl) ob1 (by decide) e2 (by omega) (by omega) ?_
  refine gl_run K doc_46 2 (pc' := 2455) (lv' := [(6, .int rm), (5, .int t), (0, .ref 250), (1, .ref 0), (2, .ref 140), (3, .ref 162), (4, .int (nJ i))]) (st' := [.ref 140]) (ob := []) rfl fm_n ?_
  refine gl_V (k' := 367) (As := []) (rest := []) (ci := 11) (q := (RX12, TX12, 41)) K (dOK_lk doc_46 (pc := 2455) rfl) rfl rfl lV_187 rfl rfl rfl (Nat.le_of_ble_eq_true rfl) (Nat.le_of_ble_eq_true rfl) ob2 (by decide) e3 (by omega) (by omega) ?_
  refine gl_run K doc_46 1 (pc' := 2460) (lv' := [(6, .int rm), (5, .int t), (0, .ref 250), (1, .ref 0), (2, .ref 140), (3, .ref 162), (4, .int (nJ i))]) (st' := [.int t, .int t]) (ob := []) rfl fm_n ?_
  refine gl_eq (tgt := 2465) K (dOK_lk doc_46 (pc := 2460) rfl) (by decide) rfl ?_
  refine gl_run K doc_46 1 (pc' := 2467) (lv' := [(6, .int rm), (5, .int t), (0, .ref 250), (1, .ref 0), (2, .ref 140), (3, .ref 162), (4, .int (nJ i))]) (st' := [.int t]) (ob := []) rfl fm_n ?_
  by_cases h0 : t = 0
  · obtain ⟨g, hg1, hg2⟩ := hz h0
    refine gl_n (tgt := 2482) K (dOK_lk doc_46 (pc := 2467) rfl) (by decide) (cI_ne1 h0) ?_
    refine gl_run K doc_46 2 (pc' := 2472) (lv' := [(6, .int rm), (5, .int t), (0, .ref 250), (1, .ref 0), (2, .ref 140), (3, .ref 162), (4, .int (nJ i))]) (st' := [.int (Int32.ofInt 0), .ref 162]) (ob := []) rfl fm_n ?_
    refine gl_laload K (dOK_lk doc_46 (pc := 2472) rfl) hg1 ?_
    rw [hg2]
    refine gl_run K doc_46 2 (pc' := 2476) (lv' := [(6, .int rm), (5, .int t), (0, .ref 250), (1, .ref 0), (2, .ref 140), (3, .ref 162), (4, .int (nJ i))]) (st' := [.long (Int32.toInt64 rm), .long (Int32.toInt64 rm)]) (ob := []) rfl fm_n ?_
    refine gl_lcmp K (dOK_lk doc_46 (pc := 2476) rfl) ?_
    rw [lcm3_0]
    refine gl_y (tgt := 2482) K (dOK_lk doc_46 (pc := 2477) rfl) (by decide) rfl ?_
    refine gl_run K doc_46 1 (pc' := 3186) (lv' := [(6, .int rm), (5, .int t), (0, .ref 250), (1, .ref 0), (2, .ref 140), (3, .ref 162), (4, .int (nJ i))]) (st' := []) (ob := []) rfl fm_n ?_
    refine gl_lv (lv' := [(0, .ref 250), (1, .ref 0), (2, .ref 140), (3, .ref 162), (4, .int (nJ i))]) (fm_c (List.mem_of_getElem? (i := 2) rfl) (fm_c (List.mem_of_getElem? (i := 3) rfl) (fm_c (List.mem_of_getElem? (i := 4) rfl) (fm_c (List.mem_of_getElem? (i := 5) rfl) (fm_c (List.mem_of_getElem? (i := 6) rfl) fm_n))))) ?_
    exact gl_wide (by omega) (by omega) (kk _ J3)
  · refine gl_y (tgt := 2482) K (dOK_lk doc_46 (pc := 2467) rfl) (by decide) (cI_ne0 h0) ?_
    refine gl_run K doc_46 1 (pc' := 3186) (lv' := [(6, .int rm), (5, .int t), (0, .ref 250), (1, .ref 0), (2, .ref 140), (3, .ref 162), (4, .int (nJ i))]) (st' := []) (ob := []) rfl fm_n ?_
    refine gl_lv (lv' := [(0, .ref 250), (1, .ref 0), (2, .ref 140), (3, .ref 162), (4, .int (nJ i))]) (fm_c (List.mem_of_getElem? (i := 2) rfl) (fm_c (List.mem_of_getElem? (i := 3) rfl) (fm_c (List.mem_of_getElem? (i := 4) rfl) (fm_c (List.mem_of_getElem? (i := 5) rfl) (fm_c (List.mem_of_getElem? (i := 6) rfl) fm_n))))) ?_
    exact gl_wide (by omega) (by omega) (kk _ J3)
set_option maxRecDepth 100000 in
theorem cs_47 {p : Program} {l : Launch} {e : Env} {s : State} {m : MethodId} {below : List Frame} {meth : Method} {c : Code} {b L : Nat} {xs : Nat → Int32} {D : va_G} {cs : Nat → ClassId} {ad : Nat → Nat} {A : Nat → Prop} (K : LX p l s m meth c b L xs D cs ad A) {i : Nat} (hi : i + 6 ≤ L) (hL : L ≤ 3072) {σ : SG} (hJ : JW σ) {cells slots : Nat} (hcc : cells + 2 ≤ 601024) (hss : slots + 12 ≤ 7293034) (kk : ∀ σ', JW σ' → GL p l e s m below meth c b D cs ad A σ' (cells + 2) (slots + 12) 3186 [(0, .ref 250), (1, .ref 0), (2, .ref 140), (3, .ref 162), (4, .int (nJ i))] []) : GL p l e s m below meth c b D cs ad A σ cells slots 2485 [(0, .ref 250), (1, .ref 0), (2, .ref 140), (3, .ref 162), (4, .int (nJ i))] [] := by
  obtain ⟨Sc, Sm, hC, hM, R, M⟩ := hJ
  refine gl_run K doc_47 7 (pc' := 2493) (lv' := [(0, .ref 250), (1, .ref 0), (2, .ref 140), (3, .ref 162), (4, .int (nJ i))]) (st' := [.ref 162, .int (ag xs i 1), .ref 0]) (ob := [nJ i + Int32.ofInt 1]) rfl (fm_c (ob_ok hi hL 1 (by decide)) fm_n) ?_
  obtain ⟨f1, c1, t, σ1, f2, rm, σ2, f3, σ3, e1, hc, e2, e3, ob1, ob2, J3, hz⟩ := two (f := Int32.toInt64) (vM := vI) (a162 R M ((ag xs i 1))) hC hM (fun rc rm S1 T h1 h2 => wr_352 (d := 0) h1 h2) (fun r h => S_296 (d := 0) h) (q_296 (d := 0) M) (fun c o T h => mRi h)
  refine gl_S (k' := 352) (As := [.ref 0, .int (ag xs i 1), .ref 162]) (rest := []) K (dOK_lk doc_47 (pc := 2493) rfl) rfl lS_334 rfl (Nat.le_of_ble_eq_true rfl) (Nat.le_of_ble_eq_true rfl) (by decide) e1 (by omega) (by omega) ?_
  refine gl_run K doc_47 7 (pc' := 2505) (lv' := [(5, .int t), (0, .ref 250), (1, .ref 0), (2, .ref 140), (3, .ref 162), (4, .int (nJ i))]) (st' := [.int (ag xs i 1), .ref 140]) (ob := [nJ i + Int32.ofInt 1]) rfl (fm_c (ob_ok hi hL 1 (by decide)) fm_n) ?_
  refine gl_V (k' := 296) (As := [.int (ag xs i 1)]) (rest := []) (ci := 11) (q := (RX12, TX12, 41)) K (dOK_lk doc_47 (pc := 2505) rfl) rfl rfl lV_336 rfl rfl rfl (Nat.le_of_ble_eq_true rfl) (Nat.le_of_ble_eq_true rfl) ob1 (by decide) e2 (by omega) (by omega) ?_
  refine gl_run K doc_47 2 (pc' := 2511) (lv' := [(6, .int rm), (5, .int t), (0, .ref 250), (1, .ref 0), (2, .ref 140), (3, .ref 162), (4, .int (nJ i))]) (st' := [.ref 140]) (ob := []) rfl fm_n ?_
  refine gl_V (k' := 367) (As := []) (rest := []) (ci := 11) (q := (RX12, TX12, 41)) K (dOK_lk doc_47 (pc := 2511) rfl) rfl rfl lV_187 rfl rfl rfl (Nat.le_of_ble_eq_true rfl) (Nat.le_of_ble_eq_true rfl) ob2 (by decide) e3 (by omega) (by omega) ?_
  refine gl_run K doc_47 1 (pc' := 2516) (lv' := [(6, .int rm), (5, .int t), (0, .ref 250), (1, .ref 0), (2, .ref 140), (3, .ref 162), (4, .int (nJ i))]) (st' := [.int t, .int t]) (ob := []) rfl fm_n ?_
  refine gl_eq (tgt := 2521) K (dOK_lk doc_47 (pc := 2516) rfl) (by decide) rfl ?_
  refine gl_run K doc_47 1 (pc' := 2523) (lv' := [(6, .int rm), (5, .int t), (0, .ref 250), (1, .ref 0), (2, .ref 140), (3, .ref 162), (4, .int (nJ i))]) (st' := [.int t]) (ob := []) rfl fm_n ?_
  by_cases h0 : t = 0
  · obtain ⟨g, hg1, hg2⟩ := hz h0
    refine gl_n (tgt := 2538) K (dOK_lk doc_47 (pc := 2523) rfl) (by decide) (cI_ne1 h0) ?_
    refine gl_run K doc_47 2 (pc' := 2528) (lv' := [(6, .int rm), (5, .int t), (0, .ref 250), (1, .ref 0), (2, .ref 140), (3, .ref 162), (4, .int (nJ i))]) (st' := [.int (Int32.ofInt 0), .ref 162]) (ob := []) rfl fm_n ?_
    refine gl_laload K (dOK_lk doc_47 (pc := 2528) rfl) hg1 ?_
    rw [hg2]
    refine gl_run K doc_47 2 (pc' := 2532) (lv' := [(6, .int rm), (5, .int t), (0, .ref 250), (1, .ref 0), (2, .ref 140), (3, .ref 162), (4, .int (nJ i))]) (st' := [.long (Int32.toInt64 rm), .long (Int32.toInt64 rm)]) (ob := []) rfl fm_n ?_
    refine gl_lcmp K (dOK_lk doc_47 (pc := 2532) rfl) ?_
    rw [lcm3_0]
    refine gl_y (tgt := 2538) K (dOK_lk doc_47 (pc := 2533) rfl) (by decide) rfl ?_
    refine gl_run K doc_47 1 (pc' := 3186) (lv' := [(6, .int rm), (5, .int t), (0, .ref 250), (1, .ref 0), (2, .ref 140), (3, .ref 162), (4, .int (nJ i))]) (st' := []) (ob := []) rfl fm_n ?_
    refine gl_lv (lv' := [(0, .ref 250), (1, .ref 0), (2, .ref 140), (3, .ref 162), (4, .int (nJ i))]) (fm_c (List.mem_of_getElem? (i := 2) rfl) (fm_c (List.mem_of_getElem? (i := 3) rfl) (fm_c (List.mem_of_getElem? (i := 4) rfl) (fm_c (List.mem_of_getElem? (i := 5) rfl) (fm_c (List.mem_of_getElem? (i := 6) rfl) fm_n))))) ?_
    exact gl_wide (by omega) (by omega) (kk _ J3)
  · refine gl_y (tgt := 2538) K (dOK_lk doc_47 (pc := 2523) rfl) (by decide) (cI_ne0 h0) ?_
    refine gl_run K doc_47 1 (pc' := 3186) (lv' := [(6, .int rm), (5, .int t), (0, .ref 250), (1, .ref 0), (2, .ref 140), (3, .ref 162), (4, .int (nJ i))]) (st' := []) (ob := []) rfl fm_n ?_
    refine gl_lv (lv' := [(0, .ref 250), (1, .ref 0), (2, .ref 140), (3, .ref 162), (4, .int (nJ i))]) (fm_c (List.mem_of_getElem? (i := 2) rfl) (fm_c (List.mem_of_getElem? (i := 3) rfl) (fm_c (List.mem_of_getElem? (i := 4) rfl) (fm_c (List.mem_of_getElem? (i := 5) rfl) (fm_c (List.mem_of_getElem? (i := 6) rfl) fm_n))))) ?_
    exact gl_wide (by omega) (by omega) (kk _ J3)
set_option maxRecDepth 100000 in
theorem cs_48 {p : Program} {l : Launch} {e : Env} {s : State} {m : MethodId} {below : List Frame} {meth : Method} {c : Code} {b L : Nat} {xs : Nat → Int32} {D : va_G} {cs : Nat → ClassId} {ad : Nat → Nat} {A : Nat → Prop} (K : LX p l s m meth c b L xs D cs ad A) {i : Nat} (hi : i + 6 ≤ L) (hL : L ≤ 3072) {σ : SG} (hJ : JW σ) {cells slots : Nat} (hcc : cells + 2 ≤ 601024) (hss : slots + 12 ≤ 7293034) (kk : ∀ σ', JW σ' → GL p l e s m below meth c b D cs ad A σ' (cells + 2) (slots + 12) 3186 [(0, .ref 250), (1, .ref 0), (2, .ref 140), (3, .ref 162), (4, .int (nJ i))] []) : GL p l e s m below meth c b D cs ad A σ cells slots 2541 [(0, .ref 250), (1, .ref 0), (2, .ref 140), (3, .ref 162), (4, .int (nJ i))] [] := by
  obtain ⟨Sc, Sm, hC, hM, R, M⟩ := hJ
  refine gl_run K doc_48 12 (pc' := 2555) (lv' := [(0, .ref 250), (1, .ref 0), (2, .ref 140), (3, .ref 162), (4, .int (nJ i))]) (st' := [.ref 162, .int (ag xs i 2), .int (ag xs i 1), .ref 0]) (ob := [nJ i + Int32.ofInt 1, nJ i + Int32.ofInt 2]) rfl (fm_c (ob_ok hi hL 1 (by decide)) (fm_c (ob_ok hi hL 2 (by decide)) fm_n)) ?_
  obtain ⟨f1, c1, t, σ1, f2, rm, σ2, f3, σ3, e1, hc, e2, e3, ob1, ob2, J3, hz⟩ := two (f := Int32.toInt64) (vM := vI) (a163 R M ((ag xs i 1)) ((ag xs i 2))) hC hM (fun rc rm S1 T h1 h2 => wr_353 (d := 0) h1 h2) (fun r h => S_300 (d := 0) h) (q_300 (d := 0) M) (fun c o T h => mRc h)
  refine gl_S (k' := 353) (As := [.ref 0, .int (ag xs i 1), .int (ag xs i 2), .ref 162]) (rest := []) K (dOK_lk doc_48 (pc := 2555) rfl) rfl lS_337 rfl (Nat.le_of_ble_eq_true rfl) (Nat.le_of_ble_eq_true rfl) (by decide) e1 (by omega) (by omega) ?_
  refine gl_run K doc_48 12 (pc' := 2573) (lv' := [(5, .int t), (0, .ref 250), (1, .ref 0), (2, .ref 140), (3, .ref 162), (4, .int (nJ i))]) (st' := [.int (ag xs i 2), .int (ag xs i 1), .ref 140]) (ob := [nJ i + Int32.ofInt 1, nJ i + Int32.ofInt 2]) rfl (fm_c (ob_ok hi hL 1 (by decide)) (fm_c (ob_ok hi hL 2 (by decide)) fm_n)) ?_
  refine gl_V (k' := 300) (As := [.int (ag xs i 1), .int (ag xs i 2)]) (rest := []) (ci := 11) (q := (RX12, TX12, 41)) K (dOK_lk doc_48 (pc := 2573) rfl) rfl rfl lV_339 rfl rfl rfl (Nat.le_of_ble_eq_true rfl) (Nat.le_of_ble_eq_true rfl) ob1 (by decide) e2 (by omega) (by omega) ?_
  refine gl_run K doc_48 2 (pc' := 2579) (lv' := [(6, .int rm), (5, .int t), (0, .ref 250), (1, .ref 0), (2, .ref 140), (3, .ref 162), (4, .int (nJ i))]) (st' := [.ref 140]) (ob := []) rfl fm_n ?_
  refine gl_V (k' := 367) (As := []) (rest := []) (ci := 11) (q := (RX12, TX12, 41)) K (dOK_lk doc_48 (pc := 2579) rfl) rfl rfl lV_187 rfl rfl rfl (Nat.le_of_ble_eq_true rfl) (Nat.le_of_ble_eq_true rfl) ob2 (by decide) e3 (by omega) (by omega) ?_
  refine gl_run K doc_48 1 (pc' := 2584) (lv' := [(6, .int rm), (5, .int t), (0, .ref 250), (1, .ref 0), (2, .ref 140), (3, .ref 162), (4, .int (nJ i))]) (st' := [.int t, .int t]) (ob := []) rfl fm_n ?_
  refine gl_eq (tgt := 2589) K (dOK_lk doc_48 (pc := 2584) rfl) (by decide) rfl ?_
  refine gl_run K doc_48 1 (pc' := 2591) (lv' := [(6, .int rm), (5, .int t), (0, .ref 250), (1, .ref 0), (2, .ref 140), (3, .ref 162), (4, .int (nJ i))]) (st' := [.int t]) (ob := []) rfl fm_n ?_
  by_cases h0 : t = 0
  · obtain ⟨g, hg1, hg2⟩ := hz h0
    refine gl_n (tgt := 2606) K (dOK_lk doc_48 (pc := 2591) rfl) (by decide) (cI_ne1 h0) ?_
    refine gl_run K doc_48 2 (pc' := 2596) (lv' := [(6, .int rm), (5, .int t), (0, .ref 250), (1, .ref 0), (2, .ref 140), (3, .ref 162), (4, .int (nJ i))]) (st' := [.int (Int32.ofInt 0), .ref 162]) (ob := []) rfl fm_n ?_
    refine gl_laload K (dOK_lk doc_48 (pc := 2596) rfl) hg1 ?_
    rw [hg2]
    refine gl_run K doc_48 2 (pc' := 2600) (lv' := [(6, .int rm), (5, .int t), (0, .ref 250), (1, .ref 0), (2, .ref 140), (3, .ref 162), (4, .int (nJ i))]) (st' := [.long (Int32.toInt64 rm), .long (Int32.toInt64 rm)]) (ob := []) rfl fm_n ?_
    refine gl_lcmp K (dOK_lk doc_48 (pc := 2600) rfl) ?_
    rw [lcm3_0]
    refine gl_y (tgt := 2606) K (dOK_lk doc_48 (pc := 2601) rfl) (by decide) rfl ?_
    refine gl_run K doc_48 1 (pc' := 3186) (lv' := [(6, .int rm), (5, .int t), (0, .ref 250), (1, .ref 0), (2, .ref 140), (3, .ref 162), (4, .int (nJ i))]) (st' := []) (ob := []) rfl fm_n ?_
    refine gl_lv (lv' := [(0, .ref 250), (1, .ref 0), (2, .ref 140), (3, .ref 162), (4, .int (nJ i))]) (fm_c (List.mem_of_getElem? (i := 2) rfl) (fm_c (List.mem_of_getElem? (i := 3) rfl) (fm_c (List.mem_of_getElem? (i := 4) rfl) (fm_c (List.mem_of_getElem? (i := 5) rfl) (fm_c (List.mem_of_getElem? (i := 6) rfl) fm_n))))) ?_
    exact gl_wide (by omega) (by omega) (kk _ J3)
  · refine gl_y (tgt := 2606) K (dOK_lk doc_48 (pc := 2591) rfl) (by decide) (cI_ne0 h0) ?_
    refine gl_run K doc_48 1 (pc' := 3186) (lv' := [(6, .int rm), (5, .int t), (0, .ref 250), (1, .ref 0), (2, .ref 140), (3, .ref 162), (4, .int (nJ i))]) (st' := []) (ob := []) rfl fm_n ?_
    refine gl_lv (lv' := [(0, .ref 250), (1, .ref 0), (2, .ref 140), (3, .ref 162), (4, .int (nJ i))]) (fm_c (List.mem_of_getElem? (i := 2) rfl) (fm_c (List.mem_of_getElem? (i := 3) rfl) (fm_c (List.mem_of_getElem? (i := 4) rfl) (fm_c (List.mem_of_getElem? (i := 5) rfl) (fm_c (List.mem_of_getElem? (i := 6) rfl) fm_n))))) ?_
    exact gl_wide (by omega) (by omega) (kk _ J3)
set_option maxRecDepth 100000 in
theorem cs_49 {p : Program} {l : Launch} {e : Env} {s : State} {m : MethodId} {below : List Frame} {meth : Method} {c : Code} {b L : Nat} {xs : Nat → Int32} {D : va_G} {cs : Nat → ClassId} {ad : Nat → Nat} {A : Nat → Prop} (K : LX p l s m meth c b L xs D cs ad A) {i : Nat} (hi : i + 6 ≤ L) (hL : L ≤ 3072) {σ : SG} (hJ : JW σ) {cells slots : Nat} (hcc : cells + 2 ≤ 601024) (hss : slots + 12 ≤ 7293034) (kk : ∀ σ', JW σ' → GL p l e s m below meth c b D cs ad A σ' (cells + 2) (slots + 12) 3186 [(0, .ref 250), (1, .ref 0), (2, .ref 140), (3, .ref 162), (4, .int (nJ i))] []) : GL p l e s m below meth c b D cs ad A σ cells slots 2609 [(0, .ref 250), (1, .ref 0), (2, .ref 140), (3, .ref 162), (4, .int (nJ i))] [] := by
  obtain ⟨Sc, Sm, hC, hM, R, M⟩ := hJ
  refine gl_run K doc_49 7 (pc' := 2617) (lv' := [(0, .ref 250), (1, .ref 0), (2, .ref 140), (3, .ref 162), (4, .int (nJ i))]) (st' := [.ref 162, .int (ag xs i 1), .ref 0]) (ob := [nJ i + Int32.ofInt 1]) rfl (fm_c (ob_ok hi hL 1 (by decide)) fm_n) ?_
  obtain ⟨f1, c1, t, σ1, f2, rm, σ2, f3, σ3, e1, hc, e2, e3, ob1, ob2, J3, hz⟩ := two (f := Int32.toInt64) (vM := vI) (a164 R M ((ag xs i 1))) hC hM (fun rc rm S1 T h1 h2 => wr_354 (d := 0) h1 h2) (fun r h => S_301 (d := 0) h) (q_301 (d := 0) M) (fun c o T h => mRc h)
  refine gl_S (k' := 354) (As := [.ref 0, .int (ag xs i 1), .ref 162]) (rest := []) K (dOK_lk doc_49 (pc := 2617) rfl) rfl lS_340 rfl (Nat.le_of_ble_eq_true rfl) (Nat.le_of_ble_eq_true rfl) (by decide) e1 (by omega) (by omega) ?_
  refine gl_run K doc_49 7 (pc' := 2629) (lv' := [(5, .int t), (0, .ref 250), (1, .ref 0), (2, .ref 140), (3, .ref 162), (4, .int (nJ i))]) (st' := [.int (ag xs i 1), .ref 140]) (ob := [nJ i + Int32.ofInt 1]) rfl (fm_c (ob_ok hi hL 1 (by decide)) fm_n) ?_
  refine gl_V (k' := 301) (As := [.int (ag xs i 1)]) (rest := []) (ci := 11) (q := (RX12, TX12, 41)) K (dOK_lk doc_49 (pc := 2629) rfl) rfl rfl lV_342 rfl rfl rfl (Nat.le_of_ble_eq_true rfl) (Nat.le_of_ble_eq_true rfl) ob1 (by decide) e2 (by omega) (by omega) ?_
  refine gl_run K doc_49 2 (pc' := 2635) (lv' := [(6, .int rm), (5, .int t), (0, .ref 250), (1, .ref 0), (2, .ref 140), (3, .ref 162), (4, .int (nJ i))]) (st' := [.ref 140]) (ob := []) rfl fm_n ?_
  refine gl_V (k' := 367) (As := []) (rest := []) (ci := 11) (q := (RX12, TX12, 41)) K (dOK_lk doc_49 (pc := 2635) rfl) rfl rfl lV_187 rfl rfl rfl (Nat.le_of_ble_eq_true rfl) (Nat.le_of_ble_eq_true rfl) ob2 (by decide) e3 (by omega) (by omega) ?_
  refine gl_run K doc_49 1 (pc' := 2640) (lv' := [(6, .int rm), (5, .int t), (0, .ref 250), (1, .ref 0), (2, .ref 140), (3, .ref 162), (4, .int (nJ i))]) (st' := [.int t, .int t]) (ob := []) rfl fm_n ?_
  refine gl_eq (tgt := 2645) K (dOK_lk doc_49 (pc := 2640) rfl) (by decide) rfl ?_
  refine gl_run K doc_49 1 (pc' := 2647) (lv' := [(6, .int rm), (5, .int t), (0, .ref 250), (1, .ref 0), (2, .ref 140), (3, .ref 162), (4, .int (nJ i))]) (st' := [.int t]) (ob := []) rfl fm_n ?_
  by_cases h0 : t = 0
  · obtain ⟨g, hg1, hg2⟩ := hz h0
    refine gl_n (tgt := 2662) K (dOK_lk doc_49 (pc := 2647) rfl) (by decide) (cI_ne1 h0) ?_
    refine gl_run K doc_49 2 (pc' := 2652) (lv' := [(6, .int rm), (5, .int t), (0, .ref 250), (1, .ref 0), (2, .ref 140), (3, .ref 162), (4, .int (nJ i))]) (st' := [.int (Int32.ofInt 0), .ref 162]) (ob := []) rfl fm_n ?_
    refine gl_laload K (dOK_lk doc_49 (pc := 2652) rfl) hg1 ?_
    rw [hg2]
    refine gl_run K doc_49 2 (pc' := 2656) (lv' := [(6, .int rm), (5, .int t), (0, .ref 250), (1, .ref 0), (2, .ref 140), (3, .ref 162), (4, .int (nJ i))]) (st' := [.long (Int32.toInt64 rm), .long (Int32.toInt64 rm)]) (ob := []) rfl fm_n ?_
    refine gl_lcmp K (dOK_lk doc_49 (pc := 2656) rfl) ?_
    rw [lcm3_0]
    refine gl_y (tgt := 2662) K (dOK_lk doc_49 (pc := 2657) rfl) (by decide) rfl ?_
    refine gl_run K doc_49 1 (pc' := 3186) (lv' := [(6, .int rm), (5, .int t), (0, .ref 250), (1, .ref 0), (2, .ref 140), (3, .ref 162), (4, .int (nJ i))]) (st' := []) (ob := []) rfl fm_n ?_
    refine gl_lv (lv' := [(0, .ref 250), (1, .ref 0), (2, .ref 140), (3, .ref 162), (4, .int (nJ i))]) (fm_c (List.mem_of_getElem? (i := 2) rfl) (fm_c (List.mem_of_getElem? (i := 3) rfl) (fm_c (List.mem_of_getElem? (i := 4) rfl) (fm_c (List.mem_of_getElem? (i := 5) rfl) (fm_c (List.mem_of_getElem? (i := 6) rfl) fm_n))))) ?_
    exact gl_wide (by omega) (by omega) (kk _ J3)
  · refine gl_y (tgt := 2662) K (dOK_lk doc_49 (pc := 2647) rfl) (by decide) (cI_ne0 h0) ?_
    refine gl_run K doc_49 1 (pc' := 3186) (lv' := [(6, .int rm), (5, .int t), (0, .ref 250), (1, .ref 0), (2, .ref 140), (3, .ref 162), (4, .int (nJ i))]) (st' := []) (ob := []) rfl fm_n ?_
    refine gl_lv (lv' := [(0, .ref 250), (1, .ref 0), (2, .ref 140), (3, .ref 162), (4, .int (nJ i))]) (fm_c (List.mem_of_getElem? (i := 2) rfl) (fm_c (List.mem_of_getElem? (i := 3) rfl) (fm_c (List.mem_of_getElem? (i := 4) rfl) (fm_c (List.mem_of_getElem? (i := 5) rfl) (fm_c (List.mem_of_getElem? (i := 6) rfl) fm_n))))) ?_
    exact gl_wide (by omega) (by omega) (kk _ J3)
set_option maxRecDepth 100000 in
theorem cs_50 {p : Program} {l : Launch} {e : Env} {s : State} {m : MethodId} {below : List Frame} {meth : Method} {c : Code} {b L : Nat} {xs : Nat → Int32} {D : va_G} {cs : Nat → ClassId} {ad : Nat → Nat} {A : Nat → Prop} (K : LX p l s m meth c b L xs D cs ad A) {i : Nat} (hi : i + 6 ≤ L) (hL : L ≤ 3072) {σ : SG} (hJ : JW σ) {cells slots : Nat} (hcc : cells + 2 ≤ 601024) (hss : slots + 12 ≤ 7293034) (kk : ∀ σ', JW σ' → GL p l e s m below meth c b D cs ad A σ' (cells + 2) (slots + 12) 3186 [(0, .ref 250), (1, .ref 0), (2, .ref 140), (3, .ref 162), (4, .int (nJ i))] []) : GL p l e s m below meth c b D cs ad A σ cells slots 2665 [(0, .ref 250), (1, .ref 0), (2, .ref 140), (3, .ref 162), (4, .int (nJ i))] [] := by
  obtain ⟨Sc, Sm, hC, hM, R, M⟩ := hJ
  refine gl_run K doc_50 12 (pc' := 2679) (lv' := [(0, .ref 250), (1, .ref 0), (2, .ref 140), (3, .ref 162), (4, .int (nJ i))]) (st' := [.ref 162, .int (ag xs i 2), .int (ag xs i 1), .ref 0]) (ob := [nJ i + Int32.ofInt 1, nJ i + Int32.ofInt 2]) rfl (fm_c (ob_ok hi hL 1 (by decide)) (fm_c (ob_ok hi hL 2 (by decide)) fm_n)) ?_
  obtain ⟨f1, c1, t, σ1, f2, rm, σ2, f3, σ3, e1, hc, e2, e3, ob1, ob2, J3, hz⟩ := two (f := Int32.toInt64) (vM := vI) (a165 R M ((ag xs i 1)) ((ag xs i 2))) hC hM (fun rc rm S1 T h1 h2 => wr_355 (d := 0) h1 h2) (fun r h => S_302 (d := 0) h) (q_302 (d := 0) M) (fun c o T h => mRc h)
  refine gl_S (k' := 355) (As := [.ref 0, .int (ag xs i 1), .int (ag xs i 2), .ref 162]) (rest := []) K (dOK_lk doc_50 (pc := 2679) rfl) rfl lS_343 rfl (Nat.le_of_ble_eq_true rfl) (Nat.le_of_ble_eq_true rfl) (by decide) e1 (by omega) (by omega) ?_
  refine gl_run K doc_50 12 (pc' := 2697) (lv' := [(5, .int t), (0, .ref 250), (1, .ref 0), (2, .ref 140), (3, .ref 162), (4, .int (nJ i))]) (st' := [.int (ag xs i 2), .int (ag xs i 1), .ref 140]) (ob := [nJ i + Int32.ofInt 1, nJ i + Int32.ofInt 2]) rfl (fm_c (ob_ok hi hL 1 (by decide)) (fm_c (ob_ok hi hL 2 (by decide)) fm_n)) ?_
  refine gl_V (k' := 302) (As := [.int (ag xs i 1), .int (ag xs i 2)]) (rest := []) (ci := 11) (q := (RX12, TX12, 41)) K (dOK_lk doc_50 (pc := 2697) rfl) rfl rfl lV_345 rfl rfl rfl (Nat.le_of_ble_eq_true rfl) (Nat.le_of_ble_eq_true rfl) ob1 (by decide) e2 (by omega) (by omega) ?_
  refine gl_run K doc_50 2 (pc' := 2703) (lv' := [(6, .int rm), (5, .int t), (0, .ref 250), (1, .ref 0), (2, .ref 140), (3, .ref 162), (4, .int (nJ i))]) (st' := [.ref 140]) (ob := []) rfl fm_n ?_
  refine gl_V (k' := 367) (As := []) (rest := []) (ci := 11) (q := (RX12, TX12, 41)) K (dOK_lk doc_50 (pc := 2703) rfl) rfl rfl lV_187 rfl rfl rfl (Nat.le_of_ble_eq_true rfl) (Nat.le_of_ble_eq_true rfl) ob2 (by decide) e3 (by omega) (by omega) ?_
  refine gl_run K doc_50 1 (pc' := 2708) (lv' := [(6, .int rm), (5, .int t), (0, .ref 250), (1, .ref 0), (2, .ref 140), (3, .ref 162), (4, .int (nJ i))]) (st' := [.int t, .int t]) (ob := []) rfl fm_n ?_
  refine gl_eq (tgt := 2713) K (dOK_lk doc_50 (pc := 2708) rfl) (by decide) rfl ?_
  refine gl_run K doc_50 1 (pc' := 2715) (lv' := [(6, .int rm), (5, .int t), (0, .ref 250), (1, .ref 0), (2, .ref 140), (3, .ref 162), (4, .int (nJ i))]) (st' := [.int t]) (ob := []) rfl fm_n ?_
  by_cases h0 : t = 0
  · obtain ⟨g, hg1, hg2⟩ := hz h0
    refine gl_n (tgt := 2730) K (dOK_lk doc_50 (pc := 2715) rfl) (by decide) (cI_ne1 h0) ?_
    refine gl_run K doc_50 2 (pc' := 2720) (lv' := [(6, .int rm), (5, .int t), (0, .ref 250), (1, .ref 0), (2, .ref 140), (3, .ref 162), (4, .int (nJ i))]) (st' := [.int (Int32.ofInt 0), .ref 162]) (ob := []) rfl fm_n ?_
    refine gl_laload K (dOK_lk doc_50 (pc := 2720) rfl) hg1 ?_
    rw [hg2]
    refine gl_run K doc_50 2 (pc' := 2724) (lv' := [(6, .int rm), (5, .int t), (0, .ref 250), (1, .ref 0), (2, .ref 140), (3, .ref 162), (4, .int (nJ i))]) (st' := [.long (Int32.toInt64 rm), .long (Int32.toInt64 rm)]) (ob := []) rfl fm_n ?_
    refine gl_lcmp K (dOK_lk doc_50 (pc := 2724) rfl) ?_
    rw [lcm3_0]
    refine gl_y (tgt := 2730) K (dOK_lk doc_50 (pc := 2725) rfl) (by decide) rfl ?_
    refine gl_run K doc_50 1 (pc' := 3186) (lv' := [(6, .int rm), (5, .int t), (0, .ref 250), (1, .ref 0), (2, .ref 140), (3, .ref 162), (4, .int (nJ i))]) (st' := []) (ob := []) rfl fm_n ?_
    refine gl_lv (lv' := [(0, .ref 250), (1, .ref 0), (2, .ref 140), (3, .ref 162), (4, .int (nJ i))]) (fm_c (List.mem_of_getElem? (i := 2) rfl) (fm_c (List.mem_of_getElem? (i := 3) rfl) (fm_c (List.mem_of_getElem? (i := 4) rfl) (fm_c (List.mem_of_getElem? (i := 5) rfl) (fm_c (List.mem_of_getElem? (i := 6) rfl) fm_n))))) ?_
    exact gl_wide (by omega) (by omega) (kk _ J3)
  · refine gl_y (tgt := 2730) K (dOK_lk doc_50 (pc := 2715) rfl) (by decide) (cI_ne0 h0) ?_
    refine gl_run K doc_50 1 (pc' := 3186) (lv' := [(6, .int rm), (5, .int t), (0, .ref 250), (1, .ref 0), (2, .ref 140), (3, .ref 162), (4, .int (nJ i))]) (st' := []) (ob := []) rfl fm_n ?_
    refine gl_lv (lv' := [(0, .ref 250), (1, .ref 0), (2, .ref 140), (3, .ref 162), (4, .int (nJ i))]) (fm_c (List.mem_of_getElem? (i := 2) rfl) (fm_c (List.mem_of_getElem? (i := 3) rfl) (fm_c (List.mem_of_getElem? (i := 4) rfl) (fm_c (List.mem_of_getElem? (i := 5) rfl) (fm_c (List.mem_of_getElem? (i := 6) rfl) fm_n))))) ?_
    exact gl_wide (by omega) (by omega) (kk _ J3)
set_option maxRecDepth 100000 in
theorem cs_51 {p : Program} {l : Launch} {e : Env} {s : State} {m : MethodId} {below : List Frame} {meth : Method} {c : Code} {b L : Nat} {xs : Nat → Int32} {D : va_G} {cs : Nat → ClassId} {ad : Nat → Nat} {A : Nat → Prop} (K : LX p l s m meth c b L xs D cs ad A) {i : Nat} (hi : i + 6 ≤ L) (hL : L ≤ 3072) {σ : SG} (hJ : JW σ) {cells slots : Nat} (hcc : cells + 2 ≤ 601024) (hss : slots + 12 ≤ 7293034) (kk : ∀ σ', JW σ' → GL p l e s m below meth c b D cs ad A σ' (cells + 2) (slots + 12) 3186 [(0, .ref 250), (1, .ref 0), (2, .ref 140), (3, .ref 162), (4, .int (nJ i))] []) : GL p l e s m below meth c b D cs ad A σ cells slots 2733 [(0, .ref 250), (1, .ref 0), (2, .ref 140), (3, .ref 162), (4, .int (nJ i))] [] := by
  obtain ⟨Sc, Sm, hC, hM, R, M⟩ := hJ
  refine gl_run K doc_51 12 (pc' := 2747) (lv' := [(0, .ref 250), (1, .ref 0), (2, .ref 140), (3, .ref 162), (4, .int (nJ i))]) (st' := [.ref 162, .int (ag xs i 2), .int (ag xs i 1), .ref 0]) (ob := [nJ i + Int32.ofInt 1, nJ i + Int32.ofInt 2]) rfl (fm_c (ob_ok hi hL 1 (by decide)) (fm_c (ob_ok hi hL 2 (by decide)) fm_n)) ?_
  obtain ⟨f1, c1, t, σ1, f2, rm, σ2, f3, σ3, e1, hc, e2, e3, ob1, ob2, J3, hz⟩ := two (f := Int32.toInt64) (vM := vI) (a166 R M ((ag xs i 1)) ((ag xs i 2))) hC hM (fun rc rm S1 T h1 h2 => wr_356 (d := 0) h1 h2) (fun r h => S_303 (d := 0) h) (q_303 (d := 0) M) (fun c o T h => mRc h)
  refine gl_S (k' := 356) (As := [.ref 0, .int (ag xs i 1), .int (ag xs i 2), .ref 162]) (rest := []) K (dOK_lk doc_51 (pc := 2747) rfl) rfl lS_346 rfl (Nat.le_of_ble_eq_true rfl) (Nat.le_of_ble_eq_true rfl) (by decide) e1 (by omega) (by omega) ?_
  refine gl_run K doc_51 12 (pc' := 2765) (lv' := [(5, .int t), (0, .ref 250), (1, .ref 0), (2, .ref 140), (3, .ref 162), (4, .int (nJ i))]) (st' := [.int (ag xs i 2), .int (ag xs i 1), .ref 140]) (ob := [nJ i + Int32.ofInt 1, nJ i + Int32.ofInt 2]) rfl (fm_c (ob_ok hi hL 1 (by decide)) (fm_c (ob_ok hi hL 2 (by decide)) fm_n)) ?_
  refine gl_V (k' := 303) (As := [.int (ag xs i 1), .int (ag xs i 2)]) (rest := []) (ci := 11) (q := (RX12, TX12, 41)) K (dOK_lk doc_51 (pc := 2765) rfl) rfl rfl lV_348 rfl rfl rfl (Nat.le_of_ble_eq_true rfl) (Nat.le_of_ble_eq_true rfl) ob1 (by decide) e2 (by omega) (by omega) ?_
  refine gl_run K doc_51 2 (pc' := 2771) (lv' := [(6, .int rm), (5, .int t), (0, .ref 250), (1, .ref 0), (2, .ref 140), (3, .ref 162), (4, .int (nJ i))]) (st' := [.ref 140]) (ob := []) rfl fm_n ?_
  refine gl_V (k' := 367) (As := []) (rest := []) (ci := 11) (q := (RX12, TX12, 41)) K (dOK_lk doc_51 (pc := 2771) rfl) rfl rfl lV_187 rfl rfl rfl (Nat.le_of_ble_eq_true rfl) (Nat.le_of_ble_eq_true rfl) ob2 (by decide) e3 (by omega) (by omega) ?_
  refine gl_run K doc_51 1 (pc' := 2776) (lv' := [(6, .int rm), (5, .int t), (0, .ref 250), (1, .ref 0), (2, .ref 140), (3, .ref 162), (4, .int (nJ i))]) (st' := [.int t, .int t]) (ob := []) rfl fm_n ?_
  refine gl_eq (tgt := 2781) K (dOK_lk doc_51 (pc := 2776) rfl) (by decide) rfl ?_
  refine gl_run K doc_51 1 (pc' := 2783) (lv' := [(6, .int rm), (5, .int t), (0, .ref 250), (1, .ref 0), (2, .ref 140), (3, .ref 162), (4, .int (nJ i))]) (st' := [.int t]) (ob := []) rfl fm_n ?_
  by_cases h0 : t = 0
  · obtain ⟨g, hg1, hg2⟩ := hz h0
    refine gl_n (tgt := 2798) K (dOK_lk doc_51 (pc := 2783) rfl) (by decide) (cI_ne1 h0) ?_
    refine gl_run K doc_51 2 (pc' := 2788) (lv' := [(6, .int rm), (5, .int t), (0, .ref 250), (1, .ref 0), (2, .ref 140), (3, .ref 162), (4, .int (nJ i))]) (st' := [.int (Int32.ofInt 0), .ref 162]) (ob := []) rfl fm_n ?_
    refine gl_laload K (dOK_lk doc_51 (pc := 2788) rfl) hg1 ?_
    rw [hg2]
    refine gl_run K doc_51 2 (pc' := 2792) (lv' := [(6, .int rm), (5, .int t), (0, .ref 250), (1, .ref 0), (2, .ref 140), (3, .ref 162), (4, .int (nJ i))]) (st' := [.long (Int32.toInt64 rm), .long (Int32.toInt64 rm)]) (ob := []) rfl fm_n ?_
    refine gl_lcmp K (dOK_lk doc_51 (pc := 2792) rfl) ?_
    rw [lcm3_0]
    refine gl_y (tgt := 2798) K (dOK_lk doc_51 (pc := 2793) rfl) (by decide) rfl ?_
    refine gl_run K doc_51 1 (pc' := 3186) (lv' := [(6, .int rm), (5, .int t), (0, .ref 250), (1, .ref 0), (2, .ref 140), (3, .ref 162), (4, .int (nJ i))]) (st' := []) (ob := []) rfl fm_n ?_
    refine gl_lv (lv' := [(0, .ref 250), (1, .ref 0), (2, .ref 140), (3, .ref 162), (4, .int (nJ i))]) (fm_c (List.mem_of_getElem? (i := 2) rfl) (fm_c (List.mem_of_getElem? (i := 3) rfl) (fm_c (List.mem_of_getElem? (i := 4) rfl) (fm_c (List.mem_of_getElem? (i := 5) rfl) (fm_c (List.mem_of_getElem? (i := 6) rfl) fm_n))))) ?_
    exact gl_wide (by omega) (by omega) (kk _ J3)
  · refine gl_y (tgt := 2798) K (dOK_lk doc_51 (pc := 2783) rfl) (by decide) (cI_ne0 h0) ?_
    refine gl_run K doc_51 1 (pc' := 3186) (lv' := [(6, .int rm), (5, .int t), (0, .ref 250), (1, .ref 0), (2, .ref 140), (3, .ref 162), (4, .int (nJ i))]) (st' := []) (ob := []) rfl fm_n ?_
    refine gl_lv (lv' := [(0, .ref 250), (1, .ref 0), (2, .ref 140), (3, .ref 162), (4, .int (nJ i))]) (fm_c (List.mem_of_getElem? (i := 2) rfl) (fm_c (List.mem_of_getElem? (i := 3) rfl) (fm_c (List.mem_of_getElem? (i := 4) rfl) (fm_c (List.mem_of_getElem? (i := 5) rfl) (fm_c (List.mem_of_getElem? (i := 6) rfl) fm_n))))) ?_
    exact gl_wide (by omega) (by omega) (kk _ J3)
set_option maxRecDepth 100000 in
theorem cs_52 {p : Program} {l : Launch} {e : Env} {s : State} {m : MethodId} {below : List Frame} {meth : Method} {c : Code} {b L : Nat} {xs : Nat → Int32} {D : va_G} {cs : Nat → ClassId} {ad : Nat → Nat} {A : Nat → Prop} (K : LX p l s m meth c b L xs D cs ad A) {i : Nat} (hi : i + 6 ≤ L) (hL : L ≤ 3072) {σ : SG} (hJ : JW σ) {cells slots : Nat} (hcc : cells + 2 ≤ 601024) (hss : slots + 12 ≤ 7293034) (kk : ∀ σ', JW σ' → GL p l e s m below meth c b D cs ad A σ' (cells + 2) (slots + 12) 3186 [(0, .ref 250), (1, .ref 0), (2, .ref 140), (3, .ref 162), (4, .int (nJ i))] []) : GL p l e s m below meth c b D cs ad A σ cells slots 2801 [(0, .ref 250), (1, .ref 0), (2, .ref 140), (3, .ref 162), (4, .int (nJ i))] [] := by
  obtain ⟨Sc, Sm, hC, hM, R, M⟩ := hJ
  refine gl_run K doc_52 17 (pc' := 2821) (lv' := [(0, .ref 250), (1, .ref 0), (2, .ref 140), (3, .ref 162), (4, .int (nJ i))]) (st' := [.ref 162, .int (ag xs i 3), .int (ag xs i 2), .int (ag xs i 1), .ref 0]) (ob := [nJ i + Int32.ofInt 1, nJ i + Int32.ofInt 2, nJ i + Int32.ofInt 3]) rfl (fm_c (ob_ok hi hL 1 (by decide)) (fm_c (ob_ok hi hL 2 (by decide)) (fm_c (ob_ok hi hL 3 (by decide)) fm_n))) ?_
  obtain ⟨f1, c1, t, σ1, f2, rm, σ2, f3, σ3, e1, hc, e2, e3, ob1, ob2, J3, hz⟩ := two (f := Int32.toInt64) (vM := vI) (a167 R M ((ag xs i 1)) ((ag xs i 2)) ((ag xs i 3))) hC hM (fun rc rm S1 T h1 h2 => wr_357 (d := 0) h1 h2) (fun r h => S_307 (d := 0) h) (q_307 (d := 0) M) (fun c o T h => mRc h)
  refine gl_S (k' := 357) (As := [.ref 0, .int (ag xs i 1), .int (ag xs i 2), .int (ag xs i 3), .ref 162]) (rest := []) K (dOK_lk doc_52 (pc := 2821) rfl) rfl lS_349 rfl (Nat.le_of_ble_eq_true rfl) (Nat.le_of_ble_eq_true rfl) (by decide) e1 (by omega) (by omega) ?_
  refine gl_run K doc_52 17 (pc' := 2845) (lv' := [(5, .int t), (0, .ref 250), (1, .ref 0), (2, .ref 140), (3, .ref 162), (4, .int (nJ i))]) (st' := [.int (ag xs i 3), .int (ag xs i 2), .int (ag xs i 1), .ref 140]) (ob := [nJ i + Int32.ofInt 1, nJ i + Int32.ofInt 2, nJ i + Int32.ofInt 3]) rfl (fm_c (ob_ok hi hL 1 (by decide)) (fm_c (ob_ok hi hL 2 (by decide)) (fm_c (ob_ok hi hL 3 (by decide)) fm_n))) ?_
  refine gl_V (k' := 307) (As := [.int (ag xs i 1), .int (ag xs i 2), .int (ag xs i 3)]) (rest := []) (ci := 11) (q := (RX12, TX12, 41)) K (dOK_lk doc_52 (pc := 2845) rfl) rfl rfl lV_352 rfl rfl rfl (Nat.le_of_ble_eq_true rfl) (Nat.le_of_ble_eq_true rfl) ob1 (by decide) e2 (by omega) (by omega) ?_
  refine gl_run K doc_52 2 (pc' := 2851) (lv' := [(6, .int rm), (5, .int t), (0, .ref 250), (1, .ref 0), (2, .ref 140), (3, .ref 162), (4, .int (nJ i))]) (st' := [.ref 140]) (ob := []) rfl fm_n ?_
  refine gl_V (k' := 367) (As := []) (rest := []) (ci := 11) (q := (RX12, TX12, 41)) K (dOK_lk doc_52 (pc := 2851) rfl) rfl rfl lV_187 rfl rfl rfl (Nat.le_of_ble_eq_true rfl) (Nat.le_of_ble_eq_true rfl) ob2 (by decide) e3 (by omega) (by omega) ?_
  refine gl_run K doc_52 1 (pc' := 2856) (lv' := [(6, .int rm), (5, .int t), (0, .ref 250), (1, .ref 0), (2, .ref 140), (3, .ref 162), (4, .int (nJ i))]) (st' := [.int t, .int t]) (ob := []) rfl fm_n ?_
  refine gl_eq (tgt := 2861) K (dOK_lk doc_52 (pc := 2856) rfl) (by decide) rfl ?_
  refine gl_run K doc_52 1 (pc' := 2863) (lv' := [(6, .int rm), (5, .int t), (0, .ref 250), (1, .ref 0), (2, .ref 140), (3, .ref 162), (4, .int (nJ i))]) (st' := [.int t]) (ob := []) rfl fm_n ?_
  by_cases h0 : t = 0
  · obtain ⟨g, hg1, hg2⟩ := hz h0
    refine gl_n (tgt := 2878) K (dOK_lk doc_52 (pc := 2863) rfl) (by decide) (cI_ne1 h0) ?_
    refine gl_run K doc_52 2 (pc' := 2868) (lv' := [(6, .int rm), (5, .int t), (0, .ref 250), (1, .ref 0), (2, .ref 140), (3, .ref 162), (4, .int (nJ i))]) (st' := [.int (Int32.ofInt 0), .ref 162]) (ob := []) rfl fm_n ?_
    refine gl_laload K (dOK_lk doc_52 (pc := 2868) rfl) hg1 ?_
    rw [hg2]
    refine gl_run K doc_52 2 (pc' := 2872) (lv' := [(6, .int rm), (5, .int t), (0, .ref 250), (1, .ref 0), (2, .ref 140), (3, .ref 162), (4, .int (nJ i))]) (st' := [.long (Int32.toInt64 rm), .long (Int32.toInt64 rm)]) (ob := []) rfl fm_n ?_
    refine gl_lcmp K (dOK_lk doc_52 (pc := 2872) rfl) ?_
    rw [lcm3_0]
    refine gl_y (tgt := 2878) K (dOK_lk doc_52 (pc := 2873) rfl) (by decide) rfl ?_
    refine gl_run K doc_52 1 (pc' := 3186) (lv' := [(6, .int rm), (5, .int t), (0, .ref 250), (1, .ref 0), (2, .ref 140), (3, .ref 162), (4, .int (nJ i))]) (st' := []) (ob := []) rfl fm_n ?_
    refine gl_lv (lv' := [(0, .ref 250), (1, .ref 0), (2, .ref 140), (3, .ref 162), (4, .int (nJ i))]) (fm_c (List.mem_of_getElem? (i := 2) rfl) (fm_c (List.mem_of_getElem? (i := 3) rfl) (fm_c (List.mem_of_getElem? (i := 4) rfl) (fm_c (List.mem_of_getElem? (i := 5) rfl) (fm_c (List.mem_of_getElem? (i := 6) rfl) fm_n))))) ?_
    exact gl_wide (by omega) (by omega) (kk _ J3)
  · refine gl_y (tgt := 2878) K (dOK_lk doc_52 (pc := 2863) rfl) (by decide) (cI_ne0 h0) ?_
    refine gl_run K doc_52 1 (pc' := 3186) (lv' := [(6, .int rm), (5, .int t), (0, .ref 250), (1, .ref 0), (2, .ref 140), (3, .ref 162), (4, .int (nJ i))]) (st' := []) (ob := []) rfl fm_n ?_
    refine gl_lv (lv' := [(0, .ref 250), (1, .ref 0), (2, .ref 140), (3, .ref 162), (4, .int (nJ i))]) (fm_c (List.mem_of_getElem? (i := 2) rfl) (fm_c (List.mem_of_getElem? (i := 3) rfl) (fm_c (List.mem_of_getElem? (i := 4) rfl) (fm_c (List.mem_of_getElem? (i := 5) rfl) (fm_c (List.mem_of_getElem? (i := 6) rfl) fm_n))))) ?_
    exact gl_wide (by omega) (by omega) (kk _ J3)
set_option maxRecDepth 100000 in
theorem cs_53 {p : Program} {l : Launch} {e : Env} {s : State} {m : MethodId} {below : List Frame} {meth : Method} {c : Code} {b L : Nat} {xs : Nat → Int32} {D : va_G} {cs : Nat → ClassId} {ad : Nat → Nat} {A : Nat → Prop} (K : LX p l s m meth c b L xs D cs ad A) {i : Nat} (hi : i + 6 ≤ L) (hL : L ≤ 3072) {σ : SG} (hJ : JW σ) {cells slots : Nat} (hcc : cells + 2 ≤ 601024) (hss : slots + 12 ≤ 7293034) (kk : ∀ σ', JW σ' → GL p l e s m below meth c b D cs ad A σ' (cells + 2) (slots + 12) 3186 [(0, .ref 250), (1, .ref 0), (2, .ref 140), (3, .ref 162), (4, .int (nJ i))] []) : GL p l e s m below meth c b D cs ad A σ cells slots 2881 [(0, .ref 250), (1, .ref 0), (2, .ref 140), (3, .ref 162), (4, .int (nJ i))] [] := by
  obtain ⟨Sc, Sm, hC, hM, R, M⟩ := hJ
  refine gl_run K doc_53 17 (pc' := 2901) (lv' := [(0, .ref 250), (1, .ref 0), (2, .ref 140), (3, .ref 162), (4, .int (nJ i))]) (st' := [.ref 162, .int (ag xs i 3), .int (ag xs i 2), .int (ag xs i 1), .ref 0]) (ob := [nJ i + Int32.ofInt 1, nJ i + Int32.ofInt 2, nJ i + Int32.ofInt 3]) rfl (fm_c (ob_ok hi hL 1 (by decide)) (fm_c (ob_ok hi hL 2 (by decide)) (fm_c (ob_ok hi hL 3 (by decide)) fm_n))) ?_
  obtain ⟨f1, c1, t, σ1, f2, rm, σ2, f3, σ3, e1, hc, e2, e3, ob1, ob2, J3, hz⟩ := two (f := Int32.toInt64) (vM := vI) (a168 R M ((ag xs i 1)) ((ag xs i 2)) ((ag xs i 3))) hC hM (fun rc rm S1 T h1 h2 => wr_358 (d := 0) h1 h2) (fun r h => S_308 (d := 0) h) (q_308 (d := 0) M) (fun c o T h => mRc h)
  refine gl_S (k' := 358) (As := [.ref 0, .int (ag xs i 1), .int (ag xs i 2), .int (ag xs i 3), .ref 162]) (rest := []) K (dOK_lk doc_53 (pc := 2901) rfl) rfl lS_353 rfl (Nat.le_of_ble_eq_true rfl) (Nat.le_of_ble_eq_true rfl) (by decide) e1 (by omega) (by omega) ?_
  refine gl_run K doc_53 17 (pc' := 2925) (lv' := [(5, .int t), (0, .ref 250), (1, .ref 0), (2, .ref 140), (3, .ref 162), (4, .int (nJ i))]) (st' := [.int (ag xs i 3), .int (ag xs i 2), .int (ag xs i 1), .ref 140]) (ob := [nJ i + Int32.ofInt 1, nJ i + Int32.ofInt 2, nJ i + Int32.ofInt 3]) rfl (fm_c (ob_ok hi hL 1 (by decide)) (fm_c (ob_ok hi hL 2 (by decide)) (fm_c (ob_ok hi hL 3 (by decide)) fm_n))) ?_
  refine gl_V (k' := 308) (As := [.int (ag xs i 1), .int (ag xs i 2), .int (ag xs i 3)]) (rest := []) (ci := 11) (q := (RX12, TX12, 41)) K (dOK_lk doc_53 (pc := 2925) rfl) rfl rfl lV_355 rfl rfl rfl (Nat.le_of_ble_eq_true rfl) (Nat.le_of_ble_eq_true rfl) ob1 (by decide) e2 (by omega) (by omega) ?_
  refine gl_run K doc_53 2 (pc' := 2931) (lv' := [(6, .int rm), (5, .int t), (0, .ref 250), (1, .ref 0), (2, .ref 140), (3, .ref 162), (4, .int (nJ i))]) (st' := [.ref 140]) (ob := []) rfl fm_n ?_
  refine gl_V (k' := 367) (As := []) (rest := []) (ci := 11) (q := (RX12, TX12, 41)) K (dOK_lk doc_53 (pc := 2931) rfl) rfl rfl lV_187 rfl rfl rfl (Nat.le_of_ble_eq_true rfl) (Nat.le_of_ble_eq_true rfl) ob2 (by decide) e3 (by omega) (by omega) ?_
  refine gl_run K doc_53 1 (pc' := 2936) (lv' := [(6, .int rm), (5, .int t), (0, .ref 250), (1, .ref 0), (2, .ref 140), (3, .ref 162), (4, .int (nJ i))]) (st' := [.int t, .int t]) (ob := []) rfl fm_n ?_
  refine gl_eq (tgt := 2941) K (dOK_lk doc_53 (pc := 2936) rfl) (by decide) rfl ?_
  refine gl_run K doc_53 1 (pc' := 2943) (lv' := [(6, .int rm), (5, .int t), (0, .ref 250), (1, .ref 0), (2, .ref 140), (3, .ref 162), (4, .int (nJ i))]) (st' := [.int t]) (ob := []) rfl fm_n ?_
  by_cases h0 : t = 0
  · obtain ⟨g, hg1, hg2⟩ := hz h0
    refine gl_n (tgt := 2958) K (dOK_lk doc_53 (pc := 2943) rfl) (by decide) (cI_ne1 h0) ?_
    refine gl_run K doc_53 2 (pc' := 2948) (lv' := [(6, .int rm), (5, .int t), (0, .ref 250), (1, .ref 0), (2, .ref 140), (3, .ref 162), (4, .int (nJ i))]) (st' := [.int (Int32.ofInt 0), .ref 162]) (ob := []) rfl fm_n ?_
    refine gl_laload K (dOK_lk doc_53 (pc := 2948) rfl) hg1 ?_
    rw [hg2]
    refine gl_run K doc_53 2 (pc' := 2952) (lv' := [(6, .int rm), (5, .int t), (0, .ref 250), (1, .ref 0), (2, .ref 140), (3, .ref 162), (4, .int (nJ i))]) (st' := [.long (Int32.toInt64 rm), .long (Int32.toInt64 rm)]) (ob := []) rfl fm_n ?_
    refine gl_lcmp K (dOK_lk doc_53 (pc := 2952) rfl) ?_
    rw [lcm3_0]
    refine gl_y (tgt := 2958) K (dOK_lk doc_53 (pc := 2953) rfl) (by decide) rfl ?_
    refine gl_run K doc_53 1 (pc' := 3186) (lv' := [(6, .int rm), (5, .int t), (0, .ref 250), (1, .ref 0), (2, .ref 140), (3, .ref 162), (4, .int (nJ i))]) (st' := []) (ob := []) rfl fm_n ?_
    refine gl_lv (lv' := [(0, .ref 250), (1, .ref 0), (2, .ref 140), (3, .ref 162), (4, .int (nJ i))]) (fm_c (List.mem_of_getElem? (i := 2) rfl) (fm_c (List.mem_of_getElem? (i := 3) rfl) (fm_c (List.mem_of_getElem? (i := 4) rfl) (fm_c (List.mem_of_getElem? (i := 5) rfl) (fm_c (List.mem_of_getElem? (i := 6) rfl) fm_n))))) ?_
    exact gl_wide (by omega) (by omega) (kk _ J3)
  · refine gl_y (tgt := 2958) K (dOK_lk doc_53 (pc := 2943) rfl) (by decide) (cI_ne0 h0) ?_
    refine gl_run K doc_53 1 (pc' := 3186) (lv' := [(6, .int rm), (5, .int t), (0, .ref 250), (1, .ref 0), (2, .ref 140), (3, .ref 162), (4, .int (nJ i))]) (st' := []) (ob := []) rfl fm_n ?_
    refine gl_lv (lv' := [(0, .ref 250), (1, .ref 0), (2, .ref 140), (3, .ref 162), (4, .int (nJ i))]) (fm_c (List.mem_of_getElem? (i := 2) rfl) (fm_c (List.mem_of_getElem? (i := 3) rfl) (fm_c (List.mem_of_getElem? (i := 4) rfl) (fm_c (List.mem_of_getElem? (i := 5) rfl) (fm_c (List.mem_of_getElem? (i := 6) rfl) fm_n))))) ?_
    exact gl_wide (by omega) (by omega) (kk _ J3)
set_option maxRecDepth 100000 in
theorem cs_54 {p : Program} {l : Launch} {e : Env} {s : State} {m : MethodId} {below : List Frame} {meth : Method} {c : Code} {b L : Nat} {xs : Nat → Int32} {D : va_G} {cs : Nat → ClassId} {ad : Nat → Nat} {A : Nat → Prop} (K : LX p l s m meth c b L xs D cs ad A) {i : Nat} (hi : i + 6 ≤ L) (hL : L ≤ 3072) {σ : SG} (hJ : JW σ) {cells slots : Nat} (hcc : cells + 2 ≤ 601024) (hss : slots + 12 ≤ 7293034) (kk : ∀ σ', JW σ' → GL p l e s m below meth c b D cs ad A σ' (cells + 2) (slots + 12) 3186 [(0, .ref 250), (1, .ref 0), (2, .ref 140), (3, .ref 162), (4, .int (nJ i))] []) : GL p l e s m below meth c b D cs ad A σ cells slots 2961 [(0, .ref 250), (1, .ref 0), (2, .ref 140), (3, .ref 162), (4, .int (nJ i))] [] := by
  obtain ⟨Sc, Sm, hC, hM, R, M⟩ := hJ
  refine gl_run K doc_54 7 (pc' := 2969) (lv' := [(0, .ref 250), (1, .ref 0), (2, .ref 140), (3, .ref 162), (4, .int (nJ i))]) (st' := [.ref 162, .int (ag xs i 1), .ref 0]) (ob := [nJ i + Int32.ofInt 1]) rfl (fm_c (ob_ok hi hL 1 (by decide)) fm_n) ?_
  obtain ⟨f1, c1, t, σ1, f2, rm, σ2, f3, σ3, e1, hc, e2, e3, ob1, ob2, J3, hz⟩ := two (f := Int32.toInt64) (vM := vI) (a169 R M ((ag xs i 1))) hC hM (fun rc rm S1 T h1 h2 => wr_359 (d := 0) h1 h2) (fun r h => S_309 (d := 0) h) (q_309 (d := 0) M) (fun c o T h => mRc h)
  refine gl_S (k' := 359) (As := [.ref 0, .int (ag xs i 1), .ref 162]) (rest := []) K (dOK_lk doc_54 (pc := 2969) rfl) rfl lS_356 rfl (Nat.le_of_ble_eq_true rfl) (Nat.le_of_ble_eq_true rfl) (by decide) e1 (by omega) (by omega) ?_
  refine gl_run K doc_54 7 (pc' := 2981) (lv' := [(5, .int t), (0, .ref 250), (1, .ref 0), (2, .ref 140), (3, .ref 162), (4, .int (nJ i))]) (st' := [.int (ag xs i 1), .ref 140]) (ob := [nJ i + Int32.ofInt 1]) rfl (fm_c (ob_ok hi hL 1 (by decide)) fm_n) ?_
  refine gl_V (k' := 309) (As := [.int (ag xs i 1)]) (rest := []) (ci := 11) (q := (RX12, TX12, 41)) K (dOK_lk doc_54 (pc := 2981) rfl) rfl rfl lV_358 rfl rfl rfl (Nat.le_of_ble_eq_true rfl) (Nat.le_of_ble_eq_true rfl) ob1 (by decide) e2 (by omega) (by omega) ?_
  refine gl_run K doc_54 2 (pc' := 2987) (lv' := [(6, .int rm), (5, .int t), (0, .ref 250), (1, .ref 0), (2, .ref 140), (3, .ref 162), (4, .int (nJ i))]) (st' := [.ref 140]) (ob := []) rfl fm_n ?_
  refine gl_V (k' := 367) (As := []) (rest := []) (ci := 11) (q := (RX12, TX12, 41)) K (dOK_lk doc_54 (pc := 2987) rfl) rfl rfl lV_187 rfl rfl rfl (Nat.le_of_ble_eq_true rfl) (Nat.le_of_ble_eq_true rfl) ob2 (by decide) e3 (by omega) (by omega) ?_
  refine gl_run K doc_54 1 (pc' := 2992) (lv' := [(6, .int rm), (5, .int t), (0, .ref 250), (1, .ref 0), (2, .ref 140), (3, .ref 162), (4, .int (nJ i))]) (st' := [.int t, .int t]) (ob := []) rfl fm_n ?_
  refine gl_eq (tgt := 2997) K (dOK_lk doc_54 (pc := 2992) rfl) (by decide) rfl ?_
  refine gl_run K doc_54 1 (pc' := 2999) (lv' := [(6, .int rm), (5, .int t), (0, .ref 250), (1, .ref 0), (2, .ref 140), (3, .ref 162), (4, .int (nJ i))]) (st' := [.int t]) (ob := []) rfl fm_n ?_
  by_cases h0 : t = 0
  · obtain ⟨g, hg1, hg2⟩ := hz h0
    refine gl_n (tgt := 3014) K (dOK_lk doc_54 (pc := 2999) rfl) (by decide) (cI_ne1 h0) ?_
    refine gl_run K doc_54 2 (pc' := 3004) (lv' := [(6, .int rm), (5, .int t), (0, .ref 250), (1, .ref 0), (2, .ref 140), (3, .ref 162), (4, .int (nJ i))]) (st' := [.int (Int32.ofInt 0), .ref 162]) (ob := []) rfl fm_n ?_
    refine gl_laload K (dOK_lk doc_54 (pc := 3004) rfl) hg1 ?_
    rw [hg2]
    refine gl_run K doc_54 2 (pc' := 3008) (lv' := [(6, .int rm), (5, .int t), (0, .ref 250), (1, .ref 0), (2, .ref 140), (3, .ref 162), (4, .int (nJ i))]) (st' := [.long (Int32.toInt64 rm), .long (Int32.toInt64 rm)]) (ob := []) rfl fm_n ?_
    refine gl_lcmp K (dOK_lk doc_54 (pc := 3008) rfl) ?_
    rw [lcm3_0]
    refine gl_y (tgt := 3014) K (dOK_lk doc_54 (pc := 3009) rfl) (by decide) rfl ?_
    refine gl_run K doc_54 1 (pc' := 3186) (lv' := [(6, .int rm), (5, .int t), (0, .ref 250), (1, .ref 0), (2, .ref 140), (3, .ref 162), (4, .int (nJ i))]) (st' := []) (ob := []) rfl fm_n ?_
    refine gl_lv (lv' := [(0, .ref 250), (1, .ref 0), (2, .ref 140), (3, .ref 162), (4, .int (nJ i))]) (fm_c (List.mem_of_getElem? (i := 2) rfl) (fm_c (List.mem_of_getElem? (i := 3) rfl) (fm_c (List.mem_of_getElem? (i := 4) rfl) (fm_c (List.mem_of_getElem? (i := 5) rfl) (fm_c (List.mem_of_getElem? (i := 6) rfl) fm_n))))) ?_
    exact gl_wide (by omega) (by omega) (kk _ J3)
  · refine gl_y (tgt := 3014) K (dOK_lk doc_54 (pc := 2999) rfl) (by decide) (cI_ne0 h0) ?_
    refine gl_run K doc_54 1 (pc' := 3186) (lv' := [(6, .int rm), (5, .int t), (0, .ref 250), (1, .ref 0), (2, .ref 140), (3, .ref 162), (4, .int (nJ i))]) (st' := []) (ob := []) rfl fm_n ?_
    refine gl_lv (lv' := [(0, .ref 250), (1, .ref 0), (2, .ref 140), (3, .ref 162), (4, .int (nJ i))]) (fm_c (List.mem_of_getElem? (i := 2) rfl) (fm_c (List.mem_of_getElem? (i := 3) rfl) (fm_c (List.mem_of_getElem? (i := 4) rfl) (fm_c (List.mem_of_getElem? (i := 5) rfl) (fm_c (List.mem_of_getElem? (i := 6) rfl) fm_n))))) ?_
    exact gl_wide (by omega) (by omega) (kk _ J3)
set_option maxRecDepth 100000 in
theorem cs_55 {p : Program} {l : Launch} {e : Env} {s : State} {m : MethodId} {below : List Frame} {meth : Method} {c : Code} {b L : Nat} {xs : Nat → Int32} {D : va_G} {cs : Nat → ClassId} {ad : Nat → Nat} {A : Nat → Prop} (K : LX p l s m meth c b L xs D cs ad A) {i : Nat} (hi : i + 6 ≤ L) (hL : L ≤ 3072) {σ : SG} (hJ : JW σ) {cells slots : Nat} (hcc : cells + 2 ≤ 601024) (hss : slots + 12 ≤ 7293034) (kk : ∀ σ', JW σ' → GL p l e s m below meth c b D cs ad A σ' (cells + 2) (slots + 12) 3186 [(0, .ref 250), (1, .ref 0), (2, .ref 140), (3, .ref 162), (4, .int (nJ i))] []) : GL p l e s m below meth c b D cs ad A σ cells slots 3017 [(0, .ref 250), (1, .ref 0), (2, .ref 140), (3, .ref 162), (4, .int (nJ i))] [] := by
  obtain ⟨Sc, Sm, hC, hM, R, M⟩ := hJ
  refine gl_run K doc_55 2 (pc' := 3019) (lv' := [(0, .ref 250), (1, .ref 0), (2, .ref 140), (3, .ref 162), (4, .int (nJ i))]) (st' := [.ref 162, .ref 0]) (ob := []) rfl fm_n ?_
  obtain ⟨f1, c1, t, σ1, f2, rm, σ2, f3, σ3, e1, hc, e2, e3, ob1, ob2, J3, hz⟩ := two (f := Int32.toInt64) (vM := vI) (a170 R M) hC hM (fun rc rm S1 T h1 h2 => wr_360 (d := 0) h1 h2) (fun r h => S_310 (d := 0) h) (q_310 (d := 0) M) (fun c o T h => mRc h)
  refine gl_S (k' := 360) (As := [.ref 0, .ref 162]) (rest := []) K (dOK_lk doc_55 (pc := 3019) rfl) rfl lS_359 rfl (Nat.le_of_ble_eq_true rfl) (Nat.le_of_ble_eq_true rfl) (by decide) e1 (by omega) (by omega) ?_
  refine gl_run K doc_55 2 (pc' := 3025) (lv' := [(5, .int t), (0, .ref 250), (1, .ref 0), (2, .ref 140), (3, .ref 162), (4, .int (nJ i))]) (st' := [.ref 140]) (ob := []) rfl fm_n ?_
  refine gl_V (k' := 310) (As := []) (rest := []) (ci := 11) (q := (RX12, TX12, 41)) K (dOK_lk doc_55 (pc := 3025) rfl) rfl rfl lV_361 rfl rfl rfl (Nat.le_of_ble_eq_true rfl) (Nat.le_of_ble_eq_true rfl) ob1 (by decide) e2 (by omega) (by omega) ?_
  refine gl_run K doc_55 2 (pc' := 3031) (lv' := [(6, .int rm), (5, .int t), (0, .ref 250), (1, .ref 0), (2, .ref 140), (3, .ref 162), (4, .int (nJ i))]) (st' := [.ref 140]) (ob := []) rfl fm_n ?_
  refine gl_V (k' := 367) (As := []) (rest := []) (ci := 11) (q := (RX12, TX12, 41)) K (dOK_lk doc_55 (pc := 3031) rfl) rfl rfl lV_187 rfl rfl rfl (Nat.le_of_ble_eq_true rfl) (Nat.le_of_ble_eq_true rfl) ob2 (by decide) e3 (by omega) (by omega) ?_
  refine gl_run K doc_55 1 (pc' := 3036) (lv' := [(6, .int rm), (5, .int t), (0, .ref 250), (1, .ref 0), (2, .ref 140), (3, .ref 162), (4, .int (nJ i))]) (st' := [.int t, .int t]) (ob := []) rfl fm_n ?_
  refine gl_eq (tgt := 3041) K (dOK_lk doc_55 (pc := 3036) rfl) (by decide) rfl ?_
  refine gl_run K doc_55 1 (pc' := 3043) (lv' := [(6, .int rm), (5, .int t), (0, .ref 250), (1, .ref 0), (2, .ref 140), (3, .ref 162), (4, .int (nJ i))]) (st' := [.int t]) (ob := []) rfl fm_n ?_
  by_cases h0 : t = 0
  · obtain ⟨g, hg1, hg2⟩ := hz h0
    refine gl_n (tgt := 3058) K (dOK_lk doc_55 (pc := 3043) rfl) (by decide) (cI_ne1 h0) ?_
    refine gl_run K doc_55 2 (pc' := 3048) (lv' := [(6, .int rm), (5, .int t), (0, .ref 250), (1, .ref 0), (2, .ref 140), (3, .ref 162), (4, .int (nJ i))]) (st' := [.int (Int32.ofInt 0), .ref 162]) (ob := []) rfl fm_n ?_
    refine gl_laload K (dOK_lk doc_55 (pc := 3048) rfl) hg1 ?_
    rw [hg2]
    refine gl_run K doc_55 2 (pc' := 3052) (lv' := [(6, .int rm), (5, .int t), (0, .ref 250), (1, .ref 0), (2, .ref 140), (3, .ref 162), (4, .int (nJ i))]) (st' := [.long (Int32.toInt64 rm), .long (Int32.toInt64 rm)]) (ob := []) rfl fm_n ?_
    refine gl_lcmp K (dOK_lk doc_55 (pc := 3052) rfl) ?_
    rw [lcm3_0]
    refine gl_y (tgt := 3058) K (dOK_lk doc_55 (pc := 3053) rfl) (by decide) rfl ?_
    refine gl_run K doc_55 1 (pc' := 3186) (lv' := [(6, .int rm), (5, .int t), (0, .ref 250), (1, .ref 0), (2, .ref 140), (3, .ref 162), (4, .int (nJ i))]) (st' := []) (ob := []) rfl fm_n ?_
    refine gl_lv (lv' := [(0, .ref 250), (1, .ref 0), (2, .ref 140), (3, .ref 162), (4, .int (nJ i))]) (fm_c (List.mem_of_getElem? (i := 2) rfl) (fm_c (List.mem_of_getElem? (i := 3) rfl) (fm_c (List.mem_of_getElem? (i := 4) rfl) (fm_c (List.mem_of_getElem? (i := 5) rfl) (fm_c (List.mem_of_getElem? (i := 6) rfl) fm_n))))) ?_
    exact gl_wide (by omega) (by omega) (kk _ J3)
  · refine gl_y (tgt := 3058) K (dOK_lk doc_55 (pc := 3043) rfl) (by decide) (cI_ne0 h0) ?_
    refine gl_run K doc_55 1 (pc' := 3186) (lv' := [(6, .int rm), (5, .int t), (0, .ref 250), (1, .ref 0), (2, .ref 140), (3, .ref 162), (4, .int (nJ i))]) (st' := []) (ob := []) rfl fm_n ?_
    refine gl_lv (lv' := [(0, .ref 250), (1, .ref 0), (2, .ref 140), (3, .ref 162), (4, .int (nJ i))]) (fm_c (List.mem_of_getElem? (i := 2) rfl) (fm_c (List.mem_of_getElem? (i := 3) rfl) (fm_c (List.mem_of_getElem? (i := 4) rfl) (fm_c (List.mem_of_getElem? (i := 5) rfl) (fm_c (List.mem_of_getElem? (i := 6) rfl) fm_n))))) ?_
    exact gl_wide (by omega) (by omega) (kk _ J3)
set_option maxRecDepth 100000 in
theorem cs_56 {p : Program} {l : Launch} {e : Env} {s : State} {m : MethodId} {below : List Frame} {meth : Method} {c : Code} {b L : Nat} {xs : Nat → Int32} {D : va_G} {cs : Nat → ClassId} {ad : Nat → Nat} {A : Nat → Prop} (K : LX p l s m meth c b L xs D cs ad A) {i : Nat} (hi : i + 6 ≤ L) (hL : L ≤ 3072) {σ : SG} (hJ : JW σ) {cells slots : Nat} (hcc : cells + 2 ≤ 601024) (hss : slots + 12 ≤ 7293034) (kk : ∀ σ', JW σ' → GL p l e s m below meth c b D cs ad A σ' (cells + 2) (slots + 12) 3186 [(0, .ref 250), (1, .ref 0), (2, .ref 140), (3, .ref 162), (4, .int (nJ i))] []) : GL p l e s m below meth c b D cs ad A σ cells slots 3061 [(0, .ref 250), (1, .ref 0), (2, .ref 140), (3, .ref 162), (4, .int (nJ i))] [] := by
  obtain ⟨Sc, Sm, hC, hM, R, M⟩ := hJ
  refine gl_run K doc_56 1 (pc' := 3062) (lv' := [(0, .ref 250), (1, .ref 0), (2, .ref 140), (3, .ref 162), (4, .int (nJ i))]) (st' := [.ref 0]) (ob := []) rfl fm_n ?_
  obtain ⟨Sm', h2, R'⟩ := a171 R M
  obtain ⟨f1, σ1, f2, σ2, e1, e2, ob1, J3⟩ := two1 hC hM R' (S_171 (d := 0) rfl) (S_224 (d := 0) h2) (q_224 (d := 0) M) (fun c o T h => mRi h)
  generalize F_171 Sc = aa at e1 e2
  refine gl_V (k' := 171) (As := []) (rest := []) (ci := 10) (q := (RX11, TX11, 18)) K (dOK_lk doc_56 (pc := 3062) rfl) rfl rfl lV_362 rfl rfl rfl (Nat.le_of_ble_eq_true rfl) (Nat.le_of_ble_eq_true rfl) (obj_c hC) (by decide) e1 (by omega) (by omega) ?_
  refine gl_run K doc_56 1 (pc' := 3066) (lv' := [(0, .ref 250), (1, .ref 0), (2, .ref 140), (3, .ref 162), (4, .int (nJ i))]) (st' := [.ref 140, .int aa]) (ob := []) rfl fm_n ?_
  refine gl_V (k' := 224) (As := []) (rest := [.int aa]) (ci := 11) (q := (RX12, TX12, 41)) K (dOK_lk doc_56 (pc := 3066) rfl) rfl rfl lV_365 rfl rfl rfl (Nat.le_of_ble_eq_true rfl) (Nat.le_of_ble_eq_true rfl) ob1 (by decide) e2 (by omega) (by omega) ?_
  refine gl_eq (tgt := 3186) K (dOK_lk doc_56 (pc := 3069) rfl) (by decide) rfl ?_
  refine gl_lv (lv' := [(0, .ref 250), (1, .ref 0), (2, .ref 140), (3, .ref 162), (4, .int (nJ i))]) (fm_c (List.mem_of_getElem? (i := 0) rfl) (fm_c (List.mem_of_getElem? (i := 1) rfl) (fm_c (List.mem_of_getElem? (i := 2) rfl) (fm_c (List.mem_of_getElem? (i := 3) rfl) (fm_c (List.mem_of_getElem? (i := 4) rfl) fm_n))))) ?_
  exact gl_wide (by omega) (by omega) (kk _ J3)
set_option maxRecDepth 100000 in
theorem cs_57 {p : Program} {l : Launch} {e : Env} {s : State} {m : MethodId} {below : List Frame} {meth : Method} {c : Code} {b L : Nat} {xs : Nat → Int32} {D : va_G} {cs : Nat → ClassId} {ad : Nat → Nat} {A : Nat → Prop} (K : LX p l s m meth c b L xs D cs ad A) {i : Nat} (hi : i + 6 ≤ L) (hL : L ≤ 3072) {σ : SG} (hJ : JW σ) {cells slots : Nat} (hcc : cells + 2 ≤ 601024) (hss : slots + 12 ≤ 7293034) (kk : ∀ σ', JW σ' → GL p l e s m below meth c b D cs ad A σ' (cells + 2) (slots + 12) 3186 [(0, .ref 250), (1, .ref 0), (2, .ref 140), (3, .ref 162), (4, .int (nJ i))] []) : GL p l e s m below meth c b D cs ad A σ cells slots 3074 [(0, .ref 250), (1, .ref 0), (2, .ref 140), (3, .ref 162), (4, .int (nJ i))] [] := by
  obtain ⟨Sc, Sm, hC, hM, R, M⟩ := hJ
  refine gl_run K doc_57 7 (pc' := 3082) (lv' := [(0, .ref 250), (1, .ref 0), (2, .ref 140), (3, .ref 162), (4, .int (nJ i))]) (st' := [.ref 162, .int (ag xs i 1), .ref 0]) (ob := [nJ i + Int32.ofInt 1]) rfl (fm_c (ob_ok hi hL 1 (by decide)) fm_n) ?_
  obtain ⟨f1, c1, t, σ1, f2, rm, σ2, f3, σ3, e1, hc, e2, e3, ob1, ob2, J3, hz⟩ := two (f := Int32.toInt64) (vM := vI) (a172 R M ((ag xs i 1))) hC hM (fun rc rm S1 T h1 h2 => wr_361 (d := 0) h1 h2) (fun r h => S_311 (d := 0) h) (q_311 (d := 0) M) (fun c o T h => mRc h)
  refine gl_S (k' := 361) (As := [.ref 0, .int (ag xs i 1), .ref 162]) (rest := []) K (dOK_lk doc_57 (pc := 3082) rfl) rfl lS_366 rfl (Nat.le_of_ble_eq_true rfl) (Nat.le_of_ble_eq_true rfl) (by decide) e1 (by omega) (by omega) ?_
  refine gl_run K doc_57 7 (pc' := 3094) (lv' := [(5, .int t), (0, .ref 250), (1, .ref 0), (2, .ref 140), (3, .ref 162), (4, .int (nJ i))]) (st' := [.int (ag xs i 1), .ref 140]) (ob := [nJ i + Int32.ofInt 1]) rfl (fm_c (ob_ok hi hL 1 (by decide)) fm_n) ?_
  refine gl_V (k' := 311) (As := [.int (ag xs i 1)]) (rest := []) (ci := 11) (q := (RX12, TX12, 41)) K (dOK_lk doc_57 (pc := 3094) rfl) rfl rfl lV_368 rfl rfl rfl (Nat.le_of_ble_eq_true rfl) (Nat.le_of_ble_eq_true rfl) ob1 (by decide) e2 (by omega) (by omega) ?_
  refine gl_run K doc_57 2 (pc' := 3100) (lv' := [(6, .int rm), (5, .int t), (0, .ref 250), (1, .ref 0), (2, .ref 140), (3, .ref 162), (4, .int (nJ i))]) (st' := [.ref 140]) (ob := []) rfl fm_n ?_
  refine gl_V (k' := 367) (As := []) (rest := []) (ci := 11) (q := (RX12, TX12, 41)) K (dOK_lk doc_57 (pc := 3100) rfl) rfl rfl lV_187 rfl rfl rfl (Nat.le_of_ble_eq_true rfl) (Nat.le_of_ble_eq_true rfl) ob2 (by decide) e3 (by omega) (by omega) ?_
  refine gl_run K doc_57 1 (pc' := 3105) (lv' := [(6, .int rm), (5, .int t), (0, .ref 250), (1, .ref 0), (2, .ref 140), (3, .ref 162), (4, .int (nJ i))]) (st' := [.int t, .int t]) (ob := []) rfl fm_n ?_
  refine gl_eq (tgt := 3110) K (dOK_lk doc_57 (pc := 3105) rfl) (by decide) rfl ?_
  refine gl_run K doc_57 1 (pc' := 3112) (lv' := [(6, .int rm), (5, .int t), (0, .ref 250), (1, .ref 0), (2, .ref 140), (3, .ref 162), (4, .int (nJ i))]) (st' := [.int t]) (ob := []) rfl fm_n ?_
  by_cases h0 : t = 0
  · obtain ⟨g, hg1, hg2⟩ := hz h0
    refine gl_n (tgt := 3127) K (dOK_lk doc_57 (pc := 3112) rfl) (by decide) (cI_ne1 h0) ?_
    refine gl_run K doc_57 2 (pc' := 3117) (lv' := [(6, .int rm), (5, .int t), (0, .ref 250), (1, .ref 0), (2, .ref 140), (3, .ref 162), (4, .int (nJ i))]) (st' := [.int (Int32.ofInt 0), .ref 162]) (ob := []) rfl fm_n ?_
    refine gl_laload K (dOK_lk doc_57 (pc := 3117) rfl) hg1 ?_
    rw [hg2]
    refine gl_run K doc_57 2 (pc' := 3121) (lv' := [(6, .int rm), (5, .int t), (0, .ref 250), (1, .ref 0), (2, .ref 140), (3, .ref 162), (4, .int (nJ i))]) (st' := [.long (Int32.toInt64 rm), .long (Int32.toInt64 rm)]) (ob := []) rfl fm_n ?_
    refine gl_lcmp K (dOK_lk doc_57 (pc := 3121) rfl) ?_
    rw [lcm3_0]
    refine gl_y (tgt := 3127) K (dOK_lk doc_57 (pc := 3122) rfl) (by decide) rfl ?_
    refine gl_run K doc_57 1 (pc' := 3186) (lv' := [(6, .int rm), (5, .int t), (0, .ref 250), (1, .ref 0), (2, .ref 140), (3, .ref 162), (4, .int (nJ i))]) (st' := []) (ob := []) rfl fm_n ?_
    refine gl_lv (lv' := [(0, .ref 250), (1, .ref 0), (2, .ref 140), (3, .ref 162), (4, .int (nJ i))]) (fm_c (List.mem_of_getElem? (i := 2) rfl) (fm_c (List.mem_of_getElem? (i := 3) rfl) (fm_c (List.mem_of_getElem? (i := 4) rfl) (fm_c (List.mem_of_getElem? (i := 5) rfl) (fm_c (List.mem_of_getElem? (i := 6) rfl) fm_n))))) ?_
    exact gl_wide (by omega) (by omega) (kk _ J3)
  · refine gl_y (tgt := 3127) K (dOK_lk doc_57 (pc := 3112) rfl) (by decide) (cI_ne0 h0) ?_
    refine gl_run K doc_57 1 (pc' := 3186) (lv' := [(6, .int rm), (5, .int t), (0, .ref 250), (1, .ref 0), (2, .ref 140), (3, .ref 162), (4, .int (nJ i))]) (st' := []) (ob := []) rfl fm_n ?_
    refine gl_lv (lv' := [(0, .ref 250), (1, .ref 0), (2, .ref 140), (3, .ref 162), (4, .int (nJ i))]) (fm_c (List.mem_of_getElem? (i := 2) rfl) (fm_c (List.mem_of_getElem? (i := 3) rfl) (fm_c (List.mem_of_getElem? (i := 4) rfl) (fm_c (List.mem_of_getElem? (i := 5) rfl) (fm_c (List.mem_of_getElem? (i := 6) rfl) fm_n))))) ?_
    exact gl_wide (by omega) (by omega) (kk _ J3)
set_option maxRecDepth 100000 in
theorem cs_58 {p : Program} {l : Launch} {e : Env} {s : State} {m : MethodId} {below : List Frame} {meth : Method} {c : Code} {b L : Nat} {xs : Nat → Int32} {D : va_G} {cs : Nat → ClassId} {ad : Nat → Nat} {A : Nat → Prop} (K : LX p l s m meth c b L xs D cs ad A) {i : Nat} (hi : i + 6 ≤ L) (hL : L ≤ 3072) {σ : SG} (hJ : JW σ) {cells slots : Nat} (hcc : cells + 2 ≤ 601024) (hss : slots + 12 ≤ 7293034) (kk : ∀ σ', JW σ' → GL p l e s m below meth c b D cs ad A σ' (cells + 2) (slots + 12) 3186 [(0, .ref 250), (1, .ref 0), (2, .ref 140), (3, .ref 162), (4, .int (nJ i))] []) : GL p l e s m below meth c b D cs ad A σ cells slots 3130 [(0, .ref 250), (1, .ref 0), (2, .ref 140), (3, .ref 162), (4, .int (nJ i))] [] := by
  obtain ⟨Sc, Sm, hC, hM, R, M⟩ := hJ
  refine gl_run K doc_58 7 (pc' := 3138) (lv' := [(0, .ref 250), (1, .ref 0), (2, .ref 140), (3, .ref 162), (4, .int (nJ i))]) (st' := [.ref 162, .int (ag xs i 1), .ref 0]) (ob := [nJ i + Int32.ofInt 1]) rfl (fm_c (ob_ok hi hL 1 (by decide)) fm_n) ?_
  obtain ⟨f1, c1, t, σ1, f2, rm, σ2, f3, σ3, e1, hc, e2, e3, ob1, ob2, J3, hz⟩ := two (f := Int32.toInt64) (vM := vI) (a173 R M ((ag xs i 1))) hC hM (fun rc rm S1 T h1 h2 => wr_362 (d := 0) h1 h2) (fun r h => S_312 (d := 0) h) (q_312 (d := 0) M) (fun c o T h => mRc h)
  refine gl_S (k' := 362) (As := [.ref 0, .int (ag xs i 1), .ref 162]) (rest := []) K (dOK_lk doc_58 (pc := 3138) rfl) rfl lS_369 rfl (Nat.le_of_ble_eq_true rfl) (Nat.le_of_ble_eq_true rfl) (by decide) e1 (by omega) (by omega) ?_
  refine gl_run K doc_58 7 (pc' := 3150) (lv' := [(5, .int t), (0, .ref 250), (1, .ref 0), (2, .ref 140), (3, .ref 162), (4, .int (nJ i))]) (st' := [.int (ag xs i 1), .ref 140]) (ob := [nJ i + Int32.ofInt 1]) rfl (fm_c (ob_ok hi hL 1 (by decide)) fm_n) ?_
  refine gl_V (k' := 312) (As := [.int (ag xs i 1)]) (rest := []) (ci := 11) (q := (RX12, TX12, 41)) K (dOK_lk doc_58 (pc := 3150) rfl) rfl rfl lV_371 rfl rfl rfl (Nat.le_of_ble_eq_true rfl) (Nat.le_of_ble_eq_true rfl) ob1 (by decide) e2 (by omega) (by omega) ?_
  refine gl_run K doc_58 2 (pc' := 3156) (lv' := [(6, .int rm), (5, .int t), (0, .ref 250), (1, .ref 0), (2, .ref 140), (3, .ref 162), (4, .int (nJ i))]) (st' := [.ref 140]) (ob := []) rfl fm_n ?_
  refine gl_V (k' := 367) (As := []) (rest := []) (ci := 11) (q := (RX12, TX12, 41)) K (dOK_lk doc_58 (pc := 3156) rfl) rfl rfl lV_187 rfl rfl rfl (Nat.le_of_ble_eq_true rfl) (Nat.le_of_ble_eq_true rfl) ob2 (by decide) e3 (by omega) (by omega) ?_
  refine gl_run K doc_58 1 (pc' := 3161) (lv' := [(6, .int rm), (5, .int t), (0, .ref 250), (1, .ref 0), (2, .ref 140), (3, .ref 162), (4, .int (nJ i))]) (st' := [.int t, .int t]) (ob := []) rfl fm_n ?_
  refine gl_eq (tgt := 3166) K (dOK_lk doc_58 (pc := 3161) rfl) (by decide) rfl ?_
  refine gl_run K doc_58 1 (pc' := 3168) (lv' := [(6, .int rm), (5, .int t), (0, .ref 250), (1, .ref 0), (2, .ref 140), (3, .ref 162), (4, .int (nJ i))]) (st' := [.int t]) (ob := []) rfl fm_n ?_
  by_cases h0 : t = 0
  · obtain ⟨g, hg1, hg2⟩ := hz h0
    refine gl_n (tgt := 3183) K (dOK_lk doc_58 (pc := 3168) rfl) (by decide) (cI_ne1 h0) ?_
    refine gl_run K doc_58 2 (pc' := 3173) (lv' := [(6, .int rm), (5, .int t), (0, .ref 250), (1, .ref 0), (2, .ref 140), (3, .ref 162), (4, .int (nJ i))]) (st' := [.int (Int32.ofInt 0), .ref 162]) (ob := []) rfl fm_n ?_
    refine gl_laload K (dOK_lk doc_58 (pc := 3173) rfl) hg1 ?_
    rw [hg2]
    refine gl_run K doc_58 2 (pc' := 3177) (lv' := [(6, .int rm), (5, .int t), (0, .ref 250), (1, .ref 0), (2, .ref 140), (3, .ref 162), (4, .int (nJ i))]) (st' := [.long (Int32.toInt64 rm), .long (Int32.toInt64 rm)]) (ob := []) rfl fm_n ?_
    refine gl_lcmp K (dOK_lk doc_58 (pc := 3177) rfl) ?_
    rw [lcm3_0]
    refine gl_y (tgt := 3183) K (dOK_lk doc_58 (pc := 3178) rfl) (by decide) rfl ?_
    refine gl_run K doc_58 1 (pc' := 3186) (lv' := [(6, .int rm), (5, .int t), (0, .ref 250), (1, .ref 0), (2, .ref 140), (3, .ref 162), (4, .int (nJ i))]) (st' := []) (ob := []) rfl fm_n ?_
    refine gl_lv (lv' := [(0, .ref 250), (1, .ref 0), (2, .ref 140), (3, .ref 162), (4, .int (nJ i))]) (fm_c (List.mem_of_getElem? (i := 2) rfl) (fm_c (List.mem_of_getElem? (i := 3) rfl) (fm_c (List.mem_of_getElem? (i := 4) rfl) (fm_c (List.mem_of_getElem? (i := 5) rfl) (fm_c (List.mem_of_getElem? (i := 6) rfl) fm_n))))) ?_
    exact gl_wide (by omega) (by omega) (kk _ J3)
  · refine gl_y (tgt := 3183) K (dOK_lk doc_58 (pc := 3168) rfl) (by decide) (cI_ne0 h0) ?_
    refine gl_run K doc_58 1 (pc' := 3186) (lv' := [(6, .int rm), (5, .int t), (0, .ref 250), (1, .ref 0), (2, .ref 140), (3, .ref 162), (4, .int (nJ i))]) (st' := []) (ob := []) rfl fm_n ?_
    refine gl_lv (lv' := [(0, .ref 250), (1, .ref 0), (2, .ref 140), (3, .ref 162), (4, .int (nJ i))]) (fm_c (List.mem_of_getElem? (i := 2) rfl) (fm_c (List.mem_of_getElem? (i := 3) rfl) (fm_c (List.mem_of_getElem? (i := 4) rfl) (fm_c (List.mem_of_getElem? (i := 5) rfl) (fm_c (List.mem_of_getElem? (i := 6) rfl) fm_n))))) ?_
    exact gl_wide (by omega) (by omega) (kk _ J3)
