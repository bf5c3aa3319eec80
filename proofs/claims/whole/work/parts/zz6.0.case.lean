/-! the law's cases (printed by law.py) -/
set_option maxRecDepth 100000 in
theorem cs_0 {p : Program} {l : Launch} {e : Env} {s : State} {m : MethodId} {below : List Frame} {meth : Method} {c : Code} {b L : Nat} {xs : Nat → Int32} {D : va_G} {cs : Nat → ClassId} {ad : Nat → Nat} {A : Nat → Prop} (K : LX p l s m meth c b L xs D cs ad A) {i : Nat} (hi : i + 6 ≤ L) (hL : L ≤ 3072) {σ : SG} (hJ : JW σ) {cells slots : Nat} (hcc : cells + 2 ≤ 601024) (hss : slots + 12 ≤ 7293034) (kk : ∀ σ', JW σ' → GL p l e s m below meth c b D cs ad A σ' (cells + 2) (slots + 12) 3186 [(0, .ref 250), (1, .ref 0), (2, .ref 140), (3, .ref 162), (4, .int (nJ i))] []) : GL p l e s m below meth c b D cs ad A σ cells slots 292 [(0, .ref 250), (1, .ref 0), (2, .ref 140), (3, .ref 162), (4, .int (nJ i))] [] := by
  obtain ⟨Sc, Sm, hC, hM, R, M⟩ := hJ
  refine gl_run K doc_0 26 (pc' := 323) (lv' := [(0, .ref 250), (1, .ref 0), (2, .ref 140), (3, .ref 162), (4, .int (nJ i))]) (st' := [.int (ag xs i 5), .int (ag xs i 4), .int (ag xs i 3), .int (ag xs i 2), .int (ag xs i 1), .ref 0]) (ob := [nJ i + Int32.ofInt 1, nJ i + Int32.ofInt 2, nJ i + Int32.ofInt 3, nJ i + Int32.ofInt 4, nJ i + Int32.ofInt 5]) rfl (fm_c (ob_ok hi hL 1 (by decide)) (fm_c (ob_ok hi hL 2 (by decide)) (fm_c (ob_ok hi hL 3 (by decide)) (fm_c (ob_ok hi hL 4 (by decide)) (fm_c (ob_ok hi hL 5 (by decide)) fm_n))))) ?_
  obtain ⟨bb, bb1, bb2, bb3, _⟩ := id R.1
  obtain ⟨aa, Sc', Sm', h1, h2, R', _⟩ := append_eq R M ((ag xs i 1)) ((ag xs i 2)) ((ag xs i 3)) ((ag xs i 4)) ((ag xs i 5))
  obtain ⟨f1, σ1, f2, σ2, e1, e2, ob1, J3⟩ := two1 hC hM R' (S_115 (d := 0) h1) (S_185 (d := 0) h2) (q_185 (d := 0) M bb2 bb3 (v1 := (ag xs i 1)) (v2 := (ag xs i 2)) (v3 := (ag xs i 3)) (v4 := (ag xs i 4)) (v5 := (ag xs i 5))) (fun c o T h => mRa h)
  refine gl_V (k' := 115) (As := [.int (ag xs i 1), .int (ag xs i 2), .int (ag xs i 3), .int (ag xs i 4), .int (ag xs i 5)]) (rest := []) (ci := 10) (q := (RX11, TX11, 18)) K (dOK_lk doc_0 (pc := 323) rfl) rfl rfl lV_176 rfl rfl rfl (Nat.le_of_ble_eq_true rfl) (Nat.le_of_ble_eq_true rfl) (obj_c hC) (by decide) e1 (by omega) (by omega) ?_
  refine gl_run K doc_0 26 (pc' := 357) (lv' := [(0, .ref 250), (1, .ref 0), (2, .ref 140), (3, .ref 162), (4, .int (nJ i))]) (st' := [.int (ag xs i 5), .int (ag xs i 4), .int (ag xs i 3), .int (ag xs i 2), .int (ag xs i 1), .ref 140, .int aa]) (ob := [nJ i + Int32.ofInt 1, nJ i + Int32.ofInt 2, nJ i + Int32.ofInt 3, nJ i + Int32.ofInt 4, nJ i + Int32.ofInt 5]) rfl (fm_c (ob_ok hi hL 1 (by decide)) (fm_c (ob_ok hi hL 2 (by decide)) (fm_c (ob_ok hi hL 3 (by decide)) (fm_c (ob_ok hi hL 4 (by decide)) (fm_c (ob_ok hi hL 5 (by decide)) fm_n))))) ?_
  refine gl_V (k' := 185) (As := [.int (ag xs i 1), .int (ag xs i 2), .int (ag xs i 3), .int (ag xs i 4), .int (ag xs i 5)]) (rest := [.int aa]) (ci := 11) (q := (RX12, TX12, 41)) K (dOK_lk doc_0 (pc := 357) rfl) rfl rfl lV_180 rfl rfl rfl (Nat.le_of_ble_eq_true rfl) (Nat.le_of_ble_eq_true rfl) ob1 (by decide) e2 (by omega) (by omega) ?_
  refine gl_eq (tgt := 3186) K (dOK_lk doc_0 (pc := 360) rfl) (by decide) rfl ?_
  refine gl_lv (lv' := [(0, .ref 250), (1, .ref 0), (2, .ref 140), (3, .ref 162), (4, .int (nJ i))]) (fm_c (List.mem_of_getElem? (i := 0) rfl) (fm_c (List.mem_of_getElem? (i := 1) rfl) (fm_c (List.mem_of_getElem? (i := 2) rfl) (fm_c (List.mem_of_getElem? (i := 3) rfl) (fm_c (List.mem_of_getElem? (i := 4) rfl) fm_n))))) ?_
  exact gl_wide (by omega) (by omega) (kk _ J3)
set_option maxRecDepth 100000 in
theorem cs_1 {p : Program} {l : Launch} {e : Env} {s : State} {m : MethodId} {below : List Frame} {meth : Method} {c : Code} {b L : Nat} {xs : Nat → Int32} {D : va_G} {cs : Nat → ClassId} {ad : Nat → Nat} {A : Nat → Prop} (K : LX p l s m meth c b L xs D cs ad A) {i : Nat} (hi : i + 6 ≤ L) (hL : L ≤ 3072) {σ : SG} (hJ : JW σ) {cells slots : Nat} (hcc : cells + 2 ≤ 601024) (hss : slots + 12 ≤ 7293034) (kk : ∀ σ', JW σ' → GL p l e s m below meth c b D cs ad A σ' (cells + 2) (slots + 12) 3186 [(0, .ref 250), (1, .ref 0), (2, .ref 140), (3, .ref 162), (4, .int (nJ i))] []) : GL p l e s m below meth c b D cs ad A σ cells slots 365 [(0, .ref 250), (1, .ref 0), (2, .ref 140), (3, .ref 162), (4, .int (nJ i))] [] := by
  obtain ⟨Sc, Sm, hC, hM, R, M⟩ := hJ
  refine gl_run K doc_1 7 (pc' := 373) (lv' := [(0, .ref 250), (1, .ref 0), (2, .ref 140), (3, .ref 162), (4, .int (nJ i))]) (st' := [.ref 162, .int (ag xs i 1), .ref 0]) (ob := [nJ i + Int32.ofInt 1]) rfl (fm_c (ob_ok hi hL 1 (by decide)) fm_n) ?_
  obtain ⟨bb, bb1, bb2, bb3, _⟩ := id R.1
  obtain ⟨f1, c1, t, σ1, f2, rm, σ2, f3, σ3, e1, hc, e2, e3, ob1, ob2, J3, hz⟩ := two (f := Int32.toInt64) (vM := vI) (Agr_ld R M ((ag xs i 1))) hC hM (fun rc rm S1 T h1 h2 => wr_313 (d := 0) h1 h2) (fun r h => S_201 (d := 0) h) (q_201 (d := 0) M bb2 bb3 (v1 := (ag xs i 1))) (fun c o T h => mRd h)
  refine gl_S (k' := 313) (As := [.ref 0, .int (ag xs i 1), .ref 162]) (rest := []) K (dOK_lk doc_1 (pc := 373) rfl) rfl lS_181 rfl (Nat.le_of_ble_eq_true rfl) (Nat.le_of_ble_eq_true rfl) (by decide) e1 (by omega) (by omega) ?_
  refine gl_run K doc_1 7 (pc' := 385) (lv' := [(5, .int t), (0, .ref 250), (1, .ref 0), (2, .ref 140), (3, .ref 162), (4, .int (nJ i))]) (st' := [.int (ag xs i 1), .ref 140]) (ob := [nJ i + Int32.ofInt 1]) rfl (fm_c (ob_ok hi hL 1 (by decide)) fm_n) ?_
  refine gl_V (k' := 201) (As := [.int (ag xs i 1)]) (rest := []) (ci := 11) (q := (RX12, TX12, 41)) K (dOK_lk doc_1 (pc := 385) rfl) rfl rfl lV_186 rfl rfl rfl (Nat.le_of_ble_eq_true rfl) (Nat.le_of_ble_eq_true rfl) ob1 (by decide) e2 (by omega) (by omega) ?_
  refine gl_run K doc_1 2 (pc' := 391) (lv' := [(6, .int rm), (5, .int t), (0, .ref 250), (1, .ref 0), (2, .ref 140), (3, .ref 162), (4, .int (nJ i))]) (st' := [.ref 140]) (ob := []) rfl fm_n ?_
  refine gl_V (k' := 367) (As := []) (rest := []) (ci := 11) (q := (RX12, TX12, 41)) K (dOK_lk doc_1 (pc := 391) rfl) rfl rfl lV_187 rfl rfl rfl (Nat.le_of_ble_eq_true rfl) (Nat.le_of_ble_eq_true rfl) ob2 (by decide) e3 (by omega) (by omega) ?_
  refine gl_run K doc_1 1 (pc' := 396) (lv' := [(6, .int rm), (5, .int t), (0, .ref 250), (1, .ref 0), (2, .ref 140), (3, .ref 162), (4, .int (nJ i))]) (st' := [.int t, .int t]) (ob := []) rfl fm_n ?_
  refine gl_eq (tgt := 401) K (dOK_lk doc_1 (pc := 396) rfl) (by decide) rfl ?_
  refine gl_run K doc_1 1 (pc' := 403) (lv' := [(6, .int rm), (5, .int t), (0, .ref 250), (1, .ref 0), (2, .ref 140), (3, .ref 162), (4, .int (nJ i))]) (st' := [.int t]) (ob := []) rfl fm_n ?_
  by_cases h0 : t = 0
  · obtain ⟨g, hg1, hg2⟩ := hz h0
    refine gl_n (tgt := 418) K (dOK_lk doc_1 (pc := 403) rfl) (by decide) (cI_ne1 h0) ?_
    refine gl_run K doc_1 2 (pc' := 408) (lv' := [(6, .int rm), (5, .int t), (0, .ref 250), (1, .ref 0), (2, .ref 140), (3, .ref 162), (4, .int (nJ i))]) (st' := [.int (Int32.ofInt 0), .ref 162]) (ob := []) rfl fm_n ?_
    refine gl_laload K (dOK_lk doc_1 (pc := 408) rfl) hg1 ?_
    rw [hg2]
    refine gl_run K doc_1 2 (pc' := 412) (lv' := [(6, .int rm), (5, .int t), (0, .ref 250), (1, .ref 0), (2, .ref 140), (3, .ref 162), (4, .int (nJ i))]) (st' := [.long (Int32.toInt64 rm), .long (Int32.toInt64 rm)]) (ob := []) rfl fm_n ?_
    refine gl_lcmp K (dOK_lk doc_1 (pc := 412) rfl) ?_
    rw [lcm3_0]
    refine gl_y (tgt := 418) K (dOK_lk doc_1 (pc := 413) rfl) (by decide) rfl ?_
    refine gl_run K doc_1 1 (pc' := 3186) (lv' := [(6, .int rm), (5, .int t), (0, .ref 250), (1, .ref 0), (2, .ref 140), (3, .ref 162), (4, .int (nJ i))]) (st' := []) (ob := []) rfl fm_n ?_
    refine gl_lv (lv' := [(0, .ref 250), (1, .ref 0), (2, .ref 140), (3, .ref 162), (4, .int (nJ i))]) (fm_c (List.mem_of_getElem? (i := 2) rfl) (fm_c (List.mem_of_getElem? (i := 3) rfl) (fm_c (List.mem_of_getElem? (i := 4) rfl) (fm_c (List.mem_of_getElem? (i := 5) rfl) (fm_c (List.mem_of_getElem? (i := 6) rfl) fm_n))))) ?_
    exact gl_wide (by omega) (by omega) (kk _ J3)
  · refine gl_y (tgt := 418) K (dOK_lk doc_1 (pc := 403) rfl) (by decide) (cI_ne0 h0) ?_
    refine gl_run K doc_1 1 (pc' := 3186) (lv' := [(6, .int rm), (5, .int t), (0, .ref 250), (1, .ref 0), (2, .ref 140), (3, .ref 162), (4, .int (nJ i))]) (st' := []) (ob := []) rfl fm_n ?_
    refine gl_lv (lv' := [(0, .ref 250), (1, .ref 0), (2, .ref 140), (3, .ref 162), (4, .int (nJ i))]) (fm_c (List.mem_of_getElem? (i := 2) rfl) (fm_c (List.mem_of_getElem? (i := 3) rfl) (fm_c (List.mem_of_getElem? (i := 4) rfl) (fm_c (List.mem_of_getElem? (i := 5) rfl) (fm_c (List.mem_of_getElem? (i := 6) rfl) fm_n))))) ?_
    exact gl_wide (by omega) (by omega) (kk _ J3)
set_option maxRecDepth 100000 in
theorem cs_2 {p : Program} {l : Launch} {e : Env} {s : State} {m : MethodId} {below : List Frame} {meth : Method} {c : Code} {b L : Nat} {xs : Nat → Int32} {D : va_G} {cs : Nat → ClassId} {ad : Nat → Nat} {A : Nat → Prop} (K : LX p l s m meth c b L xs D cs ad A) {i : Nat} (hi : i + 6 ≤ L) (hL : L ≤ 3072) {σ : SG} (hJ : JW σ) {cells slots : Nat} (hcc : cells + 2 ≤ 601024) (hss : slots + 12 ≤ 7293034) (kk : ∀ σ', JW σ' → GL p l e s m below meth c b D cs ad A σ' (cells + 2) (slots + 12) 3186 [(0, .ref 250), (1, .ref 0), (2, .ref 140), (3, .ref 162), (4, .int (nJ i))] []) : GL p l e s m below meth c b D cs ad A σ cells slots 421 [(0, .ref 250), (1, .ref 0), (2, .ref 140), (3, .ref 162), (4, .int (nJ i))] [] := by
  obtain ⟨Sc, Sm, hC, hM, R, M⟩ := hJ
  refine gl_run K doc_2 1 (pc' := 422) (lv' := [(0, .ref 250), (1, .ref 0), (2, .ref 140), (3, .ref 162), (4, .int (nJ i))]) (st' := [.ref 0]) (ob := []) rfl fm_n ?_
  obtain ⟨Sm', h2, R'⟩ := a117 R M
  obtain ⟨f1, σ1, f2, σ2, e1, e2, ob1, J3⟩ := two1 hC hM R' (S_117 (d := 0) rfl) (S_187 (d := 0) h2) (q_187 (d := 0) M) (fun c o T h => mRi h)
  generalize F_117 Sc = aa at e1 e2
  refine gl_V (k' := 117) (As := []) (rest := []) (ci := 10) (q := (RX11, TX11, 18)) K (dOK_lk doc_2 (pc := 422) rfl) rfl rfl lV_190 rfl rfl rfl (Nat.le_of_ble_eq_true rfl) (Nat.le_of_ble_eq_true rfl) (obj_c hC) (by decide) e1 (by omega) (by omega) ?_
  refine gl_run K doc_2 1 (pc' := 426) (lv' := [(0, .ref 250), (1, .ref 0), (2, .ref 140), (3, .ref 162), (4, .int (nJ i))]) (st' := [.ref 140, .int aa]) (ob := []) rfl fm_n ?_
  refine gl_V (k' := 187) (As := []) (rest := [.int aa]) (ci := 11) (q := (RX12, TX12, 41)) K (dOK_lk doc_2 (pc := 426) rfl) rfl rfl lV_193 rfl rfl rfl (Nat.le_of_ble_eq_true rfl) (Nat.le_of_ble_eq_true rfl) ob1 (by decide) e2 (by omega) (by omega) ?_
  refine gl_eq (tgt := 3186) K (dOK_lk doc_2 (pc := 429) rfl) (by decide) rfl ?_
  refine gl_lv (lv' := [(0, .ref 250), (1, .ref 0), (2, .ref 140), (3, .ref 162), (4, .int (nJ i))]) (fm_c (List.mem_of_getElem? (i := 0) rfl) (fm_c (List.mem_of_getElem? (i := 1) rfl) (fm_c (List.mem_of_getElem? (i := 2) rfl) (fm_c (List.mem_of_getElem? (i := 3) rfl) (fm_c (List.mem_of_getElem? (i := 4) rfl) fm_n))))) ?_
  exact gl_wide (by omega) (by omega) (kk _ J3)
set_option maxRecDepth 100000 in
theorem cs_3 {p : Program} {l : Launch} {e : Env} {s : State} {m : MethodId} {below : List Frame} {meth : Method} {c : Code} {b L : Nat} {xs : Nat → Int32} {D : va_G} {cs : Nat → ClassId} {ad : Nat → Nat} {A : Nat → Prop} (K : LX p l s m meth c b L xs D cs ad A) {i : Nat} (hi : i + 6 ≤ L) (hL : L ≤ 3072) {σ : SG} (hJ : JW σ) {cells slots : Nat} (hcc : cells + 2 ≤ 601024) (hss : slots + 12 ≤ 7293034) (kk : ∀ σ', JW σ' → GL p l e s m below meth c b D cs ad A σ' (cells + 2) (slots + 12) 3186 [(0, .ref 250), (1, .ref 0), (2, .ref 140), (3, .ref 162), (4, .int (nJ i))] []) : GL p l e s m below meth c b D cs ad A σ cells slots 434 [(0, .ref 250), (1, .ref 0), (2, .ref 140), (3, .ref 162), (4, .int (nJ i))] [] := by
  obtain ⟨Sc, Sm, hC, hM, R, M⟩ := hJ
  refine gl_run K doc_3 1 (pc' := 435) (lv' := [(0, .ref 250), (1, .ref 0), (2, .ref 140), (3, .ref 162), (4, .int (nJ i))]) (st' := [.ref 0]) (ob := []) rfl fm_n ?_
  obtain ⟨Sm', h2, R'⟩ := a118 R M
  obtain ⟨f1, σ1, f2, σ2, e1, e2, ob1, J3⟩ := two1 hC hM R' (S_118 (d := 0) rfl) (S_188 (d := 0) h2) (q_188 (d := 0) M) (fun c o T h => mRi h)
  generalize F_118 Sc = aa at e1 e2
  refine gl_V (k' := 118) (As := []) (rest := []) (ci := 10) (q := (RX11, TX11, 18)) K (dOK_lk doc_3 (pc := 435) rfl) rfl rfl lV_194 rfl rfl rfl (Nat.le_of_ble_eq_true rfl) (Nat.le_of_ble_eq_true rfl) (obj_c hC) (by decide) e1 (by omega) (by omega) ?_
  refine gl_run K doc_3 1 (pc' := 439) (lv' := [(0, .ref 250), (1, .ref 0), (2, .ref 140), (3, .ref 162), (4, .int (nJ i))]) (st' := [.ref 140, .int aa]) (ob := []) rfl fm_n ?_
  refine gl_V (k' := 188) (As := []) (rest := [.int aa]) (ci := 11) (q := (RX12, TX12, 41)) K (dOK_lk doc_3 (pc := 439) rfl) rfl rfl lV_197 rfl rfl rfl (Nat.le_of_ble_eq_true rfl) (Nat.le_of_ble_eq_true rfl) ob1 (by decide) e2 (by omega) (by omega) ?_
  refine gl_eq (tgt := 3186) K (dOK_lk doc_3 (pc := 442) rfl) (by decide) rfl ?_
  refine gl_lv (lv' := [(0, .ref 250), (1, .ref 0), (2, .ref 140), (3, .ref 162), (4, .int (nJ i))]) (fm_c (List.mem_of_getElem? (i := 0) rfl) (fm_c (List.mem_of_getElem? (i := 1) rfl) (fm_c (List.mem_of_getElem? (i := 2) rfl) (fm_c (List.mem_of_getElem? (i := 3) rfl) (fm_c (List.mem_of_getElem? (i := 4) rfl) fm_n))))) ?_
  exact gl_wide (by omega) (by omega) (kk _ J3)
set_option maxRecDepth 100000 in
theorem cs_4 {p : Program} {l : Launch} {e : Env} {s : State} {m : MethodId} {below : List Frame} {meth : Method} {c : Code} {b L : Nat} {xs : Nat → Int32} {D : va_G} {cs : Nat → ClassId} {ad : Nat → Nat} {A : Nat → Prop} (K : LX p l s m meth c b L xs D cs ad A) {i : Nat} (hi : i + 6 ≤ L) (hL : L ≤ 3072) {σ : SG} (hJ : JW σ) {cells slots : Nat} (hcc : cells + 2 ≤ 601024) (hss : slots + 12 ≤ 7293034) (kk : ∀ σ', JW σ' → GL p l e s m below meth c b D cs ad A σ' (cells + 2) (slots + 12) 3186 [(0, .ref 250), (1, .ref 0), (2, .ref 140), (3, .ref 162), (4, .int (nJ i))] []) : GL p l e s m below meth c b D cs ad A σ cells slots 447 [(0, .ref 250), (1, .ref 0), (2, .ref 140), (3, .ref 162), (4, .int (nJ i))] [] := by
  obtain ⟨Sc, Sm, hC, hM, R, M⟩ := hJ
  refine gl_run K doc_4 1 (pc' := 448) (lv' := [(0, .ref 250), (1, .ref 0), (2, .ref 140), (3, .ref 162), (4, .int (nJ i))]) (st' := [.ref 0]) (ob := []) rfl fm_n ?_
  obtain ⟨Sm', h2, R'⟩ := a119 R M
  obtain ⟨f1, σ1, f2, σ2, e1, e2, ob1, J3⟩ := two1 hC hM R' (S_119 (d := 0) rfl) (S_186 (d := 0) h2) (q_186 (d := 0) M) (fun c o T h => mRi h)
  generalize F_119 Sc = aa at e1 e2
  refine gl_V (k' := 119) (As := []) (rest := []) (ci := 10) (q := (RX11, TX11, 18)) K (dOK_lk doc_4 (pc := 448) rfl) rfl rfl lV_198 rfl rfl rfl (Nat.le_of_ble_eq_true rfl) (Nat.le_of_ble_eq_true rfl) (obj_c hC) (by decide) e1 (by omega) (by omega) ?_
  refine gl_run K doc_4 1 (pc' := 452) (lv' := [(0, .ref 250), (1, .ref 0), (2, .ref 140), (3, .ref 162), (4, .int (nJ i))]) (st' := [.ref 140, .int aa]) (ob := []) rfl fm_n ?_
  refine gl_V (k' := 186) (As := []) (rest := [.int aa]) (ci := 11) (q := (RX12, TX12, 41)) K (dOK_lk doc_4 (pc := 452) rfl) rfl rfl lV_201 rfl rfl rfl (Nat.le_of_ble_eq_true rfl) (Nat.le_of_ble_eq_true rfl) ob1 (by decide) e2 (by omega) (by omega) ?_
  refine gl_eq (tgt := 3186) K (dOK_lk doc_4 (pc := 455) rfl) (by decide) rfl ?_
  refine gl_lv (lv' := [(0, .ref 250), (1, .ref 0), (2, .ref 140), (3, .ref 162), (4, .int (nJ i))]) (fm_c (List.mem_of_getElem? (i := 0) rfl) (fm_c (List.mem_of_getElem? (i := 1) rfl) (fm_c (List.mem_of_getElem? (i := 2) rfl) (fm_c (List.mem_of_getElem? (i := 3) rfl) (fm_c (List.mem_of_getElem? (i := 4) rfl) fm_n))))) ?_
  exact gl_wide (by omega) (by omega) (kk _ J3)
set_option maxRecDepth 100000 in
theorem cs_5 {p : Program} {l : Launch} {e : Env} {s : State} {m : MethodId} {below : List Frame} {meth : Method} {c : Code} {b L : Nat} {xs : Nat → Int32} {D : va_G} {cs : Nat → ClassId} {ad : Nat → Nat} {A : Nat → Prop} (K : LX p l s m meth c b L xs D cs ad A) {i : Nat} (hi : i + 6 ≤ L) (hL : L ≤ 3072) {σ : SG} (hJ : JW σ) {cells slots : Nat} (hcc : cells + 2 ≤ 601024) (hss : slots + 12 ≤ 7293034) (kk : ∀ σ', JW σ' → GL p l e s m below meth c b D cs ad A σ' (cells + 2) (slots + 12) 3186 [(0, .ref 250), (1, .ref 0), (2, .ref 140), (3, .ref 162), (4, .int (nJ i))] []) : GL p l e s m below meth c b D cs ad A σ cells slots 460 [(0, .ref 250), (1, .ref 0), (2, .ref 140), (3, .ref 162), (4, .int (nJ i))] [] := by
  obtain ⟨Sc, Sm, hC, hM, R, M⟩ := hJ
  refine gl_run K doc_5 1 (pc' := 461) (lv' := [(0, .ref 250), (1, .ref 0), (2, .ref 140), (3, .ref 162), (4, .int (nJ i))]) (st' := [.ref 0]) (ob := []) rfl fm_n ?_
  obtain ⟨Sm', h2, R'⟩ := a120 R M
  obtain ⟨f1, σ1, f2, σ2, e1, e2, ob1, J3⟩ := two1 hC hM R' (S_120 (d := 0) rfl) (S_220 (d := 0) h2) (q_220 (d := 0) M) (fun c o T h => mRi h)
  generalize F_120 Sc = aa at e1 e2
  refine gl_V (k' := 120) (As := []) (rest := []) (ci := 10) (q := (RX11, TX11, 18)) K (dOK_lk doc_5 (pc := 461) rfl) rfl rfl lV_202 rfl rfl rfl (Nat.le_of_ble_eq_true rfl) (Nat.le_of_ble_eq_true rfl) (obj_c hC) (by decide) e1 (by omega) (by omega) ?_
  refine gl_run K doc_5 1 (pc' := 465) (lv' := [(0, .ref 250), (1, .ref 0), (2, .ref 140), (3, .ref 162), (4, .int (nJ i))]) (st' := [.ref 140, .int aa]) (ob := []) rfl fm_n ?_
  refine gl_V (k' := 220) (As := []) (rest := [.int aa]) (ci := 11) (q := (RX12, TX12, 41)) K (dOK_lk doc_5 (pc := 465) rfl) rfl rfl lV_205 rfl rfl rfl (Nat.le_of_ble_eq_true rfl) (Nat.le_of_ble_eq_true rfl) ob1 (by decide) e2 (by omega) (by omega) ?_
  refine gl_eq (tgt := 3186) K (dOK_lk doc_5 (pc := 468) rfl) (by decide) rfl ?_
  refine gl_lv (lv' := [(0, .ref 250), (1, .ref 0), (2, .ref 140), (3, .ref 162), (4, .int (nJ i))]) (fm_c (List.mem_of_getElem? (i := 0) rfl) (fm_c (List.mem_of_getElem? (i := 1) rfl) (fm_c (List.mem_of_getElem? (i := 2) rfl) (fm_c (List.mem_of_getElem? (i := 3) rfl) (fm_c (List.mem_of_getElem? (i := 4) rfl) fm_n))))) ?_
  exact gl_wide (by omega) (by omega) (kk _ J3)
set_option maxRecDepth 100000 in
theorem cs_6 {p : Program} {l : Launch} {e : Env} {s : State} {m : MethodId} {below : List Frame} {meth : Method} {c : Code} {b L : Nat} {xs : Nat → Int32} {D : va_G} {cs : Nat → ClassId} {ad : Nat → Nat} {A : Nat → Prop} (K : LX p l s m meth c b L xs D cs ad A) {i : Nat} (hi : i + 6 ≤ L) (hL : L ≤ 3072) {σ : SG} (hJ : JW σ) {cells slots : Nat} (hcc : cells + 2 ≤ 601024) (hss : slots + 12 ≤ 7293034) (kk : ∀ σ', JW σ' → GL p l e s m below meth c b D cs ad A σ' (cells + 2) (slots + 12) 3186 [(0, .ref 250), (1, .ref 0), (2, .ref 140), (3, .ref 162), (4, .int (nJ i))] []) : GL p l e s m below meth c b D cs ad A σ cells slots 473 [(0, .ref 250), (1, .ref 0), (2, .ref 140), (3, .ref 162), (4, .int (nJ i))] [] := by
  obtain ⟨Sc, Sm, hC, hM, R, M⟩ := hJ
  refine gl_run K doc_6 7 (pc' := 481) (lv' := [(0, .ref 250), (1, .ref 0), (2, .ref 140), (3, .ref 162), (4, .int (nJ i))]) (st' := [.ref 162, .int (ag xs i 1), .ref 0]) (ob := [nJ i + Int32.ofInt 1]) rfl (fm_c (ob_ok hi hL 1 (by decide)) fm_n) ?_
  obtain ⟨f1, c1, t, σ1, f2, rm, σ2, f3, σ3, e1, hc, e2, e3, ob1, ob2, J3, hz⟩ := two (f := Int32.toInt64) (vM := vI) (a121 R M ((ag xs i 1))) hC hM (fun rc rm S1 T h1 h2 => wr_314 (d := 0) h1 h2) (fun r h => S_228 (d := 0) h) (q_228 (d := 0) M) (fun c o T h => mRi h)
  refine gl_S (k' := 314) (As := [.ref 0, .int (ag xs i 1), .ref 162]) (rest := []) K (dOK_lk doc_6 (pc := 481) rfl) rfl lS_206 rfl (Nat.le_of_ble_eq_true rfl) (Nat.le_of_ble_eq_true rfl) (by decide) e1 (by omega) (by omega) ?_
  refine gl_run K doc_6 7 (pc' := 493) (lv' := [(5, .int t), (0, .ref 250), (1, .ref 0), (2, .ref 140), (3, .ref 162), (4, .int (nJ i))]) (st' := [.int (ag xs i 1), .ref 140]) (ob := [nJ i + Int32.ofInt 1]) rfl (fm_c (ob_ok hi hL 1 (by decide)) fm_n) ?_
  refine gl_V (k' := 228) (As := [.int (ag xs i 1)]) (rest := []) (ci := 11) (q := (RX12, TX12, 41)) K (dOK_lk doc_6 (pc := 493) rfl) rfl rfl lV_208 rfl rfl rfl (Nat.le_of_ble_eq_true rfl) (Nat.le_of_ble_eq_true rfl) ob1 (by decide) e2 (by omega) (by omega) ?_
  refine gl_run K doc_6 2 (pc' := 499) (lv' := [(6, .int rm), (5, .int t), (0, .ref 250), (1, .ref 0), (2, .ref 140), (3, .ref 162), (4, .int (nJ i))]) (st' := [.ref 140]) (ob := []) rfl fm_n ?_
  refine gl_V (k' := 367) (As := []) (rest := []) (ci := 11) (q := (RX12, TX12, 41)) K (dOK_lk doc_6 (pc := 499) rfl) rfl rfl lV_187 rfl rfl rfl (Nat.le_of_ble_eq_true rfl) (Nat.le_of_ble_eq_true rfl) ob2 (by decide) e3 (by omega) (by omega) ?_
  refine gl_run K doc_6 1 (pc' := 504) (lv' := [(6, .int rm), (5, .int t), (0, .ref 250), (1, .ref 0), (2, .ref 140), (3, .ref 162), (4, .int (nJ i))]) (st' := [.int t, .int t]) (ob := []) rfl fm_n ?_
  refine gl_eq (tgt := 509) K (dOK_lk doc_6 (pc := 504) rfl) (by decide) rfl ?_
  refine gl_run K doc_6 1 (pc' := 511) (lv' := [(6, .int rm), (5, .int t), (0, .ref 250), (1, .ref 0), (2, .ref 140), (3, .ref 162), (4, .int (nJ i))]) (st' := [.int t]) (ob := []) rfl fm_n ?_
  by_cases h0 : t = 0
  · obtain ⟨g, hg1, hg2⟩ := hz h0
    refine gl_n (tgt := 526) K (dOK_lk doc_6 (pc := 511) rfl) (by decide) (cI_ne1 h0) ?_
    refine gl_run K doc_6 2 (pc' := 516) (lv' := [(6, .int rm), (5, .int t), (0, .ref 250), (1, .ref 0), (2, .ref 140), (3, .ref 162), (4, .int (nJ i))]) (st' := [.int (Int32.ofInt 0), .ref 162]) (ob := []) rfl fm_n ?_
    refine gl_laload K (dOK_lk doc_6 (pc := 516) rfl) hg1 ?_
    rw [hg2]
    refine gl_run K doc_6 2 (pc' := 520) (lv' := [(6, .int rm), (5, .int t), (0, .ref 250), (1, .ref 0), (2, .ref 140), (3, .ref 162), (4, .int (nJ i))]) (st' := [.long (Int32.toInt64 rm), .long (Int32.toInt64 rm)]) (ob := []) rfl fm_n ?_
    refine gl_lcmp K (dOK_lk doc_6 (pc := 520) rfl) ?_
    rw [lcm3_0]
    refine gl_y (tgt := 526) K (dOK_lk doc_6 (pc := 521) rfl) (by decide) rfl ?_
    refine gl_run K doc_6 1 (pc' := 3186) (lv' := [(6, .int rm), (5, .int t), (0, .ref 250), (1, .ref 0), (2, .ref 140), (3, .ref 162), (4, .int (nJ i))]) (st' := []) (ob := []) rfl fm_n ?_
    refine gl_lv (lv' := [(0, .ref 250), (1, .ref 0), (2, .ref 140), (3, .ref 162), (4, .int (nJ i))]) (fm_c (List.mem_of_getElem? (i := 2) rfl) (fm_c (List.mem_of_getElem? (i := 3) rfl) (fm_c (List.mem_of_getElem? (i := 4) rfl) (fm_c (List.mem_of_getElem? (i := 5) rfl) (fm_c (List.mem_of_getElem? (i := 6) rfl) fm_n))))) ?_
    exact gl_wide (by omega) (by omega) (kk _ J3)
  · refine gl_y (tgt := 526) K (dOK_lk doc_6 (pc := 511) rfl) (by decide) (cI_ne0 h0) ?_
    refine gl_run K doc_6 1 (pc' := 3186) (lv' := [(6, .int rm), (5, .int t), (0, .ref 250), (1, .ref 0), (2, .ref 140), (3, .ref 162), (4, .int (nJ i))]) (st' := []) (ob := []) rfl fm_n ?_
    refine gl_lv (lv' := [(0, .ref 250), (1, .ref 0), (2, .ref 140), (3, .ref 162), (4, .int (nJ i))]) (fm_c (List.mem_of_getElem? (i := 2) rfl) (fm_c (List.mem_of_getElem? (i := 3) rfl) (fm_c (List.mem_of_getElem? (i := 4) rfl) (fm_c (List.mem_of_getElem? (i := 5) rfl) (fm_c (List.mem_of_getElem? (i := 6) rfl) fm_n))))) ?_
    exact gl_wide (by omega) (by omega) (kk _ J3)
set_option maxRecDepth 100000 in
theorem cs_7 {p : Program} {l : Launch} {e : Env} {s : State} {m : MethodId} {below : List Frame} {meth : Method} {c : Code} {b L : Nat} {xs : Nat → Int32} {D : va_G} {cs : Nat → ClassId} {ad : Nat → Nat} {A : Nat → Prop} (K : LX p l s m meth c b L xs D cs ad A) {i : Nat} (hi : i + 6 ≤ L) (hL : L ≤ 3072) {σ : SG} (hJ : JW σ) {cells slots : Nat} (hcc : cells + 2 ≤ 601024) (hss : slots + 12 ≤ 7293034) (kk : ∀ σ', JW σ' → GL p l e s m below meth c b D cs ad A σ' (cells + 2) (slots + 12) 3186 [(0, .ref 250), (1, .ref 0), (2, .ref 140), (3, .ref 162), (4, .int (nJ i))] []) : GL p l e s m below meth c b D cs ad A σ cells slots 529 [(0, .ref 250), (1, .ref 0), (2, .ref 140), (3, .ref 162), (4, .int (nJ i))] [] := by
  obtain ⟨Sc, Sm, hC, hM, R, M⟩ := hJ
  refine gl_run K doc_7 7 (pc' := 537) (lv' := [(0, .ref 250), (1, .ref 0), (2, .ref 140), (3, .ref 162), (4, .int (nJ i))]) (st' := [.ref 162, .int (ag xs i 1), .ref 0]) (ob := [nJ i + Int32.ofInt 1]) rfl (fm_c (ob_ok hi hL 1 (by decide)) fm_n) ?_
  obtain ⟨f1, c1, t, σ1, f2, rm, σ2, f3, σ3, e1, hc, e2, e3, ob1, ob2, J3, hz⟩ := two (f := Int32.toInt64) (vM := vI) (a122 R M ((ag xs i 1))) hC hM (fun rc rm S1 T h1 h2 => wr_315 (d := 0) h1 h2) (fun r h => S_229 (d := 0) h) (q_229 (d := 0) M) (fun c o T h => mRi h)
  refine gl_S (k' := 315) (As := [.ref 0, .int (ag xs i 1), .ref 162]) (rest := []) K (dOK_lk doc_7 (pc := 537) rfl) rfl lS_209 rfl (Nat.le_of_ble_eq_true rfl) (Nat.le_of_ble_eq_true rfl) (by decide) e1 (by omega) (by omega) ?_
  refine gl_run K doc_7 7 (pc' := 549) (lv' := [(5, .int t), (0, .ref 250), (1, .ref 0), (2, .ref 140), (3, .ref 162), (4, .int (nJ i))]) (st' := [.int (ag xs i 1), .ref 140]) (ob := [nJ i + Int32.ofInt 1]) rfl (fm_c (ob_ok hi hL 1 (by decide)) fm_n) ?_
  refine gl_V (k' := 229) (As := [.int (ag xs i 1)]) (rest := []) (ci := 11) (q := (RX12, TX12, 41)) K (dOK_lk doc_7 (pc := 549) rfl) rfl rfl lV_211 rfl rfl rfl (Nat.le_of_ble_eq_true rfl) (Nat.le_of_ble_eq_true rfl) ob1 (by decide) e2 (by omega) (by omega) ?_
  refine gl_run K doc_7 2 (pc' := 555) (lv' := [(6, .int rm), (5, .int t), (0, .ref 250), (1, .ref 0), (2, .ref 140), (3, .ref 162), (4, .int (nJ i))]) (st' := [.ref 140]) (ob := []) rfl fm_n ?_
  refine gl_V (k' := 367) (As := []) (rest := []) (ci := 11) (q := (RX12, TX12, 41)) K (dOK_lk doc_7 (pc := 555) rfl) rfl rfl lV_187 rfl rfl rfl (Nat.le_of_ble_eq_true rfl) (Nat.le_of_ble_eq_true rfl) ob2 (by decide) e3 (by omega) (by omega) ?_
  refine gl_run K doc_7 1 (pc' := 560) (lv' := [(6, .int rm), (5, .int t), (0, .ref 250), (1, .ref 0), (2, .ref 140), (3, .ref 162), (4, .int (nJ i))]) (st' := [.int t, .int t]) (ob := []) rfl fm_n ?_
  refine gl_eq (tgt := 565) K (dOK_lk doc_7 (pc := 560) rfl) (by decide) rfl ?_
  refine gl_run K doc_7 1 (pc' := 567) (lv' := [(6, .int rm), (5, .int t), (0, .ref 250), (1, .ref 0), (2, .ref 140), (3, .ref 162), (4, .int (nJ i))]) (st' := [.int t]) (ob := []) rfl fm_n ?_
  by_cases h0 : t = 0
  · obtain ⟨g, hg1, hg2⟩ := hz h0
    refine gl_n (tgt := 582) K (dOK_lk doc_7 (pc := 567) rfl) (by decide) (cI_ne1 h0) ?_
    refine gl_run K doc_7 2 (pc' := 572) (lv' := [(6, .int rm), (5, .int t), (0, .ref 250), (1, .ref 0), (2, .ref 140), (3, .ref 162), (4, .int (nJ i))]) (st' := [.int (Int32.ofInt 0), .ref 162]) (ob := []) rfl fm_n ?_
    refine gl_laload K (dOK_lk doc_7 (pc := 572) rfl) hg1 ?_
    rw [hg2]
    refine gl_run K doc_7 2 (pc' := 576) (lv' := [(6, .int rm), (5, .int t), (0, .ref 250), (1, .ref 0), (2, .ref 140), (3, .ref 162), (4, .int (nJ i))]) (st' := [.long (Int32.toInt64 rm), .long (Int32.toInt64 rm)]) (ob := []) rfl fm_n ?_
    refine gl_lcmp K (dOK_lk doc_7 (pc := 576) rfl) ?_
    rw [lcm3_0]
    refine gl_y (tgt := 582) K (dOK_lk doc_7 (pc := 577) rfl) (by decide) rfl ?_
    refine gl_run K doc_7 1 (pc' := 3186) (lv' := [(6, .int rm), (5, .int t), (0, .ref 250), (1, .ref 0), (2, .ref 140), (3, .ref 162), (4, .int (nJ i))]) (st' := []) (ob := []) rfl fm_n ?_
    refine gl_lv (lv' := [(0, .ref 250), (1, .ref 0), (2, .ref 140), (3, .ref 162), (4, .int (nJ i))]) (fm_c (List.mem_of_getElem? (i := 2) rfl) (fm_c (List.mem_of_getElem? (i := 3) rfl) (fm_c (List.mem_of_getElem? (i := 4) rfl) (fm_c (List.mem_of_getElem? (i := 5) rfl) (fm_c (List.mem_of_getElem? (i := 6) rfl) fm_n))))) ?_
    exact gl_wide (by omega) (by omega) (kk _ J3)
  · refine gl_y (tgt := 582) K (dOK_lk doc_7 (pc := 567) rfl) (by decide) (cI_ne0 h0) ?_
    refine gl_run K doc_7 1 (pc' := 3186) (lv' := [(6, .int rm), (5, .int t), (0, .ref 250), (1, .ref 0), (2, .ref 140), (3, .ref 162), (4, .int (nJ i))]) (st' := []) (ob := []) rfl fm_n ?_
    refine gl_lv (lv' := [(0, .ref 250), (1, .ref 0), (2, .ref 140), (3, .ref 162), (4, .int (nJ i))]) (fm_c (List.mem_of_getElem? (i := 2) rfl) (fm_c (List.mem_of_getElem? (i := 3) rfl) (fm_c (List.mem_of_getElem? (i := 4) rfl) (fm_c (List.mem_of_getElem? (i := 5) rfl) (fm_c (List.mem_of_getElem? (i := 6) rfl) fm_n))))) ?_
    exact gl_wide (by omega) (by omega) (kk _ J3)
set_option maxRecDepth 100000 in
theorem cs_8 {p : Program} {l : Launch} {e : Env} {s : State} {m : MethodId} {below : List Frame} {meth : Method} {c : Code} {b L : Nat} {xs : Nat → Int32} {D : va_G} {cs : Nat → ClassId} {ad : Nat → Nat} {A : Nat → Prop} (K : LX p l s m meth c b L xs D cs ad A) {i : Nat} (hi : i + 6 ≤ L) (hL : L ≤ 3072) {σ : SG} (hJ : JW σ) {cells slots : Nat} (hcc : cells + 2 ≤ 601024) (hss : slots + 12 ≤ 7293034) (kk : ∀ σ', JW σ' → GL p l e s m below meth c b D cs ad A σ' (cells + 2) (slots + 12) 3186 [(0, .ref 250), (1, .ref 0), (2, .ref 140), (3, .ref 162), (4, .int (nJ i))] []) : GL p l e s m below meth c b D cs ad A σ cells slots 585 [(0, .ref 250), (1, .ref 0), (2, .ref 140), (3, .ref 162), (4, .int (nJ i))] [] := by
  obtain ⟨Sc, Sm, hC, hM, R, M⟩ := hJ
  refine gl_run K doc_8 2 (pc' := 587) (lv' := [(0, .ref 250), (1, .ref 0), (2, .ref 140), (3, .ref 162), (4, .int (nJ i))]) (st' := [.ref 162, .ref 0]) (ob := []) rfl fm_n ?_
  obtain ⟨f1, c1, t, σ1, f2, rm, σ2, f3, σ3, e1, hc, e2, e3, ob1, ob2, J3, hz⟩ := two (f := Int32.toInt64) (vM := vI) (a123 R M) hC hM (fun rc rm S1 T h1 h2 => wr_316 (d := 0) h1 h2) (fun r h => S_234 (d := 0) h) (q_234 (d := 0) M) (fun c o T h => mRi h)
  refine gl_S (k' := 316) (As := [.ref 0, .ref 162]) (rest := []) K (dOK_lk doc_8 (pc := 587) rfl) rfl lS_212 rfl (Nat.le_of_ble_eq_true rfl) (Nat.le_of_ble_eq_true rfl) (by decide) e1 (by omega) (by omega) ?_
  refine gl_run K doc_8 2 (pc' := 593) (lv' := [(5, .int t), (0, .ref 250), (1, .ref 0), (2, .ref 140), (3, .ref 162), (4, .int (nJ i))]) (st' := [.ref 140]) (ob := []) rfl fm_n ?_
  refine gl_V (k' := 234) (As := []) (rest := []) (ci := 11) (q := (RX12, TX12, 41)) K (dOK_lk doc_8 (pc := 593) rfl) rfl rfl lV_215 rfl rfl rfl (Nat.le_of_ble_eq_true rfl) (Nat.le_of_ble_eq_true rfl) ob1 (by decide) e2 (by omega) (by omega) ?_
  refine gl_run K doc_8 2 (pc' := 599) (lv' := [(6, .int rm), (5, .int t), (0, .ref 250), (1, .ref 0), (2, .ref 140), (3, .ref 162), (4, .int (nJ i))]) (st' := [.ref 140]) (ob := []) rfl fm_n ?_
  refine gl_V (k' := 367) (As := []) (rest := []) (ci := 11) (q := (RX12, TX12, 41)) K (dOK_lk doc_8 (pc := 599) rfl) rfl rfl lV_187 rfl rfl rfl (Nat.le_of_ble_eq_true rfl) (Nat.le_of_ble_eq_true rfl) ob2 (by decide) e3 (by omega) (by omega) ?_
  refine gl_run K doc_8 1 (pc' := 604) (lv' := [(6, .int rm), (5, .int t), (0, .ref 250), (1, .ref 0), (2, .ref 140), (3, .ref 162), (4, .int (nJ i))]) (st' := [.int t, .int t]) (ob := []) rfl fm_n ?_
  refine gl_eq (tgt := 609) K (dOK_lk doc_8 (pc := 604) rfl) (by decide) rfl ?_
  refine gl_run K doc_8 1 (pc' := 611) (lv' := [(6, .int rm), (5, .int t), (0, .ref 250), (1, .ref 0), (2, .ref 140), (3, .ref 162), (4, .int (nJ i))]) (st' := [.int t]) (ob := []) rfl fm_n ?_
  by_cases h0 : t = 0
  · obtain ⟨g, hg1, hg2⟩ := hz h0
    refine gl_n (tgt := 626) K (dOK_lk doc_8 (pc := 611) rfl) (by decide) (cI_ne1 h0) ?_
    refine gl_run K doc_8 2 (pc' := 616) (lv' := [(6, .int rm), (5, .int t), (0, .ref 250), (1, .ref 0), (2, .ref 140), (3, .ref 162), (4, .int (nJ i))]) (st' := [.int (Int32.ofInt 0), .ref 162]) (ob := []) rfl fm_n ?_
    refine gl_laload K (dOK_lk doc_8 (pc := 616) rfl) hg1 ?_
    rw [hg2]
    refine gl_run K doc_8 2 (pc' := 620) (lv' := [(6, .int rm), (5, .int t), (0, .ref 250), (1, .ref 0), (2, .ref 140), (3, .ref 162), (4, .int (nJ i))]) (st' := [.long (Int32.toInt64 rm), .long (Int32.toInt64 rm)]) (ob := []) rfl fm_n ?_
    refine gl_lcmp K (dOK_lk doc_8 (pc := 620) rfl) ?_
    rw [lcm3_0]
    refine gl_y (tgt := 626) K (dOK_lk doc_8 (pc := 621) rfl) (by decide) rfl ?_
    refine gl_run K doc_8 1 (pc' := 3186) (lv' := [(6, .int rm), (5, .int t), (0, .ref 250), (1, .ref 0), (2, .ref 140), (3, .ref 162), (4, .int (nJ i))]) (st' := []) (ob := []) rfl fm_n ?_
    refine gl_lv (lv' := [(0, .ref 250), (1, .ref 0), (2, .ref 140), (3, .ref 162), (4, .int (nJ i))]) (fm_c (List.mem_of_getElem? (i := 2) rfl) (fm_c (List.mem_of_getElem? (i := 3) rfl) (fm_c (List.mem_of_getElem? (i := 4) rfl) (fm_c (List.mem_of_getElem? (i := 5) rfl) (fm_c (List.mem_of_getElem? (i := 6) rfl) fm_n))))) ?_
    exact gl_wide (by omega) (by omega) (kk _ J3)
  · refine gl_y (tgt := 626) K (dOK_lk doc_8 (pc := 611) rfl) (by decide) (cI_ne0 h0) ?_
    refine gl_run K doc_8 1 (pc' := 3186) (lv' := [(6, .int rm), (5, .int t), (0, .ref 250), (1, .ref 0), (2, .ref 140), (3, .ref 162), (4, .int (nJ i))]) (st' := []) (ob := []) rfl fm_n ?_
    refine gl_lv (lv' := [(0, .ref 250), (1, .ref 0), (2, .ref 140), (3, .ref 162), (4, .int (nJ i))]) (fm_c (List.mem_of_getElem? (i := 2) rfl) (fm_c (List.mem_of_getElem? (i := 3) rfl) (fm_c (List.mem_of_getElem? (i := 4) rfl) (fm_c (List.mem_of_getElem? (i := 5) rfl) (fm_c (List.mem_of_getElem? (i := 6) rfl) fm_n))))) ?_
    exact gl_wide (by omega) (by omega) (kk _ J3)
set_option maxRecDepth 100000 in
theorem cs_9 {p : Program} {l : Launch} {e : Env} {s : State} {m : MethodId} {below : List Frame} {meth : Method} {c : Code} {b L : Nat} {xs : Nat → Int32} {D : va_G} {cs : Nat → ClassId} {ad : Nat → Nat} {A : Nat → Prop} (K : LX p l s m meth c b L xs D cs ad A) {i : Nat} (hi : i + 6 ≤ L) (hL : L ≤ 3072) {σ : SG} (hJ : JW σ) {cells slots : Nat} (hcc : cells + 2 ≤ 601024) (hss : slots + 12 ≤ 7293034) (kk : ∀ σ', JW σ' → GL p l e s m below meth c b D cs ad A σ' (cells + 2) (slots + 12) 3186 [(0, .ref 250), (1, .ref 0), (2, .ref 140), (3, .ref 162), (4, .int (nJ i))] []) : GL p l e s m below meth c b D cs ad A σ cells slots 629 [(0, .ref 250), (1, .ref 0), (2, .ref 140), (3, .ref 162), (4, .int (nJ i))] [] := by
  obtain ⟨Sc, Sm, hC, hM, R, M⟩ := hJ
  refine gl_run K doc_9 2 (pc' := 631) (lv' := [(0, .ref 250), (1, .ref 0), (2, .ref 140), (3, .ref 162), (4, .int (nJ i))]) (st' := [.ref 162, .ref 0]) (ob := []) rfl fm_n ?_
  obtain ⟨f1, c1, t, σ1, f2, rm, σ2, f3, σ3, e1, hc, e2, e3, ob1, ob2, J3, hz⟩ := two (f := Int32.toInt64) (vM := vI) (a124 R M) hC hM (fun rc rm S1 T h1 h2 => wr_317 (d := 0) h1 h2) (fun r h => S_236 (d := 0) h) (q_236 (d := 0) M) (fun c o T h => mRi h)
  refine gl_S (k' := 317) (As := [.ref 0, .ref 162]) (rest := []) K (dOK_lk doc_9 (pc := 631) rfl) rfl lS_216 rfl (Nat.le_of_ble_eq_true rfl) (Nat.le_of_ble_eq_true rfl) (by decide) e1 (by omega) (by omega) ?_
  refine gl_run K doc_9 2 (pc' := 637) (lv' := [(5, .int t), (0, .ref 250), (1, .ref 0), (2, .ref 140), (3, .ref 162), (4, .int (nJ i))]) (st' := [.ref 140]) (ob := []) rfl fm_n ?_
  refine gl_V (k' := 236) (As := []) (rest := []) (ci := 11) (q := (RX12, TX12, 41)) K (dOK_lk doc_9 (pc := 637) rfl) rfl rfl lV_218 rfl rfl rfl (Nat.le_of_ble_eq_true rfl) (Nat.le_of_ble_eq_true rfl) ob1 (by decide) e2 (by omega) (by omega) ?_
  refine gl_run K doc_9 2 (pc' := 643) (lv' := [(6, .int rm), (5, .int t), (0, .ref 250), (1, .ref 0), (2, .ref 140), (3, .ref 162), (4, .int (nJ i))]) (st' := [.ref 140]) (ob := []) rfl fm_n ?_
  refine gl_V (k' := 367) (As := []) (rest := []) (ci := 11) (q := (RX12, TX12, 41)) K (dOK_lk doc_9 (pc := 643) rfl) rfl rfl lV_187 rfl rfl rfl (Nat.le_of_ble_eq_true rfl) (Nat.le_of_ble_eq_true rfl) ob2 (by decide) e3 (by omega) (by omega) ?_
  refine gl_run K doc_9 1 (pc' := 648) (lv' := [(6, .int rm), (5, .int t), (0, .ref 250), (1, .ref 0), (2, .ref 140), (3, .ref 162), (4, .int (nJ i))]) (st' := [.int t, .int t]) (ob := []) rfl fm_n ?_
  refine gl_eq (tgt := 653) K (dOK_lk doc_9 (pc := 648) rfl) (by decide) rfl ?_
  refine gl_run K doc_9 1 (pc' := 655) (lv' := [(6, .int rm), (5, .int t), (0, .ref 250), (1, .ref 0), (2, .ref 140), (3, .ref 162), (4, .int (nJ i))]) (st' := [.int t]) (ob := []) rfl fm_n ?_
  by_cases h0 : t = 0
  · obtain ⟨g, hg1, hg2⟩ := hz h0
    refine gl_n (tgt := 670) K (dOK_lk doc_9 (pc := 655) rfl) (by decide) (cI_ne1 h0) ?_
    refine gl_run K doc_9 2 (pc' := 660) (lv' := [(6, .int rm), (5, .int t), (0, .ref 250), (1, .ref 0), (2, .ref 140), (3, .ref 162), (4, .int (nJ i))]) (st' := [.int (Int32.ofInt 0), .ref 162]) (ob := []) rfl fm_n ?_
    refine gl_laload K (dOK_lk doc_9 (pc := 660) rfl) hg1 ?_
    rw [hg2]
    refine gl_run K doc_9 2 (pc' := 664) (lv' := [(6, .int rm), (5, .int t), (0, .ref 250), (1, .ref 0), (2, .ref 140), (3, .ref 162), (4, .int (nJ i))]) (st' := [.long (Int32.toInt64 rm), .long (Int32.toInt64 rm)]) (ob := []) rfl fm_n ?_
    refine gl_lcmp K (dOK_lk doc_9 (pc := 664) rfl) ?_
    rw [lcm3_0]
    refine gl_y (tgt := 670) K (dOK_lk doc_9 (pc := 665) rfl) (by decide) rfl ?_
    refine gl_run K doc_9 1 (pc' := 3186) (lv' := [(6, .int rm), (5, .int t), (0, .ref 250), (1, .ref 0), (2, .ref 140), (3, .ref 162), (4, .int (nJ i))]) (st' := []) (ob := []) rfl fm_n ?_
    refine gl_lv (lv' := [(0, .ref 250), (1, .ref 0), (2, .ref 140), (3, .ref 162), (4, .int (nJ i))]) (fm_c (List.mem_of_getElem? (i := 2) rfl) (fm_c (List.mem_of_getElem? (i := 3) rfl) (fm_c (List.mem_of_getElem? (i := 4) rfl) (fm_c (List.mem_of_getElem? (i := 5) rfl) (fm_c (List.mem_of_getElem? (i := 6) rfl) fm_n))))) ?_
    exact gl_wide (by omega) (by omega) (kk _ J3)
  · refine gl_y (tgt := 670) K (dOK_lk doc_9 (pc := 655) rfl) (by decide) (cI_ne0 h0) ?_
    refine gl_run K doc_9 1 (pc' := 3186) (lv' := [(6, .int rm), (5, .int t), (0, .ref 250), (1, .ref 0), (2, .ref 140), (3, .ref 162), (4, .int (nJ i))]) (st' := []) (ob := []) rfl fm_n ?_
    refine gl_lv (lv' := [(0, .ref 250), (1, .ref 0), (2, .ref 140), (3, .ref 162), (4, .int (nJ i))]) (fm_c (List.mem_of_getElem? (i := 2) rfl) (fm_c (List.mem_of_getElem? (i := 3) rfl) (fm_c (List.mem_of_getElem? (i := 4) rfl) (fm_c (List.mem_of_getElem? (i := 5) rfl) (fm_c (List.mem_of_getElem? (i := 6) rfl) fm_n))))) ?_
    exact gl_wide (by omega) (by omega) (kk _ J3)
set_option maxRecDepth 100000 in
theorem cs_10 {p : Program} {l : Launch} {e : Env} {s : State} {m : MethodId} {below : List Frame} {meth : Method} {c : Code} {b L : Nat} {xs : Nat → Int32} {D : va_G} {cs : Nat → ClassId} {ad : Nat → Nat} {A : Nat → Prop} (K : LX p l s m meth c b L xs D cs ad A) {i : Nat} (hi : i + 6 ≤ L) (hL : L ≤ 3072) {σ : SG} (hJ : JW σ) {cells slots : Nat} (hcc : cells + 2 ≤ 601024) (hss : slots + 12 ≤ 7293034) (kk : ∀ σ', JW σ' → GL p l e s m below meth c b D cs ad A σ' (cells + 2) (slots + 12) 3186 [(0, .ref 250), (1, .ref 0), (2, .ref 140), (3, .ref 162), (4, .int (nJ i))] []) : GL p l e s m below meth c b D cs ad A σ cells slots 673 [(0, .ref 250), (1, .ref 0), (2, .ref 140), (3, .ref 162), (4, .int (nJ i))] [] := by
  obtain ⟨Sc, Sm, hC, hM, R, M⟩ := hJ
  refine gl_run K doc_10 1 (pc' := 674) (lv' := [(0, .ref 250), (1, .ref 0), (2, .ref 140), (3, .ref 162), (4, .int (nJ i))]) (st' := [.ref 0]) (ob := []) rfl fm_n ?_
  obtain ⟨Sm', h2, R'⟩ := a125 R M
  obtain ⟨f1, σ1, f2, σ2, e1, e2, ob1, J3⟩ := two1 hC hM R' (S_125 (d := 0) rfl) (S_221 (d := 0) h2) (q_221 (d := 0) M) (fun c o T h => mRi h)
  generalize F_125 Sc = aa at e1 e2
  refine gl_V (k' := 125) (As := []) (rest := []) (ci := 10) (q := (RX11, TX11, 18)) K (dOK_lk doc_10 (pc := 674) rfl) rfl rfl lV_219 rfl rfl rfl (Nat.le_of_ble_eq_true rfl) (Nat.le_of_ble_eq_true rfl) (obj_c hC) (by decide) e1 (by omega) (by omega) ?_
  refine gl_run K doc_10 1 (pc' := 678) (lv' := [(0, .ref 250), (1, .ref 0), (2, .ref 140), (3, .ref 162), (4, .int (nJ i))]) (st' := [.ref 140, .int aa]) (ob := []) rfl fm_n ?_
  refine gl_V (k' := 221) (As := []) (rest := [.int aa]) (ci := 11) (q := (RX12, TX12, 41)) K (dOK_lk doc_10 (pc := 678) rfl) rfl rfl lV_222 rfl rfl rfl (Nat.le_of_ble_eq_true rfl) (Nat.le_of_ble_eq_true rfl) ob1 (by decide) e2 (by omega) (by omega) ?_
  refine gl_eq (tgt := 3186) K (dOK_lk doc_10 (pc := 681) rfl) (by decide) rfl ?_
  refine gl_lv (lv' := [(0, .ref 250), (1, .ref 0), (2, .ref 140), (3, .ref 162), (4, .int (nJ i))]) (fm_c (List.mem_of_getElem? (i := 0) rfl) (fm_c (List.mem_of_getElem? (i := 1) rfl) (fm_c (List.mem_of_getElem? (i := 2) rfl) (fm_c (List.mem_of_getElem? (i := 3) rfl) (fm_c (List.mem_of_getElem? (i := 4) rfl) fm_n))))) ?_
  exact gl_wide (by omega) (by omega) (kk _ J3)
set_option maxRecDepth 100000 in
theorem cs_11 {p : Program} {l : Launch} {e : Env} {s : State} {m : MethodId} {below : List Frame} {meth : Method} {c : Code} {b L : Nat} {xs : Nat → Int32} {D : va_G} {cs : Nat → ClassId} {ad : Nat → Nat} {A : Nat → Prop} (K : LX p l s m meth c b L xs D cs ad A) {i : Nat} (hi : i + 6 ≤ L) (hL : L ≤ 3072) {σ : SG} (hJ : JW σ) {cells slots : Nat} (hcc : cells + 2 ≤ 601024) (hss : slots + 12 ≤ 7293034) (kk : ∀ σ', JW σ' → GL p l e s m below meth c b D cs ad A σ' (cells + 2) (slots + 12) 3186 [(0, .ref 250), (1, .ref 0), (2, .ref 140), (3, .ref 162), (4, .int (nJ i))] []) : GL p l e s m below meth c b D cs ad A σ cells slots 686 [(0, .ref 250), (1, .ref 0), (2, .ref 140), (3, .ref 162), (4, .int (nJ i))] [] := by
  obtain ⟨Sc, Sm, hC, hM, R, M⟩ := hJ
  refine gl_run K doc_11 7 (pc' := 694) (lv' := [(0, .ref 250), (1, .ref 0), (2, .ref 140), (3, .ref 162), (4, .int (nJ i))]) (st' := [.ref 162, .int (ag xs i 1), .ref 0]) (ob := [nJ i + Int32.ofInt 1]) rfl (fm_c (ob_ok hi hL 1 (by decide)) fm_n) ?_
  obtain ⟨f1, c1, t, σ1, f2, rm, σ2, f3, σ3, e1, hc, e2, e3, ob1, ob2, J3, hz⟩ := two (f := Int32.toInt64) (vM := vI) (a126 R M ((ag xs i 1))) hC hM (fun rc rm S1 T h1 h2 => wr_318 (d := 0) h1 h2) (fun r h => S_230 (d := 0) h) (q_230 (d := 0) M) (fun c o T h => mRi h)
  refine gl_S (k' := 318) (As := [.ref 0, .int (ag xs i 1), .ref 162]) (rest := []) K (dOK_lk doc_11 (pc := 694) rfl) rfl lS_223 rfl (Nat.le_of_ble_eq_true rfl) (Nat.le_of_ble_eq_true rfl) (by decide) e1 (by omega) (by omega) ?_
  refine gl_run K doc_11 7 (pc' := 706) (lv' := [(5, .int t), (0, .ref 250), (1, .ref 0), (2, .ref 140), (3, .ref 162), (4, .int (nJ i))]) (st' := [.int (ag xs i 1), .ref 140]) (ob := [nJ i + Int32.ofInt 1]) rfl (fm_c (ob_ok hi hL 1 (by decide)) fm_n) ?_
  refine gl_V (k' := 230) (As := [.int (ag xs i 1)]) (rest := []) (ci := 11) (q := (RX12, TX12, 41)) K (dOK_lk doc_11 (pc := 706) rfl) rfl rfl lV_225 rfl rfl rfl (Nat.le_of_ble_eq_true rfl) (Nat.le_of_ble_eq_true rfl) ob1 (by decide) e2 (by omega) (by omega) ?_
  refine gl_run K doc_11 2 (pc' := 712) (lv' := [(6, .int rm), (5, .int t), (0, .ref 250), (1, .ref 0), (2, .ref 140), (3, .ref 162), (4, .int (nJ i))]) (st' := [.ref 140]) (ob := []) rfl fm_n ?_
  refine gl_V (k' := 367) (As := []) (rest := []) (ci := 11) (q := (RX12, TX12, 41)) K (dOK_lk doc_11 (pc := 712) rfl) rfl rfl lV_187 rfl rfl rfl (Nat.le_of_ble_eq_true rfl) (Nat.le_of_ble_eq_true rfl) ob2 (by decide) e3 (by omega) (by omega) ?_
  refine gl_run K doc_11 1 (pc' := 717) (lv' := [(6, .int rm), (5, .int t), (0, .ref 250), (1, .ref 0), (2, .ref 140), (3, .ref 162), (4, .int (nJ i))]) (st' := [.int t, .int t]) (ob := []) rfl fm_n ?_
  refine gl_eq (tgt := 722) K (dOK_lk doc_11 (pc := 717) rfl) (by decide) rfl ?_
  refine gl_run K doc_11 1 (pc' := 724) (lv' := [(6, .int rm), (5, .int t), (0, .ref 250), (1, .ref 0), (2, .ref 140), (3, .ref 162), (4, .int (nJ i))]) (st' := [.int t]) (ob := []) rfl fm_n ?_
  by_cases h0 : t = 0
  · obtain ⟨g, hg1, hg2⟩ := hz h0
    refine gl_n (tgt := 739) K (dOK_lk doc_11 (pc := 724) rfl) (by decide) (cI_ne1 h0) ?_
    refine gl_run K doc_11 2 (pc' := 729) (lv' := [(6, .int rm), (5, .int t), (0, .ref 250), (1, .ref 0), (2, .ref 140), (3, .ref 162), (4, .int (nJ i))]) (st' := [.int (Int32.ofInt 0), .ref 162]) (ob := []) rfl fm_n ?_
    refine gl_laload K (dOK_lk doc_11 (pc := 729) rfl) hg1 ?_
    rw [hg2]
    refine gl_run K doc_11 2 (pc' := 733) (lv' := [(6, .int rm), (5, .int t), (0, .ref 250), (1, .ref 0), (2, .ref 140), (3, .ref 162), (4, .int (nJ i))]) (st' := [.long (Int32.toInt64 rm), .long (Int32.toInt64 rm)]) (ob := []) rfl fm_n ?_
    refine gl_lcmp K (dOK_lk doc_11 (pc := 733) rfl) ?_
    rw [lcm3_0]
    refine gl_y (tgt := 739) K (dOK_lk doc_11 (pc := 734) rfl) (by decide) rfl ?_
    refine gl_run K doc_11 1 (pc' := 3186) (lv' := [(6, .int rm), (5, .int t), (0, .ref 250), (1, .ref 0), (2, .ref 140), (3, .ref 162), (4, .int (nJ i))]) (st' := []) (ob := []) rfl fm_n ?_
    refine gl_lv (lv' := [(0, .ref 250), (1, .ref 0), (2, .ref 140), (3, .ref 162), (4, .int (nJ i))]) (fm_c (List.mem_of_getElem? (i := 2) rfl) (fm_c (List.mem_of_getElem? (i := 3) rfl) (fm_c (List.mem_of_getElem? (i := 4) rfl) (fm_c (List.mem_of_getElem? (i := 5) rfl) (fm_c (List.mem_of_getElem? (i := 6) rfl) fm_n))))) ?_
    exact gl_wide (by omega) (by omega) (kk _ J3)
  · refine gl_y (tgt := 739) K (dOK_lk doc_11 (pc := 724) rfl) (by decide) (cI_ne0 h0) ?_
    refine gl_run K doc_11 1 (pc' := 3186) (lv' := [(6, .int rm), (5, .int t), (0, .ref 250), (1, .ref 0), (2, .ref 140), (3, .ref 162), (4, .int (nJ i))]) (st' := []) (ob := []) rfl fm_n ?_
    refine gl_lv (lv' := [(0, .ref 250), (1, .ref 0), (2, .ref 140), (3, .ref 162), (4, .int (nJ i))]) (fm_c (List.mem_of_getElem? (i := 2) rfl) (fm_c (List.mem_of_getElem? (i := 3) rfl) (fm_c (List.mem_of_getElem? (i := 4) rfl) (fm_c (List.mem_of_getElem? (i := 5) rfl) (fm_c (List.mem_of_getElem? (i := 6) rfl) fm_n))))) ?_
    exact gl_wide (by omega) (by omega) (kk _ J3)
set_option maxRecDepth 100000 in
theorem cs_12 {p : Program} {l : Launch} {e : Env} {s : State} {m : MethodId} {below : List Frame} {meth : Method} {c : Code} {b L : Nat} {xs : Nat → Int32} {D : va_G} {cs : Nat → ClassId} {ad : Nat → Nat} {A : Nat → Prop} (K : LX p l s m meth c b L xs D cs ad A) {i : Nat} (hi : i + 6 ≤ L) (hL : L ≤ 3072) {σ : SG} (hJ : JW σ) {cells slots : Nat} (hcc : cells + 2 ≤ 601024) (hss : slots + 12 ≤ 7293034) (kk : ∀ σ', JW σ' → GL p l e s m below meth c b D cs ad A σ' (cells + 2) (slots + 12) 3186 [(0, .ref 250), (1, .ref 0), (2, .ref 140), (3, .ref 162), (4, .int (nJ i))] []) : GL p l e s m below meth c b D cs ad A σ cells slots 742 [(0, .ref 250), (1, .ref 0), (2, .ref 140), (3, .ref 162), (4, .int (nJ i))] [] := by
  obtain ⟨Sc, Sm, hC, hM, R, M⟩ := hJ
  refine gl_run K doc_12 7 (pc' := 750) (lv' := [(0, .ref 250), (1, .ref 0), (2, .ref 140), (3, .ref 162), (4, .int (nJ i))]) (st' := [.ref 162, .int (ag xs i 1), .ref 0]) (ob := [nJ i + Int32.ofInt 1]) rfl (fm_c (ob_ok hi hL 1 (by decide)) fm_n) ?_
  obtain ⟨f1, c1, t, σ1, f2, rm, σ2, f3, σ3, e1, hc, e2, e3, ob1, ob2, J3, hz⟩ := two (f := Int32.toInt64) (vM := vI) (a127 R M ((ag xs i 1))) hC hM (fun rc rm S1 T h1 h2 => wr_319 (d := 0) h1 h2) (fun r h => S_231 (d := 0) h) (q_231 (d := 0) M) (fun c o T h => mRi h)
  refine gl_S (k' := 319) (As := [.ref 0, .int (ag xs i 1), .ref 162]) (rest := []) K (dOK_lk doc_12 (pc := 750) rfl) rfl lS_226 rfl (Nat.le_of_ble_eq_true rfl) (Nat.le_of_ble_eq_true rfl) (by decide) e1 (by omega) (by omega) ?_
  refine gl_run K doc_12 7 (pc' := 762) (lv' := [(5, .int t), (0, .ref 250), (1, .ref 0), (2, .ref 140), (3, .ref 162), (4, .int (nJ i))]) (st' := [.int (ag xs i 1), .ref 140]) (ob := [nJ i + Int32.ofInt 1]) rfl (fm_c (ob_ok hi hL 1 (by decide)) fm_n) ?_
  refine gl_V (k' := 231) (As := [.int (ag xs i 1)]) (rest := []) (ci := 11) (q := (RX12, TX12, 41)) K (dOK_lk doc_12 (pc := 762) rfl) rfl rfl lV_228 rfl rfl rfl (Nat.le_of_ble_eq_true rfl) (Nat.le_of_ble_eq_true rfl) ob1 (by decide) e2 (by omega) (by omega) ?_
  refine gl_run K doc_12 2 (pc' := 768) (lv' := [(6, .int rm), (5, .int t), (0, .ref 250), (1, .ref 0), (2, .ref 140), (3, .ref 162), (4, .int (nJ i))]) (st' := [.ref 140]) (ob := []) rfl fm_n ?_
  refine gl_V (k' := 367) (As := []) (rest := []) (ci := 11) (q := (RX12, TX12, 41)) K (dOK_lk doc_12 (pc := 768) rfl) rfl rfl lV_187 rfl rfl rfl (Nat.le_of_ble_eq_true rfl) (Nat.le_of_ble_eq_true rfl) ob2 (by decide) e3 (by omega) (by omega) ?_
  refine gl_run K doc_12 1 (pc' := 773) (lv' := [(6, .int rm), (5, .int t), (0, .ref 250), (1, .ref 0), (2, .ref 140), (3, .ref 162), (4, .int (nJ i))]) (st' := [.int t, .int t]) (ob := []) rfl fm_n ?_
  refine gl_eq (tgt := 778) K (dOK_lk doc_12 (pc := 773) rfl) (by decide) rfl ?_
  refine gl_run K doc_12 1 (pc' := 780) (lv' := [(6, .int rm), (5, .int t), (0, .ref 250), (1, .ref 0), (2, .ref 140), (3, .ref 162), (4, .int (nJ i))]) (st' := [.int t]) (ob := []) rfl fm_n ?_
  by_cases h0 : t = 0
  · obtain ⟨g, hg1, hg2⟩ := hz h0
    refine gl_n (tgt := 795) K (dOK_lk doc_12 (pc := 780) rfl) (by decide) (cI_ne1 h0) ?_
    refine gl_run K doc_12 2 (pc' := 785) (lv' := [(6, .int rm), (5, .int t), (0, .ref 250), (1, .ref 0), (2, .ref 140), (3, .ref 162), (4, .int (nJ i))]) (st' := [.int (Int32.ofInt 0), .ref 162]) (ob := []) rfl fm_n ?_
    refine gl_laload K (dOK_lk doc_12 (pc := 785) rfl) hg1 ?_
    rw [hg2]
    refine gl_run K doc_12 2 (pc' := 789) (lv' := [(6, .int rm), (5, .int t), (0, .ref 250), (1, .ref 0), (2, .ref 140), (3, .ref 162), (4, .int (nJ i))]) (st' := [.long (Int32.toInt64 rm), .long (Int32.toInt64 rm)]) (ob := []) rfl fm_n ?_
    refine gl_lcmp K (dOK_lk doc_12 (pc := 789) rfl) ?_
    rw [lcm3_0]
    refine gl_y (tgt := 795) K (dOK_lk doc_12 (pc := 790) rfl) (by decide) rfl ?_
    refine gl_run K doc_12 1 (pc' := 3186) (lv' := [(6, .int rm), (5, .int t), (0, .ref 250), (1, .ref 0), (2, .ref 140), (3, .ref 162), (4, .int (nJ i))]) (st' := []) (ob := []) rfl fm_n ?_
    refine gl_lv (lv' := [(0, .ref 250), (1, .ref 0), (2, .ref 140), (3, .ref 162), (4, .int (nJ i))]) (fm_c (List.mem_of_getElem? (i := 2) rfl) (fm_c (List.mem_of_getElem? (i := 3) rfl) (fm_c (List.mem_of_getElem? (i := 4) rfl) (fm_c (List.mem_of_getElem? (i := 5) rfl) (fm_c (List.mem_of_getElem? (i := 6) rfl) fm_n))))) ?_
    exact gl_wide (by omega) (by omega) (kk _ J3)
  · refine gl_y (tgt := 795) K (dOK_lk doc_12 (pc := 780) rfl) (by decide) (cI_ne0 h0) ?_
    refine gl_run K doc_12 1 (pc' := 3186) (lv' := [(6, .int rm), (5, .int t), (0, .ref 250), (1, .ref 0), (2, .ref 140), (3, .ref 162), (4, .int (nJ i))]) (st' := []) (ob := []) rfl fm_n ?_
    refine gl_lv (lv' := [(0, .ref 250), (1, .ref 0), (2, .ref 140), (3, .ref 162), (4, .int (nJ i))]) (fm_c (List.mem_of_getElem? (i := 2) rfl) (fm_c (List.mem_of_getElem? (i := 3) rfl) (fm_c (List.mem_of_getElem? (i := 4) rfl) (fm_c (List.mem_of_getElem? (i := 5) rfl) (fm_c (List.mem_of_getElem? (i := 6) rfl) fm_n))))) ?_
    exact gl_wide (by omega) (by omega) (kk _ J3)
set_option maxRecDepth 100000 in
theorem cs_13 {p : Program} {l : Launch} {e : Env} {s : State} {m : MethodId} {below : List Frame} {meth : Method} {c : Code} {b L : Nat} {xs : Nat → Int32} {D : va_G} {cs : Nat → ClassId} {ad : Nat → Nat} {A : Nat → Prop} (K : LX p l s m meth c b L xs D cs ad A) {i : Nat} (hi : i + 6 ≤ L) (hL : L ≤ 3072) {σ : SG} (hJ : JW σ) {cells slots : Nat} (hcc : cells + 2 ≤ 601024) (hss : slots + 12 ≤ 7293034) (kk : ∀ σ', JW σ' → GL p l e s m below meth c b D cs ad A σ' (cells + 2) (slots + 12) 3186 [(0, .ref 250), (1, .ref 0), (2, .ref 140), (3, .ref 162), (4, .int (nJ i))] []) : GL p l e s m below meth c b D cs ad A σ cells slots 798 [(0, .ref 250), (1, .ref 0), (2, .ref 140), (3, .ref 162), (4, .int (nJ i))] [] := by
  obtain ⟨Sc, Sm, hC, hM, R, M⟩ := hJ
  refine gl_run K doc_13 12 (pc' := 812) (lv' := [(0, .ref 250), (1, .ref 0), (2, .ref 140), (3, .ref 162), (4, .int (nJ i))]) (st' := [.ref 162, .int (ag xs i 2), .int (ag xs i 1), .ref 0]) (ob := [nJ i + Int32.ofInt 1, nJ i + Int32.ofInt 2]) rfl (fm_c (ob_ok hi hL 1 (by decide)) (fm_c (ob_ok hi hL 2 (by decide)) fm_n)) ?_
  obtain ⟨f1, c1, t, σ1, f2, rm, σ2, f3, σ3, e1, hc, e2, e3, ob1, ob2, J3, hz⟩ := two (f := Int32.toInt64) (vM := vI) (a128 R M ((ag xs i 1)) ((ag xs i 2))) hC hM (fun rc rm S1 T h1 h2 => wr_320 (d := 0) h1 h2) (fun r h => S_232 (d := 0) h) (q_232 (d := 0) M) (fun c o T h => mRi h)
  refine gl_S (k' := 320) (As := [.ref 0, .int (ag xs i 1), .int (ag xs i 2), .ref 162]) (rest := []) K (dOK_lk doc_13 (pc := 812) rfl) rfl lS_229 rfl (Nat.le_of_ble_eq_true rfl) (Nat.le_of_ble_eq_true rfl) (by decide) e1 (by omega) (by omega) ?_
  refine gl_run K doc_13 12 (pc' := 830) (lv' := [(5, .int t), (0, .ref 250), (1, .ref 0), (2, .ref 140), (3, .ref 162), (4, .int (nJ i))]) (st' := [.int (ag xs i 2), .int (ag xs i 1), .ref 140]) (ob := [nJ i + Int32.ofInt 1, nJ i + Int32.ofInt 2]) rfl (fm_c (ob_ok hi hL 1 (by decide)) (fm_c (ob_ok hi hL 2 (by decide)) fm_n)) ?_
  refine gl_V (k' := 232) (As := [.int (ag xs i 1), .int (ag xs i 2)]) (rest := []) (ci := 11) (q := (RX12, TX12, 41)) K (dOK_lk doc_13 (pc := 830) rfl) rfl rfl lV_232 rfl rfl rfl (Nat.le_of_ble_eq_true rfl) (Nat.le_of_ble_eq_true rfl) ob1 (by decide) e2 (by omega) (by omega) ?_
  refine gl_run K doc_13 2 (pc' := 836) (lv' := [(6, .int rm), (5, .int t), (0, .ref 250), (1, .ref 0), (2, .ref 140), (3, .ref 162), (4, .int (nJ i))]) (st' := [.ref 140]) (ob := []) rfl fm_n ?_
  refine gl_V (k' := 367) (As := []) (rest := []) (ci := 11) (q := (RX12, TX12, 41)) K (dOK_lk doc_13 (pc := 836) rfl) rfl rfl lV_187 rfl rfl rfl (Nat.le_of_ble_eq_true rfl) (Nat.le_of_ble_eq_true rfl) ob2 (by decide) e3 (by omega) (by omega) ?_
  refine gl_run K doc_13 1 (pc' := 841) (lv' := [(6, .int rm), (5, .int t), (0, .ref 250), (1, .ref 0), (2, .ref 140), (3, .ref 162), (4, .int (nJ i))]) (st' := [.int t, .int t]) (ob := []) rfl fm_n ?_
  refine gl_eq (tgt := 846) K (dOK_lk doc_13 (pc := 841) rfl) (by decide) rfl ?_
  refine gl_run K doc_13 1 (pc' := 848) (lv' := [(6, .int rm), (5, .int t), (0, .ref 250), (1, .ref 0), (2, .ref 140), (3, .ref 162), (4, .int (nJ i))]) (st' := [.int t]) (ob := []) rfl fm_n ?_
  by_cases h0 : t = 0
  · obtain ⟨g, hg1, hg2⟩ := hz h0
    refine gl_n (tgt := 863) K (dOK_lk doc_13 (pc := 848) rfl) (by decide) (cI_ne1 h0) ?_
    refine gl_run K doc_13 2 (pc' := 853) (lv' := [(6, .int rm), (5, .int t), (0, .ref 250), (1, .ref 0), (2, .ref 140), (3, .ref 162), (4, .int (nJ i))]) (st' := [.int (Int32.ofInt 0), .ref 162]) (ob := []) rfl fm_n ?_
    refine gl_laload K (dOK_lk doc_13 (pc := 853) rfl) hg1 ?_
    rw [hg2]
    refine gl_run K doc_13 2 (pc' := 857) (lv' := [(6, .int rm), (5, .int t), (0, .ref 250), (1, .ref 0), (2, .ref 140), (3, .ref 162), (4, .int (nJ i))]) (st' := [.long (Int32.toInt64 rm), .long (Int32.toInt64 rm)]) (ob := []) rfl fm_n ?_
    refine gl_lcmp K (dOK_lk doc_13 (pc := 857) rfl) ?_
    rw [lcm3_0]
    refine gl_y (tgt := 863) K (dOK_lk doc_13 (pc := 858) rfl) (by decide) rfl ?_
    refine gl_run K doc_13 1 (pc' := 3186) (lv' := [(6, .int rm), (5, .int t), (0, .ref 250), (1, .ref 0), (2, .ref 140), (3, .ref 162), (4, .int (nJ i))]) (st' := []) (ob := []) rfl fm_n ?_
    refine gl_lv (lv' := [(0, .ref 250), (1, .ref 0), (2, .ref 140), (3, .ref 162), (4, .int (nJ i))]) (fm_c (List.mem_of_getElem? (i := 2) rfl) (fm_c (List.mem_of_getElem? (i := 3) rfl) (fm_c (List.mem_of_getElem? (i := 4) rfl) (fm_c (List.mem_of_getElem? (i := 5) rfl) (fm_c (List.mem_of_getElem? (i := 6) rfl) fm_n))))) ?_
    exact gl_wide (by omega) (by omega) (kk _ J3)
  · refine gl_y (tgt := 863) K (dOK_lk doc_13 (pc := 848) rfl) (by decide) (cI_ne0 h0) ?_
    refine gl_run K doc_13 1 (pc' := 3186) (lv' := [(6, .int rm), (5, .int t), (0, .ref 250), (1, .ref 0), (2, .ref 140), (3, .ref 162), (4, .int (nJ i))]) (st' := []) (ob := []) rfl fm_n ?_
    refine gl_lv (lv' := [(0, .ref 250), (1, .ref 0), (2, .ref 140), (3, .ref 162), (4, .int (nJ i))]) (fm_c (List.mem_of_getElem? (i := 2) rfl) (fm_c (List.mem_of_getElem? (i := 3) rfl) (fm_c (List.mem_of_getElem? (i := 4) rfl) (fm_c (List.mem_of_getElem? (i := 5) rfl) (fm_c (List.mem_of_getElem? (i := 6) rfl) fm_n))))) ?_
    exact gl_wide (by omega) (by omega) (kk _ J3)
set_option maxRecDepth 100000 in
theorem cs_14 {p : Program} {l : Launch} {e : Env} {s : State} {m : MethodId} {below : List Frame} {meth : Method} {c : Code} {b L : Nat} {xs : Nat → Int32} {D : va_G} {cs : Nat → ClassId} {ad : Nat → Nat} {A : Nat → Prop} (K : LX p l s m meth c b L xs D cs ad A) {i : Nat} (hi : i + 6 ≤ L) (hL : L ≤ 3072) {σ : SG} (hJ : JW σ) {cells slots : Nat} (hcc : cells + 2 ≤ 601024) (hss : slots + 12 ≤ 7293034) (kk : ∀ σ', JW σ' → GL p l e s m below meth c b D cs ad A σ' (cells + 2) (slots + 12) 3186 [(0, .ref 250), (1, .ref 0), (2, .ref 140), (3, .ref 162), (4, .int (nJ i))] []) : GL p l e s m below meth c b D cs ad A σ cells slots 866 [(0, .ref 250), (1, .ref 0), (2, .ref 140), (3, .ref 162), (4, .int (nJ i))] [] := by
  obtain ⟨Sc, Sm, hC, hM, R, M⟩ := hJ
  refine gl_run K doc_14 2 (pc' := 868) (lv' := [(0, .ref 250), (1, .ref 0), (2, .ref 140), (3, .ref 162), (4, .int (nJ i))]) (st' := [.ref 162, .ref 0]) (ob := []) rfl fm_n ?_
  obtain ⟨f1, c1, t, σ1, f2, rm, σ2, f3, σ3, e1, hc, e2, e3, ob1, ob2, J3, hz⟩ := two (f := id) (vM := vJ) (a129 R M) hC hM (fun rc rm S1 T h1 h2 => wr_321 (d := 0) h1 h2) (fun r h => S_237 (d := 0) h) (q_237 (d := 0) M) (fun c o T h => mRl h)
  refine gl_S (k' := 321) (As := [.ref 0, .ref 162]) (rest := []) K (dOK_lk doc_14 (pc := 868) rfl) rfl lS_233 rfl (Nat.le_of_ble_eq_true rfl) (Nat.le_of_ble_eq_true rfl) (by decide) e1 (by omega) (by omega) ?_
  refine gl_run K doc_14 2 (pc' := 874) (lv' := [(5, .int t), (0, .ref 250), (1, .ref 0), (2, .ref 140), (3, .ref 162), (4, .int (nJ i))]) (st' := [.ref 140]) (ob := []) rfl fm_n ?_
  refine gl_V (k' := 237) (As := []) (rest := []) (ci := 11) (q := (RX12, TX12, 41)) K (dOK_lk doc_14 (pc := 874) rfl) rfl rfl lV_235 rfl rfl rfl (Nat.le_of_ble_eq_true rfl) (Nat.le_of_ble_eq_true rfl) ob1 (by decide) e2 (by omega) (by omega) ?_
  refine gl_run K doc_14 2 (pc' := 880) (lv' := [(6, .long rm), (5, .int t), (0, .ref 250), (1, .ref 0), (2, .ref 140), (3, .ref 162), (4, .int (nJ i))]) (st' := [.ref 140]) (ob := []) rfl fm_n ?_
  refine gl_V (k' := 367) (As := []) (rest := []) (ci := 11) (q := (RX12, TX12, 41)) K (dOK_lk doc_14 (pc := 880) rfl) rfl rfl lV_187 rfl rfl rfl (Nat.le_of_ble_eq_true rfl) (Nat.le_of_ble_eq_true rfl) ob2 (by decide) e3 (by omega) (by omega) ?_
  refine gl_run K doc_14 1 (pc' := 885) (lv' := [(6, .long rm), (5, .int t), (0, .ref 250), (1, .ref 0), (2, .ref 140), (3, .ref 162), (4, .int (nJ i))]) (st' := [.int t, .int t]) (ob := []) rfl fm_n ?_
  refine gl_eq (tgt := 890) K (dOK_lk doc_14 (pc := 885) rfl) (by decide) rfl ?_
  refine gl_run K doc_14 1 (pc' := 892) (lv' := [(6, .long rm), (5, .int t), (0, .ref 250), (1, .ref 0), (2, .ref 140), (3, .ref 162), (4, .int (nJ i))]) (st' := [.int t]) (ob := []) rfl fm_n ?_
  by_cases h0 : t = 0
  · obtain ⟨g, hg1, hg2⟩ := hz h0
    refine gl_n (tgt := 906) K (dOK_lk doc_14 (pc := 892) rfl) (by decide) (cI_ne1 h0) ?_
    refine gl_run K doc_14 2 (pc' := 897) (lv' := [(6, .long rm), (5, .int t), (0, .ref 250), (1, .ref 0), (2, .ref 140), (3, .ref 162), (4, .int (nJ i))]) (st' := [.int (Int32.ofInt 0), .ref 162]) (ob := []) rfl fm_n ?_
    refine gl_laload K (dOK_lk doc_14 (pc := 897) rfl) hg1 ?_
    rw [hg2]
    refine gl_run K doc_14 1 (pc' := 900) (lv' := [(6, .long rm), (5, .int t), (0, .ref 250), (1, .ref 0), (2, .ref 140), (3, .ref 162), (4, .int (nJ i))]) (st' := [.long rm, .long rm]) (ob := []) rfl fm_n ?_
    refine gl_lcmp K (dOK_lk doc_14 (pc := 900) rfl) ?_
    rw [lcm3_0]
    refine gl_y (tgt := 906) K (dOK_lk doc_14 (pc := 901) rfl) (by decide) rfl ?_
    refine gl_run K doc_14 1 (pc' := 3186) (lv' := [(6, .long rm), (5, .int t), (0, .ref 250), (1, .ref 0), (2, .ref 140), (3, .ref 162), (4, .int (nJ i))]) (st' := []) (ob := []) rfl fm_n ?_
    refine gl_lv (lv' := [(0, .ref 250), (1, .ref 0), (2, .ref 140), (3, .ref 162), (4, .int (nJ i))]) (fm_c (List.mem_of_getElem? (i := 2) rfl) (fm_c (List.mem_of_getElem? (i := 3) rfl) (fm_c (List.mem_of_getElem? (i := 4) rfl) (fm_c (List.mem_of_getElem? (i := 5) rfl) (fm_c (List.mem_of_getElem? (i := 6) rfl) fm_n))))) ?_
    exact gl_wide (by omega) (by omega) (kk _ J3)
  · refine gl_y (tgt := 906) K (dOK_lk doc_14 (pc := 892) rfl) (by decide) (cI_ne0 h0) ?_
    refine gl_run K doc_14 1 (pc' := 3186) (lv' := [(6, .long rm), (5, .int t), (0, .ref 250), (1, .ref 0), (2, .ref 140), (3, .ref 162), (4, .int (nJ i))]) (st' := []) (ob := []) rfl fm_n ?_
    refine gl_lv (lv' := [(0, .ref 250), (1, .ref 0), (2, .ref 140), (3, .ref 162), (4, .int (nJ i))]) (fm_c (List.mem_of_getElem? (i := 2) rfl) (fm_c (List.mem_of_getElem? (i := 3) rfl) (fm_c (List.mem_of_getElem? (i := 4) rfl) (fm_c (List.mem_of_getElem? (i := 5) rfl) (fm_c (List.mem_of_getElem? (i := 6) rfl) fm_n))))) ?_
    exact gl_wide (by omega) (by omega) (kk _ J3)
