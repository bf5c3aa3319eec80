/-! the law's cases (printed by law.py) -/
set_option maxRecDepth 100000 in
theorem cs_15 {p : Program} {l : Launch} {e : Env} {s : State} {m : MethodId} {below : List Frame} {meth : Method} {c : Code} {b L : Nat} {xs : Nat → Int32} {D : va_G} {cs : Nat → ClassId} {ad : Nat → Nat} {A : Nat → Prop} (K : LX p l s m meth c b L xs D cs ad A) {i : Nat} (hi : i + 6 ≤ L) (hL : L ≤ 3072) {σ : SG} (hJ : JW σ) {cells slots : Nat} (hcc : cells + 2 ≤ 601024) (hss : slots + 12 ≤ 7293034) (kk : ∀ σ', JW σ' → GL p l e s m below meth c b D cs ad A σ' (cells + 2) (slots + 12) 3186 [(0, .ref 250), (1, .ref 0), (2, .ref 140), (3, .ref 162), (4, .int (nJ i))] []) : GL p l e s m below meth c b D cs ad A σ cells slots 909 [(0, .ref 250), (1, .ref 0), (2, .ref 140), (3, .ref 162), (4, .int (nJ i))] [] := by
  obtain ⟨Sc, Sm, hC, hM, R, M⟩ := hJ
  refine gl_run K doc_15 12 (pc' := 923) (lv' := [(0, .ref 250), (1, .ref 0), (2, .ref 140), (3, .ref 162), (4, .int (nJ i))]) (st' := [.ref 162, .int (ag xs i 2), .int (ag xs i 1), .ref 0]) (ob := [nJ i + Int32.ofInt 1, nJ i + Int32.ofInt 2]) rfl (fm_c (ob_ok hi hL 1 (by decide)) (fm_c (ob_ok hi hL 2 (by decide)) fm_n)) ?_
  obtain ⟨f1, c1, t, σ1, f2, rm, σ2, f3, σ3, e1, hc, e2, e3, ob1, ob2, J3, hz⟩ := two (f := bLo) (vM := vZ) (a130 R M ((ag xs i 1)) ((ag xs i 2))) hC hM (fun rc rm S1 T h1 h2 => wr_322 (d := 0) h1 h2) (fun r h => S_241 (d := 0) h) (q_241 (d := 0) M) (fun c o T h => mRi h)
  refine gl_S (k' := 322) (As := [.ref 0, .int (ag xs i 1), .int (ag xs i 2), .ref 162]) (rest := []) K (dOK_lk doc_15 (pc := 923) rfl) rfl lS_236 rfl (Nat.le_of_ble_eq_true rfl) (Nat.le_of_ble_eq_true rfl) (by decide) e1 (by omega) (by omega) ?_
  refine gl_run K doc_15 12 (pc' := 941) (lv' := [(5, .int t), (0, .ref 250), (1, .ref 0), (2, .ref 140), (3, .ref 162), (4, .int (nJ i))]) (st' := [.int (ag xs i 2), .int (ag xs i 1), .ref 140]) (ob := [nJ i + Int32.ofInt 1, nJ i + Int32.ofInt 2]) rfl (fm_c (ob_ok hi hL 1 (by decide)) (fm_c (ob_ok hi hL 2 (by decide)) fm_n)) ?_
  refine gl_V (k' := 241) (As := [.int (ag xs i 1), .int (ag xs i 2)]) (rest := []) (ci := 11) (q := (RX12, TX12, 41)) K (dOK_lk doc_15 (pc := 941) rfl) rfl rfl lV_238 rfl rfl rfl (Nat.le_of_ble_eq_true rfl) (Nat.le_of_ble_eq_true rfl) ob1 (by decide) e2 (by omega) (by omega) ?_
  refine gl_run K doc_15 2 (pc' := 947) (lv' := [(6, .int (b2i rm)), (5, .int t), (0, .ref 250), (1, .ref 0), (2, .ref 140), (3, .ref 162), (4, .int (nJ i))]) (st' := [.ref 140]) (ob := []) rfl fm_n ?_
  refine gl_V (k' := 367) (As := []) (rest := []) (ci := 11) (q := (RX12, TX12, 41)) K (dOK_lk doc_15 (pc := 947) rfl) rfl rfl lV_187 rfl rfl rfl (Nat.le_of_ble_eq_true rfl) (Nat.le_of_ble_eq_true rfl) ob2 (by decide) e3 (by omega) (by omega) ?_
  refine gl_run K doc_15 1 (pc' := 952) (lv' := [(6, .int (b2i rm)), (5, .int t), (0, .ref 250), (1, .ref 0), (2, .ref 140), (3, .ref 162), (4, .int (nJ i))]) (st' := [.int t, .int t]) (ob := []) rfl fm_n ?_
  refine gl_eq (tgt := 957) K (dOK_lk doc_15 (pc := 952) rfl) (by decide) rfl ?_
  refine gl_run K doc_15 1 (pc' := 959) (lv' := [(6, .int (b2i rm)), (5, .int t), (0, .ref 250), (1, .ref 0), (2, .ref 140), (3, .ref 162), (4, .int (nJ i))]) (st' := [.int t]) (ob := []) rfl fm_n ?_
  by_cases h0 : t = 0
  · obtain ⟨g, hg1, hg2⟩ := hz h0
    refine gl_n (tgt := 981) K (dOK_lk doc_15 (pc := 959) rfl) (by decide) (cI_ne1 h0) ?_
    refine gl_run K doc_15 2 (pc' := 964) (lv' := [(6, .int (b2i rm)), (5, .int t), (0, .ref 250), (1, .ref 0), (2, .ref 140), (3, .ref 162), (4, .int (nJ i))]) (st' := [.int (Int32.ofInt 0), .ref 162]) (ob := []) rfl fm_n ?_
    refine gl_laload K (dOK_lk doc_15 (pc := 964) rfl) hg1 ?_
    rw [hg2]
    refine gl_run K doc_15 1 (pc' := 967) (lv' := [(6, .int (b2i rm)), (5, .int t), (0, .ref 250), (1, .ref 0), (2, .ref 140), (3, .ref 162), (4, .int (nJ i))]) (st' := [.int (b2i rm), .long (bLo rm)]) (ob := []) rfl fm_n ?_
    cases rm
    · refine gl_y (tgt := 974) K (dOK_lk doc_15 (pc := 967) rfl) (by decide) rfl ?_
      refine gl_stC K (dOK_lk doc_15 (pc := 974) rfl) (r := (975, [(6, .int (b2i false)), (5, .int t), (0, .ref 250), (1, .ref 0), (2, .ref 140), (3, .ref 162), (4, .int (nJ i))], [.long (Int64.ofNat 0), .long (bLo false)])) rfl ?_
      refine gl_lcmp K (dOK_lk doc_15 (pc := 975) rfl) ?_
      refine gl_y (tgt := 981) K (dOK_lk doc_15 (pc := 976) rfl) rfl (by decide) ?_
      refine gl_run K doc_15 1 (pc' := 3186) (lv' := [(6, .int (b2i false)), (5, .int t), (0, .ref 250), (1, .ref 0), (2, .ref 140), (3, .ref 162), (4, .int (nJ i))]) (st' := []) (ob := []) rfl fm_n ?_
      refine gl_lv (lv' := [(0, .ref 250), (1, .ref 0), (2, .ref 140), (3, .ref 162), (4, .int (nJ i))]) (fm_c (List.mem_of_getElem? (i := 2) rfl) (fm_c (List.mem_of_getElem? (i := 3) rfl) (fm_c (List.mem_of_getElem? (i := 4) rfl) (fm_c (List.mem_of_getElem? (i := 5) rfl) (fm_c (List.mem_of_getElem? (i := 6) rfl) fm_n))))) ?_
      exact gl_wide (by omega) (by omega) (kk _ J3)
    · refine gl_n (tgt := 974) K (dOK_lk doc_15 (pc := 967) rfl) (by decide) rfl ?_
      refine gl_stC K (dOK_lk doc_15 (pc := 970) rfl) (r := (971, [(6, .int (b2i true)), (5, .int t), (0, .ref 250), (1, .ref 0), (2, .ref 140), (3, .ref 162), (4, .int (nJ i))], [.long (Int64.ofNat 1), .long (bLo true)])) rfl ?_
      refine gl_run K doc_15 1 (pc' := 975) (lv' := [(6, .int (b2i true)), (5, .int t), (0, .ref 250), (1, .ref 0), (2, .ref 140), (3, .ref 162), (4, .int (nJ i))]) (st' := [.long (Int64.ofNat 1), .long (bLo true)]) (ob := []) rfl fm_n ?_
      refine gl_lcmp K (dOK_lk doc_15 (pc := 975) rfl) ?_
      refine gl_y (tgt := 981) K (dOK_lk doc_15 (pc := 976) rfl) rfl (by decide) ?_
      refine gl_run K doc_15 1 (pc' := 3186) (lv' := [(6, .int (b2i true)), (5, .int t), (0, .ref 250), (1, .ref 0), (2, .ref 140), (3, .ref 162), (4, .int (nJ i))]) (st' := []) (ob := []) rfl fm_n ?_
      refine gl_lv (lv' := [(0, .ref 250), (1, .ref 0), (2, .ref 140), (3, .ref 162), (4, .int (nJ i))]) (fm_c (List.mem_of_getElem? (i := 2) rfl) (fm_c (List.mem_of_getElem? (i := 3) rfl) (fm_c (List.mem_of_getElem? (i := 4) rfl) (fm_c (List.mem_of_getElem? (i := 5) rfl) (fm_c (List.mem_of_getElem? (i := 6) rfl) fm_n))))) ?_
      exact gl_wide (by omega) (by omega) (kk _ J3)
  · refine gl_y (tgt := 981) K (dOK_lk doc_15 (pc := 959) rfl) (by decide) (cI_ne0 h0) ?_
    refine gl_run K doc_15 1 (pc' := 3186) (lv' := [(6, .int (b2i rm)), (5, .int t), (0, .ref 250), (1, .ref 0), (2, .ref 140), (3, .ref 162), (4, .int (nJ i))]) (st' := []) (ob := []) rfl fm_n ?_
    refine gl_lv (lv' := [(0, .ref 250), (1, .ref 0), (2, .ref 140), (3, .ref 162), (4, .int (nJ i))]) (fm_c (List.mem_of_getElem? (i := 2) rfl) (fm_c (List.mem_of_getElem? (i := 3) rfl) (fm_c (List.mem_of_getElem? (i := 4) rfl) (fm_c (List.mem_of_getElem? (i := 5) rfl) (fm_c (List.mem_of_getElem? (i := 6) rfl) fm_n))))) ?_
    exact gl_wide (by omega) (by omega) (kk _ J3)
set_option maxRecDepth 100000 in
theorem cs_16 {p : Program} {l : Launch} {e : Env} {s : State} {m : MethodId} {below : List Frame} {meth : Method} {c : Code} {b L : Nat} {xs : Nat → Int32} {D : va_G} {cs : Nat → ClassId} {ad : Nat → Nat} {A : Nat → Prop} (K : LX p l s m meth c b L xs D cs ad A) {i : Nat} (hi : i + 6 ≤ L) (hL : L ≤ 3072) {σ : SG} (hJ : JW σ) {cells slots : Nat} (hcc : cells + 2 ≤ 601024) (hss : slots + 12 ≤ 7293034) (kk : ∀ σ', JW σ' → GL p l e s m below meth c b D cs ad A σ' (cells + 2) (slots + 12) 3186 [(0, .ref 250), (1, .ref 0), (2, .ref 140), (3, .ref 162), (4, .int (nJ i))] []) : GL p l e s m below meth c b D cs ad A σ cells slots 984 [(0, .ref 250), (1, .ref 0), (2, .ref 140), (3, .ref 162), (4, .int (nJ i))] [] := by
  obtain ⟨Sc, Sm, hC, hM, R, M⟩ := hJ
  refine gl_run K doc_16 7 (pc' := 992) (lv' := [(0, .ref 250), (1, .ref 0), (2, .ref 140), (3, .ref 162), (4, .int (nJ i))]) (st' := [.ref 162, .int (ag xs i 1), .ref 0]) (ob := [nJ i + Int32.ofInt 1]) rfl (fm_c (ob_ok hi hL 1 (by decide)) fm_n) ?_
  obtain ⟨f1, c1, t, σ1, f2, rm, σ2, f3, σ3, e1, hc, e2, e3, ob1, ob2, J3, hz⟩ := two (f := id) (vM := vJ) (a131 R M ((ag xs i 1))) hC hM (fun rc rm S1 T h1 h2 => wr_323 (d := 0) h1 h2) (fun r h => S_242 (d := 0) h) (q_242 (d := 0) M) (fun c o T h => mRl h)
  refine gl_S (k' := 323) (As := [.ref 0, .int (ag xs i 1), .ref 162]) (rest := []) K (dOK_lk doc_16 (pc := 992) rfl) rfl lS_239 rfl (Nat.le_of_ble_eq_true rfl) (Nat.le_of_ble_eq_true rfl) (by decide) e1 (by omega) (by omega) ?_
  refine gl_run K doc_16 7 (pc' := 1004) (lv' := [(5, .int t), (0, .ref 250), (1, .ref 0), (2, .ref 140), (3, .ref 162), (4, .int (nJ i))]) (st' := [.int (ag xs i 1), .ref 140]) (ob := [nJ i + Int32.ofInt 1]) rfl (fm_c (ob_ok hi hL 1 (by decide)) fm_n) ?_
  refine gl_V (k' := 242) (As := [.int (ag xs i 1)]) (rest := []) (ci := 11) (q := (RX12, TX12, 41)) K (dOK_lk doc_16 (pc := 1004) rfl) rfl rfl lV_241 rfl rfl rfl (Nat.le_of_ble_eq_true rfl) (Nat.le_of_ble_eq_true rfl) ob1 (by decide) e2 (by omega) (by omega) ?_
  refine gl_run K doc_16 2 (pc' := 1010) (lv' := [(6, .long rm), (5, .int t), (0, .ref 250), (1, .ref 0), (2, .ref 140), (3, .ref 162), (4, .int (nJ i))]) (st' := [.ref 140]) (ob := []) rfl fm_n ?_
  refine gl_V (k' := 367) (As := []) (rest := []) (ci := 11) (q := (RX12, TX12, 41)) K (dOK_lk doc_16 (pc := 1010) rfl) rfl rfl lV_187 rfl rfl rfl (Nat.le_of_ble_eq_true rfl) (Nat.le_of_ble_eq_true rfl) ob2 (by decide) e3 (by omega) (by omega) ?_
  refine gl_run K doc_16 1 (pc' := 1015) (lv' := [(6, .long rm), (5, .int t), (0, .ref 250), (1, .ref 0), (2, .ref 140), (3, .ref 162), (4, .int (nJ i))]) (st' := [.int t, .int t]) (ob := []) rfl fm_n ?_
  refine gl_eq (tgt := 1020) K (dOK_lk doc_16 (pc := 1015) rfl) (by decide) rfl ?_
  refine gl_run K doc_16 1 (pc' := 1022) (lv' := [(6, .long rm), (5, .int t), (0, .ref 250), (1, .ref 0), (2, .ref 140), (3, .ref 162), (4, .int (nJ i))]) (st' := [.int t]) (ob := []) rfl fm_n ?_
  by_cases h0 : t = 0
  · obtain ⟨g, hg1, hg2⟩ := hz h0
    refine gl_n (tgt := 1036) K (dOK_lk doc_16 (pc := 1022) rfl) (by decide) (cI_ne1 h0) ?_
    refine gl_run K doc_16 2 (pc' := 1027) (lv' := [(6, .long rm), (5, .int t), (0, .ref 250), (1, .ref 0), (2, .ref 140), (3, .ref 162), (4, .int (nJ i))]) (st' := [.int (Int32.ofInt 0), .ref 162]) (ob := []) rfl fm_n ?_
    refine gl_laload K (dOK_lk doc_16 (pc := 1027) rfl) hg1 ?_
    rw [hg2]
    refine gl_run K doc_16 1 (pc' := 1030) (lv' := [(6, .long rm), (5, .int t), (0, .ref 250), (1, .ref 0), (2, .ref 140), (3, .ref 162), (4, .int (nJ i))]) (st' := [.long rm, .long rm]) (ob := []) rfl fm_n ?_
    refine gl_lcmp K (dOK_lk doc_16 (pc := 1030) rfl) ?_
    rw [lcm3_0]
    refine gl_y (tgt := 1036) K (dOK_lk doc_16 (pc := 1031) rfl) (by decide) rfl ?_
    refine gl_run K doc_16 1 (pc' := 3186) (lv' := [(6, .long rm), (5, .int t), (0, .ref 250), (1, .ref 0), (2, .ref 140), (3, .ref 162), (4, .int (nJ i))]) (st' := []) (ob := []) rfl fm_n ?_
    refine gl_lv (lv' := [(0, .ref 250), (1, .ref 0), (2, .ref 140), (3, .ref 162), (4, .int (nJ i))]) (fm_c (List.mem_of_getElem? (i := 2) rfl) (fm_c (List.mem_of_getElem? (i := 3) rfl) (fm_c (List.mem_of_getElem? (i := 4) rfl) (fm_c (List.mem_of_getElem? (i := 5) rfl) (fm_c (List.mem_of_getElem? (i := 6) rfl) fm_n))))) ?_
    exact gl_wide (by omega) (by omega) (kk _ J3)
  · refine gl_y (tgt := 1036) K (dOK_lk doc_16 (pc := 1022) rfl) (by decide) (cI_ne0 h0) ?_
    refine gl_run K doc_16 1 (pc' := 3186) (lv' := [(6, .long rm), (5, .int t), (0, .ref 250), (1, .ref 0), (2, .ref 140), (3, .ref 162), (4, .int (nJ i))]) (st' := []) (ob := []) rfl fm_n ?_
    refine gl_lv (lv' := [(0, .ref 250), (1, .ref 0), (2, .ref 140), (3, .ref 162), (4, .int (nJ i))]) (fm_c (List.mem_of_getElem? (i := 2) rfl) (fm_c (List.mem_of_getElem? (i := 3) rfl) (fm_c (List.mem_of_getElem? (i := 4) rfl) (fm_c (List.mem_of_getElem? (i := 5) rfl) (fm_c (List.mem_of_getElem? (i := 6) rfl) fm_n))))) ?_
    exact gl_wide (by omega) (by omega) (kk _ J3)
set_option maxRecDepth 100000 in
theorem cs_17 {p : Program} {l : Launch} {e : Env} {s : State} {m : MethodId} {below : List Frame} {meth : Method} {c : Code} {b L : Nat} {xs : Nat → Int32} {D : va_G} {cs : Nat → ClassId} {ad : Nat → Nat} {A : Nat → Prop} (K : LX p l s m meth c b L xs D cs ad A) {i : Nat} (hi : i + 6 ≤ L) (hL : L ≤ 3072) {σ : SG} (hJ : JW σ) {cells slots : Nat} (hcc : cells + 2 ≤ 601024) (hss : slots + 12 ≤ 7293034) (kk : ∀ σ', JW σ' → GL p l e s m below meth c b D cs ad A σ' (cells + 2) (slots + 12) 3186 [(0, .ref 250), (1, .ref 0), (2, .ref 140), (3, .ref 162), (4, .int (nJ i))] []) : GL p l e s m below meth c b D cs ad A σ cells slots 1039 [(0, .ref 250), (1, .ref 0), (2, .ref 140), (3, .ref 162), (4, .int (nJ i))] [] := by
  obtain ⟨Sc, Sm, hC, hM, R, M⟩ := hJ
  refine gl_run K doc_17 2 (pc' := 1041) (lv' := [(0, .ref 250), (1, .ref 0), (2, .ref 140), (3, .ref 162), (4, .int (nJ i))]) (st' := [.ref 162, .ref 0]) (ob := []) rfl fm_n ?_
  obtain ⟨f1, c1, t, σ1, f2, rm, σ2, f3, σ3, e1, hc, e2, e3, ob1, ob2, J3, hz⟩ := two (f := id) (vM := vJ) (a132 R M) hC hM (fun rc rm S1 T h1 h2 => wr_324 (d := 0) h1 h2) (fun r h => S_243 (d := 0) h) (q_243 (d := 0) M) (fun c o T h => mRl h)
  refine gl_S (k' := 324) (As := [.ref 0, .ref 162]) (rest := []) K (dOK_lk doc_17 (pc := 1041) rfl) rfl lS_242 rfl (Nat.le_of_ble_eq_true rfl) (Nat.le_of_ble_eq_true rfl) (by decide) e1 (by omega) (by omega) ?_
  refine gl_run K doc_17 2 (pc' := 1047) (lv' := [(5, .int t), (0, .ref 250), (1, .ref 0), (2, .ref 140), (3, .ref 162), (4, .int (nJ i))]) (st' := [.ref 140]) (ob := []) rfl fm_n ?_
  refine gl_V (k' := 243) (As := []) (rest := []) (ci := 11) (q := (RX12, TX12, 41)) K (dOK_lk doc_17 (pc := 1047) rfl) rfl rfl lV_244 rfl rfl rfl (Nat.le_of_ble_eq_true rfl) (Nat.le_of_ble_eq_true rfl) ob1 (by decide) e2 (by omega) (by omega) ?_
  refine gl_run K doc_17 2 (pc' := 1053) (lv' := [(6, .long rm), (5, .int t), (0, .ref 250), (1, .ref 0), (2, .ref 140), (3, .ref 162), (4, .int (nJ i))]) (st' := [.ref 140]) (ob := []) rfl fm_n ?_
  refine gl_V (k' := 367) (As := []) (rest := []) (ci := 11) (q := (RX12, TX12, 41)) K (dOK_lk doc_17 (pc := 1053) rfl) rfl rfl lV_187 rfl rfl rfl (Nat.le_of_ble_eq_true rfl) (Nat.le_of_ble_eq_true rfl) ob2 (by decide) e3 (by omega) (by omega) ?_
  refine gl_run K doc_17 1 (pc' := 1058) (lv' := [(6, .long rm), (5, .int t), (0, .ref 250), (1, .ref 0), (2, .ref 140), (3, .ref 162), (4, .int (nJ i))]) (st' := [.int t, .int t]) (ob := []) rfl fm_n ?_
  refine gl_eq (tgt := 1063) K (dOK_lk doc_17 (pc := 1058) rfl) (by decide) rfl ?_
  refine gl_run K doc_17 1 (pc' := 1065) (lv' := [(6, .long rm), (5, .int t), (0, .ref 250), (1, .ref 0), (2, .ref 140), (3, .ref 162), (4, .int (nJ i))]) (st' := [.int t]) (ob := []) rfl fm_n ?_
  by_cases h0 : t = 0
  · obtain ⟨g, hg1, hg2⟩ := hz h0
    refine gl_n (tgt := 1079) K (dOK_lk doc_17 (pc := 1065) rfl) (by decide) (cI_ne1 h0) ?_
    refine gl_run K doc_17 2 (pc' := 1070) (lv' := [(6, .long rm), (5, .int t), (0, .ref 250), (1, .ref 0), (2, .ref 140), (3, .ref 162), (4, .int (nJ i))]) (st' := [.int (Int32.ofInt 0), .ref 162]) (ob := []) rfl fm_n ?_
    refine gl_laload K (dOK_lk doc_17 (pc := 1070) rfl) hg1 ?_
    rw [hg2]
    refine gl_run K doc_17 1 (pc' := 1073) (lv' := [(6, .long rm), (5, .int t), (0, .ref 250), (1, .ref 0), (2, .ref 140), (3, .ref 162), (4, .int (nJ i))]) (st' := [.long rm, .long rm]) (ob := []) rfl fm_n ?_
    refine gl_lcmp K (dOK_lk doc_17 (pc := 1073) rfl) ?_
    rw [lcm3_0]
    refine gl_y (tgt := 1079) K (dOK_lk doc_17 (pc := 1074) rfl) (by decide) rfl ?_
    refine gl_run K doc_17 1 (pc' := 3186) (lv' := [(6, .long rm), (5, .int t), (0, .ref 250), (1, .ref 0), (2, .ref 140), (3, .ref 162), (4, .int (nJ i))]) (st' := []) (ob := []) rfl fm_n ?_
    refine gl_lv (lv' := [(0, .ref 250), (1, .ref 0), (2, .ref 140), (3, .ref 162), (4, .int (nJ i))]) (fm_c (List.mem_of_getElem? (i := 2) rfl) (fm_c (List.mem_of_getElem? (i := 3) rfl) (fm_c (List.mem_of_getElem? (i := 4) rfl) (fm_c (List.mem_of_getElem? (i := 5) rfl) (fm_c (List.mem_of_getElem? (i := 6) rfl) fm_n))))) ?_
    exact gl_wide (by omega) (by omega) (kk _ J3)
  · refine gl_y (tgt := 1079) K (dOK_lk doc_17 (pc := 1065) rfl) (by decide) (cI_ne0 h0) ?_
    refine gl_run K doc_17 1 (pc' := 3186) (lv' := [(6, .long rm), (5, .int t), (0, .ref 250), (1, .ref 0), (2, .ref 140), (3, .ref 162), (4, .int (nJ i))]) (st' := []) (ob := []) rfl fm_n ?_
    refine gl_lv (lv' := [(0, .ref 250), (1, .ref 0), (2, .ref 140), (3, .ref 162), (4, .int (nJ i))]) (fm_c (List.mem_of_getElem? (i := 2) rfl) (fm_c (List.mem_of_getElem? (i := 3) rfl) (fm_c (List.mem_of_getElem? (i := 4) rfl) (fm_c (List.mem_of_getElem? (i := 5) rfl) (fm_c (List.mem_of_getElem? (i := 6) rfl) fm_n))))) ?_
    exact gl_wide (by omega) (by omega) (kk _ J3)
set_option maxRecDepth 100000 in
theorem cs_18 {p : Program} {l : Launch} {e : Env} {s : State} {m : MethodId} {below : List Frame} {meth : Method} {c : Code} {b L : Nat} {xs : Nat → Int32} {D : va_G} {cs : Nat → ClassId} {ad : Nat → Nat} {A : Nat → Prop} (K : LX p l s m meth c b L xs D cs ad A) {i : Nat} (hi : i + 6 ≤ L) (hL : L ≤ 3072) {σ : SG} (hJ : JW σ) {cells slots : Nat} (hcc : cells + 2 ≤ 601024) (hss : slots + 12 ≤ 7293034) (kk : ∀ σ', JW σ' → GL p l e s m below meth c b D cs ad A σ' (cells + 2) (slots + 12) 3186 [(0, .ref 250), (1, .ref 0), (2, .ref 140), (3, .ref 162), (4, .int (nJ i))] []) : GL p l e s m below meth c b D cs ad A σ cells slots 1082 [(0, .ref 250), (1, .ref 0), (2, .ref 140), (3, .ref 162), (4, .int (nJ i))] [] := by
  obtain ⟨Sc, Sm, hC, hM, R, M⟩ := hJ
  refine gl_run K doc_18 12 (pc' := 1096) (lv' := [(0, .ref 250), (1, .ref 0), (2, .ref 140), (3, .ref 162), (4, .int (nJ i))]) (st' := [.ref 162, .int (ag xs i 2), .int (ag xs i 1), .ref 0]) (ob := [nJ i + Int32.ofInt 1, nJ i + Int32.ofInt 2]) rfl (fm_c (ob_ok hi hL 1 (by decide)) (fm_c (ob_ok hi hL 2 (by decide)) fm_n)) ?_
  obtain ⟨f1, c1, t, σ1, f2, rm, σ2, f3, σ3, e1, hc, e2, e3, ob1, ob2, J3, hz⟩ := two (f := Int32.toInt64) (vM := vI) (a133 R M ((ag xs i 1)) ((ag xs i 2))) hC hM (fun rc rm S1 T h1 h2 => wr_325 (d := 0) h1 h2) (fun r h => S_245 (d := 0) h) (q_245 (d := 0) M) (fun c o T h => mRi h)
  refine gl_S (k' := 325) (As := [.ref 0, .int (ag xs i 1), .int (ag xs i 2), .ref 162]) (rest := []) K (dOK_lk doc_18 (pc := 1096) rfl) rfl lS_245 rfl (Nat.le_of_ble_eq_true rfl) (Nat.le_of_ble_eq_true rfl) (by decide) e1 (by omega) (by omega) ?_
  refine gl_run K doc_18 12 (pc' := 1114) (lv' := [(5, .int t), (0, .ref 250), (1, .ref 0), (2, .ref 140), (3, .ref 162), (4, .int (nJ i))]) (st' := [.int (ag xs i 2), .int (ag xs i 1), .ref 140]) (ob := [nJ i + Int32.ofInt 1, nJ i + Int32.ofInt 2]) rfl (fm_c (ob_ok hi hL 1 (by decide)) (fm_c (ob_ok hi hL 2 (by decide)) fm_n)) ?_
  refine gl_V (k' := 245) (As := [.int (ag xs i 1), .int (ag xs i 2)]) (rest := []) (ci := 11) (q := (RX12, TX12, 41)) K (dOK_lk doc_18 (pc := 1114) rfl) rfl rfl lV_247 rfl rfl rfl (Nat.le_of_ble_eq_true rfl) (Nat.le_of_ble_eq_true rfl) ob1 (by decide) e2 (by omega) (by omega) ?_
  refine gl_run K doc_18 2 (pc' := 1120) (lv' := [(6, .int rm), (5, .int t), (0, .ref 250), (1, .ref 0), (2, .ref 140), (3, .ref 162), (4, .int (nJ i))]) (st' := [.ref 140]) (ob := []) rfl fm_n ?_
  refine gl_V (k' := 367) (As := []) (rest := []) (ci := 11) (q := (RX12, TX12, 41)) K (dOK_lk doc_18 (pc := 1120) rfl) rfl rfl lV_187 rfl rfl rfl (Nat.le_of_ble_eq_true rfl) (Nat.le_of_ble_eq_true rfl) ob2 (by decide) e3 (by omega) (by omega) ?_
  refine gl_run K doc_18 1 (pc' := 1125) (lv' := [(6, .int rm), (5, .int t), (0, .ref 250), (1, .ref 0), (2, .ref 140), (3, .ref 162), (4, .int (nJ i))]) (st' := [.int t, .int t]) (ob := []) rfl fm_n ?_
  refine gl_eq (tgt := 1130) K (dOK_lk doc_18 (pc := 1125) rfl) (by decide) rfl ?_
  refine gl_run K doc_18 1 (pc' := 1132) (lv' := [(6, .int rm), (5, .int t), (0, .ref 250), (1, .ref 0), (2, .ref 140), (3, .ref 162), (4, .int (nJ i))]) (st' := [.int t]) (ob := []) rfl fm_n ?_
  by_cases h0 : t = 0
  · obtain ⟨g, hg1, hg2⟩ := hz h0
    refine gl_n (tgt := 1147) K (dOK_lk doc_18 (pc := 1132) rfl) (by decide) (cI_ne1 h0) ?_
    refine gl_run K doc_18 2 (pc' := 1137) (lv' := [(6, .int rm), (5, .int t), (0, .ref 250), (1, .ref 0), (2, .ref 140), (3, .ref 162), (4, .int (nJ i))]) (st' := [.int (Int32.ofInt 0), .ref 162]) (ob := []) rfl fm_n ?_
    refine gl_laload K (dOK_lk doc_18 (pc := 1137) rfl) hg1 ?_
    rw [hg2]
    refine gl_run K doc_18 2 (pc' := 1141) (lv' := [(6, .int rm), (5, .int t), (0, .ref 250), (1, .ref 0), (2, .ref 140), (3, .ref 162), (4, .int (nJ i))]) (st' := [.long (Int32.toInt64 rm), .long (Int32.toInt64 rm)]) (ob := []) rfl fm_n ?_
    refine gl_lcmp K (dOK_lk doc_18 (pc := 1141) rfl) ?_
    rw [lcm3_0]
    refine gl_y (tgt := 1147) K (dOK_lk doc_18 (pc := 1142) rfl) (by decide) rfl ?_
    refine gl_run K doc_18 1 (pc' := 3186) (lv' := [(6, .int rm), (5, .int t), (0, .ref 250), (1, .ref 0), (2, .ref 140), (3, .ref 162), (4, .int (nJ i))]) (st' := []) (ob := []) rfl fm_n ?_
    refine gl_lv (lv' := [(0, .ref 250), (1, .ref 0), (2, .ref 140), (3, .ref 162), (4, .int (nJ i))]) (fm_c (List.mem_of_getElem? (i := 2) rfl) (fm_c (List.mem_of_getElem? (i := 3) rfl) (fm_c (List.mem_of_getElem? (i := 4) rfl) (fm_c (List.mem_of_getElem? (i := 5) rfl) (fm_c (List.mem_of_getElem? (i := 6) rfl) fm_n))))) ?_
    exact gl_wide (by omega) (by omega) (kk _ J3)
  · refine gl_y (tgt := 1147) K (dOK_lk doc_18 (pc := 1132) rfl) (by decide) (cI_ne0 h0) ?_
    refine gl_run K doc_18 1 (pc' := 3186) (lv' := [(6, .int rm), (5, .int t), (0, .ref 250), (1, .ref 0), (2, .ref 140), (3, .ref 162), (4, .int (nJ i))]) (st' := []) (ob := []) rfl fm_n ?_
    refine gl_lv (lv' := [(0, .ref 250), (1, .ref 0), (2, .ref 140), (3, .ref 162), (4, .int (nJ i))]) (fm_c (List.mem_of_getElem? (i := 2) rfl) (fm_c (List.mem_of_getElem? (i := 3) rfl) (fm_c (List.mem_of_getElem? (i := 4) rfl) (fm_c (List.mem_of_getElem? (i := 5) rfl) (fm_c (List.mem_of_getElem? (i := 6) rfl) fm_n))))) ?_
    exact gl_wide (by omega) (by omega) (kk _ J3)
set_option maxRecDepth 100000 in
theorem cs_19 {p : Program} {l : Launch} {e : Env} {s : State} {m : MethodId} {below : List Frame} {meth : Method} {c : Code} {b L : Nat} {xs : Nat → Int32} {D : va_G} {cs : Nat → ClassId} {ad : Nat → Nat} {A : Nat → Prop} (K : LX p l s m meth c b L xs D cs ad A) {i : Nat} (hi : i + 6 ≤ L) (hL : L ≤ 3072) {σ : SG} (hJ : JW σ) {cells slots : Nat} (hcc : cells + 2 ≤ 601024) (hss : slots + 12 ≤ 7293034) (kk : ∀ σ', JW σ' → GL p l e s m below meth c b D cs ad A σ' (cells + 2) (slots + 12) 3186 [(0, .ref 250), (1, .ref 0), (2, .ref 140), (3, .ref 162), (4, .int (nJ i))] []) : GL p l e s m below meth c b D cs ad A σ cells slots 1150 [(0, .ref 250), (1, .ref 0), (2, .ref 140), (3, .ref 162), (4, .int (nJ i))] [] := by
  obtain ⟨Sc, Sm, hC, hM, R, M⟩ := hJ
  refine gl_run K doc_19 2 (pc' := 1152) (lv' := [(0, .ref 250), (1, .ref 0), (2, .ref 140), (3, .ref 162), (4, .int (nJ i))]) (st' := [.ref 162, .ref 0]) (ob := []) rfl fm_n ?_
  obtain ⟨f1, c1, t, σ1, f2, rm, σ2, f3, σ3, e1, hc, e2, e3, ob1, ob2, J3, hz⟩ := two (f := Int32.toInt64) (vM := vI) (a134 R M) hC hM (fun rc rm S1 T h1 h2 => wr_326 (d := 0) h1 h2) (fun r h => S_246 (d := 0) h) (q_246 (d := 0) M) (fun c o T h => mRi h)
  refine gl_S (k' := 326) (As := [.ref 0, .ref 162]) (rest := []) K (dOK_lk doc_19 (pc := 1152) rfl) rfl lS_248 rfl (Nat.le_of_ble_eq_true rfl) (Nat.le_of_ble_eq_true rfl) (by decide) e1 (by omega) (by omega) ?_
  refine gl_run K doc_19 2 (pc' := 1158) (lv' := [(5, .int t), (0, .ref 250), (1, .ref 0), (2, .ref 140), (3, .ref 162), (4, .int (nJ i))]) (st' := [.ref 140]) (ob := []) rfl fm_n ?_
  refine gl_V (k' := 246) (As := []) (rest := []) (ci := 11) (q := (RX12, TX12, 41)) K (dOK_lk doc_19 (pc := 1158) rfl) rfl rfl lV_250 rfl rfl rfl (Nat.le_of_ble_eq_true rfl) (Nat.le_of_ble_eq_true rfl) ob1 (by decide) e2 (by omega) (by omega) ?_
  refine gl_run K doc_19 2 (pc' := 1164) (lv' := [(6, .int rm), (5, .int t), (0, .ref 250), (1, .ref 0), (2, .ref 140), (3, .ref 162), (4, .int (nJ i))]) (st' := [.ref 140]) (ob := []) rfl fm_n ?_
  refine gl_V (k' := 367) (As := []) (rest := []) (ci := 11) (q := (RX12, TX12, 41)) K (dOK_lk doc_19 (pc := 1164) rfl) rfl rfl lV_187 rfl rfl rfl (Nat.le_of_ble_eq_true rfl) (Nat.le_of_ble_eq_true rfl) ob2 (by decide) e3 (by omega) (by omega) ?_
  refine gl_run K doc_19 1 (pc' := 1169) (lv' := [(6, .int rm), (5, .int t), (0, .ref 250), (1, .ref 0), (2, .ref 140), (3, .ref 162), (4, .int (nJ i))]) (st' := [.int t, .int t]) (ob := []) rfl fm_n ?_
  refine gl_eq (tgt := 1174) K (dOK_lk doc_19 (pc := 1169) rfl) (by decide) rfl ?_
  refine gl_run K doc_19 1 (pc' := 1176) (lv' := [(6, .int rm), (5, .int t), (0, .ref 250), (1, .ref 0), (2, .ref 140), (3, .ref 162), (4, .int (nJ i))]) (st' := [.int t]) (ob := []) rfl fm_n ?_
  by_cases h0 : t = 0
  · obtain ⟨g, hg1, hg2⟩ := hz h0
    refine gl_n (tgt := 1191) K (dOK_lk doc_19 (pc := 1176) rfl) (by decide) (cI_ne1 h0) ?_
    refine gl_run K doc_19 2 (pc' := 1181) (lv' := [(6, .int rm), (5, .int t), (0, .ref 250), (1, .ref 0), (2, .ref 140), (3, .ref 162), (4, .int (nJ i))]) (st' := [.int (Int32.ofInt 0), .ref 162]) (ob := []) rfl fm_n ?_
    refine gl_laload K (dOK_lk doc_19 (pc := 1181) rfl) hg1 ?_
    rw [hg2]
    refine gl_run K doc_19 2 (pc' := 1185) (lv' := [(6, .int rm), (5, .int t), (0, .ref 250), (1, .ref 0), (2, .ref 140), (3, .ref 162), (4, .int (nJ i))]) (st' := [.long (Int32.toInt64 rm), .long (Int32.toInt64 rm)]) (ob := []) rfl fm_n ?_
    refine gl_lcmp K (dOK_lk doc_19 (pc := 1185) rfl) ?_
    rw [lcm3_0]
    refine gl_y (tgt := 1191) K (dOK_lk doc_19 (pc := 1186) rfl) (by decide) rfl ?_
    refine gl_run K doc_19 1 (pc' := 3186) (lv' := [(6, .int rm), (5, .int t), (0, .ref 250), (1, .ref 0), (2, .ref 140), (3, .ref 162), (4, .int (nJ i))]) (st' := []) (ob := []) rfl fm_n ?_
    refine gl_lv (lv' := [(0, .ref 250), (1, .ref 0), (2, .ref 140), (3, .ref 162), (4, .int (nJ i))]) (fm_c (List.mem_of_getElem? (i := 2) rfl) (fm_c (List.mem_of_getElem? (i := 3) rfl) (fm_c (List.mem_of_getElem? (i := 4) rfl) (fm_c (List.mem_of_getElem? (i := 5) rfl) (fm_c (List.mem_of_getElem? (i := 6) rfl) fm_n))))) ?_
    exact gl_wide (by omega) (by omega) (kk _ J3)
  · refine gl_y (tgt := 1191) K (dOK_lk doc_19 (pc := 1176) rfl) (by decide) (cI_ne0 h0) ?_
    refine gl_run K doc_19 1 (pc' := 3186) (lv' := [(6, .int rm), (5, .int t), (0, .ref 250), (1, .ref 0), (2, .ref 140), (3, .ref 162), (4, .int (nJ i))]) (st' := []) (ob := []) rfl fm_n ?_
    refine gl_lv (lv' := [(0, .ref 250), (1, .ref 0), (2, .ref 140), (3, .ref 162), (4, .int (nJ i))]) (fm_c (List.mem_of_getElem? (i := 2) rfl) (fm_c (List.mem_of_getElem? (i := 3) rfl) (fm_c (List.mem_of_getElem? (i := 4) rfl) (fm_c (List.mem_of_getElem? (i := 5) rfl) (fm_c (List.mem_of_getElem? (i := 6) rfl) fm_n))))) ?_
    exact gl_wide (by omega) (by omega) (kk _ J3)
set_option maxRecDepth 100000 in
theorem cs_20 {p : Program} {l : Launch} {e : Env} {s : State} {m : MethodId} {below : List Frame} {meth : Method} {c : Code} {b L : Nat} {xs : Nat → Int32} {D : va_G} {cs : Nat → ClassId} {ad : Nat → Nat} {A : Nat → Prop} (K : LX p l s m meth c b L xs D cs ad A) {i : Nat} (hi : i + 6 ≤ L) (hL : L ≤ 3072) {σ : SG} (hJ : JW σ) {cells slots : Nat} (hcc : cells + 2 ≤ 601024) (hss : slots + 12 ≤ 7293034) (kk : ∀ σ', JW σ' → GL p l e s m below meth c b D cs ad A σ' (cells + 2) (slots + 12) 3186 [(0, .ref 250), (1, .ref 0), (2, .ref 140), (3, .ref 162), (4, .int (nJ i))] []) : GL p l e s m below meth c b D cs ad A σ cells slots 1194 [(0, .ref 250), (1, .ref 0), (2, .ref 140), (3, .ref 162), (4, .int (nJ i))] [] := by
  obtain ⟨Sc, Sm, hC, hM, R, M⟩ := hJ
  refine gl_run K doc_20 7 (pc' := 1202) (lv' := [(0, .ref 250), (1, .ref 0), (2, .ref 140), (3, .ref 162), (4, .int (nJ i))]) (st' := [.ref 162, .int (ag xs i 1), .ref 0]) (ob := [nJ i + Int32.ofInt 1]) rfl (fm_c (ob_ok hi hL 1 (by decide)) fm_n) ?_
  obtain ⟨f1, c1, t, σ1, f2, rm, σ2, f3, σ3, e1, hc, e2, e3, ob1, ob2, J3, hz⟩ := two (f := Int32.toInt64) (vM := vI) (a135 R M ((ag xs i 1))) hC hM (fun rc rm S1 T h1 h2 => wr_327 (d := 0) h1 h2) (fun r h => S_247 (d := 0) h) (q_247 (d := 0) M) (fun c o T h => mRi h)
  refine gl_S (k' := 327) (As := [.ref 0, .int (ag xs i 1), .ref 162]) (rest := []) K (dOK_lk doc_20 (pc := 1202) rfl) rfl lS_251 rfl (Nat.le_of_ble_eq_true rfl) (Nat.le_of_ble_eq_true rfl) (by decide) e1 (by omega) (by omega) ?_
  refine gl_run K doc_20 7 (pc' := 1214) (lv' := [(5, .int t), (0, .ref 250), (1, .ref 0), (2, .ref 140), (3, .ref 162), (4, .int (nJ i))]) (st' := [.int (ag xs i 1), .ref 140]) (ob := [nJ i + Int32.ofInt 1]) rfl (fm_c (ob_ok hi hL 1 (by decide)) fm_n) ?_
  refine gl_V (k' := 247) (As := [.int (ag xs i 1)]) (rest := []) (ci := 11) (q := (RX12, TX12, 41)) K (dOK_lk doc_20 (pc := 1214) rfl) rfl rfl lV_253 rfl rfl rfl (Nat.le_of_ble_eq_true rfl) (Nat.le_of_ble_eq_true rfl) ob1 (by decide) e2 (by omega) (by omega) ?_
  refine gl_run K doc_20 2 (pc' := 1220) (lv' := [(6, .int rm), (5, .int t), (0, .ref 250), (1, .ref 0), (2, .ref 140), (3, .ref 162), (4, .int (nJ i))]) (st' := [.ref 140]) (ob := []) rfl fm_n ?_
  refine gl_V (k' := 367) (As := []) (rest := []) (ci := 11) (q := (RX12, TX12, 41)) K (dOK_lk doc_20 (pc := 1220) rfl) rfl rfl lV_187 rfl rfl rfl (Nat.le_of_ble_eq_true rfl) (Nat.le_of_ble_eq_true rfl) ob2 (by decide) e3 (by omega) (by omega) ?_
  refine gl_run K doc_20 1 (pc' := 1225) (lv' := [(6, .int rm), (5, .int t), (0, .ref 250), (1, .ref 0), (2, .ref 140), (3, .ref 162), (4, .int (nJ i))]) (st' := [.int t, .int t]) (ob := []) rfl fm_n ?_
  refine gl_eq (tgt := 1230) K (dOK_lk doc_20 (pc := 1225) rfl) (by decide) rfl ?_
  refine gl_run K doc_20 1 (pc' := 1232) (lv' := [(6, .int rm), (5, .int t), (0, .ref 250), (1, .ref 0), (2, .ref 140), (3, .ref 162), (4, .int (nJ i))]) (st' := [.int t]) (ob := []) rfl fm_n ?_
  by_cases h0 : t = 0
  · obtain ⟨g, hg1, hg2⟩ := hz h0
    refine gl_n (tgt := 1247) K (dOK_lk doc_20 (pc := 1232) rfl) (by decide) (cI_ne1 h0) ?_
    refine gl_run K doc_20 2 (pc' := 1237) (lv' := [(6, .int rm), (5, .int t), (0, .ref 250), (1, .ref 0), (2, .ref 140), (3, .ref 162), (4, .int (nJ i))]) (st' := [.int (Int32.ofInt 0), .ref 162]) (ob := []) rfl fm_n ?_
    refine gl_laload K (dOK_lk doc_20 (pc := 1237) rfl) hg1 ?_
    rw [hg2]
    refine gl_run K doc_20 2 (pc' := 1241) (lv' := [(6, .int rm), (5, .int t), (0, .ref 250), (1, .ref 0), (2, .ref 140), (3, .ref 162), (4, .int (nJ i))]) (st' := [.long (Int32.toInt64 rm), .long (Int32.toInt64 rm)]) (ob := []) rfl fm_n ?_
    refine gl_lcmp K (dOK_lk doc_20 (pc := 1241) rfl) ?_
    rw [lcm3_0]
    refine gl_y (tgt := 1247) K (dOK_lk doc_20 (pc := 1242) rfl) (by decide) rfl ?_
    refine gl_run K doc_20 1 (pc' := 3186) (lv' := [(6, .int rm), (5, .int t), (0, .ref 250), (1, .ref 0), (2, .ref 140), (3, .ref 162), (4, .int (nJ i))]) (st' := []) (ob := []) rfl fm_n ?_
    refine gl_lv (lv' := [(0, .ref 250), (1, .ref 0), (2, .ref 140), (3, .ref 162), (4, .int (nJ i))]) (fm_c (List.mem_of_getElem? (i := 2) rfl) (fm_c (List.mem_of_getElem? (i := 3) rfl) (fm_c (List.mem_of_getElem? (i := 4) rfl) (fm_c (List.mem_of_getElem? (i := 5) rfl) (fm_c (List.mem_of_getElem? (i := 6) rfl) fm_n))))) ?_
    exact gl_wide (by omega) (by omega) (kk _ J3)
  · refine gl_y (tgt := 1247) K (dOK_lk doc_20 (pc := 1232) rfl) (by decide) (cI_ne0 h0) ?_
    refine gl_run K doc_20 1 (pc' := 3186) (lv' := [(6, .int rm), (5, .int t), (0, .ref 250), (1, .ref 0), (2, .ref 140), (3, .ref 162), (4, .int (nJ i))]) (st' := []) (ob := []) rfl fm_n ?_
    refine gl_lv (lv' := [(0, .ref 250), (1, .ref 0), (2, .ref 140), (3, .ref 162), (4, .int (nJ i))]) (fm_c (List.mem_of_getElem? (i := 2) rfl) (fm_c (List.mem_of_getElem? (i := 3) rfl) (fm_c (List.mem_of_getElem? (i := 4) rfl) (fm_c (List.mem_of_getElem? (i := 5) rfl) (fm_c (List.mem_of_getElem? (i := 6) rfl) fm_n))))) ?_
    exact gl_wide (by omega) (by omega) (kk _ J3)
set_option maxRecDepth 100000 in
theorem cs_21 {p : Program} {l : Launch} {e : Env} {s : State} {m : MethodId} {below : List Frame} {meth : Method} {c : Code} {b L : Nat} {xs : Nat → Int32} {D : va_G} {cs : Nat → ClassId} {ad : Nat → Nat} {A : Nat → Prop} (K : LX p l s m meth c b L xs D cs ad A) {i : Nat} (hi : i + 6 ≤ L) (hL : L ≤ 3072) {σ : SG} (hJ : JW σ) {cells slots : Nat} (hcc : cells + 2 ≤ 601024) (hss : slots + 12 ≤ 7293034) (kk : ∀ σ', JW σ' → GL p l e s m below meth c b D cs ad A σ' (cells + 2) (slots + 12) 3186 [(0, .ref 250), (1, .ref 0), (2, .ref 140), (3, .ref 162), (4, .int (nJ i))] []) : GL p l e s m below meth c b D cs ad A σ cells slots 1250 [(0, .ref 250), (1, .ref 0), (2, .ref 140), (3, .ref 162), (4, .int (nJ i))] [] := by
  obtain ⟨Sc, Sm, hC, hM, R, M⟩ := hJ
  refine gl_run K doc_21 7 (pc' := 1258) (lv' := [(0, .ref 250), (1, .ref 0), (2, .ref 140), (3, .ref 162), (4, .int (nJ i))]) (st' := [.ref 162, .int (ag xs i 1), .ref 0]) (ob := [nJ i + Int32.ofInt 1]) rfl (fm_c (ob_ok hi hL 1 (by decide)) fm_n) ?_
  obtain ⟨f1, c1, t, σ1, f2, rm, σ2, f3, σ3, e1, hc, e2, e3, ob1, ob2, J3, hz⟩ := two (f := id) (vM := vJ) (a136 R M ((ag xs i 1))) hC hM (fun rc rm S1 T h1 h2 => wr_328 (d := 0) h1 h2) (fun r h => S_248 (d := 0) h) (q_248 (d := 0) M) (fun c o T h => mRl h)
  refine gl_S (k' := 328) (As := [.ref 0, .int (ag xs i 1), .ref 162]) (rest := []) K (dOK_lk doc_21 (pc := 1258) rfl) rfl lS_254 rfl (Nat.le_of_ble_eq_true rfl) (Nat.le_of_ble_eq_true rfl) (by decide) e1 (by omega) (by omega) ?_
  refine gl_run K doc_21 7 (pc' := 1270) (lv' := [(5, .int t), (0, .ref 250), (1, .ref 0), (2, .ref 140), (3, .ref 162), (4, .int (nJ i))]) (st' := [.int (ag xs i 1), .ref 140]) (ob := [nJ i + Int32.ofInt 1]) rfl (fm_c (ob_ok hi hL 1 (by decide)) fm_n) ?_
  refine gl_V (k' := 248) (As := [.int (ag xs i 1)]) (rest := []) (ci := 11) (q := (RX12, TX12, 41)) K (dOK_lk doc_21 (pc := 1270) rfl) rfl rfl lV_256 rfl rfl rfl (Nat.le_of_ble_eq_true rfl) (Nat.le_of_ble_eq_true rfl) ob1 (by decide) e2 (by omega) (by omega) ?_
  refine gl_run K doc_21 2 (pc' := 1276) (lv' := [(6, .long rm), (5, .int t), (0, .ref 250), (1, .ref 0), (2, .ref 140), (3, .ref 162), (4, .int (nJ i))]) (st' := [.ref 140]) (ob := []) rfl fm_n ?_
  refine gl_V (k' := 367) (As := []) (rest := []) (ci := 11) (q := (RX12, TX12, 41)) K (dOK_lk doc_21 (pc := 1276) rfl) rfl rfl lV_187 rfl rfl rfl (Nat.le_of_ble_eq_true rfl) (Nat.le_of_ble_eq_true rfl) ob2 (by decide) e3 (by omega) (by omega) ?_
  refine gl_run K doc_21 1 (pc' := 1281) (lv' := [(6, .long rm), (5, .int t), (0, .ref 250), (1, .ref 0), (2, .ref 140), (3, .ref 162), (4, .int (nJ i))]) (st' := [.int t, .int t]) (ob := []) rfl fm_n ?_
  refine gl_eq (tgt := 1286) K (dOK_lk doc_21 (pc := 1281) rfl) (by decide) rfl ?_
  refine gl_run K doc_21 1 (pc' := 1288) (lv' := [(6, .long rm), (5, .int t), (0, .ref 250), (1, .ref 0), (2, .ref 140), (3, .ref 162), (4, .int (nJ i))]) (st' := [.int t]) (ob := []) rfl fm_n ?_
  by_cases h0 : t = 0
  · obtain ⟨g, hg1, hg2⟩ := hz h0
    refine gl_n (tgt := 1302) K (dOK_lk doc_21 (pc := 1288) rfl) (by decide) (cI_ne1 h0) ?_
    refine gl_run K doc_21 2 (pc' := 1293) (lv' := [(6, .long rm), (5, .int t), (0, .ref 250), (1, .ref 0), (2, .ref 140), (3, .ref 162), (4, .int (nJ i))]) (st' := [.int (Int32.ofInt 0), .ref 162]) (ob := []) rfl fm_n ?_
    refine gl_laload K (dOK_lk doc_21 (pc := 1293) rfl) hg1 ?_
    rw [hg2]
    refine gl_run K doc_21 1 (pc' := 1296) (lv' := [(6, .long rm), (5, .int t), (0, .ref 250), (1, .ref 0), (2, .ref 140), (3, .ref 162), (4, .int (nJ i))]) (st' := [.long rm, .long rm]) (ob := []) rfl fm_n ?_
    refine gl_lcmp K (dOK_lk doc_21 (pc := 1296) rfl) ?_
    rw [lcm3_0]
    refine gl_y (tgt := 1302) K (dOK_lk doc_21 (pc := 1297) rfl) (by decide) rfl ?_
    refine gl_run K doc_21 1 (pc' := 3186) (lv' := [(6, .long rm), (5, .int t), (0, .ref 250), (1, .ref 0), (2, .ref 140), (3, .ref 162), (4, .int (nJ i))]) (st' := []) (ob := []) rfl fm_n ?_
    refine gl_lv (lv' := [(0, .ref 250), (1, .ref 0), (2, .ref 140), (3, .ref 162), (4, .int (nJ i))]) (fm_c (List.mem_of_getElem? (i := 2) rfl) (fm_c (List.mem_of_getElem? (i := 3) rfl) (fm_c (List.mem_of_getElem? (i := 4) rfl) (fm_c (List.mem_of_getElem? (i := 5) rfl) (fm_c (List.mem_of_getElem? (i := 6) rfl) fm_n))))) ?_
    exact gl_wide (by omega) (by omega) (kk _ J3)
  · refine gl_y (tgt := 1302) K (dOK_lk doc_21 (pc := 1288) rfl) (by decide) (cI_ne0 h0) ?_
    refine gl_run K doc_21 1 (pc' := 3186) (lv' := [(6, .long rm), (5, .int t), (0, .ref 250), (1, .ref 0), (2, .ref 140), (3, .ref 162), (4, .int (nJ i))]) (st' := []) (ob := []) rfl fm_n ?_
    refine gl_lv (lv' := [(0, .ref 250), (1, .ref 0), (2, .ref 140), (3, .ref 162), (4, .int (nJ i))]) (fm_c (List.mem_of_getElem? (i := 2) rfl) (fm_c (List.mem_of_getElem? (i := 3) rfl) (fm_c (List.mem_of_getElem? (i := 4) rfl) (fm_c (List.mem_of_getElem? (i := 5) rfl) (fm_c (List.mem_of_getElem? (i := 6) rfl) fm_n))))) ?_
    exact gl_wide (by omega) (by omega) (kk _ J3)
set_option maxRecDepth 100000 in
theorem cs_22 {p : Program} {l : Launch} {e : Env} {s : State} {m : MethodId} {below : List Frame} {meth : Method} {c : Code} {b L : Nat} {xs : Nat → Int32} {D : va_G} {cs : Nat → ClassId} {ad : Nat → Nat} {A : Nat → Prop} (K : LX p l s m meth c b L xs D cs ad A) {i : Nat} (hi : i + 6 ≤ L) (hL : L ≤ 3072) {σ : SG} (hJ : JW σ) {cells slots : Nat} (hcc : cells + 2 ≤ 601024) (hss : slots + 12 ≤ 7293034) (kk : ∀ σ', JW σ' → GL p l e s m below meth c b D cs ad A σ' (cells + 2) (slots + 12) 3186 [(0, .ref 250), (1, .ref 0), (2, .ref 140), (3, .ref 162), (4, .int (nJ i))] []) : GL p l e s m below meth c b D cs ad A σ cells slots 1305 [(0, .ref 250), (1, .ref 0), (2, .ref 140), (3, .ref 162), (4, .int (nJ i))] [] := by
  obtain ⟨Sc, Sm, hC, hM, R, M⟩ := hJ
  refine gl_run K doc_22 12 (pc' := 1319) (lv' := [(0, .ref 250), (1, .ref 0), (2, .ref 140), (3, .ref 162), (4, .int (nJ i))]) (st' := [.ref 162, .int (ag xs i 2), .int (ag xs i 1), .ref 0]) (ob := [nJ i + Int32.ofInt 1, nJ i + Int32.ofInt 2]) rfl (fm_c (ob_ok hi hL 1 (by decide)) (fm_c (ob_ok hi hL 2 (by decide)) fm_n)) ?_
  obtain ⟨f1, c1, t, σ1, f2, rm, σ2, f3, σ3, e1, hc, e2, e3, ob1, ob2, J3, hz⟩ := two (f := Int32.toInt64) (vM := vI) (a137 R M ((ag xs i 1)) ((ag xs i 2))) hC hM (fun rc rm S1 T h1 h2 => wr_329 (d := 0) h1 h2) (fun r h => S_253 (d := 0) h) (q_253 (d := 0) M) (fun c o T h => mRi h)
  refine gl_S (k' := 329) (As := [.ref 0, .int (ag xs i 1), .int (ag xs i 2), .ref 162]) (rest := []) K (dOK_lk doc_22 (pc := 1319) rfl) rfl lS_257 rfl (Nat.le_of_ble_eq_true rfl) (Nat.le_of_ble_eq_true rfl) (by decide) e1 (by omega) (by omega) ?_
  refine gl_run K doc_22 12 (pc' := 1337) (lv' := [(5, .int t), (0, .ref 250), (1, .ref 0), (2, .ref 140), (3, .ref 162), (4, .int (nJ i))]) (st' := [.int (ag xs i 2), .int (ag xs i 1), .ref 140]) (ob := [nJ i + Int32.ofInt 1, nJ i + Int32.ofInt 2]) rfl (fm_c (ob_ok hi hL 1 (by decide)) (fm_c (ob_ok hi hL 2 (by decide)) fm_n)) ?_
  refine gl_V (k' := 253) (As := [.int (ag xs i 1), .int (ag xs i 2)]) (rest := []) (ci := 11) (q := (RX12, TX12, 41)) K (dOK_lk doc_22 (pc := 1337) rfl) rfl rfl lV_259 rfl rfl rfl (Nat.le_of_ble_eq_true rfl) (Nat.le_of_ble_eq_true rfl) ob1 (by decide) e2 (by omega) (by omega) ?_
  refine gl_run K doc_22 2 (pc' := 1343) (lv' := [(6, .int rm), (5, .int t), (0, .ref 250), (1, .ref 0), (2, .ref 140), (3, .ref 162), (4, .int (nJ i))]) (st' := [.ref 140]) (ob := []) rfl fm_n ?_
  refine gl_V (k' := 367) (As := []) (rest := []) (ci := 11) (q := (RX12, TX12, 41)) K (dOK_lk doc_22 (pc := 1343) rfl) rfl rfl lV_187 rfl rfl rfl (Nat.le_of_ble_eq_true rfl) (Nat.le_of_ble_eq_true rfl) ob2 (by decide) e3 (by omega) (by omega) ?_
  refine gl_run K doc_22 1 (pc' := 1348) (lv' := [(6, .int rm), (5, .int t), (0, .ref 250), (1, .ref 0), (2, .ref 140), (3, .ref 162), (4, .int (nJ i))]) (st' := [.int t, .int t]) (ob := []) rfl fm_n ?_
  refine gl_eq (tgt := 1353) K (dOK_lk doc_22 (pc := 1348) rfl) (by decide) rfl ?_
  refine gl_run K doc_22 1 (pc' := 1355) (lv' := [(6, .int rm), (5, .int t), (0, .ref 250), (1, .ref 0), (2, .ref 140), (3, .ref 162), (4, .int (nJ i))]) (st' := [.int t]) (ob := []) rfl fm_n ?_
  by_cases h0 : t = 0
  · obtain ⟨g, hg1, hg2⟩ := hz h0
    refine gl_n (tgt := 1370) K (dOK_lk doc_22 (pc := 1355) rfl) (by decide) (cI_ne1 h0) ?_
    refine gl_run K doc_22 2 (pc' := 1360) (lv' := [(6, .int rm), (5, .int t), (0, .ref 250), (1, .ref 0), (2, .ref 140), (3, .ref 162), (4, .int (nJ i))]) (st' := [.int (Int32.ofInt 0), .ref 162]) (ob := []) rfl fm_n ?_
    refine gl_laload K (dOK_lk doc_22 (pc := 1360) rfl) hg1 ?_
    rw [hg2]
    refine gl_run K doc_22 2 (pc' := 1364) (lv' := [(6, .int rm), (5, .int t), (0, .ref 250), (1, .ref 0), (2, .ref 140), (3, .ref 162), (4, .int (nJ i))]) (st' := [.long (Int32.toInt64 rm), .long (Int32.toInt64 rm)]) (ob := []) rfl fm_n ?_
    refine gl_lcmp K (dOK_lk doc_22 (pc := 1364) rfl) ?_
    rw [lcm3_0]
    refine gl_y (tgt := 1370) K (dOK_lk doc_22 (pc := 1365) rfl) (by decide) rfl ?_
    refine gl_run K doc_22 1 (pc' := 3186) (lv' := [(6, .int rm), (5, .int t), (0, .ref 250), (1, .ref 0), (2, .ref 140), (3, .ref 162), (4, .int (nJ i))]) (st' := []) (ob := []) rfl fm_n ?_
    refine gl_lv (lv' := [(0, .ref 250), (1, .ref 0), (2, .ref 140), (3, .ref 162), (4, .int (nJ i))]) (fm_c (List.mem_of_getElem? (i := 2) rfl) (fm_c (List.mem_of_getElem? (i := 3) rfl) (fm_c (List.mem_of_getElem? (i := 4) rfl) (fm_c (List.mem_of_getElem? (i := 5) rfl) (fm_c (List.mem_of_getElem? (i := 6) rfl) fm_n))))) ?_
    exact gl_wide (by omega) (by omega) (kk _ J3)
  · refine gl_y (tgt := 1370) K (dOK_lk doc_22 (pc := 1355) rfl) (by decide) (cI_ne0 h0) ?_
    refine gl_run K doc_22 1 (pc' := 3186) (lv' := [(6, .int rm), (5, .int t), (0, .ref 250), (1, .ref 0), (2, .ref 140), (3, .ref 162), (4, .int (nJ i))]) (st' := []) (ob := []) rfl fm_n ?_
    refine gl_lv (lv' := [(0, .ref 250), (1, .ref 0), (2, .ref 140), (3, .ref 162), (4, .int (nJ i))]) (fm_c (List.mem_of_getElem? (i := 2) rfl) (fm_c (List.mem_of_getElem? (i := 3) rfl) (fm_c (List.mem_of_getElem? (i := 4) rfl) (fm_c (List.mem_of_getElem? (i := 5) rfl) (fm_c (List.mem_of_getElem? (i := 6) rfl) fm_n))))) ?_
    exact gl_wide (by omega) (by omega) (kk _ J3)
set_option maxRecDepth 100000 in
theorem cs_23 {p : Program} {l : Launch} {e : Env} {s : State} {m : MethodId} {below : List Frame} {meth : Method} {c : Code} {b L : Nat} {xs : Nat → Int32} {D : va_G} {cs : Nat → ClassId} {ad : Nat → Nat} {A : Nat → Prop} (K : LX p l s m meth c b L xs D cs ad A) {i : Nat} (hi : i + 6 ≤ L) (hL : L ≤ 3072) {σ : SG} (hJ : JW σ) {cells slots : Nat} (hcc : cells + 2 ≤ 601024) (hss : slots + 12 ≤ 7293034) (kk : ∀ σ', JW σ' → GL p l e s m below meth c b D cs ad A σ' (cells + 2) (slots + 12) 3186 [(0, .ref 250), (1, .ref 0), (2, .ref 140), (3, .ref 162), (4, .int (nJ i))] []) : GL p l e s m below meth c b D cs ad A σ cells slots 1373 [(0, .ref 250), (1, .ref 0), (2, .ref 140), (3, .ref 162), (4, .int (nJ i))] [] := by
  obtain ⟨Sc, Sm, hC, hM, R, M⟩ := hJ
  refine gl_run K doc_23 7 (pc' := 1381) (lv' := [(0, .ref 250), (1, .ref 0), (2, .ref 140), (3, .ref 162), (4, .int (nJ i))]) (st' := [.ref 162, .int (ag xs i 1), .ref 0]) (ob := [nJ i + Int32.ofInt 1]) rfl (fm_c (ob_ok hi hL 1 (by decide)) fm_n) ?_
  obtain ⟨f1, c1, t, σ1, f2, rm, σ2, f3, σ3, e1, hc, e2, e3, ob1, ob2, J3, hz⟩ := two (f := Int32.toInt64) (vM := vI) (a138 R M ((ag xs i 1))) hC hM (fun rc rm S1 T h1 h2 => wr_330 (d := 0) h1 h2) (fun r h => S_254 (d := 0) h) (q_254 (d := 0) M) (fun c o T h => mRi h)
  refine gl_S (k' := 330) (As := [.ref 0, .int (ag xs i 1), .ref 162]) (rest := []) K (dOK_lk doc_23 (pc := 1381) rfl) rfl lS_260 rfl (Nat.le_of_ble_eq_true rfl) (Nat.le_of_ble_eq_true rfl) (by decide) e1 (by omega) (by omega) ?_
  refine gl_run K doc_23 7 (pc' := 1393) (lv' := [(5, .int t), (0, .ref 250), (1, .ref 0), (2, .ref 140), (3, .ref 162), (4, .int (nJ i))]) (st' := [.int (ag xs i 1), .ref 140]) (ob := [nJ i + Int32.ofInt 1]) rfl (fm_c (ob_ok hi hL 1 (by decide)) fm_n) ?_
  refine gl_V (k' := 254) (As := [.int (ag xs i 1)]) (rest := []) (ci := 11) (q := (RX12, TX12, 41)) K (dOK_lk doc_23 (pc := 1393) rfl) rfl rfl lV_262 rfl rfl rfl (Nat.le_of_ble_eq_true rfl) (Nat.le_of_ble_eq_true rfl) ob1 (by decide) e2 (by omega) (by omega) ?_
  refine gl_run K doc_23 2 (pc' := 1399) (lv' := [(6, .int rm), (5, .int t), (0, .ref 250), (1, .ref 0), (2, .ref 140), (3, .ref 162), (4, .int (nJ i))]) (st' := [.ref 140]) (ob := []) rfl fm_n ?_
  refine gl_V (k' := 367) (As := []) (rest := []) (ci := 11) (q := (RX12, TX12, 41)) K (dOK_lk doc_23 (pc := 1399) rfl) rfl rfl lV_187 rfl rfl rfl (Nat.le_of_ble_eq_true rfl) (Nat.le_of_ble_eq_true rfl) ob2 (by decide) e3 (by omega) (by omega) ?_
  refine gl_run K doc_23 1 (pc' := 1404) (lv' := [(6, .int rm), (5, .int t), (0, .ref 250), (1, .ref 0), (2, .ref 140), (3, .ref 162), (4, .int (nJ i))]) (st' := [.int t, .int t]) (ob := []) rfl fm_n ?_
  refine gl_eq (tgt := 1409) K (dOK_lk doc_23 (pc := 1404) rfl) (by decide) rfl ?_
  refine gl_run K doc_23 1 (pc' := 1411) (lv' := [(6, .int rm), (5, .int t), (0, .ref 250), (1, .ref 0), (2, .ref 140), (3, .ref 162), (4, .int (nJ i))]) (st' := [.int t]) (ob := []) rfl fm_n ?_
  by_cases h0 : t = 0
  · obtain ⟨g, hg1, hg2⟩ := hz h0
    refine gl_n (tgt := 1426) K (dOK_lk doc_23 (pc := 1411) rfl) (by decide) (cI_ne1 h0) ?_
    refine gl_run K doc_23 2 (pc' := 1416) (lv' := [(6, .int rm), (5, .int t), (0, .ref 250), (1, .ref 0), (2, .ref 140), (3, .ref 162), (4, .int (nJ i))]) (st' := [.int (Int32.ofInt 0), .ref 162]) (ob := []) rfl fm_n ?_
    refine gl_laload K (dOK_lk doc_23 (pc := 1416) rfl) hg1 ?_
    rw [hg2]
    refine gl_run K doc_23 2 (pc' := 1420) (lv' := [(6, .int rm), (5, .int t), (0, .ref 250), (1, .ref 0), (2, .ref 140), (3, .ref 162), (4, .int (nJ i))]) (st' := [.long (Int32.toInt64 rm), .long (Int32.toInt64 rm)]) (ob := []) rfl fm_n ?_
    refine gl_lcmp K (dOK_lk doc_23 (pc := 1420) rfl) ?_
    rw [lcm3_0]
    refine gl_y (tgt := 1426) K (dOK_lk doc_23 (pc := 1421) rfl) (by decide) rfl ?_
    refine gl_run K doc_23 1 (pc' := 3186) (lv' := [(6, .int rm), (5, .int t), (0, .ref 250), (1, .ref 0), (2, .ref 140), (3, .ref 162), (4, .int (nJ i))]) (st' := []) (ob := []) rfl fm_n ?_
    refine gl_lv (lv' := [(0, .ref 250), (1, .ref 0), (2, .ref 140), (3, .ref 162), (4, .int (nJ i))]) (fm_c (List.mem_of_getElem? (i := 2) rfl) (fm_c (List.mem_of_getElem? (i := 3) rfl) (fm_c (List.mem_of_getElem? (i := 4) rfl) (fm_c (List.mem_of_getElem? (i := 5) rfl) (fm_c (List.mem_of_getElem? (i := 6) rfl) fm_n))))) ?_
    exact gl_wide (by omega) (by omega) (kk _ J3)
  · refine gl_y (tgt := 1426) K (dOK_lk doc_23 (pc := 1411) rfl) (by decide) (cI_ne0 h0) ?_
    refine gl_run K doc_23 1 (pc' := 3186) (lv' := [(6, .int rm), (5, .int t), (0, .ref 250), (1, .ref 0), (2, .ref 140), (3, .ref 162), (4, .int (nJ i))]) (st' := []) (ob := []) rfl fm_n ?_
    refine gl_lv (lv' := [(0, .ref 250), (1, .ref 0), (2, .ref 140), (3, .ref 162), (4, .int (nJ i))]) (fm_c (List.mem_of_getElem? (i := 2) rfl) (fm_c (List.mem_of_getElem? (i := 3) rfl) (fm_c (List.mem_of_getElem? (i := 4) rfl) (fm_c (List.mem_of_getElem? (i := 5) rfl) (fm_c (List.mem_of_getElem? (i := 6) rfl) fm_n))))) ?_
    exact gl_wide (by omega) (by omega) (kk _ J3)
set_option maxRecDepth 100000 in
theorem cs_24 {p : Program} {l : Launch} {e : Env} {s : State} {m : MethodId} {below : List Frame} {meth : Method} {c : Code} {b L : Nat} {xs : Nat → Int32} {D : va_G} {cs : Nat → ClassId} {ad : Nat → Nat} {A : Nat → Prop} (K : LX p l s m meth c b L xs D cs ad A) {i : Nat} (hi : i + 6 ≤ L) (hL : L ≤ 3072) {σ : SG} (hJ : JW σ) {cells slots : Nat} (hcc : cells + 2 ≤ 601024) (hss : slots + 12 ≤ 7293034) (kk : ∀ σ', JW σ' → GL p l e s m below meth c b D cs ad A σ' (cells + 2) (slots + 12) 3186 [(0, .ref 250), (1, .ref 0), (2, .ref 140), (3, .ref 162), (4, .int (nJ i))] []) : GL p l e s m below meth c b D cs ad A σ cells slots 1429 [(0, .ref 250), (1, .ref 0), (2, .ref 140), (3, .ref 162), (4, .int (nJ i))] [] := by
  obtain ⟨Sc, Sm, hC, hM, R, M⟩ := hJ
  refine gl_run K doc_24 7 (pc' := 1437) (lv' := [(0, .ref 250), (1, .ref 0), (2, .ref 140), (3, .ref 162), (4, .int (nJ i))]) (st' := [.ref 162, .int (ag xs i 1), .ref 0]) (ob := [nJ i + Int32.ofInt 1]) rfl (fm_c (ob_ok hi hL 1 (by decide)) fm_n) ?_
  obtain ⟨f1, c1, t, σ1, f2, rm, σ2, f3, σ3, e1, hc, e2, e3, ob1, ob2, J3, hz⟩ := two (f := Int32.toInt64) (vM := vI) (a139 R M ((ag xs i 1))) hC hM (fun rc rm S1 T h1 h2 => wr_331 (d := 0) h1 h2) (fun r h => S_256 (d := 0) h) (q_256 (d := 0) M) (fun c o T h => mRi h)
  refine gl_S (k' := 331) (As := [.ref 0, .int (ag xs i 1), .ref 162]) (rest := []) K (dOK_lk doc_24 (pc := 1437) rfl) rfl lS_263 rfl (Nat.le_of_ble_eq_true rfl) (Nat.le_of_ble_eq_true rfl) (by decide) e1 (by omega) (by omega) ?_
  refine gl_run K doc_24 7 (pc' := 1449) (lv' := [(5, .int t), (0, .ref 250), (1, .ref 0), (2, .ref 140), (3, .ref 162), (4, .int (nJ i))]) (st' := [.int (ag xs i 1), .ref 140]) (ob := [nJ i + Int32.ofInt 1]) rfl (fm_c (ob_ok hi hL 1 (by decide)) fm_n) ?_
  refine gl_V (k' := 256) (As := [.int (ag xs i 1)]) (rest := []) (ci := 11) (q := (RX12, TX12, 41)) K (dOK_lk doc_24 (pc := 1449) rfl) rfl rfl lV_265 rfl rfl rfl (Nat.le_of_ble_eq_true rfl) (Nat.le_of_ble_eq_true rfl) ob1 (by decide) e2 (by omega) (by omega) ?_
  refine gl_run K doc_24 2 (pc' := 1455) (lv' := [(6, .int rm), (5, .int t), (0, .ref 250), (1, .ref 0), (2, .ref 140), (3, .ref 162), (4, .int (nJ i))]) (st' := [.ref 140]) (ob := []) rfl fm_n ?_
  refine gl_V (k' := 367) (As := []) (rest := []) (ci := 11) (q := (RX12, TX12, 41)) K (dOK_lk doc_24 (pc := 1455) rfl) rfl rfl lV_187 rfl rfl rfl (Nat.le_of_ble_eq_true rfl) (Nat.le_of_ble_eq_true rfl) ob2 (by decide) e3 (by omega) (by omega) ?_
  refine gl_run K doc_24 1 (pc' := 1460) (lv' := [(6, .int rm), (5, .int t), (0, .ref 250), (1, .ref 0), (2, .ref 140), (3, .ref 162), (4, .int (nJ i))]) (st' := [.int t, .int t]) (ob := []) rfl fm_n ?_
  refine gl_eq (tgt := 1465) K (dOK_lk doc_24 (pc := 1460) rfl) (by decide) rfl ?_
  refine gl_run K doc_24 1 (pc' := 1467) (lv' := [(6, .int rm), (5, .int t), (0, .ref 250), (1, .ref 0), (2, .ref 140), (3, .ref 162), (4, .int (nJ i))]) (st' := [.int t]) (ob := []) rfl fm_n ?_
  by_cases h0 : t = 0
  · obtain ⟨g, hg1, hg2⟩ := hz h0
    refine gl_n (tgt := 1482) K (dOK_lk doc_24 (pc := 1467) rfl) (by decide) (cI_ne1 h0) ?_
    refine gl_run K doc_24 2 (pc' := 1472) (lv' := [(6, .int rm), (5, .int t), (0, .ref 250), (1, .ref 0), (2, .ref 140), (3, .ref 162), (4, .int (nJ i))]) (st' := [.int (Int32.ofInt 0), .ref 162]) (ob := []) rfl fm_n ?_
    refine gl_laload K (dOK_lk doc_24 (pc := 1472) rfl) hg1 ?_
    rw [hg2]
    refine gl_run K doc_24 2 (pc' := 1476) (lv' := [(6, .int rm), (5, .int t), (0, .ref 250), (1, .ref 0), (2, .ref 140), (3, .ref 162), (4, .int (nJ i))]) (st' := [.long (Int32.toInt64 rm), .long (Int32.toInt64 rm)]) (ob := []) rfl fm_n ?_
    refine gl_lcmp K (dOK_lk doc_24 (pc := 1476) rfl) ?_
    rw [lcm3_0]
    refine gl_y (tgt := 1482) K (dOK_lk doc_24 (pc := 1477) rfl) (by decide) rfl ?_
    refine gl_run K doc_24 1 (pc' := 3186) (lv' := [(6, .int rm), (5, .int t), (0, .ref 250), (1, .ref 0), (2, .ref 140), (3, .ref 162), (4, .int (nJ i))]) (st' := []) (ob := []) rfl fm_n ?_
    refine gl_lv (lv' := [(0, .ref 250), (1, .ref 0), (2, .ref 140), (3, .ref 162), (4, .int (nJ i))]) (fm_c (List.mem_of_getElem? (i := 2) rfl) (fm_c (List.mem_of_getElem? (i := 3) rfl) (fm_c (List.mem_of_getElem? (i := 4) rfl) (fm_c (List.mem_of_getElem? (i := 5) rfl) (fm_c (List.mem_of_getElem? (i := 6) rfl) fm_n))))) ?_
    exact gl_wide (by omega) (by omega) (kk _ J3)
  · refine gl_y (tgt := 1482) K (dOK_lk doc_24 (pc := 1467) rfl) (by decide) (cI_ne0 h0) ?_
    refine gl_run K doc_24 1 (pc' := 3186) (lv' := [(6, .int rm), (5, .int t), (0, .ref 250), (1, .ref 0), (2, .ref 140), (3, .ref 162), (4, .int (nJ i))]) (st' := []) (ob := []) rfl fm_n ?_
    refine gl_lv (lv' := [(0, .ref 250), (1, .ref 0), (2, .ref 140), (3, .ref 162), (4, .int (nJ i))]) (fm_c (List.mem_of_getElem? (i := 2) rfl) (fm_c (List.mem_of_getElem? (i := 3) rfl) (fm_c (List.mem_of_getElem? (i := 4) rfl) (fm_c (List.mem_of_getElem? (i := 5) rfl) (fm_c (List.mem_of_getElem? (i := 6) rfl) fm_n))))) ?_
    exact gl_wide (by omega) (by omega) (kk _ J3)
set_option maxRecDepth 100000 in
theorem cs_25 {p : Program} {l : Launch} {e : Env} {s : State} {m : MethodId} {below : List Frame} {meth : Method} {c : Code} {b L : Nat} {xs : Nat → Int32} {D : va_G} {cs : Nat → ClassId} {ad : Nat → Nat} {A : Nat → Prop} (K : LX p l s m meth c b L xs D cs ad A) {i : Nat} (hi : i + 6 ≤ L) (hL : L ≤ 3072) {σ : SG} (hJ : JW σ) {cells slots : Nat} (hcc : cells + 2 ≤ 601024) (hss : slots + 12 ≤ 7293034) (kk : ∀ σ', JW σ' → GL p l e s m below meth c b D cs ad A σ' (cells + 2) (slots + 12) 3186 [(0, .ref 250), (1, .ref 0), (2, .ref 140), (3, .ref 162), (4, .int (nJ i))] []) : GL p l e s m below meth c b D cs ad A σ cells slots 1485 [(0, .ref 250), (1, .ref 0), (2, .ref 140), (3, .ref 162), (4, .int (nJ i))] [] := by
  obtain ⟨Sc, Sm, hC, hM, R, M⟩ := hJ
  refine gl_run K doc_25 2 (pc' := 1487) (lv' := [(0, .ref 250), (1, .ref 0), (2, .ref 140), (3, .ref 162), (4, .int (nJ i))]) (st' := [.ref 162, .ref 0]) (ob := []) rfl fm_n ?_
  obtain ⟨f1, c1, t, σ1, f2, rm, σ2, f3, σ3, e1, hc, e2, e3, ob1, ob2, J3, hz⟩ := two (f := Int32.toInt64) (vM := vI) (a140 R M) hC hM (fun rc rm S1 T h1 h2 => wr_332 (d := 0) h1 h2) (fun r h => S_258 (d := 0) h) (q_258 (d := 0) M) (fun c o T h => mRi h)
  refine gl_S (k' := 332) (As := [.ref 0, .ref 162]) (rest := []) K (dOK_lk doc_25 (pc := 1487) rfl) rfl lS_266 rfl (Nat.le_of_ble_eq_true rfl) (Nat.le_of_ble_eq_true rfl) (by decide) e1 (by omega) (by omega) ?_
  refine gl_run K doc_25 2 (pc' := 1493) (lv' := [(5, .int t), (0, .ref 250), (1, .ref 0), (2, .ref 140), (3, .ref 162), (4, .int (nJ i))]) (st' := [.ref 140]) (ob := []) rfl fm_n ?_
  refine gl_V (k' := 258) (As := []) (rest := []) (ci := 11) (q := (RX12, TX12, 41)) K (dOK_lk doc_25 (pc := 1493) rfl) rfl rfl lV_268 rfl rfl rfl (Nat.le_of_ble_eq_true rfl) (Nat.le_of_ble_eq_true rfl) ob1 (by decide) e2 (by omega) (by omega) ?_
  refine gl_run K doc_25 2 (pc' := 1499) (lv' := [(6, .int rm), (5, .int t), (0, .ref 250), (1, .ref 0), (2, .ref 140), (3, .ref 162), (4, .int (nJ i))]) (st' := [.ref 140]) (ob := []) rfl fm_n ?_
  refine gl_V (k' := 367) (As := []) (rest := []) (ci := 11) (q := (RX12, TX12, 41)) K (dOK_lk doc_25 (pc := 1499) rfl) rfl rfl lV_187 rfl rfl rfl (Nat.le_of_ble_eq_true rfl) (Nat.le_of_ble_eq_true rfl) ob2 (by decide) e3 (by omega) (by omega) ?_
  refine gl_run K doc_25 1 (pc' := 1504) (lv' := [(6, .int rm), (5, .int t), (0, .ref 250), (1, .ref 0), (2, .ref 140), (3, .ref 162), (4, .int (nJ i))]) (st' := [.int t, .int t]) (ob := []) rfl fm_n ?_
  refine gl_eq (tgt := 1509) K (dOK_lk doc_25 (pc := 1504) rfl) (by decide) rfl ?_
  refine gl_run K doc_25 1 (pc' := 1511) (lv' := [(6, .int rm), (5, .int t), (0, .ref 250), (1, .ref 0), (2, .ref 140), (3, .ref 162), (4, .int (nJ i))]) (st' := [.int t]) (ob := []) rfl fm_n ?_
  by_cases h0 : t = 0
  · obtain ⟨g, hg1, hg2⟩ := hz h0
    refine gl_n (tgt := 1526) K (dOK_lk doc_25 (pc := 1511) rfl) (by decide) (cI_ne1 h0) ?_
    refine gl_run K doc_25 2 (pc' := 1516) (lv' := [(6, .int rm), (5, .int t), (0, .ref 250), (1, .ref 0), (2, .ref 140), (3, .ref 162), (4, .int (nJ i))]) (st' := [.int (Int32.ofInt 0), .ref 162]) (ob := []) rfl fm_n ?_
    refine gl_laload K (dOK_lk doc_25 (pc := 1516) rfl) hg1 ?_
    rw [hg2]
    refine gl_run K doc_25 2 (pc' := 1520) (lv' := [(6, .int rm), (5, .int t), (0, .ref 250), (1, .ref 0), (2, .ref 140), (3, .ref 162), (4, .int (nJ i))]) (st' := [.long (Int32.toInt64 rm), .long (Int32.toInt64 rm)]) (ob := []) rfl fm_n ?_
    refine gl_lcmp K (dOK_lk doc_25 (pc := 1520) rfl) ?_
    rw [lcm3_0]
    refine gl_y (tgt := 1526) K (dOK_lk doc_25 (pc := 1521) rfl) (by decide) rfl ?_
    refine gl_run K doc_25 1 (pc' := 3186) (lv' := [(6, .int rm), (5, .int t), (0, .ref 250), (1, .ref 0), (2, .ref 140), (3, .ref 162), (4, .int (nJ i))]) (st' := []) (ob := []) rfl fm_n ?_
    refine gl_lv (lv' := [(0, .ref 250), (1, .ref 0), (2, .ref 140), (3, .ref 162), (4, .int (nJ i))]) (fm_c (List.mem_of_getElem? (i := 2) rfl) (fm_c (List.mem_of_getElem? (i := 3) rfl) (fm_c (List.mem_of_getElem? (i := 4) rfl) (fm_c (List.mem_of_getElem? (i := 5) rfl) (fm_c (List.mem_of_getElem? (i := 6) rfl) fm_n))))) ?_
    exact gl_wide (by omega) (by omega) (kk _ J3)
  · refine gl_y (tgt := 1526) K (dOK_lk doc_25 (pc := 1511) rfl) (by decide) (cI_ne0 h0) ?_
    refine gl_run K doc_25 1 (pc' := 3186) (lv' := [(6, .int rm), (5, .int t), (0, .ref 250), (1, .ref 0), (2, .ref 140), (3, .ref 162), (4, .int (nJ i))]) (st' := []) (ob := []) rfl fm_n ?_
    refine gl_lv (lv' := [(0, .ref 250), (1, .ref 0), (2, .ref 140), (3, .ref 162), (4, .int (nJ i))]) (fm_c (List.mem_of_getElem? (i := 2) rfl) (fm_c (List.mem_of_getElem? (i := 3) rfl) (fm_c (List.mem_of_getElem? (i := 4) rfl) (fm_c (List.mem_of_getElem? (i := 5) rfl) (fm_c (List.mem_of_getElem? (i := 6) rfl) fm_n))))) ?_
    exact gl_wide (by omega) (by omega) (kk _ J3)
set_option maxRecDepth 100000 in
theorem cs_26 {p : Program} {l : Launch} {e : Env} {s : State} {m : MethodId} {below : List Frame} {meth : Method} {c : Code} {b L : Nat} {xs : Nat → Int32} {D : va_G} {cs : Nat → ClassId} {ad : Nat → Nat} {A : Nat → Prop} (K : LX p l s m meth c b L xs D cs ad A) {i : Nat} (hi : i + 6 ≤ L) (hL : L ≤ 3072) {σ : SG} (hJ : JW σ) {cells slots : Nat} (hcc : cells + 2 ≤ 601024) (hss : slots + 12 ≤ 7293034) (kk : ∀ σ', JW σ' → GL p l e s m below meth c b D cs ad A σ' (cells + 2) (slots + 12) 3186 [(0, .ref 250), (1, .ref 0), (2, .ref 140), (3, .ref 162), (4, .int (nJ i))] []) : GL p l e s m below meth c b D cs ad A σ cells slots 1529 [(0, .ref 250), (1, .ref 0), (2, .ref 140), (3, .ref 162), (4, .int (nJ i))] [] := by
  obtain ⟨Sc, Sm, hC, hM, R, M⟩ := hJ
  refine gl_run K doc_26 2 (pc' := 1531) (lv' := [(0, .ref 250), (1, .ref 0), (2, .ref 140), (3, .ref 162), (4, .int (nJ i))]) (st' := [.ref 162, .ref 0]) (ob := []) rfl fm_n ?_
  obtain ⟨f1, c1, t, σ1, f2, rm, σ2, f3, σ3, e1, hc, e2, e3, ob1, ob2, J3, hz⟩ := two (f := Int32.toInt64) (vM := vI) (a141 R M) hC hM (fun rc rm S1 T h1 h2 => wr_333 (d := 0) h1 h2) (fun r h => S_260 (d := 0) h) (q_260 (d := 0) M) (fun c o T h => mRi h)
  refine gl_S (k' := 333) (As := [.ref 0, .ref 162]) (rest := []) K (dOK_lk doc_26 (pc := 1531) rfl) rfl lS_269 rfl (Nat.le_of_ble_eq_true rfl) (Nat.le_of_ble_eq_true rfl) (by decide) e1 (by omega) (by omega) ?_
  refine gl_run K doc_26 2 (pc' := 1537) (lv' := [(5, .int t), (0, .ref 250), (1, .ref 0), (2, .ref 140), (3, .ref 162), (4, .int (nJ i))]) (st' := [.ref 140]) (ob := []) rfl fm_n ?_
  refine gl_V (k' := 260) (As := []) (rest := []) (ci := 11) (q := (RX12, TX12, 41)) K (dOK_lk doc_26 (pc := 1537) rfl) rfl rfl lV_271 rfl rfl rfl (Nat.le_of_ble_eq_true rfl) (Nat.le_of_ble_eq_true rfl) ob1 (by decide) e2 (by omega) (by omega) ?_
  refine gl_run K doc_26 2 (pc' := 1543) (lv' := [(6, .int rm), (5, .int t), (0, .ref 250), (1, .ref 0), (2, .ref 140), (3, .ref 162), (4, .int (nJ i))]) (st' := [.ref 140]) (ob := []) rfl fm_n ?_
  refine gl_V (k' := 367) (As := []) (rest := []) (ci := 11) (q := (RX12, TX12, 41)) K (dOK_lk doc_26 (pc := 1543) rfl) rfl rfl lV_187 rfl rfl rfl (Nat.le_of_ble_eq_true rfl) (Nat.le_of_ble_eq_true rfl) ob2 (by decide) e3 (by omega) (by omega) ?_
  refine gl_run K doc_26 1 (pc' := 1548) (lv' := [(6, .int rm), (5, .int t), (0, .ref 250), (1, .ref 0), (2, .ref 140), (3, .ref 162), (4, .int (nJ i))]) (st' := [.int t, .int t]) (ob := []) rfl fm_n ?_
  refine gl_eq (tgt := 1553) K (dOK_lk doc_26 (pc := 1548) rfl) (by decide) rfl ?_
  refine gl_run K doc_26 1 (pc' := 1555) (lv' := [(6, .int rm), (5, .int t), (0, .ref 250), (1, .ref 0), (2, .ref 140), (3, .ref 162), (4, .int (nJ i))]) (st' := [.int t]) (ob := []) rfl fm_n ?_
  by_cases h0 : t = 0
  · obtain ⟨g, hg1, hg2⟩ := hz h0
    refine gl_n (tgt := 1570) K (dOK_lk doc_26 (pc := 1555) rfl) (by decide) (cI_ne1 h0) ?_
    refine gl_run K doc_26 2 (pc' := 1560) (lv' := [(6, .int rm), (5, .int t), (0, .ref 250), (1, .ref 0), (2, .ref 140), (3, .ref 162), (4, .int (nJ i))]) (st' := [.int (Int32.ofInt 0), .ref 162]) (ob := []) rfl fm_n ?_
    refine gl_laload K (dOK_lk doc_26 (pc := 1560) rfl) hg1 ?_
    rw [hg2]
    refine gl_run K doc_26 2 (pc' := 1564) (lv' := [(6, .int rm), (5, .int t), (0, .ref 250), (1, .ref 0), (2, .ref 140), (3, .ref 162), (4, .int (nJ i))]) (st' := [.long (Int32.toInt64 rm), .long (Int32.toInt64 rm)]) (ob := []) rfl fm_n ?_
    refine gl_lcmp K (dOK_lk doc_26 (pc := 1564) rfl) ?_
    rw [lcm3_0]
    refine gl_y (tgt := 1570) K (dOK_lk doc_26 (pc := 1565) rfl) (by decide) rfl ?_
    refine gl_run K doc_26 1 (pc' := 3186) (lv' := [(6, .int rm), (5, .int t), (0, .ref 250), (1, .ref 0), (2, .ref 140), (3, .ref 162), (4, .int (nJ i))]) (st' := []) (ob := []) rfl fm_n ?_
    refine gl_lv (lv' := [(0, .ref 250), (1, .ref 0), (2, .ref 140), (3, .ref 162), (4, .int (nJ i))]) (fm_c (List.mem_of_getElem? (i := 2) rfl) (fm_c (List.mem_of_getElem? (i := 3) rfl) (fm_c (List.mem_of_getElem? (i := 4) rfl) (fm_c (List.mem_of_getElem? (i := 5) rfl) (fm_c (List.mem_of_getElem? (i := 6) rfl) fm_n))))) ?_
    exact gl_wide (by omega) (by omega) (kk _ J3)
  · refine gl_y (tgt := 1570) K (dOK_lk doc_26 (pc := 1555) rfl) (by decide) (cI_ne0 h0) ?_
    refine gl_run K doc_26 1 (pc' := 3186) (lv' := [(6, .int rm), (5, .int t), (0, .ref 250), (1, .ref 0), (2, .ref 140), (3, .ref 162), (4, .int (nJ i))]) (st' := []) (ob := []) rfl fm_n ?_
    refine gl_lv (lv' := [(0, .ref 250), (1, .ref 0), (2, .ref 140), (3, .ref 162), (4, .int (nJ i))]) (fm_c (List.mem_of_getElem? (i := 2) rfl) (fm_c (List.mem_of_getElem? (i := 3) rfl) (fm_c (List.mem_of_getElem? (i := 4) rfl) (fm_c (List.mem_of_getElem? (i := 5) rfl) (fm_c (List.mem_of_getElem? (i := 6) rfl) fm_n))))) ?_
    exact gl_wide (by omega) (by omega) (kk _ J3)
set_option maxRecDepth 100000 in
theorem cs_27 {p : Program} {l : Launch} {e : Env} {s : State} {m : MethodId} {below : List Frame} {meth : Method} {c : Code} {b L : Nat} {xs : Nat → Int32} {D : va_G} {cs : Nat → ClassId} {ad : Nat → Nat} {A : Nat → Prop} (K : LX p l s m meth c b L xs D cs ad A) {i : Nat} (hi : i + 6 ≤ L) (hL : L ≤ 3072) {σ : SG} (hJ : JW σ) {cells slots : Nat} (hcc : cells + 2 ≤ 601024) (hss : slots + 12 ≤ 7293034) (kk : ∀ σ', JW σ' → GL p l e s m below meth c b D cs ad A σ' (cells + 2) (slots + 12) 3186 [(0, .ref 250), (1, .ref 0), (2, .ref 140), (3, .ref 162), (4, .int (nJ i))] []) : GL p l e s m below meth c b D cs ad A σ cells slots 1573 [(0, .ref 250), (1, .ref 0), (2, .ref 140), (3, .ref 162), (4, .int (nJ i))] [] := by
  obtain ⟨Sc, Sm, hC, hM, R, M⟩ := hJ
  refine gl_run K doc_27 2 (pc' := 1575) (lv' := [(0, .ref 250), (1, .ref 0), (2, .ref 140), (3, .ref 162), (4, .int (nJ i))]) (st' := [.ref 162, .ref 0]) (ob := []) rfl fm_n ?_
  obtain ⟨f1, c1, t, σ1, f2, rm, σ2, f3, σ3, e1, hc, e2, e3, ob1, ob2, J3, hz⟩ := two (f := Int32.toInt64) (vM := vI) (a142 R M) hC hM (fun rc rm S1 T h1 h2 => wr_334 (d := 0) h1 h2) (fun r h => S_261 (d := 0) h) (q_261 (d := 0) M) (fun c o T h => mRi h)
  refine gl_S (k' := 334) (As := [.ref 0, .ref 162]) (rest := []) K (dOK_lk doc_27 (pc := 1575) rfl) rfl lS_272 rfl (Nat.le_of_ble_eq_true rfl) (Nat.le_of_ble_eq_true rfl) (by decide) e1 (by omega) (by omega) ?_
  refine gl_run K doc_27 2 (pc' := 1581) (lv' := [(5, .int t), (0, .ref 250), (1, .ref 0), (2, .ref 140), (3, .ref 162), (4, .int (nJ i))]) (st' := [.ref 140]) (ob := []) rfl fm_n ?_
  refine gl_V (k' := 261) (As := []) (rest := []) (ci := 11) (q := (RX12, TX12, 41)) K (dOK_lk doc_27 (pc := 1581) rfl) rfl rfl lV_274 rfl rfl rfl (Nat.le_of_ble_eq_true rfl) (Nat.le_of_ble_eq_true rfl) ob1 (by decide) e2 (by omega) (by omega) ?_
  refine gl_run K doc_27 2 (pc' := 1587) (lv' := [(6, .int rm), (5, .int t), (0, .ref 250), (1, .ref 0), (2, .ref 140), (3, .ref 162), (4, .int (nJ i))]) (st' := [.ref 140]) (ob := []) rfl fm_n ?_
  refine gl_V (k' := 367) (As := []) (rest := []) (ci := 11) (q := (RX12, TX12, 41)) K (dOK_lk doc_27 (pc := 1587) rfl) rfl rfl lV_187 rfl rfl rfl (Nat.le_of_ble_eq_true rfl) (Nat.le_of_ble_eq_true rfl) ob2 (by decide) e3 (by omega) (by omega) ?_
  refine gl_run K doc_27 1 (pc' := 1592) (lv' := [(6, .int rm), (5, .int t), (0, .ref 250), (1, .ref 0), (2, .ref 140), (3, .ref 162), (4, .int (nJ i))]) (st' := [.int t, .int t]) (ob := []) rfl fm_n ?_
  refine gl_eq (tgt := 1597) K (dOK_lk doc_27 (pc := 1592) rfl) (by decide) rfl ?_
  refine gl_run K doc_27 1 (pc' := 1599) (lv' := [(6, .int rm), (5, .int t), (0, .ref 250), (1, .ref 0), (2, .ref 140), (3, .ref 162), (4, .int (nJ i))]) (st' := [.int t]) (ob := []) rfl fm_n ?_
  by_cases h0 : t = 0
  · obtain ⟨g, hg1, hg2⟩ := hz h0
    refine gl_n (tgt := 1614) K (dOK_lk doc_27 (pc := 1599) rfl) (by decide) (cI_ne1 h0) ?_
    refine gl_run K doc_27 2 (pc' := 1604) (lv' := [(6, .int rm), (5, .int t), (0, .ref 250), (1, .ref 0), (2, .ref 140), (3, .ref 162), (4, .int (nJ i))]) (st' := [.int (Int32.ofInt 0), .ref 162]) (ob := []) rfl fm_n ?_
    refine gl_laload K (dOK_lk doc_27 (pc := 1604) rfl) hg1 ?_
    rw [hg2]
    refine gl_run K doc_27 2 (pc' := 1608) (lv' := [(6, .int rm), (5, .int t), (0, .ref 250), (1, .ref 0), (2, .ref 140), (3, .ref 162), (4, .int (nJ i))]) (st' := [.long (Int32.toInt64 rm), .long (Int32.toInt64 rm)]) (ob := []) rfl fm_n ?_
    refine gl_lcmp K (dOK_lk doc_27 (pc := 1608) rfl) ?_
    rw [lcm3_0]
    refine gl_y (tgt := 1614) K (dOK_lk doc_27 (pc := 1609) rfl) (by decide) rfl ?_
    refine gl_run K doc_27 1 (pc' := 3186) (lv' := [(6, .int rm), (5, .int t), (0, .ref 250), (1, .ref 0), (2, .ref 140), (3, .ref 162), (4, .int (nJ i))]) (st' := []) (ob := []) rfl fm_n ?_
    refine gl_lv (lv' := [(0, .ref 250), (1, .ref 0), (2, .ref 140), (3, .ref 162), (4, .int (nJ i))]) (fm_c (List.mem_of_getElem? (i := 2) rfl) (fm_c (List.mem_of_getElem? (i := 3) rfl) (fm_c (List.mem_of_getElem? (i := 4) rfl) (fm_c (List.mem_of_getElem? (i := 5) rfl) (fm_c (List.mem_of_getElem? (i := 6) rfl) fm_n))))) ?_
    exact gl_wide (by omega) (by omega) (kk _ J3)
  · refine gl_y (tgt := 1614) K (dOK_lk doc_27 (pc := 1599) rfl) (by decide) (cI_ne0 h0) ?_
    refine gl_run K doc_27 1 (pc' := 3186) (lv' := [(6, .int rm), (5, .int t), (0, .ref 250), (1, .ref 0), (2, .ref 140), (3, .ref 162), (4, .int (nJ i))]) (st' := []) (ob := []) rfl fm_n ?_
    refine gl_lv (lv' := [(0, .ref 250), (1, .ref 0), (2, .ref 140), (3, .ref 162), (4, .int (nJ i))]) (fm_c (List.mem_of_getElem? (i := 2) rfl) (fm_c (List.mem_of_getElem? (i := 3) rfl) (fm_c (List.mem_of_getElem? (i := 4) rfl) (fm_c (List.mem_of_getElem? (i := 5) rfl) (fm_c (List.mem_of_getElem? (i := 6) rfl) fm_n))))) ?_
    exact gl_wide (by omega) (by omega) (kk _ J3)
set_option maxRecDepth 100000 in
theorem cs_28 {p : Program} {l : Launch} {e : Env} {s : State} {m : MethodId} {below : List Frame} {meth : Method} {c : Code} {b L : Nat} {xs : Nat → Int32} {D : va_G} {cs : Nat → ClassId} {ad : Nat → Nat} {A : Nat → Prop} (K : LX p l s m meth c b L xs D cs ad A) {i : Nat} (hi : i + 6 ≤ L) (hL : L ≤ 3072) {σ : SG} (hJ : JW σ) {cells slots : Nat} (hcc : cells + 2 ≤ 601024) (hss : slots + 12 ≤ 7293034) (kk : ∀ σ', JW σ' → GL p l e s m below meth c b D cs ad A σ' (cells + 2) (slots + 12) 3186 [(0, .ref 250), (1, .ref 0), (2, .ref 140), (3, .ref 162), (4, .int (nJ i))] []) : GL p l e s m below meth c b D cs ad A σ cells slots 1617 [(0, .ref 250), (1, .ref 0), (2, .ref 140), (3, .ref 162), (4, .int (nJ i))] [] := by
  obtain ⟨Sc, Sm, hC, hM, R, M⟩ := hJ
  refine gl_run K doc_28 2 (pc' := 1619) (lv' := [(0, .ref 250), (1, .ref 0), (2, .ref 140), (3, .ref 162), (4, .int (nJ i))]) (st' := [.ref 162, .ref 0]) (ob := []) rfl fm_n ?_
  obtain ⟨f1, c1, t, σ1, f2, rm, σ2, f3, σ3, e1, hc, e2, e3, ob1, ob2, J3, hz⟩ := two (f := Int32.toInt64) (vM := vI) (a143 R M) hC hM (fun rc rm S1 T h1 h2 => wr_335 (d := 0) h1 h2) (fun r h => S_264 (d := 0) h) (q_264 (d := 0) M) (fun c o T h => mRi h)
  refine gl_S (k' := 335) (As := [.ref 0, .ref 162]) (rest := []) K (dOK_lk doc_28 (pc := 1619) rfl) rfl lS_275 rfl (Nat.le_of_ble_eq_true rfl) (Nat.le_of_ble_eq_true rfl) (by decide) e1 (by omega) (by omega) ?_
  refine gl_run K doc_28 2 (pc' := 1625) (lv' := [(5, .int t), (0, .ref 250), (1, .ref 0), (2, .ref 140), (3, .ref 162), (4, .int (nJ i))]) (st' := [.ref 140]) (ob := []) rfl fm_n ?_
  refine gl_V (k' := 264) (As := []) (rest := []) (ci := 11) (q := (RX12, TX12, 41)) K (dOK_lk doc_28 (pc := 1625) rfl) rfl rfl lV_277 rfl rfl rfl (Nat.le_of_ble_eq_true rfl) (Nat.le_of_ble_eq_true rfl) ob1 (by decide) e2 (by omega) (by omega) ?_
  refine gl_run K doc_28 2 (pc' := 1631) (lv' := [(6, .int rm), (5, .int t), (0, .ref 250), (1, .ref 0), (2, .ref 140), (3, .ref 162), (4, .int (nJ i))]) (st' := [.ref 140]) (ob := []) rfl fm_n ?_
  refine gl_V (k' := 367) (As := []) (rest := []) (ci := 11) (q := (RX12, TX12, 41)) K (dOK_lk doc_28 (pc := 1631) rfl) rfl rfl lV_187 rfl rfl rfl (Nat.le_of_ble_eq_true rfl) (Nat.le_of_ble_eq_true rfl) ob2 (by decide) e3 (by omega) (by omega) ?_
  refine gl_run K doc_28 1 (pc' := 1636) (lv' := [(6, .int rm), (5, .int t), (0, .ref 250), (1, .ref 0), (2, .ref 140), (3, .ref 162), (4, .int (nJ i))]) (st' := [.int t, .int t]) (ob := []) rfl fm_n ?_
  refine gl_eq (tgt := 1641) K (dOK_lk doc_28 (pc := 1636) rfl) (by decide) rfl ?_
  refine gl_run K doc_28 1 (pc' := 1643) (lv' := [(6, .int rm), (5, .int t), (0, .ref 250), (1, .ref 0), (2, .ref 140), (3, .ref 162), (4, .int (nJ i))]) (st' := [.int t]) (ob := []) rfl fm_n ?_
  by_cases h0 : t = 0
  · obtain ⟨g, hg1, hg2⟩ := hz h0
    refine gl_n (tgt := 1658) K (dOK_lk doc_28 (pc := 1643) rfl) (by decide) (cI_ne1 h0) ?_
    refine gl_run K doc_28 2 (pc' := 1648) (lv' := [(6, .int rm), (5, .int t), (0, .ref 250), (1, .ref 0), (2, .ref 140), (3, .ref 162), (4, .int (nJ i))]) (st' := [.int (Int32.ofInt 0), .ref 162]) (ob := []) rfl fm_n ?_
    refine gl_laload K (dOK_lk doc_28 (pc := 1648) rfl) hg1 ?_
    rw [hg2]
    refine gl_run K doc_28 2 (pc' := 1652) (lv' := [(6, .int rm), (5, .int t), (0, .ref 250), (1, .ref 0), (2, .ref 140), (3, .ref 162), (4, .int (nJ i))]) (st' := [.long (Int32.toInt64 rm), .long (Int32.toInt64 rm)]) (ob := []) rfl fm_n ?_
    refine gl_lcmp K (dOK_lk doc_28 (pc := 1652) rfl) ?_
    rw [lcm3_0]
    refine gl_y (tgt := 1658) K (dOK_lk doc_28 (pc := 1653) rfl) (by decide) rfl ?_
    refine gl_run K doc_28 1 (pc' := 3186) (lv' := [(6, .int rm), (5, .int t), (0, .ref 250), (1, .ref 0), (2, .ref 140), (3, .ref 162), (4, .int (nJ i))]) (st' := []) (ob := []) rfl fm_n ?_
    refine gl_lv (lv' := [(0, .ref 250), (1, .ref 0), (2, .ref 140), (3, .ref 162), (4, .int (nJ i))]) (fm_c (List.mem_of_getElem? (i := 2) rfl) (fm_c (List.mem_of_getElem? (i := 3) rfl) (fm_c (List.mem_of_getElem? (i := 4) rfl) (fm_c (List.mem_of_getElem? (i := 5) rfl) (fm_c (List.mem_of_getElem? (i := 6) rfl) fm_n))))) ?_
    exact gl_wide (by omega) (by omega) (kk _ J3)
  · refine gl_y (tgt := 1658) K (dOK_lk doc_28 (pc := 1643) rfl) (by decide) (cI_ne0 h0) ?_
    refine gl_run K doc_28 1 (pc' := 3186) (lv' := [(6, .int rm), (5, .int t), (0, .ref 250), (1, .ref 0), (2, .ref 140), (3, .ref 162), (4, .int (nJ i))]) (st' := []) (ob := []) rfl fm_n ?_
    refine gl_lv (lv' := [(0, .ref 250), (1, .ref 0), (2, .ref 140), (3, .ref 162), (4, .int (nJ i))]) (fm_c (List.mem_of_getElem? (i := 2) rfl) (fm_c (List.mem_of_getElem? (i := 3) rfl) (fm_c (List.mem_of_getElem? (i := 4) rfl) (fm_c (List.mem_of_getElem? (i := 5) rfl) (fm_c (List.mem_of_getElem? (i := 6) rfl) fm_n))))) ?_
    exact gl_wide (by omega) (by omega) (kk _ J3)
set_option maxRecDepth 100000 in
theorem cs_29 {p : Program} {l : Launch} {e : Env} {s : State} {m : MethodId} {below : List Frame} {meth : Method} {c : Code} {b L : Nat} {xs : Nat → Int32} {D : va_G} {cs : Nat → ClassId} {ad : Nat → Nat} {A : Nat → Prop} (K : LX p l s m meth c b L xs D cs ad A) {i : Nat} (hi : i + 6 ≤ L) (hL : L ≤ 3072) {σ : SG} (hJ : JW σ) {cells slots : Nat} (hcc : cells + 2 ≤ 601024) (hss : slots + 12 ≤ 7293034) (kk : ∀ σ', JW σ' → GL p l e s m below meth c b D cs ad A σ' (cells + 2) (slots + 12) 3186 [(0, .ref 250), (1, .ref 0), (2, .ref 140), (3, .ref 162), (4, .int (nJ i))] []) : GL p l e s m below meth c b D cs ad A σ cells slots 1661 [(0, .ref 250), (1, .ref 0), (2, .ref 140), (3, .ref 162), (4, .int (nJ i))] [] := by
  obtain ⟨Sc, Sm, hC, hM, R, M⟩ := hJ
  refine gl_run K doc_29 7 (pc' := 1669) (lv' := [(0, .ref 250), (1, .ref 0), (2, .ref 140), (3, .ref 162), (4, .int (nJ i))]) (st' := [.ref 162, .int (ag xs i 1), .ref 0]) (ob := [nJ i + Int32.ofInt 1]) rfl (fm_c (ob_ok hi hL 1 (by decide)) fm_n) ?_
  obtain ⟨f1, c1, t, σ1, f2, rm, σ2, f3, σ3, e1, hc, e2, e3, ob1, ob2, J3, hz⟩ := two (f := Int32.toInt64) (vM := vI) (a144 R M ((ag xs i 1))) hC hM (fun rc rm S1 T h1 h2 => wr_336 (d := 0) h1 h2) (fun r h => S_265 (d := 0) h) (q_265 (d := 0) M) (fun c o T h => mRi h)
  refine gl_S (k' := 336) (As := [.ref 0, .int (ag xs i 1), .ref 162]) (rest := []) K (dOK_lk doc_29 (pc := 1669) rfl) rfl lS_278 rfl (Nat.le_of_ble_eq_true rfl) (Nat.le_of_ble_eq_true rfl) (by decide) e1 (by omega) (by omega) ?_
  refine gl_run K doc_29 7 (pc' := 1681) (lv' := [(5, .int t), (0, .ref 250), (1, .ref 0), (2, .ref 140), (3, .ref 162), (4, .int (nJ i))]) (st' := [.int (ag xs i 1), .ref 140]) (ob := [nJ i + Int32.ofInt 1]) rfl (fm_c (ob_ok hi hL 1 (by decide)) fm_n) ?_
  refine gl_V (k' := 265) (As := [.int (ag xs i 1)]) (rest := []) (ci := 11) (q := (RX12, TX12, 41)) K (dOK_lk doc_29 (pc := 1681) rfl) rfl rfl lV_280 rfl rfl rfl (Nat.le_of_ble_eq_true rfl) (Nat.le_of_ble_eq_true rfl) ob1 (by decide) e2 (by omega) (by omega) ?_
  refine gl_run K doc_29 2 (pc' := 1687) (lv' := [(6, .int rm), (5, .int t), (0, .ref 250), (1, .ref 0), (2, .ref 140), (3, .ref 162), (4, .int (nJ i))]) (st' := [.ref 140]) (ob := []) rfl fm_n ?_
  refine gl_V (k' := 367) (As := []) (rest := []) (ci := 11) (q := (RX12, TX12, 41)) K (dOK_lk doc_29 (pc := 1687) rfl) rfl rfl lV_187 rfl rfl rfl (Nat.le_of_ble_eq_true rfl) (Nat.le_of_ble_eq_true rfl) ob2 (by decide) e3 (by omega) (by omega) ?_
  refine gl_run K doc_29 1 (pc' := 1692) (lv' := [(6, .int rm), (5, .int t), (0, .ref 250), (1, .ref 0), (2, .ref 140), (3, .ref 162), (4, .int (nJ i))]) (st' := [.int t, .int t]) (ob := []) rfl fm_n ?_
  refine gl_eq (tgt := 1697) K (dOK_lk doc_29 (pc := 1692) rfl) (by decide) rfl ?_
  refine gl_run K doc_29 1 (pc' := 1699) (lv' := [(6, .int rm), (5, .int t), (0, .ref 250), (1, .ref 0), (2, .ref 140), (3, .ref 162), (4, .int (nJ i))]) (st' := [.int t]) (ob := []) rfl fm_n ?_
  by_cases h0 : t = 0
  · obtain ⟨g, hg1, hg2⟩ := hz h0
    refine gl_n (tgt := 1714) K (dOK_lk doc_29 (pc := 1699) rfl) (by decide) (cI_ne1 h0) ?_
    refine gl_run K doc_29 2 (pc' := 1704) (lv' := [(6, .int rm), (5, .int t), (0, .ref 250), (1, .ref 0), (2, .ref 140), (3, .ref 162), (4, .int (nJ i))]) (st' := [.int (Int32.ofInt 0), .ref 162]) (ob := []) rfl fm_n ?_
    refine gl_laload K (dOK_lk doc_29 (pc := 1704) rfl) hg1 ?_
    rw [hg2]
    refine gl_run K doc_29 2 (pc' := 1708) (lv' := [(6, .int rm), (5, .int t), (0, .ref 250), (1, .ref 0), (2, .ref 140), (3, .ref 162), (4, .int (nJ i))]) (st' := [.long (Int32.toInt64 rm), .long (Int32.toInt64 rm)]) (ob := []) rfl fm_n ?_
    refine gl_lcmp K (dOK_lk doc_29 (pc := 1708) rfl) ?_
    rw [lcm3_0]
    refine gl_y (tgt := 1714) K (dOK_lk doc_29 (pc := 1709) rfl) (by decide) rfl ?_
    refine gl_run K doc_29 1 (pc' := 3186) (lv' := [(6, .int rm), (5, .int t), (0, .ref 250), (1, .ref 0), (2, .ref 140), (3, .ref 162), (4, .int (nJ i))]) (st' := []) (ob := []) rfl fm_n ?_
    refine gl_lv (lv' := [(0, .ref 250), (1, .ref 0), (2, .ref 140), (3, .ref 162), (4, .int (nJ i))]) (fm_c (List.mem_of_getElem? (i := 2) rfl) (fm_c (List.mem_of_getElem? (i := 3) rfl) (fm_c (List.mem_of_getElem? (i := 4) rfl) (fm_c (List.mem_of_getElem? (i := 5) rfl) (fm_c (List.mem_of_getElem? (i := 6) rfl) fm_n))))) ?_
    exact gl_wide (by omega) (by omega) (kk _ J3)
  · refine gl_y (tgt := 1714) K (dOK_lk doc_29 (pc := 1699) rfl) (by decide) (cI_ne0 h0) ?_
    refine gl_run K doc_29 1 (pc' := 3186) (lv' := [(6, .int rm), (5, .int t), (0, .ref 250), (1, .ref 0), (2, .ref 140), (3, .ref 162), (4, .int (nJ i))]) (st' := []) (ob := []) rfl fm_n ?_
    refine gl_lv (lv' := [(0, .ref 250), (1, .ref 0), (2, .ref 140), (3, .ref 162), (4, .int (nJ i))]) (fm_c (List.mem_of_getElem? (i := 2) rfl) (fm_c (List.mem_of_getElem? (i := 3) rfl) (fm_c (List.mem_of_getElem? (i := 4) rfl) (fm_c (List.mem_of_getElem? (i := 5) rfl) (fm_c (List.mem_of_getElem? (i := 6) rfl) fm_n))))) ?_
    exact gl_wide (by omega) (by omega) (kk _ J3)
