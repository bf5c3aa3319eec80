/-! the law's cases (printed by law.py) -/
set_option maxRecDepth 100000 in
theorem cs_30 {p : Program} {l : Launch} {e : Env} {s : State} {m : MethodId} {below : List Frame} {meth : Method} {c : Code} {b L : Nat} {xs : Nat → Int32} {D : va_G} {cs : Nat → ClassId} {ad : Nat → Nat} {A : Nat → Prop} (K : LX p l s m meth c b L xs D cs ad A) {i : Nat} (hi : i + 6 ≤ L) (hL : L ≤ 3072) {σ : SG} (hJ : JW σ) {cells slots : Nat} (hcc : cells + 2 ≤ 601024) (hss : slots + 12 ≤ 7293034) (kk : ∀ σ', JW σ' → GL p l e s m below meth c b D cs ad A σ' (cells + 2) (slots + 12) 3186 [(0, .ref 250), (1, .ref 0), (2, .ref 140), (3, .ref 162), (4, .int (nJ i))] []) : GL p l e s m below meth c b D cs ad A σ cells slots 1717 [(0, .ref 250), (1, .ref 0), (2, .ref 140), (3, .ref 162), (4, .int (nJ i))] [] := by
  obtain ⟨Sc, Sm, hC, hM, R, M⟩ := hJ
  refine gl_run K doc_30 2 (pc' := 1719) (lv' := [(0, .ref 250), (1, .ref 0), (2, .ref 140), (3, .ref 162), (4, .int (nJ i))]) (st' := [.ref 162, .ref 0]) (ob := []) rfl fm_n ?_
  obtain ⟨f1, c1, t, σ1, f2, rm, σ2, f3, σ3, e1, hc, e2, e3, ob1, ob2, J3, hz⟩ := two (f := Int32.toInt64) (vM := vI) (a145 R M) hC hM (fun rc rm S1 T h1 h2 => wr_337 (d := 0) h1 h2) (fun r h => S_268 (d := 0) h) (q_268 (d := 0) M) (fun c o T h => mRi h)
  refine gl_S (k' := 337) (As := [.ref 0, .ref 162]) (rest := []) K (dOK_lk doc_30 (pc := 1719) rfl) rfl lS_281 rfl (Nat.le_of_ble_eq_true rfl) (Nat.le_of_ble_eq_true rfl) (by decide) e1 (by omega) (by omega) ?_
  refine gl_run K doc_30 2 (pc' := 1725) (lv' := [(5, .int t), (0, .ref 250), (1, .ref 0), (2, .ref 140), (3, .ref 162), (4, .int (nJ i))]) (st' := [.ref 140]) (ob := []) rfl fm_n ?_
  refine gl_V (k' := 268) (As := []) (rest := []) (ci := 11) (q := (RX12, TX12, 41)) K (dOK_lk doc_30 (pc := 1725) rfl) rfl rfl lV_283 rfl rfl rfl (Nat.le_of_ble_eq_true rfl) (Nat.le_of_ble_eq_true rfl) ob1 (by decide) e2 (by omega) (by omega) ?_
  refine gl_run K doc_30 2 (pc' := 1731) (lv' := [(6, .int rm), (5, .int t), (0, .ref 250), (1, .ref 0), (2, .ref 140), (3, .ref 162), (4, .int (nJ i))]) (st' := [.ref 140]) (ob := []) rfl fm_n ?_
  refine gl_V (k' := 367) (As := []) (rest := []) (ci := 11) (q := (RX12, TX12, 41)) K (dOK_lk doc_30 (pc := 1731) rfl) rfl rfl lV_187 rfl rfl rfl (Nat.le_of_ble_eq_true rfl) (Nat.le_of_ble_eq_true rfl) ob2 (by decide) e3 (by omega) (by omega) ?_
  refine gl_run K doc_30 1 (pc' := 1736) (lv' := [(6, .int rm), (5, .int t), (0, .ref 250), (1, .ref 0), (2, .ref 140), (3, .ref 162), (4, .int (nJ i))]) (st' := [.int t, .int t]) (ob := []) rfl fm_n ?_
  refine gl_eq (tgt := 1741) K (dOK_lk doc_30 (pc := 1736) rfl) (by decide) rfl ?_
  refine gl_run K doc_30 1 (pc' := 1743) (lv' := [(6, .int rm), (5, .int t), (0, .ref 250), (1, .ref 0), (2, .ref 140), (3, .ref 162), (4, .int (nJ i))]) (st' := [.int t]) (ob := []) rfl fm_n ?_
  by_cases h0 : t = 0
  · obtain ⟨g, hg1, hg2⟩ := hz h0
    refine gl_n (tgt := 1758) K (dOK_lk doc_30 (pc := 1743) rfl) (by decide) (cI_ne1 h0) ?_
    refine gl_run K doc_30 2 (pc' := 1748) (lv' := [(6, .int rm), (5, .int t), (0, .ref 250), (1, .ref 0), (2, .ref 140), (3, .ref 162), (4, .int (nJ i))]) (st' := [.int (Int32.ofInt 0), .ref 162]) (ob := []) rfl fm_n ?_
    refine gl_laload K (dOK_lk doc_30 (pc := 1748) rfl) hg1 ?_
    rw [hg2]
    refine gl_run K doc_30 2 (pc' := 1752) (lv' := [(6, .int rm), (5, .int t), (0, .ref 250), (1, .ref 0), (2, .ref 140), (3, .ref 162), (4, .int (nJ i))]) (st' := [.long (Int32.toInt64 rm), .long (Int32.toInt64 rm)]) (ob := []) rfl fm_n ?_
    refine gl_lcmp K (dOK_lk doc_30 (pc := 1752) rfl) ?_
    rw [lcm3_0]
    refine gl_y (tgt := 1758) K (dOK_lk doc_30 (pc := 1753) rfl) (by decide) rfl ?_
    refine gl_run K doc_30 1 (pc' := 3186) (lv' := [(6, .int rm), (5, .int t), (0, .ref 250), (1, .ref 0), (2, .ref 140), (3, .ref 162), (4, .int (nJ i))]) (st' := []) (ob := []) rfl fm_n ?_
    refine gl_lv (lv' := [(0, .ref 250), (1, .ref 0), (2, .ref 140), (3, .ref 162), (4, .int (nJ i))]) (fm_c (List.mem_of_getElem? (i := 2) rfl) (fm_c (List.mem_of_getElem? (i := 3) rfl) (fm_c (List.mem_of_getElem? (i := 4) rfl) (fm_c (List.mem_of_getElem? (i := 5) rfl) (fm_c (List.mem_of_getElem? (i := 6) rfl) fm_n))))) ?_
    exact gl_wide (by omega) (by omega) (kk _ J3)
  · refine gl_y (tgt := 1758) K (dOK_lk doc_30 (pc := 1743) rfl) (by decide) (cI_ne0 h0) ?_
    refine gl_run K doc_30 1 (pc' := 3186) (lv' := [(6, .int rm), (5, .int t), (0, .ref 250), (1, .ref 0), (2, .ref 140), (3, .ref 162), (4, .int (nJ i))]) (st' := []) (ob := []) rfl fm_n ?_
    refine gl_lv (lv' := [(0, .ref 250), (1, .ref 0), (2, .ref 140), (3, .ref 162), (4, .int (nJ i))]) (fm_c (List.mem_of_getElem? (i := 2) rfl) (fm_c (List.mem_of_getElem? (i := 3) rfl) (fm_c (List.mem_of_getElem? (i := 4) rfl) (fm_c (List.mem_of_getElem? (i := 5) rfl) (fm_c (List.mem_of_getElem? (i := 6) rfl) fm_n))))) ?_
    exact gl_wide (by omega) (by omega) (kk _ J3)
set_option maxRecDepth 100000 in
theorem cs_31 {p : Program} {l : Launch} {e : Env} {s : State} {m : MethodId} {below : List Frame} {meth : Method} {c : Code} {b L : Nat} {xs : Nat → Int32} {D : va_G} {cs : Nat → ClassId} {ad : Nat → Nat} {A : Nat → Prop} (K : LX p l s m meth c b L xs D cs ad A) {i : Nat} (hi : i + 6 ≤ L) (hL : L ≤ 3072) {σ : SG} (hJ : JW σ) {cells slots : Nat} (hcc : cells + 2 ≤ 601024) (hss : slots + 12 ≤ 7293034) (kk : ∀ σ', JW σ' → GL p l e s m below meth c b D cs ad A σ' (cells + 2) (slots + 12) 3186 [(0, .ref 250), (1, .ref 0), (2, .ref 140), (3, .ref 162), (4, .int (nJ i))] []) : GL p l e s m below meth c b D cs ad A σ cells slots 1761 [(0, .ref 250), (1, .ref 0), (2, .ref 140), (3, .ref 162), (4, .int (nJ i))] [] := by
  obtain ⟨Sc, Sm, hC, hM, R, M⟩ := hJ
  refine gl_run K doc_31 7 (pc' := 1769) (lv' := [(0, .ref 250), (1, .ref 0), (2, .ref 140), (3, .ref 162), (4, .int (nJ i))]) (st' := [.ref 162, .int (ag xs i 1), .ref 0]) (ob := [nJ i + Int32.ofInt 1]) rfl (fm_c (ob_ok hi hL 1 (by decide)) fm_n) ?_
  obtain ⟨f1, c1, t, σ1, f2, rm, σ2, f3, σ3, e1, hc, e2, e3, ob1, ob2, J3, hz⟩ := two (f := Int32.toInt64) (vM := vI) (a146 R M ((ag xs i 1))) hC hM (fun rc rm S1 T h1 h2 => wr_338 (d := 0) h1 h2) (fun r h => S_269 (d := 0) h) (q_269 (d := 0) M) (fun c o T h => mRi h)
  refine gl_S (k' := 338) (As := [.ref 0, .int (ag xs i 1), .ref 162]) (rest := []) K (dOK_lk doc_31 (pc := 1769) rfl) rfl lS_284 rfl (Nat.le_of_ble_eq_true rfl) (Nat.le_of_ble_eq_true rfl) (by decide) e1 (by omega) (by omega) ?_
  refine gl_run K doc_31 7 (pc' := 1781) (lv' := [(5, .int t), (0, .ref 250), (1, .ref 0), (2, .ref 140), (3, .ref 162), (4, .int (nJ i))]) (st' := [.int (ag xs i 1), .ref 140]) (ob := [nJ i + Int32.ofInt 1]) rfl (fm_c (ob_ok hi hL 1 (by decide)) fm_n) ?_
  refine gl_V (k' := 269) (As := [.int (ag xs i 1)]) (rest := []) (ci := 11) (q := (RX12, TX12, 41)) K (dOK_lk doc_31 (pc := 1781) rfl) rfl rfl lV_286 rfl rfl rfl (Nat.le_of_ble_eq_true rfl) (Nat.le_of_ble_eq_true rfl) ob1 (by decide) e2 (by omega) (by omega) ?_
  refine gl_run K doc_31 2 (pc' := 1787) (lv' := [(6, .int rm), (5, .int t), (0, .ref 250), (1, .ref 0), (2, .ref 140), (3, .ref 162), (4, .int (nJ i))]) (st' := [.ref 140]) (ob := []) rfl fm_n ?_
  refine gl_V (k' := 367) (As := []) (rest := []) (ci := 11) (q := (RX12, TX12, 41)) K (dOK_lk doc_31 (pc := 1787) rfl) rfl rfl lV_187 rfl rfl rfl (Nat.le_of_ble_eq_true rfl) (Nat.le_of_ble_eq_true rfl) ob2 (by decide) e3 (by omega) (by omega) ?_
  refine gl_run K doc_31 1 (pc' := 1792) (lv' := [(6, .int rm), (5, .int t), (0, .ref 250), (1, .ref 0), (2, .ref 140), (3, .ref 162), (4, .int (nJ i))]) (st' := [.int t, .int t]) (ob := []) rfl fm_n ?_
  refine gl_eq (tgt := 1797) K (dOK_lk doc_31 (pc := 1792) rfl) (by decide) rfl ?_
  refine gl_run K doc_31 1 (pc' := 1799) (lv' := [(6, .int rm), (5, .int t), (0, .ref 250), (1, .ref 0), (2, .ref 140), (3, .ref 162), (4, .int (nJ i))]) (st' := [.int t]) (ob := []) rfl fm_n ?_
  by_cases h0 : t = 0
  · obtain ⟨g, hg1, hg2⟩ := hz h0
    refine gl_n (tgt := 1814) K (dOK_lk doc_31 (pc := 1799) rfl) (by decide) (cI_ne1 h0) ?_
    refine gl_run K doc_31 2 (pc' := 1804) (lv' := [(6, .int rm), (5, .int t), (0, .ref 250), (1, .ref 0), (2, .ref 140), (3, .ref 162), (4, .int (nJ i))]) (st' := [.int (Int32.ofInt 0), .ref 162]) (ob := []) rfl fm_n ?_
    refine gl_laload K (dOK_lk doc_31 (pc := 1804) rfl) hg1 ?_
    rw [hg2]
    refine gl_run K doc_31 2 (pc' := 1808) (lv' := [(6, .int rm), (5, .int t), (0, .ref 250), (1, .ref 0), (2, .ref 140), (3, .ref 162), (4, .int (nJ i))]) (st' := [.long (Int32.toInt64 rm), .long (Int32.toInt64 rm)]) (ob := []) rfl fm_n ?_
    refine gl_lcmp K (dOK_lk doc_31 (pc := 1808) rfl) ?_
    rw [lcm3_0]
    refine gl_y (tgt := 1814) K (dOK_lk doc_31 (pc := 1809) rfl) (by decide) rfl ?_
    refine gl_run K doc_31 1 (pc' := 3186) (lv' := [(6, .int rm), (5, .int t), (0, .ref 250), (1, .ref 0), (2, .ref 140), (3, .ref 162), (4, .int (nJ i))]) (st' := []) (ob := []) rfl fm_n ?_
    refine gl_lv (lv' := [(0, .ref 250), (1, .ref 0), (2, .ref 140), (3, .ref 162), (4, .int (nJ i))]) (fm_c (List.mem_of_getElem? (i := 2) rfl) (fm_c (List.mem_of_getElem? (i := 3) rfl) (fm_c (List.mem_of_getElem? (i := 4) rfl) (fm_c (List.mem_of_getElem? (i := 5) rfl) (fm_c (List.mem_of_getElem? (i := 6) rfl) fm_n))))) ?_
    exact gl_wide (by omega) (by omega) (kk _ J3)
  · refine gl_y (tgt := 1814) K (dOK_lk doc_31 (pc := 1799) rfl) (by decide) (cI_ne0 h0) ?_
    refine gl_run K doc_31 1 (pc' := 3186) (lv' := [(6, .int rm), (5, .int t), (0, .ref 250), (1, .ref 0), (2, .ref 140), (3, .ref 162), (4, .int (nJ i))]) (st' := []) (ob := []) rfl fm_n ?_
    refine gl_lv (lv' := [(0, .ref 250), (1, .ref 0), (2, .ref 140), (3, .ref 162), (4, .int (nJ i))]) (fm_c (List.mem_of_getElem? (i := 2) rfl) (fm_c (List.mem_of_getElem? (i := 3) rfl) (fm_c (List.mem_of_getElem? (i := 4) rfl) (fm_c (List.mem_of_getElem? (i := 5) rfl) (fm_c (List.mem_of_getElem? (i := 6) rfl) fm_n))))) ?_
    exact gl_wide (by omega) (by omega) (kk _ J3)
set_option maxRecDepth 100000 in
theorem cs_32 {p : Program} {l : Launch} {e : Env} {s : State} {m : MethodId} {below : List Frame} {meth : Method} {c : Code} {b L : Nat} {xs : Nat → Int32} {D : va_G} {cs : Nat → ClassId} {ad : Nat → Nat} {A : Nat → Prop} (K : LX p l s m meth c b L xs D cs ad A) {i : Nat} (hi : i + 6 ≤ L) (hL : L ≤ 3072) {σ : SG} (hJ : JW σ) {cells slots : Nat} (hcc : cells + 2 ≤ 601024) (hss : slots + 12 ≤ 7293034) (kk : ∀ σ', JW σ' → GL p l e s m below meth c b D cs ad A σ' (cells + 2) (slots + 12) 3186 [(0, .ref 250), (1, .ref 0), (2, .ref 140), (3, .ref 162), (4, .int (nJ i))] []) : GL p l e s m below meth c b D cs ad A σ cells slots 1817 [(0, .ref 250), (1, .ref 0), (2, .ref 140), (3, .ref 162), (4, .int (nJ i))] [] := by
  obtain ⟨Sc, Sm, hC, hM, R, M⟩ := hJ
  refine gl_run K doc_32 2 (pc' := 1819) (lv' := [(0, .ref 250), (1, .ref 0), (2, .ref 140), (3, .ref 162), (4, .int (nJ i))]) (st' := [.ref 162, .ref 0]) (ob := []) rfl fm_n ?_
  obtain ⟨f1, c1, t, σ1, f2, rm, σ2, f3, σ3, e1, hc, e2, e3, ob1, ob2, J3, hz⟩ := two (f := Int32.toInt64) (vM := vI) (a147 R M) hC hM (fun rc rm S1 T h1 h2 => wr_339 (d := 0) h1 h2) (fun r h => S_273 (d := 0) h) (q_273 (d := 0) M) (fun c o T h => mRi h)
  refine gl_S (k' := 339) (As := [.ref 0, .ref 162]) (rest := []) K (dOK_lk doc_32 (pc := 1819) rfl) rfl lS_287 rfl (Nat.le_of_ble_eq_true rfl) (Nat.le_of_ble_eq_true rfl) (by decide) e1 (by omega) (by omega) ?_
  refine gl_run K doc_32 2 (pc' := 1825) (lv' := [(5, .int t), (0, .ref 250), (1, .ref 0), (2, .ref 140), (3, .ref 162), (4, .int (nJ i))]) (st' := [.ref 140]) (ob := []) rfl fm_n ?_
  refine gl_V (k' := 273) (As := []) (rest := []) (ci := 11) (q := (RX12, TX12, 41)) K (dOK_lk doc_32 (pc := 1825) rfl) rfl rfl lV_289 rfl rfl rfl (Nat.le_of_ble_eq_true rfl) (Nat.le_of_ble_eq_true rfl) ob1 (by decide) e2 (by omega) (by omega) ?_
  refine gl_run K doc_32 2 (pc' := 1831) (lv' := [(6, .int rm), (5, .int t), (0, .ref 250), (1, .ref 0), (2, .ref 140), (3, .ref 162), (4, .int (nJ i))]) (st' := [.ref 140]) (ob := []) rfl fm_n ?_
  refine gl_V (k' := 367) (As := []) (rest := []) (ci := 11) (q := (RX12, TX12, 41)) K (dOK_lk doc_32 (pc := 1831) rfl) rfl rfl lV_187 rfl rfl rfl (Nat.le_of_ble_eq_true rfl) (Nat.le_of_ble_eq_true rfl) ob2 (by decide) e3 (by omega) (by omega) ?_
  refine gl_run K doc_32 1 (pc' := 1836) (lv' := [(6, .int rm), (5, .int t), (0, .ref 250), (1, .ref 0), (2, .ref 140), (3, .ref 162), (4, .int (nJ i))]) (st' := [.int t, .int t]) (ob := []) rfl fm_n ?_
  refine gl_eq (tgt := 1841) K (dOK_lk doc_32 (pc := 1836) rfl) (by decide) rfl ?_
  refine gl_run K doc_32 1 (pc' := 1843) (lv' := [(6, .int rm), (5, .int t), (0, .ref 250), (1, .ref 0), (2, .ref 140), (3, .ref 162), (4, .int (nJ i))]) (st' := [.int t]) (ob := []) rfl fm_n ?_
  by_cases h0 : t = 0
  · obtain ⟨g, hg1, hg2⟩ := hz h0
    refine gl_n (tgt := 1858) K (dOK_lk doc_32 (pc := 1843) rfl) (by decide) (cI_ne1 h0) ?_
    refine gl_run K doc_32 2 (pc' := 1848) (lv' := [(6, .int rm), (5, .int t), (0, .ref 250), (1, .ref 0), (2, .ref 140), (3, .ref 162), (4, .int (nJ i))]) (st' := [.int (Int32.ofInt 0), .ref 162]) (ob := []) rfl fm_n ?_
    refine gl_laload K (dOK_lk doc_32 (pc := 1848) rfl) hg1 ?_
    rw [hg2]
    refine gl_run K doc_32 2 (pc' := 1852) (lv' := [(6, .int rm), (5, .int t), (0, .ref 250), (1, .ref 0), (2, .ref 140), (3, .ref 162), (4, .int (nJ i))]) (st' := [.long (Int32.toInt64 rm), .long (Int32.toInt64 rm)]) (ob := []) rfl fm_n ?_
    refine gl_lcmp K (dOK_lk doc_32 (pc := 1852) rfl) ?_
    rw [lcm3_0]
    refine gl_y (tgt := 1858) K (dOK_lk doc_32 (pc := 1853) rfl) (by decide) rfl ?_
    refine gl_run K doc_32 1 (pc' := 3186) (lv' := [(6, .int rm), (5, .int t), (0, .ref 250), (1, .ref 0), (2, .ref 140), (3, .ref 162), (4, .int (nJ i))]) (st' := []) (ob := []) rfl fm_n ?_
    refine gl_lv (lv' := [(0, .ref 250), (1, .ref 0), (2, .ref 140), (3, .ref 162), (4, .int (nJ i))]) (fm_c (List.mem_of_getElem? (i := 2) rfl) (fm_c (List.mem_of_getElem? (i := 3) rfl) (fm_c (List.mem_of_getElem? (i := 4) rfl) (fm_c (List.mem_of_getElem? (i := 5) rfl) (fm_c (List.mem_of_getElem? (i := 6) rfl) fm_n))))) ?_
    exact gl_wide (by omega) (by omega) (kk _ J3)
  · refine gl_y (tgt := 1858) K (dOK_lk doc_32 (pc := 1843) rfl) (by decide) (cI_ne0 h0) ?_
    refine gl_run K doc_32 1 (pc' := 3186) (lv' := [(6, .int rm), (5, .int t), (0, .ref 250), (1, .ref 0), (2, .ref 140), (3, .ref 162), (4, .int (nJ i))]) (st' := []) (ob := []) rfl fm_n ?_
    refine gl_lv (lv' := [(0, .ref 250), (1, .ref 0), (2, .ref 140), (3, .ref 162), (4, .int (nJ i))]) (fm_c (List.mem_of_getElem? (i := 2) rfl) (fm_c (List.mem_of_getElem? (i := 3) rfl) (fm_c (List.mem_of_getElem? (i := 4) rfl) (fm_c (List.mem_of_getElem? (i := 5) rfl) (fm_c (List.mem_of_getElem? (i := 6) rfl) fm_n))))) ?_
    exact gl_wide (by omega) (by omega) (kk _ J3)
set_option maxRecDepth 100000 in
theorem cs_33 {p : Program} {l : Launch} {e : Env} {s : State} {m : MethodId} {below : List Frame} {meth : Method} {c : Code} {b L : Nat} {xs : Nat → Int32} {D : va_G} {cs : Nat → ClassId} {ad : Nat → Nat} {A : Nat → Prop} (K : LX p l s m meth c b L xs D cs ad A) {i : Nat} (hi : i + 6 ≤ L) (hL : L ≤ 3072) {σ : SG} (hJ : JW σ) {cells slots : Nat} (hcc : cells + 2 ≤ 601024) (hss : slots + 12 ≤ 7293034) (kk : ∀ σ', JW σ' → GL p l e s m below meth c b D cs ad A σ' (cells + 2) (slots + 12) 3186 [(0, .ref 250), (1, .ref 0), (2, .ref 140), (3, .ref 162), (4, .int (nJ i))] []) : GL p l e s m below meth c b D cs ad A σ cells slots 1861 [(0, .ref 250), (1, .ref 0), (2, .ref 140), (3, .ref 162), (4, .int (nJ i))] [] := by
  obtain ⟨Sc, Sm, hC, hM, R, M⟩ := hJ
  refine gl_run K doc_33 1 (pc' := 1862) (lv' := [(0, .ref 250), (1, .ref 0), (2, .ref 140), (3, .ref 162), (4, .int (nJ i))]) (st' := [.ref 0]) (ob := []) rfl fm_n ?_
  obtain ⟨Sm', h2, R'⟩ := a148 R M
  obtain ⟨f1, σ1, f2, σ2, e1, e2, ob1, J3⟩ := two1 hC hM R' (S_148 (d := 0) rfl) (S_222 (d := 0) h2) (q_222 (d := 0) M) (fun c o T h => mRi h)
  generalize F_148 Sc = aa at e1 e2
  refine gl_V (k' := 148) (As := []) (rest := []) (ci := 10) (q := (RX11, TX11, 18)) K (dOK_lk doc_33 (pc := 1862) rfl) rfl rfl lV_290 rfl rfl rfl (Nat.le_of_ble_eq_true rfl) (Nat.le_of_ble_eq_true rfl) (obj_c hC) (by decide) e1 (by omega) (by omega) ?_
  refine gl_run K doc_33 1 (pc' := 1866) (lv' := [(0, .ref 250), (1, .ref 0), (2, .ref 140), (3, .ref 162), (4, .int (nJ i))]) (st' := [.ref 140, .int aa]) (ob := []) rfl fm_n ?_
  refine gl_V (k' := 222) (As := []) (rest := [.int aa]) (ci := 11) (q := (RX12, TX12, 41)) K (dOK_lk doc_33 (pc := 1866) rfl) rfl rfl lV_293 rfl rfl rfl (Nat.le_of_ble_eq_true rfl) (Nat.le_of_ble_eq_true rfl) ob1 (by decide) e2 (by omega) (by omega) ?_
  refine gl_eq (tgt := 3186) K (dOK_lk doc_33 (pc := 1869) rfl) (by decide) rfl ?_
  refine gl_lv (lv' := [(0, .ref 250), (1, .ref 0), (2, .ref 140), (3, .ref 162), (4, .int (nJ i))]) (fm_c (List.mem_of_getElem? (i := 0) rfl) (fm_c (List.mem_of_getElem? (i := 1) rfl) (fm_c (List.mem_of_getElem? (i := 2) rfl) (fm_c (List.mem_of_getElem? (i := 3) rfl) (fm_c (List.mem_of_getElem? (i := 4) rfl) fm_n))))) ?_
  exact gl_wide (by omega) (by omega) (kk _ J3)
set_option maxRecDepth 100000 in
theorem cs_34 {p : Program} {l : Launch} {e : Env} {s : State} {m : MethodId} {below : List Frame} {meth : Method} {c : Code} {b L : Nat} {xs : Nat → Int32} {D : va_G} {cs : Nat → ClassId} {ad : Nat → Nat} {A : Nat → Prop} (K : LX p l s m meth c b L xs D cs ad A) {i : Nat} (hi : i + 6 ≤ L) (hL : L ≤ 3072) {σ : SG} (hJ : JW σ) {cells slots : Nat} (hcc : cells + 2 ≤ 601024) (hss : slots + 12 ≤ 7293034) (kk : ∀ σ', JW σ' → GL p l e s m below meth c b D cs ad A σ' (cells + 2) (slots + 12) 3186 [(0, .ref 250), (1, .ref 0), (2, .ref 140), (3, .ref 162), (4, .int (nJ i))] []) : GL p l e s m below meth c b D cs ad A σ cells slots 1874 [(0, .ref 250), (1, .ref 0), (2, .ref 140), (3, .ref 162), (4, .int (nJ i))] [] := by
  obtain ⟨Sc, Sm, hC, hM, R, M⟩ := hJ
  refine gl_run K doc_34 7 (pc' := 1882) (lv' := [(0, .ref 250), (1, .ref 0), (2, .ref 140), (3, .ref 162), (4, .int (nJ i))]) (st' := [.ref 162, .int (ag xs i 1), .ref 0]) (ob := [nJ i + Int32.ofInt 1]) rfl (fm_c (ob_ok hi hL 1 (by decide)) fm_n) ?_
  obtain ⟨f1, c1, t, σ1, f2, rm, σ2, f3, σ3, e1, hc, e2, e3, ob1, ob2, J3, hz⟩ := two (f := Int32.toInt64) (vM := vI) (a149 R M ((ag xs i 1))) hC hM (fun rc rm S1 T h1 h2 => wr_340 (d := 0) h1 h2) (fun r h => S_278 (d := 0) h) (q_278 (d := 0) M) (fun c o T h => mRi h)
  refine gl_S (k' := 340) (As := [.ref 0, .int (ag xs i 1), .ref 162]) (rest := []) K (dOK_lk doc_34 (pc := 1882) rfl) rfl lS_294 rfl (Nat.le_of_ble_eq_true rfl) (Nat.le_of_ble_eq_true rfl) (by decide) e1 (by omega) (by omega) ?_
  refine gl_run K doc_34 7 (pc' := 1894) (lv' := [(5, .int t), (0, .ref 250), (1, .ref 0), (2, .ref 140), (3, .ref 162), (4, .int (nJ i))]) (st' := [.int (ag xs i 1), .ref 140]) (ob := [nJ i + Int32.ofInt 1]) rfl (fm_c (ob_ok hi hL 1 (by decide)) fm_n) ?_
  refine gl_V (k' := 278) (As := [.int (ag xs i 1)]) (rest := []) (ci := 11) (q := (RX12, TX12, 41)) K (dOK_lk doc_34 (pc := 1894) rfl) rfl rfl lV_296 rfl rfl rfl (Nat.le_of_ble_eq_true rfl) (Nat.le_of_ble_eq_true rfl) ob1 (by decide) e2 (by omega) (by omega) ?_
  refine gl_run K doc_34 2 (pc' := 1900) (lv' := [(6, .int rm), (5, .int t), (0, .ref 250), (1, .ref 0), (2, .ref 140), (3, .ref 162), (4, .int (nJ i))]) (st' := [.ref 140]) (ob := []) rfl fm_n ?_
  refine gl_V (k' := 367) (As := []) (rest := []) (ci := 11) (q := (RX12, TX12, 41)) K (dOK_lk doc_34 (pc := 1900) rfl) rfl rfl lV_187 rfl rfl rfl (Nat.le_of_ble_eq_true rfl) (Nat.le_of_ble_eq_true rfl) ob2 (by decide) e3 (by omega) (by omega) ?_
  refine gl_run K doc_34 1 (pc' := 1905) (lv' := [(6, .int rm), (5, .int t), (0, .ref 250), (1, .ref 0), (2, .ref 140), (3, .ref 162), (4, .int (nJ i))]) (st' := [.int t, .int t]) (ob := []) rfl fm_n ?_
  refine gl_eq (tgt := 1910) K (dOK_lk doc_34 (pc := 1905) rfl) (by decide) rfl ?_
  refine gl_run K doc_34 1 (pc' := 1912) (lv' := [(6, .int rm), (5, .int t), (0, .ref 250), (1, .ref 0), (2, .ref 140), (3, .ref 162), (4, .int (nJ i))]) (st' := [.int t]) (ob := []) rfl fm_n ?_
  by_cases h0 : t = 0
  · obtain ⟨g, hg1, hg2⟩ := hz h0
    refine gl_n (tgt := 1927) K (dOK_lk doc_34 (pc := 1912) rfl) (by decide) (cI_ne1 h0) ?_
    refine gl_run K doc_34 2 (pc' := 1917) (lv' := [(6, .int rm), (5, .int t), (0, .ref 250), (1, .ref 0), (2, .ref 140), (3, .ref 162), (4, .int (nJ i))]) (st' := [.int (Int32.ofInt 0), .ref 162]) (ob := []) rfl fm_n ?_
    refine gl_laload K (dOK_lk doc_34 (pc := 1917) rfl) hg1 ?_
    rw [hg2]
    refine gl_run K doc_34 2 (pc' := 1921) (lv' := [(6, .int rm), (5, .int t), (0, .ref 250), (1, .ref 0), (2, .ref 140), (3, .ref 162), (4, .int (nJ i))]) (st' := [.long (Int32.toInt64 rm), .long (Int32.toInt64 rm)]) (ob := []) rfl fm_n ?_
    refine gl_lcmp K (dOK_lk doc_34 (pc := 1921) rfl) ?_
    rw [lcm3_0]
    refine gl_y (tgt := 1927) K (dOK_lk doc_34 (pc := 1922) rfl) (by decide) rfl ?_
    refine gl_run K doc_34 1 (pc' := 3186) (lv' := [(6, .int rm), (5, .int t), (0, .ref 250), (1, .ref 0), (2, .ref 140), (3, .ref 162), (4, .int (nJ i))]) (st' := []) (ob := []) rfl fm_n ?_
    refine gl_lv (lv' := [(0, .ref 250), (1, .ref 0), (2, .ref 140), (3, .ref 162), (4, .int (nJ i))]) (fm_c (List.mem_of_getElem? (i := 2) rfl) (fm_c (List.mem_of_getElem? (i := 3) rfl) (fm_c (List.mem_of_getElem? (i := 4) rfl) (fm_c (List.mem_of_getElem? (i := 5) rfl) (fm_c (List.mem_of_getElem? (i := 6) rfl) fm_n))))) ?_
    exact gl_wide (by omega) (by omega) (kk _ J3)
  · refine gl_y (tgt := 1927) K (dOK_lk doc_34 (pc := 1912) rfl) (by decide) (cI_ne0 h0) ?_
    refine gl_run K doc_34 1 (pc' := 3186) (lv' := [(6, .int rm), (5, .int t), (0, .ref 250), (1, .ref 0), (2, .ref 140), (3, .ref 162), (4, .int (nJ i))]) (st' := []) (ob := []) rfl fm_n ?_
    refine gl_lv (lv' := [(0, .ref 250), (1, .ref 0), (2, .ref 140), (3, .ref 162), (4, .int (nJ i))]) (fm_c (List.mem_of_getElem? (i := 2) rfl) (fm_c (List.mem_of_getElem? (i := 3) rfl) (fm_c (List.mem_of_getElem? (i := 4) rfl) (fm_c (List.mem_of_getElem? (i := 5) rfl) (fm_c (List.mem_of_getElem? (i := 6) rfl) fm_n))))) ?_
    exact gl_wide (by omega) (by omega) (kk _ J3)
set_option maxRecDepth 100000 in
theorem cs_35 {p : Program} {l : Launch} {e : Env} {s : State} {m : MethodId} {below : List Frame} {meth : Method} {c : Code} {b L : Nat} {xs : Nat → Int32} {D : va_G} {cs : Nat → ClassId} {ad : Nat → Nat} {A : Nat → Prop} (K : LX p l s m meth c b L xs D cs ad A) {i : Nat} (hi : i + 6 ≤ L) (hL : L ≤ 3072) {σ : SG} (hJ : JW σ) {cells slots : Nat} (hcc : cells + 2 ≤ 601024) (hss : slots + 12 ≤ 7293034) (kk : ∀ σ', JW σ' → GL p l e s m below meth c b D cs ad A σ' (cells + 2) (slots + 12) 3186 [(0, .ref 250), (1, .ref 0), (2, .ref 140), (3, .ref 162), (4, .int (nJ i))] []) : GL p l e s m below meth c b D cs ad A σ cells slots 1930 [(0, .ref 250), (1, .ref 0), (2, .ref 140), (3, .ref 162), (4, .int (nJ i))] [] := by
  obtain ⟨Sc, Sm, hC, hM, R, M⟩ := hJ
  refine gl_run K doc_35 7 (pc' := 1938) (lv' := [(0, .ref 250), (1, .ref 0), (2, .ref 140), (3, .ref 162), (4, .int (nJ i))]) (st' := [.ref 162, .int (ag xs i 1), .ref 0]) (ob := [nJ i + Int32.ofInt 1]) rfl (fm_c (ob_ok hi hL 1 (by decide)) fm_n) ?_
  obtain ⟨f1, c1, t, σ1, f2, rm, σ2, f3, σ3, e1, hc, e2, e3, ob1, ob2, J3, hz⟩ := two (f := Int32.toInt64) (vM := vI) (a150 R M ((ag xs i 1))) hC hM (fun rc rm S1 T h1 h2 => wr_341 (d := 0) h1 h2) (fun r h => S_279 (d := 0) h) (q_279 (d := 0) M) (fun c o T h => mRi h)
  refine gl_S (k' := 341) (As := [.ref 0, .int (ag xs i 1), .ref 162]) (rest := []) K (dOK_lk doc_35 (pc := 1938) rfl) rfl lS_297 rfl (Nat.le_of_ble_eq_true rfl) (Nat.le_of_ble_eq_true rfl) (by decide) e1 (by omega) (by omega) ?_
  refine gl_run K doc_35 7 (pc' := 1950) (lv' := [(5, .int t), (0, .ref 250), (1, .ref 0), (2, .ref 140), (3, .ref 162), (4, .int (nJ i))]) (st' := [.int (ag xs i 1), .ref 140]) (ob := [nJ i + Int32.ofInt 1]) rfl (fm_c (ob_ok hi hL 1 (by decide)) fm_n) ?_
  refine gl_V (k' := 279) (As := [.int (ag xs i 1)]) (rest := []) (ci := 11) (q := (RX12, TX12, 41)) K (dOK_lk doc_35 (pc := 1950) rfl) rfl rfl lV_299 rfl rfl rfl (Nat.le_of_ble_eq_true rfl) (Nat.le_of_ble_eq_true rfl) ob1 (by decide) e2 (by omega) (by omega) ?_
  refine gl_run K doc_35 2 (pc' := 1956) (lv' := [(6, .int rm), (5, .int t), (0, .ref 250), (1, .ref 0), (2, .ref 140), (3, .ref 162), (4, .int (nJ i))]) (st' := [.ref 140]) (ob := []) rfl fm_n ?_
  refine gl_V (k' := 367) (As := []) (rest := []) (ci := 11) (q := (RX12, TX12, 41)) K (dOK_lk doc_35 (pc := 1956) rfl) rfl rfl lV_187 rfl rfl rfl (Nat.le_of_ble_eq_true rfl) (Nat.le_of_ble_eq_true rfl) ob2 (by decide) e3 (by omega) (by omega) ?_
  refine gl_run K doc_35 1 (pc' := 1961) (lv' := [(6, .int rm), (5, .int t), (0, .ref 250), (1, .ref 0), (2, .ref 140), (3, .ref 162), (4, .int (nJ i))]) (st' := [.int t, .int t]) (ob := []) rfl fm_n ?_
  refine gl_eq (tgt := 1966) K (dOK_lk doc_35 (pc := 1961) rfl) (by decide) rfl ?_
  refine gl_run K doc_35 1 (pc' := 1968) (lv' := [(6, .int rm), (5, .int t), (0, .ref 250), (1, .ref 0), (2, .ref 140), (3, .ref 162), (4, .int (nJ i))]) (st' := [.int t]) (ob := []) rfl fm_n ?_
  by_cases h0 : t = 0
  · obtain ⟨g, hg1, hg2⟩ := hz h0
    refine gl_n (tgt := 1983) K (dOK_lk doc_35 (pc := 1968) rfl) (by decide) (cI_ne1 h0) ?_
    refine gl_run K doc_35 2 (pc' := 1973) (lv' := [(6, .int rm), (5, .int t), (0, .ref 250), (1, .ref 0), (2, .ref 140), (3, .ref 162), (4, .int (nJ i))]) (st' := [.int (Int32.ofInt 0), .ref 162]) (ob := []) rfl fm_n ?_
    refine gl_laload K (dOK_lk doc_35 (pc := 1973) rfl) hg1 ?_
    rw [hg2]
    refine gl_run K doc_35 2 (pc' := 1977) (lv' := [(6, .int rm), (5, .int t), (0, .ref 250), (1, .ref 0), (2, .ref 140), (3, .ref 162), (4, .int (nJ i))]) (st' := [.long (Int32.toInt64 rm), .long (Int32.toInt64 rm)]) (ob := []) rfl fm_n ?_
    refine gl_lcmp K (dOK_lk doc_35 (pc := 1977) rfl) ?_
    rw [lcm3_0]
    refine gl_y (tgt := 1983) K (dOK_lk doc_35 (pc := 1978) rfl) (by decide) rfl ?_
    refine gl_run K doc_35 1 (pc' := 3186) (lv' := [(6, .int rm), (5, .int t), (0, .ref 250), (1, .ref 0), (2, .ref 140), (3, .ref 162), (4, .int (nJ i))]) (st' := []) (ob := []) rfl fm_n ?_
    refine gl_lv (lv' := [(0, .ref 250), (1, .ref 0), (2, .ref 140), (3, .ref 162), (4, .int (nJ i))]) (fm_c (List.mem_of_getElem? (i := 2) rfl) (fm_c (List.mem_of_getElem? (i := 3) rfl) (fm_c (List.mem_of_getElem? (i := 4) rfl) (fm_c (List.mem_of_getElem? (i := 5) rfl) (fm_c (List.mem_of_getElem? (i := 6) rfl) fm_n))))) ?_
    exact gl_wide (by omega) (by omega) (kk _ J3)
  · refine gl_y (tgt := 1983) K (dOK_lk doc_35 (pc := 1968) rfl) (by decide) (cI_ne0 h0) ?_
    refine gl_run K doc_35 1 (pc' := 3186) (lv' := [(6, .int rm), (5, .int t), (0, .ref 250), (1, .ref 0), (2, .ref 140), (3, .ref 162), (4, .int (nJ i))]) (st' := []) (ob := []) rfl fm_n ?_
    refine gl_lv (lv' := [(0, .ref 250), (1, .ref 0), (2, .ref 140), (3, .ref 162), (4, .int (nJ i))]) (fm_c (List.mem_of_getElem? (i := 2) rfl) (fm_c (List.mem_of_getElem? (i := 3) rfl) (fm_c (List.mem_of_getElem? (i := 4) rfl) (fm_c (List.mem_of_getElem? (i := 5) rfl) (fm_c (List.mem_of_getElem? (i := 6) rfl) fm_n))))) ?_
    exact gl_wide (by omega) (by omega) (kk _ J3)
set_option maxRecDepth 100000 in
theorem cs_36 {p : Program} {l : Launch} {e : Env} {s : State} {m : MethodId} {below : List Frame} {meth : Method} {c : Code} {b L : Nat} {xs : Nat → Int32} {D : va_G} {cs : Nat → ClassId} {ad : Nat → Nat} {A : Nat → Prop} (K : LX p l s m meth c b L xs D cs ad A) {i : Nat} (hi : i + 6 ≤ L) (hL : L ≤ 3072) {σ : SG} (hJ : JW σ) {cells slots : Nat} (hcc : cells + 2 ≤ 601024) (hss : slots + 12 ≤ 7293034) (kk : ∀ σ', JW σ' → GL p l e s m below meth c b D cs ad A σ' (cells + 2) (slots + 12) 3186 [(0, .ref 250), (1, .ref 0), (2, .ref 140), (3, .ref 162), (4, .int (nJ i))] []) : GL p l e s m below meth c b D cs ad A σ cells slots 1986 [(0, .ref 250), (1, .ref 0), (2, .ref 140), (3, .ref 162), (4, .int (nJ i))] [] := by
  obtain ⟨Sc, Sm, hC, hM, R, M⟩ := hJ
  refine gl_run K doc_36 7 (pc' := 1994) (lv' := [(0, .ref 250), (1, .ref 0), (2, .ref 140), (3, .ref 162), (4, .int (nJ i))]) (st' := [.ref 162, .int (ag xs i 1), .ref 0]) (ob := [nJ i + Int32.ofInt 1]) rfl (fm_c (ob_ok hi hL 1 (by decide)) fm_n) ?_
  obtain ⟨f1, c1, t, σ1, f2, rm, σ2, f3, σ3, e1, hc, e2, e3, ob1, ob2, J3, hz⟩ := two (f := id) (vM := vJ) (a151 R M ((ag xs i 1))) hC hM (fun rc rm S1 T h1 h2 => wr_342 (d := 0) h1 h2) (fun r h => S_280 (d := 0) h) (q_280 (d := 0) M) (fun c o T h => mRl h)
  refine gl_S (k' := 342) (As := [.ref 0, .int (ag xs i 1), .ref 162]) (rest := []) K (dOK_lk doc_36 (pc := 1994) rfl) rfl lS_300 rfl (Nat.le_of_ble_eq_true rfl) (Nat.le_of_ble_eq_true rfl) (by decide) e1 (by omega) (by omega) ?_
  refine gl_run K doc_36 7 (pc' := 2006) (lv' := [(5, .int t), (0, .ref 250), (1, .ref 0), (2, .ref 140), (3, .ref 162), (4, .int (nJ i))]) (st' := [.int (ag xs i 1), .ref 140]) (ob := [nJ i + Int32.ofInt 1]) rfl (fm_c (ob_ok hi hL 1 (by decide)) fm_n) ?_
  refine gl_V (k' := 280) (As := [.int (ag xs i 1)]) (rest := []) (ci := 11) (q := (RX12, TX12, 41)) K (dOK_lk doc_36 (pc := 2006) rfl) rfl rfl lV_302 rfl rfl rfl (Nat.le_of_ble_eq_true rfl) (Nat.le_of_ble_eq_true rfl) ob1 (by decide) e2 (by omega) (by omega) ?_
  refine gl_run K doc_36 2 (pc' := 2012) (lv' := [(6, .long rm), (5, .int t), (0, .ref 250), (1, .ref 0), (2, .ref 140), (3, .ref 162), (4, .int (nJ i))]) (st' := [.ref 140]) (ob := []) rfl fm_n ?_
  refine gl_V (k' := 367) (As := []) (rest := []) (ci := 11) (q := (RX12, TX12, 41)) K (dOK_lk doc_36 (pc := 2012) rfl) rfl rfl lV_187 rfl rfl rfl (Nat.le_of_ble_eq_true rfl) (Nat.le_of_ble_eq_true rfl) ob2 (by decide) e3 (by omega) (by omega) ?_
  refine gl_run K doc_36 1 (pc' := 2017) (lv' := [(6, .long rm), (5, .int t), (0, .ref 250), (1, .ref 0), (2, .ref 140), (3, .ref 162), (4, .int (nJ i))]) (st' := [.int t, .int t]) (ob := []) rfl fm_n ?_
  refine gl_eq (tgt := 2022) K (dOK_lk doc_36 (pc := 2017) rfl) (by decide) rfl ?_
  refine gl_run K doc_36 1 (pc' := 2024) (lv' := [(6, .long rm), (5, .int t), (0, .ref 250), (1, .ref 0), (2, .ref 140), (3, .ref 162), (4, .int (nJ i))]) (st' := [.int t]) (ob := []) rfl fm_n ?_
  by_cases h0 : t = 0
  · obtain ⟨g, hg1, hg2⟩ := hz h0
    refine gl_n (tgt := 2038) K (dOK_lk doc_36 (pc := 2024) rfl) (by decide) (cI_ne1 h0) ?_
    refine gl_run K doc_36 2 (pc' := 2029) (lv' := [(6, .long rm), (5, .int t), (0, .ref 250), (1, .ref 0), (2, .ref 140), (3, .ref 162), (4, .int (nJ i))]) (st' := [.int (Int32.ofInt 0), .ref 162]) (ob := []) rfl fm_n ?_
    refine gl_laload K (dOK_lk doc_36 (pc := 2029) rfl) hg1 ?_
    rw [hg2]
    refine gl_run K doc_36 1 (pc' := 2032) (lv' := [(6, .long rm), (5, .int t), (0, .ref 250), (1, .ref 0), (2, .ref 140), (3, .ref 162), (4, .int (nJ i))]) (st' := [.long rm, .long rm]) (ob := []) rfl fm_n ?_
    refine gl_lcmp K (dOK_lk doc_36 (pc := 2032) rfl) ?_
    rw [lcm3_0]
    refine gl_y (tgt := 2038) K (dOK_lk doc_36 (pc := 2033) rfl) (by decide) rfl ?_
    refine gl_run K doc_36 1 (pc' := 3186) (lv' := [(6, .long rm), (5, .int t), (0, .ref 250), (1, .ref 0), (2, .ref 140), (3, .ref 162), (4, .int (nJ i))]) (st' := []) (ob := []) rfl fm_n ?_
    refine gl_lv (lv' := [(0, .ref 250), (1, .ref 0), (2, .ref 140), (3, .ref 162), (4, .int (nJ i))]) (fm_c (List.mem_of_getElem? (i := 2) rfl) (fm_c (List.mem_of_getElem? (i := 3) rfl) (fm_c (List.mem_of_getElem? (i := 4) rfl) (fm_c (List.mem_of_getElem? (i := 5) rfl) (fm_c (List.mem_of_getElem? (i := 6) rfl) fm_n))))) ?_
    exact gl_wide (by omega) (by omega) (kk _ J3)
  · refine gl_y (tgt := 2038) K (dOK_lk doc_36 (pc := 2024) rfl) (by decide) (cI_ne0 h0) ?_
    refine gl_run K doc_36 1 (pc' := 3186) (lv' := [(6, .long rm), (5, .int t), (0, .ref 250), (1, .ref 0), (2, .ref 140), (3, .ref 162), (4, .int (nJ i))]) (st' := []) (ob := []) rfl fm_n ?_
    refine gl_lv (lv' := [(0, .ref 250), (1, .ref 0), (2, .ref 140), (3, .ref 162), (4, .int (nJ i))]) (fm_c (List.mem_of_getElem? (i := 2) rfl) (fm_c (List.mem_of_getElem? (i := 3) rfl) (fm_c (List.mem_of_getElem? (i := 4) rfl) (fm_c (List.mem_of_getElem? (i := 5) rfl) (fm_c (List.mem_of_getElem? (i := 6) rfl) fm_n))))) ?_
    exact gl_wide (by omega) (by omega) (kk _ J3)
set_option maxRecDepth 100000 in
theorem cs_37 {p : Program} {l : Launch} {e : Env} {s : State} {m : MethodId} {below : List Frame} {meth : Method} {c : Code} {b L : Nat} {xs : Nat → Int32} {D : va_G} {cs : Nat → ClassId} {ad : Nat → Nat} {A : Nat → Prop} (K : LX p l s m meth c b L xs D cs ad A) {i : Nat} (hi : i + 6 ≤ L) (hL : L ≤ 3072) {σ : SG} (hJ : JW σ) {cells slots : Nat} (hcc : cells + 2 ≤ 601024) (hss : slots + 12 ≤ 7293034) (kk : ∀ σ', JW σ' → GL p l e s m below meth c b D cs ad A σ' (cells + 2) (slots + 12) 3186 [(0, .ref 250), (1, .ref 0), (2, .ref 140), (3, .ref 162), (4, .int (nJ i))] []) : GL p l e s m below meth c b D cs ad A σ cells slots 2041 [(0, .ref 250), (1, .ref 0), (2, .ref 140), (3, .ref 162), (4, .int (nJ i))] [] := by
  obtain ⟨Sc, Sm, hC, hM, R, M⟩ := hJ
  refine gl_run K doc_37 2 (pc' := 2043) (lv' := [(0, .ref 250), (1, .ref 0), (2, .ref 140), (3, .ref 162), (4, .int (nJ i))]) (st' := [.ref 162, .ref 0]) (ob := []) rfl fm_n ?_
  obtain ⟨f1, c1, t, σ1, f2, rm, σ2, f3, σ3, e1, hc, e2, e3, ob1, ob2, J3, hz⟩ := two (f := id) (vM := vJ) (a152 R M) hC hM (fun rc rm S1 T h1 h2 => wr_343 (d := 0) h1 h2) (fun r h => S_281 (d := 0) h) (q_281 (d := 0) M) (fun c o T h => mRl h)
  refine gl_S (k' := 343) (As := [.ref 0, .ref 162]) (rest := []) K (dOK_lk doc_37 (pc := 2043) rfl) rfl lS_303 rfl (Nat.le_of_ble_eq_true rfl) (Nat.le_of_ble_eq_true rfl) (by decide) e1 (by omega) (by omega) ?_
  refine gl_run K doc_37 2 (pc' := 2049) (lv' := [(5, .int t), (0, .ref 250), (1, .ref 0), (2, .ref 140), (3, .ref 162), (4, .int (nJ i))]) (st' := [.ref 140]) (ob := []) rfl fm_n ?_
  refine gl_V (k' := 281) (As := []) (rest := []) (ci := 11) (q := (RX12, TX12, 41)) K (dOK_lk doc_37 (pc := 2049) rfl) rfl rfl lV_305 rfl rfl rfl (Nat.le_of_ble_eq_true rfl) (Nat.le_of_ble_eq_true rfl) ob1 (by decide) e2 (by omega) (by omega) ?_
  refine gl_run K doc_37 2 (pc' := 2055) (lv' := [(6, .long rm), (5, .int t), (0, .ref 250), (1, .ref 0), (2, .ref 140), (3, .ref 162), (4, .int (nJ i))]) (st' := [.ref 140]) (ob := []) rfl fm_n ?_
  refine gl_V (k' := 367) (As := []) (rest := []) (ci := 11) (q := (RX12, TX12, 41)) K (dOK_lk doc_37 (pc := 2055) rfl) rfl rfl lV_187 rfl rfl rfl (Nat.le_of_ble_eq_true rfl) (Nat.le_of_ble_eq_true rfl) ob2 (by decide) e3 (by omega) (by omega) ?_
  refine gl_run K doc_37 1 (pc' := 2060) (lv' := [(6, .long rm), (5, .int t), (0, .ref 250), (1, .ref 0), (2, .ref 140), (3, .ref 162), (4, .int (nJ i))]) (st' := [.int t, .int t]) (ob := []) rfl fm_n ?_
  refine gl_eq (tgt := 2065) K (dOK_lk doc_37 (pc := 2060) rfl) (by decide) rfl ?_
  refine gl_run K doc_37 1 (pc' := 2067) (lv' := [(6, .long rm), (5, .int t), (0, .ref 250), (1, .ref 0), (2, .ref 140), (3, .ref 162), (4, .int (nJ i))]) (st' := [.int t]) (ob := []) rfl fm_n ?_
  by_cases h0 : t = 0
  · obtain ⟨g, hg1, hg2⟩ := hz h0
    refine gl_n (tgt := 2081) K (dOK_lk doc_37 (pc := 2067) rfl) (by decide) (cI_ne1 h0) ?_
    refine gl_run K doc_37 2 (pc' := 2072) (lv' := [(6, .long rm), (5, .int t), (0, .ref 250), (1, .ref 0), (2, .ref 140), (3, .ref 162), (4, .int (nJ i))]) (st' := [.int (Int32.ofInt 0), .ref 162]) (ob := []) rfl fm_n ?_
    refine gl_laload K (dOK_lk doc_37 (pc := 2072) rfl) hg1 ?_
    rw [hg2]
    refine gl_run K doc_37 1 (pc' := 2075) (lv' := [(6, .long rm), (5, .int t), (0, .ref 250), (1, .ref 0), (2, .ref 140), (3, .ref 162), (4, .int (nJ i))]) (st' := [.long rm, .long rm]) (ob := []) rfl fm_n ?_
    refine gl_lcmp K (dOK_lk doc_37 (pc := 2075) rfl) ?_
    rw [lcm3_0]
    refine gl_y (tgt := 2081) K (dOK_lk doc_37 (pc := 2076) rfl) (by decide) rfl ?_
    refine gl_run K doc_37 1 (pc' := 3186) (lv' := [(6, .long rm), (5, .int t), (0, .ref 250), (1, .ref 0), (2, .ref 140), (3, .ref 162), (4, .int (nJ i))]) (st' := []) (ob := []) rfl fm_n ?_
    refine gl_lv (lv' := [(0, .ref 250), (1, .ref 0), (2, .ref 140), (3, .ref 162), (4, .int (nJ i))]) (fm_c (List.mem_of_getElem? (i := 2) rfl) (fm_c (List.mem_of_getElem? (i := 3) rfl) (fm_c (List.mem_of_getElem? (i := 4) rfl) (fm_c (List.mem_of_getElem? (i := 5) rfl) (fm_c (List.mem_of_getElem? (i := 6) rfl) fm_n))))) ?_
    exact gl_wide (by omega) (by omega) (kk _ J3)
  · refine gl_y (tgt := 2081) K (dOK_lk doc_37 (pc := 2067) rfl) (by decide) (cI_ne0 h0) ?_
    refine gl_run K doc_37 1 (pc' := 3186) (lv' := [(6, .long rm), (5, .int t), (0, .ref 250), (1, .ref 0), (2, .ref 140), (3, .ref 162), (4, .int (nJ i))]) (st' := []) (ob := []) rfl fm_n ?_
    refine gl_lv (lv' := [(0, .ref 250), (1, .ref 0), (2, .ref 140), (3, .ref 162), (4, .int (nJ i))]) (fm_c (List.mem_of_getElem? (i := 2) rfl) (fm_c (List.mem_of_getElem? (i := 3) rfl) (fm_c (List.mem_of_getElem? (i := 4) rfl) (fm_c (List.mem_of_getElem? (i := 5) rfl) (fm_c (List.mem_of_getElem? (i := 6) rfl) fm_n))))) ?_
    exact gl_wide (by omega) (by omega) (kk _ J3)
set_option maxRecDepth 100000 in
theorem cs_38 {p : Program} {l : Launch} {e : Env} {s : State} {m : MethodId} {below : List Frame} {meth : Method} {c : Code} {b L : Nat} {xs : Nat → Int32} {D : va_G} {cs : Nat → ClassId} {ad : Nat → Nat} {A : Nat → Prop} (K : LX p l s m meth c b L xs D cs ad A) {i : Nat} (hi : i + 6 ≤ L) (hL : L ≤ 3072) {σ : SG} (hJ : JW σ) {cells slots : Nat} (hcc : cells + 2 ≤ 601024) (hss : slots + 12 ≤ 7293034) (kk : ∀ σ', JW σ' → GL p l e s m below meth c b D cs ad A σ' (cells + 2) (slots + 12) 3186 [(0, .ref 250), (1, .ref 0), (2, .ref 140), (3, .ref 162), (4, .int (nJ i))] []) : GL p l e s m below meth c b D cs ad A σ cells slots 2084 [(0, .ref 250), (1, .ref 0), (2, .ref 140), (3, .ref 162), (4, .int (nJ i))] [] := by
  obtain ⟨Sc, Sm, hC, hM, R, M⟩ := hJ
  refine gl_run K doc_38 7 (pc' := 2092) (lv' := [(0, .ref 250), (1, .ref 0), (2, .ref 140), (3, .ref 162), (4, .int (nJ i))]) (st' := [.ref 162, .int (ag xs i 1), .ref 0]) (ob := [nJ i + Int32.ofInt 1]) rfl (fm_c (ob_ok hi hL 1 (by decide)) fm_n) ?_
  obtain ⟨f1, c1, t, σ1, f2, rm, σ2, f3, σ3, e1, hc, e2, e3, ob1, ob2, J3, hz⟩ := two (f := Int32.toInt64) (vM := vI) (a153 R M ((ag xs i 1))) hC hM (fun rc rm S1 T h1 h2 => wr_344 (d := 0) h1 h2) (fun r h => S_282 (d := 0) h) (q_282 (d := 0) M) (fun c o T h => mRi h)
  refine gl_S (k' := 344) (As := [.ref 0, .int (ag xs i 1), .ref 162]) (rest := []) K (dOK_lk doc_38 (pc := 2092) rfl) rfl lS_306 rfl (Nat.le_of_ble_eq_true rfl) (Nat.le_of_ble_eq_true rfl) (by decide) e1 (by omega) (by omega) ?_
  refine gl_run K doc_38 7 (pc' := 2104) (lv' := [(5, .int t), (0, .ref 250), (1, .ref 0), (2, .ref 140), (3, .ref 162), (4, .int (nJ i))]) (st' := [.int (ag xs i 1), .ref 140]) (ob := [nJ i + Int32.ofInt 1]) rfl (fm_c (ob_ok hi hL 1 (by decide)) fm_n) ?_
  refine gl_V (k' := 282) (As := [.int (ag xs i 1)]) (rest := []) (ci := 11) (q := (RX12, TX12, 41)) K (dOK_lk doc_38 (pc := 2104) rfl) rfl rfl lV_308 rfl rfl rfl (Nat.le_of_ble_eq_true rfl) (Nat.le_of_ble_eq_true rfl) ob1 (by decide) e2 (by omega) (by omega) ?_
  refine gl_run K doc_38 2 (pc' := 2110) (lv' := [(6, .int rm), (5, .int t), (0, .ref 250), (1, .ref 0), (2, .ref 140), (3, .ref 162), (4, .int (nJ i))]) (st' := [.ref 140]) (ob := []) rfl fm_n ?_
  refine gl_V (k' := 367) (As := []) (rest := []) (ci := 11) (q := (RX12, TX12, 41)) K (dOK_lk doc_38 (pc := 2110) rfl) rfl rfl lV_187 rfl rfl rfl (Nat.le_of_ble_eq_true rfl) (Nat.le_of_ble_eq_true rfl) ob2 (by decide) e3 (by omega) (by omega) ?_
  refine gl_run K doc_38 1 (pc' := 2115) (lv' := [(6, .int rm), (5, .int t), (0, .ref 250), (1, .ref 0), (2, .ref 140), (3, .ref 162), (4, .int (nJ i))]) (st' := [.int t, .int t]) (ob := []) rfl fm_n ?_
  refine gl_eq (tgt := 2120) K (dOK_lk doc_38 (pc := 2115) rfl) (by decide) rfl ?_
  refine gl_run K doc_38 1 (pc' := 2122) (lv' := [(6, .int rm), (5, .int t), (0, .ref 250), (1, .ref 0), (2, .ref 140), (3, .ref 162), (4, .int (nJ i))]) (st' := [.int t]) (ob := []) rfl fm_n ?_
  by_cases h0 : t = 0
  · obtain ⟨g, hg1, hg2⟩ := hz h0
    refine gl_n (tgt := 2137) K (dOK_lk doc_38 (pc := 2122) rfl) (by decide) (cI_ne1 h0) ?_
    refine gl_run K doc_38 2 (pc' := 2127) (lv' := [(6, .int rm), (5, .int t), (0, .ref 250), (1, .ref 0), (2, .ref 140), (3, .ref 162), (4, .int (nJ i))]) (st' := [.int (Int32.ofInt 0), .ref 162]) (ob := []) rfl fm_n ?_
    refine gl_laload K (dOK_lk doc_38 (pc := 2127) rfl) hg1 ?_
    rw [hg2]
    refine gl_run K doc_38 2 (pc' := 2131) (lv' := [(6, .int rm), (5, .int t), (0, .ref 250), (1, .ref 0), (2, .ref 140), (3, .ref 162), (4, .int (nJ i))]) (st' := [.long (Int32.toInt64 rm), .long (Int32.toInt64 rm)]) (ob := []) rfl fm_n ?_
    refine gl_lcmp K (dOK_lk doc_38 (pc := 2131) rfl) ?_
    rw [lcm3_0]
    refine gl_y (tgt := 2137) K (dOK_lk doc_38 (pc := 2132) rfl) (by decide) rfl ?_
    refine gl_run K doc_38 1 (pc' := 3186) (lv' := [(6, .int rm), (5, .int t), (0, .ref 250), (1, .ref 0), (2, .ref 140), (3, .ref 162), (4, .int (nJ i))]) (st' := []) (ob := []) rfl fm_n ?_
    refine gl_lv (lv' := [(0, .ref 250), (1, .ref 0), (2, .ref 140), (3, .ref 162), (4, .int (nJ i))]) (fm_c (List.mem_of_getElem? (i := 2) rfl) (fm_c (List.mem_of_getElem? (i := 3) rfl) (fm_c (List.mem_of_getElem? (i := 4) rfl) (fm_c (List.mem_of_getElem? (i := 5) rfl) (fm_c (List.mem_of_getElem? (i := 6) rfl) fm_n))))) ?_
    exact gl_wide (by omega) (by omega) (kk _ J3)
  · refine gl_y (tgt := 2137) K (dOK_lk doc_38 (pc := 2122) rfl) (by decide) (cI_ne0 h0) ?_
    refine gl_run K doc_38 1 (pc' := 3186) (lv' := [(6, .int rm), (5, .int t), (0, .ref 250), (1, .ref 0), (2, .ref 140), (3, .ref 162), (4, .int (nJ i))]) (st' := []) (ob := []) rfl fm_n ?_
    refine gl_lv (lv' := [(0, .ref 250), (1, .ref 0), (2, .ref 140), (3, .ref 162), (4, .int (nJ i))]) (fm_c (List.mem_of_getElem? (i := 2) rfl) (fm_c (List.mem_of_getElem? (i := 3) rfl) (fm_c (List.mem_of_getElem? (i := 4) rfl) (fm_c (List.mem_of_getElem? (i := 5) rfl) (fm_c (List.mem_of_getElem? (i := 6) rfl) fm_n))))) ?_
    exact gl_wide (by omega) (by omega) (kk _ J3)
set_option maxRecDepth 100000 in
theorem cs_39 {p : Program} {l : Launch} {e : Env} {s : State} {m : MethodId} {below : List Frame} {meth : Method} {c : Code} {b L : Nat} {xs : Nat → Int32} {D : va_G} {cs : Nat → ClassId} {ad : Nat → Nat} {A : Nat → Prop} (K : LX p l s m meth c b L xs D cs ad A) {i : Nat} (hi : i + 6 ≤ L) (hL : L ≤ 3072) {σ : SG} (hJ : JW σ) {cells slots : Nat} (hcc : cells + 2 ≤ 601024) (hss : slots + 12 ≤ 7293034) (kk : ∀ σ', JW σ' → GL p l e s m below meth c b D cs ad A σ' (cells + 2) (slots + 12) 3186 [(0, .ref 250), (1, .ref 0), (2, .ref 140), (3, .ref 162), (4, .int (nJ i))] []) : GL p l e s m below meth c b D cs ad A σ cells slots 2140 [(0, .ref 250), (1, .ref 0), (2, .ref 140), (3, .ref 162), (4, .int (nJ i))] [] := by
  obtain ⟨Sc, Sm, hC, hM, R, M⟩ := hJ
  refine gl_run K doc_39 2 (pc' := 2142) (lv' := [(0, .ref 250), (1, .ref 0), (2, .ref 140), (3, .ref 162), (4, .int (nJ i))]) (st' := [.ref 162, .ref 0]) (ob := []) rfl fm_n ?_
  obtain ⟨f1, c1, t, σ1, f2, rm, σ2, f3, σ3, e1, hc, e2, e3, ob1, ob2, J3, hz⟩ := two (f := Int32.toInt64) (vM := vI) (a154 R M) hC hM (fun rc rm S1 T h1 h2 => wr_345 (d := 0) h1 h2) (fun r h => S_283 (d := 0) h) (q_283 (d := 0) M) (fun c o T h => mRi h)
  refine gl_S (k' := 345) (As := [.ref 0, .ref 162]) (rest := []) K (dOK_lk doc_39 (pc := 2142) rfl) rfl lS_309 rfl (Nat.le_of_ble_eq_true rfl) (Nat.le_of_ble_eq_true rfl) (by decide) e1 (by omega) (by omega) ?_
  refine gl_run K doc_39 2 (pc' := 2148) (lv' := [(5, .int t), (0, .ref 250), (1, .ref 0), (2, .ref 140), (3, .ref 162), (4, .int (nJ i))]) (st' := [.ref 140]) (ob := []) rfl fm_n ?_
  refine gl_V (k' := 283) (As := []) (rest := []) (ci := 11) (q := (RX12, TX12, 41)) K (dOK_lk doc_39 (pc := 2148) rfl) rfl rfl lV_311 rfl rfl rfl (Nat.le_of_ble_eq_true rfl) (Nat.le_of_ble_eq_true rfl) ob1 (by decide) e2 (by omega) (by omega) ?_
  refine gl_run K doc_39 2 (pc' := 2154) (lv' := [(6, .int rm), (5, .int t), (0, .ref 250), (1, .ref 0), (2, .ref 140), (3, .ref 162), (4, .int (nJ i))]) (st' := [.ref 140]) (ob := []) rfl fm_n ?_
  refine gl_V (k' := 367) (As := []) (rest := []) (ci := 11) (q := (RX12, TX12, 41)) K (dOK_lk doc_39 (pc := 2154) rfl) rfl rfl lV_187 rfl rfl rfl (Nat.le_of_ble_eq_true rfl) (Nat.le_of_ble_eq_true rfl) ob2 (by decide) e3 (by omega) (by omega) ?_
  refine gl_run K doc_39 1 (pc' := 2159) (lv' := [(6, .int rm), (5, .int t), (0, .ref 250), (1, .ref 0), (2, .ref 140), (3, .ref 162), (4, .int (nJ i))]) (st' := [.int t, .int t]) (ob := []) rfl fm_n ?_
  refine gl_eq (tgt := 2164) K (dOK_lk doc_39 (pc := 2159) rfl) (by decide) rfl ?_
  refine gl_run K doc_39 1 (pc' := 2166) (lv' := [(6, .int rm), (5, .int t), (0, .ref 250), (1, .ref 0), (2, .ref 140), (3, .ref 162), (4, .int (nJ i))]) (st' := [.int t]) (ob := []) rfl fm_n ?_
  by_cases h0 : t = 0
  · obtain ⟨g, hg1, hg2⟩ := hz h0
    refine gl_n (tgt := 2181) K (dOK_lk doc_39 (pc := 2166) rfl) (by decide) (cI_ne1 h0) ?_
    refine gl_run K doc_39 2 (pc' := 2171) (lv' := [(6, .int rm), (5, .int t), (0, .ref 250), (1, .ref 0), (2, .ref 140), (3, .ref 162), (4, .int (nJ i))]) (st' := [.int (Int32.ofInt 0), .ref 162]) (ob := []) rfl fm_n ?_
    refine gl_laload K (dOK_lk doc_39 (pc := 2171) rfl) hg1 ?_
    rw [hg2]
    refine gl_run K doc_39 2 (pc' := 2175) (lv' := [(6, .int rm), (5, .int t), (0, .ref 250), (1, .ref 0), (2, .ref 140), (3, .ref 162), (4, .int (nJ i))]) (st' := [.long (Int32.toInt64 rm), .long (Int32.toInt64 rm)]) (ob := []) rfl fm_n ?_
    refine gl_lcmp K (dOK_lk doc_39 (pc := 2175) rfl) ?_
    rw [lcm3_0]
    refine gl_y (tgt := 2181) K (dOK_lk doc_39 (pc := 2176) rfl) (by decide) rfl ?_
    refine gl_run K doc_39 1 (pc' := 3186) (lv' := [(6, .int rm), (5, .int t), (0, .ref 250), (1, .ref 0), (2, .ref 140), (3, .ref 162), (4, .int (nJ i))]) (st' := []) (ob := []) rfl fm_n ?_
    refine gl_lv (lv' := [(0, .ref 250), (1, .ref 0), (2, .ref 140), (3, .ref 162), (4, .int (nJ i))]) (fm_c (List.mem_of_getElem? (i := 2) rfl) (fm_c (List.mem_of_getElem? (i := 3) rfl) (fm_c (List.mem_of_getElem? (i := 4) rfl) (fm_c (List.mem_of_getElem? (i := 5) rfl) (fm_c (List.mem_of_getElem? (i := 6) rfl) fm_n))))) ?_
    exact gl_wide (by omega) (by omega) (kk _ J3)
  · refine gl_y (tgt := 2181) K (dOK_lk doc_39 (pc := 2166) rfl) (by decide) (cI_ne0 h0) ?_
    refine gl_run K doc_39 1 (pc' := 3186) (lv' := [(6, .int rm), (5, .int t), (0, .ref 250), (1, .ref 0), (2, .ref 140), (3, .ref 162), (4, .int (nJ i))]) (st' := []) (ob := []) rfl fm_n ?_
    refine gl_lv (lv' := [(0, .ref 250), (1, .ref 0), (2, .ref 140), (3, .ref 162), (4, .int (nJ i))]) (fm_c (List.mem_of_getElem? (i := 2) rfl) (fm_c (List.mem_of_getElem? (i := 3) rfl) (fm_c (List.mem_of_getElem? (i := 4) rfl) (fm_c (List.mem_of_getElem? (i := 5) rfl) (fm_c (List.mem_of_getElem? (i := 6) rfl) fm_n))))) ?_
    exact gl_wide (by omega) (by omega) (kk _ J3)
set_option maxRecDepth 100000 in
theorem cs_40 {p : Program} {l : Launch} {e : Env} {s : State} {m : MethodId} {below : List Frame} {meth : Method} {c : Code} {b L : Nat} {xs : Nat → Int32} {D : va_G} {cs : Nat → ClassId} {ad : Nat → Nat} {A : Nat → Prop} (K : LX p l s m meth c b L xs D cs ad A) {i : Nat} (hi : i + 6 ≤ L) (hL : L ≤ 3072) {σ : SG} (hJ : JW σ) {cells slots : Nat} (hcc : cells + 2 ≤ 601024) (hss : slots + 12 ≤ 7293034) (kk : ∀ σ', JW σ' → GL p l e s m below meth c b D cs ad A σ' (cells + 2) (slots + 12) 3186 [(0, .ref 250), (1, .ref 0), (2, .ref 140), (3, .ref 162), (4, .int (nJ i))] []) : GL p l e s m below meth c b D cs ad A σ cells slots 2184 [(0, .ref 250), (1, .ref 0), (2, .ref 140), (3, .ref 162), (4, .int (nJ i))] [] := by
  obtain ⟨Sc, Sm, hC, hM, R, M⟩ := hJ
  refine gl_run K doc_40 2 (pc' := 2186) (lv' := [(0, .ref 250), (1, .ref 0), (2, .ref 140), (3, .ref 162), (4, .int (nJ i))]) (st' := [.ref 162, .ref 0]) (ob := []) rfl fm_n ?_
  obtain ⟨f1, c1, t, σ1, f2, rm, σ2, f3, σ3, e1, hc, e2, e3, ob1, ob2, J3, hz⟩ := two (f := Int32.toInt64) (vM := vI) (a155 R M) hC hM (fun rc rm S1 T h1 h2 => wr_346 (d := 0) h1 h2) (fun r h => S_285 (d := 0) h) (q_285 (d := 0) M) (fun c o T h => mRi h)
  refine gl_S (k' := 346) (As := [.ref 0, .ref 162]) (rest := []) K (dOK_lk doc_40 (pc := 2186) rfl) rfl lS_312 rfl (Nat.le_of_ble_eq_true rfl) (Nat.le_of_ble_eq_true rfl) (by decide) e1 (by omega) (by omega) ?_
  refine gl_run K doc_40 2 (pc' := 2192) (lv' := [(5, .int t), (0, .ref 250), (1, .ref 0), (2, .ref 140), (3, .ref 162), (4, .int (nJ i))]) (st' := [.ref 140]) (ob := []) rfl fm_n ?_
  refine gl_V (k' := 285) (As := []) (rest := []) (ci := 11) (q := (RX12, TX12, 41)) K (dOK_lk doc_40 (pc := 2192) rfl) rfl rfl lV_314 rfl rfl rfl (Nat.le_of_ble_eq_true rfl) (Nat.le_of_ble_eq_true rfl) ob1 (by decide) e2 (by omega) (by omega) ?_
  refine gl_run K doc_40 2 (pc' := 2198) (lv' := [(6, .int rm), (5, .int t), (0, .ref 250), (1, .ref 0), (2, .ref 140), (3, .ref 162), (4, .int (nJ i))]) (st' := [.ref 140]) (ob := []) rfl fm_n ?_
  refine gl_V (k' := 367) (As := []) (rest := []) (ci := 11) (q := (RX12, TX12, 41)) K (dOK_lk doc_40 (pc := 2198) rfl) rfl rfl lV_187 rfl rfl rfl (Nat.le_of_ble_eq_true rfl) (Nat.le_of_ble_eq_true rfl) ob2 (by decide) e3 (by omega) (by omega) ?_
  refine gl_run K doc_40 1 (pc' := 2203) (lv' := [(6, .int rm), (5, .int t), (0, .ref 250), (1, .ref 0), (2, .ref 140), (3, .ref 162), (4, .int (nJ i))]) (st' := [.int t, .int t]) (ob := []) rfl fm_n ?_
  refine gl_eq (tgt := 2208) K (dOK_lk doc_40 (pc := 2203) rfl) (by decide) rfl ?_
  refine gl_run K doc_40 1 (pc' := 2210) (lv' := [(6, .int rm), (5, .int t), (0, .ref 250), (1, .ref 0), (2, .ref 140), (3, .ref 162), (4, .int (nJ i))]) (st' := [.int t]) (ob := []) rfl fm_n ?_
  by_cases h0 : t = 0
  · obtain ⟨g, hg1, hg2⟩ := hz h0
    refine gl_n (tgt := 2225) K (dOK_lk doc_40 (pc := 2210) rfl) (by decide) (cI_ne1 h0) ?_
    refine gl_run K doc_40 2 (pc' := 2215) (lv' := [(6, .int rm), (5, .int t), (0, .ref 250), (1, .ref 0), (2, .ref 140), (3, .ref 162), (4, .int (nJ i))]) (st' := [.int (Int32.ofInt 0), .ref 162]) (ob := []) rfl fm_n ?_
    refine gl_laload K (dOK_lk doc_40 (pc := 2215) rfl) hg1 ?_
    rw [hg2]
    refine gl_run K doc_40 2 (pc' := 2219) (lv' := [(6, .int rm), (5, .int t), (0, .ref 250), (1, .ref 0), (2, .ref 140), (3, .ref 162), (4, .int (nJ i))]) (st' := [.long (Int32.toInt64 rm), .long (Int32.toInt64 rm)]) (ob := []) rfl fm_n ?_
    refine gl_lcmp K (dOK_lk doc_40 (pc := 2219) rfl) ?_
    rw [lcm3_0]
    refine gl_y (tgt := 2225) K (dOK_lk doc_40 (pc := 2220) rfl) (by decide) rfl ?_
    refine gl_run K doc_40 1 (pc' := 3186) (lv' := [(6, .int rm), (5, .int t), (0, .ref 250), (1, .ref 0), (2, .ref 140), (3, .ref 162), (4, .int (nJ i))]) (st' := []) (ob := []) rfl fm_n ?_
    refine gl_lv (lv' := [(0, .ref 250), (1, .ref 0), (2, .ref 140), (3, .ref 162), (4, .int (nJ i))]) (fm_c (List.mem_of_getElem? (i := 2) rfl) (fm_c (List.mem_of_getElem? (i := 3) rfl) (fm_c (List.mem_of_getElem? (i := 4) rfl) (fm_c (List.mem_of_getElem? (i := 5) rfl) (fm_c (List.mem_of_getElem? (i := 6) rfl) fm_n))))) ?_
    exact gl_wide (by omega) (by omega) (kk _ J3)
  · refine gl_y (tgt := 2225) K (dOK_lk doc_40 (pc := 2210) rfl) (by decide) (cI_ne0 h0) ?_
    refine gl_run K doc_40 1 (pc' := 3186) (lv' := [(6, .int rm), (5, .int t), (0, .ref 250), (1, .ref 0), (2, .ref 140), (3, .ref 162), (4, .int (nJ i))]) (st' := []) (ob := []) rfl fm_n ?_
    refine gl_lv (lv' := [(0, .ref 250), (1, .ref 0), (2, .ref 140), (3, .ref 162), (4, .int (nJ i))]) (fm_c (List.mem_of_getElem? (i := 2) rfl) (fm_c (List.mem_of_getElem? (i := 3) rfl) (fm_c (List.mem_of_getElem? (i := 4) rfl) (fm_c (List.mem_of_getElem? (i := 5) rfl) (fm_c (List.mem_of_getElem? (i := 6) rfl) fm_n))))) ?_
    exact gl_wide (by omega) (by omega) (kk _ J3)
set_option maxRecDepth 100000 in
theorem cs_41 {p : Program} {l : Launch} {e : Env} {s : State} {m : MethodId} {below : List Frame} {meth : Method} {c : Code} {b L : Nat} {xs : Nat → Int32} {D : va_G} {cs : Nat → ClassId} {ad : Nat → Nat} {A : Nat → Prop} (K : LX p l s m meth c b L xs D cs ad A) {i : Nat} (hi : i + 6 ≤ L) (hL : L ≤ 3072) {σ : SG} (hJ : JW σ) {cells slots : Nat} (hcc : cells + 2 ≤ 601024) (hss : slots + 12 ≤ 7293034) (kk : ∀ σ', JW σ' → GL p l e s m below meth c b D cs ad A σ' (cells + 2) (slots + 12) 3186 [(0, .ref 250), (1, .ref 0), (2, .ref 140), (3, .ref 162), (4, .int (nJ i))] []) : GL p l e s m below meth c b D cs ad A σ cells slots 2228 [(0, .ref 250), (1, .ref 0), (2, .ref 140), (3, .ref 162), (4, .int (nJ i))] [] := by
  obtain ⟨Sc, Sm, hC, hM, R, M⟩ := hJ
  refine gl_run K doc_41 2 (pc' := 2230) (lv' := [(0, .ref 250), (1, .ref 0), (2, .ref 140), (3, .ref 162), (4, .int (nJ i))]) (st' := [.ref 162, .ref 0]) (ob := []) rfl fm_n ?_
  obtain ⟨f1, c1, t, σ1, f2, rm, σ2, f3, σ3, e1, hc, e2, e3, ob1, ob2, J3, hz⟩ := two (f := Int32.toInt64) (vM := vI) (a156 R M) hC hM (fun rc rm S1 T h1 h2 => wr_347 (d := 0) h1 h2) (fun r h => S_286 (d := 0) h) (q_286 (d := 0) M) (fun c o T h => mRi h)
  refine gl_S (k' := 347) (As := [.ref 0, .ref 162]) (rest := []) K (dOK_lk doc_41 (pc := 2230) rfl) rfl lS_315 rfl (Nat.le_of_ble_eq_true rfl) (Nat.le_of_ble_eq_true rfl) (by decide) e1 (by omega) (by omega) ?_
  refine gl_run K doc_41 2 (pc' := 2236) (lv' := [(5, .int t), (0, .ref 250), (1, .ref 0), (2, .ref 140), (3, .ref 162), (4, .int (nJ i))]) (st' := [.ref 140]) (ob := []) rfl fm_n ?_
  refine gl_V (k' := 286) (As := []) (rest := []) (ci := 11) (q := (RX12, TX12, 41)) K (dOK_lk doc_41 (pc := 2236) rfl) rfl rfl lV_317 rfl rfl rfl (Nat.le_of_ble_eq_true rfl) (Nat.le_of_ble_eq_true rfl) ob1 (by decide) e2 (by omega) (by omega) ?_
  refine gl_run K doc_41 2 (pc' := 2242) (lv' := [(6, .int rm), (5, .int t), (0, .ref 250), (1, .ref 0), (2, .ref 140), (3, .ref 162), (4, .int (nJ i))]) (st' := [.ref 140]) (ob := []) rfl fm_n ?_
  refine gl_V (k' := 367) (As := []) (rest := []) (ci := 11) (q := (RX12, TX12, 41)) K (dOK_lk doc_41 (pc := 2242) rfl) rfl rfl lV_187 rfl rfl rfl (Nat.le_of_ble_eq_true rfl) (Nat.le_of_ble_eq_true rfl) ob2 (by decide) e3 (by omega) (by omega) ?_
  refine gl_run K doc_41 1 (pc' := 2247) (lv' := [(6, .int rm), (5, .int t), (0, .ref 250), (1, .ref 0), (2, .ref 140), (3, .ref 162), (4, .int (nJ i))]) (st' := [.int t, .int t]) (ob := []) rfl fm_n ?_
  refine gl_eq (tgt := 2252) K (dOK_lk doc_41 (pc := 2247) rfl) (by decide) rfl ?_
  refine gl_run K doc_41 1 (pc' := 2254) (lv' := [(6, .int rm), (5, .int t), (0, .ref 250), (1, .ref 0), (2, .ref 140), (3, .ref 162), (4, .int (nJ i))]) (st' := [.int t]) (ob := []) rfl fm_n ?_
  by_cases h0 : t = 0
  · obtain ⟨g, hg1, hg2⟩ := hz h0
    refine gl_n (tgt := 2269) K (dOK_lk doc_41 (pc := 2254) rfl) (by decide) (cI_ne1 h0) ?_
    refine gl_run K doc_41 2 (pc' := 2259) (lv' := [(6, .int rm), (5, .int t), (0, .ref 250), (1, .ref 0), (2, .ref 140), (3, .ref 162), (4, .int (nJ i))]) (st' := [.int (Int32.ofInt 0), .ref 162]) (ob := []) rfl fm_n ?_
    refine gl_laload K (dOK_lk doc_41 (pc := 2259) rfl) hg1 ?_
    rw [hg2]
    refine gl_run K doc_41 2 (pc' := 2263) (lv' := [(6, .int rm), (5, .int t), (0, .ref 250), (1, .ref 0), (2, .ref 140), (3, .ref 162), (4, .int (nJ i))]) (st' := [.long (Int32.toInt64 rm), .long (Int32.toInt64 rm)]) (ob := []) rfl fm_n ?_
    refine gl_lcmp K (dOK_lk doc_41 (pc := 2263) rfl) ?_
    rw [lcm3_0]
    refine gl_y (tgt := 2269) K (dOK_lk doc_41 (pc := 2264) rfl) (by decide) rfl ?_
    refine gl_run K doc_41 1 (pc' := 3186) (lv' := [(6, .int rm), (5, .int t), (0, .ref 250), (1, .ref 0), (2, .ref 140), (3, .ref 162), (4, .int (nJ i))]) (st' := []) (ob := []) rfl fm_n ?_
    refine gl_lv (lv' := [(0, .ref 250), (1, .ref 0), (2, .ref 140), (3, .ref 162), (4, .int (nJ i))]) (fm_c (List.mem_of_getElem? (i := 2) rfl) (fm_c (List.mem_of_getElem? (i := 3) rfl) (fm_c (List.mem_of_getElem? (i := 4) rfl) (fm_c (List.mem_of_getElem? (i := 5) rfl) (fm_c (List.mem_of_getElem? (i := 6) rfl) fm_n))))) ?_
    exact gl_wide (by omega) (by omega) (kk _ J3)
  · refine gl_y (tgt := 2269) K (dOK_lk doc_41 (pc := 2254) rfl) (by decide) (cI_ne0 h0) ?_
    refine gl_run K doc_41 1 (pc' := 3186) (lv' := [(6, .int rm), (5, .int t), (0, .ref 250), (1, .ref 0), (2, .ref 140), (3, .ref 162), (4, .int (nJ i))]) (st' := []) (ob := []) rfl fm_n ?_
    refine gl_lv (lv' := [(0, .ref 250), (1, .ref 0), (2, .ref 140), (3, .ref 162), (4, .int (nJ i))]) (fm_c (List.mem_of_getElem? (i := 2) rfl) (fm_c (List.mem_of_getElem? (i := 3) rfl) (fm_c (List.mem_of_getElem? (i := 4) rfl) (fm_c (List.mem_of_getElem? (i := 5) rfl) (fm_c (List.mem_of_getElem? (i := 6) rfl) fm_n))))) ?_
    exact gl_wide (by omega) (by omega) (kk _ J3)
set_option maxRecDepth 100000 in
theorem cs_42 {p : Program} {l : Launch} {e : Env} {s : State} {m : MethodId} {below : List Frame} {meth : Method} {c : Code} {b L : Nat} {xs : Nat → Int32} {D : va_G} {cs : Nat → ClassId} {ad : Nat → Nat} {A : Nat → Prop} (K : LX p l s m meth c b L xs D cs ad A) {i : Nat} (hi : i + 6 ≤ L) (hL : L ≤ 3072) {σ : SG} (hJ : JW σ) {cells slots : Nat} (hcc : cells + 2 ≤ 601024) (hss : slots + 12 ≤ 7293034) (kk : ∀ σ', JW σ' → GL p l e s m below meth c b D cs ad A σ' (cells + 2) (slots + 12) 3186 [(0, .ref 250), (1, .ref 0), (2, .ref 140), (3, .ref 162), (4, .int (nJ i))] []) : GL p l e s m below meth c b D cs ad A σ cells slots 2272 [(0, .ref 250), (1, .ref 0), (2, .ref 140), (3, .ref 162), (4, .int (nJ i))] [] := by
  obtain ⟨Sc, Sm, hC, hM, R, M⟩ := hJ
  refine gl_run K doc_42 1 (pc' := 2273) (lv' := [(0, .ref 250), (1, .ref 0), (2, .ref 140), (3, .ref 162), (4, .int (nJ i))]) (st' := [.ref 0]) (ob := []) rfl fm_n ?_
  obtain ⟨Sm', h2, R'⟩ := a157 R M
  obtain ⟨f1, σ1, f2, σ2, e1, e2, ob1, J3⟩ := two1 hC hM R' (S_157 (d := 0) rfl) (S_223 (d := 0) h2) (q_223 (d := 0) M) (fun c o T h => mRi h)
  generalize F_157 Sc = aa at e1 e2
  refine gl_V (k' := 157) (As := []) (rest := []) (ci := 10) (q := (RX11, TX11, 18)) K (dOK_lk doc_42 (pc := 2273) rfl) rfl rfl lV_318 rfl rfl rfl (Nat.le_of_ble_eq_true rfl) (Nat.le_of_ble_eq_true rfl) (obj_c hC) (by decide) e1 (by omega) (by omega) ?_
  refine gl_run K doc_42 1 (pc' := 2277) (lv' := [(0, .ref 250), (1, .ref 0), (2, .ref 140), (3, .ref 162), (4, .int (nJ i))]) (st' := [.ref 140, .int aa]) (ob := []) rfl fm_n ?_
  refine gl_V (k' := 223) (As := []) (rest := [.int aa]) (ci := 11) (q := (RX12, TX12, 41)) K (dOK_lk doc_42 (pc := 2277) rfl) rfl rfl lV_321 rfl rfl rfl (Nat.le_of_ble_eq_true rfl) (Nat.le_of_ble_eq_true rfl) ob1 (by decide) e2 (by omega) (by omega) ?_
  refine gl_eq (tgt := 3186) K (dOK_lk doc_42 (pc := 2280) rfl) (by decide) rfl ?_
  refine gl_lv (lv' := [(0, .ref 250), (1, .ref 0), (2, .ref 140), (3, .ref 162), (4, .int (nJ i))]) (fm_c (List.mem_of_getElem? (i := 0) rfl) (fm_c (List.mem_of_getElem? (i := 1) rfl) (fm_c (List.mem_of_getElem? (i := 2) rfl) (fm_c (List.mem_of_getElem? (i := 3) rfl) (fm_c (List.mem_of_getElem? (i := 4) rfl) fm_n))))) ?_
  exact gl_wide (by omega) (by omega) (kk _ J3)
set_option maxRecDepth 100000 in
theorem cs_43 {p : Program} {l : Launch} {e : Env} {s : State} {m : MethodId} {below : List Frame} {meth : Method} {c : Code} {b L : Nat} {xs : Nat → Int32} {D : va_G} {cs : Nat → ClassId} {ad : Nat → Nat} {A : Nat → Prop} (K : LX p l s m meth c b L xs D cs ad A) {i : Nat} (hi : i + 6 ≤ L) (hL : L ≤ 3072) {σ : SG} (hJ : JW σ) {cells slots : Nat} (hcc : cells + 2 ≤ 601024) (hss : slots + 12 ≤ 7293034) (kk : ∀ σ', JW σ' → GL p l e s m below meth c b D cs ad A σ' (cells + 2) (slots + 12) 3186 [(0, .ref 250), (1, .ref 0), (2, .ref 140), (3, .ref 162), (4, .int (nJ i))] []) : GL p l e s m below meth c b D cs ad A σ cells slots 2285 [(0, .ref 250), (1, .ref 0), (2, .ref 140), (3, .ref 162), (4, .int (nJ i))] [] := by
  obtain ⟨Sc, Sm, hC, hM, R, M⟩ := hJ
  refine gl_run K doc_43 7 (pc' := 2293) (lv' := [(0, .ref 250), (1, .ref 0), (2, .ref 140), (3, .ref 162), (4, .int (nJ i))]) (st' := [.ref 162, .int (ag xs i 1), .ref 0]) (ob := [nJ i + Int32.ofInt 1]) rfl (fm_c (ob_ok hi hL 1 (by decide)) fm_n) ?_
  obtain ⟨f1, c1, t, σ1, f2, rm, σ2, f3, σ3, e1, hc, e2, e3, ob1, ob2, J3, hz⟩ := two (f := Int32.toInt64) (vM := vI) (a158 R M ((ag xs i 1))) hC hM (fun rc rm S1 T h1 h2 => wr_348 (d := 0) h1 h2) (fun r h => S_288 (d := 0) h) (q_288 (d := 0) M) (fun c o T h => mRi h)
  refine gl_S (k' := 348) (As := [.ref 0, .int (ag xs i 1), .ref 162]) (rest := []) K (dOK_lk doc_43 (pc := 2293) rfl) rfl lS_322 rfl (Nat.le_of_ble_eq_true rfl) (Nat.le_of_ble_eq_true rfl) (by decide) e1 (by omega) (by omega) ?_
  refine gl_run K doc_43 7 (pc' := 2305) (lv' := [(5, .int t), (0, .ref 250), (1, .ref 0), (2, .ref 140), (3, .ref 162), (4, .int (nJ i))]) (st' := [.int (ag xs i 1), .ref 140]) (ob := [nJ i + Int32.ofInt 1]) rfl (fm_c (ob_ok hi hL 1 (by decide)) fm_n) ?_
  refine gl_V (k' := 288) (As := [.int (ag xs i 1)]) (rest := []) (ci := 11) (q := (RX12, TX12, 41)) K (dOK_lk doc_43 (pc := 2305) rfl) rfl rfl lV_324 rfl rfl rfl (Nat.le_of_ble_eq_true rfl) (Nat.le_of_ble_eq_true rfl) ob1 (by decide) e2 (by omega) (by omega) ?_
  refine gl_run K doc_43 2 (pc' := 2311) (lv' := [(6, .int rm), (5, .int t), (0, .ref 250), (1, .ref 0), (2, .ref 140), (3, .ref 162), (4, .int (nJ i))]) (st' := [.ref 140]) (ob := []) rfl fm_n ?_
  refine gl_V (k' := 367) (As := []) (rest := []) (ci := 11) (q := (RX12, TX12, 41)) K (dOK_lk doc_43 (pc := 2311) rfl) rfl rfl lV_187 rfl rfl rfl (Nat.le_of_ble_eq_true rfl) (Nat.le_of_ble_eq_true rfl) ob2 (by decide) e3 (by omega) (by omega) ?_
  refine gl_run K doc_43 1 (pc' := 2316) (lv' := [(6, .int rm), (5, .int t), (0, .ref 250), (1, .ref 0), (2, .ref 140), (3, .ref 162), (4, .int (nJ i))]) (st' := [.int t, .int t]) (ob := []) rfl fm_n ?_
  refine gl_eq (tgt := 2321) K (dOK_lk doc_43 (pc := 2316) rfl) (by decide) rfl ?_
  refine gl_run K doc_43 1 (pc' := 2323) (lv' := [(6, .int rm), (5, .int t), (0, .ref 250), (1, .ref 0), (2, .ref 140), (3, .ref 162), (4, .int (nJ i))]) (st' := [.int t]) (ob := []) rfl fm_n ?_
  by_cases h0 : t = 0
  · obtain ⟨g, hg1, hg2⟩ := hz h0
    refine gl_n (tgt := 2338) K (dOK_lk doc_43 (pc := 2323) rfl) (by decide) (cI_ne1 h0) ?_
    refine gl_run K doc_43 2 (pc' := 2328) (lv' := [(6, .int rm), (5, .int t), (0, .ref 250), (1, .ref 0), (2, .ref 140), (3, .ref 162), (4, .int (nJ i))]) (st' := [.int (Int32.ofInt 0), .ref 162]) (ob := []) rfl fm_n ?_
    refine gl_laload K (dOK_lk doc_43 (pc := 2328) rfl) hg1 ?_
    rw [hg2]
    refine gl_run K doc_43 2 (pc' := 2332) (lv' := [(6, .int rm), (5, .int t), (0, .ref 250), (1, .ref 0), (2, .ref 140), (3, .ref 162), (4, .int (nJ i))]) (st' := [.long (Int32.toInt64 rm), .long (Int32.toInt64 rm)]) (ob := []) rfl fm_n ?_
    refine gl_lcmp K (dOK_lk doc_43 (pc := 2332) rfl) ?_
    rw [lcm3_0]
    refine gl_y (tgt := 2338) K (dOK_lk doc_43 (pc := 2333) rfl) (by decide) rfl ?_
    refine gl_run K doc_43 1 (pc' := 3186) (lv' := [(6, .int rm), (5, .int t), (0, .ref 250), (1, .ref 0), (2, .ref 140), (3, .ref 162), (4, .int (nJ i))]) (st' := []) (ob := []) rfl fm_n ?_
    refine gl_lv (lv' := [(0, .ref 250), (1, .ref 0), (2, .ref 140), (3, .ref 162), (4, .int (nJ i))]) (fm_c (List.mem_of_getElem? (i := 2) rfl) (fm_c (List.mem_of_getElem? (i := 3) rfl) (fm_c (List.mem_of_getElem? (i := 4) rfl) (fm_c (List.mem_of_getElem? (i := 5) rfl) (fm_c (List.mem_of_getElem? (i := 6) rfl) fm_n))))) ?_
    exact gl_wide (by omega) (by omega) (kk _ J3)
  · refine gl_y (tgt := 2338) K (dOK_lk doc_43 (pc := 2323) rfl) (by decide) (cI_ne0 h0) ?_
    refine gl_run K doc_43 1 (pc' := 3186) (lv' := [(6, .int rm), (5, .int t), (0, .ref 250), (1, .ref 0), (2, .ref 140), (3, .ref 162), (4, .int (nJ i))]) (st' := []) (ob := []) rfl fm_n ?_
    refine gl_lv (lv' := [(0, .ref 250), (1, .ref 0), (2, .ref 140), (3, .ref 162), (4, .int (nJ i))]) (fm_c (List.mem_of_getElem? (i := 2) rfl) (fm_c (List.mem_of_getElem? (i := 3) rfl) (fm_c (List.mem_of_getElem? (i := 4) rfl) (fm_c (List.mem_of_getElem? (i := 5) rfl) (fm_c (List.mem_of_getElem? (i := 6) rfl) fm_n))))) ?_
    exact gl_wide (by omega) (by omega) (kk _ J3)
set_option maxRecDepth 100000 in
theorem cs_44 {p : Program} {l : Launch} {e : Env} {s : State} {m : MethodId} {below : List Frame} {meth : Method} {c : Code} {b L : Nat} {xs : Nat → Int32} {D : va_G} {cs : Nat → ClassId} {ad : Nat → Nat} {A : Nat → Prop} (K : LX p l s m meth c b L xs D cs ad A) {i : Nat} (hi : i + 6 ≤ L) (hL : L ≤ 3072) {σ : SG} (hJ : JW σ) {cells slots : Nat} (hcc : cells + 2 ≤ 601024) (hss : slots + 12 ≤ 7293034) (kk : ∀ σ', JW σ' → GL p l e s m below meth c b D cs ad A σ' (cells + 2) (slots + 12) 3186 [(0, .ref 250), (1, .ref 0), (2, .ref 140), (3, .ref 162), (4, .int (nJ i))] []) : GL p l e s m below meth c b D cs ad A σ cells slots 2341 [(0, .ref 250), (1, .ref 0), (2, .ref 140), (3, .ref 162), (4, .int (nJ i))] [] := by
  obtain ⟨Sc, Sm, hC, hM, R, M⟩ := hJ
  refine gl_run K doc_44 2 (pc' := 2343) (lv' := [(0, .ref 250), (1, .ref 0), (2, .ref 140), (3, .ref 162), (4, .int (nJ i))]) (st' := [.ref 162, .ref 0]) (ob := []) rfl fm_n ?_
  obtain ⟨f1, c1, t, σ1, f2, rm, σ2, f3, σ3, e1, hc, e2, e3, ob1, ob2, J3, hz⟩ := two (f := Int32.toInt64) (vM := vI) (a159 R M) hC hM (fun rc rm S1 T h1 h2 => wr_349 (d := 0) h1 h2) (fun r h => S_290 (d := 0) h) (q_290 (d := 0) M) (fun c o T h => mRi h)
  refine gl_S (k' := 349) (As := [.ref 0, .ref 162]) (rest := []) K (dOK_lk doc_44 (pc := 2343) rfl) rfl lS_325 rfl (Nat.le_of_ble_eq_true rfl) (Nat.le_of_ble_eq_true rfl) (by decide) e1 (by omega) (by omega) ?_
  refine gl_run K doc_44 2 (pc' := 2349) (lv' := [(5, .int t), (0, .ref 250), (1, .ref 0), (2, .ref 140), (3, .ref 162), (4, .int (nJ i))]) (st' := [.ref 140]) (ob := []) rfl fm_n ?_
  refine gl_V (k' := 290) (As := []) (rest := []) (ci := 11) (q := (RX12, TX12, 41)) K (dOK_lk doc_44 (pc := 2349) rfl) rfl rfl lV_327 rfl rfl rfl (Nat.le_of_ble_eq_true rfl) (Nat.le_of_ble_eq_true rfl) ob1 (by decide) e2 (by omega) (by omega) ?_
  refine gl_run K doc_44 2 (pc' := 2355) (lv' := [(6, .int rm), (5, .int t), (0, .ref 250), (1, .ref 0), (2, .ref 140), (3, .ref 162), (4, .int (nJ i))]) (st' := [.ref 140]) (ob := []) rfl fm_n ?_
  refine gl_V (k' := 367) (As := []) (rest := []) (ci := 11) (q := (RX12, TX12, 41)) K (dOK_lk doc_44 (pc := 2355) rfl) rfl rfl lV_187 rfl rfl rfl (Nat.le_of_ble_eq_true rfl) (Nat.le_of_ble_eq_true rfl) ob2 (by decide) e3 (by omega) (by omega) ?_
  refine gl_run K doc_44 1 (pc' := 2360) (lv' := [(6, .int rm), (5, .int t), (0, .ref 250), (1, .ref 0), (2, .ref 140), (3, .ref 162), (4, .int (nJ i))]) (st' := [.int t, .int t]) (ob := []) rfl fm_n ?_
  refine gl_eq (tgt := 2365) K (dOK_lk doc_44 (pc := 2360) rfl) (by decide) rfl ?_
  refine gl_run K doc_44 1 (pc' := 2367) (lv' := [(6, .int rm), (5, .int t), (0, .ref 250), (1, .ref 0), (2, .ref 140), (3, .ref 162), (4, .int (nJ i))]) (st' := [.int t]) (ob := []) rfl fm_n ?_
  by_cases h0 : t = 0
  · obtain ⟨g, hg1, hg2⟩ := hz h0
    refine gl_n (tgt := 2382) K (dOK_lk doc_44 (pc := 2367) rfl) (by decide) (cI_ne1 h0) ?_
    refine gl_run K doc_44 2 (pc' := 2372) (lv' := [(6, .int rm), (5, .int t), (0, .ref 250), (1, .ref 0), (2, .ref 140), (3, .ref 162), (4, .int (nJ i))]) (st' := [.int (Int32.ofInt 0), .ref 162]) (ob := []) rfl fm_n ?_
    refine gl_laload K (dOK_lk doc_44 (pc := 2372) rfl) hg1 ?_
    rw [hg2]
    refine gl_run K doc_44 2 (pc' := 2376) (lv' := [(6, .int rm), (5, .int t), (0, .ref 250), (1, .ref 0), (2, .ref 140), (3, .ref 162), (4, .int (nJ i))]) (st' := [.long (Int32.toInt64 rm), .long (Int32.toInt64 rm)]) (ob := []) rfl fm_n ?_
    refine gl_lcmp K (dOK_lk doc_44 (pc := 2376) rfl) ?_
    rw [lcm3_0]
    refine gl_y (tgt := 2382) K (dOK_lk doc_44 (pc := 2377) rfl) (by decide) rfl ?_
    refine gl_run K doc_44 1 (pc' := 3186) (lv' := [(6, .int rm), (5, .int t), (0, .ref 250), (1, .ref 0), (2, .ref 140), (3, .ref 162), (4, .int (nJ i))]) (st' := []) (ob := []) rfl fm_n ?_
    refine gl_lv (lv' := [(0, .ref 250), (1, .ref 0), (2, .ref 140), (3, .ref 162), (4, .int (nJ i))]) (fm_c (List.mem_of_getElem? (i := 2) rfl) (fm_c (List.mem_of_getElem? (i := 3) rfl) (fm_c (List.mem_of_getElem? (i := 4) rfl) (fm_c (List.mem_of_getElem? (i := 5) rfl) (fm_c (List.mem_of_getElem? (i := 6) rfl) fm_n))))) ?_
    exact gl_wide (by omega) (by omega) (kk _ J3)
  · refine gl_y (tgt := 2382) K (dOK_lk doc_44 (pc := 2367) rfl) (by decide) (cI_ne0 h0) ?_
    refine gl_run K doc_44 1 (pc' := 3186) (lv' := [(6, .int rm), (5, .int t), (0, .ref 250), (1, .ref 0), (2, .ref 140), (3, .ref 162), (4, .int (nJ i))]) (st' := []) (ob := []) rfl fm_n ?_
    refine gl_lv (lv' := [(0, .ref 250), (1, .ref 0), (2, .ref 140), (3, .ref 162), (4, .int (nJ i))]) (fm_c (List.mem_of_getElem? (i := 2) rfl) (fm_c (List.mem_of_getElem? (i := 3) rfl) (fm_c (List.mem_of_getElem? (i := 4) rfl) (fm_c (List.mem_of_getElem? (i := 5) rfl) (fm_c (List.mem_of_getElem? (i := 6) rfl) fm_n))))) ?_
    exact gl_wide (by omega) (by omega) (kk _ J3)
