/-! methods as functions (printed by a program): 55 putGuard, 38 readGuard, 63 putTreasure, 39 readTreasure, 37 readLines, 42 clear, 35 parse, 49 shiftCorner, 50 dropCorner -/
theorem mm_55 : mtG 55 = some (mi_55, 6, ft_55) := rfl
def F_55 (h0 : Nat) (v1 : Int32) (v2 : Int32) (v3 : Int32) (S : ST) : Option (Unit × ST) := if (S.1 h0 1) < 6 then (ck (ibd (S.1 h0 1) 6) (sbn ((wI S (h0 + 3) (Int32.toNatClampNeg (S.1 h0 1)) v1)) (fun s3 => ck (ibd (s3.1 h0 1) 6) (sbn ((wI s3 (h0 + 4) (Int32.toNatClampNeg (s3.1 h0 1)) v2)) (fun s5 => ck (ibd (s5.1 h0 1) 6) (sbn ((wI s5 (h0 + 5) (Int32.toNatClampNeg (s5.1 h0 1)) v3)) (fun s7 => sbn ((wI s7 h0 1 ((s7.1 h0 1) + 1))) (fun s8 => some ((), s8))))))))) else (some ((), S))
set_option maxRecDepth 20000 in
theorem S_55 {d : Nat} {S : ST} {h0 : Nat} {v1 : Int32} {v2 : Int32} {v3 : Int32} {r} (hp0 : PLH h0) (hr : F_55 h0 v1 v2 v3 S = some r) : Cal XC d 55 [.ref h0, .int v1, .int v2, .int v3] S (RV (vU r.1) r.2) := by
  unfold F_55 at hr
  refine cal_go 0 rfl ?_
  refine go_run mm_55 1 (pc' := 1) (ls' := [some (.ref h0), some (.int v1), some (.int v2), some (.int v3)]) (st' := [.ref h0]) (S' := S) rfl ?_
  refine go_getf mm_55 (h := h0) rfl hp0.1 rfl ?_
  show Go XC d 55 0 4 [some (.ref h0), some (.int v1), some (.int v2), some (.int v3)] [.int (S.1 h0 1)] S (RV (vU r.1) r.2)
  refine go_run mm_55 1 (pc' := 6) (ls' := [some (.ref h0), some (.int v1), some (.int v2), some (.int v3)]) (st' := [.int 6, .int (S.1 h0 1)]) (S' := S) rfl ?_
  refine go_if2 mm_55 rfl (p1 := 10) (p2 := 9) rfl (fun (hc1 : (S.1 h0 1) < 6) => ?_) (fun (hc1 : ¬ (S.1 h0 1) < 6) => ?_)
  · rw [if_pos hc1] at hr
    refine go_run mm_55 1 (pc' := 11) (ls' := [some (.ref h0), some (.int v1), some (.int v2), some (.int v3)]) (st' := [.ref h0]) (S' := S) rfl ?_
    refine go_getf mm_55 (h := h0) rfl hp0.1 rfl ?_
    show Go XC d 55 0 14 [some (.ref h0), some (.int v1), some (.int v2), some (.int v3)] [.ref (h0 + 3)] S (RV (vU r.1) r.2)
    refine go_run mm_55 1 (pc' := 15) (ls' := [some (.ref h0), some (.int v1), some (.int v2), some (.int v3)]) (st' := [.ref h0, .ref (h0 + 3)]) (S' := S) rfl ?_
    refine go_getf mm_55 (h := h0) rfl hp0.1 rfl ?_
    show Go XC d 55 0 18 [some (.ref h0), some (.int v1), some (.int v2), some (.int v3)] [.int (S.1 h0 1), .ref (h0 + 3)] S (RV (vU r.1) r.2)
    refine go_run mm_55 1 (pc' := 19) (ls' := [some (.ref h0), some (.int v1), some (.int v2), some (.int v3)]) (st' := [.int v1, .int (S.1 h0 1), .ref (h0 + 3)]) (S' := S) rfl ?_
    obtain ⟨hb2, hr⟩ := ck_some hr
    refine go_iastore mm_55 (q := (Int32.toNatClampNeg (S.1 h0 1))) rfl (hp0.2.2.2.1) rfl (ibd_ok hb2) ?_
    show Go XC d 55 0 20 [some (.ref h0), some (.int v1), some (.int v2), some (.int v3)] [] (wI S (h0 + 3) (Int32.toNatClampNeg (S.1 h0 1)) v1) (RV (vU r.1) r.2)
    obtain ⟨s3, es3, hr⟩ := sbn_some hr
    rw [← es3]
    refine go_run mm_55 1 (pc' := 21) (ls' := [some (.ref h0), some (.int v1), some (.int v2), some (.int v3)]) (st' := [.ref h0]) (S' := s3) rfl ?_
    refine go_getf mm_55 (h := h0) rfl hp0.1 rfl ?_
    show Go XC d 55 0 24 [some (.ref h0), some (.int v1), some (.int v2), some (.int v3)] [.ref (h0 + 4)] s3 (RV (vU r.1) r.2)
    refine go_run mm_55 1 (pc' := 25) (ls' := [some (.ref h0), some (.int v1), some (.int v2), some (.int v3)]) (st' := [.ref h0, .ref (h0 + 4)]) (S' := s3) rfl ?_
    refine go_getf mm_55 (h := h0) rfl hp0.1 rfl ?_
    show Go XC d 55 0 28 [some (.ref h0), some (.int v1), some (.int v2), some (.int v3)] [.int (s3.1 h0 1), .ref (h0 + 4)] s3 (RV (vU r.1) r.2)
    refine go_run mm_55 1 (pc' := 29) (ls' := [some (.ref h0), some (.int v1), some (.int v2), some (.int v3)]) (st' := [.int v2, .int (s3.1 h0 1), .ref (h0 + 4)]) (S' := s3) rfl ?_
    obtain ⟨hb4, hr⟩ := ck_some hr
    refine go_iastore mm_55 (q := (Int32.toNatClampNeg (s3.1 h0 1))) rfl (hp0.2.2.2.2.1) rfl (ibd_ok hb4) ?_
    show Go XC d 55 0 30 [some (.ref h0), some (.int v1), some (.int v2), some (.int v3)] [] (wI s3 (h0 + 4) (Int32.toNatClampNeg (s3.1 h0 1)) v2) (RV (vU r.1) r.2)
    obtain ⟨s5, es5, hr⟩ := sbn_some hr
    rw [← es5]
    refine go_run mm_55 1 (pc' := 31) (ls' := [some (.ref h0), some (.int v1), some (.int v2), some (.int v3)]) (st' := [.ref h0]) (S' := s5) rfl ?_
    refine go_getf mm_55 (h := h0) rfl hp0.1 rfl ?_
    show Go XC d 55 0 34 [some (.ref h0), some (.int v1), some (.int v2), some (.int v3)] [.ref (h0 + 5)] s5 (RV (vU r.1) r.2)
    refine go_run mm_55 1 (pc' := 35) (ls' := [some (.ref h0), some (.int v1), some (.int v2), some (.int v3)]) (st' := [.ref h0, .ref (h0 + 5)]) (S' := s5) rfl ?_
    refine go_getf mm_55 (h := h0) rfl hp0.1 rfl ?_
    show Go XC d 55 0 38 [some (.ref h0), some (.int v1), some (.int v2), some (.int v3)] [.int (s5.1 h0 1), .ref (h0 + 5)] s5 (RV (vU r.1) r.2)
    refine go_run mm_55 1 (pc' := 39) (ls' := [some (.ref h0), some (.int v1), some (.int v2), some (.int v3)]) (st' := [.int v3, .int (s5.1 h0 1), .ref (h0 + 5)]) (S' := s5) rfl ?_
    obtain ⟨hb6, hr⟩ := ck_some hr
    refine go_iastore mm_55 (q := (Int32.toNatClampNeg (s5.1 h0 1))) rfl (hp0.2.2.2.2.2.1) rfl (ibd_ok hb6) ?_
    show Go XC d 55 0 40 [some (.ref h0), some (.int v1), some (.int v2), some (.int v3)] [] (wI s5 (h0 + 5) (Int32.toNatClampNeg (s5.1 h0 1)) v3) (RV (vU r.1) r.2)
    obtain ⟨s7, es7, hr⟩ := sbn_some hr
    rw [← es7]
    refine go_run mm_55 2 (pc' := 42) (ls' := [some (.ref h0), some (.int v1), some (.int v2), some (.int v3)]) (st' := [.ref h0, .ref h0]) (S' := s7) rfl ?_
    refine go_getf mm_55 (h := h0) rfl hp0.1 rfl ?_
    show Go XC d 55 0 45 [some (.ref h0), some (.int v1), some (.int v2), some (.int v3)] [.int (s7.1 h0 1), .ref h0] s7 (RV (vU r.1) r.2)
    refine go_run mm_55 2 (pc' := 47) (ls' := [some (.ref h0), some (.int v1), some (.int v2), some (.int v3)]) (st' := [.int ((s7.1 h0 1) + 1), .ref h0]) (S' := s7) rfl ?_
    refine go_putI mm_55 (h := h0) rfl hp0.1 rfl ?_
    show Go XC d 55 0 50 [some (.ref h0), some (.int v1), some (.int v2), some (.int v3)] [] (wI s7 h0 1 ((s7.1 h0 1) + 1)) (RV (vU r.1) r.2)
    obtain ⟨s8, es8, hr⟩ := sbn_some hr
    rw [← es8]
    cases hr
    exact go_vreturn mm_55 rfl rfl ⟨rfl, rfl, rfl⟩
  · rw [if_neg hc1] at hr
    cases hr
    exact go_vreturn mm_55 rfl rfl ⟨rfl, rfl, rfl⟩

theorem mm_38 : mtG 38 = some (mi_38, 5, ft_38) := rfl
def F_38 (S : ST) : Option (Int32 × ST) := ob (F_13 S) (fun w1 => ob (F_40 true w1.2) (fun w2 => if w2.1 = 0 then (ob (F_16 (TXS.getD 13 []) w2.2) (fun w3 => if w3 = true then (ob (F_13 w2.2) (fun w4 => if (F_41 0 99 w4.2) = 0 then (ob (F_13 w4.2) (fun w5 => ob (F_55 12 (w5.2.1 29 3) (w5.2.1 29 4) (w4.2.1 1 3) w5.2) (fun w6 => some (0, w6.2)))) else (some ((F_41 0 99 w4.2), w4.2)))) else (ob (F_55 12 (w2.2.1 29 3) (w2.2.1 29 4) 99 w2.2) (fun w7 => some (0, w7.2))))) else (some (w2.1, w2.2))))
set_option maxRecDepth 20000 in
theorem S_38 {d : Nat} {S : ST} {r} (hr : F_38 S = some r) : Cal XC (d + 3) 38 [.ref 29] S (RV (vI r.1) r.2) := by
  unfold F_38 at hr
  refine cal_go 2 rfl ?_
  refine go_run mm_38 2 (pc' := 4) (ls' := [some (.ref 29), none, none]) (st' := [.ref 1]) (S' := S) rfl ?_
  obtain ⟨w1, hw1, hr⟩ := ob_some hr
  refine go_cv mm_38 (h := 1) (As := []) (rest := []) (nl := 2) rfl rfl (show cvOK 38 4 47 13 0 2 2 = true by decide +kernel) rfl rfl rfl (S_13 hw1) (KP_V ?_)
  show Go XC (d + 3) 38 0 7 [some (.ref 29), none, none] [] w1.2 (RV (vI r.1) r.2)
  refine go_run mm_38 2 (pc' := 9) (ls' := [some (.ref 29), none, none]) (st' := [.int 1, .ref 29]) (S' := w1.2) rfl ?_
  obtain ⟨w2, hw2, hr⟩ := ob_some hr
  refine go_cv mm_38 (h := 29) (As := [.int (b2i true)]) (rest := []) (nl := 3) rfl rfl (show cvOK 38 9 75 40 1 3 4 = true by decide +kernel) rfl rfl rfl (S_40 hw2) (KP_V ?_)
  show Go XC (d + 3) 38 0 12 [some (.ref 29), none, none] [.int w2.1] w2.2 (RV (vI r.1) r.2)
  refine go_run mm_38 2 (pc' := 14) (ls' := [some (.ref 29), some (.int w2.1), none]) (st' := [.int w2.1]) (S' := w2.2) rfl ?_
  refine go_if0 mm_38 rfl (p1 := 19) (p2 := 17) rfl (fun (hc1 : w2.1 = 0) => ?_) (fun (hc1 : ¬ w2.1 = 0) => ?_)
  · rw [if_pos hc1] at hr
    refine go_run mm_38 4 (pc' := 26) (ls' := [some (.ref 29), some (.int w2.1), some (.int 99)]) (st' := [.ref 1]) (S' := w2.2) rfl ?_
    refine go_ldcS mm_38 (j := 13) rfl rfl ?_
    show Go XC (d + 3) 38 0 28 [some (.ref 29), some (.int w2.1), some (.int 99)] [.ref 313, .ref 1] w2.2 (RV (vI r.1) r.2)
    obtain ⟨w3, hw3, hr⟩ := ob_some hr
    refine go_cv mm_38 (h := 1) (As := [.ref 313]) (rest := []) (nl := 4) rfl rfl (show cvOK 38 28 43 16 1 4 2 = true by decide +kernel) rfl rfl rfl (S_16 (rfl : txt 313 = some (TXS.getD 13 [])) hw3) (KP_V ?_)
    show Go XC (d + 3) 38 0 31 [some (.ref 29), some (.int w2.1), some (.int 99)] [.int (b2i w3)] w2.2 (RV (vI r.1) r.2)
    refine go_ifb mm_38 rfl (p1 := 34) (p2 := 70) rfl (fun (hc2 : w3 = true) => ?_) (fun (hc2 : w3 = false) => ?_)
    · rw [if_pos hc2] at hr
      refine go_run mm_38 2 (pc' := 38) (ls' := [some (.ref 29), some (.int w2.1), some (.int 99)]) (st' := [.ref 1]) (S' := w2.2) rfl ?_
      obtain ⟨w4, hw4, hr⟩ := ob_some hr
      refine go_cv mm_38 (h := 1) (As := []) (rest := []) (nl := 2) rfl rfl (show cvOK 38 38 47 13 0 2 2 = true by decide +kernel) rfl rfl rfl (S_13 hw4) (KP_V ?_)
      show Go XC (d + 3) 38 0 41 [some (.ref 29), some (.int w2.1), some (.int 99)] [] w4.2 (RV (vI r.1) r.2)
      refine go_run mm_38 3 (pc' := 45) (ls' := [some (.ref 29), some (.int w2.1), some (.int 99)]) (st' := [.int 99, .int 0, .ref 29]) (S' := w4.2) rfl ?_
      refine go_cv mm_38 (h := 29) (As := [.int 0, .int 99]) (rest := []) (nl := 3) rfl rfl (show cvOK 38 45 71 41 2 3 4 = true by decide +kernel) rfl rfl rfl (S_41 rfl) (KP_V ?_)
      show Go XC (d + 3) 38 0 48 [some (.ref 29), some (.int w2.1), some (.int 99)] [.int (F_41 0 99 w4.2)] w4.2 (RV (vI r.1) r.2)
      refine go_run mm_38 2 (pc' := 50) (ls' := [some (.ref 29), some (.int (F_41 0 99 w4.2)), some (.int 99)]) (st' := [.int (F_41 0 99 w4.2)]) (S' := w4.2) rfl ?_
      refine go_if0 mm_38 rfl (p1 := 55) (p2 := 53) rfl (fun (hc3 : (F_41 0 99 w4.2) = 0) => ?_) (fun (hc3 : ¬ (F_41 0 99 w4.2) = 0) => ?_)
      · rw [if_pos hc3] at hr
        refine go_run mm_38 6 (pc' := 67) (ls' := [some (.ref 29), some (.int (F_41 0 99 w4.2)), some (.int (w4.2.1 1 3))]) (st' := [.ref 1]) (S' := w4.2) rfl ?_
        obtain ⟨w5, hw5, hr⟩ := ob_some hr
        refine go_cv mm_38 (h := 1) (As := []) (rest := []) (nl := 2) rfl rfl (show cvOK 38 67 47 13 0 2 2 = true by decide +kernel) rfl rfl rfl (S_13 hw5) (KP_V ?_)
        show Go XC (d + 3) 38 0 70 [some (.ref 29), some (.int (F_41 0 99 w4.2)), some (.int (w4.2.1 1 3))] [] w5.2 (RV (vI r.1) r.2)
        refine go_run mm_38 7 (pc' := 83) (ls' := [some (.ref 29), some (.int (F_41 0 99 w4.2)), some (.int (w4.2.1 1 3))]) (st' := [.int (w4.2.1 1 3), .int (w5.2.1 29 4), .int (w5.2.1 29 3), .ref 12]) (S' := w5.2) rfl ?_
        obtain ⟨w6, hw6, hr⟩ := ob_some hr
        refine go_cv mm_38 (h := 12) (As := [.int (w5.2.1 29 3), .int (w5.2.1 29 4), .int (w4.2.1 1 3)]) (rest := []) (nl := 4) rfl rfl (show cvOK 38 83 104 55 3 4 5 = true by decide +kernel) rfl rfl rfl (S_55 (plB_ok rfl) hw6) (KP_V ?_)
        show Go XC (d + 3) 38 0 86 [some (.ref 29), some (.int (F_41 0 99 w4.2)), some (.int (w4.2.1 1 3))] [] w6.2 (RV (vI r.1) r.2)
        refine go_run mm_38 1 (pc' := 87) (ls' := [some (.ref 29), some (.int (F_41 0 99 w4.2)), some (.int (w4.2.1 1 3))]) (st' := [.int 0]) (S' := w6.2) rfl ?_
        cases hr
        exact go_ireturn mm_38 rfl rfl ⟨rfl, rfl, rfl⟩
      · rw [if_neg hc3] at hr
        refine go_run mm_38 1 (pc' := 54) (ls' := [some (.ref 29), some (.int (F_41 0 99 w4.2)), some (.int 99)]) (st' := [.int (F_41 0 99 w4.2)]) (S' := w4.2) rfl ?_
        cases hr
        exact go_ireturn mm_38 rfl rfl ⟨rfl, rfl, rfl⟩
    · rw [if_neg (bf hc2)] at hr
      refine go_run mm_38 7 (pc' := 83) (ls' := [some (.ref 29), some (.int w2.1), some (.int 99)]) (st' := [.int 99, .int (w2.2.1 29 4), .int (w2.2.1 29 3), .ref 12]) (S' := w2.2) rfl ?_
      obtain ⟨w7, hw7, hr⟩ := ob_some hr
      refine go_cv mm_38 (h := 12) (As := [.int (w2.2.1 29 3), .int (w2.2.1 29 4), .int 99]) (rest := []) (nl := 4) rfl rfl (show cvOK 38 83 104 55 3 4 5 = true by decide +kernel) rfl rfl rfl (S_55 (plB_ok rfl) hw7) (KP_V ?_)
      show Go XC (d + 3) 38 0 86 [some (.ref 29), some (.int w2.1), some (.int 99)] [] w7.2 (RV (vI r.1) r.2)
      refine go_run mm_38 1 (pc' := 87) (ls' := [some (.ref 29), some (.int w2.1), some (.int 99)]) (st' := [.int 0]) (S' := w7.2) rfl ?_
      cases hr
      exact go_ireturn mm_38 rfl rfl ⟨rfl, rfl, rfl⟩
  · rw [if_neg hc1] at hr
    refine go_run mm_38 1 (pc' := 18) (ls' := [some (.ref 29), some (.int w2.1), none]) (st' := [.int w2.1]) (S' := w2.2) rfl ?_
    cases hr
    exact go_ireturn mm_38 rfl rfl ⟨rfl, rfl, rfl⟩

theorem mm_63 : mtG 63 = some (mi_63, 6, ft_63) := rfl
def F_63 (h0 : Nat) (v1 : Int32) (v2 : Int32) (v3 : Int32) (S : ST) : Option (Unit × ST) := if (S.1 h0 2) < 6 then (ck (ibd (S.1 h0 2) 6) (sbn ((wI S (h0 + 6) (Int32.toNatClampNeg (S.1 h0 2)) v1)) (fun s3 => ck (ibd (s3.1 h0 2) 6) (sbn ((wI s3 (h0 + 7) (Int32.toNatClampNeg (s3.1 h0 2)) v2)) (fun s5 => ck (ibd (s5.1 h0 2) 6) (sbn ((wI s5 (h0 + 8) (Int32.toNatClampNeg (s5.1 h0 2)) v3)) (fun s7 => sbn ((wI s7 h0 2 ((s7.1 h0 2) + 1))) (fun s8 => some ((), s8))))))))) else (some ((), S))
set_option maxRecDepth 20000 in
theorem S_63 {d : Nat} {S : ST} {h0 : Nat} {v1 : Int32} {v2 : Int32} {v3 : Int32} {r} (hp0 : PLH h0) (hr : F_63 h0 v1 v2 v3 S = some r) : Cal XC d 63 [.ref h0, .int v1, .int v2, .int v3] S (RV (vU r.1) r.2) := by
  unfold F_63 at hr
  refine cal_go 0 rfl ?_
  refine go_run mm_63 1 (pc' := 1) (ls' := [some (.ref h0), some (.int v1), some (.int v2), some (.int v3)]) (st' := [.ref h0]) (S' := S) rfl ?_
  refine go_getf mm_63 (h := h0) rfl hp0.1 rfl ?_
  show Go XC d 63 0 4 [some (.ref h0), some (.int v1), some (.int v2), some (.int v3)] [.int (S.1 h0 2)] S (RV (vU r.1) r.2)
  refine go_run mm_63 1 (pc' := 6) (ls' := [some (.ref h0), some (.int v1), some (.int v2), some (.int v3)]) (st' := [.int 6, .int (S.1 h0 2)]) (S' := S) rfl ?_
  refine go_if2 mm_63 rfl (p1 := 10) (p2 := 9) rfl (fun (hc1 : (S.1 h0 2) < 6) => ?_) (fun (hc1 : ¬ (S.1 h0 2) < 6) => ?_)
  · rw [if_pos hc1] at hr
    refine go_run mm_63 1 (pc' := 11) (ls' := [some (.ref h0), some (.int v1), some (.int v2), some (.int v3)]) (st' := [.ref h0]) (S' := S) rfl ?_
    refine go_getf mm_63 (h := h0) rfl hp0.1 rfl ?_
    show Go XC d 63 0 14 [some (.ref h0), some (.int v1), some (.int v2), some (.int v3)] [.ref (h0 + 6)] S (RV (vU r.1) r.2)
    refine go_run mm_63 1 (pc' := 15) (ls' := [some (.ref h0), some (.int v1), some (.int v2), some (.int v3)]) (st' := [.ref h0, .ref (h0 + 6)]) (S' := S) rfl ?_
    refine go_getf mm_63 (h := h0) rfl hp0.1 rfl ?_
    show Go XC d 63 0 18 [some (.ref h0), some (.int v1), some (.int v2), some (.int v3)] [.int (S.1 h0 2), .ref (h0 + 6)] S (RV (vU r.1) r.2)
    refine go_run mm_63 1 (pc' := 19) (ls' := [some (.ref h0), some (.int v1), some (.int v2), some (.int v3)]) (st' := [.int v1, .int (S.1 h0 2), .ref (h0 + 6)]) (S' := S) rfl ?_
    obtain ⟨hb2, hr⟩ := ck_some hr
    refine go_iastore mm_63 (q := (Int32.toNatClampNeg (S.1 h0 2))) rfl (hp0.2.2.2.2.2.2.1) rfl (ibd_ok hb2) ?_
    show Go XC d 63 0 20 [some (.ref h0), some (.int v1), some (.int v2), some (.int v3)] [] (wI S (h0 + 6) (Int32.toNatClampNeg (S.1 h0 2)) v1) (RV (vU r.1) r.2)
    obtain ⟨s3, es3, hr⟩ := sbn_some hr
    rw [← es3]
    refine go_run mm_63 1 (pc' := 21) (ls' := [some (.ref h0), some (.int v1), some (.int v2), some (.int v3)]) (st' := [.ref h0]) (S' := s3) rfl ?_
    refine go_getf mm_63 (h := h0) rfl hp0.1 rfl ?_
    show Go XC d 63 0 24 [some (.ref h0), some (.int v1), some (.int v2), some (.int v3)] [.ref (h0 + 7)] s3 (RV (vU r.1) r.2)
    refine go_run mm_63 1 (pc' := 25) (ls' := [some (.ref h0), some (.int v1), some (.int v2), some (.int v3)]) (st' := [.ref h0, .ref (h0 + 7)]) (S' := s3) rfl ?_
    refine go_getf mm_63 (h := h0) rfl hp0.1 rfl ?_
    show Go XC d 63 0 28 [some (.ref h0), some (.int v1), some (.int v2), some (.int v3)] [.int (s3.1 h0 2), .ref (h0 + 7)] s3 (RV (vU r.1) r.2)
    refine go_run mm_63 1 (pc' := 29) (ls' := [some (.ref h0), some (.int v1), some (.int v2), some (.int v3)]) (st' := [.int v2, .int (s3.1 h0 2), .ref (h0 + 7)]) (S' := s3) rfl ?_
    obtain ⟨hb4, hr⟩ := ck_some hr
    refine go_iastore mm_63 (q := (Int32.toNatClampNeg (s3.1 h0 2))) rfl (hp0.2.2.2.2.2.2.2.1) rfl (ibd_ok hb4) ?_
    show Go XC d 63 0 30 [some (.ref h0), some (.int v1), some (.int v2), some (.int v3)] [] (wI s3 (h0 + 7) (Int32.toNatClampNeg (s3.1 h0 2)) v2) (RV (vU r.1) r.2)
    obtain ⟨s5, es5, hr⟩ := sbn_some hr
    rw [← es5]
    refine go_run mm_63 1 (pc' := 31) (ls' := [some (.ref h0), some (.int v1), some (.int v2), some (.int v3)]) (st' := [.ref h0]) (S' := s5) rfl ?_
    refine go_getf mm_63 (h := h0) rfl hp0.1 rfl ?_
    show Go XC d 63 0 34 [some (.ref h0), some (.int v1), some (.int v2), some (.int v3)] [.ref (h0 + 8)] s5 (RV (vU r.1) r.2)
    refine go_run mm_63 1 (pc' := 35) (ls' := [some (.ref h0), some (.int v1), some (.int v2), some (.int v3)]) (st' := [.ref h0, .ref (h0 + 8)]) (S' := s5) rfl ?_
    refine go_getf mm_63 (h := h0) rfl hp0.1 rfl ?_
    show Go XC d 63 0 38 [some (.ref h0), some (.int v1), some (.int v2), some (.int v3)] [.int (s5.1 h0 2), .ref (h0 + 8)] s5 (RV (vU r.1) r.2)
    refine go_run mm_63 1 (pc' := 39) (ls' := [some (.ref h0), some (.int v1), some (.int v2), some (.int v3)]) (st' := [.int v3, .int (s5.1 h0 2), .ref (h0 + 8)]) (S' := s5) rfl ?_
    obtain ⟨hb6, hr⟩ := ck_some hr
    refine go_iastore mm_63 (q := (Int32.toNatClampNeg (s5.1 h0 2))) rfl (hp0.2.2.2.2.2.2.2.2) rfl (ibd_ok hb6) ?_
    show Go XC d 63 0 40 [some (.ref h0), some (.int v1), some (.int v2), some (.int v3)] [] (wI s5 (h0 + 8) (Int32.toNatClampNeg (s5.1 h0 2)) v3) (RV (vU r.1) r.2)
    obtain ⟨s7, es7, hr⟩ := sbn_some hr
    rw [← es7]
    refine go_run mm_63 2 (pc' := 42) (ls' := [some (.ref h0), some (.int v1), some (.int v2), some (.int v3)]) (st' := [.ref h0, .ref h0]) (S' := s7) rfl ?_
    refine go_getf mm_63 (h := h0) rfl hp0.1 rfl ?_
    show Go XC d 63 0 45 [some (.ref h0), some (.int v1), some (.int v2), some (.int v3)] [.int (s7.1 h0 2), .ref h0] s7 (RV (vU r.1) r.2)
    refine go_run mm_63 2 (pc' := 47) (ls' := [some (.ref h0), some (.int v1), some (.int v2), some (.int v3)]) (st' := [.int ((s7.1 h0 2) + 1), .ref h0]) (S' := s7) rfl ?_
    refine go_putI mm_63 (h := h0) rfl hp0.1 rfl ?_
    show Go XC d 63 0 50 [some (.ref h0), some (.int v1), some (.int v2), some (.int v3)] [] (wI s7 h0 2 ((s7.1 h0 2) + 1)) (RV (vU r.1) r.2)
    obtain ⟨s8, es8, hr⟩ := sbn_some hr
    rw [← es8]
    cases hr
    exact go_vreturn mm_63 rfl rfl ⟨rfl, rfl, rfl⟩
  · rw [if_neg hc1] at hr
    cases hr
    exact go_vreturn mm_63 rfl rfl ⟨rfl, rfl, rfl⟩

theorem mm_39 : mtG 39 = some (mi_39, 5, ft_39) := rfl
def F_39 (S : ST) : Option (Int32 × ST) := ob (F_13 S) (fun w1 => ob (F_40 true w1.2) (fun w2 => if w2.1 = 0 then (if (F_41 1 999 w2.2) = 0 then (ob (F_63 12 (w2.2.1 29 3) (w2.2.1 29 4) (w2.2.1 1 3) w2.2) (fun w3 => ob (F_13 w3.2) (fun w4 => some (0, w4.2)))) else (some ((F_41 1 999 w2.2), w2.2))) else (if w2.1 = 0 then (ob (F_63 12 (w2.2.1 29 3) (w2.2.1 29 4) (w2.2.1 1 3) w2.2) (fun w5 => ob (F_13 w5.2) (fun w6 => some (0, w6.2)))) else (some (w2.1, w2.2)))))
set_option maxRecDepth 20000 in
theorem S_39 {d : Nat} {S : ST} {r} (hr : F_39 S = some r) : Cal XC (d + 3) 39 [.ref 29] S (RV (vI r.1) r.2) := by
  unfold F_39 at hr
  refine cal_go 1 rfl ?_
  refine go_run mm_39 2 (pc' := 4) (ls' := [some (.ref 29), none]) (st' := [.ref 1]) (S' := S) rfl ?_
  obtain ⟨w1, hw1, hr⟩ := ob_some hr
  refine go_cv mm_39 (h := 1) (As := []) (rest := []) (nl := 2) rfl rfl (show cvOK 39 4 47 13 0 2 2 = true by decide +kernel) rfl rfl rfl (S_13 hw1) (KP_V ?_)
  show Go XC (d + 3) 39 0 7 [some (.ref 29), none] [] w1.2 (RV (vI r.1) r.2)
  refine go_run mm_39 2 (pc' := 9) (ls' := [some (.ref 29), none]) (st' := [.int 1, .ref 29]) (S' := w1.2) rfl ?_
  obtain ⟨w2, hw2, hr⟩ := ob_some hr
  refine go_cv mm_39 (h := 29) (As := [.int (b2i true)]) (rest := []) (nl := 3) rfl rfl (show cvOK 39 9 75 40 1 3 4 = true by decide +kernel) rfl rfl rfl (S_40 hw2) (KP_V ?_)
  show Go XC (d + 3) 39 0 12 [some (.ref 29), none] [.int w2.1] w2.2 (RV (vI r.1) r.2)
  refine go_run mm_39 2 (pc' := 14) (ls' := [some (.ref 29), some (.int w2.1)]) (st' := [.int w2.1]) (S' := w2.2) rfl ?_
  refine go_if0 mm_39 rfl (p1 := 17) (p2 := 26) rfl (fun (hc1 : w2.1 = 0) => ?_) (fun (hc1 : ¬ w2.1 = 0) => ?_)
  · rw [if_pos hc1] at hr
    refine go_run mm_39 3 (pc' := 22) (ls' := [some (.ref 29), some (.int w2.1)]) (st' := [.int 999, .int 1, .ref 29]) (S' := w2.2) rfl ?_
    refine go_cv mm_39 (h := 29) (As := [.int 1, .int 999]) (rest := []) (nl := 3) rfl rfl (show cvOK 39 22 71 41 2 3 4 = true by decide +kernel) rfl rfl rfl (S_41 rfl) (KP_V ?_)
    show Go XC (d + 3) 39 0 25 [some (.ref 29), some (.int w2.1)] [.int (F_41 1 999 w2.2)] w2.2 (RV (vI r.1) r.2)
    refine go_run mm_39 2 (pc' := 27) (ls' := [some (.ref 29), some (.int (F_41 1 999 w2.2))]) (st' := [.int (F_41 1 999 w2.2)]) (S' := w2.2) rfl ?_
    refine go_if0 mm_39 rfl (p1 := 32) (p2 := 30) rfl (fun (hc2 : (F_41 1 999 w2.2) = 0) => ?_) (fun (hc2 : ¬ (F_41 1 999 w2.2) = 0) => ?_)
    · rw [if_pos hc2] at hr
      refine go_run mm_39 9 (pc' := 51) (ls' := [some (.ref 29), some (.int (F_41 1 999 w2.2))]) (st' := [.int (w2.2.1 1 3), .int (w2.2.1 29 4), .int (w2.2.1 29 3), .ref 12]) (S' := w2.2) rfl ?_
      obtain ⟨w3, hw3, hr⟩ := ob_some hr
      refine go_cv mm_39 (h := 12) (As := [.int (w2.2.1 29 3), .int (w2.2.1 29 4), .int (w2.2.1 1 3)]) (rest := []) (nl := 4) rfl rfl (show cvOK 39 51 107 63 3 4 5 = true by decide +kernel) rfl rfl rfl (S_63 (plB_ok rfl) hw3) (KP_V ?_)
      show Go XC (d + 3) 39 0 54 [some (.ref 29), some (.int (F_41 1 999 w2.2))] [] w3.2 (RV (vI r.1) r.2)
      refine go_run mm_39 2 (pc' := 58) (ls' := [some (.ref 29), some (.int (F_41 1 999 w2.2))]) (st' := [.ref 1]) (S' := w3.2) rfl ?_
      obtain ⟨w4, hw4, hr⟩ := ob_some hr
      refine go_cv mm_39 (h := 1) (As := []) (rest := []) (nl := 2) rfl rfl (show cvOK 39 58 47 13 0 2 2 = true by decide +kernel) rfl rfl rfl (S_13 hw4) (KP_V ?_)
      show Go XC (d + 3) 39 0 61 [some (.ref 29), some (.int (F_41 1 999 w2.2))] [] w4.2 (RV (vI r.1) r.2)
      refine go_run mm_39 1 (pc' := 62) (ls' := [some (.ref 29), some (.int (F_41 1 999 w2.2))]) (st' := [.int 0]) (S' := w4.2) rfl ?_
      cases hr
      exact go_ireturn mm_39 rfl rfl ⟨rfl, rfl, rfl⟩
    · rw [if_neg hc2] at hr
      refine go_run mm_39 1 (pc' := 31) (ls' := [some (.ref 29), some (.int (F_41 1 999 w2.2))]) (st' := [.int (F_41 1 999 w2.2)]) (S' := w2.2) rfl ?_
      cases hr
      exact go_ireturn mm_39 rfl rfl ⟨rfl, rfl, rfl⟩
  · rw [if_neg hc1] at hr
    refine go_run mm_39 1 (pc' := 27) (ls' := [some (.ref 29), some (.int w2.1)]) (st' := [.int w2.1]) (S' := w2.2) rfl ?_
    refine go_if0 mm_39 rfl (p1 := 32) (p2 := 30) rfl (fun (hc3 : w2.1 = 0) => ?_) (fun (hc3 : ¬ w2.1 = 0) => ?_)
    · rw [if_pos hc3] at hr
      refine go_run mm_39 9 (pc' := 51) (ls' := [some (.ref 29), some (.int w2.1)]) (st' := [.int (w2.2.1 1 3), .int (w2.2.1 29 4), .int (w2.2.1 29 3), .ref 12]) (S' := w2.2) rfl ?_
      obtain ⟨w5, hw5, hr⟩ := ob_some hr
      refine go_cv mm_39 (h := 12) (As := [.int (w2.2.1 29 3), .int (w2.2.1 29 4), .int (w2.2.1 1 3)]) (rest := []) (nl := 4) rfl rfl (show cvOK 39 51 107 63 3 4 5 = true by decide +kernel) rfl rfl rfl (S_63 (plB_ok rfl) hw5) (KP_V ?_)
      show Go XC (d + 3) 39 0 54 [some (.ref 29), some (.int w2.1)] [] w5.2 (RV (vI r.1) r.2)
      refine go_run mm_39 2 (pc' := 58) (ls' := [some (.ref 29), some (.int w2.1)]) (st' := [.ref 1]) (S' := w5.2) rfl ?_
      obtain ⟨w6, hw6, hr⟩ := ob_some hr
      refine go_cv mm_39 (h := 1) (As := []) (rest := []) (nl := 2) rfl rfl (show cvOK 39 58 47 13 0 2 2 = true by decide +kernel) rfl rfl rfl (S_13 hw6) (KP_V ?_)
      show Go XC (d + 3) 39 0 61 [some (.ref 29), some (.int w2.1)] [] w6.2 (RV (vI r.1) r.2)
      refine go_run mm_39 1 (pc' := 62) (ls' := [some (.ref 29), some (.int w2.1)]) (st' := [.int 0]) (S' := w6.2) rfl ?_
      cases hr
      exact go_ireturn mm_39 rfl rfl ⟨rfl, rfl, rfl⟩
    · rw [if_neg hc3] at hr
      refine go_run mm_39 1 (pc' := 31) (ls' := [some (.ref 29), some (.int w2.1)]) (st' := [.int w2.1]) (S' := w2.2) rfl ?_
      cases hr
      exact go_ireturn mm_39 rfl rfl ⟨rfl, rfl, rfl⟩

theorem mm_37 : mtG 37 = some (mi_37, 5, ft_37) := rfl
def L_37_2 (a2 : Int32 × ST) : Option ((Int32 × ST) ⊕ ((Int32 × ST) ⊕ (Int32 × ST))) := if (13 : Int32) < a2.1 then (some (.inr (.inl (a2.1, a2.2)))) else (if (a2.2.1 1 1) = 0 then (some (.inr (.inr (0, a2.2)))) else (if (a2.2.1 1 1) = 3 then (ob (F_13 a2.2) (fun w1 => ob (F_16 (TXS.getD 11 []) w1.2) (fun w2 => if w2 = true then (if (w1.2.1 12 1) < 6 then (ob (F_38 w1.2) (fun w3 => if w3.1 = 0 then (some (.inl (a2.1 + 1, w3.2))) else (some (.inr (.inr (w3.1, w3.2)))))) else (if (5 : Int32) = 0 then (some (.inl (a2.1 + 1, w1.2))) else (some (.inr (.inr (5, w1.2)))))) else (ob (F_16 (TXS.getD 12 []) w1.2) (fun w4 => if w4 = true then (if (w1.2.1 12 2) < 6 then (ob (F_39 w1.2) (fun w5 => if w5.1 = 0 then (some (.inl (a2.1 + 1, w5.2))) else (some (.inr (.inr (w5.1, w5.2)))))) else (if (5 : Int32) = 0 then (some (.inl (a2.1 + 1, w1.2))) else (some (.inr (.inr (5, w1.2)))))) else (if (1 : Int32) = 0 then (some (.inl (a2.1 + 1, w1.2))) else (some (.inr (.inr (1, w1.2)))))))))) else (some (.inr (.inr (1, a2.2))))))
set_option maxRecDepth 20000 in
theorem LS_37_2 {d : Nat} {R : RT} {a2 : Int32 × ST} {r9} (hr : L_37_2 a2 = some r9) (hL : ∀ a9, r9 = .inl a9 → (fun a2 => Go XC (d + 4) 37 0 2 [some (.ref 29), some (.int a2.1), none] [] a2.2 R) a9) (hR : ∀ b9, r9 = .inr b9 → Sum.elim (fun e2 => Go XC (d + 4) 37 0 123 [some (.ref 29), some (.int e2.1), none] [] e2.2 R) (fun o => R 0 (.inr (vI o.1)) o.2) b9) : Go XC (d + 4) 37 0 2 [some (.ref 29), some (.int a2.1), none] [] a2.2 R := by
  unfold L_37_2 at hr
  refine go_run mm_37 2 (pc' := 5) (ls' := [some (.ref 29), some (.int a2.1), none]) (st' := [.int 13, .int a2.1]) (S' := a2.2) rfl ?_
  refine go_if2 mm_37 rfl (p1 := 123) (p2 := 8) rfl (fun (hc1 : (13 : Int32) < a2.1) => ?_) (fun (hc1 : ¬ (13 : Int32) < a2.1) => ?_)
  · rw [if_pos hc1] at hr
    cases hr
    have h9 := hR (.inl (a2.1, a2.2)) rfl
    dsimp only [Sum.elim_inl] at h9
    exact Go.le h9 (by repeat first | exact True.intro | refine And.intro rfl ?_)
  · rw [if_neg hc1] at hr
    refine go_run mm_37 3 (pc' := 15) (ls' := [some (.ref 29), some (.int a2.1), none]) (st' := [.int (a2.2.1 1 1)]) (S' := a2.2) rfl ?_
    refine go_if0 mm_37 rfl (p1 := 18) (p2 := 20) rfl (fun (hc2 : (a2.2.1 1 1) = 0) => ?_) (fun (hc2 : ¬ (a2.2.1 1 1) = 0) => ?_)
    · rw [if_pos hc2] at hr
      refine go_run mm_37 1 (pc' := 19) (ls' := [some (.ref 29), some (.int a2.1), none]) (st' := [.int 0]) (S' := a2.2) rfl ?_
      cases hr
      have h9 : R 0 (.inr (vI 0)) a2.2 := hR _ rfl
      exact go_ireturn mm_37 rfl rfl h9
    · rw [if_neg hc2] at hr
      refine go_run mm_37 4 (pc' := 28) (ls' := [some (.ref 29), some (.int a2.1), none]) (st' := [.int 3, .int (a2.2.1 1 1)]) (S' := a2.2) rfl ?_
      refine go_if2 mm_37 rfl (p1 := 33) (p2 := 31) rfl (fun (hc3 : (a2.2.1 1 1) = 3) => ?_) (fun (hc3 : ¬ (a2.2.1 1 1) = 3) => ?_)
      · rw [if_pos hc3] at hr
        refine go_run mm_37 2 (pc' := 37) (ls' := [some (.ref 29), some (.int a2.1), none]) (st' := [.ref 1]) (S' := a2.2) rfl ?_
        obtain ⟨w1, hw1, hr⟩ := ob_some hr
        refine go_cv mm_37 (h := 1) (As := []) (rest := []) (nl := 2) rfl rfl (show cvOK 37 37 47 13 0 2 2 = true by decide +kernel) rfl rfl rfl (S_13 hw1) (KP_V ?_)
        show Go XC (d + 4) 37 0 40 [some (.ref 29), some (.int a2.1), none] [] w1.2 R
        refine go_run mm_37 4 (pc' := 46) (ls' := [some (.ref 29), some (.int a2.1), some (.int 1)]) (st' := [.ref 1]) (S' := w1.2) rfl ?_
        refine go_ldcS mm_37 (j := 11) rfl rfl ?_
        show Go XC (d + 4) 37 0 48 [some (.ref 29), some (.int a2.1), some (.int 1)] [.ref 311, .ref 1] w1.2 R
        obtain ⟨w2, hw2, hr⟩ := ob_some hr
        refine go_cv mm_37 (h := 1) (As := [.ref 311]) (rest := []) (nl := 4) rfl rfl (show cvOK 37 48 43 16 1 4 2 = true by decide +kernel) rfl rfl rfl (S_16 (rfl : txt 311 = some (TXS.getD 11 [])) hw2) (KP_V ?_)
        show Go XC (d + 4) 37 0 51 [some (.ref 29), some (.int a2.1), some (.int 1)] [.int (b2i w2)] w1.2 R
        refine go_ifb mm_37 rfl (p1 := 54) (p2 := 78) rfl (fun (hc4 : w2 = true) => ?_) (fun (hc4 : w2 = false) => ?_)
        · rw [if_pos hc4] at hr
          refine go_run mm_37 4 (pc' := 63) (ls' := [some (.ref 29), some (.int a2.1), some (.int 1)]) (st' := [.int 6, .int (w1.2.1 12 1)]) (S' := w1.2) rfl ?_
          refine go_if2 mm_37 rfl (p1 := 66) (p2 := 73) rfl (fun (hc5 : (w1.2.1 12 1) < 6) => ?_) (fun (hc5 : ¬ (w1.2.1 12 1) < 6) => ?_)
          · rw [if_pos hc5] at hr
            refine go_run mm_37 1 (pc' := 67) (ls' := [some (.ref 29), some (.int a2.1), some (.int 1)]) (st' := [.ref 29]) (S' := w1.2) rfl ?_
            obtain ⟨w3, hw3, hr⟩ := ob_some hr
            refine go_cv mm_37 (h := 29) (As := []) (rest := []) (nl := 3) rfl rfl (show cvOK 37 67 88 38 0 3 4 = true by decide +kernel) rfl rfl rfl (S_38 hw3) (KP_V ?_)
            show Go XC (d + 4) 37 0 70 [some (.ref 29), some (.int a2.1), some (.int 1)] [.int w3.1] w3.2 R
            refine go_run mm_37 4 (pc' := 112) (ls' := [some (.ref 29), some (.int a2.1), some (.int w3.1)]) (st' := [.int w3.1]) (S' := w3.2) rfl ?_
            refine go_if0 mm_37 rfl (p1 := 117) (p2 := 115) rfl (fun (hc6 : w3.1 = 0) => ?_) (fun (hc6 : ¬ w3.1 = 0) => ?_)
            · rw [if_pos hc6] at hr
              refine go_run mm_37 2 (pc' := 2) (ls' := [some (.ref 29), some (.int (a2.1 + 1)), some (.int w3.1)]) (st' := []) (S' := w3.2) rfl ?_
              cases hr
              have h9 := hL (a2.1 + 1, w3.2) rfl
              dsimp only at h9
              exact Go.le h9 (by repeat first | exact True.intro | refine And.intro rfl ?_)
            · rw [if_neg hc6] at hr
              refine go_run mm_37 1 (pc' := 116) (ls' := [some (.ref 29), some (.int a2.1), some (.int w3.1)]) (st' := [.int w3.1]) (S' := w3.2) rfl ?_
              cases hr
              have h9 : R 0 (.inr (vI w3.1)) w3.2 := hR _ rfl
              exact go_ireturn mm_37 rfl rfl h9
          · rw [if_neg hc5] at hr
            refine go_run mm_37 4 (pc' := 112) (ls' := [some (.ref 29), some (.int a2.1), some (.int 5)]) (st' := [.int 5]) (S' := w1.2) rfl ?_
            refine go_if0 mm_37 rfl (p1 := 117) (p2 := 115) rfl (fun (hc7 : (5 : Int32) = 0) => ?_) (fun (hc7 : ¬ (5 : Int32) = 0) => ?_)
            · rw [if_pos hc7] at hr
              refine go_run mm_37 2 (pc' := 2) (ls' := [some (.ref 29), some (.int (a2.1 + 1)), some (.int 5)]) (st' := []) (S' := w1.2) rfl ?_
              cases hr
              have h9 := hL (a2.1 + 1, w1.2) rfl
              dsimp only at h9
              exact Go.le h9 (by repeat first | exact True.intro | refine And.intro rfl ?_)
            · rw [if_neg hc7] at hr
              refine go_run mm_37 1 (pc' := 116) (ls' := [some (.ref 29), some (.int a2.1), some (.int 5)]) (st' := [.int 5]) (S' := w1.2) rfl ?_
              cases hr
              have h9 : R 0 (.inr (vI 5)) w1.2 := hR _ rfl
              exact go_ireturn mm_37 rfl rfl h9
        · rw [if_neg (bf hc4)] at hr
          refine go_run mm_37 2 (pc' := 82) (ls' := [some (.ref 29), some (.int a2.1), some (.int 1)]) (st' := [.ref 1]) (S' := w1.2) rfl ?_
          refine go_ldcS mm_37 (j := 12) rfl rfl ?_
          show Go XC (d + 4) 37 0 84 [some (.ref 29), some (.int a2.1), some (.int 1)] [.ref 312, .ref 1] w1.2 R
          obtain ⟨w4, hw4, hr⟩ := ob_some hr
          refine go_cv mm_37 (h := 1) (As := [.ref 312]) (rest := []) (nl := 4) rfl rfl (show cvOK 37 84 43 16 1 4 2 = true by decide +kernel) rfl rfl rfl (S_16 (rfl : txt 312 = some (TXS.getD 12 [])) hw4) (KP_V ?_)
          show Go XC (d + 4) 37 0 87 [some (.ref 29), some (.int a2.1), some (.int 1)] [.int (b2i w4)] w1.2 R
          refine go_ifb mm_37 rfl (p1 := 90) (p2 := 111) rfl (fun (hc8 : w4 = true) => ?_) (fun (hc8 : w4 = false) => ?_)
          · rw [if_pos hc8] at hr
            refine go_run mm_37 4 (pc' := 99) (ls' := [some (.ref 29), some (.int a2.1), some (.int 1)]) (st' := [.int 6, .int (w1.2.1 12 2)]) (S' := w1.2) rfl ?_
            refine go_if2 mm_37 rfl (p1 := 102) (p2 := 109) rfl (fun (hc9 : (w1.2.1 12 2) < 6) => ?_) (fun (hc9 : ¬ (w1.2.1 12 2) < 6) => ?_)
            · rw [if_pos hc9] at hr
              refine go_run mm_37 1 (pc' := 103) (ls' := [some (.ref 29), some (.int a2.1), some (.int 1)]) (st' := [.ref 29]) (S' := w1.2) rfl ?_
              obtain ⟨w5, hw5, hr⟩ := ob_some hr
              refine go_cv mm_37 (h := 29) (As := []) (rest := []) (nl := 2) rfl rfl (show cvOK 37 103 96 39 0 2 4 = true by decide +kernel) rfl rfl rfl (S_39 hw5) (KP_V ?_)
              show Go XC (d + 4) 37 0 106 [some (.ref 29), some (.int a2.1), some (.int 1)] [.int w5.1] w5.2 R
              refine go_run mm_37 3 (pc' := 112) (ls' := [some (.ref 29), some (.int a2.1), some (.int w5.1)]) (st' := [.int w5.1]) (S' := w5.2) rfl ?_
              refine go_if0 mm_37 rfl (p1 := 117) (p2 := 115) rfl (fun (hc10 : w5.1 = 0) => ?_) (fun (hc10 : ¬ w5.1 = 0) => ?_)
              · rw [if_pos hc10] at hr
                refine go_run mm_37 2 (pc' := 2) (ls' := [some (.ref 29), some (.int (a2.1 + 1)), some (.int w5.1)]) (st' := []) (S' := w5.2) rfl ?_
                cases hr
                have h9 := hL (a2.1 + 1, w5.2) rfl
                dsimp only at h9
                exact Go.le h9 (by repeat first | exact True.intro | refine And.intro rfl ?_)
              · rw [if_neg hc10] at hr
                refine go_run mm_37 1 (pc' := 116) (ls' := [some (.ref 29), some (.int a2.1), some (.int w5.1)]) (st' := [.int w5.1]) (S' := w5.2) rfl ?_
                cases hr
                have h9 : R 0 (.inr (vI w5.1)) w5.2 := hR _ rfl
                exact go_ireturn mm_37 rfl rfl h9
            · rw [if_neg hc9] at hr
              refine go_run mm_37 3 (pc' := 112) (ls' := [some (.ref 29), some (.int a2.1), some (.int 5)]) (st' := [.int 5]) (S' := w1.2) rfl ?_
              refine go_if0 mm_37 rfl (p1 := 117) (p2 := 115) rfl (fun (hc11 : (5 : Int32) = 0) => ?_) (fun (hc11 : ¬ (5 : Int32) = 0) => ?_)
              · rw [if_pos hc11] at hr
                refine go_run mm_37 2 (pc' := 2) (ls' := [some (.ref 29), some (.int (a2.1 + 1)), some (.int 5)]) (st' := []) (S' := w1.2) rfl ?_
                cases hr
                have h9 := hL (a2.1 + 1, w1.2) rfl
                dsimp only at h9
                exact Go.le h9 (by repeat first | exact True.intro | refine And.intro rfl ?_)
              · rw [if_neg hc11] at hr
                refine go_run mm_37 1 (pc' := 116) (ls' := [some (.ref 29), some (.int a2.1), some (.int 5)]) (st' := [.int 5]) (S' := w1.2) rfl ?_
                cases hr
                have h9 : R 0 (.inr (vI 5)) w1.2 := hR _ rfl
                exact go_ireturn mm_37 rfl rfl h9
          · rw [if_neg (bf hc8)] at hr
            refine go_run mm_37 1 (pc' := 112) (ls' := [some (.ref 29), some (.int a2.1), some (.int 1)]) (st' := [.int 1]) (S' := w1.2) rfl ?_
            refine go_if0 mm_37 rfl (p1 := 117) (p2 := 115) rfl (fun (hc12 : (1 : Int32) = 0) => ?_) (fun (hc12 : ¬ (1 : Int32) = 0) => ?_)
            · rw [if_pos hc12] at hr
              refine go_run mm_37 2 (pc' := 2) (ls' := [some (.ref 29), some (.int (a2.1 + 1)), some (.int 1)]) (st' := []) (S' := w1.2) rfl ?_
              cases hr
              have h9 := hL (a2.1 + 1, w1.2) rfl
              dsimp only at h9
              exact Go.le h9 (by repeat first | exact True.intro | refine And.intro rfl ?_)
            · rw [if_neg hc12] at hr
              refine go_run mm_37 1 (pc' := 116) (ls' := [some (.ref 29), some (.int a2.1), some (.int 1)]) (st' := [.int 1]) (S' := w1.2) rfl ?_
              cases hr
              have h9 : R 0 (.inr (vI 1)) w1.2 := hR _ rfl
              exact go_ireturn mm_37 rfl rfl h9
      · rw [if_neg hc3] at hr
        refine go_run mm_37 1 (pc' := 32) (ls' := [some (.ref 29), some (.int a2.1), none]) (st' := [.int 1]) (S' := a2.2) rfl ?_
        cases hr
        have h9 : R 0 (.inr (vI 1)) a2.2 := hR _ rfl
        exact go_ireturn mm_37 rfl rfl h9
def F_37 (S : ST) : Option (Int32 × ST) := ob (wh FU (L_37_2) (0, S)) (fun z => Sum.elim (fun e2 => some (5, e2.2)) (fun o => some o) z)
set_option maxRecDepth 20000 in
theorem S_37 {d : Nat} {S : ST} {r} (hr : F_37 S = some r) : Cal XC (d + 4) 37 [.ref 29] S (RV (vI r.1) r.2) := by
  unfold F_37 at hr
  refine cal_go 2 rfl ?_
  refine go_run mm_37 2 (pc' := 2) (ls' := [some (.ref 29), some (.int 0), none]) (st' := []) (S' := S) rfl ?_
  obtain ⟨z2, he2, hr⟩ := ob_some hr
  refine Go.le (ls' := [some (.ref 29), some (.int 0), none]) ?_ (by repeat first | exact True.intro | refine And.intro rfl ?_)
  refine wh_go (P := fun a2 => Go XC (d + 4) 37 0 2 [some (.ref 29), some (.int a2.1), none] [] a2.2 (RV (vI r.1) r.2)) (K := fun z => Sum.elim (fun e2 => Go XC (d + 4) 37 0 123 [some (.ref 29), some (.int e2.1), none] [] e2.2 (RV (vI r.1) r.2)) (fun o => (RV (vI r.1) r.2) 0 (.inr (vI o.1)) o.2) z) (fun a9 r9 h9 hL hR => LS_37_2 h9 hL hR) _ _ _ he2 ?_
  rcases z2 with e2 | o
  rotate_left
  · simp only [Sum.elim_inr] at hr
    cases hr
    exact ⟨rfl, rfl, rfl⟩
  simp only [Sum.elim_inl] at hr
  show Go XC (d + 4) 37 0 123 [some (.ref 29), some (.int e2.1), none] [] e2.2 (RV (vI r.1) r.2)
  refine go_run mm_37 1 (pc' := 124) (ls' := [some (.ref 29), some (.int e2.1), none]) (st' := [.int 5]) (S' := e2.2) rfl ?_
  cases hr
  exact go_ireturn mm_37 rfl rfl ⟨rfl, rfl, rfl⟩

theorem mm_42 : mtG 42 = some (mi_42, 6, ft_42) := rfl
def F_42 (h0 : Nat) (S : ST) : Option (Unit × ST) := sbn ((wI S h0 0 0)) (fun s1 => sbn ((wI s1 h0 1 0)) (fun s2 => sbn ((wI s2 h0 2 0)) (fun s3 => some ((), s3))))
set_option maxRecDepth 20000 in
theorem S_42 {d : Nat} {S : ST} {h0 : Nat} {r} (hp0 : PLH h0) (hr : F_42 h0 S = some r) : Cal XC d 42 [.ref h0] S (RV (vU r.1) r.2) := by
  unfold F_42 at hr
  refine cal_go 0 rfl ?_
  refine go_run mm_42 2 (pc' := 2) (ls' := [some (.ref h0)]) (st' := [.int 0, .ref h0]) (S' := S) rfl ?_
  refine go_putI mm_42 (h := h0) rfl hp0.1 rfl ?_
  show Go XC d 42 0 5 [some (.ref h0)] [] (wI S h0 0 0) (RV (vU r.1) r.2)
  obtain ⟨s1, es1, hr⟩ := sbn_some hr
  rw [← es1]
  refine go_run mm_42 2 (pc' := 7) (ls' := [some (.ref h0)]) (st' := [.int 0, .ref h0]) (S' := s1) rfl ?_
  refine go_putI mm_42 (h := h0) rfl hp0.1 rfl ?_
  show Go XC d 42 0 10 [some (.ref h0)] [] (wI s1 h0 1 0) (RV (vU r.1) r.2)
  obtain ⟨s2, es2, hr⟩ := sbn_some hr
  rw [← es2]
  refine go_run mm_42 2 (pc' := 12) (ls' := [some (.ref h0)]) (st' := [.int 0, .ref h0]) (S' := s2) rfl ?_
  refine go_putI mm_42 (h := h0) rfl hp0.1 rfl ?_
  show Go XC d 42 0 15 [some (.ref h0)] [] (wI s2 h0 2 0) (RV (vU r.1) r.2)
  obtain ⟨s3, es3, hr⟩ := sbn_some hr
  rw [← es3]
  cases hr
  exact go_vreturn mm_42 rfl rfl ⟨rfl, rfl, rfl⟩

theorem mm_35 : mtG 35 = some (mi_35, 5, ft_35) := rfl
def F_35 (v1 : Int32) (S : ST) : Option (Int32 × ST) := ob (F_42 12 S) (fun w1 => ob (F_12 v1 w1.2) (fun w2 => ob (F_16 (TXS.getD 10 []) w2.2) (fun w3 => if w3 = true then (ob (F_13 w2.2) (fun w4 => ob (F_36 w4.2) (fun w5 => if w5.1 = 0 then (ob (F_37 w5.2) (fun w6 => some (w6.1, w6.2))) else (some (w5.1, w5.2))))) else (some (1, w2.2)))))
set_option maxRecDepth 20000 in
theorem S_35 {d : Nat} {S : ST} {v1 : Int32} {r} (hr : F_35 v1 S = some r) : Cal XC (d + 5) 35 [.ref 29, .int v1] S (RV (vI r.1) r.2) := by
  unfold F_35 at hr
  refine cal_go 1 rfl ?_
  refine go_run mm_35 2 (pc' := 4) (ls' := [some (.ref 29), some (.int v1), none]) (st' := [.ref 12]) (S' := S) rfl ?_
  obtain ⟨w1, hw1, hr⟩ := ob_some hr
  refine go_cv mm_35 (h := 12) (As := []) (rest := []) (nl := 1) rfl rfl (show cvOK 35 4 30 42 0 1 5 = true by decide +kernel) rfl rfl rfl (S_42 (plB_ok rfl) hw1) (KP_V ?_)
  show Go XC (d + 5) 35 0 7 [some (.ref 29), some (.int v1), none] [] w1.2 (RV (vI r.1) r.2)
  refine go_run mm_35 3 (pc' := 12) (ls' := [some (.ref 29), some (.int v1), none]) (st' := [.int v1, .ref 1]) (S' := w1.2) rfl ?_
  obtain ⟨w2, hw2, hr⟩ := ob_some hr
  refine go_cv mm_35 (h := 1) (As := [.int v1]) (rest := []) (nl := 2) rfl rfl (show cvOK 35 12 35 12 1 2 2 = true by decide +kernel) rfl rfl rfl (S_12 hw2) (KP_V ?_)
  show Go XC (d + 5) 35 0 15 [some (.ref 29), some (.int v1), none] [] w2.2 (RV (vI r.1) r.2)
  refine go_run mm_35 2 (pc' := 19) (ls' := [some (.ref 29), some (.int v1), none]) (st' := [.ref 1]) (S' := w2.2) rfl ?_
  refine go_ldcS mm_35 (j := 10) rfl rfl ?_
  show Go XC (d + 5) 35 0 21 [some (.ref 29), some (.int v1), none] [.ref 310, .ref 1] w2.2 (RV (vI r.1) r.2)
  obtain ⟨w3, hw3, hr⟩ := ob_some hr
  refine go_cv mm_35 (h := 1) (As := [.ref 310]) (rest := []) (nl := 4) rfl rfl (show cvOK 35 21 43 16 1 4 2 = true by decide +kernel) rfl rfl rfl (S_16 (rfl : txt 310 = some (TXS.getD 10 [])) hw3) (KP_V ?_)
  show Go XC (d + 5) 35 0 24 [some (.ref 29), some (.int v1), none] [.int (b2i w3)] w2.2 (RV (vI r.1) r.2)
  refine go_ifb mm_35 rfl (p1 := 29) (p2 := 27) rfl (fun (hc1 : w3 = true) => ?_) (fun (hc1 : w3 = false) => ?_)
  · rw [if_pos hc1] at hr
    refine go_run mm_35 2 (pc' := 33) (ls' := [some (.ref 29), some (.int v1), none]) (st' := [.ref 1]) (S' := w2.2) rfl ?_
    obtain ⟨w4, hw4, hr⟩ := ob_some hr
    refine go_cv mm_35 (h := 1) (As := []) (rest := []) (nl := 2) rfl rfl (show cvOK 35 33 47 13 0 2 2 = true by decide +kernel) rfl rfl rfl (S_13 hw4) (KP_V ?_)
    show Go XC (d + 5) 35 0 36 [some (.ref 29), some (.int v1), none] [] w4.2 (RV (vI r.1) r.2)
    refine go_run mm_35 1 (pc' := 37) (ls' := [some (.ref 29), some (.int v1), none]) (st' := [.ref 29]) (S' := w4.2) rfl ?_
    obtain ⟨w5, hw5, hr⟩ := ob_some hr
    refine go_cv mm_35 (h := 29) (As := []) (rest := []) (nl := 3) rfl rfl (show cvOK 35 37 50 36 0 3 4 = true by decide +kernel) rfl rfl rfl (S_36 hw5) (KP_V ?_)
    show Go XC (d + 5) 35 0 40 [some (.ref 29), some (.int v1), none] [.int w5.1] w5.2 (RV (vI r.1) r.2)
    refine go_run mm_35 2 (pc' := 42) (ls' := [some (.ref 29), some (.int v1), some (.int w5.1)]) (st' := [.int w5.1]) (S' := w5.2) rfl ?_
    refine go_if0 mm_35 rfl (p1 := 45) (p2 := 52) rfl (fun (hc2 : w5.1 = 0) => ?_) (fun (hc2 : ¬ w5.1 = 0) => ?_)
    · rw [if_pos hc2] at hr
      refine go_run mm_35 1 (pc' := 46) (ls' := [some (.ref 29), some (.int v1), some (.int w5.1)]) (st' := [.ref 29]) (S' := w5.2) rfl ?_
      obtain ⟨w6, hw6, hr⟩ := ob_some hr
      refine go_cv mm_35 (h := 29) (As := []) (rest := []) (nl := 3) rfl rfl (show cvOK 35 46 54 37 0 3 4 = true by decide +kernel) rfl rfl rfl (S_37 hw6) (KP_V ?_)
      show Go XC (d + 5) 35 0 49 [some (.ref 29), some (.int v1), some (.int w5.1)] [.int w6.1] w6.2 (RV (vI r.1) r.2)
      refine go_run mm_35 1 (pc' := 53) (ls' := [some (.ref 29), some (.int v1), some (.int w5.1)]) (st' := [.int w6.1]) (S' := w6.2) rfl ?_
      cases hr
      exact go_ireturn mm_35 rfl rfl ⟨rfl, rfl, rfl⟩
    · rw [if_neg hc2] at hr
      refine go_run mm_35 1 (pc' := 53) (ls' := [some (.ref 29), some (.int v1), some (.int w5.1)]) (st' := [.int w5.1]) (S' := w5.2) rfl ?_
      cases hr
      exact go_ireturn mm_35 rfl rfl ⟨rfl, rfl, rfl⟩
  · rw [if_neg (bf hc1)] at hr
    refine go_run mm_35 1 (pc' := 28) (ls' := [some (.ref 29), some (.int v1), none]) (st' := [.int 1]) (S' := w2.2) rfl ?_
    cases hr
    exact go_ireturn mm_35 rfl rfl ⟨rfl, rfl, rfl⟩

theorem mm_49 : mtG 49 = some (mi_49, 6, ft_49) := rfl
def F_49 (h0 : Nat) (v1 : Int32) (v2 : Int32) (v3 : Int32) (S : ST) : Option (Unit × ST) := if v1 < 0 then (some ((), S)) else (if v1 < (S.1 h0 0) then (ck (ibd v1 12) (sbn ((wI S (h0 + 1) (Int32.toNatClampNeg v1) v2)) (fun s4 => ck (ibd v1 12) (sbn ((wI s4 (h0 + 2) (Int32.toNatClampNeg v1) v3)) (fun s6 => some ((), s6)))))) else (some ((), S)))
set_option maxRecDepth 20000 in
theorem S_49 {d : Nat} {S : ST} {h0 : Nat} {v1 : Int32} {v2 : Int32} {v3 : Int32} {r} (hp0 : PLH h0) (hr : F_49 h0 v1 v2 v3 S = some r) : Cal XC d 49 [.ref h0, .int v1, .int v2, .int v3] S (RV (vU r.1) r.2) := by
  unfold F_49 at hr
  refine cal_go 0 rfl ?_
  refine go_run mm_49 1 (pc' := 1) (ls' := [some (.ref h0), some (.int v1), some (.int v2), some (.int v3)]) (st' := [.int v1]) (S' := S) rfl ?_
  refine go_if0 mm_49 rfl (p1 := 26) (p2 := 4) rfl (fun (hc1 : v1 < 0) => ?_) (fun (hc1 : ¬ v1 < 0) => ?_)
  · rw [if_pos hc1] at hr
    cases hr
    exact go_vreturn mm_49 rfl rfl ⟨rfl, rfl, rfl⟩
  · rw [if_neg hc1] at hr
    refine go_run mm_49 2 (pc' := 6) (ls' := [some (.ref h0), some (.int v1), some (.int v2), some (.int v3)]) (st' := [.ref h0, .int v1]) (S' := S) rfl ?_
    refine go_getf mm_49 (h := h0) rfl hp0.1 rfl ?_
    show Go XC d 49 0 9 [some (.ref h0), some (.int v1), some (.int v2), some (.int v3)] [.int (S.1 h0 0), .int v1] S (RV (vU r.1) r.2)
    refine go_if2 mm_49 rfl (p1 := 12) (p2 := 26) rfl (fun (hc2 : v1 < (S.1 h0 0)) => ?_) (fun (hc2 : ¬ v1 < (S.1 h0 0)) => ?_)
    · rw [if_pos hc2] at hr
      refine go_run mm_49 1 (pc' := 13) (ls' := [some (.ref h0), some (.int v1), some (.int v2), some (.int v3)]) (st' := [.ref h0]) (S' := S) rfl ?_
      refine go_getf mm_49 (h := h0) rfl hp0.1 rfl ?_
      show Go XC d 49 0 16 [some (.ref h0), some (.int v1), some (.int v2), some (.int v3)] [.ref (h0 + 1)] S (RV (vU r.1) r.2)
      refine go_run mm_49 2 (pc' := 18) (ls' := [some (.ref h0), some (.int v1), some (.int v2), some (.int v3)]) (st' := [.int v2, .int v1, .ref (h0 + 1)]) (S' := S) rfl ?_
      obtain ⟨hb3, hr⟩ := ck_some hr
      refine go_iastore mm_49 (q := (Int32.toNatClampNeg v1)) rfl (hp0.2.1) rfl (ibd_ok hb3) ?_
      show Go XC d 49 0 19 [some (.ref h0), some (.int v1), some (.int v2), some (.int v3)] [] (wI S (h0 + 1) (Int32.toNatClampNeg v1) v2) (RV (vU r.1) r.2)
      obtain ⟨s4, es4, hr⟩ := sbn_some hr
      rw [← es4]
      refine go_run mm_49 1 (pc' := 20) (ls' := [some (.ref h0), some (.int v1), some (.int v2), some (.int v3)]) (st' := [.ref h0]) (S' := s4) rfl ?_
      refine go_getf mm_49 (h := h0) rfl hp0.1 rfl ?_
      show Go XC d 49 0 23 [some (.ref h0), some (.int v1), some (.int v2), some (.int v3)] [.ref (h0 + 2)] s4 (RV (vU r.1) r.2)
      refine go_run mm_49 2 (pc' := 25) (ls' := [some (.ref h0), some (.int v1), some (.int v2), some (.int v3)]) (st' := [.int v3, .int v1, .ref (h0 + 2)]) (S' := s4) rfl ?_
      obtain ⟨hb5, hr⟩ := ck_some hr
      refine go_iastore mm_49 (q := (Int32.toNatClampNeg v1)) rfl (hp0.2.2.1) rfl (ibd_ok hb5) ?_
      show Go XC d 49 0 26 [some (.ref h0), some (.int v1), some (.int v2), some (.int v3)] [] (wI s4 (h0 + 2) (Int32.toNatClampNeg v1) v3) (RV (vU r.1) r.2)
      obtain ⟨s6, es6, hr⟩ := sbn_some hr
      rw [← es6]
      cases hr
      exact go_vreturn mm_49 rfl rfl ⟨rfl, rfl, rfl⟩
    · rw [if_neg hc2] at hr
      cases hr
      exact go_vreturn mm_49 rfl rfl ⟨rfl, rfl, rfl⟩

theorem mm_50 : mtG 50 = some (mi_50, 6, ft_50) := rfl
def L_50_15 (h0 : Nat) (v1 : Int32) (a15 : Int32 × ST) : Option ((Int32 × ST) ⊕ (Int32 × ST)) := if (a15.1 + 1) < (a15.2.1 h0 0) then (ck (ibd (a15.1 + 1) 12) (ck (ibd a15.1 12) (sbn ((wI a15.2 (h0 + 1) (Int32.toNatClampNeg a15.1) (a15.2.1 (h0 + 1) (Int32.toNatClampNeg (a15.1 + 1))))) (fun s6 => ck (ibd (a15.1 + 1) 12) (ck (ibd a15.1 12) (sbn ((wI s6 (h0 + 2) (Int32.toNatClampNeg a15.1) (s6.1 (h0 + 2) (Int32.toNatClampNeg (a15.1 + 1))))) (fun s9 => some (.inl (a15.1 + 1, s9))))))))) else (some (.inr (a15.1, a15.2)))
set_option maxRecDepth 20000 in
theorem LS_50_15 {d : Nat} {R : RT} {h0 : Nat} {v1 : Int32} (hp0 : PLH h0) {a15 : Int32 × ST} {r9} (hr : L_50_15 h0 v1 a15 = some r9) (hL : ∀ a9, r9 = .inl a9 → (fun a15 => Go XC d 50 0 15 [some (.ref h0), some (.int v1), some (.int a15.1)] [] a15.2 R) a9) (hR : ∀ b9, r9 = .inr b9 → (fun e15 => Go XC d 50 0 59 [some (.ref h0), some (.int v1), some (.int e15.1)] [] e15.2 R) b9) : Go XC d 50 0 15 [some (.ref h0), some (.int v1), some (.int a15.1)] [] a15.2 R := by
  unfold L_50_15 at hr
  refine go_run mm_50 4 (pc' := 19) (ls' := [some (.ref h0), some (.int v1), some (.int a15.1)]) (st' := [.ref h0, .int (a15.1 + 1)]) (S' := a15.2) rfl ?_
  refine go_getf mm_50 (h := h0) rfl hp0.1 rfl ?_
  show Go XC d 50 0 22 [some (.ref h0), some (.int v1), some (.int a15.1)] [.int (a15.2.1 h0 0), .int (a15.1 + 1)] a15.2 R
  refine go_if2 mm_50 rfl (p1 := 25) (p2 := 59) rfl (fun (hc3 : (a15.1 + 1) < (a15.2.1 h0 0)) => ?_) (fun (hc3 : ¬ (a15.1 + 1) < (a15.2.1 h0 0)) => ?_)
  · rw [if_pos hc3] at hr
    refine go_run mm_50 1 (pc' := 26) (ls' := [some (.ref h0), some (.int v1), some (.int a15.1)]) (st' := [.ref h0]) (S' := a15.2) rfl ?_
    refine go_getf mm_50 (h := h0) rfl hp0.1 rfl ?_
    show Go XC d 50 0 29 [some (.ref h0), some (.int v1), some (.int a15.1)] [.ref (h0 + 1)] a15.2 R
    refine go_run mm_50 2 (pc' := 31) (ls' := [some (.ref h0), some (.int v1), some (.int a15.1)]) (st' := [.ref h0, .int a15.1, .ref (h0 + 1)]) (S' := a15.2) rfl ?_
    refine go_getf mm_50 (h := h0) rfl hp0.1 rfl ?_
    show Go XC d 50 0 34 [some (.ref h0), some (.int v1), some (.int a15.1)] [.ref (h0 + 1), .int a15.1, .ref (h0 + 1)] a15.2 R
    refine go_run mm_50 3 (pc' := 37) (ls' := [some (.ref h0), some (.int v1), some (.int a15.1)]) (st' := [.int (a15.1 + 1), .ref (h0 + 1), .int a15.1, .ref (h0 + 1)]) (S' := a15.2) rfl ?_
    obtain ⟨hb4, hr⟩ := ck_some hr
    refine go_iaload mm_50 (q := (Int32.toNatClampNeg (a15.1 + 1))) rfl (hp0.2.1) rfl (ibd_ok hb4) ?_
    show Go XC d 50 0 38 [some (.ref h0), some (.int v1), some (.int a15.1)] [.int (a15.2.1 (h0 + 1) (Int32.toNatClampNeg (a15.1 + 1))), .int a15.1, .ref (h0 + 1)] a15.2 R
    obtain ⟨hb5, hr⟩ := ck_some hr
    refine go_iastore mm_50 (q := (Int32.toNatClampNeg a15.1)) rfl (hp0.2.1) rfl (ibd_ok hb5) ?_
    show Go XC d 50 0 39 [some (.ref h0), some (.int v1), some (.int a15.1)] [] (wI a15.2 (h0 + 1) (Int32.toNatClampNeg a15.1) (a15.2.1 (h0 + 1) (Int32.toNatClampNeg (a15.1 + 1)))) R
    obtain ⟨s6, es6, hr⟩ := sbn_some hr
    rw [← es6]
    refine go_run mm_50 1 (pc' := 40) (ls' := [some (.ref h0), some (.int v1), some (.int a15.1)]) (st' := [.ref h0]) (S' := s6) rfl ?_
    refine go_getf mm_50 (h := h0) rfl hp0.1 rfl ?_
    show Go XC d 50 0 43 [some (.ref h0), some (.int v1), some (.int a15.1)] [.ref (h0 + 2)] s6 R
    refine go_run mm_50 2 (pc' := 45) (ls' := [some (.ref h0), some (.int v1), some (.int a15.1)]) (st' := [.ref h0, .int a15.1, .ref (h0 + 2)]) (S' := s6) rfl ?_
    refine go_getf mm_50 (h := h0) rfl hp0.1 rfl ?_
    show Go XC d 50 0 48 [some (.ref h0), some (.int v1), some (.int a15.1)] [.ref (h0 + 2), .int a15.1, .ref (h0 + 2)] s6 R
    refine go_run mm_50 3 (pc' := 51) (ls' := [some (.ref h0), some (.int v1), some (.int a15.1)]) (st' := [.int (a15.1 + 1), .ref (h0 + 2), .int a15.1, .ref (h0 + 2)]) (S' := s6) rfl ?_
    obtain ⟨hb7, hr⟩ := ck_some hr
    refine go_iaload mm_50 (q := (Int32.toNatClampNeg (a15.1 + 1))) rfl (hp0.2.2.1) rfl (ibd_ok hb7) ?_
    show Go XC d 50 0 52 [some (.ref h0), some (.int v1), some (.int a15.1)] [.int (s6.1 (h0 + 2) (Int32.toNatClampNeg (a15.1 + 1))), .int a15.1, .ref (h0 + 2)] s6 R
    obtain ⟨hb8, hr⟩ := ck_some hr
    refine go_iastore mm_50 (q := (Int32.toNatClampNeg a15.1)) rfl (hp0.2.2.1) rfl (ibd_ok hb8) ?_
    show Go XC d 50 0 53 [some (.ref h0), some (.int v1), some (.int a15.1)] [] (wI s6 (h0 + 2) (Int32.toNatClampNeg a15.1) (s6.1 (h0 + 2) (Int32.toNatClampNeg (a15.1 + 1)))) R
    obtain ⟨s9, es9, hr⟩ := sbn_some hr
    rw [← es9]
    refine go_run mm_50 2 (pc' := 15) (ls' := [some (.ref h0), some (.int v1), some (.int (a15.1 + 1))]) (st' := []) (S' := s9) rfl ?_
    cases hr
    have h9 := hL (a15.1 + 1, s9) rfl
    dsimp only at h9
    exact Go.le h9 (by repeat first | exact True.intro | refine And.intro rfl ?_)
  · rw [if_neg hc3] at hr
    cases hr
    have h9 := hR (a15.1, a15.2) rfl
    dsimp only [Sum.elim_inl] at h9
    exact Go.le h9 (by repeat first | exact True.intro | refine And.intro rfl ?_)
def F_50 (h0 : Nat) (v1 : Int32) (S : ST) : Option (Unit × ST) := if v1 < 0 then (some ((), S)) else (if v1 < (S.1 h0 0) then (ob (wh FU (L_50_15 h0 v1) (v1, S)) (fun e15 => sbn ((wI e15.2 h0 0 ((e15.2.1 h0 0) - 1))) (fun s10 => some ((), s10)))) else (some ((), S)))
set_option maxRecDepth 20000 in
theorem S_50 {d : Nat} {S : ST} {h0 : Nat} {v1 : Int32} {r} (hp0 : PLH h0) (hr : F_50 h0 v1 S = some r) : Cal XC d 50 [.ref h0, .int v1] S (RV (vU r.1) r.2) := by
  unfold F_50 at hr
  refine cal_go 1 rfl ?_
  refine go_run mm_50 1 (pc' := 1) (ls' := [some (.ref h0), some (.int v1), none]) (st' := [.int v1]) (S' := S) rfl ?_
  refine go_if0 mm_50 rfl (p1 := 12) (p2 := 4) rfl (fun (hc1 : v1 < 0) => ?_) (fun (hc1 : ¬ v1 < 0) => ?_)
  · rw [if_pos hc1] at hr
    cases hr
    exact go_vreturn mm_50 rfl rfl ⟨rfl, rfl, rfl⟩
  · rw [if_neg hc1] at hr
    refine go_run mm_50 2 (pc' := 6) (ls' := [some (.ref h0), some (.int v1), none]) (st' := [.ref h0, .int v1]) (S' := S) rfl ?_
    refine go_getf mm_50 (h := h0) rfl hp0.1 rfl ?_
    show Go XC d 50 0 9 [some (.ref h0), some (.int v1), none] [.int (S.1 h0 0), .int v1] S (RV (vU r.1) r.2)
    refine go_if2 mm_50 rfl (p1 := 13) (p2 := 12) rfl (fun (hc2 : v1 < (S.1 h0 0)) => ?_) (fun (hc2 : ¬ v1 < (S.1 h0 0)) => ?_)
    · rw [if_pos hc2] at hr
      refine go_run mm_50 2 (pc' := 15) (ls' := [some (.ref h0), some (.int v1), some (.int v1)]) (st' := []) (S' := S) rfl ?_
      obtain ⟨z15, he15, hr⟩ := ob_some hr
      refine Go.le (ls' := [some (.ref h0), some (.int v1), some (.int v1)]) ?_ (by repeat first | exact True.intro | refine And.intro rfl ?_)
      refine wh_go (P := fun a15 => Go XC d 50 0 15 [some (.ref h0), some (.int v1), some (.int a15.1)] [] a15.2 (RV (vU r.1) r.2)) (K := fun e15 => Go XC d 50 0 59 [some (.ref h0), some (.int v1), some (.int e15.1)] [] e15.2 (RV (vU r.1) r.2)) (fun a9 r9 h9 hL hR => LS_50_15 hp0 h9 hL hR) _ _ _ he15 ?_
      generalize z15 = e15 at hr
      show Go XC d 50 0 59 [some (.ref h0), some (.int v1), some (.int e15.1)] [] e15.2 (RV (vU r.1) r.2)
      refine go_run mm_50 2 (pc' := 61) (ls' := [some (.ref h0), some (.int v1), some (.int e15.1)]) (st' := [.ref h0, .ref h0]) (S' := e15.2) rfl ?_
      refine go_getf mm_50 (h := h0) rfl hp0.1 rfl ?_
      show Go XC d 50 0 64 [some (.ref h0), some (.int v1), some (.int e15.1)] [.int (e15.2.1 h0 0), .ref h0] e15.2 (RV (vU r.1) r.2)
      refine go_run mm_50 2 (pc' := 66) (ls' := [some (.ref h0), some (.int v1), some (.int e15.1)]) (st' := [.int ((e15.2.1 h0 0) - 1), .ref h0]) (S' := e15.2) rfl ?_
      refine go_putI mm_50 (h := h0) rfl hp0.1 rfl ?_
      show Go XC d 50 0 69 [some (.ref h0), some (.int v1), some (.int e15.1)] [] (wI e15.2 h0 0 ((e15.2.1 h0 0) - 1)) (RV (vU r.1) r.2)
      obtain ⟨s10, es10, hr⟩ := sbn_some hr
      rw [← es10]
      cases hr
      exact go_vreturn mm_50 rfl rfl ⟨rfl, rfl, rfl⟩
    · rw [if_neg hc2] at hr
      cases hr
      exact go_vreturn mm_50 rfl rfl ⟨rfl, rfl, rfl⟩
