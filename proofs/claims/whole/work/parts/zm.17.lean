/-! methods as functions (printed by a program): 302 moveGuard, 303 setRange, 304 becomes, 305 laysAside, 306 isOff, 307 moveVertex, 308 insertVertex -/
noncomputable def F_302 (v1 : Int32) (v2 : Int32) (S : ST) : Option (Int32 × ST) := ob (F_227 v1 S) (fun w1 => if w1.1 = true then (some (0, w1.2)) else (ob (F_183 (!(F_182 v2 0 ((w1.2.1 140 20) - 1))) 2 w1.2) (fun w2 => if w2.1 = true then (some (0, w2.2)) else (ob (F_299 w2.2) (fun w3 => ob (F_274 v1 0 w3.2) (fun w4 => ob (F_274 v1 1 w3.2) (fun w5 => ck (ibd v2 64) (ck (ibd (27 + (3 * v1)) 63) (sbn ((wI w3.2 141 (Int32.toNatClampNeg (27 + (3 * v1))) (w3.2.1 147 (Int32.toNatClampNeg v2)))) (fun s6 => ck (ibd v2 64) (ck (ibd ((27 + (3 * v1)) + 1) 63) (sbn ((wI s6 141 (Int32.toNatClampNeg ((27 + (3 * v1)) + 1)) (s6.1 148 (Int32.toNatClampNeg v2)))) (fun s9 => some ((F_215 w4 w5 w3.2), s9))))))))))))))
set_option maxRecDepth 20000 in
theorem S_302 {d : Nat} {S : ST} {v1 : Int32} {v2 : Int32} {r} (hr : F_302 v1 v2 S = some r) : Cal XM (d + 3) 302 [.ref 140, .int v1, .int v2] S (RV (vI r.1) r.2) := by
  unfold F_302 at hr
  refine cal_go 1 rfl ?_
  refine go_run mm_302 2 (pc' := 2) (ls' := [some (.ref 140), some (.int v1), some (.int v2), none]) (st' := [.int v1, .ref 140]) (S' := S) rfl ?_
  obtain ⟨w1, hw1, hr⟩ := ob_some hr
  refine go_cv mm_302 (h := 140) (As := [.int v1]) (rest := []) (nl := 2) rfl rfl (show cvOK 302 2 356 227 1 2 11 = true by decide +kernel) rfl rfl rfl (S_227 hw1) (KP_V ?_)
  show Go XM (d + 3) 302 0 5 [some (.ref 140), some (.int v1), some (.int v2), none] [.int (b2i w1.1)] w1.2 (RV (vI r.1) r.2)
  refine go_ifb mm_302 rfl (p1 := 35) (p2 := 8) rfl (fun (hc1 : w1.1 = true) => ?_) (fun (hc1 : w1.1 = false) => ?_)
  · rw [if_pos hc1] at hr
    refine go_run mm_302 1 (pc' := 36) (ls' := [some (.ref 140), some (.int v1), some (.int v2), none]) (st' := [.int 0]) (S' := w1.2) rfl ?_
    cases hr
    exact go_ireturn mm_302 rfl rfl ⟨rfl, rfl, rfl⟩
  · rw [if_neg (bf hc1)] at hr
    refine go_run mm_302 7 (pc' := 17) (ls' := [some (.ref 140), some (.int v1), some (.int v2), none]) (st' := [.int ((w1.2.1 140 20) - 1), .int 0, .int v2, .ref 140]) (S' := w1.2) rfl ?_
    refine go_cs mm_302 (av := [.int v2, .int 0, .int ((w1.2.1 140 20) - 1)]) (rest := [.ref 140]) (nl := 3) rfl (show csOK 302 17 148 182 3 3 = true by decide +kernel) rfl rfl rfl (S_182 rfl) (KP_V ?_)
    show Go XM (d + 3) 302 0 20 [some (.ref 140), some (.int v1), some (.int v2), none] [.int (b2i (F_182 v2 0 ((w1.2.1 140 20) - 1))), .ref 140] w1.2 (RV (vI r.1) r.2)
    have j10 : Go XM (d + 3) 302 0 28 [some (.ref 140), some (.int v1), some (.int v2), none] [.int (b2i (!(F_182 v2 0 ((w1.2.1 140 20) - 1)))), .ref 140] w1.2 (RV (vI r.1) r.2) := by
      refine go_run mm_302 1 (pc' := 29) (ls' := [some (.ref 140), some (.int v1), some (.int v2), none]) (st' := [.int 2, .int (b2i (!(F_182 v2 0 ((w1.2.1 140 20) - 1)))), .ref 140]) (S' := w1.2) rfl ?_
      obtain ⟨w2, hw2, hr⟩ := ob_some hr
      refine go_cv mm_302 (h := 140) (As := [.int (b2i (!(F_182 v2 0 ((w1.2.1 140 20) - 1)))), .int 2]) (rest := []) (nl := 3) rfl rfl (show cvOK 302 29 86 183 2 3 11 = true by decide +kernel) rfl rfl rfl (S_183 hw2) (KP_V ?_)
      show Go XM (d + 3) 302 0 32 [some (.ref 140), some (.int v1), some (.int v2), none] [.int (b2i w2.1)] w2.2 (RV (vI r.1) r.2)
      refine go_ifb mm_302 rfl (p1 := 35) (p2 := 37) rfl (fun (hc3 : w2.1 = true) => ?_) (fun (hc3 : w2.1 = false) => ?_)
      · rw [if_pos hc3] at hr
        refine go_run mm_302 1 (pc' := 36) (ls' := [some (.ref 140), some (.int v1), some (.int v2), none]) (st' := [.int 0]) (S' := w2.2) rfl ?_
        cases hr
        exact go_ireturn mm_302 rfl rfl ⟨rfl, rfl, rfl⟩
      · rw [if_neg (bf hc3)] at hr
        refine go_run mm_302 1 (pc' := 38) (ls' := [some (.ref 140), some (.int v1), some (.int v2), none]) (st' := [.ref 140]) (S' := w2.2) rfl ?_
        obtain ⟨w3, hw3, hr⟩ := ob_some hr
        refine go_cv mm_302 (h := 140) (As := []) (rest := []) (nl := 2) rfl rfl (show cvOK 302 38 385 299 0 2 11 = true by decide +kernel) rfl rfl rfl (S_299 hw3) (KP_V ?_)
        show Go XM (d + 3) 302 0 41 [some (.ref 140), some (.int v1), some (.int v2), none] [] w3.2 (RV (vI r.1) r.2)
        refine go_run mm_302 4 (pc' := 45) (ls' := [some (.ref 140), some (.int v1), some (.int v2), none]) (st' := [.int 0, .int v1, .ref 140, .ref 140]) (S' := w3.2) rfl ?_
        obtain ⟨w4, hw4, hr⟩ := ob_some hr
        refine go_cv mm_302 (h := 140) (As := [.int v1, .int 0]) (rest := [.ref 140]) (nl := 3) rfl rfl (show cvOK 302 45 347 274 2 3 11 = true by decide +kernel) rfl rfl rfl (S_274 hw4) (KP_V ?_)
        show Go XM (d + 3) 302 0 48 [some (.ref 140), some (.int v1), some (.int v2), none] [.int w4, .ref 140] w3.2 (RV (vI r.1) r.2)
        refine go_run mm_302 3 (pc' := 51) (ls' := [some (.ref 140), some (.int v1), some (.int v2), none]) (st' := [.int 1, .int v1, .ref 140, .int w4, .ref 140]) (S' := w3.2) rfl ?_
        obtain ⟨w5, hw5, hr⟩ := ob_some hr
        refine go_cv mm_302 (h := 140) (As := [.int v1, .int 1]) (rest := [.int w4, .ref 140]) (nl := 3) rfl rfl (show cvOK 302 51 347 274 2 3 11 = true by decide +kernel) rfl rfl rfl (S_274 hw5) (KP_V ?_)
        show Go XM (d + 3) 302 0 54 [some (.ref 140), some (.int v1), some (.int v2), none] [.int w5, .int w4, .ref 140] w3.2 (RV (vI r.1) r.2)
        refine go_cv mm_302 (h := 140) (As := [.int w4, .int w5]) (rest := []) (nl := 3) rfl rfl (show cvOK 302 54 257 215 2 3 11 = true by decide +kernel) rfl rfl rfl (S_215 rfl) (KP_V ?_)
        show Go XM (d + 3) 302 0 57 [some (.ref 140), some (.int v1), some (.int v2), none] [.int (F_215 w4 w5 w3.2)] w3.2 (RV (vI r.1) r.2)
        refine go_run mm_302 11 (pc' := 73) (ls' := [some (.ref 140), some (.int v1), some (.int v2), some (.int (F_215 w4 w5 w3.2))]) (st' := [.int v2, .ref 147, .int (27 + (3 * v1)), .ref 141]) (S' := w3.2) rfl ?_
        obtain ⟨hb4, hr⟩ := ck_some hr
        refine go_iaload mm_302 (q := (Int32.toNatClampNeg v2)) rfl rfl rfl (ibd_ok hb4) ?_
        show Go XM (d + 3) 302 0 74 [some (.ref 140), some (.int v1), some (.int v2), some (.int (F_215 w4 w5 w3.2))] [.int (w3.2.1 147 (Int32.toNatClampNeg v2)), .int (27 + (3 * v1)), .ref 141] w3.2 (RV (vI r.1) r.2)
        obtain ⟨hb5, hr⟩ := ck_some hr
        refine go_iastore mm_302 (q := (Int32.toNatClampNeg (27 + (3 * v1)))) rfl rfl rfl (ibd_ok hb5) ?_
        show Go XM (d + 3) 302 0 75 [some (.ref 140), some (.int v1), some (.int v2), some (.int (F_215 w4 w5 w3.2))] [] (wI w3.2 141 (Int32.toNatClampNeg (27 + (3 * v1))) (w3.2.1 147 (Int32.toNatClampNeg v2))) (RV (vI r.1) r.2)
        obtain ⟨s6, es6, hr⟩ := sbn_some hr
        rw [← es6]
        refine go_run mm_302 12 (pc' := 92) (ls' := [some (.ref 140), some (.int v1), some (.int v2), some (.int (F_215 w4 w5 w3.2))]) (st' := [.int v2, .ref 148, .int ((27 + (3 * v1)) + 1), .ref 141]) (S' := s6) rfl ?_
        obtain ⟨hb7, hr⟩ := ck_some hr
        refine go_iaload mm_302 (q := (Int32.toNatClampNeg v2)) rfl rfl rfl (ibd_ok hb7) ?_
        show Go XM (d + 3) 302 0 93 [some (.ref 140), some (.int v1), some (.int v2), some (.int (F_215 w4 w5 w3.2))] [.int (s6.1 148 (Int32.toNatClampNeg v2)), .int ((27 + (3 * v1)) + 1), .ref 141] s6 (RV (vI r.1) r.2)
        obtain ⟨hb8, hr⟩ := ck_some hr
        refine go_iastore mm_302 (q := (Int32.toNatClampNeg ((27 + (3 * v1)) + 1))) rfl rfl rfl (ibd_ok hb8) ?_
        show Go XM (d + 3) 302 0 94 [some (.ref 140), some (.int v1), some (.int v2), some (.int (F_215 w4 w5 w3.2))] [] (wI s6 141 (Int32.toNatClampNeg ((27 + (3 * v1)) + 1)) (s6.1 148 (Int32.toNatClampNeg v2))) (RV (vI r.1) r.2)
        obtain ⟨s9, es9, hr⟩ := sbn_some hr
        rw [← es9]
        refine go_run mm_302 1 (pc' := 95) (ls' := [some (.ref 140), some (.int v1), some (.int v2), some (.int (F_215 w4 w5 w3.2))]) (st' := [.int (F_215 w4 w5 w3.2)]) (S' := s9) rfl ?_
        cases hr
        exact go_ireturn mm_302 rfl rfl ⟨rfl, rfl, rfl⟩
    refine go_ifb mm_302 rfl (p1 := 27) (p2 := 23) rfl (fun (hc2 : (F_182 v2 0 ((w1.2.1 140 20) - 1)) = true) => ?_) (fun (hc2 : (F_182 v2 0 ((w1.2.1 140 20) - 1)) = false) => ?_)
    · refine go_run mm_302 1 (pc' := 28) (ls' := [some (.ref 140), some (.int v1), some (.int v2), none]) (st' := [.int 0, .ref 140]) (S' := w1.2) rfl ?_
      have e : ((b2i (!(F_182 v2 0 ((w1.2.1 140 20) - 1)))) : Int32) = 0 := by simp [b2i, hc2]
      rw [e] at j10
      exact j10
    · refine go_run mm_302 2 (pc' := 28) (ls' := [some (.ref 140), some (.int v1), some (.int v2), none]) (st' := [.int 1, .ref 140]) (S' := w1.2) rfl ?_
      have e : ((b2i (!(F_182 v2 0 ((w1.2.1 140 20) - 1)))) : Int32) = 1 := by simp [b2i, hc2]
      rw [e] at j10
      exact j10

noncomputable def F_303 (v1 : Int32) (v2 : Int32) (S : ST) : Option (Int32 × ST) := ob (F_227 v1 S) (fun w1 => if w1.1 = true then (some (0, w1.2)) else (ob (F_183 (!(F_182 v2 0 99)) 3 w1.2) (fun w2 => if w2.1 = true then (some (0, w2.2)) else (ob (F_299 w2.2) (fun w3 => ob (F_274 v1 2 w3.2) (fun w4 => ck (ibd ((27 + (3 * v1)) + 2) 63) (sbn ((wI w3.2 141 (Int32.toNatClampNeg ((27 + (3 * v1)) + 2)) v2)) (fun s5 => some (w4, s5)))))))))
set_option maxRecDepth 20000 in
theorem S_303 {d : Nat} {S : ST} {v1 : Int32} {v2 : Int32} {r} (hr : F_303 v1 v2 S = some r) : Cal XM (d + 3) 303 [.ref 140, .int v1, .int v2] S (RV (vI r.1) r.2) := by
  unfold F_303 at hr
  refine cal_go 1 rfl ?_
  refine go_run mm_303 2 (pc' := 2) (ls' := [some (.ref 140), some (.int v1), some (.int v2), none]) (st' := [.int v1, .ref 140]) (S' := S) rfl ?_
  obtain ⟨w1, hw1, hr⟩ := ob_some hr
  refine go_cv mm_303 (h := 140) (As := [.int v1]) (rest := []) (nl := 2) rfl rfl (show cvOK 303 2 356 227 1 2 11 = true by decide +kernel) rfl rfl rfl (S_227 hw1) (KP_V ?_)
  show Go XM (d + 3) 303 0 5 [some (.ref 140), some (.int v1), some (.int v2), none] [.int (b2i w1.1)] w1.2 (RV (vI r.1) r.2)
  refine go_ifb mm_303 rfl (p1 := 31) (p2 := 8) rfl (fun (hc1 : w1.1 = true) => ?_) (fun (hc1 : w1.1 = false) => ?_)
  · rw [if_pos hc1] at hr
    refine go_run mm_303 1 (pc' := 32) (ls' := [some (.ref 140), some (.int v1), some (.int v2), none]) (st' := [.int 0]) (S' := w1.2) rfl ?_
    cases hr
    exact go_ireturn mm_303 rfl rfl ⟨rfl, rfl, rfl⟩
  · rw [if_neg (bf hc1)] at hr
    refine go_run mm_303 4 (pc' := 13) (ls' := [some (.ref 140), some (.int v1), some (.int v2), none]) (st' := [.int 99, .int 0, .int v2, .ref 140]) (S' := w1.2) rfl ?_
    refine go_cs mm_303 (av := [.int v2, .int 0, .int 99]) (rest := [.ref 140]) (nl := 3) rfl (show csOK 303 13 148 182 3 3 = true by decide +kernel) rfl rfl rfl (S_182 rfl) (KP_V ?_)
    show Go XM (d + 3) 303 0 16 [some (.ref 140), some (.int v1), some (.int v2), none] [.int (b2i (F_182 v2 0 99)), .ref 140] w1.2 (RV (vI r.1) r.2)
    have j6 : Go XM (d + 3) 303 0 24 [some (.ref 140), some (.int v1), some (.int v2), none] [.int (b2i (!(F_182 v2 0 99))), .ref 140] w1.2 (RV (vI r.1) r.2) := by
      refine go_run mm_303 1 (pc' := 25) (ls' := [some (.ref 140), some (.int v1), some (.int v2), none]) (st' := [.int 3, .int (b2i (!(F_182 v2 0 99))), .ref 140]) (S' := w1.2) rfl ?_
      obtain ⟨w2, hw2, hr⟩ := ob_some hr
      refine go_cv mm_303 (h := 140) (As := [.int (b2i (!(F_182 v2 0 99))), .int 3]) (rest := []) (nl := 3) rfl rfl (show cvOK 303 25 86 183 2 3 11 = true by decide +kernel) rfl rfl rfl (S_183 hw2) (KP_V ?_)
      show Go XM (d + 3) 303 0 28 [some (.ref 140), some (.int v1), some (.int v2), none] [.int (b2i w2.1)] w2.2 (RV (vI r.1) r.2)
      refine go_ifb mm_303 rfl (p1 := 31) (p2 := 33) rfl (fun (hc3 : w2.1 = true) => ?_) (fun (hc3 : w2.1 = false) => ?_)
      · rw [if_pos hc3] at hr
        refine go_run mm_303 1 (pc' := 32) (ls' := [some (.ref 140), some (.int v1), some (.int v2), none]) (st' := [.int 0]) (S' := w2.2) rfl ?_
        cases hr
        exact go_ireturn mm_303 rfl rfl ⟨rfl, rfl, rfl⟩
      · rw [if_neg (bf hc3)] at hr
        refine go_run mm_303 1 (pc' := 34) (ls' := [some (.ref 140), some (.int v1), some (.int v2), none]) (st' := [.ref 140]) (S' := w2.2) rfl ?_
        obtain ⟨w3, hw3, hr⟩ := ob_some hr
        refine go_cv mm_303 (h := 140) (As := []) (rest := []) (nl := 2) rfl rfl (show cvOK 303 34 385 299 0 2 11 = true by decide +kernel) rfl rfl rfl (S_299 hw3) (KP_V ?_)
        show Go XM (d + 3) 303 0 37 [some (.ref 140), some (.int v1), some (.int v2), none] [] w3.2 (RV (vI r.1) r.2)
        refine go_run mm_303 3 (pc' := 40) (ls' := [some (.ref 140), some (.int v1), some (.int v2), none]) (st' := [.int 2, .int v1, .ref 140]) (S' := w3.2) rfl ?_
        obtain ⟨w4, hw4, hr⟩ := ob_some hr
        refine go_cv mm_303 (h := 140) (As := [.int v1, .int 2]) (rest := []) (nl := 3) rfl rfl (show cvOK 303 40 347 274 2 3 11 = true by decide +kernel) rfl rfl rfl (S_274 hw4) (KP_V ?_)
        show Go XM (d + 3) 303 0 43 [some (.ref 140), some (.int v1), some (.int v2), none] [.int w4] w3.2 (RV (vI r.1) r.2)
        refine go_run mm_303 11 (pc' := 57) (ls' := [some (.ref 140), some (.int v1), some (.int v2), some (.int w4)]) (st' := [.int v2, .int ((27 + (3 * v1)) + 2), .ref 141]) (S' := w3.2) rfl ?_
        obtain ⟨hb4, hr⟩ := ck_some hr
        refine go_iastore mm_303 (q := (Int32.toNatClampNeg ((27 + (3 * v1)) + 2))) rfl rfl rfl (ibd_ok hb4) ?_
        show Go XM (d + 3) 303 0 58 [some (.ref 140), some (.int v1), some (.int v2), some (.int w4)] [] (wI w3.2 141 (Int32.toNatClampNeg ((27 + (3 * v1)) + 2)) v2) (RV (vI r.1) r.2)
        obtain ⟨s5, es5, hr⟩ := sbn_some hr
        rw [← es5]
        refine go_run mm_303 1 (pc' := 59) (ls' := [some (.ref 140), some (.int v1), some (.int v2), some (.int w4)]) (st' := [.int w4]) (S' := s5) rfl ?_
        cases hr
        exact go_ireturn mm_303 rfl rfl ⟨rfl, rfl, rfl⟩
    refine go_ifb mm_303 rfl (p1 := 23) (p2 := 19) rfl (fun (hc2 : (F_182 v2 0 99) = true) => ?_) (fun (hc2 : (F_182 v2 0 99) = false) => ?_)
    · refine go_run mm_303 1 (pc' := 24) (ls' := [some (.ref 140), some (.int v1), some (.int v2), none]) (st' := [.int 0, .ref 140]) (S' := w1.2) rfl ?_
      have e : ((b2i (!(F_182 v2 0 99))) : Int32) = 0 := by simp [b2i, hc2]
      rw [e] at j6
      exact j6
    · refine go_run mm_303 2 (pc' := 24) (ls' := [some (.ref 140), some (.int v1), some (.int v2), none]) (st' := [.int 1, .ref 140]) (S' := w1.2) rfl ?_
      have e : ((b2i (!(F_182 v2 0 99))) : Int32) = 1 := by simp [b2i, hc2]
      rw [e] at j6
      exact j6

noncomputable def Lm_304_10 (S : ST) (a10 : Int32 × Int32) : Option ((Int32 × Int32) ⊕ (Int32 × Int32)) := if a10.2 < (S.1 146 1) then (if a10.1 = 0 then (some (.inr (a10.1, a10.2))) else (ck (ibd (27 + (3 * a10.2)) 63) (ck (ibd ((27 + (3 * a10.2)) + 1) 63) (ob (F_208 146 (Int32.toInt64 (S.1 146 (Int32.toNatClampNeg (27 + (3 * a10.2))))) (Int32.toInt64 (S.1 146 (Int32.toNatClampNeg ((27 + (3 * a10.2)) + 1)))) 1 S) (fun w1 => some (.inl ((b2i w1), a10.2 + 1))))))) else (some (.inr (a10.1, a10.2)))
set_option maxRecDepth 20000 in
theorem LSm_304_10 {d : Nat} {R : RT} {S : ST} {a10 : Int32 × Int32} {r9} (hr : Lm_304_10 S a10 = some r9) (hL : ∀ a9, r9 = .inl a9 → (fun a10 => Go XM (d + 7) 304 0 10 [some (.ref 140), some (.int a10.1), some (.int a10.2)] [] S R) a9) (hR : ∀ b9, r9 = .inr b9 → (fun e10 => Go XM (d + 7) 304 0 65 [some (.ref 140), some (.int e10.1), some (.int e10.2)] [] S R) b9) : Go XM (d + 7) 304 0 10 [some (.ref 140), some (.int a10.1), some (.int a10.2)] [] S R := by
  unfold Lm_304_10 at hr
  refine go_run mm_304 4 (pc' := 16) (ls' := [some (.ref 140), some (.int a10.1), some (.int a10.2)]) (st' := [.int 1, .ref 146, .int a10.2]) (S' := S) rfl ?_
  refine go_iaload mm_304 (q := 1) rfl rfl rfl (inB_lit rfl) ?_
  show Go XM (d + 7) 304 0 17 [some (.ref 140), some (.int a10.1), some (.int a10.2)] [.int (S.1 146 1), .int a10.2] S R
  refine go_if2 mm_304 rfl (p1 := 20) (p2 := 65) rfl (fun (hc1 : a10.2 < (S.1 146 1)) => ?_) (fun (hc1 : ¬ a10.2 < (S.1 146 1)) => ?_)
  · rw [if_pos hc1] at hr
    refine go_run mm_304 1 (pc' := 21) (ls' := [some (.ref 140), some (.int a10.1), some (.int a10.2)]) (st' := [.int a10.1]) (S' := S) rfl ?_
    refine go_if0 mm_304 rfl (p1 := 65) (p2 := 24) rfl (fun (hc2 : a10.1 = 0) => ?_) (fun (hc2 : ¬ a10.1 = 0) => ?_)
    · rw [if_pos hc2] at hr
      cases hr
      have h9 := hR (a10.1, a10.2) rfl
      dsimp only [Sum.elim_inl] at h9
      exact Go.le h9 (by repeat first | exact True.intro | refine And.intro rfl ?_)
    · rw [if_neg hc2] at hr
      refine go_run mm_304 9 (pc' := 38) (ls' := [some (.ref 140), some (.int a10.1), some (.int a10.2)]) (st' := [.int (27 + (3 * a10.2)), .ref 146, .ref 146]) (S' := S) rfl ?_
      obtain ⟨hb3, hr⟩ := ck_some hr
      refine go_iaload mm_304 (q := (Int32.toNatClampNeg (27 + (3 * a10.2)))) rfl rfl rfl (ibd_ok hb3) ?_
      show Go XM (d + 7) 304 0 39 [some (.ref 140), some (.int a10.1), some (.int a10.2)] [.int (S.1 146 (Int32.toNatClampNeg (27 + (3 * a10.2)))), .ref 146] S R
      refine go_run mm_304 10 (pc' := 52) (ls' := [some (.ref 140), some (.int a10.1), some (.int a10.2)]) (st' := [.int ((27 + (3 * a10.2)) + 1), .ref 146, .long (Int32.toInt64 (S.1 146 (Int32.toNatClampNeg (27 + (3 * a10.2))))), .ref 146]) (S' := S) rfl ?_
      obtain ⟨hb4, hr⟩ := ck_some hr
      refine go_iaload mm_304 (q := (Int32.toNatClampNeg ((27 + (3 * a10.2)) + 1))) rfl rfl rfl (ibd_ok hb4) ?_
      show Go XM (d + 7) 304 0 53 [some (.ref 140), some (.int a10.1), some (.int a10.2)] [.int (S.1 146 (Int32.toNatClampNeg ((27 + (3 * a10.2)) + 1))), .long (Int32.toInt64 (S.1 146 (Int32.toNatClampNeg (27 + (3 * a10.2))))), .ref 146] S R
      refine go_run mm_304 2 (pc' := 55) (ls' := [some (.ref 140), some (.int a10.1), some (.int a10.2)]) (st' := [.long 1, .long (Int32.toInt64 (S.1 146 (Int32.toNatClampNeg ((27 + (3 * a10.2)) + 1)))), .long (Int32.toInt64 (S.1 146 (Int32.toNatClampNeg (27 + (3 * a10.2))))), .ref 146]) (S' := S) rfl ?_
      obtain ⟨w1, hw1, hr⟩ := ob_some hr
      refine go_cs mm_304 (av := [.ref 146, .long (Int32.toInt64 (S.1 146 (Int32.toNatClampNeg (27 + (3 * a10.2))))), .long (Int32.toInt64 (S.1 146 (Int32.toNatClampNeg ((27 + (3 * a10.2)) + 1)))), .long 1]) (rest := []) (nl := 16) rfl (show csOK 304 55 172 208 4 16 = true by decide +kernel) rfl rfl rfl (S_208 rfl hw1) (KP_V ?_)
      show Go XM (d + 7) 304 0 58 [some (.ref 140), some (.int a10.1), some (.int a10.2)] [.int (b2i w1)] S R
      refine go_run mm_304 3 (pc' := 10) (ls' := [some (.ref 140), some (.int (b2i w1)), some (.int (a10.2 + 1))]) (st' := []) (S' := S) rfl ?_
      cases hr
      have h9 := hL ((b2i w1), a10.2 + 1) rfl
      dsimp only at h9
      exact Go.le h9 (by repeat first | exact True.intro | refine And.intro rfl ?_)
  · rw [if_neg hc1] at hr
    cases hr
    have h9 := hR (a10.1, a10.2) rfl
    dsimp only [Sum.elim_inl] at h9
    exact Go.le h9 (by repeat first | exact True.intro | refine And.intro rfl ?_)
noncomputable def Lm_304_67 (S : ST) (a67 : Int32 × Int32) : Option ((Int32 × Int32) ⊕ (Int32 × Int32)) := if a67.2 < (S.1 146 2) then (if a67.1 = 0 then (some (.inr (a67.1, a67.2))) else (ck (ibd (45 + (3 * a67.2)) 63) (ck (ibd ((45 + (3 * a67.2)) + 1) 63) (ob (F_208 146 (Int32.toInt64 (S.1 146 (Int32.toNatClampNeg (45 + (3 * a67.2))))) (Int32.toInt64 (S.1 146 (Int32.toNatClampNeg ((45 + (3 * a67.2)) + 1)))) 1 S) (fun w2 => some (.inl ((b2i w2), a67.2 + 1))))))) else (some (.inr (a67.1, a67.2)))
set_option maxRecDepth 20000 in
theorem LSm_304_67 {d : Nat} {R : RT} {S : ST} {a67 : Int32 × Int32} {r9} (hr : Lm_304_67 S a67 = some r9) (hL : ∀ a9, r9 = .inl a9 → (fun a67 => Go XM (d + 7) 304 0 67 [some (.ref 140), some (.int a67.1), some (.int a67.2)] [] S R) a9) (hR : ∀ b9, r9 = .inr b9 → (fun e67 => Go XM (d + 7) 304 0 122 [some (.ref 140), some (.int e67.1), some (.int e67.2)] [] S R) b9) : Go XM (d + 7) 304 0 67 [some (.ref 140), some (.int a67.1), some (.int a67.2)] [] S R := by
  unfold Lm_304_67 at hr
  refine go_run mm_304 4 (pc' := 73) (ls' := [some (.ref 140), some (.int a67.1), some (.int a67.2)]) (st' := [.int 2, .ref 146, .int a67.2]) (S' := S) rfl ?_
  refine go_iaload mm_304 (q := 2) rfl rfl rfl (inB_lit rfl) ?_
  show Go XM (d + 7) 304 0 74 [some (.ref 140), some (.int a67.1), some (.int a67.2)] [.int (S.1 146 2), .int a67.2] S R
  refine go_if2 mm_304 rfl (p1 := 77) (p2 := 122) rfl (fun (hc5 : a67.2 < (S.1 146 2)) => ?_) (fun (hc5 : ¬ a67.2 < (S.1 146 2)) => ?_)
  · rw [if_pos hc5] at hr
    refine go_run mm_304 1 (pc' := 78) (ls' := [some (.ref 140), some (.int a67.1), some (.int a67.2)]) (st' := [.int a67.1]) (S' := S) rfl ?_
    refine go_if0 mm_304 rfl (p1 := 122) (p2 := 81) rfl (fun (hc6 : a67.1 = 0) => ?_) (fun (hc6 : ¬ a67.1 = 0) => ?_)
    · rw [if_pos hc6] at hr
      cases hr
      have h9 := hR (a67.1, a67.2) rfl
      dsimp only [Sum.elim_inl] at h9
      exact Go.le h9 (by repeat first | exact True.intro | refine And.intro rfl ?_)
    · rw [if_neg hc6] at hr
      refine go_run mm_304 9 (pc' := 95) (ls' := [some (.ref 140), some (.int a67.1), some (.int a67.2)]) (st' := [.int (45 + (3 * a67.2)), .ref 146, .ref 146]) (S' := S) rfl ?_
      obtain ⟨hb7, hr⟩ := ck_some hr
      refine go_iaload mm_304 (q := (Int32.toNatClampNeg (45 + (3 * a67.2)))) rfl rfl rfl (ibd_ok hb7) ?_
      show Go XM (d + 7) 304 0 96 [some (.ref 140), some (.int a67.1), some (.int a67.2)] [.int (S.1 146 (Int32.toNatClampNeg (45 + (3 * a67.2)))), .ref 146] S R
      refine go_run mm_304 10 (pc' := 109) (ls' := [some (.ref 140), some (.int a67.1), some (.int a67.2)]) (st' := [.int ((45 + (3 * a67.2)) + 1), .ref 146, .long (Int32.toInt64 (S.1 146 (Int32.toNatClampNeg (45 + (3 * a67.2))))), .ref 146]) (S' := S) rfl ?_
      obtain ⟨hb8, hr⟩ := ck_some hr
      refine go_iaload mm_304 (q := (Int32.toNatClampNeg ((45 + (3 * a67.2)) + 1))) rfl rfl rfl (ibd_ok hb8) ?_
      show Go XM (d + 7) 304 0 110 [some (.ref 140), some (.int a67.1), some (.int a67.2)] [.int (S.1 146 (Int32.toNatClampNeg ((45 + (3 * a67.2)) + 1))), .long (Int32.toInt64 (S.1 146 (Int32.toNatClampNeg (45 + (3 * a67.2))))), .ref 146] S R
      refine go_run mm_304 2 (pc' := 112) (ls' := [some (.ref 140), some (.int a67.1), some (.int a67.2)]) (st' := [.long 1, .long (Int32.toInt64 (S.1 146 (Int32.toNatClampNeg ((45 + (3 * a67.2)) + 1)))), .long (Int32.toInt64 (S.1 146 (Int32.toNatClampNeg (45 + (3 * a67.2))))), .ref 146]) (S' := S) rfl ?_
      obtain ⟨w2, hw2, hr⟩ := ob_some hr
      refine go_cs mm_304 (av := [.ref 146, .long (Int32.toInt64 (S.1 146 (Int32.toNatClampNeg (45 + (3 * a67.2))))), .long (Int32.toInt64 (S.1 146 (Int32.toNatClampNeg ((45 + (3 * a67.2)) + 1)))), .long 1]) (rest := []) (nl := 16) rfl (show csOK 304 112 172 208 4 16 = true by decide +kernel) rfl rfl rfl (S_208 rfl hw2) (KP_V ?_)
      show Go XM (d + 7) 304 0 115 [some (.ref 140), some (.int a67.1), some (.int a67.2)] [.int (b2i w2)] S R
      refine go_run mm_304 3 (pc' := 67) (ls' := [some (.ref 140), some (.int (b2i w2)), some (.int (a67.2 + 1))]) (st' := []) (S' := S) rfl ?_
      cases hr
      have h9 := hL ((b2i w2), a67.2 + 1) rfl
      dsimp only at h9
      exact Go.le h9 (by repeat first | exact True.intro | refine And.intro rfl ?_)
  · rw [if_neg hc5] at hr
    cases hr
    have h9 := hR (a67.1, a67.2) rfl
    dsimp only [Sum.elim_inl] at h9
    exact Go.le h9 (by repeat first | exact True.intro | refine And.intro rfl ?_)
noncomputable def Lm_304_147 (p147_1 : Int32) (a147 : Int32 × ST) : Option ((Int32 × ST) ⊕ (Int32 × ST)) := if a147.1 < 63 then (ck (ibd a147.1 63) (ck (ibd a147.1 63) (sbn ((wI a147.2 141 (Int32.toNatClampNeg a147.1) (a147.2.1 146 (Int32.toNatClampNeg a147.1)))) (fun s14 => some (.inl (a147.1 + 1, s14)))))) else (some (.inr (a147.1, a147.2)))
set_option maxRecDepth 20000 in
theorem LSm_304_147 {d : Nat} {R : RT} {p147_1 : Int32} {a147 : Int32 × ST} {r9} (hr : Lm_304_147 p147_1 a147 = some r9) (hL : ∀ a9, r9 = .inl a9 → (fun a147 => Go XM (d + 7) 304 0 147 [some (.ref 140), some (.int p147_1), some (.int a147.1)] [] a147.2 R) a9) (hR : ∀ b9, r9 = .inr b9 → (fun e147 => Go XM (d + 7) 304 0 171 [some (.ref 140), some (.int p147_1), some (.int e147.1)] [] e147.2 R) b9) : Go XM (d + 7) 304 0 147 [some (.ref 140), some (.int p147_1), some (.int a147.1)] [] a147.2 R := by
  unfold Lm_304_147 at hr
  refine go_run mm_304 2 (pc' := 150) (ls' := [some (.ref 140), some (.int p147_1), some (.int a147.1)]) (st' := [.int 63, .int a147.1]) (S' := a147.2) rfl ?_
  refine go_if2 mm_304 rfl (p1 := 153) (p2 := 171) rfl (fun (hc11 : a147.1 < 63) => ?_) (fun (hc11 : ¬ a147.1 < 63) => ?_)
  · rw [if_pos hc11] at hr
    refine go_run mm_304 6 (pc' := 163) (ls' := [some (.ref 140), some (.int p147_1), some (.int a147.1)]) (st' := [.int a147.1, .ref 146, .int a147.1, .ref 141]) (S' := a147.2) rfl ?_
    obtain ⟨hb12, hr⟩ := ck_some hr
    refine go_iaload mm_304 (q := (Int32.toNatClampNeg a147.1)) rfl rfl rfl (ibd_ok hb12) ?_
    show Go XM (d + 7) 304 0 164 [some (.ref 140), some (.int p147_1), some (.int a147.1)] [.int (a147.2.1 146 (Int32.toNatClampNeg a147.1)), .int a147.1, .ref 141] a147.2 R
    obtain ⟨hb13, hr⟩ := ck_some hr
    refine go_iastore mm_304 (q := (Int32.toNatClampNeg a147.1)) rfl rfl rfl (ibd_ok hb13) ?_
    show Go XM (d + 7) 304 0 165 [some (.ref 140), some (.int p147_1), some (.int a147.1)] [] (wI a147.2 141 (Int32.toNatClampNeg a147.1) (a147.2.1 146 (Int32.toNatClampNeg a147.1))) R
    obtain ⟨s14, es14, hr⟩ := sbn_some hr
    rw [← es14]
    refine go_run mm_304 2 (pc' := 147) (ls' := [some (.ref 140), some (.int p147_1), some (.int (a147.1 + 1))]) (st' := []) (S' := s14) rfl ?_
    cases hr
    have h9 := hL (a147.1 + 1, s14) rfl
    dsimp only at h9
    exact Go.le h9 (by repeat first | exact True.intro | refine And.intro rfl ?_)
  · rw [if_neg hc11] at hr
    cases hr
    have h9 := hR (a147.1, a147.2) rfl
    dsimp only [Sum.elim_inl] at h9
    exact Go.le h9 (by repeat first | exact True.intro | refine And.intro rfl ?_)
noncomputable def F_304 (S : ST) : Option (Int32 × ST) := ob (wh FU (Lm_304_10 S) ((b2i (F_213 146 S)), 0)) (fun e10 => ob (wh FU (Lm_304_67 S) (e10.1, 0)) (fun e67 => ob (F_183 (decide (e67.1 = 0)) 3 S) (fun w3 => if w3.1 = true then (some (0, w3.2)) else (ob (F_299 w3.2) (fun w4 => ob (wh FU (Lm_304_147 e67.1) (0, w4.2)) (fun e147 => ob (F_214 (wI e147.2 140 27 0)) (fun w5 => some (w5.2.1 140 20, w5.2))))))))
set_option maxRecDepth 20000 in
theorem S_304 {d : Nat} {S : ST} {r} (hr : F_304 S = some r) : Cal XM (d + 7) 304 [.ref 140] S (RV (vI r.1) r.2) := by
  unfold F_304 at hr
  refine cal_go 2 rfl ?_
  refine go_run mm_304 2 (pc' := 4) (ls' := [some (.ref 140), none, none]) (st' := [.ref 146]) (S' := S) rfl ?_
  refine go_cs mm_304 (av := [.ref 146]) (rest := []) (nl := 1) rfl (show csOK 304 4 168 213 1 1 = true by decide +kernel) rfl rfl rfl (S_213 rfl rfl) (KP_V ?_)
  show Go XM (d + 7) 304 0 7 [some (.ref 140), none, none] [.int (b2i (F_213 146 S))] S (RV (vI r.1) r.2)
  refine go_run mm_304 3 (pc' := 10) (ls' := [some (.ref 140), some (.int (b2i (F_213 146 S))), some (.int 0)]) (st' := []) (S' := S) rfl ?_
  obtain ⟨z10, he10, hr⟩ := ob_some hr
  refine Go.le (ls' := [some (.ref 140), some (.int (b2i (F_213 146 S))), some (.int 0)]) ?_ (by repeat first | exact True.intro | refine And.intro rfl ?_)
  refine wh_go (P := fun a10 => Go XM (d + 7) 304 0 10 [some (.ref 140), some (.int a10.1), some (.int a10.2)] [] S (RV (vI r.1) r.2)) (K := fun e10 => Go XM (d + 7) 304 0 65 [some (.ref 140), some (.int e10.1), some (.int e10.2)] [] S (RV (vI r.1) r.2)) (fun a9 r9 h9 hL hR => LSm_304_10 h9 hL hR) _ _ _ he10 ?_
  generalize z10 = e10 at hr
  show Go XM (d + 7) 304 0 65 [some (.ref 140), some (.int e10.1), some (.int e10.2)] [] S (RV (vI r.1) r.2)
  refine go_run mm_304 2 (pc' := 67) (ls' := [some (.ref 140), some (.int e10.1), some (.int 0)]) (st' := []) (S' := S) rfl ?_
  obtain ⟨z67, he67, hr⟩ := ob_some hr
  refine Go.le (ls' := [some (.ref 140), some (.int e10.1), some (.int 0)]) ?_ (by repeat first | exact True.intro | refine And.intro rfl ?_)
  refine wh_go (P := fun a67 => Go XM (d + 7) 304 0 67 [some (.ref 140), some (.int a67.1), some (.int a67.2)] [] S (RV (vI r.1) r.2)) (K := fun e67 => Go XM (d + 7) 304 0 122 [some (.ref 140), some (.int e67.1), some (.int e67.2)] [] S (RV (vI r.1) r.2)) (fun a9 r9 h9 hL hR => LSm_304_67 h9 hL hR) _ _ _ he67 ?_
  generalize z67 = e67 at hr
  show Go XM (d + 7) 304 0 122 [some (.ref 140), some (.int e67.1), some (.int e67.2)] [] S (RV (vI r.1) r.2)
  refine go_run mm_304 2 (pc' := 124) (ls' := [some (.ref 140), some (.int e67.1), some (.int e67.2)]) (st' := [.int e67.1, .ref 140]) (S' := S) rfl ?_
  have j15 : Go XM (d + 7) 304 0 132 [some (.ref 140), some (.int e67.1), some (.int e67.2)] [.int (b2i (decide (e67.1 = 0))), .ref 140] S (RV (vI r.1) r.2) := by
    refine go_run mm_304 1 (pc' := 133) (ls' := [some (.ref 140), some (.int e67.1), some (.int e67.2)]) (st' := [.int 3, .int (b2i (decide (e67.1 = 0))), .ref 140]) (S' := S) rfl ?_
    obtain ⟨w3, hw3, hr⟩ := ob_some hr
    refine go_cv mm_304 (h := 140) (As := [.int (b2i (decide (e67.1 = 0))), .int 3]) (rest := []) (nl := 3) rfl rfl (show cvOK 304 133 86 183 2 3 11 = true by decide +kernel) rfl rfl rfl (S_183 hw3) (KP_V ?_)
    show Go XM (d + 7) 304 0 136 [some (.ref 140), some (.int e67.1), some (.int e67.2)] [.int (b2i w3.1)] w3.2 (RV (vI r.1) r.2)
    refine go_ifb mm_304 rfl (p1 := 139) (p2 := 141) rfl (fun (hc10 : w3.1 = true) => ?_) (fun (hc10 : w3.1 = false) => ?_)
    · rw [if_pos hc10] at hr
      refine go_run mm_304 1 (pc' := 140) (ls' := [some (.ref 140), some (.int e67.1), some (.int e67.2)]) (st' := [.int 0]) (S' := w3.2) rfl ?_
      cases hr
      exact go_ireturn mm_304 rfl rfl ⟨rfl, rfl, rfl⟩
    · rw [if_neg (bf hc10)] at hr
      refine go_run mm_304 1 (pc' := 142) (ls' := [some (.ref 140), some (.int e67.1), some (.int e67.2)]) (st' := [.ref 140]) (S' := w3.2) rfl ?_
      obtain ⟨w4, hw4, hr⟩ := ob_some hr
      refine go_cv mm_304 (h := 140) (As := []) (rest := []) (nl := 2) rfl rfl (show cvOK 304 142 385 299 0 2 11 = true by decide +kernel) rfl rfl rfl (S_299 hw4) (KP_V ?_)
      show Go XM (d + 7) 304 0 145 [some (.ref 140), some (.int e67.1), some (.int e67.2)] [] w4.2 (RV (vI r.1) r.2)
      refine go_run mm_304 2 (pc' := 147) (ls' := [some (.ref 140), some (.int e67.1), some (.int 0)]) (st' := []) (S' := w4.2) rfl ?_
      obtain ⟨z147, he147, hr⟩ := ob_some hr
      refine Go.le (ls' := [some (.ref 140), some (.int e67.1), some (.int 0)]) ?_ (by repeat first | exact True.intro | refine And.intro rfl ?_)
      refine wh_go (P := fun a147 => Go XM (d + 7) 304 0 147 [some (.ref 140), some (.int e67.1), some (.int a147.1)] [] a147.2 (RV (vI r.1) r.2)) (K := fun e147 => Go XM (d + 7) 304 0 171 [some (.ref 140), some (.int e67.1), some (.int e147.1)] [] e147.2 (RV (vI r.1) r.2)) (fun a9 r9 h9 hL hR => LSm_304_147 h9 hL hR) _ _ _ he147 ?_
      generalize z147 = e147 at hr
      show Go XM (d + 7) 304 0 171 [some (.ref 140), some (.int e67.1), some (.int e147.1)] [] e147.2 (RV (vI r.1) r.2)
      refine go_run mm_304 4 (pc' := 177) (ls' := [some (.ref 140), some (.int e67.1), some (.int e147.1)]) (st' := [.ref 140]) (S' := (wI e147.2 140 27 0)) rfl ?_
      obtain ⟨w5, hw5, hr⟩ := ob_some hr
      refine go_cv mm_304 (h := 140) (As := []) (rest := []) (nl := 4) rfl rfl (show cvOK 304 177 198 214 0 4 11 = true by decide +kernel) rfl rfl rfl (S_214 hw5) (KP_V ?_)
      show Go XM (d + 7) 304 0 180 [some (.ref 140), some (.int e67.1), some (.int e147.1)] [] w5.2 (RV (vI r.1) r.2)
      refine go_run mm_304 2 (pc' := 184) (ls' := [some (.ref 140), some (.int e67.1), some (.int e147.1)]) (st' := [.int (w5.2.1 140 20)]) (S' := w5.2) rfl ?_
      cases hr
      exact go_ireturn mm_304 rfl rfl ⟨rfl, rfl, rfl⟩
  refine go_if0 mm_304 rfl (p1 := 127) (p2 := 131) rfl (fun (hc9 : e67.1 = 0) => ?_) (fun (hc9 : ¬ e67.1 = 0) => ?_)
  · refine go_run mm_304 2 (pc' := 132) (ls' := [some (.ref 140), some (.int e67.1), some (.int e67.2)]) (st' := [.int 1, .ref 140]) (S' := S) rfl ?_
    have e : ((b2i (decide (e67.1 = 0))) : Int32) = 1 := by simp [b2i, hc9]
    rw [e] at j15
    exact j15
  · refine go_run mm_304 1 (pc' := 132) (ls' := [some (.ref 140), some (.int e67.1), some (.int e67.2)]) (st' := [.int 0, .ref 140]) (S' := S) rfl ?_
    have e : ((b2i (decide (e67.1 = 0))) : Int32) = 0 := by simp [b2i, hc9]
    rw [e] at j15
    exact j15

noncomputable def Lm_305_2 (a2 : Int32 × ST) : Option ((Int32 × ST) ⊕ (Int32 × ST)) := if a2.1 < 63 then (ck (ibd a2.1 63) (ck (ibd a2.1 63) (sbn ((wI a2.2 146 (Int32.toNatClampNeg a2.1) (a2.2.1 141 (Int32.toNatClampNeg a2.1)))) (fun s4 => some (.inl (a2.1 + 1, s4)))))) else (some (.inr (a2.1, a2.2)))
set_option maxRecDepth 20000 in
theorem LSm_305_2 {d : Nat} {R : RT} {a2 : Int32 × ST} {r9} (hr : Lm_305_2 a2 = some r9) (hL : ∀ a9, r9 = .inl a9 → (fun a2 => Go XM d 305 0 2 [some (.ref 140), some (.int a2.1)] [] a2.2 R) a9) (hR : ∀ b9, r9 = .inr b9 → (fun e2 => Go XM d 305 0 26 [some (.ref 140), some (.int e2.1)] [] e2.2 R) b9) : Go XM d 305 0 2 [some (.ref 140), some (.int a2.1)] [] a2.2 R := by
  unfold Lm_305_2 at hr
  refine go_run mm_305 2 (pc' := 5) (ls' := [some (.ref 140), some (.int a2.1)]) (st' := [.int 63, .int a2.1]) (S' := a2.2) rfl ?_
  refine go_if2 mm_305 rfl (p1 := 8) (p2 := 26) rfl (fun (hc1 : a2.1 < 63) => ?_) (fun (hc1 : ¬ a2.1 < 63) => ?_)
  · rw [if_pos hc1] at hr
    refine go_run mm_305 6 (pc' := 18) (ls' := [some (.ref 140), some (.int a2.1)]) (st' := [.int a2.1, .ref 141, .int a2.1, .ref 146]) (S' := a2.2) rfl ?_
    obtain ⟨hb2, hr⟩ := ck_some hr
    refine go_iaload mm_305 (q := (Int32.toNatClampNeg a2.1)) rfl rfl rfl (ibd_ok hb2) ?_
    show Go XM d 305 0 19 [some (.ref 140), some (.int a2.1)] [.int (a2.2.1 141 (Int32.toNatClampNeg a2.1)), .int a2.1, .ref 146] a2.2 R
    obtain ⟨hb3, hr⟩ := ck_some hr
    refine go_iastore mm_305 (q := (Int32.toNatClampNeg a2.1)) rfl rfl rfl (ibd_ok hb3) ?_
    show Go XM d 305 0 20 [some (.ref 140), some (.int a2.1)] [] (wI a2.2 146 (Int32.toNatClampNeg a2.1) (a2.2.1 141 (Int32.toNatClampNeg a2.1))) R
    obtain ⟨s4, es4, hr⟩ := sbn_some hr
    rw [← es4]
    refine go_run mm_305 2 (pc' := 2) (ls' := [some (.ref 140), some (.int (a2.1 + 1))]) (st' := []) (S' := s4) rfl ?_
    cases hr
    have h9 := hL (a2.1 + 1, s4) rfl
    dsimp only at h9
    exact Go.le h9 (by repeat first | exact True.intro | refine And.intro rfl ?_)
  · rw [if_neg hc1] at hr
    cases hr
    have h9 := hR (a2.1, a2.2) rfl
    dsimp only [Sum.elim_inl] at h9
    exact Go.le h9 (by repeat first | exact True.intro | refine And.intro rfl ?_)
noncomputable def F_305 (S : ST) : Option (Unit × ST) := ob (wh FU (Lm_305_2) (0, S)) (fun e2 => some ((), e2.2))
set_option maxRecDepth 20000 in
theorem S_305 {d : Nat} {S : ST} {r} (hr : F_305 S = some r) : Cal XM d 305 [.ref 140] S (RV (vU r.1) r.2) := by
  unfold F_305 at hr
  refine cal_go 1 rfl ?_
  refine go_run mm_305 2 (pc' := 2) (ls' := [some (.ref 140), some (.int 0)]) (st' := []) (S' := S) rfl ?_
  obtain ⟨z2, he2, hr⟩ := ob_some hr
  refine Go.le (ls' := [some (.ref 140), some (.int 0)]) ?_ (by repeat first | exact True.intro | refine And.intro rfl ?_)
  refine wh_go (P := fun a2 => Go XM d 305 0 2 [some (.ref 140), some (.int a2.1)] [] a2.2 (RV (vU r.1) r.2)) (K := fun e2 => Go XM d 305 0 26 [some (.ref 140), some (.int e2.1)] [] e2.2 (RV (vU r.1) r.2)) (fun a9 r9 h9 hL hR => LSm_305_2 h9 hL hR) _ _ _ he2 ?_
  generalize z2 = e2 at hr
  show Go XM d 305 0 26 [some (.ref 140), some (.int e2.1)] [] e2.2 (RV (vU r.1) r.2)
  cases hr
  exact go_vreturn mm_305 rfl rfl ⟨rfl, rfl, rfl⟩

noncomputable def F_306 (v1 : Int32) (v2 : Int32) : Bool := (!(F_182 v1 0 15) || (!(F_182 v2 0 15)))
set_option maxRecDepth 20000 in
theorem S_306 {d : Nat} {S : ST} {v1 : Int32} {v2 : Int32} {r} (hr : F_306 v1 v2 = r) : Cal XM (d + 1) 306 [.ref 140, .int v1, .int v2] S (RV (vZ r) S) := by
  unfold F_306 at hr
  refine cal_go 0 rfl ?_
  refine go_run mm_306 3 (pc' := 4) (ls' := [some (.ref 140), some (.int v1), some (.int v2)]) (st' := [.int 15, .int 0, .int v1]) (S' := S) rfl ?_
  refine go_cs mm_306 (av := [.int v1, .int 0, .int 15]) (rest := []) (nl := 3) rfl (show csOK 306 4 148 182 3 3 = true by decide +kernel) rfl rfl rfl (S_182 rfl) (KP_V ?_)
  show Go XM (d + 1) 306 0 7 [some (.ref 140), some (.int v1), some (.int v2)] [.int (b2i (F_182 v1 0 15))] S (RV (vZ r) S)
  have j4 : Go XM (d + 1) 306 0 25 [some (.ref 140), some (.int v1), some (.int v2)] [.int (b2i (!(F_182 v1 0 15) || (!(F_182 v2 0 15))))] S (RV (vZ r) S) := by
    cases hr
    exact go_zreturn mm_306 rfl rfl (b2i_01 _) ⟨rfl, rfl, rfl⟩
  refine go_ifb mm_306 rfl (p1 := 10) (p2 := 20) rfl (fun (hc1 : (F_182 v1 0 15) = true) => ?_) (fun (hc1 : (F_182 v1 0 15) = false) => ?_)
  · refine go_run mm_306 3 (pc' := 14) (ls' := [some (.ref 140), some (.int v1), some (.int v2)]) (st' := [.int 15, .int 0, .int v2]) (S' := S) rfl ?_
    refine go_cs mm_306 (av := [.int v2, .int 0, .int 15]) (rest := []) (nl := 3) rfl (show csOK 306 14 148 182 3 3 = true by decide +kernel) rfl rfl rfl (S_182 rfl) (KP_V ?_)
    show Go XM (d + 1) 306 0 17 [some (.ref 140), some (.int v1), some (.int v2)] [.int (b2i (F_182 v2 0 15))] S (RV (vZ r) S)
    have j3 : Go XM (d + 1) 306 0 25 [some (.ref 140), some (.int v1), some (.int v2)] [.int (b2i (!(F_182 v2 0 15)))] S (RV (vZ r) S) := by
      have e : ((b2i (!(F_182 v1 0 15) || (!(F_182 v2 0 15)))) : Int32) = (b2i (!(F_182 v2 0 15))) := by simp [b2i, hc1]
      rw [e] at j4
      exact j4
    refine go_ifb mm_306 rfl (p1 := 24) (p2 := 20) rfl (fun (hc2 : (F_182 v2 0 15) = true) => ?_) (fun (hc2 : (F_182 v2 0 15) = false) => ?_)
    · refine go_run mm_306 1 (pc' := 25) (ls' := [some (.ref 140), some (.int v1), some (.int v2)]) (st' := [.int 0]) (S' := S) rfl ?_
      have e : ((b2i (!(F_182 v2 0 15))) : Int32) = 0 := by simp [b2i, hc2]
      rw [e] at j3
      exact j3
    · refine go_run mm_306 2 (pc' := 25) (ls' := [some (.ref 140), some (.int v1), some (.int v2)]) (st' := [.int 1]) (S' := S) rfl ?_
      have e : ((b2i (!(F_182 v2 0 15))) : Int32) = 1 := by simp [b2i, hc2]
      rw [e] at j3
      exact j3
  · refine go_run mm_306 2 (pc' := 25) (ls' := [some (.ref 140), some (.int v1), some (.int v2)]) (st' := [.int 1]) (S' := S) rfl ?_
    have e : ((b2i (!(F_182 v1 0 15) || (!(F_182 v2 0 15)))) : Int32) = 1 := by simp [b2i, hc1]
    rw [e] at j4
    exact j4

noncomputable def F_307 (v1 : Int32) (v2 : Int32) (v3 : Int32) (S : ST) : Option (Int32 × ST) := ob (F_225 v1 S) (fun w1 => if w1.1 = true then (some (0, w1.2)) else (ob (F_183 (F_306 v2 v3) 3 w1.2) (fun w2 => if w2.1 = true then (some (0, w2.2)) else (ob (F_305 w2.2) (fun w3 => ck (ibd (3 + v1) 63) (sbn ((wI w3.2 146 (Int32.toNatClampNeg (3 + v1)) v2)) (fun s4 => ck (ibd (15 + v1) 63) (sbn ((wI s4 146 (Int32.toNatClampNeg (15 + v1)) v3)) (fun s6 => ob (F_304 s6) (fun w4 => some (w4.1, w4.2)))))))))))
set_option maxRecDepth 20000 in
theorem S_307 {d : Nat} {S : ST} {v1 : Int32} {v2 : Int32} {v3 : Int32} {r} (hr : F_307 v1 v2 v3 S = some r) : Cal XM (d + 8) 307 [.ref 140, .int v1, .int v2, .int v3] S (RV (vI r.1) r.2) := by
  unfold F_307 at hr
  refine cal_go 0 rfl ?_
  refine go_run mm_307 2 (pc' := 2) (ls' := [some (.ref 140), some (.int v1), some (.int v2), some (.int v3)]) (st' := [.int v1, .ref 140]) (S' := S) rfl ?_
  obtain ⟨w1, hw1, hr⟩ := ob_some hr
  refine go_cv mm_307 (h := 140) (As := [.int v1]) (rest := []) (nl := 2) rfl rfl (show cvOK 307 2 251 225 1 2 11 = true by decide +kernel) rfl rfl rfl (S_225 hw1) (KP_V ?_)
  show Go XM (d + 8) 307 0 5 [some (.ref 140), some (.int v1), some (.int v2), some (.int v3)] [.int (b2i w1.1)] w1.2 (RV (vI r.1) r.2)
  refine go_ifb mm_307 rfl (p1 := 22) (p2 := 8) rfl (fun (hc1 : w1.1 = true) => ?_) (fun (hc1 : w1.1 = false) => ?_)
  · rw [if_pos hc1] at hr
    refine go_run mm_307 1 (pc' := 23) (ls' := [some (.ref 140), some (.int v1), some (.int v2), some (.int v3)]) (st' := [.int 0]) (S' := w1.2) rfl ?_
    cases hr
    exact go_ireturn mm_307 rfl rfl ⟨rfl, rfl, rfl⟩
  · rw [if_neg (bf hc1)] at hr
    refine go_run mm_307 4 (pc' := 12) (ls' := [some (.ref 140), some (.int v1), some (.int v2), some (.int v3)]) (st' := [.int v3, .int v2, .ref 140, .ref 140]) (S' := w1.2) rfl ?_
    refine go_cv mm_307 (h := 140) (As := [.int v2, .int v3]) (rest := [.ref 140]) (nl := 3) rfl rfl (show cvOK 307 12 388 306 2 3 11 = true by decide +kernel) rfl rfl rfl (S_306 rfl) (KP_V ?_)
    show Go XM (d + 8) 307 0 15 [some (.ref 140), some (.int v1), some (.int v2), some (.int v3)] [.int (b2i (F_306 v2 v3)), .ref 140] w1.2 (RV (vI r.1) r.2)
    refine go_run mm_307 1 (pc' := 16) (ls' := [some (.ref 140), some (.int v1), some (.int v2), some (.int v3)]) (st' := [.int 3, .int (b2i (F_306 v2 v3)), .ref 140]) (S' := w1.2) rfl ?_
    obtain ⟨w2, hw2, hr⟩ := ob_some hr
    refine go_cv mm_307 (h := 140) (As := [.int (b2i (F_306 v2 v3)), .int 3]) (rest := []) (nl := 3) rfl rfl (show cvOK 307 16 86 183 2 3 11 = true by decide +kernel) rfl rfl rfl (S_183 hw2) (KP_V ?_)
    show Go XM (d + 8) 307 0 19 [some (.ref 140), some (.int v1), some (.int v2), some (.int v3)] [.int (b2i w2.1)] w2.2 (RV (vI r.1) r.2)
    refine go_ifb mm_307 rfl (p1 := 22) (p2 := 24) rfl (fun (hc2 : w2.1 = true) => ?_) (fun (hc2 : w2.1 = false) => ?_)
    · rw [if_pos hc2] at hr
      refine go_run mm_307 1 (pc' := 23) (ls' := [some (.ref 140), some (.int v1), some (.int v2), some (.int v3)]) (st' := [.int 0]) (S' := w2.2) rfl ?_
      cases hr
      exact go_ireturn mm_307 rfl rfl ⟨rfl, rfl, rfl⟩
    · rw [if_neg (bf hc2)] at hr
      refine go_run mm_307 1 (pc' := 25) (ls' := [some (.ref 140), some (.int v1), some (.int v2), some (.int v3)]) (st' := [.ref 140]) (S' := w2.2) rfl ?_
      obtain ⟨w3, hw3, hr⟩ := ob_some hr
      refine go_cv mm_307 (h := 140) (As := []) (rest := []) (nl := 2) rfl rfl (show cvOK 307 25 391 305 0 2 11 = true by decide +kernel) rfl rfl rfl (S_305 hw3) (KP_V ?_)
      show Go XM (d + 8) 307 0 28 [some (.ref 140), some (.int v1), some (.int v2), some (.int v3)] [] w3.2 (RV (vI r.1) r.2)
      refine go_run mm_307 6 (pc' := 36) (ls' := [some (.ref 140), some (.int v1), some (.int v2), some (.int v3)]) (st' := [.int v2, .int (3 + v1), .ref 146]) (S' := w3.2) rfl ?_
      obtain ⟨hb3, hr⟩ := ck_some hr
      refine go_iastore mm_307 (q := (Int32.toNatClampNeg (3 + v1))) rfl rfl rfl (ibd_ok hb3) ?_
      show Go XM (d + 8) 307 0 37 [some (.ref 140), some (.int v1), some (.int v2), some (.int v3)] [] (wI w3.2 146 (Int32.toNatClampNeg (3 + v1)) v2) (RV (vI r.1) r.2)
      obtain ⟨s4, es4, hr⟩ := sbn_some hr
      rw [← es4]
      refine go_run mm_307 6 (pc' := 46) (ls' := [some (.ref 140), some (.int v1), some (.int v2), some (.int v3)]) (st' := [.int v3, .int (15 + v1), .ref 146]) (S' := s4) rfl ?_
      obtain ⟨hb5, hr⟩ := ck_some hr
      refine go_iastore mm_307 (q := (Int32.toNatClampNeg (15 + v1))) rfl rfl rfl (ibd_ok hb5) ?_
      show Go XM (d + 8) 307 0 47 [some (.ref 140), some (.int v1), some (.int v2), some (.int v3)] [] (wI s4 146 (Int32.toNatClampNeg (15 + v1)) v3) (RV (vI r.1) r.2)
      obtain ⟨s6, es6, hr⟩ := sbn_some hr
      rw [← es6]
      refine go_run mm_307 1 (pc' := 48) (ls' := [some (.ref 140), some (.int v1), some (.int v2), some (.int v3)]) (st' := [.ref 140]) (S' := s6) rfl ?_
      obtain ⟨w4, hw4, hr⟩ := ob_some hr
      refine go_cv mm_307 (h := 140) (As := []) (rest := []) (nl := 3) rfl rfl (show cvOK 307 48 394 304 0 3 11 = true by decide +kernel) rfl rfl rfl (S_304 hw4) (KP_V ?_)
      show Go XM (d + 8) 307 0 51 [some (.ref 140), some (.int v1), some (.int v2), some (.int v3)] [.int w4.1] w4.2 (RV (vI r.1) r.2)
      cases hr
      exact go_ireturn mm_307 rfl rfl ⟨rfl, rfl, rfl⟩

noncomputable def Lm_308_55 (v1 : Int32) (v2 : Int32) (v3 : Int32) (a55 : Int32 × ST) : Option ((Int32 × ST) ⊕ (Int32 × ST)) := if (v1 + 1) < a55.1 then (ck (ibd ((3 + a55.1) - 1) 63) (ck (ibd (3 + a55.1) 63) (sbn ((wI a55.2 146 (Int32.toNatClampNeg (3 + a55.1)) (a55.2.1 141 (Int32.toNatClampNeg ((3 + a55.1) - 1))))) (fun s9 => ck (ibd ((15 + a55.1) - 1) 63) (ck (ibd (15 + a55.1) 63) (sbn ((wI s9 146 (Int32.toNatClampNeg (15 + a55.1)) (s9.1 141 (Int32.toNatClampNeg ((15 + a55.1) - 1))))) (fun s12 => some (.inl (a55.1 + (-1), s12))))))))) else (some (.inr (a55.1, a55.2)))
set_option maxRecDepth 20000 in
theorem LSm_308_55 {d : Nat} {R : RT} {v1 : Int32} {v2 : Int32} {v3 : Int32} {a55 : Int32 × ST} {r9} (hr : Lm_308_55 v1 v2 v3 a55 = some r9) (hL : ∀ a9, r9 = .inl a9 → (fun a55 => Go XM (d + 8) 308 0 55 [some (.ref 140), some (.int v1), some (.int v2), some (.int v3), some (.int a55.1)] [] a55.2 R) a9) (hR : ∀ b9, r9 = .inr b9 → (fun e55 => Go XM (d + 8) 308 0 111 [some (.ref 140), some (.int v1), some (.int v2), some (.int v3), some (.int e55.1)] [] e55.2 R) b9) : Go XM (d + 8) 308 0 55 [some (.ref 140), some (.int v1), some (.int v2), some (.int v3), some (.int a55.1)] [] a55.2 R := by
  unfold Lm_308_55 at hr
  refine go_run mm_308 4 (pc' := 60) (ls' := [some (.ref 140), some (.int v1), some (.int v2), some (.int v3), some (.int a55.1)]) (st' := [.int (v1 + 1), .int a55.1]) (S' := a55.2) rfl ?_
  refine go_if2 mm_308 rfl (p1 := 63) (p2 := 111) rfl (fun (hc6 : (v1 + 1) < a55.1) => ?_) (fun (hc6 : ¬ (v1 + 1) < a55.1) => ?_)
  · rw [if_pos hc6] at hr
    refine go_run mm_308 12 (pc' := 81) (ls' := [some (.ref 140), some (.int v1), some (.int v2), some (.int v3), some (.int a55.1)]) (st' := [.int ((3 + a55.1) - 1), .ref 141, .int (3 + a55.1), .ref 146]) (S' := a55.2) rfl ?_
    obtain ⟨hb7, hr⟩ := ck_some hr
    refine go_iaload mm_308 (q := (Int32.toNatClampNeg ((3 + a55.1) - 1))) rfl rfl rfl (ibd_ok hb7) ?_
    show Go XM (d + 8) 308 0 82 [some (.ref 140), some (.int v1), some (.int v2), some (.int v3), some (.int a55.1)] [.int (a55.2.1 141 (Int32.toNatClampNeg ((3 + a55.1) - 1))), .int (3 + a55.1), .ref 146] a55.2 R
    obtain ⟨hb8, hr⟩ := ck_some hr
    refine go_iastore mm_308 (q := (Int32.toNatClampNeg (3 + a55.1))) rfl rfl rfl (ibd_ok hb8) ?_
    show Go XM (d + 8) 308 0 83 [some (.ref 140), some (.int v1), some (.int v2), some (.int v3), some (.int a55.1)] [] (wI a55.2 146 (Int32.toNatClampNeg (3 + a55.1)) (a55.2.1 141 (Int32.toNatClampNeg ((3 + a55.1) - 1)))) R
    obtain ⟨s9, es9, hr⟩ := sbn_some hr
    rw [← es9]
    refine go_run mm_308 12 (pc' := 103) (ls' := [some (.ref 140), some (.int v1), some (.int v2), some (.int v3), some (.int a55.1)]) (st' := [.int ((15 + a55.1) - 1), .ref 141, .int (15 + a55.1), .ref 146]) (S' := s9) rfl ?_
    obtain ⟨hb10, hr⟩ := ck_some hr
    refine go_iaload mm_308 (q := (Int32.toNatClampNeg ((15 + a55.1) - 1))) rfl rfl rfl (ibd_ok hb10) ?_
    show Go XM (d + 8) 308 0 104 [some (.ref 140), some (.int v1), some (.int v2), some (.int v3), some (.int a55.1)] [.int (s9.1 141 (Int32.toNatClampNeg ((15 + a55.1) - 1))), .int (15 + a55.1), .ref 146] s9 R
    obtain ⟨hb11, hr⟩ := ck_some hr
    refine go_iastore mm_308 (q := (Int32.toNatClampNeg (15 + a55.1))) rfl rfl rfl (ibd_ok hb11) ?_
    show Go XM (d + 8) 308 0 105 [some (.ref 140), some (.int v1), some (.int v2), some (.int v3), some (.int a55.1)] [] (wI s9 146 (Int32.toNatClampNeg (15 + a55.1)) (s9.1 141 (Int32.toNatClampNeg ((15 + a55.1) - 1)))) R
    obtain ⟨s12, es12, hr⟩ := sbn_some hr
    rw [← es12]
    refine go_run mm_308 2 (pc' := 55) (ls' := [some (.ref 140), some (.int v1), some (.int v2), some (.int v3), some (.int (a55.1 + (-1)))]) (st' := []) (S' := s12) rfl ?_
    cases hr
    have h9 := hL (a55.1 + (-1), s12) rfl
    dsimp only at h9
    exact Go.le h9 (by repeat first | exact True.intro | refine And.intro rfl ?_)
  · rw [if_neg hc6] at hr
    cases hr
    have h9 := hR (a55.1, a55.2) rfl
    dsimp only [Sum.elim_inl] at h9
    exact Go.le h9 (by repeat first | exact True.intro | refine And.intro rfl ?_)
noncomputable def F_308 (v1 : Int32) (v2 : Int32) (v3 : Int32) (S : ST) : Option (Int32 × ST) := ob (F_225 v1 S) (fun w1 => if w1.1 = true then (some (0, w1.2)) else (ob (F_183 ((F_306 v2 v3) || (decide ((w1.2.1 141 0) = 12))) 3 w1.2) (fun w2 => if w2.1 = true then (some (0, w2.2)) else (ob (F_305 w2.2) (fun w3 => ob (wh FU (Lm_308_55 v1 v2 v3) (w3.2.1 141 0, w3.2)) (fun e55 => ck (ibd ((3 + v1) + 1) 63) (sbn ((wI e55.2 146 (Int32.toNatClampNeg ((3 + v1) + 1)) v2)) (fun s14 => ck (ibd ((15 + v1) + 1) 63) (sbn ((wI s14 146 (Int32.toNatClampNeg ((15 + v1) + 1)) v3)) (fun s16 => ob (F_304 (wI s16 146 0 ((s16.1 146 0) + 1))) (fun w4 => some (w4.1, w4.2))))))))))))
set_option maxRecDepth 20000 in
theorem S_308 {d : Nat} {S : ST} {v1 : Int32} {v2 : Int32} {v3 : Int32} {r} (hr : F_308 v1 v2 v3 S = some r) : Cal XM (d + 8) 308 [.ref 140, .int v1, .int v2, .int v3] S (RV (vI r.1) r.2) := by
  unfold F_308 at hr
  refine cal_go 1 rfl ?_
  refine go_run mm_308 2 (pc' := 2) (ls' := [some (.ref 140), some (.int v1), some (.int v2), some (.int v3), none]) (st' := [.int v1, .ref 140]) (S' := S) rfl ?_
  obtain ⟨w1, hw1, hr⟩ := ob_some hr
  refine go_cv mm_308 (h := 140) (As := [.int v1]) (rest := []) (nl := 2) rfl rfl (show cvOK 308 2 251 225 1 2 11 = true by decide +kernel) rfl rfl rfl (S_225 hw1) (KP_V ?_)
  show Go XM (d + 8) 308 0 5 [some (.ref 140), some (.int v1), some (.int v2), some (.int v3), none] [.int (b2i w1.1)] w1.2 (RV (vI r.1) r.2)
  refine go_ifb mm_308 rfl (p1 := 41) (p2 := 8) rfl (fun (hc1 : w1.1 = true) => ?_) (fun (hc1 : w1.1 = false) => ?_)
  · rw [if_pos hc1] at hr
    refine go_run mm_308 1 (pc' := 42) (ls' := [some (.ref 140), some (.int v1), some (.int v2), some (.int v3), none]) (st' := [.int 0]) (S' := w1.2) rfl ?_
    cases hr
    exact go_ireturn mm_308 rfl rfl ⟨rfl, rfl, rfl⟩
  · rw [if_neg (bf hc1)] at hr
    refine go_run mm_308 4 (pc' := 12) (ls' := [some (.ref 140), some (.int v1), some (.int v2), some (.int v3), none]) (st' := [.int v3, .int v2, .ref 140, .ref 140]) (S' := w1.2) rfl ?_
    refine go_cv mm_308 (h := 140) (As := [.int v2, .int v3]) (rest := [.ref 140]) (nl := 3) rfl rfl (show cvOK 308 12 388 306 2 3 11 = true by decide +kernel) rfl rfl rfl (S_306 rfl) (KP_V ?_)
    show Go XM (d + 8) 308 0 15 [some (.ref 140), some (.int v1), some (.int v2), some (.int v3), none] [.int (b2i (F_306 v2 v3)), .ref 140] w1.2 (RV (vI r.1) r.2)
    have j17 : Go XM (d + 8) 308 0 34 [some (.ref 140), some (.int v1), some (.int v2), some (.int v3), none] [.int (b2i ((F_306 v2 v3) || (decide ((w1.2.1 141 0) = 12)))), .ref 140] w1.2 (RV (vI r.1) r.2) := by
      refine go_run mm_308 1 (pc' := 35) (ls' := [some (.ref 140), some (.int v1), some (.int v2), some (.int v3), none]) (st' := [.int 3, .int (b2i ((F_306 v2 v3) || (decide ((w1.2.1 141 0) = 12)))), .ref 140]) (S' := w1.2) rfl ?_
      obtain ⟨w2, hw2, hr⟩ := ob_some hr
      refine go_cv mm_308 (h := 140) (As := [.int (b2i ((F_306 v2 v3) || (decide ((w1.2.1 141 0) = 12)))), .int 3]) (rest := []) (nl := 3) rfl rfl (show cvOK 308 35 86 183 2 3 11 = true by decide +kernel) rfl rfl rfl (S_183 hw2) (KP_V ?_)
      show Go XM (d + 8) 308 0 38 [some (.ref 140), some (.int v1), some (.int v2), some (.int v3), none] [.int (b2i w2.1)] w2.2 (RV (vI r.1) r.2)
      refine go_ifb mm_308 rfl (p1 := 41) (p2 := 43) rfl (fun (hc5 : w2.1 = true) => ?_) (fun (hc5 : w2.1 = false) => ?_)
      · rw [if_pos hc5] at hr
        refine go_run mm_308 1 (pc' := 42) (ls' := [some (.ref 140), some (.int v1), some (.int v2), some (.int v3), none]) (st' := [.int 0]) (S' := w2.2) rfl ?_
        cases hr
        exact go_ireturn mm_308 rfl rfl ⟨rfl, rfl, rfl⟩
      · rw [if_neg (bf hc5)] at hr
        refine go_run mm_308 1 (pc' := 44) (ls' := [some (.ref 140), some (.int v1), some (.int v2), some (.int v3), none]) (st' := [.ref 140]) (S' := w2.2) rfl ?_
        obtain ⟨w3, hw3, hr⟩ := ob_some hr
        refine go_cv mm_308 (h := 140) (As := []) (rest := []) (nl := 2) rfl rfl (show cvOK 308 44 391 305 0 2 11 = true by decide +kernel) rfl rfl rfl (S_305 hw3) (KP_V ?_)
        show Go XM (d + 8) 308 0 47 [some (.ref 140), some (.int v1), some (.int v2), some (.int v3), none] [] w3.2 (RV (vI r.1) r.2)
        refine go_run mm_308 3 (pc' := 52) (ls' := [some (.ref 140), some (.int v1), some (.int v2), some (.int v3), none]) (st' := [.int 0, .ref 141]) (S' := w3.2) rfl ?_
        refine go_iaload mm_308 (q := 0) rfl rfl rfl (inB_lit rfl) ?_
        show Go XM (d + 8) 308 0 53 [some (.ref 140), some (.int v1), some (.int v2), some (.int v3), none] [.int (w3.2.1 141 0)] w3.2 (RV (vI r.1) r.2)
        refine go_run mm_308 1 (pc' := 55) (ls' := [some (.ref 140), some (.int v1), some (.int v2), some (.int v3), some (.int (w3.2.1 141 0))]) (st' := []) (S' := w3.2) rfl ?_
        obtain ⟨z55, he55, hr⟩ := ob_some hr
        refine Go.le (ls' := [some (.ref 140), some (.int v1), some (.int v2), some (.int v3), some (.int (w3.2.1 141 0))]) ?_ (by repeat first | exact True.intro | refine And.intro rfl ?_)
        refine wh_go (P := fun a55 => Go XM (d + 8) 308 0 55 [some (.ref 140), some (.int v1), some (.int v2), some (.int v3), some (.int a55.1)] [] a55.2 (RV (vI r.1) r.2)) (K := fun e55 => Go XM (d + 8) 308 0 111 [some (.ref 140), some (.int v1), some (.int v2), some (.int v3), some (.int e55.1)] [] e55.2 (RV (vI r.1) r.2)) (fun a9 r9 h9 hL hR => LSm_308_55 h9 hL hR) _ _ _ he55 ?_
        generalize z55 = e55 at hr
        show Go XM (d + 8) 308 0 111 [some (.ref 140), some (.int v1), some (.int v2), some (.int v3), some (.int e55.1)] [] e55.2 (RV (vI r.1) r.2)
        refine go_run mm_308 8 (pc' := 121) (ls' := [some (.ref 140), some (.int v1), some (.int v2), some (.int v3), some (.int e55.1)]) (st' := [.int v2, .int ((3 + v1) + 1), .ref 146]) (S' := e55.2) rfl ?_
        obtain ⟨hb13, hr⟩ := ck_some hr
        refine go_iastore mm_308 (q := (Int32.toNatClampNeg ((3 + v1) + 1))) rfl rfl rfl (ibd_ok hb13) ?_
        show Go XM (d + 8) 308 0 122 [some (.ref 140), some (.int v1), some (.int v2), some (.int v3), some (.int e55.1)] [] (wI e55.2 146 (Int32.toNatClampNeg ((3 + v1) + 1)) v2) (RV (vI r.1) r.2)
        obtain ⟨s14, es14, hr⟩ := sbn_some hr
        rw [← es14]
        refine go_run mm_308 8 (pc' := 133) (ls' := [some (.ref 140), some (.int v1), some (.int v2), some (.int v3), some (.int e55.1)]) (st' := [.int v3, .int ((15 + v1) + 1), .ref 146]) (S' := s14) rfl ?_
        obtain ⟨hb15, hr⟩ := ck_some hr
        refine go_iastore mm_308 (q := (Int32.toNatClampNeg ((15 + v1) + 1))) rfl rfl rfl (ibd_ok hb15) ?_
        show Go XM (d + 8) 308 0 134 [some (.ref 140), some (.int v1), some (.int v2), some (.int v3), some (.int e55.1)] [] (wI s14 146 (Int32.toNatClampNeg ((15 + v1) + 1)) v3) (RV (vI r.1) r.2)
        obtain ⟨s16, es16, hr⟩ := sbn_some hr
        rw [← es16]
        refine go_run mm_308 4 (pc' := 140) (ls' := [some (.ref 140), some (.int v1), some (.int v2), some (.int v3), some (.int e55.1)]) (st' := [.int 0, .ref 146, .int 0, .ref 146]) (S' := s16) rfl ?_
        refine go_iaload mm_308 (q := 0) rfl rfl rfl (inB_lit rfl) ?_
        show Go XM (d + 8) 308 0 141 [some (.ref 140), some (.int v1), some (.int v2), some (.int v3), some (.int e55.1)] [.int (s16.1 146 0), .int 0, .ref 146] s16 (RV (vI r.1) r.2)
        refine go_run mm_308 2 (pc' := 143) (ls' := [some (.ref 140), some (.int v1), some (.int v2), some (.int v3), some (.int e55.1)]) (st' := [.int ((s16.1 146 0) + 1), .int 0, .ref 146]) (S' := s16) rfl ?_
        refine go_iastore mm_308 (q := 0) rfl rfl rfl (inB_lit rfl) ?_
        show Go XM (d + 8) 308 0 144 [some (.ref 140), some (.int v1), some (.int v2), some (.int v3), some (.int e55.1)] [] (wI s16 146 0 ((s16.1 146 0) + 1)) (RV (vI r.1) r.2)
        refine go_run mm_308 1 (pc' := 145) (ls' := [some (.ref 140), some (.int v1), some (.int v2), some (.int v3), some (.int e55.1)]) (st' := [.ref 140]) (S' := (wI s16 146 0 ((s16.1 146 0) + 1))) rfl ?_
        obtain ⟨w4, hw4, hr⟩ := ob_some hr
        refine go_cv mm_308 (h := 140) (As := []) (rest := []) (nl := 3) rfl rfl (show cvOK 308 145 394 304 0 3 11 = true by decide +kernel) rfl rfl rfl (S_304 hw4) (KP_V ?_)
        show Go XM (d + 8) 308 0 148 [some (.ref 140), some (.int v1), some (.int v2), some (.int v3), some (.int e55.1)] [.int w4.1] w4.2 (RV (vI r.1) r.2)
        cases hr
        exact go_ireturn mm_308 rfl rfl ⟨rfl, rfl, rfl⟩
    refine go_ifb mm_308 rfl (p1 := 29) (p2 := 18) rfl (fun (hc2 : (F_306 v2 v3) = true) => ?_) (fun (hc2 : (F_306 v2 v3) = false) => ?_)
    · refine go_run mm_308 2 (pc' := 34) (ls' := [some (.ref 140), some (.int v1), some (.int v2), some (.int v3), none]) (st' := [.int 1, .ref 140]) (S' := w1.2) rfl ?_
      have e : ((b2i ((F_306 v2 v3) || (decide ((w1.2.1 141 0) = 12)))) : Int32) = 1 := by simp [b2i, hc2]
      rw [e] at j17
      exact j17
    · refine go_run mm_308 3 (pc' := 23) (ls' := [some (.ref 140), some (.int v1), some (.int v2), some (.int v3), none]) (st' := [.int 0, .ref 141, .ref 140]) (S' := w1.2) rfl ?_
      refine go_iaload mm_308 (q := 0) rfl rfl rfl (inB_lit rfl) ?_
      show Go XM (d + 8) 308 0 24 [some (.ref 140), some (.int v1), some (.int v2), some (.int v3), none] [.int (w1.2.1 141 0), .ref 140] w1.2 (RV (vI r.1) r.2)
      refine go_run mm_308 1 (pc' := 26) (ls' := [some (.ref 140), some (.int v1), some (.int v2), some (.int v3), none]) (st' := [.int 12, .int (w1.2.1 141 0), .ref 140]) (S' := w1.2) rfl ?_
      have j4 : Go XM (d + 8) 308 0 34 [some (.ref 140), some (.int v1), some (.int v2), some (.int v3), none] [.int (b2i (decide ((w1.2.1 141 0) = 12))), .ref 140] w1.2 (RV (vI r.1) r.2) := by
        have e : ((b2i ((F_306 v2 v3) || (decide ((w1.2.1 141 0) = 12)))) : Int32) = (b2i (decide ((w1.2.1 141 0) = 12))) := by simp [b2i, hc2]
        rw [e] at j17
        exact j17
      refine go_if2 mm_308 rfl (p1 := 29) (p2 := 33) rfl (fun (hc3 : (w1.2.1 141 0) = 12) => ?_) (fun (hc3 : ¬ (w1.2.1 141 0) = 12) => ?_)
      · refine go_run mm_308 2 (pc' := 34) (ls' := [some (.ref 140), some (.int v1), some (.int v2), some (.int v3), none]) (st' := [.int 1, .ref 140]) (S' := w1.2) rfl ?_
        have e : ((b2i (decide ((w1.2.1 141 0) = 12))) : Int32) = 1 := by simp [b2i, hc3]
        rw [e] at j4
        exact j4
      · refine go_run mm_308 1 (pc' := 34) (ls' := [some (.ref 140), some (.int v1), some (.int v2), some (.int v3), none]) (st' := [.int 0, .ref 140]) (S' := w1.2) rfl ?_
        have e : ((b2i (decide ((w1.2.1 141 0) = 12))) : Int32) = 0 := by simp [b2i, hc3]
        rw [e] at j4
        exact j4
