/-! methods as functions (printed by a program): 309 deleteVertex, 310 undo, 311 save, 312 restore -/
noncomputable def Lm_309_49 (v1 : Int32) (a49 : Int32 × ST) : Option ((Int32 × ST) ⊕ (Int32 × ST)) := if a49.1 < (a49.2.1 146 0) then (ck (ibd ((3 + a49.1) + 1) 63) (ck (ibd (3 + a49.1) 63) (sbn ((wI a49.2 146 (Int32.toNatClampNeg (3 + a49.1)) (a49.2.1 141 (Int32.toNatClampNeg ((3 + a49.1) + 1))))) (fun s7 => ck (ibd ((15 + a49.1) + 1) 63) (ck (ibd (15 + a49.1) 63) (sbn ((wI s7 146 (Int32.toNatClampNeg (15 + a49.1)) (s7.1 141 (Int32.toNatClampNeg ((15 + a49.1) + 1))))) (fun s10 => some (.inl (a49.1 + 1, s10))))))))) else (some (.inr (a49.1, a49.2)))
set_option maxRecDepth 20000 in
theorem LSm_309_49 {d : Nat} {R : RT} {v1 : Int32} {a49 : Int32 × ST} {r9} (hr : Lm_309_49 v1 a49 = some r9) (hL : ∀ a9, r9 = .inl a9 → (fun a49 => Go XM (d + 8) 309 0 49 [some (.ref 140), some (.int v1), some (.int a49.1)] [] a49.2 R) a9) (hR : ∀ b9, r9 = .inr b9 → (fun e49 => Go XM (d + 8) 309 0 103 [some (.ref 140), some (.int v1), some (.int e49.1)] [] e49.2 R) b9) : Go XM (d + 8) 309 0 49 [some (.ref 140), some (.int v1), some (.int a49.1)] [] a49.2 R := by
  unfold Lm_309_49 at hr
  refine go_run mm_309 4 (pc' := 55) (ls' := [some (.ref 140), some (.int v1), some (.int a49.1)]) (st' := [.int 0, .ref 146, .int a49.1]) (S' := a49.2) rfl ?_
  refine go_iaload mm_309 (q := 0) rfl rfl rfl (inB_lit rfl) ?_
  show Go XM (d + 8) 309 0 56 [some (.ref 140), some (.int v1), some (.int a49.1)] [.int (a49.2.1 146 0), .int a49.1] a49.2 R
  refine go_if2 mm_309 rfl (p1 := 59) (p2 := 103) rfl (fun (hc4 : a49.1 < (a49.2.1 146 0)) => ?_) (fun (hc4 : ¬ a49.1 < (a49.2.1 146 0)) => ?_)
  · rw [if_pos hc4] at hr
    refine go_run mm_309 12 (pc' := 75) (ls' := [some (.ref 140), some (.int v1), some (.int a49.1)]) (st' := [.int ((3 + a49.1) + 1), .ref 141, .int (3 + a49.1), .ref 146]) (S' := a49.2) rfl ?_
    obtain ⟨hb5, hr⟩ := ck_some hr
    refine go_iaload mm_309 (q := (Int32.toNatClampNeg ((3 + a49.1) + 1))) rfl rfl rfl (ibd_ok hb5) ?_
    show Go XM (d + 8) 309 0 76 [some (.ref 140), some (.int v1), some (.int a49.1)] [.int (a49.2.1 141 (Int32.toNatClampNeg ((3 + a49.1) + 1))), .int (3 + a49.1), .ref 146] a49.2 R
    obtain ⟨hb6, hr⟩ := ck_some hr
    refine go_iastore mm_309 (q := (Int32.toNatClampNeg (3 + a49.1))) rfl rfl rfl (ibd_ok hb6) ?_
    show Go XM (d + 8) 309 0 77 [some (.ref 140), some (.int v1), some (.int a49.1)] [] (wI a49.2 146 (Int32.toNatClampNeg (3 + a49.1)) (a49.2.1 141 (Int32.toNatClampNeg ((3 + a49.1) + 1)))) R
    obtain ⟨s7, es7, hr⟩ := sbn_some hr
    rw [← es7]
    refine go_run mm_309 12 (pc' := 95) (ls' := [some (.ref 140), some (.int v1), some (.int a49.1)]) (st' := [.int ((15 + a49.1) + 1), .ref 141, .int (15 + a49.1), .ref 146]) (S' := s7) rfl ?_
    obtain ⟨hb8, hr⟩ := ck_some hr
    refine go_iaload mm_309 (q := (Int32.toNatClampNeg ((15 + a49.1) + 1))) rfl rfl rfl (ibd_ok hb8) ?_
    show Go XM (d + 8) 309 0 96 [some (.ref 140), some (.int v1), some (.int a49.1)] [.int (s7.1 141 (Int32.toNatClampNeg ((15 + a49.1) + 1))), .int (15 + a49.1), .ref 146] s7 R
    obtain ⟨hb9, hr⟩ := ck_some hr
    refine go_iastore mm_309 (q := (Int32.toNatClampNeg (15 + a49.1))) rfl rfl rfl (ibd_ok hb9) ?_
    show Go XM (d + 8) 309 0 97 [some (.ref 140), some (.int v1), some (.int a49.1)] [] (wI s7 146 (Int32.toNatClampNeg (15 + a49.1)) (s7.1 141 (Int32.toNatClampNeg ((15 + a49.1) + 1)))) R
    obtain ⟨s10, es10, hr⟩ := sbn_some hr
    rw [← es10]
    refine go_run mm_309 2 (pc' := 49) (ls' := [some (.ref 140), some (.int v1), some (.int (a49.1 + 1))]) (st' := []) (S' := s10) rfl ?_
    cases hr
    have h9 := hL (a49.1 + 1, s10) rfl
    dsimp only at h9
    exact Go.le h9 (by repeat first | exact True.intro | refine And.intro rfl ?_)
  · rw [if_neg hc4] at hr
    cases hr
    have h9 := hR (a49.1, a49.2) rfl
    dsimp only [Sum.elim_inl] at h9
    exact Go.le h9 (by repeat first | exact True.intro | refine And.intro rfl ?_)
noncomputable def F_309 (v1 : Int32) (S : ST) : Option (Int32 × ST) := ob (F_225 v1 S) (fun w1 => if w1.1 = true then (some (0, w1.2)) else (ob (F_183 (decide ((w1.2.1 141 0) = 3)) 3 w1.2) (fun w2 => if w2.1 = true then (some (0, w2.2)) else (ob (F_305 w2.2) (fun w3 => ob (wh FU (Lm_309_49 v1) (v1, (wI w3.2 146 0 ((w3.2.1 146 0) - 1)))) (fun e49 => ob (F_304 e49.2) (fun w4 => some (w4.1, w4.2))))))))
set_option maxRecDepth 20000 in
theorem S_309 {d : Nat} {S : ST} {v1 : Int32} {r} (hr : F_309 v1 S = some r) : Cal XM (d + 8) 309 [.ref 140, .int v1] S (RV (vI r.1) r.2) := by
  unfold F_309 at hr
  refine cal_go 1 rfl ?_
  refine go_run mm_309 2 (pc' := 2) (ls' := [some (.ref 140), some (.int v1), none]) (st' := [.int v1, .ref 140]) (S' := S) rfl ?_
  obtain ⟨w1, hw1, hr⟩ := ob_some hr
  refine go_cv mm_309 (h := 140) (As := [.int v1]) (rest := []) (nl := 2) rfl rfl (show cvOK 309 2 251 225 1 2 11 = true by decide +kernel) rfl rfl rfl (S_225 hw1) (KP_V ?_)
  show Go XM (d + 8) 309 0 5 [some (.ref 140), some (.int v1), none] [.int (b2i w1.1)] w1.2 (RV (vI r.1) r.2)
  refine go_ifb mm_309 rfl (p1 := 31) (p2 := 8) rfl (fun (hc1 : w1.1 = true) => ?_) (fun (hc1 : w1.1 = false) => ?_)
  · rw [if_pos hc1] at hr
    refine go_run mm_309 1 (pc' := 32) (ls' := [some (.ref 140), some (.int v1), none]) (st' := [.int 0]) (S' := w1.2) rfl ?_
    cases hr
    exact go_ireturn mm_309 rfl rfl ⟨rfl, rfl, rfl⟩
  · rw [if_neg (bf hc1)] at hr
    refine go_run mm_309 4 (pc' := 14) (ls' := [some (.ref 140), some (.int v1), none]) (st' := [.int 0, .ref 141, .ref 140]) (S' := w1.2) rfl ?_
    refine go_iaload mm_309 (q := 0) rfl rfl rfl (inB_lit rfl) ?_
    show Go XM (d + 8) 309 0 15 [some (.ref 140), some (.int v1), none] [.int (w1.2.1 141 0), .ref 140] w1.2 (RV (vI r.1) r.2)
    refine go_run mm_309 1 (pc' := 16) (ls' := [some (.ref 140), some (.int v1), none]) (st' := [.int 3, .int (w1.2.1 141 0), .ref 140]) (S' := w1.2) rfl ?_
    have j11 : Go XM (d + 8) 309 0 24 [some (.ref 140), some (.int v1), none] [.int (b2i (decide ((w1.2.1 141 0) = 3))), .ref 140] w1.2 (RV (vI r.1) r.2) := by
      refine go_run mm_309 1 (pc' := 25) (ls' := [some (.ref 140), some (.int v1), none]) (st' := [.int 3, .int (b2i (decide ((w1.2.1 141 0) = 3))), .ref 140]) (S' := w1.2) rfl ?_
      obtain ⟨w2, hw2, hr⟩ := ob_some hr
      refine go_cv mm_309 (h := 140) (As := [.int (b2i (decide ((w1.2.1 141 0) = 3))), .int 3]) (rest := []) (nl := 3) rfl rfl (show cvOK 309 25 86 183 2 3 11 = true by decide +kernel) rfl rfl rfl (S_183 hw2) (KP_V ?_)
      show Go XM (d + 8) 309 0 28 [some (.ref 140), some (.int v1), none] [.int (b2i w2.1)] w2.2 (RV (vI r.1) r.2)
      refine go_ifb mm_309 rfl (p1 := 31) (p2 := 33) rfl (fun (hc3 : w2.1 = true) => ?_) (fun (hc3 : w2.1 = false) => ?_)
      · rw [if_pos hc3] at hr
        refine go_run mm_309 1 (pc' := 32) (ls' := [some (.ref 140), some (.int v1), none]) (st' := [.int 0]) (S' := w2.2) rfl ?_
        cases hr
        exact go_ireturn mm_309 rfl rfl ⟨rfl, rfl, rfl⟩
      · rw [if_neg (bf hc3)] at hr
        refine go_run mm_309 1 (pc' := 34) (ls' := [some (.ref 140), some (.int v1), none]) (st' := [.ref 140]) (S' := w2.2) rfl ?_
        obtain ⟨w3, hw3, hr⟩ := ob_some hr
        refine go_cv mm_309 (h := 140) (As := []) (rest := []) (nl := 2) rfl rfl (show cvOK 309 34 391 305 0 2 11 = true by decide +kernel) rfl rfl rfl (S_305 hw3) (KP_V ?_)
        show Go XM (d + 8) 309 0 37 [some (.ref 140), some (.int v1), none] [] w3.2 (RV (vI r.1) r.2)
        refine go_run mm_309 4 (pc' := 43) (ls' := [some (.ref 140), some (.int v1), none]) (st' := [.int 0, .ref 146, .int 0, .ref 146]) (S' := w3.2) rfl ?_
        refine go_iaload mm_309 (q := 0) rfl rfl rfl (inB_lit rfl) ?_
        show Go XM (d + 8) 309 0 44 [some (.ref 140), some (.int v1), none] [.int (w3.2.1 146 0), .int 0, .ref 146] w3.2 (RV (vI r.1) r.2)
        refine go_run mm_309 2 (pc' := 46) (ls' := [some (.ref 140), some (.int v1), none]) (st' := [.int ((w3.2.1 146 0) - 1), .int 0, .ref 146]) (S' := w3.2) rfl ?_
        refine go_iastore mm_309 (q := 0) rfl rfl rfl (inB_lit rfl) ?_
        show Go XM (d + 8) 309 0 47 [some (.ref 140), some (.int v1), none] [] (wI w3.2 146 0 ((w3.2.1 146 0) - 1)) (RV (vI r.1) r.2)
        refine go_run mm_309 2 (pc' := 49) (ls' := [some (.ref 140), some (.int v1), some (.int v1)]) (st' := []) (S' := (wI w3.2 146 0 ((w3.2.1 146 0) - 1))) rfl ?_
        obtain ⟨z49, he49, hr⟩ := ob_some hr
        refine Go.le (ls' := [some (.ref 140), some (.int v1), some (.int v1)]) ?_ (by repeat first | exact True.intro | refine And.intro rfl ?_)
        refine wh_go (P := fun a49 => Go XM (d + 8) 309 0 49 [some (.ref 140), some (.int v1), some (.int a49.1)] [] a49.2 (RV (vI r.1) r.2)) (K := fun e49 => Go XM (d + 8) 309 0 103 [some (.ref 140), some (.int v1), some (.int e49.1)] [] e49.2 (RV (vI r.1) r.2)) (fun a9 r9 h9 hL hR => LSm_309_49 h9 hL hR) _ _ _ he49 ?_
        generalize z49 = e49 at hr
        show Go XM (d + 8) 309 0 103 [some (.ref 140), some (.int v1), some (.int e49.1)] [] e49.2 (RV (vI r.1) r.2)
        refine go_run mm_309 1 (pc' := 104) (ls' := [some (.ref 140), some (.int v1), some (.int e49.1)]) (st' := [.ref 140]) (S' := e49.2) rfl ?_
        obtain ⟨w4, hw4, hr⟩ := ob_some hr
        refine go_cv mm_309 (h := 140) (As := []) (rest := []) (nl := 3) rfl rfl (show cvOK 309 104 394 304 0 3 11 = true by decide +kernel) rfl rfl rfl (S_304 hw4) (KP_V ?_)
        show Go XM (d + 8) 309 0 107 [some (.ref 140), some (.int v1), some (.int e49.1)] [.int w4.1] w4.2 (RV (vI r.1) r.2)
        cases hr
        exact go_ireturn mm_309 rfl rfl ⟨rfl, rfl, rfl⟩
    refine go_if2 mm_309 rfl (p1 := 19) (p2 := 23) rfl (fun (hc2 : (w1.2.1 141 0) = 3) => ?_) (fun (hc2 : ¬ (w1.2.1 141 0) = 3) => ?_)
    · refine go_run mm_309 2 (pc' := 24) (ls' := [some (.ref 140), some (.int v1), none]) (st' := [.int 1, .ref 140]) (S' := w1.2) rfl ?_
      have e : ((b2i (decide ((w1.2.1 141 0) = 3))) : Int32) = 1 := by simp [b2i, hc2]
      rw [e] at j11
      exact j11
    · refine go_run mm_309 1 (pc' := 24) (ls' := [some (.ref 140), some (.int v1), none]) (st' := [.int 0, .ref 140]) (S' := w1.2) rfl ?_
      have e : ((b2i (decide ((w1.2.1 141 0) = 3))) : Int32) = 0 := by simp [b2i, hc2]
      rw [e] at j11
      exact j11

noncomputable def F_310 (S : ST) : Option (Int32 × ST) := ob (F_183 (decide ((S.1 140 4) = 0)) 1 (wI S 140 0 0)) (fun w1 => if w1.1 = true then (some (0, w1.2)) else (ob (F_298 (1 + ((w1.2.1 140 4) - 1)) (wI w1.2 140 4 ((w1.2.1 140 4) - 1))) (fun w2 => some (w2.2.1 140 4, w2.2))))
set_option maxRecDepth 20000 in
theorem S_310 {d : Nat} {S : ST} {r} (hr : F_310 S = some r) : Cal XM (d + 7) 310 [.ref 140] S (RV (vI r.1) r.2) := by
  unfold F_310 at hr
  refine cal_go 0 rfl ?_
  refine go_run mm_310 6 (pc' := 10) (ls' := [some (.ref 140)]) (st' := [.int (S.1 140 4), .ref 140]) (S' := (wI S 140 0 0)) rfl ?_
  have j3 : Go XM (d + 7) 310 0 18 [some (.ref 140)] [.int (b2i (decide ((S.1 140 4) = 0))), .ref 140] (wI S 140 0 0) (RV (vI r.1) r.2) := by
    refine go_run mm_310 1 (pc' := 19) (ls' := [some (.ref 140)]) (st' := [.int 1, .int (b2i (decide ((S.1 140 4) = 0))), .ref 140]) (S' := (wI S 140 0 0)) rfl ?_
    obtain ⟨w1, hw1, hr⟩ := ob_some hr
    refine go_cv mm_310 (h := 140) (As := [.int (b2i (decide ((S.1 140 4) = 0))), .int 1]) (rest := []) (nl := 3) rfl rfl (show cvOK 310 19 86 183 2 3 11 = true by decide +kernel) rfl rfl rfl (S_183 hw1) (KP_V ?_)
    show Go XM (d + 7) 310 0 22 [some (.ref 140)] [.int (b2i w1.1)] w1.2 (RV (vI r.1) r.2)
    refine go_ifb mm_310 rfl (p1 := 25) (p2 := 27) rfl (fun (hc2 : w1.1 = true) => ?_) (fun (hc2 : w1.1 = false) => ?_)
    · rw [if_pos hc2] at hr
      refine go_run mm_310 1 (pc' := 26) (ls' := [some (.ref 140)]) (st' := [.int 0]) (S' := w1.2) rfl ?_
      cases hr
      exact go_ireturn mm_310 rfl rfl ⟨rfl, rfl, rfl⟩
    · rw [if_neg (bf hc2)] at hr
      refine go_run mm_310 11 (pc' := 44) (ls' := [some (.ref 140)]) (st' := [.int (1 + ((w1.2.1 140 4) - 1)), .ref 140]) (S' := (wI w1.2 140 4 ((w1.2.1 140 4) - 1))) rfl ?_
      obtain ⟨w2, hw2, hr⟩ := ob_some hr
      refine go_cv mm_310 (h := 140) (As := [.int (1 + ((w1.2.1 140 4) - 1))]) (rest := []) (nl := 3) rfl rfl (show cvOK 310 44 397 298 1 3 11 = true by decide +kernel) rfl rfl rfl (S_298 hw2) (KP_V ?_)
      show Go XM (d + 7) 310 0 47 [some (.ref 140)] [] w2.2 (RV (vI r.1) r.2)
      refine go_run mm_310 2 (pc' := 51) (ls' := [some (.ref 140)]) (st' := [.int (w2.2.1 140 4)]) (S' := w2.2) rfl ?_
      cases hr
      exact go_ireturn mm_310 rfl rfl ⟨rfl, rfl, rfl⟩
  refine go_if0 mm_310 rfl (p1 := 13) (p2 := 17) rfl (fun (hc1 : (S.1 140 4) = 0) => ?_) (fun (hc1 : ¬ (S.1 140 4) = 0) => ?_)
  · refine go_run mm_310 2 (pc' := 18) (ls' := [some (.ref 140)]) (st' := [.int 1, .ref 140]) (S' := (wI S 140 0 0)) rfl ?_
    have e : ((b2i (decide ((S.1 140 4) = 0))) : Int32) = 1 := by simp [b2i, hc1]
    rw [e] at j3
    exact j3
  · refine go_run mm_310 1 (pc' := 18) (ls' := [some (.ref 140)]) (st' := [.int 0, .ref 140]) (S' := (wI S 140 0 0)) rfl ?_
    have e : ((b2i (decide ((S.1 140 4) = 0))) : Int32) = 0 := by simp [b2i, hc1]
    rw [e] at j3
    exact j3

noncomputable def F_311 (v1 : Int32) (S : ST) : Option (Int32 × ST) := ob (F_184 S) (fun w1 => if w1.1 = true then (some (0, w1.2)) else (ob (F_183 (!(F_182 v1 0 1)) 2 w1.2) (fun w2 => if w2.1 = true then (some (0, w2.2)) else (ob (F_297 (9 + v1) w2.2) (fun w3 => ck (ibd v1 2) (sbn ((wI w3.2 143 (Int32.toNatClampNeg v1) 1)) (fun s5 => some (s5.1 140 20, s5))))))))
set_option maxRecDepth 20000 in
theorem S_311 {d : Nat} {S : ST} {v1 : Int32} {r} (hr : F_311 v1 S = some r) : Cal XM (d + 2) 311 [.ref 140, .int v1] S (RV (vI r.1) r.2) := by
  unfold F_311 at hr
  refine cal_go 0 rfl ?_
  refine go_run mm_311 1 (pc' := 1) (ls' := [some (.ref 140), some (.int v1)]) (st' := [.ref 140]) (S' := S) rfl ?_
  obtain ⟨w1, hw1, hr⟩ := ob_some hr
  refine go_cv mm_311 (h := 140) (As := []) (rest := []) (nl := 1) rfl rfl (show cvOK 311 1 247 184 0 1 11 = true by decide +kernel) rfl rfl rfl (S_184 hw1) (KP_V ?_)
  show Go XM (d + 2) 311 0 4 [some (.ref 140), some (.int v1)] [.int (b2i w1.1)] w1.2 (RV (vI r.1) r.2)
  refine go_ifb mm_311 rfl (p1 := 29) (p2 := 7) rfl (fun (hc1 : w1.1 = true) => ?_) (fun (hc1 : w1.1 = false) => ?_)
  · rw [if_pos hc1] at hr
    refine go_run mm_311 1 (pc' := 30) (ls' := [some (.ref 140), some (.int v1)]) (st' := [.int 0]) (S' := w1.2) rfl ?_
    cases hr
    exact go_ireturn mm_311 rfl rfl ⟨rfl, rfl, rfl⟩
  · rw [if_neg (bf hc1)] at hr
    refine go_run mm_311 4 (pc' := 11) (ls' := [some (.ref 140), some (.int v1)]) (st' := [.int 1, .int 0, .int v1, .ref 140]) (S' := w1.2) rfl ?_
    refine go_cs mm_311 (av := [.int v1, .int 0, .int 1]) (rest := [.ref 140]) (nl := 3) rfl (show csOK 311 11 148 182 3 3 = true by decide +kernel) rfl rfl rfl (S_182 rfl) (KP_V ?_)
    show Go XM (d + 2) 311 0 14 [some (.ref 140), some (.int v1)] [.int (b2i (F_182 v1 0 1)), .ref 140] w1.2 (RV (vI r.1) r.2)
    have j6 : Go XM (d + 2) 311 0 22 [some (.ref 140), some (.int v1)] [.int (b2i (!(F_182 v1 0 1))), .ref 140] w1.2 (RV (vI r.1) r.2) := by
      refine go_run mm_311 1 (pc' := 23) (ls' := [some (.ref 140), some (.int v1)]) (st' := [.int 2, .int (b2i (!(F_182 v1 0 1))), .ref 140]) (S' := w1.2) rfl ?_
      obtain ⟨w2, hw2, hr⟩ := ob_some hr
      refine go_cv mm_311 (h := 140) (As := [.int (b2i (!(F_182 v1 0 1))), .int 2]) (rest := []) (nl := 3) rfl rfl (show cvOK 311 23 86 183 2 3 11 = true by decide +kernel) rfl rfl rfl (S_183 hw2) (KP_V ?_)
      show Go XM (d + 2) 311 0 26 [some (.ref 140), some (.int v1)] [.int (b2i w2.1)] w2.2 (RV (vI r.1) r.2)
      refine go_ifb mm_311 rfl (p1 := 29) (p2 := 31) rfl (fun (hc3 : w2.1 = true) => ?_) (fun (hc3 : w2.1 = false) => ?_)
      · rw [if_pos hc3] at hr
        refine go_run mm_311 1 (pc' := 30) (ls' := [some (.ref 140), some (.int v1)]) (st' := [.int 0]) (S' := w2.2) rfl ?_
        cases hr
        exact go_ireturn mm_311 rfl rfl ⟨rfl, rfl, rfl⟩
      · rw [if_neg (bf hc3)] at hr
        refine go_run mm_311 4 (pc' := 36) (ls' := [some (.ref 140), some (.int v1)]) (st' := [.int (9 + v1), .ref 140]) (S' := w2.2) rfl ?_
        obtain ⟨w3, hw3, hr⟩ := ob_some hr
        refine go_cv mm_311 (h := 140) (As := [.int (9 + v1)]) (rest := []) (nl := 3) rfl rfl (show cvOK 311 36 382 297 1 3 11 = true by decide +kernel) rfl rfl rfl (S_297 hw3) (KP_V ?_)
        show Go XM (d + 2) 311 0 39 [some (.ref 140), some (.int v1)] [] w3.2 (RV (vI r.1) r.2)
        refine go_run mm_311 4 (pc' := 45) (ls' := [some (.ref 140), some (.int v1)]) (st' := [.int 1, .int v1, .ref 143]) (S' := w3.2) rfl ?_
        obtain ⟨hb4, hr⟩ := ck_some hr
        refine go_bastore mm_311 (q := (Int32.toNatClampNeg v1)) rfl rfl rfl (ibd_ok hb4) (Or.inr rfl) ?_
        show Go XM (d + 2) 311 0 46 [some (.ref 140), some (.int v1)] [] (wI w3.2 143 (Int32.toNatClampNeg v1) 1) (RV (vI r.1) r.2)
        obtain ⟨s5, es5, hr⟩ := sbn_some hr
        rw [← es5]
        refine go_run mm_311 2 (pc' := 50) (ls' := [some (.ref 140), some (.int v1)]) (st' := [.int (s5.1 140 20)]) (S' := s5) rfl ?_
        cases hr
        exact go_ireturn mm_311 rfl rfl ⟨rfl, rfl, rfl⟩
    refine go_ifb mm_311 rfl (p1 := 21) (p2 := 17) rfl (fun (hc2 : (F_182 v1 0 1) = true) => ?_) (fun (hc2 : (F_182 v1 0 1) = false) => ?_)
    · refine go_run mm_311 1 (pc' := 22) (ls' := [some (.ref 140), some (.int v1)]) (st' := [.int 0, .ref 140]) (S' := w1.2) rfl ?_
      have e : ((b2i (!(F_182 v1 0 1))) : Int32) = 0 := by simp [b2i, hc2]
      rw [e] at j6
      exact j6
    · refine go_run mm_311 2 (pc' := 22) (ls' := [some (.ref 140), some (.int v1)]) (st' := [.int 1, .ref 140]) (S' := w1.2) rfl ?_
      have e : ((b2i (!(F_182 v1 0 1))) : Int32) = 1 := by simp [b2i, hc2]
      rw [e] at j6
      exact j6

noncomputable def F_312 (v1 : Int32) (S : ST) : Option (Int32 × ST) := ob (F_183 (!(F_182 v1 0 1)) 1 (wI S 140 0 0)) (fun w1 => if w1.1 = true then (some (0, w1.2)) else (ck (ibd v1 2) (ob (F_183 (decide ((w1.2.1 143 (Int32.toNatClampNeg v1)) = 0)) 2 w1.2) (fun w2 => if w2.1 = true then (some (0, w2.2)) else (ob (F_298 (9 + v1) w2.2) (fun w3 => some (w3.2.1 140 20, (wI w3.2 140 4 0))))))))
set_option maxRecDepth 20000 in
theorem S_312 {d : Nat} {S : ST} {v1 : Int32} {r} (hr : F_312 v1 S = some r) : Cal XM (d + 7) 312 [.ref 140, .int v1] S (RV (vI r.1) r.2) := by
  unfold F_312 at hr
  refine cal_go 0 rfl ?_
  refine go_run mm_312 7 (pc' := 9) (ls' := [some (.ref 140), some (.int v1)]) (st' := [.int 1, .int 0, .int v1, .ref 140]) (S' := (wI S 140 0 0)) rfl ?_
  refine go_cs mm_312 (av := [.int v1, .int 0, .int 1]) (rest := [.ref 140]) (nl := 3) rfl (show csOK 312 9 148 182 3 3 = true by decide +kernel) rfl rfl rfl (S_182 rfl) (KP_V ?_)
  show Go XM (d + 7) 312 0 12 [some (.ref 140), some (.int v1)] [.int (b2i (F_182 v1 0 1)), .ref 140] (wI S 140 0 0) (RV (vI r.1) r.2)
  have j7 : Go XM (d + 7) 312 0 20 [some (.ref 140), some (.int v1)] [.int (b2i (!(F_182 v1 0 1))), .ref 140] (wI S 140 0 0) (RV (vI r.1) r.2) := by
    refine go_run mm_312 1 (pc' := 21) (ls' := [some (.ref 140), some (.int v1)]) (st' := [.int 1, .int (b2i (!(F_182 v1 0 1))), .ref 140]) (S' := (wI S 140 0 0)) rfl ?_
    obtain ⟨w1, hw1, hr⟩ := ob_some hr
    refine go_cv mm_312 (h := 140) (As := [.int (b2i (!(F_182 v1 0 1))), .int 1]) (rest := []) (nl := 3) rfl rfl (show cvOK 312 21 86 183 2 3 11 = true by decide +kernel) rfl rfl rfl (S_183 hw1) (KP_V ?_)
    show Go XM (d + 7) 312 0 24 [some (.ref 140), some (.int v1)] [.int (b2i w1.1)] w1.2 (RV (vI r.1) r.2)
    refine go_ifb mm_312 rfl (p1 := 49) (p2 := 27) rfl (fun (hc2 : w1.1 = true) => ?_) (fun (hc2 : w1.1 = false) => ?_)
    · rw [if_pos hc2] at hr
      refine go_run mm_312 1 (pc' := 50) (ls' := [some (.ref 140), some (.int v1)]) (st' := [.int 0]) (S' := w1.2) rfl ?_
      cases hr
      exact go_ireturn mm_312 rfl rfl ⟨rfl, rfl, rfl⟩
    · rw [if_neg (bf hc2)] at hr
      refine go_run mm_312 4 (pc' := 33) (ls' := [some (.ref 140), some (.int v1)]) (st' := [.int v1, .ref 143, .ref 140]) (S' := w1.2) rfl ?_
      obtain ⟨hb3, hr⟩ := ck_some hr
      refine go_baload mm_312 (q := (Int32.toNatClampNeg v1)) rfl rfl rfl (ibd_ok hb3) ?_
      show Go XM (d + 7) 312 0 34 [some (.ref 140), some (.int v1)] [.int (w1.2.1 143 (Int32.toNatClampNeg v1)), .ref 140] w1.2 (RV (vI r.1) r.2)
      have j6 : Go XM (d + 7) 312 0 42 [some (.ref 140), some (.int v1)] [.int (b2i (decide ((w1.2.1 143 (Int32.toNatClampNeg v1)) = 0))), .ref 140] w1.2 (RV (vI r.1) r.2) := by
        refine go_run mm_312 1 (pc' := 43) (ls' := [some (.ref 140), some (.int v1)]) (st' := [.int 2, .int (b2i (decide ((w1.2.1 143 (Int32.toNatClampNeg v1)) = 0))), .ref 140]) (S' := w1.2) rfl ?_
        obtain ⟨w2, hw2, hr⟩ := ob_some hr
        refine go_cv mm_312 (h := 140) (As := [.int (b2i (decide ((w1.2.1 143 (Int32.toNatClampNeg v1)) = 0))), .int 2]) (rest := []) (nl := 3) rfl rfl (show cvOK 312 43 86 183 2 3 11 = true by decide +kernel) rfl rfl rfl (S_183 hw2) (KP_V ?_)
        show Go XM (d + 7) 312 0 46 [some (.ref 140), some (.int v1)] [.int (b2i w2.1)] w2.2 (RV (vI r.1) r.2)
        refine go_ifb mm_312 rfl (p1 := 49) (p2 := 51) rfl (fun (hc5 : w2.1 = true) => ?_) (fun (hc5 : w2.1 = false) => ?_)
        · rw [if_pos hc5] at hr
          refine go_run mm_312 1 (pc' := 50) (ls' := [some (.ref 140), some (.int v1)]) (st' := [.int 0]) (S' := w2.2) rfl ?_
          cases hr
          exact go_ireturn mm_312 rfl rfl ⟨rfl, rfl, rfl⟩
        · rw [if_neg (bf hc5)] at hr
          refine go_run mm_312 4 (pc' := 56) (ls' := [some (.ref 140), some (.int v1)]) (st' := [.int (9 + v1), .ref 140]) (S' := w2.2) rfl ?_
          obtain ⟨w3, hw3, hr⟩ := ob_some hr
          refine go_cv mm_312 (h := 140) (As := [.int (9 + v1)]) (rest := []) (nl := 3) rfl rfl (show cvOK 312 56 397 298 1 3 11 = true by decide +kernel) rfl rfl rfl (S_298 hw3) (KP_V ?_)
          show Go XM (d + 7) 312 0 59 [some (.ref 140), some (.int v1)] [] w3.2 (RV (vI r.1) r.2)
          refine go_run mm_312 5 (pc' := 68) (ls' := [some (.ref 140), some (.int v1)]) (st' := [.int (w3.2.1 140 20)]) (S' := (wI w3.2 140 4 0)) rfl ?_
          cases hr
          exact go_ireturn mm_312 rfl rfl ⟨rfl, rfl, rfl⟩
      refine go_if0 mm_312 rfl (p1 := 37) (p2 := 41) rfl (fun (hc4 : (w1.2.1 143 (Int32.toNatClampNeg v1)) = 0) => ?_) (fun (hc4 : ¬ (w1.2.1 143 (Int32.toNatClampNeg v1)) = 0) => ?_)
      · refine go_run mm_312 2 (pc' := 42) (ls' := [some (.ref 140), some (.int v1)]) (st' := [.int 1, .ref 140]) (S' := w1.2) rfl ?_
        have e : ((b2i (decide ((w1.2.1 143 (Int32.toNatClampNeg v1)) = 0))) : Int32) = 1 := by simp [b2i, hc4]
        rw [e] at j6
        exact j6
      · refine go_run mm_312 1 (pc' := 42) (ls' := [some (.ref 140), some (.int v1)]) (st' := [.int 0, .ref 140]) (S' := w1.2) rfl ?_
        have e : ((b2i (decide ((w1.2.1 143 (Int32.toNatClampNeg v1)) = 0))) : Int32) = 0 := by simp [b2i, hc4]
        rw [e] at j6
        exact j6
  refine go_ifb mm_312 rfl (p1 := 19) (p2 := 15) rfl (fun (hc1 : (F_182 v1 0 1) = true) => ?_) (fun (hc1 : (F_182 v1 0 1) = false) => ?_)
  · refine go_run mm_312 1 (pc' := 20) (ls' := [some (.ref 140), some (.int v1)]) (st' := [.int 0, .ref 140]) (S' := (wI S 140 0 0)) rfl ?_
    have e : ((b2i (!(F_182 v1 0 1))) : Int32) = 0 := by simp [b2i, hc1]
    rw [e] at j7
    exact j7
  · refine go_run mm_312 2 (pc' := 20) (ls' := [some (.ref 140), some (.int v1)]) (st' := [.int 1, .ref 140]) (S' := (wI S 140 0 0)) rfl ?_
    have e : ((b2i (!(F_182 v1 0 1))) : Int32) = 1 := by simp [b2i, hc1]
    rw [e] at j7
    exact j7
