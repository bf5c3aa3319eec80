/-! methods as functions (printed by a program): 245 linkDistance, 246 diameter, 247 farthest, 248 seenFromEdge, 249 isEar, 250 laysTriangle -/
noncomputable def F_245 (v1 : Int32) (v2 : Int32) (S : ST) : Option (Int32 × ST) := ob (F_226 v1 S) (fun w1 => if w1.1 = true then (some (0, w1.2)) else (ob (F_183 (!(F_182 v2 0 ((w1.2.1 140 20) - 1))) 2 w1.2) (fun w2 => if w2.1 = true then (some (0, w2.2)) else (ob (F_244 v1 w2.2) (fun w3 => if w3.1 = 0 then (some (0, w3.2)) else (ck (ibd v2 64) (some (w3.2.1 155 (Int32.toNatClampNeg v2), w3.2))))))))
set_option maxRecDepth 20000 in
theorem S_245 {d : Nat} {S : ST} {v1 : Int32} {v2 : Int32} {r} (hr : F_245 v1 v2 S = some r) : Cal XM (d + 8) 245 [.ref 140, .int v1, .int v2] S (RV (vI r.1) r.2) := by
  unfold F_245 at hr
  refine cal_go 1 rfl ?_
  refine go_run mm_245 2 (pc' := 2) (ls' := [some (.ref 140), some (.int v1), some (.int v2), none]) (st' := [.int v1, .ref 140]) (S' := S) rfl ?_
  obtain ⟨w1, hw1, hr⟩ := ob_some hr
  refine go_cv mm_245 (h := 140) (As := [.int v1]) (rest := []) (nl := 2) rfl rfl (show cvOK 245 2 254 226 1 2 11 = true by decide +kernel) rfl rfl rfl (S_226 hw1) (KP_V ?_)
  show Go XM (d + 8) 245 0 5 [some (.ref 140), some (.int v1), some (.int v2), none] [.int (b2i w1.1)] w1.2 (RV (vI r.1) r.2)
  refine go_ifb mm_245 rfl (p1 := 35) (p2 := 8) rfl (fun (hc1 : w1.1 = true) => ?_) (fun (hc1 : w1.1 = false) => ?_)
  · rw [if_pos hc1] at hr
    refine go_run mm_245 1 (pc' := 36) (ls' := [some (.ref 140), some (.int v1), some (.int v2), none]) (st' := [.int 0]) (S' := w1.2) rfl ?_
    cases hr
    exact go_ireturn mm_245 rfl rfl ⟨rfl, rfl, rfl⟩
  · rw [if_neg (bf hc1)] at hr
    refine go_run mm_245 7 (pc' := 17) (ls' := [some (.ref 140), some (.int v1), some (.int v2), none]) (st' := [.int ((w1.2.1 140 20) - 1), .int 0, .int v2, .ref 140]) (S' := w1.2) rfl ?_
    refine go_cs mm_245 (av := [.int v2, .int 0, .int ((w1.2.1 140 20) - 1)]) (rest := [.ref 140]) (nl := 3) rfl (show csOK 245 17 148 182 3 3 = true by decide +kernel) rfl rfl rfl (S_182 rfl) (KP_V ?_)
    show Go XM (d + 8) 245 0 20 [some (.ref 140), some (.int v1), some (.int v2), none] [.int (b2i (F_182 v2 0 ((w1.2.1 140 20) - 1))), .ref 140] w1.2 (RV (vI r.1) r.2)
    have j6 : Go XM (d + 8) 245 0 28 [some (.ref 140), some (.int v1), some (.int v2), none] [.int (b2i (!(F_182 v2 0 ((w1.2.1 140 20) - 1)))), .ref 140] w1.2 (RV (vI r.1) r.2) := by
      refine go_run mm_245 1 (pc' := 29) (ls' := [some (.ref 140), some (.int v1), some (.int v2), none]) (st' := [.int 2, .int (b2i (!(F_182 v2 0 ((w1.2.1 140 20) - 1)))), .ref 140]) (S' := w1.2) rfl ?_
      obtain ⟨w2, hw2, hr⟩ := ob_some hr
      refine go_cv mm_245 (h := 140) (As := [.int (b2i (!(F_182 v2 0 ((w1.2.1 140 20) - 1)))), .int 2]) (rest := []) (nl := 3) rfl rfl (show cvOK 245 29 86 183 2 3 11 = true by decide +kernel) rfl rfl rfl (S_183 hw2) (KP_V ?_)
      show Go XM (d + 8) 245 0 32 [some (.ref 140), some (.int v1), some (.int v2), none] [.int (b2i w2.1)] w2.2 (RV (vI r.1) r.2)
      refine go_ifb mm_245 rfl (p1 := 35) (p2 := 37) rfl (fun (hc3 : w2.1 = true) => ?_) (fun (hc3 : w2.1 = false) => ?_)
      · rw [if_pos hc3] at hr
        refine go_run mm_245 1 (pc' := 36) (ls' := [some (.ref 140), some (.int v1), some (.int v2), none]) (st' := [.int 0]) (S' := w2.2) rfl ?_
        cases hr
        exact go_ireturn mm_245 rfl rfl ⟨rfl, rfl, rfl⟩
      · rw [if_neg (bf hc3)] at hr
        refine go_run mm_245 2 (pc' := 39) (ls' := [some (.ref 140), some (.int v1), some (.int v2), none]) (st' := [.int v1, .ref 140]) (S' := w2.2) rfl ?_
        obtain ⟨w3, hw3, hr⟩ := ob_some hr
        refine go_cv mm_245 (h := 140) (As := [.int v1]) (rest := []) (nl := 8) rfl rfl (show cvOK 245 39 290 244 1 8 11 = true by decide +kernel) rfl rfl rfl (S_244 hw3) (KP_V ?_)
        show Go XM (d + 8) 245 0 42 [some (.ref 140), some (.int v1), some (.int v2), none] [.int w3.1] w3.2 (RV (vI r.1) r.2)
        refine go_run mm_245 2 (pc' := 44) (ls' := [some (.ref 140), some (.int v1), some (.int v2), some (.int w3.1)]) (st' := [.int w3.1]) (S' := w3.2) rfl ?_
        refine go_if0 mm_245 rfl (p1 := 47) (p2 := 51) rfl (fun (hc4 : w3.1 = 0) => ?_) (fun (hc4 : ¬ w3.1 = 0) => ?_)
        · rw [if_pos hc4] at hr
          refine go_run mm_245 2 (pc' := 57) (ls' := [some (.ref 140), some (.int v1), some (.int v2), some (.int w3.1)]) (st' := [.int 0]) (S' := w3.2) rfl ?_
          cases hr
          exact go_ireturn mm_245 rfl rfl ⟨rfl, rfl, rfl⟩
        · rw [if_neg hc4] at hr
          refine go_run mm_245 3 (pc' := 56) (ls' := [some (.ref 140), some (.int v1), some (.int v2), some (.int w3.1)]) (st' := [.int v2, .ref 155]) (S' := w3.2) rfl ?_
          obtain ⟨hb5, hr⟩ := ck_some hr
          refine go_iaload mm_245 (q := (Int32.toNatClampNeg v2)) rfl rfl rfl (ibd_ok hb5) ?_
          show Go XM (d + 8) 245 0 57 [some (.ref 140), some (.int v1), some (.int v2), some (.int w3.1)] [.int (w3.2.1 155 (Int32.toNatClampNeg v2))] w3.2 (RV (vI r.1) r.2)
          cases hr
          exact go_ireturn mm_245 rfl rfl ⟨rfl, rfl, rfl⟩
    refine go_ifb mm_245 rfl (p1 := 27) (p2 := 23) rfl (fun (hc2 : (F_182 v2 0 ((w1.2.1 140 20) - 1)) = true) => ?_) (fun (hc2 : (F_182 v2 0 ((w1.2.1 140 20) - 1)) = false) => ?_)
    · refine go_run mm_245 1 (pc' := 28) (ls' := [some (.ref 140), some (.int v1), some (.int v2), none]) (st' := [.int 0, .ref 140]) (S' := w1.2) rfl ?_
      have e : ((b2i (!(F_182 v2 0 ((w1.2.1 140 20) - 1)))) : Int32) = 0 := by simp [b2i, hc2]
      rw [e] at j6
      exact j6
    · refine go_run mm_245 2 (pc' := 28) (ls' := [some (.ref 140), some (.int v1), some (.int v2), none]) (st' := [.int 1, .ref 140]) (S' := w1.2) rfl ?_
      have e : ((b2i (!(F_182 v2 0 ((w1.2.1 140 20) - 1)))) : Int32) = 1 := by simp [b2i, hc2]
      rw [e] at j6
      exact j6

noncomputable def Lm_246_13 (a13 : Int32 × Int32 × ST) : Option ((Int32 × Int32 × ST) ⊕ (Int32 × Int32 × ST)) := if a13.2.1 < (a13.2.2.1 140 20) then (ob (F_244 a13.2.1 a13.2.2) (fun w2 => some (.inl ((if a13.1 < w2.1 then w2.1 else a13.1), a13.2.1 + 1, w2.2)))) else (some (.inr (a13.1, a13.2.1, a13.2.2)))
set_option maxRecDepth 20000 in
theorem LSm_246_13 {d : Nat} {R : RT} {a13 : Int32 × Int32 × ST} {r9} (hr : Lm_246_13 a13 = some r9) (hL : ∀ a9, r9 = .inl a9 → (fun a13 => Go XM (d + 8) 246 0 13 [some (.ref 140), some (.int a13.1), some (.int a13.2.1), none] [] a13.2.2 R) a9) (hR : ∀ b9, r9 = .inr b9 → (fun e13 => Go XM (d + 8) 246 0 44 [some (.ref 140), some (.int e13.1), some (.int e13.2.1), none] [] e13.2.2 R) b9) : Go XM (d + 8) 246 0 13 [some (.ref 140), some (.int a13.1), some (.int a13.2.1), none] [] a13.2.2 R := by
  unfold Lm_246_13 at hr
  refine go_run mm_246 3 (pc' := 18) (ls' := [some (.ref 140), some (.int a13.1), some (.int a13.2.1), none]) (st' := [.int (a13.2.2.1 140 20), .int a13.2.1]) (S' := a13.2.2) rfl ?_
  refine go_if2 mm_246 rfl (p1 := 21) (p2 := 44) rfl (fun (hc2 : a13.2.1 < (a13.2.2.1 140 20)) => ?_) (fun (hc2 : ¬ a13.2.1 < (a13.2.2.1 140 20)) => ?_)
  · rw [if_pos hc2] at hr
    refine go_run mm_246 2 (pc' := 23) (ls' := [some (.ref 140), some (.int a13.1), some (.int a13.2.1), none]) (st' := [.int a13.2.1, .ref 140]) (S' := a13.2.2) rfl ?_
    obtain ⟨w2, hw2, hr⟩ := ob_some hr
    refine go_cv mm_246 (h := 140) (As := [.int a13.2.1]) (rest := []) (nl := 8) rfl rfl (show cvOK 246 23 290 244 1 8 11 = true by decide +kernel) rfl rfl rfl (S_244 hw2) (KP_V ?_)
    show Go XM (d + 8) 246 0 26 [some (.ref 140), some (.int a13.1), some (.int a13.2.1), none] [.int w2.1] w2.2 R
    refine go_run mm_246 3 (pc' := 29) (ls' := [some (.ref 140), some (.int a13.1), some (.int a13.2.1), some (.int w2.1)]) (st' := [.int a13.1, .int w2.1]) (S' := w2.2) rfl ?_
    have j4 : Go XM (d + 8) 246 0 37 [some (.ref 140), some (.int a13.1), some (.int a13.2.1), some (.int w2.1)] [.int (if a13.1 < w2.1 then w2.1 else a13.1)] w2.2 R := by
      refine go_run mm_246 3 (pc' := 13) (ls' := [some (.ref 140), some (.int (if a13.1 < w2.1 then w2.1 else a13.1)), some (.int (a13.2.1 + 1)), some (.int w2.1)]) (st' := []) (S' := w2.2) rfl ?_
      cases hr
      have h9 := hL ((if a13.1 < w2.1 then w2.1 else a13.1), a13.2.1 + 1, w2.2) rfl
      dsimp only at h9
      exact Go.le h9 (by repeat first | exact True.intro | refine And.intro rfl ?_)
    refine go_if2 mm_246 rfl (p1 := 32) (p2 := 36) rfl (fun (hc3 : a13.1 < w2.1) => ?_) (fun (hc3 : ¬ a13.1 < w2.1) => ?_)
    · refine go_run mm_246 2 (pc' := 37) (ls' := [some (.ref 140), some (.int a13.1), some (.int a13.2.1), some (.int w2.1)]) (st' := [.int w2.1]) (S' := w2.2) rfl ?_
      have e : ((if a13.1 < w2.1 then w2.1 else a13.1) : Int32) = w2.1 := by simp [b2i, hc3]
      rw [e] at j4
      exact j4
    · refine go_run mm_246 1 (pc' := 37) (ls' := [some (.ref 140), some (.int a13.1), some (.int a13.2.1), some (.int w2.1)]) (st' := [.int a13.1]) (S' := w2.2) rfl ?_
      have e : ((if a13.1 < w2.1 then w2.1 else a13.1) : Int32) = a13.1 := by simp [b2i, hc3]
      rw [e] at j4
      exact j4
  · rw [if_neg hc2] at hr
    cases hr
    have h9 := hR (a13.1, a13.2.1, a13.2.2) rfl
    dsimp only [Sum.elim_inl] at h9
    exact Go.le h9 (by repeat first | exact True.intro | refine And.intro rfl ?_)
noncomputable def F_246 (S : ST) : Option (Int32 × ST) := ob (F_184 S) (fun w1 => if w1.1 = true then (some (0, w1.2)) else (ob (wh FU (Lm_246_13) (0, 0, w1.2)) (fun e13 => some (e13.1, e13.2.2))))
set_option maxRecDepth 20000 in
theorem S_246 {d : Nat} {S : ST} {r} (hr : F_246 S = some r) : Cal XM (d + 8) 246 [.ref 140] S (RV (vI r.1) r.2) := by
  unfold F_246 at hr
  refine cal_go 3 rfl ?_
  refine go_run mm_246 1 (pc' := 1) (ls' := [some (.ref 140), none, none, none]) (st' := [.ref 140]) (S' := S) rfl ?_
  obtain ⟨w1, hw1, hr⟩ := ob_some hr
  refine go_cv mm_246 (h := 140) (As := []) (rest := []) (nl := 1) rfl rfl (show cvOK 246 1 247 184 0 1 11 = true by decide +kernel) rfl rfl rfl (S_184 hw1) (KP_V ?_)
  show Go XM (d + 8) 246 0 4 [some (.ref 140), none, none, none] [.int (b2i w1.1)] w1.2 (RV (vI r.1) r.2)
  refine go_ifb mm_246 rfl (p1 := 7) (p2 := 9) rfl (fun (hc1 : w1.1 = true) => ?_) (fun (hc1 : w1.1 = false) => ?_)
  · rw [if_pos hc1] at hr
    refine go_run mm_246 1 (pc' := 8) (ls' := [some (.ref 140), none, none, none]) (st' := [.int 0]) (S' := w1.2) rfl ?_
    cases hr
    exact go_ireturn mm_246 rfl rfl ⟨rfl, rfl, rfl⟩
  · rw [if_neg (bf hc1)] at hr
    refine go_run mm_246 4 (pc' := 13) (ls' := [some (.ref 140), some (.int 0), some (.int 0), none]) (st' := []) (S' := w1.2) rfl ?_
    obtain ⟨z13, he13, hr⟩ := ob_some hr
    refine Go.le (ls' := [some (.ref 140), some (.int 0), some (.int 0), none]) ?_ (by repeat first | exact True.intro | refine And.intro rfl ?_)
    refine wh_go (P := fun a13 => Go XM (d + 8) 246 0 13 [some (.ref 140), some (.int a13.1), some (.int a13.2.1), none] [] a13.2.2 (RV (vI r.1) r.2)) (K := fun e13 => Go XM (d + 8) 246 0 44 [some (.ref 140), some (.int e13.1), some (.int e13.2.1), none] [] e13.2.2 (RV (vI r.1) r.2)) (fun a9 r9 h9 hL hR => LSm_246_13 h9 hL hR) _ _ _ he13 ?_
    generalize z13 = e13 at hr
    show Go XM (d + 8) 246 0 44 [some (.ref 140), some (.int e13.1), some (.int e13.2.1), none] [] e13.2.2 (RV (vI r.1) r.2)
    refine go_run mm_246 1 (pc' := 45) (ls' := [some (.ref 140), some (.int e13.1), some (.int e13.2.1), none]) (st' := [.int e13.1]) (S' := e13.2.2) rfl ?_
    cases hr
    exact go_ireturn mm_246 rfl rfl ⟨rfl, rfl, rfl⟩

noncomputable def Lm_247_18 (v1 : Int32) (p18_2 : Int32) (S : ST) (a18 : Int32) : Option ((Int32) ⊕ (Int32)) := ck (ibd a18 64) (if (S.1 155 (Int32.toNatClampNeg a18)) = p18_2 then (some (.inr (a18))) else (some (.inl (a18 + 1))))
set_option maxRecDepth 20000 in
theorem LSm_247_18 {d : Nat} {R : RT} {S : ST} {v1 : Int32} {p18_2 : Int32} {a18 : Int32} {r9} (hr : Lm_247_18 v1 p18_2 S a18 = some r9) (hL : ∀ a9, r9 = .inl a9 → (fun a18 => Go XM (d + 8) 247 0 18 [some (.ref 140), some (.int v1), some (.int p18_2), some (.int a18)] [] S R) a9) (hR : ∀ b9, r9 = .inr b9 → (fun e18 => Go XM (d + 8) 247 0 34 [some (.ref 140), some (.int v1), some (.int p18_2), some (.int e18)] [] S R) b9) : Go XM (d + 8) 247 0 18 [some (.ref 140), some (.int v1), some (.int p18_2), some (.int a18)] [] S R := by
  unfold Lm_247_18 at hr
  refine go_run mm_247 3 (pc' := 23) (ls' := [some (.ref 140), some (.int v1), some (.int p18_2), some (.int a18)]) (st' := [.int a18, .ref 155]) (S' := S) rfl ?_
  obtain ⟨hb2, hr⟩ := ck_some hr
  refine go_iaload mm_247 (q := (Int32.toNatClampNeg a18)) rfl rfl rfl (ibd_ok hb2) ?_
  show Go XM (d + 8) 247 0 24 [some (.ref 140), some (.int v1), some (.int p18_2), some (.int a18)] [.int (S.1 155 (Int32.toNatClampNeg a18))] S R
  refine go_run mm_247 1 (pc' := 25) (ls' := [some (.ref 140), some (.int v1), some (.int p18_2), some (.int a18)]) (st' := [.int p18_2, .int (S.1 155 (Int32.toNatClampNeg a18))]) (S' := S) rfl ?_
  refine go_if2 mm_247 rfl (p1 := 34) (p2 := 28) rfl (fun (hc3 : (S.1 155 (Int32.toNatClampNeg a18)) = p18_2) => ?_) (fun (hc3 : ¬ (S.1 155 (Int32.toNatClampNeg a18)) = p18_2) => ?_)
  · rw [if_pos hc3] at hr
    cases hr
    have h9 := hR (a18) rfl
    dsimp only [Sum.elim_inl] at h9
    exact Go.le h9 (by repeat first | exact True.intro | refine And.intro rfl ?_)
  · rw [if_neg hc3] at hr
    refine go_run mm_247 2 (pc' := 18) (ls' := [some (.ref 140), some (.int v1), some (.int p18_2), some (.int (a18 + 1))]) (st' := []) (S' := S) rfl ?_
    cases hr
    have h9 := hL (a18 + 1) rfl
    dsimp only at h9
    exact Go.le h9 (by repeat first | exact True.intro | refine And.intro rfl ?_)
noncomputable def F_247 (v1 : Int32) (S : ST) : Option (Int32 × ST) := ob (F_226 v1 S) (fun w1 => if w1.1 = true then (some (0, w1.2)) else (ob (F_244 v1 w1.2) (fun w2 => ob (wh FU (Lm_247_18 v1 w2.1 w2.2) (0)) (fun e18 => some (e18, w2.2)))))
set_option maxRecDepth 20000 in
theorem S_247 {d : Nat} {S : ST} {v1 : Int32} {r} (hr : F_247 v1 S = some r) : Cal XM (d + 8) 247 [.ref 140, .int v1] S (RV (vI r.1) r.2) := by
  unfold F_247 at hr
  refine cal_go 2 rfl ?_
  refine go_run mm_247 2 (pc' := 2) (ls' := [some (.ref 140), some (.int v1), none, none]) (st' := [.int v1, .ref 140]) (S' := S) rfl ?_
  obtain ⟨w1, hw1, hr⟩ := ob_some hr
  refine go_cv mm_247 (h := 140) (As := [.int v1]) (rest := []) (nl := 2) rfl rfl (show cvOK 247 2 254 226 1 2 11 = true by decide +kernel) rfl rfl rfl (S_226 hw1) (KP_V ?_)
  show Go XM (d + 8) 247 0 5 [some (.ref 140), some (.int v1), none, none] [.int (b2i w1.1)] w1.2 (RV (vI r.1) r.2)
  refine go_ifb mm_247 rfl (p1 := 8) (p2 := 10) rfl (fun (hc1 : w1.1 = true) => ?_) (fun (hc1 : w1.1 = false) => ?_)
  · rw [if_pos hc1] at hr
    refine go_run mm_247 1 (pc' := 9) (ls' := [some (.ref 140), some (.int v1), none, none]) (st' := [.int 0]) (S' := w1.2) rfl ?_
    cases hr
    exact go_ireturn mm_247 rfl rfl ⟨rfl, rfl, rfl⟩
  · rw [if_neg (bf hc1)] at hr
    refine go_run mm_247 2 (pc' := 12) (ls' := [some (.ref 140), some (.int v1), none, none]) (st' := [.int v1, .ref 140]) (S' := w1.2) rfl ?_
    obtain ⟨w2, hw2, hr⟩ := ob_some hr
    refine go_cv mm_247 (h := 140) (As := [.int v1]) (rest := []) (nl := 8) rfl rfl (show cvOK 247 12 290 244 1 8 11 = true by decide +kernel) rfl rfl rfl (S_244 hw2) (KP_V ?_)
    show Go XM (d + 8) 247 0 15 [some (.ref 140), some (.int v1), none, none] [.int w2.1] w2.2 (RV (vI r.1) r.2)
    refine go_run mm_247 3 (pc' := 18) (ls' := [some (.ref 140), some (.int v1), some (.int w2.1), some (.int 0)]) (st' := []) (S' := w2.2) rfl ?_
    obtain ⟨z18, he18, hr⟩ := ob_some hr
    refine Go.le (ls' := [some (.ref 140), some (.int v1), some (.int w2.1), some (.int 0)]) ?_ (by repeat first | exact True.intro | refine And.intro rfl ?_)
    refine wh_go (P := fun a18 => Go XM (d + 8) 247 0 18 [some (.ref 140), some (.int v1), some (.int w2.1), some (.int a18)] [] w2.2 (RV (vI r.1) r.2)) (K := fun e18 => Go XM (d + 8) 247 0 34 [some (.ref 140), some (.int v1), some (.int w2.1), some (.int e18)] [] w2.2 (RV (vI r.1) r.2)) (fun a9 r9 h9 hL hR => LSm_247_18 h9 hL hR) _ _ _ he18 ?_
    generalize z18 = e18 at hr
    show Go XM (d + 8) 247 0 34 [some (.ref 140), some (.int v1), some (.int w2.1), some (.int e18)] [] w2.2 (RV (vI r.1) r.2)
    refine go_run mm_247 1 (pc' := 35) (ls' := [some (.ref 140), some (.int v1), some (.int w2.1), some (.int e18)]) (st' := [.int e18]) (S' := w2.2) rfl ?_
    cases hr
    exact go_ireturn mm_247 rfl rfl ⟨rfl, rfl, rfl⟩

noncomputable def F_248 (v1 : Int32) (S : ST) : Option (Int64 × ST) := ob (F_225 v1 S) (fun w1 => if w1.1 = true then (some (0, w1.2)) else (ob (F_239 w1.2) (fun w2 => ck (ibd v1 12) (some (w2.2.2 154 (Int32.toNatClampNeg v1), w2.2)))))
set_option maxRecDepth 20000 in
theorem S_248 {d : Nat} {S : ST} {v1 : Int32} {r} (hr : F_248 v1 S = some r) : Cal XM (d + 7) 248 [.ref 140, .int v1] S (RV (vJ r.1) r.2) := by
  unfold F_248 at hr
  refine cal_go 0 rfl ?_
  refine go_run mm_248 2 (pc' := 2) (ls' := [some (.ref 140), some (.int v1)]) (st' := [.int v1, .ref 140]) (S' := S) rfl ?_
  obtain ⟨w1, hw1, hr⟩ := ob_some hr
  refine go_cv mm_248 (h := 140) (As := [.int v1]) (rest := []) (nl := 2) rfl rfl (show cvOK 248 2 251 225 1 2 11 = true by decide +kernel) rfl rfl rfl (S_225 hw1) (KP_V ?_)
  show Go XM (d + 7) 248 0 5 [some (.ref 140), some (.int v1)] [.int (b2i w1.1)] w1.2 (RV (vJ r.1) r.2)
  refine go_ifb mm_248 rfl (p1 := 8) (p2 := 10) rfl (fun (hc1 : w1.1 = true) => ?_) (fun (hc1 : w1.1 = false) => ?_)
  · rw [if_pos hc1] at hr
    refine go_run mm_248 1 (pc' := 9) (ls' := [some (.ref 140), some (.int v1)]) (st' := [.long 0]) (S' := w1.2) rfl ?_
    cases hr
    exact go_lreturn mm_248 rfl rfl ⟨rfl, rfl, rfl⟩
  · rw [if_neg (bf hc1)] at hr
    refine go_run mm_248 1 (pc' := 11) (ls' := [some (.ref 140), some (.int v1)]) (st' := [.ref 140]) (S' := w1.2) rfl ?_
    obtain ⟨w2, hw2, hr⟩ := ob_some hr
    refine go_cv mm_248 (h := 140) (As := []) (rest := []) (nl := 3) rfl rfl (show cvOK 248 11 279 239 0 3 11 = true by decide +kernel) rfl rfl rfl (S_239 hw2) (KP_V ?_)
    show Go XM (d + 7) 248 0 14 [some (.ref 140), some (.int v1)] [] w2.2 (RV (vJ r.1) r.2)
    refine go_run mm_248 3 (pc' := 19) (ls' := [some (.ref 140), some (.int v1)]) (st' := [.int v1, .ref 154]) (S' := w2.2) rfl ?_
    obtain ⟨hb2, hr⟩ := ck_some hr
    refine go_laload mm_248 (q := (Int32.toNatClampNeg v1)) rfl rfl rfl (ibd_ok hb2) ?_
    show Go XM (d + 7) 248 0 20 [some (.ref 140), some (.int v1)] [.long (w2.2.2 154 (Int32.toNatClampNeg v1))] w2.2 (RV (vJ r.1) r.2)
    cases hr
    exact go_lreturn mm_248 rfl rfl ⟨rfl, rfl, rfl⟩

noncomputable def Lm_249_50 (v1 : Int32) (v2 : Int32) (p50_3 : Int32) (p50_4 : Int32) (p50_5 : Int32) (S : ST) (a50 : Int32) : Option ((Int32) ⊕ ((Int32) ⊕ Bool)) := if a50 < v2 then (ck (ibd a50 12) (if (S.1 156 (Int32.toNatClampNeg a50)) = p50_3 then (some (.inl (a50 + 1))) else (if (S.1 156 (Int32.toNatClampNeg a50)) = p50_4 then (some (.inl (a50 + 1))) else (if (S.1 156 (Int32.toNatClampNeg a50)) = p50_5 then (some (.inl (a50 + 1))) else (ob (F_235 p50_3 p50_4 (S.1 156 (Int32.toNatClampNeg a50)) S) (fun w2 => if w2 < 0 then (some (.inl (a50 + 1))) else (ob (F_235 p50_4 p50_5 (S.1 156 (Int32.toNatClampNeg a50)) S) (fun w3 => if w3 < 0 then (some (.inl (a50 + 1))) else (ob (F_235 p50_5 p50_3 (S.1 156 (Int32.toNatClampNeg a50)) S) (fun w4 => if w4 < 0 then (some (.inl (a50 + 1))) else (some (.inr (.inr false))))))))))))) else (some (.inr (.inl (a50))))
set_option maxRecDepth 20000 in
theorem LSm_249_50 {d : Nat} {R : RT} {S : ST} {v1 : Int32} {v2 : Int32} {p50_3 : Int32} {p50_4 : Int32} {p50_5 : Int32} {a50 : Int32} {r9} (hr : Lm_249_50 v1 v2 p50_3 p50_4 p50_5 S a50 = some r9) (hL : ∀ a9, r9 = .inl a9 → (fun a50 => Go XM (d + 3) 249 0 50 [some (.ref 140), some (.int v1), some (.int v2), some (.int p50_3), some (.int p50_4), some (.int p50_5), some (.int a50), none] [] S R) a9) (hR : ∀ b9, r9 = .inr b9 → Sum.elim (fun e50 => Go XM (d + 3) 249 0 130 [some (.ref 140), some (.int v1), some (.int v2), some (.int p50_3), some (.int p50_4), some (.int p50_5), some (.int e50), none] [] S R) (fun o => R 0 (.inr (vZ o)) S) b9) : Go XM (d + 3) 249 0 50 [some (.ref 140), some (.int v1), some (.int v2), some (.int p50_3), some (.int p50_4), some (.int p50_5), some (.int a50), none] [] S R := by
  unfold Lm_249_50 at hr
  refine go_run mm_249 2 (pc' := 53) (ls' := [some (.ref 140), some (.int v1), some (.int v2), some (.int p50_3), some (.int p50_4), some (.int p50_5), some (.int a50), none]) (st' := [.int v2, .int a50]) (S' := S) rfl ?_
  refine go_if2 mm_249 rfl (p1 := 56) (p2 := 130) rfl (fun (hc7 : a50 < v2) => ?_) (fun (hc7 : ¬ a50 < v2) => ?_)
  · rw [if_pos hc7] at hr
    refine go_run mm_249 3 (pc' := 62) (ls' := [some (.ref 140), some (.int v1), some (.int v2), some (.int p50_3), some (.int p50_4), some (.int p50_5), some (.int a50), none]) (st' := [.int a50, .ref 156]) (S' := S) rfl ?_
    obtain ⟨hb8, hr⟩ := ck_some hr
    refine go_iaload mm_249 (q := (Int32.toNatClampNeg a50)) rfl rfl rfl (ibd_ok hb8) ?_
    show Go XM (d + 3) 249 0 63 [some (.ref 140), some (.int v1), some (.int v2), some (.int p50_3), some (.int p50_4), some (.int p50_5), some (.int a50), none] [.int (S.1 156 (Int32.toNatClampNeg a50))] S R
    refine go_run mm_249 3 (pc' := 68) (ls' := [some (.ref 140), some (.int v1), some (.int v2), some (.int p50_3), some (.int p50_4), some (.int p50_5), some (.int a50), some (.int (S.1 156 (Int32.toNatClampNeg a50)))]) (st' := [.int p50_3, .int (S.1 156 (Int32.toNatClampNeg a50))]) (S' := S) rfl ?_
    refine go_if2 mm_249 rfl (p1 := 124) (p2 := 71) rfl (fun (hc9 : (S.1 156 (Int32.toNatClampNeg a50)) = p50_3) => ?_) (fun (hc9 : ¬ (S.1 156 (Int32.toNatClampNeg a50)) = p50_3) => ?_)
    · rw [if_pos hc9] at hr
      refine go_run mm_249 2 (pc' := 50) (ls' := [some (.ref 140), some (.int v1), some (.int v2), some (.int p50_3), some (.int p50_4), some (.int p50_5), some (.int (a50 + 1)), some (.int (S.1 156 (Int32.toNatClampNeg a50)))]) (st' := []) (S' := S) rfl ?_
      cases hr
      have h9 := hL (a50 + 1) rfl
      dsimp only at h9
      exact Go.le h9 (by repeat first | exact True.intro | refine And.intro rfl ?_)
    · rw [if_neg hc9] at hr
      refine go_run mm_249 2 (pc' := 75) (ls' := [some (.ref 140), some (.int v1), some (.int v2), some (.int p50_3), some (.int p50_4), some (.int p50_5), some (.int a50), some (.int (S.1 156 (Int32.toNatClampNeg a50)))]) (st' := [.int p50_4, .int (S.1 156 (Int32.toNatClampNeg a50))]) (S' := S) rfl ?_
      refine go_if2 mm_249 rfl (p1 := 124) (p2 := 78) rfl (fun (hc10 : (S.1 156 (Int32.toNatClampNeg a50)) = p50_4) => ?_) (fun (hc10 : ¬ (S.1 156 (Int32.toNatClampNeg a50)) = p50_4) => ?_)
      · rw [if_pos hc10] at hr
        refine go_run mm_249 2 (pc' := 50) (ls' := [some (.ref 140), some (.int v1), some (.int v2), some (.int p50_3), some (.int p50_4), some (.int p50_5), some (.int (a50 + 1)), some (.int (S.1 156 (Int32.toNatClampNeg a50)))]) (st' := []) (S' := S) rfl ?_
        cases hr
        have h9 := hL (a50 + 1) rfl
        dsimp only at h9
        exact Go.le h9 (by repeat first | exact True.intro | refine And.intro rfl ?_)
      · rw [if_neg hc10] at hr
        refine go_run mm_249 2 (pc' := 82) (ls' := [some (.ref 140), some (.int v1), some (.int v2), some (.int p50_3), some (.int p50_4), some (.int p50_5), some (.int a50), some (.int (S.1 156 (Int32.toNatClampNeg a50)))]) (st' := [.int p50_5, .int (S.1 156 (Int32.toNatClampNeg a50))]) (S' := S) rfl ?_
        refine go_if2 mm_249 rfl (p1 := 124) (p2 := 85) rfl (fun (hc11 : (S.1 156 (Int32.toNatClampNeg a50)) = p50_5) => ?_) (fun (hc11 : ¬ (S.1 156 (Int32.toNatClampNeg a50)) = p50_5) => ?_)
        · rw [if_pos hc11] at hr
          refine go_run mm_249 2 (pc' := 50) (ls' := [some (.ref 140), some (.int v1), some (.int v2), some (.int p50_3), some (.int p50_4), some (.int p50_5), some (.int (a50 + 1)), some (.int (S.1 156 (Int32.toNatClampNeg a50)))]) (st' := []) (S' := S) rfl ?_
          cases hr
          have h9 := hL (a50 + 1) rfl
          dsimp only at h9
          exact Go.le h9 (by repeat first | exact True.intro | refine And.intro rfl ?_)
        · rw [if_neg hc11] at hr
          refine go_run mm_249 4 (pc' := 91) (ls' := [some (.ref 140), some (.int v1), some (.int v2), some (.int p50_3), some (.int p50_4), some (.int p50_5), some (.int a50), some (.int (S.1 156 (Int32.toNatClampNeg a50)))]) (st' := [.int (S.1 156 (Int32.toNatClampNeg a50)), .int p50_4, .int p50_3, .ref 140]) (S' := S) rfl ?_
          obtain ⟨w2, hw2, hr⟩ := ob_some hr
          refine go_cv mm_249 (h := 140) (As := [.int p50_3, .int p50_4, .int (S.1 156 (Int32.toNatClampNeg a50))]) (rest := []) (nl := 5) rfl rfl (show cvOK 249 91 263 235 3 5 11 = true by decide +kernel) rfl rfl rfl (S_235 hw2) (KP_V ?_)
          show Go XM (d + 3) 249 0 94 [some (.ref 140), some (.int v1), some (.int v2), some (.int p50_3), some (.int p50_4), some (.int p50_5), some (.int a50), some (.int (S.1 156 (Int32.toNatClampNeg a50)))] [.int w2] S R
          refine go_if0 mm_249 rfl (p1 := 124) (p2 := 97) rfl (fun (hc12 : w2 < 0) => ?_) (fun (hc12 : ¬ w2 < 0) => ?_)
          · rw [if_pos hc12] at hr
            refine go_run mm_249 2 (pc' := 50) (ls' := [some (.ref 140), some (.int v1), some (.int v2), some (.int p50_3), some (.int p50_4), some (.int p50_5), some (.int (a50 + 1)), some (.int (S.1 156 (Int32.toNatClampNeg a50)))]) (st' := []) (S' := S) rfl ?_
            cases hr
            have h9 := hL (a50 + 1) rfl
            dsimp only at h9
            exact Go.le h9 (by repeat first | exact True.intro | refine And.intro rfl ?_)
          · rw [if_neg hc12] at hr
            refine go_run mm_249 4 (pc' := 104) (ls' := [some (.ref 140), some (.int v1), some (.int v2), some (.int p50_3), some (.int p50_4), some (.int p50_5), some (.int a50), some (.int (S.1 156 (Int32.toNatClampNeg a50)))]) (st' := [.int (S.1 156 (Int32.toNatClampNeg a50)), .int p50_5, .int p50_4, .ref 140]) (S' := S) rfl ?_
            obtain ⟨w3, hw3, hr⟩ := ob_some hr
            refine go_cv mm_249 (h := 140) (As := [.int p50_4, .int p50_5, .int (S.1 156 (Int32.toNatClampNeg a50))]) (rest := []) (nl := 5) rfl rfl (show cvOK 249 104 263 235 3 5 11 = true by decide +kernel) rfl rfl rfl (S_235 hw3) (KP_V ?_)
            show Go XM (d + 3) 249 0 107 [some (.ref 140), some (.int v1), some (.int v2), some (.int p50_3), some (.int p50_4), some (.int p50_5), some (.int a50), some (.int (S.1 156 (Int32.toNatClampNeg a50)))] [.int w3] S R
            refine go_if0 mm_249 rfl (p1 := 124) (p2 := 110) rfl (fun (hc13 : w3 < 0) => ?_) (fun (hc13 : ¬ w3 < 0) => ?_)
            · rw [if_pos hc13] at hr
              refine go_run mm_249 2 (pc' := 50) (ls' := [some (.ref 140), some (.int v1), some (.int v2), some (.int p50_3), some (.int p50_4), some (.int p50_5), some (.int (a50 + 1)), some (.int (S.1 156 (Int32.toNatClampNeg a50)))]) (st' := []) (S' := S) rfl ?_
              cases hr
              have h9 := hL (a50 + 1) rfl
              dsimp only at h9
              exact Go.le h9 (by repeat first | exact True.intro | refine And.intro rfl ?_)
            · rw [if_neg hc13] at hr
              refine go_run mm_249 4 (pc' := 116) (ls' := [some (.ref 140), some (.int v1), some (.int v2), some (.int p50_3), some (.int p50_4), some (.int p50_5), some (.int a50), some (.int (S.1 156 (Int32.toNatClampNeg a50)))]) (st' := [.int (S.1 156 (Int32.toNatClampNeg a50)), .int p50_3, .int p50_5, .ref 140]) (S' := S) rfl ?_
              obtain ⟨w4, hw4, hr⟩ := ob_some hr
              refine go_cv mm_249 (h := 140) (As := [.int p50_5, .int p50_3, .int (S.1 156 (Int32.toNatClampNeg a50))]) (rest := []) (nl := 5) rfl rfl (show cvOK 249 116 263 235 3 5 11 = true by decide +kernel) rfl rfl rfl (S_235 hw4) (KP_V ?_)
              show Go XM (d + 3) 249 0 119 [some (.ref 140), some (.int v1), some (.int v2), some (.int p50_3), some (.int p50_4), some (.int p50_5), some (.int a50), some (.int (S.1 156 (Int32.toNatClampNeg a50)))] [.int w4] S R
              refine go_if0 mm_249 rfl (p1 := 124) (p2 := 122) rfl (fun (hc14 : w4 < 0) => ?_) (fun (hc14 : ¬ w4 < 0) => ?_)
              · rw [if_pos hc14] at hr
                refine go_run mm_249 2 (pc' := 50) (ls' := [some (.ref 140), some (.int v1), some (.int v2), some (.int p50_3), some (.int p50_4), some (.int p50_5), some (.int (a50 + 1)), some (.int (S.1 156 (Int32.toNatClampNeg a50)))]) (st' := []) (S' := S) rfl ?_
                cases hr
                have h9 := hL (a50 + 1) rfl
                dsimp only at h9
                exact Go.le h9 (by repeat first | exact True.intro | refine And.intro rfl ?_)
              · rw [if_neg hc14] at hr
                refine go_run mm_249 1 (pc' := 123) (ls' := [some (.ref 140), some (.int v1), some (.int v2), some (.int p50_3), some (.int p50_4), some (.int p50_5), some (.int a50), some (.int (S.1 156 (Int32.toNatClampNeg a50)))]) (st' := [.int 0]) (S' := S) rfl ?_
                cases hr
                have h9 : R 0 (.inr (vZ false)) S := hR _ rfl
                exact go_zreturn mm_249 rfl rfl (Or.inl rfl) h9
  · rw [if_neg hc7] at hr
    cases hr
    have h9 := hR (.inl (a50)) rfl
    dsimp only [Sum.elim_inl] at h9
    exact Go.le h9 (by repeat first | exact True.intro | refine And.intro rfl ?_)
noncomputable def F_249 (v1 : Int32) (v2 : Int32) (S : ST) : Option Bool := ck (!(decide (v2 = 0))) (ck (ibd (((v1 + v2) - 1) - ((v1 + v2) - 1) / v2 * v2) 12) (ck (ibd v1 12) (ck (!(decide (v2 = 0))) (ck (ibd ((v1 + 1) - (v1 + 1) / v2 * v2) 12) (ob (F_235 (S.1 156 (Int32.toNatClampNeg (((v1 + v2) - 1) - ((v1 + v2) - 1) / v2 * v2))) (S.1 156 (Int32.toNatClampNeg v1)) (S.1 156 (Int32.toNatClampNeg ((v1 + 1) - (v1 + 1) / v2 * v2))) S) (fun w1 => if (0 : Int32) < w1 then (ob (wh FU (Lm_249_50 v1 v2 (S.1 156 (Int32.toNatClampNeg (((v1 + v2) - 1) - ((v1 + v2) - 1) / v2 * v2))) (S.1 156 (Int32.toNatClampNeg v1)) (S.1 156 (Int32.toNatClampNeg ((v1 + 1) - (v1 + 1) / v2 * v2))) S) (0)) (fun z => Sum.elim (fun e50 => some true) (fun o => some o) z)) else (some false)))))))
set_option maxRecDepth 20000 in
theorem S_249 {d : Nat} {S : ST} {v1 : Int32} {v2 : Int32} {r} (hr : F_249 v1 v2 S = some r) : Cal XM (d + 3) 249 [.ref 140, .int v1, .int v2] S (RV (vZ r) S) := by
  unfold F_249 at hr
  refine cal_go 5 rfl ?_
  refine go_run mm_249 8 (pc' := 10) (ls' := [some (.ref 140), some (.int v1), some (.int v2), none, none, none, none, none]) (st' := [.int v2, .int ((v1 + v2) - 1), .ref 156]) (S' := S) rfl ?_
  obtain ⟨hz1, hr⟩ := ck_some hr
  refine go_irem mm_249 rfl (by simpa using hz1) ?_
  show Go XM (d + 3) 249 0 11 [some (.ref 140), some (.int v1), some (.int v2), none, none, none, none, none] [.int (((v1 + v2) - 1) - ((v1 + v2) - 1) / v2 * v2), .ref 156] S (RV (vZ r) S)
  obtain ⟨hb2, hr⟩ := ck_some hr
  refine go_iaload mm_249 (q := (Int32.toNatClampNeg (((v1 + v2) - 1) - ((v1 + v2) - 1) / v2 * v2))) rfl rfl rfl (ibd_ok hb2) ?_
  show Go XM (d + 3) 249 0 12 [some (.ref 140), some (.int v1), some (.int v2), none, none, none, none, none] [.int (S.1 156 (Int32.toNatClampNeg (((v1 + v2) - 1) - ((v1 + v2) - 1) / v2 * v2)))] S (RV (vZ r) S)
  refine go_run mm_249 4 (pc' := 18) (ls' := [some (.ref 140), some (.int v1), some (.int v2), some (.int (S.1 156 (Int32.toNatClampNeg (((v1 + v2) - 1) - ((v1 + v2) - 1) / v2 * v2)))), none, none, none, none]) (st' := [.int v1, .ref 156]) (S' := S) rfl ?_
  obtain ⟨hb3, hr⟩ := ck_some hr
  refine go_iaload mm_249 (q := (Int32.toNatClampNeg v1)) rfl rfl rfl (ibd_ok hb3) ?_
  show Go XM (d + 3) 249 0 19 [some (.ref 140), some (.int v1), some (.int v2), some (.int (S.1 156 (Int32.toNatClampNeg (((v1 + v2) - 1) - ((v1 + v2) - 1) / v2 * v2)))), none, none, none, none] [.int (S.1 156 (Int32.toNatClampNeg v1))] S (RV (vZ r) S)
  refine go_run mm_249 7 (pc' := 29) (ls' := [some (.ref 140), some (.int v1), some (.int v2), some (.int (S.1 156 (Int32.toNatClampNeg (((v1 + v2) - 1) - ((v1 + v2) - 1) / v2 * v2)))), some (.int (S.1 156 (Int32.toNatClampNeg v1))), none, none, none]) (st' := [.int v2, .int (v1 + 1), .ref 156]) (S' := S) rfl ?_
  obtain ⟨hz4, hr⟩ := ck_some hr
  refine go_irem mm_249 rfl (by simpa using hz4) ?_
  show Go XM (d + 3) 249 0 30 [some (.ref 140), some (.int v1), some (.int v2), some (.int (S.1 156 (Int32.toNatClampNeg (((v1 + v2) - 1) - ((v1 + v2) - 1) / v2 * v2)))), some (.int (S.1 156 (Int32.toNatClampNeg v1))), none, none, none] [.int ((v1 + 1) - (v1 + 1) / v2 * v2), .ref 156] S (RV (vZ r) S)
  obtain ⟨hb5, hr⟩ := ck_some hr
  refine go_iaload mm_249 (q := (Int32.toNatClampNeg ((v1 + 1) - (v1 + 1) / v2 * v2))) rfl rfl rfl (ibd_ok hb5) ?_
  show Go XM (d + 3) 249 0 31 [some (.ref 140), some (.int v1), some (.int v2), some (.int (S.1 156 (Int32.toNatClampNeg (((v1 + v2) - 1) - ((v1 + v2) - 1) / v2 * v2)))), some (.int (S.1 156 (Int32.toNatClampNeg v1))), none, none, none] [.int (S.1 156 (Int32.toNatClampNeg ((v1 + 1) - (v1 + 1) / v2 * v2)))] S (RV (vZ r) S)
  refine go_run mm_249 5 (pc' := 39) (ls' := [some (.ref 140), some (.int v1), some (.int v2), some (.int (S.1 156 (Int32.toNatClampNeg (((v1 + v2) - 1) - ((v1 + v2) - 1) / v2 * v2)))), some (.int (S.1 156 (Int32.toNatClampNeg v1))), some (.int (S.1 156 (Int32.toNatClampNeg ((v1 + 1) - (v1 + 1) / v2 * v2)))), none, none]) (st' := [.int (S.1 156 (Int32.toNatClampNeg ((v1 + 1) - (v1 + 1) / v2 * v2))), .int (S.1 156 (Int32.toNatClampNeg v1)), .int (S.1 156 (Int32.toNatClampNeg (((v1 + v2) - 1) - ((v1 + v2) - 1) / v2 * v2))), .ref 140]) (S' := S) rfl ?_
  obtain ⟨w1, hw1, hr⟩ := ob_some hr
  refine go_cv mm_249 (h := 140) (As := [.int (S.1 156 (Int32.toNatClampNeg (((v1 + v2) - 1) - ((v1 + v2) - 1) / v2 * v2))), .int (S.1 156 (Int32.toNatClampNeg v1)), .int (S.1 156 (Int32.toNatClampNeg ((v1 + 1) - (v1 + 1) / v2 * v2)))]) (rest := []) (nl := 5) rfl rfl (show cvOK 249 39 263 235 3 5 11 = true by decide +kernel) rfl rfl rfl (S_235 hw1) (KP_V ?_)
  show Go XM (d + 3) 249 0 42 [some (.ref 140), some (.int v1), some (.int v2), some (.int (S.1 156 (Int32.toNatClampNeg (((v1 + v2) - 1) - ((v1 + v2) - 1) / v2 * v2)))), some (.int (S.1 156 (Int32.toNatClampNeg v1))), some (.int (S.1 156 (Int32.toNatClampNeg ((v1 + 1) - (v1 + 1) / v2 * v2)))), none, none] [.int w1] S (RV (vZ r) S)
  refine go_if0 mm_249 rfl (p1 := 47) (p2 := 45) rfl (fun (hc6 : (0 : Int32) < w1) => ?_) (fun (hc6 : ¬ (0 : Int32) < w1) => ?_)
  · rw [if_pos hc6] at hr
    refine go_run mm_249 2 (pc' := 50) (ls' := [some (.ref 140), some (.int v1), some (.int v2), some (.int (S.1 156 (Int32.toNatClampNeg (((v1 + v2) - 1) - ((v1 + v2) - 1) / v2 * v2)))), some (.int (S.1 156 (Int32.toNatClampNeg v1))), some (.int (S.1 156 (Int32.toNatClampNeg ((v1 + 1) - (v1 + 1) / v2 * v2)))), some (.int 0), none]) (st' := []) (S' := S) rfl ?_
    obtain ⟨z50, he50, hr⟩ := ob_some hr
    refine Go.le (ls' := [some (.ref 140), some (.int v1), some (.int v2), some (.int (S.1 156 (Int32.toNatClampNeg (((v1 + v2) - 1) - ((v1 + v2) - 1) / v2 * v2)))), some (.int (S.1 156 (Int32.toNatClampNeg v1))), some (.int (S.1 156 (Int32.toNatClampNeg ((v1 + 1) - (v1 + 1) / v2 * v2)))), some (.int 0), none]) ?_ (by repeat first | exact True.intro | refine And.intro rfl ?_)
    refine wh_go (P := fun a50 => Go XM (d + 3) 249 0 50 [some (.ref 140), some (.int v1), some (.int v2), some (.int (S.1 156 (Int32.toNatClampNeg (((v1 + v2) - 1) - ((v1 + v2) - 1) / v2 * v2)))), some (.int (S.1 156 (Int32.toNatClampNeg v1))), some (.int (S.1 156 (Int32.toNatClampNeg ((v1 + 1) - (v1 + 1) / v2 * v2)))), some (.int a50), none] [] S (RV (vZ r) S)) (K := fun z => Sum.elim (fun e50 => Go XM (d + 3) 249 0 130 [some (.ref 140), some (.int v1), some (.int v2), some (.int (S.1 156 (Int32.toNatClampNeg (((v1 + v2) - 1) - ((v1 + v2) - 1) / v2 * v2)))), some (.int (S.1 156 (Int32.toNatClampNeg v1))), some (.int (S.1 156 (Int32.toNatClampNeg ((v1 + 1) - (v1 + 1) / v2 * v2)))), some (.int e50), none] [] S (RV (vZ r) S)) (fun o => (RV (vZ r) S) 0 (.inr (vZ o)) S) z) (fun a9 r9 h9 hL hR => LSm_249_50 h9 hL hR) _ _ _ he50 ?_
    rcases z50 with e50 | o
    rotate_left
    · simp only [Sum.elim_inr] at hr
      cases hr
      exact ⟨rfl, rfl, rfl⟩
    simp only [Sum.elim_inl] at hr
    show Go XM (d + 3) 249 0 130 [some (.ref 140), some (.int v1), some (.int v2), some (.int (S.1 156 (Int32.toNatClampNeg (((v1 + v2) - 1) - ((v1 + v2) - 1) / v2 * v2)))), some (.int (S.1 156 (Int32.toNatClampNeg v1))), some (.int (S.1 156 (Int32.toNatClampNeg ((v1 + 1) - (v1 + 1) / v2 * v2)))), some (.int e50), none] [] S (RV (vZ r) S)
    refine go_run mm_249 1 (pc' := 131) (ls' := [some (.ref 140), some (.int v1), some (.int v2), some (.int (S.1 156 (Int32.toNatClampNeg (((v1 + v2) - 1) - ((v1 + v2) - 1) / v2 * v2)))), some (.int (S.1 156 (Int32.toNatClampNeg v1))), some (.int (S.1 156 (Int32.toNatClampNeg ((v1 + 1) - (v1 + 1) / v2 * v2)))), some (.int e50), none]) (st' := [.int 1]) (S' := S) rfl ?_
    cases hr
    exact go_zreturn mm_249 rfl rfl (Or.inr rfl) ⟨rfl, rfl, rfl⟩
  · rw [if_neg hc6] at hr
    refine go_run mm_249 1 (pc' := 46) (ls' := [some (.ref 140), some (.int v1), some (.int v2), some (.int (S.1 156 (Int32.toNatClampNeg (((v1 + v2) - 1) - ((v1 + v2) - 1) / v2 * v2)))), some (.int (S.1 156 (Int32.toNatClampNeg v1))), some (.int (S.1 156 (Int32.toNatClampNeg ((v1 + 1) - (v1 + 1) / v2 * v2)))), none, none]) (st' := [.int 0]) (S' := S) rfl ?_
    cases hr
    exact go_zreturn mm_249 rfl rfl (Or.inl rfl) ⟨rfl, rfl, rfl⟩

noncomputable def F_250 (v1 : Int32) (v2 : Int32) (v3 : Int32) (v4 : Int32) (S : ST) : Option (Unit × ST) := ck (ibd (3 * v1) 30) (sbn ((wI S 157 (Int32.toNatClampNeg (3 * v1)) (if v4 < (if v2 < v3 then v2 else v3) then v4 else (if v2 < v3 then v2 else v3)))) (fun s5 => ck (ibd ((3 * v1) + 1) 30) (sbn ((wI s5 157 (Int32.toNatClampNeg ((3 * v1) + 1)) (if v4 < (if v2 < v3 then v2 else v3) then (if v2 < v3 then v2 else v3) else (if v4 < (if v2 < v3 then v3 else v2) then v4 else (if v2 < v3 then v3 else v2))))) (fun s10 => ck (ibd ((3 * v1) + 2) 30) (sbn ((wI s10 157 (Int32.toNatClampNeg ((3 * v1) + 2)) (if ((if v2 < v3 then v3 else v2) : Int32) < v4 then v4 else (if v2 < v3 then v3 else v2)))) (fun s13 => some ((), s13)))))))
set_option maxRecDepth 20000 in
theorem S_250 {d : Nat} {S : ST} {v1 : Int32} {v2 : Int32} {v3 : Int32} {v4 : Int32} {r} (hr : F_250 v1 v2 v3 v4 S = some r) : Cal XM d 250 [.ref 140, .int v1, .int v2, .int v3, .int v4] S (RV (vU r.1) r.2) := by
  unfold F_250 at hr
  refine cal_go 2 rfl ?_
  refine go_run mm_250 2 (pc' := 2) (ls' := [some (.ref 140), some (.int v1), some (.int v2), some (.int v3), some (.int v4), none, none]) (st' := [.int v3, .int v2]) (S' := S) rfl ?_
  have j18 : Go XM d 250 0 10 [some (.ref 140), some (.int v1), some (.int v2), some (.int v3), some (.int v4), none, none] [.int (if v2 < v3 then v2 else v3)] S (RV (vU r.1) r.2) := by
    refine go_run mm_250 3 (pc' := 14) (ls' := [some (.ref 140), some (.int v1), some (.int v2), some (.int v3), some (.int v4), some (.int (if v2 < v3 then v2 else v3)), none]) (st' := [.int v3, .int v2]) (S' := S) rfl ?_
    have j17 : Go XM d 250 0 22 [some (.ref 140), some (.int v1), some (.int v2), some (.int v3), some (.int v4), some (.int (if v2 < v3 then v2 else v3)), none] [.int (if v2 < v3 then v3 else v2)] S (RV (vU r.1) r.2) := by
      refine go_run mm_250 8 (pc' := 35) (ls' := [some (.ref 140), some (.int v1), some (.int v2), some (.int v3), some (.int v4), some (.int (if v2 < v3 then v2 else v3)), some (.int (if v2 < v3 then v3 else v2))]) (st' := [.int (if v2 < v3 then v2 else v3), .int v4, .int (3 * v1), .ref 157]) (S' := S) rfl ?_
      have j16 : Go XM d 250 0 45 [some (.ref 140), some (.int v1), some (.int v2), some (.int v3), some (.int v4), some (.int (if v2 < v3 then v2 else v3)), some (.int (if v2 < v3 then v3 else v2))] [.int (if v4 < (if v2 < v3 then v2 else v3) then v4 else (if v2 < v3 then v2 else v3)), .int (3 * v1), .ref 157] S (RV (vU r.1) r.2) := by
        obtain ⟨hb4, hr⟩ := ck_some hr
        refine go_iastore mm_250 (q := (Int32.toNatClampNeg (3 * v1))) rfl rfl rfl (ibd_ok hb4) ?_
        show Go XM d 250 0 46 [some (.ref 140), some (.int v1), some (.int v2), some (.int v3), some (.int v4), some (.int (if v2 < v3 then v2 else v3)), some (.int (if v2 < v3 then v3 else v2))] [] (wI S 157 (Int32.toNatClampNeg (3 * v1)) (if v4 < (if v2 < v3 then v2 else v3) then v4 else (if v2 < v3 then v2 else v3))) (RV (vU r.1) r.2)
        obtain ⟨s5, es5, hr⟩ := sbn_some hr
        rw [← es5]
        refine go_run mm_250 9 (pc' := 59) (ls' := [some (.ref 140), some (.int v1), some (.int v2), some (.int v3), some (.int v4), some (.int (if v2 < v3 then v2 else v3)), some (.int (if v2 < v3 then v3 else v2))]) (st' := [.int (if v2 < v3 then v2 else v3), .int v4, .int ((3 * v1) + 1), .ref 157]) (S' := s5) rfl ?_
        have j15 : Go XM d 250 0 81 [some (.ref 140), some (.int v1), some (.int v2), some (.int v3), some (.int v4), some (.int (if v2 < v3 then v2 else v3)), some (.int (if v2 < v3 then v3 else v2))] [.int (if v4 < (if v2 < v3 then v2 else v3) then (if v2 < v3 then v2 else v3) else (if v4 < (if v2 < v3 then v3 else v2) then v4 else (if v2 < v3 then v3 else v2))), .int ((3 * v1) + 1), .ref 157] s5 (RV (vU r.1) r.2) := by
          obtain ⟨hb9, hr⟩ := ck_some hr
          refine go_iastore mm_250 (q := (Int32.toNatClampNeg ((3 * v1) + 1))) rfl rfl rfl (ibd_ok hb9) ?_
          show Go XM d 250 0 82 [some (.ref 140), some (.int v1), some (.int v2), some (.int v3), some (.int v4), some (.int (if v2 < v3 then v2 else v3)), some (.int (if v2 < v3 then v3 else v2))] [] (wI s5 157 (Int32.toNatClampNeg ((3 * v1) + 1)) (if v4 < (if v2 < v3 then v2 else v3) then (if v2 < v3 then v2 else v3) else (if v4 < (if v2 < v3 then v3 else v2) then v4 else (if v2 < v3 then v3 else v2)))) (RV (vU r.1) r.2)
          obtain ⟨s10, es10, hr⟩ := sbn_some hr
          rw [← es10]
          refine go_run mm_250 9 (pc' := 95) (ls' := [some (.ref 140), some (.int v1), some (.int v2), some (.int v3), some (.int v4), some (.int (if v2 < v3 then v2 else v3)), some (.int (if v2 < v3 then v3 else v2))]) (st' := [.int (if v2 < v3 then v3 else v2), .int v4, .int ((3 * v1) + 2), .ref 157]) (S' := s10) rfl ?_
          have j14 : Go XM d 250 0 105 [some (.ref 140), some (.int v1), some (.int v2), some (.int v3), some (.int v4), some (.int (if v2 < v3 then v2 else v3)), some (.int (if v2 < v3 then v3 else v2))] [.int (if ((if v2 < v3 then v3 else v2) : Int32) < v4 then v4 else (if v2 < v3 then v3 else v2)), .int ((3 * v1) + 2), .ref 157] s10 (RV (vU r.1) r.2) := by
            obtain ⟨hb12, hr⟩ := ck_some hr
            refine go_iastore mm_250 (q := (Int32.toNatClampNeg ((3 * v1) + 2))) rfl rfl rfl (ibd_ok hb12) ?_
            show Go XM d 250 0 106 [some (.ref 140), some (.int v1), some (.int v2), some (.int v3), some (.int v4), some (.int (if v2 < v3 then v2 else v3)), some (.int (if v2 < v3 then v3 else v2))] [] (wI s10 157 (Int32.toNatClampNeg ((3 * v1) + 2)) (if ((if v2 < v3 then v3 else v2) : Int32) < v4 then v4 else (if v2 < v3 then v3 else v2))) (RV (vU r.1) r.2)
            obtain ⟨s13, es13, hr⟩ := sbn_some hr
            rw [← es13]
            cases hr
            exact go_vreturn mm_250 rfl rfl ⟨rfl, rfl, rfl⟩
          refine go_if2 mm_250 rfl (p1 := 98) (p2 := 103) rfl (fun (hc11 : ((if v2 < v3 then v3 else v2) : Int32) < v4) => ?_) (fun (hc11 : ¬ ((if v2 < v3 then v3 else v2) : Int32) < v4) => ?_)
          · refine go_run mm_250 2 (pc' := 105) (ls' := [some (.ref 140), some (.int v1), some (.int v2), some (.int v3), some (.int v4), some (.int (if v2 < v3 then v2 else v3)), some (.int (if v2 < v3 then v3 else v2))]) (st' := [.int v4, .int ((3 * v1) + 2), .ref 157]) (S' := s10) rfl ?_
            have e : ((if ((if v2 < v3 then v3 else v2) : Int32) < v4 then v4 else (if v2 < v3 then v3 else v2)) : Int32) = v4 := by simp [b2i, hc11]
            rw [e] at j14
            exact j14
          · refine go_run mm_250 1 (pc' := 105) (ls' := [some (.ref 140), some (.int v1), some (.int v2), some (.int v3), some (.int v4), some (.int (if v2 < v3 then v2 else v3)), some (.int (if v2 < v3 then v3 else v2))]) (st' := [.int (if v2 < v3 then v3 else v2), .int ((3 * v1) + 2), .ref 157]) (S' := s10) rfl ?_
            have e : ((if ((if v2 < v3 then v3 else v2) : Int32) < v4 then v4 else (if v2 < v3 then v3 else v2)) : Int32) = (if v2 < v3 then v3 else v2) := by simp [b2i, hc11]
            rw [e] at j14
            exact j14
        refine go_if2 mm_250 rfl (p1 := 62) (p2 := 67) rfl (fun (hc6 : v4 < (if v2 < v3 then v2 else v3)) => ?_) (fun (hc6 : ¬ v4 < (if v2 < v3 then v2 else v3)) => ?_)
        · refine go_run mm_250 2 (pc' := 81) (ls' := [some (.ref 140), some (.int v1), some (.int v2), some (.int v3), some (.int v4), some (.int (if v2 < v3 then v2 else v3)), some (.int (if v2 < v3 then v3 else v2))]) (st' := [.int (if v2 < v3 then v2 else v3), .int ((3 * v1) + 1), .ref 157]) (S' := s5) rfl ?_
          have e : ((if v4 < (if v2 < v3 then v2 else v3) then (if v2 < v3 then v2 else v3) else (if v4 < (if v2 < v3 then v3 else v2) then v4 else (if v2 < v3 then v3 else v2))) : Int32) = (if v2 < v3 then v2 else v3) := by simp [b2i, hc6]
          rw [e] at j15
          exact j15
        · refine go_run mm_250 2 (pc' := 71) (ls' := [some (.ref 140), some (.int v1), some (.int v2), some (.int v3), some (.int v4), some (.int (if v2 < v3 then v2 else v3)), some (.int (if v2 < v3 then v3 else v2))]) (st' := [.int (if v2 < v3 then v3 else v2), .int v4, .int ((3 * v1) + 1), .ref 157]) (S' := s5) rfl ?_
          have j8 : Go XM d 250 0 81 [some (.ref 140), some (.int v1), some (.int v2), some (.int v3), some (.int v4), some (.int (if v2 < v3 then v2 else v3)), some (.int (if v2 < v3 then v3 else v2))] [.int (if v4 < (if v2 < v3 then v3 else v2) then v4 else (if v2 < v3 then v3 else v2)), .int ((3 * v1) + 1), .ref 157] s5 (RV (vU r.1) r.2) := by
            have e : ((if v4 < (if v2 < v3 then v2 else v3) then (if v2 < v3 then v2 else v3) else (if v4 < (if v2 < v3 then v3 else v2) then v4 else (if v2 < v3 then v3 else v2))) : Int32) = (if v4 < (if v2 < v3 then v3 else v2) then v4 else (if v2 < v3 then v3 else v2)) := by simp [b2i, hc6]
            rw [e] at j15
            exact j15
          refine go_if2 mm_250 rfl (p1 := 74) (p2 := 79) rfl (fun (hc7 : v4 < (if v2 < v3 then v3 else v2)) => ?_) (fun (hc7 : ¬ v4 < (if v2 < v3 then v3 else v2)) => ?_)
          · refine go_run mm_250 2 (pc' := 81) (ls' := [some (.ref 140), some (.int v1), some (.int v2), some (.int v3), some (.int v4), some (.int (if v2 < v3 then v2 else v3)), some (.int (if v2 < v3 then v3 else v2))]) (st' := [.int v4, .int ((3 * v1) + 1), .ref 157]) (S' := s5) rfl ?_
            have e : ((if v4 < (if v2 < v3 then v3 else v2) then v4 else (if v2 < v3 then v3 else v2)) : Int32) = v4 := by simp [b2i, hc7]
            rw [e] at j8
            exact j8
          · refine go_run mm_250 1 (pc' := 81) (ls' := [some (.ref 140), some (.int v1), some (.int v2), some (.int v3), some (.int v4), some (.int (if v2 < v3 then v2 else v3)), some (.int (if v2 < v3 then v3 else v2))]) (st' := [.int (if v2 < v3 then v3 else v2), .int ((3 * v1) + 1), .ref 157]) (S' := s5) rfl ?_
            have e : ((if v4 < (if v2 < v3 then v3 else v2) then v4 else (if v2 < v3 then v3 else v2)) : Int32) = (if v2 < v3 then v3 else v2) := by simp [b2i, hc7]
            rw [e] at j8
            exact j8
      refine go_if2 mm_250 rfl (p1 := 38) (p2 := 43) rfl (fun (hc3 : v4 < (if v2 < v3 then v2 else v3)) => ?_) (fun (hc3 : ¬ v4 < (if v2 < v3 then v2 else v3)) => ?_)
      · refine go_run mm_250 2 (pc' := 45) (ls' := [some (.ref 140), some (.int v1), some (.int v2), some (.int v3), some (.int v4), some (.int (if v2 < v3 then v2 else v3)), some (.int (if v2 < v3 then v3 else v2))]) (st' := [.int v4, .int (3 * v1), .ref 157]) (S' := S) rfl ?_
        have e : ((if v4 < (if v2 < v3 then v2 else v3) then v4 else (if v2 < v3 then v2 else v3)) : Int32) = v4 := by simp [b2i, hc3]
        rw [e] at j16
        exact j16
      · refine go_run mm_250 1 (pc' := 45) (ls' := [some (.ref 140), some (.int v1), some (.int v2), some (.int v3), some (.int v4), some (.int (if v2 < v3 then v2 else v3)), some (.int (if v2 < v3 then v3 else v2))]) (st' := [.int (if v2 < v3 then v2 else v3), .int (3 * v1), .ref 157]) (S' := S) rfl ?_
        have e : ((if v4 < (if v2 < v3 then v2 else v3) then v4 else (if v2 < v3 then v2 else v3)) : Int32) = (if v2 < v3 then v2 else v3) := by simp [b2i, hc3]
        rw [e] at j16
        exact j16
    refine go_if2 mm_250 rfl (p1 := 17) (p2 := 21) rfl (fun (hc2 : v2 < v3) => ?_) (fun (hc2 : ¬ v2 < v3) => ?_)
    · refine go_run mm_250 2 (pc' := 22) (ls' := [some (.ref 140), some (.int v1), some (.int v2), some (.int v3), some (.int v4), some (.int (if v2 < v3 then v2 else v3)), none]) (st' := [.int v3]) (S' := S) rfl ?_
      have e : ((if v2 < v3 then v3 else v2) : Int32) = v3 := by simp [b2i, hc2]
      rw [e] at j17
      exact j17
    · refine go_run mm_250 1 (pc' := 22) (ls' := [some (.ref 140), some (.int v1), some (.int v2), some (.int v3), some (.int v4), some (.int (if v2 < v3 then v2 else v3)), none]) (st' := [.int v2]) (S' := S) rfl ?_
      have e : ((if v2 < v3 then v3 else v2) : Int32) = v2 := by simp [b2i, hc2]
      rw [e] at j17
      exact j17
  refine go_if2 mm_250 rfl (p1 := 5) (p2 := 9) rfl (fun (hc1 : v2 < v3) => ?_) (fun (hc1 : ¬ v2 < v3) => ?_)
  · refine go_run mm_250 2 (pc' := 10) (ls' := [some (.ref 140), some (.int v1), some (.int v2), some (.int v3), some (.int v4), none, none]) (st' := [.int v2]) (S' := S) rfl ?_
    have e : ((if v2 < v3 then v2 else v3) : Int32) = v2 := by simp [b2i, hc1]
    rw [e] at j18
    exact j18
  · refine go_run mm_250 1 (pc' := 10) (ls' := [some (.ref 140), some (.int v1), some (.int v2), some (.int v3), some (.int v4), none, none]) (st' := [.int v3]) (S' := S) rfl ?_
    have e : ((if v2 < v3 then v2 else v3) : Int32) = v3 := by simp [b2i, hc1]
    rw [e] at j18
    exact j18
