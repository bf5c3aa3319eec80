/-! methods as functions (printed by a program): 284 bestFor, 285 bestPoint, 286 greedyGuards, 287 treasure, 288 treasureAt, 289 worthOf, 290 watchedValue, 291 bestValue, 292 isGuardAt, 293 isTreasureAt, 294 isVertexAt -/
noncomputable def Lm_284_5 (v1 : Int64) (S : ST) (a5 : Int32 × Int32) : Option ((Int32 × Int32) ⊕ (Int32 × Int32)) := if a5.2 < (S.1 140 20) then (ck (ibd a5.2 64) (ck (ibd a5.1 64) (some (.inl ((if (F_218 ((S.2 153 (Int32.toNatClampNeg a5.1)) &&& v1)) < (F_218 ((S.2 153 (Int32.toNatClampNeg a5.2)) &&& v1)) then a5.2 else a5.1), a5.2 + 1))))) else (some (.inr (a5.1, a5.2)))
set_option maxRecDepth 20000 in
theorem LSm_284_5 {d : Nat} {R : RT} {S : ST} {v1 : Int64} {a5 : Int32 × Int32} {r9} (hr : Lm_284_5 v1 S a5 = some r9) (hL : ∀ a9, r9 = .inl a9 → (fun a5 => Go XM (d + 1) 284 0 5 [some (.ref 140), some (.long v1), none, some (.int a5.1), some (.int a5.2)] [] S R) a9) (hR : ∀ b9, r9 = .inr b9 → (fun e5 => Go XM (d + 1) 284 0 53 [some (.ref 140), some (.long v1), none, some (.int e5.1), some (.int e5.2)] [] S R) b9) : Go XM (d + 1) 284 0 5 [some (.ref 140), some (.long v1), none, some (.int a5.1), some (.int a5.2)] [] S R := by
  unfold Lm_284_5 at hr
  refine go_run mm_284 3 (pc' := 11) (ls' := [some (.ref 140), some (.long v1), none, some (.int a5.1), some (.int a5.2)]) (st' := [.int (S.1 140 20), .int a5.2]) (S' := S) rfl ?_
  refine go_if2 mm_284 rfl (p1 := 14) (p2 := 53) rfl (fun (hc1 : a5.2 < (S.1 140 20)) => ?_) (fun (hc1 : ¬ a5.2 < (S.1 140 20)) => ?_)
  · rw [if_pos hc1] at hr
    refine go_run mm_284 3 (pc' := 20) (ls' := [some (.ref 140), some (.long v1), none, some (.int a5.1), some (.int a5.2)]) (st' := [.int a5.2, .ref 153]) (S' := S) rfl ?_
    obtain ⟨hb2, hr⟩ := ck_some hr
    refine go_laload mm_284 (q := (Int32.toNatClampNeg a5.2)) rfl rfl rfl (ibd_ok hb2) ?_
    show Go XM (d + 1) 284 0 21 [some (.ref 140), some (.long v1), none, some (.int a5.1), some (.int a5.2)] [.long (S.2 153 (Int32.toNatClampNeg a5.2))] S R
    refine go_run mm_284 2 (pc' := 23) (ls' := [some (.ref 140), some (.long v1), none, some (.int a5.1), some (.int a5.2)]) (st' := [.long ((S.2 153 (Int32.toNatClampNeg a5.2)) &&& v1)]) (S' := S) rfl ?_
    refine go_cs mm_284 (av := [.long ((S.2 153 (Int32.toNatClampNeg a5.2)) &&& v1)]) (rest := []) (nl := 5) rfl (show csOK 284 23 313 218 1 5 = true by decide +kernel) rfl rfl rfl (S_218 rfl) (KP_V ?_)
    show Go XM (d + 1) 284 0 26 [some (.ref 140), some (.long v1), none, some (.int a5.1), some (.int a5.2)] [.int (F_218 ((S.2 153 (Int32.toNatClampNeg a5.2)) &&& v1))] S R
    refine go_run mm_284 3 (pc' := 31) (ls' := [some (.ref 140), some (.long v1), none, some (.int a5.1), some (.int a5.2)]) (st' := [.int a5.1, .ref 153, .int (F_218 ((S.2 153 (Int32.toNatClampNeg a5.2)) &&& v1))]) (S' := S) rfl ?_
    obtain ⟨hb3, hr⟩ := ck_some hr
    refine go_laload mm_284 (q := (Int32.toNatClampNeg a5.1)) rfl rfl rfl (ibd_ok hb3) ?_
    show Go XM (d + 1) 284 0 32 [some (.ref 140), some (.long v1), none, some (.int a5.1), some (.int a5.2)] [.long (S.2 153 (Int32.toNatClampNeg a5.1)), .int (F_218 ((S.2 153 (Int32.toNatClampNeg a5.2)) &&& v1))] S R
    refine go_run mm_284 2 (pc' := 34) (ls' := [some (.ref 140), some (.long v1), none, some (.int a5.1), some (.int a5.2)]) (st' := [.long ((S.2 153 (Int32.toNatClampNeg a5.1)) &&& v1), .int (F_218 ((S.2 153 (Int32.toNatClampNeg a5.2)) &&& v1))]) (S' := S) rfl ?_
    refine go_cs mm_284 (av := [.long ((S.2 153 (Int32.toNatClampNeg a5.1)) &&& v1)]) (rest := [.int (F_218 ((S.2 153 (Int32.toNatClampNeg a5.2)) &&& v1))]) (nl := 5) rfl (show csOK 284 34 313 218 1 5 = true by decide +kernel) rfl rfl rfl (S_218 rfl) (KP_V ?_)
    show Go XM (d + 1) 284 0 37 [some (.ref 140), some (.long v1), none, some (.int a5.1), some (.int a5.2)] [.int (F_218 ((S.2 153 (Int32.toNatClampNeg a5.1)) &&& v1)), .int (F_218 ((S.2 153 (Int32.toNatClampNeg a5.2)) &&& v1))] S R
    have j5 : Go XM (d + 1) 284 0 46 [some (.ref 140), some (.long v1), none, some (.int a5.1), some (.int a5.2)] [.int (if (F_218 ((S.2 153 (Int32.toNatClampNeg a5.1)) &&& v1)) < (F_218 ((S.2 153 (Int32.toNatClampNeg a5.2)) &&& v1)) then a5.2 else a5.1)] S R := by
      refine go_run mm_284 3 (pc' := 5) (ls' := [some (.ref 140), some (.long v1), none, some (.int (if (F_218 ((S.2 153 (Int32.toNatClampNeg a5.1)) &&& v1)) < (F_218 ((S.2 153 (Int32.toNatClampNeg a5.2)) &&& v1)) then a5.2 else a5.1)), some (.int (a5.2 + 1))]) (st' := []) (S' := S) rfl ?_
      cases hr
      have h9 := hL ((if (F_218 ((S.2 153 (Int32.toNatClampNeg a5.1)) &&& v1)) < (F_218 ((S.2 153 (Int32.toNatClampNeg a5.2)) &&& v1)) then a5.2 else a5.1), a5.2 + 1) rfl
      dsimp only at h9
      exact Go.le h9 (by repeat first | exact True.intro | refine And.intro rfl ?_)
    refine go_if2 mm_284 rfl (p1 := 40) (p2 := 45) rfl (fun (hc4 : (F_218 ((S.2 153 (Int32.toNatClampNeg a5.1)) &&& v1)) < (F_218 ((S.2 153 (Int32.toNatClampNeg a5.2)) &&& v1))) => ?_) (fun (hc4 : ¬ (F_218 ((S.2 153 (Int32.toNatClampNeg a5.1)) &&& v1)) < (F_218 ((S.2 153 (Int32.toNatClampNeg a5.2)) &&& v1))) => ?_)
    · refine go_run mm_284 2 (pc' := 46) (ls' := [some (.ref 140), some (.long v1), none, some (.int a5.1), some (.int a5.2)]) (st' := [.int a5.2]) (S' := S) rfl ?_
      have e : ((if (F_218 ((S.2 153 (Int32.toNatClampNeg a5.1)) &&& v1)) < (F_218 ((S.2 153 (Int32.toNatClampNeg a5.2)) &&& v1)) then a5.2 else a5.1) : Int32) = a5.2 := by simp [b2i, hc4]
      rw [e] at j5
      exact j5
    · refine go_run mm_284 1 (pc' := 46) (ls' := [some (.ref 140), some (.long v1), none, some (.int a5.1), some (.int a5.2)]) (st' := [.int a5.1]) (S' := S) rfl ?_
      have e : ((if (F_218 ((S.2 153 (Int32.toNatClampNeg a5.1)) &&& v1)) < (F_218 ((S.2 153 (Int32.toNatClampNeg a5.2)) &&& v1)) then a5.2 else a5.1) : Int32) = a5.1 := by simp [b2i, hc4]
      rw [e] at j5
      exact j5
  · rw [if_neg hc1] at hr
    cases hr
    have h9 := hR (a5.1, a5.2) rfl
    dsimp only [Sum.elim_inl] at h9
    exact Go.le h9 (by repeat first | exact True.intro | refine And.intro rfl ?_)
noncomputable def F_284 (v1 : Int64) (S : ST) : Option Int32 := ob (wh FU (Lm_284_5 v1 S) (0, 1)) (fun e5 => some e5.1)
set_option maxRecDepth 20000 in
theorem S_284 {d : Nat} {S : ST} {v1 : Int64} {r} (hr : F_284 v1 S = some r) : Cal XM (d + 1) 284 [.ref 140, .long v1] S (RV (vI r) S) := by
  unfold F_284 at hr
  refine cal_go 2 rfl ?_
  refine go_run mm_284 4 (pc' := 5) (ls' := [some (.ref 140), some (.long v1), none, some (.int 0), some (.int 1)]) (st' := []) (S' := S) rfl ?_
  obtain ⟨z5, he5, hr⟩ := ob_some hr
  refine Go.le (ls' := [some (.ref 140), some (.long v1), none, some (.int 0), some (.int 1)]) ?_ (by repeat first | exact True.intro | refine And.intro rfl ?_)
  refine wh_go (P := fun a5 => Go XM (d + 1) 284 0 5 [some (.ref 140), some (.long v1), none, some (.int a5.1), some (.int a5.2)] [] S (RV (vI r) S)) (K := fun e5 => Go XM (d + 1) 284 0 53 [some (.ref 140), some (.long v1), none, some (.int e5.1), some (.int e5.2)] [] S (RV (vI r) S)) (fun a9 r9 h9 hL hR => LSm_284_5 h9 hL hR) _ _ _ he5 ?_
  generalize z5 = e5 at hr
  show Go XM (d + 1) 284 0 53 [some (.ref 140), some (.long v1), none, some (.int e5.1), some (.int e5.2)] [] S (RV (vI r) S)
  refine go_run mm_284 1 (pc' := 54) (ls' := [some (.ref 140), some (.long v1), none, some (.int e5.1), some (.int e5.2)]) (st' := [.int e5.1]) (S' := S) rfl ?_
  cases hr
  exact go_ireturn mm_284 rfl rfl ⟨rfl, rfl, rfl⟩

noncomputable def F_285 (S : ST) : Option (Int32 × ST) := ob (F_184 S) (fun w1 => if w1.1 = true then (some (0, w1.2)) else (ob (F_277 (-1) w1.2) (fun w2 => ob (F_284 ((F_216 w1.2) &&& (w2.1 ^^^ (-1))) w2.2) (fun w3 => some (w3, w2.2)))))
set_option maxRecDepth 20000 in
theorem S_285 {d : Nat} {S : ST} {r} (hr : F_285 S = some r) : Cal XM (d + 8) 285 [.ref 140] S (RV (vI r.1) r.2) := by
  unfold F_285 at hr
  refine cal_go 0 rfl ?_
  refine go_run mm_285 1 (pc' := 1) (ls' := [some (.ref 140)]) (st' := [.ref 140]) (S' := S) rfl ?_
  obtain ⟨w1, hw1, hr⟩ := ob_some hr
  refine go_cv mm_285 (h := 140) (As := []) (rest := []) (nl := 1) rfl rfl (show cvOK 285 1 247 184 0 1 11 = true by decide +kernel) rfl rfl rfl (S_184 hw1) (KP_V ?_)
  show Go XM (d + 8) 285 0 4 [some (.ref 140)] [.int (b2i w1.1)] w1.2 (RV (vI r.1) r.2)
  refine go_ifb mm_285 rfl (p1 := 7) (p2 := 11) rfl (fun (hc1 : w1.1 = true) => ?_) (fun (hc1 : w1.1 = false) => ?_)
  · rw [if_pos hc1] at hr
    refine go_run mm_285 2 (pc' := 29) (ls' := [some (.ref 140)]) (st' := [.int 0]) (S' := w1.2) rfl ?_
    cases hr
    exact go_ireturn mm_285 rfl rfl ⟨rfl, rfl, rfl⟩
  · rw [if_neg (bf hc1)] at hr
    refine go_run mm_285 2 (pc' := 13) (ls' := [some (.ref 140)]) (st' := [.ref 140, .ref 140]) (S' := w1.2) rfl ?_
    refine go_cv mm_285 (h := 140) (As := []) (rest := [.ref 140]) (nl := 1) rfl rfl (show cvOK 285 13 286 216 0 1 11 = true by decide +kernel) rfl rfl rfl (S_216 rfl) (KP_V ?_)
    show Go XM (d + 8) 285 0 16 [some (.ref 140)] [.long (F_216 w1.2), .ref 140] w1.2 (RV (vI r.1) r.2)
    refine go_run mm_285 2 (pc' := 18) (ls' := [some (.ref 140)]) (st' := [.int (-1), .ref 140, .long (F_216 w1.2), .ref 140]) (S' := w1.2) rfl ?_
    obtain ⟨w2, hw2, hr⟩ := ob_some hr
    refine go_cv mm_285 (h := 140) (As := [.int (-1)]) (rest := [.long (F_216 w1.2), .ref 140]) (nl := 5) rfl rfl (show cvOK 285 18 359 277 1 5 11 = true by decide +kernel) rfl rfl rfl (S_277 hw2) (KP_V ?_)
    show Go XM (d + 8) 285 0 21 [some (.ref 140)] [.long w2.1, .long (F_216 w1.2), .ref 140] w2.2 (RV (vI r.1) r.2)
    refine go_run mm_285 3 (pc' := 26) (ls' := [some (.ref 140)]) (st' := [.long ((F_216 w1.2) &&& (w2.1 ^^^ (-1))), .ref 140]) (S' := w2.2) rfl ?_
    obtain ⟨w3, hw3, hr⟩ := ob_some hr
    refine go_cv mm_285 (h := 140) (As := [.long ((F_216 w1.2) &&& (w2.1 ^^^ (-1)))]) (rest := []) (nl := 5) rfl rfl (show cvOK 285 26 362 284 1 5 11 = true by decide +kernel) rfl rfl rfl (S_284 hw3) (KP_V ?_)
    show Go XM (d + 8) 285 0 29 [some (.ref 140)] [.int w3] w2.2 (RV (vI r.1) r.2)
    cases hr
    exact go_ireturn mm_285 rfl rfl ⟨rfl, rfl, rfl⟩

noncomputable def Lm_286_26 (S : ST) (a26 : Int64 × Int32) : Option ((Int64 × Int32) ⊕ (Int64 × Int32)) := if a26.1 = 0 then (some (.inr (a26.1, a26.2))) else (ob (F_284 a26.1 S) (fun w3 => ck (ibd w3 64) (some (.inl (a26.1 &&& ((S.2 153 (Int32.toNatClampNeg w3)) ^^^ (-1)), a26.2 + 1)))))
set_option maxRecDepth 20000 in
theorem LSm_286_26 {d : Nat} {R : RT} {S : ST} {a26 : Int64 × Int32} {r9} (hr : Lm_286_26 S a26 = some r9) (hL : ∀ a9, r9 = .inl a9 → (fun a26 => Go XM (d + 8) 286 0 26 [some (.ref 140), some (.long a26.1), none, some (.int a26.2)] [] S R) a9) (hR : ∀ b9, r9 = .inr b9 → (fun e26 => Go XM (d + 8) 286 0 55 [some (.ref 140), some (.long e26.1), none, some (.int e26.2)] [] S R) b9) : Go XM (d + 8) 286 0 26 [some (.ref 140), some (.long a26.1), none, some (.int a26.2)] [] S R := by
  unfold Lm_286_26 at hr
  refine go_run mm_286 2 (pc' := 28) (ls' := [some (.ref 140), some (.long a26.1), none, some (.int a26.2)]) (st' := [.long 0, .long a26.1]) (S' := S) rfl ?_
  refine go_lif mm_286 rfl rfl (p1 := 55) (p2 := 32) rfl (fun (hc2 : a26.1 = 0) => ?_) (fun (hc2 : ¬ a26.1 = 0) => ?_)
  · rw [if_pos hc2] at hr
    cases hr
    have h9 := hR (a26.1, a26.2) rfl
    dsimp only [Sum.elim_inl] at h9
    exact Go.le h9 (by repeat first | exact True.intro | refine And.intro rfl ?_)
  · rw [if_neg hc2] at hr
    refine go_run mm_286 5 (pc' := 39) (ls' := [some (.ref 140), some (.long a26.1), none, some (.int a26.2)]) (st' := [.long a26.1, .ref 140, .ref 153, .long a26.1]) (S' := S) rfl ?_
    obtain ⟨w3, hw3, hr⟩ := ob_some hr
    refine go_cv mm_286 (h := 140) (As := [.long a26.1]) (rest := [.ref 153, .long a26.1]) (nl := 5) rfl rfl (show cvOK 286 39 362 284 1 5 11 = true by decide +kernel) rfl rfl rfl (S_284 hw3) (KP_V ?_)
    show Go XM (d + 8) 286 0 42 [some (.ref 140), some (.long a26.1), none, some (.int a26.2)] [.int w3, .ref 153, .long a26.1] S R
    obtain ⟨hb3, hr⟩ := ck_some hr
    refine go_laload mm_286 (q := (Int32.toNatClampNeg w3)) rfl rfl rfl (ibd_ok hb3) ?_
    show Go XM (d + 8) 286 0 43 [some (.ref 140), some (.long a26.1), none, some (.int a26.2)] [.long (S.2 153 (Int32.toNatClampNeg w3)), .long a26.1] S R
    refine go_run mm_286 6 (pc' := 26) (ls' := [some (.ref 140), some (.long (a26.1 &&& ((S.2 153 (Int32.toNatClampNeg w3)) ^^^ (-1)))), none, some (.int (a26.2 + 1))]) (st' := []) (S' := S) rfl ?_
    cases hr
    have h9 := hL (a26.1 &&& ((S.2 153 (Int32.toNatClampNeg w3)) ^^^ (-1)), a26.2 + 1) rfl
    dsimp only at h9
    exact Go.le h9 (by repeat first | exact True.intro | refine And.intro rfl ?_)
noncomputable def F_286 (S : ST) : Option (Int32 × ST) := ob (F_184 S) (fun w1 => if w1.1 = true then (some (0, w1.2)) else (ob (F_277 (-1) w1.2) (fun w2 => ob (wh FU (Lm_286_26 w2.2) ((F_216 w1.2) &&& (w2.1 ^^^ (-1)), 0)) (fun e26 => some (e26.2, w2.2)))))
set_option maxRecDepth 20000 in
theorem S_286 {d : Nat} {S : ST} {r} (hr : F_286 S = some r) : Cal XM (d + 8) 286 [.ref 140] S (RV (vI r.1) r.2) := by
  unfold F_286 at hr
  refine cal_go 3 rfl ?_
  refine go_run mm_286 1 (pc' := 1) (ls' := [some (.ref 140), none, none, none]) (st' := [.ref 140]) (S' := S) rfl ?_
  obtain ⟨w1, hw1, hr⟩ := ob_some hr
  refine go_cv mm_286 (h := 140) (As := []) (rest := []) (nl := 1) rfl rfl (show cvOK 286 1 247 184 0 1 11 = true by decide +kernel) rfl rfl rfl (S_184 hw1) (KP_V ?_)
  show Go XM (d + 8) 286 0 4 [some (.ref 140), none, none, none] [.int (b2i w1.1)] w1.2 (RV (vI r.1) r.2)
  refine go_ifb mm_286 rfl (p1 := 7) (p2 := 9) rfl (fun (hc1 : w1.1 = true) => ?_) (fun (hc1 : w1.1 = false) => ?_)
  · rw [if_pos hc1] at hr
    refine go_run mm_286 1 (pc' := 8) (ls' := [some (.ref 140), none, none, none]) (st' := [.int 0]) (S' := w1.2) rfl ?_
    cases hr
    exact go_ireturn mm_286 rfl rfl ⟨rfl, rfl, rfl⟩
  · rw [if_neg (bf hc1)] at hr
    refine go_run mm_286 1 (pc' := 10) (ls' := [some (.ref 140), none, none, none]) (st' := [.ref 140]) (S' := w1.2) rfl ?_
    refine go_cv mm_286 (h := 140) (As := []) (rest := []) (nl := 1) rfl rfl (show cvOK 286 10 286 216 0 1 11 = true by decide +kernel) rfl rfl rfl (S_216 rfl) (KP_V ?_)
    show Go XM (d + 8) 286 0 13 [some (.ref 140), none, none, none] [.long (F_216 w1.2)] w1.2 (RV (vI r.1) r.2)
    refine go_run mm_286 2 (pc' := 15) (ls' := [some (.ref 140), none, none, none]) (st' := [.int (-1), .ref 140, .long (F_216 w1.2)]) (S' := w1.2) rfl ?_
    obtain ⟨w2, hw2, hr⟩ := ob_some hr
    refine go_cv mm_286 (h := 140) (As := [.int (-1)]) (rest := [.long (F_216 w1.2)]) (nl := 5) rfl rfl (show cvOK 286 15 359 277 1 5 11 = true by decide +kernel) rfl rfl rfl (S_277 hw2) (KP_V ?_)
    show Go XM (d + 8) 286 0 18 [some (.ref 140), none, none, none] [.long w2.1, .long (F_216 w1.2)] w2.2 (RV (vI r.1) r.2)
    refine go_run mm_286 6 (pc' := 26) (ls' := [some (.ref 140), some (.long ((F_216 w1.2) &&& (w2.1 ^^^ (-1)))), none, some (.int 0)]) (st' := []) (S' := w2.2) rfl ?_
    obtain ⟨z26, he26, hr⟩ := ob_some hr
    refine Go.le (ls' := [some (.ref 140), some (.long ((F_216 w1.2) &&& (w2.1 ^^^ (-1)))), none, some (.int 0)]) ?_ (by repeat first | exact True.intro | refine And.intro rfl ?_)
    refine wh_go (P := fun a26 => Go XM (d + 8) 286 0 26 [some (.ref 140), some (.long a26.1), none, some (.int a26.2)] [] w2.2 (RV (vI r.1) r.2)) (K := fun e26 => Go XM (d + 8) 286 0 55 [some (.ref 140), some (.long e26.1), none, some (.int e26.2)] [] w2.2 (RV (vI r.1) r.2)) (fun a9 r9 h9 hL hR => LSm_286_26 h9 hL hR) _ _ _ he26 ?_
    generalize z26 = e26 at hr
    show Go XM (d + 8) 286 0 55 [some (.ref 140), some (.long e26.1), none, some (.int e26.2)] [] w2.2 (RV (vI r.1) r.2)
    refine go_run mm_286 1 (pc' := 56) (ls' := [some (.ref 140), some (.long e26.1), none, some (.int e26.2)]) (st' := [.int e26.2]) (S' := w2.2) rfl ?_
    cases hr
    exact go_ireturn mm_286 rfl rfl ⟨rfl, rfl, rfl⟩

noncomputable def F_287 (v1 : Int32) (v2 : Int32) (S : ST) : Option Int32 := ck (ibd ((45 + (3 * v1)) + v2) 63) (some (S.1 141 (Int32.toNatClampNeg ((45 + (3 * v1)) + v2))))
set_option maxRecDepth 20000 in
theorem S_287 {d : Nat} {S : ST} {v1 : Int32} {v2 : Int32} {r} (hr : F_287 v1 v2 S = some r) : Cal XM d 287 [.ref 140, .int v1, .int v2] S (RV (vI r) S) := by
  unfold F_287 at hr
  refine cal_go 0 rfl ?_
  refine go_run mm_287 9 (pc' := 12) (ls' := [some (.ref 140), some (.int v1), some (.int v2)]) (st' := [.int ((45 + (3 * v1)) + v2), .ref 141]) (S' := S) rfl ?_
  obtain ⟨hb1, hr⟩ := ck_some hr
  refine go_iaload mm_287 (q := (Int32.toNatClampNeg ((45 + (3 * v1)) + v2))) rfl rfl rfl (ibd_ok hb1) ?_
  show Go XM d 287 0 13 [some (.ref 140), some (.int v1), some (.int v2)] [.int (S.1 141 (Int32.toNatClampNeg ((45 + (3 * v1)) + v2)))] S (RV (vI r) S)
  cases hr
  exact go_ireturn mm_287 rfl rfl ⟨rfl, rfl, rfl⟩

noncomputable def F_288 (v1 : Int32) (S : ST) : Option (Int32 × ST) := ob (F_184 S) (fun w1 => if w1.1 = true then (some (0, w1.2)) else (ob (F_183 (!(F_182 v1 0 ((w1.2.1 141 2) - 1))) 2 w1.2) (fun w2 => if w2.1 = true then (some (0, w2.2)) else (ob (F_287 v1 0 w2.2) (fun w3 => ob (F_287 v1 1 w2.2) (fun w4 => some ((F_215 w3 w4 w2.2), w2.2)))))))
set_option maxRecDepth 20000 in
theorem S_288 {d : Nat} {S : ST} {v1 : Int32} {r} (hr : F_288 v1 S = some r) : Cal XM (d + 2) 288 [.ref 140, .int v1] S (RV (vI r.1) r.2) := by
  unfold F_288 at hr
  refine cal_go 0 rfl ?_
  refine go_run mm_288 1 (pc' := 1) (ls' := [some (.ref 140), some (.int v1)]) (st' := [.ref 140]) (S' := S) rfl ?_
  obtain ⟨w1, hw1, hr⟩ := ob_some hr
  refine go_cv mm_288 (h := 140) (As := []) (rest := []) (nl := 1) rfl rfl (show cvOK 288 1 247 184 0 1 11 = true by decide +kernel) rfl rfl rfl (S_184 hw1) (KP_V ?_)
  show Go XM (d + 2) 288 0 4 [some (.ref 140), some (.int v1)] [.int (b2i w1.1)] w1.2 (RV (vI r.1) r.2)
  refine go_ifb mm_288 rfl (p1 := 36) (p2 := 7) rfl (fun (hc1 : w1.1 = true) => ?_) (fun (hc1 : w1.1 = false) => ?_)
  · rw [if_pos hc1] at hr
    refine go_run mm_288 2 (pc' := 56) (ls' := [some (.ref 140), some (.int v1)]) (st' := [.int 0]) (S' := w1.2) rfl ?_
    cases hr
    exact go_ireturn mm_288 rfl rfl ⟨rfl, rfl, rfl⟩
  · rw [if_neg (bf hc1)] at hr
    refine go_run mm_288 6 (pc' := 15) (ls' := [some (.ref 140), some (.int v1)]) (st' := [.int 2, .ref 141, .int 0, .int v1, .ref 140]) (S' := w1.2) rfl ?_
    refine go_iaload mm_288 (q := 2) rfl rfl rfl (inB_lit rfl) ?_
    show Go XM (d + 2) 288 0 16 [some (.ref 140), some (.int v1)] [.int (w1.2.1 141 2), .int 0, .int v1, .ref 140] w1.2 (RV (vI r.1) r.2)
    refine go_run mm_288 2 (pc' := 18) (ls' := [some (.ref 140), some (.int v1)]) (st' := [.int ((w1.2.1 141 2) - 1), .int 0, .int v1, .ref 140]) (S' := w1.2) rfl ?_
    refine go_cs mm_288 (av := [.int v1, .int 0, .int ((w1.2.1 141 2) - 1)]) (rest := [.ref 140]) (nl := 3) rfl (show csOK 288 18 148 182 3 3 = true by decide +kernel) rfl rfl rfl (S_182 rfl) (KP_V ?_)
    show Go XM (d + 2) 288 0 21 [some (.ref 140), some (.int v1)] [.int (b2i (F_182 v1 0 ((w1.2.1 141 2) - 1))), .ref 140] w1.2 (RV (vI r.1) r.2)
    have j4 : Go XM (d + 2) 288 0 29 [some (.ref 140), some (.int v1)] [.int (b2i (!(F_182 v1 0 ((w1.2.1 141 2) - 1)))), .ref 140] w1.2 (RV (vI r.1) r.2) := by
      refine go_run mm_288 1 (pc' := 30) (ls' := [some (.ref 140), some (.int v1)]) (st' := [.int 2, .int (b2i (!(F_182 v1 0 ((w1.2.1 141 2) - 1)))), .ref 140]) (S' := w1.2) rfl ?_
      obtain ⟨w2, hw2, hr⟩ := ob_some hr
      refine go_cv mm_288 (h := 140) (As := [.int (b2i (!(F_182 v1 0 ((w1.2.1 141 2) - 1)))), .int 2]) (rest := []) (nl := 3) rfl rfl (show cvOK 288 30 86 183 2 3 11 = true by decide +kernel) rfl rfl rfl (S_183 hw2) (KP_V ?_)
      show Go XM (d + 2) 288 0 33 [some (.ref 140), some (.int v1)] [.int (b2i w2.1)] w2.2 (RV (vI r.1) r.2)
      refine go_ifb mm_288 rfl (p1 := 36) (p2 := 40) rfl (fun (hc3 : w2.1 = true) => ?_) (fun (hc3 : w2.1 = false) => ?_)
      · rw [if_pos hc3] at hr
        refine go_run mm_288 2 (pc' := 56) (ls' := [some (.ref 140), some (.int v1)]) (st' := [.int 0]) (S' := w2.2) rfl ?_
        cases hr
        exact go_ireturn mm_288 rfl rfl ⟨rfl, rfl, rfl⟩
      · rw [if_neg (bf hc3)] at hr
        refine go_run mm_288 4 (pc' := 44) (ls' := [some (.ref 140), some (.int v1)]) (st' := [.int 0, .int v1, .ref 140, .ref 140]) (S' := w2.2) rfl ?_
        obtain ⟨w3, hw3, hr⟩ := ob_some hr
        refine go_cv mm_288 (h := 140) (As := [.int v1, .int 0]) (rest := [.ref 140]) (nl := 3) rfl rfl (show cvOK 288 44 365 287 2 3 11 = true by decide +kernel) rfl rfl rfl (S_287 hw3) (KP_V ?_)
        show Go XM (d + 2) 288 0 47 [some (.ref 140), some (.int v1)] [.int w3, .ref 140] w2.2 (RV (vI r.1) r.2)
        refine go_run mm_288 3 (pc' := 50) (ls' := [some (.ref 140), some (.int v1)]) (st' := [.int 1, .int v1, .ref 140, .int w3, .ref 140]) (S' := w2.2) rfl ?_
        obtain ⟨w4, hw4, hr⟩ := ob_some hr
        refine go_cv mm_288 (h := 140) (As := [.int v1, .int 1]) (rest := [.int w3, .ref 140]) (nl := 3) rfl rfl (show cvOK 288 50 365 287 2 3 11 = true by decide +kernel) rfl rfl rfl (S_287 hw4) (KP_V ?_)
        show Go XM (d + 2) 288 0 53 [some (.ref 140), some (.int v1)] [.int w4, .int w3, .ref 140] w2.2 (RV (vI r.1) r.2)
        refine go_cv mm_288 (h := 140) (As := [.int w3, .int w4]) (rest := []) (nl := 3) rfl rfl (show cvOK 288 53 257 215 2 3 11 = true by decide +kernel) rfl rfl rfl (S_215 rfl) (KP_V ?_)
        show Go XM (d + 2) 288 0 56 [some (.ref 140), some (.int v1)] [.int (F_215 w3 w4 w2.2)] w2.2 (RV (vI r.1) r.2)
        cases hr
        exact go_ireturn mm_288 rfl rfl ⟨rfl, rfl, rfl⟩
    refine go_ifb mm_288 rfl (p1 := 28) (p2 := 24) rfl (fun (hc2 : (F_182 v1 0 ((w1.2.1 141 2) - 1)) = true) => ?_) (fun (hc2 : (F_182 v1 0 ((w1.2.1 141 2) - 1)) = false) => ?_)
    · refine go_run mm_288 1 (pc' := 29) (ls' := [some (.ref 140), some (.int v1)]) (st' := [.int 0, .ref 140]) (S' := w1.2) rfl ?_
      have e : ((b2i (!(F_182 v1 0 ((w1.2.1 141 2) - 1)))) : Int32) = 0 := by simp [b2i, hc2]
      rw [e] at j4
      exact j4
    · refine go_run mm_288 2 (pc' := 29) (ls' := [some (.ref 140), some (.int v1)]) (st' := [.int 1, .ref 140]) (S' := w1.2) rfl ?_
      have e : ((b2i (!(F_182 v1 0 ((w1.2.1 141 2) - 1)))) : Int32) = 1 := by simp [b2i, hc2]
      rw [e] at j4
      exact j4

noncomputable def F_289 (v1 : Int64) (S : ST) : Option Int32 := ck (chB (Qp S)) (some (f_289 S v1))
theorem S_289 {d : Nat} {S : ST} {v1 : Int64} {r} (hr : F_289 v1 S = some r) : Cal XM (d + 2) 289 [.ref 140, .long v1] S (RV (vI r) S) := by
  unfold F_289 at hr
  obtain ⟨q, hr⟩ := ck_some hr
  have q := chB_t.mp q
  cases hr
  exact sq_289 q

noncomputable def F_290 (S : ST) : Option (Int32 × ST) := ob (F_184 S) (fun w1 => if w1.1 = true then (some (0, w1.2)) else (ob (F_277 (-1) w1.2) (fun w2 => ob (F_289 w2.1 w2.2) (fun w3 => some (w3, w2.2)))))
set_option maxRecDepth 20000 in
theorem S_290 {d : Nat} {S : ST} {r} (hr : F_290 S = some r) : Cal XM (d + 8) 290 [.ref 140] S (RV (vI r.1) r.2) := by
  unfold F_290 at hr
  refine cal_go 0 rfl ?_
  refine go_run mm_290 1 (pc' := 1) (ls' := [some (.ref 140)]) (st' := [.ref 140]) (S' := S) rfl ?_
  obtain ⟨w1, hw1, hr⟩ := ob_some hr
  refine go_cv mm_290 (h := 140) (As := []) (rest := []) (nl := 1) rfl rfl (show cvOK 290 1 247 184 0 1 11 = true by decide +kernel) rfl rfl rfl (S_184 hw1) (KP_V ?_)
  show Go XM (d + 8) 290 0 4 [some (.ref 140)] [.int (b2i w1.1)] w1.2 (RV (vI r.1) r.2)
  refine go_ifb mm_290 rfl (p1 := 7) (p2 := 11) rfl (fun (hc1 : w1.1 = true) => ?_) (fun (hc1 : w1.1 = false) => ?_)
  · rw [if_pos hc1] at hr
    refine go_run mm_290 2 (pc' := 20) (ls' := [some (.ref 140)]) (st' := [.int 0]) (S' := w1.2) rfl ?_
    cases hr
    exact go_ireturn mm_290 rfl rfl ⟨rfl, rfl, rfl⟩
  · rw [if_neg (bf hc1)] at hr
    refine go_run mm_290 3 (pc' := 14) (ls' := [some (.ref 140)]) (st' := [.int (-1), .ref 140, .ref 140]) (S' := w1.2) rfl ?_
    obtain ⟨w2, hw2, hr⟩ := ob_some hr
    refine go_cv mm_290 (h := 140) (As := [.int (-1)]) (rest := [.ref 140]) (nl := 5) rfl rfl (show cvOK 290 14 359 277 1 5 11 = true by decide +kernel) rfl rfl rfl (S_277 hw2) (KP_V ?_)
    show Go XM (d + 8) 290 0 17 [some (.ref 140)] [.long w2.1, .ref 140] w2.2 (RV (vI r.1) r.2)
    obtain ⟨w3, hw3, hr⟩ := ob_some hr
    refine go_cv mm_290 (h := 140) (As := [.long w2.1]) (rest := []) (nl := 5) rfl rfl (show cvOK 290 17 367 289 1 5 11 = true by decide +kernel) rfl rfl rfl (S_289 hw3) (KP_V ?_)
    show Go XM (d + 8) 290 0 20 [some (.ref 140)] [.int w3] w2.2 (RV (vI r.1) r.2)
    cases hr
    exact go_ireturn mm_290 rfl rfl ⟨rfl, rfl, rfl⟩

noncomputable def Lm_291_40 (p40_2 : Int32) (p40_3 : Int64) (S : ST) (a40 : Int32 × Int32) : Option ((Int32 × Int32) ⊕ (Int32 × Int32)) := if a40.2 < (S.1 140 20) then (ck (ibd a40.2 64) (ck (ibd a40.2 64) (ob (F_274 p40_2 2 S) (fun w5 => ob (F_275 (S.1 147 (Int32.toNatClampNeg a40.2)) (S.1 148 (Int32.toNatClampNeg a40.2)) w5 S) (fun w6 => ob (F_289 (p40_3 ||| w6) S) (fun w7 => some (.inl ((if a40.1 < w7 then w7 else a40.1), a40.2 + 1)))))))) else (some (.inr (a40.1, a40.2)))
set_option maxRecDepth 20000 in
theorem LSm_291_40 {d : Nat} {R : RT} {S : ST} {p40_2 : Int32} {p40_3 : Int64} {a40 : Int32 × Int32} {r9} (hr : Lm_291_40 p40_2 p40_3 S a40 = some r9) (hL : ∀ a9, r9 = .inl a9 → (fun a40 => Go XM (d + 8) 291 0 40 [some (.ref 140), some (.int a40.1), some (.int p40_2), some (.long p40_3), none, some (.int a40.2), none] [] S R) a9) (hR : ∀ b9, r9 = .inr b9 → (fun e40 => Go XM (d + 8) 291 0 100 [some (.ref 140), some (.int e40.1), some (.int p40_2), some (.long p40_3), none, some (.int e40.2), none] [] S R) b9) : Go XM (d + 8) 291 0 40 [some (.ref 140), some (.int a40.1), some (.int p40_2), some (.long p40_3), none, some (.int a40.2), none] [] S R := by
  unfold Lm_291_40 at hr
  refine go_run mm_291 3 (pc' := 46) (ls' := [some (.ref 140), some (.int a40.1), some (.int p40_2), some (.long p40_3), none, some (.int a40.2), none]) (st' := [.int (S.1 140 20), .int a40.2]) (S' := S) rfl ?_
  refine go_if2 mm_291 rfl (p1 := 49) (p2 := 100) rfl (fun (hc3 : a40.2 < (S.1 140 20)) => ?_) (fun (hc3 : ¬ a40.2 < (S.1 140 20)) => ?_)
  · rw [if_pos hc3] at hr
    refine go_run mm_291 6 (pc' := 58) (ls' := [some (.ref 140), some (.int a40.1), some (.int p40_2), some (.long p40_3), none, some (.int a40.2), none]) (st' := [.int a40.2, .ref 147, .ref 140, .long p40_3, .ref 140]) (S' := S) rfl ?_
    obtain ⟨hb4, hr⟩ := ck_some hr
    refine go_iaload mm_291 (q := (Int32.toNatClampNeg a40.2)) rfl rfl rfl (ibd_ok hb4) ?_
    show Go XM (d + 8) 291 0 59 [some (.ref 140), some (.int a40.1), some (.int p40_2), some (.long p40_3), none, some (.int a40.2), none] [.int (S.1 147 (Int32.toNatClampNeg a40.2)), .ref 140, .long p40_3, .ref 140] S R
    refine go_run mm_291 3 (pc' := 65) (ls' := [some (.ref 140), some (.int a40.1), some (.int p40_2), some (.long p40_3), none, some (.int a40.2), none]) (st' := [.int a40.2, .ref 148, .int (S.1 147 (Int32.toNatClampNeg a40.2)), .ref 140, .long p40_3, .ref 140]) (S' := S) rfl ?_
    obtain ⟨hb5, hr⟩ := ck_some hr
    refine go_iaload mm_291 (q := (Int32.toNatClampNeg a40.2)) rfl rfl rfl (ibd_ok hb5) ?_
    show Go XM (d + 8) 291 0 66 [some (.ref 140), some (.int a40.1), some (.int p40_2), some (.long p40_3), none, some (.int a40.2), none] [.int (S.1 148 (Int32.toNatClampNeg a40.2)), .int (S.1 147 (Int32.toNatClampNeg a40.2)), .ref 140, .long p40_3, .ref 140] S R
    refine go_run mm_291 3 (pc' := 69) (ls' := [some (.ref 140), some (.int a40.1), some (.int p40_2), some (.long p40_3), none, some (.int a40.2), none]) (st' := [.int 2, .int p40_2, .ref 140, .int (S.1 148 (Int32.toNatClampNeg a40.2)), .int (S.1 147 (Int32.toNatClampNeg a40.2)), .ref 140, .long p40_3, .ref 140]) (S' := S) rfl ?_
    obtain ⟨w5, hw5, hr⟩ := ob_some hr
    refine go_cv mm_291 (h := 140) (As := [.int p40_2, .int 2]) (rest := [.int (S.1 148 (Int32.toNatClampNeg a40.2)), .int (S.1 147 (Int32.toNatClampNeg a40.2)), .ref 140, .long p40_3, .ref 140]) (nl := 3) rfl rfl (show cvOK 291 69 347 274 2 3 11 = true by decide +kernel) rfl rfl rfl (S_274 hw5) (KP_V ?_)
    show Go XM (d + 8) 291 0 72 [some (.ref 140), some (.int a40.1), some (.int p40_2), some (.long p40_3), none, some (.int a40.2), none] [.int w5, .int (S.1 148 (Int32.toNatClampNeg a40.2)), .int (S.1 147 (Int32.toNatClampNeg a40.2)), .ref 140, .long p40_3, .ref 140] S R
    obtain ⟨w6, hw6, hr⟩ := ob_some hr
    refine go_cv mm_291 (h := 140) (As := [.int (S.1 147 (Int32.toNatClampNeg a40.2)), .int (S.1 148 (Int32.toNatClampNeg a40.2)), .int w5]) (rest := [.long p40_3, .ref 140]) (nl := 8) rfl rfl (show cvOK 291 72 349 275 3 8 11 = true by decide +kernel) rfl rfl rfl (S_275 hw6) (KP_V ?_)
    show Go XM (d + 8) 291 0 75 [some (.ref 140), some (.int a40.1), some (.int p40_2), some (.long p40_3), none, some (.int a40.2), none] [.long w6, .long p40_3, .ref 140] S R
    refine go_run mm_291 1 (pc' := 76) (ls' := [some (.ref 140), some (.int a40.1), some (.int p40_2), some (.long p40_3), none, some (.int a40.2), none]) (st' := [.long (p40_3 ||| w6), .ref 140]) (S' := S) rfl ?_
    obtain ⟨w7, hw7, hr⟩ := ob_some hr
    refine go_cv mm_291 (h := 140) (As := [.long (p40_3 ||| w6)]) (rest := []) (nl := 5) rfl rfl (show cvOK 291 76 367 289 1 5 11 = true by decide +kernel) rfl rfl rfl (S_289 hw7) (KP_V ?_)
    show Go XM (d + 8) 291 0 79 [some (.ref 140), some (.int a40.1), some (.int p40_2), some (.long p40_3), none, some (.int a40.2), none] [.int w7] S R
    refine go_run mm_291 3 (pc' := 84) (ls' := [some (.ref 140), some (.int a40.1), some (.int p40_2), some (.long p40_3), none, some (.int a40.2), some (.int w7)]) (st' := [.int a40.1, .int w7]) (S' := S) rfl ?_
    have j7 : Go XM (d + 8) 291 0 93 [some (.ref 140), some (.int a40.1), some (.int p40_2), some (.long p40_3), none, some (.int a40.2), some (.int w7)] [.int (if a40.1 < w7 then w7 else a40.1)] S R := by
      refine go_run mm_291 3 (pc' := 40) (ls' := [some (.ref 140), some (.int (if a40.1 < w7 then w7 else a40.1)), some (.int p40_2), some (.long p40_3), none, some (.int (a40.2 + 1)), some (.int w7)]) (st' := []) (S' := S) rfl ?_
      cases hr
      have h9 := hL ((if a40.1 < w7 then w7 else a40.1), a40.2 + 1) rfl
      dsimp only at h9
      exact Go.le h9 (by repeat first | exact True.intro | refine And.intro rfl ?_)
    refine go_if2 mm_291 rfl (p1 := 87) (p2 := 92) rfl (fun (hc6 : a40.1 < w7) => ?_) (fun (hc6 : ¬ a40.1 < w7) => ?_)
    · refine go_run mm_291 2 (pc' := 93) (ls' := [some (.ref 140), some (.int a40.1), some (.int p40_2), some (.long p40_3), none, some (.int a40.2), some (.int w7)]) (st' := [.int w7]) (S' := S) rfl ?_
      have e : ((if a40.1 < w7 then w7 else a40.1) : Int32) = w7 := by simp [b2i, hc6]
      rw [e] at j7
      exact j7
    · refine go_run mm_291 1 (pc' := 93) (ls' := [some (.ref 140), some (.int a40.1), some (.int p40_2), some (.long p40_3), none, some (.int a40.2), some (.int w7)]) (st' := [.int a40.1]) (S' := S) rfl ?_
      have e : ((if a40.1 < w7 then w7 else a40.1) : Int32) = a40.1 := by simp [b2i, hc6]
      rw [e] at j7
      exact j7
  · rw [if_neg hc3] at hr
    cases hr
    have h9 := hR (a40.1, a40.2) rfl
    dsimp only [Sum.elim_inl] at h9
    exact Go.le h9 (by repeat first | exact True.intro | refine And.intro rfl ?_)
noncomputable def Lm_291_21 (a21 : Int32 × Int32 × ST) : Option ((Int32 × Int32 × ST) ⊕ (Int32 × Int32 × ST)) := if a21.2.1 < (a21.2.2.1 141 1) then (ob (F_277 a21.2.1 a21.2.2) (fun w4 => ob (wh FU (Lm_291_40 a21.2.1 w4.1 w4.2) (a21.1, 0)) (fun e40 => some (.inl (e40.1, a21.2.1 + 1, w4.2))))) else (some (.inr (a21.1, a21.2.1, a21.2.2)))
set_option maxRecDepth 20000 in
theorem LSm_291_21 {d : Nat} {R : RT} {a21 : Int32 × Int32 × ST} {r9} (hr : Lm_291_21 a21 = some r9) (hL : ∀ a9, r9 = .inl a9 → (fun a21 => Go XM (d + 8) 291 0 21 [some (.ref 140), some (.int a21.1), some (.int a21.2.1), none, none, none, none] [] a21.2.2 R) a9) (hR : ∀ b9, r9 = .inr b9 → (fun e21 => Go XM (d + 8) 291 0 106 [some (.ref 140), some (.int e21.1), some (.int e21.2.1), none, none, none, none] [] e21.2.2 R) b9) : Go XM (d + 8) 291 0 21 [some (.ref 140), some (.int a21.1), some (.int a21.2.1), none, none, none, none] [] a21.2.2 R := by
  unfold Lm_291_21 at hr
  refine go_run mm_291 4 (pc' := 27) (ls' := [some (.ref 140), some (.int a21.1), some (.int a21.2.1), none, none, none, none]) (st' := [.int 1, .ref 141, .int a21.2.1]) (S' := a21.2.2) rfl ?_
  refine go_iaload mm_291 (q := 1) rfl rfl rfl (inB_lit rfl) ?_
  show Go XM (d + 8) 291 0 28 [some (.ref 140), some (.int a21.1), some (.int a21.2.1), none, none, none, none] [.int (a21.2.2.1 141 1), .int a21.2.1] a21.2.2 R
  refine go_if2 mm_291 rfl (p1 := 31) (p2 := 106) rfl (fun (hc2 : a21.2.1 < (a21.2.2.1 141 1)) => ?_) (fun (hc2 : ¬ a21.2.1 < (a21.2.2.1 141 1)) => ?_)
  · rw [if_pos hc2] at hr
    refine go_run mm_291 2 (pc' := 33) (ls' := [some (.ref 140), some (.int a21.1), some (.int a21.2.1), none, none, none, none]) (st' := [.int a21.2.1, .ref 140]) (S' := a21.2.2) rfl ?_
    obtain ⟨w4, hw4, hr⟩ := ob_some hr
    refine go_cv mm_291 (h := 140) (As := [.int a21.2.1]) (rest := []) (nl := 5) rfl rfl (show cvOK 291 33 359 277 1 5 11 = true by decide +kernel) rfl rfl rfl (S_277 hw4) (KP_V ?_)
    show Go XM (d + 8) 291 0 36 [some (.ref 140), some (.int a21.1), some (.int a21.2.1), none, none, none, none] [.long w4.1] w4.2 R
    refine go_run mm_291 3 (pc' := 40) (ls' := [some (.ref 140), some (.int a21.1), some (.int a21.2.1), some (.long w4.1), none, some (.int 0), none]) (st' := []) (S' := w4.2) rfl ?_
    obtain ⟨z40, he40, hr⟩ := ob_some hr
    refine Go.le (ls' := [some (.ref 140), some (.int a21.1), some (.int a21.2.1), some (.long w4.1), none, some (.int 0), none]) ?_ (by repeat first | exact True.intro | refine And.intro rfl ?_)
    refine wh_go (P := fun a40 => Go XM (d + 8) 291 0 40 [some (.ref 140), some (.int a40.1), some (.int a21.2.1), some (.long w4.1), none, some (.int a40.2), none] [] w4.2 R) (K := fun e40 => Go XM (d + 8) 291 0 100 [some (.ref 140), some (.int e40.1), some (.int a21.2.1), some (.long w4.1), none, some (.int e40.2), none] [] w4.2 R) (fun a9 r9 h9 hL hR => LSm_291_40 h9 hL hR) _ _ _ he40 ?_
    generalize z40 = e40 at hr
    show Go XM (d + 8) 291 0 100 [some (.ref 140), some (.int e40.1), some (.int a21.2.1), some (.long w4.1), none, some (.int e40.2), none] [] w4.2 R
    refine go_run mm_291 2 (pc' := 21) (ls' := [some (.ref 140), some (.int e40.1), some (.int (a21.2.1 + 1)), some (.long w4.1), none, some (.int e40.2), none]) (st' := []) (S' := w4.2) rfl ?_
    cases hr
    have h9 := hL (e40.1, a21.2.1 + 1, w4.2) rfl
    dsimp only at h9
    exact Go.le h9 (by repeat first | exact True.intro | refine And.intro rfl ?_)
  · rw [if_neg hc2] at hr
    cases hr
    have h9 := hR (a21.1, a21.2.1, a21.2.2) rfl
    dsimp only [Sum.elim_inl] at h9
    exact Go.le h9 (by repeat first | exact True.intro | refine And.intro rfl ?_)
noncomputable def F_291 (S : ST) : Option (Int32 × ST) := ob (F_184 S) (fun w1 => if w1.1 = true then (some (0, w1.2)) else (ob (F_277 (-1) w1.2) (fun w2 => ob (F_289 w2.1 w2.2) (fun w3 => ob (wh FU (Lm_291_21) (w3, 0, w2.2)) (fun e21 => some (e21.1, e21.2.2))))))
set_option maxRecDepth 20000 in
theorem S_291 {d : Nat} {S : ST} {r} (hr : F_291 S = some r) : Cal XM (d + 8) 291 [.ref 140] S (RV (vI r.1) r.2) := by
  unfold F_291 at hr
  refine cal_go 6 rfl ?_
  refine go_run mm_291 1 (pc' := 1) (ls' := [some (.ref 140), none, none, none, none, none, none]) (st' := [.ref 140]) (S' := S) rfl ?_
  obtain ⟨w1, hw1, hr⟩ := ob_some hr
  refine go_cv mm_291 (h := 140) (As := []) (rest := []) (nl := 1) rfl rfl (show cvOK 291 1 247 184 0 1 11 = true by decide +kernel) rfl rfl rfl (S_184 hw1) (KP_V ?_)
  show Go XM (d + 8) 291 0 4 [some (.ref 140), none, none, none, none, none, none] [.int (b2i w1.1)] w1.2 (RV (vI r.1) r.2)
  refine go_ifb mm_291 rfl (p1 := 7) (p2 := 9) rfl (fun (hc1 : w1.1 = true) => ?_) (fun (hc1 : w1.1 = false) => ?_)
  · rw [if_pos hc1] at hr
    refine go_run mm_291 1 (pc' := 8) (ls' := [some (.ref 140), none, none, none, none, none, none]) (st' := [.int 0]) (S' := w1.2) rfl ?_
    cases hr
    exact go_ireturn mm_291 rfl rfl ⟨rfl, rfl, rfl⟩
  · rw [if_neg (bf hc1)] at hr
    refine go_run mm_291 3 (pc' := 12) (ls' := [some (.ref 140), none, none, none, none, none, none]) (st' := [.int (-1), .ref 140, .ref 140]) (S' := w1.2) rfl ?_
    obtain ⟨w2, hw2, hr⟩ := ob_some hr
    refine go_cv mm_291 (h := 140) (As := [.int (-1)]) (rest := [.ref 140]) (nl := 5) rfl rfl (show cvOK 291 12 359 277 1 5 11 = true by decide +kernel) rfl rfl rfl (S_277 hw2) (KP_V ?_)
    show Go XM (d + 8) 291 0 15 [some (.ref 140), none, none, none, none, none, none] [.long w2.1, .ref 140] w2.2 (RV (vI r.1) r.2)
    obtain ⟨w3, hw3, hr⟩ := ob_some hr
    refine go_cv mm_291 (h := 140) (As := [.long w2.1]) (rest := []) (nl := 5) rfl rfl (show cvOK 291 15 367 289 1 5 11 = true by decide +kernel) rfl rfl rfl (S_289 hw3) (KP_V ?_)
    show Go XM (d + 8) 291 0 18 [some (.ref 140), none, none, none, none, none, none] [.int w3] w2.2 (RV (vI r.1) r.2)
    refine go_run mm_291 3 (pc' := 21) (ls' := [some (.ref 140), some (.int w3), some (.int 0), none, none, none, none]) (st' := []) (S' := w2.2) rfl ?_
    obtain ⟨z21, he21, hr⟩ := ob_some hr
    refine Go.le (ls' := [some (.ref 140), some (.int w3), some (.int 0), none, none, none, none]) ?_ (by repeat first | exact True.intro | refine And.intro rfl ?_)
    refine wh_go (P := fun a21 => Go XM (d + 8) 291 0 21 [some (.ref 140), some (.int a21.1), some (.int a21.2.1), none, none, none, none] [] a21.2.2 (RV (vI r.1) r.2)) (K := fun e21 => Go XM (d + 8) 291 0 106 [some (.ref 140), some (.int e21.1), some (.int e21.2.1), none, none, none, none] [] e21.2.2 (RV (vI r.1) r.2)) (fun a9 r9 h9 hL hR => LSm_291_21 h9 hL hR) _ _ _ he21 ?_
    generalize z21 = e21 at hr
    show Go XM (d + 8) 291 0 106 [some (.ref 140), some (.int e21.1), some (.int e21.2.1), none, none, none, none] [] e21.2.2 (RV (vI r.1) r.2)
    refine go_run mm_291 1 (pc' := 107) (ls' := [some (.ref 140), some (.int e21.1), some (.int e21.2.1), none, none, none, none]) (st' := [.int e21.1]) (S' := e21.2.2) rfl ?_
    cases hr
    exact go_ireturn mm_291 rfl rfl ⟨rfl, rfl, rfl⟩

noncomputable def F_292 (v1 : Int32) (v2 : Int32) (S : ST) : Option Bool := ck (chB (Qp S)) (some (f_292 S v1 v2))
theorem S_292 {d : Nat} {S : ST} {v1 : Int32} {v2 : Int32} {r} (hr : F_292 v1 v2 S = some r) : Cal XM (d + 1) 292 [.ref 140, .int v1, .int v2] S (RV (vZ r) S) := by
  unfold F_292 at hr
  obtain ⟨q, hr⟩ := ck_some hr
  have q := chB_t.mp q
  cases hr
  exact sq_292 q

noncomputable def F_293 (v1 : Int32) (v2 : Int32) (S : ST) : Option Bool := ck (chB (Qp S)) (some (f_293 S v1 v2))
theorem S_293 {d : Nat} {S : ST} {v1 : Int32} {v2 : Int32} {r} (hr : F_293 v1 v2 S = some r) : Cal XM (d + 1) 293 [.ref 140, .int v1, .int v2] S (RV (vZ r) S) := by
  unfold F_293 at hr
  obtain ⟨q, hr⟩ := ck_some hr
  have q := chB_t.mp q
  cases hr
  exact sq_293 q

noncomputable def F_294 (v1 : Int32) (v2 : Int32) (S : ST) : Option Bool := ck (chB (Qp S)) (some (f_294 S v1 v2))
theorem S_294 {d : Nat} {S : ST} {v1 : Int32} {v2 : Int32} {r} (hr : F_294 v1 v2 S = some r) : Cal XM d 294 [.ref 140, .int v1, .int v2] S (RV (vZ r) S) := by
  unfold F_294 at hr
  obtain ⟨q, hr⟩ := ck_some hr
  have q := chB_t.mp q
  cases hr
  exact sq_294 q
