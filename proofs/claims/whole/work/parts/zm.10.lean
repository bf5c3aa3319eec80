/-! methods as functions (printed by a program): 251 laysTriangles, 252 noTriangle, 253 triangleVertex -/
noncomputable def Lm_251_36 (p36_1 : Int32) (p36_2 : Int32) (S : ST) (a36 : Int32) : Option ((Int32) ⊕ (Int32)) := ob (F_249 a36 p36_1 S) (fun w1 => if w1 = true then (some (.inr (a36))) else (some (.inl (a36 + 1))))
set_option maxRecDepth 20000 in
theorem LSm_251_36 {d : Nat} {R : RT} {S : ST} {p36_1 : Int32} {p36_2 : Int32} {a36 : Int32} {r9} (hr : Lm_251_36 p36_1 p36_2 S a36 = some r9) (hL : ∀ a9, r9 = .inl a9 → (fun a36 => Go XM (d + 4) 251 0 36 [some (.ref 140), some (.int p36_1), some (.int p36_2), some (.int a36), none] [] S R) a9) (hR : ∀ b9, r9 = .inr b9 → (fun e36 => Go XM (d + 4) 251 0 51 [some (.ref 140), some (.int p36_1), some (.int p36_2), some (.int e36), none] [] S R) b9) : Go XM (d + 4) 251 0 36 [some (.ref 140), some (.int p36_1), some (.int p36_2), some (.int a36), none] [] S R := by
  unfold Lm_251_36 at hr
  refine go_run mm_251 3 (pc' := 39) (ls' := [some (.ref 140), some (.int p36_1), some (.int p36_2), some (.int a36), none]) (st' := [.int p36_1, .int a36, .ref 140]) (S' := S) rfl ?_
  obtain ⟨w1, hw1, hr⟩ := ob_some hr
  refine go_cv mm_251 (h := 140) (As := [.int a36, .int p36_1]) (rest := []) (nl := 8) rfl rfl (show cvOK 251 39 293 249 2 8 11 = true by decide +kernel) rfl rfl rfl (S_249 hw1) (KP_V ?_)
  show Go XM (d + 4) 251 0 42 [some (.ref 140), some (.int p36_1), some (.int p36_2), some (.int a36), none] [.int (b2i w1)] S R
  refine go_ifb mm_251 rfl (p1 := 51) (p2 := 45) rfl (fun (hc5 : w1 = true) => ?_) (fun (hc5 : w1 = false) => ?_)
  · rw [if_pos hc5] at hr
    cases hr
    have h9 := hR (a36) rfl
    dsimp only [Sum.elim_inl] at h9
    exact Go.le h9 (by repeat first | exact True.intro | refine And.intro rfl ?_)
  · rw [if_neg (bf hc5)] at hr
    refine go_run mm_251 2 (pc' := 36) (ls' := [some (.ref 140), some (.int p36_1), some (.int p36_2), some (.int (a36 + 1)), none]) (st' := []) (S' := S) rfl ?_
    cases hr
    have h9 := hL (a36 + 1) rfl
    dsimp only at h9
    exact Go.le h9 (by repeat first | exact True.intro | refine And.intro rfl ?_)
noncomputable def Lm_251_93 (p93_1 : Int32) (p93_2 : Int32) (p93_3 : Int32) (a93 : Int32 × ST) : Option ((Int32 × ST) ⊕ (Int32 × ST)) := if a93.1 < p93_1 then (ck (ibd (a93.1 + 1) 12) (ck (ibd a93.1 12) (sbn ((wI a93.2 156 (Int32.toNatClampNeg a93.1) (a93.2.1 156 (Int32.toNatClampNeg (a93.1 + 1))))) (fun s14 => some (.inl (a93.1 + 1, s14)))))) else (some (.inr (a93.1, a93.2)))
set_option maxRecDepth 20000 in
theorem LSm_251_93 {d : Nat} {R : RT} {p93_1 : Int32} {p93_2 : Int32} {p93_3 : Int32} {a93 : Int32 × ST} {r9} (hr : Lm_251_93 p93_1 p93_2 p93_3 a93 = some r9) (hL : ∀ a9, r9 = .inl a9 → (fun a93 => Go XM (d + 4) 251 0 93 [some (.ref 140), some (.int p93_1), some (.int p93_2), some (.int p93_3), some (.int a93.1)] [] a93.2 R) a9) (hR : ∀ b9, r9 = .inr b9 → (fun e93 => Go XM (d + 4) 251 0 121 [some (.ref 140), some (.int p93_1), some (.int p93_2), some (.int p93_3), some (.int e93.1)] [] e93.2 R) b9) : Go XM (d + 4) 251 0 93 [some (.ref 140), some (.int p93_1), some (.int p93_2), some (.int p93_3), some (.int a93.1)] [] a93.2 R := by
  unfold Lm_251_93 at hr
  refine go_run mm_251 2 (pc' := 96) (ls' := [some (.ref 140), some (.int p93_1), some (.int p93_2), some (.int p93_3), some (.int a93.1)]) (st' := [.int p93_1, .int a93.1]) (S' := a93.2) rfl ?_
  refine go_if2 mm_251 rfl (p1 := 99) (p2 := 121) rfl (fun (hc11 : a93.1 < p93_1) => ?_) (fun (hc11 : ¬ a93.1 < p93_1) => ?_)
  · rw [if_pos hc11] at hr
    refine go_run mm_251 8 (pc' := 113) (ls' := [some (.ref 140), some (.int p93_1), some (.int p93_2), some (.int p93_3), some (.int a93.1)]) (st' := [.int (a93.1 + 1), .ref 156, .int a93.1, .ref 156]) (S' := a93.2) rfl ?_
    obtain ⟨hb12, hr⟩ := ck_some hr
    refine go_iaload mm_251 (q := (Int32.toNatClampNeg (a93.1 + 1))) rfl rfl rfl (ibd_ok hb12) ?_
    show Go XM (d + 4) 251 0 114 [some (.ref 140), some (.int p93_1), some (.int p93_2), some (.int p93_3), some (.int a93.1)] [.int (a93.2.1 156 (Int32.toNatClampNeg (a93.1 + 1))), .int a93.1, .ref 156] a93.2 R
    obtain ⟨hb13, hr⟩ := ck_some hr
    refine go_iastore mm_251 (q := (Int32.toNatClampNeg a93.1)) rfl rfl rfl (ibd_ok hb13) ?_
    show Go XM (d + 4) 251 0 115 [some (.ref 140), some (.int p93_1), some (.int p93_2), some (.int p93_3), some (.int a93.1)] [] (wI a93.2 156 (Int32.toNatClampNeg a93.1) (a93.2.1 156 (Int32.toNatClampNeg (a93.1 + 1)))) R
    obtain ⟨s14, es14, hr⟩ := sbn_some hr
    rw [← es14]
    refine go_run mm_251 2 (pc' := 93) (ls' := [some (.ref 140), some (.int p93_1), some (.int p93_2), some (.int p93_3), some (.int (a93.1 + 1))]) (st' := []) (S' := s14) rfl ?_
    cases hr
    have h9 := hL (a93.1 + 1, s14) rfl
    dsimp only at h9
    exact Go.le h9 (by repeat first | exact True.intro | refine And.intro rfl ?_)
  · rw [if_neg hc11] at hr
    cases hr
    have h9 := hR (a93.1, a93.2) rfl
    dsimp only [Sum.elim_inl] at h9
    exact Go.le h9 (by repeat first | exact True.intro | refine And.intro rfl ?_)
noncomputable def Lm_251_9 (p9_1 : Int32) (a9 : Int32 × ST) : Option ((Int32 × ST) ⊕ (Int32 × ST)) := if a9.1 < p9_1 then (ck (ibd a9.1 12) (sbn ((wI a9.2 156 (Int32.toNatClampNeg a9.1) a9.1)) (fun s3 => some (.inl (a9.1 + 1, s3))))) else (some (.inr (a9.1, a9.2)))
set_option maxRecDepth 20000 in
theorem LSm_251_9 {d : Nat} {R : RT} {p9_1 : Int32} {a9 : Int32 × ST} {r9} (hr : Lm_251_9 p9_1 a9 = some r9) (hL : ∀ a9, r9 = .inl a9 → (fun a9 => Go XM (d + 4) 251 0 9 [some (.ref 140), some (.int p9_1), some (.int a9.1), none, none] [] a9.2 R) a9) (hR : ∀ b9, r9 = .inr b9 → (fun e9 => Go XM (d + 4) 251 0 27 [some (.ref 140), some (.int p9_1), some (.int e9.1), none, none] [] e9.2 R) b9) : Go XM (d + 4) 251 0 9 [some (.ref 140), some (.int p9_1), some (.int a9.1), none, none] [] a9.2 R := by
  unfold Lm_251_9 at hr
  refine go_run mm_251 2 (pc' := 11) (ls' := [some (.ref 140), some (.int p9_1), some (.int a9.1), none, none]) (st' := [.int p9_1, .int a9.1]) (S' := a9.2) rfl ?_
  refine go_if2 mm_251 rfl (p1 := 14) (p2 := 27) rfl (fun (hc1 : a9.1 < p9_1) => ?_) (fun (hc1 : ¬ a9.1 < p9_1) => ?_)
  · rw [if_pos hc1] at hr
    refine go_run mm_251 4 (pc' := 20) (ls' := [some (.ref 140), some (.int p9_1), some (.int a9.1), none, none]) (st' := [.int a9.1, .int a9.1, .ref 156]) (S' := a9.2) rfl ?_
    obtain ⟨hb2, hr⟩ := ck_some hr
    refine go_iastore mm_251 (q := (Int32.toNatClampNeg a9.1)) rfl rfl rfl (ibd_ok hb2) ?_
    show Go XM (d + 4) 251 0 21 [some (.ref 140), some (.int p9_1), some (.int a9.1), none, none] [] (wI a9.2 156 (Int32.toNatClampNeg a9.1) a9.1) R
    obtain ⟨s3, es3, hr⟩ := sbn_some hr
    rw [← es3]
    refine go_run mm_251 2 (pc' := 9) (ls' := [some (.ref 140), some (.int p9_1), some (.int (a9.1 + 1)), none, none]) (st' := []) (S' := s3) rfl ?_
    cases hr
    have h9 := hL (a9.1 + 1, s3) rfl
    dsimp only at h9
    exact Go.le h9 (by repeat first | exact True.intro | refine And.intro rfl ?_)
  · rw [if_neg hc1] at hr
    cases hr
    have h9 := hR (a9.1, a9.2) rfl
    dsimp only [Sum.elim_inl] at h9
    exact Go.le h9 (by repeat first | exact True.intro | refine And.intro rfl ?_)
noncomputable def Lm_251_29 (a29 : Int32 × Int32 × ST) : Option ((Int32 × Int32 × ST) ⊕ (Int32 × Int32 × ST)) := if (3 : Int32) < a29.1 then (ob (wh FU (Lm_251_36 a29.1 a29.2.1 a29.2.2) (0)) (fun e36 => ck (!(decide (a29.1 = 0))) (ck (ibd (((e36 + a29.1) - 1) - ((e36 + a29.1) - 1) / a29.1 * a29.1) 12) (ck (ibd e36 12) (ck (!(decide (a29.1 = 0))) (ck (ibd ((e36 + 1) - (e36 + 1) / a29.1 * a29.1) 12) (ob (F_250 a29.2.1 (a29.2.2.1 156 (Int32.toNatClampNeg (((e36 + a29.1) - 1) - ((e36 + a29.1) - 1) / a29.1 * a29.1))) (a29.2.2.1 156 (Int32.toNatClampNeg e36)) (a29.2.2.1 156 (Int32.toNatClampNeg ((e36 + 1) - (e36 + 1) / a29.1 * a29.1))) a29.2.2) (fun w2 => ob (wh FU (Lm_251_93 (a29.1 + (-1)) (a29.2.1 + 1) e36) (e36, w2.2)) (fun e93 => some (.inl (a29.1 + (-1), a29.2.1 + 1, e93.2))))))))))) else (some (.inr (a29.1, a29.2.1, a29.2.2)))
set_option maxRecDepth 20000 in
theorem LSm_251_29 {d : Nat} {R : RT} {a29 : Int32 × Int32 × ST} {r9} (hr : Lm_251_29 a29 = some r9) (hL : ∀ a9, r9 = .inl a9 → (fun a29 => Go XM (d + 4) 251 0 29 [some (.ref 140), some (.int a29.1), some (.int a29.2.1), none, none] [] a29.2.2 R) a9) (hR : ∀ b9, r9 = .inr b9 → (fun e29 => Go XM (d + 4) 251 0 124 [some (.ref 140), some (.int e29.1), some (.int e29.2.1), none, none] [] e29.2.2 R) b9) : Go XM (d + 4) 251 0 29 [some (.ref 140), some (.int a29.1), some (.int a29.2.1), none, none] [] a29.2.2 R := by
  unfold Lm_251_29 at hr
  refine go_run mm_251 2 (pc' := 31) (ls' := [some (.ref 140), some (.int a29.1), some (.int a29.2.1), none, none]) (st' := [.int 3, .int a29.1]) (S' := a29.2.2) rfl ?_
  refine go_if2 mm_251 rfl (p1 := 34) (p2 := 124) rfl (fun (hc4 : (3 : Int32) < a29.1) => ?_) (fun (hc4 : ¬ (3 : Int32) < a29.1) => ?_)
  · rw [if_pos hc4] at hr
    refine go_run mm_251 2 (pc' := 36) (ls' := [some (.ref 140), some (.int a29.1), some (.int a29.2.1), some (.int 0), none]) (st' := []) (S' := a29.2.2) rfl ?_
    obtain ⟨z36, he36, hr⟩ := ob_some hr
    refine Go.le (ls' := [some (.ref 140), some (.int a29.1), some (.int a29.2.1), some (.int 0), none]) ?_ (by repeat first | exact True.intro | refine And.intro rfl ?_)
    refine wh_go (P := fun a36 => Go XM (d + 4) 251 0 36 [some (.ref 140), some (.int a29.1), some (.int a29.2.1), some (.int a36), none] [] a29.2.2 R) (K := fun e36 => Go XM (d + 4) 251 0 51 [some (.ref 140), some (.int a29.1), some (.int a29.2.1), some (.int e36), none] [] a29.2.2 R) (fun a9 r9 h9 hL hR => LSm_251_36 h9 hL hR) _ _ _ he36 ?_
    generalize z36 = e36 at hr
    show Go XM (d + 4) 251 0 51 [some (.ref 140), some (.int a29.1), some (.int a29.2.1), some (.int e36), none] [] a29.2.2 R
    refine go_run mm_251 10 (pc' := 63) (ls' := [some (.ref 140), some (.int a29.1), some (.int a29.2.1), some (.int e36), none]) (st' := [.int a29.1, .int ((e36 + a29.1) - 1), .ref 156, .int a29.2.1, .ref 140]) (S' := a29.2.2) rfl ?_
    obtain ⟨hz6, hr⟩ := ck_some hr
    refine go_irem mm_251 rfl (by simpa using hz6) ?_
    show Go XM (d + 4) 251 0 64 [some (.ref 140), some (.int a29.1), some (.int a29.2.1), some (.int e36), none] [.int (((e36 + a29.1) - 1) - ((e36 + a29.1) - 1) / a29.1 * a29.1), .ref 156, .int a29.2.1, .ref 140] a29.2.2 R
    obtain ⟨hb7, hr⟩ := ck_some hr
    refine go_iaload mm_251 (q := (Int32.toNatClampNeg (((e36 + a29.1) - 1) - ((e36 + a29.1) - 1) / a29.1 * a29.1))) rfl rfl rfl (ibd_ok hb7) ?_
    show Go XM (d + 4) 251 0 65 [some (.ref 140), some (.int a29.1), some (.int a29.2.1), some (.int e36), none] [.int (a29.2.2.1 156 (Int32.toNatClampNeg (((e36 + a29.1) - 1) - ((e36 + a29.1) - 1) / a29.1 * a29.1))), .int a29.2.1, .ref 140] a29.2.2 R
    refine go_run mm_251 3 (pc' := 70) (ls' := [some (.ref 140), some (.int a29.1), some (.int a29.2.1), some (.int e36), none]) (st' := [.int e36, .ref 156, .int (a29.2.2.1 156 (Int32.toNatClampNeg (((e36 + a29.1) - 1) - ((e36 + a29.1) - 1) / a29.1 * a29.1))), .int a29.2.1, .ref 140]) (S' := a29.2.2) rfl ?_
    obtain ⟨hb8, hr⟩ := ck_some hr
    refine go_iaload mm_251 (q := (Int32.toNatClampNeg e36)) rfl rfl rfl (ibd_ok hb8) ?_
    show Go XM (d + 4) 251 0 71 [some (.ref 140), some (.int a29.1), some (.int a29.2.1), some (.int e36), none] [.int (a29.2.2.1 156 (Int32.toNatClampNeg e36)), .int (a29.2.2.1 156 (Int32.toNatClampNeg (((e36 + a29.1) - 1) - ((e36 + a29.1) - 1) / a29.1 * a29.1))), .int a29.2.1, .ref 140] a29.2.2 R
    refine go_run mm_251 6 (pc' := 79) (ls' := [some (.ref 140), some (.int a29.1), some (.int a29.2.1), some (.int e36), none]) (st' := [.int a29.1, .int (e36 + 1), .ref 156, .int (a29.2.2.1 156 (Int32.toNatClampNeg e36)), .int (a29.2.2.1 156 (Int32.toNatClampNeg (((e36 + a29.1) - 1) - ((e36 + a29.1) - 1) / a29.1 * a29.1))), .int a29.2.1, .ref 140]) (S' := a29.2.2) rfl ?_
    obtain ⟨hz9, hr⟩ := ck_some hr
    refine go_irem mm_251 rfl (by simpa using hz9) ?_
    show Go XM (d + 4) 251 0 80 [some (.ref 140), some (.int a29.1), some (.int a29.2.1), some (.int e36), none] [.int ((e36 + 1) - (e36 + 1) / a29.1 * a29.1), .ref 156, .int (a29.2.2.1 156 (Int32.toNatClampNeg e36)), .int (a29.2.2.1 156 (Int32.toNatClampNeg (((e36 + a29.1) - 1) - ((e36 + a29.1) - 1) / a29.1 * a29.1))), .int a29.2.1, .ref 140] a29.2.2 R
    obtain ⟨hb10, hr⟩ := ck_some hr
    refine go_iaload mm_251 (q := (Int32.toNatClampNeg ((e36 + 1) - (e36 + 1) / a29.1 * a29.1))) rfl rfl rfl (ibd_ok hb10) ?_
    show Go XM (d + 4) 251 0 81 [some (.ref 140), some (.int a29.1), some (.int a29.2.1), some (.int e36), none] [.int (a29.2.2.1 156 (Int32.toNatClampNeg ((e36 + 1) - (e36 + 1) / a29.1 * a29.1))), .int (a29.2.2.1 156 (Int32.toNatClampNeg e36)), .int (a29.2.2.1 156 (Int32.toNatClampNeg (((e36 + a29.1) - 1) - ((e36 + a29.1) - 1) / a29.1 * a29.1))), .int a29.2.1, .ref 140] a29.2.2 R
    obtain ⟨w2, hw2, hr⟩ := ob_some hr
    refine go_cv mm_251 (h := 140) (As := [.int a29.2.1, .int (a29.2.2.1 156 (Int32.toNatClampNeg (((e36 + a29.1) - 1) - ((e36 + a29.1) - 1) / a29.1 * a29.1))), .int (a29.2.2.1 156 (Int32.toNatClampNeg e36)), .int (a29.2.2.1 156 (Int32.toNatClampNeg ((e36 + 1) - (e36 + 1) / a29.1 * a29.1)))]) (rest := []) (nl := 7) rfl rfl (show cvOK 251 81 297 250 4 7 11 = true by decide +kernel) rfl rfl rfl (S_250 hw2) (KP_V ?_)
    show Go XM (d + 4) 251 0 84 [some (.ref 140), some (.int a29.1), some (.int a29.2.1), some (.int e36), none] [] w2.2 R
    refine go_run mm_251 4 (pc' := 93) (ls' := [some (.ref 140), some (.int (a29.1 + (-1))), some (.int (a29.2.1 + 1)), some (.int e36), some (.int e36)]) (st' := []) (S' := w2.2) rfl ?_
    obtain ⟨z93, he93, hr⟩ := ob_some hr
    refine Go.le (ls' := [some (.ref 140), some (.int (a29.1 + (-1))), some (.int (a29.2.1 + 1)), some (.int e36), some (.int e36)]) ?_ (by repeat first | exact True.intro | refine And.intro rfl ?_)
    refine wh_go (P := fun a93 => Go XM (d + 4) 251 0 93 [some (.ref 140), some (.int (a29.1 + (-1))), some (.int (a29.2.1 + 1)), some (.int e36), some (.int a93.1)] [] a93.2 R) (K := fun e93 => Go XM (d + 4) 251 0 121 [some (.ref 140), some (.int (a29.1 + (-1))), some (.int (a29.2.1 + 1)), some (.int e36), some (.int e93.1)] [] e93.2 R) (fun a9 r9 h9 hL hR => LSm_251_93 h9 hL hR) _ _ _ he93 ?_
    generalize z93 = e93 at hr
    show Go XM (d + 4) 251 0 121 [some (.ref 140), some (.int (a29.1 + (-1))), some (.int (a29.2.1 + 1)), some (.int e36), some (.int e93.1)] [] e93.2 R
    refine go_run mm_251 1 (pc' := 29) (ls' := [some (.ref 140), some (.int (a29.1 + (-1))), some (.int (a29.2.1 + 1)), some (.int e36), some (.int e93.1)]) (st' := []) (S' := e93.2) rfl ?_
    cases hr
    have h9 := hL (a29.1 + (-1), a29.2.1 + 1, e93.2) rfl
    dsimp only at h9
    exact Go.le h9 (by repeat first | exact True.intro | refine And.intro rfl ?_)
  · rw [if_neg hc4] at hr
    cases hr
    have h9 := hR (a29.1, a29.2.1, a29.2.2) rfl
    dsimp only [Sum.elim_inl] at h9
    exact Go.le h9 (by repeat first | exact True.intro | refine And.intro rfl ?_)
noncomputable def F_251 (S : ST) : Option (Unit × ST) := ob (wh FU (Lm_251_9 (S.1 141 0)) (0, S)) (fun e9 => ob (wh FU (Lm_251_29) (S.1 141 0, 0, e9.2)) (fun e29 => ob (F_250 e29.2.1 (e29.2.2.1 156 0) (e29.2.2.1 156 1) (e29.2.2.1 156 2) e29.2.2) (fun w3 => some ((), w3.2))))
set_option maxRecDepth 20000 in
theorem S_251 {d : Nat} {S : ST} {r} (hr : F_251 S = some r) : Cal XM (d + 4) 251 [.ref 140] S (RV (vU r.1) r.2) := by
  unfold F_251 at hr
  refine cal_go 4 rfl ?_
  refine go_run mm_251 3 (pc' := 5) (ls' := [some (.ref 140), none, none, none, none]) (st' := [.int 0, .ref 141]) (S' := S) rfl ?_
  refine go_iaload mm_251 (q := 0) rfl rfl rfl (inB_lit rfl) ?_
  show Go XM (d + 4) 251 0 6 [some (.ref 140), none, none, none, none] [.int (S.1 141 0)] S (RV (vU r.1) r.2)
  refine go_run mm_251 3 (pc' := 9) (ls' := [some (.ref 140), some (.int (S.1 141 0)), some (.int 0), none, none]) (st' := []) (S' := S) rfl ?_
  obtain ⟨z9, he9, hr⟩ := ob_some hr
  refine Go.le (ls' := [some (.ref 140), some (.int (S.1 141 0)), some (.int 0), none, none]) ?_ (by repeat first | exact True.intro | refine And.intro rfl ?_)
  refine wh_go (P := fun a9 => Go XM (d + 4) 251 0 9 [some (.ref 140), some (.int (S.1 141 0)), some (.int a9.1), none, none] [] a9.2 (RV (vU r.1) r.2)) (K := fun e9 => Go XM (d + 4) 251 0 27 [some (.ref 140), some (.int (S.1 141 0)), some (.int e9.1), none, none] [] e9.2 (RV (vU r.1) r.2)) (fun a9 r9 h9 hL hR => LSm_251_9 h9 hL hR) _ _ _ he9 ?_
  generalize z9 = e9 at hr
  show Go XM (d + 4) 251 0 27 [some (.ref 140), some (.int (S.1 141 0)), some (.int e9.1), none, none] [] e9.2 (RV (vU r.1) r.2)
  refine go_run mm_251 2 (pc' := 29) (ls' := [some (.ref 140), some (.int (S.1 141 0)), some (.int 0), none, none]) (st' := []) (S' := e9.2) rfl ?_
  obtain ⟨z29, he29, hr⟩ := ob_some hr
  refine Go.le (ls' := [some (.ref 140), some (.int (S.1 141 0)), some (.int 0), none, none]) ?_ (by repeat first | exact True.intro | refine And.intro rfl ?_)
  refine wh_go (P := fun a29 => Go XM (d + 4) 251 0 29 [some (.ref 140), some (.int a29.1), some (.int a29.2.1), none, none] [] a29.2.2 (RV (vU r.1) r.2)) (K := fun e29 => Go XM (d + 4) 251 0 124 [some (.ref 140), some (.int e29.1), some (.int e29.2.1), none, none] [] e29.2.2 (RV (vU r.1) r.2)) (fun a9 r9 h9 hL hR => LSm_251_29 h9 hL hR) _ _ _ he29 ?_
  generalize z29 = e29 at hr
  show Go XM (d + 4) 251 0 124 [some (.ref 140), some (.int e29.1), some (.int e29.2.1), none, none] [] e29.2.2 (RV (vU r.1) r.2)
  refine go_run mm_251 5 (pc' := 131) (ls' := [some (.ref 140), some (.int e29.1), some (.int e29.2.1), none, none]) (st' := [.int 0, .ref 156, .int e29.2.1, .ref 140]) (S' := e29.2.2) rfl ?_
  refine go_iaload mm_251 (q := 0) rfl rfl rfl (inB_lit rfl) ?_
  show Go XM (d + 4) 251 0 132 [some (.ref 140), some (.int e29.1), some (.int e29.2.1), none, none] [.int (e29.2.2.1 156 0), .int e29.2.1, .ref 140] e29.2.2 (RV (vU r.1) r.2)
  refine go_run mm_251 3 (pc' := 137) (ls' := [some (.ref 140), some (.int e29.1), some (.int e29.2.1), none, none]) (st' := [.int 1, .ref 156, .int (e29.2.2.1 156 0), .int e29.2.1, .ref 140]) (S' := e29.2.2) rfl ?_
  refine go_iaload mm_251 (q := 1) rfl rfl rfl (inB_lit rfl) ?_
  show Go XM (d + 4) 251 0 138 [some (.ref 140), some (.int e29.1), some (.int e29.2.1), none, none] [.int (e29.2.2.1 156 1), .int (e29.2.2.1 156 0), .int e29.2.1, .ref 140] e29.2.2 (RV (vU r.1) r.2)
  refine go_run mm_251 3 (pc' := 143) (ls' := [some (.ref 140), some (.int e29.1), some (.int e29.2.1), none, none]) (st' := [.int 2, .ref 156, .int (e29.2.2.1 156 1), .int (e29.2.2.1 156 0), .int e29.2.1, .ref 140]) (S' := e29.2.2) rfl ?_
  refine go_iaload mm_251 (q := 2) rfl rfl rfl (inB_lit rfl) ?_
  show Go XM (d + 4) 251 0 144 [some (.ref 140), some (.int e29.1), some (.int e29.2.1), none, none] [.int (e29.2.2.1 156 2), .int (e29.2.2.1 156 1), .int (e29.2.2.1 156 0), .int e29.2.1, .ref 140] e29.2.2 (RV (vU r.1) r.2)
  obtain ⟨w3, hw3, hr⟩ := ob_some hr
  refine go_cv mm_251 (h := 140) (As := [.int e29.2.1, .int (e29.2.2.1 156 0), .int (e29.2.2.1 156 1), .int (e29.2.2.1 156 2)]) (rest := []) (nl := 7) rfl rfl (show cvOK 251 144 297 250 4 7 11 = true by decide +kernel) rfl rfl rfl (S_250 hw3) (KP_V ?_)
  show Go XM (d + 4) 251 0 147 [some (.ref 140), some (.int e29.1), some (.int e29.2.1), none, none] [] w3.2 (RV (vU r.1) r.2)
  cases hr
  exact go_vreturn mm_251 rfl rfl ⟨rfl, rfl, rfl⟩

noncomputable def F_252 (v1 : Int32) (S : ST) : Option (Bool × ST) := ob (F_184 S) (fun w1 => if w1.1 = true then (some (true, w1.2)) else (ob (F_183 (!(F_182 v1 0 ((w1.2.1 141 0) - 3))) 2 w1.2) (fun w2 => some (w2.1, w2.2))))
set_option maxRecDepth 20000 in
theorem S_252 {d : Nat} {S : ST} {v1 : Int32} {r} (hr : F_252 v1 S = some r) : Cal XM (d + 2) 252 [.ref 140, .int v1] S (RV (vZ r.1) r.2) := by
  unfold F_252 at hr
  refine cal_go 0 rfl ?_
  refine go_run mm_252 1 (pc' := 1) (ls' := [some (.ref 140), some (.int v1)]) (st' := [.ref 140]) (S' := S) rfl ?_
  obtain ⟨w1, hw1, hr⟩ := ob_some hr
  refine go_cv mm_252 (h := 140) (As := []) (rest := []) (nl := 1) rfl rfl (show cvOK 252 1 247 184 0 1 11 = true by decide +kernel) rfl rfl rfl (S_184 hw1) (KP_V ?_)
  show Go XM (d + 2) 252 0 4 [some (.ref 140), some (.int v1)] [.int (b2i w1.1)] w1.2 (RV (vZ r.1) r.2)
  refine go_ifb mm_252 rfl (p1 := 36) (p2 := 7) rfl (fun (hc1 : w1.1 = true) => ?_) (fun (hc1 : w1.1 = false) => ?_)
  · rw [if_pos hc1] at hr
    refine go_run mm_252 2 (pc' := 41) (ls' := [some (.ref 140), some (.int v1)]) (st' := [.int 1]) (S' := w1.2) rfl ?_
    cases hr
    exact go_zreturn mm_252 rfl rfl (Or.inr rfl) ⟨rfl, rfl, rfl⟩
  · rw [if_neg (bf hc1)] at hr
    refine go_run mm_252 6 (pc' := 15) (ls' := [some (.ref 140), some (.int v1)]) (st' := [.int 0, .ref 141, .int 0, .int v1, .ref 140]) (S' := w1.2) rfl ?_
    refine go_iaload mm_252 (q := 0) rfl rfl rfl (inB_lit rfl) ?_
    show Go XM (d + 2) 252 0 16 [some (.ref 140), some (.int v1)] [.int (w1.2.1 141 0), .int 0, .int v1, .ref 140] w1.2 (RV (vZ r.1) r.2)
    refine go_run mm_252 2 (pc' := 18) (ls' := [some (.ref 140), some (.int v1)]) (st' := [.int ((w1.2.1 141 0) - 3), .int 0, .int v1, .ref 140]) (S' := w1.2) rfl ?_
    refine go_cs mm_252 (av := [.int v1, .int 0, .int ((w1.2.1 141 0) - 3)]) (rest := [.ref 140]) (nl := 3) rfl (show csOK 252 18 148 182 3 3 = true by decide +kernel) rfl rfl rfl (S_182 rfl) (KP_V ?_)
    show Go XM (d + 2) 252 0 21 [some (.ref 140), some (.int v1)] [.int (b2i (F_182 v1 0 ((w1.2.1 141 0) - 3))), .ref 140] w1.2 (RV (vZ r.1) r.2)
    have j5 : Go XM (d + 2) 252 0 29 [some (.ref 140), some (.int v1)] [.int (b2i (!(F_182 v1 0 ((w1.2.1 141 0) - 3)))), .ref 140] w1.2 (RV (vZ r.1) r.2) := by
      refine go_run mm_252 1 (pc' := 30) (ls' := [some (.ref 140), some (.int v1)]) (st' := [.int 2, .int (b2i (!(F_182 v1 0 ((w1.2.1 141 0) - 3)))), .ref 140]) (S' := w1.2) rfl ?_
      obtain ⟨w2, hw2, hr⟩ := ob_some hr
      refine go_cv mm_252 (h := 140) (As := [.int (b2i (!(F_182 v1 0 ((w1.2.1 141 0) - 3)))), .int 2]) (rest := []) (nl := 3) rfl rfl (show cvOK 252 30 86 183 2 3 11 = true by decide +kernel) rfl rfl rfl (S_183 hw2) (KP_V ?_)
      show Go XM (d + 2) 252 0 33 [some (.ref 140), some (.int v1)] [.int (b2i w2.1)] w2.2 (RV (vZ r.1) r.2)
      have j4 : Go XM (d + 2) 252 0 41 [some (.ref 140), some (.int v1)] [.int (b2i w2.1)] w2.2 (RV (vZ r.1) r.2) := by
        cases hr
        exact go_zreturn mm_252 rfl rfl (b2i_01 _) ⟨rfl, rfl, rfl⟩
      refine go_ifb mm_252 rfl (p1 := 36) (p2 := 40) rfl (fun (hc3 : w2.1 = true) => ?_) (fun (hc3 : w2.1 = false) => ?_)
      · refine go_run mm_252 2 (pc' := 41) (ls' := [some (.ref 140), some (.int v1)]) (st' := [.int 1]) (S' := w2.2) rfl ?_
        have e : ((b2i w2.1) : Int32) = 1 := by simp [b2i, hc3]
        rw [e] at j4
        exact j4
      · refine go_run mm_252 1 (pc' := 41) (ls' := [some (.ref 140), some (.int v1)]) (st' := [.int 0]) (S' := w2.2) rfl ?_
        have e : ((b2i w2.1) : Int32) = 0 := by simp [b2i, hc3]
        rw [e] at j4
        exact j4
    refine go_ifb mm_252 rfl (p1 := 28) (p2 := 24) rfl (fun (hc2 : (F_182 v1 0 ((w1.2.1 141 0) - 3)) = true) => ?_) (fun (hc2 : (F_182 v1 0 ((w1.2.1 141 0) - 3)) = false) => ?_)
    · refine go_run mm_252 1 (pc' := 29) (ls' := [some (.ref 140), some (.int v1)]) (st' := [.int 0, .ref 140]) (S' := w1.2) rfl ?_
      have e : ((b2i (!(F_182 v1 0 ((w1.2.1 141 0) - 3)))) : Int32) = 0 := by simp [b2i, hc2]
      rw [e] at j5
      exact j5
    · refine go_run mm_252 2 (pc' := 29) (ls' := [some (.ref 140), some (.int v1)]) (st' := [.int 1, .ref 140]) (S' := w1.2) rfl ?_
      have e : ((b2i (!(F_182 v1 0 ((w1.2.1 141 0) - 3)))) : Int32) = 1 := by simp [b2i, hc2]
      rw [e] at j5
      exact j5

noncomputable def F_253 (v1 : Int32) (v2 : Int32) (S : ST) : Option (Int32 × ST) := ob (F_252 v1 S) (fun w1 => if w1.1 = true then (some (0, w1.2)) else (ob (F_183 (!(F_182 v2 0 2)) 3 w1.2) (fun w2 => if w2.1 = true then (some (0, w2.2)) else (ob (F_251 w2.2) (fun w3 => ck (ibd ((3 * v1) + v2) 30) (some (w3.2.1 157 (Int32.toNatClampNeg ((3 * v1) + v2)), w3.2)))))))
set_option maxRecDepth 20000 in
theorem S_253 {d : Nat} {S : ST} {v1 : Int32} {v2 : Int32} {r} (hr : F_253 v1 v2 S = some r) : Cal XM (d + 5) 253 [.ref 140, .int v1, .int v2] S (RV (vI r.1) r.2) := by
  unfold F_253 at hr
  refine cal_go 0 rfl ?_
  refine go_run mm_253 2 (pc' := 2) (ls' := [some (.ref 140), some (.int v1), some (.int v2)]) (st' := [.int v1, .ref 140]) (S' := S) rfl ?_
  obtain ⟨w1, hw1, hr⟩ := ob_some hr
  refine go_cv mm_253 (h := 140) (As := [.int v1]) (rest := []) (nl := 2) rfl rfl (show cvOK 253 2 301 252 1 2 11 = true by decide +kernel) rfl rfl rfl (S_252 hw1) (KP_V ?_)
  show Go XM (d + 5) 253 0 5 [some (.ref 140), some (.int v1), some (.int v2)] [.int (b2i w1.1)] w1.2 (RV (vI r.1) r.2)
  refine go_ifb mm_253 rfl (p1 := 30) (p2 := 8) rfl (fun (hc1 : w1.1 = true) => ?_) (fun (hc1 : w1.1 = false) => ?_)
  · rw [if_pos hc1] at hr
    refine go_run mm_253 1 (pc' := 31) (ls' := [some (.ref 140), some (.int v1), some (.int v2)]) (st' := [.int 0]) (S' := w1.2) rfl ?_
    cases hr
    exact go_ireturn mm_253 rfl rfl ⟨rfl, rfl, rfl⟩
  · rw [if_neg (bf hc1)] at hr
    refine go_run mm_253 4 (pc' := 12) (ls' := [some (.ref 140), some (.int v1), some (.int v2)]) (st' := [.int 2, .int 0, .int v2, .ref 140]) (S' := w1.2) rfl ?_
    refine go_cs mm_253 (av := [.int v2, .int 0, .int 2]) (rest := [.ref 140]) (nl := 3) rfl (show csOK 253 12 148 182 3 3 = true by decide +kernel) rfl rfl rfl (S_182 rfl) (KP_V ?_)
    show Go XM (d + 5) 253 0 15 [some (.ref 140), some (.int v1), some (.int v2)] [.int (b2i (F_182 v2 0 2)), .ref 140] w1.2 (RV (vI r.1) r.2)
    have j5 : Go XM (d + 5) 253 0 23 [some (.ref 140), some (.int v1), some (.int v2)] [.int (b2i (!(F_182 v2 0 2))), .ref 140] w1.2 (RV (vI r.1) r.2) := by
      refine go_run mm_253 1 (pc' := 24) (ls' := [some (.ref 140), some (.int v1), some (.int v2)]) (st' := [.int 3, .int (b2i (!(F_182 v2 0 2))), .ref 140]) (S' := w1.2) rfl ?_
      obtain ⟨w2, hw2, hr⟩ := ob_some hr
      refine go_cv mm_253 (h := 140) (As := [.int (b2i (!(F_182 v2 0 2))), .int 3]) (rest := []) (nl := 3) rfl rfl (show cvOK 253 24 86 183 2 3 11 = true by decide +kernel) rfl rfl rfl (S_183 hw2) (KP_V ?_)
      show Go XM (d + 5) 253 0 27 [some (.ref 140), some (.int v1), some (.int v2)] [.int (b2i w2.1)] w2.2 (RV (vI r.1) r.2)
      refine go_ifb mm_253 rfl (p1 := 30) (p2 := 32) rfl (fun (hc3 : w2.1 = true) => ?_) (fun (hc3 : w2.1 = false) => ?_)
      · rw [if_pos hc3] at hr
        refine go_run mm_253 1 (pc' := 31) (ls' := [some (.ref 140), some (.int v1), some (.int v2)]) (st' := [.int 0]) (S' := w2.2) rfl ?_
        cases hr
        exact go_ireturn mm_253 rfl rfl ⟨rfl, rfl, rfl⟩
      · rw [if_neg (bf hc3)] at hr
        refine go_run mm_253 1 (pc' := 33) (ls' := [some (.ref 140), some (.int v1), some (.int v2)]) (st' := [.ref 140]) (S' := w2.2) rfl ?_
        obtain ⟨w3, hw3, hr⟩ := ob_some hr
        refine go_cv mm_253 (h := 140) (As := []) (rest := []) (nl := 5) rfl rfl (show cvOK 253 33 304 251 0 5 11 = true by decide +kernel) rfl rfl rfl (S_251 hw3) (KP_V ?_)
        show Go XM (d + 5) 253 0 36 [some (.ref 140), some (.int v1), some (.int v2)] [] w3.2 (RV (vI r.1) r.2)
        refine go_run mm_253 7 (pc' := 45) (ls' := [some (.ref 140), some (.int v1), some (.int v2)]) (st' := [.int ((3 * v1) + v2), .ref 157]) (S' := w3.2) rfl ?_
        obtain ⟨hb4, hr⟩ := ck_some hr
        refine go_iaload mm_253 (q := (Int32.toNatClampNeg ((3 * v1) + v2))) rfl rfl rfl (ibd_ok hb4) ?_
        show Go XM (d + 5) 253 0 46 [some (.ref 140), some (.int v1), some (.int v2)] [.int (w3.2.1 157 (Int32.toNatClampNeg ((3 * v1) + v2)))] w3.2 (RV (vI r.1) r.2)
        cases hr
        exact go_ireturn mm_253 rfl rfl ⟨rfl, rfl, rfl⟩
    refine go_ifb mm_253 rfl (p1 := 22) (p2 := 18) rfl (fun (hc2 : (F_182 v2 0 2) = true) => ?_) (fun (hc2 : (F_182 v2 0 2) = false) => ?_)
    · refine go_run mm_253 1 (pc' := 23) (ls' := [some (.ref 140), some (.int v1), some (.int v2)]) (st' := [.int 0, .ref 140]) (S' := w1.2) rfl ?_
      have e : ((b2i (!(F_182 v2 0 2))) : Int32) = 0 := by simp [b2i, hc2]
      rw [e] at j5
      exact j5
    · refine go_run mm_253 2 (pc' := 23) (ls' := [some (.ref 140), some (.int v1), some (.int v2)]) (st' := [.int 1, .ref 140]) (S' := w1.2) rfl ?_
      have e : ((b2i (!(F_182 v2 0 2))) : Int32) = 1 := by simp [b2i, hc2]
      rw [e] at j5
      exact j5
