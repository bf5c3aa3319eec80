/-! methods as functions (printed by a program): 268 witnessNumber, 269 witness, 270 lowest, 271 groups, 272 hides, 273 hiddenNumber, 274 guard, 275 watchOf, 276 watchOf, 277 watchBut, 278 guardAt, 279 guardRange, 280 watched, 281 unwatched, 282 watchers, 283 redundantGuards -/
noncomputable def F_268 (S : ST) : Option (Int32 × ST) := ob (F_184 S) (fun w1 => if w1.1 = true then (some (0, w1.2)) else (ob (F_267 w1.2) (fun w2 => some (w2.2.1 140 36, w2.2))))
set_option maxRecDepth 20000 in
theorem S_268 {d : Nat} {S : ST} {r} (hr : F_268 S = some r) : Cal XM (d + 9) 268 [.ref 140] S (RV (vI r.1) r.2) := by
  unfold F_268 at hr
  refine cal_go 0 rfl ?_
  refine go_run mm_268 1 (pc' := 1) (ls' := [some (.ref 140)]) (st' := [.ref 140]) (S' := S) rfl ?_
  obtain ⟨w1, hw1, hr⟩ := ob_some hr
  refine go_cv mm_268 (h := 140) (As := []) (rest := []) (nl := 1) rfl rfl (show cvOK 268 1 247 184 0 1 11 = true by decide +kernel) rfl rfl rfl (S_184 hw1) (KP_V ?_)
  show Go XM (d + 9) 268 0 4 [some (.ref 140)] [.int (b2i w1.1)] w1.2 (RV (vI r.1) r.2)
  refine go_ifb mm_268 rfl (p1 := 7) (p2 := 9) rfl (fun (hc1 : w1.1 = true) => ?_) (fun (hc1 : w1.1 = false) => ?_)
  · rw [if_pos hc1] at hr
    refine go_run mm_268 1 (pc' := 8) (ls' := [some (.ref 140)]) (st' := [.int 0]) (S' := w1.2) rfl ?_
    cases hr
    exact go_ireturn mm_268 rfl rfl ⟨rfl, rfl, rfl⟩
  · rw [if_neg (bf hc1)] at hr
    refine go_run mm_268 1 (pc' := 10) (ls' := [some (.ref 140)]) (st' := [.ref 140]) (S' := w1.2) rfl ?_
    obtain ⟨w2, hw2, hr⟩ := ob_some hr
    refine go_cv mm_268 (h := 140) (As := []) (rest := []) (nl := 2) rfl rfl (show cvOK 268 10 332 267 0 2 11 = true by decide +kernel) rfl rfl rfl (S_267 hw2) (KP_V ?_)
    show Go XM (d + 9) 268 0 13 [some (.ref 140)] [] w2.2 (RV (vI r.1) r.2)
    refine go_run mm_268 2 (pc' := 17) (ls' := [some (.ref 140)]) (st' := [.int (w2.2.1 140 36)]) (S' := w2.2) rfl ?_
    cases hr
    exact go_ireturn mm_268 rfl rfl ⟨rfl, rfl, rfl⟩

noncomputable def F_269 (v1 : Int32) (S : ST) : Option (Int32 × ST) := ob (F_184 S) (fun w1 => if w1.1 = true then (some (0, w1.2)) else (ob (F_267 w1.2) (fun w2 => ob (F_183 (!(F_182 v1 0 ((w2.2.1 140 36) - 1))) 2 w2.2) (fun w3 => if w3.1 = true then (some (0, w3.2)) else (ck (ibd v1 4) (some (w3.2.1 160 (Int32.toNatClampNeg v1), w3.2)))))))
set_option maxRecDepth 20000 in
theorem S_269 {d : Nat} {S : ST} {v1 : Int32} {r} (hr : F_269 v1 S = some r) : Cal XM (d + 9) 269 [.ref 140, .int v1] S (RV (vI r.1) r.2) := by
  unfold F_269 at hr
  refine cal_go 0 rfl ?_
  refine go_run mm_269 1 (pc' := 1) (ls' := [some (.ref 140), some (.int v1)]) (st' := [.ref 140]) (S' := S) rfl ?_
  obtain ⟨w1, hw1, hr⟩ := ob_some hr
  refine go_cv mm_269 (h := 140) (As := []) (rest := []) (nl := 1) rfl rfl (show cvOK 269 1 247 184 0 1 11 = true by decide +kernel) rfl rfl rfl (S_184 hw1) (KP_V ?_)
  show Go XM (d + 9) 269 0 4 [some (.ref 140), some (.int v1)] [.int (b2i w1.1)] w1.2 (RV (vI r.1) r.2)
  refine go_ifb mm_269 rfl (p1 := 7) (p2 := 9) rfl (fun (hc1 : w1.1 = true) => ?_) (fun (hc1 : w1.1 = false) => ?_)
  · rw [if_pos hc1] at hr
    refine go_run mm_269 1 (pc' := 8) (ls' := [some (.ref 140), some (.int v1)]) (st' := [.int 0]) (S' := w1.2) rfl ?_
    cases hr
    exact go_ireturn mm_269 rfl rfl ⟨rfl, rfl, rfl⟩
  · rw [if_neg (bf hc1)] at hr
    refine go_run mm_269 1 (pc' := 10) (ls' := [some (.ref 140), some (.int v1)]) (st' := [.ref 140]) (S' := w1.2) rfl ?_
    obtain ⟨w2, hw2, hr⟩ := ob_some hr
    refine go_cv mm_269 (h := 140) (As := []) (rest := []) (nl := 2) rfl rfl (show cvOK 269 10 332 267 0 2 11 = true by decide +kernel) rfl rfl rfl (S_267 hw2) (KP_V ?_)
    show Go XM (d + 9) 269 0 13 [some (.ref 140), some (.int v1)] [] w2.2 (RV (vI r.1) r.2)
    refine go_run mm_269 7 (pc' := 22) (ls' := [some (.ref 140), some (.int v1)]) (st' := [.int ((w2.2.1 140 36) - 1), .int 0, .int v1, .ref 140]) (S' := w2.2) rfl ?_
    refine go_cs mm_269 (av := [.int v1, .int 0, .int ((w2.2.1 140 36) - 1)]) (rest := [.ref 140]) (nl := 3) rfl (show csOK 269 22 148 182 3 3 = true by decide +kernel) rfl rfl rfl (S_182 rfl) (KP_V ?_)
    show Go XM (d + 9) 269 0 25 [some (.ref 140), some (.int v1)] [.int (b2i (F_182 v1 0 ((w2.2.1 140 36) - 1))), .ref 140] w2.2 (RV (vI r.1) r.2)
    have j5 : Go XM (d + 9) 269 0 33 [some (.ref 140), some (.int v1)] [.int (b2i (!(F_182 v1 0 ((w2.2.1 140 36) - 1)))), .ref 140] w2.2 (RV (vI r.1) r.2) := by
      refine go_run mm_269 1 (pc' := 34) (ls' := [some (.ref 140), some (.int v1)]) (st' := [.int 2, .int (b2i (!(F_182 v1 0 ((w2.2.1 140 36) - 1)))), .ref 140]) (S' := w2.2) rfl ?_
      obtain ⟨w3, hw3, hr⟩ := ob_some hr
      refine go_cv mm_269 (h := 140) (As := [.int (b2i (!(F_182 v1 0 ((w2.2.1 140 36) - 1)))), .int 2]) (rest := []) (nl := 3) rfl rfl (show cvOK 269 34 86 183 2 3 11 = true by decide +kernel) rfl rfl rfl (S_183 hw3) (KP_V ?_)
      show Go XM (d + 9) 269 0 37 [some (.ref 140), some (.int v1)] [.int (b2i w3.1)] w3.2 (RV (vI r.1) r.2)
      refine go_ifb mm_269 rfl (p1 := 40) (p2 := 44) rfl (fun (hc3 : w3.1 = true) => ?_) (fun (hc3 : w3.1 = false) => ?_)
      · rw [if_pos hc3] at hr
        refine go_run mm_269 2 (pc' := 50) (ls' := [some (.ref 140), some (.int v1)]) (st' := [.int 0]) (S' := w3.2) rfl ?_
        cases hr
        exact go_ireturn mm_269 rfl rfl ⟨rfl, rfl, rfl⟩
      · rw [if_neg (bf hc3)] at hr
        refine go_run mm_269 3 (pc' := 49) (ls' := [some (.ref 140), some (.int v1)]) (st' := [.int v1, .ref 160]) (S' := w3.2) rfl ?_
        obtain ⟨hb4, hr⟩ := ck_some hr
        refine go_iaload mm_269 (q := (Int32.toNatClampNeg v1)) rfl rfl rfl (ibd_ok hb4) ?_
        show Go XM (d + 9) 269 0 50 [some (.ref 140), some (.int v1)] [.int (w3.2.1 160 (Int32.toNatClampNeg v1))] w3.2 (RV (vI r.1) r.2)
        cases hr
        exact go_ireturn mm_269 rfl rfl ⟨rfl, rfl, rfl⟩
    refine go_ifb mm_269 rfl (p1 := 32) (p2 := 28) rfl (fun (hc2 : (F_182 v1 0 ((w2.2.1 140 36) - 1)) = true) => ?_) (fun (hc2 : (F_182 v1 0 ((w2.2.1 140 36) - 1)) = false) => ?_)
    · refine go_run mm_269 1 (pc' := 33) (ls' := [some (.ref 140), some (.int v1)]) (st' := [.int 0, .ref 140]) (S' := w2.2) rfl ?_
      have e : ((b2i (!(F_182 v1 0 ((w2.2.1 140 36) - 1)))) : Int32) = 0 := by simp [b2i, hc2]
      rw [e] at j5
      exact j5
    · refine go_run mm_269 2 (pc' := 33) (ls' := [some (.ref 140), some (.int v1)]) (st' := [.int 1, .ref 140]) (S' := w2.2) rfl ?_
      have e : ((b2i (!(F_182 v1 0 ((w2.2.1 140 36) - 1)))) : Int32) = 1 := by simp [b2i, hc2]
      rw [e] at j5
      exact j5

noncomputable def F_270 (v0 : Int64) : Option Int32 := ck (chB (¬ v0 = 0)) (some (f_270 v0))
theorem S_270 {d : Nat} {S : ST} {v0 : Int64} {r} (hr : F_270 v0 = some r) : Cal XM (d + 1) 270 [.long v0] S (RV (vI r) S) := by
  unfold F_270 at hr
  obtain ⟨q, hr⟩ := ck_some hr
  have q := chB_t.mp q
  cases hr
  exact sq_270 q

noncomputable def Lm_271_16 (v1 : Int64) (p16_3 : Int32) (S : ST) (a16 : Int64 × Int64) : Option ((Int64 × Int64) ⊕ (Int64 × Int64)) := if a16.2 = 0 then (some (.inr (a16.1, a16.2))) else (ob (F_270 a16.2) (fun w1 => ck (ibd w1 64) (some (.inl (a16.1 &&& ((1 <<< (Int32.toInt64 w1 &&& 63)) ^^^ (-1)), a16.2 &&& ((S.2 153 (Int32.toNatClampNeg w1)) &&& ((1 <<< (Int32.toInt64 w1 &&& 63)) ^^^ (-1))))))))
set_option maxRecDepth 20000 in
theorem LSm_271_16 {d : Nat} {R : RT} {S : ST} {v1 : Int64} {p16_3 : Int32} {a16 : Int64 × Int64} {r9} (hr : Lm_271_16 v1 p16_3 S a16 = some r9) (hL : ∀ a9, r9 = .inl a9 → (fun a16 => Go XM (d + 2) 271 0 16 [some (.ref 140), some (.long v1), none, some (.int p16_3), some (.long a16.1), none, some (.long a16.2), none, none] [] S R) a9) (hR : ∀ b9, r9 = .inr b9 → (fun e16 => Go XM (d + 2) 271 0 67 [some (.ref 140), some (.long v1), none, some (.int p16_3), some (.long e16.1), none, some (.long e16.2), none, none] [] S R) b9) : Go XM (d + 2) 271 0 16 [some (.ref 140), some (.long v1), none, some (.int p16_3), some (.long a16.1), none, some (.long a16.2), none, none] [] S R := by
  unfold Lm_271_16 at hr
  refine go_run mm_271 2 (pc' := 19) (ls' := [some (.ref 140), some (.long v1), none, some (.int p16_3), some (.long a16.1), none, some (.long a16.2), none, none]) (st' := [.long 0, .long a16.2]) (S' := S) rfl ?_
  refine go_lif mm_271 rfl rfl (p1 := 67) (p2 := 23) rfl (fun (hc2 : a16.2 = 0) => ?_) (fun (hc2 : ¬ a16.2 = 0) => ?_)
  · rw [if_pos hc2] at hr
    cases hr
    have h9 := hR (a16.1, a16.2) rfl
    dsimp only [Sum.elim_inl] at h9
    exact Go.le h9 (by repeat first | exact True.intro | refine And.intro rfl ?_)
  · rw [if_neg hc2] at hr
    refine go_run mm_271 1 (pc' := 25) (ls' := [some (.ref 140), some (.long v1), none, some (.int p16_3), some (.long a16.1), none, some (.long a16.2), none, none]) (st' := [.long a16.2]) (S' := S) rfl ?_
    obtain ⟨w1, hw1, hr⟩ := ob_some hr
    refine go_cs mm_271 (av := [.long a16.2]) (rest := []) (nl := 3) rfl (show csOK 271 25 334 270 1 3 = true by decide +kernel) rfl rfl rfl (S_270 hw1) (KP_V ?_)
    show Go XM (d + 2) 271 0 28 [some (.ref 140), some (.long v1), none, some (.int p16_3), some (.long a16.1), none, some (.long a16.2), none, none] [.int w1] S R
    refine go_run mm_271 13 (pc' := 51) (ls' := [some (.ref 140), some (.long v1), none, some (.int p16_3), some (.long (a16.1 &&& ((1 <<< (Int32.toInt64 w1 &&& 63)) ^^^ (-1)))), none, some (.long a16.2), none, some (.int w1)]) (st' := [.int w1, .ref 153, .long a16.2]) (S' := S) rfl ?_
    obtain ⟨hb3, hr⟩ := ck_some hr
    refine go_laload mm_271 (q := (Int32.toNatClampNeg w1)) rfl rfl rfl (ibd_ok hb3) ?_
    show Go XM (d + 2) 271 0 52 [some (.ref 140), some (.long v1), none, some (.int p16_3), some (.long (a16.1 &&& ((1 <<< (Int32.toInt64 w1 &&& 63)) ^^^ (-1)))), none, some (.long a16.2), none, some (.int w1)] [.long (S.2 153 (Int32.toNatClampNeg w1)), .long a16.2] S R
    refine go_run mm_271 9 (pc' := 16) (ls' := [some (.ref 140), some (.long v1), none, some (.int p16_3), some (.long (a16.1 &&& ((1 <<< (Int32.toInt64 w1 &&& 63)) ^^^ (-1)))), none, some (.long (a16.2 &&& ((S.2 153 (Int32.toNatClampNeg w1)) &&& ((1 <<< (Int32.toInt64 w1 &&& 63)) ^^^ (-1))))), none, some (.int w1)]) (st' := []) (S' := S) rfl ?_
    cases hr
    have h9 := hL (a16.1 &&& ((1 <<< (Int32.toInt64 w1 &&& 63)) ^^^ (-1)), a16.2 &&& ((S.2 153 (Int32.toNatClampNeg w1)) &&& ((1 <<< (Int32.toInt64 w1 &&& 63)) ^^^ (-1)))) rfl
    dsimp only at h9
    exact Go.le h9 (by repeat first | exact True.intro | refine And.intro rfl ?_)
noncomputable def Lm_271_5 (v1 : Int64) (S : ST) (a5 : Int32 × Int64) : Option ((Int32 × Int64) ⊕ (Int32 × Int64)) := if a5.2 = 0 then (some (.inr (a5.1, a5.2))) else (ob (wh FU (Lm_271_16 v1 a5.1 S) (a5.2, a5.2)) (fun e16 => some (.inl (a5.1 + 1, e16.1))))
set_option maxRecDepth 20000 in
theorem LSm_271_5 {d : Nat} {R : RT} {S : ST} {v1 : Int64} {a5 : Int32 × Int64} {r9} (hr : Lm_271_5 v1 S a5 = some r9) (hL : ∀ a9, r9 = .inl a9 → (fun a5 => Go XM (d + 2) 271 0 5 [some (.ref 140), some (.long v1), none, some (.int a5.1), some (.long a5.2), none, none, none, none] [] S R) a9) (hR : ∀ b9, r9 = .inr b9 → (fun e5 => Go XM (d + 2) 271 0 73 [some (.ref 140), some (.long v1), none, some (.int e5.1), some (.long e5.2), none, none, none, none] [] S R) b9) : Go XM (d + 2) 271 0 5 [some (.ref 140), some (.long v1), none, some (.int a5.1), some (.long a5.2), none, none, none, none] [] S R := by
  unfold Lm_271_5 at hr
  refine go_run mm_271 2 (pc' := 8) (ls' := [some (.ref 140), some (.long v1), none, some (.int a5.1), some (.long a5.2), none, none, none, none]) (st' := [.long 0, .long a5.2]) (S' := S) rfl ?_
  refine go_lif mm_271 rfl rfl (p1 := 73) (p2 := 12) rfl (fun (hc1 : a5.2 = 0) => ?_) (fun (hc1 : ¬ a5.2 = 0) => ?_)
  · rw [if_pos hc1] at hr
    cases hr
    have h9 := hR (a5.1, a5.2) rfl
    dsimp only [Sum.elim_inl] at h9
    exact Go.le h9 (by repeat first | exact True.intro | refine And.intro rfl ?_)
  · rw [if_neg hc1] at hr
    refine go_run mm_271 2 (pc' := 16) (ls' := [some (.ref 140), some (.long v1), none, some (.int a5.1), some (.long a5.2), none, some (.long a5.2), none, none]) (st' := []) (S' := S) rfl ?_
    obtain ⟨z16, he16, hr⟩ := ob_some hr
    refine Go.le (ls' := [some (.ref 140), some (.long v1), none, some (.int a5.1), some (.long a5.2), none, some (.long a5.2), none, none]) ?_ (by repeat first | exact True.intro | refine And.intro rfl ?_)
    refine wh_go (P := fun a16 => Go XM (d + 2) 271 0 16 [some (.ref 140), some (.long v1), none, some (.int a5.1), some (.long a16.1), none, some (.long a16.2), none, none] [] S R) (K := fun e16 => Go XM (d + 2) 271 0 67 [some (.ref 140), some (.long v1), none, some (.int a5.1), some (.long e16.1), none, some (.long e16.2), none, none] [] S R) (fun a9 r9 h9 hL hR => LSm_271_16 h9 hL hR) _ _ _ he16 ?_
    generalize z16 = e16 at hr
    show Go XM (d + 2) 271 0 67 [some (.ref 140), some (.long v1), none, some (.int a5.1), some (.long e16.1), none, some (.long e16.2), none, none] [] S R
    refine go_run mm_271 2 (pc' := 5) (ls' := [some (.ref 140), some (.long v1), none, some (.int (a5.1 + 1)), some (.long e16.1), none, some (.long e16.2), none, none]) (st' := []) (S' := S) rfl ?_
    cases hr
    have h9 := hL (a5.1 + 1, e16.1) rfl
    dsimp only at h9
    exact Go.le h9 (by repeat first | exact True.intro | refine And.intro rfl ?_)
noncomputable def F_271 (v1 : Int64) (S : ST) : Option Int32 := ob (wh FU (Lm_271_5 v1 S) (0, v1)) (fun e5 => some e5.1)
set_option maxRecDepth 20000 in
theorem S_271 {d : Nat} {S : ST} {v1 : Int64} {r} (hr : F_271 v1 S = some r) : Cal XM (d + 2) 271 [.ref 140, .long v1] S (RV (vI r) S) := by
  unfold F_271 at hr
  refine cal_go 6 rfl ?_
  refine go_run mm_271 4 (pc' := 5) (ls' := [some (.ref 140), some (.long v1), none, some (.int 0), some (.long v1), none, none, none, none]) (st' := []) (S' := S) rfl ?_
  obtain ⟨z5, he5, hr⟩ := ob_some hr
  refine Go.le (ls' := [some (.ref 140), some (.long v1), none, some (.int 0), some (.long v1), none, none, none, none]) ?_ (by repeat first | exact True.intro | refine And.intro rfl ?_)
  refine wh_go (P := fun a5 => Go XM (d + 2) 271 0 5 [some (.ref 140), some (.long v1), none, some (.int a5.1), some (.long a5.2), none, none, none, none] [] S (RV (vI r) S)) (K := fun e5 => Go XM (d + 2) 271 0 73 [some (.ref 140), some (.long v1), none, some (.int e5.1), some (.long e5.2), none, none, none, none] [] S (RV (vI r) S)) (fun a9 r9 h9 hL hR => LSm_271_5 h9 hL hR) _ _ _ he5 ?_
  generalize z5 = e5 at hr
  show Go XM (d + 2) 271 0 73 [some (.ref 140), some (.long v1), none, some (.int e5.1), some (.long e5.2), none, none, none, none] [] S (RV (vI r) S)
  refine go_run mm_271 1 (pc' := 74) (ls' := [some (.ref 140), some (.long v1), none, some (.int e5.1), some (.long e5.2), none, none, none, none]) (st' := [.int e5.1]) (S' := S) rfl ?_
  cases hr
  exact go_ireturn mm_271 rfl rfl ⟨rfl, rfl, rfl⟩

noncomputable def Lm_272_23 (rec : Int64 → Int32 → ST → Option (Unit × ST)) (v1 : Int64) (v3 : Int32) (a23 : Int64 × ST) : Option ((Int64 × ST) ⊕ (Int64 × ST)) := if a23.1 = 0 then (some (.inr (a23.1, a23.2))) else (ob (F_271 a23.1 a23.2) (fun w1 => if (a23.2.1 140 38) < (v3 + w1) then (ob (F_270 a23.1) (fun w2 => ck (ibd w2 64) (ob (rec ((a23.1 &&& ((1 <<< (Int32.toInt64 w2 &&& 63)) ^^^ (-1))) &&& ((a23.2.2 153 (Int32.toNatClampNeg w2)) ^^^ (-1))) (v3 + 1) a23.2) (fun w3 => some (.inl (a23.1 &&& ((1 <<< (Int32.toInt64 w2 &&& 63)) ^^^ (-1)), w3.2)))))) else (some (.inr (a23.1, a23.2)))))
set_option maxRecDepth 20000 in
theorem LSm_272_23 {d : Nat} {R : RT} {rec : Int64 → Int32 → ST → Option (Unit × ST)} {v1 : Int64} {v3 : Int32} {a23 : Int64 × ST} {r9} (hrec : ∀ {v1 : Int64} {v3 : Int32} {S : ST} {r}, rec v1 v3 S = some r → Cal XM (d + 2) 272 [.ref 140, .long v1, .int v3] S (RV (vU r.1) r.2)) (hr : Lm_272_23 rec v1 v3 a23 = some r9) (hL : ∀ a9, r9 = .inl a9 → (fun a23 => Go XM (d + 3) 272 0 23 [some (.ref 140), some (.long v1), none, some (.int v3), some (.long a23.1), none, none] [] a23.2 R) a9) (hR : ∀ b9, r9 = .inr b9 → (fun e23 => Go XM (d + 3) 272 0 89 [some (.ref 140), some (.long v1), none, some (.int v3), some (.long e23.1), none, none] [] e23.2 R) b9) : Go XM (d + 3) 272 0 23 [some (.ref 140), some (.long v1), none, some (.int v3), some (.long a23.1), none, none] [] a23.2 R := by
  unfold Lm_272_23 at hr
  refine go_run mm_272 2 (pc' := 26) (ls' := [some (.ref 140), some (.long v1), none, some (.int v3), some (.long a23.1), none, none]) (st' := [.long 0, .long a23.1]) (S' := a23.2) rfl ?_
  refine go_lif mm_272 rfl rfl (p1 := 89) (p2 := 30) rfl (fun (hc2 : a23.1 = 0) => ?_) (fun (hc2 : ¬ a23.1 = 0) => ?_)
  · rw [if_pos hc2] at hr
    cases hr
    have h9 := hR (a23.1, a23.2) rfl
    dsimp only [Sum.elim_inl] at h9
    exact Go.le h9 (by repeat first | exact True.intro | refine And.intro rfl ?_)
  · rw [if_neg hc2] at hr
    refine go_run mm_272 3 (pc' := 34) (ls' := [some (.ref 140), some (.long v1), none, some (.int v3), some (.long a23.1), none, none]) (st' := [.long a23.1, .ref 140, .int v3]) (S' := a23.2) rfl ?_
    obtain ⟨w1, hw1, hr⟩ := ob_some hr
    refine go_cv mm_272 (h := 140) (As := [.long a23.1]) (rest := [.int v3]) (nl := 9) rfl rfl (show cvOK 272 34 340 271 1 9 11 = true by decide +kernel) rfl rfl rfl (S_271 hw1) (KP_V ?_)
    show Go XM (d + 3) 272 0 37 [some (.ref 140), some (.long v1), none, some (.int v3), some (.long a23.1), none, none] [.int w1, .int v3] a23.2 R
    refine go_run mm_272 3 (pc' := 42) (ls' := [some (.ref 140), some (.long v1), none, some (.int v3), some (.long a23.1), none, none]) (st' := [.int (a23.2.1 140 38), .int (v3 + w1)]) (S' := a23.2) rfl ?_
    refine go_if2 mm_272 rfl (p1 := 45) (p2 := 89) rfl (fun (hc3 : (a23.2.1 140 38) < (v3 + w1)) => ?_) (fun (hc3 : ¬ (a23.2.1 140 38) < (v3 + w1)) => ?_)
    · rw [if_pos hc3] at hr
      refine go_run mm_272 1 (pc' := 47) (ls' := [some (.ref 140), some (.long v1), none, some (.int v3), some (.long a23.1), none, none]) (st' := [.long a23.1]) (S' := a23.2) rfl ?_
      obtain ⟨w2, hw2, hr⟩ := ob_some hr
      refine go_cs mm_272 (av := [.long a23.1]) (rest := []) (nl := 3) rfl (show csOK 272 47 334 270 1 3 = true by decide +kernel) rfl rfl rfl (S_270 hw2) (KP_V ?_)
      show Go XM (d + 3) 272 0 50 [some (.ref 140), some (.long v1), none, some (.int v3), some (.long a23.1), none, none] [.int w2] a23.2 R
      refine go_run mm_272 14 (pc' := 74) (ls' := [some (.ref 140), some (.long v1), none, some (.int v3), some (.long (a23.1 &&& ((1 <<< (Int32.toInt64 w2 &&& 63)) ^^^ (-1)))), none, some (.int w2)]) (st' := [.int w2, .ref 153, .long (a23.1 &&& ((1 <<< (Int32.toInt64 w2 &&& 63)) ^^^ (-1))), .ref 140]) (S' := a23.2) rfl ?_
      obtain ⟨hb4, hr⟩ := ck_some hr
      refine go_laload mm_272 (q := (Int32.toNatClampNeg w2)) rfl rfl rfl (ibd_ok hb4) ?_
      show Go XM (d + 3) 272 0 75 [some (.ref 140), some (.long v1), none, some (.int v3), some (.long (a23.1 &&& ((1 <<< (Int32.toInt64 w2 &&& 63)) ^^^ (-1)))), none, some (.int w2)] [.long (a23.2.2 153 (Int32.toNatClampNeg w2)), .long (a23.1 &&& ((1 <<< (Int32.toInt64 w2 &&& 63)) ^^^ (-1))), .ref 140] a23.2 R
      refine go_run mm_272 6 (pc' := 83) (ls' := [some (.ref 140), some (.long v1), none, some (.int v3), some (.long (a23.1 &&& ((1 <<< (Int32.toInt64 w2 &&& 63)) ^^^ (-1)))), none, some (.int w2)]) (st' := [.int (v3 + 1), .long ((a23.1 &&& ((1 <<< (Int32.toInt64 w2 &&& 63)) ^^^ (-1))) &&& ((a23.2.2 153 (Int32.toNatClampNeg w2)) ^^^ (-1))), .ref 140]) (S' := a23.2) rfl ?_
      obtain ⟨w3, hw3, hr⟩ := ob_some hr
      refine go_cv mm_272 (h := 140) (As := [.long ((a23.1 &&& ((1 <<< (Int32.toInt64 w2 &&& 63)) ^^^ (-1))) &&& ((a23.2.2 153 (Int32.toNatClampNeg w2)) ^^^ (-1))), .int (v3 + 1)]) (rest := []) (nl := 7) rfl rfl (show cvOK 272 83 343 272 2 7 11 = true by decide +kernel) rfl rfl rfl (Cal.up (hrec hw3) (Nat.le_refl _)) (KP_V ?_)
      show Go XM (d + 3) 272 0 86 [some (.ref 140), some (.long v1), none, some (.int v3), some (.long (a23.1 &&& ((1 <<< (Int32.toInt64 w2 &&& 63)) ^^^ (-1)))), none, some (.int w2)] [] w3.2 R
      refine go_run mm_272 1 (pc' := 23) (ls' := [some (.ref 140), some (.long v1), none, some (.int v3), some (.long (a23.1 &&& ((1 <<< (Int32.toInt64 w2 &&& 63)) ^^^ (-1)))), none, some (.int w2)]) (st' := []) (S' := w3.2) rfl ?_
      cases hr
      have h9 := hL (a23.1 &&& ((1 <<< (Int32.toInt64 w2 &&& 63)) ^^^ (-1)), w3.2) rfl
      dsimp only at h9
      exact Go.le h9 (by repeat first | exact True.intro | refine And.intro rfl ?_)
    · rw [if_neg hc3] at hr
      cases hr
      have h9 := hR (a23.1, a23.2) rfl
      dsimp only [Sum.elim_inl] at h9
      exact Go.le h9 (by repeat first | exact True.intro | refine And.intro rfl ?_)
noncomputable def B_272 (rec : Int64 → Int32 → ST → Option (Unit × ST)) (v1 : Int64) (v3 : Int32) (S : ST) : Option (Unit × ST) := ob (wh FU (Lm_272_23 rec v1 v3) (v1, (wI S 140 38 (if (S.1 140 38) < v3 then v3 else S.1 140 38)))) (fun e23 => some ((), e23.2))
noncomputable def F_272 : Nat → Int64 → Int32 → ST → Option (Unit × ST)
  | 0, _, _ => fun _ => none
  | n + 1, v1, v3 => fun S => B_272 (F_272 n) v1 v3 S
set_option maxRecDepth 20000 in
theorem S_272 : ∀ (n : Nat) {d : Nat} {v1 : Int64} {v3 : Int32} {S : ST} {r} (_ : F_272 n v1 v3 S = some r), Cal XM (d + n + 3) 272 [.ref 140, .long v1, .int v3] S (RV (vU r.1) r.2) := by
  intro n
  induction n with
  | zero => intro d v1 v3 S r hr; cases hr
  | succ n ih =>
    intro d v1 v3 S r hr
    have hr : B_272 (F_272 n) v1 v3 S = some r := hr
    unfold B_272 at hr
    have hrec : ∀ {v1 : Int64} {v3 : Int32} {S : ST} {r}, F_272 n v1 v3 S = some r → Cal XM (d + (n + 1) + 2) 272 [.ref 140, .long v1, .int v3] S (RV (vU r.1) r.2) := fun h => Cal.up (ih (d := d) h) (Nat.le_of_eq (by omega))
    refine cal_go 3 rfl ?_
    refine go_run mm_272 4 (pc' := 6) (ls' := [some (.ref 140), some (.long v1), none, some (.int v3), none, none, none]) (st' := [.int (S.1 140 38), .int v3, .ref 140]) (S' := S) rfl ?_
    have j5 : Go XM (d + (n + 1) + 3) 272 0 17 [some (.ref 140), some (.long v1), none, some (.int v3), none, none, none] [.int (if (S.1 140 38) < v3 then v3 else S.1 140 38), .ref 140] S (RV (vU r.1) r.2) := by
      refine go_run mm_272 3 (pc' := 23) (ls' := [some (.ref 140), some (.long v1), none, some (.int v3), some (.long v1), none, none]) (st' := []) (S' := (wI S 140 38 (if (S.1 140 38) < v3 then v3 else S.1 140 38))) rfl ?_
      obtain ⟨z23, he23, hr⟩ := ob_some hr
      refine Go.le (ls' := [some (.ref 140), some (.long v1), none, some (.int v3), some (.long v1), none, none]) ?_ (by repeat first | exact True.intro | refine And.intro rfl ?_)
      refine wh_go (P := fun a23 => Go XM (d + (n + 1) + 3) 272 0 23 [some (.ref 140), some (.long v1), none, some (.int v3), some (.long a23.1), none, none] [] a23.2 (RV (vU r.1) r.2)) (K := fun e23 => Go XM (d + (n + 1) + 3) 272 0 89 [some (.ref 140), some (.long v1), none, some (.int v3), some (.long e23.1), none, none] [] e23.2 (RV (vU r.1) r.2)) (fun a9 r9 h9 hL hR => LSm_272_23 hrec h9 hL hR) _ _ _ he23 ?_
      generalize z23 = e23 at hr
      show Go XM (d + (n + 1) + 3) 272 0 89 [some (.ref 140), some (.long v1), none, some (.int v3), some (.long e23.1), none, none] [] e23.2 (RV (vU r.1) r.2)
      cases hr
      exact go_vreturn mm_272 rfl rfl ⟨rfl, rfl, rfl⟩
    refine go_if2 mm_272 rfl (p1 := 9) (p2 := 13) rfl (fun (hc1 : (S.1 140 38) < v3) => ?_) (fun (hc1 : ¬ (S.1 140 38) < v3) => ?_)
    · refine go_run mm_272 2 (pc' := 17) (ls' := [some (.ref 140), some (.long v1), none, some (.int v3), none, none, none]) (st' := [.int v3, .ref 140]) (S' := S) rfl ?_
      have e : ((if (S.1 140 38) < v3 then v3 else S.1 140 38) : Int32) = v3 := by simp [b2i, hc1]
      rw [e] at j5
      exact j5
    · refine go_run mm_272 2 (pc' := 17) (ls' := [some (.ref 140), some (.long v1), none, some (.int v3), none, none, none]) (st' := [.int (S.1 140 38), .ref 140]) (S' := S) rfl ?_
      have e : ((if (S.1 140 38) < v3 then v3 else S.1 140 38) : Int32) = S.1 140 38 := by simp [b2i, hc1]
      rw [e] at j5
      exact j5

noncomputable def F_273 (S : ST) : Option (Int32 × ST) := ob (F_184 S) (fun w1 => if w1.1 = true then (some (0, w1.2)) else (ob (F_239 w1.2) (fun w2 => ob (F_272 66 (F_216 (wI w2.2 140 38 0)) 0 (wI w2.2 140 38 0)) (fun w3 => some (w3.2.1 140 38, w3.2)))))
set_option maxRecDepth 20000 in
theorem S_273 {d : Nat} {S : ST} {r} (hr : F_273 S = some r) : Cal XM (d + 70) 273 [.ref 140] S (RV (vI r.1) r.2) := by
  unfold F_273 at hr
  refine cal_go 0 rfl ?_
  refine go_run mm_273 1 (pc' := 1) (ls' := [some (.ref 140)]) (st' := [.ref 140]) (S' := S) rfl ?_
  obtain ⟨w1, hw1, hr⟩ := ob_some hr
  refine go_cv mm_273 (h := 140) (As := []) (rest := []) (nl := 1) rfl rfl (show cvOK 273 1 247 184 0 1 11 = true by decide +kernel) rfl rfl rfl (S_184 hw1) (KP_V ?_)
  show Go XM (d + 70) 273 0 4 [some (.ref 140)] [.int (b2i w1.1)] w1.2 (RV (vI r.1) r.2)
  refine go_ifb mm_273 rfl (p1 := 7) (p2 := 9) rfl (fun (hc1 : w1.1 = true) => ?_) (fun (hc1 : w1.1 = false) => ?_)
  · rw [if_pos hc1] at hr
    refine go_run mm_273 1 (pc' := 8) (ls' := [some (.ref 140)]) (st' := [.int 0]) (S' := w1.2) rfl ?_
    cases hr
    exact go_ireturn mm_273 rfl rfl ⟨rfl, rfl, rfl⟩
  · rw [if_neg (bf hc1)] at hr
    refine go_run mm_273 1 (pc' := 10) (ls' := [some (.ref 140)]) (st' := [.ref 140]) (S' := w1.2) rfl ?_
    obtain ⟨w2, hw2, hr⟩ := ob_some hr
    refine go_cv mm_273 (h := 140) (As := []) (rest := []) (nl := 3) rfl rfl (show cvOK 273 10 279 239 0 3 11 = true by decide +kernel) rfl rfl rfl (S_239 hw2) (KP_V ?_)
    show Go XM (d + 70) 273 0 13 [some (.ref 140)] [] w2.2 (RV (vI r.1) r.2)
    refine go_run mm_273 5 (pc' := 20) (ls' := [some (.ref 140)]) (st' := [.ref 140, .ref 140]) (S' := (wI w2.2 140 38 0)) rfl ?_
    refine go_cv mm_273 (h := 140) (As := []) (rest := [.ref 140]) (nl := 1) rfl rfl (show cvOK 273 20 286 216 0 1 11 = true by decide +kernel) rfl rfl rfl (S_216 rfl) (KP_V ?_)
    show Go XM (d + 70) 273 0 23 [some (.ref 140)] [.long (F_216 (wI w2.2 140 38 0)), .ref 140] (wI w2.2 140 38 0) (RV (vI r.1) r.2)
    refine go_run mm_273 1 (pc' := 24) (ls' := [some (.ref 140)]) (st' := [.int 0, .long (F_216 (wI w2.2 140 38 0)), .ref 140]) (S' := (wI w2.2 140 38 0)) rfl ?_
    obtain ⟨w3, hw3, hr⟩ := ob_some hr
    refine go_cv mm_273 (h := 140) (As := [.long (F_216 (wI w2.2 140 38 0)), .int 0]) (rest := []) (nl := 7) rfl rfl (show cvOK 273 24 343 272 2 7 11 = true by decide +kernel) rfl rfl rfl (S_272 _ hw3) (KP_V ?_)
    show Go XM (d + 70) 273 0 27 [some (.ref 140)] [] w3.2 (RV (vI r.1) r.2)
    refine go_run mm_273 2 (pc' := 31) (ls' := [some (.ref 140)]) (st' := [.int (w3.2.1 140 38)]) (S' := w3.2) rfl ?_
    cases hr
    exact go_ireturn mm_273 rfl rfl ⟨rfl, rfl, rfl⟩

noncomputable def F_274 (v1 : Int32) (v2 : Int32) (S : ST) : Option Int32 := ck (ibd ((27 + (3 * v1)) + v2) 63) (some (S.1 141 (Int32.toNatClampNeg ((27 + (3 * v1)) + v2))))
set_option maxRecDepth 20000 in
theorem S_274 {d : Nat} {S : ST} {v1 : Int32} {v2 : Int32} {r} (hr : F_274 v1 v2 S = some r) : Cal XM d 274 [.ref 140, .int v1, .int v2] S (RV (vI r) S) := by
  unfold F_274 at hr
  refine cal_go 0 rfl ?_
  refine go_run mm_274 9 (pc' := 12) (ls' := [some (.ref 140), some (.int v1), some (.int v2)]) (st' := [.int ((27 + (3 * v1)) + v2), .ref 141]) (S' := S) rfl ?_
  obtain ⟨hb1, hr⟩ := ck_some hr
  refine go_iaload mm_274 (q := (Int32.toNatClampNeg ((27 + (3 * v1)) + v2))) rfl rfl rfl (ibd_ok hb1) ?_
  show Go XM d 274 0 13 [some (.ref 140), some (.int v1), some (.int v2)] [.int (S.1 141 (Int32.toNatClampNeg ((27 + (3 * v1)) + v2)))] S (RV (vI r) S)
  cases hr
  exact go_ireturn mm_274 rfl rfl ⟨rfl, rfl, rfl⟩

noncomputable def F_275 (v1 : Int32) (v2 : Int32) (v3 : Int32) (S : ST) : Option Int64 := ck (chB (Ld S ∧ ge_cl 1 (rL S 141) (Int32.toInt v1, Int32.toInt v2))) (some (f_275 S v1 v2 v3))
theorem S_275 {d : Nat} {S : ST} {v1 : Int32} {v2 : Int32} {v3 : Int32} {r} (hr : F_275 v1 v2 v3 S = some r) : Cal XM (d + 2) 275 [.ref 140, .int v1, .int v2, .int v3] S (RV (vJ r) S) := by
  unfold F_275 at hr
  obtain ⟨q, hr⟩ := ck_some hr
  have q := chB_t.mp q
  cases hr
  exact sq_275 q.1 q.2

noncomputable def F_276 (v1 : Int32) (S : ST) : Option Int64 := ob (F_274 v1 0 S) (fun w1 => ob (F_274 v1 1 S) (fun w2 => ob (F_274 v1 2 S) (fun w3 => ob (F_275 w1 w2 w3 S) (fun w4 => some w4))))
set_option maxRecDepth 20000 in
theorem S_276 {d : Nat} {S : ST} {v1 : Int32} {r} (hr : F_276 v1 S = some r) : Cal XM (d + 3) 276 [.ref 140, .int v1] S (RV (vJ r) S) := by
  unfold F_276 at hr
  refine cal_go 0 rfl ?_
  refine go_run mm_276 4 (pc' := 4) (ls' := [some (.ref 140), some (.int v1)]) (st' := [.int 0, .int v1, .ref 140, .ref 140]) (S' := S) rfl ?_
  obtain ⟨w1, hw1, hr⟩ := ob_some hr
  refine go_cv mm_276 (h := 140) (As := [.int v1, .int 0]) (rest := [.ref 140]) (nl := 3) rfl rfl (show cvOK 276 4 347 274 2 3 11 = true by decide +kernel) rfl rfl rfl (S_274 hw1) (KP_V ?_)
  show Go XM (d + 3) 276 0 7 [some (.ref 140), some (.int v1)] [.int w1, .ref 140] S (RV (vJ r) S)
  refine go_run mm_276 3 (pc' := 10) (ls' := [some (.ref 140), some (.int v1)]) (st' := [.int 1, .int v1, .ref 140, .int w1, .ref 140]) (S' := S) rfl ?_
  obtain ⟨w2, hw2, hr⟩ := ob_some hr
  refine go_cv mm_276 (h := 140) (As := [.int v1, .int 1]) (rest := [.int w1, .ref 140]) (nl := 3) rfl rfl (show cvOK 276 10 347 274 2 3 11 = true by decide +kernel) rfl rfl rfl (S_274 hw2) (KP_V ?_)
  show Go XM (d + 3) 276 0 13 [some (.ref 140), some (.int v1)] [.int w2, .int w1, .ref 140] S (RV (vJ r) S)
  refine go_run mm_276 3 (pc' := 16) (ls' := [some (.ref 140), some (.int v1)]) (st' := [.int 2, .int v1, .ref 140, .int w2, .int w1, .ref 140]) (S' := S) rfl ?_
  obtain ⟨w3, hw3, hr⟩ := ob_some hr
  refine go_cv mm_276 (h := 140) (As := [.int v1, .int 2]) (rest := [.int w2, .int w1, .ref 140]) (nl := 3) rfl rfl (show cvOK 276 16 347 274 2 3 11 = true by decide +kernel) rfl rfl rfl (S_274 hw3) (KP_V ?_)
  show Go XM (d + 3) 276 0 19 [some (.ref 140), some (.int v1)] [.int w3, .int w2, .int w1, .ref 140] S (RV (vJ r) S)
  obtain ⟨w4, hw4, hr⟩ := ob_some hr
  refine go_cv mm_276 (h := 140) (As := [.int w1, .int w2, .int w3]) (rest := []) (nl := 8) rfl rfl (show cvOK 276 19 349 275 3 8 11 = true by decide +kernel) rfl rfl rfl (S_275 hw4) (KP_V ?_)
  show Go XM (d + 3) 276 0 22 [some (.ref 140), some (.int v1)] [.long w4] S (RV (vJ r) S)
  cases hr
  exact go_lreturn mm_276 rfl rfl ⟨rfl, rfl, rfl⟩

noncomputable def Lm_277_9 (v1 : Int32) (S : ST) (a9 : Int64 × Int32) : Option ((Int64 × Int32) ⊕ (Int64 × Int32)) := if a9.2 < (S.1 141 1) then (if a9.2 = v1 then (some (.inl (a9.1 ||| 0, a9.2 + 1))) else (ob (F_276 a9.2 S) (fun w2 => some (.inl (a9.1 ||| w2, a9.2 + 1))))) else (some (.inr (a9.1, a9.2)))
set_option maxRecDepth 20000 in
theorem LSm_277_9 {d : Nat} {R : RT} {S : ST} {v1 : Int32} {a9 : Int64 × Int32} {r9} (hr : Lm_277_9 v1 S a9 = some r9) (hL : ∀ a9, r9 = .inl a9 → (fun a9 => Go XM (d + 7) 277 0 9 [some (.ref 140), some (.int v1), some (.long a9.1), none, some (.int a9.2)] [] S R) a9) (hR : ∀ b9, r9 = .inr b9 → (fun e9 => Go XM (d + 7) 277 0 45 [some (.ref 140), some (.int v1), some (.long e9.1), none, some (.int e9.2)] [] S R) b9) : Go XM (d + 7) 277 0 9 [some (.ref 140), some (.int v1), some (.long a9.1), none, some (.int a9.2)] [] S R := by
  unfold Lm_277_9 at hr
  refine go_run mm_277 4 (pc' := 16) (ls' := [some (.ref 140), some (.int v1), some (.long a9.1), none, some (.int a9.2)]) (st' := [.int 1, .ref 141, .int a9.2]) (S' := S) rfl ?_
  refine go_iaload mm_277 (q := 1) rfl rfl rfl (inB_lit rfl) ?_
  show Go XM (d + 7) 277 0 17 [some (.ref 140), some (.int v1), some (.long a9.1), none, some (.int a9.2)] [.int (S.1 141 1), .int a9.2] S R
  refine go_if2 mm_277 rfl (p1 := 20) (p2 := 45) rfl (fun (hc1 : a9.2 < (S.1 141 1)) => ?_) (fun (hc1 : ¬ a9.2 < (S.1 141 1)) => ?_)
  · rw [if_pos hc1] at hr
    refine go_run mm_277 3 (pc' := 24) (ls' := [some (.ref 140), some (.int v1), some (.long a9.1), none, some (.int a9.2)]) (st' := [.int v1, .int a9.2, .long a9.1]) (S' := S) rfl ?_
    refine go_if2 mm_277 rfl (p1 := 27) (p2 := 31) rfl (fun (hc2 : a9.2 = v1) => ?_) (fun (hc2 : ¬ a9.2 = v1) => ?_)
    · rw [if_pos hc2] at hr
      refine go_run mm_277 6 (pc' := 9) (ls' := [some (.ref 140), some (.int v1), some (.long (a9.1 ||| 0)), none, some (.int (a9.2 + 1))]) (st' := []) (S' := S) rfl ?_
      cases hr
      have h9 := hL (a9.1 ||| 0, a9.2 + 1) rfl
      dsimp only at h9
      exact Go.le h9 (by repeat first | exact True.intro | refine And.intro rfl ?_)
    · rw [if_neg hc2] at hr
      refine go_run mm_277 2 (pc' := 34) (ls' := [some (.ref 140), some (.int v1), some (.long a9.1), none, some (.int a9.2)]) (st' := [.int a9.2, .ref 140, .long a9.1]) (S' := S) rfl ?_
      obtain ⟨w2, hw2, hr⟩ := ob_some hr
      refine go_cv mm_277 (h := 140) (As := [.int a9.2]) (rest := [.long a9.1]) (nl := 2) rfl rfl (show cvOK 277 34 353 276 1 2 11 = true by decide +kernel) rfl rfl rfl (S_276 hw2) (KP_V ?_)
      show Go XM (d + 7) 277 0 37 [some (.ref 140), some (.int v1), some (.long a9.1), none, some (.int a9.2)] [.long w2, .long a9.1] S R
      refine go_run mm_277 4 (pc' := 9) (ls' := [some (.ref 140), some (.int v1), some (.long (a9.1 ||| w2)), none, some (.int (a9.2 + 1))]) (st' := []) (S' := S) rfl ?_
      cases hr
      have h9 := hL (a9.1 ||| w2, a9.2 + 1) rfl
      dsimp only at h9
      exact Go.le h9 (by repeat first | exact True.intro | refine And.intro rfl ?_)
  · rw [if_neg hc1] at hr
    cases hr
    have h9 := hR (a9.1, a9.2) rfl
    dsimp only [Sum.elim_inl] at h9
    exact Go.le h9 (by repeat first | exact True.intro | refine And.intro rfl ?_)
noncomputable def F_277 (v1 : Int32) (S : ST) : Option (Int64 × ST) := ob (F_239 S) (fun w1 => ob (wh FU (Lm_277_9 v1 w1.2) (0, 0)) (fun e9 => some (e9.1, w1.2)))
set_option maxRecDepth 20000 in
theorem S_277 {d : Nat} {S : ST} {v1 : Int32} {r} (hr : F_277 v1 S = some r) : Cal XM (d + 7) 277 [.ref 140, .int v1] S (RV (vJ r.1) r.2) := by
  unfold F_277 at hr
  refine cal_go 3 rfl ?_
  refine go_run mm_277 1 (pc' := 1) (ls' := [some (.ref 140), some (.int v1), none, none, none]) (st' := [.ref 140]) (S' := S) rfl ?_
  obtain ⟨w1, hw1, hr⟩ := ob_some hr
  refine go_cv mm_277 (h := 140) (As := []) (rest := []) (nl := 3) rfl rfl (show cvOK 277 1 279 239 0 3 11 = true by decide +kernel) rfl rfl rfl (S_239 hw1) (KP_V ?_)
  show Go XM (d + 7) 277 0 4 [some (.ref 140), some (.int v1), none, none, none] [] w1.2 (RV (vJ r.1) r.2)
  refine go_run mm_277 4 (pc' := 9) (ls' := [some (.ref 140), some (.int v1), some (.long 0), none, some (.int 0)]) (st' := []) (S' := w1.2) rfl ?_
  obtain ⟨z9, he9, hr⟩ := ob_some hr
  refine Go.le (ls' := [some (.ref 140), some (.int v1), some (.long 0), none, some (.int 0)]) ?_ (by repeat first | exact True.intro | refine And.intro rfl ?_)
  refine wh_go (P := fun a9 => Go XM (d + 7) 277 0 9 [some (.ref 140), some (.int v1), some (.long a9.1), none, some (.int a9.2)] [] w1.2 (RV (vJ r.1) r.2)) (K := fun e9 => Go XM (d + 7) 277 0 45 [some (.ref 140), some (.int v1), some (.long e9.1), none, some (.int e9.2)] [] w1.2 (RV (vJ r.1) r.2)) (fun a9 r9 h9 hL hR => LSm_277_9 h9 hL hR) _ _ _ he9 ?_
  generalize z9 = e9 at hr
  show Go XM (d + 7) 277 0 45 [some (.ref 140), some (.int v1), some (.long e9.1), none, some (.int e9.2)] [] w1.2 (RV (vJ r.1) r.2)
  refine go_run mm_277 1 (pc' := 46) (ls' := [some (.ref 140), some (.int v1), some (.long e9.1), none, some (.int e9.2)]) (st' := [.long e9.1]) (S' := w1.2) rfl ?_
  cases hr
  exact go_lreturn mm_277 rfl rfl ⟨rfl, rfl, rfl⟩

noncomputable def F_278 (v1 : Int32) (S : ST) : Option (Int32 × ST) := ob (F_227 v1 S) (fun w1 => if w1.1 = true then (some (0, w1.2)) else (ob (F_274 v1 0 w1.2) (fun w2 => ob (F_274 v1 1 w1.2) (fun w3 => some ((F_215 w2 w3 w1.2), w1.2)))))
set_option maxRecDepth 20000 in
theorem S_278 {d : Nat} {S : ST} {v1 : Int32} {r} (hr : F_278 v1 S = some r) : Cal XM (d + 3) 278 [.ref 140, .int v1] S (RV (vI r.1) r.2) := by
  unfold F_278 at hr
  refine cal_go 0 rfl ?_
  refine go_run mm_278 2 (pc' := 2) (ls' := [some (.ref 140), some (.int v1)]) (st' := [.int v1, .ref 140]) (S' := S) rfl ?_
  obtain ⟨w1, hw1, hr⟩ := ob_some hr
  refine go_cv mm_278 (h := 140) (As := [.int v1]) (rest := []) (nl := 2) rfl rfl (show cvOK 278 2 356 227 1 2 11 = true by decide +kernel) rfl rfl rfl (S_227 hw1) (KP_V ?_)
  show Go XM (d + 3) 278 0 5 [some (.ref 140), some (.int v1)] [.int (b2i w1.1)] w1.2 (RV (vI r.1) r.2)
  refine go_ifb mm_278 rfl (p1 := 8) (p2 := 12) rfl (fun (hc1 : w1.1 = true) => ?_) (fun (hc1 : w1.1 = false) => ?_)
  · rw [if_pos hc1] at hr
    refine go_run mm_278 2 (pc' := 28) (ls' := [some (.ref 140), some (.int v1)]) (st' := [.int 0]) (S' := w1.2) rfl ?_
    cases hr
    exact go_ireturn mm_278 rfl rfl ⟨rfl, rfl, rfl⟩
  · rw [if_neg (bf hc1)] at hr
    refine go_run mm_278 4 (pc' := 16) (ls' := [some (.ref 140), some (.int v1)]) (st' := [.int 0, .int v1, .ref 140, .ref 140]) (S' := w1.2) rfl ?_
    obtain ⟨w2, hw2, hr⟩ := ob_some hr
    refine go_cv mm_278 (h := 140) (As := [.int v1, .int 0]) (rest := [.ref 140]) (nl := 3) rfl rfl (show cvOK 278 16 347 274 2 3 11 = true by decide +kernel) rfl rfl rfl (S_274 hw2) (KP_V ?_)
    show Go XM (d + 3) 278 0 19 [some (.ref 140), some (.int v1)] [.int w2, .ref 140] w1.2 (RV (vI r.1) r.2)
    refine go_run mm_278 3 (pc' := 22) (ls' := [some (.ref 140), some (.int v1)]) (st' := [.int 1, .int v1, .ref 140, .int w2, .ref 140]) (S' := w1.2) rfl ?_
    obtain ⟨w3, hw3, hr⟩ := ob_some hr
    refine go_cv mm_278 (h := 140) (As := [.int v1, .int 1]) (rest := [.int w2, .ref 140]) (nl := 3) rfl rfl (show cvOK 278 22 347 274 2 3 11 = true by decide +kernel) rfl rfl rfl (S_274 hw3) (KP_V ?_)
    show Go XM (d + 3) 278 0 25 [some (.ref 140), some (.int v1)] [.int w3, .int w2, .ref 140] w1.2 (RV (vI r.1) r.2)
    refine go_cv mm_278 (h := 140) (As := [.int w2, .int w3]) (rest := []) (nl := 3) rfl rfl (show cvOK 278 25 257 215 2 3 11 = true by decide +kernel) rfl rfl rfl (S_215 rfl) (KP_V ?_)
    show Go XM (d + 3) 278 0 28 [some (.ref 140), some (.int v1)] [.int (F_215 w2 w3 w1.2)] w1.2 (RV (vI r.1) r.2)
    cases hr
    exact go_ireturn mm_278 rfl rfl ⟨rfl, rfl, rfl⟩

noncomputable def F_279 (v1 : Int32) (S : ST) : Option (Int32 × ST) := ob (F_227 v1 S) (fun w1 => if w1.1 = true then (some (0, w1.2)) else (ob (F_274 v1 2 w1.2) (fun w2 => some (w2, w1.2))))
set_option maxRecDepth 20000 in
theorem S_279 {d : Nat} {S : ST} {v1 : Int32} {r} (hr : F_279 v1 S = some r) : Cal XM (d + 3) 279 [.ref 140, .int v1] S (RV (vI r.1) r.2) := by
  unfold F_279 at hr
  refine cal_go 0 rfl ?_
  refine go_run mm_279 2 (pc' := 2) (ls' := [some (.ref 140), some (.int v1)]) (st' := [.int v1, .ref 140]) (S' := S) rfl ?_
  obtain ⟨w1, hw1, hr⟩ := ob_some hr
  refine go_cv mm_279 (h := 140) (As := [.int v1]) (rest := []) (nl := 2) rfl rfl (show cvOK 279 2 356 227 1 2 11 = true by decide +kernel) rfl rfl rfl (S_227 hw1) (KP_V ?_)
  show Go XM (d + 3) 279 0 5 [some (.ref 140), some (.int v1)] [.int (b2i w1.1)] w1.2 (RV (vI r.1) r.2)
  refine go_ifb mm_279 rfl (p1 := 8) (p2 := 12) rfl (fun (hc1 : w1.1 = true) => ?_) (fun (hc1 : w1.1 = false) => ?_)
  · rw [if_pos hc1] at hr
    refine go_run mm_279 2 (pc' := 18) (ls' := [some (.ref 140), some (.int v1)]) (st' := [.int 0]) (S' := w1.2) rfl ?_
    cases hr
    exact go_ireturn mm_279 rfl rfl ⟨rfl, rfl, rfl⟩
  · rw [if_neg (bf hc1)] at hr
    refine go_run mm_279 3 (pc' := 15) (ls' := [some (.ref 140), some (.int v1)]) (st' := [.int 2, .int v1, .ref 140]) (S' := w1.2) rfl ?_
    obtain ⟨w2, hw2, hr⟩ := ob_some hr
    refine go_cv mm_279 (h := 140) (As := [.int v1, .int 2]) (rest := []) (nl := 3) rfl rfl (show cvOK 279 15 347 274 2 3 11 = true by decide +kernel) rfl rfl rfl (S_274 hw2) (KP_V ?_)
    show Go XM (d + 3) 279 0 18 [some (.ref 140), some (.int v1)] [.int w2] w1.2 (RV (vI r.1) r.2)
    cases hr
    exact go_ireturn mm_279 rfl rfl ⟨rfl, rfl, rfl⟩

noncomputable def F_280 (v1 : Int32) (S : ST) : Option (Int64 × ST) := ob (F_227 v1 S) (fun w1 => if w1.1 = true then (some (0, w1.2)) else (ob (F_239 w1.2) (fun w2 => ob (F_276 v1 w2.2) (fun w3 => some (w3, w2.2)))))
set_option maxRecDepth 20000 in
theorem S_280 {d : Nat} {S : ST} {v1 : Int32} {r} (hr : F_280 v1 S = some r) : Cal XM (d + 7) 280 [.ref 140, .int v1] S (RV (vJ r.1) r.2) := by
  unfold F_280 at hr
  refine cal_go 0 rfl ?_
  refine go_run mm_280 2 (pc' := 2) (ls' := [some (.ref 140), some (.int v1)]) (st' := [.int v1, .ref 140]) (S' := S) rfl ?_
  obtain ⟨w1, hw1, hr⟩ := ob_some hr
  refine go_cv mm_280 (h := 140) (As := [.int v1]) (rest := []) (nl := 2) rfl rfl (show cvOK 280 2 356 227 1 2 11 = true by decide +kernel) rfl rfl rfl (S_227 hw1) (KP_V ?_)
  show Go XM (d + 7) 280 0 5 [some (.ref 140), some (.int v1)] [.int (b2i w1.1)] w1.2 (RV (vJ r.1) r.2)
  refine go_ifb mm_280 rfl (p1 := 8) (p2 := 10) rfl (fun (hc1 : w1.1 = true) => ?_) (fun (hc1 : w1.1 = false) => ?_)
  · rw [if_pos hc1] at hr
    refine go_run mm_280 1 (pc' := 9) (ls' := [some (.ref 140), some (.int v1)]) (st' := [.long 0]) (S' := w1.2) rfl ?_
    cases hr
    exact go_lreturn mm_280 rfl rfl ⟨rfl, rfl, rfl⟩
  · rw [if_neg (bf hc1)] at hr
    refine go_run mm_280 1 (pc' := 11) (ls' := [some (.ref 140), some (.int v1)]) (st' := [.ref 140]) (S' := w1.2) rfl ?_
    obtain ⟨w2, hw2, hr⟩ := ob_some hr
    refine go_cv mm_280 (h := 140) (As := []) (rest := []) (nl := 3) rfl rfl (show cvOK 280 11 279 239 0 3 11 = true by decide +kernel) rfl rfl rfl (S_239 hw2) (KP_V ?_)
    show Go XM (d + 7) 280 0 14 [some (.ref 140), some (.int v1)] [] w2.2 (RV (vJ r.1) r.2)
    refine go_run mm_280 2 (pc' := 16) (ls' := [some (.ref 140), some (.int v1)]) (st' := [.int v1, .ref 140]) (S' := w2.2) rfl ?_
    obtain ⟨w3, hw3, hr⟩ := ob_some hr
    refine go_cv mm_280 (h := 140) (As := [.int v1]) (rest := []) (nl := 2) rfl rfl (show cvOK 280 16 353 276 1 2 11 = true by decide +kernel) rfl rfl rfl (S_276 hw3) (KP_V ?_)
    show Go XM (d + 7) 280 0 19 [some (.ref 140), some (.int v1)] [.long w3] w2.2 (RV (vJ r.1) r.2)
    cases hr
    exact go_lreturn mm_280 rfl rfl ⟨rfl, rfl, rfl⟩

noncomputable def F_281 (S : ST) : Option (Int64 × ST) := ob (F_184 S) (fun w1 => if w1.1 = true then (some (0, w1.2)) else (ob (F_277 (-1) w1.2) (fun w2 => some ((F_216 w1.2) &&& (w2.1 ^^^ (-1)), w2.2))))
set_option maxRecDepth 20000 in
theorem S_281 {d : Nat} {S : ST} {r} (hr : F_281 S = some r) : Cal XM (d + 8) 281 [.ref 140] S (RV (vJ r.1) r.2) := by
  unfold F_281 at hr
  refine cal_go 0 rfl ?_
  refine go_run mm_281 1 (pc' := 1) (ls' := [some (.ref 140)]) (st' := [.ref 140]) (S' := S) rfl ?_
  obtain ⟨w1, hw1, hr⟩ := ob_some hr
  refine go_cv mm_281 (h := 140) (As := []) (rest := []) (nl := 1) rfl rfl (show cvOK 281 1 247 184 0 1 11 = true by decide +kernel) rfl rfl rfl (S_184 hw1) (KP_V ?_)
  show Go XM (d + 8) 281 0 4 [some (.ref 140)] [.int (b2i w1.1)] w1.2 (RV (vJ r.1) r.2)
  refine go_ifb mm_281 rfl (p1 := 7) (p2 := 11) rfl (fun (hc1 : w1.1 = true) => ?_) (fun (hc1 : w1.1 = false) => ?_)
  · rw [if_pos hc1] at hr
    refine go_run mm_281 2 (pc' := 25) (ls' := [some (.ref 140)]) (st' := [.long 0]) (S' := w1.2) rfl ?_
    cases hr
    exact go_lreturn mm_281 rfl rfl ⟨rfl, rfl, rfl⟩
  · rw [if_neg (bf hc1)] at hr
    refine go_run mm_281 1 (pc' := 12) (ls' := [some (.ref 140)]) (st' := [.ref 140]) (S' := w1.2) rfl ?_
    refine go_cv mm_281 (h := 140) (As := []) (rest := []) (nl := 1) rfl rfl (show cvOK 281 12 286 216 0 1 11 = true by decide +kernel) rfl rfl rfl (S_216 rfl) (KP_V ?_)
    show Go XM (d + 8) 281 0 15 [some (.ref 140)] [.long (F_216 w1.2)] w1.2 (RV (vJ r.1) r.2)
    refine go_run mm_281 2 (pc' := 17) (ls' := [some (.ref 140)]) (st' := [.int (-1), .ref 140, .long (F_216 w1.2)]) (S' := w1.2) rfl ?_
    obtain ⟨w2, hw2, hr⟩ := ob_some hr
    refine go_cv mm_281 (h := 140) (As := [.int (-1)]) (rest := [.long (F_216 w1.2)]) (nl := 5) rfl rfl (show cvOK 281 17 359 277 1 5 11 = true by decide +kernel) rfl rfl rfl (S_277 hw2) (KP_V ?_)
    show Go XM (d + 8) 281 0 20 [some (.ref 140)] [.long w2.1, .long (F_216 w1.2)] w2.2 (RV (vJ r.1) r.2)
    refine go_run mm_281 3 (pc' := 25) (ls' := [some (.ref 140)]) (st' := [.long ((F_216 w1.2) &&& (w2.1 ^^^ (-1)))]) (S' := w2.2) rfl ?_
    cases hr
    exact go_lreturn mm_281 rfl rfl ⟨rfl, rfl, rfl⟩

noncomputable def Lm_282_18 (v1 : Int32) (S : ST) (a18 : Int32 × Int32) : Option ((Int32 × Int32) ⊕ (Int32 × Int32)) := if a18.2 < (S.1 141 1) then (ob (F_276 a18.2 S) (fun w3 => some (.inl (a18.1 + (b2i (F_217 w3 v1)), a18.2 + 1)))) else (some (.inr (a18.1, a18.2)))
set_option maxRecDepth 20000 in
theorem LSm_282_18 {d : Nat} {R : RT} {S : ST} {v1 : Int32} {a18 : Int32 × Int32} {r9} (hr : Lm_282_18 v1 S a18 = some r9) (hL : ∀ a9, r9 = .inl a9 → (fun a18 => Go XM (d + 7) 282 0 18 [some (.ref 140), some (.int v1), some (.int a18.1), some (.int a18.2)] [] S R) a9) (hR : ∀ b9, r9 = .inr b9 → (fun e18 => Go XM (d + 7) 282 0 54 [some (.ref 140), some (.int v1), some (.int e18.1), some (.int e18.2)] [] S R) b9) : Go XM (d + 7) 282 0 18 [some (.ref 140), some (.int v1), some (.int a18.1), some (.int a18.2)] [] S R := by
  unfold Lm_282_18 at hr
  refine go_run mm_282 4 (pc' := 24) (ls' := [some (.ref 140), some (.int v1), some (.int a18.1), some (.int a18.2)]) (st' := [.int 1, .ref 141, .int a18.2]) (S' := S) rfl ?_
  refine go_iaload mm_282 (q := 1) rfl rfl rfl (inB_lit rfl) ?_
  show Go XM (d + 7) 282 0 25 [some (.ref 140), some (.int v1), some (.int a18.1), some (.int a18.2)] [.int (S.1 141 1), .int a18.2] S R
  refine go_if2 mm_282 rfl (p1 := 28) (p2 := 54) rfl (fun (hc2 : a18.2 < (S.1 141 1)) => ?_) (fun (hc2 : ¬ a18.2 < (S.1 141 1)) => ?_)
  · rw [if_pos hc2] at hr
    refine go_run mm_282 3 (pc' := 31) (ls' := [some (.ref 140), some (.int v1), some (.int a18.1), some (.int a18.2)]) (st' := [.int a18.2, .ref 140, .int a18.1]) (S' := S) rfl ?_
    obtain ⟨w3, hw3, hr⟩ := ob_some hr
    refine go_cv mm_282 (h := 140) (As := [.int a18.2]) (rest := [.int a18.1]) (nl := 2) rfl rfl (show cvOK 282 31 353 276 1 2 11 = true by decide +kernel) rfl rfl rfl (S_276 hw3) (KP_V ?_)
    show Go XM (d + 7) 282 0 34 [some (.ref 140), some (.int v1), some (.int a18.1), some (.int a18.2)] [.long w3, .int a18.1] S R
    refine go_run mm_282 1 (pc' := 35) (ls' := [some (.ref 140), some (.int v1), some (.int a18.1), some (.int a18.2)]) (st' := [.int v1, .long w3, .int a18.1]) (S' := S) rfl ?_
    refine go_cs mm_282 (av := [.long w3, .int v1]) (rest := [.int a18.1]) (nl := 3) rfl (show csOK 282 35 282 217 2 3 = true by decide +kernel) rfl rfl rfl (S_217 rfl) (KP_V ?_)
    show Go XM (d + 7) 282 0 38 [some (.ref 140), some (.int v1), some (.int a18.1), some (.int a18.2)] [.int (b2i (F_217 w3 v1)), .int a18.1] S R
    have j4 : Go XM (d + 7) 282 0 46 [some (.ref 140), some (.int v1), some (.int a18.1), some (.int a18.2)] [.int (b2i (F_217 w3 v1)), .int a18.1] S R := by
      refine go_run mm_282 4 (pc' := 18) (ls' := [some (.ref 140), some (.int v1), some (.int (a18.1 + (b2i (F_217 w3 v1)))), some (.int (a18.2 + 1))]) (st' := []) (S' := S) rfl ?_
      cases hr
      have h9 := hL (a18.1 + (b2i (F_217 w3 v1)), a18.2 + 1) rfl
      dsimp only at h9
      exact Go.le h9 (by repeat first | exact True.intro | refine And.intro rfl ?_)
    refine go_ifb mm_282 rfl (p1 := 41) (p2 := 45) rfl (fun (hc3 : (F_217 w3 v1) = true) => ?_) (fun (hc3 : (F_217 w3 v1) = false) => ?_)
    · refine go_run mm_282 2 (pc' := 46) (ls' := [some (.ref 140), some (.int v1), some (.int a18.1), some (.int a18.2)]) (st' := [.int 1, .int a18.1]) (S' := S) rfl ?_
      have e : ((b2i (F_217 w3 v1)) : Int32) = 1 := by simp [b2i, hc3]
      rw [e] at j4
      exact j4
    · refine go_run mm_282 1 (pc' := 46) (ls' := [some (.ref 140), some (.int v1), some (.int a18.1), some (.int a18.2)]) (st' := [.int 0, .int a18.1]) (S' := S) rfl ?_
      have e : ((b2i (F_217 w3 v1)) : Int32) = 0 := by simp [b2i, hc3]
      rw [e] at j4
      exact j4
  · rw [if_neg hc2] at hr
    cases hr
    have h9 := hR (a18.1, a18.2) rfl
    dsimp only [Sum.elim_inl] at h9
    exact Go.le h9 (by repeat first | exact True.intro | refine And.intro rfl ?_)
noncomputable def F_282 (v1 : Int32) (S : ST) : Option (Int32 × ST) := ob (F_226 v1 S) (fun w1 => if w1.1 = true then (some (0, w1.2)) else (ob (F_239 w1.2) (fun w2 => ob (wh FU (Lm_282_18 v1 w2.2) (0, 0)) (fun e18 => some (e18.1, w2.2)))))
set_option maxRecDepth 20000 in
theorem S_282 {d : Nat} {S : ST} {v1 : Int32} {r} (hr : F_282 v1 S = some r) : Cal XM (d + 7) 282 [.ref 140, .int v1] S (RV (vI r.1) r.2) := by
  unfold F_282 at hr
  refine cal_go 2 rfl ?_
  refine go_run mm_282 2 (pc' := 2) (ls' := [some (.ref 140), some (.int v1), none, none]) (st' := [.int v1, .ref 140]) (S' := S) rfl ?_
  obtain ⟨w1, hw1, hr⟩ := ob_some hr
  refine go_cv mm_282 (h := 140) (As := [.int v1]) (rest := []) (nl := 2) rfl rfl (show cvOK 282 2 254 226 1 2 11 = true by decide +kernel) rfl rfl rfl (S_226 hw1) (KP_V ?_)
  show Go XM (d + 7) 282 0 5 [some (.ref 140), some (.int v1), none, none] [.int (b2i w1.1)] w1.2 (RV (vI r.1) r.2)
  refine go_ifb mm_282 rfl (p1 := 8) (p2 := 10) rfl (fun (hc1 : w1.1 = true) => ?_) (fun (hc1 : w1.1 = false) => ?_)
  · rw [if_pos hc1] at hr
    refine go_run mm_282 1 (pc' := 9) (ls' := [some (.ref 140), some (.int v1), none, none]) (st' := [.int 0]) (S' := w1.2) rfl ?_
    cases hr
    exact go_ireturn mm_282 rfl rfl ⟨rfl, rfl, rfl⟩
  · rw [if_neg (bf hc1)] at hr
    refine go_run mm_282 1 (pc' := 11) (ls' := [some (.ref 140), some (.int v1), none, none]) (st' := [.ref 140]) (S' := w1.2) rfl ?_
    obtain ⟨w2, hw2, hr⟩ := ob_some hr
    refine go_cv mm_282 (h := 140) (As := []) (rest := []) (nl := 3) rfl rfl (show cvOK 282 11 279 239 0 3 11 = true by decide +kernel) rfl rfl rfl (S_239 hw2) (KP_V ?_)
    show Go XM (d + 7) 282 0 14 [some (.ref 140), some (.int v1), none, none] [] w2.2 (RV (vI r.1) r.2)
    refine go_run mm_282 4 (pc' := 18) (ls' := [some (.ref 140), some (.int v1), some (.int 0), some (.int 0)]) (st' := []) (S' := w2.2) rfl ?_
    obtain ⟨z18, he18, hr⟩ := ob_some hr
    refine Go.le (ls' := [some (.ref 140), some (.int v1), some (.int 0), some (.int 0)]) ?_ (by repeat first | exact True.intro | refine And.intro rfl ?_)
    refine wh_go (P := fun a18 => Go XM (d + 7) 282 0 18 [some (.ref 140), some (.int v1), some (.int a18.1), some (.int a18.2)] [] w2.2 (RV (vI r.1) r.2)) (K := fun e18 => Go XM (d + 7) 282 0 54 [some (.ref 140), some (.int v1), some (.int e18.1), some (.int e18.2)] [] w2.2 (RV (vI r.1) r.2)) (fun a9 r9 h9 hL hR => LSm_282_18 h9 hL hR) _ _ _ he18 ?_
    generalize z18 = e18 at hr
    show Go XM (d + 7) 282 0 54 [some (.ref 140), some (.int v1), some (.int e18.1), some (.int e18.2)] [] w2.2 (RV (vI r.1) r.2)
    refine go_run mm_282 1 (pc' := 55) (ls' := [some (.ref 140), some (.int v1), some (.int e18.1), some (.int e18.2)]) (st' := [.int e18.1]) (S' := w2.2) rfl ?_
    cases hr
    exact go_ireturn mm_282 rfl rfl ⟨rfl, rfl, rfl⟩

noncomputable def Lm_283_13 (a13 : Int32 × Int32 × ST) : Option ((Int32 × Int32 × ST) ⊕ (Int32 × Int32 × ST)) := if a13.2.1 < (a13.2.2.1 141 1) then (ob (F_277 a13.2.1 a13.2.2) (fun w2 => ob (F_277 (-1) w2.2) (fun w3 => some (.inl (a13.1 ||| (if w2.1 = w3.1 then 1 <<< (a13.2.1 &&& 31) else 0), a13.2.1 + 1, w3.2))))) else (some (.inr (a13.1, a13.2.1, a13.2.2)))
set_option maxRecDepth 20000 in
theorem LSm_283_13 {d : Nat} {R : RT} {a13 : Int32 × Int32 × ST} {r9} (hr : Lm_283_13 a13 = some r9) (hL : ∀ a9, r9 = .inl a9 → (fun a13 => Go XM (d + 8) 283 0 13 [some (.ref 140), some (.int a13.1), some (.int a13.2.1)] [] a13.2.2 R) a9) (hR : ∀ b9, r9 = .inr b9 → (fun e13 => Go XM (d + 8) 283 0 53 [some (.ref 140), some (.int e13.1), some (.int e13.2.1)] [] e13.2.2 R) b9) : Go XM (d + 8) 283 0 13 [some (.ref 140), some (.int a13.1), some (.int a13.2.1)] [] a13.2.2 R := by
  unfold Lm_283_13 at hr
  refine go_run mm_283 4 (pc' := 19) (ls' := [some (.ref 140), some (.int a13.1), some (.int a13.2.1)]) (st' := [.int 1, .ref 141, .int a13.2.1]) (S' := a13.2.2) rfl ?_
  refine go_iaload mm_283 (q := 1) rfl rfl rfl (inB_lit rfl) ?_
  show Go XM (d + 8) 283 0 20 [some (.ref 140), some (.int a13.1), some (.int a13.2.1)] [.int (a13.2.2.1 141 1), .int a13.2.1] a13.2.2 R
  refine go_if2 mm_283 rfl (p1 := 23) (p2 := 53) rfl (fun (hc2 : a13.2.1 < (a13.2.2.1 141 1)) => ?_) (fun (hc2 : ¬ a13.2.1 < (a13.2.2.1 141 1)) => ?_)
  · rw [if_pos hc2] at hr
    refine go_run mm_283 3 (pc' := 26) (ls' := [some (.ref 140), some (.int a13.1), some (.int a13.2.1)]) (st' := [.int a13.2.1, .ref 140, .int a13.1]) (S' := a13.2.2) rfl ?_
    obtain ⟨w2, hw2, hr⟩ := ob_some hr
    refine go_cv mm_283 (h := 140) (As := [.int a13.2.1]) (rest := [.int a13.1]) (nl := 5) rfl rfl (show cvOK 283 26 359 277 1 5 11 = true by decide +kernel) rfl rfl rfl (S_277 hw2) (KP_V ?_)
    show Go XM (d + 8) 283 0 29 [some (.ref 140), some (.int a13.1), some (.int a13.2.1)] [.long w2.1, .int a13.1] w2.2 R
    refine go_run mm_283 2 (pc' := 31) (ls' := [some (.ref 140), some (.int a13.1), some (.int a13.2.1)]) (st' := [.int (-1), .ref 140, .long w2.1, .int a13.1]) (S' := w2.2) rfl ?_
    obtain ⟨w3, hw3, hr⟩ := ob_some hr
    refine go_cv mm_283 (h := 140) (As := [.int (-1)]) (rest := [.long w2.1, .int a13.1]) (nl := 5) rfl rfl (show cvOK 283 31 359 277 1 5 11 = true by decide +kernel) rfl rfl rfl (S_277 hw3) (KP_V ?_)
    show Go XM (d + 8) 283 0 34 [some (.ref 140), some (.int a13.1), some (.int a13.2.1)] [.long w3.1, .long w2.1, .int a13.1] w3.2 R
    have j4 : Go XM (d + 8) 283 0 45 [some (.ref 140), some (.int a13.1), some (.int a13.2.1)] [.int (if w2.1 = w3.1 then 1 <<< (a13.2.1 &&& 31) else 0), .int a13.1] w3.2 R := by
      refine go_run mm_283 4 (pc' := 13) (ls' := [some (.ref 140), some (.int (a13.1 ||| (if w2.1 = w3.1 then 1 <<< (a13.2.1 &&& 31) else 0))), some (.int (a13.2.1 + 1))]) (st' := []) (S' := w3.2) rfl ?_
      cases hr
      have h9 := hL (a13.1 ||| (if w2.1 = w3.1 then 1 <<< (a13.2.1 &&& 31) else 0), a13.2.1 + 1, w3.2) rfl
      dsimp only at h9
      exact Go.le h9 (by repeat first | exact True.intro | refine And.intro rfl ?_)
    refine go_lif mm_283 rfl rfl (p1 := 38) (p2 := 44) rfl (fun (hc3 : w2.1 = w3.1) => ?_) (fun (hc3 : ¬ w2.1 = w3.1) => ?_)
    · refine go_run mm_283 4 (pc' := 45) (ls' := [some (.ref 140), some (.int a13.1), some (.int a13.2.1)]) (st' := [.int (1 <<< (a13.2.1 &&& 31)), .int a13.1]) (S' := w3.2) rfl ?_
      have e : ((if w2.1 = w3.1 then 1 <<< (a13.2.1 &&& 31) else 0) : Int32) = 1 <<< (a13.2.1 &&& 31) := by simp [b2i, hc3]
      rw [e] at j4
      exact j4
    · refine go_run mm_283 1 (pc' := 45) (ls' := [some (.ref 140), some (.int a13.1), some (.int a13.2.1)]) (st' := [.int 0, .int a13.1]) (S' := w3.2) rfl ?_
      have e : ((if w2.1 = w3.1 then 1 <<< (a13.2.1 &&& 31) else 0) : Int32) = 0 := by simp [b2i, hc3]
      rw [e] at j4
      exact j4
  · rw [if_neg hc2] at hr
    cases hr
    have h9 := hR (a13.1, a13.2.1, a13.2.2) rfl
    dsimp only [Sum.elim_inl] at h9
    exact Go.le h9 (by repeat first | exact True.intro | refine And.intro rfl ?_)
noncomputable def F_283 (S : ST) : Option (Int32 × ST) := ob (F_184 S) (fun w1 => if w1.1 = true then (some (0, w1.2)) else (ob (wh FU (Lm_283_13) (0, 0, w1.2)) (fun e13 => some (e13.1, e13.2.2))))
set_option maxRecDepth 20000 in
theorem S_283 {d : Nat} {S : ST} {r} (hr : F_283 S = some r) : Cal XM (d + 8) 283 [.ref 140] S (RV (vI r.1) r.2) := by
  unfold F_283 at hr
  refine cal_go 2 rfl ?_
  refine go_run mm_283 1 (pc' := 1) (ls' := [some (.ref 140), none, none]) (st' := [.ref 140]) (S' := S) rfl ?_
  obtain ⟨w1, hw1, hr⟩ := ob_some hr
  refine go_cv mm_283 (h := 140) (As := []) (rest := []) (nl := 1) rfl rfl (show cvOK 283 1 247 184 0 1 11 = true by decide +kernel) rfl rfl rfl (S_184 hw1) (KP_V ?_)
  show Go XM (d + 8) 283 0 4 [some (.ref 140), none, none] [.int (b2i w1.1)] w1.2 (RV (vI r.1) r.2)
  refine go_ifb mm_283 rfl (p1 := 7) (p2 := 9) rfl (fun (hc1 : w1.1 = true) => ?_) (fun (hc1 : w1.1 = false) => ?_)
  · rw [if_pos hc1] at hr
    refine go_run mm_283 1 (pc' := 8) (ls' := [some (.ref 140), none, none]) (st' := [.int 0]) (S' := w1.2) rfl ?_
    cases hr
    exact go_ireturn mm_283 rfl rfl ⟨rfl, rfl, rfl⟩
  · rw [if_neg (bf hc1)] at hr
    refine go_run mm_283 4 (pc' := 13) (ls' := [some (.ref 140), some (.int 0), some (.int 0)]) (st' := []) (S' := w1.2) rfl ?_
    obtain ⟨z13, he13, hr⟩ := ob_some hr
    refine Go.le (ls' := [some (.ref 140), some (.int 0), some (.int 0)]) ?_ (by repeat first | exact True.intro | refine And.intro rfl ?_)
    refine wh_go (P := fun a13 => Go XM (d + 8) 283 0 13 [some (.ref 140), some (.int a13.1), some (.int a13.2.1)] [] a13.2.2 (RV (vI r.1) r.2)) (K := fun e13 => Go XM (d + 8) 283 0 53 [some (.ref 140), some (.int e13.1), some (.int e13.2.1)] [] e13.2.2 (RV (vI r.1) r.2)) (fun a9 r9 h9 hL hR => LSm_283_13 h9 hL hR) _ _ _ he13 ?_
    generalize z13 = e13 at hr
    show Go XM (d + 8) 283 0 53 [some (.ref 140), some (.int e13.1), some (.int e13.2.1)] [] e13.2.2 (RV (vI r.1) r.2)
    refine go_run mm_283 1 (pc' := 54) (ls' := [some (.ref 140), some (.int e13.1), some (.int e13.2.1)]) (st' := [.int e13.1]) (S' := e13.2.2) rfl ?_
    cases hr
    exact go_ireturn mm_283 rfl rfl ⟨rfl, rfl, rfl⟩
