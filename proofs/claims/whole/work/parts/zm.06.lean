/-! methods as functions (printed by a program): 237 boundary -/
noncomputable def Lm_237_13 (S : ST) (a13 : Int64 × Int32) : Option ((Int64 × Int32) ⊕ (Int64 × Int32)) := if a13.2 < (S.1 140 20) then (ck (ibd a13.2 64) (ck (ibd a13.2 64) (ob (F_207 141 (Int32.toInt64 (S.1 147 (Int32.toNatClampNeg a13.2))) (Int32.toInt64 (S.1 148 (Int32.toNatClampNeg a13.2))) 1 S) (fun w2 => some (.inl (a13.1 ||| (if w2 = true then 1 <<< (Int32.toInt64 a13.2 &&& 63) else 0), a13.2 + 1)))))) else (some (.inr (a13.1, a13.2)))
set_option maxRecDepth 20000 in
theorem LSm_237_13 {d : Nat} {R : RT} {S : ST} {a13 : Int64 × Int32} {r9} (hr : Lm_237_13 S a13 = some r9) (hL : ∀ a9, r9 = .inl a9 → (fun a13 => Go XM (d + 4) 237 0 13 [some (.ref 140), some (.long a13.1), none, some (.int a13.2)] [] S R) a9) (hR : ∀ b9, r9 = .inr b9 → (fun e13 => Go XM (d + 4) 237 0 62 [some (.ref 140), some (.long e13.1), none, some (.int e13.2)] [] S R) b9) : Go XM (d + 4) 237 0 13 [some (.ref 140), some (.long a13.1), none, some (.int a13.2)] [] S R := by
  unfold Lm_237_13 at hr
  refine go_run mm_237 3 (pc' := 18) (ls' := [some (.ref 140), some (.long a13.1), none, some (.int a13.2)]) (st' := [.int (S.1 140 20), .int a13.2]) (S' := S) rfl ?_
  refine go_if2 mm_237 rfl (p1 := 21) (p2 := 62) rfl (fun (hc2 : a13.2 < (S.1 140 20)) => ?_) (fun (hc2 : ¬ a13.2 < (S.1 140 20)) => ?_)
  · rw [if_pos hc2] at hr
    refine go_run mm_237 6 (pc' := 31) (ls' := [some (.ref 140), some (.long a13.1), none, some (.int a13.2)]) (st' := [.int a13.2, .ref 147, .ref 141, .long a13.1]) (S' := S) rfl ?_
    obtain ⟨hb3, hr⟩ := ck_some hr
    refine go_iaload mm_237 (q := (Int32.toNatClampNeg a13.2)) rfl rfl rfl (ibd_ok hb3) ?_
    show Go XM (d + 4) 237 0 32 [some (.ref 140), some (.long a13.1), none, some (.int a13.2)] [.int (S.1 147 (Int32.toNatClampNeg a13.2)), .ref 141, .long a13.1] S R
    refine go_run mm_237 4 (pc' := 38) (ls' := [some (.ref 140), some (.long a13.1), none, some (.int a13.2)]) (st' := [.int a13.2, .ref 148, .long (Int32.toInt64 (S.1 147 (Int32.toNatClampNeg a13.2))), .ref 141, .long a13.1]) (S' := S) rfl ?_
    obtain ⟨hb4, hr⟩ := ck_some hr
    refine go_iaload mm_237 (q := (Int32.toNatClampNeg a13.2)) rfl rfl rfl (ibd_ok hb4) ?_
    show Go XM (d + 4) 237 0 39 [some (.ref 140), some (.long a13.1), none, some (.int a13.2)] [.int (S.1 148 (Int32.toNatClampNeg a13.2)), .long (Int32.toInt64 (S.1 147 (Int32.toNatClampNeg a13.2))), .ref 141, .long a13.1] S R
    refine go_run mm_237 2 (pc' := 41) (ls' := [some (.ref 140), some (.long a13.1), none, some (.int a13.2)]) (st' := [.long 1, .long (Int32.toInt64 (S.1 148 (Int32.toNatClampNeg a13.2))), .long (Int32.toInt64 (S.1 147 (Int32.toNatClampNeg a13.2))), .ref 141, .long a13.1]) (S' := S) rfl ?_
    obtain ⟨w2, hw2, hr⟩ := ob_some hr
    refine go_cs mm_237 (av := [.ref 141, .long (Int32.toInt64 (S.1 147 (Int32.toNatClampNeg a13.2))), .long (Int32.toInt64 (S.1 148 (Int32.toNatClampNeg a13.2))), .long 1]) (rest := [.long a13.1]) (nl := 8) rfl (show csOK 237 41 220 207 4 8 = true by decide +kernel) rfl rfl rfl (S_207 rfl hw2) (KP_V ?_)
    show Go XM (d + 4) 237 0 44 [some (.ref 140), some (.long a13.1), none, some (.int a13.2)] [.int (b2i w2), .long a13.1] S R
    have j6 : Go XM (d + 4) 237 0 54 [some (.ref 140), some (.long a13.1), none, some (.int a13.2)] [.long (if w2 = true then 1 <<< (Int32.toInt64 a13.2 &&& 63) else 0), .long a13.1] S R := by
      refine go_run mm_237 4 (pc' := 13) (ls' := [some (.ref 140), some (.long (a13.1 ||| (if w2 = true then 1 <<< (Int32.toInt64 a13.2 &&& 63) else 0))), none, some (.int (a13.2 + 1))]) (st' := []) (S' := S) rfl ?_
      cases hr
      have h9 := hL (a13.1 ||| (if w2 = true then 1 <<< (Int32.toInt64 a13.2 &&& 63) else 0), a13.2 + 1) rfl
      dsimp only at h9
      exact Go.le h9 (by repeat first | exact True.intro | refine And.intro rfl ?_)
    refine go_ifb mm_237 rfl (p1 := 47) (p2 := 53) rfl (fun (hc5 : w2 = true) => ?_) (fun (hc5 : w2 = false) => ?_)
    · refine go_run mm_237 4 (pc' := 54) (ls' := [some (.ref 140), some (.long a13.1), none, some (.int a13.2)]) (st' := [.long (1 <<< (Int32.toInt64 a13.2 &&& 63)), .long a13.1]) (S' := S) rfl ?_
      have e : ((if w2 = true then 1 <<< (Int32.toInt64 a13.2 &&& 63) else 0) : Int64) = 1 <<< (Int32.toInt64 a13.2 &&& 63) := by simp [hc5]
      rw [e] at j6
      exact j6
    · refine go_run mm_237 1 (pc' := 54) (ls' := [some (.ref 140), some (.long a13.1), none, some (.int a13.2)]) (st' := [.long 0, .long a13.1]) (S' := S) rfl ?_
      have e : ((if w2 = true then 1 <<< (Int32.toInt64 a13.2 &&& 63) else 0) : Int64) = 0 := by simp [hc5]
      rw [e] at j6
      exact j6
  · rw [if_neg hc2] at hr
    cases hr
    have h9 := hR (a13.1, a13.2) rfl
    dsimp only [Sum.elim_inl] at h9
    exact Go.le h9 (by repeat first | exact True.intro | refine And.intro rfl ?_)
noncomputable def F_237 (S : ST) : Option (Int64 × ST) := ob (F_184 S) (fun w1 => if w1.1 = true then (some (0, w1.2)) else (ob (wh FU (Lm_237_13 w1.2) (0, 0)) (fun e13 => some (e13.1, w1.2))))
set_option maxRecDepth 20000 in
theorem S_237 {d : Nat} {S : ST} {r} (hr : F_237 S = some r) : Cal XM (d + 4) 237 [.ref 140] S (RV (vJ r.1) r.2) := by
  unfold F_237 at hr
  refine cal_go 3 rfl ?_
  refine go_run mm_237 1 (pc' := 1) (ls' := [some (.ref 140), none, none, none]) (st' := [.ref 140]) (S' := S) rfl ?_
  obtain ⟨w1, hw1, hr⟩ := ob_some hr
  refine go_cv mm_237 (h := 140) (As := []) (rest := []) (nl := 1) rfl rfl (show cvOK 237 1 247 184 0 1 11 = true by decide +kernel) rfl rfl rfl (S_184 hw1) (KP_V ?_)
  show Go XM (d + 4) 237 0 4 [some (.ref 140), none, none, none] [.int (b2i w1.1)] w1.2 (RV (vJ r.1) r.2)
  refine go_ifb mm_237 rfl (p1 := 7) (p2 := 9) rfl (fun (hc1 : w1.1 = true) => ?_) (fun (hc1 : w1.1 = false) => ?_)
  · rw [if_pos hc1] at hr
    refine go_run mm_237 1 (pc' := 8) (ls' := [some (.ref 140), none, none, none]) (st' := [.long 0]) (S' := w1.2) rfl ?_
    cases hr
    exact go_lreturn mm_237 rfl rfl ⟨rfl, rfl, rfl⟩
  · rw [if_neg (bf hc1)] at hr
    refine go_run mm_237 4 (pc' := 13) (ls' := [some (.ref 140), some (.long 0), none, some (.int 0)]) (st' := []) (S' := w1.2) rfl ?_
    obtain ⟨z13, he13, hr⟩ := ob_some hr
    refine Go.le (ls' := [some (.ref 140), some (.long 0), none, some (.int 0)]) ?_ (by repeat first | exact True.intro | refine And.intro rfl ?_)
    refine wh_go (P := fun a13 => Go XM (d + 4) 237 0 13 [some (.ref 140), some (.long a13.1), none, some (.int a13.2)] [] w1.2 (RV (vJ r.1) r.2)) (K := fun e13 => Go XM (d + 4) 237 0 62 [some (.ref 140), some (.long e13.1), none, some (.int e13.2)] [] w1.2 (RV (vJ r.1) r.2)) (fun a9 r9 h9 hL hR => LSm_237_13 h9 hL hR) _ _ _ he13 ?_
    generalize z13 = e13 at hr
    show Go XM (d + 4) 237 0 62 [some (.ref 140), some (.long e13.1), none, some (.int e13.2)] [] w1.2 (RV (vJ r.1) r.2)
    refine go_run mm_237 1 (pc' := 63) (ls' := [some (.ref 140), some (.long e13.1), none, some (.int e13.2)]) (st' := [.long e13.1]) (S' := w1.2) rfl ?_
    cases hr
    exact go_lreturn mm_237 rfl rfl ⟨rfl, rfl, rfl⟩
