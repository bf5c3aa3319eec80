/-! methods as functions (printed by a program): 69 isChained, 70 piecesOf, 67 linkPairs, 66 learn, 71 everyPoint, 76 seeingAll, 77 links -/
theorem mm_69 : mtG 69 = some (mi_69, 7, ft_69) := rfl
def L_69_55 (v1 : Int32) (v2 : Int32) (v3 : Int32) (p55_4 : Int32) (p55_5 : Int32) (S : ST) (a55 : Int32 × Int32) : Option ((Int32 × Int32) ⊕ ((Int32 × Int32) ⊕ Bool)) := if v3 < a55.2 then (some (.inr (.inl (a55.1, a55.2)))) else (ob (F_19 21 v1 S) (fun w5 => ob (F_20 21 v1 S) (fun w6 => ob (F_18 21 (w5 + (a55.2 * p55_4)) (w6 + (a55.2 * p55_5)) S) (fun w7 => if w7 = (-1) then (some (.inr (.inr false))) else (if a55.1 < 0 then (some (.inr (.inr false))) else (if a55.1 < 64 then (ck (ibd a55.1 64) (if (F_177 (S.2 31 (Int32.toNatClampNeg a55.1)) w7) = true then (some (.inl (w7, a55.2 + 1))) else (some (.inr (.inr false))))) else (some (.inr (.inr false)))))))))
set_option maxRecDepth 20000 in
theorem LS_69_55 {d : Nat} {R : RT} {S : ST} {v1 : Int32} {v2 : Int32} {v3 : Int32} {p55_4 : Int32} {p55_5 : Int32} {a55 : Int32 × Int32} {r9} (hr : L_69_55 v1 v2 v3 p55_4 p55_5 S a55 = some r9) (hL : ∀ a9, r9 = .inl a9 → (fun a55 => Go XC (d + 1) 69 0 55 [some (.ref 30), some (.int v1), some (.int v2), some (.int v3), some (.int p55_4), some (.int p55_5), some (.int a55.1), some (.int a55.2), none] [] S R) a9) (hR : ∀ b9, r9 = .inr b9 → Sum.elim (fun e55 => Go XC (d + 1) 69 0 143 [some (.ref 30), some (.int v1), some (.int v2), some (.int v3), some (.int p55_4), some (.int p55_5), some (.int e55.1), some (.int e55.2), none] [] S R) (fun o => R 0 (.inr (vZ o)) S) b9) : Go XC (d + 1) 69 0 55 [some (.ref 30), some (.int v1), some (.int v2), some (.int v3), some (.int p55_4), some (.int p55_5), some (.int a55.1), some (.int a55.2), none] [] S R := by
  unfold L_69_55 at hr
  refine go_run mm_69 2 (pc' := 58) (ls' := [some (.ref 30), some (.int v1), some (.int v2), some (.int v3), some (.int p55_4), some (.int p55_5), some (.int a55.1), some (.int a55.2), none]) (st' := [.int v3, .int a55.2]) (S' := S) rfl ?_
  refine go_if2 mm_69 rfl (p1 := 143) (p2 := 61) rfl (fun (hc4 : v3 < a55.2) => ?_) (fun (hc4 : ¬ v3 < a55.2) => ?_)
  · rw [if_pos hc4] at hr
    cases hr
    have h9 := hR (.inl (a55.1, a55.2)) rfl
    dsimp only [Sum.elim_inl] at h9
    exact Go.le h9 (by repeat first | exact True.intro | refine And.intro rfl ?_)
  · rw [if_neg hc4] at hr
    refine go_run mm_69 5 (pc' := 70) (ls' := [some (.ref 30), some (.int v1), some (.int v2), some (.int v3), some (.int p55_4), some (.int p55_5), some (.int a55.1), some (.int a55.2), none]) (st' := [.int v1, .ref 21, .ref 21]) (S' := S) rfl ?_
    obtain ⟨w5, hw5, hr⟩ := ob_some hr
    refine go_cv mm_69 (h := 21) (As := [.int v1]) (rest := [.ref 21]) (nl := 2) rfl rfl (show cvOK 69 70 37 19 1 2 3 = true by decide +kernel) rfl rfl rfl (S_19 (ltB_ok rfl) hw5) (KP_V ?_)
    show Go XC (d + 1) 69 0 73 [some (.ref 30), some (.int v1), some (.int v2), some (.int v3), some (.int p55_4), some (.int p55_5), some (.int a55.1), some (.int a55.2), none] [.int w5, .ref 21] S R
    refine go_run mm_69 7 (pc' := 84) (ls' := [some (.ref 30), some (.int v1), some (.int v2), some (.int v3), some (.int p55_4), some (.int p55_5), some (.int a55.1), some (.int a55.2), none]) (st' := [.int v1, .ref 21, .int (w5 + (a55.2 * p55_4)), .ref 21]) (S' := S) rfl ?_
    obtain ⟨w6, hw6, hr⟩ := ob_some hr
    refine go_cv mm_69 (h := 21) (As := [.int v1]) (rest := [.int (w5 + (a55.2 * p55_4)), .ref 21]) (nl := 2) rfl rfl (show cvOK 69 84 41 20 1 2 3 = true by decide +kernel) rfl rfl rfl (S_20 (ltB_ok rfl) hw6) (KP_V ?_)
    show Go XC (d + 1) 69 0 87 [some (.ref 30), some (.int v1), some (.int v2), some (.int v3), some (.int p55_4), some (.int p55_5), some (.int a55.1), some (.int a55.2), none] [.int w6, .int (w5 + (a55.2 * p55_4)), .ref 21] S R
    refine go_run mm_69 4 (pc' := 93) (ls' := [some (.ref 30), some (.int v1), some (.int v2), some (.int v3), some (.int p55_4), some (.int p55_5), some (.int a55.1), some (.int a55.2), none]) (st' := [.int (w6 + (a55.2 * p55_5)), .int (w5 + (a55.2 * p55_4)), .ref 21]) (S' := S) rfl ?_
    obtain ⟨w7, hw7, hr⟩ := ob_some hr
    refine go_cv mm_69 (h := 21) (As := [.int (w5 + (a55.2 * p55_4)), .int (w6 + (a55.2 * p55_5))]) (rest := []) (nl := 3) rfl rfl (show cvOK 69 93 71 18 2 3 3 = true by decide +kernel) rfl rfl rfl (S_18 (ltB_ok rfl) hw7) (KP_V ?_)
    show Go XC (d + 1) 69 0 96 [some (.ref 30), some (.int v1), some (.int v2), some (.int v3), some (.int p55_4), some (.int p55_5), some (.int a55.1), some (.int a55.2), none] [.int w7] S R
    refine go_run mm_69 3 (pc' := 101) (ls' := [some (.ref 30), some (.int v1), some (.int v2), some (.int v3), some (.int p55_4), some (.int p55_5), some (.int a55.1), some (.int a55.2), some (.int w7)]) (st' := [.int (-1), .int w7]) (S' := S) rfl ?_
    refine go_if2 mm_69 rfl (p1 := 131) (p2 := 104) rfl (fun (hc5 : w7 = (-1)) => ?_) (fun (hc5 : ¬ w7 = (-1)) => ?_)
    · rw [if_pos hc5] at hr
      refine go_run mm_69 1 (pc' := 132) (ls' := [some (.ref 30), some (.int v1), some (.int v2), some (.int v3), some (.int p55_4), some (.int p55_5), some (.int a55.1), some (.int a55.2), some (.int w7)]) (st' := [.int 0]) (S' := S) rfl ?_
      cases hr
      have h9 : R 0 (.inr (vZ false)) S := hR _ rfl
      exact go_zreturn mm_69 rfl rfl (Or.inl rfl) h9
    · rw [if_neg hc5] at hr
      refine go_run mm_69 1 (pc' := 106) (ls' := [some (.ref 30), some (.int v1), some (.int v2), some (.int v3), some (.int p55_4), some (.int p55_5), some (.int a55.1), some (.int a55.2), some (.int w7)]) (st' := [.int a55.1]) (S' := S) rfl ?_
      refine go_if0 mm_69 rfl (p1 := 131) (p2 := 109) rfl (fun (hc6 : a55.1 < 0) => ?_) (fun (hc6 : ¬ a55.1 < 0) => ?_)
      · rw [if_pos hc6] at hr
        refine go_run mm_69 1 (pc' := 132) (ls' := [some (.ref 30), some (.int v1), some (.int v2), some (.int v3), some (.int p55_4), some (.int p55_5), some (.int a55.1), some (.int a55.2), some (.int w7)]) (st' := [.int 0]) (S' := S) rfl ?_
        cases hr
        have h9 : R 0 (.inr (vZ false)) S := hR _ rfl
        exact go_zreturn mm_69 rfl rfl (Or.inl rfl) h9
      · rw [if_neg hc6] at hr
        refine go_run mm_69 2 (pc' := 113) (ls' := [some (.ref 30), some (.int v1), some (.int v2), some (.int v3), some (.int p55_4), some (.int p55_5), some (.int a55.1), some (.int a55.2), some (.int w7)]) (st' := [.int 64, .int a55.1]) (S' := S) rfl ?_
        refine go_if2 mm_69 rfl (p1 := 116) (p2 := 131) rfl (fun (hc7 : a55.1 < 64) => ?_) (fun (hc7 : ¬ a55.1 < 64) => ?_)
        · rw [if_pos hc7] at hr
          refine go_run mm_69 3 (pc' := 122) (ls' := [some (.ref 30), some (.int v1), some (.int v2), some (.int v3), some (.int p55_4), some (.int p55_5), some (.int a55.1), some (.int a55.2), some (.int w7)]) (st' := [.int a55.1, .ref 31]) (S' := S) rfl ?_
          obtain ⟨hb8, hr⟩ := ck_some hr
          refine go_laload mm_69 (q := (Int32.toNatClampNeg a55.1)) rfl rfl rfl (ibd_ok hb8) ?_
          show Go XC (d + 1) 69 0 123 [some (.ref 30), some (.int v1), some (.int v2), some (.int v3), some (.int p55_4), some (.int p55_5), some (.int a55.1), some (.int a55.2), some (.int w7)] [.long (S.2 31 (Int32.toNatClampNeg a55.1))] S R
          refine go_run mm_69 1 (pc' := 125) (ls' := [some (.ref 30), some (.int v1), some (.int v2), some (.int v3), some (.int p55_4), some (.int p55_5), some (.int a55.1), some (.int a55.2), some (.int w7)]) (st' := [.int w7, .long (S.2 31 (Int32.toNatClampNeg a55.1))]) (S' := S) rfl ?_
          refine go_cs mm_69 (av := [.long (S.2 31 (Int32.toNatClampNeg a55.1)), .int w7]) (rest := []) (nl := 3) rfl (show csOK 69 125 74 177 2 3 = true by decide +kernel) rfl rfl rfl (S_177 rfl) (KP_V ?_)
          show Go XC (d + 1) 69 0 128 [some (.ref 30), some (.int v1), some (.int v2), some (.int v3), some (.int p55_4), some (.int p55_5), some (.int a55.1), some (.int a55.2), some (.int w7)] [.int (b2i (F_177 (S.2 31 (Int32.toNatClampNeg a55.1)) w7))] S R
          refine go_ifb mm_69 rfl (p1 := 133) (p2 := 131) rfl (fun (hc9 : (F_177 (S.2 31 (Int32.toNatClampNeg a55.1)) w7) = true) => ?_) (fun (hc9 : (F_177 (S.2 31 (Int32.toNatClampNeg a55.1)) w7) = false) => ?_)
          · rw [if_pos hc9] at hr
            refine go_run mm_69 4 (pc' := 55) (ls' := [some (.ref 30), some (.int v1), some (.int v2), some (.int v3), some (.int p55_4), some (.int p55_5), some (.int w7), some (.int (a55.2 + 1)), some (.int w7)]) (st' := []) (S' := S) rfl ?_
            cases hr
            have h9 := hL (w7, a55.2 + 1) rfl
            dsimp only at h9
            exact Go.le h9 (by repeat first | exact True.intro | refine And.intro rfl ?_)
          · rw [if_neg (bf hc9)] at hr
            refine go_run mm_69 1 (pc' := 132) (ls' := [some (.ref 30), some (.int v1), some (.int v2), some (.int v3), some (.int p55_4), some (.int p55_5), some (.int a55.1), some (.int a55.2), some (.int w7)]) (st' := [.int 0]) (S' := S) rfl ?_
            cases hr
            have h9 : R 0 (.inr (vZ false)) S := hR _ rfl
            exact go_zreturn mm_69 rfl rfl (Or.inl rfl) h9
        · rw [if_neg hc7] at hr
          refine go_run mm_69 1 (pc' := 132) (ls' := [some (.ref 30), some (.int v1), some (.int v2), some (.int v3), some (.int p55_4), some (.int p55_5), some (.int a55.1), some (.int a55.2), some (.int w7)]) (st' := [.int 0]) (S' := S) rfl ?_
          cases hr
          have h9 : R 0 (.inr (vZ false)) S := hR _ rfl
          exact go_zreturn mm_69 rfl rfl (Or.inl rfl) h9
def F_69 (v1 : Int32) (v2 : Int32) (v3 : Int32) (S : ST) : Option Bool := if v3 < 1 then (some false) else (ob (F_19 21 v2 S) (fun w1 => ob (F_19 21 v1 S) (fun w2 => ck (!(decide (v3 = 0))) (ob (F_20 21 v2 S) (fun w3 => ob (F_20 21 v1 S) (fun w4 => ck (!(decide (v3 = 0))) (ob (wh FU (L_69_55 v1 v2 v3 ((w1 - w2) / v3) ((w3 - w4) / v3) S) (v1, 1)) (fun z => Sum.elim (fun e55 => some true) (fun o => some o) z))))))))
set_option maxRecDepth 20000 in
theorem S_69 {d : Nat} {S : ST} {v1 : Int32} {v2 : Int32} {v3 : Int32} {r} (hr : F_69 v1 v2 v3 S = some r) : Cal XC (d + 1) 69 [.ref 30, .int v1, .int v2, .int v3] S (RV (vZ r) S) := by
  unfold F_69 at hr
  refine cal_go 5 rfl ?_
  refine go_run mm_69 2 (pc' := 2) (ls' := [some (.ref 30), some (.int v1), some (.int v2), some (.int v3), none, none, none, none, none]) (st' := [.int 1, .int v3]) (S' := S) rfl ?_
  refine go_if2 mm_69 rfl (p1 := 5) (p2 := 7) rfl (fun (hc1 : v3 < 1) => ?_) (fun (hc1 : ¬ v3 < 1) => ?_)
  · rw [if_pos hc1] at hr
    refine go_run mm_69 1 (pc' := 6) (ls' := [some (.ref 30), some (.int v1), some (.int v2), some (.int v3), none, none, none, none, none]) (st' := [.int 0]) (S' := S) rfl ?_
    cases hr
    exact go_zreturn mm_69 rfl rfl (Or.inl rfl) ⟨rfl, rfl, rfl⟩
  · rw [if_neg hc1] at hr
    refine go_run mm_69 3 (pc' := 12) (ls' := [some (.ref 30), some (.int v1), some (.int v2), some (.int v3), none, none, none, none, none]) (st' := [.int v2, .ref 21]) (S' := S) rfl ?_
    obtain ⟨w1, hw1, hr⟩ := ob_some hr
    refine go_cv mm_69 (h := 21) (As := [.int v2]) (rest := []) (nl := 2) rfl rfl (show cvOK 69 12 37 19 1 2 3 = true by decide +kernel) rfl rfl rfl (S_19 (ltB_ok rfl) hw1) (KP_V ?_)
    show Go XC (d + 1) 69 0 15 [some (.ref 30), some (.int v1), some (.int v2), some (.int v3), none, none, none, none, none] [.int w1] S (RV (vZ r) S)
    refine go_run mm_69 3 (pc' := 20) (ls' := [some (.ref 30), some (.int v1), some (.int v2), some (.int v3), none, none, none, none, none]) (st' := [.int v1, .ref 21, .int w1]) (S' := S) rfl ?_
    obtain ⟨w2, hw2, hr⟩ := ob_some hr
    refine go_cv mm_69 (h := 21) (As := [.int v1]) (rest := [.int w1]) (nl := 2) rfl rfl (show cvOK 69 20 37 19 1 2 3 = true by decide +kernel) rfl rfl rfl (S_19 (ltB_ok rfl) hw2) (KP_V ?_)
    show Go XC (d + 1) 69 0 23 [some (.ref 30), some (.int v1), some (.int v2), some (.int v3), none, none, none, none, none] [.int w2, .int w1] S (RV (vZ r) S)
    refine go_run mm_69 2 (pc' := 25) (ls' := [some (.ref 30), some (.int v1), some (.int v2), some (.int v3), none, none, none, none, none]) (st' := [.int v3, .int (w1 - w2)]) (S' := S) rfl ?_
    obtain ⟨hz2, hr⟩ := ck_some hr
    refine go_idiv mm_69 rfl (by simpa using hz2) ?_
    show Go XC (d + 1) 69 0 26 [some (.ref 30), some (.int v1), some (.int v2), some (.int v3), none, none, none, none, none] [.int ((w1 - w2) / v3)] S (RV (vZ r) S)
    refine go_run mm_69 4 (pc' := 33) (ls' := [some (.ref 30), some (.int v1), some (.int v2), some (.int v3), some (.int ((w1 - w2) / v3)), none, none, none, none]) (st' := [.int v2, .ref 21]) (S' := S) rfl ?_
    obtain ⟨w3, hw3, hr⟩ := ob_some hr
    refine go_cv mm_69 (h := 21) (As := [.int v2]) (rest := []) (nl := 2) rfl rfl (show cvOK 69 33 41 20 1 2 3 = true by decide +kernel) rfl rfl rfl (S_20 (ltB_ok rfl) hw3) (KP_V ?_)
    show Go XC (d + 1) 69 0 36 [some (.ref 30), some (.int v1), some (.int v2), some (.int v3), some (.int ((w1 - w2) / v3)), none, none, none, none] [.int w3] S (RV (vZ r) S)
    refine go_run mm_69 3 (pc' := 41) (ls' := [some (.ref 30), some (.int v1), some (.int v2), some (.int v3), some (.int ((w1 - w2) / v3)), none, none, none, none]) (st' := [.int v1, .ref 21, .int w3]) (S' := S) rfl ?_
    obtain ⟨w4, hw4, hr⟩ := ob_some hr
    refine go_cv mm_69 (h := 21) (As := [.int v1]) (rest := [.int w3]) (nl := 2) rfl rfl (show cvOK 69 41 41 20 1 2 3 = true by decide +kernel) rfl rfl rfl (S_20 (ltB_ok rfl) hw4) (KP_V ?_)
    show Go XC (d + 1) 69 0 44 [some (.ref 30), some (.int v1), some (.int v2), some (.int v3), some (.int ((w1 - w2) / v3)), none, none, none, none] [.int w4, .int w3] S (RV (vZ r) S)
    refine go_run mm_69 2 (pc' := 46) (ls' := [some (.ref 30), some (.int v1), some (.int v2), some (.int v3), some (.int ((w1 - w2) / v3)), none, none, none, none]) (st' := [.int v3, .int (w3 - w4)]) (S' := S) rfl ?_
    obtain ⟨hz3, hr⟩ := ck_some hr
    refine go_idiv mm_69 rfl (by simpa using hz3) ?_
    show Go XC (d + 1) 69 0 47 [some (.ref 30), some (.int v1), some (.int v2), some (.int v3), some (.int ((w1 - w2) / v3)), none, none, none, none] [.int ((w3 - w4) / v3)] S (RV (vZ r) S)
    refine go_run mm_69 5 (pc' := 55) (ls' := [some (.ref 30), some (.int v1), some (.int v2), some (.int v3), some (.int ((w1 - w2) / v3)), some (.int ((w3 - w4) / v3)), some (.int v1), some (.int 1), none]) (st' := []) (S' := S) rfl ?_
    obtain ⟨z55, he55, hr⟩ := ob_some hr
    refine Go.le (ls' := [some (.ref 30), some (.int v1), some (.int v2), some (.int v3), some (.int ((w1 - w2) / v3)), some (.int ((w3 - w4) / v3)), some (.int v1), some (.int 1), none]) ?_ (by repeat first | exact True.intro | refine And.intro rfl ?_)
    refine wh_go (P := fun a55 => Go XC (d + 1) 69 0 55 [some (.ref 30), some (.int v1), some (.int v2), some (.int v3), some (.int ((w1 - w2) / v3)), some (.int ((w3 - w4) / v3)), some (.int a55.1), some (.int a55.2), none] [] S (RV (vZ r) S)) (K := fun z => Sum.elim (fun e55 => Go XC (d + 1) 69 0 143 [some (.ref 30), some (.int v1), some (.int v2), some (.int v3), some (.int ((w1 - w2) / v3)), some (.int ((w3 - w4) / v3)), some (.int e55.1), some (.int e55.2), none] [] S (RV (vZ r) S)) (fun o => (RV (vZ r) S) 0 (.inr (vZ o)) S) z) (fun a9 r9 h9 hL hR => LS_69_55 h9 hL hR) _ _ _ he55 ?_
    rcases z55 with e55 | o
    rotate_left
    · simp only [Sum.elim_inr] at hr
      cases hr
      exact ⟨rfl, rfl, rfl⟩
    simp only [Sum.elim_inl] at hr
    show Go XC (d + 1) 69 0 143 [some (.ref 30), some (.int v1), some (.int v2), some (.int v3), some (.int ((w1 - w2) / v3)), some (.int ((w3 - w4) / v3)), some (.int e55.1), some (.int e55.2), none] [] S (RV (vZ r) S)
    refine go_run mm_69 1 (pc' := 144) (ls' := [some (.ref 30), some (.int v1), some (.int v2), some (.int v3), some (.int ((w1 - w2) / v3)), some (.int ((w3 - w4) / v3)), some (.int e55.1), some (.int e55.2), none]) (st' := [.int 1]) (S' := S) rfl ?_
    cases hr
    exact go_zreturn mm_69 rfl rfl (Or.inr rfl) ⟨rfl, rfl, rfl⟩

theorem mm_70 : mtG 70 = some (mi_70, 7, ft_70) := rfl
def L_70_3 (v0 : Int32) (v1 : Int32) (S : ST) (a3 : Int32) : Option ((Int32) ⊕ ((Int32) ⊕ Int32)) := if (1 : Int32) < a3 then (ck (!(decide (a3 = 0))) (if (v0 - v0 / a3 * a3) = 0 then (ck (!(decide (a3 = 0))) (if (v1 - v1 / a3 * a3) = 0 then (some (.inr (.inr a3))) else (some (.inl (a3 + (-1)))))) else (some (.inl (a3 + (-1)))))) else (some (.inr (.inl (a3))))
set_option maxRecDepth 20000 in
theorem LS_70_3 {d : Nat} {R : RT} {S : ST} {v0 : Int32} {v1 : Int32} {a3 : Int32} {r9} (hr : L_70_3 v0 v1 S a3 = some r9) (hL : ∀ a9, r9 = .inl a9 → (fun a3 => Go XC d 70 0 3 [some (.int v0), some (.int v1), some (.int a3)] [] S R) a9) (hR : ∀ b9, r9 = .inr b9 → Sum.elim (fun e3 => Go XC d 70 0 28 [some (.int v0), some (.int v1), some (.int e3)] [] S R) (fun o => R 0 (.inr (vI o)) S) b9) : Go XC d 70 0 3 [some (.int v0), some (.int v1), some (.int a3)] [] S R := by
  unfold L_70_3 at hr
  refine go_run mm_70 2 (pc' := 5) (ls' := [some (.int v0), some (.int v1), some (.int a3)]) (st' := [.int 1, .int a3]) (S' := S) rfl ?_
  refine go_if2 mm_70 rfl (p1 := 8) (p2 := 28) rfl (fun (hc1 : (1 : Int32) < a3) => ?_) (fun (hc1 : ¬ (1 : Int32) < a3) => ?_)
  · rw [if_pos hc1] at hr
    refine go_run mm_70 2 (pc' := 10) (ls' := [some (.int v0), some (.int v1), some (.int a3)]) (st' := [.int a3, .int v0]) (S' := S) rfl ?_
    obtain ⟨hz2, hr⟩ := ck_some hr
    refine go_irem mm_70 rfl (by simpa using hz2) ?_
    show Go XC d 70 0 11 [some (.int v0), some (.int v1), some (.int a3)] [.int (v0 - v0 / a3 * a3)] S R
    refine go_if0 mm_70 rfl (p1 := 14) (p2 := 22) rfl (fun (hc3 : (v0 - v0 / a3 * a3) = 0) => ?_) (fun (hc3 : ¬ (v0 - v0 / a3 * a3) = 0) => ?_)
    · rw [if_pos hc3] at hr
      refine go_run mm_70 2 (pc' := 16) (ls' := [some (.int v0), some (.int v1), some (.int a3)]) (st' := [.int a3, .int v1]) (S' := S) rfl ?_
      obtain ⟨hz4, hr⟩ := ck_some hr
      refine go_irem mm_70 rfl (by simpa using hz4) ?_
      show Go XC d 70 0 17 [some (.int v0), some (.int v1), some (.int a3)] [.int (v1 - v1 / a3 * a3)] S R
      refine go_if0 mm_70 rfl (p1 := 20) (p2 := 22) rfl (fun (hc5 : (v1 - v1 / a3 * a3) = 0) => ?_) (fun (hc5 : ¬ (v1 - v1 / a3 * a3) = 0) => ?_)
      · rw [if_pos hc5] at hr
        refine go_run mm_70 1 (pc' := 21) (ls' := [some (.int v0), some (.int v1), some (.int a3)]) (st' := [.int a3]) (S' := S) rfl ?_
        cases hr
        have h9 : R 0 (.inr (vI a3)) S := hR _ rfl
        exact go_ireturn mm_70 rfl rfl h9
      · rw [if_neg hc5] at hr
        refine go_run mm_70 2 (pc' := 3) (ls' := [some (.int v0), some (.int v1), some (.int (a3 + (-1)))]) (st' := []) (S' := S) rfl ?_
        cases hr
        have h9 := hL (a3 + (-1)) rfl
        dsimp only at h9
        exact Go.le h9 (by repeat first | exact True.intro | refine And.intro rfl ?_)
    · rw [if_neg hc3] at hr
      refine go_run mm_70 2 (pc' := 3) (ls' := [some (.int v0), some (.int v1), some (.int (a3 + (-1)))]) (st' := []) (S' := S) rfl ?_
      cases hr
      have h9 := hL (a3 + (-1)) rfl
      dsimp only at h9
      exact Go.le h9 (by repeat first | exact True.intro | refine And.intro rfl ?_)
  · rw [if_neg hc1] at hr
    cases hr
    have h9 := hR (.inl (a3)) rfl
    dsimp only [Sum.elim_inl] at h9
    exact Go.le h9 (by repeat first | exact True.intro | refine And.intro rfl ?_)
def F_70 (v0 : Int32) (v1 : Int32) (S : ST) : Option Int32 := ob (wh FU (L_70_3 v0 v1 S) (15)) (fun z => Sum.elim (fun e3 => some 1) (fun o => some o) z)
set_option maxRecDepth 20000 in
theorem S_70 {d : Nat} {S : ST} {v0 : Int32} {v1 : Int32} {r} (hr : F_70 v0 v1 S = some r) : Cal XC d 70 [.int v0, .int v1] S (RV (vI r) S) := by
  unfold F_70 at hr
  refine cal_go 1 rfl ?_
  refine go_run mm_70 2 (pc' := 3) (ls' := [some (.int v0), some (.int v1), some (.int 15)]) (st' := []) (S' := S) rfl ?_
  obtain ⟨z3, he3, hr⟩ := ob_some hr
  refine Go.le (ls' := [some (.int v0), some (.int v1), some (.int 15)]) ?_ (by repeat first | exact True.intro | refine And.intro rfl ?_)
  refine wh_go (P := fun a3 => Go XC d 70 0 3 [some (.int v0), some (.int v1), some (.int a3)] [] S (RV (vI r) S)) (K := fun z => Sum.elim (fun e3 => Go XC d 70 0 28 [some (.int v0), some (.int v1), some (.int e3)] [] S (RV (vI r) S)) (fun o => (RV (vI r) S) 0 (.inr (vI o)) S) z) (fun a9 r9 h9 hL hR => LS_70_3 h9 hL hR) _ _ _ he3 ?_
  rcases z3 with e3 | o
  rotate_left
  · simp only [Sum.elim_inr] at hr
    cases hr
    exact ⟨rfl, rfl, rfl⟩
  simp only [Sum.elim_inl] at hr
  show Go XC d 70 0 28 [some (.int v0), some (.int v1), some (.int e3)] [] S (RV (vI r) S)
  refine go_run mm_70 1 (pc' := 29) (ls' := [some (.int v0), some (.int v1), some (.int e3)]) (st' := [.int 1]) (S' := S) rfl ?_
  cases hr
  exact go_ireturn mm_70 rfl rfl ⟨rfl, rfl, rfl⟩

theorem mm_67 : mtG 67 = some (mi_67, 7, ft_67) := rfl
def L_67_33 (v1 : Bool) (p33_2 : Int32) (a33 : Int32 × ST) : Option ((Int32 × ST) ⊕ (Int32 × ST)) := if a33.1 < p33_2 then (ob (F_19 21 a33.1 a33.2) (fun w1 => ob (F_19 21 p33_2 a33.2) (fun w2 => ob (F_20 21 a33.1 a33.2) (fun w3 => ob (F_20 21 p33_2 a33.2) (fun w4 => ob (F_70 (w1 - w2) (w3 - w4) a33.2) (fun w5 => if v1 = true then (if (1 : Int32) < w5 then (ob (F_69 p33_2 a33.1 w5 a33.2) (fun w6 => if w6 = true then (ck (ibd p33_2 64) (ck (ibd p33_2 64) (sbn ((wL a33.2 31 (Int32.toNatClampNeg p33_2) ((a33.2.2 31 (Int32.toNatClampNeg p33_2)) ||| (1 <<< (Int32.toInt64 a33.1 &&& 63))))) (fun s12 => ck (ibd a33.1 64) (ck (ibd a33.1 64) (sbn ((wL s12 31 (Int32.toNatClampNeg a33.1) ((s12.2 31 (Int32.toNatClampNeg a33.1)) ||| (1 <<< (Int32.toInt64 p33_2 &&& 63))))) (fun s15 => some (.inl (a33.1 + 1, s15))))))))) else (some (.inl (a33.1 + 1, a33.2))))) else (some (.inl (a33.1 + 1, a33.2)))) else (if w5 = 1 then (ob (F_68 p33_2 a33.1 a33.2) (fun w7 => if w7 = true then (ck (ibd p33_2 64) (ck (ibd p33_2 64) (sbn ((wL a33.2 31 (Int32.toNatClampNeg p33_2) ((a33.2.2 31 (Int32.toNatClampNeg p33_2)) ||| (1 <<< (Int32.toInt64 a33.1 &&& 63))))) (fun s20 => ck (ibd a33.1 64) (ck (ibd a33.1 64) (sbn ((wL s20 31 (Int32.toNatClampNeg a33.1) ((s20.2 31 (Int32.toNatClampNeg a33.1)) ||| (1 <<< (Int32.toInt64 p33_2 &&& 63))))) (fun s23 => some (.inl (a33.1 + 1, s23))))))))) else (some (.inl (a33.1 + 1, a33.2))))) else (some (.inl (a33.1 + 1, a33.2)))))))))) else (some (.inr (a33.1, a33.2)))
set_option maxRecDepth 20000 in
theorem LS_67_33 {d : Nat} {R : RT} {v1 : Bool} {p33_2 : Int32} {a33 : Int32 × ST} {r9} (hr : L_67_33 v1 p33_2 a33 = some r9) (hL : ∀ a9, r9 = .inl a9 → (fun a33 => Go XC (d + 4) 67 0 33 [some (.ref 30), some (.int (b2i v1)), some (.int p33_2), some (.int a33.1), none] [] a33.2 R) a9) (hR : ∀ b9, r9 = .inr b9 → (fun e33 => Go XC (d + 4) 67 0 146 [some (.ref 30), some (.int (b2i v1)), some (.int p33_2), some (.int e33.1), none] [] e33.2 R) b9) : Go XC (d + 4) 67 0 33 [some (.ref 30), some (.int (b2i v1)), some (.int p33_2), some (.int a33.1), none] [] a33.2 R := by
  unfold L_67_33 at hr
  refine go_run mm_67 2 (pc' := 35) (ls' := [some (.ref 30), some (.int (b2i v1)), some (.int p33_2), some (.int a33.1), none]) (st' := [.int p33_2, .int a33.1]) (S' := a33.2) rfl ?_
  refine go_if2 mm_67 rfl (p1 := 38) (p2 := 146) rfl (fun (hc6 : a33.1 < p33_2) => ?_) (fun (hc6 : ¬ a33.1 < p33_2) => ?_)
  · rw [if_pos hc6] at hr
    refine go_run mm_67 3 (pc' := 43) (ls' := [some (.ref 30), some (.int (b2i v1)), some (.int p33_2), some (.int a33.1), none]) (st' := [.int a33.1, .ref 21]) (S' := a33.2) rfl ?_
    obtain ⟨w1, hw1, hr⟩ := ob_some hr
    refine go_cv mm_67 (h := 21) (As := [.int a33.1]) (rest := []) (nl := 2) rfl rfl (show cvOK 67 43 37 19 1 2 3 = true by decide +kernel) rfl rfl rfl (S_19 (ltB_ok rfl) hw1) (KP_V ?_)
    show Go XC (d + 4) 67 0 46 [some (.ref 30), some (.int (b2i v1)), some (.int p33_2), some (.int a33.1), none] [.int w1] a33.2 R
    refine go_run mm_67 3 (pc' := 51) (ls' := [some (.ref 30), some (.int (b2i v1)), some (.int p33_2), some (.int a33.1), none]) (st' := [.int p33_2, .ref 21, .int w1]) (S' := a33.2) rfl ?_
    obtain ⟨w2, hw2, hr⟩ := ob_some hr
    refine go_cv mm_67 (h := 21) (As := [.int p33_2]) (rest := [.int w1]) (nl := 2) rfl rfl (show cvOK 67 51 37 19 1 2 3 = true by decide +kernel) rfl rfl rfl (S_19 (ltB_ok rfl) hw2) (KP_V ?_)
    show Go XC (d + 4) 67 0 54 [some (.ref 30), some (.int (b2i v1)), some (.int p33_2), some (.int a33.1), none] [.int w2, .int w1] a33.2 R
    refine go_run mm_67 4 (pc' := 60) (ls' := [some (.ref 30), some (.int (b2i v1)), some (.int p33_2), some (.int a33.1), none]) (st' := [.int a33.1, .ref 21, .int (w1 - w2)]) (S' := a33.2) rfl ?_
    obtain ⟨w3, hw3, hr⟩ := ob_some hr
    refine go_cv mm_67 (h := 21) (As := [.int a33.1]) (rest := [.int (w1 - w2)]) (nl := 2) rfl rfl (show cvOK 67 60 41 20 1 2 3 = true by decide +kernel) rfl rfl rfl (S_20 (ltB_ok rfl) hw3) (KP_V ?_)
    show Go XC (d + 4) 67 0 63 [some (.ref 30), some (.int (b2i v1)), some (.int p33_2), some (.int a33.1), none] [.int w3, .int (w1 - w2)] a33.2 R
    refine go_run mm_67 3 (pc' := 68) (ls' := [some (.ref 30), some (.int (b2i v1)), some (.int p33_2), some (.int a33.1), none]) (st' := [.int p33_2, .ref 21, .int w3, .int (w1 - w2)]) (S' := a33.2) rfl ?_
    obtain ⟨w4, hw4, hr⟩ := ob_some hr
    refine go_cv mm_67 (h := 21) (As := [.int p33_2]) (rest := [.int w3, .int (w1 - w2)]) (nl := 2) rfl rfl (show cvOK 67 68 41 20 1 2 3 = true by decide +kernel) rfl rfl rfl (S_20 (ltB_ok rfl) hw4) (KP_V ?_)
    show Go XC (d + 4) 67 0 71 [some (.ref 30), some (.int (b2i v1)), some (.int p33_2), some (.int a33.1), none] [.int w4, .int w3, .int (w1 - w2)] a33.2 R
    refine go_run mm_67 1 (pc' := 72) (ls' := [some (.ref 30), some (.int (b2i v1)), some (.int p33_2), some (.int a33.1), none]) (st' := [.int (w3 - w4), .int (w1 - w2)]) (S' := a33.2) rfl ?_
    obtain ⟨w5, hw5, hr⟩ := ob_some hr
    refine go_cs mm_67 (av := [.int (w1 - w2), .int (w3 - w4)]) (rest := []) (nl := 3) rfl (show csOK 67 72 44 70 2 3 = true by decide +kernel) rfl rfl rfl (S_70 hw5) (KP_V ?_)
    show Go XC (d + 4) 67 0 75 [some (.ref 30), some (.int (b2i v1)), some (.int p33_2), some (.int a33.1), none] [.int w5] a33.2 R
    refine go_run mm_67 2 (pc' := 78) (ls' := [some (.ref 30), some (.int (b2i v1)), some (.int p33_2), some (.int a33.1), some (.int w5)]) (st' := [.int (b2i v1)]) (S' := a33.2) rfl ?_
    refine go_ifb mm_67 rfl (p1 := 81) (p2 := 101) rfl (fun (hc7 : v1 = true) => ?_) (fun (hc7 : v1 = false) => ?_)
    · rw [if_pos hc7] at hr
      refine go_run mm_67 2 (pc' := 84) (ls' := [some (.ref 30), some (.int (b2i v1)), some (.int p33_2), some (.int a33.1), some (.int w5)]) (st' := [.int 1, .int w5]) (S' := a33.2) rfl ?_
      refine go_if2 mm_67 rfl (p1 := 87) (p2 := 140) rfl (fun (hc8 : (1 : Int32) < w5) => ?_) (fun (hc8 : ¬ (1 : Int32) < w5) => ?_)
      · rw [if_pos hc8] at hr
        refine go_run mm_67 4 (pc' := 92) (ls' := [some (.ref 30), some (.int (b2i v1)), some (.int p33_2), some (.int a33.1), some (.int w5)]) (st' := [.int w5, .int a33.1, .int p33_2, .ref 30]) (S' := a33.2) rfl ?_
        obtain ⟨w6, hw6, hr⟩ := ob_some hr
        refine go_cv mm_67 (h := 30) (As := [.int p33_2, .int a33.1, .int w5]) (rest := []) (nl := 9) rfl rfl (show cvOK 67 92 48 69 3 9 6 = true by decide +kernel) rfl rfl rfl (S_69 hw6) (KP_V ?_)
        show Go XC (d + 4) 67 0 95 [some (.ref 30), some (.int (b2i v1)), some (.int p33_2), some (.int a33.1), some (.int w5)] [.int (b2i w6)] a33.2 R
        refine go_ifb mm_67 rfl (p1 := 98) (p2 := 140) rfl (fun (hc9 : w6 = true) => ?_) (fun (hc9 : w6 = false) => ?_)
        · rw [if_pos hc9] at hr
          refine go_run mm_67 5 (pc' := 122) (ls' := [some (.ref 30), some (.int (b2i v1)), some (.int p33_2), some (.int a33.1), some (.int w5)]) (st' := [.int p33_2, .ref 31, .int p33_2, .ref 31]) (S' := a33.2) rfl ?_
          obtain ⟨hb10, hr⟩ := ck_some hr
          refine go_laload mm_67 (q := (Int32.toNatClampNeg p33_2)) rfl rfl rfl (ibd_ok hb10) ?_
          show Go XC (d + 4) 67 0 123 [some (.ref 30), some (.int (b2i v1)), some (.int p33_2), some (.int a33.1), some (.int w5)] [.long (a33.2.2 31 (Int32.toNatClampNeg p33_2)), .int p33_2, .ref 31] a33.2 R
          refine go_run mm_67 4 (pc' := 127) (ls' := [some (.ref 30), some (.int (b2i v1)), some (.int p33_2), some (.int a33.1), some (.int w5)]) (st' := [.long ((a33.2.2 31 (Int32.toNatClampNeg p33_2)) ||| (1 <<< (Int32.toInt64 a33.1 &&& 63))), .int p33_2, .ref 31]) (S' := a33.2) rfl ?_
          obtain ⟨hb11, hr⟩ := ck_some hr
          refine go_lastore mm_67 (q := (Int32.toNatClampNeg p33_2)) rfl rfl rfl (ibd_ok hb11) ?_
          show Go XC (d + 4) 67 0 128 [some (.ref 30), some (.int (b2i v1)), some (.int p33_2), some (.int a33.1), some (.int w5)] [] (wL a33.2 31 (Int32.toNatClampNeg p33_2) ((a33.2.2 31 (Int32.toNatClampNeg p33_2)) ||| (1 <<< (Int32.toInt64 a33.1 &&& 63)))) R
          obtain ⟨s12, es12, hr⟩ := sbn_some hr
          rw [← es12]
          refine go_run mm_67 4 (pc' := 134) (ls' := [some (.ref 30), some (.int (b2i v1)), some (.int p33_2), some (.int a33.1), some (.int w5)]) (st' := [.int a33.1, .ref 31, .int a33.1, .ref 31]) (S' := s12) rfl ?_
          obtain ⟨hb13, hr⟩ := ck_some hr
          refine go_laload mm_67 (q := (Int32.toNatClampNeg a33.1)) rfl rfl rfl (ibd_ok hb13) ?_
          show Go XC (d + 4) 67 0 135 [some (.ref 30), some (.int (b2i v1)), some (.int p33_2), some (.int a33.1), some (.int w5)] [.long (s12.2 31 (Int32.toNatClampNeg a33.1)), .int a33.1, .ref 31] s12 R
          refine go_run mm_67 4 (pc' := 139) (ls' := [some (.ref 30), some (.int (b2i v1)), some (.int p33_2), some (.int a33.1), some (.int w5)]) (st' := [.long ((s12.2 31 (Int32.toNatClampNeg a33.1)) ||| (1 <<< (Int32.toInt64 p33_2 &&& 63))), .int a33.1, .ref 31]) (S' := s12) rfl ?_
          obtain ⟨hb14, hr⟩ := ck_some hr
          refine go_lastore mm_67 (q := (Int32.toNatClampNeg a33.1)) rfl rfl rfl (ibd_ok hb14) ?_
          show Go XC (d + 4) 67 0 140 [some (.ref 30), some (.int (b2i v1)), some (.int p33_2), some (.int a33.1), some (.int w5)] [] (wL s12 31 (Int32.toNatClampNeg a33.1) ((s12.2 31 (Int32.toNatClampNeg a33.1)) ||| (1 <<< (Int32.toInt64 p33_2 &&& 63)))) R
          obtain ⟨s15, es15, hr⟩ := sbn_some hr
          rw [← es15]
          refine go_run mm_67 2 (pc' := 33) (ls' := [some (.ref 30), some (.int (b2i v1)), some (.int p33_2), some (.int (a33.1 + 1)), some (.int w5)]) (st' := []) (S' := s15) rfl ?_
          cases hr
          have h9 := hL (a33.1 + 1, s15) rfl
          dsimp only at h9
          exact Go.le h9 (by repeat first | exact True.intro | refine And.intro rfl ?_)
        · rw [if_neg (bf hc9)] at hr
          refine go_run mm_67 2 (pc' := 33) (ls' := [some (.ref 30), some (.int (b2i v1)), some (.int p33_2), some (.int (a33.1 + 1)), some (.int w5)]) (st' := []) (S' := a33.2) rfl ?_
          cases hr
          have h9 := hL (a33.1 + 1, a33.2) rfl
          dsimp only at h9
          exact Go.le h9 (by repeat first | exact True.intro | refine And.intro rfl ?_)
      · rw [if_neg hc8] at hr
        refine go_run mm_67 2 (pc' := 33) (ls' := [some (.ref 30), some (.int (b2i v1)), some (.int p33_2), some (.int (a33.1 + 1)), some (.int w5)]) (st' := []) (S' := a33.2) rfl ?_
        cases hr
        have h9 := hL (a33.1 + 1, a33.2) rfl
        dsimp only at h9
        exact Go.le h9 (by repeat first | exact True.intro | refine And.intro rfl ?_)
    · rw [if_neg (bf hc7)] at hr
      refine go_run mm_67 2 (pc' := 104) (ls' := [some (.ref 30), some (.int (b2i v1)), some (.int p33_2), some (.int a33.1), some (.int w5)]) (st' := [.int 1, .int w5]) (S' := a33.2) rfl ?_
      refine go_if2 mm_67 rfl (p1 := 107) (p2 := 140) rfl (fun (hc16 : w5 = 1) => ?_) (fun (hc16 : ¬ w5 = 1) => ?_)
      · rw [if_pos hc16] at hr
        refine go_run mm_67 3 (pc' := 110) (ls' := [some (.ref 30), some (.int (b2i v1)), some (.int p33_2), some (.int a33.1), some (.int w5)]) (st' := [.int a33.1, .int p33_2, .ref 30]) (S' := a33.2) rfl ?_
        obtain ⟨w7, hw7, hr⟩ := ob_some hr
        refine go_cv mm_67 (h := 30) (As := [.int p33_2, .int a33.1]) (rest := []) (nl := 8) rfl rfl (show cvOK 67 110 52 68 2 8 6 = true by decide +kernel) rfl rfl rfl (S_68 hw7) (KP_V ?_)
        show Go XC (d + 4) 67 0 113 [some (.ref 30), some (.int (b2i v1)), some (.int p33_2), some (.int a33.1), some (.int w5)] [.int (b2i w7)] a33.2 R
        refine go_ifb mm_67 rfl (p1 := 116) (p2 := 140) rfl (fun (hc17 : w7 = true) => ?_) (fun (hc17 : w7 = false) => ?_)
        · rw [if_pos hc17] at hr
          refine go_run mm_67 4 (pc' := 122) (ls' := [some (.ref 30), some (.int (b2i v1)), some (.int p33_2), some (.int a33.1), some (.int w5)]) (st' := [.int p33_2, .ref 31, .int p33_2, .ref 31]) (S' := a33.2) rfl ?_
          obtain ⟨hb18, hr⟩ := ck_some hr
          refine go_laload mm_67 (q := (Int32.toNatClampNeg p33_2)) rfl rfl rfl (ibd_ok hb18) ?_
          show Go XC (d + 4) 67 0 123 [some (.ref 30), some (.int (b2i v1)), some (.int p33_2), some (.int a33.1), some (.int w5)] [.long (a33.2.2 31 (Int32.toNatClampNeg p33_2)), .int p33_2, .ref 31] a33.2 R
          refine go_run mm_67 4 (pc' := 127) (ls' := [some (.ref 30), some (.int (b2i v1)), some (.int p33_2), some (.int a33.1), some (.int w5)]) (st' := [.long ((a33.2.2 31 (Int32.toNatClampNeg p33_2)) ||| (1 <<< (Int32.toInt64 a33.1 &&& 63))), .int p33_2, .ref 31]) (S' := a33.2) rfl ?_
          obtain ⟨hb19, hr⟩ := ck_some hr
          refine go_lastore mm_67 (q := (Int32.toNatClampNeg p33_2)) rfl rfl rfl (ibd_ok hb19) ?_
          show Go XC (d + 4) 67 0 128 [some (.ref 30), some (.int (b2i v1)), some (.int p33_2), some (.int a33.1), some (.int w5)] [] (wL a33.2 31 (Int32.toNatClampNeg p33_2) ((a33.2.2 31 (Int32.toNatClampNeg p33_2)) ||| (1 <<< (Int32.toInt64 a33.1 &&& 63)))) R
          obtain ⟨s20, es20, hr⟩ := sbn_some hr
          rw [← es20]
          refine go_run mm_67 4 (pc' := 134) (ls' := [some (.ref 30), some (.int (b2i v1)), some (.int p33_2), some (.int a33.1), some (.int w5)]) (st' := [.int a33.1, .ref 31, .int a33.1, .ref 31]) (S' := s20) rfl ?_
          obtain ⟨hb21, hr⟩ := ck_some hr
          refine go_laload mm_67 (q := (Int32.toNatClampNeg a33.1)) rfl rfl rfl (ibd_ok hb21) ?_
          show Go XC (d + 4) 67 0 135 [some (.ref 30), some (.int (b2i v1)), some (.int p33_2), some (.int a33.1), some (.int w5)] [.long (s20.2 31 (Int32.toNatClampNeg a33.1)), .int a33.1, .ref 31] s20 R
          refine go_run mm_67 4 (pc' := 139) (ls' := [some (.ref 30), some (.int (b2i v1)), some (.int p33_2), some (.int a33.1), some (.int w5)]) (st' := [.long ((s20.2 31 (Int32.toNatClampNeg a33.1)) ||| (1 <<< (Int32.toInt64 p33_2 &&& 63))), .int a33.1, .ref 31]) (S' := s20) rfl ?_
          obtain ⟨hb22, hr⟩ := ck_some hr
          refine go_lastore mm_67 (q := (Int32.toNatClampNeg a33.1)) rfl rfl rfl (ibd_ok hb22) ?_
          show Go XC (d + 4) 67 0 140 [some (.ref 30), some (.int (b2i v1)), some (.int p33_2), some (.int a33.1), some (.int w5)] [] (wL s20 31 (Int32.toNatClampNeg a33.1) ((s20.2 31 (Int32.toNatClampNeg a33.1)) ||| (1 <<< (Int32.toInt64 p33_2 &&& 63)))) R
          obtain ⟨s23, es23, hr⟩ := sbn_some hr
          rw [← es23]
          refine go_run mm_67 2 (pc' := 33) (ls' := [some (.ref 30), some (.int (b2i v1)), some (.int p33_2), some (.int (a33.1 + 1)), some (.int w5)]) (st' := []) (S' := s23) rfl ?_
          cases hr
          have h9 := hL (a33.1 + 1, s23) rfl
          dsimp only at h9
          exact Go.le h9 (by repeat first | exact True.intro | refine And.intro rfl ?_)
        · rw [if_neg (bf hc17)] at hr
          refine go_run mm_67 2 (pc' := 33) (ls' := [some (.ref 30), some (.int (b2i v1)), some (.int p33_2), some (.int (a33.1 + 1)), some (.int w5)]) (st' := []) (S' := a33.2) rfl ?_
          cases hr
          have h9 := hL (a33.1 + 1, a33.2) rfl
          dsimp only at h9
          exact Go.le h9 (by repeat first | exact True.intro | refine And.intro rfl ?_)
      · rw [if_neg hc16] at hr
        refine go_run mm_67 2 (pc' := 33) (ls' := [some (.ref 30), some (.int (b2i v1)), some (.int p33_2), some (.int (a33.1 + 1)), some (.int w5)]) (st' := []) (S' := a33.2) rfl ?_
        cases hr
        have h9 := hL (a33.1 + 1, a33.2) rfl
        dsimp only at h9
        exact Go.le h9 (by repeat first | exact True.intro | refine And.intro rfl ?_)
  · rw [if_neg hc6] at hr
    cases hr
    have h9 := hR (a33.1, a33.2) rfl
    dsimp only [Sum.elim_inl] at h9
    exact Go.le h9 (by repeat first | exact True.intro | refine And.intro rfl ?_)
def L_67_2 (v1 : Bool) (a2 : Int32 × ST) : Option ((Int32 × ST) ⊕ (Int32 × ST)) := if a2.1 < (a2.2.1 21 0) then (if a2.1 < 64 then (ck (ibd a2.1 64) (ck (ibd a2.1 64) (sbn ((wL a2.2 31 (Int32.toNatClampNeg a2.1) ((a2.2.2 31 (Int32.toNatClampNeg a2.1)) ||| (1 <<< (Int32.toInt64 a2.1 &&& 63))))) (fun s5 => ob (wh FU (L_67_33 v1 a2.1) (0, s5)) (fun e33 => some (.inl (a2.1 + 1, e33.2))))))) else (some (.inr (a2.1, a2.2)))) else (some (.inr (a2.1, a2.2)))
set_option maxRecDepth 20000 in
theorem LS_67_2 {d : Nat} {R : RT} {v1 : Bool} {a2 : Int32 × ST} {r9} (hr : L_67_2 v1 a2 = some r9) (hL : ∀ a9, r9 = .inl a9 → (fun a2 => Go XC (d + 4) 67 0 2 [some (.ref 30), some (.int (b2i v1)), some (.int a2.1), none, none] [] a2.2 R) a9) (hR : ∀ b9, r9 = .inr b9 → (fun e2 => Go XC (d + 4) 67 0 152 [some (.ref 30), some (.int (b2i v1)), some (.int e2.1), none, none] [] e2.2 R) b9) : Go XC (d + 4) 67 0 2 [some (.ref 30), some (.int (b2i v1)), some (.int a2.1), none, none] [] a2.2 R := by
  unfold L_67_2 at hr
  refine go_run mm_67 4 (pc' := 10) (ls' := [some (.ref 30), some (.int (b2i v1)), some (.int a2.1), none, none]) (st' := [.int (a2.2.1 21 0), .int a2.1]) (S' := a2.2) rfl ?_
  refine go_if2 mm_67 rfl (p1 := 13) (p2 := 152) rfl (fun (hc1 : a2.1 < (a2.2.1 21 0)) => ?_) (fun (hc1 : ¬ a2.1 < (a2.2.1 21 0)) => ?_)
  · rw [if_pos hc1] at hr
    refine go_run mm_67 2 (pc' := 16) (ls' := [some (.ref 30), some (.int (b2i v1)), some (.int a2.1), none, none]) (st' := [.int 64, .int a2.1]) (S' := a2.2) rfl ?_
    refine go_if2 mm_67 rfl (p1 := 19) (p2 := 152) rfl (fun (hc2 : a2.1 < 64) => ?_) (fun (hc2 : ¬ a2.1 < 64) => ?_)
    · rw [if_pos hc2] at hr
      refine go_run mm_67 4 (pc' := 25) (ls' := [some (.ref 30), some (.int (b2i v1)), some (.int a2.1), none, none]) (st' := [.int a2.1, .ref 31, .int a2.1, .ref 31]) (S' := a2.2) rfl ?_
      obtain ⟨hb3, hr⟩ := ck_some hr
      refine go_laload mm_67 (q := (Int32.toNatClampNeg a2.1)) rfl rfl rfl (ibd_ok hb3) ?_
      show Go XC (d + 4) 67 0 26 [some (.ref 30), some (.int (b2i v1)), some (.int a2.1), none, none] [.long (a2.2.2 31 (Int32.toNatClampNeg a2.1)), .int a2.1, .ref 31] a2.2 R
      refine go_run mm_67 4 (pc' := 30) (ls' := [some (.ref 30), some (.int (b2i v1)), some (.int a2.1), none, none]) (st' := [.long ((a2.2.2 31 (Int32.toNatClampNeg a2.1)) ||| (1 <<< (Int32.toInt64 a2.1 &&& 63))), .int a2.1, .ref 31]) (S' := a2.2) rfl ?_
      obtain ⟨hb4, hr⟩ := ck_some hr
      refine go_lastore mm_67 (q := (Int32.toNatClampNeg a2.1)) rfl rfl rfl (ibd_ok hb4) ?_
      show Go XC (d + 4) 67 0 31 [some (.ref 30), some (.int (b2i v1)), some (.int a2.1), none, none] [] (wL a2.2 31 (Int32.toNatClampNeg a2.1) ((a2.2.2 31 (Int32.toNatClampNeg a2.1)) ||| (1 <<< (Int32.toInt64 a2.1 &&& 63)))) R
      obtain ⟨s5, es5, hr⟩ := sbn_some hr
      rw [← es5]
      refine go_run mm_67 2 (pc' := 33) (ls' := [some (.ref 30), some (.int (b2i v1)), some (.int a2.1), some (.int 0), none]) (st' := []) (S' := s5) rfl ?_
      obtain ⟨z33, he33, hr⟩ := ob_some hr
      refine Go.le (ls' := [some (.ref 30), some (.int (b2i v1)), some (.int a2.1), some (.int 0), none]) ?_ (by repeat first | exact True.intro | refine And.intro rfl ?_)
      refine wh_go (P := fun a33 => Go XC (d + 4) 67 0 33 [some (.ref 30), some (.int (b2i v1)), some (.int a2.1), some (.int a33.1), none] [] a33.2 R) (K := fun e33 => Go XC (d + 4) 67 0 146 [some (.ref 30), some (.int (b2i v1)), some (.int a2.1), some (.int e33.1), none] [] e33.2 R) (fun a9 r9 h9 hL hR => LS_67_33 h9 hL hR) _ _ _ he33 ?_
      generalize z33 = e33 at hr
      show Go XC (d + 4) 67 0 146 [some (.ref 30), some (.int (b2i v1)), some (.int a2.1), some (.int e33.1), none] [] e33.2 R
      refine go_run mm_67 2 (pc' := 2) (ls' := [some (.ref 30), some (.int (b2i v1)), some (.int (a2.1 + 1)), some (.int e33.1), none]) (st' := []) (S' := e33.2) rfl ?_
      cases hr
      have h9 := hL (a2.1 + 1, e33.2) rfl
      dsimp only at h9
      exact Go.le h9 (by repeat first | exact True.intro | refine And.intro rfl ?_)
    · rw [if_neg hc2] at hr
      cases hr
      have h9 := hR (a2.1, a2.2) rfl
      dsimp only [Sum.elim_inl] at h9
      exact Go.le h9 (by repeat first | exact True.intro | refine And.intro rfl ?_)
  · rw [if_neg hc1] at hr
    cases hr
    have h9 := hR (a2.1, a2.2) rfl
    dsimp only [Sum.elim_inl] at h9
    exact Go.le h9 (by repeat first | exact True.intro | refine And.intro rfl ?_)
def F_67 (v1 : Bool) (S : ST) : Option (Unit × ST) := ob (wh FU (L_67_2 v1) (0, S)) (fun e2 => some ((), e2.2))
set_option maxRecDepth 20000 in
theorem S_67 {d : Nat} {S : ST} {v1 : Bool} {r} (hr : F_67 v1 S = some r) : Cal XC (d + 4) 67 [.ref 30, .int (b2i v1)] S (RV (vU r.1) r.2) := by
  unfold F_67 at hr
  refine cal_go 3 rfl ?_
  refine go_run mm_67 2 (pc' := 2) (ls' := [some (.ref 30), some (.int (b2i v1)), some (.int 0), none, none]) (st' := []) (S' := S) rfl ?_
  obtain ⟨z2, he2, hr⟩ := ob_some hr
  refine Go.le (ls' := [some (.ref 30), some (.int (b2i v1)), some (.int 0), none, none]) ?_ (by repeat first | exact True.intro | refine And.intro rfl ?_)
  refine wh_go (P := fun a2 => Go XC (d + 4) 67 0 2 [some (.ref 30), some (.int (b2i v1)), some (.int a2.1), none, none] [] a2.2 (RV (vU r.1) r.2)) (K := fun e2 => Go XC (d + 4) 67 0 152 [some (.ref 30), some (.int (b2i v1)), some (.int e2.1), none, none] [] e2.2 (RV (vU r.1) r.2)) (fun a9 r9 h9 hL hR => LS_67_2 h9 hL hR) _ _ _ he2 ?_
  generalize z2 = e2 at hr
  show Go XC (d + 4) 67 0 152 [some (.ref 30), some (.int (b2i v1)), some (.int e2.1), none, none] [] e2.2 (RV (vU r.1) r.2)
  cases hr
  exact go_vreturn mm_67 rfl rfl ⟨rfl, rfl, rfl⟩

theorem mm_66 : mtG 66 = some (mi_66, 7, ft_66) := rfl
def L_66_15 (a15 : Int32 × ST) : Option ((Int32 × ST) ⊕ (Int32 × ST)) := if a15.1 < 64 then (ck (ibd a15.1 64) (sbn ((wL a15.2 31 (Int32.toNatClampNeg a15.1) 0)) (fun s4 => some (.inl (a15.1 + 1, s4))))) else (some (.inr (a15.1, a15.2)))
set_option maxRecDepth 20000 in
theorem LS_66_15 {d : Nat} {R : RT} {a15 : Int32 × ST} {r9} (hr : L_66_15 a15 = some r9) (hL : ∀ a9, r9 = .inl a9 → (fun a15 => Go XC (d + 5) 66 0 15 [some (.ref 30), some (.int a15.1)] [] a15.2 R) a9) (hR : ∀ b9, r9 = .inr b9 → (fun e15 => Go XC (d + 5) 66 0 34 [some (.ref 30), some (.int e15.1)] [] e15.2 R) b9) : Go XC (d + 5) 66 0 15 [some (.ref 30), some (.int a15.1)] [] a15.2 R := by
  unfold L_66_15 at hr
  refine go_run mm_66 2 (pc' := 18) (ls' := [some (.ref 30), some (.int a15.1)]) (st' := [.int 64, .int a15.1]) (S' := a15.2) rfl ?_
  refine go_if2 mm_66 rfl (p1 := 21) (p2 := 34) rfl (fun (hc2 : a15.1 < 64) => ?_) (fun (hc2 : ¬ a15.1 < 64) => ?_)
  · rw [if_pos hc2] at hr
    refine go_run mm_66 4 (pc' := 27) (ls' := [some (.ref 30), some (.int a15.1)]) (st' := [.long 0, .int a15.1, .ref 31]) (S' := a15.2) rfl ?_
    obtain ⟨hb3, hr⟩ := ck_some hr
    refine go_lastore mm_66 (q := (Int32.toNatClampNeg a15.1)) rfl rfl rfl (ibd_ok hb3) ?_
    show Go XC (d + 5) 66 0 28 [some (.ref 30), some (.int a15.1)] [] (wL a15.2 31 (Int32.toNatClampNeg a15.1) 0) R
    obtain ⟨s4, es4, hr⟩ := sbn_some hr
    rw [← es4]
    refine go_run mm_66 2 (pc' := 15) (ls' := [some (.ref 30), some (.int (a15.1 + 1))]) (st' := []) (S' := s4) rfl ?_
    cases hr
    have h9 := hL (a15.1 + 1, s4) rfl
    dsimp only at h9
    exact Go.le h9 (by repeat first | exact True.intro | refine And.intro rfl ?_)
  · rw [if_neg hc2] at hr
    cases hr
    have h9 := hR (a15.1, a15.2) rfl
    dsimp only [Sum.elim_inl] at h9
    exact Go.le h9 (by repeat first | exact True.intro | refine And.intro rfl ?_)
def F_66 (S : ST) : Option (Unit × ST) := if (S.1 30 3) = 0 then (ob (wh FU (L_66_15) (0, (wI S 30 3 1))) (fun e15 => ob (F_67 false e15.2) (fun w1 => ob (F_67 true w1.2) (fun w2 => some ((), w2.2))))) else (some ((), S))
set_option maxRecDepth 20000 in
theorem S_66 {d : Nat} {S : ST} {r} (hr : F_66 S = some r) : Cal XC (d + 5) 66 [.ref 30] S (RV (vU r.1) r.2) := by
  unfold F_66 at hr
  refine cal_go 1 rfl ?_
  refine go_run mm_66 2 (pc' := 4) (ls' := [some (.ref 30), none]) (st' := [.int (S.1 30 3)]) (S' := S) rfl ?_
  refine go_if0 mm_66 rfl (p1 := 8) (p2 := 7) rfl (fun (hc1 : (S.1 30 3) = 0) => ?_) (fun (hc1 : ¬ (S.1 30 3) = 0) => ?_)
  · rw [if_pos hc1] at hr
    refine go_run mm_66 5 (pc' := 15) (ls' := [some (.ref 30), some (.int 0)]) (st' := []) (S' := (wI S 30 3 1)) rfl ?_
    obtain ⟨z15, he15, hr⟩ := ob_some hr
    refine Go.le (ls' := [some (.ref 30), some (.int 0)]) ?_ (by repeat first | exact True.intro | refine And.intro rfl ?_)
    refine wh_go (P := fun a15 => Go XC (d + 5) 66 0 15 [some (.ref 30), some (.int a15.1)] [] a15.2 (RV (vU r.1) r.2)) (K := fun e15 => Go XC (d + 5) 66 0 34 [some (.ref 30), some (.int e15.1)] [] e15.2 (RV (vU r.1) r.2)) (fun a9 r9 h9 hL hR => LS_66_15 h9 hL hR) _ _ _ he15 ?_
    generalize z15 = e15 at hr
    show Go XC (d + 5) 66 0 34 [some (.ref 30), some (.int e15.1)] [] e15.2 (RV (vU r.1) r.2)
    refine go_run mm_66 2 (pc' := 36) (ls' := [some (.ref 30), some (.int e15.1)]) (st' := [.int 0, .ref 30]) (S' := e15.2) rfl ?_
    obtain ⟨w1, hw1, hr⟩ := ob_some hr
    refine go_cv mm_66 (h := 30) (As := [.int (b2i false)]) (rest := []) (nl := 5) rfl rfl (show cvOK 66 36 27 67 1 5 6 = true by decide +kernel) rfl rfl rfl (S_67 hw1) (KP_V ?_)
    show Go XC (d + 5) 66 0 39 [some (.ref 30), some (.int e15.1)] [] w1.2 (RV (vU r.1) r.2)
    refine go_run mm_66 2 (pc' := 41) (ls' := [some (.ref 30), some (.int e15.1)]) (st' := [.int 1, .ref 30]) (S' := w1.2) rfl ?_
    obtain ⟨w2, hw2, hr⟩ := ob_some hr
    refine go_cv mm_66 (h := 30) (As := [.int (b2i true)]) (rest := []) (nl := 5) rfl rfl (show cvOK 66 41 27 67 1 5 6 = true by decide +kernel) rfl rfl rfl (S_67 hw2) (KP_V ?_)
    show Go XC (d + 5) 66 0 44 [some (.ref 30), some (.int e15.1)] [] w2.2 (RV (vU r.1) r.2)
    cases hr
    exact go_vreturn mm_66 rfl rfl ⟨rfl, rfl, rfl⟩
  · rw [if_neg hc1] at hr
    cases hr
    exact go_vreturn mm_66 rfl rfl ⟨rfl, rfl, rfl⟩

theorem mm_71 : mtG 71 = some (mi_71, 7, ft_71) := rfl
def F_71 (S : ST) : Int64 := (F_21 21 S)
set_option maxRecDepth 20000 in
theorem S_71 {d : Nat} {S : ST} {r} (hr : F_71 S = r) : Cal XC (d + 1) 71 [.ref 30] S (RV (vJ r) S) := by
  unfold F_71 at hr
  refine cal_go 0 rfl ?_
  refine go_run mm_71 2 (pc' := 4) (ls' := [some (.ref 30)]) (st' := [.ref 21]) (S' := S) rfl ?_
  refine go_cv mm_71 (h := 21) (As := []) (rest := []) (nl := 1) rfl rfl (show cvOK 71 4 78 21 0 1 3 = true by decide +kernel) rfl rfl rfl (S_21 (ltB_ok rfl) rfl) (KP_V ?_)
  show Go XC (d + 1) 71 0 7 [some (.ref 30)] [.long (F_21 21 S)] S (RV (vJ r) S)
  cases hr
  exact go_lreturn mm_71 rfl rfl ⟨rfl, rfl, rfl⟩

theorem mm_76 : mtG 76 = some (mi_76, 7, ft_76) := rfl
def L_76_4 (S : ST) (a4 : Int64 × Int32) : Option ((Int64 × Int32) ⊕ (Int64 × Int32)) := if a4.2 < (F_72 S) then (ob (F_73 a4.2 S) (fun w1 => if w1 = (F_71 S) then (some (.inl (a4.1 ||| (1 <<< (Int32.toInt64 a4.2 &&& 63)), a4.2 + 1))) else (some (.inl (a4.1, a4.2 + 1))))) else (some (.inr (a4.1, a4.2)))
set_option maxRecDepth 20000 in
theorem LS_76_4 {d : Nat} {R : RT} {S : ST} {a4 : Int64 × Int32} {r9} (hr : L_76_4 S a4 = some r9) (hL : ∀ a9, r9 = .inl a9 → (fun a4 => Go XC (d + 2) 76 0 4 [some (.ref 30), some (.long a4.1), none, some (.int a4.2)] [] S R) a9) (hR : ∀ b9, r9 = .inr b9 → (fun e4 => Go XC (d + 2) 76 0 37 [some (.ref 30), some (.long e4.1), none, some (.int e4.2)] [] S R) b9) : Go XC (d + 2) 76 0 4 [some (.ref 30), some (.long a4.1), none, some (.int a4.2)] [] S R := by
  unfold L_76_4 at hr
  refine go_run mm_76 2 (pc' := 6) (ls' := [some (.ref 30), some (.long a4.1), none, some (.int a4.2)]) (st' := [.ref 30, .int a4.2]) (S' := S) rfl ?_
  refine go_cv mm_76 (h := 30) (As := []) (rest := [.int a4.2]) (nl := 1) rfl rfl (show cvOK 76 6 87 72 0 1 6 = true by decide +kernel) rfl rfl rfl (S_72 rfl) (KP_V ?_)
  show Go XC (d + 2) 76 0 9 [some (.ref 30), some (.long a4.1), none, some (.int a4.2)] [.int (F_72 S), .int a4.2] S R
  refine go_if2 mm_76 rfl (p1 := 12) (p2 := 37) rfl (fun (hc1 : a4.2 < (F_72 S)) => ?_) (fun (hc1 : ¬ a4.2 < (F_72 S)) => ?_)
  · rw [if_pos hc1] at hr
    refine go_run mm_76 2 (pc' := 14) (ls' := [some (.ref 30), some (.long a4.1), none, some (.int a4.2)]) (st' := [.int a4.2, .ref 30]) (S' := S) rfl ?_
    obtain ⟨w1, hw1, hr⟩ := ob_some hr
    refine go_cv mm_76 (h := 30) (As := [.int a4.2]) (rest := []) (nl := 2) rfl rfl (show cvOK 76 14 99 73 1 2 6 = true by decide +kernel) rfl rfl rfl (S_73 hw1) (KP_V ?_)
    show Go XC (d + 2) 76 0 17 [some (.ref 30), some (.long a4.1), none, some (.int a4.2)] [.long w1] S R
    refine go_run mm_76 1 (pc' := 18) (ls' := [some (.ref 30), some (.long a4.1), none, some (.int a4.2)]) (st' := [.ref 30, .long w1]) (S' := S) rfl ?_
    refine go_cv mm_76 (h := 30) (As := []) (rest := [.long w1]) (nl := 1) rfl rfl (show cvOK 76 18 103 71 0 1 6 = true by decide +kernel) rfl rfl rfl (S_71 rfl) (KP_V ?_)
    show Go XC (d + 2) 76 0 21 [some (.ref 30), some (.long a4.1), none, some (.int a4.2)] [.long (F_71 S), .long w1] S R
    refine go_lif mm_76 rfl rfl (p1 := 25) (p2 := 31) rfl (fun (hc2 : w1 = (F_71 S)) => ?_) (fun (hc2 : ¬ w1 = (F_71 S)) => ?_)
    · rw [if_pos hc2] at hr
      refine go_run mm_76 8 (pc' := 4) (ls' := [some (.ref 30), some (.long (a4.1 ||| (1 <<< (Int32.toInt64 a4.2 &&& 63)))), none, some (.int (a4.2 + 1))]) (st' := []) (S' := S) rfl ?_
      cases hr
      have h9 := hL (a4.1 ||| (1 <<< (Int32.toInt64 a4.2 &&& 63)), a4.2 + 1) rfl
      dsimp only at h9
      exact Go.le h9 (by repeat first | exact True.intro | refine And.intro rfl ?_)
    · rw [if_neg hc2] at hr
      refine go_run mm_76 2 (pc' := 4) (ls' := [some (.ref 30), some (.long a4.1), none, some (.int (a4.2 + 1))]) (st' := []) (S' := S) rfl ?_
      cases hr
      have h9 := hL (a4.1, a4.2 + 1) rfl
      dsimp only at h9
      exact Go.le h9 (by repeat first | exact True.intro | refine And.intro rfl ?_)
  · rw [if_neg hc1] at hr
    cases hr
    have h9 := hR (a4.1, a4.2) rfl
    dsimp only [Sum.elim_inl] at h9
    exact Go.le h9 (by repeat first | exact True.intro | refine And.intro rfl ?_)
def F_76 (S : ST) : Option Int64 := ob (wh FU (L_76_4 S) (0, 0)) (fun e4 => some e4.1)
set_option maxRecDepth 20000 in
theorem S_76 {d : Nat} {S : ST} {r} (hr : F_76 S = some r) : Cal XC (d + 2) 76 [.ref 30] S (RV (vJ r) S) := by
  unfold F_76 at hr
  refine cal_go 3 rfl ?_
  refine go_run mm_76 4 (pc' := 4) (ls' := [some (.ref 30), some (.long 0), none, some (.int 0)]) (st' := []) (S' := S) rfl ?_
  obtain ⟨z4, he4, hr⟩ := ob_some hr
  refine Go.le (ls' := [some (.ref 30), some (.long 0), none, some (.int 0)]) ?_ (by repeat first | exact True.intro | refine And.intro rfl ?_)
  refine wh_go (P := fun a4 => Go XC (d + 2) 76 0 4 [some (.ref 30), some (.long a4.1), none, some (.int a4.2)] [] S (RV (vJ r) S)) (K := fun e4 => Go XC (d + 2) 76 0 37 [some (.ref 30), some (.long e4.1), none, some (.int e4.2)] [] S (RV (vJ r) S)) (fun a9 r9 h9 hL hR => LS_76_4 h9 hL hR) _ _ _ he4 ?_
  generalize z4 = e4 at hr
  show Go XC (d + 2) 76 0 37 [some (.ref 30), some (.long e4.1), none, some (.int e4.2)] [] S (RV (vJ r) S)
  refine go_run mm_76 1 (pc' := 38) (ls' := [some (.ref 30), some (.long e4.1), none, some (.int e4.2)]) (st' := [.long e4.1]) (S' := S) rfl ?_
  cases hr
  exact go_lreturn mm_76 rfl rfl ⟨rfl, rfl, rfl⟩

theorem mm_77 : mtG 77 = some (mi_77, 7, ft_77) := rfl
def L_77_7 (v1 : Int32) (v2 : Int32) (S : ST) (a7 : Int64 × Int32) : Option ((Int64 × Int32) ⊕ ((Int64 × Int32) ⊕ Int32)) := if a7.2 < 64 then (if (F_177 a7.1 v2) = true then (some (.inr (.inr a7.2))) else (ob (F_74 a7.1 S) (fun w1 => some (.inl (w1, a7.2 + 1))))) else (some (.inr (.inl (a7.1, a7.2))))
set_option maxRecDepth 20000 in
theorem LS_77_7 {d : Nat} {R : RT} {S : ST} {v1 : Int32} {v2 : Int32} {a7 : Int64 × Int32} {r9} (hr : L_77_7 v1 v2 S a7 = some r9) (hL : ∀ a9, r9 = .inl a9 → (fun a7 => Go XC (d + 2) 77 0 7 [some (.ref 30), some (.int v1), some (.int v2), some (.long a7.1), none, some (.int a7.2)] [] S R) a9) (hR : ∀ b9, r9 = .inr b9 → Sum.elim (fun e7 => Go XC (d + 2) 77 0 37 [some (.ref 30), some (.int v1), some (.int v2), some (.long e7.1), none, some (.int e7.2)] [] S R) (fun o => R 0 (.inr (vI o)) S) b9) : Go XC (d + 2) 77 0 7 [some (.ref 30), some (.int v1), some (.int v2), some (.long a7.1), none, some (.int a7.2)] [] S R := by
  unfold L_77_7 at hr
  refine go_run mm_77 2 (pc' := 11) (ls' := [some (.ref 30), some (.int v1), some (.int v2), some (.long a7.1), none, some (.int a7.2)]) (st' := [.int 64, .int a7.2]) (S' := S) rfl ?_
  refine go_if2 mm_77 rfl (p1 := 14) (p2 := 37) rfl (fun (hc1 : a7.2 < 64) => ?_) (fun (hc1 : ¬ a7.2 < 64) => ?_)
  · rw [if_pos hc1] at hr
    refine go_run mm_77 2 (pc' := 16) (ls' := [some (.ref 30), some (.int v1), some (.int v2), some (.long a7.1), none, some (.int a7.2)]) (st' := [.int v2, .long a7.1]) (S' := S) rfl ?_
    refine go_cs mm_77 (av := [.long a7.1, .int v2]) (rest := []) (nl := 3) rfl (show csOK 77 16 74 177 2 3 = true by decide +kernel) rfl rfl rfl (S_177 rfl) (KP_V ?_)
    show Go XC (d + 2) 77 0 19 [some (.ref 30), some (.int v1), some (.int v2), some (.long a7.1), none, some (.int a7.2)] [.int (b2i (F_177 a7.1 v2))] S R
    refine go_ifb mm_77 rfl (p1 := 22) (p2 := 25) rfl (fun (hc2 : (F_177 a7.1 v2) = true) => ?_) (fun (hc2 : (F_177 a7.1 v2) = false) => ?_)
    · rw [if_pos hc2] at hr
      refine go_run mm_77 1 (pc' := 24) (ls' := [some (.ref 30), some (.int v1), some (.int v2), some (.long a7.1), none, some (.int a7.2)]) (st' := [.int a7.2]) (S' := S) rfl ?_
      cases hr
      have h9 : R 0 (.inr (vI a7.2)) S := hR _ rfl
      exact go_ireturn mm_77 rfl rfl h9
    · rw [if_neg (bf hc2)] at hr
      refine go_run mm_77 2 (pc' := 27) (ls' := [some (.ref 30), some (.int v1), some (.int v2), some (.long a7.1), none, some (.int a7.2)]) (st' := [.long a7.1, .ref 30]) (S' := S) rfl ?_
      obtain ⟨w1, hw1, hr⟩ := ob_some hr
      refine go_cv mm_77 (h := 30) (As := [.long a7.1]) (rest := []) (nl := 6) rfl rfl (show cvOK 77 27 95 74 1 6 6 = true by decide +kernel) rfl rfl rfl (S_74 hw1) (KP_V ?_)
      show Go XC (d + 2) 77 0 30 [some (.ref 30), some (.int v1), some (.int v2), some (.long a7.1), none, some (.int a7.2)] [.long w1] S R
      refine go_run mm_77 3 (pc' := 7) (ls' := [some (.ref 30), some (.int v1), some (.int v2), some (.long w1), none, some (.int (a7.2 + 1))]) (st' := []) (S' := S) rfl ?_
      cases hr
      have h9 := hL (w1, a7.2 + 1) rfl
      dsimp only at h9
      exact Go.le h9 (by repeat first | exact True.intro | refine And.intro rfl ?_)
  · rw [if_neg hc1] at hr
    cases hr
    have h9 := hR (.inl (a7.1, a7.2)) rfl
    dsimp only [Sum.elim_inl] at h9
    exact Go.le h9 (by repeat first | exact True.intro | refine And.intro rfl ?_)
def F_77 (v1 : Int32) (v2 : Int32) (S : ST) : Option Int32 := ob (wh FU (L_77_7 v1 v2 S) (1 <<< (Int32.toInt64 v1 &&& 63), 0)) (fun z => Sum.elim (fun e7 => some (-1)) (fun o => some o) z)
set_option maxRecDepth 20000 in
theorem S_77 {d : Nat} {S : ST} {v1 : Int32} {v2 : Int32} {r} (hr : F_77 v1 v2 S = some r) : Cal XC (d + 2) 77 [.ref 30, .int v1, .int v2] S (RV (vI r) S) := by
  unfold F_77 at hr
  refine cal_go 3 rfl ?_
  refine go_run mm_77 6 (pc' := 7) (ls' := [some (.ref 30), some (.int v1), some (.int v2), some (.long (1 <<< (Int32.toInt64 v1 &&& 63))), none, some (.int 0)]) (st' := []) (S' := S) rfl ?_
  obtain ⟨z7, he7, hr⟩ := ob_some hr
  refine Go.le (ls' := [some (.ref 30), some (.int v1), some (.int v2), some (.long (1 <<< (Int32.toInt64 v1 &&& 63))), none, some (.int 0)]) ?_ (by repeat first | exact True.intro | refine And.intro rfl ?_)
  refine wh_go (P := fun a7 => Go XC (d + 2) 77 0 7 [some (.ref 30), some (.int v1), some (.int v2), some (.long a7.1), none, some (.int a7.2)] [] S (RV (vI r) S)) (K := fun z => Sum.elim (fun e7 => Go XC (d + 2) 77 0 37 [some (.ref 30), some (.int v1), some (.int v2), some (.long e7.1), none, some (.int e7.2)] [] S (RV (vI r) S)) (fun o => (RV (vI r) S) 0 (.inr (vI o)) S) z) (fun a9 r9 h9 hL hR => LS_77_7 h9 hL hR) _ _ _ he7 ?_
  rcases z7 with e7 | o
  rotate_left
  · simp only [Sum.elim_inr] at hr
    cases hr
    exact ⟨rfl, rfl, rfl⟩
  simp only [Sum.elim_inl] at hr
  show Go XC (d + 2) 77 0 37 [some (.ref 30), some (.int v1), some (.int v2), some (.long e7.1), none, some (.int e7.2)] [] S (RV (vI r) S)
  refine go_run mm_77 1 (pc' := 38) (ls' := [some (.ref 30), some (.int v1), some (.int v2), some (.long e7.1), none, some (.int e7.2)]) (st' := [.int (-1)]) (S' := S) rfl ?_
  cases hr
  exact go_ireturn mm_77 rfl rfl ⟨rfl, rfl, rfl⟩
