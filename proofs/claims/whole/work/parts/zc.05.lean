/-! methods as functions (printed by a program): 26 reflexSet, 28 foldsBack, 31 opposite, 30 crosses, 29 edgesMeet -/
theorem mm_26 : mtG 26 = some (mi_26, 4, ft_26) := rfl
def L_26_17 (h0 : Nat) (p17_1 : Bool) (S : ST) (a17 : Int32 × Int32) : Option ((Int32 × Int32) ⊕ (Int32 × Int32)) := if a17.2 < (S.1 h0 0) then (ob (F_24 h0 (F_47 h0 a17.2 S) a17.2 (F_46 h0 a17.2 S) S) (fun w2 => if p17_1 = true then (if w2 < 0 then (some (.inl (a17.1 ||| (1 <<< (a17.2 &&& 31)), a17.2 + 1))) else (some (.inl (a17.1, a17.2 + 1)))) else (if (0 : Int32) < w2 then (some (.inl (a17.1 ||| (1 <<< (a17.2 &&& 31)), a17.2 + 1))) else (some (.inl (a17.1, a17.2 + 1)))))) else (some (.inr (a17.1, a17.2)))
set_option maxRecDepth 20000 in
theorem LS_26_17 {d : Nat} {R : RT} {S : ST} {h0 : Nat} {p17_1 : Bool} (hp0 : PLH h0) {a17 : Int32 × Int32} {r9} (hr : L_26_17 h0 p17_1 S a17 = some r9) (hL : ∀ a9, r9 = .inl a9 → (fun a17 => Go XC (d + 2) 26 0 17 [some (.ref h0), some (.int (b2i p17_1)), some (.int a17.1), some (.int a17.2), none] [] S R) a9) (hR : ∀ b9, r9 = .inr b9 → (fun e17 => Go XC (d + 2) 26 0 71 [some (.ref h0), some (.int (b2i p17_1)), some (.int e17.1), some (.int e17.2), none] [] S R) b9) : Go XC (d + 2) 26 0 17 [some (.ref h0), some (.int (b2i p17_1)), some (.int a17.1), some (.int a17.2), none] [] S R := by
  unfold L_26_17 at hr
  refine go_run mm_26 2 (pc' := 19) (ls' := [some (.ref h0), some (.int (b2i p17_1)), some (.int a17.1), some (.int a17.2), none]) (st' := [.ref h0, .int a17.2]) (S' := S) rfl ?_
  refine go_getf mm_26 (h := h0) rfl hp0.1 rfl ?_
  show Go XC (d + 2) 26 0 22 [some (.ref h0), some (.int (b2i p17_1)), some (.int a17.1), some (.int a17.2), none] [.int (S.1 h0 0), .int a17.2] S R
  refine go_if2 mm_26 rfl (p1 := 25) (p2 := 71) rfl (fun (hc2 : a17.2 < (S.1 h0 0)) => ?_) (fun (hc2 : ¬ a17.2 < (S.1 h0 0)) => ?_)
  · rw [if_pos hc2] at hr
    refine go_run mm_26 3 (pc' := 28) (ls' := [some (.ref h0), some (.int (b2i p17_1)), some (.int a17.1), some (.int a17.2), none]) (st' := [.int a17.2, .ref h0, .ref h0]) (S' := S) rfl ?_
    refine go_cv mm_26 (h := h0) (As := [.int a17.2]) (rest := [.ref h0]) (nl := 2) rfl hp0.1 (show cvOK 26 28 35 47 1 2 5 = true by decide +kernel) rfl rfl rfl (S_47 hp0 rfl) (KP_V ?_)
    show Go XC (d + 2) 26 0 31 [some (.ref h0), some (.int (b2i p17_1)), some (.int a17.1), some (.int a17.2), none] [.int (F_47 h0 a17.2 S), .ref h0] S R
    refine go_run mm_26 3 (pc' := 34) (ls' := [some (.ref h0), some (.int (b2i p17_1)), some (.int a17.1), some (.int a17.2), none]) (st' := [.int a17.2, .ref h0, .int a17.2, .int (F_47 h0 a17.2 S), .ref h0]) (S' := S) rfl ?_
    refine go_cv mm_26 (h := h0) (As := [.int a17.2]) (rest := [.int a17.2, .int (F_47 h0 a17.2 S), .ref h0]) (nl := 2) rfl hp0.1 (show cvOK 26 34 28 46 1 2 5 = true by decide +kernel) rfl rfl rfl (S_46 hp0 rfl) (KP_V ?_)
    show Go XC (d + 2) 26 0 37 [some (.ref h0), some (.int (b2i p17_1)), some (.int a17.1), some (.int a17.2), none] [.int (F_46 h0 a17.2 S), .int a17.2, .int (F_47 h0 a17.2 S), .ref h0] S R
    obtain ⟨w2, hw2, hr⟩ := ob_some hr
    refine go_cs mm_26 (av := [.ref h0, .int (F_47 h0 a17.2 S), .int a17.2, .int (F_46 h0 a17.2 S)]) (rest := []) (nl := 4) rfl (show csOK 26 37 38 24 4 4 = true by decide +kernel) rfl rfl rfl (S_24 hp0 hw2) (KP_V ?_)
    show Go XC (d + 2) 26 0 40 [some (.ref h0), some (.int (b2i p17_1)), some (.int a17.1), some (.int a17.2), none] [.int w2] S R
    refine go_run mm_26 2 (pc' := 43) (ls' := [some (.ref h0), some (.int (b2i p17_1)), some (.int a17.1), some (.int a17.2), some (.int w2)]) (st' := [.int (b2i p17_1)]) (S' := S) rfl ?_
    refine go_ifb mm_26 rfl (p1 := 46) (p2 := 54) rfl (fun (hc3 : p17_1 = true) => ?_) (fun (hc3 : p17_1 = false) => ?_)
    · rw [if_pos hc3] at hr
      refine go_run mm_26 1 (pc' := 48) (ls' := [some (.ref h0), some (.int (b2i p17_1)), some (.int a17.1), some (.int a17.2), some (.int w2)]) (st' := [.int w2]) (S' := S) rfl ?_
      refine go_if0 mm_26 rfl (p1 := 51) (p2 := 65) rfl (fun (hc4 : w2 < 0) => ?_) (fun (hc4 : ¬ w2 < 0) => ?_)
      · rw [if_pos hc4] at hr
        refine go_run mm_26 9 (pc' := 17) (ls' := [some (.ref h0), some (.int (b2i p17_1)), some (.int (a17.1 ||| (1 <<< (a17.2 &&& 31)))), some (.int (a17.2 + 1)), some (.int w2)]) (st' := []) (S' := S) rfl ?_
        cases hr
        have h9 := hL (a17.1 ||| (1 <<< (a17.2 &&& 31)), a17.2 + 1) rfl
        dsimp only at h9
        exact Go.le h9 (by repeat first | exact True.intro | refine And.intro rfl ?_)
      · rw [if_neg hc4] at hr
        refine go_run mm_26 2 (pc' := 17) (ls' := [some (.ref h0), some (.int (b2i p17_1)), some (.int a17.1), some (.int (a17.2 + 1)), some (.int w2)]) (st' := []) (S' := S) rfl ?_
        cases hr
        have h9 := hL (a17.1, a17.2 + 1) rfl
        dsimp only at h9
        exact Go.le h9 (by repeat first | exact True.intro | refine And.intro rfl ?_)
    · rw [if_neg (bf hc3)] at hr
      refine go_run mm_26 1 (pc' := 56) (ls' := [some (.ref h0), some (.int (b2i p17_1)), some (.int a17.1), some (.int a17.2), some (.int w2)]) (st' := [.int w2]) (S' := S) rfl ?_
      refine go_if0 mm_26 rfl (p1 := 59) (p2 := 65) rfl (fun (hc5 : (0 : Int32) < w2) => ?_) (fun (hc5 : ¬ (0 : Int32) < w2) => ?_)
      · rw [if_pos hc5] at hr
        refine go_run mm_26 8 (pc' := 17) (ls' := [some (.ref h0), some (.int (b2i p17_1)), some (.int (a17.1 ||| (1 <<< (a17.2 &&& 31)))), some (.int (a17.2 + 1)), some (.int w2)]) (st' := []) (S' := S) rfl ?_
        cases hr
        have h9 := hL (a17.1 ||| (1 <<< (a17.2 &&& 31)), a17.2 + 1) rfl
        dsimp only at h9
        exact Go.le h9 (by repeat first | exact True.intro | refine And.intro rfl ?_)
      · rw [if_neg hc5] at hr
        refine go_run mm_26 2 (pc' := 17) (ls' := [some (.ref h0), some (.int (b2i p17_1)), some (.int a17.1), some (.int (a17.2 + 1)), some (.int w2)]) (st' := []) (S' := S) rfl ?_
        cases hr
        have h9 := hL (a17.1, a17.2 + 1) rfl
        dsimp only at h9
        exact Go.le h9 (by repeat first | exact True.intro | refine And.intro rfl ?_)
  · rw [if_neg hc2] at hr
    cases hr
    have h9 := hR (a17.1, a17.2) rfl
    dsimp only [Sum.elim_inl] at h9
    exact Go.le h9 (by repeat first | exact True.intro | refine And.intro rfl ?_)
def F_26 (h0 : Nat) (S : ST) : Option Int32 := ob (F_25 h0 S) (fun w1 => ob (wh FU (L_26_17 h0 (decide ((0 : Int32) < w1)) S) (0, 0)) (fun e17 => some e17.1))
set_option maxRecDepth 20000 in
theorem S_26 {d : Nat} {S : ST} {h0 : Nat} {r} (hp0 : PLH h0) (hr : F_26 h0 S = some r) : Cal XC (d + 2) 26 [.ref h0] S (RV (vI r) S) := by
  unfold F_26 at hr
  refine cal_go 4 rfl ?_
  refine go_run mm_26 1 (pc' := 1) (ls' := [some (.ref h0), none, none, none, none]) (st' := [.ref h0]) (S' := S) rfl ?_
  obtain ⟨w1, hw1, hr⟩ := ob_some hr
  refine go_cs mm_26 (av := [.ref h0]) (rest := []) (nl := 4) rfl (show csOK 26 1 31 25 1 4 = true by decide +kernel) rfl rfl rfl (S_25 hp0 hw1) (KP_V ?_)
  show Go XC (d + 2) 26 0 4 [some (.ref h0), none, none, none, none] [.int w1] S (RV (vI r) S)
  have j6 : Go XC (d + 2) 26 0 12 [some (.ref h0), none, none, none, none] [.int (b2i (decide ((0 : Int32) < w1)))] S (RV (vI r) S) := by
    refine go_run mm_26 5 (pc' := 17) (ls' := [some (.ref h0), some (.int (b2i (decide ((0 : Int32) < w1)))), some (.int 0), some (.int 0), none]) (st' := []) (S' := S) rfl ?_
    obtain ⟨z17, he17, hr⟩ := ob_some hr
    refine Go.le (ls' := [some (.ref h0), some (.int (b2i (decide ((0 : Int32) < w1)))), some (.int 0), some (.int 0), none]) ?_ (by repeat first | exact True.intro | refine And.intro rfl ?_)
    refine wh_go (P := fun a17 => Go XC (d + 2) 26 0 17 [some (.ref h0), some (.int (b2i (decide ((0 : Int32) < w1)))), some (.int a17.1), some (.int a17.2), none] [] S (RV (vI r) S)) (K := fun e17 => Go XC (d + 2) 26 0 71 [some (.ref h0), some (.int (b2i (decide ((0 : Int32) < w1)))), some (.int e17.1), some (.int e17.2), none] [] S (RV (vI r) S)) (fun a9 r9 h9 hL hR => LS_26_17 hp0 h9 hL hR) _ _ _ he17 ?_
    generalize z17 = e17 at hr
    show Go XC (d + 2) 26 0 71 [some (.ref h0), some (.int (b2i (decide ((0 : Int32) < w1)))), some (.int e17.1), some (.int e17.2), none] [] S (RV (vI r) S)
    refine go_run mm_26 1 (pc' := 72) (ls' := [some (.ref h0), some (.int (b2i (decide ((0 : Int32) < w1)))), some (.int e17.1), some (.int e17.2), none]) (st' := [.int e17.1]) (S' := S) rfl ?_
    cases hr
    exact go_ireturn mm_26 rfl rfl ⟨rfl, rfl, rfl⟩
  refine go_if0 mm_26 rfl (p1 := 7) (p2 := 11) rfl (fun (hc1 : (0 : Int32) < w1) => ?_) (fun (hc1 : ¬ (0 : Int32) < w1) => ?_)
  · refine go_run mm_26 2 (pc' := 12) (ls' := [some (.ref h0), none, none, none, none]) (st' := [.int 1]) (S' := S) rfl ?_
    have e : ((b2i (decide ((0 : Int32) < w1))) : Int32) = 1 := by simp [b2i, hc1]
    rw [e] at j6
    exact j6
  · refine go_run mm_26 1 (pc' := 12) (ls' := [some (.ref h0), none, none, none, none]) (st' := [.int 0]) (S' := S) rfl ?_
    have e : ((b2i (decide ((0 : Int32) < w1))) : Int32) = 0 := by simp [b2i, hc1]
    rw [e] at j6
    exact j6

theorem mm_28 : mtG 28 = some (mi_28, 4, ft_28) := rfl
def F_28 (h0 : Nat) (v1 : Int32) (S : ST) : Option Bool := ob (F_44 h0 v1 S) (fun w1 => ob (F_44 h0 (F_46 h0 v1 S) S) (fun w2 => ob (F_45 h0 v1 S) (fun w3 => ob (F_45 h0 (F_46 h0 v1 S) S) (fun w4 => ob (F_44 h0 (F_46 h0 (F_46 h0 v1 S) S) S) (fun w5 => ob (F_44 h0 (F_46 h0 v1 S) S) (fun w6 => ob (F_45 h0 (F_46 h0 (F_46 h0 v1 S) S) S) (fun w7 => ob (F_45 h0 (F_46 h0 v1 S) S) (fun w8 => some (decide ((((w1 - w2) * (w7 - w8)) - ((w3 - w4) * (w5 - w6))) = 0) && (!(decide ((((w1 - w2) * (w5 - w6)) + ((w3 - w4) * (w7 - w8))) < 0))))))))))))
set_option maxRecDepth 20000 in
theorem S_28 {d : Nat} {S : ST} {h0 : Nat} {v1 : Int32} {r} (hp0 : PLH h0) (hr : F_28 h0 v1 S = some r) : Cal XC (d + 1) 28 [.ref h0, .int v1] S (RV (vZ r) S) := by
  unfold F_28 at hr
  refine cal_go 6 rfl ?_
  refine go_run mm_28 2 (pc' := 2) (ls' := [some (.ref h0), some (.int v1), none, none, none, none, none, none]) (st' := [.int v1, .ref h0]) (S' := S) rfl ?_
  refine go_cv mm_28 (h := h0) (As := [.int v1]) (rest := []) (nl := 2) rfl hp0.1 (show cvOK 28 2 28 46 1 2 5 = true by decide +kernel) rfl rfl rfl (S_46 hp0 rfl) (KP_V ?_)
  show Go XC (d + 1) 28 0 5 [some (.ref h0), some (.int v1), none, none, none, none, none, none] [.int (F_46 h0 v1 S)] S (RV (vZ r) S)
  refine go_run mm_28 3 (pc' := 8) (ls' := [some (.ref h0), some (.int v1), some (.int (F_46 h0 v1 S)), none, none, none, none, none]) (st' := [.int (F_46 h0 v1 S), .ref h0]) (S' := S) rfl ?_
  refine go_cv mm_28 (h := h0) (As := [.int (F_46 h0 v1 S)]) (rest := []) (nl := 2) rfl hp0.1 (show cvOK 28 8 28 46 1 2 5 = true by decide +kernel) rfl rfl rfl (S_46 hp0 rfl) (KP_V ?_)
  show Go XC (d + 1) 28 0 11 [some (.ref h0), some (.int v1), some (.int (F_46 h0 v1 S)), none, none, none, none, none] [.int (F_46 h0 (F_46 h0 v1 S) S)] S (RV (vZ r) S)
  refine go_run mm_28 3 (pc' := 14) (ls' := [some (.ref h0), some (.int v1), some (.int (F_46 h0 v1 S)), some (.int (F_46 h0 (F_46 h0 v1 S) S)), none, none, none, none]) (st' := [.int v1, .ref h0]) (S' := S) rfl ?_
  obtain ⟨w1, hw1, hr⟩ := ob_some hr
  refine go_cv mm_28 (h := h0) (As := [.int v1]) (rest := []) (nl := 2) rfl hp0.1 (show cvOK 28 14 9 44 1 2 5 = true by decide +kernel) rfl rfl rfl (S_44 hp0 hw1) (KP_V ?_)
  show Go XC (d + 1) 28 0 17 [some (.ref h0), some (.int v1), some (.int (F_46 h0 v1 S)), some (.int (F_46 h0 (F_46 h0 v1 S) S)), none, none, none, none] [.int w1] S (RV (vZ r) S)
  refine go_run mm_28 2 (pc' := 19) (ls' := [some (.ref h0), some (.int v1), some (.int (F_46 h0 v1 S)), some (.int (F_46 h0 (F_46 h0 v1 S) S)), none, none, none, none]) (st' := [.int (F_46 h0 v1 S), .ref h0, .int w1]) (S' := S) rfl ?_
  obtain ⟨w2, hw2, hr⟩ := ob_some hr
  refine go_cv mm_28 (h := h0) (As := [.int (F_46 h0 v1 S)]) (rest := [.int w1]) (nl := 2) rfl hp0.1 (show cvOK 28 19 9 44 1 2 5 = true by decide +kernel) rfl rfl rfl (S_44 hp0 hw2) (KP_V ?_)
  show Go XC (d + 1) 28 0 22 [some (.ref h0), some (.int v1), some (.int (F_46 h0 v1 S)), some (.int (F_46 h0 (F_46 h0 v1 S) S)), none, none, none, none] [.int w2, .int w1] S (RV (vZ r) S)
  refine go_run mm_28 4 (pc' := 27) (ls' := [some (.ref h0), some (.int v1), some (.int (F_46 h0 v1 S)), some (.int (F_46 h0 (F_46 h0 v1 S) S)), some (.int (w1 - w2)), none, none, none]) (st' := [.int v1, .ref h0]) (S' := S) rfl ?_
  obtain ⟨w3, hw3, hr⟩ := ob_some hr
  refine go_cv mm_28 (h := h0) (As := [.int v1]) (rest := []) (nl := 2) rfl hp0.1 (show cvOK 28 27 15 45 1 2 5 = true by decide +kernel) rfl rfl rfl (S_45 hp0 hw3) (KP_V ?_)
  show Go XC (d + 1) 28 0 30 [some (.ref h0), some (.int v1), some (.int (F_46 h0 v1 S)), some (.int (F_46 h0 (F_46 h0 v1 S) S)), some (.int (w1 - w2)), none, none, none] [.int w3] S (RV (vZ r) S)
  refine go_run mm_28 2 (pc' := 32) (ls' := [some (.ref h0), some (.int v1), some (.int (F_46 h0 v1 S)), some (.int (F_46 h0 (F_46 h0 v1 S) S)), some (.int (w1 - w2)), none, none, none]) (st' := [.int (F_46 h0 v1 S), .ref h0, .int w3]) (S' := S) rfl ?_
  obtain ⟨w4, hw4, hr⟩ := ob_some hr
  refine go_cv mm_28 (h := h0) (As := [.int (F_46 h0 v1 S)]) (rest := [.int w3]) (nl := 2) rfl hp0.1 (show cvOK 28 32 15 45 1 2 5 = true by decide +kernel) rfl rfl rfl (S_45 hp0 hw4) (KP_V ?_)
  show Go XC (d + 1) 28 0 35 [some (.ref h0), some (.int v1), some (.int (F_46 h0 v1 S)), some (.int (F_46 h0 (F_46 h0 v1 S) S)), some (.int (w1 - w2)), none, none, none] [.int w4, .int w3] S (RV (vZ r) S)
  refine go_run mm_28 4 (pc' := 40) (ls' := [some (.ref h0), some (.int v1), some (.int (F_46 h0 v1 S)), some (.int (F_46 h0 (F_46 h0 v1 S) S)), some (.int (w1 - w2)), some (.int (w3 - w4)), none, none]) (st' := [.int (F_46 h0 (F_46 h0 v1 S) S), .ref h0]) (S' := S) rfl ?_
  obtain ⟨w5, hw5, hr⟩ := ob_some hr
  refine go_cv mm_28 (h := h0) (As := [.int (F_46 h0 (F_46 h0 v1 S) S)]) (rest := []) (nl := 2) rfl hp0.1 (show cvOK 28 40 9 44 1 2 5 = true by decide +kernel) rfl rfl rfl (S_44 hp0 hw5) (KP_V ?_)
  show Go XC (d + 1) 28 0 43 [some (.ref h0), some (.int v1), some (.int (F_46 h0 v1 S)), some (.int (F_46 h0 (F_46 h0 v1 S) S)), some (.int (w1 - w2)), some (.int (w3 - w4)), none, none] [.int w5] S (RV (vZ r) S)
  refine go_run mm_28 2 (pc' := 45) (ls' := [some (.ref h0), some (.int v1), some (.int (F_46 h0 v1 S)), some (.int (F_46 h0 (F_46 h0 v1 S) S)), some (.int (w1 - w2)), some (.int (w3 - w4)), none, none]) (st' := [.int (F_46 h0 v1 S), .ref h0, .int w5]) (S' := S) rfl ?_
  obtain ⟨w6, hw6, hr⟩ := ob_some hr
  refine go_cv mm_28 (h := h0) (As := [.int (F_46 h0 v1 S)]) (rest := [.int w5]) (nl := 2) rfl hp0.1 (show cvOK 28 45 9 44 1 2 5 = true by decide +kernel) rfl rfl rfl (S_44 hp0 hw6) (KP_V ?_)
  show Go XC (d + 1) 28 0 48 [some (.ref h0), some (.int v1), some (.int (F_46 h0 v1 S)), some (.int (F_46 h0 (F_46 h0 v1 S) S)), some (.int (w1 - w2)), some (.int (w3 - w4)), none, none] [.int w6, .int w5] S (RV (vZ r) S)
  refine go_run mm_28 4 (pc' := 53) (ls' := [some (.ref h0), some (.int v1), some (.int (F_46 h0 v1 S)), some (.int (F_46 h0 (F_46 h0 v1 S) S)), some (.int (w1 - w2)), some (.int (w3 - w4)), some (.int (w5 - w6)), none]) (st' := [.int (F_46 h0 (F_46 h0 v1 S) S), .ref h0]) (S' := S) rfl ?_
  obtain ⟨w7, hw7, hr⟩ := ob_some hr
  refine go_cv mm_28 (h := h0) (As := [.int (F_46 h0 (F_46 h0 v1 S) S)]) (rest := []) (nl := 2) rfl hp0.1 (show cvOK 28 53 15 45 1 2 5 = true by decide +kernel) rfl rfl rfl (S_45 hp0 hw7) (KP_V ?_)
  show Go XC (d + 1) 28 0 56 [some (.ref h0), some (.int v1), some (.int (F_46 h0 v1 S)), some (.int (F_46 h0 (F_46 h0 v1 S) S)), some (.int (w1 - w2)), some (.int (w3 - w4)), some (.int (w5 - w6)), none] [.int w7] S (RV (vZ r) S)
  refine go_run mm_28 2 (pc' := 58) (ls' := [some (.ref h0), some (.int v1), some (.int (F_46 h0 v1 S)), some (.int (F_46 h0 (F_46 h0 v1 S) S)), some (.int (w1 - w2)), some (.int (w3 - w4)), some (.int (w5 - w6)), none]) (st' := [.int (F_46 h0 v1 S), .ref h0, .int w7]) (S' := S) rfl ?_
  obtain ⟨w8, hw8, hr⟩ := ob_some hr
  refine go_cv mm_28 (h := h0) (As := [.int (F_46 h0 v1 S)]) (rest := [.int w7]) (nl := 2) rfl hp0.1 (show cvOK 28 58 15 45 1 2 5 = true by decide +kernel) rfl rfl rfl (S_45 hp0 hw8) (KP_V ?_)
  show Go XC (d + 1) 28 0 61 [some (.ref h0), some (.int v1), some (.int (F_46 h0 v1 S)), some (.int (F_46 h0 (F_46 h0 v1 S) S)), some (.int (w1 - w2)), some (.int (w3 - w4)), some (.int (w5 - w6)), none] [.int w8, .int w7] S (RV (vZ r) S)
  refine go_run mm_28 9 (pc' := 75) (ls' := [some (.ref h0), some (.int v1), some (.int (F_46 h0 v1 S)), some (.int (F_46 h0 (F_46 h0 v1 S) S)), some (.int (w1 - w2)), some (.int (w3 - w4)), some (.int (w5 - w6)), some (.int (w7 - w8))]) (st' := [.int (((w1 - w2) * (w7 - w8)) - ((w3 - w4) * (w5 - w6)))]) (S' := S) rfl ?_
  have j4 : Go XC (d + 1) 28 0 97 [some (.ref h0), some (.int v1), some (.int (F_46 h0 v1 S)), some (.int (F_46 h0 (F_46 h0 v1 S) S)), some (.int (w1 - w2)), some (.int (w3 - w4)), some (.int (w5 - w6)), some (.int (w7 - w8))] [.int (b2i (decide ((((w1 - w2) * (w7 - w8)) - ((w3 - w4) * (w5 - w6))) = 0) && (!(decide ((((w1 - w2) * (w5 - w6)) + ((w3 - w4) * (w7 - w8))) < 0)))))] S (RV (vZ r) S) := by
    cases hr
    exact go_zreturn mm_28 rfl rfl (b2i_01 _) ⟨rfl, rfl, rfl⟩
  refine go_if0 mm_28 rfl (p1 := 78) (p2 := 96) rfl (fun (hc1 : (((w1 - w2) * (w7 - w8)) - ((w3 - w4) * (w5 - w6))) = 0) => ?_) (fun (hc1 : ¬ (((w1 - w2) * (w7 - w8)) - ((w3 - w4) * (w5 - w6))) = 0) => ?_)
  · refine go_run mm_28 7 (pc' := 89) (ls' := [some (.ref h0), some (.int v1), some (.int (F_46 h0 v1 S)), some (.int (F_46 h0 (F_46 h0 v1 S) S)), some (.int (w1 - w2)), some (.int (w3 - w4)), some (.int (w5 - w6)), some (.int (w7 - w8))]) (st' := [.int (((w1 - w2) * (w5 - w6)) + ((w3 - w4) * (w7 - w8)))]) (S' := S) rfl ?_
    have j3 : Go XC (d + 1) 28 0 97 [some (.ref h0), some (.int v1), some (.int (F_46 h0 v1 S)), some (.int (F_46 h0 (F_46 h0 v1 S) S)), some (.int (w1 - w2)), some (.int (w3 - w4)), some (.int (w5 - w6)), some (.int (w7 - w8))] [.int (b2i (!(decide ((((w1 - w2) * (w5 - w6)) + ((w3 - w4) * (w7 - w8))) < 0))))] S (RV (vZ r) S) := by
      have e : ((b2i (decide ((((w1 - w2) * (w7 - w8)) - ((w3 - w4) * (w5 - w6))) = 0) && (!(decide ((((w1 - w2) * (w5 - w6)) + ((w3 - w4) * (w7 - w8))) < 0))))) : Int32) = (b2i (!(decide ((((w1 - w2) * (w5 - w6)) + ((w3 - w4) * (w7 - w8))) < 0)))) := by simp [b2i, hc1]
      rw [e] at j4
      exact j4
    refine go_if0 mm_28 rfl (p1 := 96) (p2 := 92) rfl (fun (hc2 : (((w1 - w2) * (w5 - w6)) + ((w3 - w4) * (w7 - w8))) < 0) => ?_) (fun (hc2 : ¬ (((w1 - w2) * (w5 - w6)) + ((w3 - w4) * (w7 - w8))) < 0) => ?_)
    · refine go_run mm_28 1 (pc' := 97) (ls' := [some (.ref h0), some (.int v1), some (.int (F_46 h0 v1 S)), some (.int (F_46 h0 (F_46 h0 v1 S) S)), some (.int (w1 - w2)), some (.int (w3 - w4)), some (.int (w5 - w6)), some (.int (w7 - w8))]) (st' := [.int 0]) (S' := S) rfl ?_
      have e : ((b2i (!(decide ((((w1 - w2) * (w5 - w6)) + ((w3 - w4) * (w7 - w8))) < 0)))) : Int32) = 0 := by simp [b2i, hc2]
      rw [e] at j3
      exact j3
    · refine go_run mm_28 2 (pc' := 97) (ls' := [some (.ref h0), some (.int v1), some (.int (F_46 h0 v1 S)), some (.int (F_46 h0 (F_46 h0 v1 S) S)), some (.int (w1 - w2)), some (.int (w3 - w4)), some (.int (w5 - w6)), some (.int (w7 - w8))]) (st' := [.int 1]) (S' := S) rfl ?_
      have e : ((b2i (!(decide ((((w1 - w2) * (w5 - w6)) + ((w3 - w4) * (w7 - w8))) < 0)))) : Int32) = 1 := by simp [b2i, hc2]
      rw [e] at j3
      exact j3
  · refine go_run mm_28 1 (pc' := 97) (ls' := [some (.ref h0), some (.int v1), some (.int (F_46 h0 v1 S)), some (.int (F_46 h0 (F_46 h0 v1 S) S)), some (.int (w1 - w2)), some (.int (w3 - w4)), some (.int (w5 - w6)), some (.int (w7 - w8))]) (st' := [.int 0]) (S' := S) rfl ?_
    have e : ((b2i (decide ((((w1 - w2) * (w7 - w8)) - ((w3 - w4) * (w5 - w6))) = 0) && (!(decide ((((w1 - w2) * (w5 - w6)) + ((w3 - w4) * (w7 - w8))) < 0))))) : Int32) = 0 := by simp [b2i, hc1]
    rw [e] at j4
    exact j4

theorem mm_31 : mtG 31 = some (mi_31, 4, ft_31) := rfl
def F_31 (v0 : Int32) (v1 : Int32) : Bool := (if v0 < 0 then (decide ((0 : Int32) < v1) || (decide ((0 : Int32) < v0) && (decide (v1 < 0)))) else (decide ((0 : Int32) < v0) && (decide (v1 < 0))))
set_option maxRecDepth 20000 in
theorem S_31 {d : Nat} {S : ST} {v0 : Int32} {v1 : Int32} {r} (hr : F_31 v0 v1 = r) : Cal XC d 31 [.int v0, .int v1] S (RV (vZ r) S) := by
  unfold F_31 at hr
  refine cal_go 0 rfl ?_
  refine go_run mm_31 1 (pc' := 1) (ls' := [some (.int v0), some (.int v1)]) (st' := [.int v0]) (S' := S) rfl ?_
  have j12 : Go XC d 31 0 21 [some (.int v0), some (.int v1)] [.int (b2i (if v0 < 0 then (decide ((0 : Int32) < v1) || (decide ((0 : Int32) < v0) && (decide (v1 < 0)))) else (decide ((0 : Int32) < v0) && (decide (v1 < 0)))))] S (RV (vZ r) S) := by
    cases hr
    exact go_zreturn mm_31 rfl rfl (b2i_01 _) ⟨rfl, rfl, rfl⟩
  refine go_if0 mm_31 rfl (p1 := 4) (p2 := 8) rfl (fun (hc1 : v0 < 0) => ?_) (fun (hc1 : ¬ v0 < 0) => ?_)
  · refine go_run mm_31 1 (pc' := 5) (ls' := [some (.int v0), some (.int v1)]) (st' := [.int v1]) (S' := S) rfl ?_
    have j7 : Go XC d 31 0 21 [some (.int v0), some (.int v1)] [.int (b2i (decide ((0 : Int32) < v1) || (decide ((0 : Int32) < v0) && (decide (v1 < 0)))))] S (RV (vZ r) S) := by
      have e : ((b2i (if v0 < 0 then (decide ((0 : Int32) < v1) || (decide ((0 : Int32) < v0) && (decide (v1 < 0)))) else (decide ((0 : Int32) < v0) && (decide (v1 < 0))))) : Int32) = (b2i (decide ((0 : Int32) < v1) || (decide ((0 : Int32) < v0) && (decide (v1 < 0))))) := by simp [b2i, hc1]
      rw [e] at j12
      exact j12
    refine go_if0 mm_31 rfl (p1 := 16) (p2 := 8) rfl (fun (hc2 : (0 : Int32) < v1) => ?_) (fun (hc2 : ¬ (0 : Int32) < v1) => ?_)
    · refine go_run mm_31 2 (pc' := 21) (ls' := [some (.int v0), some (.int v1)]) (st' := [.int 1]) (S' := S) rfl ?_
      have e : ((b2i (decide ((0 : Int32) < v1) || (decide ((0 : Int32) < v0) && (decide (v1 < 0))))) : Int32) = 1 := by simp [b2i, hc2]
      rw [e] at j7
      exact j7
    · refine go_run mm_31 1 (pc' := 9) (ls' := [some (.int v0), some (.int v1)]) (st' := [.int v0]) (S' := S) rfl ?_
      have j6 : Go XC d 31 0 21 [some (.int v0), some (.int v1)] [.int (b2i (decide ((0 : Int32) < v0) && (decide (v1 < 0))))] S (RV (vZ r) S) := by
        have e : ((b2i (decide ((0 : Int32) < v1) || (decide ((0 : Int32) < v0) && (decide (v1 < 0))))) : Int32) = (b2i (decide ((0 : Int32) < v0) && (decide (v1 < 0)))) := by simp [b2i, hc2]
        rw [e] at j7
        exact j7
      refine go_if0 mm_31 rfl (p1 := 12) (p2 := 20) rfl (fun (hc3 : (0 : Int32) < v0) => ?_) (fun (hc3 : ¬ (0 : Int32) < v0) => ?_)
      · refine go_run mm_31 1 (pc' := 13) (ls' := [some (.int v0), some (.int v1)]) (st' := [.int v1]) (S' := S) rfl ?_
        have j5 : Go XC d 31 0 21 [some (.int v0), some (.int v1)] [.int (b2i (decide (v1 < 0)))] S (RV (vZ r) S) := by
          have e : ((b2i (decide ((0 : Int32) < v0) && (decide (v1 < 0)))) : Int32) = (b2i (decide (v1 < 0))) := by simp [b2i, hc3]
          rw [e] at j6
          exact j6
        refine go_if0 mm_31 rfl (p1 := 16) (p2 := 20) rfl (fun (hc4 : v1 < 0) => ?_) (fun (hc4 : ¬ v1 < 0) => ?_)
        · refine go_run mm_31 2 (pc' := 21) (ls' := [some (.int v0), some (.int v1)]) (st' := [.int 1]) (S' := S) rfl ?_
          have e : ((b2i (decide (v1 < 0))) : Int32) = 1 := by simp [b2i, hc4]
          rw [e] at j5
          exact j5
        · refine go_run mm_31 1 (pc' := 21) (ls' := [some (.int v0), some (.int v1)]) (st' := [.int 0]) (S' := S) rfl ?_
          have e : ((b2i (decide (v1 < 0))) : Int32) = 0 := by simp [b2i, hc4]
          rw [e] at j5
          exact j5
      · refine go_run mm_31 1 (pc' := 21) (ls' := [some (.int v0), some (.int v1)]) (st' := [.int 0]) (S' := S) rfl ?_
        have e : ((b2i (decide ((0 : Int32) < v0) && (decide (v1 < 0)))) : Int32) = 0 := by simp [b2i, hc3]
        rw [e] at j6
        exact j6
  · refine go_run mm_31 1 (pc' := 9) (ls' := [some (.int v0), some (.int v1)]) (st' := [.int v0]) (S' := S) rfl ?_
    have j11 : Go XC d 31 0 21 [some (.int v0), some (.int v1)] [.int (b2i (decide ((0 : Int32) < v0) && (decide (v1 < 0))))] S (RV (vZ r) S) := by
      have e : ((b2i (if v0 < 0 then (decide ((0 : Int32) < v1) || (decide ((0 : Int32) < v0) && (decide (v1 < 0)))) else (decide ((0 : Int32) < v0) && (decide (v1 < 0))))) : Int32) = (b2i (decide ((0 : Int32) < v0) && (decide (v1 < 0)))) := by simp [b2i, hc1]
      rw [e] at j12
      exact j12
    refine go_if0 mm_31 rfl (p1 := 12) (p2 := 20) rfl (fun (hc8 : (0 : Int32) < v0) => ?_) (fun (hc8 : ¬ (0 : Int32) < v0) => ?_)
    · refine go_run mm_31 1 (pc' := 13) (ls' := [some (.int v0), some (.int v1)]) (st' := [.int v1]) (S' := S) rfl ?_
      have j10 : Go XC d 31 0 21 [some (.int v0), some (.int v1)] [.int (b2i (decide (v1 < 0)))] S (RV (vZ r) S) := by
        have e : ((b2i (decide ((0 : Int32) < v0) && (decide (v1 < 0)))) : Int32) = (b2i (decide (v1 < 0))) := by simp [b2i, hc8]
        rw [e] at j11
        exact j11
      refine go_if0 mm_31 rfl (p1 := 16) (p2 := 20) rfl (fun (hc9 : v1 < 0) => ?_) (fun (hc9 : ¬ v1 < 0) => ?_)
      · refine go_run mm_31 2 (pc' := 21) (ls' := [some (.int v0), some (.int v1)]) (st' := [.int 1]) (S' := S) rfl ?_
        have e : ((b2i (decide (v1 < 0))) : Int32) = 1 := by simp [b2i, hc9]
        rw [e] at j10
        exact j10
      · refine go_run mm_31 1 (pc' := 21) (ls' := [some (.int v0), some (.int v1)]) (st' := [.int 0]) (S' := S) rfl ?_
        have e : ((b2i (decide (v1 < 0))) : Int32) = 0 := by simp [b2i, hc9]
        rw [e] at j10
        exact j10
    · refine go_run mm_31 1 (pc' := 21) (ls' := [some (.int v0), some (.int v1)]) (st' := [.int 0]) (S' := S) rfl ?_
      have e : ((b2i (decide ((0 : Int32) < v0) && (decide (v1 < 0)))) : Int32) = 0 := by simp [b2i, hc8]
      rw [e] at j11
      exact j11

theorem mm_30 : mtG 30 = some (mi_30, 4, ft_30) := rfl
def F_30 (h0 : Nat) (v1 : Int32) (v2 : Int32) (v3 : Int32) (v4 : Int32) (v5 : Int32) (S : ST) : Option Bool := ob (F_44 h0 v1 S) (fun w1 => ob (F_45 h0 v1 S) (fun w2 => ob (F_44 h0 (F_46 h0 v1 S) S) (fun w3 => ob (F_45 h0 (F_46 h0 v1 S) S) (fun w4 => some ((F_31 (F_23 w1 w2 w3 w4 v2 v3) (F_23 w1 w2 w3 w4 v4 v5)) && (F_31 (F_23 v2 v3 v4 v5 w1 w2) (F_23 v2 v3 v4 v5 w3 w4)))))))
set_option maxRecDepth 20000 in
theorem S_30 {d : Nat} {S : ST} {h0 : Nat} {v1 : Int32} {v2 : Int32} {v3 : Int32} {v4 : Int32} {v5 : Int32} {r} (hp0 : PLH h0) (hr : F_30 h0 v1 v2 v3 v4 v5 S = some r) : Cal XC (d + 1) 30 [.ref h0, .int v1, .int v2, .int v3, .int v4, .int v5] S (RV (vZ r) S) := by
  unfold F_30 at hr
  refine cal_go 5 rfl ?_
  refine go_run mm_30 2 (pc' := 2) (ls' := [some (.ref h0), some (.int v1), some (.int v2), some (.int v3), some (.int v4), some (.int v5), none, none, none, none, none]) (st' := [.int v1, .ref h0]) (S' := S) rfl ?_
  refine go_cv mm_30 (h := h0) (As := [.int v1]) (rest := []) (nl := 2) rfl hp0.1 (show cvOK 30 2 28 46 1 2 5 = true by decide +kernel) rfl rfl rfl (S_46 hp0 rfl) (KP_V ?_)
  show Go XC (d + 1) 30 0 5 [some (.ref h0), some (.int v1), some (.int v2), some (.int v3), some (.int v4), some (.int v5), none, none, none, none, none] [.int (F_46 h0 v1 S)] S (RV (vZ r) S)
  refine go_run mm_30 3 (pc' := 9) (ls' := [some (.ref h0), some (.int v1), some (.int v2), some (.int v3), some (.int v4), some (.int v5), some (.int (F_46 h0 v1 S)), none, none, none, none]) (st' := [.int v1, .ref h0]) (S' := S) rfl ?_
  obtain ⟨w1, hw1, hr⟩ := ob_some hr
  refine go_cv mm_30 (h := h0) (As := [.int v1]) (rest := []) (nl := 2) rfl hp0.1 (show cvOK 30 9 9 44 1 2 5 = true by decide +kernel) rfl rfl rfl (S_44 hp0 hw1) (KP_V ?_)
  show Go XC (d + 1) 30 0 12 [some (.ref h0), some (.int v1), some (.int v2), some (.int v3), some (.int v4), some (.int v5), some (.int (F_46 h0 v1 S)), none, none, none, none] [.int w1] S (RV (vZ r) S)
  refine go_run mm_30 3 (pc' := 16) (ls' := [some (.ref h0), some (.int v1), some (.int v2), some (.int v3), some (.int v4), some (.int v5), some (.int (F_46 h0 v1 S)), some (.int w1), none, none, none]) (st' := [.int v1, .ref h0]) (S' := S) rfl ?_
  obtain ⟨w2, hw2, hr⟩ := ob_some hr
  refine go_cv mm_30 (h := h0) (As := [.int v1]) (rest := []) (nl := 2) rfl hp0.1 (show cvOK 30 16 15 45 1 2 5 = true by decide +kernel) rfl rfl rfl (S_45 hp0 hw2) (KP_V ?_)
  show Go XC (d + 1) 30 0 19 [some (.ref h0), some (.int v1), some (.int v2), some (.int v3), some (.int v4), some (.int v5), some (.int (F_46 h0 v1 S)), some (.int w1), none, none, none] [.int w2] S (RV (vZ r) S)
  refine go_run mm_30 3 (pc' := 24) (ls' := [some (.ref h0), some (.int v1), some (.int v2), some (.int v3), some (.int v4), some (.int v5), some (.int (F_46 h0 v1 S)), some (.int w1), some (.int w2), none, none]) (st' := [.int (F_46 h0 v1 S), .ref h0]) (S' := S) rfl ?_
  obtain ⟨w3, hw3, hr⟩ := ob_some hr
  refine go_cv mm_30 (h := h0) (As := [.int (F_46 h0 v1 S)]) (rest := []) (nl := 2) rfl hp0.1 (show cvOK 30 24 9 44 1 2 5 = true by decide +kernel) rfl rfl rfl (S_44 hp0 hw3) (KP_V ?_)
  show Go XC (d + 1) 30 0 27 [some (.ref h0), some (.int v1), some (.int v2), some (.int v3), some (.int v4), some (.int v5), some (.int (F_46 h0 v1 S)), some (.int w1), some (.int w2), none, none] [.int w3] S (RV (vZ r) S)
  refine go_run mm_30 3 (pc' := 32) (ls' := [some (.ref h0), some (.int v1), some (.int v2), some (.int v3), some (.int v4), some (.int v5), some (.int (F_46 h0 v1 S)), some (.int w1), some (.int w2), some (.int w3), none]) (st' := [.int (F_46 h0 v1 S), .ref h0]) (S' := S) rfl ?_
  obtain ⟨w4, hw4, hr⟩ := ob_some hr
  refine go_cv mm_30 (h := h0) (As := [.int (F_46 h0 v1 S)]) (rest := []) (nl := 2) rfl hp0.1 (show cvOK 30 32 15 45 1 2 5 = true by decide +kernel) rfl rfl rfl (S_45 hp0 hw4) (KP_V ?_)
  show Go XC (d + 1) 30 0 35 [some (.ref h0), some (.int v1), some (.int v2), some (.int v3), some (.int v4), some (.int v5), some (.int (F_46 h0 v1 S)), some (.int w1), some (.int w2), some (.int w3), none] [.int w4] S (RV (vZ r) S)
  refine go_run mm_30 7 (pc' := 47) (ls' := [some (.ref h0), some (.int v1), some (.int v2), some (.int v3), some (.int v4), some (.int v5), some (.int (F_46 h0 v1 S)), some (.int w1), some (.int w2), some (.int w3), some (.int w4)]) (st' := [.int v3, .int v2, .int w4, .int w3, .int w2, .int w1]) (S' := S) rfl ?_
  refine go_cs mm_30 (av := [.int w1, .int w2, .int w3, .int w4, .int v2, .int v3]) (rest := []) (nl := 6) rfl (show csOK 30 47 18 23 6 6 = true by decide +kernel) rfl rfl rfl (S_23 rfl) (KP_V ?_)
  show Go XC (d + 1) 30 0 50 [some (.ref h0), some (.int v1), some (.int v2), some (.int v3), some (.int v4), some (.int v5), some (.int (F_46 h0 v1 S)), some (.int w1), some (.int w2), some (.int w3), some (.int w4)] [.int (F_23 w1 w2 w3 w4 v2 v3)] S (RV (vZ r) S)
  refine go_run mm_30 6 (pc' := 62) (ls' := [some (.ref h0), some (.int v1), some (.int v2), some (.int v3), some (.int v4), some (.int v5), some (.int (F_46 h0 v1 S)), some (.int w1), some (.int w2), some (.int w3), some (.int w4)]) (st' := [.int v5, .int v4, .int w4, .int w3, .int w2, .int w1, .int (F_23 w1 w2 w3 w4 v2 v3)]) (S' := S) rfl ?_
  refine go_cs mm_30 (av := [.int w1, .int w2, .int w3, .int w4, .int v4, .int v5]) (rest := [.int (F_23 w1 w2 w3 w4 v2 v3)]) (nl := 6) rfl (show csOK 30 62 18 23 6 6 = true by decide +kernel) rfl rfl rfl (S_23 rfl) (KP_V ?_)
  show Go XC (d + 1) 30 0 65 [some (.ref h0), some (.int v1), some (.int v2), some (.int v3), some (.int v4), some (.int v5), some (.int (F_46 h0 v1 S)), some (.int w1), some (.int w2), some (.int w3), some (.int w4)] [.int (F_23 w1 w2 w3 w4 v4 v5), .int (F_23 w1 w2 w3 w4 v2 v3)] S (RV (vZ r) S)
  refine go_cs mm_30 (av := [.int (F_23 w1 w2 w3 w4 v2 v3), .int (F_23 w1 w2 w3 w4 v4 v5)]) (rest := []) (nl := 2) rfl (show csOK 30 65 58 31 2 2 = true by decide +kernel) rfl rfl rfl (S_31 rfl) (KP_V ?_)
  show Go XC (d + 1) 30 0 68 [some (.ref h0), some (.int v1), some (.int v2), some (.int v3), some (.int v4), some (.int v5), some (.int (F_46 h0 v1 S)), some (.int w1), some (.int w2), some (.int w3), some (.int w4)] [.int (b2i (F_31 (F_23 w1 w2 w3 w4 v2 v3) (F_23 w1 w2 w3 w4 v4 v5)))] S (RV (vZ r) S)
  have j4 : Go XC (d + 1) 30 0 108 [some (.ref h0), some (.int v1), some (.int v2), some (.int v3), some (.int v4), some (.int v5), some (.int (F_46 h0 v1 S)), some (.int w1), some (.int w2), some (.int w3), some (.int w4)] [.int (b2i ((F_31 (F_23 w1 w2 w3 w4 v2 v3) (F_23 w1 w2 w3 w4 v4 v5)) && (F_31 (F_23 v2 v3 v4 v5 w1 w2) (F_23 v2 v3 v4 v5 w3 w4))))] S (RV (vZ r) S) := by
    cases hr
    exact go_zreturn mm_30 rfl rfl (b2i_01 _) ⟨rfl, rfl, rfl⟩
  refine go_ifb mm_30 rfl (p1 := 71) (p2 := 107) rfl (fun (hc1 : (F_31 (F_23 w1 w2 w3 w4 v2 v3) (F_23 w1 w2 w3 w4 v4 v5)) = true) => ?_) (fun (hc1 : (F_31 (F_23 w1 w2 w3 w4 v2 v3) (F_23 w1 w2 w3 w4 v4 v5)) = false) => ?_)
  · refine go_run mm_30 6 (pc' := 81) (ls' := [some (.ref h0), some (.int v1), some (.int v2), some (.int v3), some (.int v4), some (.int v5), some (.int (F_46 h0 v1 S)), some (.int w1), some (.int w2), some (.int w3), some (.int w4)]) (st' := [.int w2, .int w1, .int v5, .int v4, .int v3, .int v2]) (S' := S) rfl ?_
    refine go_cs mm_30 (av := [.int v2, .int v3, .int v4, .int v5, .int w1, .int w2]) (rest := []) (nl := 6) rfl (show csOK 30 81 18 23 6 6 = true by decide +kernel) rfl rfl rfl (S_23 rfl) (KP_V ?_)
    show Go XC (d + 1) 30 0 84 [some (.ref h0), some (.int v1), some (.int v2), some (.int v3), some (.int v4), some (.int v5), some (.int (F_46 h0 v1 S)), some (.int w1), some (.int w2), some (.int w3), some (.int w4)] [.int (F_23 v2 v3 v4 v5 w1 w2)] S (RV (vZ r) S)
    refine go_run mm_30 6 (pc' := 94) (ls' := [some (.ref h0), some (.int v1), some (.int v2), some (.int v3), some (.int v4), some (.int v5), some (.int (F_46 h0 v1 S)), some (.int w1), some (.int w2), some (.int w3), some (.int w4)]) (st' := [.int w4, .int w3, .int v5, .int v4, .int v3, .int v2, .int (F_23 v2 v3 v4 v5 w1 w2)]) (S' := S) rfl ?_
    refine go_cs mm_30 (av := [.int v2, .int v3, .int v4, .int v5, .int w3, .int w4]) (rest := [.int (F_23 v2 v3 v4 v5 w1 w2)]) (nl := 6) rfl (show csOK 30 94 18 23 6 6 = true by decide +kernel) rfl rfl rfl (S_23 rfl) (KP_V ?_)
    show Go XC (d + 1) 30 0 97 [some (.ref h0), some (.int v1), some (.int v2), some (.int v3), some (.int v4), some (.int v5), some (.int (F_46 h0 v1 S)), some (.int w1), some (.int w2), some (.int w3), some (.int w4)] [.int (F_23 v2 v3 v4 v5 w3 w4), .int (F_23 v2 v3 v4 v5 w1 w2)] S (RV (vZ r) S)
    refine go_cs mm_30 (av := [.int (F_23 v2 v3 v4 v5 w1 w2), .int (F_23 v2 v3 v4 v5 w3 w4)]) (rest := []) (nl := 2) rfl (show csOK 30 97 58 31 2 2 = true by decide +kernel) rfl rfl rfl (S_31 rfl) (KP_V ?_)
    show Go XC (d + 1) 30 0 100 [some (.ref h0), some (.int v1), some (.int v2), some (.int v3), some (.int v4), some (.int v5), some (.int (F_46 h0 v1 S)), some (.int w1), some (.int w2), some (.int w3), some (.int w4)] [.int (b2i (F_31 (F_23 v2 v3 v4 v5 w1 w2) (F_23 v2 v3 v4 v5 w3 w4)))] S (RV (vZ r) S)
    have j3 : Go XC (d + 1) 30 0 108 [some (.ref h0), some (.int v1), some (.int v2), some (.int v3), some (.int v4), some (.int v5), some (.int (F_46 h0 v1 S)), some (.int w1), some (.int w2), some (.int w3), some (.int w4)] [.int (b2i (F_31 (F_23 v2 v3 v4 v5 w1 w2) (F_23 v2 v3 v4 v5 w3 w4)))] S (RV (vZ r) S) := by
      have e : ((b2i ((F_31 (F_23 w1 w2 w3 w4 v2 v3) (F_23 w1 w2 w3 w4 v4 v5)) && (F_31 (F_23 v2 v3 v4 v5 w1 w2) (F_23 v2 v3 v4 v5 w3 w4)))) : Int32) = (b2i (F_31 (F_23 v2 v3 v4 v5 w1 w2) (F_23 v2 v3 v4 v5 w3 w4))) := by simp [b2i, hc1]
      rw [e] at j4
      exact j4
    refine go_ifb mm_30 rfl (p1 := 103) (p2 := 107) rfl (fun (hc2 : (F_31 (F_23 v2 v3 v4 v5 w1 w2) (F_23 v2 v3 v4 v5 w3 w4)) = true) => ?_) (fun (hc2 : (F_31 (F_23 v2 v3 v4 v5 w1 w2) (F_23 v2 v3 v4 v5 w3 w4)) = false) => ?_)
    · refine go_run mm_30 2 (pc' := 108) (ls' := [some (.ref h0), some (.int v1), some (.int v2), some (.int v3), some (.int v4), some (.int v5), some (.int (F_46 h0 v1 S)), some (.int w1), some (.int w2), some (.int w3), some (.int w4)]) (st' := [.int 1]) (S' := S) rfl ?_
      have e : ((b2i (F_31 (F_23 v2 v3 v4 v5 w1 w2) (F_23 v2 v3 v4 v5 w3 w4))) : Int32) = 1 := by simp [b2i, hc2]
      rw [e] at j3
      exact j3
    · refine go_run mm_30 1 (pc' := 108) (ls' := [some (.ref h0), some (.int v1), some (.int v2), some (.int v3), some (.int v4), some (.int v5), some (.int (F_46 h0 v1 S)), some (.int w1), some (.int w2), some (.int w3), some (.int w4)]) (st' := [.int 0]) (S' := S) rfl ?_
      have e : ((b2i (F_31 (F_23 v2 v3 v4 v5 w1 w2) (F_23 v2 v3 v4 v5 w3 w4))) : Int32) = 0 := by simp [b2i, hc2]
      rw [e] at j3
      exact j3
  · refine go_run mm_30 1 (pc' := 108) (ls' := [some (.ref h0), some (.int v1), some (.int v2), some (.int v3), some (.int v4), some (.int v5), some (.int (F_46 h0 v1 S)), some (.int w1), some (.int w2), some (.int w3), some (.int w4)]) (st' := [.int 0]) (S' := S) rfl ?_
    have e : ((b2i ((F_31 (F_23 w1 w2 w3 w4 v2 v3) (F_23 w1 w2 w3 w4 v4 v5)) && (F_31 (F_23 v2 v3 v4 v5 w1 w2) (F_23 v2 v3 v4 v5 w3 w4)))) : Int32) = 0 := by simp [b2i, hc1]
    rw [e] at j4
    exact j4

theorem mm_29 : mtG 29 = some (mi_29, 4, ft_29) := rfl
def F_29 (h0 : Nat) (v1 : Int32) (v2 : Int32) (S : ST) : Option Bool := ob (F_44 h0 v2 S) (fun w1 => ob (F_45 h0 v2 S) (fun w2 => ob (F_44 h0 (F_46 h0 v2 S) S) (fun w3 => ob (F_45 h0 (F_46 h0 v2 S) S) (fun w4 => ob (F_30 h0 v1 w1 w2 w3 w4 S) (fun w5 => if w5 = true then (some true) else (ob (F_44 h0 v2 S) (fun w6 => ob (F_45 h0 v2 S) (fun w7 => ob (F_32 h0 v1 1 w6 w7 S) (fun w8 => if w8 = true then (some true) else (ob (F_44 h0 (F_46 h0 v2 S) S) (fun w9 => ob (F_45 h0 (F_46 h0 v2 S) S) (fun w10 => ob (F_32 h0 v1 1 w9 w10 S) (fun w11 => if w11 = true then (some true) else (ob (F_44 h0 v1 S) (fun w12 => ob (F_45 h0 v1 S) (fun w13 => ob (F_32 h0 v2 1 w12 w13 S) (fun w14 => if w14 = true then (some true) else (ob (F_44 h0 (F_46 h0 v1 S) S) (fun w15 => ob (F_45 h0 (F_46 h0 v1 S) S) (fun w16 => ob (F_32 h0 v2 1 w15 w16 S) (fun w17 => some w17)))))))))))))))))))))
set_option maxRecDepth 20000 in
theorem S_29 {d : Nat} {S : ST} {h0 : Nat} {v1 : Int32} {v2 : Int32} {r} (hp0 : PLH h0) (hr : F_29 h0 v1 v2 S = some r) : Cal XC (d + 2) 29 [.ref h0, .int v1, .int v2] S (RV (vZ r) S) := by
  unfold F_29 at hr
  refine cal_go 2 rfl ?_
  refine go_run mm_29 2 (pc' := 2) (ls' := [some (.ref h0), some (.int v1), some (.int v2), none, none]) (st' := [.int v1, .ref h0]) (S' := S) rfl ?_
  refine go_cv mm_29 (h := h0) (As := [.int v1]) (rest := []) (nl := 2) rfl hp0.1 (show cvOK 29 2 28 46 1 2 5 = true by decide +kernel) rfl rfl rfl (S_46 hp0 rfl) (KP_V ?_)
  show Go XC (d + 2) 29 0 5 [some (.ref h0), some (.int v1), some (.int v2), none, none] [.int (F_46 h0 v1 S)] S (RV (vZ r) S)
  refine go_run mm_29 3 (pc' := 8) (ls' := [some (.ref h0), some (.int v1), some (.int v2), some (.int (F_46 h0 v1 S)), none]) (st' := [.int v2, .ref h0]) (S' := S) rfl ?_
  refine go_cv mm_29 (h := h0) (As := [.int v2]) (rest := []) (nl := 2) rfl hp0.1 (show cvOK 29 8 28 46 1 2 5 = true by decide +kernel) rfl rfl rfl (S_46 hp0 rfl) (KP_V ?_)
  show Go XC (d + 2) 29 0 11 [some (.ref h0), some (.int v1), some (.int v2), some (.int (F_46 h0 v1 S)), none] [.int (F_46 h0 v2 S)] S (RV (vZ r) S)
  refine go_run mm_29 5 (pc' := 17) (ls' := [some (.ref h0), some (.int v1), some (.int v2), some (.int (F_46 h0 v1 S)), some (.int (F_46 h0 v2 S))]) (st' := [.int v2, .ref h0, .int v1, .ref h0]) (S' := S) rfl ?_
  obtain ⟨w1, hw1, hr⟩ := ob_some hr
  refine go_cv mm_29 (h := h0) (As := [.int v2]) (rest := [.int v1, .ref h0]) (nl := 2) rfl hp0.1 (show cvOK 29 17 9 44 1 2 5 = true by decide +kernel) rfl rfl rfl (S_44 hp0 hw1) (KP_V ?_)
  show Go XC (d + 2) 29 0 20 [some (.ref h0), some (.int v1), some (.int v2), some (.int (F_46 h0 v1 S)), some (.int (F_46 h0 v2 S))] [.int w1, .int v1, .ref h0] S (RV (vZ r) S)
  refine go_run mm_29 2 (pc' := 22) (ls' := [some (.ref h0), some (.int v1), some (.int v2), some (.int (F_46 h0 v1 S)), some (.int (F_46 h0 v2 S))]) (st' := [.int v2, .ref h0, .int w1, .int v1, .ref h0]) (S' := S) rfl ?_
  obtain ⟨w2, hw2, hr⟩ := ob_some hr
  refine go_cv mm_29 (h := h0) (As := [.int v2]) (rest := [.int w1, .int v1, .ref h0]) (nl := 2) rfl hp0.1 (show cvOK 29 22 15 45 1 2 5 = true by decide +kernel) rfl rfl rfl (S_45 hp0 hw2) (KP_V ?_)
  show Go XC (d + 2) 29 0 25 [some (.ref h0), some (.int v1), some (.int v2), some (.int (F_46 h0 v1 S)), some (.int (F_46 h0 v2 S))] [.int w2, .int w1, .int v1, .ref h0] S (RV (vZ r) S)
  refine go_run mm_29 2 (pc' := 28) (ls' := [some (.ref h0), some (.int v1), some (.int v2), some (.int (F_46 h0 v1 S)), some (.int (F_46 h0 v2 S))]) (st' := [.int (F_46 h0 v2 S), .ref h0, .int w2, .int w1, .int v1, .ref h0]) (S' := S) rfl ?_
  obtain ⟨w3, hw3, hr⟩ := ob_some hr
  refine go_cv mm_29 (h := h0) (As := [.int (F_46 h0 v2 S)]) (rest := [.int w2, .int w1, .int v1, .ref h0]) (nl := 2) rfl hp0.1 (show cvOK 29 28 9 44 1 2 5 = true by decide +kernel) rfl rfl rfl (S_44 hp0 hw3) (KP_V ?_)
  show Go XC (d + 2) 29 0 31 [some (.ref h0), some (.int v1), some (.int v2), some (.int (F_46 h0 v1 S)), some (.int (F_46 h0 v2 S))] [.int w3, .int w2, .int w1, .int v1, .ref h0] S (RV (vZ r) S)
  refine go_run mm_29 2 (pc' := 34) (ls' := [some (.ref h0), some (.int v1), some (.int v2), some (.int (F_46 h0 v1 S)), some (.int (F_46 h0 v2 S))]) (st' := [.int (F_46 h0 v2 S), .ref h0, .int w3, .int w2, .int w1, .int v1, .ref h0]) (S' := S) rfl ?_
  obtain ⟨w4, hw4, hr⟩ := ob_some hr
  refine go_cv mm_29 (h := h0) (As := [.int (F_46 h0 v2 S)]) (rest := [.int w3, .int w2, .int w1, .int v1, .ref h0]) (nl := 2) rfl hp0.1 (show cvOK 29 34 15 45 1 2 5 = true by decide +kernel) rfl rfl rfl (S_45 hp0 hw4) (KP_V ?_)
  show Go XC (d + 2) 29 0 37 [some (.ref h0), some (.int v1), some (.int v2), some (.int (F_46 h0 v1 S)), some (.int (F_46 h0 v2 S))] [.int w4, .int w3, .int w2, .int w1, .int v1, .ref h0] S (RV (vZ r) S)
  obtain ⟨w5, hw5, hr⟩ := ob_some hr
  refine go_cs mm_29 (av := [.ref h0, .int v1, .int w1, .int w2, .int w3, .int w4]) (rest := []) (nl := 11) rfl (show csOK 29 37 50 30 6 11 = true by decide +kernel) rfl rfl rfl (S_30 hp0 hw5) (KP_V ?_)
  show Go XC (d + 2) 29 0 40 [some (.ref h0), some (.int v1), some (.int v2), some (.int (F_46 h0 v1 S)), some (.int (F_46 h0 v2 S))] [.int (b2i w5)] S (RV (vZ r) S)
  refine go_ifb mm_29 rfl (p1 := 121) (p2 := 43) rfl (fun (hc1 : w5 = true) => ?_) (fun (hc1 : w5 = false) => ?_)
  · rw [if_pos hc1] at hr
    refine go_run mm_29 2 (pc' := 126) (ls' := [some (.ref h0), some (.int v1), some (.int v2), some (.int (F_46 h0 v1 S)), some (.int (F_46 h0 v2 S))]) (st' := [.int 1]) (S' := S) rfl ?_
    cases hr
    exact go_zreturn mm_29 rfl rfl (Or.inr rfl) ⟨rfl, rfl, rfl⟩
  · rw [if_neg (bf hc1)] at hr
    refine go_run mm_29 5 (pc' := 48) (ls' := [some (.ref h0), some (.int v1), some (.int v2), some (.int (F_46 h0 v1 S)), some (.int (F_46 h0 v2 S))]) (st' := [.int v2, .ref h0, .int 1, .int v1, .ref h0]) (S' := S) rfl ?_
    obtain ⟨w6, hw6, hr⟩ := ob_some hr
    refine go_cv mm_29 (h := h0) (As := [.int v2]) (rest := [.int 1, .int v1, .ref h0]) (nl := 2) rfl hp0.1 (show cvOK 29 48 9 44 1 2 5 = true by decide +kernel) rfl rfl rfl (S_44 hp0 hw6) (KP_V ?_)
    show Go XC (d + 2) 29 0 51 [some (.ref h0), some (.int v1), some (.int v2), some (.int (F_46 h0 v1 S)), some (.int (F_46 h0 v2 S))] [.int w6, .int 1, .int v1, .ref h0] S (RV (vZ r) S)
    refine go_run mm_29 2 (pc' := 53) (ls' := [some (.ref h0), some (.int v1), some (.int v2), some (.int (F_46 h0 v1 S)), some (.int (F_46 h0 v2 S))]) (st' := [.int v2, .ref h0, .int w6, .int 1, .int v1, .ref h0]) (S' := S) rfl ?_
    obtain ⟨w7, hw7, hr⟩ := ob_some hr
    refine go_cv mm_29 (h := h0) (As := [.int v2]) (rest := [.int w6, .int 1, .int v1, .ref h0]) (nl := 2) rfl hp0.1 (show cvOK 29 53 15 45 1 2 5 = true by decide +kernel) rfl rfl rfl (S_45 hp0 hw7) (KP_V ?_)
    show Go XC (d + 2) 29 0 56 [some (.ref h0), some (.int v1), some (.int v2), some (.int (F_46 h0 v1 S)), some (.int (F_46 h0 v2 S))] [.int w7, .int w6, .int 1, .int v1, .ref h0] S (RV (vZ r) S)
    obtain ⟨w8, hw8, hr⟩ := ob_some hr
    refine go_cs mm_29 (av := [.ref h0, .int v1, .int 1, .int w6, .int w7]) (rest := []) (nl := 10) rfl (show csOK 29 56 54 32 5 10 = true by decide +kernel) rfl rfl rfl (S_32 hp0 hw8) (KP_V ?_)
    show Go XC (d + 2) 29 0 59 [some (.ref h0), some (.int v1), some (.int v2), some (.int (F_46 h0 v1 S)), some (.int (F_46 h0 v2 S))] [.int (b2i w8)] S (RV (vZ r) S)
    refine go_ifb mm_29 rfl (p1 := 121) (p2 := 62) rfl (fun (hc2 : w8 = true) => ?_) (fun (hc2 : w8 = false) => ?_)
    · rw [if_pos hc2] at hr
      refine go_run mm_29 2 (pc' := 126) (ls' := [some (.ref h0), some (.int v1), some (.int v2), some (.int (F_46 h0 v1 S)), some (.int (F_46 h0 v2 S))]) (st' := [.int 1]) (S' := S) rfl ?_
      cases hr
      exact go_zreturn mm_29 rfl rfl (Or.inr rfl) ⟨rfl, rfl, rfl⟩
    · rw [if_neg (bf hc2)] at hr
      refine go_run mm_29 5 (pc' := 68) (ls' := [some (.ref h0), some (.int v1), some (.int v2), some (.int (F_46 h0 v1 S)), some (.int (F_46 h0 v2 S))]) (st' := [.int (F_46 h0 v2 S), .ref h0, .int 1, .int v1, .ref h0]) (S' := S) rfl ?_
      obtain ⟨w9, hw9, hr⟩ := ob_some hr
      refine go_cv mm_29 (h := h0) (As := [.int (F_46 h0 v2 S)]) (rest := [.int 1, .int v1, .ref h0]) (nl := 2) rfl hp0.1 (show cvOK 29 68 9 44 1 2 5 = true by decide +kernel) rfl rfl rfl (S_44 hp0 hw9) (KP_V ?_)
      show Go XC (d + 2) 29 0 71 [some (.ref h0), some (.int v1), some (.int v2), some (.int (F_46 h0 v1 S)), some (.int (F_46 h0 v2 S))] [.int w9, .int 1, .int v1, .ref h0] S (RV (vZ r) S)
      refine go_run mm_29 2 (pc' := 74) (ls' := [some (.ref h0), some (.int v1), some (.int v2), some (.int (F_46 h0 v1 S)), some (.int (F_46 h0 v2 S))]) (st' := [.int (F_46 h0 v2 S), .ref h0, .int w9, .int 1, .int v1, .ref h0]) (S' := S) rfl ?_
      obtain ⟨w10, hw10, hr⟩ := ob_some hr
      refine go_cv mm_29 (h := h0) (As := [.int (F_46 h0 v2 S)]) (rest := [.int w9, .int 1, .int v1, .ref h0]) (nl := 2) rfl hp0.1 (show cvOK 29 74 15 45 1 2 5 = true by decide +kernel) rfl rfl rfl (S_45 hp0 hw10) (KP_V ?_)
      show Go XC (d + 2) 29 0 77 [some (.ref h0), some (.int v1), some (.int v2), some (.int (F_46 h0 v1 S)), some (.int (F_46 h0 v2 S))] [.int w10, .int w9, .int 1, .int v1, .ref h0] S (RV (vZ r) S)
      obtain ⟨w11, hw11, hr⟩ := ob_some hr
      refine go_cs mm_29 (av := [.ref h0, .int v1, .int 1, .int w9, .int w10]) (rest := []) (nl := 10) rfl (show csOK 29 77 54 32 5 10 = true by decide +kernel) rfl rfl rfl (S_32 hp0 hw11) (KP_V ?_)
      show Go XC (d + 2) 29 0 80 [some (.ref h0), some (.int v1), some (.int v2), some (.int (F_46 h0 v1 S)), some (.int (F_46 h0 v2 S))] [.int (b2i w11)] S (RV (vZ r) S)
      refine go_ifb mm_29 rfl (p1 := 121) (p2 := 83) rfl (fun (hc3 : w11 = true) => ?_) (fun (hc3 : w11 = false) => ?_)
      · rw [if_pos hc3] at hr
        refine go_run mm_29 2 (pc' := 126) (ls' := [some (.ref h0), some (.int v1), some (.int v2), some (.int (F_46 h0 v1 S)), some (.int (F_46 h0 v2 S))]) (st' := [.int 1]) (S' := S) rfl ?_
        cases hr
        exact go_zreturn mm_29 rfl rfl (Or.inr rfl) ⟨rfl, rfl, rfl⟩
      · rw [if_neg (bf hc3)] at hr
        refine go_run mm_29 5 (pc' := 88) (ls' := [some (.ref h0), some (.int v1), some (.int v2), some (.int (F_46 h0 v1 S)), some (.int (F_46 h0 v2 S))]) (st' := [.int v1, .ref h0, .int 1, .int v2, .ref h0]) (S' := S) rfl ?_
        obtain ⟨w12, hw12, hr⟩ := ob_some hr
        refine go_cv mm_29 (h := h0) (As := [.int v1]) (rest := [.int 1, .int v2, .ref h0]) (nl := 2) rfl hp0.1 (show cvOK 29 88 9 44 1 2 5 = true by decide +kernel) rfl rfl rfl (S_44 hp0 hw12) (KP_V ?_)
        show Go XC (d + 2) 29 0 91 [some (.ref h0), some (.int v1), some (.int v2), some (.int (F_46 h0 v1 S)), some (.int (F_46 h0 v2 S))] [.int w12, .int 1, .int v2, .ref h0] S (RV (vZ r) S)
        refine go_run mm_29 2 (pc' := 93) (ls' := [some (.ref h0), some (.int v1), some (.int v2), some (.int (F_46 h0 v1 S)), some (.int (F_46 h0 v2 S))]) (st' := [.int v1, .ref h0, .int w12, .int 1, .int v2, .ref h0]) (S' := S) rfl ?_
        obtain ⟨w13, hw13, hr⟩ := ob_some hr
        refine go_cv mm_29 (h := h0) (As := [.int v1]) (rest := [.int w12, .int 1, .int v2, .ref h0]) (nl := 2) rfl hp0.1 (show cvOK 29 93 15 45 1 2 5 = true by decide +kernel) rfl rfl rfl (S_45 hp0 hw13) (KP_V ?_)
        show Go XC (d + 2) 29 0 96 [some (.ref h0), some (.int v1), some (.int v2), some (.int (F_46 h0 v1 S)), some (.int (F_46 h0 v2 S))] [.int w13, .int w12, .int 1, .int v2, .ref h0] S (RV (vZ r) S)
        obtain ⟨w14, hw14, hr⟩ := ob_some hr
        refine go_cs mm_29 (av := [.ref h0, .int v2, .int 1, .int w12, .int w13]) (rest := []) (nl := 10) rfl (show csOK 29 96 54 32 5 10 = true by decide +kernel) rfl rfl rfl (S_32 hp0 hw14) (KP_V ?_)
        show Go XC (d + 2) 29 0 99 [some (.ref h0), some (.int v1), some (.int v2), some (.int (F_46 h0 v1 S)), some (.int (F_46 h0 v2 S))] [.int (b2i w14)] S (RV (vZ r) S)
        refine go_ifb mm_29 rfl (p1 := 121) (p2 := 102) rfl (fun (hc4 : w14 = true) => ?_) (fun (hc4 : w14 = false) => ?_)
        · rw [if_pos hc4] at hr
          refine go_run mm_29 2 (pc' := 126) (ls' := [some (.ref h0), some (.int v1), some (.int v2), some (.int (F_46 h0 v1 S)), some (.int (F_46 h0 v2 S))]) (st' := [.int 1]) (S' := S) rfl ?_
          cases hr
          exact go_zreturn mm_29 rfl rfl (Or.inr rfl) ⟨rfl, rfl, rfl⟩
        · rw [if_neg (bf hc4)] at hr
          refine go_run mm_29 5 (pc' := 107) (ls' := [some (.ref h0), some (.int v1), some (.int v2), some (.int (F_46 h0 v1 S)), some (.int (F_46 h0 v2 S))]) (st' := [.int (F_46 h0 v1 S), .ref h0, .int 1, .int v2, .ref h0]) (S' := S) rfl ?_
          obtain ⟨w15, hw15, hr⟩ := ob_some hr
          refine go_cv mm_29 (h := h0) (As := [.int (F_46 h0 v1 S)]) (rest := [.int 1, .int v2, .ref h0]) (nl := 2) rfl hp0.1 (show cvOK 29 107 9 44 1 2 5 = true by decide +kernel) rfl rfl rfl (S_44 hp0 hw15) (KP_V ?_)
          show Go XC (d + 2) 29 0 110 [some (.ref h0), some (.int v1), some (.int v2), some (.int (F_46 h0 v1 S)), some (.int (F_46 h0 v2 S))] [.int w15, .int 1, .int v2, .ref h0] S (RV (vZ r) S)
          refine go_run mm_29 2 (pc' := 112) (ls' := [some (.ref h0), some (.int v1), some (.int v2), some (.int (F_46 h0 v1 S)), some (.int (F_46 h0 v2 S))]) (st' := [.int (F_46 h0 v1 S), .ref h0, .int w15, .int 1, .int v2, .ref h0]) (S' := S) rfl ?_
          obtain ⟨w16, hw16, hr⟩ := ob_some hr
          refine go_cv mm_29 (h := h0) (As := [.int (F_46 h0 v1 S)]) (rest := [.int w15, .int 1, .int v2, .ref h0]) (nl := 2) rfl hp0.1 (show cvOK 29 112 15 45 1 2 5 = true by decide +kernel) rfl rfl rfl (S_45 hp0 hw16) (KP_V ?_)
          show Go XC (d + 2) 29 0 115 [some (.ref h0), some (.int v1), some (.int v2), some (.int (F_46 h0 v1 S)), some (.int (F_46 h0 v2 S))] [.int w16, .int w15, .int 1, .int v2, .ref h0] S (RV (vZ r) S)
          obtain ⟨w17, hw17, hr⟩ := ob_some hr
          refine go_cs mm_29 (av := [.ref h0, .int v2, .int 1, .int w15, .int w16]) (rest := []) (nl := 10) rfl (show csOK 29 115 54 32 5 10 = true by decide +kernel) rfl rfl rfl (S_32 hp0 hw17) (KP_V ?_)
          show Go XC (d + 2) 29 0 118 [some (.ref h0), some (.int v1), some (.int v2), some (.int (F_46 h0 v1 S)), some (.int (F_46 h0 v2 S))] [.int (b2i w17)] S (RV (vZ r) S)
          have j6 : Go XC (d + 2) 29 0 126 [some (.ref h0), some (.int v1), some (.int v2), some (.int (F_46 h0 v1 S)), some (.int (F_46 h0 v2 S))] [.int (b2i w17)] S (RV (vZ r) S) := by
            cases hr
            exact go_zreturn mm_29 rfl rfl (b2i_01 _) ⟨rfl, rfl, rfl⟩
          refine go_ifb mm_29 rfl (p1 := 121) (p2 := 125) rfl (fun (hc5 : w17 = true) => ?_) (fun (hc5 : w17 = false) => ?_)
          · refine go_run mm_29 2 (pc' := 126) (ls' := [some (.ref h0), some (.int v1), some (.int v2), some (.int (F_46 h0 v1 S)), some (.int (F_46 h0 v2 S))]) (st' := [.int 1]) (S' := S) rfl ?_
            have e : ((b2i w17) : Int32) = 1 := by simp [b2i, hc5]
            rw [e] at j6
            exact j6
          · refine go_run mm_29 1 (pc' := 126) (ls' := [some (.ref h0), some (.int v1), some (.int v2), some (.int (F_46 h0 v1 S)), some (.int (F_46 h0 v2 S))]) (st' := [.int 0]) (S' := S) rfl ?_
            have e : ((b2i w17) : Int32) = 0 := by simp [b2i, hc5]
            rw [e] at j6
            exact j6
