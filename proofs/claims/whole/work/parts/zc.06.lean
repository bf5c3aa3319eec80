/-! methods as functions (printed by a program): 27 isSimple, 41 checkNumber, 40 readPlace, 48 putCorner, 36 readVertices -/
theorem mm_27 : mtG 27 = some (mi_27, 4, ft_27) := rfl
def L_27_43 (h0 : Nat) (p43_1 : Int32) (S : ST) (a43 : Int32) : Option ((Int32) ⊕ ((Int32) ⊕ Bool)) := if a43 < (S.1 h0 0) then (if (F_46 h0 a43 S) = p43_1 then (some (.inl (a43 + 1))) else (ob (F_29 h0 p43_1 a43 S) (fun w2 => if w2 = true then (some (.inr (.inr false))) else (some (.inl (a43 + 1)))))) else (some (.inr (.inl (a43))))
set_option maxRecDepth 20000 in
theorem LS_27_43 {d : Nat} {R : RT} {S : ST} {h0 : Nat} {p43_1 : Int32} (hp0 : PLH h0) {a43 : Int32} {r9} (hr : L_27_43 h0 p43_1 S a43 = some r9) (hL : ∀ a9, r9 = .inl a9 → (fun a43 => Go XC (d + 3) 27 0 43 [some (.ref h0), some (.int p43_1), some (.int a43)] [] S R) a9) (hR : ∀ b9, r9 = .inr b9 → Sum.elim (fun e43 => Go XC (d + 3) 27 0 77 [some (.ref h0), some (.int p43_1), some (.int e43)] [] S R) (fun o => R 0 (.inr (vZ o)) S) b9) : Go XC (d + 3) 27 0 43 [some (.ref h0), some (.int p43_1), some (.int a43)] [] S R := by
  unfold L_27_43 at hr
  refine go_run mm_27 2 (pc' := 45) (ls' := [some (.ref h0), some (.int p43_1), some (.int a43)]) (st' := [.ref h0, .int a43]) (S' := S) rfl ?_
  refine go_getf mm_27 (h := h0) rfl hp0.1 rfl ?_
  show Go XC (d + 3) 27 0 48 [some (.ref h0), some (.int p43_1), some (.int a43)] [.int (S.1 h0 0), .int a43] S R
  refine go_if2 mm_27 rfl (p1 := 51) (p2 := 77) rfl (fun (hc5 : a43 < (S.1 h0 0)) => ?_) (fun (hc5 : ¬ a43 < (S.1 h0 0)) => ?_)
  · rw [if_pos hc5] at hr
    refine go_run mm_27 2 (pc' := 53) (ls' := [some (.ref h0), some (.int p43_1), some (.int a43)]) (st' := [.int a43, .ref h0]) (S' := S) rfl ?_
    refine go_cv mm_27 (h := h0) (As := [.int a43]) (rest := []) (nl := 2) rfl hp0.1 (show cvOK 27 53 28 46 1 2 5 = true by decide +kernel) rfl rfl rfl (S_46 hp0 rfl) (KP_V ?_)
    show Go XC (d + 3) 27 0 56 [some (.ref h0), some (.int p43_1), some (.int a43)] [.int (F_46 h0 a43 S)] S R
    refine go_run mm_27 1 (pc' := 57) (ls' := [some (.ref h0), some (.int p43_1), some (.int a43)]) (st' := [.int p43_1, .int (F_46 h0 a43 S)]) (S' := S) rfl ?_
    refine go_if2 mm_27 rfl (p1 := 71) (p2 := 60) rfl (fun (hc6 : (F_46 h0 a43 S) = p43_1) => ?_) (fun (hc6 : ¬ (F_46 h0 a43 S) = p43_1) => ?_)
    · rw [if_pos hc6] at hr
      refine go_run mm_27 2 (pc' := 43) (ls' := [some (.ref h0), some (.int p43_1), some (.int (a43 + 1))]) (st' := []) (S' := S) rfl ?_
      cases hr
      have h9 := hL (a43 + 1) rfl
      dsimp only at h9
      exact Go.le h9 (by repeat first | exact True.intro | refine And.intro rfl ?_)
    · rw [if_neg hc6] at hr
      refine go_run mm_27 3 (pc' := 63) (ls' := [some (.ref h0), some (.int p43_1), some (.int a43)]) (st' := [.int a43, .int p43_1, .ref h0]) (S' := S) rfl ?_
      obtain ⟨w2, hw2, hr⟩ := ob_some hr
      refine go_cs mm_27 (av := [.ref h0, .int p43_1, .int a43]) (rest := []) (nl := 5) rfl (show csOK 27 63 46 29 3 5 = true by decide +kernel) rfl rfl rfl (S_29 hp0 hw2) (KP_V ?_)
      show Go XC (d + 3) 27 0 66 [some (.ref h0), some (.int p43_1), some (.int a43)] [.int (b2i w2)] S R
      refine go_ifb mm_27 rfl (p1 := 69) (p2 := 71) rfl (fun (hc7 : w2 = true) => ?_) (fun (hc7 : w2 = false) => ?_)
      · rw [if_pos hc7] at hr
        refine go_run mm_27 1 (pc' := 70) (ls' := [some (.ref h0), some (.int p43_1), some (.int a43)]) (st' := [.int 0]) (S' := S) rfl ?_
        cases hr
        have h9 : R 0 (.inr (vZ false)) S := hR _ rfl
        exact go_zreturn mm_27 rfl rfl (Or.inl rfl) h9
      · rw [if_neg (bf hc7)] at hr
        refine go_run mm_27 2 (pc' := 43) (ls' := [some (.ref h0), some (.int p43_1), some (.int (a43 + 1))]) (st' := []) (S' := S) rfl ?_
        cases hr
        have h9 := hL (a43 + 1) rfl
        dsimp only at h9
        exact Go.le h9 (by repeat first | exact True.intro | refine And.intro rfl ?_)
  · rw [if_neg hc5] at hr
    cases hr
    have h9 := hR (.inl (a43)) rfl
    dsimp only [Sum.elim_inl] at h9
    exact Go.le h9 (by repeat first | exact True.intro | refine And.intro rfl ?_)
def L_27_21 (h0 : Nat) (S : ST) (a21 : Int32) : Option ((Int32) ⊕ ((Int32) ⊕ Bool)) := if a21 < (S.1 h0 0) then (ob (F_28 h0 a21 S) (fun w1 => if w1 = true then (some (.inr (.inr false))) else (ob (wh FU (L_27_43 h0 a21 S) (a21 + 2)) (fun z => Sum.elim (fun e43 => some (.inl (a21 + 1))) (fun o => some (.inr (.inr o))) z)))) else (some (.inr (.inl (a21))))
set_option maxRecDepth 20000 in
theorem LS_27_21 {d : Nat} {R : RT} {S : ST} {h0 : Nat} (hp0 : PLH h0) {a21 : Int32} {r9} (hr : L_27_21 h0 S a21 = some r9) (hL : ∀ a9, r9 = .inl a9 → (fun a21 => Go XC (d + 3) 27 0 21 [some (.ref h0), some (.int a21), none] [] S R) a9) (hR : ∀ b9, r9 = .inr b9 → Sum.elim (fun e21 => Go XC (d + 3) 27 0 83 [some (.ref h0), some (.int e21), none] [] S R) (fun o => R 0 (.inr (vZ o)) S) b9) : Go XC (d + 3) 27 0 21 [some (.ref h0), some (.int a21), none] [] S R := by
  unfold L_27_21 at hr
  refine go_run mm_27 2 (pc' := 23) (ls' := [some (.ref h0), some (.int a21), none]) (st' := [.ref h0, .int a21]) (S' := S) rfl ?_
  refine go_getf mm_27 (h := h0) rfl hp0.1 rfl ?_
  show Go XC (d + 3) 27 0 26 [some (.ref h0), some (.int a21), none] [.int (S.1 h0 0), .int a21] S R
  refine go_if2 mm_27 rfl (p1 := 29) (p2 := 83) rfl (fun (hc3 : a21 < (S.1 h0 0)) => ?_) (fun (hc3 : ¬ a21 < (S.1 h0 0)) => ?_)
  · rw [if_pos hc3] at hr
    refine go_run mm_27 2 (pc' := 31) (ls' := [some (.ref h0), some (.int a21), none]) (st' := [.int a21, .ref h0]) (S' := S) rfl ?_
    obtain ⟨w1, hw1, hr⟩ := ob_some hr
    refine go_cs mm_27 (av := [.ref h0, .int a21]) (rest := []) (nl := 8) rfl (show csOK 27 31 42 28 2 8 = true by decide +kernel) rfl rfl rfl (S_28 hp0 hw1) (KP_V ?_)
    show Go XC (d + 3) 27 0 34 [some (.ref h0), some (.int a21), none] [.int (b2i w1)] S R
    refine go_ifb mm_27 rfl (p1 := 37) (p2 := 39) rfl (fun (hc4 : w1 = true) => ?_) (fun (hc4 : w1 = false) => ?_)
    · rw [if_pos hc4] at hr
      refine go_run mm_27 1 (pc' := 38) (ls' := [some (.ref h0), some (.int a21), none]) (st' := [.int 0]) (S' := S) rfl ?_
      cases hr
      have h9 : R 0 (.inr (vZ false)) S := hR _ rfl
      exact go_zreturn mm_27 rfl rfl (Or.inl rfl) h9
    · rw [if_neg (bf hc4)] at hr
      refine go_run mm_27 4 (pc' := 43) (ls' := [some (.ref h0), some (.int a21), some (.int (a21 + 2))]) (st' := []) (S' := S) rfl ?_
      obtain ⟨z43, he43, hr⟩ := ob_some hr
      refine Go.le (ls' := [some (.ref h0), some (.int a21), some (.int (a21 + 2))]) ?_ (by repeat first | exact True.intro | refine And.intro rfl ?_)
      refine wh_go (P := fun a43 => Go XC (d + 3) 27 0 43 [some (.ref h0), some (.int a21), some (.int a43)] [] S R) (K := fun z => Sum.elim (fun e43 => Go XC (d + 3) 27 0 77 [some (.ref h0), some (.int a21), some (.int e43)] [] S R) (fun o => R 0 (.inr (vZ o)) S) z) (fun a9 r9 h9 hL hR => LS_27_43 hp0 h9 hL hR) _ _ _ he43 ?_
      rcases z43 with e43 | o
      rotate_left
      · simp only [Sum.elim_inr] at hr
        cases hr
        exact hR _ rfl
      simp only [Sum.elim_inl] at hr
      show Go XC (d + 3) 27 0 77 [some (.ref h0), some (.int a21), some (.int e43)] [] S R
      refine go_run mm_27 2 (pc' := 21) (ls' := [some (.ref h0), some (.int (a21 + 1)), some (.int e43)]) (st' := []) (S' := S) rfl ?_
      cases hr
      have h9 := hL (a21 + 1) rfl
      dsimp only at h9
      exact Go.le h9 (by repeat first | exact True.intro | refine And.intro rfl ?_)
  · rw [if_neg hc3] at hr
    cases hr
    have h9 := hR (.inl (a21)) rfl
    dsimp only [Sum.elim_inl] at h9
    exact Go.le h9 (by repeat first | exact True.intro | refine And.intro rfl ?_)
def F_27 (h0 : Nat) (S : ST) : Option Bool := if (S.1 h0 0) < 3 then (some false) else (if (12 : Int32) < (S.1 h0 0) then (some false) else (ob (wh FU (L_27_21 h0 S) (0)) (fun z => Sum.elim (fun e21 => some true) (fun o => some o) z)))
set_option maxRecDepth 20000 in
theorem S_27 {d : Nat} {S : ST} {h0 : Nat} {r} (hp0 : PLH h0) (hr : F_27 h0 S = some r) : Cal XC (d + 3) 27 [.ref h0] S (RV (vZ r) S) := by
  unfold F_27 at hr
  refine cal_go 2 rfl ?_
  refine go_run mm_27 1 (pc' := 1) (ls' := [some (.ref h0), none, none]) (st' := [.ref h0]) (S' := S) rfl ?_
  refine go_getf mm_27 (h := h0) rfl hp0.1 rfl ?_
  show Go XC (d + 3) 27 0 4 [some (.ref h0), none, none] [.int (S.1 h0 0)] S (RV (vZ r) S)
  refine go_run mm_27 1 (pc' := 5) (ls' := [some (.ref h0), none, none]) (st' := [.int 3, .int (S.1 h0 0)]) (S' := S) rfl ?_
  refine go_if2 mm_27 rfl (p1 := 17) (p2 := 8) rfl (fun (hc1 : (S.1 h0 0) < 3) => ?_) (fun (hc1 : ¬ (S.1 h0 0) < 3) => ?_)
  · rw [if_pos hc1] at hr
    refine go_run mm_27 1 (pc' := 18) (ls' := [some (.ref h0), none, none]) (st' := [.int 0]) (S' := S) rfl ?_
    cases hr
    exact go_zreturn mm_27 rfl rfl (Or.inl rfl) ⟨rfl, rfl, rfl⟩
  · rw [if_neg hc1] at hr
    refine go_run mm_27 1 (pc' := 9) (ls' := [some (.ref h0), none, none]) (st' := [.ref h0]) (S' := S) rfl ?_
    refine go_getf mm_27 (h := h0) rfl hp0.1 rfl ?_
    show Go XC (d + 3) 27 0 12 [some (.ref h0), none, none] [.int (S.1 h0 0)] S (RV (vZ r) S)
    refine go_run mm_27 1 (pc' := 14) (ls' := [some (.ref h0), none, none]) (st' := [.int 12, .int (S.1 h0 0)]) (S' := S) rfl ?_
    refine go_if2 mm_27 rfl (p1 := 17) (p2 := 19) rfl (fun (hc2 : (12 : Int32) < (S.1 h0 0)) => ?_) (fun (hc2 : ¬ (12 : Int32) < (S.1 h0 0)) => ?_)
    · rw [if_pos hc2] at hr
      refine go_run mm_27 1 (pc' := 18) (ls' := [some (.ref h0), none, none]) (st' := [.int 0]) (S' := S) rfl ?_
      cases hr
      exact go_zreturn mm_27 rfl rfl (Or.inl rfl) ⟨rfl, rfl, rfl⟩
    · rw [if_neg hc2] at hr
      refine go_run mm_27 2 (pc' := 21) (ls' := [some (.ref h0), some (.int 0), none]) (st' := []) (S' := S) rfl ?_
      obtain ⟨z21, he21, hr⟩ := ob_some hr
      refine Go.le (ls' := [some (.ref h0), some (.int 0), none]) ?_ (by repeat first | exact True.intro | refine And.intro rfl ?_)
      refine wh_go (P := fun a21 => Go XC (d + 3) 27 0 21 [some (.ref h0), some (.int a21), none] [] S (RV (vZ r) S)) (K := fun z => Sum.elim (fun e21 => Go XC (d + 3) 27 0 83 [some (.ref h0), some (.int e21), none] [] S (RV (vZ r) S)) (fun o => (RV (vZ r) S) 0 (.inr (vZ o)) S) z) (fun a9 r9 h9 hL hR => LS_27_21 hp0 h9 hL hR) _ _ _ he21 ?_
      rcases z21 with e21 | o
      rotate_left
      · simp only [Sum.elim_inr] at hr
        cases hr
        exact ⟨rfl, rfl, rfl⟩
      simp only [Sum.elim_inl] at hr
      show Go XC (d + 3) 27 0 83 [some (.ref h0), some (.int e21), none] [] S (RV (vZ r) S)
      refine go_run mm_27 1 (pc' := 84) (ls' := [some (.ref h0), some (.int e21), none]) (st' := [.int 1]) (S' := S) rfl ?_
      cases hr
      exact go_zreturn mm_27 rfl rfl (Or.inr rfl) ⟨rfl, rfl, rfl⟩

theorem mm_41 : mtG 41 = some (mi_41, 5, ft_41) := rfl
def F_41 (v1 : Int32) (v2 : Int32) (S : ST) : Int32 := if (S.1 1 1) = 2 then ((if (S.1 1 3) < v1 then 2 else (if v2 < (S.1 1 3) then 2 else 0))) else (1)
set_option maxRecDepth 20000 in
theorem S_41 {d : Nat} {S : ST} {v1 : Int32} {v2 : Int32} {r} (hr : F_41 v1 v2 S = r) : Cal XC d 41 [.ref 29, .int v1, .int v2] S (RV (vI r) S) := by
  unfold F_41 at hr
  refine cal_go 0 rfl ?_
  refine go_run mm_41 4 (pc' := 8) (ls' := [some (.ref 29), some (.int v1), some (.int v2)]) (st' := [.int 2, .int (S.1 1 1)]) (S' := S) rfl ?_
  refine go_if2 mm_41 rfl (p1 := 13) (p2 := 11) rfl (fun (hc1 : (S.1 1 1) = 2) => ?_) (fun (hc1 : ¬ (S.1 1 1) = 2) => ?_)
  · rw [if_pos hc1] at hr
    refine go_run mm_41 4 (pc' := 21) (ls' := [some (.ref 29), some (.int v1), some (.int v2)]) (st' := [.int v1, .int (S.1 1 3)]) (S' := S) rfl ?_
    have j5 : Go XC d 41 0 40 [some (.ref 29), some (.int v1), some (.int v2)] [.int (if (S.1 1 3) < v1 then 2 else (if v2 < (S.1 1 3) then 2 else 0))] S (RV (vI r) S) := by
      cases hr
      exact go_ireturn mm_41 rfl rfl ⟨rfl, rfl, rfl⟩
    refine go_if2 mm_41 rfl (p1 := 39) (p2 := 24) rfl (fun (hc2 : (S.1 1 3) < v1) => ?_) (fun (hc2 : ¬ (S.1 1 3) < v1) => ?_)
    · refine go_run mm_41 1 (pc' := 40) (ls' := [some (.ref 29), some (.int v1), some (.int v2)]) (st' := [.int 2]) (S' := S) rfl ?_
      have e : ((if (S.1 1 3) < v1 then 2 else (if v2 < (S.1 1 3) then 2 else 0)) : Int32) = 2 := by simp [b2i, hc2]
      rw [e] at j5
      exact j5
    · refine go_run mm_41 4 (pc' := 32) (ls' := [some (.ref 29), some (.int v1), some (.int v2)]) (st' := [.int v2, .int (S.1 1 3)]) (S' := S) rfl ?_
      have j4 : Go XC d 41 0 40 [some (.ref 29), some (.int v1), some (.int v2)] [.int (if v2 < (S.1 1 3) then 2 else 0)] S (RV (vI r) S) := by
        have e : ((if (S.1 1 3) < v1 then 2 else (if v2 < (S.1 1 3) then 2 else 0)) : Int32) = (if v2 < (S.1 1 3) then 2 else 0) := by simp [b2i, hc2]
        rw [e] at j5
        exact j5
      refine go_if2 mm_41 rfl (p1 := 39) (p2 := 35) rfl (fun (hc3 : v2 < (S.1 1 3)) => ?_) (fun (hc3 : ¬ v2 < (S.1 1 3)) => ?_)
      · refine go_run mm_41 1 (pc' := 40) (ls' := [some (.ref 29), some (.int v1), some (.int v2)]) (st' := [.int 2]) (S' := S) rfl ?_
        have e : ((if v2 < (S.1 1 3) then 2 else 0) : Int32) = 2 := by simp [b2i, hc3]
        rw [e] at j4
        exact j4
      · refine go_run mm_41 2 (pc' := 40) (ls' := [some (.ref 29), some (.int v1), some (.int v2)]) (st' := [.int 0]) (S' := S) rfl ?_
        have e : ((if v2 < (S.1 1 3) then 2 else 0) : Int32) = 0 := by simp [b2i, hc3]
        rw [e] at j4
        exact j4
  · rw [if_neg hc1] at hr
    refine go_run mm_41 1 (pc' := 12) (ls' := [some (.ref 29), some (.int v1), some (.int v2)]) (st' := [.int 1]) (S' := S) rfl ?_
    cases hr
    exact go_ireturn mm_41 rfl rfl ⟨rfl, rfl, rfl⟩

theorem mm_40 : mtG 40 = some (mi_40, 5, ft_40) := rfl
def F_40 (v1 : Bool) (S : ST) : Option (Int32 × ST) := if (F_41 0 15 S) = 0 then (ob (F_13 (wI S 29 3 (S.1 1 3))) (fun w1 => if (F_41 0 15 w1.2) = 0 then (if v1 = true then (ob (F_18 25 (w1.2.1 29 3) (w1.2.1 1 3) (wI w1.2 29 4 (w1.2.1 1 3))) (fun w2 => if w2 = (-1) then (some (4, (wI w1.2 29 4 (w1.2.1 1 3)))) else (ob (F_13 (wI w1.2 29 4 (w1.2.1 1 3))) (fun w3 => some (0, w3.2))))) else (ob (F_13 (wI w1.2 29 4 (w1.2.1 1 3))) (fun w4 => some (0, w4.2)))) else (some ((F_41 0 15 w1.2), w1.2)))) else (some ((F_41 0 15 S), S))
set_option maxRecDepth 20000 in
theorem S_40 {d : Nat} {S : ST} {v1 : Bool} {r} (hr : F_40 v1 S = some r) : Cal XC (d + 2) 40 [.ref 29, .int (b2i v1)] S (RV (vI r.1) r.2) := by
  unfold F_40 at hr
  refine cal_go 1 rfl ?_
  refine go_run mm_40 3 (pc' := 4) (ls' := [some (.ref 29), some (.int (b2i v1)), none]) (st' := [.int 15, .int 0, .ref 29]) (S' := S) rfl ?_
  refine go_cv mm_40 (h := 29) (As := [.int 0, .int 15]) (rest := []) (nl := 3) rfl rfl (show cvOK 40 4 71 41 2 3 4 = true by decide +kernel) rfl rfl rfl (S_41 rfl) (KP_V ?_)
  show Go XC (d + 2) 40 0 7 [some (.ref 29), some (.int (b2i v1)), none] [.int (F_41 0 15 S)] S (RV (vI r.1) r.2)
  refine go_run mm_40 2 (pc' := 9) (ls' := [some (.ref 29), some (.int (b2i v1)), some (.int (F_41 0 15 S))]) (st' := [.int (F_41 0 15 S)]) (S' := S) rfl ?_
  refine go_if0 mm_40 rfl (p1 := 14) (p2 := 12) rfl (fun (hc1 : (F_41 0 15 S) = 0) => ?_) (fun (hc1 : ¬ (F_41 0 15 S) = 0) => ?_)
  · rw [if_pos hc1] at hr
    refine go_run mm_40 7 (pc' := 29) (ls' := [some (.ref 29), some (.int (b2i v1)), some (.int (F_41 0 15 S))]) (st' := [.ref 1]) (S' := (wI S 29 3 (S.1 1 3))) rfl ?_
    obtain ⟨w1, hw1, hr⟩ := ob_some hr
    refine go_cv mm_40 (h := 1) (As := []) (rest := []) (nl := 2) rfl rfl (show cvOK 40 29 47 13 0 2 2 = true by decide +kernel) rfl rfl rfl (S_13 hw1) (KP_V ?_)
    show Go XC (d + 2) 40 0 32 [some (.ref 29), some (.int (b2i v1)), some (.int (F_41 0 15 S))] [] w1.2 (RV (vI r.1) r.2)
    refine go_run mm_40 3 (pc' := 36) (ls' := [some (.ref 29), some (.int (b2i v1)), some (.int (F_41 0 15 S))]) (st' := [.int 15, .int 0, .ref 29]) (S' := w1.2) rfl ?_
    refine go_cv mm_40 (h := 29) (As := [.int 0, .int 15]) (rest := []) (nl := 3) rfl rfl (show cvOK 40 36 71 41 2 3 4 = true by decide +kernel) rfl rfl rfl (S_41 rfl) (KP_V ?_)
    show Go XC (d + 2) 40 0 39 [some (.ref 29), some (.int (b2i v1)), some (.int (F_41 0 15 S))] [.int (F_41 0 15 w1.2)] w1.2 (RV (vI r.1) r.2)
    refine go_run mm_40 2 (pc' := 41) (ls' := [some (.ref 29), some (.int (b2i v1)), some (.int (F_41 0 15 w1.2))]) (st' := [.int (F_41 0 15 w1.2)]) (S' := w1.2) rfl ?_
    refine go_if0 mm_40 rfl (p1 := 46) (p2 := 44) rfl (fun (hc2 : (F_41 0 15 w1.2) = 0) => ?_) (fun (hc2 : ¬ (F_41 0 15 w1.2) = 0) => ?_)
    · rw [if_pos hc2] at hr
      refine go_run mm_40 6 (pc' := 58) (ls' := [some (.ref 29), some (.int (b2i v1)), some (.int (F_41 0 15 w1.2))]) (st' := [.int (b2i v1)]) (S' := (wI w1.2 29 4 (w1.2.1 1 3))) rfl ?_
      refine go_ifb mm_40 rfl (p1 := 61) (p2 := 82) rfl (fun (hc3 : v1 = true) => ?_) (fun (hc3 : v1 = false) => ?_)
      · rw [if_pos hc3] at hr
        refine go_run mm_40 6 (pc' := 73) (ls' := [some (.ref 29), some (.int (b2i v1)), some (.int (F_41 0 15 w1.2))]) (st' := [.int (w1.2.1 1 3), .int (w1.2.1 29 3), .ref 25]) (S' := (wI w1.2 29 4 (w1.2.1 1 3))) rfl ?_
        obtain ⟨w2, hw2, hr⟩ := ob_some hr
        refine go_cv mm_40 (h := 25) (As := [.int (w1.2.1 29 3), .int (w1.2.1 1 3)]) (rest := []) (nl := 3) rfl rfl (show cvOK 40 73 110 18 2 3 3 = true by decide +kernel) rfl rfl rfl (S_18 (ltB_ok rfl) hw2) (KP_V ?_)
        show Go XC (d + 2) 40 0 76 [some (.ref 29), some (.int (b2i v1)), some (.int (F_41 0 15 w1.2))] [.int w2] (wI w1.2 29 4 (w1.2.1 1 3)) (RV (vI r.1) r.2)
        refine go_run mm_40 1 (pc' := 77) (ls' := [some (.ref 29), some (.int (b2i v1)), some (.int (F_41 0 15 w1.2))]) (st' := [.int (-1), .int w2]) (S' := (wI w1.2 29 4 (w1.2.1 1 3))) rfl ?_
        refine go_if2 mm_40 rfl (p1 := 80) (p2 := 82) rfl (fun (hc4 : w2 = (-1)) => ?_) (fun (hc4 : ¬ w2 = (-1)) => ?_)
        · rw [if_pos hc4] at hr
          refine go_run mm_40 1 (pc' := 81) (ls' := [some (.ref 29), some (.int (b2i v1)), some (.int (F_41 0 15 w1.2))]) (st' := [.int 4]) (S' := (wI w1.2 29 4 (w1.2.1 1 3))) rfl ?_
          cases hr
          exact go_ireturn mm_40 rfl rfl ⟨rfl, rfl, rfl⟩
        · rw [if_neg hc4] at hr
          refine go_run mm_40 2 (pc' := 86) (ls' := [some (.ref 29), some (.int (b2i v1)), some (.int (F_41 0 15 w1.2))]) (st' := [.ref 1]) (S' := (wI w1.2 29 4 (w1.2.1 1 3))) rfl ?_
          obtain ⟨w3, hw3, hr⟩ := ob_some hr
          refine go_cv mm_40 (h := 1) (As := []) (rest := []) (nl := 2) rfl rfl (show cvOK 40 86 47 13 0 2 2 = true by decide +kernel) rfl rfl rfl (S_13 hw3) (KP_V ?_)
          show Go XC (d + 2) 40 0 89 [some (.ref 29), some (.int (b2i v1)), some (.int (F_41 0 15 w1.2))] [] w3.2 (RV (vI r.1) r.2)
          refine go_run mm_40 1 (pc' := 90) (ls' := [some (.ref 29), some (.int (b2i v1)), some (.int (F_41 0 15 w1.2))]) (st' := [.int 0]) (S' := w3.2) rfl ?_
          cases hr
          exact go_ireturn mm_40 rfl rfl ⟨rfl, rfl, rfl⟩
      · rw [if_neg (bf hc3)] at hr
        refine go_run mm_40 2 (pc' := 86) (ls' := [some (.ref 29), some (.int (b2i v1)), some (.int (F_41 0 15 w1.2))]) (st' := [.ref 1]) (S' := (wI w1.2 29 4 (w1.2.1 1 3))) rfl ?_
        obtain ⟨w4, hw4, hr⟩ := ob_some hr
        refine go_cv mm_40 (h := 1) (As := []) (rest := []) (nl := 2) rfl rfl (show cvOK 40 86 47 13 0 2 2 = true by decide +kernel) rfl rfl rfl (S_13 hw4) (KP_V ?_)
        show Go XC (d + 2) 40 0 89 [some (.ref 29), some (.int (b2i v1)), some (.int (F_41 0 15 w1.2))] [] w4.2 (RV (vI r.1) r.2)
        refine go_run mm_40 1 (pc' := 90) (ls' := [some (.ref 29), some (.int (b2i v1)), some (.int (F_41 0 15 w1.2))]) (st' := [.int 0]) (S' := w4.2) rfl ?_
        cases hr
        exact go_ireturn mm_40 rfl rfl ⟨rfl, rfl, rfl⟩
    · rw [if_neg hc2] at hr
      refine go_run mm_40 1 (pc' := 45) (ls' := [some (.ref 29), some (.int (b2i v1)), some (.int (F_41 0 15 w1.2))]) (st' := [.int (F_41 0 15 w1.2)]) (S' := w1.2) rfl ?_
      cases hr
      exact go_ireturn mm_40 rfl rfl ⟨rfl, rfl, rfl⟩
  · rw [if_neg hc1] at hr
    refine go_run mm_40 1 (pc' := 13) (ls' := [some (.ref 29), some (.int (b2i v1)), some (.int (F_41 0 15 S))]) (st' := [.int (F_41 0 15 S)]) (S' := S) rfl ?_
    cases hr
    exact go_ireturn mm_40 rfl rfl ⟨rfl, rfl, rfl⟩

theorem mm_48 : mtG 48 = some (mi_48, 6, ft_48) := rfl
def L_48_28 (h0 : Nat) (v1 : Int32) (v2 : Int32) (v3 : Int32) (a28 : Int32 × ST) : Option ((Int32 × ST) ⊕ (Int32 × ST)) := if v1 < a28.1 then (ck (ibd (a28.1 - 1) 12) (ck (ibd a28.1 12) (sbn ((wI a28.2 (h0 + 1) (Int32.toNatClampNeg a28.1) (a28.2.1 (h0 + 1) (Int32.toNatClampNeg (a28.1 - 1))))) (fun s7 => ck (ibd (a28.1 - 1) 12) (ck (ibd a28.1 12) (sbn ((wI s7 (h0 + 2) (Int32.toNatClampNeg a28.1) (s7.1 (h0 + 2) (Int32.toNatClampNeg (a28.1 - 1))))) (fun s10 => some (.inl (a28.1 + (-1), s10))))))))) else (some (.inr (a28.1, a28.2)))
set_option maxRecDepth 20000 in
theorem LS_48_28 {d : Nat} {R : RT} {h0 : Nat} {v1 : Int32} {v2 : Int32} {v3 : Int32} (hp0 : PLH h0) {a28 : Int32 × ST} {r9} (hr : L_48_28 h0 v1 v2 v3 a28 = some r9) (hL : ∀ a9, r9 = .inl a9 → (fun a28 => Go XC d 48 0 28 [some (.ref h0), some (.int v1), some (.int v2), some (.int v3), some (.int a28.1)] [] a28.2 R) a9) (hR : ∀ b9, r9 = .inr b9 → (fun e28 => Go XC d 48 0 72 [some (.ref h0), some (.int v1), some (.int v2), some (.int v3), some (.int e28.1)] [] e28.2 R) b9) : Go XC d 48 0 28 [some (.ref h0), some (.int v1), some (.int v2), some (.int v3), some (.int a28.1)] [] a28.2 R := by
  unfold L_48_28 at hr
  refine go_run mm_48 2 (pc' := 31) (ls' := [some (.ref h0), some (.int v1), some (.int v2), some (.int v3), some (.int a28.1)]) (st' := [.int v1, .int a28.1]) (S' := a28.2) rfl ?_
  refine go_if2 mm_48 rfl (p1 := 34) (p2 := 72) rfl (fun (hc4 : v1 < a28.1) => ?_) (fun (hc4 : ¬ v1 < a28.1) => ?_)
  · rw [if_pos hc4] at hr
    refine go_run mm_48 1 (pc' := 35) (ls' := [some (.ref h0), some (.int v1), some (.int v2), some (.int v3), some (.int a28.1)]) (st' := [.ref h0]) (S' := a28.2) rfl ?_
    refine go_getf mm_48 (h := h0) rfl hp0.1 rfl ?_
    show Go XC d 48 0 38 [some (.ref h0), some (.int v1), some (.int v2), some (.int v3), some (.int a28.1)] [.ref (h0 + 1)] a28.2 R
    refine go_run mm_48 2 (pc' := 41) (ls' := [some (.ref h0), some (.int v1), some (.int v2), some (.int v3), some (.int a28.1)]) (st' := [.ref h0, .int a28.1, .ref (h0 + 1)]) (S' := a28.2) rfl ?_
    refine go_getf mm_48 (h := h0) rfl hp0.1 rfl ?_
    show Go XC d 48 0 44 [some (.ref h0), some (.int v1), some (.int v2), some (.int v3), some (.int a28.1)] [.ref (h0 + 1), .int a28.1, .ref (h0 + 1)] a28.2 R
    refine go_run mm_48 3 (pc' := 48) (ls' := [some (.ref h0), some (.int v1), some (.int v2), some (.int v3), some (.int a28.1)]) (st' := [.int (a28.1 - 1), .ref (h0 + 1), .int a28.1, .ref (h0 + 1)]) (S' := a28.2) rfl ?_
    obtain ⟨hb5, hr⟩ := ck_some hr
    refine go_iaload mm_48 (q := (Int32.toNatClampNeg (a28.1 - 1))) rfl (hp0.2.1) rfl (ibd_ok hb5) ?_
    show Go XC d 48 0 49 [some (.ref h0), some (.int v1), some (.int v2), some (.int v3), some (.int a28.1)] [.int (a28.2.1 (h0 + 1) (Int32.toNatClampNeg (a28.1 - 1))), .int a28.1, .ref (h0 + 1)] a28.2 R
    obtain ⟨hb6, hr⟩ := ck_some hr
    refine go_iastore mm_48 (q := (Int32.toNatClampNeg a28.1)) rfl (hp0.2.1) rfl (ibd_ok hb6) ?_
    show Go XC d 48 0 50 [some (.ref h0), some (.int v1), some (.int v2), some (.int v3), some (.int a28.1)] [] (wI a28.2 (h0 + 1) (Int32.toNatClampNeg a28.1) (a28.2.1 (h0 + 1) (Int32.toNatClampNeg (a28.1 - 1)))) R
    obtain ⟨s7, es7, hr⟩ := sbn_some hr
    rw [← es7]
    refine go_run mm_48 1 (pc' := 51) (ls' := [some (.ref h0), some (.int v1), some (.int v2), some (.int v3), some (.int a28.1)]) (st' := [.ref h0]) (S' := s7) rfl ?_
    refine go_getf mm_48 (h := h0) rfl hp0.1 rfl ?_
    show Go XC d 48 0 54 [some (.ref h0), some (.int v1), some (.int v2), some (.int v3), some (.int a28.1)] [.ref (h0 + 2)] s7 R
    refine go_run mm_48 2 (pc' := 57) (ls' := [some (.ref h0), some (.int v1), some (.int v2), some (.int v3), some (.int a28.1)]) (st' := [.ref h0, .int a28.1, .ref (h0 + 2)]) (S' := s7) rfl ?_
    refine go_getf mm_48 (h := h0) rfl hp0.1 rfl ?_
    show Go XC d 48 0 60 [some (.ref h0), some (.int v1), some (.int v2), some (.int v3), some (.int a28.1)] [.ref (h0 + 2), .int a28.1, .ref (h0 + 2)] s7 R
    refine go_run mm_48 3 (pc' := 64) (ls' := [some (.ref h0), some (.int v1), some (.int v2), some (.int v3), some (.int a28.1)]) (st' := [.int (a28.1 - 1), .ref (h0 + 2), .int a28.1, .ref (h0 + 2)]) (S' := s7) rfl ?_
    obtain ⟨hb8, hr⟩ := ck_some hr
    refine go_iaload mm_48 (q := (Int32.toNatClampNeg (a28.1 - 1))) rfl (hp0.2.2.1) rfl (ibd_ok hb8) ?_
    show Go XC d 48 0 65 [some (.ref h0), some (.int v1), some (.int v2), some (.int v3), some (.int a28.1)] [.int (s7.1 (h0 + 2) (Int32.toNatClampNeg (a28.1 - 1))), .int a28.1, .ref (h0 + 2)] s7 R
    obtain ⟨hb9, hr⟩ := ck_some hr
    refine go_iastore mm_48 (q := (Int32.toNatClampNeg a28.1)) rfl (hp0.2.2.1) rfl (ibd_ok hb9) ?_
    show Go XC d 48 0 66 [some (.ref h0), some (.int v1), some (.int v2), some (.int v3), some (.int a28.1)] [] (wI s7 (h0 + 2) (Int32.toNatClampNeg a28.1) (s7.1 (h0 + 2) (Int32.toNatClampNeg (a28.1 - 1)))) R
    obtain ⟨s10, es10, hr⟩ := sbn_some hr
    rw [← es10]
    refine go_run mm_48 2 (pc' := 28) (ls' := [some (.ref h0), some (.int v1), some (.int v2), some (.int v3), some (.int (a28.1 + (-1)))]) (st' := []) (S' := s10) rfl ?_
    cases hr
    have h9 := hL (a28.1 + (-1), s10) rfl
    dsimp only at h9
    exact Go.le h9 (by repeat first | exact True.intro | refine And.intro rfl ?_)
  · rw [if_neg hc4] at hr
    cases hr
    have h9 := hR (a28.1, a28.2) rfl
    dsimp only [Sum.elim_inl] at h9
    exact Go.le h9 (by repeat first | exact True.intro | refine And.intro rfl ?_)
def F_48 (h0 : Nat) (v1 : Int32) (v2 : Int32) (v3 : Int32) (S : ST) : Option (Unit × ST) := if v1 < 0 then (some ((), S)) else (if (S.1 h0 0) < v1 then (some ((), S)) else (if (S.1 h0 0) < 12 then (ob (wh FU (L_48_28 h0 v1 v2 v3) (S.1 h0 0, S)) (fun e28 => ck (ibd v1 12) (sbn ((wI e28.2 (h0 + 1) (Int32.toNatClampNeg v1) v2)) (fun s12 => ck (ibd v1 12) (sbn ((wI s12 (h0 + 2) (Int32.toNatClampNeg v1) v3)) (fun s14 => sbn ((wI s14 h0 0 ((s14.1 h0 0) + 1))) (fun s15 => some ((), s15)))))))) else (some ((), S))))
set_option maxRecDepth 20000 in
theorem S_48 {d : Nat} {S : ST} {h0 : Nat} {v1 : Int32} {v2 : Int32} {v3 : Int32} {r} (hp0 : PLH h0) (hr : F_48 h0 v1 v2 v3 S = some r) : Cal XC d 48 [.ref h0, .int v1, .int v2, .int v3] S (RV (vU r.1) r.2) := by
  unfold F_48 at hr
  refine cal_go 1 rfl ?_
  refine go_run mm_48 1 (pc' := 1) (ls' := [some (.ref h0), some (.int v1), some (.int v2), some (.int v3), none]) (st' := [.int v1]) (S' := S) rfl ?_
  refine go_if0 mm_48 rfl (p1 := 21) (p2 := 4) rfl (fun (hc1 : v1 < 0) => ?_) (fun (hc1 : ¬ v1 < 0) => ?_)
  · rw [if_pos hc1] at hr
    cases hr
    exact go_vreturn mm_48 rfl rfl ⟨rfl, rfl, rfl⟩
  · rw [if_neg hc1] at hr
    refine go_run mm_48 2 (pc' := 6) (ls' := [some (.ref h0), some (.int v1), some (.int v2), some (.int v3), none]) (st' := [.ref h0, .int v1]) (S' := S) rfl ?_
    refine go_getf mm_48 (h := h0) rfl hp0.1 rfl ?_
    show Go XC d 48 0 9 [some (.ref h0), some (.int v1), some (.int v2), some (.int v3), none] [.int (S.1 h0 0), .int v1] S (RV (vU r.1) r.2)
    refine go_if2 mm_48 rfl (p1 := 21) (p2 := 12) rfl (fun (hc2 : (S.1 h0 0) < v1) => ?_) (fun (hc2 : ¬ (S.1 h0 0) < v1) => ?_)
    · rw [if_pos hc2] at hr
      cases hr
      exact go_vreturn mm_48 rfl rfl ⟨rfl, rfl, rfl⟩
    · rw [if_neg hc2] at hr
      refine go_run mm_48 1 (pc' := 13) (ls' := [some (.ref h0), some (.int v1), some (.int v2), some (.int v3), none]) (st' := [.ref h0]) (S' := S) rfl ?_
      refine go_getf mm_48 (h := h0) rfl hp0.1 rfl ?_
      show Go XC d 48 0 16 [some (.ref h0), some (.int v1), some (.int v2), some (.int v3), none] [.int (S.1 h0 0)] S (RV (vU r.1) r.2)
      refine go_run mm_48 1 (pc' := 18) (ls' := [some (.ref h0), some (.int v1), some (.int v2), some (.int v3), none]) (st' := [.int 12, .int (S.1 h0 0)]) (S' := S) rfl ?_
      refine go_if2 mm_48 rfl (p1 := 22) (p2 := 21) rfl (fun (hc3 : (S.1 h0 0) < 12) => ?_) (fun (hc3 : ¬ (S.1 h0 0) < 12) => ?_)
      · rw [if_pos hc3] at hr
        refine go_run mm_48 1 (pc' := 23) (ls' := [some (.ref h0), some (.int v1), some (.int v2), some (.int v3), none]) (st' := [.ref h0]) (S' := S) rfl ?_
        refine go_getf mm_48 (h := h0) rfl hp0.1 rfl ?_
        show Go XC d 48 0 26 [some (.ref h0), some (.int v1), some (.int v2), some (.int v3), none] [.int (S.1 h0 0)] S (RV (vU r.1) r.2)
        refine go_run mm_48 1 (pc' := 28) (ls' := [some (.ref h0), some (.int v1), some (.int v2), some (.int v3), some (.int (S.1 h0 0))]) (st' := []) (S' := S) rfl ?_
        obtain ⟨z28, he28, hr⟩ := ob_some hr
        refine Go.le (ls' := [some (.ref h0), some (.int v1), some (.int v2), some (.int v3), some (.int (S.1 h0 0))]) ?_ (by repeat first | exact True.intro | refine And.intro rfl ?_)
        refine wh_go (P := fun a28 => Go XC d 48 0 28 [some (.ref h0), some (.int v1), some (.int v2), some (.int v3), some (.int a28.1)] [] a28.2 (RV (vU r.1) r.2)) (K := fun e28 => Go XC d 48 0 72 [some (.ref h0), some (.int v1), some (.int v2), some (.int v3), some (.int e28.1)] [] e28.2 (RV (vU r.1) r.2)) (fun a9 r9 h9 hL hR => LS_48_28 hp0 h9 hL hR) _ _ _ he28 ?_
        generalize z28 = e28 at hr
        show Go XC d 48 0 72 [some (.ref h0), some (.int v1), some (.int v2), some (.int v3), some (.int e28.1)] [] e28.2 (RV (vU r.1) r.2)
        refine go_run mm_48 1 (pc' := 73) (ls' := [some (.ref h0), some (.int v1), some (.int v2), some (.int v3), some (.int e28.1)]) (st' := [.ref h0]) (S' := e28.2) rfl ?_
        refine go_getf mm_48 (h := h0) rfl hp0.1 rfl ?_
        show Go XC d 48 0 76 [some (.ref h0), some (.int v1), some (.int v2), some (.int v3), some (.int e28.1)] [.ref (h0 + 1)] e28.2 (RV (vU r.1) r.2)
        refine go_run mm_48 2 (pc' := 78) (ls' := [some (.ref h0), some (.int v1), some (.int v2), some (.int v3), some (.int e28.1)]) (st' := [.int v2, .int v1, .ref (h0 + 1)]) (S' := e28.2) rfl ?_
        obtain ⟨hb11, hr⟩ := ck_some hr
        refine go_iastore mm_48 (q := (Int32.toNatClampNeg v1)) rfl (hp0.2.1) rfl (ibd_ok hb11) ?_
        show Go XC d 48 0 79 [some (.ref h0), some (.int v1), some (.int v2), some (.int v3), some (.int e28.1)] [] (wI e28.2 (h0 + 1) (Int32.toNatClampNeg v1) v2) (RV (vU r.1) r.2)
        obtain ⟨s12, es12, hr⟩ := sbn_some hr
        rw [← es12]
        refine go_run mm_48 1 (pc' := 80) (ls' := [some (.ref h0), some (.int v1), some (.int v2), some (.int v3), some (.int e28.1)]) (st' := [.ref h0]) (S' := s12) rfl ?_
        refine go_getf mm_48 (h := h0) rfl hp0.1 rfl ?_
        show Go XC d 48 0 83 [some (.ref h0), some (.int v1), some (.int v2), some (.int v3), some (.int e28.1)] [.ref (h0 + 2)] s12 (RV (vU r.1) r.2)
        refine go_run mm_48 2 (pc' := 85) (ls' := [some (.ref h0), some (.int v1), some (.int v2), some (.int v3), some (.int e28.1)]) (st' := [.int v3, .int v1, .ref (h0 + 2)]) (S' := s12) rfl ?_
        obtain ⟨hb13, hr⟩ := ck_some hr
        refine go_iastore mm_48 (q := (Int32.toNatClampNeg v1)) rfl (hp0.2.2.1) rfl (ibd_ok hb13) ?_
        show Go XC d 48 0 86 [some (.ref h0), some (.int v1), some (.int v2), some (.int v3), some (.int e28.1)] [] (wI s12 (h0 + 2) (Int32.toNatClampNeg v1) v3) (RV (vU r.1) r.2)
        obtain ⟨s14, es14, hr⟩ := sbn_some hr
        rw [← es14]
        refine go_run mm_48 2 (pc' := 88) (ls' := [some (.ref h0), some (.int v1), some (.int v2), some (.int v3), some (.int e28.1)]) (st' := [.ref h0, .ref h0]) (S' := s14) rfl ?_
        refine go_getf mm_48 (h := h0) rfl hp0.1 rfl ?_
        show Go XC d 48 0 91 [some (.ref h0), some (.int v1), some (.int v2), some (.int v3), some (.int e28.1)] [.int (s14.1 h0 0), .ref h0] s14 (RV (vU r.1) r.2)
        refine go_run mm_48 2 (pc' := 93) (ls' := [some (.ref h0), some (.int v1), some (.int v2), some (.int v3), some (.int e28.1)]) (st' := [.int ((s14.1 h0 0) + 1), .ref h0]) (S' := s14) rfl ?_
        refine go_putI mm_48 (h := h0) rfl hp0.1 rfl ?_
        show Go XC d 48 0 96 [some (.ref h0), some (.int v1), some (.int v2), some (.int v3), some (.int e28.1)] [] (wI s14 h0 0 ((s14.1 h0 0) + 1)) (RV (vU r.1) r.2)
        obtain ⟨s15, es15, hr⟩ := sbn_some hr
        rw [← es15]
        cases hr
        exact go_vreturn mm_48 rfl rfl ⟨rfl, rfl, rfl⟩
      · rw [if_neg hc3] at hr
        cases hr
        exact go_vreturn mm_48 rfl rfl ⟨rfl, rfl, rfl⟩

theorem mm_36 : mtG 36 = some (mi_36, 5, ft_36) := rfl
def L_36_2 (a2 : Int32 × ST) : Option ((Int32 × ST) ⊕ ((Int32 × ST) ⊕ (Int32 × ST))) := if (12 : Int32) < a2.1 then (some (.inr (.inl (a2.1, a2.2)))) else (if a2.1 < 3 then (if (F_41 0 15 a2.2) = 0 then (if a2.1 < 12 then (ob (F_40 false a2.2) (fun w1 => if w1.1 = 0 then (ob (F_48 12 a2.1 (w1.2.1 29 3) (w1.2.1 29 4) w1.2) (fun w2 => some (.inl (a2.1 + 1, w2.2)))) else (some (.inr (.inr (w1.1, w1.2)))))) else (if (5 : Int32) = 0 then (ob (F_48 12 a2.1 (a2.2.1 29 3) (a2.2.1 29 4) a2.2) (fun w3 => some (.inl (a2.1 + 1, w3.2)))) else (some (.inr (.inr (5, a2.2)))))) else (if (F_41 0 15 a2.2) = 0 then (ob (F_48 12 a2.1 (a2.2.1 29 3) (a2.2.1 29 4) a2.2) (fun w4 => some (.inl (a2.1 + 1, w4.2)))) else (some (.inr (.inr ((F_41 0 15 a2.2), a2.2)))))) else (if (a2.2.1 1 1) = 0 then (ob (F_27 12 a2.2) (fun w5 => if w5 = true then (ob (F_17 25 12 a2.2) (fun w6 => some (.inr (.inr ((if w6.1 = true then 0 else 3), w6.2))))) else (some (.inr (.inr (3, a2.2)))))) else (if (a2.2.1 1 1) = 3 then (ob (F_27 12 a2.2) (fun w7 => if w7 = true then (ob (F_17 25 12 a2.2) (fun w8 => some (.inr (.inr ((if w8.1 = true then 0 else 3), w8.2))))) else (some (.inr (.inr (3, a2.2)))))) else (if (F_41 0 15 a2.2) = 0 then (if a2.1 < 12 then (ob (F_40 false a2.2) (fun w9 => if w9.1 = 0 then (ob (F_48 12 a2.1 (w9.2.1 29 3) (w9.2.1 29 4) w9.2) (fun w10 => some (.inl (a2.1 + 1, w10.2)))) else (some (.inr (.inr (w9.1, w9.2)))))) else (if (5 : Int32) = 0 then (ob (F_48 12 a2.1 (a2.2.1 29 3) (a2.2.1 29 4) a2.2) (fun w11 => some (.inl (a2.1 + 1, w11.2)))) else (some (.inr (.inr (5, a2.2)))))) else (if (F_41 0 15 a2.2) = 0 then (ob (F_48 12 a2.1 (a2.2.1 29 3) (a2.2.1 29 4) a2.2) (fun w12 => some (.inl (a2.1 + 1, w12.2)))) else (some (.inr (.inr ((F_41 0 15 a2.2), a2.2)))))))))
set_option maxRecDepth 20000 in
theorem LS_36_2 {d : Nat} {R : RT} {a2 : Int32 × ST} {r9} (hr : L_36_2 a2 = some r9) (hL : ∀ a9, r9 = .inl a9 → (fun a2 => Go XC (d + 4) 36 0 2 [some (.ref 29), some (.int a2.1), none] [] a2.2 R) a9) (hR : ∀ b9, r9 = .inr b9 → Sum.elim (fun e2 => Go XC (d + 4) 36 0 120 [some (.ref 29), some (.int e2.1), none] [] e2.2 R) (fun o => R 0 (.inr (vI o.1)) o.2) b9) : Go XC (d + 4) 36 0 2 [some (.ref 29), some (.int a2.1), none] [] a2.2 R := by
  unfold L_36_2 at hr
  refine go_run mm_36 2 (pc' := 5) (ls' := [some (.ref 29), some (.int a2.1), none]) (st' := [.int 12, .int a2.1]) (S' := a2.2) rfl ?_
  refine go_if2 mm_36 rfl (p1 := 120) (p2 := 8) rfl (fun (hc1 : (12 : Int32) < a2.1) => ?_) (fun (hc1 : ¬ (12 : Int32) < a2.1) => ?_)
  · rw [if_pos hc1] at hr
    cases hr
    have h9 := hR (.inl (a2.1, a2.2)) rfl
    dsimp only [Sum.elim_inl] at h9
    exact Go.le h9 (by repeat first | exact True.intro | refine And.intro rfl ?_)
  · rw [if_neg hc1] at hr
    refine go_run mm_36 2 (pc' := 10) (ls' := [some (.ref 29), some (.int a2.1), none]) (st' := [.int 3, .int a2.1]) (S' := a2.2) rfl ?_
    refine go_if2 mm_36 rfl (p1 := 64) (p2 := 13) rfl (fun (hc2 : a2.1 < 3) => ?_) (fun (hc2 : ¬ a2.1 < 3) => ?_)
    · rw [if_pos hc2] at hr
      refine go_run mm_36 3 (pc' := 68) (ls' := [some (.ref 29), some (.int a2.1), none]) (st' := [.int 15, .int 0, .ref 29]) (S' := a2.2) rfl ?_
      refine go_cv mm_36 (h := 29) (As := [.int 0, .int 15]) (rest := []) (nl := 3) rfl rfl (show cvOK 36 68 71 41 2 3 4 = true by decide +kernel) rfl rfl rfl (S_41 rfl) (KP_V ?_)
      show Go XC (d + 4) 36 0 71 [some (.ref 29), some (.int a2.1), none] [.int (F_41 0 15 a2.2)] a2.2 R
      refine go_run mm_36 2 (pc' := 73) (ls' := [some (.ref 29), some (.int a2.1), some (.int (F_41 0 15 a2.2))]) (st' := [.int (F_41 0 15 a2.2)]) (S' := a2.2) rfl ?_
      refine go_if0 mm_36 rfl (p1 := 76) (p2 := 92) rfl (fun (hc3 : (F_41 0 15 a2.2) = 0) => ?_) (fun (hc3 : ¬ (F_41 0 15 a2.2) = 0) => ?_)
      · rw [if_pos hc3] at hr
        refine go_run mm_36 2 (pc' := 79) (ls' := [some (.ref 29), some (.int a2.1), some (.int (F_41 0 15 a2.2))]) (st' := [.int 12, .int a2.1]) (S' := a2.2) rfl ?_
        refine go_if2 mm_36 rfl (p1 := 82) (p2 := 90) rfl (fun (hc4 : a2.1 < 12) => ?_) (fun (hc4 : ¬ a2.1 < 12) => ?_)
        · rw [if_pos hc4] at hr
          refine go_run mm_36 2 (pc' := 84) (ls' := [some (.ref 29), some (.int a2.1), some (.int (F_41 0 15 a2.2))]) (st' := [.int 0, .ref 29]) (S' := a2.2) rfl ?_
          obtain ⟨w1, hw1, hr⟩ := ob_some hr
          refine go_cv mm_36 (h := 29) (As := [.int (b2i false)]) (rest := []) (nl := 3) rfl rfl (show cvOK 36 84 75 40 1 3 4 = true by decide +kernel) rfl rfl rfl (S_40 hw1) (KP_V ?_)
          show Go XC (d + 4) 36 0 87 [some (.ref 29), some (.int a2.1), some (.int (F_41 0 15 a2.2))] [.int w1.1] w1.2 R
          refine go_run mm_36 3 (pc' := 93) (ls' := [some (.ref 29), some (.int a2.1), some (.int w1.1)]) (st' := [.int w1.1]) (S' := w1.2) rfl ?_
          refine go_if0 mm_36 rfl (p1 := 98) (p2 := 96) rfl (fun (hc5 : w1.1 = 0) => ?_) (fun (hc5 : ¬ w1.1 = 0) => ?_)
          · rw [if_pos hc5] at hr
            refine go_run mm_36 7 (pc' := 111) (ls' := [some (.ref 29), some (.int a2.1), some (.int w1.1)]) (st' := [.int (w1.2.1 29 4), .int (w1.2.1 29 3), .int a2.1, .ref 12]) (S' := w1.2) rfl ?_
            obtain ⟨w2, hw2, hr⟩ := ob_some hr
            refine go_cv mm_36 (h := 12) (As := [.int a2.1, .int (w1.2.1 29 3), .int (w1.2.1 29 4)]) (rest := []) (nl := 5) rfl rfl (show cvOK 36 111 79 48 3 5 5 = true by decide +kernel) rfl rfl rfl (S_48 (plB_ok rfl) hw2) (KP_V ?_)
            show Go XC (d + 4) 36 0 114 [some (.ref 29), some (.int a2.1), some (.int w1.1)] [] w2.2 R
            refine go_run mm_36 2 (pc' := 2) (ls' := [some (.ref 29), some (.int (a2.1 + 1)), some (.int w1.1)]) (st' := []) (S' := w2.2) rfl ?_
            cases hr
            have h9 := hL (a2.1 + 1, w2.2) rfl
            dsimp only at h9
            exact Go.le h9 (by repeat first | exact True.intro | refine And.intro rfl ?_)
          · rw [if_neg hc5] at hr
            refine go_run mm_36 1 (pc' := 97) (ls' := [some (.ref 29), some (.int a2.1), some (.int w1.1)]) (st' := [.int w1.1]) (S' := w1.2) rfl ?_
            cases hr
            have h9 : R 0 (.inr (vI w1.1)) w1.2 := hR _ rfl
            exact go_ireturn mm_36 rfl rfl h9
        · rw [if_neg hc4] at hr
          refine go_run mm_36 3 (pc' := 93) (ls' := [some (.ref 29), some (.int a2.1), some (.int 5)]) (st' := [.int 5]) (S' := a2.2) rfl ?_
          refine go_if0 mm_36 rfl (p1 := 98) (p2 := 96) rfl (fun (hc6 : (5 : Int32) = 0) => ?_) (fun (hc6 : ¬ (5 : Int32) = 0) => ?_)
          · rw [if_pos hc6] at hr
            refine go_run mm_36 7 (pc' := 111) (ls' := [some (.ref 29), some (.int a2.1), some (.int 5)]) (st' := [.int (a2.2.1 29 4), .int (a2.2.1 29 3), .int a2.1, .ref 12]) (S' := a2.2) rfl ?_
            obtain ⟨w3, hw3, hr⟩ := ob_some hr
            refine go_cv mm_36 (h := 12) (As := [.int a2.1, .int (a2.2.1 29 3), .int (a2.2.1 29 4)]) (rest := []) (nl := 5) rfl rfl (show cvOK 36 111 79 48 3 5 5 = true by decide +kernel) rfl rfl rfl (S_48 (plB_ok rfl) hw3) (KP_V ?_)
            show Go XC (d + 4) 36 0 114 [some (.ref 29), some (.int a2.1), some (.int 5)] [] w3.2 R
            refine go_run mm_36 2 (pc' := 2) (ls' := [some (.ref 29), some (.int (a2.1 + 1)), some (.int 5)]) (st' := []) (S' := w3.2) rfl ?_
            cases hr
            have h9 := hL (a2.1 + 1, w3.2) rfl
            dsimp only at h9
            exact Go.le h9 (by repeat first | exact True.intro | refine And.intro rfl ?_)
          · rw [if_neg hc6] at hr
            refine go_run mm_36 1 (pc' := 97) (ls' := [some (.ref 29), some (.int a2.1), some (.int 5)]) (st' := [.int 5]) (S' := a2.2) rfl ?_
            cases hr
            have h9 : R 0 (.inr (vI 5)) a2.2 := hR _ rfl
            exact go_ireturn mm_36 rfl rfl h9
      · rw [if_neg hc3] at hr
        refine go_run mm_36 1 (pc' := 93) (ls' := [some (.ref 29), some (.int a2.1), some (.int (F_41 0 15 a2.2))]) (st' := [.int (F_41 0 15 a2.2)]) (S' := a2.2) rfl ?_
        refine go_if0 mm_36 rfl (p1 := 98) (p2 := 96) rfl (fun (hc7 : (F_41 0 15 a2.2) = 0) => ?_) (fun (hc7 : ¬ (F_41 0 15 a2.2) = 0) => ?_)
        · rw [if_pos hc7] at hr
          refine go_run mm_36 7 (pc' := 111) (ls' := [some (.ref 29), some (.int a2.1), some (.int (F_41 0 15 a2.2))]) (st' := [.int (a2.2.1 29 4), .int (a2.2.1 29 3), .int a2.1, .ref 12]) (S' := a2.2) rfl ?_
          obtain ⟨w4, hw4, hr⟩ := ob_some hr
          refine go_cv mm_36 (h := 12) (As := [.int a2.1, .int (a2.2.1 29 3), .int (a2.2.1 29 4)]) (rest := []) (nl := 5) rfl rfl (show cvOK 36 111 79 48 3 5 5 = true by decide +kernel) rfl rfl rfl (S_48 (plB_ok rfl) hw4) (KP_V ?_)
          show Go XC (d + 4) 36 0 114 [some (.ref 29), some (.int a2.1), some (.int (F_41 0 15 a2.2))] [] w4.2 R
          refine go_run mm_36 2 (pc' := 2) (ls' := [some (.ref 29), some (.int (a2.1 + 1)), some (.int (F_41 0 15 a2.2))]) (st' := []) (S' := w4.2) rfl ?_
          cases hr
          have h9 := hL (a2.1 + 1, w4.2) rfl
          dsimp only at h9
          exact Go.le h9 (by repeat first | exact True.intro | refine And.intro rfl ?_)
        · rw [if_neg hc7] at hr
          refine go_run mm_36 1 (pc' := 97) (ls' := [some (.ref 29), some (.int a2.1), some (.int (F_41 0 15 a2.2))]) (st' := [.int (F_41 0 15 a2.2)]) (S' := a2.2) rfl ?_
          cases hr
          have h9 : R 0 (.inr (vI (F_41 0 15 a2.2))) a2.2 := hR _ rfl
          exact go_ireturn mm_36 rfl rfl h9
    · rw [if_neg hc2] at hr
      refine go_run mm_36 3 (pc' := 20) (ls' := [some (.ref 29), some (.int a2.1), none]) (st' := [.int (a2.2.1 1 1)]) (S' := a2.2) rfl ?_
      refine go_if0 mm_36 rfl (p1 := 34) (p2 := 23) rfl (fun (hc8 : (a2.2.1 1 1) = 0) => ?_) (fun (hc8 : ¬ (a2.2.1 1 1) = 0) => ?_)
      · rw [if_pos hc8] at hr
        refine go_run mm_36 2 (pc' := 38) (ls' := [some (.ref 29), some (.int a2.1), none]) (st' := [.ref 12]) (S' := a2.2) rfl ?_
        obtain ⟨w5, hw5, hr⟩ := ob_some hr
        refine go_cs mm_36 (av := [.ref 12]) (rest := []) (nl := 3) rfl (show csOK 36 38 60 27 1 3 = true by decide +kernel) rfl rfl rfl (S_27 (plB_ok rfl) hw5) (KP_V ?_)
        show Go XC (d + 4) 36 0 41 [some (.ref 29), some (.int a2.1), none] [.int (b2i w5)] a2.2 R
        refine go_ifb mm_36 rfl (p1 := 44) (p2 := 62) rfl (fun (hc9 : w5 = true) => ?_) (fun (hc9 : w5 = false) => ?_)
        · rw [if_pos hc9] at hr
          refine go_run mm_36 4 (pc' := 52) (ls' := [some (.ref 29), some (.int a2.1), none]) (st' := [.ref 12, .ref 25]) (S' := a2.2) rfl ?_
          obtain ⟨w6, hw6, hr⟩ := ob_some hr
          refine go_cv mm_36 (h := 25) (As := [.ref 12]) (rest := []) (nl := 5) rfl rfl (show cvOK 36 52 66 17 1 5 3 = true by decide +kernel) rfl rfl rfl (S_17 (ltB_ok rfl) (plB_ok rfl) hw6) (KP_V ?_)
          show Go XC (d + 4) 36 0 55 [some (.ref 29), some (.int a2.1), none] [.int (b2i w6.1)] w6.2 R
          have j11 : Go XC (d + 4) 36 0 63 [some (.ref 29), some (.int a2.1), none] [.int (if w6.1 = true then 0 else 3)] w6.2 R := by
            cases hr
            have h9 : R 0 (.inr (vI (if w6.1 = true then 0 else 3))) w6.2 := hR _ rfl
            exact go_ireturn mm_36 rfl rfl h9
          refine go_ifb mm_36 rfl (p1 := 58) (p2 := 62) rfl (fun (hc10 : w6.1 = true) => ?_) (fun (hc10 : w6.1 = false) => ?_)
          · refine go_run mm_36 2 (pc' := 63) (ls' := [some (.ref 29), some (.int a2.1), none]) (st' := [.int 0]) (S' := w6.2) rfl ?_
            have e : ((if w6.1 = true then 0 else 3) : Int32) = 0 := by simp [b2i, hc10]
            rw [e] at j11
            exact j11
          · refine go_run mm_36 1 (pc' := 63) (ls' := [some (.ref 29), some (.int a2.1), none]) (st' := [.int 3]) (S' := w6.2) rfl ?_
            have e : ((if w6.1 = true then 0 else 3) : Int32) = 3 := by simp [b2i, hc10]
            rw [e] at j11
            exact j11
        · rw [if_neg (bf hc9)] at hr
          refine go_run mm_36 1 (pc' := 63) (ls' := [some (.ref 29), some (.int a2.1), none]) (st' := [.int 3]) (S' := a2.2) rfl ?_
          cases hr
          have h9 : R 0 (.inr (vI 3)) a2.2 := hR _ rfl
          exact go_ireturn mm_36 rfl rfl h9
      · rw [if_neg hc8] at hr
        refine go_run mm_36 4 (pc' := 31) (ls' := [some (.ref 29), some (.int a2.1), none]) (st' := [.int 3, .int (a2.2.1 1 1)]) (S' := a2.2) rfl ?_
        refine go_if2 mm_36 rfl (p1 := 34) (p2 := 64) rfl (fun (hc12 : (a2.2.1 1 1) = 3) => ?_) (fun (hc12 : ¬ (a2.2.1 1 1) = 3) => ?_)
        · rw [if_pos hc12] at hr
          refine go_run mm_36 2 (pc' := 38) (ls' := [some (.ref 29), some (.int a2.1), none]) (st' := [.ref 12]) (S' := a2.2) rfl ?_
          obtain ⟨w7, hw7, hr⟩ := ob_some hr
          refine go_cs mm_36 (av := [.ref 12]) (rest := []) (nl := 3) rfl (show csOK 36 38 60 27 1 3 = true by decide +kernel) rfl rfl rfl (S_27 (plB_ok rfl) hw7) (KP_V ?_)
          show Go XC (d + 4) 36 0 41 [some (.ref 29), some (.int a2.1), none] [.int (b2i w7)] a2.2 R
          refine go_ifb mm_36 rfl (p1 := 44) (p2 := 62) rfl (fun (hc13 : w7 = true) => ?_) (fun (hc13 : w7 = false) => ?_)
          · rw [if_pos hc13] at hr
            refine go_run mm_36 4 (pc' := 52) (ls' := [some (.ref 29), some (.int a2.1), none]) (st' := [.ref 12, .ref 25]) (S' := a2.2) rfl ?_
            obtain ⟨w8, hw8, hr⟩ := ob_some hr
            refine go_cv mm_36 (h := 25) (As := [.ref 12]) (rest := []) (nl := 5) rfl rfl (show cvOK 36 52 66 17 1 5 3 = true by decide +kernel) rfl rfl rfl (S_17 (ltB_ok rfl) (plB_ok rfl) hw8) (KP_V ?_)
            show Go XC (d + 4) 36 0 55 [some (.ref 29), some (.int a2.1), none] [.int (b2i w8.1)] w8.2 R
            have j15 : Go XC (d + 4) 36 0 63 [some (.ref 29), some (.int a2.1), none] [.int (if w8.1 = true then 0 else 3)] w8.2 R := by
              cases hr
              have h9 : R 0 (.inr (vI (if w8.1 = true then 0 else 3))) w8.2 := hR _ rfl
              exact go_ireturn mm_36 rfl rfl h9
            refine go_ifb mm_36 rfl (p1 := 58) (p2 := 62) rfl (fun (hc14 : w8.1 = true) => ?_) (fun (hc14 : w8.1 = false) => ?_)
            · refine go_run mm_36 2 (pc' := 63) (ls' := [some (.ref 29), some (.int a2.1), none]) (st' := [.int 0]) (S' := w8.2) rfl ?_
              have e : ((if w8.1 = true then 0 else 3) : Int32) = 0 := by simp [b2i, hc14]
              rw [e] at j15
              exact j15
            · refine go_run mm_36 1 (pc' := 63) (ls' := [some (.ref 29), some (.int a2.1), none]) (st' := [.int 3]) (S' := w8.2) rfl ?_
              have e : ((if w8.1 = true then 0 else 3) : Int32) = 3 := by simp [b2i, hc14]
              rw [e] at j15
              exact j15
          · rw [if_neg (bf hc13)] at hr
            refine go_run mm_36 1 (pc' := 63) (ls' := [some (.ref 29), some (.int a2.1), none]) (st' := [.int 3]) (S' := a2.2) rfl ?_
            cases hr
            have h9 : R 0 (.inr (vI 3)) a2.2 := hR _ rfl
            exact go_ireturn mm_36 rfl rfl h9
        · rw [if_neg hc12] at hr
          refine go_run mm_36 3 (pc' := 68) (ls' := [some (.ref 29), some (.int a2.1), none]) (st' := [.int 15, .int 0, .ref 29]) (S' := a2.2) rfl ?_
          refine go_cv mm_36 (h := 29) (As := [.int 0, .int 15]) (rest := []) (nl := 3) rfl rfl (show cvOK 36 68 71 41 2 3 4 = true by decide +kernel) rfl rfl rfl (S_41 rfl) (KP_V ?_)
          show Go XC (d + 4) 36 0 71 [some (.ref 29), some (.int a2.1), none] [.int (F_41 0 15 a2.2)] a2.2 R
          refine go_run mm_36 2 (pc' := 73) (ls' := [some (.ref 29), some (.int a2.1), some (.int (F_41 0 15 a2.2))]) (st' := [.int (F_41 0 15 a2.2)]) (S' := a2.2) rfl ?_
          refine go_if0 mm_36 rfl (p1 := 76) (p2 := 92) rfl (fun (hc16 : (F_41 0 15 a2.2) = 0) => ?_) (fun (hc16 : ¬ (F_41 0 15 a2.2) = 0) => ?_)
          · rw [if_pos hc16] at hr
            refine go_run mm_36 2 (pc' := 79) (ls' := [some (.ref 29), some (.int a2.1), some (.int (F_41 0 15 a2.2))]) (st' := [.int 12, .int a2.1]) (S' := a2.2) rfl ?_
            refine go_if2 mm_36 rfl (p1 := 82) (p2 := 90) rfl (fun (hc17 : a2.1 < 12) => ?_) (fun (hc17 : ¬ a2.1 < 12) => ?_)
            · rw [if_pos hc17] at hr
              refine go_run mm_36 2 (pc' := 84) (ls' := [some (.ref 29), some (.int a2.1), some (.int (F_41 0 15 a2.2))]) (st' := [.int 0, .ref 29]) (S' := a2.2) rfl ?_
              obtain ⟨w9, hw9, hr⟩ := ob_some hr
              refine go_cv mm_36 (h := 29) (As := [.int (b2i false)]) (rest := []) (nl := 3) rfl rfl (show cvOK 36 84 75 40 1 3 4 = true by decide +kernel) rfl rfl rfl (S_40 hw9) (KP_V ?_)
              show Go XC (d + 4) 36 0 87 [some (.ref 29), some (.int a2.1), some (.int (F_41 0 15 a2.2))] [.int w9.1] w9.2 R
              refine go_run mm_36 3 (pc' := 93) (ls' := [some (.ref 29), some (.int a2.1), some (.int w9.1)]) (st' := [.int w9.1]) (S' := w9.2) rfl ?_
              refine go_if0 mm_36 rfl (p1 := 98) (p2 := 96) rfl (fun (hc18 : w9.1 = 0) => ?_) (fun (hc18 : ¬ w9.1 = 0) => ?_)
              · rw [if_pos hc18] at hr
                refine go_run mm_36 7 (pc' := 111) (ls' := [some (.ref 29), some (.int a2.1), some (.int w9.1)]) (st' := [.int (w9.2.1 29 4), .int (w9.2.1 29 3), .int a2.1, .ref 12]) (S' := w9.2) rfl ?_
                obtain ⟨w10, hw10, hr⟩ := ob_some hr
                refine go_cv mm_36 (h := 12) (As := [.int a2.1, .int (w9.2.1 29 3), .int (w9.2.1 29 4)]) (rest := []) (nl := 5) rfl rfl (show cvOK 36 111 79 48 3 5 5 = true by decide +kernel) rfl rfl rfl (S_48 (plB_ok rfl) hw10) (KP_V ?_)
                show Go XC (d + 4) 36 0 114 [some (.ref 29), some (.int a2.1), some (.int w9.1)] [] w10.2 R
                refine go_run mm_36 2 (pc' := 2) (ls' := [some (.ref 29), some (.int (a2.1 + 1)), some (.int w9.1)]) (st' := []) (S' := w10.2) rfl ?_
                cases hr
                have h9 := hL (a2.1 + 1, w10.2) rfl
                dsimp only at h9
                exact Go.le h9 (by repeat first | exact True.intro | refine And.intro rfl ?_)
              · rw [if_neg hc18] at hr
                refine go_run mm_36 1 (pc' := 97) (ls' := [some (.ref 29), some (.int a2.1), some (.int w9.1)]) (st' := [.int w9.1]) (S' := w9.2) rfl ?_
                cases hr
                have h9 : R 0 (.inr (vI w9.1)) w9.2 := hR _ rfl
                exact go_ireturn mm_36 rfl rfl h9
            · rw [if_neg hc17] at hr
              refine go_run mm_36 3 (pc' := 93) (ls' := [some (.ref 29), some (.int a2.1), some (.int 5)]) (st' := [.int 5]) (S' := a2.2) rfl ?_
              refine go_if0 mm_36 rfl (p1 := 98) (p2 := 96) rfl (fun (hc19 : (5 : Int32) = 0) => ?_) (fun (hc19 : ¬ (5 : Int32) = 0) => ?_)
              · rw [if_pos hc19] at hr
                refine go_run mm_36 7 (pc' := 111) (ls' := [some (.ref 29), some (.int a2.1), some (.int 5)]) (st' := [.int (a2.2.1 29 4), .int (a2.2.1 29 3), .int a2.1, .ref 12]) (S' := a2.2) rfl ?_
                obtain ⟨w11, hw11, hr⟩ := ob_some hr
                refine go_cv mm_36 (h := 12) (As := [.int a2.1, .int (a2.2.1 29 3), .int (a2.2.1 29 4)]) (rest := []) (nl := 5) rfl rfl (show cvOK 36 111 79 48 3 5 5 = true by decide +kernel) rfl rfl rfl (S_48 (plB_ok rfl) hw11) (KP_V ?_)
                show Go XC (d + 4) 36 0 114 [some (.ref 29), some (.int a2.1), some (.int 5)] [] w11.2 R
                refine go_run mm_36 2 (pc' := 2) (ls' := [some (.ref 29), some (.int (a2.1 + 1)), some (.int 5)]) (st' := []) (S' := w11.2) rfl ?_
                cases hr
                have h9 := hL (a2.1 + 1, w11.2) rfl
                dsimp only at h9
                exact Go.le h9 (by repeat first | exact True.intro | refine And.intro rfl ?_)
              · rw [if_neg hc19] at hr
                refine go_run mm_36 1 (pc' := 97) (ls' := [some (.ref 29), some (.int a2.1), some (.int 5)]) (st' := [.int 5]) (S' := a2.2) rfl ?_
                cases hr
                have h9 : R 0 (.inr (vI 5)) a2.2 := hR _ rfl
                exact go_ireturn mm_36 rfl rfl h9
          · rw [if_neg hc16] at hr
            refine go_run mm_36 1 (pc' := 93) (ls' := [some (.ref 29), some (.int a2.1), some (.int (F_41 0 15 a2.2))]) (st' := [.int (F_41 0 15 a2.2)]) (S' := a2.2) rfl ?_
            refine go_if0 mm_36 rfl (p1 := 98) (p2 := 96) rfl (fun (hc20 : (F_41 0 15 a2.2) = 0) => ?_) (fun (hc20 : ¬ (F_41 0 15 a2.2) = 0) => ?_)
            · rw [if_pos hc20] at hr
              refine go_run mm_36 7 (pc' := 111) (ls' := [some (.ref 29), some (.int a2.1), some (.int (F_41 0 15 a2.2))]) (st' := [.int (a2.2.1 29 4), .int (a2.2.1 29 3), .int a2.1, .ref 12]) (S' := a2.2) rfl ?_
              obtain ⟨w12, hw12, hr⟩ := ob_some hr
              refine go_cv mm_36 (h := 12) (As := [.int a2.1, .int (a2.2.1 29 3), .int (a2.2.1 29 4)]) (rest := []) (nl := 5) rfl rfl (show cvOK 36 111 79 48 3 5 5 = true by decide +kernel) rfl rfl rfl (S_48 (plB_ok rfl) hw12) (KP_V ?_)
              show Go XC (d + 4) 36 0 114 [some (.ref 29), some (.int a2.1), some (.int (F_41 0 15 a2.2))] [] w12.2 R
              refine go_run mm_36 2 (pc' := 2) (ls' := [some (.ref 29), some (.int (a2.1 + 1)), some (.int (F_41 0 15 a2.2))]) (st' := []) (S' := w12.2) rfl ?_
              cases hr
              have h9 := hL (a2.1 + 1, w12.2) rfl
              dsimp only at h9
              exact Go.le h9 (by repeat first | exact True.intro | refine And.intro rfl ?_)
            · rw [if_neg hc20] at hr
              refine go_run mm_36 1 (pc' := 97) (ls' := [some (.ref 29), some (.int a2.1), some (.int (F_41 0 15 a2.2))]) (st' := [.int (F_41 0 15 a2.2)]) (S' := a2.2) rfl ?_
              cases hr
              have h9 : R 0 (.inr (vI (F_41 0 15 a2.2))) a2.2 := hR _ rfl
              exact go_ireturn mm_36 rfl rfl h9
def F_36 (S : ST) : Option (Int32 × ST) := ob (wh FU (L_36_2) (0, S)) (fun z => Sum.elim (fun e2 => some (5, e2.2)) (fun o => some o) z)
set_option maxRecDepth 20000 in
theorem S_36 {d : Nat} {S : ST} {r} (hr : F_36 S = some r) : Cal XC (d + 4) 36 [.ref 29] S (RV (vI r.1) r.2) := by
  unfold F_36 at hr
  refine cal_go 2 rfl ?_
  refine go_run mm_36 2 (pc' := 2) (ls' := [some (.ref 29), some (.int 0), none]) (st' := []) (S' := S) rfl ?_
  obtain ⟨z2, he2, hr⟩ := ob_some hr
  refine Go.le (ls' := [some (.ref 29), some (.int 0), none]) ?_ (by repeat first | exact True.intro | refine And.intro rfl ?_)
  refine wh_go (P := fun a2 => Go XC (d + 4) 36 0 2 [some (.ref 29), some (.int a2.1), none] [] a2.2 (RV (vI r.1) r.2)) (K := fun z => Sum.elim (fun e2 => Go XC (d + 4) 36 0 120 [some (.ref 29), some (.int e2.1), none] [] e2.2 (RV (vI r.1) r.2)) (fun o => (RV (vI r.1) r.2) 0 (.inr (vI o.1)) o.2) z) (fun a9 r9 h9 hL hR => LS_36_2 h9 hL hR) _ _ _ he2 ?_
  rcases z2 with e2 | o
  rotate_left
  · simp only [Sum.elim_inr] at hr
    cases hr
    exact ⟨rfl, rfl, rfl⟩
  simp only [Sum.elim_inl] at hr
  show Go XC (d + 4) 36 0 120 [some (.ref 29), some (.int e2.1), none] [] e2.2 (RV (vI r.1) r.2)
  refine go_run mm_36 1 (pc' := 121) (ls' := [some (.ref 29), some (.int e2.1), none]) (st' := [.int 5]) (S' := e2.2) rfl ?_
  cases hr
  exact go_ireturn mm_36 rfl rfl ⟨rfl, rfl, rfl⟩
