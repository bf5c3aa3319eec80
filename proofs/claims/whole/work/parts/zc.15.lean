/-! methods as functions (printed by a program): 110 spareGuards, 111 bestPostFor, 112 greedyCount, 113 valueIn, 114 valueAfterBestMove, 115 append, 180 replacePlan, 116 load, 117 parseError, 118 errorPosition, 119 buffered, 120 vertices, 174 needPolygon, 175 needIndex, 121 vertexX, 122 vertexY, 123 doubleArea, 124 reflexVertices, 125 points -/
theorem mm_110 : mtG 110 = some (mi_110, 10, ft_110) := rfl
def L_110_11 (p11_1 : Int64) (S : ST) (a11 : Int32 × Int32) : Option ((Int32 × Int32) ⊕ (Int32 × Int32)) := if a11.2 < (S.1 3 1) then (ob (F_108 a11.2 S) (fun w2 => if w2 = p11_1 then (some (.inl (a11.1 ||| (1 <<< (a11.2 &&& 31)), a11.2 + 1))) else (some (.inl (a11.1, a11.2 + 1))))) else (some (.inr (a11.1, a11.2)))
set_option maxRecDepth 20000 in
theorem LS_110_11 {d : Nat} {R : RT} {S : ST} {p11_1 : Int64} {a11 : Int32 × Int32} {r9} (hr : L_110_11 p11_1 S a11 = some r9) (hL : ∀ a9, r9 = .inl a9 → (fun a11 => Go XC (d + 4) 110 0 11 [some (.ref 46), some (.long p11_1), none, some (.int a11.1), some (.int a11.2)] [] S R) a9) (hR : ∀ b9, r9 = .inr b9 → (fun e11 => Go XC (d + 4) 110 0 47 [some (.ref 46), some (.long p11_1), none, some (.int e11.1), some (.int e11.2)] [] S R) b9) : Go XC (d + 4) 110 0 11 [some (.ref 46), some (.long p11_1), none, some (.int a11.1), some (.int a11.2)] [] S R := by
  unfold L_110_11 at hr
  refine go_run mm_110 4 (pc' := 20) (ls' := [some (.ref 46), some (.long p11_1), none, some (.int a11.1), some (.int a11.2)]) (st' := [.int (S.1 3 1), .int a11.2]) (S' := S) rfl ?_
  refine go_if2 mm_110 rfl (p1 := 23) (p2 := 47) rfl (fun (hc1 : a11.2 < (S.1 3 1)) => ?_) (fun (hc1 : ¬ a11.2 < (S.1 3 1)) => ?_)
  · rw [if_pos hc1] at hr
    refine go_run mm_110 2 (pc' := 26) (ls' := [some (.ref 46), some (.long p11_1), none, some (.int a11.1), some (.int a11.2)]) (st' := [.int a11.2, .ref 46]) (S' := S) rfl ?_
    obtain ⟨w2, hw2, hr⟩ := ob_some hr
    refine go_cv mm_110 (h := 46) (As := [.int a11.2]) (rest := []) (nl := 5) rfl rfl (show cvOK 110 26 80 108 1 5 9 = true by decide +kernel) rfl rfl rfl (S_108 hw2) (KP_V ?_)
    show Go XC (d + 4) 110 0 29 [some (.ref 46), some (.long p11_1), none, some (.int a11.1), some (.int a11.2)] [.long w2] S R
    refine go_run mm_110 1 (pc' := 30) (ls' := [some (.ref 46), some (.long p11_1), none, some (.int a11.1), some (.int a11.2)]) (st' := [.long p11_1, .long w2]) (S' := S) rfl ?_
    refine go_lif mm_110 rfl rfl (p1 := 34) (p2 := 41) rfl (fun (hc2 : w2 = p11_1) => ?_) (fun (hc2 : ¬ w2 = p11_1) => ?_)
    · rw [if_pos hc2] at hr
      refine go_run mm_110 8 (pc' := 11) (ls' := [some (.ref 46), some (.long p11_1), none, some (.int (a11.1 ||| (1 <<< (a11.2 &&& 31)))), some (.int (a11.2 + 1))]) (st' := []) (S' := S) rfl ?_
      cases hr
      have h9 := hL (a11.1 ||| (1 <<< (a11.2 &&& 31)), a11.2 + 1) rfl
      dsimp only at h9
      exact Go.le h9 (by repeat first | exact True.intro | refine And.intro rfl ?_)
    · rw [if_neg hc2] at hr
      refine go_run mm_110 2 (pc' := 11) (ls' := [some (.ref 46), some (.long p11_1), none, some (.int a11.1), some (.int (a11.2 + 1))]) (st' := []) (S' := S) rfl ?_
      cases hr
      have h9 := hL (a11.1, a11.2 + 1) rfl
      dsimp only at h9
      exact Go.le h9 (by repeat first | exact True.intro | refine And.intro rfl ?_)
  · rw [if_neg hc1] at hr
    cases hr
    have h9 := hR (a11.1, a11.2) rfl
    dsimp only [Sum.elim_inl] at h9
    exact Go.le h9 (by repeat first | exact True.intro | refine And.intro rfl ?_)
def F_110 (S : ST) : Option Int32 := ob (F_108 (-1) S) (fun w1 => ob (wh FU (L_110_11 w1 S) (0, 0)) (fun e11 => some e11.1))
set_option maxRecDepth 20000 in
theorem S_110 {d : Nat} {S : ST} {r} (hr : F_110 S = some r) : Cal XC (d + 4) 110 [.ref 46] S (RV (vI r) S) := by
  unfold F_110 at hr
  refine cal_go 4 rfl ?_
  refine go_run mm_110 2 (pc' := 2) (ls' := [some (.ref 46), none, none, none, none]) (st' := [.int (-1), .ref 46]) (S' := S) rfl ?_
  obtain ⟨w1, hw1, hr⟩ := ob_some hr
  refine go_cv mm_110 (h := 46) (As := [.int (-1)]) (rest := []) (nl := 5) rfl rfl (show cvOK 110 2 80 108 1 5 9 = true by decide +kernel) rfl rfl rfl (S_108 hw1) (KP_V ?_)
  show Go XC (d + 4) 110 0 5 [some (.ref 46), none, none, none, none] [.long w1] S (RV (vI r) S)
  refine go_run mm_110 5 (pc' := 11) (ls' := [some (.ref 46), some (.long w1), none, some (.int 0), some (.int 0)]) (st' := []) (S' := S) rfl ?_
  obtain ⟨z11, he11, hr⟩ := ob_some hr
  refine Go.le (ls' := [some (.ref 46), some (.long w1), none, some (.int 0), some (.int 0)]) ?_ (by repeat first | exact True.intro | refine And.intro rfl ?_)
  refine wh_go (P := fun a11 => Go XC (d + 4) 110 0 11 [some (.ref 46), some (.long w1), none, some (.int a11.1), some (.int a11.2)] [] S (RV (vI r) S)) (K := fun e11 => Go XC (d + 4) 110 0 47 [some (.ref 46), some (.long w1), none, some (.int e11.1), some (.int e11.2)] [] S (RV (vI r) S)) (fun a9 r9 h9 hL hR => LS_110_11 h9 hL hR) _ _ _ he11 ?_
  generalize z11 = e11 at hr
  show Go XC (d + 4) 110 0 47 [some (.ref 46), some (.long w1), none, some (.int e11.1), some (.int e11.2)] [] S (RV (vI r) S)
  refine go_run mm_110 1 (pc' := 48) (ls' := [some (.ref 46), some (.long w1), none, some (.int e11.1), some (.int e11.2)]) (st' := [.int e11.1]) (S' := S) rfl ?_
  cases hr
  exact go_ireturn mm_110 rfl rfl ⟨rfl, rfl, rfl⟩

theorem mm_111 : mtG 111 = some (mi_111, 10, ft_111) := rfl
def L_111_5 (v1 : Int64) (S : ST) (a5 : Int32 × Int32) : Option ((Int32 × Int32) ⊕ (Int32 × Int32)) := if a5.2 < (S.1 21 0) then (ob (F_73 a5.2 S) (fun w1 => ob (F_73 a5.1 S) (fun w2 => if (F_366 (w2 &&& v1)) < (F_366 (w1 &&& v1)) then (some (.inl (a5.2, a5.2 + 1))) else (some (.inl (a5.1, a5.2 + 1)))))) else (some (.inr (a5.1, a5.2)))
set_option maxRecDepth 20000 in
theorem LS_111_5 {d : Nat} {R : RT} {S : ST} {v1 : Int64} {a5 : Int32 × Int32} {r9} (hr : L_111_5 v1 S a5 = some r9) (hL : ∀ a9, r9 = .inl a9 → (fun a5 => Go XC (d + 1) 111 0 5 [some (.ref 46), some (.long v1), none, some (.int a5.1), some (.int a5.2)] [] S R) a9) (hR : ∀ b9, r9 = .inr b9 → (fun e5 => Go XC (d + 1) 111 0 56 [some (.ref 46), some (.long v1), none, some (.int e5.1), some (.int e5.2)] [] S R) b9) : Go XC (d + 1) 111 0 5 [some (.ref 46), some (.long v1), none, some (.int a5.1), some (.int a5.2)] [] S R := by
  unfold L_111_5 at hr
  refine go_run mm_111 4 (pc' := 14) (ls' := [some (.ref 46), some (.long v1), none, some (.int a5.1), some (.int a5.2)]) (st' := [.int (S.1 21 0), .int a5.2]) (S' := S) rfl ?_
  refine go_if2 mm_111 rfl (p1 := 17) (p2 := 56) rfl (fun (hc1 : a5.2 < (S.1 21 0)) => ?_) (fun (hc1 : ¬ a5.2 < (S.1 21 0)) => ?_)
  · rw [if_pos hc1] at hr
    refine go_run mm_111 3 (pc' := 23) (ls' := [some (.ref 46), some (.long v1), none, some (.int a5.1), some (.int a5.2)]) (st' := [.int a5.2, .ref 30]) (S' := S) rfl ?_
    obtain ⟨w1, hw1, hr⟩ := ob_some hr
    refine go_cv mm_111 (h := 30) (As := [.int a5.2]) (rest := []) (nl := 2) rfl rfl (show cvOK 111 23 44 73 1 2 6 = true by decide +kernel) rfl rfl rfl (S_73 hw1) (KP_V ?_)
    show Go XC (d + 1) 111 0 26 [some (.ref 46), some (.long v1), none, some (.int a5.1), some (.int a5.2)] [.long w1] S R
    refine go_run mm_111 2 (pc' := 28) (ls' := [some (.ref 46), some (.long v1), none, some (.int a5.1), some (.int a5.2)]) (st' := [.long (w1 &&& v1)]) (S' := S) rfl ?_
    refine go_cs mm_111 (av := [.long (w1 &&& v1)]) (rest := []) (nl := 2) rfl (show csOK 111 28 83 366 1 2 = true by decide +kernel) rfl rfl rfl (S_366 rfl) (KP_V ?_)
    show Go XC (d + 1) 111 0 31 [some (.ref 46), some (.long v1), none, some (.int a5.1), some (.int a5.2)] [.int (F_366 (w1 &&& v1))] S R
    refine go_run mm_111 3 (pc' := 36) (ls' := [some (.ref 46), some (.long v1), none, some (.int a5.1), some (.int a5.2)]) (st' := [.int a5.1, .ref 30, .int (F_366 (w1 &&& v1))]) (S' := S) rfl ?_
    obtain ⟨w2, hw2, hr⟩ := ob_some hr
    refine go_cv mm_111 (h := 30) (As := [.int a5.1]) (rest := [.int (F_366 (w1 &&& v1))]) (nl := 2) rfl rfl (show cvOK 111 36 44 73 1 2 6 = true by decide +kernel) rfl rfl rfl (S_73 hw2) (KP_V ?_)
    show Go XC (d + 1) 111 0 39 [some (.ref 46), some (.long v1), none, some (.int a5.1), some (.int a5.2)] [.long w2, .int (F_366 (w1 &&& v1))] S R
    refine go_run mm_111 2 (pc' := 41) (ls' := [some (.ref 46), some (.long v1), none, some (.int a5.1), some (.int a5.2)]) (st' := [.long (w2 &&& v1), .int (F_366 (w1 &&& v1))]) (S' := S) rfl ?_
    refine go_cs mm_111 (av := [.long (w2 &&& v1)]) (rest := [.int (F_366 (w1 &&& v1))]) (nl := 2) rfl (show csOK 111 41 83 366 1 2 = true by decide +kernel) rfl rfl rfl (S_366 rfl) (KP_V ?_)
    show Go XC (d + 1) 111 0 44 [some (.ref 46), some (.long v1), none, some (.int a5.1), some (.int a5.2)] [.int (F_366 (w2 &&& v1)), .int (F_366 (w1 &&& v1))] S R
    refine go_if2 mm_111 rfl (p1 := 47) (p2 := 50) rfl (fun (hc2 : (F_366 (w2 &&& v1)) < (F_366 (w1 &&& v1))) => ?_) (fun (hc2 : ¬ (F_366 (w2 &&& v1)) < (F_366 (w1 &&& v1))) => ?_)
    · rw [if_pos hc2] at hr
      refine go_run mm_111 4 (pc' := 5) (ls' := [some (.ref 46), some (.long v1), none, some (.int a5.2), some (.int (a5.2 + 1))]) (st' := []) (S' := S) rfl ?_
      cases hr
      have h9 := hL (a5.2, a5.2 + 1) rfl
      dsimp only at h9
      exact Go.le h9 (by repeat first | exact True.intro | refine And.intro rfl ?_)
    · rw [if_neg hc2] at hr
      refine go_run mm_111 2 (pc' := 5) (ls' := [some (.ref 46), some (.long v1), none, some (.int a5.1), some (.int (a5.2 + 1))]) (st' := []) (S' := S) rfl ?_
      cases hr
      have h9 := hL (a5.1, a5.2 + 1) rfl
      dsimp only at h9
      exact Go.le h9 (by repeat first | exact True.intro | refine And.intro rfl ?_)
  · rw [if_neg hc1] at hr
    cases hr
    have h9 := hR (a5.1, a5.2) rfl
    dsimp only [Sum.elim_inl] at h9
    exact Go.le h9 (by repeat first | exact True.intro | refine And.intro rfl ?_)
def F_111 (v1 : Int64) (S : ST) : Option Int32 := ob (wh FU (L_111_5 v1 S) (0, 1)) (fun e5 => some e5.1)
set_option maxRecDepth 20000 in
theorem S_111 {d : Nat} {S : ST} {v1 : Int64} {r} (hr : F_111 v1 S = some r) : Cal XC (d + 1) 111 [.ref 46, .long v1] S (RV (vI r) S) := by
  unfold F_111 at hr
  refine cal_go 2 rfl ?_
  refine go_run mm_111 4 (pc' := 5) (ls' := [some (.ref 46), some (.long v1), none, some (.int 0), some (.int 1)]) (st' := []) (S' := S) rfl ?_
  obtain ⟨z5, he5, hr⟩ := ob_some hr
  refine Go.le (ls' := [some (.ref 46), some (.long v1), none, some (.int 0), some (.int 1)]) ?_ (by repeat first | exact True.intro | refine And.intro rfl ?_)
  refine wh_go (P := fun a5 => Go XC (d + 1) 111 0 5 [some (.ref 46), some (.long v1), none, some (.int a5.1), some (.int a5.2)] [] S (RV (vI r) S)) (K := fun e5 => Go XC (d + 1) 111 0 56 [some (.ref 46), some (.long v1), none, some (.int e5.1), some (.int e5.2)] [] S (RV (vI r) S)) (fun a9 r9 h9 hL hR => LS_111_5 h9 hL hR) _ _ _ he5 ?_
  generalize z5 = e5 at hr
  show Go XC (d + 1) 111 0 56 [some (.ref 46), some (.long v1), none, some (.int e5.1), some (.int e5.2)] [] S (RV (vI r) S)
  refine go_run mm_111 1 (pc' := 57) (ls' := [some (.ref 46), some (.long v1), none, some (.int e5.1), some (.int e5.2)]) (st' := [.int e5.1]) (S' := S) rfl ?_
  cases hr
  exact go_ireturn mm_111 rfl rfl ⟨rfl, rfl, rfl⟩

theorem mm_112 : mtG 112 = some (mi_112, 10, ft_112) := rfl
def L_112_23 (S : ST) (a23 : Int64 × Int32 × Int32) : Option ((Int64 × Int32 × Int32) ⊕ (Int64 × Int32 × Int32)) := if a23.2.2 < 64 then (if a23.1 = 0 then (some (.inr (a23.1, a23.2.1, a23.2.2))) else (ob (F_111 a23.1 S) (fun w2 => ob (F_73 w2 S) (fun w3 => some (.inl (a23.1 &&& (w3 ^^^ (-1)), a23.2.1 + 1, a23.2.2 + 1)))))) else (some (.inr (a23.1, a23.2.1, a23.2.2)))
set_option maxRecDepth 20000 in
theorem LS_112_23 {d : Nat} {R : RT} {S : ST} {a23 : Int64 × Int32 × Int32} {r9} (hr : L_112_23 S a23 = some r9) (hL : ∀ a9, r9 = .inl a9 → (fun a23 => Go XC (d + 4) 112 0 23 [some (.ref 46), some (.long a23.1), none, some (.int a23.2.1), some (.int a23.2.2)] [] S R) a9) (hR : ∀ b9, r9 = .inr b9 → (fun e23 => Go XC (d + 4) 112 0 64 [some (.ref 46), some (.long e23.1), none, some (.int e23.2.1), some (.int e23.2.2)] [] S R) b9) : Go XC (d + 4) 112 0 23 [some (.ref 46), some (.long a23.1), none, some (.int a23.2.1), some (.int a23.2.2)] [] S R := by
  unfold L_112_23 at hr
  refine go_run mm_112 2 (pc' := 27) (ls' := [some (.ref 46), some (.long a23.1), none, some (.int a23.2.1), some (.int a23.2.2)]) (st' := [.int 64, .int a23.2.2]) (S' := S) rfl ?_
  refine go_if2 mm_112 rfl (p1 := 30) (p2 := 64) rfl (fun (hc1 : a23.2.2 < 64) => ?_) (fun (hc1 : ¬ a23.2.2 < 64) => ?_)
  · rw [if_pos hc1] at hr
    refine go_run mm_112 2 (pc' := 32) (ls' := [some (.ref 46), some (.long a23.1), none, some (.int a23.2.1), some (.int a23.2.2)]) (st' := [.long 0, .long a23.1]) (S' := S) rfl ?_
    refine go_lif mm_112 rfl rfl (p1 := 64) (p2 := 36) rfl (fun (hc2 : a23.1 = 0) => ?_) (fun (hc2 : ¬ a23.1 = 0) => ?_)
    · rw [if_pos hc2] at hr
      cases hr
      have h9 := hR (a23.1, a23.2.1, a23.2.2) rfl
      dsimp only [Sum.elim_inl] at h9
      exact Go.le h9 (by repeat first | exact True.intro | refine And.intro rfl ?_)
    · rw [if_neg hc2] at hr
      refine go_run mm_112 5 (pc' := 43) (ls' := [some (.ref 46), some (.long a23.1), none, some (.int a23.2.1), some (.int a23.2.2)]) (st' := [.long a23.1, .ref 46, .ref 30, .long a23.1]) (S' := S) rfl ?_
      obtain ⟨w2, hw2, hr⟩ := ob_some hr
      refine go_cv mm_112 (h := 46) (As := [.long a23.1]) (rest := [.ref 30, .long a23.1]) (nl := 5) rfl rfl (show cvOK 112 43 95 111 1 5 9 = true by decide +kernel) rfl rfl rfl (S_111 hw2) (KP_V ?_)
      show Go XC (d + 4) 112 0 46 [some (.ref 46), some (.long a23.1), none, some (.int a23.2.1), some (.int a23.2.2)] [.int w2, .ref 30, .long a23.1] S R
      obtain ⟨w3, hw3, hr⟩ := ob_some hr
      refine go_cv mm_112 (h := 30) (As := [.int w2]) (rest := [.long a23.1]) (nl := 2) rfl rfl (show cvOK 112 46 44 73 1 2 6 = true by decide +kernel) rfl rfl rfl (S_73 hw3) (KP_V ?_)
      show Go XC (d + 4) 112 0 49 [some (.ref 46), some (.long a23.1), none, some (.int a23.2.1), some (.int a23.2.2)] [.long w3, .long a23.1] S R
      refine go_run mm_112 7 (pc' := 23) (ls' := [some (.ref 46), some (.long (a23.1 &&& (w3 ^^^ (-1)))), none, some (.int (a23.2.1 + 1)), some (.int (a23.2.2 + 1))]) (st' := []) (S' := S) rfl ?_
      cases hr
      have h9 := hL (a23.1 &&& (w3 ^^^ (-1)), a23.2.1 + 1, a23.2.2 + 1) rfl
      dsimp only at h9
      exact Go.le h9 (by repeat first | exact True.intro | refine And.intro rfl ?_)
  · rw [if_neg hc1] at hr
    cases hr
    have h9 := hR (a23.1, a23.2.1, a23.2.2) rfl
    dsimp only [Sum.elim_inl] at h9
    exact Go.le h9 (by repeat first | exact True.intro | refine And.intro rfl ?_)
def F_112 (S : ST) : Option Int32 := ob (F_108 (-1) S) (fun w1 => ob (wh FU (L_112_23 S) ((F_21 21 S) &&& (w1 ^^^ (-1)), 0, 0)) (fun e23 => some e23.2.1))
set_option maxRecDepth 20000 in
theorem S_112 {d : Nat} {S : ST} {r} (hr : F_112 S = some r) : Cal XC (d + 4) 112 [.ref 46] S (RV (vI r) S) := by
  unfold F_112 at hr
  refine cal_go 4 rfl ?_
  refine go_run mm_112 2 (pc' := 4) (ls' := [some (.ref 46), none, none, none, none]) (st' := [.ref 21]) (S' := S) rfl ?_
  refine go_cv mm_112 (h := 21) (As := []) (rest := []) (nl := 1) rfl rfl (show cvOK 112 4 89 21 0 1 3 = true by decide +kernel) rfl rfl rfl (S_21 (ltB_ok rfl) rfl) (KP_V ?_)
  show Go XC (d + 4) 112 0 7 [some (.ref 46), none, none, none, none] [.long (F_21 21 S)] S (RV (vI r) S)
  refine go_run mm_112 2 (pc' := 9) (ls' := [some (.ref 46), none, none, none, none]) (st' := [.int (-1), .ref 46, .long (F_21 21 S)]) (S' := S) rfl ?_
  obtain ⟨w1, hw1, hr⟩ := ob_some hr
  refine go_cv mm_112 (h := 46) (As := [.int (-1)]) (rest := [.long (F_21 21 S)]) (nl := 5) rfl rfl (show cvOK 112 9 80 108 1 5 9 = true by decide +kernel) rfl rfl rfl (S_108 hw1) (KP_V ?_)
  show Go XC (d + 4) 112 0 12 [some (.ref 46), none, none, none, none] [.long w1, .long (F_21 21 S)] S (RV (vI r) S)
  refine go_run mm_112 8 (pc' := 23) (ls' := [some (.ref 46), some (.long ((F_21 21 S) &&& (w1 ^^^ (-1)))), none, some (.int 0), some (.int 0)]) (st' := []) (S' := S) rfl ?_
  obtain ⟨z23, he23, hr⟩ := ob_some hr
  refine Go.le (ls' := [some (.ref 46), some (.long ((F_21 21 S) &&& (w1 ^^^ (-1)))), none, some (.int 0), some (.int 0)]) ?_ (by repeat first | exact True.intro | refine And.intro rfl ?_)
  refine wh_go (P := fun a23 => Go XC (d + 4) 112 0 23 [some (.ref 46), some (.long a23.1), none, some (.int a23.2.1), some (.int a23.2.2)] [] S (RV (vI r) S)) (K := fun e23 => Go XC (d + 4) 112 0 64 [some (.ref 46), some (.long e23.1), none, some (.int e23.2.1), some (.int e23.2.2)] [] S (RV (vI r) S)) (fun a9 r9 h9 hL hR => LS_112_23 h9 hL hR) _ _ _ he23 ?_
  generalize z23 = e23 at hr
  show Go XC (d + 4) 112 0 64 [some (.ref 46), some (.long e23.1), none, some (.int e23.2.1), some (.int e23.2.2)] [] S (RV (vI r) S)
  refine go_run mm_112 1 (pc' := 65) (ls' := [some (.ref 46), some (.long e23.1), none, some (.int e23.2.1), some (.int e23.2.2)]) (st' := [.int e23.2.1]) (S' := S) rfl ?_
  cases hr
  exact go_ireturn mm_112 rfl rfl ⟨rfl, rfl, rfl⟩

theorem mm_113 : mtG 113 = some (mi_113, 10, ft_113) := rfl
def L_113_5 (v1 : Int64) (S : ST) (a5 : Int32 × Int32) : Option ((Int32 × Int32) ⊕ (Int32 × Int32)) := if a5.2 < (S.1 3 2) then (ob (F_105 a5.2 S) (fun w1 => if w1 = (-1) then (some (.inl (a5.1, a5.2 + 1))) else (if (F_177 v1 w1) = true then (ob (F_62 3 a5.2 S) (fun w2 => some (.inl (a5.1 + w2, a5.2 + 1)))) else (some (.inl (a5.1, a5.2 + 1)))))) else (some (.inr (a5.1, a5.2)))
set_option maxRecDepth 20000 in
theorem LS_113_5 {d : Nat} {R : RT} {S : ST} {v1 : Int64} {a5 : Int32 × Int32} {r9} (hr : L_113_5 v1 S a5 = some r9) (hL : ∀ a9, r9 = .inl a9 → (fun a5 => Go XC (d + 2) 113 0 5 [some (.ref 46), some (.long v1), none, some (.int a5.1), some (.int a5.2), none] [] S R) a9) (hR : ∀ b9, r9 = .inr b9 → (fun e5 => Go XC (d + 2) 113 0 58 [some (.ref 46), some (.long v1), none, some (.int e5.1), some (.int e5.2), none] [] S R) b9) : Go XC (d + 2) 113 0 5 [some (.ref 46), some (.long v1), none, some (.int a5.1), some (.int a5.2), none] [] S R := by
  unfold L_113_5 at hr
  refine go_run mm_113 4 (pc' := 14) (ls' := [some (.ref 46), some (.long v1), none, some (.int a5.1), some (.int a5.2), none]) (st' := [.int (S.1 3 2), .int a5.2]) (S' := S) rfl ?_
  refine go_if2 mm_113 rfl (p1 := 17) (p2 := 58) rfl (fun (hc1 : a5.2 < (S.1 3 2)) => ?_) (fun (hc1 : ¬ a5.2 < (S.1 3 2)) => ?_)
  · rw [if_pos hc1] at hr
    refine go_run mm_113 2 (pc' := 20) (ls' := [some (.ref 46), some (.long v1), none, some (.int a5.1), some (.int a5.2), none]) (st' := [.int a5.2, .ref 46]) (S' := S) rfl ?_
    obtain ⟨w1, hw1, hr⟩ := ob_some hr
    refine go_cv mm_113 (h := 46) (As := [.int a5.2]) (rest := []) (nl := 2) rfl rfl (show cvOK 113 20 101 105 1 2 9 = true by decide +kernel) rfl rfl rfl (S_105 hw1) (KP_V ?_)
    show Go XC (d + 2) 113 0 23 [some (.ref 46), some (.long v1), none, some (.int a5.1), some (.int a5.2), none] [.int w1] S R
    refine go_run mm_113 3 (pc' := 28) (ls' := [some (.ref 46), some (.long v1), none, some (.int a5.1), some (.int a5.2), some (.int w1)]) (st' := [.int (-1), .int w1]) (S' := S) rfl ?_
    refine go_if2 mm_113 rfl (p1 := 52) (p2 := 31) rfl (fun (hc2 : w1 = (-1)) => ?_) (fun (hc2 : ¬ w1 = (-1)) => ?_)
    · rw [if_pos hc2] at hr
      refine go_run mm_113 2 (pc' := 5) (ls' := [some (.ref 46), some (.long v1), none, some (.int a5.1), some (.int (a5.2 + 1)), some (.int w1)]) (st' := []) (S' := S) rfl ?_
      cases hr
      have h9 := hL (a5.1, a5.2 + 1) rfl
      dsimp only at h9
      exact Go.le h9 (by repeat first | exact True.intro | refine And.intro rfl ?_)
    · rw [if_neg hc2] at hr
      refine go_run mm_113 2 (pc' := 34) (ls' := [some (.ref 46), some (.long v1), none, some (.int a5.1), some (.int a5.2), some (.int w1)]) (st' := [.int w1, .long v1]) (S' := S) rfl ?_
      refine go_cs mm_113 (av := [.long v1, .int w1]) (rest := []) (nl := 3) rfl (show csOK 113 34 60 177 2 3 = true by decide +kernel) rfl rfl rfl (S_177 rfl) (KP_V ?_)
      show Go XC (d + 2) 113 0 37 [some (.ref 46), some (.long v1), none, some (.int a5.1), some (.int a5.2), some (.int w1)] [.int (b2i (F_177 v1 w1))] S R
      refine go_ifb mm_113 rfl (p1 := 40) (p2 := 52) rfl (fun (hc3 : (F_177 v1 w1) = true) => ?_) (fun (hc3 : (F_177 v1 w1) = false) => ?_)
      · rw [if_pos hc3] at hr
        refine go_run mm_113 4 (pc' := 47) (ls' := [some (.ref 46), some (.long v1), none, some (.int a5.1), some (.int a5.2), some (.int w1)]) (st' := [.int a5.2, .ref 3, .int a5.1]) (S' := S) rfl ?_
        obtain ⟨w2, hw2, hr⟩ := ob_some hr
        refine go_cv mm_113 (h := 3) (As := [.int a5.2]) (rest := [.int a5.1]) (nl := 2) rfl rfl (show cvOK 113 47 104 62 1 2 5 = true by decide +kernel) rfl rfl rfl (S_62 (plB_ok rfl) hw2) (KP_V ?_)
        show Go XC (d + 2) 113 0 50 [some (.ref 46), some (.long v1), none, some (.int a5.1), some (.int a5.2), some (.int w1)] [.int w2, .int a5.1] S R
        refine go_run mm_113 4 (pc' := 5) (ls' := [some (.ref 46), some (.long v1), none, some (.int (a5.1 + w2)), some (.int (a5.2 + 1)), some (.int w1)]) (st' := []) (S' := S) rfl ?_
        cases hr
        have h9 := hL (a5.1 + w2, a5.2 + 1) rfl
        dsimp only at h9
        exact Go.le h9 (by repeat first | exact True.intro | refine And.intro rfl ?_)
      · rw [if_neg (bf hc3)] at hr
        refine go_run mm_113 2 (pc' := 5) (ls' := [some (.ref 46), some (.long v1), none, some (.int a5.1), some (.int (a5.2 + 1)), some (.int w1)]) (st' := []) (S' := S) rfl ?_
        cases hr
        have h9 := hL (a5.1, a5.2 + 1) rfl
        dsimp only at h9
        exact Go.le h9 (by repeat first | exact True.intro | refine And.intro rfl ?_)
  · rw [if_neg hc1] at hr
    cases hr
    have h9 := hR (a5.1, a5.2) rfl
    dsimp only [Sum.elim_inl] at h9
    exact Go.le h9 (by repeat first | exact True.intro | refine And.intro rfl ?_)
def F_113 (v1 : Int64) (S : ST) : Option Int32 := ob (wh FU (L_113_5 v1 S) (0, 0)) (fun e5 => some e5.1)
set_option maxRecDepth 20000 in
theorem S_113 {d : Nat} {S : ST} {v1 : Int64} {r} (hr : F_113 v1 S = some r) : Cal XC (d + 2) 113 [.ref 46, .long v1] S (RV (vI r) S) := by
  unfold F_113 at hr
  refine cal_go 3 rfl ?_
  refine go_run mm_113 4 (pc' := 5) (ls' := [some (.ref 46), some (.long v1), none, some (.int 0), some (.int 0), none]) (st' := []) (S' := S) rfl ?_
  obtain ⟨z5, he5, hr⟩ := ob_some hr
  refine Go.le (ls' := [some (.ref 46), some (.long v1), none, some (.int 0), some (.int 0), none]) ?_ (by repeat first | exact True.intro | refine And.intro rfl ?_)
  refine wh_go (P := fun a5 => Go XC (d + 2) 113 0 5 [some (.ref 46), some (.long v1), none, some (.int a5.1), some (.int a5.2), none] [] S (RV (vI r) S)) (K := fun e5 => Go XC (d + 2) 113 0 58 [some (.ref 46), some (.long v1), none, some (.int e5.1), some (.int e5.2), none] [] S (RV (vI r) S)) (fun a9 r9 h9 hL hR => LS_113_5 h9 hL hR) _ _ _ he5 ?_
  generalize z5 = e5 at hr
  show Go XC (d + 2) 113 0 58 [some (.ref 46), some (.long v1), none, some (.int e5.1), some (.int e5.2), none] [] S (RV (vI r) S)
  refine go_run mm_113 1 (pc' := 59) (ls' := [some (.ref 46), some (.long v1), none, some (.int e5.1), some (.int e5.2), none]) (st' := [.int e5.1]) (S' := S) rfl ?_
  cases hr
  exact go_ireturn mm_113 rfl rfl ⟨rfl, rfl, rfl⟩

theorem mm_114 : mtG 114 = some (mi_114, 10, ft_114) := rfl
def L_114_32 (p32_2 : Int32) (p32_3 : Int64) (S : ST) (a32 : Int32 × Int32) : Option ((Int32 × Int32) ⊕ (Int32 × Int32)) := if a32.2 < (S.1 21 0) then (ob (F_54 3 p32_2 S) (fun w4 => ob (F_106 a32.2 w4 S) (fun w5 => ob (F_113 (p32_3 ||| w5) S) (fun w6 => some (.inl ((if a32.1 < w6 then w6 else a32.1), a32.2 + 1)))))) else (some (.inr (a32.1, a32.2)))
set_option maxRecDepth 20000 in
theorem LS_114_32 {d : Nat} {R : RT} {S : ST} {p32_2 : Int32} {p32_3 : Int64} {a32 : Int32 × Int32} {r9} (hr : L_114_32 p32_2 p32_3 S a32 = some r9) (hL : ∀ a9, r9 = .inl a9 → (fun a32 => Go XC (d + 4) 114 0 32 [some (.ref 46), some (.int a32.1), some (.int p32_2), some (.long p32_3), none, some (.int a32.2)] [] S R) a9) (hR : ∀ b9, r9 = .inr b9 → (fun e32 => Go XC (d + 4) 114 0 75 [some (.ref 46), some (.int e32.1), some (.int p32_2), some (.long p32_3), none, some (.int e32.2)] [] S R) b9) : Go XC (d + 4) 114 0 32 [some (.ref 46), some (.int a32.1), some (.int p32_2), some (.long p32_3), none, some (.int a32.2)] [] S R := by
  unfold L_114_32 at hr
  refine go_run mm_114 4 (pc' := 41) (ls' := [some (.ref 46), some (.int a32.1), some (.int p32_2), some (.long p32_3), none, some (.int a32.2)]) (st' := [.int (S.1 21 0), .int a32.2]) (S' := S) rfl ?_
  refine go_if2 mm_114 rfl (p1 := 44) (p2 := 75) rfl (fun (hc2 : a32.2 < (S.1 21 0)) => ?_) (fun (hc2 : ¬ a32.2 < (S.1 21 0)) => ?_)
  · rw [if_pos hc2] at hr
    refine go_run mm_114 8 (pc' := 55) (ls' := [some (.ref 46), some (.int a32.1), some (.int p32_2), some (.long p32_3), none, some (.int a32.2)]) (st' := [.int p32_2, .ref 3, .int a32.2, .ref 46, .long p32_3, .ref 46, .int a32.1]) (S' := S) rfl ?_
    obtain ⟨w4, hw4, hr⟩ := ob_some hr
    refine go_cv mm_114 (h := 3) (As := [.int p32_2]) (rest := [.int a32.2, .ref 46, .long p32_3, .ref 46, .int a32.1]) (nl := 2) rfl rfl (show cvOK 114 55 67 54 1 2 5 = true by decide +kernel) rfl rfl rfl (S_54 (plB_ok rfl) hw4) (KP_V ?_)
    show Go XC (d + 4) 114 0 58 [some (.ref 46), some (.int a32.1), some (.int p32_2), some (.long p32_3), none, some (.int a32.2)] [.int w4, .int a32.2, .ref 46, .long p32_3, .ref 46, .int a32.1] S R
    obtain ⟨w5, hw5, hr⟩ := ob_some hr
    refine go_cv mm_114 (h := 46) (As := [.int a32.2, .int w4]) (rest := [.long p32_3, .ref 46, .int a32.1]) (nl := 10) rfl rfl (show cvOK 114 58 70 106 2 10 9 = true by decide +kernel) rfl rfl rfl (S_106 hw5) (KP_V ?_)
    show Go XC (d + 4) 114 0 61 [some (.ref 46), some (.int a32.1), some (.int p32_2), some (.long p32_3), none, some (.int a32.2)] [.long w5, .long p32_3, .ref 46, .int a32.1] S R
    refine go_run mm_114 1 (pc' := 62) (ls' := [some (.ref 46), some (.int a32.1), some (.int p32_2), some (.long p32_3), none, some (.int a32.2)]) (st' := [.long (p32_3 ||| w5), .ref 46, .int a32.1]) (S' := S) rfl ?_
    obtain ⟨w6, hw6, hr⟩ := ob_some hr
    refine go_cv mm_114 (h := 46) (As := [.long (p32_3 ||| w5)]) (rest := [.int a32.1]) (nl := 6) rfl rfl (show cvOK 114 62 107 113 1 6 9 = true by decide +kernel) rfl rfl rfl (S_113 hw6) (KP_V ?_)
    show Go XC (d + 4) 114 0 65 [some (.ref 46), some (.int a32.1), some (.int p32_2), some (.long p32_3), none, some (.int a32.2)] [.int w6, .int a32.1] S R
    refine go_mm (pc' := 68) (st' := [.int (if a32.1 < w6 then w6 else a32.1)]) (fun lv σ => rfl) ?_
    show Go XC (d + 4) 114 0 68 [some (.ref 46), some (.int a32.1), some (.int p32_2), some (.long p32_3), none, some (.int a32.2)] [.int (if a32.1 < w6 then w6 else a32.1)] S R
    refine go_run mm_114 3 (pc' := 32) (ls' := [some (.ref 46), some (.int (if a32.1 < w6 then w6 else a32.1)), some (.int p32_2), some (.long p32_3), none, some (.int (a32.2 + 1))]) (st' := []) (S' := S) rfl ?_
    cases hr
    have h9 := hL ((if a32.1 < w6 then w6 else a32.1), a32.2 + 1) rfl
    dsimp only at h9
    exact Go.le h9 (by repeat first | exact True.intro | refine And.intro rfl ?_)
  · rw [if_neg hc2] at hr
    cases hr
    have h9 := hR (a32.1, a32.2) rfl
    dsimp only [Sum.elim_inl] at h9
    exact Go.le h9 (by repeat first | exact True.intro | refine And.intro rfl ?_)
def L_114_12 (S : ST) (a12 : Int32 × Int32) : Option ((Int32 × Int32) ⊕ (Int32 × Int32)) := if a12.2 < (S.1 3 1) then (ob (F_108 a12.2 S) (fun w3 => ob (wh FU (L_114_32 a12.2 w3 S) (a12.1, 0)) (fun e32 => some (.inl (e32.1, a12.2 + 1))))) else (some (.inr (a12.1, a12.2)))
set_option maxRecDepth 20000 in
theorem LS_114_12 {d : Nat} {R : RT} {S : ST} {a12 : Int32 × Int32} {r9} (hr : L_114_12 S a12 = some r9) (hL : ∀ a9, r9 = .inl a9 → (fun a12 => Go XC (d + 4) 114 0 12 [some (.ref 46), some (.int a12.1), some (.int a12.2), none, none, none] [] S R) a9) (hR : ∀ b9, r9 = .inr b9 → (fun e12 => Go XC (d + 4) 114 0 81 [some (.ref 46), some (.int e12.1), some (.int e12.2), none, none, none] [] S R) b9) : Go XC (d + 4) 114 0 12 [some (.ref 46), some (.int a12.1), some (.int a12.2), none, none, none] [] S R := by
  unfold L_114_12 at hr
  refine go_run mm_114 4 (pc' := 20) (ls' := [some (.ref 46), some (.int a12.1), some (.int a12.2), none, none, none]) (st' := [.int (S.1 3 1), .int a12.2]) (S' := S) rfl ?_
  refine go_if2 mm_114 rfl (p1 := 23) (p2 := 81) rfl (fun (hc1 : a12.2 < (S.1 3 1)) => ?_) (fun (hc1 : ¬ a12.2 < (S.1 3 1)) => ?_)
  · rw [if_pos hc1] at hr
    refine go_run mm_114 2 (pc' := 25) (ls' := [some (.ref 46), some (.int a12.1), some (.int a12.2), none, none, none]) (st' := [.int a12.2, .ref 46]) (S' := S) rfl ?_
    obtain ⟨w3, hw3, hr⟩ := ob_some hr
    refine go_cv mm_114 (h := 46) (As := [.int a12.2]) (rest := []) (nl := 5) rfl rfl (show cvOK 114 25 80 108 1 5 9 = true by decide +kernel) rfl rfl rfl (S_108 hw3) (KP_V ?_)
    show Go XC (d + 4) 114 0 28 [some (.ref 46), some (.int a12.1), some (.int a12.2), none, none, none] [.long w3] S R
    refine go_run mm_114 3 (pc' := 32) (ls' := [some (.ref 46), some (.int a12.1), some (.int a12.2), some (.long w3), none, some (.int 0)]) (st' := []) (S' := S) rfl ?_
    obtain ⟨z32, he32, hr⟩ := ob_some hr
    refine Go.le (ls' := [some (.ref 46), some (.int a12.1), some (.int a12.2), some (.long w3), none, some (.int 0)]) ?_ (by repeat first | exact True.intro | refine And.intro rfl ?_)
    refine wh_go (P := fun a32 => Go XC (d + 4) 114 0 32 [some (.ref 46), some (.int a32.1), some (.int a12.2), some (.long w3), none, some (.int a32.2)] [] S R) (K := fun e32 => Go XC (d + 4) 114 0 75 [some (.ref 46), some (.int e32.1), some (.int a12.2), some (.long w3), none, some (.int e32.2)] [] S R) (fun a9 r9 h9 hL hR => LS_114_32 h9 hL hR) _ _ _ he32 ?_
    generalize z32 = e32 at hr
    show Go XC (d + 4) 114 0 75 [some (.ref 46), some (.int e32.1), some (.int a12.2), some (.long w3), none, some (.int e32.2)] [] S R
    refine go_run mm_114 2 (pc' := 12) (ls' := [some (.ref 46), some (.int e32.1), some (.int (a12.2 + 1)), some (.long w3), none, some (.int e32.2)]) (st' := []) (S' := S) rfl ?_
    cases hr
    have h9 := hL (e32.1, a12.2 + 1) rfl
    dsimp only at h9
    exact Go.le h9 (by repeat first | exact True.intro | refine And.intro rfl ?_)
  · rw [if_neg hc1] at hr
    cases hr
    have h9 := hR (a12.1, a12.2) rfl
    dsimp only [Sum.elim_inl] at h9
    exact Go.le h9 (by repeat first | exact True.intro | refine And.intro rfl ?_)
def F_114 (S : ST) : Option Int32 := ob (F_108 (-1) S) (fun w1 => ob (F_113 w1 S) (fun w2 => ob (wh FU (L_114_12 S) (w2, 0)) (fun e12 => some e12.1)))
set_option maxRecDepth 20000 in
theorem S_114 {d : Nat} {S : ST} {r} (hr : F_114 S = some r) : Cal XC (d + 4) 114 [.ref 46] S (RV (vI r) S) := by
  unfold F_114 at hr
  refine cal_go 5 rfl ?_
  refine go_run mm_114 3 (pc' := 3) (ls' := [some (.ref 46), none, none, none, none, none]) (st' := [.int (-1), .ref 46, .ref 46]) (S' := S) rfl ?_
  obtain ⟨w1, hw1, hr⟩ := ob_some hr
  refine go_cv mm_114 (h := 46) (As := [.int (-1)]) (rest := [.ref 46]) (nl := 5) rfl rfl (show cvOK 114 3 80 108 1 5 9 = true by decide +kernel) rfl rfl rfl (S_108 hw1) (KP_V ?_)
  show Go XC (d + 4) 114 0 6 [some (.ref 46), none, none, none, none, none] [.long w1, .ref 46] S (RV (vI r) S)
  obtain ⟨w2, hw2, hr⟩ := ob_some hr
  refine go_cv mm_114 (h := 46) (As := [.long w1]) (rest := []) (nl := 6) rfl rfl (show cvOK 114 6 107 113 1 6 9 = true by decide +kernel) rfl rfl rfl (S_113 hw2) (KP_V ?_)
  show Go XC (d + 4) 114 0 9 [some (.ref 46), none, none, none, none, none] [.int w2] S (RV (vI r) S)
  refine go_run mm_114 3 (pc' := 12) (ls' := [some (.ref 46), some (.int w2), some (.int 0), none, none, none]) (st' := []) (S' := S) rfl ?_
  obtain ⟨z12, he12, hr⟩ := ob_some hr
  refine Go.le (ls' := [some (.ref 46), some (.int w2), some (.int 0), none, none, none]) ?_ (by repeat first | exact True.intro | refine And.intro rfl ?_)
  refine wh_go (P := fun a12 => Go XC (d + 4) 114 0 12 [some (.ref 46), some (.int a12.1), some (.int a12.2), none, none, none] [] S (RV (vI r) S)) (K := fun e12 => Go XC (d + 4) 114 0 81 [some (.ref 46), some (.int e12.1), some (.int e12.2), none, none, none] [] S (RV (vI r) S)) (fun a9 r9 h9 hL hR => LS_114_12 h9 hL hR) _ _ _ he12 ?_
  generalize z12 = e12 at hr
  show Go XC (d + 4) 114 0 81 [some (.ref 46), some (.int e12.1), some (.int e12.2), none, none, none] [] S (RV (vI r) S)
  refine go_run mm_114 1 (pc' := 82) (ls' := [some (.ref 46), some (.int e12.1), some (.int e12.2), none, none, none]) (st' := [.int e12.1]) (S' := S) rfl ?_
  cases hr
  exact go_ireturn mm_114 rfl rfl ⟨rfl, rfl, rfl⟩

theorem mm_115 : mtG 115 = some (mi_115, 11, ft_115) := rfl
def F_115 (v1 : Int32) (v2 : Int32) (v3 : Int32) (v4 : Int32) (v5 : Int32) (S : ST) : Option (Int32 × ST) := if (600 : Int32) < ((S.1 1 0) + 20) then (some ((-1), S)) else (ob (F_11 v1 S) (fun w1 => ob (F_11 v2 w1.2) (fun w2 => ob (F_11 v3 w2.2) (fun w3 => ob (F_11 v4 w3.2) (fun w4 => ob (F_11 v5 w4.2) (fun w5 => some (w5.2.1 1 0, w5.2)))))))
set_option maxRecDepth 20000 in
theorem S_115 {d : Nat} {S : ST} {v1 : Int32} {v2 : Int32} {v3 : Int32} {v4 : Int32} {v5 : Int32} {r} (hr : F_115 v1 v2 v3 v4 v5 S = some r) : Cal XC (d + 1) 115 [.ref 0, .int v1, .int v2, .int v3, .int v4, .int v5] S (RV (vI r.1) r.2) := by
  unfold F_115 at hr
  refine cal_go 0 rfl ?_
  refine go_run mm_115 6 (pc' := 13) (ls' := [some (.ref 0), some (.int v1), some (.int v2), some (.int v3), some (.int v4), some (.int v5)]) (st' := [.int 600, .int ((S.1 1 0) + 20)]) (S' := S) rfl ?_
  refine go_if2 mm_115 rfl (p1 := 16) (p2 := 18) rfl (fun (hc1 : (600 : Int32) < ((S.1 1 0) + 20)) => ?_) (fun (hc1 : ¬ (600 : Int32) < ((S.1 1 0) + 20)) => ?_)
  · rw [if_pos hc1] at hr
    refine go_run mm_115 1 (pc' := 17) (ls' := [some (.ref 0), some (.int v1), some (.int v2), some (.int v3), some (.int v4), some (.int v5)]) (st' := [.int (-1)]) (S' := S) rfl ?_
    cases hr
    exact go_ireturn mm_115 rfl rfl ⟨rfl, rfl, rfl⟩
  · rw [if_neg hc1] at hr
    refine go_run mm_115 3 (pc' := 23) (ls' := [some (.ref 0), some (.int v1), some (.int v2), some (.int v3), some (.int v4), some (.int v5)]) (st' := [.int v1, .ref 1]) (S' := S) rfl ?_
    obtain ⟨w1, hw1, hr⟩ := ob_some hr
    refine go_cv mm_115 (h := 1) (As := [.int v1]) (rest := []) (nl := 3) rfl rfl (show cvOK 115 23 119 11 1 3 2 = true by decide +kernel) rfl rfl rfl (S_11 hw1) (KP_V ?_)
    show Go XC (d + 1) 115 0 26 [some (.ref 0), some (.int v1), some (.int v2), some (.int v3), some (.int v4), some (.int v5)] [] w1.2 (RV (vI r.1) r.2)
    refine go_run mm_115 3 (pc' := 31) (ls' := [some (.ref 0), some (.int v1), some (.int v2), some (.int v3), some (.int v4), some (.int v5)]) (st' := [.int v2, .ref 1]) (S' := w1.2) rfl ?_
    obtain ⟨w2, hw2, hr⟩ := ob_some hr
    refine go_cv mm_115 (h := 1) (As := [.int v2]) (rest := []) (nl := 3) rfl rfl (show cvOK 115 31 119 11 1 3 2 = true by decide +kernel) rfl rfl rfl (S_11 hw2) (KP_V ?_)
    show Go XC (d + 1) 115 0 34 [some (.ref 0), some (.int v1), some (.int v2), some (.int v3), some (.int v4), some (.int v5)] [] w2.2 (RV (vI r.1) r.2)
    refine go_run mm_115 3 (pc' := 39) (ls' := [some (.ref 0), some (.int v1), some (.int v2), some (.int v3), some (.int v4), some (.int v5)]) (st' := [.int v3, .ref 1]) (S' := w2.2) rfl ?_
    obtain ⟨w3, hw3, hr⟩ := ob_some hr
    refine go_cv mm_115 (h := 1) (As := [.int v3]) (rest := []) (nl := 3) rfl rfl (show cvOK 115 39 119 11 1 3 2 = true by decide +kernel) rfl rfl rfl (S_11 hw3) (KP_V ?_)
    show Go XC (d + 1) 115 0 42 [some (.ref 0), some (.int v1), some (.int v2), some (.int v3), some (.int v4), some (.int v5)] [] w3.2 (RV (vI r.1) r.2)
    refine go_run mm_115 3 (pc' := 48) (ls' := [some (.ref 0), some (.int v1), some (.int v2), some (.int v3), some (.int v4), some (.int v5)]) (st' := [.int v4, .ref 1]) (S' := w3.2) rfl ?_
    obtain ⟨w4, hw4, hr⟩ := ob_some hr
    refine go_cv mm_115 (h := 1) (As := [.int v4]) (rest := []) (nl := 3) rfl rfl (show cvOK 115 48 119 11 1 3 2 = true by decide +kernel) rfl rfl rfl (S_11 hw4) (KP_V ?_)
    show Go XC (d + 1) 115 0 51 [some (.ref 0), some (.int v1), some (.int v2), some (.int v3), some (.int v4), some (.int v5)] [] w4.2 (RV (vI r.1) r.2)
    refine go_run mm_115 3 (pc' := 57) (ls' := [some (.ref 0), some (.int v1), some (.int v2), some (.int v3), some (.int v4), some (.int v5)]) (st' := [.int v5, .ref 1]) (S' := w4.2) rfl ?_
    obtain ⟨w5, hw5, hr⟩ := ob_some hr
    refine go_cv mm_115 (h := 1) (As := [.int v5]) (rest := []) (nl := 3) rfl rfl (show cvOK 115 57 119 11 1 3 2 = true by decide +kernel) rfl rfl rfl (S_11 hw5) (KP_V ?_)
    show Go XC (d + 1) 115 0 60 [some (.ref 0), some (.int v1), some (.int v2), some (.int v3), some (.int v4), some (.int v5)] [] w5.2 (RV (vI r.1) r.2)
    refine go_run mm_115 3 (pc' := 67) (ls' := [some (.ref 0), some (.int v1), some (.int v2), some (.int v3), some (.int v4), some (.int v5)]) (st' := [.int (w5.2.1 1 0)]) (S' := w5.2) rfl ?_
    cases hr
    exact go_ireturn mm_115 rfl rfl ⟨rfl, rfl, rfl⟩

theorem mm_180 : mtG 180 = some (mi_180, 11, ft_180) := rfl
def F_180 (h1 : Nat) (S : ST) : Option (Unit × ST) := ob (F_43 3 h1 S) (fun w1 => ob (F_17 21 3 w1.2) (fun w2 => ob (F_65 w2.2) (fun w3 => ob (F_89 w3.2) (fun w4 => ob (F_0 w4.2) (fun w5 => ob (F_80 w5.2) (fun w6 => some ((), w6.2)))))))
set_option maxRecDepth 20000 in
theorem S_180 {d : Nat} {S : ST} {h1 : Nat} {r} (hp1 : PLH h1) (hr : F_180 h1 S = some r) : Cal XC (d + 4) 180 [.ref 0, .ref h1] S (RV (vU r.1) r.2) := by
  unfold F_180 at hr
  refine cal_go 0 rfl ?_
  refine go_run mm_180 3 (pc' := 5) (ls' := [some (.ref 0), some (.ref h1)]) (st' := [.ref h1, .ref 3]) (S' := S) rfl ?_
  obtain ⟨w1, hw1, hr⟩ := ob_some hr
  refine go_cv mm_180 (h := 3) (As := [.ref h1]) (rest := []) (nl := 2) rfl rfl (show cvOK 180 5 331 43 1 2 5 = true by decide +kernel) rfl rfl rfl (S_43 (plB_ok rfl) hp1 hw1) (KP_V ?_)
  show Go XC (d + 4) 180 0 8 [some (.ref 0), some (.ref h1)] [] w1.2 (RV (vU r.1) r.2)
  refine go_run mm_180 4 (pc' := 16) (ls' := [some (.ref 0), some (.ref h1)]) (st' := [.ref 3, .ref 21]) (S' := w1.2) rfl ?_
  obtain ⟨w2, hw2, hr⟩ := ob_some hr
  refine go_cv mm_180 (h := 21) (As := [.ref 3]) (rest := []) (nl := 5) rfl rfl (show cvOK 180 16 370 17 1 5 3 = true by decide +kernel) rfl rfl rfl (S_17 (ltB_ok rfl) (plB_ok rfl) hw2) (KP_V ?_)
  show Go XC (d + 4) 180 0 19 [some (.ref 0), some (.ref h1)] [.int (b2i w2.1)] w2.2 (RV (vU r.1) r.2)
  refine go_run mm_180 3 (pc' := 24) (ls' := [some (.ref 0), some (.ref h1)]) (st' := [.ref 30]) (S' := w2.2) rfl ?_
  obtain ⟨w3, hw3, hr⟩ := ob_some hr
  refine go_cv mm_180 (h := 30) (As := []) (rest := []) (nl := 1) rfl rfl (show cvOK 180 24 378 65 0 1 6 = true by decide +kernel) rfl rfl rfl (S_65 hw3) (KP_V ?_)
  show Go XC (d + 4) 180 0 27 [some (.ref 0), some (.ref h1)] [] w3.2 (RV (vU r.1) r.2)
  refine go_run mm_180 2 (pc' := 31) (ls' := [some (.ref 0), some (.ref h1)]) (st' := [.ref 32]) (S' := w3.2) rfl ?_
  obtain ⟨w4, hw4, hr⟩ := ob_some hr
  refine go_cv mm_180 (h := 32) (As := []) (rest := []) (nl := 1) rfl rfl (show cvOK 180 31 381 89 0 1 8 = true by decide +kernel) rfl rfl rfl (S_89 hw4) (KP_V ?_)
  show Go XC (d + 4) 180 0 34 [some (.ref 0), some (.ref h1)] [] w4.2 (RV (vU r.1) r.2)
  refine go_run mm_180 2 (pc' := 38) (ls' := [some (.ref 0), some (.ref h1)]) (st' := [.ref 39]) (S' := w4.2) rfl ?_
  obtain ⟨w5, hw5, hr⟩ := ob_some hr
  refine go_cv mm_180 (h := 39) (As := []) (rest := []) (nl := 1) rfl rfl (show cvOK 180 38 382 0 0 1 0 = true by decide +kernel) rfl rfl rfl (S_0 hw5) (KP_V ?_)
  show Go XC (d + 4) 180 0 41 [some (.ref 0), some (.ref h1)] [] w5.2 (RV (vU r.1) r.2)
  refine go_run mm_180 2 (pc' := 45) (ls' := [some (.ref 0), some (.ref h1)]) (st' := [.ref 43]) (S' := w5.2) rfl ?_
  obtain ⟨w6, hw6, hr⟩ := ob_some hr
  refine go_cv mm_180 (h := 43) (As := []) (rest := []) (nl := 1) rfl rfl (show cvOK 180 45 383 80 0 1 7 = true by decide +kernel) rfl rfl rfl (S_80 hw6) (KP_V ?_)
  show Go XC (d + 4) 180 0 48 [some (.ref 0), some (.ref h1)] [] w6.2 (RV (vU r.1) r.2)
  cases hr
  exact go_vreturn mm_180 rfl rfl ⟨rfl, rfl, rfl⟩

theorem mm_116 : mtG 116 = some (mi_116, 11, ft_116) := rfl
def F_116 (v1 : Int32) (S : ST) : Option ((String ⊕ Int32) × ST) := if v1 < 0 then (some (.inl "java/lang/IndexOutOfBoundsException", S)) else (if (S.1 1 0) < v1 then (some (.inl "java/lang/IndexOutOfBoundsException", S)) else (ob (F_35 v1 S) (fun w1 => if w1.1 = 0 then (ob (F_8 (wI (wI (wI w1.2 0 16 w1.1) 0 17 (if w1.1 = 0 then (-1) else w1.2.1 1 2)) 1 0 0)) (fun w2 => ob (F_42 121 w2.2) (fun w3 => ob (F_42 130 w3.2) (fun w4 => ob (F_180 12 w4.2) (fun w5 => some (.inr (w5.2.1 21 0), w5.2)))))) else (some (.inl "java/lang/IllegalArgumentException", (wI (wI (wI w1.2 0 16 w1.1) 0 17 (if w1.1 = 0 then (-1) else w1.2.1 1 2)) 1 0 0))))))
set_option maxRecDepth 20000 in
theorem S_116 {d : Nat} {S : ST} {v1 : Int32} {r} (hr : F_116 v1 S = some r) : Cal XC (d + 6) 116 [.ref 0, .int v1] S (RXx vI r) := by
  unfold F_116 at hr
  refine cal_go 0 rfl ?_
  refine go_run mm_116 1 (pc' := 1) (ls' := [some (.ref 0), some (.int v1)]) (st' := [.int v1]) (S' := S) rfl ?_
  refine go_if0 mm_116 rfl (p1 := 15) (p2 := 4) rfl (fun (hc1 : v1 < 0) => ?_) (fun (hc1 : ¬ v1 < 0) => ?_)
  · rw [if_pos hc1] at hr
    cases hr
    exact go_thr mm_116 rfl (show tbT G0 116 15 = some "java/lang/IndexOutOfBoundsException" by decide +kernel) rfl (by decide) ⟨rfl, rfl, rfl⟩
  · rw [if_neg hc1] at hr
    refine go_run mm_116 4 (pc' := 12) (ls' := [some (.ref 0), some (.int v1)]) (st' := [.int (S.1 1 0), .int v1]) (S' := S) rfl ?_
    refine go_if2 mm_116 rfl (p1 := 15) (p2 := 25) rfl (fun (hc2 : (S.1 1 0) < v1) => ?_) (fun (hc2 : ¬ (S.1 1 0) < v1) => ?_)
    · rw [if_pos hc2] at hr
      cases hr
      exact go_thr mm_116 rfl (show tbT G0 116 15 = some "java/lang/IndexOutOfBoundsException" by decide +kernel) rfl (by decide) ⟨rfl, rfl, rfl⟩
    · rw [if_neg hc2] at hr
      refine go_run mm_116 4 (pc' := 31) (ls' := [some (.ref 0), some (.int v1)]) (st' := [.int v1, .ref 29, .ref 0]) (S' := S) rfl ?_
      obtain ⟨w1, hw1, hr⟩ := ob_some hr
      refine go_cv mm_116 (h := 29) (As := [.int v1]) (rest := [.ref 0]) (nl := 3) rfl rfl (show cvOK 116 31 130 35 1 3 4 = true by decide +kernel) rfl rfl rfl (S_35 hw1) (KP_V ?_)
      show Go XC (d + 6) 116 0 34 [some (.ref 0), some (.int v1)] [.int w1.1, .ref 0] w1.2 (RXx vI r)
      refine go_run mm_116 4 (pc' := 42) (ls' := [some (.ref 0), some (.int v1)]) (st' := [.int w1.1, .ref 0]) (S' := (wI w1.2 0 16 w1.1)) rfl ?_
      have j5 : Go XC (d + 6) 116 0 56 [some (.ref 0), some (.int v1)] [.int (if w1.1 = 0 then (-1) else w1.2.1 1 2), .ref 0] (wI w1.2 0 16 w1.1) (RXx vI r) := by
        refine go_run mm_116 7 (pc' := 71) (ls' := [some (.ref 0), some (.int v1)]) (st' := [.int w1.1]) (S' := (wI (wI (wI w1.2 0 16 w1.1) 0 17 (if w1.1 = 0 then (-1) else w1.2.1 1 2)) 1 0 0)) rfl ?_
        refine go_if0 mm_116 rfl (p1 := 84) (p2 := 74) rfl (fun (hc4 : w1.1 = 0) => ?_) (fun (hc4 : ¬ w1.1 = 0) => ?_)
        · rw [if_pos hc4] at hr
          refine go_run mm_116 2 (pc' := 88) (ls' := [some (.ref 0), some (.int v1)]) (st' := [.ref 47]) (S' := (wI (wI (wI w1.2 0 16 w1.1) 0 17 (if w1.1 = 0 then (-1) else w1.2.1 1 2)) 1 0 0)) rfl ?_
          obtain ⟨w2, hw2, hr⟩ := ob_some hr
          refine go_cv mm_116 (h := 47) (As := []) (rest := []) (nl := 1) rfl rfl (show cvOK 116 88 142 8 0 1 1 = true by decide +kernel) rfl rfl rfl (S_8 hw2) (KP_V ?_)
          show Go XC (d + 6) 116 0 91 [some (.ref 0), some (.int v1)] [] w2.2 (RXx vI r)
          refine go_run mm_116 2 (pc' := 95) (ls' := [some (.ref 0), some (.int v1)]) (st' := [.ref 121]) (S' := w2.2) rfl ?_
          obtain ⟨w3, hw3, hr⟩ := ob_some hr
          refine go_cv mm_116 (h := 121) (As := []) (rest := []) (nl := 1) rfl rfl (show cvOK 116 95 145 42 0 1 5 = true by decide +kernel) rfl rfl rfl (S_42 (plB_ok rfl) hw3) (KP_V ?_)
          show Go XC (d + 6) 116 0 98 [some (.ref 0), some (.int v1)] [] w3.2 (RXx vI r)
          refine go_run mm_116 2 (pc' := 102) (ls' := [some (.ref 0), some (.int v1)]) (st' := [.ref 130]) (S' := w3.2) rfl ?_
          obtain ⟨w4, hw4, hr⟩ := ob_some hr
          refine go_cv mm_116 (h := 130) (As := []) (rest := []) (nl := 1) rfl rfl (show cvOK 116 102 145 42 0 1 5 = true by decide +kernel) rfl rfl rfl (S_42 (plB_ok rfl) hw4) (KP_V ?_)
          show Go XC (d + 6) 116 0 105 [some (.ref 0), some (.int v1)] [] w4.2 (RXx vI r)
          refine go_run mm_116 3 (pc' := 110) (ls' := [some (.ref 0), some (.int v1)]) (st' := [.ref 12, .ref 0]) (S' := w4.2) rfl ?_
          obtain ⟨w5, hw5, hr⟩ := ob_some hr
          refine go_cv mm_116 (h := 0) (As := [.ref 12]) (rest := []) (nl := 2) rfl rfl (show cvOK 116 110 146 180 1 2 10 = true by decide +kernel) rfl rfl rfl (S_180 (plB_ok rfl) hw5) (KP_V ?_)
          show Go XC (d + 6) 116 0 113 [some (.ref 0), some (.int v1)] [] w5.2 (RXx vI r)
          refine go_run mm_116 3 (pc' := 120) (ls' := [some (.ref 0), some (.int v1)]) (st' := [.int (w5.2.1 21 0)]) (S' := w5.2) rfl ?_
          cases hr
          exact go_ireturn mm_116 rfl rfl ⟨rfl, rfl, rfl⟩
        · rw [if_neg hc4] at hr
          cases hr
          exact go_thr mm_116 rfl (show tbT G0 116 74 = some "java/lang/IllegalArgumentException" by decide +kernel) rfl (by decide) ⟨rfl, rfl, rfl⟩
      refine go_if0 mm_116 rfl (p1 := 45) (p2 := 49) rfl (fun (hc3 : w1.1 = 0) => ?_) (fun (hc3 : ¬ w1.1 = 0) => ?_)
      · refine go_run mm_116 2 (pc' := 56) (ls' := [some (.ref 0), some (.int v1)]) (st' := [.int (-1), .ref 0]) (S' := (wI w1.2 0 16 w1.1)) rfl ?_
        have e : ((if w1.1 = 0 then (-1) else w1.2.1 1 2) : Int32) = (-1) := by simp [b2i, hc3]
        rw [e] at j5
        exact j5
      · refine go_run mm_116 3 (pc' := 56) (ls' := [some (.ref 0), some (.int v1)]) (st' := [.int (w1.2.1 1 2), .ref 0]) (S' := (wI w1.2 0 16 w1.1)) rfl ?_
        have e : ((if w1.1 = 0 then (-1) else w1.2.1 1 2) : Int32) = w1.2.1 1 2 := by simp [b2i, hc3]
        rw [e] at j5
        exact j5

theorem mm_117 : mtG 117 = some (mi_117, 11, ft_117) := rfl
def F_117 (S : ST) : Int32 := S.1 0 16
set_option maxRecDepth 20000 in
theorem S_117 {d : Nat} {S : ST} {r} (hr : F_117 S = r) : Cal XC d 117 [.ref 0] S (RV (vI r) S) := by
  unfold F_117 at hr
  refine cal_go 0 rfl ?_
  refine go_run mm_117 2 (pc' := 4) (ls' := [some (.ref 0)]) (st' := [.int (S.1 0 16)]) (S' := S) rfl ?_
  cases hr
  exact go_ireturn mm_117 rfl rfl ⟨rfl, rfl, rfl⟩

theorem mm_118 : mtG 118 = some (mi_118, 11, ft_118) := rfl
def F_118 (S : ST) : Int32 := S.1 0 17
set_option maxRecDepth 20000 in
theorem S_118 {d : Nat} {S : ST} {r} (hr : F_118 S = r) : Cal XC d 118 [.ref 0] S (RV (vI r) S) := by
  unfold F_118 at hr
  refine cal_go 0 rfl ?_
  refine go_run mm_118 2 (pc' := 4) (ls' := [some (.ref 0)]) (st' := [.int (S.1 0 17)]) (S' := S) rfl ?_
  cases hr
  exact go_ireturn mm_118 rfl rfl ⟨rfl, rfl, rfl⟩

theorem mm_119 : mtG 119 = some (mi_119, 11, ft_119) := rfl
def F_119 (S : ST) : Int32 := S.1 1 0
set_option maxRecDepth 20000 in
theorem S_119 {d : Nat} {S : ST} {r} (hr : F_119 S = r) : Cal XC d 119 [.ref 0] S (RV (vI r) S) := by
  unfold F_119 at hr
  refine cal_go 0 rfl ?_
  refine go_run mm_119 3 (pc' := 7) (ls' := [some (.ref 0)]) (st' := [.int (S.1 1 0)]) (S' := S) rfl ?_
  cases hr
  exact go_ireturn mm_119 rfl rfl ⟨rfl, rfl, rfl⟩

theorem mm_120 : mtG 120 = some (mi_120, 11, ft_120) := rfl
def F_120 (S : ST) : Int32 := S.1 3 0
set_option maxRecDepth 20000 in
theorem S_120 {d : Nat} {S : ST} {r} (hr : F_120 S = r) : Cal XC d 120 [.ref 0] S (RV (vI r) S) := by
  unfold F_120 at hr
  refine cal_go 0 rfl ?_
  refine go_run mm_120 3 (pc' := 7) (ls' := [some (.ref 0)]) (st' := [.int (S.1 3 0)]) (S' := S) rfl ?_
  cases hr
  exact go_ireturn mm_120 rfl rfl ⟨rfl, rfl, rfl⟩

theorem mm_174 : mtG 174 = some (mi_174, 11, ft_174) := rfl
def F_174 (S : ST) : Option ((String ⊕ Unit) × ST) := if (S.1 3 0) = 0 then (some (.inl "java/lang/IllegalStateException", S)) else (some (.inr (), S))
set_option maxRecDepth 20000 in
theorem S_174 {d : Nat} {S : ST} {r} (hr : F_174 S = some r) : Cal XC d 174 [.ref 0] S (RXx vU r) := by
  unfold F_174 at hr
  refine cal_go 0 rfl ?_
  refine go_run mm_174 3 (pc' := 7) (ls' := [some (.ref 0)]) (st' := [.int (S.1 3 0)]) (S' := S) rfl ?_
  refine go_if0 mm_174 rfl (p1 := 10) (p2 := 21) rfl (fun (hc1 : (S.1 3 0) = 0) => ?_) (fun (hc1 : ¬ (S.1 3 0) = 0) => ?_)
  · rw [if_pos hc1] at hr
    cases hr
    exact go_thr mm_174 rfl (show tbT G0 174 10 = some "java/lang/IllegalStateException" by decide +kernel) rfl (by decide) ⟨rfl, rfl, rfl⟩
  · rw [if_neg hc1] at hr
    cases hr
    exact go_vreturn mm_174 rfl rfl ⟨rfl, rfl, rfl⟩

theorem mm_175 : mtG 175 = some (mi_175, 11, ft_175) := rfl
def F_175 (v0 : Int32) (v1 : Int32) (S : ST) : Option ((String ⊕ Unit) × ST) := if v0 < 0 then (some (.inl "java/lang/IndexOutOfBoundsException", S)) else (if v0 < v1 then (some (.inr (), S)) else (some (.inl "java/lang/IndexOutOfBoundsException", S)))
set_option maxRecDepth 20000 in
theorem S_175 {d : Nat} {S : ST} {v0 : Int32} {v1 : Int32} {r} (hr : F_175 v0 v1 S = some r) : Cal XC d 175 [.int v0, .int v1] S (RXx vU r) := by
  unfold F_175 at hr
  refine cal_go 0 rfl ?_
  refine go_run mm_175 1 (pc' := 1) (ls' := [some (.int v0), some (.int v1)]) (st' := [.int v0]) (S' := S) rfl ?_
  refine go_if0 mm_175 rfl (p1 := 9) (p2 := 4) rfl (fun (hc1 : v0 < 0) => ?_) (fun (hc1 : ¬ v0 < 0) => ?_)
  · rw [if_pos hc1] at hr
    cases hr
    exact go_thr mm_175 rfl (show tbT G0 175 9 = some "java/lang/IndexOutOfBoundsException" by decide +kernel) rfl (by decide) ⟨rfl, rfl, rfl⟩
  · rw [if_neg hc1] at hr
    refine go_run mm_175 2 (pc' := 6) (ls' := [some (.int v0), some (.int v1)]) (st' := [.int v1, .int v0]) (S' := S) rfl ?_
    refine go_if2 mm_175 rfl (p1 := 20) (p2 := 9) rfl (fun (hc2 : v0 < v1) => ?_) (fun (hc2 : ¬ v0 < v1) => ?_)
    · rw [if_pos hc2] at hr
      cases hr
      exact go_vreturn mm_175 rfl rfl ⟨rfl, rfl, rfl⟩
    · rw [if_neg hc2] at hr
      cases hr
      exact go_thr mm_175 rfl (show tbT G0 175 9 = some "java/lang/IndexOutOfBoundsException" by decide +kernel) rfl (by decide) ⟨rfl, rfl, rfl⟩

theorem mm_121 : mtG 121 = some (mi_121, 11, ft_121) := rfl
def F_121 (v1 : Int32) (S : ST) : Option ((String ⊕ Int32) × ST) := ox (F_174 S) (fun w1 w1s => ox (F_175 v1 (w1s.1 3 0) w1s) (fun w2 w2s => ob (F_44 3 v1 w2s) (fun w3 => some (.inr w3, w2s))))
set_option maxRecDepth 20000 in
theorem S_121 {d : Nat} {S : ST} {v1 : Int32} {r} (hr : F_121 v1 S = some r) : Cal XC (d + 1) 121 [.ref 0, .int v1] S (RXx vI r) := by
  unfold F_121 at hr
  refine cal_go 0 rfl ?_
  refine go_run mm_121 1 (pc' := 1) (ls' := [some (.ref 0), some (.int v1)]) (st' := [.ref 0]) (S' := S) rfl ?_
  rcases ox_some hr with ⟨E9, S9, hw1, rfl⟩ | ⟨w1, w1s, hw1, hr⟩
  · exact go_cvX mm_121 rfl (h := 0) (As := []) (rest := []) (nl := 1) rfl rfl (show cvOK 121 1 155 174 0 1 10 = true by decide +kernel) rfl rfl rfl (S_174 hw1) (KX_E ⟨rfl, rfl, rfl⟩)
  refine go_cvX mm_121 rfl (h := 0) (As := []) (rest := []) (nl := 1) rfl rfl (show cvOK 121 1 155 174 0 1 10 = true by decide +kernel) rfl rfl rfl (S_174 hw1) (KX_R ?_)
  show Go XC (d + 1) 121 0 4 [some (.ref 0), some (.int v1)] [] w1s (RXx vI r)
  refine go_run mm_121 4 (pc' := 12) (ls' := [some (.ref 0), some (.int v1)]) (st' := [.int (w1s.1 3 0), .int v1]) (S' := w1s) rfl ?_
  rcases ox_some hr with ⟨E9, S9, hw2, rfl⟩ | ⟨w2, w2s, hw2, hr⟩
  · exact go_csX mm_121 rfl (av := [.int v1, .int (w1s.1 3 0)]) (rest := []) (nl := 2) rfl (show csX 121 12 158 175 2 2 = true by decide +kernel) rfl rfl rfl (S_175 hw2) (KX_E ⟨rfl, rfl, rfl⟩)
  refine go_csX mm_121 rfl (av := [.int v1, .int (w1s.1 3 0)]) (rest := []) (nl := 2) rfl (show csX 121 12 158 175 2 2 = true by decide +kernel) rfl rfl rfl (S_175 hw2) (KX_R ?_)
  show Go XC (d + 1) 121 0 15 [some (.ref 0), some (.int v1)] [] w2s (RXx vI r)
  refine go_run mm_121 3 (pc' := 20) (ls' := [some (.ref 0), some (.int v1)]) (st' := [.int v1, .ref 3]) (S' := w2s) rfl ?_
  obtain ⟨w3, hw3, hr⟩ := ob_some hr
  refine go_cv mm_121 (h := 3) (As := [.int v1]) (rest := []) (nl := 2) rfl rfl (show cvOK 121 20 162 44 1 2 5 = true by decide +kernel) rfl rfl rfl (S_44 (plB_ok rfl) hw3) (KP_V ?_)
  show Go XC (d + 1) 121 0 23 [some (.ref 0), some (.int v1)] [.int w3] w2s (RXx vI r)
  cases hr
  exact go_ireturn mm_121 rfl rfl ⟨rfl, rfl, rfl⟩

theorem mm_122 : mtG 122 = some (mi_122, 11, ft_122) := rfl
def F_122 (v1 : Int32) (S : ST) : Option ((String ⊕ Int32) × ST) := ox (F_174 S) (fun w1 w1s => ox (F_175 v1 (w1s.1 3 0) w1s) (fun w2 w2s => ob (F_45 3 v1 w2s) (fun w3 => some (.inr w3, w2s))))
set_option maxRecDepth 20000 in
theorem S_122 {d : Nat} {S : ST} {v1 : Int32} {r} (hr : F_122 v1 S = some r) : Cal XC (d + 1) 122 [.ref 0, .int v1] S (RXx vI r) := by
  unfold F_122 at hr
  refine cal_go 0 rfl ?_
  refine go_run mm_122 1 (pc' := 1) (ls' := [some (.ref 0), some (.int v1)]) (st' := [.ref 0]) (S' := S) rfl ?_
  rcases ox_some hr with ⟨E9, S9, hw1, rfl⟩ | ⟨w1, w1s, hw1, hr⟩
  · exact go_cvX mm_122 rfl (h := 0) (As := []) (rest := []) (nl := 1) rfl rfl (show cvOK 122 1 155 174 0 1 10 = true by decide +kernel) rfl rfl rfl (S_174 hw1) (KX_E ⟨rfl, rfl, rfl⟩)
  refine go_cvX mm_122 rfl (h := 0) (As := []) (rest := []) (nl := 1) rfl rfl (show cvOK 122 1 155 174 0 1 10 = true by decide +kernel) rfl rfl rfl (S_174 hw1) (KX_R ?_)
  show Go XC (d + 1) 122 0 4 [some (.ref 0), some (.int v1)] [] w1s (RXx vI r)
  refine go_run mm_122 4 (pc' := 12) (ls' := [some (.ref 0), some (.int v1)]) (st' := [.int (w1s.1 3 0), .int v1]) (S' := w1s) rfl ?_
  rcases ox_some hr with ⟨E9, S9, hw2, rfl⟩ | ⟨w2, w2s, hw2, hr⟩
  · exact go_csX mm_122 rfl (av := [.int v1, .int (w1s.1 3 0)]) (rest := []) (nl := 2) rfl (show csX 122 12 158 175 2 2 = true by decide +kernel) rfl rfl rfl (S_175 hw2) (KX_E ⟨rfl, rfl, rfl⟩)
  refine go_csX mm_122 rfl (av := [.int v1, .int (w1s.1 3 0)]) (rest := []) (nl := 2) rfl (show csX 122 12 158 175 2 2 = true by decide +kernel) rfl rfl rfl (S_175 hw2) (KX_R ?_)
  show Go XC (d + 1) 122 0 15 [some (.ref 0), some (.int v1)] [] w2s (RXx vI r)
  refine go_run mm_122 3 (pc' := 20) (ls' := [some (.ref 0), some (.int v1)]) (st' := [.int v1, .ref 3]) (S' := w2s) rfl ?_
  obtain ⟨w3, hw3, hr⟩ := ob_some hr
  refine go_cv mm_122 (h := 3) (As := [.int v1]) (rest := []) (nl := 2) rfl rfl (show cvOK 122 20 165 45 1 2 5 = true by decide +kernel) rfl rfl rfl (S_45 (plB_ok rfl) hw3) (KP_V ?_)
  show Go XC (d + 1) 122 0 23 [some (.ref 0), some (.int v1)] [.int w3] w2s (RXx vI r)
  cases hr
  exact go_ireturn mm_122 rfl rfl ⟨rfl, rfl, rfl⟩

theorem mm_123 : mtG 123 = some (mi_123, 11, ft_123) := rfl
def F_123 (S : ST) : Option ((String ⊕ Int32) × ST) := ox (F_174 S) (fun w1 w1s => ob (F_25 3 w1s) (fun w2 => some (.inr (if 0 ≤ w2 then w2 else 0 - w2), w1s)))
set_option maxRecDepth 20000 in
theorem S_123 {d : Nat} {S : ST} {r} (hr : F_123 S = some r) : Cal XC (d + 2) 123 [.ref 0] S (RXx vI r) := by
  unfold F_123 at hr
  refine cal_go 0 rfl ?_
  refine go_run mm_123 1 (pc' := 1) (ls' := [some (.ref 0)]) (st' := [.ref 0]) (S' := S) rfl ?_
  rcases ox_some hr with ⟨E9, S9, hw1, rfl⟩ | ⟨w1, w1s, hw1, hr⟩
  · exact go_cvX mm_123 rfl (h := 0) (As := []) (rest := []) (nl := 1) rfl rfl (show cvOK 123 1 155 174 0 1 10 = true by decide +kernel) rfl rfl rfl (S_174 hw1) (KX_E ⟨rfl, rfl, rfl⟩)
  refine go_cvX mm_123 rfl (h := 0) (As := []) (rest := []) (nl := 1) rfl rfl (show cvOK 123 1 155 174 0 1 10 = true by decide +kernel) rfl rfl rfl (S_174 hw1) (KX_R ?_)
  show Go XC (d + 2) 123 0 4 [some (.ref 0)] [] w1s (RXx vI r)
  refine go_run mm_123 2 (pc' := 8) (ls' := [some (.ref 0)]) (st' := [.ref 3]) (S' := w1s) rfl ?_
  obtain ⟨w2, hw2, hr⟩ := ob_some hr
  refine go_cs mm_123 (av := [.ref 3]) (rest := []) (nl := 4) rfl (show csOK 123 8 168 25 1 4 = true by decide +kernel) rfl rfl rfl (S_25 (plB_ok rfl) hw2) (KP_V ?_)
  show Go XC (d + 2) 123 0 11 [some (.ref 0)] [.int w2] w1s (RXx vI r)
  refine go_mm (pc' := 14) (st' := [.int (if 0 ≤ w2 then w2 else 0 - w2)]) (fun lv σ => rfl) ?_
  show Go XC (d + 2) 123 0 14 [some (.ref 0)] [.int (if 0 ≤ w2 then w2 else 0 - w2)] w1s (RXx vI r)
  cases hr
  exact go_ireturn mm_123 rfl rfl ⟨rfl, rfl, rfl⟩

theorem mm_124 : mtG 124 = some (mi_124, 11, ft_124) := rfl
def F_124 (S : ST) : Option ((String ⊕ Int32) × ST) := ox (F_174 S) (fun w1 w1s => ob (F_26 3 w1s) (fun w2 => some (.inr w2, w1s)))
set_option maxRecDepth 20000 in
theorem S_124 {d : Nat} {S : ST} {r} (hr : F_124 S = some r) : Cal XC (d + 3) 124 [.ref 0] S (RXx vI r) := by
  unfold F_124 at hr
  refine cal_go 0 rfl ?_
  refine go_run mm_124 1 (pc' := 1) (ls' := [some (.ref 0)]) (st' := [.ref 0]) (S' := S) rfl ?_
  rcases ox_some hr with ⟨E9, S9, hw1, rfl⟩ | ⟨w1, w1s, hw1, hr⟩
  · exact go_cvX mm_124 rfl (h := 0) (As := []) (rest := []) (nl := 1) rfl rfl (show cvOK 124 1 155 174 0 1 10 = true by decide +kernel) rfl rfl rfl (S_174 hw1) (KX_E ⟨rfl, rfl, rfl⟩)
  refine go_cvX mm_124 rfl (h := 0) (As := []) (rest := []) (nl := 1) rfl rfl (show cvOK 124 1 155 174 0 1 10 = true by decide +kernel) rfl rfl rfl (S_174 hw1) (KX_R ?_)
  show Go XC (d + 3) 124 0 4 [some (.ref 0)] [] w1s (RXx vI r)
  refine go_run mm_124 2 (pc' := 8) (ls' := [some (.ref 0)]) (st' := [.ref 3]) (S' := w1s) rfl ?_
  obtain ⟨w2, hw2, hr⟩ := ob_some hr
  refine go_cs mm_124 (av := [.ref 3]) (rest := []) (nl := 5) rfl (show csOK 124 8 179 26 1 5 = true by decide +kernel) rfl rfl rfl (S_26 (plB_ok rfl) hw2) (KP_V ?_)
  show Go XC (d + 3) 124 0 11 [some (.ref 0)] [.int w2] w1s (RXx vI r)
  cases hr
  exact go_ireturn mm_124 rfl rfl ⟨rfl, rfl, rfl⟩

theorem mm_125 : mtG 125 = some (mi_125, 11, ft_125) := rfl
def F_125 (S : ST) : Int32 := S.1 21 0
set_option maxRecDepth 20000 in
theorem S_125 {d : Nat} {S : ST} {r} (hr : F_125 S = r) : Cal XC d 125 [.ref 0] S (RV (vI r) S) := by
  unfold F_125 at hr
  refine cal_go 0 rfl ?_
  refine go_run mm_125 3 (pc' := 7) (ls' := [some (.ref 0)]) (st' := [.int (S.1 21 0)]) (S' := S) rfl ?_
  cases hr
  exact go_ireturn mm_125 rfl rfl ⟨rfl, rfl, rfl⟩
