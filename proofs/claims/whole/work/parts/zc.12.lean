/-! methods as functions (printed by a program): 86 withoutDominated, 88 leastSeeing, 85 largestHidden, 84 mostHidden, 89 forget, 90 cornerOf, 91 areaOf, 92 colourOf, 94 colourSet, 93 rarestColourSet, 97 ringAt -/
theorem mm_86 : mtG 86 = some (mi_86, 8, ft_86) := rfl
def L_86_5 (v1 : Int64) (S : ST) (a5 : Int64 × Int32) : Option ((Int64 × Int32) ⊕ (Int64 × Int32)) := if a5.2 < 64 then (if (F_177 a5.1 a5.2) = true then (ob (F_87 a5.2 a5.1 S) (fun w1 => if w1 = true then (some (.inl (a5.1 &&& ((1 <<< (Int32.toInt64 a5.2 &&& 63)) ^^^ (-1)), a5.2 + 1))) else (some (.inl (a5.1, a5.2 + 1))))) else (some (.inl (a5.1, a5.2 + 1)))) else (some (.inr (a5.1, a5.2)))
set_option maxRecDepth 20000 in
theorem LS_86_5 {d : Nat} {R : RT} {S : ST} {v1 : Int64} {a5 : Int64 × Int32} {r9} (hr : L_86_5 v1 S a5 = some r9) (hL : ∀ a9, r9 = .inl a9 → (fun a5 => Go XC (d + 2) 86 0 5 [some (.ref 43), some (.long v1), none, some (.long a5.1), none, some (.int a5.2)] [] S R) a9) (hR : ∀ b9, r9 = .inr b9 → (fun e5 => Go XC (d + 2) 86 0 48 [some (.ref 43), some (.long v1), none, some (.long e5.1), none, some (.int e5.2)] [] S R) b9) : Go XC (d + 2) 86 0 5 [some (.ref 43), some (.long v1), none, some (.long a5.1), none, some (.int a5.2)] [] S R := by
  unfold L_86_5 at hr
  refine go_run mm_86 2 (pc' := 9) (ls' := [some (.ref 43), some (.long v1), none, some (.long a5.1), none, some (.int a5.2)]) (st' := [.int 64, .int a5.2]) (S' := S) rfl ?_
  refine go_if2 mm_86 rfl (p1 := 12) (p2 := 48) rfl (fun (hc1 : a5.2 < 64) => ?_) (fun (hc1 : ¬ a5.2 < 64) => ?_)
  · rw [if_pos hc1] at hr
    refine go_run mm_86 2 (pc' := 15) (ls' := [some (.ref 43), some (.long v1), none, some (.long a5.1), none, some (.int a5.2)]) (st' := [.int a5.2, .long a5.1]) (S' := S) rfl ?_
    refine go_cs mm_86 (av := [.long a5.1, .int a5.2]) (rest := []) (nl := 3) rfl (show csOK 86 15 48 177 2 3 = true by decide +kernel) rfl rfl rfl (S_177 rfl) (KP_V ?_)
    show Go XC (d + 2) 86 0 18 [some (.ref 43), some (.long v1), none, some (.long a5.1), none, some (.int a5.2)] [.int (b2i (F_177 a5.1 a5.2))] S R
    refine go_ifb mm_86 rfl (p1 := 21) (p2 := 42) rfl (fun (hc2 : (F_177 a5.1 a5.2) = true) => ?_) (fun (hc2 : (F_177 a5.1 a5.2) = false) => ?_)
    · rw [if_pos hc2] at hr
      refine go_run mm_86 3 (pc' := 25) (ls' := [some (.ref 43), some (.long v1), none, some (.long a5.1), none, some (.int a5.2)]) (st' := [.long a5.1, .int a5.2, .ref 43]) (S' := S) rfl ?_
      obtain ⟨w1, hw1, hr⟩ := ob_some hr
      refine go_cv mm_86 (h := 43) (As := [.int a5.2, .long a5.1]) (rest := []) (nl := 5) rfl rfl (show cvOK 86 25 76 87 2 5 7 = true by decide +kernel) rfl rfl rfl (S_87 hw1) (KP_V ?_)
      show Go XC (d + 2) 86 0 28 [some (.ref 43), some (.long v1), none, some (.long a5.1), none, some (.int a5.2)] [.int (b2i w1)] S R
      refine go_ifb mm_86 rfl (p1 := 31) (p2 := 42) rfl (fun (hc3 : w1 = true) => ?_) (fun (hc3 : w1 = false) => ?_)
      · rw [if_pos hc3] at hr
        refine go_run mm_86 10 (pc' := 5) (ls' := [some (.ref 43), some (.long v1), none, some (.long (a5.1 &&& ((1 <<< (Int32.toInt64 a5.2 &&& 63)) ^^^ (-1)))), none, some (.int (a5.2 + 1))]) (st' := []) (S' := S) rfl ?_
        cases hr
        have h9 := hL (a5.1 &&& ((1 <<< (Int32.toInt64 a5.2 &&& 63)) ^^^ (-1)), a5.2 + 1) rfl
        dsimp only at h9
        exact Go.le h9 (by repeat first | exact True.intro | refine And.intro rfl ?_)
      · rw [if_neg (bf hc3)] at hr
        refine go_run mm_86 2 (pc' := 5) (ls' := [some (.ref 43), some (.long v1), none, some (.long a5.1), none, some (.int (a5.2 + 1))]) (st' := []) (S' := S) rfl ?_
        cases hr
        have h9 := hL (a5.1, a5.2 + 1) rfl
        dsimp only at h9
        exact Go.le h9 (by repeat first | exact True.intro | refine And.intro rfl ?_)
    · rw [if_neg (bf hc2)] at hr
      refine go_run mm_86 2 (pc' := 5) (ls' := [some (.ref 43), some (.long v1), none, some (.long a5.1), none, some (.int (a5.2 + 1))]) (st' := []) (S' := S) rfl ?_
      cases hr
      have h9 := hL (a5.1, a5.2 + 1) rfl
      dsimp only at h9
      exact Go.le h9 (by repeat first | exact True.intro | refine And.intro rfl ?_)
  · rw [if_neg hc1] at hr
    cases hr
    have h9 := hR (a5.1, a5.2) rfl
    dsimp only [Sum.elim_inl] at h9
    exact Go.le h9 (by repeat first | exact True.intro | refine And.intro rfl ?_)
def F_86 (v1 : Int64) (S : ST) : Option Int64 := ob (wh FU (L_86_5 v1 S) (v1, 0)) (fun e5 => some e5.1)
set_option maxRecDepth 20000 in
theorem S_86 {d : Nat} {S : ST} {v1 : Int64} {r} (hr : F_86 v1 S = some r) : Cal XC (d + 2) 86 [.ref 43, .long v1] S (RV (vJ r) S) := by
  unfold F_86 at hr
  refine cal_go 3 rfl ?_
  refine go_run mm_86 4 (pc' := 5) (ls' := [some (.ref 43), some (.long v1), none, some (.long v1), none, some (.int 0)]) (st' := []) (S' := S) rfl ?_
  obtain ⟨z5, he5, hr⟩ := ob_some hr
  refine Go.le (ls' := [some (.ref 43), some (.long v1), none, some (.long v1), none, some (.int 0)]) ?_ (by repeat first | exact True.intro | refine And.intro rfl ?_)
  refine wh_go (P := fun a5 => Go XC (d + 2) 86 0 5 [some (.ref 43), some (.long v1), none, some (.long a5.1), none, some (.int a5.2)] [] S (RV (vJ r) S)) (K := fun e5 => Go XC (d + 2) 86 0 48 [some (.ref 43), some (.long v1), none, some (.long e5.1), none, some (.int e5.2)] [] S (RV (vJ r) S)) (fun a9 r9 h9 hL hR => LS_86_5 h9 hL hR) _ _ _ he5 ?_
  generalize z5 = e5 at hr
  show Go XC (d + 2) 86 0 48 [some (.ref 43), some (.long v1), none, some (.long e5.1), none, some (.int e5.2)] [] S (RV (vJ r) S)
  refine go_run mm_86 1 (pc' := 49) (ls' := [some (.ref 43), some (.long v1), none, some (.long e5.1), none, some (.int e5.2)]) (st' := [.long e5.1]) (S' := S) rfl ?_
  cases hr
  exact go_lreturn mm_86 rfl rfl ⟨rfl, rfl, rfl⟩

theorem mm_88 : mtG 88 = some (mi_88, 8, ft_88) := rfl
def L_88_9 (v1 : Int64) (S : ST) (a9 : Int32 × Int32 × Int32) : Option ((Int32 × Int32 × Int32) ⊕ (Int32 × Int32 × Int32)) := if a9.2.2 < 64 then (if (F_177 v1 a9.2.2) = true then (ob (F_73 a9.2.2 S) (fun w1 => if (F_366 (w1 &&& v1)) < a9.2.1 then (ob (F_73 a9.2.2 S) (fun w2 => some (.inl (a9.2.2, (F_366 (w2 &&& v1)), a9.2.2 + 1)))) else (some (.inl (a9.1, a9.2.1, a9.2.2 + 1))))) else (some (.inl (a9.1, a9.2.1, a9.2.2 + 1)))) else (some (.inr (a9.1, a9.2.1, a9.2.2)))
set_option maxRecDepth 20000 in
theorem LS_88_9 {d : Nat} {R : RT} {S : ST} {v1 : Int64} {a9 : Int32 × Int32 × Int32} {r9} (hr : L_88_9 v1 S a9 = some r9) (hL : ∀ a9, r9 = .inl a9 → (fun a9 => Go XC (d + 1) 88 0 9 [some (.ref 43), some (.long v1), none, some (.int a9.1), some (.int a9.2.1), some (.int a9.2.2)] [] S R) a9) (hR : ∀ b9, r9 = .inr b9 → (fun e9 => Go XC (d + 1) 88 0 69 [some (.ref 43), some (.long v1), none, some (.int e9.1), some (.int e9.2.1), some (.int e9.2.2)] [] S R) b9) : Go XC (d + 1) 88 0 9 [some (.ref 43), some (.long v1), none, some (.int a9.1), some (.int a9.2.1), some (.int a9.2.2)] [] S R := by
  unfold L_88_9 at hr
  refine go_run mm_88 2 (pc' := 13) (ls' := [some (.ref 43), some (.long v1), none, some (.int a9.1), some (.int a9.2.1), some (.int a9.2.2)]) (st' := [.int 64, .int a9.2.2]) (S' := S) rfl ?_
  refine go_if2 mm_88 rfl (p1 := 16) (p2 := 69) rfl (fun (hc1 : a9.2.2 < 64) => ?_) (fun (hc1 : ¬ a9.2.2 < 64) => ?_)
  · rw [if_pos hc1] at hr
    refine go_run mm_88 2 (pc' := 19) (ls' := [some (.ref 43), some (.long v1), none, some (.int a9.1), some (.int a9.2.1), some (.int a9.2.2)]) (st' := [.int a9.2.2, .long v1]) (S' := S) rfl ?_
    refine go_cs mm_88 (av := [.long v1, .int a9.2.2]) (rest := []) (nl := 3) rfl (show csOK 88 19 48 177 2 3 = true by decide +kernel) rfl rfl rfl (S_177 rfl) (KP_V ?_)
    show Go XC (d + 1) 88 0 22 [some (.ref 43), some (.long v1), none, some (.int a9.1), some (.int a9.2.1), some (.int a9.2.2)] [.int (b2i (F_177 v1 a9.2.2))] S R
    refine go_ifb mm_88 rfl (p1 := 25) (p2 := 63) rfl (fun (hc2 : (F_177 v1 a9.2.2) = true) => ?_) (fun (hc2 : (F_177 v1 a9.2.2) = false) => ?_)
    · rw [if_pos hc2] at hr
      refine go_run mm_88 3 (pc' := 31) (ls' := [some (.ref 43), some (.long v1), none, some (.int a9.1), some (.int a9.2.1), some (.int a9.2.2)]) (st' := [.int a9.2.2, .ref 30]) (S' := S) rfl ?_
      obtain ⟨w1, hw1, hr⟩ := ob_some hr
      refine go_cv mm_88 (h := 30) (As := [.int a9.2.2]) (rest := []) (nl := 2) rfl rfl (show cvOK 88 31 30 73 1 2 6 = true by decide +kernel) rfl rfl rfl (S_73 hw1) (KP_V ?_)
      show Go XC (d + 1) 88 0 34 [some (.ref 43), some (.long v1), none, some (.int a9.1), some (.int a9.2.1), some (.int a9.2.2)] [.long w1] S R
      refine go_run mm_88 2 (pc' := 36) (ls' := [some (.ref 43), some (.long v1), none, some (.int a9.1), some (.int a9.2.1), some (.int a9.2.2)]) (st' := [.long (w1 &&& v1)]) (S' := S) rfl ?_
      refine go_cs mm_88 (av := [.long (w1 &&& v1)]) (rest := []) (nl := 2) rfl (show csOK 88 36 52 366 1 2 = true by decide +kernel) rfl rfl rfl (S_366 rfl) (KP_V ?_)
      show Go XC (d + 1) 88 0 39 [some (.ref 43), some (.long v1), none, some (.int a9.1), some (.int a9.2.1), some (.int a9.2.2)] [.int (F_366 (w1 &&& v1))] S R
      refine go_run mm_88 1 (pc' := 41) (ls' := [some (.ref 43), some (.long v1), none, some (.int a9.1), some (.int a9.2.1), some (.int a9.2.2)]) (st' := [.int a9.2.1, .int (F_366 (w1 &&& v1))]) (S' := S) rfl ?_
      refine go_if2 mm_88 rfl (p1 := 44) (p2 := 63) rfl (fun (hc3 : (F_366 (w1 &&& v1)) < a9.2.1) => ?_) (fun (hc3 : ¬ (F_366 (w1 &&& v1)) < a9.2.1) => ?_)
      · rw [if_pos hc3] at hr
        refine go_run mm_88 3 (pc' := 50) (ls' := [some (.ref 43), some (.long v1), none, some (.int a9.1), some (.int a9.2.1), some (.int a9.2.2)]) (st' := [.int a9.2.2, .ref 30]) (S' := S) rfl ?_
        obtain ⟨w2, hw2, hr⟩ := ob_some hr
        refine go_cv mm_88 (h := 30) (As := [.int a9.2.2]) (rest := []) (nl := 2) rfl rfl (show cvOK 88 50 30 73 1 2 6 = true by decide +kernel) rfl rfl rfl (S_73 hw2) (KP_V ?_)
        show Go XC (d + 1) 88 0 53 [some (.ref 43), some (.long v1), none, some (.int a9.1), some (.int a9.2.1), some (.int a9.2.2)] [.long w2] S R
        refine go_run mm_88 2 (pc' := 55) (ls' := [some (.ref 43), some (.long v1), none, some (.int a9.1), some (.int a9.2.1), some (.int a9.2.2)]) (st' := [.long (w2 &&& v1)]) (S' := S) rfl ?_
        refine go_cs mm_88 (av := [.long (w2 &&& v1)]) (rest := []) (nl := 2) rfl (show csOK 88 55 52 366 1 2 = true by decide +kernel) rfl rfl rfl (S_366 rfl) (KP_V ?_)
        show Go XC (d + 1) 88 0 58 [some (.ref 43), some (.long v1), none, some (.int a9.1), some (.int a9.2.1), some (.int a9.2.2)] [.int (F_366 (w2 &&& v1))] S R
        refine go_run mm_88 5 (pc' := 9) (ls' := [some (.ref 43), some (.long v1), none, some (.int a9.2.2), some (.int (F_366 (w2 &&& v1))), some (.int (a9.2.2 + 1))]) (st' := []) (S' := S) rfl ?_
        cases hr
        have h9 := hL (a9.2.2, (F_366 (w2 &&& v1)), a9.2.2 + 1) rfl
        dsimp only at h9
        exact Go.le h9 (by repeat first | exact True.intro | refine And.intro rfl ?_)
      · rw [if_neg hc3] at hr
        refine go_run mm_88 2 (pc' := 9) (ls' := [some (.ref 43), some (.long v1), none, some (.int a9.1), some (.int a9.2.1), some (.int (a9.2.2 + 1))]) (st' := []) (S' := S) rfl ?_
        cases hr
        have h9 := hL (a9.1, a9.2.1, a9.2.2 + 1) rfl
        dsimp only at h9
        exact Go.le h9 (by repeat first | exact True.intro | refine And.intro rfl ?_)
    · rw [if_neg (bf hc2)] at hr
      refine go_run mm_88 2 (pc' := 9) (ls' := [some (.ref 43), some (.long v1), none, some (.int a9.1), some (.int a9.2.1), some (.int (a9.2.2 + 1))]) (st' := []) (S' := S) rfl ?_
      cases hr
      have h9 := hL (a9.1, a9.2.1, a9.2.2 + 1) rfl
      dsimp only at h9
      exact Go.le h9 (by repeat first | exact True.intro | refine And.intro rfl ?_)
  · rw [if_neg hc1] at hr
    cases hr
    have h9 := hR (a9.1, a9.2.1, a9.2.2) rfl
    dsimp only [Sum.elim_inl] at h9
    exact Go.le h9 (by repeat first | exact True.intro | refine And.intro rfl ?_)
def F_88 (v1 : Int64) (S : ST) : Option Int32 := ob (wh FU (L_88_9 v1 S) ((-1), 65, 0)) (fun e9 => some e9.1)
set_option maxRecDepth 20000 in
theorem S_88 {d : Nat} {S : ST} {v1 : Int64} {r} (hr : F_88 v1 S = some r) : Cal XC (d + 1) 88 [.ref 43, .long v1] S (RV (vI r) S) := by
  unfold F_88 at hr
  refine cal_go 3 rfl ?_
  refine go_run mm_88 6 (pc' := 9) (ls' := [some (.ref 43), some (.long v1), none, some (.int (-1)), some (.int 65), some (.int 0)]) (st' := []) (S' := S) rfl ?_
  obtain ⟨z9, he9, hr⟩ := ob_some hr
  refine Go.le (ls' := [some (.ref 43), some (.long v1), none, some (.int (-1)), some (.int 65), some (.int 0)]) ?_ (by repeat first | exact True.intro | refine And.intro rfl ?_)
  refine wh_go (P := fun a9 => Go XC (d + 1) 88 0 9 [some (.ref 43), some (.long v1), none, some (.int a9.1), some (.int a9.2.1), some (.int a9.2.2)] [] S (RV (vI r) S)) (K := fun e9 => Go XC (d + 1) 88 0 69 [some (.ref 43), some (.long v1), none, some (.int e9.1), some (.int e9.2.1), some (.int e9.2.2)] [] S (RV (vI r) S)) (fun a9 r9 h9 hL hR => LS_88_9 h9 hL hR) _ _ _ he9 ?_
  generalize z9 = e9 at hr
  show Go XC (d + 1) 88 0 69 [some (.ref 43), some (.long v1), none, some (.int e9.1), some (.int e9.2.1), some (.int e9.2.2)] [] S (RV (vI r) S)
  refine go_run mm_88 1 (pc' := 70) (ls' := [some (.ref 43), some (.long v1), none, some (.int e9.1), some (.int e9.2.1), some (.int e9.2.2)]) (st' := [.int e9.1]) (S' := S) rfl ?_
  cases hr
  exact go_ireturn mm_88 rfl rfl ⟨rfl, rfl, rfl⟩

theorem mm_85 : mtG 85 = some (mi_85, 8, ft_85) := rfl
def L_85_45 (rec : Int64 → Int32 → ST → Option Int32) (v1 : Int64) (v3 : Int32) (p45_4 : Int64) (p45_6 : Int64) (S : ST) (a45 : Int32 × Int32) : Option ((Int32 × Int32) ⊕ (Int32 × Int32)) := if a45.2 < 64 then (if (F_177 p45_6 a45.2) = true then (ob (F_73 a45.2 S) (fun w4 => ob (rec (p45_4 &&& (w4 ^^^ (-1))) (v3 + 1) S) (fun w5 => some (.inl ((if a45.1 < (1 + w5) then (1 + w5) else a45.1), a45.2 + 1))))) else (some (.inl (a45.1, a45.2 + 1)))) else (some (.inr (a45.1, a45.2)))
set_option maxRecDepth 20000 in
theorem LS_85_45 {d : Nat} {R : RT} {S : ST} {rec : Int64 → Int32 → ST → Option Int32} {v1 : Int64} {v3 : Int32} {p45_4 : Int64} {p45_6 : Int64} {a45 : Int32 × Int32} {r9} (hrec : ∀ {v1 : Int64} {v3 : Int32} {S : ST} {r}, rec v1 v3 S = some r → Cal XC (d + 2) 85 [.ref 43, .long v1, .int v3] S (RV (vI r) S)) (hr : L_85_45 rec v1 v3 p45_4 p45_6 S a45 = some r9) (hL : ∀ a9, r9 = .inl a9 → (fun a45 => Go XC (d + 3) 85 0 45 [some (.ref 43), some (.long v1), none, some (.int v3), some (.long p45_4), none, some (.long p45_6), none, some (.int a45.1), some (.int a45.2)] [] S R) a9) (hR : ∀ b9, r9 = .inr b9 → (fun e45 => Go XC (d + 3) 85 0 100 [some (.ref 43), some (.long v1), none, some (.int v3), some (.long p45_4), none, some (.long p45_6), none, some (.int e45.1), some (.int e45.2)] [] S R) b9) : Go XC (d + 3) 85 0 45 [some (.ref 43), some (.long v1), none, some (.int v3), some (.long p45_4), none, some (.long p45_6), none, some (.int a45.1), some (.int a45.2)] [] S R := by
  unfold L_85_45 at hr
  refine go_run mm_85 2 (pc' := 49) (ls' := [some (.ref 43), some (.long v1), none, some (.int v3), some (.long p45_4), none, some (.long p45_6), none, some (.int a45.1), some (.int a45.2)]) (st' := [.int 64, .int a45.2]) (S' := S) rfl ?_
  refine go_if2 mm_85 rfl (p1 := 52) (p2 := 100) rfl (fun (hc3 : a45.2 < 64) => ?_) (fun (hc3 : ¬ a45.2 < 64) => ?_)
  · rw [if_pos hc3] at hr
    refine go_run mm_85 2 (pc' := 56) (ls' := [some (.ref 43), some (.long v1), none, some (.int v3), some (.long p45_4), none, some (.long p45_6), none, some (.int a45.1), some (.int a45.2)]) (st' := [.int a45.2, .long p45_6]) (S' := S) rfl ?_
    refine go_cs mm_85 (av := [.long p45_6, .int a45.2]) (rest := []) (nl := 3) rfl (show csOK 85 56 48 177 2 3 = true by decide +kernel) rfl rfl rfl (S_177 rfl) (KP_V ?_)
    show Go XC (d + 3) 85 0 59 [some (.ref 43), some (.long v1), none, some (.int v3), some (.long p45_4), none, some (.long p45_6), none, some (.int a45.1), some (.int a45.2)] [.int (b2i (F_177 p45_6 a45.2))] S R
    refine go_ifb mm_85 rfl (p1 := 62) (p2 := 94) rfl (fun (hc4 : (F_177 p45_6 a45.2) = true) => ?_) (fun (hc4 : (F_177 p45_6 a45.2) = false) => ?_)
    · rw [if_pos hc4] at hr
      refine go_run mm_85 7 (pc' := 74) (ls' := [some (.ref 43), some (.long v1), none, some (.int v3), some (.long p45_4), none, some (.long p45_6), none, some (.int a45.1), some (.int a45.2)]) (st' := [.int a45.2, .ref 30, .long p45_4, .ref 43, .int 1, .int a45.1]) (S' := S) rfl ?_
      obtain ⟨w4, hw4, hr⟩ := ob_some hr
      refine go_cv mm_85 (h := 30) (As := [.int a45.2]) (rest := [.long p45_4, .ref 43, .int 1, .int a45.1]) (nl := 2) rfl rfl (show cvOK 85 74 30 73 1 2 6 = true by decide +kernel) rfl rfl rfl (S_73 hw4) (KP_V ?_)
      show Go XC (d + 3) 85 0 77 [some (.ref 43), some (.long v1), none, some (.int v3), some (.long p45_4), none, some (.long p45_6), none, some (.int a45.1), some (.int a45.2)] [.long w4, .long p45_4, .ref 43, .int 1, .int a45.1] S R
      refine go_run mm_85 6 (pc' := 85) (ls' := [some (.ref 43), some (.long v1), none, some (.int v3), some (.long p45_4), none, some (.long p45_6), none, some (.int a45.1), some (.int a45.2)]) (st' := [.int (v3 + 1), .long (p45_4 &&& (w4 ^^^ (-1))), .ref 43, .int 1, .int a45.1]) (S' := S) rfl ?_
      obtain ⟨w5, hw5, hr⟩ := ob_some hr
      refine go_cv mm_85 (h := 43) (As := [.long (p45_4 &&& (w4 ^^^ (-1))), .int (v3 + 1)]) (rest := [.int 1, .int a45.1]) (nl := 10) rfl rfl (show cvOK 85 85 60 85 2 10 7 = true by decide +kernel) rfl rfl rfl (Cal.up (hrec hw5) (Nat.le_refl _)) (KP_V ?_)
      show Go XC (d + 3) 85 0 88 [some (.ref 43), some (.long v1), none, some (.int v3), some (.long p45_4), none, some (.long p45_6), none, some (.int a45.1), some (.int a45.2)] [.int w5, .int 1, .int a45.1] S R
      refine go_run mm_85 1 (pc' := 89) (ls' := [some (.ref 43), some (.long v1), none, some (.int v3), some (.long p45_4), none, some (.long p45_6), none, some (.int a45.1), some (.int a45.2)]) (st' := [.int (1 + w5), .int a45.1]) (S' := S) rfl ?_
      refine go_mm (pc' := 92) (st' := [.int (if a45.1 < (1 + w5) then (1 + w5) else a45.1)]) (fun lv σ => rfl) ?_
      show Go XC (d + 3) 85 0 92 [some (.ref 43), some (.long v1), none, some (.int v3), some (.long p45_4), none, some (.long p45_6), none, some (.int a45.1), some (.int a45.2)] [.int (if a45.1 < (1 + w5) then (1 + w5) else a45.1)] S R
      refine go_run mm_85 3 (pc' := 45) (ls' := [some (.ref 43), some (.long v1), none, some (.int v3), some (.long p45_4), none, some (.long p45_6), none, some (.int (if a45.1 < (1 + w5) then (1 + w5) else a45.1)), some (.int (a45.2 + 1))]) (st' := []) (S' := S) rfl ?_
      cases hr
      have h9 := hL ((if a45.1 < (1 + w5) then (1 + w5) else a45.1), a45.2 + 1) rfl
      dsimp only at h9
      exact Go.le h9 (by repeat first | exact True.intro | refine And.intro rfl ?_)
    · rw [if_neg (bf hc4)] at hr
      refine go_run mm_85 2 (pc' := 45) (ls' := [some (.ref 43), some (.long v1), none, some (.int v3), some (.long p45_4), none, some (.long p45_6), none, some (.int a45.1), some (.int (a45.2 + 1))]) (st' := []) (S' := S) rfl ?_
      cases hr
      have h9 := hL (a45.1, a45.2 + 1) rfl
      dsimp only at h9
      exact Go.le h9 (by repeat first | exact True.intro | refine And.intro rfl ?_)
  · rw [if_neg hc3] at hr
    cases hr
    have h9 := hR (a45.1, a45.2) rfl
    dsimp only [Sum.elim_inl] at h9
    exact Go.le h9 (by repeat first | exact True.intro | refine And.intro rfl ?_)
def B_85 (rec : Int64 → Int32 → ST → Option Int32) (v1 : Int64) (v3 : Int32) (S : ST) : Option Int32 := if v1 = 0 then (some 0) else (if v3 < 12 then (ob (F_86 v1 S) (fun w1 => ob (F_88 w1 S) (fun w2 => ob (F_73 w2 S) (fun w3 => ob (wh FU (L_85_45 rec v1 v3 w1 (w3 &&& w1) S) (0, 0)) (fun e45 => some e45.1))))) else (some 0))
def F_85 : Nat → Int64 → Int32 → ST → Option Int32
  | 0, _, _ => fun _ => none
  | n + 1, v1, v3 => fun S => B_85 (F_85 n) v1 v3 S
set_option maxRecDepth 20000 in
theorem S_85 : ∀ (n : Nat) {d : Nat} {v1 : Int64} {v3 : Int32} {S : ST} {r} (_ : F_85 n v1 v3 S = some r), Cal XC (d + n + 3) 85 [.ref 43, .long v1, .int v3] S (RV (vI r) S) := by
  intro n
  induction n with
  | zero => intro d v1 v3 S r hr; cases hr
  | succ n ih =>
    intro d v1 v3 S r hr
    have hr : B_85 (F_85 n) v1 v3 S = some r := hr
    unfold B_85 at hr
    have hrec : ∀ {v1 : Int64} {v3 : Int32} {S : ST} {r}, F_85 n v1 v3 S = some r → Cal XC (d + (n + 1) + 2) 85 [.ref 43, .long v1, .int v3] S (RV (vI r) S) := fun h => Cal.up (ih (d := d) h) (Nat.le_of_eq (by omega))
    refine cal_go 6 rfl ?_
    refine go_run mm_85 2 (pc' := 2) (ls' := [some (.ref 43), some (.long v1), none, some (.int v3), none, none, none, none, none, none]) (st' := [.long 0, .long v1]) (S' := S) rfl ?_
    refine go_lif mm_85 rfl rfl (p1 := 12) (p2 := 6) rfl (fun (hc1 : v1 = 0) => ?_) (fun (hc1 : ¬ v1 = 0) => ?_)
    · rw [if_pos hc1] at hr
      refine go_run mm_85 1 (pc' := 13) (ls' := [some (.ref 43), some (.long v1), none, some (.int v3), none, none, none, none, none, none]) (st' := [.int 0]) (S' := S) rfl ?_
      cases hr
      exact go_ireturn mm_85 rfl rfl ⟨rfl, rfl, rfl⟩
    · rw [if_neg hc1] at hr
      refine go_run mm_85 2 (pc' := 9) (ls' := [some (.ref 43), some (.long v1), none, some (.int v3), none, none, none, none, none, none]) (st' := [.int 12, .int v3]) (S' := S) rfl ?_
      refine go_if2 mm_85 rfl (p1 := 14) (p2 := 12) rfl (fun (hc2 : v3 < 12) => ?_) (fun (hc2 : ¬ v3 < 12) => ?_)
      · rw [if_pos hc2] at hr
        refine go_run mm_85 2 (pc' := 16) (ls' := [some (.ref 43), some (.long v1), none, some (.int v3), none, none, none, none, none, none]) (st' := [.long v1, .ref 43]) (S' := S) rfl ?_
        obtain ⟨w1, hw1, hr⟩ := ob_some hr
        refine go_cv mm_85 (h := 43) (As := [.long v1]) (rest := []) (nl := 6) rfl rfl (show cvOK 85 16 64 86 1 6 7 = true by decide +kernel) rfl rfl rfl (S_86 hw1) (KP_V ?_)
        show Go XC (d + (n + 1) + 3) 85 0 19 [some (.ref 43), some (.long v1), none, some (.int v3), none, none, none, none, none, none] [.long w1] S (RV (vI r) S)
        refine go_run mm_85 5 (pc' := 28) (ls' := [some (.ref 43), some (.long v1), none, some (.int v3), some (.long w1), none, none, none, none, none]) (st' := [.long w1, .ref 43, .ref 30]) (S' := S) rfl ?_
        obtain ⟨w2, hw2, hr⟩ := ob_some hr
        refine go_cv mm_85 (h := 43) (As := [.long w1]) (rest := [.ref 30]) (nl := 6) rfl rfl (show cvOK 85 28 67 88 1 6 7 = true by decide +kernel) rfl rfl rfl (S_88 hw2) (KP_V ?_)
        show Go XC (d + (n + 1) + 3) 85 0 31 [some (.ref 43), some (.long v1), none, some (.int v3), some (.long w1), none, none, none, none, none] [.int w2, .ref 30] S (RV (vI r) S)
        obtain ⟨w3, hw3, hr⟩ := ob_some hr
        refine go_cv mm_85 (h := 30) (As := [.int w2]) (rest := []) (nl := 2) rfl rfl (show cvOK 85 31 30 73 1 2 6 = true by decide +kernel) rfl rfl rfl (S_73 hw3) (KP_V ?_)
        show Go XC (d + (n + 1) + 3) 85 0 34 [some (.ref 43), some (.long v1), none, some (.int v3), some (.long w1), none, none, none, none, none] [.long w3] S (RV (vI r) S)
        refine go_run mm_85 7 (pc' := 45) (ls' := [some (.ref 43), some (.long v1), none, some (.int v3), some (.long w1), none, some (.long (w3 &&& w1)), none, some (.int 0), some (.int 0)]) (st' := []) (S' := S) rfl ?_
        obtain ⟨z45, he45, hr⟩ := ob_some hr
        refine Go.le (ls' := [some (.ref 43), some (.long v1), none, some (.int v3), some (.long w1), none, some (.long (w3 &&& w1)), none, some (.int 0), some (.int 0)]) ?_ (by repeat first | exact True.intro | refine And.intro rfl ?_)
        refine wh_go (P := fun a45 => Go XC (d + (n + 1) + 3) 85 0 45 [some (.ref 43), some (.long v1), none, some (.int v3), some (.long w1), none, some (.long (w3 &&& w1)), none, some (.int a45.1), some (.int a45.2)] [] S (RV (vI r) S)) (K := fun e45 => Go XC (d + (n + 1) + 3) 85 0 100 [some (.ref 43), some (.long v1), none, some (.int v3), some (.long w1), none, some (.long (w3 &&& w1)), none, some (.int e45.1), some (.int e45.2)] [] S (RV (vI r) S)) (fun a9 r9 h9 hL hR => LS_85_45 hrec h9 hL hR) _ _ _ he45 ?_
        generalize z45 = e45 at hr
        show Go XC (d + (n + 1) + 3) 85 0 100 [some (.ref 43), some (.long v1), none, some (.int v3), some (.long w1), none, some (.long (w3 &&& w1)), none, some (.int e45.1), some (.int e45.2)] [] S (RV (vI r) S)
        refine go_run mm_85 1 (pc' := 102) (ls' := [some (.ref 43), some (.long v1), none, some (.int v3), some (.long w1), none, some (.long (w3 &&& w1)), none, some (.int e45.1), some (.int e45.2)]) (st' := [.int e45.1]) (S' := S) rfl ?_
        cases hr
        exact go_ireturn mm_85 rfl rfl ⟨rfl, rfl, rfl⟩
      · rw [if_neg hc2] at hr
        refine go_run mm_85 1 (pc' := 13) (ls' := [some (.ref 43), some (.long v1), none, some (.int v3), none, none, none, none, none, none]) (st' := [.int 0]) (S' := S) rfl ?_
        cases hr
        exact go_ireturn mm_85 rfl rfl ⟨rfl, rfl, rfl⟩

theorem mm_84 : mtG 84 = some (mi_84, 8, ft_84) := rfl
def F_84 (S : ST) : Option (Int32 × ST) := if (S.1 43 4) = 0 then (ob (F_85 16 (F_71 S) 0 S) (fun w1 => some (w1, (wI S 43 4 w1)))) else (some (S.1 43 4, S))
set_option maxRecDepth 20000 in
theorem S_84 {d : Nat} {S : ST} {r} (hr : F_84 S = some r) : Cal XC (d + 20) 84 [.ref 43] S (RV (vI r.1) r.2) := by
  unfold F_84 at hr
  refine cal_go 0 rfl ?_
  refine go_run mm_84 2 (pc' := 4) (ls' := [some (.ref 43)]) (st' := [.int (S.1 43 4)]) (S' := S) rfl ?_
  refine go_if0 mm_84 rfl (p1 := 7) (p2 := 23) rfl (fun (hc1 : (S.1 43 4) = 0) => ?_) (fun (hc1 : ¬ (S.1 43 4) = 0) => ?_)
  · rw [if_pos hc1] at hr
    refine go_run mm_84 4 (pc' := 13) (ls' := [some (.ref 43)]) (st' := [.ref 30, .ref 43, .ref 43]) (S' := S) rfl ?_
    refine go_cv mm_84 (h := 30) (As := []) (rest := [.ref 43, .ref 43]) (nl := 1) rfl rfl (show cvOK 84 13 40 71 0 1 6 = true by decide +kernel) rfl rfl rfl (S_71 rfl) (KP_V ?_)
    show Go XC (d + 20) 84 0 16 [some (.ref 43)] [.long (F_71 S), .ref 43, .ref 43] S (RV (vI r.1) r.2)
    refine go_run mm_84 1 (pc' := 17) (ls' := [some (.ref 43)]) (st' := [.int 0, .long (F_71 S), .ref 43, .ref 43]) (S' := S) rfl ?_
    obtain ⟨w1, hw1, hr⟩ := ob_some hr
    refine go_cv mm_84 (h := 43) (As := [.long (F_71 S), .int 0]) (rest := [.ref 43]) (nl := 10) rfl rfl (show cvOK 84 17 60 85 2 10 7 = true by decide +kernel) rfl rfl rfl (S_85 _ hw1) (KP_V ?_)
    show Go XC (d + 20) 84 0 20 [some (.ref 43)] [.int w1, .ref 43] S (RV (vI r.1) r.2)
    refine go_run mm_84 3 (pc' := 27) (ls' := [some (.ref 43)]) (st' := [.int w1]) (S' := (wI S 43 4 w1)) rfl ?_
    cases hr
    exact go_ireturn mm_84 rfl rfl ⟨rfl, rfl, rfl⟩
  · rw [if_neg hc1] at hr
    refine go_run mm_84 2 (pc' := 27) (ls' := [some (.ref 43)]) (st' := [.int (S.1 43 4)]) (S' := S) rfl ?_
    cases hr
    exact go_ireturn mm_84 rfl rfl ⟨rfl, rfl, rfl⟩

theorem mm_89 : mtG 89 = some (mi_89, 9, ft_89) := rfl
def F_89 (S : ST) : Option (Unit × ST) := some ((), (wI S 32 8 0))
set_option maxRecDepth 20000 in
theorem S_89 {d : Nat} {S : ST} {r} (hr : F_89 S = some r) : Cal XC d 89 [.ref 32] S (RV (vU r.1) r.2) := by
  unfold F_89 at hr
  refine cal_go 0 rfl ?_
  refine go_run mm_89 3 (pc' := 5) (ls' := [some (.ref 32)]) (st' := []) (S' := (wI S 32 8 0)) rfl ?_
  cases hr
  exact go_vreturn mm_89 rfl rfl ⟨rfl, rfl, rfl⟩

theorem mm_90 : mtG 90 = some (mi_90, 9, ft_90) := rfl
def F_90 (v1 : Int32) (v2 : Int32) (S : ST) : Option Int32 := if v1 < 0 then (some (-1)) else (if v1 < 10 then (if v2 = 0 then (ck (ibd v1 10) (some (S.1 34 (Int32.toNatClampNeg v1)))) else (if v2 = 1 then (ck (ibd v1 10) (some (S.1 35 (Int32.toNatClampNeg v1)))) else (ck (ibd v1 10) (some (S.1 36 (Int32.toNatClampNeg v1)))))) else (some (-1)))
set_option maxRecDepth 20000 in
theorem S_90 {d : Nat} {S : ST} {v1 : Int32} {v2 : Int32} {r} (hr : F_90 v1 v2 S = some r) : Cal XC d 90 [.ref 32, .int v1, .int v2] S (RV (vI r) S) := by
  unfold F_90 at hr
  refine cal_go 0 rfl ?_
  refine go_run mm_90 1 (pc' := 1) (ls' := [some (.ref 32), some (.int v1), some (.int v2)]) (st' := [.int v1]) (S' := S) rfl ?_
  refine go_if0 mm_90 rfl (p1 := 10) (p2 := 4) rfl (fun (hc1 : v1 < 0) => ?_) (fun (hc1 : ¬ v1 < 0) => ?_)
  · rw [if_pos hc1] at hr
    refine go_run mm_90 1 (pc' := 11) (ls' := [some (.ref 32), some (.int v1), some (.int v2)]) (st' := [.int (-1)]) (S' := S) rfl ?_
    cases hr
    exact go_ireturn mm_90 rfl rfl ⟨rfl, rfl, rfl⟩
  · rw [if_neg hc1] at hr
    refine go_run mm_90 2 (pc' := 7) (ls' := [some (.ref 32), some (.int v1), some (.int v2)]) (st' := [.int 10, .int v1]) (S' := S) rfl ?_
    refine go_if2 mm_90 rfl (p1 := 12) (p2 := 10) rfl (fun (hc2 : v1 < 10) => ?_) (fun (hc2 : ¬ v1 < 10) => ?_)
    · rw [if_pos hc2] at hr
      refine go_run mm_90 1 (pc' := 13) (ls' := [some (.ref 32), some (.int v1), some (.int v2)]) (st' := [.int v2]) (S' := S) rfl ?_
      refine go_if0 mm_90 rfl (p1 := 16) (p2 := 25) rfl (fun (hc3 : v2 = 0) => ?_) (fun (hc3 : ¬ v2 = 0) => ?_)
      · rw [if_pos hc3] at hr
        refine go_run mm_90 3 (pc' := 21) (ls' := [some (.ref 32), some (.int v1), some (.int v2)]) (st' := [.int v1, .ref 34]) (S' := S) rfl ?_
        obtain ⟨hb4, hr⟩ := ck_some hr
        refine go_iaload mm_90 (q := (Int32.toNatClampNeg v1)) rfl rfl rfl (ibd_ok hb4) ?_
        show Go XC d 90 0 22 [some (.ref 32), some (.int v1), some (.int v2)] [.int (S.1 34 (Int32.toNatClampNeg v1))] S (RV (vI r) S)
        refine go_run mm_90 1 (pc' := 45) (ls' := [some (.ref 32), some (.int v1), some (.int v2)]) (st' := [.int (S.1 34 (Int32.toNatClampNeg v1))]) (S' := S) rfl ?_
        cases hr
        exact go_ireturn mm_90 rfl rfl ⟨rfl, rfl, rfl⟩
      · rw [if_neg hc3] at hr
        refine go_run mm_90 2 (pc' := 27) (ls' := [some (.ref 32), some (.int v1), some (.int v2)]) (st' := [.int 1, .int v2]) (S' := S) rfl ?_
        refine go_if2 mm_90 rfl (p1 := 30) (p2 := 39) rfl (fun (hc5 : v2 = 1) => ?_) (fun (hc5 : ¬ v2 = 1) => ?_)
        · rw [if_pos hc5] at hr
          refine go_run mm_90 3 (pc' := 35) (ls' := [some (.ref 32), some (.int v1), some (.int v2)]) (st' := [.int v1, .ref 35]) (S' := S) rfl ?_
          obtain ⟨hb6, hr⟩ := ck_some hr
          refine go_iaload mm_90 (q := (Int32.toNatClampNeg v1)) rfl rfl rfl (ibd_ok hb6) ?_
          show Go XC d 90 0 36 [some (.ref 32), some (.int v1), some (.int v2)] [.int (S.1 35 (Int32.toNatClampNeg v1))] S (RV (vI r) S)
          refine go_run mm_90 1 (pc' := 45) (ls' := [some (.ref 32), some (.int v1), some (.int v2)]) (st' := [.int (S.1 35 (Int32.toNatClampNeg v1))]) (S' := S) rfl ?_
          cases hr
          exact go_ireturn mm_90 rfl rfl ⟨rfl, rfl, rfl⟩
        · rw [if_neg hc5] at hr
          refine go_run mm_90 3 (pc' := 44) (ls' := [some (.ref 32), some (.int v1), some (.int v2)]) (st' := [.int v1, .ref 36]) (S' := S) rfl ?_
          obtain ⟨hb7, hr⟩ := ck_some hr
          refine go_iaload mm_90 (q := (Int32.toNatClampNeg v1)) rfl rfl rfl (ibd_ok hb7) ?_
          show Go XC d 90 0 45 [some (.ref 32), some (.int v1), some (.int v2)] [.int (S.1 36 (Int32.toNatClampNeg v1))] S (RV (vI r) S)
          cases hr
          exact go_ireturn mm_90 rfl rfl ⟨rfl, rfl, rfl⟩
    · rw [if_neg hc2] at hr
      refine go_run mm_90 1 (pc' := 11) (ls' := [some (.ref 32), some (.int v1), some (.int v2)]) (st' := [.int (-1)]) (S' := S) rfl ?_
      cases hr
      exact go_ireturn mm_90 rfl rfl ⟨rfl, rfl, rfl⟩

theorem mm_91 : mtG 91 = some (mi_91, 9, ft_91) := rfl
def F_91 (v1 : Int32) (S : ST) : Option Int32 := ob (F_90 v1 0 S) (fun w1 => ob (F_90 v1 1 S) (fun w2 => ob (F_90 v1 2 S) (fun w3 => ob (F_24 3 w1 w2 w3 S) (fun w4 => some (if 0 ≤ w4 then w4 else 0 - w4)))))
set_option maxRecDepth 20000 in
theorem S_91 {d : Nat} {S : ST} {v1 : Int32} {r} (hr : F_91 v1 S = some r) : Cal XC (d + 2) 91 [.ref 32, .int v1] S (RV (vI r) S) := by
  unfold F_91 at hr
  refine cal_go 0 rfl ?_
  refine go_run mm_91 5 (pc' := 7) (ls' := [some (.ref 32), some (.int v1)]) (st' := [.int 0, .int v1, .ref 32, .ref 3]) (S' := S) rfl ?_
  obtain ⟨w1, hw1, hr⟩ := ob_some hr
  refine go_cv mm_91 (h := 32) (As := [.int v1, .int 0]) (rest := [.ref 3]) (nl := 3) rfl rfl (show cvOK 91 7 42 90 2 3 8 = true by decide +kernel) rfl rfl rfl (S_90 hw1) (KP_V ?_)
  show Go XC (d + 2) 91 0 10 [some (.ref 32), some (.int v1)] [.int w1, .ref 3] S (RV (vI r) S)
  refine go_run mm_91 3 (pc' := 13) (ls' := [some (.ref 32), some (.int v1)]) (st' := [.int 1, .int v1, .ref 32, .int w1, .ref 3]) (S' := S) rfl ?_
  obtain ⟨w2, hw2, hr⟩ := ob_some hr
  refine go_cv mm_91 (h := 32) (As := [.int v1, .int 1]) (rest := [.int w1, .ref 3]) (nl := 3) rfl rfl (show cvOK 91 13 42 90 2 3 8 = true by decide +kernel) rfl rfl rfl (S_90 hw2) (KP_V ?_)
  show Go XC (d + 2) 91 0 16 [some (.ref 32), some (.int v1)] [.int w2, .int w1, .ref 3] S (RV (vI r) S)
  refine go_run mm_91 3 (pc' := 19) (ls' := [some (.ref 32), some (.int v1)]) (st' := [.int 2, .int v1, .ref 32, .int w2, .int w1, .ref 3]) (S' := S) rfl ?_
  obtain ⟨w3, hw3, hr⟩ := ob_some hr
  refine go_cv mm_91 (h := 32) (As := [.int v1, .int 2]) (rest := [.int w2, .int w1, .ref 3]) (nl := 3) rfl rfl (show cvOK 91 19 42 90 2 3 8 = true by decide +kernel) rfl rfl rfl (S_90 hw3) (KP_V ?_)
  show Go XC (d + 2) 91 0 22 [some (.ref 32), some (.int v1)] [.int w3, .int w2, .int w1, .ref 3] S (RV (vI r) S)
  obtain ⟨w4, hw4, hr⟩ := ob_some hr
  refine go_cs mm_91 (av := [.ref 3, .int w1, .int w2, .int w3]) (rest := []) (nl := 4) rfl (show csOK 91 22 46 24 4 4 = true by decide +kernel) rfl rfl rfl (S_24 (plB_ok rfl) hw4) (KP_V ?_)
  show Go XC (d + 2) 91 0 25 [some (.ref 32), some (.int v1)] [.int w4] S (RV (vI r) S)
  refine go_mm (pc' := 28) (st' := [.int (if 0 ≤ w4 then w4 else 0 - w4)]) (fun lv σ => rfl) ?_
  show Go XC (d + 2) 91 0 28 [some (.ref 32), some (.int v1)] [.int (if 0 ≤ w4 then w4 else 0 - w4)] S (RV (vI r) S)
  cases hr
  exact go_ireturn mm_91 rfl rfl ⟨rfl, rfl, rfl⟩

theorem mm_92 : mtG 92 = some (mi_92, 9, ft_92) := rfl
def F_92 (v1 : Int32) (S : ST) : Option Int32 := if v1 < 0 then (some (-1)) else (if v1 < 12 then (ck (ibd v1 12) (some (S.1 37 (Int32.toNatClampNeg v1)))) else (some (-1)))
set_option maxRecDepth 20000 in
theorem S_92 {d : Nat} {S : ST} {v1 : Int32} {r} (hr : F_92 v1 S = some r) : Cal XC d 92 [.ref 32, .int v1] S (RV (vI r) S) := by
  unfold F_92 at hr
  refine cal_go 0 rfl ?_
  refine go_run mm_92 1 (pc' := 1) (ls' := [some (.ref 32), some (.int v1)]) (st' := [.int v1]) (S' := S) rfl ?_
  refine go_if0 mm_92 rfl (p1 := 19) (p2 := 4) rfl (fun (hc1 : v1 < 0) => ?_) (fun (hc1 : ¬ v1 < 0) => ?_)
  · rw [if_pos hc1] at hr
    refine go_run mm_92 1 (pc' := 20) (ls' := [some (.ref 32), some (.int v1)]) (st' := [.int (-1)]) (S' := S) rfl ?_
    cases hr
    exact go_ireturn mm_92 rfl rfl ⟨rfl, rfl, rfl⟩
  · rw [if_neg hc1] at hr
    refine go_run mm_92 2 (pc' := 7) (ls' := [some (.ref 32), some (.int v1)]) (st' := [.int 12, .int v1]) (S' := S) rfl ?_
    refine go_if2 mm_92 rfl (p1 := 10) (p2 := 19) rfl (fun (hc2 : v1 < 12) => ?_) (fun (hc2 : ¬ v1 < 12) => ?_)
    · rw [if_pos hc2] at hr
      refine go_run mm_92 3 (pc' := 15) (ls' := [some (.ref 32), some (.int v1)]) (st' := [.int v1, .ref 37]) (S' := S) rfl ?_
      obtain ⟨hb3, hr⟩ := ck_some hr
      refine go_iaload mm_92 (q := (Int32.toNatClampNeg v1)) rfl rfl rfl (ibd_ok hb3) ?_
      show Go XC d 92 0 16 [some (.ref 32), some (.int v1)] [.int (S.1 37 (Int32.toNatClampNeg v1))] S (RV (vI r) S)
      refine go_run mm_92 1 (pc' := 20) (ls' := [some (.ref 32), some (.int v1)]) (st' := [.int (S.1 37 (Int32.toNatClampNeg v1))]) (S' := S) rfl ?_
      cases hr
      exact go_ireturn mm_92 rfl rfl ⟨rfl, rfl, rfl⟩
    · rw [if_neg hc2] at hr
      refine go_run mm_92 1 (pc' := 20) (ls' := [some (.ref 32), some (.int v1)]) (st' := [.int (-1)]) (S' := S) rfl ?_
      cases hr
      exact go_ireturn mm_92 rfl rfl ⟨rfl, rfl, rfl⟩

theorem mm_94 : mtG 94 = some (mi_94, 9, ft_94) := rfl
def L_94_4 (v1 : Int32) (S : ST) (a4 : Int32 × Int32) : Option ((Int32 × Int32) ⊕ (Int32 × Int32)) := if a4.2 < (S.1 3 0) then (ob (F_92 a4.2 S) (fun w1 => if w1 = v1 then (some (.inl (a4.1 ||| (1 <<< (a4.2 &&& 31)), a4.2 + 1))) else (some (.inl (a4.1, a4.2 + 1))))) else (some (.inr (a4.1, a4.2)))
set_option maxRecDepth 20000 in
theorem LS_94_4 {d : Nat} {R : RT} {S : ST} {v1 : Int32} {a4 : Int32 × Int32} {r9} (hr : L_94_4 v1 S a4 = some r9) (hL : ∀ a9, r9 = .inl a9 → (fun a4 => Go XC (d + 1) 94 0 4 [some (.ref 32), some (.int v1), some (.int a4.1), some (.int a4.2)] [] S R) a9) (hR : ∀ b9, r9 = .inr b9 → (fun e4 => Go XC (d + 1) 94 0 36 [some (.ref 32), some (.int v1), some (.int e4.1), some (.int e4.2)] [] S R) b9) : Go XC (d + 1) 94 0 4 [some (.ref 32), some (.int v1), some (.int a4.1), some (.int a4.2)] [] S R := by
  unfold L_94_4 at hr
  refine go_run mm_94 4 (pc' := 12) (ls' := [some (.ref 32), some (.int v1), some (.int a4.1), some (.int a4.2)]) (st' := [.int (S.1 3 0), .int a4.2]) (S' := S) rfl ?_
  refine go_if2 mm_94 rfl (p1 := 15) (p2 := 36) rfl (fun (hc1 : a4.2 < (S.1 3 0)) => ?_) (fun (hc1 : ¬ a4.2 < (S.1 3 0)) => ?_)
  · rw [if_pos hc1] at hr
    refine go_run mm_94 2 (pc' := 17) (ls' := [some (.ref 32), some (.int v1), some (.int a4.1), some (.int a4.2)]) (st' := [.int a4.2, .ref 32]) (S' := S) rfl ?_
    obtain ⟨w1, hw1, hr⟩ := ob_some hr
    refine go_cv mm_94 (h := 32) (As := [.int a4.2]) (rest := []) (nl := 2) rfl rfl (show cvOK 94 17 71 92 1 2 8 = true by decide +kernel) rfl rfl rfl (S_92 hw1) (KP_V ?_)
    show Go XC (d + 1) 94 0 20 [some (.ref 32), some (.int v1), some (.int a4.1), some (.int a4.2)] [.int w1] S R
    refine go_run mm_94 1 (pc' := 21) (ls' := [some (.ref 32), some (.int v1), some (.int a4.1), some (.int a4.2)]) (st' := [.int v1, .int w1]) (S' := S) rfl ?_
    refine go_if2 mm_94 rfl (p1 := 24) (p2 := 30) rfl (fun (hc2 : w1 = v1) => ?_) (fun (hc2 : ¬ w1 = v1) => ?_)
    · rw [if_pos hc2] at hr
      refine go_run mm_94 8 (pc' := 4) (ls' := [some (.ref 32), some (.int v1), some (.int (a4.1 ||| (1 <<< (a4.2 &&& 31)))), some (.int (a4.2 + 1))]) (st' := []) (S' := S) rfl ?_
      cases hr
      have h9 := hL (a4.1 ||| (1 <<< (a4.2 &&& 31)), a4.2 + 1) rfl
      dsimp only at h9
      exact Go.le h9 (by repeat first | exact True.intro | refine And.intro rfl ?_)
    · rw [if_neg hc2] at hr
      refine go_run mm_94 2 (pc' := 4) (ls' := [some (.ref 32), some (.int v1), some (.int a4.1), some (.int (a4.2 + 1))]) (st' := []) (S' := S) rfl ?_
      cases hr
      have h9 := hL (a4.1, a4.2 + 1) rfl
      dsimp only at h9
      exact Go.le h9 (by repeat first | exact True.intro | refine And.intro rfl ?_)
  · rw [if_neg hc1] at hr
    cases hr
    have h9 := hR (a4.1, a4.2) rfl
    dsimp only [Sum.elim_inl] at h9
    exact Go.le h9 (by repeat first | exact True.intro | refine And.intro rfl ?_)
def F_94 (v1 : Int32) (S : ST) : Option Int32 := ob (wh FU (L_94_4 v1 S) (0, 0)) (fun e4 => some e4.1)
set_option maxRecDepth 20000 in
theorem S_94 {d : Nat} {S : ST} {v1 : Int32} {r} (hr : F_94 v1 S = some r) : Cal XC (d + 1) 94 [.ref 32, .int v1] S (RV (vI r) S) := by
  unfold F_94 at hr
  refine cal_go 2 rfl ?_
  refine go_run mm_94 4 (pc' := 4) (ls' := [some (.ref 32), some (.int v1), some (.int 0), some (.int 0)]) (st' := []) (S' := S) rfl ?_
  obtain ⟨z4, he4, hr⟩ := ob_some hr
  refine Go.le (ls' := [some (.ref 32), some (.int v1), some (.int 0), some (.int 0)]) ?_ (by repeat first | exact True.intro | refine And.intro rfl ?_)
  refine wh_go (P := fun a4 => Go XC (d + 1) 94 0 4 [some (.ref 32), some (.int v1), some (.int a4.1), some (.int a4.2)] [] S (RV (vI r) S)) (K := fun e4 => Go XC (d + 1) 94 0 36 [some (.ref 32), some (.int v1), some (.int e4.1), some (.int e4.2)] [] S (RV (vI r) S)) (fun a9 r9 h9 hL hR => LS_94_4 h9 hL hR) _ _ _ he4 ?_
  generalize z4 = e4 at hr
  show Go XC (d + 1) 94 0 36 [some (.ref 32), some (.int v1), some (.int e4.1), some (.int e4.2)] [] S (RV (vI r) S)
  refine go_run mm_94 1 (pc' := 37) (ls' := [some (.ref 32), some (.int v1), some (.int e4.1), some (.int e4.2)]) (st' := [.int e4.1]) (S' := S) rfl ?_
  cases hr
  exact go_ireturn mm_94 rfl rfl ⟨rfl, rfl, rfl⟩

theorem mm_93 : mtG 93 = some (mi_93, 9, ft_93) := rfl
def L_93_8 (S : ST) (a8 : Int32 × Int32) : Option ((Int32 × Int32) ⊕ (Int32 × Int32)) := if a8.2 < 3 then (ob (F_94 a8.2 S) (fun w2 => if (F_364 w2) < (F_364 a8.1) then (some (.inl (w2, a8.2 + 1))) else (some (.inl (a8.1, a8.2 + 1))))) else (some (.inr (a8.1, a8.2)))
set_option maxRecDepth 20000 in
theorem LS_93_8 {d : Nat} {R : RT} {S : ST} {a8 : Int32 × Int32} {r9} (hr : L_93_8 S a8 = some r9) (hL : ∀ a9, r9 = .inl a9 → (fun a8 => Go XC (d + 2) 93 0 8 [some (.ref 32), some (.int a8.1), some (.int a8.2), none] [] S R) a9) (hR : ∀ b9, r9 = .inr b9 → (fun e8 => Go XC (d + 2) 93 0 38 [some (.ref 32), some (.int e8.1), some (.int e8.2), none] [] S R) b9) : Go XC (d + 2) 93 0 8 [some (.ref 32), some (.int a8.1), some (.int a8.2), none] [] S R := by
  unfold L_93_8 at hr
  refine go_run mm_93 2 (pc' := 10) (ls' := [some (.ref 32), some (.int a8.1), some (.int a8.2), none]) (st' := [.int 3, .int a8.2]) (S' := S) rfl ?_
  refine go_if2 mm_93 rfl (p1 := 13) (p2 := 38) rfl (fun (hc1 : a8.2 < 3) => ?_) (fun (hc1 : ¬ a8.2 < 3) => ?_)
  · rw [if_pos hc1] at hr
    refine go_run mm_93 2 (pc' := 15) (ls' := [some (.ref 32), some (.int a8.1), some (.int a8.2), none]) (st' := [.int a8.2, .ref 32]) (S' := S) rfl ?_
    obtain ⟨w2, hw2, hr⟩ := ob_some hr
    refine go_cv mm_93 (h := 32) (As := [.int a8.2]) (rest := []) (nl := 4) rfl rfl (show cvOK 93 15 58 94 1 4 8 = true by decide +kernel) rfl rfl rfl (S_94 hw2) (KP_V ?_)
    show Go XC (d + 2) 93 0 18 [some (.ref 32), some (.int a8.1), some (.int a8.2), none] [.int w2] S R
    refine go_run mm_93 2 (pc' := 20) (ls' := [some (.ref 32), some (.int a8.1), some (.int a8.2), some (.int w2)]) (st' := [.int w2]) (S' := S) rfl ?_
    refine go_cs mm_93 (av := [.int w2]) (rest := []) (nl := 1) rfl (show csOK 93 20 61 364 1 1 = true by decide +kernel) rfl rfl rfl (S_364 rfl) (KP_V ?_)
    show Go XC (d + 2) 93 0 23 [some (.ref 32), some (.int a8.1), some (.int a8.2), some (.int w2)] [.int (F_364 w2)] S R
    refine go_run mm_93 1 (pc' := 24) (ls' := [some (.ref 32), some (.int a8.1), some (.int a8.2), some (.int w2)]) (st' := [.int a8.1, .int (F_364 w2)]) (S' := S) rfl ?_
    refine go_cs mm_93 (av := [.int a8.1]) (rest := [.int (F_364 w2)]) (nl := 1) rfl (show csOK 93 24 61 364 1 1 = true by decide +kernel) rfl rfl rfl (S_364 rfl) (KP_V ?_)
    show Go XC (d + 2) 93 0 27 [some (.ref 32), some (.int a8.1), some (.int a8.2), some (.int w2)] [.int (F_364 a8.1), .int (F_364 w2)] S R
    refine go_if2 mm_93 rfl (p1 := 30) (p2 := 32) rfl (fun (hc2 : (F_364 w2) < (F_364 a8.1)) => ?_) (fun (hc2 : ¬ (F_364 w2) < (F_364 a8.1)) => ?_)
    · rw [if_pos hc2] at hr
      refine go_run mm_93 4 (pc' := 8) (ls' := [some (.ref 32), some (.int w2), some (.int (a8.2 + 1)), some (.int w2)]) (st' := []) (S' := S) rfl ?_
      cases hr
      have h9 := hL (w2, a8.2 + 1) rfl
      dsimp only at h9
      exact Go.le h9 (by repeat first | exact True.intro | refine And.intro rfl ?_)
    · rw [if_neg hc2] at hr
      refine go_run mm_93 2 (pc' := 8) (ls' := [some (.ref 32), some (.int a8.1), some (.int (a8.2 + 1)), some (.int w2)]) (st' := []) (S' := S) rfl ?_
      cases hr
      have h9 := hL (a8.1, a8.2 + 1) rfl
      dsimp only at h9
      exact Go.le h9 (by repeat first | exact True.intro | refine And.intro rfl ?_)
  · rw [if_neg hc1] at hr
    cases hr
    have h9 := hR (a8.1, a8.2) rfl
    dsimp only [Sum.elim_inl] at h9
    exact Go.le h9 (by repeat first | exact True.intro | refine And.intro rfl ?_)
def F_93 (S : ST) : Option Int32 := ob (F_94 0 S) (fun w1 => ob (wh FU (L_93_8 S) (w1, 1)) (fun e8 => some e8.1))
set_option maxRecDepth 20000 in
theorem S_93 {d : Nat} {S : ST} {r} (hr : F_93 S = some r) : Cal XC (d + 2) 93 [.ref 32] S (RV (vI r) S) := by
  unfold F_93 at hr
  refine cal_go 3 rfl ?_
  refine go_run mm_93 2 (pc' := 2) (ls' := [some (.ref 32), none, none, none]) (st' := [.int 0, .ref 32]) (S' := S) rfl ?_
  obtain ⟨w1, hw1, hr⟩ := ob_some hr
  refine go_cv mm_93 (h := 32) (As := [.int 0]) (rest := []) (nl := 4) rfl rfl (show cvOK 93 2 58 94 1 4 8 = true by decide +kernel) rfl rfl rfl (S_94 hw1) (KP_V ?_)
  show Go XC (d + 2) 93 0 5 [some (.ref 32), none, none, none] [.int w1] S (RV (vI r) S)
  refine go_run mm_93 3 (pc' := 8) (ls' := [some (.ref 32), some (.int w1), some (.int 1), none]) (st' := []) (S' := S) rfl ?_
  obtain ⟨z8, he8, hr⟩ := ob_some hr
  refine Go.le (ls' := [some (.ref 32), some (.int w1), some (.int 1), none]) ?_ (by repeat first | exact True.intro | refine And.intro rfl ?_)
  refine wh_go (P := fun a8 => Go XC (d + 2) 93 0 8 [some (.ref 32), some (.int a8.1), some (.int a8.2), none] [] S (RV (vI r) S)) (K := fun e8 => Go XC (d + 2) 93 0 38 [some (.ref 32), some (.int e8.1), some (.int e8.2), none] [] S (RV (vI r) S)) (fun a9 r9 h9 hL hR => LS_93_8 h9 hL hR) _ _ _ he8 ?_
  generalize z8 = e8 at hr
  show Go XC (d + 2) 93 0 38 [some (.ref 32), some (.int e8.1), some (.int e8.2), none] [] S (RV (vI r) S)
  refine go_run mm_93 1 (pc' := 39) (ls' := [some (.ref 32), some (.int e8.1), some (.int e8.2), none]) (st' := [.int e8.1]) (S' := S) rfl ?_
  cases hr
  exact go_ireturn mm_93 rfl rfl ⟨rfl, rfl, rfl⟩

theorem mm_97 : mtG 97 = some (mi_97, 9, ft_97) := rfl
def F_97 (v1 : Int32) (S : ST) : Option Int32 := if ((if v1 < 0 then v1 + (S.1 32 7) else (if v1 < (S.1 32 7) then v1 else v1 - (S.1 32 7))) : Int32) < 0 then (some (-1)) else (if ((if v1 < 0 then v1 + (S.1 32 7) else (if v1 < (S.1 32 7) then v1 else v1 - (S.1 32 7))) : Int32) < 12 then (ck (ibd (if v1 < 0 then v1 + (S.1 32 7) else (if v1 < (S.1 32 7) then v1 else v1 - (S.1 32 7))) 12) (some (S.1 38 (Int32.toNatClampNeg (if v1 < 0 then v1 + (S.1 32 7) else (if v1 < (S.1 32 7) then v1 else v1 - (S.1 32 7))))))) else (some (-1)))
set_option maxRecDepth 20000 in
theorem S_97 {d : Nat} {S : ST} {v1 : Int32} {r} (hr : F_97 v1 S = some r) : Cal XC d 97 [.ref 32, .int v1] S (RV (vI r) S) := by
  unfold F_97 at hr
  refine cal_go 1 rfl ?_
  refine go_run mm_97 1 (pc' := 1) (ls' := [some (.ref 32), some (.int v1), none]) (st' := [.int v1]) (S' := S) rfl ?_
  have j7 : Go XC d 97 0 31 [some (.ref 32), some (.int v1), none] [.int (if v1 < 0 then v1 + (S.1 32 7) else (if v1 < (S.1 32 7) then v1 else v1 - (S.1 32 7)))] S (RV (vI r) S) := by
    refine go_run mm_97 2 (pc' := 33) (ls' := [some (.ref 32), some (.int v1), some (.int (if v1 < 0 then v1 + (S.1 32 7) else (if v1 < (S.1 32 7) then v1 else v1 - (S.1 32 7))))]) (st' := [.int (if v1 < 0 then v1 + (S.1 32 7) else (if v1 < (S.1 32 7) then v1 else v1 - (S.1 32 7)))]) (S' := S) rfl ?_
    refine go_if0 mm_97 rfl (p1 := 51) (p2 := 36) rfl (fun (hc4 : ((if v1 < 0 then v1 + (S.1 32 7) else (if v1 < (S.1 32 7) then v1 else v1 - (S.1 32 7))) : Int32) < 0) => ?_) (fun (hc4 : ¬ ((if v1 < 0 then v1 + (S.1 32 7) else (if v1 < (S.1 32 7) then v1 else v1 - (S.1 32 7))) : Int32) < 0) => ?_)
    · rw [if_pos hc4] at hr
      refine go_run mm_97 1 (pc' := 52) (ls' := [some (.ref 32), some (.int v1), some (.int (if v1 < 0 then v1 + (S.1 32 7) else (if v1 < (S.1 32 7) then v1 else v1 - (S.1 32 7))))]) (st' := [.int (-1)]) (S' := S) rfl ?_
      cases hr
      exact go_ireturn mm_97 rfl rfl ⟨rfl, rfl, rfl⟩
    · rw [if_neg hc4] at hr
      refine go_run mm_97 2 (pc' := 39) (ls' := [some (.ref 32), some (.int v1), some (.int (if v1 < 0 then v1 + (S.1 32 7) else (if v1 < (S.1 32 7) then v1 else v1 - (S.1 32 7))))]) (st' := [.int 12, .int (if v1 < 0 then v1 + (S.1 32 7) else (if v1 < (S.1 32 7) then v1 else v1 - (S.1 32 7)))]) (S' := S) rfl ?_
      refine go_if2 mm_97 rfl (p1 := 42) (p2 := 51) rfl (fun (hc5 : ((if v1 < 0 then v1 + (S.1 32 7) else (if v1 < (S.1 32 7) then v1 else v1 - (S.1 32 7))) : Int32) < 12) => ?_) (fun (hc5 : ¬ ((if v1 < 0 then v1 + (S.1 32 7) else (if v1 < (S.1 32 7) then v1 else v1 - (S.1 32 7))) : Int32) < 12) => ?_)
      · rw [if_pos hc5] at hr
        refine go_run mm_97 3 (pc' := 47) (ls' := [some (.ref 32), some (.int v1), some (.int (if v1 < 0 then v1 + (S.1 32 7) else (if v1 < (S.1 32 7) then v1 else v1 - (S.1 32 7))))]) (st' := [.int (if v1 < 0 then v1 + (S.1 32 7) else (if v1 < (S.1 32 7) then v1 else v1 - (S.1 32 7))), .ref 38]) (S' := S) rfl ?_
        obtain ⟨hb6, hr⟩ := ck_some hr
        refine go_iaload mm_97 (q := (Int32.toNatClampNeg (if v1 < 0 then v1 + (S.1 32 7) else (if v1 < (S.1 32 7) then v1 else v1 - (S.1 32 7))))) rfl rfl rfl (ibd_ok hb6) ?_
        show Go XC d 97 0 48 [some (.ref 32), some (.int v1), some (.int (if v1 < 0 then v1 + (S.1 32 7) else (if v1 < (S.1 32 7) then v1 else v1 - (S.1 32 7))))] [.int (S.1 38 (Int32.toNatClampNeg (if v1 < 0 then v1 + (S.1 32 7) else (if v1 < (S.1 32 7) then v1 else v1 - (S.1 32 7)))))] S (RV (vI r) S)
        refine go_run mm_97 1 (pc' := 52) (ls' := [some (.ref 32), some (.int v1), some (.int (if v1 < 0 then v1 + (S.1 32 7) else (if v1 < (S.1 32 7) then v1 else v1 - (S.1 32 7))))]) (st' := [.int (S.1 38 (Int32.toNatClampNeg (if v1 < 0 then v1 + (S.1 32 7) else (if v1 < (S.1 32 7) then v1 else v1 - (S.1 32 7)))))]) (S' := S) rfl ?_
        cases hr
        exact go_ireturn mm_97 rfl rfl ⟨rfl, rfl, rfl⟩
      · rw [if_neg hc5] at hr
        refine go_run mm_97 1 (pc' := 52) (ls' := [some (.ref 32), some (.int v1), some (.int (if v1 < 0 then v1 + (S.1 32 7) else (if v1 < (S.1 32 7) then v1 else v1 - (S.1 32 7))))]) (st' := [.int (-1)]) (S' := S) rfl ?_
        cases hr
        exact go_ireturn mm_97 rfl rfl ⟨rfl, rfl, rfl⟩
  refine go_if0 mm_97 rfl (p1 := 4) (p2 := 13) rfl (fun (hc1 : v1 < 0) => ?_) (fun (hc1 : ¬ v1 < 0) => ?_)
  · refine go_run mm_97 5 (pc' := 31) (ls' := [some (.ref 32), some (.int v1), none]) (st' := [.int (v1 + (S.1 32 7))]) (S' := S) rfl ?_
    have e : ((if v1 < 0 then v1 + (S.1 32 7) else (if v1 < (S.1 32 7) then v1 else v1 - (S.1 32 7))) : Int32) = v1 + (S.1 32 7) := by simp [b2i, hc1]
    rw [e] at j7
    exact j7
  · refine go_run mm_97 3 (pc' := 18) (ls' := [some (.ref 32), some (.int v1), none]) (st' := [.int (S.1 32 7), .int v1]) (S' := S) rfl ?_
    have j3 : Go XC d 97 0 31 [some (.ref 32), some (.int v1), none] [.int (if v1 < (S.1 32 7) then v1 else v1 - (S.1 32 7))] S (RV (vI r) S) := by
      have e : ((if v1 < 0 then v1 + (S.1 32 7) else (if v1 < (S.1 32 7) then v1 else v1 - (S.1 32 7))) : Int32) = (if v1 < (S.1 32 7) then v1 else v1 - (S.1 32 7)) := by simp [b2i, hc1]
      rw [e] at j7
      exact j7
    refine go_if2 mm_97 rfl (p1 := 30) (p2 := 21) rfl (fun (hc2 : v1 < (S.1 32 7)) => ?_) (fun (hc2 : ¬ v1 < (S.1 32 7)) => ?_)
    · refine go_run mm_97 1 (pc' := 31) (ls' := [some (.ref 32), some (.int v1), none]) (st' := [.int v1]) (S' := S) rfl ?_
      have e : ((if v1 < (S.1 32 7) then v1 else v1 - (S.1 32 7)) : Int32) = v1 := by simp [b2i, hc2]
      rw [e] at j3
      exact j3
    · refine go_run mm_97 5 (pc' := 31) (ls' := [some (.ref 32), some (.int v1), none]) (st' := [.int (v1 - (S.1 32 7))]) (S' := S) rfl ?_
      have e : ((if v1 < (S.1 32 7) then v1 else v1 - (S.1 32 7)) : Int32) = v1 - (S.1 32 7) := by simp [b2i, hc2]
      rw [e] at j3
      exact j3
