/-! methods as functions (printed by a program): 101 paint, 95 learn, 104 postOf, 105 placeOfTreasure, 106 within, 107 byGuard, 108 byAllBut, 109 guardsOn -/
theorem mm_101 : mtG 101 = some (mi_101, 9, ft_101) := rfl
def L_101_52 (v1 : Int32) (p52_2 : Int32) (a52 : Int32 × ST) : Option ((Int32 × ST) ⊕ (Int32 × ST)) := if a52.1 < 0 then (some (.inr (a52.1, a52.2))) else (ck (ibd a52.1 10) (ob (F_103 (a52.2.1 34 (Int32.toNatClampNeg a52.1)) a52.2) (fun w4 => ck (ibd a52.1 10) (ob (F_103 (a52.2.1 35 (Int32.toNatClampNeg a52.1)) a52.2) (fun w5 => ck (ibd a52.1 10) (ob (F_103 (a52.2.1 36 (Int32.toNatClampNeg a52.1)) a52.2) (fun w6 => ck (ibd a52.1 10) (ob (F_103 (a52.2.1 33 (Int32.toNatClampNeg a52.1)) a52.2) (fun w7 => ck (ibd a52.1 10) (ob (F_102 (a52.2.1 33 (Int32.toNatClampNeg a52.1)) (3 - (((w4 + w5) + w6) - w7)) a52.2) (fun w8 => some (.inl (a52.1 + (-1), w8.2)))))))))))))
set_option maxRecDepth 20000 in
theorem LS_101_52 {d : Nat} {R : RT} {v1 : Int32} {p52_2 : Int32} {a52 : Int32 × ST} {r9} (hr : L_101_52 v1 p52_2 a52 = some r9) (hL : ∀ a9, r9 = .inl a9 → (fun a52 => Go XC (d + 1) 101 0 52 [some (.ref 32), some (.int v1), some (.int p52_2), some (.int a52.1), none, none] [] a52.2 R) a9) (hR : ∀ b9, r9 = .inr b9 → (fun e52 => Go XC (d + 1) 101 0 121 [some (.ref 32), some (.int v1), some (.int p52_2), some (.int e52.1), none, none] [] e52.2 R) b9) : Go XC (d + 1) 101 0 52 [some (.ref 32), some (.int v1), some (.int p52_2), some (.int a52.1), none, none] [] a52.2 R := by
  unfold L_101_52 at hr
  refine go_run mm_101 1 (pc' := 53) (ls' := [some (.ref 32), some (.int v1), some (.int p52_2), some (.int a52.1), none, none]) (st' := [.int a52.1]) (S' := a52.2) rfl ?_
  refine go_if0 mm_101 rfl (p1 := 121) (p2 := 56) rfl (fun (hc6 : a52.1 < 0) => ?_) (fun (hc6 : ¬ a52.1 < 0) => ?_)
  · rw [if_pos hc6] at hr
    cases hr
    have h9 := hR (a52.1, a52.2) rfl
    dsimp only [Sum.elim_inl] at h9
    exact Go.le h9 (by repeat first | exact True.intro | refine And.intro rfl ?_)
  · rw [if_neg hc6] at hr
    refine go_run mm_101 4 (pc' := 62) (ls' := [some (.ref 32), some (.int v1), some (.int p52_2), some (.int a52.1), none, none]) (st' := [.int a52.1, .ref 34, .ref 32]) (S' := a52.2) rfl ?_
    obtain ⟨hb7, hr⟩ := ck_some hr
    refine go_iaload mm_101 (q := (Int32.toNatClampNeg a52.1)) rfl rfl rfl (ibd_ok hb7) ?_
    show Go XC (d + 1) 101 0 63 [some (.ref 32), some (.int v1), some (.int p52_2), some (.int a52.1), none, none] [.int (a52.2.1 34 (Int32.toNatClampNeg a52.1)), .ref 32] a52.2 R
    obtain ⟨w4, hw4, hr⟩ := ob_some hr
    refine go_cv mm_101 (h := 32) (As := [.int (a52.2.1 34 (Int32.toNatClampNeg a52.1))]) (rest := []) (nl := 2) rfl rfl (show cvOK 101 63 110 103 1 2 8 = true by decide +kernel) rfl rfl rfl (S_103 hw4) (KP_V ?_)
    show Go XC (d + 1) 101 0 66 [some (.ref 32), some (.int v1), some (.int p52_2), some (.int a52.1), none, none] [.int w4] a52.2 R
    refine go_run mm_101 4 (pc' := 72) (ls' := [some (.ref 32), some (.int v1), some (.int p52_2), some (.int a52.1), none, none]) (st' := [.int a52.1, .ref 35, .ref 32, .int w4]) (S' := a52.2) rfl ?_
    obtain ⟨hb8, hr⟩ := ck_some hr
    refine go_iaload mm_101 (q := (Int32.toNatClampNeg a52.1)) rfl rfl rfl (ibd_ok hb8) ?_
    show Go XC (d + 1) 101 0 73 [some (.ref 32), some (.int v1), some (.int p52_2), some (.int a52.1), none, none] [.int (a52.2.1 35 (Int32.toNatClampNeg a52.1)), .ref 32, .int w4] a52.2 R
    obtain ⟨w5, hw5, hr⟩ := ob_some hr
    refine go_cv mm_101 (h := 32) (As := [.int (a52.2.1 35 (Int32.toNatClampNeg a52.1))]) (rest := [.int w4]) (nl := 2) rfl rfl (show cvOK 101 73 110 103 1 2 8 = true by decide +kernel) rfl rfl rfl (S_103 hw5) (KP_V ?_)
    show Go XC (d + 1) 101 0 76 [some (.ref 32), some (.int v1), some (.int p52_2), some (.int a52.1), none, none] [.int w5, .int w4] a52.2 R
    refine go_run mm_101 5 (pc' := 83) (ls' := [some (.ref 32), some (.int v1), some (.int p52_2), some (.int a52.1), none, none]) (st' := [.int a52.1, .ref 36, .ref 32, .int (w4 + w5)]) (S' := a52.2) rfl ?_
    obtain ⟨hb9, hr⟩ := ck_some hr
    refine go_iaload mm_101 (q := (Int32.toNatClampNeg a52.1)) rfl rfl rfl (ibd_ok hb9) ?_
    show Go XC (d + 1) 101 0 84 [some (.ref 32), some (.int v1), some (.int p52_2), some (.int a52.1), none, none] [.int (a52.2.1 36 (Int32.toNatClampNeg a52.1)), .ref 32, .int (w4 + w5)] a52.2 R
    obtain ⟨w6, hw6, hr⟩ := ob_some hr
    refine go_cv mm_101 (h := 32) (As := [.int (a52.2.1 36 (Int32.toNatClampNeg a52.1))]) (rest := [.int (w4 + w5)]) (nl := 2) rfl rfl (show cvOK 101 84 110 103 1 2 8 = true by decide +kernel) rfl rfl rfl (S_103 hw6) (KP_V ?_)
    show Go XC (d + 1) 101 0 87 [some (.ref 32), some (.int v1), some (.int p52_2), some (.int a52.1), none, none] [.int w6, .int (w4 + w5)] a52.2 R
    refine go_run mm_101 5 (pc' := 94) (ls' := [some (.ref 32), some (.int v1), some (.int p52_2), some (.int a52.1), none, none]) (st' := [.int a52.1, .ref 33, .ref 32, .int ((w4 + w5) + w6)]) (S' := a52.2) rfl ?_
    obtain ⟨hb10, hr⟩ := ck_some hr
    refine go_iaload mm_101 (q := (Int32.toNatClampNeg a52.1)) rfl rfl rfl (ibd_ok hb10) ?_
    show Go XC (d + 1) 101 0 95 [some (.ref 32), some (.int v1), some (.int p52_2), some (.int a52.1), none, none] [.int (a52.2.1 33 (Int32.toNatClampNeg a52.1)), .ref 32, .int ((w4 + w5) + w6)] a52.2 R
    obtain ⟨w7, hw7, hr⟩ := ob_some hr
    refine go_cv mm_101 (h := 32) (As := [.int (a52.2.1 33 (Int32.toNatClampNeg a52.1))]) (rest := [.int ((w4 + w5) + w6)]) (nl := 2) rfl rfl (show cvOK 101 95 110 103 1 2 8 = true by decide +kernel) rfl rfl rfl (S_103 hw7) (KP_V ?_)
    show Go XC (d + 1) 101 0 98 [some (.ref 32), some (.int v1), some (.int p52_2), some (.int a52.1), none, none] [.int w7, .int ((w4 + w5) + w6)] a52.2 R
    refine go_run mm_101 6 (pc' := 107) (ls' := [some (.ref 32), some (.int v1), some (.int p52_2), some (.int a52.1), some (.int (((w4 + w5) + w6) - w7)), none]) (st' := [.int a52.1, .ref 33, .ref 32]) (S' := a52.2) rfl ?_
    obtain ⟨hb11, hr⟩ := ck_some hr
    refine go_iaload mm_101 (q := (Int32.toNatClampNeg a52.1)) rfl rfl rfl (ibd_ok hb11) ?_
    show Go XC (d + 1) 101 0 108 [some (.ref 32), some (.int v1), some (.int p52_2), some (.int a52.1), some (.int (((w4 + w5) + w6) - w7)), none] [.int (a52.2.1 33 (Int32.toNatClampNeg a52.1)), .ref 32] a52.2 R
    refine go_run mm_101 3 (pc' := 112) (ls' := [some (.ref 32), some (.int v1), some (.int p52_2), some (.int a52.1), some (.int (((w4 + w5) + w6) - w7)), none]) (st' := [.int (3 - (((w4 + w5) + w6) - w7)), .int (a52.2.1 33 (Int32.toNatClampNeg a52.1)), .ref 32]) (S' := a52.2) rfl ?_
    obtain ⟨w8, hw8, hr⟩ := ob_some hr
    refine go_cv mm_101 (h := 32) (As := [.int (a52.2.1 33 (Int32.toNatClampNeg a52.1)), .int (3 - (((w4 + w5) + w6) - w7))]) (rest := []) (nl := 3) rfl rfl (show cvOK 101 112 107 102 2 3 8 = true by decide +kernel) rfl rfl rfl (S_102 hw8) (KP_V ?_)
    show Go XC (d + 1) 101 0 115 [some (.ref 32), some (.int v1), some (.int p52_2), some (.int a52.1), some (.int (((w4 + w5) + w6) - w7)), none] [] w8.2 R
    refine go_run mm_101 2 (pc' := 52) (ls' := [some (.ref 32), some (.int v1), some (.int p52_2), some (.int (a52.1 + (-1))), some (.int (((w4 + w5) + w6) - w7)), none]) (st' := []) (S' := w8.2) rfl ?_
    cases hr
    have h9 := hL (a52.1 + (-1), w8.2) rfl
    dsimp only at h9
    exact Go.le h9 (by repeat first | exact True.intro | refine And.intro rfl ?_)
def L_101_139 (v1 : Int32) (p139_2 : Int32) (p139_3 : Int32) (p139_4 : Int32) (a139 : Int32 × ST) : Option ((Int32 × ST) ⊕ (Int32 × ST)) := if a139.1 < (a139.2.1 3 0) then (if a139.1 < 12 then (ck (ibd a139.1 12) (if (a139.2.1 37 (Int32.toNatClampNeg a139.1)) = p139_3 then (ck (ibd a139.1 12) (sbn ((wI a139.2 37 (Int32.toNatClampNeg a139.1) 0)) (fun s17 => some (.inl (a139.1 + 1, s17))))) else (ck (ibd a139.1 12) (ck (ibd a139.1 12) (sbn ((wI a139.2 37 (Int32.toNatClampNeg a139.1) (if (a139.2.1 37 (Int32.toNatClampNeg a139.1)) = p139_4 then 1 else 2))) (fun s21 => some (.inl (a139.1 + 1, s21)))))))) else (some (.inr (a139.1, a139.2)))) else (some (.inr (a139.1, a139.2)))
set_option maxRecDepth 20000 in
theorem LS_101_139 {d : Nat} {R : RT} {v1 : Int32} {p139_2 : Int32} {p139_3 : Int32} {p139_4 : Int32} {a139 : Int32 × ST} {r9} (hr : L_101_139 v1 p139_2 p139_3 p139_4 a139 = some r9) (hL : ∀ a9, r9 = .inl a9 → (fun a139 => Go XC (d + 1) 101 0 139 [some (.ref 32), some (.int v1), some (.int p139_2), some (.int p139_3), some (.int p139_4), some (.int a139.1)] [] a139.2 R) a9) (hR : ∀ b9, r9 = .inr b9 → (fun e139 => Go XC (d + 1) 101 0 203 [some (.ref 32), some (.int v1), some (.int p139_2), some (.int p139_3), some (.int p139_4), some (.int e139.1)] [] e139.2 R) b9) : Go XC (d + 1) 101 0 139 [some (.ref 32), some (.int v1), some (.int p139_2), some (.int p139_3), some (.int p139_4), some (.int a139.1)] [] a139.2 R := by
  unfold L_101_139 at hr
  refine go_run mm_101 4 (pc' := 148) (ls' := [some (.ref 32), some (.int v1), some (.int p139_2), some (.int p139_3), some (.int p139_4), some (.int a139.1)]) (st' := [.int (a139.2.1 3 0), .int a139.1]) (S' := a139.2) rfl ?_
  refine go_if2 mm_101 rfl (p1 := 151) (p2 := 203) rfl (fun (hc12 : a139.1 < (a139.2.1 3 0)) => ?_) (fun (hc12 : ¬ a139.1 < (a139.2.1 3 0)) => ?_)
  · rw [if_pos hc12] at hr
    refine go_run mm_101 2 (pc' := 155) (ls' := [some (.ref 32), some (.int v1), some (.int p139_2), some (.int p139_3), some (.int p139_4), some (.int a139.1)]) (st' := [.int 12, .int a139.1]) (S' := a139.2) rfl ?_
    refine go_if2 mm_101 rfl (p1 := 158) (p2 := 203) rfl (fun (hc13 : a139.1 < 12) => ?_) (fun (hc13 : ¬ a139.1 < 12) => ?_)
    · rw [if_pos hc13] at hr
      refine go_run mm_101 6 (pc' := 170) (ls' := [some (.ref 32), some (.int v1), some (.int p139_2), some (.int p139_3), some (.int p139_4), some (.int a139.1)]) (st' := [.int a139.1, .ref 37, .int a139.1, .ref 37]) (S' := a139.2) rfl ?_
      obtain ⟨hb14, hr⟩ := ck_some hr
      refine go_iaload mm_101 (q := (Int32.toNatClampNeg a139.1)) rfl rfl rfl (ibd_ok hb14) ?_
      show Go XC (d + 1) 101 0 171 [some (.ref 32), some (.int v1), some (.int p139_2), some (.int p139_3), some (.int p139_4), some (.int a139.1)] [.int (a139.2.1 37 (Int32.toNatClampNeg a139.1)), .int a139.1, .ref 37] a139.2 R
      refine go_run mm_101 1 (pc' := 172) (ls' := [some (.ref 32), some (.int v1), some (.int p139_2), some (.int p139_3), some (.int p139_4), some (.int a139.1)]) (st' := [.int p139_3, .int (a139.2.1 37 (Int32.toNatClampNeg a139.1)), .int a139.1, .ref 37]) (S' := a139.2) rfl ?_
      refine go_if2 mm_101 rfl (p1 := 175) (p2 := 179) rfl (fun (hc15 : (a139.2.1 37 (Int32.toNatClampNeg a139.1)) = p139_3) => ?_) (fun (hc15 : ¬ (a139.2.1 37 (Int32.toNatClampNeg a139.1)) = p139_3) => ?_)
      · rw [if_pos hc15] at hr
        refine go_run mm_101 2 (pc' := 196) (ls' := [some (.ref 32), some (.int v1), some (.int p139_2), some (.int p139_3), some (.int p139_4), some (.int a139.1)]) (st' := [.int 0, .int a139.1, .ref 37]) (S' := a139.2) rfl ?_
        obtain ⟨hb16, hr⟩ := ck_some hr
        refine go_iastore mm_101 (q := (Int32.toNatClampNeg a139.1)) rfl rfl rfl (ibd_ok hb16) ?_
        show Go XC (d + 1) 101 0 197 [some (.ref 32), some (.int v1), some (.int p139_2), some (.int p139_3), some (.int p139_4), some (.int a139.1)] [] (wI a139.2 37 (Int32.toNatClampNeg a139.1) 0) R
        obtain ⟨s17, es17, hr⟩ := sbn_some hr
        rw [← es17]
        refine go_run mm_101 2 (pc' := 139) (ls' := [some (.ref 32), some (.int v1), some (.int p139_2), some (.int p139_3), some (.int p139_4), some (.int (a139.1 + 1))]) (st' := []) (S' := s17) rfl ?_
        cases hr
        have h9 := hL (a139.1 + 1, s17) rfl
        dsimp only at h9
        exact Go.le h9 (by repeat first | exact True.intro | refine And.intro rfl ?_)
      · rw [if_neg hc15] at hr
        refine go_run mm_101 3 (pc' := 185) (ls' := [some (.ref 32), some (.int v1), some (.int p139_2), some (.int p139_3), some (.int p139_4), some (.int a139.1)]) (st' := [.int a139.1, .ref 37, .int a139.1, .ref 37]) (S' := a139.2) rfl ?_
        obtain ⟨hb18, hr⟩ := ck_some hr
        refine go_iaload mm_101 (q := (Int32.toNatClampNeg a139.1)) rfl rfl rfl (ibd_ok hb18) ?_
        show Go XC (d + 1) 101 0 186 [some (.ref 32), some (.int v1), some (.int p139_2), some (.int p139_3), some (.int p139_4), some (.int a139.1)] [.int (a139.2.1 37 (Int32.toNatClampNeg a139.1)), .int a139.1, .ref 37] a139.2 R
        refine go_run mm_101 1 (pc' := 188) (ls' := [some (.ref 32), some (.int v1), some (.int p139_2), some (.int p139_3), some (.int p139_4), some (.int a139.1)]) (st' := [.int p139_4, .int (a139.2.1 37 (Int32.toNatClampNeg a139.1)), .int a139.1, .ref 37]) (S' := a139.2) rfl ?_
        have j22 : Go XC (d + 1) 101 0 196 [some (.ref 32), some (.int v1), some (.int p139_2), some (.int p139_3), some (.int p139_4), some (.int a139.1)] [.int (if (a139.2.1 37 (Int32.toNatClampNeg a139.1)) = p139_4 then 1 else 2), .int a139.1, .ref 37] a139.2 R := by
          obtain ⟨hb20, hr⟩ := ck_some hr
          refine go_iastore mm_101 (q := (Int32.toNatClampNeg a139.1)) rfl rfl rfl (ibd_ok hb20) ?_
          show Go XC (d + 1) 101 0 197 [some (.ref 32), some (.int v1), some (.int p139_2), some (.int p139_3), some (.int p139_4), some (.int a139.1)] [] (wI a139.2 37 (Int32.toNatClampNeg a139.1) (if (a139.2.1 37 (Int32.toNatClampNeg a139.1)) = p139_4 then 1 else 2)) R
          obtain ⟨s21, es21, hr⟩ := sbn_some hr
          rw [← es21]
          refine go_run mm_101 2 (pc' := 139) (ls' := [some (.ref 32), some (.int v1), some (.int p139_2), some (.int p139_3), some (.int p139_4), some (.int (a139.1 + 1))]) (st' := []) (S' := s21) rfl ?_
          cases hr
          have h9 := hL (a139.1 + 1, s21) rfl
          dsimp only at h9
          exact Go.le h9 (by repeat first | exact True.intro | refine And.intro rfl ?_)
        refine go_if2 mm_101 rfl (p1 := 191) (p2 := 195) rfl (fun (hc19 : (a139.2.1 37 (Int32.toNatClampNeg a139.1)) = p139_4) => ?_) (fun (hc19 : ¬ (a139.2.1 37 (Int32.toNatClampNeg a139.1)) = p139_4) => ?_)
        · refine go_run mm_101 2 (pc' := 196) (ls' := [some (.ref 32), some (.int v1), some (.int p139_2), some (.int p139_3), some (.int p139_4), some (.int a139.1)]) (st' := [.int 1, .int a139.1, .ref 37]) (S' := a139.2) rfl ?_
          have e : ((if (a139.2.1 37 (Int32.toNatClampNeg a139.1)) = p139_4 then 1 else 2) : Int32) = 1 := by simp [b2i, hc19]
          rw [e] at j22
          exact j22
        · refine go_run mm_101 1 (pc' := 196) (ls' := [some (.ref 32), some (.int v1), some (.int p139_2), some (.int p139_3), some (.int p139_4), some (.int a139.1)]) (st' := [.int 2, .int a139.1, .ref 37]) (S' := a139.2) rfl ?_
          have e : ((if (a139.2.1 37 (Int32.toNatClampNeg a139.1)) = p139_4 then 1 else 2) : Int32) = 2 := by simp [b2i, hc19]
          rw [e] at j22
          exact j22
    · rw [if_neg hc13] at hr
      cases hr
      have h9 := hR (a139.1, a139.2) rfl
      dsimp only [Sum.elim_inl] at h9
      exact Go.le h9 (by repeat first | exact True.intro | refine And.intro rfl ?_)
  · rw [if_neg hc12] at hr
    cases hr
    have h9 := hR (a139.1, a139.2) rfl
    dsimp only [Sum.elim_inl] at h9
    exact Go.le h9 (by repeat first | exact True.intro | refine And.intro rfl ?_)
def F_101 (v1 : Int32) (S : ST) : Option (Unit × ST) := if (v1 - 1) < 0 then (some ((), S)) else (if (v1 - 1) < 10 then (ck (ibd (v1 - 1) 10) (ob (F_102 (S.1 34 (Int32.toNatClampNeg (v1 - 1))) 0 S) (fun w1 => ck (ibd (v1 - 1) 10) (ob (F_102 (w1.2.1 35 (Int32.toNatClampNeg (v1 - 1))) 1 w1.2) (fun w2 => ck (ibd (v1 - 1) 10) (ob (F_102 (w2.2.1 36 (Int32.toNatClampNeg (v1 - 1))) 2 w2.2) (fun w3 => ob (wh FU (L_101_52 v1 (v1 - 1)) ((v1 - 1) - 1, w3.2)) (fun e52 => ob (wh FU (L_101_139 v1 (v1 - 1) (e52.2.1 37 0) (e52.2.1 37 1)) (0, e52.2)) (fun e139 => some ((), e139.2)))))))))) else (some ((), S)))
set_option maxRecDepth 20000 in
theorem S_101 {d : Nat} {S : ST} {v1 : Int32} {r} (hr : F_101 v1 S = some r) : Cal XC (d + 1) 101 [.ref 32, .int v1] S (RV (vU r.1) r.2) := by
  unfold F_101 at hr
  refine cal_go 4 rfl ?_
  refine go_run mm_101 5 (pc' := 5) (ls' := [some (.ref 32), some (.int v1), some (.int (v1 - 1)), none, none, none]) (st' := [.int (v1 - 1)]) (S' := S) rfl ?_
  refine go_if0 mm_101 rfl (p1 := 14) (p2 := 8) rfl (fun (hc1 : (v1 - 1) < 0) => ?_) (fun (hc1 : ¬ (v1 - 1) < 0) => ?_)
  · rw [if_pos hc1] at hr
    cases hr
    exact go_vreturn mm_101 rfl rfl ⟨rfl, rfl, rfl⟩
  · rw [if_neg hc1] at hr
    refine go_run mm_101 2 (pc' := 11) (ls' := [some (.ref 32), some (.int v1), some (.int (v1 - 1)), none, none, none]) (st' := [.int 10, .int (v1 - 1)]) (S' := S) rfl ?_
    refine go_if2 mm_101 rfl (p1 := 15) (p2 := 14) rfl (fun (hc2 : (v1 - 1) < 10) => ?_) (fun (hc2 : ¬ (v1 - 1) < 10) => ?_)
    · rw [if_pos hc2] at hr
      refine go_run mm_101 4 (pc' := 21) (ls' := [some (.ref 32), some (.int v1), some (.int (v1 - 1)), none, none, none]) (st' := [.int (v1 - 1), .ref 34, .ref 32]) (S' := S) rfl ?_
      obtain ⟨hb3, hr⟩ := ck_some hr
      refine go_iaload mm_101 (q := (Int32.toNatClampNeg (v1 - 1))) rfl rfl rfl (ibd_ok hb3) ?_
      show Go XC (d + 1) 101 0 22 [some (.ref 32), some (.int v1), some (.int (v1 - 1)), none, none, none] [.int (S.1 34 (Int32.toNatClampNeg (v1 - 1))), .ref 32] S (RV (vU r.1) r.2)
      refine go_run mm_101 1 (pc' := 23) (ls' := [some (.ref 32), some (.int v1), some (.int (v1 - 1)), none, none, none]) (st' := [.int 0, .int (S.1 34 (Int32.toNatClampNeg (v1 - 1))), .ref 32]) (S' := S) rfl ?_
      obtain ⟨w1, hw1, hr⟩ := ob_some hr
      refine go_cv mm_101 (h := 32) (As := [.int (S.1 34 (Int32.toNatClampNeg (v1 - 1))), .int 0]) (rest := []) (nl := 3) rfl rfl (show cvOK 101 23 107 102 2 3 8 = true by decide +kernel) rfl rfl rfl (S_102 hw1) (KP_V ?_)
      show Go XC (d + 1) 101 0 26 [some (.ref 32), some (.int v1), some (.int (v1 - 1)), none, none, none] [] w1.2 (RV (vU r.1) r.2)
      refine go_run mm_101 4 (pc' := 32) (ls' := [some (.ref 32), some (.int v1), some (.int (v1 - 1)), none, none, none]) (st' := [.int (v1 - 1), .ref 35, .ref 32]) (S' := w1.2) rfl ?_
      obtain ⟨hb4, hr⟩ := ck_some hr
      refine go_iaload mm_101 (q := (Int32.toNatClampNeg (v1 - 1))) rfl rfl rfl (ibd_ok hb4) ?_
      show Go XC (d + 1) 101 0 33 [some (.ref 32), some (.int v1), some (.int (v1 - 1)), none, none, none] [.int (w1.2.1 35 (Int32.toNatClampNeg (v1 - 1))), .ref 32] w1.2 (RV (vU r.1) r.2)
      refine go_run mm_101 1 (pc' := 34) (ls' := [some (.ref 32), some (.int v1), some (.int (v1 - 1)), none, none, none]) (st' := [.int 1, .int (w1.2.1 35 (Int32.toNatClampNeg (v1 - 1))), .ref 32]) (S' := w1.2) rfl ?_
      obtain ⟨w2, hw2, hr⟩ := ob_some hr
      refine go_cv mm_101 (h := 32) (As := [.int (w1.2.1 35 (Int32.toNatClampNeg (v1 - 1))), .int 1]) (rest := []) (nl := 3) rfl rfl (show cvOK 101 34 107 102 2 3 8 = true by decide +kernel) rfl rfl rfl (S_102 hw2) (KP_V ?_)
      show Go XC (d + 1) 101 0 37 [some (.ref 32), some (.int v1), some (.int (v1 - 1)), none, none, none] [] w2.2 (RV (vU r.1) r.2)
      refine go_run mm_101 4 (pc' := 43) (ls' := [some (.ref 32), some (.int v1), some (.int (v1 - 1)), none, none, none]) (st' := [.int (v1 - 1), .ref 36, .ref 32]) (S' := w2.2) rfl ?_
      obtain ⟨hb5, hr⟩ := ck_some hr
      refine go_iaload mm_101 (q := (Int32.toNatClampNeg (v1 - 1))) rfl rfl rfl (ibd_ok hb5) ?_
      show Go XC (d + 1) 101 0 44 [some (.ref 32), some (.int v1), some (.int (v1 - 1)), none, none, none] [.int (w2.2.1 36 (Int32.toNatClampNeg (v1 - 1))), .ref 32] w2.2 (RV (vU r.1) r.2)
      refine go_run mm_101 1 (pc' := 45) (ls' := [some (.ref 32), some (.int v1), some (.int (v1 - 1)), none, none, none]) (st' := [.int 2, .int (w2.2.1 36 (Int32.toNatClampNeg (v1 - 1))), .ref 32]) (S' := w2.2) rfl ?_
      obtain ⟨w3, hw3, hr⟩ := ob_some hr
      refine go_cv mm_101 (h := 32) (As := [.int (w2.2.1 36 (Int32.toNatClampNeg (v1 - 1))), .int 2]) (rest := []) (nl := 3) rfl rfl (show cvOK 101 45 107 102 2 3 8 = true by decide +kernel) rfl rfl rfl (S_102 hw3) (KP_V ?_)
      show Go XC (d + 1) 101 0 48 [some (.ref 32), some (.int v1), some (.int (v1 - 1)), none, none, none] [] w3.2 (RV (vU r.1) r.2)
      refine go_run mm_101 4 (pc' := 52) (ls' := [some (.ref 32), some (.int v1), some (.int (v1 - 1)), some (.int ((v1 - 1) - 1)), none, none]) (st' := []) (S' := w3.2) rfl ?_
      obtain ⟨z52, he52, hr⟩ := ob_some hr
      refine Go.le (ls' := [some (.ref 32), some (.int v1), some (.int (v1 - 1)), some (.int ((v1 - 1) - 1)), none, none]) ?_ (by repeat first | exact True.intro | refine And.intro rfl ?_)
      refine wh_go (P := fun a52 => Go XC (d + 1) 101 0 52 [some (.ref 32), some (.int v1), some (.int (v1 - 1)), some (.int a52.1), none, none] [] a52.2 (RV (vU r.1) r.2)) (K := fun e52 => Go XC (d + 1) 101 0 121 [some (.ref 32), some (.int v1), some (.int (v1 - 1)), some (.int e52.1), none, none] [] e52.2 (RV (vU r.1) r.2)) (fun a9 r9 h9 hL hR => LS_101_52 h9 hL hR) _ _ _ he52 ?_
      generalize z52 = e52 at hr
      show Go XC (d + 1) 101 0 121 [some (.ref 32), some (.int v1), some (.int (v1 - 1)), some (.int e52.1), none, none] [] e52.2 (RV (vU r.1) r.2)
      refine go_run mm_101 3 (pc' := 126) (ls' := [some (.ref 32), some (.int v1), some (.int (v1 - 1)), some (.int e52.1), none, none]) (st' := [.int 0, .ref 37]) (S' := e52.2) rfl ?_
      refine go_iaload mm_101 (q := 0) rfl rfl rfl (inB_lit rfl) ?_
      show Go XC (d + 1) 101 0 127 [some (.ref 32), some (.int v1), some (.int (v1 - 1)), some (.int e52.1), none, none] [.int (e52.2.1 37 0)] e52.2 (RV (vU r.1) r.2)
      refine go_run mm_101 4 (pc' := 133) (ls' := [some (.ref 32), some (.int v1), some (.int (v1 - 1)), some (.int (e52.2.1 37 0)), none, none]) (st' := [.int 1, .ref 37]) (S' := e52.2) rfl ?_
      refine go_iaload mm_101 (q := 1) rfl rfl rfl (inB_lit rfl) ?_
      show Go XC (d + 1) 101 0 134 [some (.ref 32), some (.int v1), some (.int (v1 - 1)), some (.int (e52.2.1 37 0)), none, none] [.int (e52.2.1 37 1)] e52.2 (RV (vU r.1) r.2)
      refine go_run mm_101 3 (pc' := 139) (ls' := [some (.ref 32), some (.int v1), some (.int (v1 - 1)), some (.int (e52.2.1 37 0)), some (.int (e52.2.1 37 1)), some (.int 0)]) (st' := []) (S' := e52.2) rfl ?_
      obtain ⟨z139, he139, hr⟩ := ob_some hr
      refine Go.le (ls' := [some (.ref 32), some (.int v1), some (.int (v1 - 1)), some (.int (e52.2.1 37 0)), some (.int (e52.2.1 37 1)), some (.int 0)]) ?_ (by repeat first | exact True.intro | refine And.intro rfl ?_)
      refine wh_go (P := fun a139 => Go XC (d + 1) 101 0 139 [some (.ref 32), some (.int v1), some (.int (v1 - 1)), some (.int (e52.2.1 37 0)), some (.int (e52.2.1 37 1)), some (.int a139.1)] [] a139.2 (RV (vU r.1) r.2)) (K := fun e139 => Go XC (d + 1) 101 0 203 [some (.ref 32), some (.int v1), some (.int (v1 - 1)), some (.int (e52.2.1 37 0)), some (.int (e52.2.1 37 1)), some (.int e139.1)] [] e139.2 (RV (vU r.1) r.2)) (fun a9 r9 h9 hL hR => LS_101_139 h9 hL hR) _ _ _ he139 ?_
      generalize z139 = e139 at hr
      show Go XC (d + 1) 101 0 203 [some (.ref 32), some (.int v1), some (.int (v1 - 1)), some (.int (e52.2.1 37 0)), some (.int (e52.2.1 37 1)), some (.int e139.1)] [] e139.2 (RV (vU r.1) r.2)
      cases hr
      exact go_vreturn mm_101 rfl rfl ⟨rfl, rfl, rfl⟩
    · rw [if_neg hc2] at hr
      cases hr
      exact go_vreturn mm_101 rfl rfl ⟨rfl, rfl, rfl⟩

theorem mm_95 : mtG 95 = some (mi_95, 9, ft_95) := rfl
def L_95_31 (a31 : Int32 × ST) : Option ((Int32 × ST) ⊕ (Int32 × ST)) := if a31.1 < (a31.2.1 32 7) then (ck (ibd a31.1 12) (sbn ((wI a31.2 38 (Int32.toNatClampNeg a31.1) a31.1)) (fun s4 => some (.inl (a31.1 + 1, s4))))) else (some (.inr (a31.1, a31.2)))
set_option maxRecDepth 20000 in
theorem LS_95_31 {d : Nat} {R : RT} {a31 : Int32 × ST} {r9} (hr : L_95_31 a31 = some r9) (hL : ∀ a9, r9 = .inl a9 → (fun a31 => Go XC (d + 5) 95 0 31 [some (.ref 32), some (.int a31.1), none, none] [] a31.2 R) a9) (hR : ∀ b9, r9 = .inr b9 → (fun e31 => Go XC (d + 5) 95 0 52 [some (.ref 32), some (.int e31.1), none, none] [] e31.2 R) b9) : Go XC (d + 5) 95 0 31 [some (.ref 32), some (.int a31.1), none, none] [] a31.2 R := by
  unfold L_95_31 at hr
  refine go_run mm_95 3 (pc' := 36) (ls' := [some (.ref 32), some (.int a31.1), none, none]) (st' := [.int (a31.2.1 32 7), .int a31.1]) (S' := a31.2) rfl ?_
  refine go_if2 mm_95 rfl (p1 := 39) (p2 := 52) rfl (fun (hc2 : a31.1 < (a31.2.1 32 7)) => ?_) (fun (hc2 : ¬ a31.1 < (a31.2.1 32 7)) => ?_)
  · rw [if_pos hc2] at hr
    refine go_run mm_95 4 (pc' := 45) (ls' := [some (.ref 32), some (.int a31.1), none, none]) (st' := [.int a31.1, .int a31.1, .ref 38]) (S' := a31.2) rfl ?_
    obtain ⟨hb3, hr⟩ := ck_some hr
    refine go_iastore mm_95 (q := (Int32.toNatClampNeg a31.1)) rfl rfl rfl (ibd_ok hb3) ?_
    show Go XC (d + 5) 95 0 46 [some (.ref 32), some (.int a31.1), none, none] [] (wI a31.2 38 (Int32.toNatClampNeg a31.1) a31.1) R
    obtain ⟨s4, es4, hr⟩ := sbn_some hr
    rw [← es4]
    refine go_run mm_95 2 (pc' := 31) (ls' := [some (.ref 32), some (.int (a31.1 + 1)), none, none]) (st' := []) (S' := s4) rfl ?_
    cases hr
    have h9 := hL (a31.1 + 1, s4) rfl
    dsimp only at h9
    exact Go.le h9 (by repeat first | exact True.intro | refine And.intro rfl ?_)
  · rw [if_neg hc2] at hr
    cases hr
    have h9 := hR (a31.1, a31.2) rfl
    dsimp only [Sum.elim_inl] at h9
    exact Go.le h9 (by repeat first | exact True.intro | refine And.intro rfl ?_)
def L_95_77 (p77_1 : Bool) (p77_2 : Int32) (a77 : Int32 × ST) : Option ((Int32 × ST) ⊕ (Int32 × ST)) := if a77.1 < p77_2 then (if a77.1 < 10 then (ob (F_96 p77_1 a77.2) (fun w2 => ob (F_100 a77.1 w2 a77.2) (fun w3 => some (.inl (a77.1 + 1, w3.2))))) else (some (.inr (a77.1, a77.2)))) else (some (.inr (a77.1, a77.2)))
set_option maxRecDepth 20000 in
theorem LS_95_77 {d : Nat} {R : RT} {p77_1 : Bool} {p77_2 : Int32} {a77 : Int32 × ST} {r9} (hr : L_95_77 p77_1 p77_2 a77 = some r9) (hL : ∀ a9, r9 = .inl a9 → (fun a77 => Go XC (d + 5) 95 0 77 [some (.ref 32), some (.int (b2i p77_1)), some (.int p77_2), some (.int a77.1)] [] a77.2 R) a9) (hR : ∀ b9, r9 = .inr b9 → (fun e77 => Go XC (d + 5) 95 0 104 [some (.ref 32), some (.int (b2i p77_1)), some (.int p77_2), some (.int e77.1)] [] e77.2 R) b9) : Go XC (d + 5) 95 0 77 [some (.ref 32), some (.int (b2i p77_1)), some (.int p77_2), some (.int a77.1)] [] a77.2 R := by
  unfold L_95_77 at hr
  refine go_run mm_95 2 (pc' := 79) (ls' := [some (.ref 32), some (.int (b2i p77_1)), some (.int p77_2), some (.int a77.1)]) (st' := [.int p77_2, .int a77.1]) (S' := a77.2) rfl ?_
  refine go_if2 mm_95 rfl (p1 := 82) (p2 := 104) rfl (fun (hc6 : a77.1 < p77_2) => ?_) (fun (hc6 : ¬ a77.1 < p77_2) => ?_)
  · rw [if_pos hc6] at hr
    refine go_run mm_95 2 (pc' := 85) (ls' := [some (.ref 32), some (.int (b2i p77_1)), some (.int p77_2), some (.int a77.1)]) (st' := [.int 10, .int a77.1]) (S' := a77.2) rfl ?_
    refine go_if2 mm_95 rfl (p1 := 88) (p2 := 104) rfl (fun (hc7 : a77.1 < 10) => ?_) (fun (hc7 : ¬ a77.1 < 10) => ?_)
    · rw [if_pos hc7] at hr
      refine go_run mm_95 4 (pc' := 92) (ls' := [some (.ref 32), some (.int (b2i p77_1)), some (.int p77_2), some (.int a77.1)]) (st' := [.int (b2i p77_1), .ref 32, .int a77.1, .ref 32]) (S' := a77.2) rfl ?_
      obtain ⟨w2, hw2, hr⟩ := ob_some hr
      refine go_cv mm_95 (h := 32) (As := [.int (b2i p77_1)]) (rest := [.int a77.1, .ref 32]) (nl := 4) rfl rfl (show cvOK 95 92 81 96 1 4 8 = true by decide +kernel) rfl rfl rfl (S_96 hw2) (KP_V ?_)
      show Go XC (d + 5) 95 0 95 [some (.ref 32), some (.int (b2i p77_1)), some (.int p77_2), some (.int a77.1)] [.int w2, .int a77.1, .ref 32] a77.2 R
      obtain ⟨w3, hw3, hr⟩ := ob_some hr
      refine go_cv mm_95 (h := 32) (As := [.int a77.1, .int w2]) (rest := []) (nl := 7) rfl rfl (show cvOK 95 95 85 100 2 7 8 = true by decide +kernel) rfl rfl rfl (S_100 hw3) (KP_V ?_)
      show Go XC (d + 5) 95 0 98 [some (.ref 32), some (.int (b2i p77_1)), some (.int p77_2), some (.int a77.1)] [] w3.2 R
      refine go_run mm_95 2 (pc' := 77) (ls' := [some (.ref 32), some (.int (b2i p77_1)), some (.int p77_2), some (.int (a77.1 + 1))]) (st' := []) (S' := w3.2) rfl ?_
      cases hr
      have h9 := hL (a77.1 + 1, w3.2) rfl
      dsimp only at h9
      exact Go.le h9 (by repeat first | exact True.intro | refine And.intro rfl ?_)
    · rw [if_neg hc7] at hr
      cases hr
      have h9 := hR (a77.1, a77.2) rfl
      dsimp only [Sum.elim_inl] at h9
      exact Go.le h9 (by repeat first | exact True.intro | refine And.intro rfl ?_)
  · rw [if_neg hc6] at hr
    cases hr
    have h9 := hR (a77.1, a77.2) rfl
    dsimp only [Sum.elim_inl] at h9
    exact Go.le h9 (by repeat first | exact True.intro | refine And.intro rfl ?_)
def F_95 (S : ST) : Option (Unit × ST) := if (S.1 32 8) = 0 then (ob (wh FU (L_95_31) (0, (wI (wI S 32 8 1) 32 7 (if 12 < (S.1 3 0) then 12 else (S.1 3 0))))) (fun e31 => ob (F_25 3 e31.2) (fun w1 => ob (wh FU (L_95_77 (decide ((0 : Int32) < w1)) ((e31.2.1 32 7) - 2)) (0, e31.2)) (fun e77 => ob (F_101 ((e31.2.1 32 7) - 2) e77.2) (fun w4 => some ((), w4.2)))))) else (some ((), S))
set_option maxRecDepth 20000 in
theorem S_95 {d : Nat} {S : ST} {r} (hr : F_95 S = some r) : Cal XC (d + 5) 95 [.ref 32] S (RV (vU r.1) r.2) := by
  unfold F_95 at hr
  refine cal_go 3 rfl ?_
  refine go_run mm_95 2 (pc' := 4) (ls' := [some (.ref 32), none, none, none]) (st' := [.int (S.1 32 8)]) (S' := S) rfl ?_
  refine go_if0 mm_95 rfl (p1 := 8) (p2 := 7) rfl (fun (hc1 : (S.1 32 8) = 0) => ?_) (fun (hc1 : ¬ (S.1 32 8) = 0) => ?_)
  · rw [if_pos hc1] at hr
    refine go_run mm_95 8 (pc' := 23) (ls' := [some (.ref 32), none, none, none]) (st' := [.int 12, .int (S.1 3 0), .ref 32]) (S' := (wI S 32 8 1)) rfl ?_
    refine go_mm (pc' := 26) (st' := [.int (if 12 < (S.1 3 0) then 12 else (S.1 3 0)), .ref 32]) (fun lv σ => rfl) ?_
    show Go XC (d + 5) 95 0 26 [some (.ref 32), none, none, none] [.int (if 12 < (S.1 3 0) then 12 else (S.1 3 0)), .ref 32] (wI S 32 8 1) (RV (vU r.1) r.2)
    refine go_run mm_95 3 (pc' := 31) (ls' := [some (.ref 32), some (.int 0), none, none]) (st' := []) (S' := (wI (wI S 32 8 1) 32 7 (if 12 < (S.1 3 0) then 12 else (S.1 3 0)))) rfl ?_
    obtain ⟨z31, he31, hr⟩ := ob_some hr
    refine Go.le (ls' := [some (.ref 32), some (.int 0), none, none]) ?_ (by repeat first | exact True.intro | refine And.intro rfl ?_)
    refine wh_go (P := fun a31 => Go XC (d + 5) 95 0 31 [some (.ref 32), some (.int a31.1), none, none] [] a31.2 (RV (vU r.1) r.2)) (K := fun e31 => Go XC (d + 5) 95 0 52 [some (.ref 32), some (.int e31.1), none, none] [] e31.2 (RV (vU r.1) r.2)) (fun a9 r9 h9 hL hR => LS_95_31 h9 hL hR) _ _ _ he31 ?_
    generalize z31 = e31 at hr
    show Go XC (d + 5) 95 0 52 [some (.ref 32), some (.int e31.1), none, none] [] e31.2 (RV (vU r.1) r.2)
    refine go_run mm_95 2 (pc' := 56) (ls' := [some (.ref 32), some (.int e31.1), none, none]) (st' := [.ref 3]) (S' := e31.2) rfl ?_
    obtain ⟨w1, hw1, hr⟩ := ob_some hr
    refine go_cs mm_95 (av := [.ref 3]) (rest := []) (nl := 4) rfl (show csOK 95 56 77 25 1 4 = true by decide +kernel) rfl rfl rfl (S_25 (plB_ok rfl) hw1) (KP_V ?_)
    show Go XC (d + 5) 95 0 59 [some (.ref 32), some (.int e31.1), none, none] [.int w1] e31.2 (RV (vU r.1) r.2)
    have j8 : Go XC (d + 5) 95 0 67 [some (.ref 32), some (.int e31.1), none, none] [.int (b2i (decide ((0 : Int32) < w1)))] e31.2 (RV (vU r.1) r.2) := by
      refine go_run mm_95 8 (pc' := 77) (ls' := [some (.ref 32), some (.int (b2i (decide ((0 : Int32) < w1)))), some (.int ((e31.2.1 32 7) - 2)), some (.int 0)]) (st' := []) (S' := e31.2) rfl ?_
      obtain ⟨z77, he77, hr⟩ := ob_some hr
      refine Go.le (ls' := [some (.ref 32), some (.int (b2i (decide ((0 : Int32) < w1)))), some (.int ((e31.2.1 32 7) - 2)), some (.int 0)]) ?_ (by repeat first | exact True.intro | refine And.intro rfl ?_)
      refine wh_go (P := fun a77 => Go XC (d + 5) 95 0 77 [some (.ref 32), some (.int (b2i (decide ((0 : Int32) < w1)))), some (.int ((e31.2.1 32 7) - 2)), some (.int a77.1)] [] a77.2 (RV (vU r.1) r.2)) (K := fun e77 => Go XC (d + 5) 95 0 104 [some (.ref 32), some (.int (b2i (decide ((0 : Int32) < w1)))), some (.int ((e31.2.1 32 7) - 2)), some (.int e77.1)] [] e77.2 (RV (vU r.1) r.2)) (fun a9 r9 h9 hL hR => LS_95_77 h9 hL hR) _ _ _ he77 ?_
      generalize z77 = e77 at hr
      show Go XC (d + 5) 95 0 104 [some (.ref 32), some (.int (b2i (decide ((0 : Int32) < w1)))), some (.int ((e31.2.1 32 7) - 2)), some (.int e77.1)] [] e77.2 (RV (vU r.1) r.2)
      refine go_run mm_95 2 (pc' := 106) (ls' := [some (.ref 32), some (.int (b2i (decide ((0 : Int32) < w1)))), some (.int ((e31.2.1 32 7) - 2)), some (.int e77.1)]) (st' := [.int ((e31.2.1 32 7) - 2), .ref 32]) (S' := e77.2) rfl ?_
      obtain ⟨w4, hw4, hr⟩ := ob_some hr
      refine go_cv mm_95 (h := 32) (As := [.int ((e31.2.1 32 7) - 2)]) (rest := []) (nl := 6) rfl rfl (show cvOK 95 106 89 101 1 6 8 = true by decide +kernel) rfl rfl rfl (S_101 hw4) (KP_V ?_)
      show Go XC (d + 5) 95 0 109 [some (.ref 32), some (.int (b2i (decide ((0 : Int32) < w1)))), some (.int ((e31.2.1 32 7) - 2)), some (.int e77.1)] [] w4.2 (RV (vU r.1) r.2)
      cases hr
      exact go_vreturn mm_95 rfl rfl ⟨rfl, rfl, rfl⟩
    refine go_if0 mm_95 rfl (p1 := 62) (p2 := 66) rfl (fun (hc5 : (0 : Int32) < w1) => ?_) (fun (hc5 : ¬ (0 : Int32) < w1) => ?_)
    · refine go_run mm_95 2 (pc' := 67) (ls' := [some (.ref 32), some (.int e31.1), none, none]) (st' := [.int 1]) (S' := e31.2) rfl ?_
      have e : ((b2i (decide ((0 : Int32) < w1))) : Int32) = 1 := by simp [b2i, hc5]
      rw [e] at j8
      exact j8
    · refine go_run mm_95 1 (pc' := 67) (ls' := [some (.ref 32), some (.int e31.1), none, none]) (st' := [.int 0]) (S' := e31.2) rfl ?_
      have e : ((b2i (decide ((0 : Int32) < w1))) : Int32) = 0 := by simp [b2i, hc5]
      rw [e] at j8
      exact j8
  · rw [if_neg hc1] at hr
    cases hr
    exact go_vreturn mm_95 rfl rfl ⟨rfl, rfl, rfl⟩

theorem mm_104 : mtG 104 = some (mi_104, 10, ft_104) := rfl
def F_104 (v1 : Int32) (S : ST) : Option Int32 := ob (F_52 3 v1 S) (fun w1 => ob (F_53 3 v1 S) (fun w2 => ob (F_18 21 w1 w2 S) (fun w3 => some w3)))
set_option maxRecDepth 20000 in
theorem S_104 {d : Nat} {S : ST} {v1 : Int32} {r} (hr : F_104 v1 S = some r) : Cal XC (d + 1) 104 [.ref 46, .int v1] S (RV (vI r) S) := by
  unfold F_104 at hr
  refine cal_go 0 rfl ?_
  refine go_run mm_104 5 (pc' := 9) (ls' := [some (.ref 46), some (.int v1)]) (st' := [.int v1, .ref 3, .ref 21]) (S' := S) rfl ?_
  obtain ⟨w1, hw1, hr⟩ := ob_some hr
  refine go_cv mm_104 (h := 3) (As := [.int v1]) (rest := [.ref 21]) (nl := 2) rfl rfl (show cvOK 104 9 23 52 1 2 5 = true by decide +kernel) rfl rfl rfl (S_52 (plB_ok rfl) hw1) (KP_V ?_)
  show Go XC (d + 1) 104 0 12 [some (.ref 46), some (.int v1)] [.int w1, .ref 21] S (RV (vI r) S)
  refine go_run mm_104 3 (pc' := 17) (ls' := [some (.ref 46), some (.int v1)]) (st' := [.int v1, .ref 3, .int w1, .ref 21]) (S' := S) rfl ?_
  obtain ⟨w2, hw2, hr⟩ := ob_some hr
  refine go_cv mm_104 (h := 3) (As := [.int v1]) (rest := [.int w1, .ref 21]) (nl := 2) rfl rfl (show cvOK 104 17 29 53 1 2 5 = true by decide +kernel) rfl rfl rfl (S_53 (plB_ok rfl) hw2) (KP_V ?_)
  show Go XC (d + 1) 104 0 20 [some (.ref 46), some (.int v1)] [.int w2, .int w1, .ref 21] S (RV (vI r) S)
  obtain ⟨w3, hw3, hr⟩ := ob_some hr
  refine go_cv mm_104 (h := 21) (As := [.int w1, .int w2]) (rest := []) (nl := 3) rfl rfl (show cvOK 104 20 32 18 2 3 3 = true by decide +kernel) rfl rfl rfl (S_18 (ltB_ok rfl) hw3) (KP_V ?_)
  show Go XC (d + 1) 104 0 23 [some (.ref 46), some (.int v1)] [.int w3] S (RV (vI r) S)
  cases hr
  exact go_ireturn mm_104 rfl rfl ⟨rfl, rfl, rfl⟩

theorem mm_105 : mtG 105 = some (mi_105, 10, ft_105) := rfl
def F_105 (v1 : Int32) (S : ST) : Option Int32 := ob (F_60 3 v1 S) (fun w1 => ob (F_61 3 v1 S) (fun w2 => ob (F_18 21 w1 w2 S) (fun w3 => some w3)))
set_option maxRecDepth 20000 in
theorem S_105 {d : Nat} {S : ST} {v1 : Int32} {r} (hr : F_105 v1 S = some r) : Cal XC (d + 1) 105 [.ref 46, .int v1] S (RV (vI r) S) := by
  unfold F_105 at hr
  refine cal_go 0 rfl ?_
  refine go_run mm_105 5 (pc' := 9) (ls' := [some (.ref 46), some (.int v1)]) (st' := [.int v1, .ref 3, .ref 21]) (S' := S) rfl ?_
  obtain ⟨w1, hw1, hr⟩ := ob_some hr
  refine go_cv mm_105 (h := 3) (As := [.int v1]) (rest := [.ref 21]) (nl := 2) rfl rfl (show cvOK 105 9 38 60 1 2 5 = true by decide +kernel) rfl rfl rfl (S_60 (plB_ok rfl) hw1) (KP_V ?_)
  show Go XC (d + 1) 105 0 12 [some (.ref 46), some (.int v1)] [.int w1, .ref 21] S (RV (vI r) S)
  refine go_run mm_105 3 (pc' := 17) (ls' := [some (.ref 46), some (.int v1)]) (st' := [.int v1, .ref 3, .int w1, .ref 21]) (S' := S) rfl ?_
  obtain ⟨w2, hw2, hr⟩ := ob_some hr
  refine go_cv mm_105 (h := 3) (As := [.int v1]) (rest := [.int w1, .ref 21]) (nl := 2) rfl rfl (show cvOK 105 17 41 61 1 2 5 = true by decide +kernel) rfl rfl rfl (S_61 (plB_ok rfl) hw2) (KP_V ?_)
  show Go XC (d + 1) 105 0 20 [some (.ref 46), some (.int v1)] [.int w2, .int w1, .ref 21] S (RV (vI r) S)
  obtain ⟨w3, hw3, hr⟩ := ob_some hr
  refine go_cv mm_105 (h := 21) (As := [.int w1, .int w2]) (rest := []) (nl := 3) rfl rfl (show cvOK 105 20 32 18 2 3 3 = true by decide +kernel) rfl rfl rfl (S_18 (ltB_ok rfl) hw3) (KP_V ?_)
  show Go XC (d + 1) 105 0 23 [some (.ref 46), some (.int v1)] [.int w3] S (RV (vI r) S)
  cases hr
  exact go_ireturn mm_105 rfl rfl ⟨rfl, rfl, rfl⟩

theorem mm_106 : mtG 106 = some (mi_106, 10, ft_106) := rfl
def L_106_15 (v1 : Int32) (v2 : Int32) (p15_3 : Int64) (S : ST) (a15 : Int64 × Int32) : Option ((Int64 × Int32) ⊕ (Int64 × Int32)) := if a15.2 < (S.1 21 0) then (if a15.2 < 64 then (ob (F_19 21 a15.2 S) (fun w2 => ob (F_19 21 v1 S) (fun w3 => ob (F_20 21 a15.2 S) (fun w4 => ob (F_20 21 v1 S) (fun w5 => if (F_177 p15_3 a15.2) = true then (if (v2 * v2) < (((w2 - w3) * (w2 - w3)) + ((w4 - w5) * (w4 - w5))) then (some (.inl (a15.1, a15.2 + 1))) else (some (.inl (a15.1 ||| (1 <<< (Int32.toInt64 a15.2 &&& 63)), a15.2 + 1)))) else (some (.inl (a15.1, a15.2 + 1)))))))) else (some (.inr (a15.1, a15.2)))) else (some (.inr (a15.1, a15.2)))
set_option maxRecDepth 20000 in
theorem LS_106_15 {d : Nat} {R : RT} {S : ST} {v1 : Int32} {v2 : Int32} {p15_3 : Int64} {a15 : Int64 × Int32} {r9} (hr : L_106_15 v1 v2 p15_3 S a15 = some r9) (hL : ∀ a9, r9 = .inl a9 → (fun a15 => Go XC (d + 1) 106 0 15 [some (.ref 46), some (.int v1), some (.int v2), some (.long p15_3), none, some (.long a15.1), none, some (.int a15.2), none, none] [] S R) a9) (hR : ∀ b9, r9 = .inr b9 → (fun e15 => Go XC (d + 1) 106 0 115 [some (.ref 46), some (.int v1), some (.int v2), some (.long p15_3), none, some (.long e15.1), none, some (.int e15.2), none, none] [] S R) b9) : Go XC (d + 1) 106 0 15 [some (.ref 46), some (.int v1), some (.int v2), some (.long p15_3), none, some (.long a15.1), none, some (.int a15.2), none, none] [] S R := by
  unfold L_106_15 at hr
  refine go_run mm_106 4 (pc' := 24) (ls' := [some (.ref 46), some (.int v1), some (.int v2), some (.long p15_3), none, some (.long a15.1), none, some (.int a15.2), none, none]) (st' := [.int (S.1 21 0), .int a15.2]) (S' := S) rfl ?_
  refine go_if2 mm_106 rfl (p1 := 27) (p2 := 115) rfl (fun (hc1 : a15.2 < (S.1 21 0)) => ?_) (fun (hc1 : ¬ a15.2 < (S.1 21 0)) => ?_)
  · rw [if_pos hc1] at hr
    refine go_run mm_106 2 (pc' := 31) (ls' := [some (.ref 46), some (.int v1), some (.int v2), some (.long p15_3), none, some (.long a15.1), none, some (.int a15.2), none, none]) (st' := [.int 64, .int a15.2]) (S' := S) rfl ?_
    refine go_if2 mm_106 rfl (p1 := 34) (p2 := 115) rfl (fun (hc2 : a15.2 < 64) => ?_) (fun (hc2 : ¬ a15.2 < 64) => ?_)
    · rw [if_pos hc2] at hr
      refine go_run mm_106 3 (pc' := 40) (ls' := [some (.ref 46), some (.int v1), some (.int v2), some (.long p15_3), none, some (.long a15.1), none, some (.int a15.2), none, none]) (st' := [.int a15.2, .ref 21]) (S' := S) rfl ?_
      obtain ⟨w2, hw2, hr⟩ := ob_some hr
      refine go_cv mm_106 (h := 21) (As := [.int a15.2]) (rest := []) (nl := 2) rfl rfl (show cvOK 106 40 54 19 1 2 3 = true by decide +kernel) rfl rfl rfl (S_19 (ltB_ok rfl) hw2) (KP_V ?_)
      show Go XC (d + 1) 106 0 43 [some (.ref 46), some (.int v1), some (.int v2), some (.long p15_3), none, some (.long a15.1), none, some (.int a15.2), none, none] [.int w2] S R
      refine go_run mm_106 3 (pc' := 48) (ls' := [some (.ref 46), some (.int v1), some (.int v2), some (.long p15_3), none, some (.long a15.1), none, some (.int a15.2), none, none]) (st' := [.int v1, .ref 21, .int w2]) (S' := S) rfl ?_
      obtain ⟨w3, hw3, hr⟩ := ob_some hr
      refine go_cv mm_106 (h := 21) (As := [.int v1]) (rest := [.int w2]) (nl := 2) rfl rfl (show cvOK 106 48 54 19 1 2 3 = true by decide +kernel) rfl rfl rfl (S_19 (ltB_ok rfl) hw3) (KP_V ?_)
      show Go XC (d + 1) 106 0 51 [some (.ref 46), some (.int v1), some (.int v2), some (.long p15_3), none, some (.long a15.1), none, some (.int a15.2), none, none] [.int w3, .int w2] S R
      refine go_run mm_106 5 (pc' := 60) (ls' := [some (.ref 46), some (.int v1), some (.int v2), some (.long p15_3), none, some (.long a15.1), none, some (.int a15.2), some (.int (w2 - w3)), none]) (st' := [.int a15.2, .ref 21]) (S' := S) rfl ?_
      obtain ⟨w4, hw4, hr⟩ := ob_some hr
      refine go_cv mm_106 (h := 21) (As := [.int a15.2]) (rest := []) (nl := 2) rfl rfl (show cvOK 106 60 57 20 1 2 3 = true by decide +kernel) rfl rfl rfl (S_20 (ltB_ok rfl) hw4) (KP_V ?_)
      show Go XC (d + 1) 106 0 63 [some (.ref 46), some (.int v1), some (.int v2), some (.long p15_3), none, some (.long a15.1), none, some (.int a15.2), some (.int (w2 - w3)), none] [.int w4] S R
      refine go_run mm_106 3 (pc' := 68) (ls' := [some (.ref 46), some (.int v1), some (.int v2), some (.long p15_3), none, some (.long a15.1), none, some (.int a15.2), some (.int (w2 - w3)), none]) (st' := [.int v1, .ref 21, .int w4]) (S' := S) rfl ?_
      obtain ⟨w5, hw5, hr⟩ := ob_some hr
      refine go_cv mm_106 (h := 21) (As := [.int v1]) (rest := [.int w4]) (nl := 2) rfl rfl (show cvOK 106 68 57 20 1 2 3 = true by decide +kernel) rfl rfl rfl (S_20 (ltB_ok rfl) hw5) (KP_V ?_)
      show Go XC (d + 1) 106 0 71 [some (.ref 46), some (.int v1), some (.int v2), some (.long p15_3), none, some (.long a15.1), none, some (.int a15.2), some (.int (w2 - w3)), none] [.int w5, .int w4] S R
      refine go_run mm_106 4 (pc' := 77) (ls' := [some (.ref 46), some (.int v1), some (.int v2), some (.long p15_3), none, some (.long a15.1), none, some (.int a15.2), some (.int (w2 - w3)), some (.int (w4 - w5))]) (st' := [.int a15.2, .long p15_3]) (S' := S) rfl ?_
      refine go_cs mm_106 (av := [.long p15_3, .int a15.2]) (rest := []) (nl := 3) rfl (show csOK 106 77 60 177 2 3 = true by decide +kernel) rfl rfl rfl (S_177 rfl) (KP_V ?_)
      show Go XC (d + 1) 106 0 80 [some (.ref 46), some (.int v1), some (.int v2), some (.long p15_3), none, some (.long a15.1), none, some (.int a15.2), some (.int (w2 - w3)), some (.int (w4 - w5))] [.int (b2i (F_177 p15_3 a15.2))] S R
      refine go_ifb mm_106 rfl (p1 := 83) (p2 := 109) rfl (fun (hc3 : (F_177 p15_3 a15.2) = true) => ?_) (fun (hc3 : (F_177 p15_3 a15.2) = false) => ?_)
      · rw [if_pos hc3] at hr
        refine go_run mm_106 10 (pc' := 97) (ls' := [some (.ref 46), some (.int v1), some (.int v2), some (.long p15_3), none, some (.long a15.1), none, some (.int a15.2), some (.int (w2 - w3)), some (.int (w4 - w5))]) (st' := [.int (v2 * v2), .int (((w2 - w3) * (w2 - w3)) + ((w4 - w5) * (w4 - w5)))]) (S' := S) rfl ?_
        refine go_if2 mm_106 rfl (p1 := 109) (p2 := 100) rfl (fun (hc4 : (v2 * v2) < (((w2 - w3) * (w2 - w3)) + ((w4 - w5) * (w4 - w5)))) => ?_) (fun (hc4 : ¬ (v2 * v2) < (((w2 - w3) * (w2 - w3)) + ((w4 - w5) * (w4 - w5)))) => ?_)
        · rw [if_pos hc4] at hr
          refine go_run mm_106 2 (pc' := 15) (ls' := [some (.ref 46), some (.int v1), some (.int v2), some (.long p15_3), none, some (.long a15.1), none, some (.int (a15.2 + 1)), some (.int (w2 - w3)), some (.int (w4 - w5))]) (st' := []) (S' := S) rfl ?_
          cases hr
          have h9 := hL (a15.1, a15.2 + 1) rfl
          dsimp only at h9
          exact Go.le h9 (by repeat first | exact True.intro | refine And.intro rfl ?_)
        · rw [if_neg hc4] at hr
          refine go_run mm_106 8 (pc' := 15) (ls' := [some (.ref 46), some (.int v1), some (.int v2), some (.long p15_3), none, some (.long (a15.1 ||| (1 <<< (Int32.toInt64 a15.2 &&& 63)))), none, some (.int (a15.2 + 1)), some (.int (w2 - w3)), some (.int (w4 - w5))]) (st' := []) (S' := S) rfl ?_
          cases hr
          have h9 := hL (a15.1 ||| (1 <<< (Int32.toInt64 a15.2 &&& 63)), a15.2 + 1) rfl
          dsimp only at h9
          exact Go.le h9 (by repeat first | exact True.intro | refine And.intro rfl ?_)
      · rw [if_neg (bf hc3)] at hr
        refine go_run mm_106 2 (pc' := 15) (ls' := [some (.ref 46), some (.int v1), some (.int v2), some (.long p15_3), none, some (.long a15.1), none, some (.int (a15.2 + 1)), some (.int (w2 - w3)), some (.int (w4 - w5))]) (st' := []) (S' := S) rfl ?_
        cases hr
        have h9 := hL (a15.1, a15.2 + 1) rfl
        dsimp only at h9
        exact Go.le h9 (by repeat first | exact True.intro | refine And.intro rfl ?_)
    · rw [if_neg hc2] at hr
      cases hr
      have h9 := hR (a15.1, a15.2) rfl
      dsimp only [Sum.elim_inl] at h9
      exact Go.le h9 (by repeat first | exact True.intro | refine And.intro rfl ?_)
  · rw [if_neg hc1] at hr
    cases hr
    have h9 := hR (a15.1, a15.2) rfl
    dsimp only [Sum.elim_inl] at h9
    exact Go.le h9 (by repeat first | exact True.intro | refine And.intro rfl ?_)
def F_106 (v1 : Int32) (v2 : Int32) (S : ST) : Option Int64 := ob (F_73 v1 S) (fun w1 => ob (wh FU (L_106_15 v1 v2 w1 S) (0, 0)) (fun e15 => some e15.1))
set_option maxRecDepth 20000 in
theorem S_106 {d : Nat} {S : ST} {v1 : Int32} {v2 : Int32} {r} (hr : F_106 v1 v2 S = some r) : Cal XC (d + 1) 106 [.ref 46, .int v1, .int v2] S (RV (vJ r) S) := by
  unfold F_106 at hr
  refine cal_go 7 rfl ?_
  refine go_run mm_106 3 (pc' := 5) (ls' := [some (.ref 46), some (.int v1), some (.int v2), none, none, none, none, none, none, none]) (st' := [.int v1, .ref 30]) (S' := S) rfl ?_
  obtain ⟨w1, hw1, hr⟩ := ob_some hr
  refine go_cv mm_106 (h := 30) (As := [.int v1]) (rest := []) (nl := 2) rfl rfl (show cvOK 106 5 44 73 1 2 6 = true by decide +kernel) rfl rfl rfl (S_73 hw1) (KP_V ?_)
  show Go XC (d + 1) 106 0 8 [some (.ref 46), some (.int v1), some (.int v2), none, none, none, none, none, none, none] [.long w1] S (RV (vJ r) S)
  refine go_run mm_106 5 (pc' := 15) (ls' := [some (.ref 46), some (.int v1), some (.int v2), some (.long w1), none, some (.long 0), none, some (.int 0), none, none]) (st' := []) (S' := S) rfl ?_
  obtain ⟨z15, he15, hr⟩ := ob_some hr
  refine Go.le (ls' := [some (.ref 46), some (.int v1), some (.int v2), some (.long w1), none, some (.long 0), none, some (.int 0), none, none]) ?_ (by repeat first | exact True.intro | refine And.intro rfl ?_)
  refine wh_go (P := fun a15 => Go XC (d + 1) 106 0 15 [some (.ref 46), some (.int v1), some (.int v2), some (.long w1), none, some (.long a15.1), none, some (.int a15.2), none, none] [] S (RV (vJ r) S)) (K := fun e15 => Go XC (d + 1) 106 0 115 [some (.ref 46), some (.int v1), some (.int v2), some (.long w1), none, some (.long e15.1), none, some (.int e15.2), none, none] [] S (RV (vJ r) S)) (fun a9 r9 h9 hL hR => LS_106_15 h9 hL hR) _ _ _ he15 ?_
  generalize z15 = e15 at hr
  show Go XC (d + 1) 106 0 115 [some (.ref 46), some (.int v1), some (.int v2), some (.long w1), none, some (.long e15.1), none, some (.int e15.2), none, none] [] S (RV (vJ r) S)
  refine go_run mm_106 1 (pc' := 117) (ls' := [some (.ref 46), some (.int v1), some (.int v2), some (.long w1), none, some (.long e15.1), none, some (.int e15.2), none, none]) (st' := [.long e15.1]) (S' := S) rfl ?_
  cases hr
  exact go_lreturn mm_106 rfl rfl ⟨rfl, rfl, rfl⟩

theorem mm_107 : mtG 107 = some (mi_107, 10, ft_107) := rfl
def F_107 (v1 : Int32) (S : ST) : Option Int64 := ob (F_104 v1 S) (fun w1 => ob (F_54 3 v1 S) (fun w2 => ob (F_106 w1 w2 S) (fun w3 => some w3)))
set_option maxRecDepth 20000 in
theorem S_107 {d : Nat} {S : ST} {v1 : Int32} {r} (hr : F_107 v1 S = some r) : Cal XC (d + 2) 107 [.ref 46, .int v1] S (RV (vJ r) S) := by
  unfold F_107 at hr
  refine cal_go 0 rfl ?_
  refine go_run mm_107 3 (pc' := 3) (ls' := [some (.ref 46), some (.int v1)]) (st' := [.int v1, .ref 46, .ref 46]) (S' := S) rfl ?_
  obtain ⟨w1, hw1, hr⟩ := ob_some hr
  refine go_cv mm_107 (h := 46) (As := [.int v1]) (rest := [.ref 46]) (nl := 2) rfl rfl (show cvOK 107 3 64 104 1 2 9 = true by decide +kernel) rfl rfl rfl (S_104 hw1) (KP_V ?_)
  show Go XC (d + 2) 107 0 6 [some (.ref 46), some (.int v1)] [.int w1, .ref 46] S (RV (vJ r) S)
  refine go_run mm_107 3 (pc' := 11) (ls' := [some (.ref 46), some (.int v1)]) (st' := [.int v1, .ref 3, .int w1, .ref 46]) (S' := S) rfl ?_
  obtain ⟨w2, hw2, hr⟩ := ob_some hr
  refine go_cv mm_107 (h := 3) (As := [.int v1]) (rest := [.int w1, .ref 46]) (nl := 2) rfl rfl (show cvOK 107 11 67 54 1 2 5 = true by decide +kernel) rfl rfl rfl (S_54 (plB_ok rfl) hw2) (KP_V ?_)
  show Go XC (d + 2) 107 0 14 [some (.ref 46), some (.int v1)] [.int w2, .int w1, .ref 46] S (RV (vJ r) S)
  obtain ⟨w3, hw3, hr⟩ := ob_some hr
  refine go_cv mm_107 (h := 46) (As := [.int w1, .int w2]) (rest := []) (nl := 10) rfl rfl (show cvOK 107 14 70 106 2 10 9 = true by decide +kernel) rfl rfl rfl (S_106 hw3) (KP_V ?_)
  show Go XC (d + 2) 107 0 17 [some (.ref 46), some (.int v1)] [.long w3] S (RV (vJ r) S)
  cases hr
  exact go_lreturn mm_107 rfl rfl ⟨rfl, rfl, rfl⟩

theorem mm_108 : mtG 108 = some (mi_108, 10, ft_108) := rfl
def L_108_5 (v1 : Int32) (S : ST) (a5 : Int64 × Int32) : Option ((Int64 × Int32) ⊕ (Int64 × Int32)) := if a5.2 < (S.1 3 1) then (if a5.2 = v1 then (some (.inl (a5.1, a5.2 + 1))) else (ob (F_107 a5.2 S) (fun w1 => some (.inl (a5.1 ||| w1, a5.2 + 1))))) else (some (.inr (a5.1, a5.2)))
set_option maxRecDepth 20000 in
theorem LS_108_5 {d : Nat} {R : RT} {S : ST} {v1 : Int32} {a5 : Int64 × Int32} {r9} (hr : L_108_5 v1 S a5 = some r9) (hL : ∀ a9, r9 = .inl a9 → (fun a5 => Go XC (d + 3) 108 0 5 [some (.ref 46), some (.int v1), some (.long a5.1), none, some (.int a5.2)] [] S R) a9) (hR : ∀ b9, r9 = .inr b9 → (fun e5 => Go XC (d + 3) 108 0 38 [some (.ref 46), some (.int v1), some (.long e5.1), none, some (.int e5.2)] [] S R) b9) : Go XC (d + 3) 108 0 5 [some (.ref 46), some (.int v1), some (.long a5.1), none, some (.int a5.2)] [] S R := by
  unfold L_108_5 at hr
  refine go_run mm_108 4 (pc' := 14) (ls' := [some (.ref 46), some (.int v1), some (.long a5.1), none, some (.int a5.2)]) (st' := [.int (S.1 3 1), .int a5.2]) (S' := S) rfl ?_
  refine go_if2 mm_108 rfl (p1 := 17) (p2 := 38) rfl (fun (hc1 : a5.2 < (S.1 3 1)) => ?_) (fun (hc1 : ¬ a5.2 < (S.1 3 1)) => ?_)
  · rw [if_pos hc1] at hr
    refine go_run mm_108 2 (pc' := 20) (ls' := [some (.ref 46), some (.int v1), some (.long a5.1), none, some (.int a5.2)]) (st' := [.int v1, .int a5.2]) (S' := S) rfl ?_
    refine go_if2 mm_108 rfl (p1 := 32) (p2 := 23) rfl (fun (hc2 : a5.2 = v1) => ?_) (fun (hc2 : ¬ a5.2 = v1) => ?_)
    · rw [if_pos hc2] at hr
      refine go_run mm_108 2 (pc' := 5) (ls' := [some (.ref 46), some (.int v1), some (.long a5.1), none, some (.int (a5.2 + 1))]) (st' := []) (S' := S) rfl ?_
      cases hr
      have h9 := hL (a5.1, a5.2 + 1) rfl
      dsimp only at h9
      exact Go.le h9 (by repeat first | exact True.intro | refine And.intro rfl ?_)
    · rw [if_neg hc2] at hr
      refine go_run mm_108 3 (pc' := 27) (ls' := [some (.ref 46), some (.int v1), some (.long a5.1), none, some (.int a5.2)]) (st' := [.int a5.2, .ref 46, .long a5.1]) (S' := S) rfl ?_
      obtain ⟨w1, hw1, hr⟩ := ob_some hr
      refine go_cv mm_108 (h := 46) (As := [.int a5.2]) (rest := [.long a5.1]) (nl := 2) rfl rfl (show cvOK 108 27 77 107 1 2 9 = true by decide +kernel) rfl rfl rfl (S_107 hw1) (KP_V ?_)
      show Go XC (d + 3) 108 0 30 [some (.ref 46), some (.int v1), some (.long a5.1), none, some (.int a5.2)] [.long w1, .long a5.1] S R
      refine go_run mm_108 4 (pc' := 5) (ls' := [some (.ref 46), some (.int v1), some (.long (a5.1 ||| w1)), none, some (.int (a5.2 + 1))]) (st' := []) (S' := S) rfl ?_
      cases hr
      have h9 := hL (a5.1 ||| w1, a5.2 + 1) rfl
      dsimp only at h9
      exact Go.le h9 (by repeat first | exact True.intro | refine And.intro rfl ?_)
  · rw [if_neg hc1] at hr
    cases hr
    have h9 := hR (a5.1, a5.2) rfl
    dsimp only [Sum.elim_inl] at h9
    exact Go.le h9 (by repeat first | exact True.intro | refine And.intro rfl ?_)
def F_108 (v1 : Int32) (S : ST) : Option Int64 := ob (wh FU (L_108_5 v1 S) (0, 0)) (fun e5 => some e5.1)
set_option maxRecDepth 20000 in
theorem S_108 {d : Nat} {S : ST} {v1 : Int32} {r} (hr : F_108 v1 S = some r) : Cal XC (d + 3) 108 [.ref 46, .int v1] S (RV (vJ r) S) := by
  unfold F_108 at hr
  refine cal_go 3 rfl ?_
  refine go_run mm_108 4 (pc' := 5) (ls' := [some (.ref 46), some (.int v1), some (.long 0), none, some (.int 0)]) (st' := []) (S' := S) rfl ?_
  obtain ⟨z5, he5, hr⟩ := ob_some hr
  refine Go.le (ls' := [some (.ref 46), some (.int v1), some (.long 0), none, some (.int 0)]) ?_ (by repeat first | exact True.intro | refine And.intro rfl ?_)
  refine wh_go (P := fun a5 => Go XC (d + 3) 108 0 5 [some (.ref 46), some (.int v1), some (.long a5.1), none, some (.int a5.2)] [] S (RV (vJ r) S)) (K := fun e5 => Go XC (d + 3) 108 0 38 [some (.ref 46), some (.int v1), some (.long e5.1), none, some (.int e5.2)] [] S (RV (vJ r) S)) (fun a9 r9 h9 hL hR => LS_108_5 h9 hL hR) _ _ _ he5 ?_
  generalize z5 = e5 at hr
  show Go XC (d + 3) 108 0 38 [some (.ref 46), some (.int v1), some (.long e5.1), none, some (.int e5.2)] [] S (RV (vJ r) S)
  refine go_run mm_108 1 (pc' := 39) (ls' := [some (.ref 46), some (.int v1), some (.long e5.1), none, some (.int e5.2)]) (st' := [.long e5.1]) (S' := S) rfl ?_
  cases hr
  exact go_lreturn mm_108 rfl rfl ⟨rfl, rfl, rfl⟩

theorem mm_109 : mtG 109 = some (mi_109, 10, ft_109) := rfl
def L_109_4 (v1 : Int32) (S : ST) (a4 : Int32 × Int32) : Option ((Int32 × Int32) ⊕ (Int32 × Int32)) := if a4.2 < (S.1 3 1) then (ob (F_107 a4.2 S) (fun w1 => if (F_177 w1 v1) = true then (some (.inl (a4.1 + 1, a4.2 + 1))) else (some (.inl (a4.1, a4.2 + 1))))) else (some (.inr (a4.1, a4.2)))
set_option maxRecDepth 20000 in
theorem LS_109_4 {d : Nat} {R : RT} {S : ST} {v1 : Int32} {a4 : Int32 × Int32} {r9} (hr : L_109_4 v1 S a4 = some r9) (hL : ∀ a9, r9 = .inl a9 → (fun a4 => Go XC (d + 3) 109 0 4 [some (.ref 46), some (.int v1), some (.int a4.1), some (.int a4.2)] [] S R) a9) (hR : ∀ b9, r9 = .inr b9 → (fun e4 => Go XC (d + 3) 109 0 36 [some (.ref 46), some (.int v1), some (.int e4.1), some (.int e4.2)] [] S R) b9) : Go XC (d + 3) 109 0 4 [some (.ref 46), some (.int v1), some (.int a4.1), some (.int a4.2)] [] S R := by
  unfold L_109_4 at hr
  refine go_run mm_109 4 (pc' := 12) (ls' := [some (.ref 46), some (.int v1), some (.int a4.1), some (.int a4.2)]) (st' := [.int (S.1 3 1), .int a4.2]) (S' := S) rfl ?_
  refine go_if2 mm_109 rfl (p1 := 15) (p2 := 36) rfl (fun (hc1 : a4.2 < (S.1 3 1)) => ?_) (fun (hc1 : ¬ a4.2 < (S.1 3 1)) => ?_)
  · rw [if_pos hc1] at hr
    refine go_run mm_109 2 (pc' := 17) (ls' := [some (.ref 46), some (.int v1), some (.int a4.1), some (.int a4.2)]) (st' := [.int a4.2, .ref 46]) (S' := S) rfl ?_
    obtain ⟨w1, hw1, hr⟩ := ob_some hr
    refine go_cv mm_109 (h := 46) (As := [.int a4.2]) (rest := []) (nl := 2) rfl rfl (show cvOK 109 17 77 107 1 2 9 = true by decide +kernel) rfl rfl rfl (S_107 hw1) (KP_V ?_)
    show Go XC (d + 3) 109 0 20 [some (.ref 46), some (.int v1), some (.int a4.1), some (.int a4.2)] [.long w1] S R
    refine go_run mm_109 1 (pc' := 21) (ls' := [some (.ref 46), some (.int v1), some (.int a4.1), some (.int a4.2)]) (st' := [.int v1, .long w1]) (S' := S) rfl ?_
    refine go_cs mm_109 (av := [.long w1, .int v1]) (rest := []) (nl := 3) rfl (show csOK 109 21 60 177 2 3 = true by decide +kernel) rfl rfl rfl (S_177 rfl) (KP_V ?_)
    show Go XC (d + 3) 109 0 24 [some (.ref 46), some (.int v1), some (.int a4.1), some (.int a4.2)] [.int (b2i (F_177 w1 v1))] S R
    refine go_ifb mm_109 rfl (p1 := 27) (p2 := 30) rfl (fun (hc2 : (F_177 w1 v1) = true) => ?_) (fun (hc2 : (F_177 w1 v1) = false) => ?_)
    · rw [if_pos hc2] at hr
      refine go_run mm_109 3 (pc' := 4) (ls' := [some (.ref 46), some (.int v1), some (.int (a4.1 + 1)), some (.int (a4.2 + 1))]) (st' := []) (S' := S) rfl ?_
      cases hr
      have h9 := hL (a4.1 + 1, a4.2 + 1) rfl
      dsimp only at h9
      exact Go.le h9 (by repeat first | exact True.intro | refine And.intro rfl ?_)
    · rw [if_neg (bf hc2)] at hr
      refine go_run mm_109 2 (pc' := 4) (ls' := [some (.ref 46), some (.int v1), some (.int a4.1), some (.int (a4.2 + 1))]) (st' := []) (S' := S) rfl ?_
      cases hr
      have h9 := hL (a4.1, a4.2 + 1) rfl
      dsimp only at h9
      exact Go.le h9 (by repeat first | exact True.intro | refine And.intro rfl ?_)
  · rw [if_neg hc1] at hr
    cases hr
    have h9 := hR (a4.1, a4.2) rfl
    dsimp only [Sum.elim_inl] at h9
    exact Go.le h9 (by repeat first | exact True.intro | refine And.intro rfl ?_)
def F_109 (v1 : Int32) (S : ST) : Option Int32 := ob (wh FU (L_109_4 v1 S) (0, 0)) (fun e4 => some e4.1)
set_option maxRecDepth 20000 in
theorem S_109 {d : Nat} {S : ST} {v1 : Int32} {r} (hr : F_109 v1 S = some r) : Cal XC (d + 3) 109 [.ref 46, .int v1] S (RV (vI r) S) := by
  unfold F_109 at hr
  refine cal_go 2 rfl ?_
  refine go_run mm_109 4 (pc' := 4) (ls' := [some (.ref 46), some (.int v1), some (.int 0), some (.int 0)]) (st' := []) (S' := S) rfl ?_
  obtain ⟨z4, he4, hr⟩ := ob_some hr
  refine Go.le (ls' := [some (.ref 46), some (.int v1), some (.int 0), some (.int 0)]) ?_ (by repeat first | exact True.intro | refine And.intro rfl ?_)
  refine wh_go (P := fun a4 => Go XC (d + 3) 109 0 4 [some (.ref 46), some (.int v1), some (.int a4.1), some (.int a4.2)] [] S (RV (vI r) S)) (K := fun e4 => Go XC (d + 3) 109 0 36 [some (.ref 46), some (.int v1), some (.int e4.1), some (.int e4.2)] [] S (RV (vI r) S)) (fun a9 r9 h9 hL hR => LS_109_4 h9 hL hR) _ _ _ he4 ?_
  generalize z4 = e4 at hr
  show Go XC (d + 3) 109 0 36 [some (.ref 46), some (.int v1), some (.int e4.1), some (.int e4.2)] [] S (RV (vI r) S)
  refine go_run mm_109 1 (pc' := 37) (ls' := [some (.ref 46), some (.int v1), some (.int e4.1), some (.int e4.2)]) (st' := [.int e4.1]) (S' := S) rfl ?_
  cases hr
  exact go_ireturn mm_109 rfl rfl ⟨rfl, rfl, rfl⟩
