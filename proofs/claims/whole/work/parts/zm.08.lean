/-! methods as functions (printed by a program): 239 laysSight, 240 pointOf, 241 sees, 242 visible, 243 kernel, 244 laysLinks -/
noncomputable def Lm_239_60 (p60_1 : Int32) (a60 : Int32 × ST) : Option ((Int32 × ST) ⊕ (Int32 × ST)) := if a60.1 < p60_1 then (ck (ibd p60_1 64) (ck (ibd p60_1 64) (ck (ibd a60.1 64) (ck (ibd a60.1 64) (ob (F_238 (Int32.toInt64 (a60.2.1 147 (Int32.toNatClampNeg p60_1))) (Int32.toInt64 (a60.2.1 148 (Int32.toNatClampNeg p60_1))) (Int32.toInt64 (a60.2.1 147 (Int32.toNatClampNeg a60.1))) (Int32.toInt64 (a60.2.1 148 (Int32.toNatClampNeg a60.1))) 1 a60.2) (fun w1 => if w1.1 = true then (ck (ibd p60_1 64) (ck (ibd p60_1 64) (sbn ((wL w1.2 153 (Int32.toNatClampNeg p60_1) ((w1.2.2 153 (Int32.toNatClampNeg p60_1)) ||| (1 <<< (Int32.toInt64 a60.1 &&& 63))))) (fun s14 => ck (ibd a60.1 64) (ck (ibd a60.1 64) (sbn ((wL s14 153 (Int32.toNatClampNeg a60.1) ((s14.2 153 (Int32.toNatClampNeg a60.1)) ||| (1 <<< (Int32.toInt64 p60_1 &&& 63))))) (fun s17 => some (.inl (a60.1 + 1, s17))))))))) else (some (.inl (a60.1 + 1, w1.2))))))))) else (some (.inr (a60.1, a60.2)))
set_option maxRecDepth 20000 in
theorem LSm_239_60 {d : Nat} {R : RT} {p60_1 : Int32} {a60 : Int32 × ST} {r9} (hr : Lm_239_60 p60_1 a60 = some r9) (hL : ∀ a9, r9 = .inl a9 → (fun a60 => Go XM (d + 6) 239 0 60 [some (.ref 140), some (.int p60_1), some (.int a60.1)] [] a60.2 R) a9) (hR : ∀ b9, r9 = .inr b9 → (fun e60 => Go XM (d + 6) 239 0 131 [some (.ref 140), some (.int p60_1), some (.int e60.1)] [] e60.2 R) b9) : Go XM (d + 6) 239 0 60 [some (.ref 140), some (.int p60_1), some (.int a60.1)] [] a60.2 R := by
  unfold Lm_239_60 at hr
  refine go_run mm_239 2 (pc' := 62) (ls' := [some (.ref 140), some (.int p60_1), some (.int a60.1)]) (st' := [.int p60_1, .int a60.1]) (S' := a60.2) rfl ?_
  refine go_if2 mm_239 rfl (p1 := 65) (p2 := 131) rfl (fun (hc6 : a60.1 < p60_1) => ?_) (fun (hc6 : ¬ a60.1 < p60_1) => ?_)
  · rw [if_pos hc6] at hr
    refine go_run mm_239 4 (pc' := 71) (ls' := [some (.ref 140), some (.int p60_1), some (.int a60.1)]) (st' := [.int p60_1, .ref 147, .ref 140]) (S' := a60.2) rfl ?_
    obtain ⟨hb7, hr⟩ := ck_some hr
    refine go_iaload mm_239 (q := (Int32.toNatClampNeg p60_1)) rfl rfl rfl (ibd_ok hb7) ?_
    show Go XM (d + 6) 239 0 72 [some (.ref 140), some (.int p60_1), some (.int a60.1)] [.int (a60.2.1 147 (Int32.toNatClampNeg p60_1)), .ref 140] a60.2 R
    refine go_run mm_239 4 (pc' := 78) (ls' := [some (.ref 140), some (.int p60_1), some (.int a60.1)]) (st' := [.int p60_1, .ref 148, .long (Int32.toInt64 (a60.2.1 147 (Int32.toNatClampNeg p60_1))), .ref 140]) (S' := a60.2) rfl ?_
    obtain ⟨hb8, hr⟩ := ck_some hr
    refine go_iaload mm_239 (q := (Int32.toNatClampNeg p60_1)) rfl rfl rfl (ibd_ok hb8) ?_
    show Go XM (d + 6) 239 0 79 [some (.ref 140), some (.int p60_1), some (.int a60.1)] [.int (a60.2.1 148 (Int32.toNatClampNeg p60_1)), .long (Int32.toInt64 (a60.2.1 147 (Int32.toNatClampNeg p60_1))), .ref 140] a60.2 R
    refine go_run mm_239 4 (pc' := 85) (ls' := [some (.ref 140), some (.int p60_1), some (.int a60.1)]) (st' := [.int a60.1, .ref 147, .long (Int32.toInt64 (a60.2.1 148 (Int32.toNatClampNeg p60_1))), .long (Int32.toInt64 (a60.2.1 147 (Int32.toNatClampNeg p60_1))), .ref 140]) (S' := a60.2) rfl ?_
    obtain ⟨hb9, hr⟩ := ck_some hr
    refine go_iaload mm_239 (q := (Int32.toNatClampNeg a60.1)) rfl rfl rfl (ibd_ok hb9) ?_
    show Go XM (d + 6) 239 0 86 [some (.ref 140), some (.int p60_1), some (.int a60.1)] [.int (a60.2.1 147 (Int32.toNatClampNeg a60.1)), .long (Int32.toInt64 (a60.2.1 148 (Int32.toNatClampNeg p60_1))), .long (Int32.toInt64 (a60.2.1 147 (Int32.toNatClampNeg p60_1))), .ref 140] a60.2 R
    refine go_run mm_239 4 (pc' := 92) (ls' := [some (.ref 140), some (.int p60_1), some (.int a60.1)]) (st' := [.int a60.1, .ref 148, .long (Int32.toInt64 (a60.2.1 147 (Int32.toNatClampNeg a60.1))), .long (Int32.toInt64 (a60.2.1 148 (Int32.toNatClampNeg p60_1))), .long (Int32.toInt64 (a60.2.1 147 (Int32.toNatClampNeg p60_1))), .ref 140]) (S' := a60.2) rfl ?_
    obtain ⟨hb10, hr⟩ := ck_some hr
    refine go_iaload mm_239 (q := (Int32.toNatClampNeg a60.1)) rfl rfl rfl (ibd_ok hb10) ?_
    show Go XM (d + 6) 239 0 93 [some (.ref 140), some (.int p60_1), some (.int a60.1)] [.int (a60.2.1 148 (Int32.toNatClampNeg a60.1)), .long (Int32.toInt64 (a60.2.1 147 (Int32.toNatClampNeg a60.1))), .long (Int32.toInt64 (a60.2.1 148 (Int32.toNatClampNeg p60_1))), .long (Int32.toInt64 (a60.2.1 147 (Int32.toNatClampNeg p60_1))), .ref 140] a60.2 R
    refine go_run mm_239 2 (pc' := 95) (ls' := [some (.ref 140), some (.int p60_1), some (.int a60.1)]) (st' := [.long 1, .long (Int32.toInt64 (a60.2.1 148 (Int32.toNatClampNeg a60.1))), .long (Int32.toInt64 (a60.2.1 147 (Int32.toNatClampNeg a60.1))), .long (Int32.toInt64 (a60.2.1 148 (Int32.toNatClampNeg p60_1))), .long (Int32.toInt64 (a60.2.1 147 (Int32.toNatClampNeg p60_1))), .ref 140]) (S' := a60.2) rfl ?_
    obtain ⟨w1, hw1, hr⟩ := ob_some hr
    refine go_cv mm_239 (h := 140) (As := [.long (Int32.toInt64 (a60.2.1 147 (Int32.toNatClampNeg p60_1))), .long (Int32.toInt64 (a60.2.1 148 (Int32.toNatClampNeg p60_1))), .long (Int32.toInt64 (a60.2.1 147 (Int32.toNatClampNeg a60.1))), .long (Int32.toInt64 (a60.2.1 148 (Int32.toNatClampNeg a60.1))), .long 1]) (rest := []) (nl := 22) rfl rfl (show cvOK 239 95 275 238 5 22 11 = true by decide +kernel) rfl rfl rfl (S_238 hw1) (KP_V ?_)
    show Go XM (d + 6) 239 0 98 [some (.ref 140), some (.int p60_1), some (.int a60.1)] [.int (b2i w1.1)] w1.2 R
    refine go_ifb mm_239 rfl (p1 := 101) (p2 := 125) rfl (fun (hc11 : w1.1 = true) => ?_) (fun (hc11 : w1.1 = false) => ?_)
    · rw [if_pos hc11] at hr
      refine go_run mm_239 4 (pc' := 107) (ls' := [some (.ref 140), some (.int p60_1), some (.int a60.1)]) (st' := [.int p60_1, .ref 153, .int p60_1, .ref 153]) (S' := w1.2) rfl ?_
      obtain ⟨hb12, hr⟩ := ck_some hr
      refine go_laload mm_239 (q := (Int32.toNatClampNeg p60_1)) rfl rfl rfl (ibd_ok hb12) ?_
      show Go XM (d + 6) 239 0 108 [some (.ref 140), some (.int p60_1), some (.int a60.1)] [.long (w1.2.2 153 (Int32.toNatClampNeg p60_1)), .int p60_1, .ref 153] w1.2 R
      refine go_run mm_239 4 (pc' := 112) (ls' := [some (.ref 140), some (.int p60_1), some (.int a60.1)]) (st' := [.long ((w1.2.2 153 (Int32.toNatClampNeg p60_1)) ||| (1 <<< (Int32.toInt64 a60.1 &&& 63))), .int p60_1, .ref 153]) (S' := w1.2) rfl ?_
      obtain ⟨hb13, hr⟩ := ck_some hr
      refine go_lastore mm_239 (q := (Int32.toNatClampNeg p60_1)) rfl rfl rfl (ibd_ok hb13) ?_
      show Go XM (d + 6) 239 0 113 [some (.ref 140), some (.int p60_1), some (.int a60.1)] [] (wL w1.2 153 (Int32.toNatClampNeg p60_1) ((w1.2.2 153 (Int32.toNatClampNeg p60_1)) ||| (1 <<< (Int32.toInt64 a60.1 &&& 63)))) R
      obtain ⟨s14, es14, hr⟩ := sbn_some hr
      rw [← es14]
      refine go_run mm_239 4 (pc' := 119) (ls' := [some (.ref 140), some (.int p60_1), some (.int a60.1)]) (st' := [.int a60.1, .ref 153, .int a60.1, .ref 153]) (S' := s14) rfl ?_
      obtain ⟨hb15, hr⟩ := ck_some hr
      refine go_laload mm_239 (q := (Int32.toNatClampNeg a60.1)) rfl rfl rfl (ibd_ok hb15) ?_
      show Go XM (d + 6) 239 0 120 [some (.ref 140), some (.int p60_1), some (.int a60.1)] [.long (s14.2 153 (Int32.toNatClampNeg a60.1)), .int a60.1, .ref 153] s14 R
      refine go_run mm_239 4 (pc' := 124) (ls' := [some (.ref 140), some (.int p60_1), some (.int a60.1)]) (st' := [.long ((s14.2 153 (Int32.toNatClampNeg a60.1)) ||| (1 <<< (Int32.toInt64 p60_1 &&& 63))), .int a60.1, .ref 153]) (S' := s14) rfl ?_
      obtain ⟨hb16, hr⟩ := ck_some hr
      refine go_lastore mm_239 (q := (Int32.toNatClampNeg a60.1)) rfl rfl rfl (ibd_ok hb16) ?_
      show Go XM (d + 6) 239 0 125 [some (.ref 140), some (.int p60_1), some (.int a60.1)] [] (wL s14 153 (Int32.toNatClampNeg a60.1) ((s14.2 153 (Int32.toNatClampNeg a60.1)) ||| (1 <<< (Int32.toInt64 p60_1 &&& 63)))) R
      obtain ⟨s17, es17, hr⟩ := sbn_some hr
      rw [← es17]
      refine go_run mm_239 2 (pc' := 60) (ls' := [some (.ref 140), some (.int p60_1), some (.int (a60.1 + 1))]) (st' := []) (S' := s17) rfl ?_
      cases hr
      have h9 := hL (a60.1 + 1, s17) rfl
      dsimp only at h9
      exact Go.le h9 (by repeat first | exact True.intro | refine And.intro rfl ?_)
    · rw [if_neg (bf hc11)] at hr
      refine go_run mm_239 2 (pc' := 60) (ls' := [some (.ref 140), some (.int p60_1), some (.int (a60.1 + 1))]) (st' := []) (S' := w1.2) rfl ?_
      cases hr
      have h9 := hL (a60.1 + 1, w1.2) rfl
      dsimp only at h9
      exact Go.le h9 (by repeat first | exact True.intro | refine And.intro rfl ?_)
  · rw [if_neg hc6] at hr
    cases hr
    have h9 := hR (a60.1, a60.2) rfl
    dsimp only [Sum.elim_inl] at h9
    exact Go.le h9 (by repeat first | exact True.intro | refine And.intro rfl ?_)
noncomputable def Lm_239_158 (p158_1 : Int32) (a158 : Int32 × ST) : Option ((Int32 × ST) ⊕ (Int32 × ST)) := if a158.1 < (a158.2.1 140 20) then (ck (ibd p158_1 12) (ck (ibd a158.1 64) (ck (ibd a158.1 64) (ob (F_206 141 p158_1 (Int32.toInt64 (a158.2.1 147 (Int32.toNatClampNeg a158.1))) (Int32.toInt64 (a158.2.1 148 (Int32.toNatClampNeg a158.1))) 1 a158.2) (fun w2 => if w2 = true then (ck (ibd a158.1 64) (ck (ibd p158_1 12) (sbn ((wL a158.2 154 (Int32.toNatClampNeg p158_1) ((a158.2.2 154 (Int32.toNatClampNeg p158_1)) ||| (a158.2.2 153 (Int32.toNatClampNeg a158.1))))) (fun s28 => some (.inl (a158.1 + 1, s28)))))) else (ck (ibd p158_1 12) (sbn ((wL a158.2 154 (Int32.toNatClampNeg p158_1) ((a158.2.2 154 (Int32.toNatClampNeg p158_1)) ||| 0))) (fun s30 => some (.inl (a158.1 + 1, s30)))))))))) else (some (.inr (a158.1, a158.2)))
set_option maxRecDepth 20000 in
theorem LSm_239_158 {d : Nat} {R : RT} {p158_1 : Int32} {a158 : Int32 × ST} {r9} (hr : Lm_239_158 p158_1 a158 = some r9) (hL : ∀ a9, r9 = .inl a9 → (fun a158 => Go XM (d + 6) 239 0 158 [some (.ref 140), some (.int p158_1), some (.int a158.1)] [] a158.2 R) a9) (hR : ∀ b9, r9 = .inr b9 → (fun e158 => Go XM (d + 6) 239 0 217 [some (.ref 140), some (.int p158_1), some (.int e158.1)] [] e158.2 R) b9) : Go XM (d + 6) 239 0 158 [some (.ref 140), some (.int p158_1), some (.int a158.1)] [] a158.2 R := by
  unfold Lm_239_158 at hr
  refine go_run mm_239 3 (pc' := 163) (ls' := [some (.ref 140), some (.int p158_1), some (.int a158.1)]) (st' := [.int (a158.2.1 140 20), .int a158.1]) (S' := a158.2) rfl ?_
  refine go_if2 mm_239 rfl (p1 := 166) (p2 := 217) rfl (fun (hc21 : a158.1 < (a158.2.1 140 20)) => ?_) (fun (hc21 : ¬ a158.1 < (a158.2.1 140 20)) => ?_)
  · rw [if_pos hc21] at hr
    refine go_run mm_239 4 (pc' := 172) (ls' := [some (.ref 140), some (.int p158_1), some (.int a158.1)]) (st' := [.int p158_1, .ref 154, .int p158_1, .ref 154]) (S' := a158.2) rfl ?_
    obtain ⟨hb22, hr⟩ := ck_some hr
    refine go_laload mm_239 (q := (Int32.toNatClampNeg p158_1)) rfl rfl rfl (ibd_ok hb22) ?_
    show Go XM (d + 6) 239 0 173 [some (.ref 140), some (.int p158_1), some (.int a158.1)] [.long (a158.2.2 154 (Int32.toNatClampNeg p158_1)), .int p158_1, .ref 154] a158.2 R
    refine go_run mm_239 6 (pc' := 183) (ls' := [some (.ref 140), some (.int p158_1), some (.int a158.1)]) (st' := [.int a158.1, .ref 147, .int p158_1, .ref 141, .long (a158.2.2 154 (Int32.toNatClampNeg p158_1)), .int p158_1, .ref 154]) (S' := a158.2) rfl ?_
    obtain ⟨hb23, hr⟩ := ck_some hr
    refine go_iaload mm_239 (q := (Int32.toNatClampNeg a158.1)) rfl rfl rfl (ibd_ok hb23) ?_
    show Go XM (d + 6) 239 0 184 [some (.ref 140), some (.int p158_1), some (.int a158.1)] [.int (a158.2.1 147 (Int32.toNatClampNeg a158.1)), .int p158_1, .ref 141, .long (a158.2.2 154 (Int32.toNatClampNeg p158_1)), .int p158_1, .ref 154] a158.2 R
    refine go_run mm_239 4 (pc' := 190) (ls' := [some (.ref 140), some (.int p158_1), some (.int a158.1)]) (st' := [.int a158.1, .ref 148, .long (Int32.toInt64 (a158.2.1 147 (Int32.toNatClampNeg a158.1))), .int p158_1, .ref 141, .long (a158.2.2 154 (Int32.toNatClampNeg p158_1)), .int p158_1, .ref 154]) (S' := a158.2) rfl ?_
    obtain ⟨hb24, hr⟩ := ck_some hr
    refine go_iaload mm_239 (q := (Int32.toNatClampNeg a158.1)) rfl rfl rfl (ibd_ok hb24) ?_
    show Go XM (d + 6) 239 0 191 [some (.ref 140), some (.int p158_1), some (.int a158.1)] [.int (a158.2.1 148 (Int32.toNatClampNeg a158.1)), .long (Int32.toInt64 (a158.2.1 147 (Int32.toNatClampNeg a158.1))), .int p158_1, .ref 141, .long (a158.2.2 154 (Int32.toNatClampNeg p158_1)), .int p158_1, .ref 154] a158.2 R
    refine go_run mm_239 2 (pc' := 193) (ls' := [some (.ref 140), some (.int p158_1), some (.int a158.1)]) (st' := [.long 1, .long (Int32.toInt64 (a158.2.1 148 (Int32.toNatClampNeg a158.1))), .long (Int32.toInt64 (a158.2.1 147 (Int32.toNatClampNeg a158.1))), .int p158_1, .ref 141, .long (a158.2.2 154 (Int32.toNatClampNeg p158_1)), .int p158_1, .ref 154]) (S' := a158.2) rfl ?_
    obtain ⟨w2, hw2, hr⟩ := ob_some hr
    refine go_cs mm_239 (av := [.ref 141, .int p158_1, .long (Int32.toInt64 (a158.2.1 147 (Int32.toNatClampNeg a158.1))), .long (Int32.toInt64 (a158.2.1 148 (Int32.toNatClampNeg a158.1))), .long 1]) (rest := [.long (a158.2.2 154 (Int32.toNatClampNeg p158_1)), .int p158_1, .ref 154]) (nl := 9) rfl (show csOK 239 193 216 206 5 9 = true by decide +kernel) rfl rfl rfl (S_206 rfl hw2) (KP_V ?_)
    show Go XM (d + 6) 239 0 196 [some (.ref 140), some (.int p158_1), some (.int a158.1)] [.int (b2i w2), .long (a158.2.2 154 (Int32.toNatClampNeg p158_1)), .int p158_1, .ref 154] a158.2 R
    refine go_ifb mm_239 rfl (p1 := 199) (p2 := 208) rfl (fun (hc25 : w2 = true) => ?_) (fun (hc25 : w2 = false) => ?_)
    · rw [if_pos hc25] at hr
      refine go_run mm_239 3 (pc' := 204) (ls' := [some (.ref 140), some (.int p158_1), some (.int a158.1)]) (st' := [.int a158.1, .ref 153, .long (a158.2.2 154 (Int32.toNatClampNeg p158_1)), .int p158_1, .ref 154]) (S' := a158.2) rfl ?_
      obtain ⟨hb26, hr⟩ := ck_some hr
      refine go_laload mm_239 (q := (Int32.toNatClampNeg a158.1)) rfl rfl rfl (ibd_ok hb26) ?_
      show Go XM (d + 6) 239 0 205 [some (.ref 140), some (.int p158_1), some (.int a158.1)] [.long (a158.2.2 153 (Int32.toNatClampNeg a158.1)), .long (a158.2.2 154 (Int32.toNatClampNeg p158_1)), .int p158_1, .ref 154] a158.2 R
      refine go_run mm_239 2 (pc' := 210) (ls' := [some (.ref 140), some (.int p158_1), some (.int a158.1)]) (st' := [.long ((a158.2.2 154 (Int32.toNatClampNeg p158_1)) ||| (a158.2.2 153 (Int32.toNatClampNeg a158.1))), .int p158_1, .ref 154]) (S' := a158.2) rfl ?_
      obtain ⟨hb27, hr⟩ := ck_some hr
      refine go_lastore mm_239 (q := (Int32.toNatClampNeg p158_1)) rfl rfl rfl (ibd_ok hb27) ?_
      show Go XM (d + 6) 239 0 211 [some (.ref 140), some (.int p158_1), some (.int a158.1)] [] (wL a158.2 154 (Int32.toNatClampNeg p158_1) ((a158.2.2 154 (Int32.toNatClampNeg p158_1)) ||| (a158.2.2 153 (Int32.toNatClampNeg a158.1)))) R
      obtain ⟨s28, es28, hr⟩ := sbn_some hr
      rw [← es28]
      refine go_run mm_239 2 (pc' := 158) (ls' := [some (.ref 140), some (.int p158_1), some (.int (a158.1 + 1))]) (st' := []) (S' := s28) rfl ?_
      cases hr
      have h9 := hL (a158.1 + 1, s28) rfl
      dsimp only at h9
      exact Go.le h9 (by repeat first | exact True.intro | refine And.intro rfl ?_)
    · rw [if_neg (bf hc25)] at hr
      refine go_run mm_239 2 (pc' := 210) (ls' := [some (.ref 140), some (.int p158_1), some (.int a158.1)]) (st' := [.long ((a158.2.2 154 (Int32.toNatClampNeg p158_1)) ||| 0), .int p158_1, .ref 154]) (S' := a158.2) rfl ?_
      obtain ⟨hb29, hr⟩ := ck_some hr
      refine go_lastore mm_239 (q := (Int32.toNatClampNeg p158_1)) rfl rfl rfl (ibd_ok hb29) ?_
      show Go XM (d + 6) 239 0 211 [some (.ref 140), some (.int p158_1), some (.int a158.1)] [] (wL a158.2 154 (Int32.toNatClampNeg p158_1) ((a158.2.2 154 (Int32.toNatClampNeg p158_1)) ||| 0)) R
      obtain ⟨s30, es30, hr⟩ := sbn_some hr
      rw [← es30]
      refine go_run mm_239 2 (pc' := 158) (ls' := [some (.ref 140), some (.int p158_1), some (.int (a158.1 + 1))]) (st' := []) (S' := s30) rfl ?_
      cases hr
      have h9 := hL (a158.1 + 1, s30) rfl
      dsimp only at h9
      exact Go.le h9 (by repeat first | exact True.intro | refine And.intro rfl ?_)
  · rw [if_neg hc21] at hr
    cases hr
    have h9 := hR (a158.1, a158.2) rfl
    dsimp only [Sum.elim_inl] at h9
    exact Go.le h9 (by repeat first | exact True.intro | refine And.intro rfl ?_)
noncomputable def Lm_239_25 (a25 : Int32 × ST) : Option ((Int32 × ST) ⊕ (Int32 × ST)) := if a25.1 < (a25.2.1 140 20) then (ck (ibd a25.1 64) (sbn ((wL a25.2 153 (Int32.toNatClampNeg a25.1) (1 <<< (Int32.toInt64 a25.1 &&& 63)))) (fun s4 => some (.inl (a25.1 + 1, s4))))) else (some (.inr (a25.1, a25.2)))
set_option maxRecDepth 20000 in
theorem LSm_239_25 {d : Nat} {R : RT} {a25 : Int32 × ST} {r9} (hr : Lm_239_25 a25 = some r9) (hL : ∀ a9, r9 = .inl a9 → (fun a25 => Go XM (d + 6) 239 0 25 [some (.ref 140), some (.int a25.1), none] [] a25.2 R) a9) (hR : ∀ b9, r9 = .inr b9 → (fun e25 => Go XM (d + 6) 239 0 48 [some (.ref 140), some (.int e25.1), none] [] e25.2 R) b9) : Go XM (d + 6) 239 0 25 [some (.ref 140), some (.int a25.1), none] [] a25.2 R := by
  unfold Lm_239_25 at hr
  refine go_run mm_239 3 (pc' := 30) (ls' := [some (.ref 140), some (.int a25.1), none]) (st' := [.int (a25.2.1 140 20), .int a25.1]) (S' := a25.2) rfl ?_
  refine go_if2 mm_239 rfl (p1 := 33) (p2 := 48) rfl (fun (hc2 : a25.1 < (a25.2.1 140 20)) => ?_) (fun (hc2 : ¬ a25.1 < (a25.2.1 140 20)) => ?_)
  · rw [if_pos hc2] at hr
    refine go_run mm_239 6 (pc' := 41) (ls' := [some (.ref 140), some (.int a25.1), none]) (st' := [.long (1 <<< (Int32.toInt64 a25.1 &&& 63)), .int a25.1, .ref 153]) (S' := a25.2) rfl ?_
    obtain ⟨hb3, hr⟩ := ck_some hr
    refine go_lastore mm_239 (q := (Int32.toNatClampNeg a25.1)) rfl rfl rfl (ibd_ok hb3) ?_
    show Go XM (d + 6) 239 0 42 [some (.ref 140), some (.int a25.1), none] [] (wL a25.2 153 (Int32.toNatClampNeg a25.1) (1 <<< (Int32.toInt64 a25.1 &&& 63))) R
    obtain ⟨s4, es4, hr⟩ := sbn_some hr
    rw [← es4]
    refine go_run mm_239 2 (pc' := 25) (ls' := [some (.ref 140), some (.int (a25.1 + 1)), none]) (st' := []) (S' := s4) rfl ?_
    cases hr
    have h9 := hL (a25.1 + 1, s4) rfl
    dsimp only at h9
    exact Go.le h9 (by repeat first | exact True.intro | refine And.intro rfl ?_)
  · rw [if_neg hc2] at hr
    cases hr
    have h9 := hR (a25.1, a25.2) rfl
    dsimp only [Sum.elim_inl] at h9
    exact Go.le h9 (by repeat first | exact True.intro | refine And.intro rfl ?_)
noncomputable def Lm_239_50 (a50 : Int32 × ST) : Option ((Int32 × ST) ⊕ (Int32 × ST)) := if a50.1 < (a50.2.1 140 20) then (ob (wh FU (Lm_239_60 a50.1) (0, a50.2)) (fun e60 => some (.inl (a50.1 + 1, e60.2)))) else (some (.inr (a50.1, a50.2)))
set_option maxRecDepth 20000 in
theorem LSm_239_50 {d : Nat} {R : RT} {a50 : Int32 × ST} {r9} (hr : Lm_239_50 a50 = some r9) (hL : ∀ a9, r9 = .inl a9 → (fun a50 => Go XM (d + 6) 239 0 50 [some (.ref 140), some (.int a50.1), none] [] a50.2 R) a9) (hR : ∀ b9, r9 = .inr b9 → (fun e50 => Go XM (d + 6) 239 0 137 [some (.ref 140), some (.int e50.1), none] [] e50.2 R) b9) : Go XM (d + 6) 239 0 50 [some (.ref 140), some (.int a50.1), none] [] a50.2 R := by
  unfold Lm_239_50 at hr
  refine go_run mm_239 3 (pc' := 55) (ls' := [some (.ref 140), some (.int a50.1), none]) (st' := [.int (a50.2.1 140 20), .int a50.1]) (S' := a50.2) rfl ?_
  refine go_if2 mm_239 rfl (p1 := 58) (p2 := 137) rfl (fun (hc5 : a50.1 < (a50.2.1 140 20)) => ?_) (fun (hc5 : ¬ a50.1 < (a50.2.1 140 20)) => ?_)
  · rw [if_pos hc5] at hr
    refine go_run mm_239 2 (pc' := 60) (ls' := [some (.ref 140), some (.int a50.1), some (.int 0)]) (st' := []) (S' := a50.2) rfl ?_
    obtain ⟨z60, he60, hr⟩ := ob_some hr
    refine Go.le (ls' := [some (.ref 140), some (.int a50.1), some (.int 0)]) ?_ (by repeat first | exact True.intro | refine And.intro rfl ?_)
    refine wh_go (P := fun a60 => Go XM (d + 6) 239 0 60 [some (.ref 140), some (.int a50.1), some (.int a60.1)] [] a60.2 R) (K := fun e60 => Go XM (d + 6) 239 0 131 [some (.ref 140), some (.int a50.1), some (.int e60.1)] [] e60.2 R) (fun a9 r9 h9 hL hR => LSm_239_60 h9 hL hR) _ _ _ he60 ?_
    generalize z60 = e60 at hr
    show Go XM (d + 6) 239 0 131 [some (.ref 140), some (.int a50.1), some (.int e60.1)] [] e60.2 R
    refine go_run mm_239 2 (pc' := 50) (ls' := [some (.ref 140), some (.int (a50.1 + 1)), some (.int e60.1)]) (st' := []) (S' := e60.2) rfl ?_
    cases hr
    have h9 := hL (a50.1 + 1, e60.2) rfl
    dsimp only at h9
    exact Go.le h9 (by repeat first | exact True.intro | refine And.intro rfl ?_)
  · rw [if_neg hc5] at hr
    cases hr
    have h9 := hR (a50.1, a50.2) rfl
    dsimp only [Sum.elim_inl] at h9
    exact Go.le h9 (by repeat first | exact True.intro | refine And.intro rfl ?_)
noncomputable def Lm_239_139 (a139 : Int32 × ST) : Option ((Int32 × ST) ⊕ (Int32 × ST)) := if a139.1 < (a139.2.1 141 0) then (ck (ibd a139.1 12) (sbn ((wL a139.2 154 (Int32.toNatClampNeg a139.1) 0)) (fun s20 => ob (wh FU (Lm_239_158 a139.1) (0, s20)) (fun e158 => some (.inl (a139.1 + 1, e158.2)))))) else (some (.inr (a139.1, a139.2)))
set_option maxRecDepth 20000 in
theorem LSm_239_139 {d : Nat} {R : RT} {a139 : Int32 × ST} {r9} (hr : Lm_239_139 a139 = some r9) (hL : ∀ a9, r9 = .inl a9 → (fun a139 => Go XM (d + 6) 239 0 139 [some (.ref 140), some (.int a139.1), none] [] a139.2 R) a9) (hR : ∀ b9, r9 = .inr b9 → (fun e139 => Go XM (d + 6) 239 0 223 [some (.ref 140), some (.int e139.1), none] [] e139.2 R) b9) : Go XM (d + 6) 239 0 139 [some (.ref 140), some (.int a139.1), none] [] a139.2 R := by
  unfold Lm_239_139 at hr
  refine go_run mm_239 4 (pc' := 145) (ls' := [some (.ref 140), some (.int a139.1), none]) (st' := [.int 0, .ref 141, .int a139.1]) (S' := a139.2) rfl ?_
  refine go_iaload mm_239 (q := 0) rfl rfl rfl (inB_lit rfl) ?_
  show Go XM (d + 6) 239 0 146 [some (.ref 140), some (.int a139.1), none] [.int (a139.2.1 141 0), .int a139.1] a139.2 R
  refine go_if2 mm_239 rfl (p1 := 149) (p2 := 223) rfl (fun (hc18 : a139.1 < (a139.2.1 141 0)) => ?_) (fun (hc18 : ¬ a139.1 < (a139.2.1 141 0)) => ?_)
  · rw [if_pos hc18] at hr
    refine go_run mm_239 4 (pc' := 155) (ls' := [some (.ref 140), some (.int a139.1), none]) (st' := [.long 0, .int a139.1, .ref 154]) (S' := a139.2) rfl ?_
    obtain ⟨hb19, hr⟩ := ck_some hr
    refine go_lastore mm_239 (q := (Int32.toNatClampNeg a139.1)) rfl rfl rfl (ibd_ok hb19) ?_
    show Go XM (d + 6) 239 0 156 [some (.ref 140), some (.int a139.1), none] [] (wL a139.2 154 (Int32.toNatClampNeg a139.1) 0) R
    obtain ⟨s20, es20, hr⟩ := sbn_some hr
    rw [← es20]
    refine go_run mm_239 2 (pc' := 158) (ls' := [some (.ref 140), some (.int a139.1), some (.int 0)]) (st' := []) (S' := s20) rfl ?_
    obtain ⟨z158, he158, hr⟩ := ob_some hr
    refine Go.le (ls' := [some (.ref 140), some (.int a139.1), some (.int 0)]) ?_ (by repeat first | exact True.intro | refine And.intro rfl ?_)
    refine wh_go (P := fun a158 => Go XM (d + 6) 239 0 158 [some (.ref 140), some (.int a139.1), some (.int a158.1)] [] a158.2 R) (K := fun e158 => Go XM (d + 6) 239 0 217 [some (.ref 140), some (.int a139.1), some (.int e158.1)] [] e158.2 R) (fun a9 r9 h9 hL hR => LSm_239_158 h9 hL hR) _ _ _ he158 ?_
    generalize z158 = e158 at hr
    show Go XM (d + 6) 239 0 217 [some (.ref 140), some (.int a139.1), some (.int e158.1)] [] e158.2 R
    refine go_run mm_239 2 (pc' := 139) (ls' := [some (.ref 140), some (.int (a139.1 + 1)), some (.int e158.1)]) (st' := []) (S' := e158.2) rfl ?_
    cases hr
    have h9 := hL (a139.1 + 1, e158.2) rfl
    dsimp only at h9
    exact Go.le h9 (by repeat first | exact True.intro | refine And.intro rfl ?_)
  · rw [if_neg hc18] at hr
    cases hr
    have h9 := hR (a139.1, a139.2) rfl
    dsimp only [Sum.elim_inl] at h9
    exact Go.le h9 (by repeat first | exact True.intro | refine And.intro rfl ?_)
noncomputable def F_239 (S : ST) : Option (Unit × ST) := if (S.1 140 27) = 0 then (ob (wh FU (Lm_239_25) (0, (wI (wI (wI S 140 27 1) 140 34 0) 140 36 0))) (fun e25 => ob (wh FU (Lm_239_50) (0, e25.2)) (fun e50 => ob (wh FU (Lm_239_139) (0, e50.2)) (fun e139 => some ((), e139.2))))) else (some ((), S))
set_option maxRecDepth 20000 in
theorem S_239 {d : Nat} {S : ST} {r} (hr : F_239 S = some r) : Cal XM (d + 6) 239 [.ref 140] S (RV (vU r.1) r.2) := by
  unfold F_239 at hr
  refine cal_go 2 rfl ?_
  refine go_run mm_239 2 (pc' := 4) (ls' := [some (.ref 140), none, none]) (st' := [.int (S.1 140 27)]) (S' := S) rfl ?_
  refine go_if0 mm_239 rfl (p1 := 8) (p2 := 7) rfl (fun (hc1 : (S.1 140 27) = 0) => ?_) (fun (hc1 : ¬ (S.1 140 27) = 0) => ?_)
  · rw [if_pos hc1] at hr
    refine go_run mm_239 11 (pc' := 25) (ls' := [some (.ref 140), some (.int 0), none]) (st' := []) (S' := (wI (wI (wI S 140 27 1) 140 34 0) 140 36 0)) rfl ?_
    obtain ⟨z25, he25, hr⟩ := ob_some hr
    refine Go.le (ls' := [some (.ref 140), some (.int 0), none]) ?_ (by repeat first | exact True.intro | refine And.intro rfl ?_)
    refine wh_go (P := fun a25 => Go XM (d + 6) 239 0 25 [some (.ref 140), some (.int a25.1), none] [] a25.2 (RV (vU r.1) r.2)) (K := fun e25 => Go XM (d + 6) 239 0 48 [some (.ref 140), some (.int e25.1), none] [] e25.2 (RV (vU r.1) r.2)) (fun a9 r9 h9 hL hR => LSm_239_25 h9 hL hR) _ _ _ he25 ?_
    generalize z25 = e25 at hr
    show Go XM (d + 6) 239 0 48 [some (.ref 140), some (.int e25.1), none] [] e25.2 (RV (vU r.1) r.2)
    refine go_run mm_239 2 (pc' := 50) (ls' := [some (.ref 140), some (.int 0), none]) (st' := []) (S' := e25.2) rfl ?_
    obtain ⟨z50, he50, hr⟩ := ob_some hr
    refine Go.le (ls' := [some (.ref 140), some (.int 0), none]) ?_ (by repeat first | exact True.intro | refine And.intro rfl ?_)
    refine wh_go (P := fun a50 => Go XM (d + 6) 239 0 50 [some (.ref 140), some (.int a50.1), none] [] a50.2 (RV (vU r.1) r.2)) (K := fun e50 => Go XM (d + 6) 239 0 137 [some (.ref 140), some (.int e50.1), none] [] e50.2 (RV (vU r.1) r.2)) (fun a9 r9 h9 hL hR => LSm_239_50 h9 hL hR) _ _ _ he50 ?_
    generalize z50 = e50 at hr
    show Go XM (d + 6) 239 0 137 [some (.ref 140), some (.int e50.1), none] [] e50.2 (RV (vU r.1) r.2)
    refine go_run mm_239 2 (pc' := 139) (ls' := [some (.ref 140), some (.int 0), none]) (st' := []) (S' := e50.2) rfl ?_
    obtain ⟨z139, he139, hr⟩ := ob_some hr
    refine Go.le (ls' := [some (.ref 140), some (.int 0), none]) ?_ (by repeat first | exact True.intro | refine And.intro rfl ?_)
    refine wh_go (P := fun a139 => Go XM (d + 6) 239 0 139 [some (.ref 140), some (.int a139.1), none] [] a139.2 (RV (vU r.1) r.2)) (K := fun e139 => Go XM (d + 6) 239 0 223 [some (.ref 140), some (.int e139.1), none] [] e139.2 (RV (vU r.1) r.2)) (fun a9 r9 h9 hL hR => LSm_239_139 h9 hL hR) _ _ _ he139 ?_
    generalize z139 = e139 at hr
    show Go XM (d + 6) 239 0 223 [some (.ref 140), some (.int e139.1), none] [] e139.2 (RV (vU r.1) r.2)
    cases hr
    exact go_vreturn mm_239 rfl rfl ⟨rfl, rfl, rfl⟩
  · rw [if_neg hc1] at hr
    cases hr
    exact go_vreturn mm_239 rfl rfl ⟨rfl, rfl, rfl⟩

noncomputable def F_240 (v1 : Int32) (S : ST) : Option Int32 := ck (chB (RI S 141 v1)) (some (f_240 S v1))
theorem S_240 {d : Nat} {S : ST} {v1 : Int32} {r} (hr : F_240 v1 S = some r) : Cal XM (d + 2) 240 [.ref 140, .int v1] S (RV (vI r) S) := by
  unfold F_240 at hr
  obtain ⟨q, hr⟩ := ck_some hr
  have q := chB_t.mp q
  cases hr
  exact sq_240 q

noncomputable def F_241 (v1 : Int32) (v2 : Int32) (S : ST) : Option (Bool × ST) := ob (F_226 v1 S) (fun w1 => if w1.1 = true then (some (false, w1.2)) else (ob (F_183 (!(F_182 v2 0 ((w1.2.1 140 20) - 1))) 2 w1.2) (fun w2 => if w2.1 = true then (some (false, w2.2)) else (ob (F_239 w2.2) (fun w3 => ck (ibd v1 64) (some ((F_217 (w3.2.2 153 (Int32.toNatClampNeg v1)) v2), w3.2)))))))
set_option maxRecDepth 20000 in
theorem S_241 {d : Nat} {S : ST} {v1 : Int32} {v2 : Int32} {r} (hr : F_241 v1 v2 S = some r) : Cal XM (d + 7) 241 [.ref 140, .int v1, .int v2] S (RV (vZ r.1) r.2) := by
  unfold F_241 at hr
  refine cal_go 0 rfl ?_
  refine go_run mm_241 2 (pc' := 2) (ls' := [some (.ref 140), some (.int v1), some (.int v2)]) (st' := [.int v1, .ref 140]) (S' := S) rfl ?_
  obtain ⟨w1, hw1, hr⟩ := ob_some hr
  refine go_cv mm_241 (h := 140) (As := [.int v1]) (rest := []) (nl := 2) rfl rfl (show cvOK 241 2 254 226 1 2 11 = true by decide +kernel) rfl rfl rfl (S_226 hw1) (KP_V ?_)
  show Go XM (d + 7) 241 0 5 [some (.ref 140), some (.int v1), some (.int v2)] [.int (b2i w1.1)] w1.2 (RV (vZ r.1) r.2)
  refine go_ifb mm_241 rfl (p1 := 35) (p2 := 8) rfl (fun (hc1 : w1.1 = true) => ?_) (fun (hc1 : w1.1 = false) => ?_)
  · rw [if_pos hc1] at hr
    refine go_run mm_241 1 (pc' := 36) (ls' := [some (.ref 140), some (.int v1), some (.int v2)]) (st' := [.int 0]) (S' := w1.2) rfl ?_
    cases hr
    exact go_zreturn mm_241 rfl rfl (Or.inl rfl) ⟨rfl, rfl, rfl⟩
  · rw [if_neg (bf hc1)] at hr
    refine go_run mm_241 7 (pc' := 17) (ls' := [some (.ref 140), some (.int v1), some (.int v2)]) (st' := [.int ((w1.2.1 140 20) - 1), .int 0, .int v2, .ref 140]) (S' := w1.2) rfl ?_
    refine go_cs mm_241 (av := [.int v2, .int 0, .int ((w1.2.1 140 20) - 1)]) (rest := [.ref 140]) (nl := 3) rfl (show csOK 241 17 148 182 3 3 = true by decide +kernel) rfl rfl rfl (S_182 rfl) (KP_V ?_)
    show Go XM (d + 7) 241 0 20 [some (.ref 140), some (.int v1), some (.int v2)] [.int (b2i (F_182 v2 0 ((w1.2.1 140 20) - 1))), .ref 140] w1.2 (RV (vZ r.1) r.2)
    have j5 : Go XM (d + 7) 241 0 28 [some (.ref 140), some (.int v1), some (.int v2)] [.int (b2i (!(F_182 v2 0 ((w1.2.1 140 20) - 1)))), .ref 140] w1.2 (RV (vZ r.1) r.2) := by
      refine go_run mm_241 1 (pc' := 29) (ls' := [some (.ref 140), some (.int v1), some (.int v2)]) (st' := [.int 2, .int (b2i (!(F_182 v2 0 ((w1.2.1 140 20) - 1)))), .ref 140]) (S' := w1.2) rfl ?_
      obtain ⟨w2, hw2, hr⟩ := ob_some hr
      refine go_cv mm_241 (h := 140) (As := [.int (b2i (!(F_182 v2 0 ((w1.2.1 140 20) - 1)))), .int 2]) (rest := []) (nl := 3) rfl rfl (show cvOK 241 29 86 183 2 3 11 = true by decide +kernel) rfl rfl rfl (S_183 hw2) (KP_V ?_)
      show Go XM (d + 7) 241 0 32 [some (.ref 140), some (.int v1), some (.int v2)] [.int (b2i w2.1)] w2.2 (RV (vZ r.1) r.2)
      refine go_ifb mm_241 rfl (p1 := 35) (p2 := 37) rfl (fun (hc3 : w2.1 = true) => ?_) (fun (hc3 : w2.1 = false) => ?_)
      · rw [if_pos hc3] at hr
        refine go_run mm_241 1 (pc' := 36) (ls' := [some (.ref 140), some (.int v1), some (.int v2)]) (st' := [.int 0]) (S' := w2.2) rfl ?_
        cases hr
        exact go_zreturn mm_241 rfl rfl (Or.inl rfl) ⟨rfl, rfl, rfl⟩
      · rw [if_neg (bf hc3)] at hr
        refine go_run mm_241 1 (pc' := 38) (ls' := [some (.ref 140), some (.int v1), some (.int v2)]) (st' := [.ref 140]) (S' := w2.2) rfl ?_
        obtain ⟨w3, hw3, hr⟩ := ob_some hr
        refine go_cv mm_241 (h := 140) (As := []) (rest := []) (nl := 3) rfl rfl (show cvOK 241 38 279 239 0 3 11 = true by decide +kernel) rfl rfl rfl (S_239 hw3) (KP_V ?_)
        show Go XM (d + 7) 241 0 41 [some (.ref 140), some (.int v1), some (.int v2)] [] w3.2 (RV (vZ r.1) r.2)
        refine go_run mm_241 3 (pc' := 46) (ls' := [some (.ref 140), some (.int v1), some (.int v2)]) (st' := [.int v1, .ref 153]) (S' := w3.2) rfl ?_
        obtain ⟨hb4, hr⟩ := ck_some hr
        refine go_laload mm_241 (q := (Int32.toNatClampNeg v1)) rfl rfl rfl (ibd_ok hb4) ?_
        show Go XM (d + 7) 241 0 47 [some (.ref 140), some (.int v1), some (.int v2)] [.long (w3.2.2 153 (Int32.toNatClampNeg v1))] w3.2 (RV (vZ r.1) r.2)
        refine go_run mm_241 1 (pc' := 48) (ls' := [some (.ref 140), some (.int v1), some (.int v2)]) (st' := [.int v2, .long (w3.2.2 153 (Int32.toNatClampNeg v1))]) (S' := w3.2) rfl ?_
        refine go_cs mm_241 (av := [.long (w3.2.2 153 (Int32.toNatClampNeg v1)), .int v2]) (rest := []) (nl := 3) rfl (show csOK 241 48 282 217 2 3 = true by decide +kernel) rfl rfl rfl (S_217 rfl) (KP_V ?_)
        show Go XM (d + 7) 241 0 51 [some (.ref 140), some (.int v1), some (.int v2)] [.int (b2i (F_217 (w3.2.2 153 (Int32.toNatClampNeg v1)) v2))] w3.2 (RV (vZ r.1) r.2)
        cases hr
        exact go_zreturn mm_241 rfl rfl (b2i_01 _) ⟨rfl, rfl, rfl⟩
    refine go_ifb mm_241 rfl (p1 := 27) (p2 := 23) rfl (fun (hc2 : (F_182 v2 0 ((w1.2.1 140 20) - 1)) = true) => ?_) (fun (hc2 : (F_182 v2 0 ((w1.2.1 140 20) - 1)) = false) => ?_)
    · refine go_run mm_241 1 (pc' := 28) (ls' := [some (.ref 140), some (.int v1), some (.int v2)]) (st' := [.int 0, .ref 140]) (S' := w1.2) rfl ?_
      have e : ((b2i (!(F_182 v2 0 ((w1.2.1 140 20) - 1)))) : Int32) = 0 := by simp [b2i, hc2]
      rw [e] at j5
      exact j5
    · refine go_run mm_241 2 (pc' := 28) (ls' := [some (.ref 140), some (.int v1), some (.int v2)]) (st' := [.int 1, .ref 140]) (S' := w1.2) rfl ?_
      have e : ((b2i (!(F_182 v2 0 ((w1.2.1 140 20) - 1)))) : Int32) = 1 := by simp [b2i, hc2]
      rw [e] at j5
      exact j5

noncomputable def F_242 (v1 : Int32) (S : ST) : Option (Int64 × ST) := ob (F_226 v1 S) (fun w1 => if w1.1 = true then (some (0, w1.2)) else (ob (F_239 w1.2) (fun w2 => ck (ibd v1 64) (some (w2.2.2 153 (Int32.toNatClampNeg v1), w2.2)))))
set_option maxRecDepth 20000 in
theorem S_242 {d : Nat} {S : ST} {v1 : Int32} {r} (hr : F_242 v1 S = some r) : Cal XM (d + 7) 242 [.ref 140, .int v1] S (RV (vJ r.1) r.2) := by
  unfold F_242 at hr
  refine cal_go 0 rfl ?_
  refine go_run mm_242 2 (pc' := 2) (ls' := [some (.ref 140), some (.int v1)]) (st' := [.int v1, .ref 140]) (S' := S) rfl ?_
  obtain ⟨w1, hw1, hr⟩ := ob_some hr
  refine go_cv mm_242 (h := 140) (As := [.int v1]) (rest := []) (nl := 2) rfl rfl (show cvOK 242 2 254 226 1 2 11 = true by decide +kernel) rfl rfl rfl (S_226 hw1) (KP_V ?_)
  show Go XM (d + 7) 242 0 5 [some (.ref 140), some (.int v1)] [.int (b2i w1.1)] w1.2 (RV (vJ r.1) r.2)
  refine go_ifb mm_242 rfl (p1 := 8) (p2 := 10) rfl (fun (hc1 : w1.1 = true) => ?_) (fun (hc1 : w1.1 = false) => ?_)
  · rw [if_pos hc1] at hr
    refine go_run mm_242 1 (pc' := 9) (ls' := [some (.ref 140), some (.int v1)]) (st' := [.long 0]) (S' := w1.2) rfl ?_
    cases hr
    exact go_lreturn mm_242 rfl rfl ⟨rfl, rfl, rfl⟩
  · rw [if_neg (bf hc1)] at hr
    refine go_run mm_242 1 (pc' := 11) (ls' := [some (.ref 140), some (.int v1)]) (st' := [.ref 140]) (S' := w1.2) rfl ?_
    obtain ⟨w2, hw2, hr⟩ := ob_some hr
    refine go_cv mm_242 (h := 140) (As := []) (rest := []) (nl := 3) rfl rfl (show cvOK 242 11 279 239 0 3 11 = true by decide +kernel) rfl rfl rfl (S_239 hw2) (KP_V ?_)
    show Go XM (d + 7) 242 0 14 [some (.ref 140), some (.int v1)] [] w2.2 (RV (vJ r.1) r.2)
    refine go_run mm_242 3 (pc' := 19) (ls' := [some (.ref 140), some (.int v1)]) (st' := [.int v1, .ref 153]) (S' := w2.2) rfl ?_
    obtain ⟨hb2, hr⟩ := ck_some hr
    refine go_laload mm_242 (q := (Int32.toNatClampNeg v1)) rfl rfl rfl (ibd_ok hb2) ?_
    show Go XM (d + 7) 242 0 20 [some (.ref 140), some (.int v1)] [.long (w2.2.2 153 (Int32.toNatClampNeg v1))] w2.2 (RV (vJ r.1) r.2)
    cases hr
    exact go_lreturn mm_242 rfl rfl ⟨rfl, rfl, rfl⟩

noncomputable def Lm_243_17 (S : ST) (a17 : Int64 × Int32) : Option ((Int64 × Int32) ⊕ (Int64 × Int32)) := if a17.2 < (S.1 140 20) then (ck (ibd a17.2 64) (some (.inl (a17.1 ||| (if (S.2 153 (Int32.toNatClampNeg a17.2)) = (F_216 S) then 1 <<< (Int32.toInt64 a17.2 &&& 63) else 0), a17.2 + 1)))) else (some (.inr (a17.1, a17.2)))
set_option maxRecDepth 20000 in
theorem LSm_243_17 {d : Nat} {R : RT} {S : ST} {a17 : Int64 × Int32} {r9} (hr : Lm_243_17 S a17 = some r9) (hL : ∀ a9, r9 = .inl a9 → (fun a17 => Go XM (d + 7) 243 0 17 [some (.ref 140), some (.long a17.1), none, some (.int a17.2)] [] S R) a9) (hR : ∀ b9, r9 = .inr b9 → (fun e17 => Go XM (d + 7) 243 0 55 [some (.ref 140), some (.long e17.1), none, some (.int e17.2)] [] S R) b9) : Go XM (d + 7) 243 0 17 [some (.ref 140), some (.long a17.1), none, some (.int a17.2)] [] S R := by
  unfold Lm_243_17 at hr
  refine go_run mm_243 3 (pc' := 22) (ls' := [some (.ref 140), some (.long a17.1), none, some (.int a17.2)]) (st' := [.int (S.1 140 20), .int a17.2]) (S' := S) rfl ?_
  refine go_if2 mm_243 rfl (p1 := 25) (p2 := 55) rfl (fun (hc2 : a17.2 < (S.1 140 20)) => ?_) (fun (hc2 : ¬ a17.2 < (S.1 140 20)) => ?_)
  · rw [if_pos hc2] at hr
    refine go_run mm_243 4 (pc' := 31) (ls' := [some (.ref 140), some (.long a17.1), none, some (.int a17.2)]) (st' := [.int a17.2, .ref 153, .long a17.1]) (S' := S) rfl ?_
    obtain ⟨hb3, hr⟩ := ck_some hr
    refine go_laload mm_243 (q := (Int32.toNatClampNeg a17.2)) rfl rfl rfl (ibd_ok hb3) ?_
    show Go XM (d + 7) 243 0 32 [some (.ref 140), some (.long a17.1), none, some (.int a17.2)] [.long (S.2 153 (Int32.toNatClampNeg a17.2)), .long a17.1] S R
    refine go_run mm_243 1 (pc' := 33) (ls' := [some (.ref 140), some (.long a17.1), none, some (.int a17.2)]) (st' := [.ref 140, .long (S.2 153 (Int32.toNatClampNeg a17.2)), .long a17.1]) (S' := S) rfl ?_
    refine go_cv mm_243 (h := 140) (As := []) (rest := [.long (S.2 153 (Int32.toNatClampNeg a17.2)), .long a17.1]) (nl := 1) rfl rfl (show cvOK 243 33 286 216 0 1 11 = true by decide +kernel) rfl rfl rfl (S_216 rfl) (KP_V ?_)
    show Go XM (d + 7) 243 0 36 [some (.ref 140), some (.long a17.1), none, some (.int a17.2)] [.long (F_216 S), .long (S.2 153 (Int32.toNatClampNeg a17.2)), .long a17.1] S R
    have j5 : Go XM (d + 7) 243 0 47 [some (.ref 140), some (.long a17.1), none, some (.int a17.2)] [.long (if (S.2 153 (Int32.toNatClampNeg a17.2)) = (F_216 S) then 1 <<< (Int32.toInt64 a17.2 &&& 63) else 0), .long a17.1] S R := by
      refine go_run mm_243 4 (pc' := 17) (ls' := [some (.ref 140), some (.long (a17.1 ||| (if (S.2 153 (Int32.toNatClampNeg a17.2)) = (F_216 S) then 1 <<< (Int32.toInt64 a17.2 &&& 63) else 0))), none, some (.int (a17.2 + 1))]) (st' := []) (S' := S) rfl ?_
      cases hr
      have h9 := hL (a17.1 ||| (if (S.2 153 (Int32.toNatClampNeg a17.2)) = (F_216 S) then 1 <<< (Int32.toInt64 a17.2 &&& 63) else 0), a17.2 + 1) rfl
      dsimp only at h9
      exact Go.le h9 (by repeat first | exact True.intro | refine And.intro rfl ?_)
    refine go_lif mm_243 rfl rfl (p1 := 40) (p2 := 46) rfl (fun (hc4 : (S.2 153 (Int32.toNatClampNeg a17.2)) = (F_216 S)) => ?_) (fun (hc4 : ¬ (S.2 153 (Int32.toNatClampNeg a17.2)) = (F_216 S)) => ?_)
    · refine go_run mm_243 4 (pc' := 47) (ls' := [some (.ref 140), some (.long a17.1), none, some (.int a17.2)]) (st' := [.long (1 <<< (Int32.toInt64 a17.2 &&& 63)), .long a17.1]) (S' := S) rfl ?_
      have e : ((if (S.2 153 (Int32.toNatClampNeg a17.2)) = (F_216 S) then 1 <<< (Int32.toInt64 a17.2 &&& 63) else 0) : Int64) = 1 <<< (Int32.toInt64 a17.2 &&& 63) := by simp [hc4]
      rw [e] at j5
      exact j5
    · refine go_run mm_243 1 (pc' := 47) (ls' := [some (.ref 140), some (.long a17.1), none, some (.int a17.2)]) (st' := [.long 0, .long a17.1]) (S' := S) rfl ?_
      have e : ((if (S.2 153 (Int32.toNatClampNeg a17.2)) = (F_216 S) then 1 <<< (Int32.toInt64 a17.2 &&& 63) else 0) : Int64) = 0 := by simp [hc4]
      rw [e] at j5
      exact j5
  · rw [if_neg hc2] at hr
    cases hr
    have h9 := hR (a17.1, a17.2) rfl
    dsimp only [Sum.elim_inl] at h9
    exact Go.le h9 (by repeat first | exact True.intro | refine And.intro rfl ?_)
noncomputable def F_243 (S : ST) : Option (Int64 × ST) := ob (F_184 S) (fun w1 => if w1.1 = true then (some (0, w1.2)) else (ob (F_239 w1.2) (fun w2 => ob (wh FU (Lm_243_17 w2.2) (0, 0)) (fun e17 => some (e17.1, w2.2)))))
set_option maxRecDepth 20000 in
theorem S_243 {d : Nat} {S : ST} {r} (hr : F_243 S = some r) : Cal XM (d + 7) 243 [.ref 140] S (RV (vJ r.1) r.2) := by
  unfold F_243 at hr
  refine cal_go 3 rfl ?_
  refine go_run mm_243 1 (pc' := 1) (ls' := [some (.ref 140), none, none, none]) (st' := [.ref 140]) (S' := S) rfl ?_
  obtain ⟨w1, hw1, hr⟩ := ob_some hr
  refine go_cv mm_243 (h := 140) (As := []) (rest := []) (nl := 1) rfl rfl (show cvOK 243 1 247 184 0 1 11 = true by decide +kernel) rfl rfl rfl (S_184 hw1) (KP_V ?_)
  show Go XM (d + 7) 243 0 4 [some (.ref 140), none, none, none] [.int (b2i w1.1)] w1.2 (RV (vJ r.1) r.2)
  refine go_ifb mm_243 rfl (p1 := 7) (p2 := 9) rfl (fun (hc1 : w1.1 = true) => ?_) (fun (hc1 : w1.1 = false) => ?_)
  · rw [if_pos hc1] at hr
    refine go_run mm_243 1 (pc' := 8) (ls' := [some (.ref 140), none, none, none]) (st' := [.long 0]) (S' := w1.2) rfl ?_
    cases hr
    exact go_lreturn mm_243 rfl rfl ⟨rfl, rfl, rfl⟩
  · rw [if_neg (bf hc1)] at hr
    refine go_run mm_243 1 (pc' := 10) (ls' := [some (.ref 140), none, none, none]) (st' := [.ref 140]) (S' := w1.2) rfl ?_
    obtain ⟨w2, hw2, hr⟩ := ob_some hr
    refine go_cv mm_243 (h := 140) (As := []) (rest := []) (nl := 3) rfl rfl (show cvOK 243 10 279 239 0 3 11 = true by decide +kernel) rfl rfl rfl (S_239 hw2) (KP_V ?_)
    show Go XM (d + 7) 243 0 13 [some (.ref 140), none, none, none] [] w2.2 (RV (vJ r.1) r.2)
    refine go_run mm_243 4 (pc' := 17) (ls' := [some (.ref 140), some (.long 0), none, some (.int 0)]) (st' := []) (S' := w2.2) rfl ?_
    obtain ⟨z17, he17, hr⟩ := ob_some hr
    refine Go.le (ls' := [some (.ref 140), some (.long 0), none, some (.int 0)]) ?_ (by repeat first | exact True.intro | refine And.intro rfl ?_)
    refine wh_go (P := fun a17 => Go XM (d + 7) 243 0 17 [some (.ref 140), some (.long a17.1), none, some (.int a17.2)] [] w2.2 (RV (vJ r.1) r.2)) (K := fun e17 => Go XM (d + 7) 243 0 55 [some (.ref 140), some (.long e17.1), none, some (.int e17.2)] [] w2.2 (RV (vJ r.1) r.2)) (fun a9 r9 h9 hL hR => LSm_243_17 h9 hL hR) _ _ _ he17 ?_
    generalize z17 = e17 at hr
    show Go XM (d + 7) 243 0 55 [some (.ref 140), some (.long e17.1), none, some (.int e17.2)] [] w2.2 (RV (vJ r.1) r.2)
    refine go_run mm_243 1 (pc' := 56) (ls' := [some (.ref 140), some (.long e17.1), none, some (.int e17.2)]) (st' := [.long e17.1]) (S' := w2.2) rfl ?_
    cases hr
    exact go_lreturn mm_243 rfl rfl ⟨rfl, rfl, rfl⟩

noncomputable def Lm_244_33 (v1 : Int32) (p33_2 : Int64) (p33_4 : Int32) (S : ST) (a33 : Int64 × Int32) : Option ((Int64 × Int32) ⊕ (Int64 × Int32)) := if a33.2 < (S.1 140 20) then (if (F_217 p33_2 a33.2) = true then (ck (ibd a33.2 64) (some (.inl (a33.1 ||| (S.2 153 (Int32.toNatClampNeg a33.2)), a33.2 + 1)))) else (some (.inl (a33.1 ||| 0, a33.2 + 1)))) else (some (.inr (a33.1, a33.2)))
set_option maxRecDepth 20000 in
theorem LSm_244_33 {d : Nat} {R : RT} {S : ST} {v1 : Int32} {p33_2 : Int64} {p33_4 : Int32} {a33 : Int64 × Int32} {r9} (hr : Lm_244_33 v1 p33_2 p33_4 S a33 = some r9) (hL : ∀ a9, r9 = .inl a9 → (fun a33 => Go XM (d + 7) 244 0 33 [some (.ref 140), some (.int v1), some (.long p33_2), none, some (.int p33_4), some (.long a33.1), none, some (.int a33.2)] [] S R) a9) (hR : ∀ b9, r9 = .inr b9 → (fun e33 => Go XM (d + 7) 244 0 73 [some (.ref 140), some (.int v1), some (.long p33_2), none, some (.int p33_4), some (.long e33.1), none, some (.int e33.2)] [] S R) b9) : Go XM (d + 7) 244 0 33 [some (.ref 140), some (.int v1), some (.long p33_2), none, some (.int p33_4), some (.long a33.1), none, some (.int a33.2)] [] S R := by
  unfold Lm_244_33 at hr
  refine go_run mm_244 3 (pc' := 39) (ls' := [some (.ref 140), some (.int v1), some (.long p33_2), none, some (.int p33_4), some (.long a33.1), none, some (.int a33.2)]) (st' := [.int (S.1 140 20), .int a33.2]) (S' := S) rfl ?_
  refine go_if2 mm_244 rfl (p1 := 42) (p2 := 73) rfl (fun (hc4 : a33.2 < (S.1 140 20)) => ?_) (fun (hc4 : ¬ a33.2 < (S.1 140 20)) => ?_)
  · rw [if_pos hc4] at hr
    refine go_run mm_244 3 (pc' := 47) (ls' := [some (.ref 140), some (.int v1), some (.long p33_2), none, some (.int p33_4), some (.long a33.1), none, some (.int a33.2)]) (st' := [.int a33.2, .long p33_2, .long a33.1]) (S' := S) rfl ?_
    refine go_cs mm_244 (av := [.long p33_2, .int a33.2]) (rest := [.long a33.1]) (nl := 3) rfl (show csOK 244 47 282 217 2 3 = true by decide +kernel) rfl rfl rfl (S_217 rfl) (KP_V ?_)
    show Go XM (d + 7) 244 0 50 [some (.ref 140), some (.int v1), some (.long p33_2), none, some (.int p33_4), some (.long a33.1), none, some (.int a33.2)] [.int (b2i (F_217 p33_2 a33.2)), .long a33.1] S R
    refine go_ifb mm_244 rfl (p1 := 53) (p2 := 63) rfl (fun (hc5 : (F_217 p33_2 a33.2) = true) => ?_) (fun (hc5 : (F_217 p33_2 a33.2) = false) => ?_)
    · rw [if_pos hc5] at hr
      refine go_run mm_244 3 (pc' := 59) (ls' := [some (.ref 140), some (.int v1), some (.long p33_2), none, some (.int p33_4), some (.long a33.1), none, some (.int a33.2)]) (st' := [.int a33.2, .ref 153, .long a33.1]) (S' := S) rfl ?_
      obtain ⟨hb6, hr⟩ := ck_some hr
      refine go_laload mm_244 (q := (Int32.toNatClampNeg a33.2)) rfl rfl rfl (ibd_ok hb6) ?_
      show Go XM (d + 7) 244 0 60 [some (.ref 140), some (.int v1), some (.long p33_2), none, some (.int p33_4), some (.long a33.1), none, some (.int a33.2)] [.long (S.2 153 (Int32.toNatClampNeg a33.2)), .long a33.1] S R
      refine go_run mm_244 5 (pc' := 33) (ls' := [some (.ref 140), some (.int v1), some (.long p33_2), none, some (.int p33_4), some (.long (a33.1 ||| (S.2 153 (Int32.toNatClampNeg a33.2)))), none, some (.int (a33.2 + 1))]) (st' := []) (S' := S) rfl ?_
      cases hr
      have h9 := hL (a33.1 ||| (S.2 153 (Int32.toNatClampNeg a33.2)), a33.2 + 1) rfl
      dsimp only at h9
      exact Go.le h9 (by repeat first | exact True.intro | refine And.intro rfl ?_)
    · rw [if_neg (bf hc5)] at hr
      refine go_run mm_244 5 (pc' := 33) (ls' := [some (.ref 140), some (.int v1), some (.long p33_2), none, some (.int p33_4), some (.long (a33.1 ||| 0)), none, some (.int (a33.2 + 1))]) (st' := []) (S' := S) rfl ?_
      cases hr
      have h9 := hL (a33.1 ||| 0, a33.2 + 1) rfl
      dsimp only at h9
      exact Go.le h9 (by repeat first | exact True.intro | refine And.intro rfl ?_)
  · rw [if_neg hc4] at hr
    cases hr
    have h9 := hR (a33.1, a33.2) rfl
    dsimp only [Sum.elim_inl] at h9
    exact Go.le h9 (by repeat first | exact True.intro | refine And.intro rfl ?_)
noncomputable def Lm_244_79 (v1 : Int32) (p79_2 : Int64) (p79_4 : Int32) (p79_5 : Int64) (a79 : Int32 × ST) : Option ((Int32 × ST) ⊕ (Int32 × ST)) := if a79.1 < (a79.2.1 140 20) then (if (F_217 (p79_5 &&& (p79_2 ^^^ (-1))) a79.1) = true then (ck (ibd a79.1 64) (sbn ((wI a79.2 155 (Int32.toNatClampNeg a79.1) p79_4)) (fun s10 => some (.inl (a79.1 + 1, s10))))) else (some (.inl (a79.1 + 1, a79.2)))) else (some (.inr (a79.1, a79.2)))
set_option maxRecDepth 20000 in
theorem LSm_244_79 {d : Nat} {R : RT} {v1 : Int32} {p79_2 : Int64} {p79_4 : Int32} {p79_5 : Int64} {a79 : Int32 × ST} {r9} (hr : Lm_244_79 v1 p79_2 p79_4 p79_5 a79 = some r9) (hL : ∀ a9, r9 = .inl a9 → (fun a79 => Go XM (d + 7) 244 0 79 [some (.ref 140), some (.int v1), some (.long p79_2), none, some (.int p79_4), some (.long p79_5), none, some (.int a79.1)] [] a79.2 R) a9) (hR : ∀ b9, r9 = .inr b9 → (fun e79 => Go XM (d + 7) 244 0 119 [some (.ref 140), some (.int v1), some (.long p79_2), none, some (.int p79_4), some (.long p79_5), none, some (.int e79.1)] [] e79.2 R) b9) : Go XM (d + 7) 244 0 79 [some (.ref 140), some (.int v1), some (.long p79_2), none, some (.int p79_4), some (.long p79_5), none, some (.int a79.1)] [] a79.2 R := by
  unfold Lm_244_79 at hr
  refine go_run mm_244 3 (pc' := 85) (ls' := [some (.ref 140), some (.int v1), some (.long p79_2), none, some (.int p79_4), some (.long p79_5), none, some (.int a79.1)]) (st' := [.int (a79.2.1 140 20), .int a79.1]) (S' := a79.2) rfl ?_
  refine go_if2 mm_244 rfl (p1 := 88) (p2 := 119) rfl (fun (hc7 : a79.1 < (a79.2.1 140 20)) => ?_) (fun (hc7 : ¬ a79.1 < (a79.2.1 140 20)) => ?_)
  · rw [if_pos hc7] at hr
    refine go_run mm_244 6 (pc' := 98) (ls' := [some (.ref 140), some (.int v1), some (.long p79_2), none, some (.int p79_4), some (.long p79_5), none, some (.int a79.1)]) (st' := [.int a79.1, .long (p79_5 &&& (p79_2 ^^^ (-1)))]) (S' := a79.2) rfl ?_
    refine go_cs mm_244 (av := [.long (p79_5 &&& (p79_2 ^^^ (-1))), .int a79.1]) (rest := []) (nl := 3) rfl (show csOK 244 98 282 217 2 3 = true by decide +kernel) rfl rfl rfl (S_217 rfl) (KP_V ?_)
    show Go XM (d + 7) 244 0 101 [some (.ref 140), some (.int v1), some (.long p79_2), none, some (.int p79_4), some (.long p79_5), none, some (.int a79.1)] [.int (b2i (F_217 (p79_5 &&& (p79_2 ^^^ (-1))) a79.1))] a79.2 R
    refine go_ifb mm_244 rfl (p1 := 104) (p2 := 113) rfl (fun (hc8 : (F_217 (p79_5 &&& (p79_2 ^^^ (-1))) a79.1) = true) => ?_) (fun (hc8 : (F_217 (p79_5 &&& (p79_2 ^^^ (-1))) a79.1) = false) => ?_)
    · rw [if_pos hc8] at hr
      refine go_run mm_244 4 (pc' := 112) (ls' := [some (.ref 140), some (.int v1), some (.long p79_2), none, some (.int p79_4), some (.long p79_5), none, some (.int a79.1)]) (st' := [.int p79_4, .int a79.1, .ref 155]) (S' := a79.2) rfl ?_
      obtain ⟨hb9, hr⟩ := ck_some hr
      refine go_iastore mm_244 (q := (Int32.toNatClampNeg a79.1)) rfl rfl rfl (ibd_ok hb9) ?_
      show Go XM (d + 7) 244 0 113 [some (.ref 140), some (.int v1), some (.long p79_2), none, some (.int p79_4), some (.long p79_5), none, some (.int a79.1)] [] (wI a79.2 155 (Int32.toNatClampNeg a79.1) p79_4) R
      obtain ⟨s10, es10, hr⟩ := sbn_some hr
      rw [← es10]
      refine go_run mm_244 2 (pc' := 79) (ls' := [some (.ref 140), some (.int v1), some (.long p79_2), none, some (.int p79_4), some (.long p79_5), none, some (.int (a79.1 + 1))]) (st' := []) (S' := s10) rfl ?_
      cases hr
      have h9 := hL (a79.1 + 1, s10) rfl
      dsimp only at h9
      exact Go.le h9 (by repeat first | exact True.intro | refine And.intro rfl ?_)
    · rw [if_neg (bf hc8)] at hr
      refine go_run mm_244 2 (pc' := 79) (ls' := [some (.ref 140), some (.int v1), some (.long p79_2), none, some (.int p79_4), some (.long p79_5), none, some (.int (a79.1 + 1))]) (st' := []) (S' := a79.2) rfl ?_
      cases hr
      have h9 := hL (a79.1 + 1, a79.2) rfl
      dsimp only at h9
      exact Go.le h9 (by repeat first | exact True.intro | refine And.intro rfl ?_)
  · rw [if_neg hc7] at hr
    cases hr
    have h9 := hR (a79.1, a79.2) rfl
    dsimp only [Sum.elim_inl] at h9
    exact Go.le h9 (by repeat first | exact True.intro | refine And.intro rfl ?_)
noncomputable def Lm_244_18 (v1 : Int32) (a18 : Int64 × Int32 × ST) : Option ((Int64 × Int32 × ST) ⊕ (Int64 × Int32 × ST)) := if a18.1 = (F_216 a18.2.2) then (some (.inr (a18.1, a18.2.1, a18.2.2))) else (ob (wh FU (Lm_244_33 v1 a18.1 a18.2.1 a18.2.2) (0, 0)) (fun e33 => ob (wh FU (Lm_244_79 v1 a18.1 (a18.2.1 + 1) e33.1) (0, a18.2.2)) (fun e79 => some (.inl (a18.1 ||| e33.1, a18.2.1 + 1, e79.2)))))
set_option maxRecDepth 20000 in
theorem LSm_244_18 {d : Nat} {R : RT} {v1 : Int32} {a18 : Int64 × Int32 × ST} {r9} (hr : Lm_244_18 v1 a18 = some r9) (hL : ∀ a9, r9 = .inl a9 → (fun a18 => Go XM (d + 7) 244 0 18 [some (.ref 140), some (.int v1), some (.long a18.1), none, some (.int a18.2.1), none, none, none] [] a18.2.2 R) a9) (hR : ∀ b9, r9 = .inr b9 → (fun e18 => Go XM (d + 7) 244 0 127 [some (.ref 140), some (.int v1), some (.long e18.1), none, some (.int e18.2.1), none, none, none] [] e18.2.2 R) b9) : Go XM (d + 7) 244 0 18 [some (.ref 140), some (.int v1), some (.long a18.1), none, some (.int a18.2.1), none, none, none] [] a18.2.2 R := by
  unfold Lm_244_18 at hr
  refine go_run mm_244 2 (pc' := 20) (ls' := [some (.ref 140), some (.int v1), some (.long a18.1), none, some (.int a18.2.1), none, none, none]) (st' := [.ref 140, .long a18.1]) (S' := a18.2.2) rfl ?_
  refine go_cv mm_244 (h := 140) (As := []) (rest := [.long a18.1]) (nl := 1) rfl rfl (show cvOK 244 20 286 216 0 1 11 = true by decide +kernel) rfl rfl rfl (S_216 rfl) (KP_V ?_)
  show Go XM (d + 7) 244 0 23 [some (.ref 140), some (.int v1), some (.long a18.1), none, some (.int a18.2.1), none, none, none] [.long (F_216 a18.2.2), .long a18.1] a18.2.2 R
  refine go_lif mm_244 rfl rfl (p1 := 127) (p2 := 27) rfl (fun (hc3 : a18.1 = (F_216 a18.2.2)) => ?_) (fun (hc3 : ¬ a18.1 = (F_216 a18.2.2)) => ?_)
  · rw [if_pos hc3] at hr
    cases hr
    have h9 := hR (a18.1, a18.2.1, a18.2.2) rfl
    dsimp only [Sum.elim_inl] at h9
    exact Go.le h9 (by repeat first | exact True.intro | refine And.intro rfl ?_)
  · rw [if_neg hc3] at hr
    refine go_run mm_244 4 (pc' := 33) (ls' := [some (.ref 140), some (.int v1), some (.long a18.1), none, some (.int a18.2.1), some (.long 0), none, some (.int 0)]) (st' := []) (S' := a18.2.2) rfl ?_
    obtain ⟨z33, he33, hr⟩ := ob_some hr
    refine Go.le (ls' := [some (.ref 140), some (.int v1), some (.long a18.1), none, some (.int a18.2.1), some (.long 0), none, some (.int 0)]) ?_ (by repeat first | exact True.intro | refine And.intro rfl ?_)
    refine wh_go (P := fun a33 => Go XM (d + 7) 244 0 33 [some (.ref 140), some (.int v1), some (.long a18.1), none, some (.int a18.2.1), some (.long a33.1), none, some (.int a33.2)] [] a18.2.2 R) (K := fun e33 => Go XM (d + 7) 244 0 73 [some (.ref 140), some (.int v1), some (.long a18.1), none, some (.int a18.2.1), some (.long e33.1), none, some (.int e33.2)] [] a18.2.2 R) (fun a9 r9 h9 hL hR => LSm_244_33 h9 hL hR) _ _ _ he33 ?_
    generalize z33 = e33 at hr
    show Go XM (d + 7) 244 0 73 [some (.ref 140), some (.int v1), some (.long a18.1), none, some (.int a18.2.1), some (.long e33.1), none, some (.int e33.2)] [] a18.2.2 R
    refine go_run mm_244 3 (pc' := 79) (ls' := [some (.ref 140), some (.int v1), some (.long a18.1), none, some (.int (a18.2.1 + 1)), some (.long e33.1), none, some (.int 0)]) (st' := []) (S' := a18.2.2) rfl ?_
    obtain ⟨z79, he79, hr⟩ := ob_some hr
    refine Go.le (ls' := [some (.ref 140), some (.int v1), some (.long a18.1), none, some (.int (a18.2.1 + 1)), some (.long e33.1), none, some (.int 0)]) ?_ (by repeat first | exact True.intro | refine And.intro rfl ?_)
    refine wh_go (P := fun a79 => Go XM (d + 7) 244 0 79 [some (.ref 140), some (.int v1), some (.long a18.1), none, some (.int (a18.2.1 + 1)), some (.long e33.1), none, some (.int a79.1)] [] a79.2 R) (K := fun e79 => Go XM (d + 7) 244 0 119 [some (.ref 140), some (.int v1), some (.long a18.1), none, some (.int (a18.2.1 + 1)), some (.long e33.1), none, some (.int e79.1)] [] e79.2 R) (fun a9 r9 h9 hL hR => LSm_244_79 h9 hL hR) _ _ _ he79 ?_
    generalize z79 = e79 at hr
    show Go XM (d + 7) 244 0 119 [some (.ref 140), some (.int v1), some (.long a18.1), none, some (.int (a18.2.1 + 1)), some (.long e33.1), none, some (.int e79.1)] [] e79.2 R
    refine go_run mm_244 5 (pc' := 18) (ls' := [some (.ref 140), some (.int v1), some (.long (a18.1 ||| e33.1)), none, some (.int (a18.2.1 + 1)), some (.long e33.1), none, some (.int e79.1)]) (st' := []) (S' := e79.2) rfl ?_
    cases hr
    have h9 := hL (a18.1 ||| e33.1, a18.2.1 + 1, e79.2) rfl
    dsimp only at h9
    exact Go.le h9 (by repeat first | exact True.intro | refine And.intro rfl ?_)
noncomputable def F_244 (v1 : Int32) (S : ST) : Option (Int32 × ST) := ob (F_239 S) (fun w1 => ck (ibd v1 64) (sbn ((wI w1.2 155 (Int32.toNatClampNeg v1) 0)) (fun s2 => ob (wh FU (Lm_244_18 v1) (1 <<< (Int32.toInt64 v1 &&& 63), 0, s2)) (fun e18 => some (e18.2.1, e18.2.2)))))
set_option maxRecDepth 20000 in
theorem S_244 {d : Nat} {S : ST} {v1 : Int32} {r} (hr : F_244 v1 S = some r) : Cal XM (d + 7) 244 [.ref 140, .int v1] S (RV (vI r.1) r.2) := by
  unfold F_244 at hr
  refine cal_go 6 rfl ?_
  refine go_run mm_244 1 (pc' := 1) (ls' := [some (.ref 140), some (.int v1), none, none, none, none, none, none]) (st' := [.ref 140]) (S' := S) rfl ?_
  obtain ⟨w1, hw1, hr⟩ := ob_some hr
  refine go_cv mm_244 (h := 140) (As := []) (rest := []) (nl := 3) rfl rfl (show cvOK 244 1 279 239 0 3 11 = true by decide +kernel) rfl rfl rfl (S_239 hw1) (KP_V ?_)
  show Go XM (d + 7) 244 0 4 [some (.ref 140), some (.int v1), none, none, none, none, none, none] [] w1.2 (RV (vI r.1) r.2)
  refine go_run mm_244 8 (pc' := 14) (ls' := [some (.ref 140), some (.int v1), some (.long (1 <<< (Int32.toInt64 v1 &&& 63))), none, none, none, none, none]) (st' := [.int 0, .int v1, .ref 155]) (S' := w1.2) rfl ?_
  obtain ⟨hb1, hr⟩ := ck_some hr
  refine go_iastore mm_244 (q := (Int32.toNatClampNeg v1)) rfl rfl rfl (ibd_ok hb1) ?_
  show Go XM (d + 7) 244 0 15 [some (.ref 140), some (.int v1), some (.long (1 <<< (Int32.toInt64 v1 &&& 63))), none, none, none, none, none] [] (wI w1.2 155 (Int32.toNatClampNeg v1) 0) (RV (vI r.1) r.2)
  obtain ⟨s2, es2, hr⟩ := sbn_some hr
  rw [← es2]
  refine go_run mm_244 2 (pc' := 18) (ls' := [some (.ref 140), some (.int v1), some (.long (1 <<< (Int32.toInt64 v1 &&& 63))), none, some (.int 0), none, none, none]) (st' := []) (S' := s2) rfl ?_
  obtain ⟨z18, he18, hr⟩ := ob_some hr
  refine Go.le (ls' := [some (.ref 140), some (.int v1), some (.long (1 <<< (Int32.toInt64 v1 &&& 63))), none, some (.int 0), none, none, none]) ?_ (by repeat first | exact True.intro | refine And.intro rfl ?_)
  refine wh_go (P := fun a18 => Go XM (d + 7) 244 0 18 [some (.ref 140), some (.int v1), some (.long a18.1), none, some (.int a18.2.1), none, none, none] [] a18.2.2 (RV (vI r.1) r.2)) (K := fun e18 => Go XM (d + 7) 244 0 127 [some (.ref 140), some (.int v1), some (.long e18.1), none, some (.int e18.2.1), none, none, none] [] e18.2.2 (RV (vI r.1) r.2)) (fun a9 r9 h9 hL hR => LSm_244_18 h9 hL hR) _ _ _ he18 ?_
  generalize z18 = e18 at hr
  show Go XM (d + 7) 244 0 127 [some (.ref 140), some (.int v1), some (.long e18.1), none, some (.int e18.2.1), none, none, none] [] e18.2.2 (RV (vI r.1) r.2)
  refine go_run mm_244 1 (pc' := 129) (ls' := [some (.ref 140), some (.int v1), some (.long e18.1), none, some (.int e18.2.1), none, none, none]) (st' := [.int e18.2.1]) (S' := e18.2.2) rfl ?_
  cases hr
  exact go_ireturn mm_244 rfl rfl ⟨rfl, rfl, rfl⟩
