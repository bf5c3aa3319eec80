/-! methods as functions (printed by a program): 17 fill, 52 guardX, 53 guardY, 60 treasureX, 61 treasureY, 22 holdsAllOf, 24 turnOf, 25 signedArea, 47 before -/
theorem mm_17 : mtG 17 = some (mi_17, 3, ft_17) := rfl
def L_17_20 (h0 : Nat) (h1 : Nat) (p20_2 : Int32) (a20 : Int32 × ST) : Option ((Int32 × ST) ⊕ ((Int32 × ST) ⊕ (Bool × ST))) := if a20.1 < 16 then (ob (F_33 h1 (2 * a20.1) (2 * p20_2) a20.2) (fun w1 => ck (ibd ((p20_2 * 16) + a20.1) 256) (sbn ((wI a20.2 (h0 + 3) (Int32.toNatClampNeg ((p20_2 * 16) + a20.1)) (-1))) (fun s6 => if w1 = 0 then (some (.inl (a20.1 + 1, s6))) else (if (s6.1 h0 0) < 64 then (if w1 = 1 then (sbn ((wL s6 h0 1 ((s6.2 h0 1) ||| (1 <<< (Int32.toInt64 (s6.1 h0 0) &&& 63))))) (fun s10 => ck (ibd ((p20_2 * 16) + a20.1) 256) (sbn ((wI s10 (h0 + 3) (Int32.toNatClampNeg ((p20_2 * 16) + a20.1)) (s10.1 h0 0))) (fun s12 => ck (ibd (s12.1 h0 0) 64) (sbn ((wI s12 (h0 + 1) (Int32.toNatClampNeg (s12.1 h0 0)) a20.1)) (fun s14 => ck (ibd (s14.1 h0 0) 64) (sbn ((wI s14 (h0 + 2) (Int32.toNatClampNeg (s14.1 h0 0)) p20_2)) (fun s16 => sbn ((wI s16 h0 0 ((s16.1 h0 0) + 1))) (fun s17 => some (.inl (a20.1 + 1, s17))))))))))) else (ck (ibd ((p20_2 * 16) + a20.1) 256) (sbn ((wI s6 (h0 + 3) (Int32.toNatClampNeg ((p20_2 * 16) + a20.1)) (s6.1 h0 0))) (fun s19 => ck (ibd (s19.1 h0 0) 64) (sbn ((wI s19 (h0 + 1) (Int32.toNatClampNeg (s19.1 h0 0)) a20.1)) (fun s21 => ck (ibd (s21.1 h0 0) 64) (sbn ((wI s21 (h0 + 2) (Int32.toNatClampNeg (s21.1 h0 0)) p20_2)) (fun s23 => sbn ((wI s23 h0 0 ((s23.1 h0 0) + 1))) (fun s24 => some (.inl (a20.1 + 1, s24))))))))))) else (some (.inr (.inr (false, s6))))))))) else (some (.inr (.inl (a20.1, a20.2))))
set_option maxRecDepth 20000 in
theorem LS_17_20 {d : Nat} {R : RT} {h0 : Nat} {h1 : Nat} {p20_2 : Int32} (hp0 : LTH h0) (hp1 : PLH h1) {a20 : Int32 × ST} {r9} (hr : L_17_20 h0 h1 p20_2 a20 = some r9) (hL : ∀ a9, r9 = .inl a9 → (fun a20 => Go XC (d + 3) 17 0 20 [some (.ref h0), some (.ref h1), some (.int p20_2), some (.int a20.1), none] [] a20.2 R) a9) (hR : ∀ b9, r9 = .inr b9 → Sum.elim (fun e20 => Go XC (d + 3) 17 0 141 [some (.ref h0), some (.ref h1), some (.int p20_2), some (.int e20.1), none] [] e20.2 R) (fun o => R 0 (.inr (vZ o.1)) o.2) b9) : Go XC (d + 3) 17 0 20 [some (.ref h0), some (.ref h1), some (.int p20_2), some (.int a20.1), none] [] a20.2 R := by
  unfold L_17_20 at hr
  refine go_run mm_17 2 (pc' := 23) (ls' := [some (.ref h0), some (.ref h1), some (.int p20_2), some (.int a20.1), none]) (st' := [.int 16, .int a20.1]) (S' := a20.2) rfl ?_
  refine go_if2 mm_17 rfl (p1 := 26) (p2 := 141) rfl (fun (hc4 : a20.1 < 16) => ?_) (fun (hc4 : ¬ a20.1 < 16) => ?_)
  · rw [if_pos hc4] at hr
    refine go_run mm_17 7 (pc' := 33) (ls' := [some (.ref h0), some (.ref h1), some (.int p20_2), some (.int a20.1), none]) (st' := [.int (2 * p20_2), .int (2 * a20.1), .ref h1]) (S' := a20.2) rfl ?_
    obtain ⟨w1, hw1, hr⟩ := ob_some hr
    refine go_cs mm_17 (av := [.ref h1, .int (2 * a20.1), .int (2 * p20_2)]) (rest := []) (nl := 5) rfl (show csOK 17 33 29 33 3 5 = true by decide +kernel) rfl rfl rfl (S_33 hp1 hw1) (KP_V ?_)
    show Go XC (d + 3) 17 0 36 [some (.ref h0), some (.ref h1), some (.int p20_2), some (.int a20.1), none] [.int w1] a20.2 R
    refine go_run mm_17 2 (pc' := 39) (ls' := [some (.ref h0), some (.ref h1), some (.int p20_2), some (.int a20.1), some (.int w1)]) (st' := [.ref h0]) (S' := a20.2) rfl ?_
    refine go_getf mm_17 (h := h0) rfl hp0.1 rfl ?_
    show Go XC (d + 3) 17 0 42 [some (.ref h0), some (.ref h1), some (.int p20_2), some (.int a20.1), some (.int w1)] [.ref (h0 + 3)] a20.2 R
    refine go_run mm_17 6 (pc' := 49) (ls' := [some (.ref h0), some (.ref h1), some (.int p20_2), some (.int a20.1), some (.int w1)]) (st' := [.int (-1), .int ((p20_2 * 16) + a20.1), .ref (h0 + 3)]) (S' := a20.2) rfl ?_
    obtain ⟨hb5, hr⟩ := ck_some hr
    refine go_iastore mm_17 (q := (Int32.toNatClampNeg ((p20_2 * 16) + a20.1))) rfl (hp0.2.2.2) rfl (ibd_ok hb5) ?_
    show Go XC (d + 3) 17 0 50 [some (.ref h0), some (.ref h1), some (.int p20_2), some (.int a20.1), some (.int w1)] [] (wI a20.2 (h0 + 3) (Int32.toNatClampNeg ((p20_2 * 16) + a20.1)) (-1)) R
    obtain ⟨s6, es6, hr⟩ := sbn_some hr
    rw [← es6]
    refine go_run mm_17 1 (pc' := 52) (ls' := [some (.ref h0), some (.ref h1), some (.int p20_2), some (.int a20.1), some (.int w1)]) (st' := [.int w1]) (S' := s6) rfl ?_
    refine go_if0 mm_17 rfl (p1 := 55) (p2 := 58) rfl (fun (hc7 : w1 = 0) => ?_) (fun (hc7 : ¬ w1 = 0) => ?_)
    · rw [if_pos hc7] at hr
      refine go_run mm_17 3 (pc' := 20) (ls' := [some (.ref h0), some (.ref h1), some (.int p20_2), some (.int (a20.1 + 1)), some (.int w1)]) (st' := []) (S' := s6) rfl ?_
      cases hr
      have h9 := hL (a20.1 + 1, s6) rfl
      dsimp only at h9
      exact Go.le h9 (by repeat first | exact True.intro | refine And.intro rfl ?_)
    · rw [if_neg hc7] at hr
      refine go_run mm_17 1 (pc' := 59) (ls' := [some (.ref h0), some (.ref h1), some (.int p20_2), some (.int a20.1), some (.int w1)]) (st' := [.ref h0]) (S' := s6) rfl ?_
      refine go_getf mm_17 (h := h0) rfl hp0.1 rfl ?_
      show Go XC (d + 3) 17 0 62 [some (.ref h0), some (.ref h1), some (.int p20_2), some (.int a20.1), some (.int w1)] [.int (s6.1 h0 0)] s6 R
      refine go_run mm_17 1 (pc' := 64) (ls' := [some (.ref h0), some (.ref h1), some (.int p20_2), some (.int a20.1), some (.int w1)]) (st' := [.int 64, .int (s6.1 h0 0)]) (S' := s6) rfl ?_
      refine go_if2 mm_17 rfl (p1 := 69) (p2 := 67) rfl (fun (hc8 : (s6.1 h0 0) < 64) => ?_) (fun (hc8 : ¬ (s6.1 h0 0) < 64) => ?_)
      · rw [if_pos hc8] at hr
        refine go_run mm_17 2 (pc' := 72) (ls' := [some (.ref h0), some (.ref h1), some (.int p20_2), some (.int a20.1), some (.int w1)]) (st' := [.int 1, .int w1]) (S' := s6) rfl ?_
        refine go_if2 mm_17 rfl (p1 := 75) (p2 := 90) rfl (fun (hc9 : w1 = 1) => ?_) (fun (hc9 : ¬ w1 = 1) => ?_)
        · rw [if_pos hc9] at hr
          refine go_run mm_17 2 (pc' := 77) (ls' := [some (.ref h0), some (.ref h1), some (.int p20_2), some (.int a20.1), some (.int w1)]) (st' := [.ref h0, .ref h0]) (S' := s6) rfl ?_
          refine go_getf mm_17 (h := h0) rfl hp0.1 rfl ?_
          show Go XC (d + 3) 17 0 80 [some (.ref h0), some (.ref h1), some (.int p20_2), some (.int a20.1), some (.int w1)] [.long (s6.2 h0 1), .ref h0] s6 R
          refine go_run mm_17 2 (pc' := 82) (ls' := [some (.ref h0), some (.ref h1), some (.int p20_2), some (.int a20.1), some (.int w1)]) (st' := [.ref h0, .long 1, .long (s6.2 h0 1), .ref h0]) (S' := s6) rfl ?_
          refine go_getf mm_17 (h := h0) rfl hp0.1 rfl ?_
          show Go XC (d + 3) 17 0 85 [some (.ref h0), some (.ref h1), some (.int p20_2), some (.int a20.1), some (.int w1)] [.int (s6.1 h0 0), .long 1, .long (s6.2 h0 1), .ref h0] s6 R
          refine go_run mm_17 2 (pc' := 87) (ls' := [some (.ref h0), some (.ref h1), some (.int p20_2), some (.int a20.1), some (.int w1)]) (st' := [.long ((s6.2 h0 1) ||| (1 <<< (Int32.toInt64 (s6.1 h0 0) &&& 63))), .ref h0]) (S' := s6) rfl ?_
          refine go_putL mm_17 (h := h0) rfl hp0.1 rfl ?_
          show Go XC (d + 3) 17 0 90 [some (.ref h0), some (.ref h1), some (.int p20_2), some (.int a20.1), some (.int w1)] [] (wL s6 h0 1 ((s6.2 h0 1) ||| (1 <<< (Int32.toInt64 (s6.1 h0 0) &&& 63)))) R
          obtain ⟨s10, es10, hr⟩ := sbn_some hr
          rw [← es10]
          refine go_run mm_17 1 (pc' := 91) (ls' := [some (.ref h0), some (.ref h1), some (.int p20_2), some (.int a20.1), some (.int w1)]) (st' := [.ref h0]) (S' := s10) rfl ?_
          refine go_getf mm_17 (h := h0) rfl hp0.1 rfl ?_
          show Go XC (d + 3) 17 0 94 [some (.ref h0), some (.ref h1), some (.int p20_2), some (.int a20.1), some (.int w1)] [.ref (h0 + 3)] s10 R
          refine go_run mm_17 6 (pc' := 101) (ls' := [some (.ref h0), some (.ref h1), some (.int p20_2), some (.int a20.1), some (.int w1)]) (st' := [.ref h0, .int ((p20_2 * 16) + a20.1), .ref (h0 + 3)]) (S' := s10) rfl ?_
          refine go_getf mm_17 (h := h0) rfl hp0.1 rfl ?_
          show Go XC (d + 3) 17 0 104 [some (.ref h0), some (.ref h1), some (.int p20_2), some (.int a20.1), some (.int w1)] [.int (s10.1 h0 0), .int ((p20_2 * 16) + a20.1), .ref (h0 + 3)] s10 R
          obtain ⟨hb11, hr⟩ := ck_some hr
          refine go_iastore mm_17 (q := (Int32.toNatClampNeg ((p20_2 * 16) + a20.1))) rfl (hp0.2.2.2) rfl (ibd_ok hb11) ?_
          show Go XC (d + 3) 17 0 105 [some (.ref h0), some (.ref h1), some (.int p20_2), some (.int a20.1), some (.int w1)] [] (wI s10 (h0 + 3) (Int32.toNatClampNeg ((p20_2 * 16) + a20.1)) (s10.1 h0 0)) R
          obtain ⟨s12, es12, hr⟩ := sbn_some hr
          rw [← es12]
          refine go_run mm_17 1 (pc' := 106) (ls' := [some (.ref h0), some (.ref h1), some (.int p20_2), some (.int a20.1), some (.int w1)]) (st' := [.ref h0]) (S' := s12) rfl ?_
          refine go_getf mm_17 (h := h0) rfl hp0.1 rfl ?_
          show Go XC (d + 3) 17 0 109 [some (.ref h0), some (.ref h1), some (.int p20_2), some (.int a20.1), some (.int w1)] [.ref (h0 + 1)] s12 R
          refine go_run mm_17 1 (pc' := 110) (ls' := [some (.ref h0), some (.ref h1), some (.int p20_2), some (.int a20.1), some (.int w1)]) (st' := [.ref h0, .ref (h0 + 1)]) (S' := s12) rfl ?_
          refine go_getf mm_17 (h := h0) rfl hp0.1 rfl ?_
          show Go XC (d + 3) 17 0 113 [some (.ref h0), some (.ref h1), some (.int p20_2), some (.int a20.1), some (.int w1)] [.int (s12.1 h0 0), .ref (h0 + 1)] s12 R
          refine go_run mm_17 1 (pc' := 114) (ls' := [some (.ref h0), some (.ref h1), some (.int p20_2), some (.int a20.1), some (.int w1)]) (st' := [.int a20.1, .int (s12.1 h0 0), .ref (h0 + 1)]) (S' := s12) rfl ?_
          obtain ⟨hb13, hr⟩ := ck_some hr
          refine go_iastore mm_17 (q := (Int32.toNatClampNeg (s12.1 h0 0))) rfl (hp0.2.1) rfl (ibd_ok hb13) ?_
          show Go XC (d + 3) 17 0 115 [some (.ref h0), some (.ref h1), some (.int p20_2), some (.int a20.1), some (.int w1)] [] (wI s12 (h0 + 1) (Int32.toNatClampNeg (s12.1 h0 0)) a20.1) R
          obtain ⟨s14, es14, hr⟩ := sbn_some hr
          rw [← es14]
          refine go_run mm_17 1 (pc' := 116) (ls' := [some (.ref h0), some (.ref h1), some (.int p20_2), some (.int a20.1), some (.int w1)]) (st' := [.ref h0]) (S' := s14) rfl ?_
          refine go_getf mm_17 (h := h0) rfl hp0.1 rfl ?_
          show Go XC (d + 3) 17 0 119 [some (.ref h0), some (.ref h1), some (.int p20_2), some (.int a20.1), some (.int w1)] [.ref (h0 + 2)] s14 R
          refine go_run mm_17 1 (pc' := 120) (ls' := [some (.ref h0), some (.ref h1), some (.int p20_2), some (.int a20.1), some (.int w1)]) (st' := [.ref h0, .ref (h0 + 2)]) (S' := s14) rfl ?_
          refine go_getf mm_17 (h := h0) rfl hp0.1 rfl ?_
          show Go XC (d + 3) 17 0 123 [some (.ref h0), some (.ref h1), some (.int p20_2), some (.int a20.1), some (.int w1)] [.int (s14.1 h0 0), .ref (h0 + 2)] s14 R
          refine go_run mm_17 1 (pc' := 124) (ls' := [some (.ref h0), some (.ref h1), some (.int p20_2), some (.int a20.1), some (.int w1)]) (st' := [.int p20_2, .int (s14.1 h0 0), .ref (h0 + 2)]) (S' := s14) rfl ?_
          obtain ⟨hb15, hr⟩ := ck_some hr
          refine go_iastore mm_17 (q := (Int32.toNatClampNeg (s14.1 h0 0))) rfl (hp0.2.2.1) rfl (ibd_ok hb15) ?_
          show Go XC (d + 3) 17 0 125 [some (.ref h0), some (.ref h1), some (.int p20_2), some (.int a20.1), some (.int w1)] [] (wI s14 (h0 + 2) (Int32.toNatClampNeg (s14.1 h0 0)) p20_2) R
          obtain ⟨s16, es16, hr⟩ := sbn_some hr
          rw [← es16]
          refine go_run mm_17 2 (pc' := 127) (ls' := [some (.ref h0), some (.ref h1), some (.int p20_2), some (.int a20.1), some (.int w1)]) (st' := [.ref h0, .ref h0]) (S' := s16) rfl ?_
          refine go_getf mm_17 (h := h0) rfl hp0.1 rfl ?_
          show Go XC (d + 3) 17 0 130 [some (.ref h0), some (.ref h1), some (.int p20_2), some (.int a20.1), some (.int w1)] [.int (s16.1 h0 0), .ref h0] s16 R
          refine go_run mm_17 2 (pc' := 132) (ls' := [some (.ref h0), some (.ref h1), some (.int p20_2), some (.int a20.1), some (.int w1)]) (st' := [.int ((s16.1 h0 0) + 1), .ref h0]) (S' := s16) rfl ?_
          refine go_putI mm_17 (h := h0) rfl hp0.1 rfl ?_
          show Go XC (d + 3) 17 0 135 [some (.ref h0), some (.ref h1), some (.int p20_2), some (.int a20.1), some (.int w1)] [] (wI s16 h0 0 ((s16.1 h0 0) + 1)) R
          obtain ⟨s17, es17, hr⟩ := sbn_some hr
          rw [← es17]
          refine go_run mm_17 2 (pc' := 20) (ls' := [some (.ref h0), some (.ref h1), some (.int p20_2), some (.int (a20.1 + 1)), some (.int w1)]) (st' := []) (S' := s17) rfl ?_
          cases hr
          have h9 := hL (a20.1 + 1, s17) rfl
          dsimp only at h9
          exact Go.le h9 (by repeat first | exact True.intro | refine And.intro rfl ?_)
        · rw [if_neg hc9] at hr
          refine go_run mm_17 1 (pc' := 91) (ls' := [some (.ref h0), some (.ref h1), some (.int p20_2), some (.int a20.1), some (.int w1)]) (st' := [.ref h0]) (S' := s6) rfl ?_
          refine go_getf mm_17 (h := h0) rfl hp0.1 rfl ?_
          show Go XC (d + 3) 17 0 94 [some (.ref h0), some (.ref h1), some (.int p20_2), some (.int a20.1), some (.int w1)] [.ref (h0 + 3)] s6 R
          refine go_run mm_17 6 (pc' := 101) (ls' := [some (.ref h0), some (.ref h1), some (.int p20_2), some (.int a20.1), some (.int w1)]) (st' := [.ref h0, .int ((p20_2 * 16) + a20.1), .ref (h0 + 3)]) (S' := s6) rfl ?_
          refine go_getf mm_17 (h := h0) rfl hp0.1 rfl ?_
          show Go XC (d + 3) 17 0 104 [some (.ref h0), some (.ref h1), some (.int p20_2), some (.int a20.1), some (.int w1)] [.int (s6.1 h0 0), .int ((p20_2 * 16) + a20.1), .ref (h0 + 3)] s6 R
          obtain ⟨hb18, hr⟩ := ck_some hr
          refine go_iastore mm_17 (q := (Int32.toNatClampNeg ((p20_2 * 16) + a20.1))) rfl (hp0.2.2.2) rfl (ibd_ok hb18) ?_
          show Go XC (d + 3) 17 0 105 [some (.ref h0), some (.ref h1), some (.int p20_2), some (.int a20.1), some (.int w1)] [] (wI s6 (h0 + 3) (Int32.toNatClampNeg ((p20_2 * 16) + a20.1)) (s6.1 h0 0)) R
          obtain ⟨s19, es19, hr⟩ := sbn_some hr
          rw [← es19]
          refine go_run mm_17 1 (pc' := 106) (ls' := [some (.ref h0), some (.ref h1), some (.int p20_2), some (.int a20.1), some (.int w1)]) (st' := [.ref h0]) (S' := s19) rfl ?_
          refine go_getf mm_17 (h := h0) rfl hp0.1 rfl ?_
          show Go XC (d + 3) 17 0 109 [some (.ref h0), some (.ref h1), some (.int p20_2), some (.int a20.1), some (.int w1)] [.ref (h0 + 1)] s19 R
          refine go_run mm_17 1 (pc' := 110) (ls' := [some (.ref h0), some (.ref h1), some (.int p20_2), some (.int a20.1), some (.int w1)]) (st' := [.ref h0, .ref (h0 + 1)]) (S' := s19) rfl ?_
          refine go_getf mm_17 (h := h0) rfl hp0.1 rfl ?_
          show Go XC (d + 3) 17 0 113 [some (.ref h0), some (.ref h1), some (.int p20_2), some (.int a20.1), some (.int w1)] [.int (s19.1 h0 0), .ref (h0 + 1)] s19 R
          refine go_run mm_17 1 (pc' := 114) (ls' := [some (.ref h0), some (.ref h1), some (.int p20_2), some (.int a20.1), some (.int w1)]) (st' := [.int a20.1, .int (s19.1 h0 0), .ref (h0 + 1)]) (S' := s19) rfl ?_
          obtain ⟨hb20, hr⟩ := ck_some hr
          refine go_iastore mm_17 (q := (Int32.toNatClampNeg (s19.1 h0 0))) rfl (hp0.2.1) rfl (ibd_ok hb20) ?_
          show Go XC (d + 3) 17 0 115 [some (.ref h0), some (.ref h1), some (.int p20_2), some (.int a20.1), some (.int w1)] [] (wI s19 (h0 + 1) (Int32.toNatClampNeg (s19.1 h0 0)) a20.1) R
          obtain ⟨s21, es21, hr⟩ := sbn_some hr
          rw [← es21]
          refine go_run mm_17 1 (pc' := 116) (ls' := [some (.ref h0), some (.ref h1), some (.int p20_2), some (.int a20.1), some (.int w1)]) (st' := [.ref h0]) (S' := s21) rfl ?_
          refine go_getf mm_17 (h := h0) rfl hp0.1 rfl ?_
          show Go XC (d + 3) 17 0 119 [some (.ref h0), some (.ref h1), some (.int p20_2), some (.int a20.1), some (.int w1)] [.ref (h0 + 2)] s21 R
          refine go_run mm_17 1 (pc' := 120) (ls' := [some (.ref h0), some (.ref h1), some (.int p20_2), some (.int a20.1), some (.int w1)]) (st' := [.ref h0, .ref (h0 + 2)]) (S' := s21) rfl ?_
          refine go_getf mm_17 (h := h0) rfl hp0.1 rfl ?_
          show Go XC (d + 3) 17 0 123 [some (.ref h0), some (.ref h1), some (.int p20_2), some (.int a20.1), some (.int w1)] [.int (s21.1 h0 0), .ref (h0 + 2)] s21 R
          refine go_run mm_17 1 (pc' := 124) (ls' := [some (.ref h0), some (.ref h1), some (.int p20_2), some (.int a20.1), some (.int w1)]) (st' := [.int p20_2, .int (s21.1 h0 0), .ref (h0 + 2)]) (S' := s21) rfl ?_
          obtain ⟨hb22, hr⟩ := ck_some hr
          refine go_iastore mm_17 (q := (Int32.toNatClampNeg (s21.1 h0 0))) rfl (hp0.2.2.1) rfl (ibd_ok hb22) ?_
          show Go XC (d + 3) 17 0 125 [some (.ref h0), some (.ref h1), some (.int p20_2), some (.int a20.1), some (.int w1)] [] (wI s21 (h0 + 2) (Int32.toNatClampNeg (s21.1 h0 0)) p20_2) R
          obtain ⟨s23, es23, hr⟩ := sbn_some hr
          rw [← es23]
          refine go_run mm_17 2 (pc' := 127) (ls' := [some (.ref h0), some (.ref h1), some (.int p20_2), some (.int a20.1), some (.int w1)]) (st' := [.ref h0, .ref h0]) (S' := s23) rfl ?_
          refine go_getf mm_17 (h := h0) rfl hp0.1 rfl ?_
          show Go XC (d + 3) 17 0 130 [some (.ref h0), some (.ref h1), some (.int p20_2), some (.int a20.1), some (.int w1)] [.int (s23.1 h0 0), .ref h0] s23 R
          refine go_run mm_17 2 (pc' := 132) (ls' := [some (.ref h0), some (.ref h1), some (.int p20_2), some (.int a20.1), some (.int w1)]) (st' := [.int ((s23.1 h0 0) + 1), .ref h0]) (S' := s23) rfl ?_
          refine go_putI mm_17 (h := h0) rfl hp0.1 rfl ?_
          show Go XC (d + 3) 17 0 135 [some (.ref h0), some (.ref h1), some (.int p20_2), some (.int a20.1), some (.int w1)] [] (wI s23 h0 0 ((s23.1 h0 0) + 1)) R
          obtain ⟨s24, es24, hr⟩ := sbn_some hr
          rw [← es24]
          refine go_run mm_17 2 (pc' := 20) (ls' := [some (.ref h0), some (.ref h1), some (.int p20_2), some (.int (a20.1 + 1)), some (.int w1)]) (st' := []) (S' := s24) rfl ?_
          cases hr
          have h9 := hL (a20.1 + 1, s24) rfl
          dsimp only at h9
          exact Go.le h9 (by repeat first | exact True.intro | refine And.intro rfl ?_)
      · rw [if_neg hc8] at hr
        refine go_run mm_17 1 (pc' := 68) (ls' := [some (.ref h0), some (.ref h1), some (.int p20_2), some (.int a20.1), some (.int w1)]) (st' := [.int 0]) (S' := s6) rfl ?_
        cases hr
        have h9 : R 0 (.inr (vZ false)) s6 := hR _ rfl
        exact go_zreturn mm_17 rfl rfl (Or.inl rfl) h9
  · rw [if_neg hc4] at hr
    cases hr
    have h9 := hR (.inl (a20.1, a20.2)) rfl
    dsimp only [Sum.elim_inl] at h9
    exact Go.le h9 (by repeat first | exact True.intro | refine And.intro rfl ?_)
def L_17_12 (h0 : Nat) (h1 : Nat) (a12 : Int32 × ST) : Option ((Int32 × ST) ⊕ ((Int32 × ST) ⊕ (Bool × ST))) := if a12.1 < 16 then (ob (wh FU (L_17_20 h0 h1 a12.1) (0, a12.2)) (fun z => Sum.elim (fun e20 => some (.inl (a12.1 + 1, e20.2))) (fun o => some (.inr (.inr o))) z)) else (some (.inr (.inl (a12.1, a12.2))))
set_option maxRecDepth 20000 in
theorem LS_17_12 {d : Nat} {R : RT} {h0 : Nat} {h1 : Nat} (hp0 : LTH h0) (hp1 : PLH h1) {a12 : Int32 × ST} {r9} (hr : L_17_12 h0 h1 a12 = some r9) (hL : ∀ a9, r9 = .inl a9 → (fun a12 => Go XC (d + 3) 17 0 12 [some (.ref h0), some (.ref h1), some (.int a12.1), none, none] [] a12.2 R) a9) (hR : ∀ b9, r9 = .inr b9 → Sum.elim (fun e12 => Go XC (d + 3) 17 0 147 [some (.ref h0), some (.ref h1), some (.int e12.1), none, none] [] e12.2 R) (fun o => R 0 (.inr (vZ o.1)) o.2) b9) : Go XC (d + 3) 17 0 12 [some (.ref h0), some (.ref h1), some (.int a12.1), none, none] [] a12.2 R := by
  unfold L_17_12 at hr
  refine go_run mm_17 2 (pc' := 15) (ls' := [some (.ref h0), some (.ref h1), some (.int a12.1), none, none]) (st' := [.int 16, .int a12.1]) (S' := a12.2) rfl ?_
  refine go_if2 mm_17 rfl (p1 := 18) (p2 := 147) rfl (fun (hc3 : a12.1 < 16) => ?_) (fun (hc3 : ¬ a12.1 < 16) => ?_)
  · rw [if_pos hc3] at hr
    refine go_run mm_17 2 (pc' := 20) (ls' := [some (.ref h0), some (.ref h1), some (.int a12.1), some (.int 0), none]) (st' := []) (S' := a12.2) rfl ?_
    obtain ⟨z20, he20, hr⟩ := ob_some hr
    refine Go.le (ls' := [some (.ref h0), some (.ref h1), some (.int a12.1), some (.int 0), none]) ?_ (by repeat first | exact True.intro | refine And.intro rfl ?_)
    refine wh_go (P := fun a20 => Go XC (d + 3) 17 0 20 [some (.ref h0), some (.ref h1), some (.int a12.1), some (.int a20.1), none] [] a20.2 R) (K := fun z => Sum.elim (fun e20 => Go XC (d + 3) 17 0 141 [some (.ref h0), some (.ref h1), some (.int a12.1), some (.int e20.1), none] [] e20.2 R) (fun o => R 0 (.inr (vZ o.1)) o.2) z) (fun a9 r9 h9 hL hR => LS_17_20 hp0 hp1 h9 hL hR) _ _ _ he20 ?_
    rcases z20 with e20 | o
    rotate_left
    · simp only [Sum.elim_inr] at hr
      cases hr
      exact hR _ rfl
    simp only [Sum.elim_inl] at hr
    show Go XC (d + 3) 17 0 141 [some (.ref h0), some (.ref h1), some (.int a12.1), some (.int e20.1), none] [] e20.2 R
    refine go_run mm_17 2 (pc' := 12) (ls' := [some (.ref h0), some (.ref h1), some (.int (a12.1 + 1)), some (.int e20.1), none]) (st' := []) (S' := e20.2) rfl ?_
    cases hr
    have h9 := hL (a12.1 + 1, e20.2) rfl
    dsimp only at h9
    exact Go.le h9 (by repeat first | exact True.intro | refine And.intro rfl ?_)
  · rw [if_neg hc3] at hr
    cases hr
    have h9 := hR (.inl (a12.1, a12.2)) rfl
    dsimp only [Sum.elim_inl] at h9
    exact Go.le h9 (by repeat first | exact True.intro | refine And.intro rfl ?_)
def F_17 (h0 : Nat) (h1 : Nat) (S : ST) : Option (Bool × ST) := sbn ((wI S h0 0 0)) (fun s1 => sbn ((wL s1 h0 1 0)) (fun s2 => ob (wh FU (L_17_12 h0 h1) (0, s2)) (fun z => Sum.elim (fun e12 => some (true, e12.2)) (fun o => some o) z)))
set_option maxRecDepth 20000 in
theorem S_17 {d : Nat} {S : ST} {h0 : Nat} {h1 : Nat} {r} (hp0 : LTH h0) (hp1 : PLH h1) (hr : F_17 h0 h1 S = some r) : Cal XC (d + 3) 17 [.ref h0, .ref h1] S (RV (vZ r.1) r.2) := by
  unfold F_17 at hr
  refine cal_go 3 rfl ?_
  refine go_run mm_17 2 (pc' := 2) (ls' := [some (.ref h0), some (.ref h1), none, none, none]) (st' := [.int 0, .ref h0]) (S' := S) rfl ?_
  refine go_putI mm_17 (h := h0) rfl hp0.1 rfl ?_
  show Go XC (d + 3) 17 0 5 [some (.ref h0), some (.ref h1), none, none, none] [] (wI S h0 0 0) (RV (vZ r.1) r.2)
  obtain ⟨s1, es1, hr⟩ := sbn_some hr
  rw [← es1]
  refine go_run mm_17 2 (pc' := 7) (ls' := [some (.ref h0), some (.ref h1), none, none, none]) (st' := [.long 0, .ref h0]) (S' := s1) rfl ?_
  refine go_putL mm_17 (h := h0) rfl hp0.1 rfl ?_
  show Go XC (d + 3) 17 0 10 [some (.ref h0), some (.ref h1), none, none, none] [] (wL s1 h0 1 0) (RV (vZ r.1) r.2)
  obtain ⟨s2, es2, hr⟩ := sbn_some hr
  rw [← es2]
  refine go_run mm_17 2 (pc' := 12) (ls' := [some (.ref h0), some (.ref h1), some (.int 0), none, none]) (st' := []) (S' := s2) rfl ?_
  obtain ⟨z12, he12, hr⟩ := ob_some hr
  refine Go.le (ls' := [some (.ref h0), some (.ref h1), some (.int 0), none, none]) ?_ (by repeat first | exact True.intro | refine And.intro rfl ?_)
  refine wh_go (P := fun a12 => Go XC (d + 3) 17 0 12 [some (.ref h0), some (.ref h1), some (.int a12.1), none, none] [] a12.2 (RV (vZ r.1) r.2)) (K := fun z => Sum.elim (fun e12 => Go XC (d + 3) 17 0 147 [some (.ref h0), some (.ref h1), some (.int e12.1), none, none] [] e12.2 (RV (vZ r.1) r.2)) (fun o => (RV (vZ r.1) r.2) 0 (.inr (vZ o.1)) o.2) z) (fun a9 r9 h9 hL hR => LS_17_12 hp0 hp1 h9 hL hR) _ _ _ he12 ?_
  rcases z12 with e12 | o
  rotate_left
  · simp only [Sum.elim_inr] at hr
    cases hr
    exact ⟨rfl, rfl, rfl⟩
  simp only [Sum.elim_inl] at hr
  show Go XC (d + 3) 17 0 147 [some (.ref h0), some (.ref h1), some (.int e12.1), none, none] [] e12.2 (RV (vZ r.1) r.2)
  refine go_run mm_17 1 (pc' := 148) (ls' := [some (.ref h0), some (.ref h1), some (.int e12.1), none, none]) (st' := [.int 1]) (S' := e12.2) rfl ?_
  cases hr
  exact go_zreturn mm_17 rfl rfl (Or.inr rfl) ⟨rfl, rfl, rfl⟩

theorem mm_52 : mtG 52 = some (mi_52, 6, ft_52) := rfl
def F_52 (h0 : Nat) (v1 : Int32) (S : ST) : Option Int32 := if v1 < 0 then (some (-1)) else (if v1 < (S.1 h0 1) then (ck (ibd v1 6) (some (S.1 (h0 + 3) (Int32.toNatClampNeg v1)))) else (some (-1)))
set_option maxRecDepth 20000 in
theorem S_52 {d : Nat} {S : ST} {h0 : Nat} {v1 : Int32} {r} (hp0 : PLH h0) (hr : F_52 h0 v1 S = some r) : Cal XC d 52 [.ref h0, .int v1] S (RV (vI r) S) := by
  unfold F_52 at hr
  refine cal_go 0 rfl ?_
  refine go_run mm_52 1 (pc' := 1) (ls' := [some (.ref h0), some (.int v1)]) (st' := [.int v1]) (S' := S) rfl ?_
  refine go_if0 mm_52 rfl (p1 := 21) (p2 := 4) rfl (fun (hc1 : v1 < 0) => ?_) (fun (hc1 : ¬ v1 < 0) => ?_)
  · rw [if_pos hc1] at hr
    refine go_run mm_52 1 (pc' := 22) (ls' := [some (.ref h0), some (.int v1)]) (st' := [.int (-1)]) (S' := S) rfl ?_
    cases hr
    exact go_ireturn mm_52 rfl rfl ⟨rfl, rfl, rfl⟩
  · rw [if_neg hc1] at hr
    refine go_run mm_52 2 (pc' := 6) (ls' := [some (.ref h0), some (.int v1)]) (st' := [.ref h0, .int v1]) (S' := S) rfl ?_
    refine go_getf mm_52 (h := h0) rfl hp0.1 rfl ?_
    show Go XC d 52 0 9 [some (.ref h0), some (.int v1)] [.int (S.1 h0 1), .int v1] S (RV (vI r) S)
    refine go_if2 mm_52 rfl (p1 := 12) (p2 := 21) rfl (fun (hc2 : v1 < (S.1 h0 1)) => ?_) (fun (hc2 : ¬ v1 < (S.1 h0 1)) => ?_)
    · rw [if_pos hc2] at hr
      refine go_run mm_52 1 (pc' := 13) (ls' := [some (.ref h0), some (.int v1)]) (st' := [.ref h0]) (S' := S) rfl ?_
      refine go_getf mm_52 (h := h0) rfl hp0.1 rfl ?_
      show Go XC d 52 0 16 [some (.ref h0), some (.int v1)] [.ref (h0 + 3)] S (RV (vI r) S)
      refine go_run mm_52 1 (pc' := 17) (ls' := [some (.ref h0), some (.int v1)]) (st' := [.int v1, .ref (h0 + 3)]) (S' := S) rfl ?_
      obtain ⟨hb3, hr⟩ := ck_some hr
      refine go_iaload mm_52 (q := (Int32.toNatClampNeg v1)) rfl (hp0.2.2.2.1) rfl (ibd_ok hb3) ?_
      show Go XC d 52 0 18 [some (.ref h0), some (.int v1)] [.int (S.1 (h0 + 3) (Int32.toNatClampNeg v1))] S (RV (vI r) S)
      refine go_run mm_52 1 (pc' := 22) (ls' := [some (.ref h0), some (.int v1)]) (st' := [.int (S.1 (h0 + 3) (Int32.toNatClampNeg v1))]) (S' := S) rfl ?_
      cases hr
      exact go_ireturn mm_52 rfl rfl ⟨rfl, rfl, rfl⟩
    · rw [if_neg hc2] at hr
      refine go_run mm_52 1 (pc' := 22) (ls' := [some (.ref h0), some (.int v1)]) (st' := [.int (-1)]) (S' := S) rfl ?_
      cases hr
      exact go_ireturn mm_52 rfl rfl ⟨rfl, rfl, rfl⟩

theorem mm_53 : mtG 53 = some (mi_53, 6, ft_53) := rfl
def F_53 (h0 : Nat) (v1 : Int32) (S : ST) : Option Int32 := if v1 < 0 then (some (-1)) else (if v1 < (S.1 h0 1) then (ck (ibd v1 6) (some (S.1 (h0 + 4) (Int32.toNatClampNeg v1)))) else (some (-1)))
set_option maxRecDepth 20000 in
theorem S_53 {d : Nat} {S : ST} {h0 : Nat} {v1 : Int32} {r} (hp0 : PLH h0) (hr : F_53 h0 v1 S = some r) : Cal XC d 53 [.ref h0, .int v1] S (RV (vI r) S) := by
  unfold F_53 at hr
  refine cal_go 0 rfl ?_
  refine go_run mm_53 1 (pc' := 1) (ls' := [some (.ref h0), some (.int v1)]) (st' := [.int v1]) (S' := S) rfl ?_
  refine go_if0 mm_53 rfl (p1 := 21) (p2 := 4) rfl (fun (hc1 : v1 < 0) => ?_) (fun (hc1 : ¬ v1 < 0) => ?_)
  · rw [if_pos hc1] at hr
    refine go_run mm_53 1 (pc' := 22) (ls' := [some (.ref h0), some (.int v1)]) (st' := [.int (-1)]) (S' := S) rfl ?_
    cases hr
    exact go_ireturn mm_53 rfl rfl ⟨rfl, rfl, rfl⟩
  · rw [if_neg hc1] at hr
    refine go_run mm_53 2 (pc' := 6) (ls' := [some (.ref h0), some (.int v1)]) (st' := [.ref h0, .int v1]) (S' := S) rfl ?_
    refine go_getf mm_53 (h := h0) rfl hp0.1 rfl ?_
    show Go XC d 53 0 9 [some (.ref h0), some (.int v1)] [.int (S.1 h0 1), .int v1] S (RV (vI r) S)
    refine go_if2 mm_53 rfl (p1 := 12) (p2 := 21) rfl (fun (hc2 : v1 < (S.1 h0 1)) => ?_) (fun (hc2 : ¬ v1 < (S.1 h0 1)) => ?_)
    · rw [if_pos hc2] at hr
      refine go_run mm_53 1 (pc' := 13) (ls' := [some (.ref h0), some (.int v1)]) (st' := [.ref h0]) (S' := S) rfl ?_
      refine go_getf mm_53 (h := h0) rfl hp0.1 rfl ?_
      show Go XC d 53 0 16 [some (.ref h0), some (.int v1)] [.ref (h0 + 4)] S (RV (vI r) S)
      refine go_run mm_53 1 (pc' := 17) (ls' := [some (.ref h0), some (.int v1)]) (st' := [.int v1, .ref (h0 + 4)]) (S' := S) rfl ?_
      obtain ⟨hb3, hr⟩ := ck_some hr
      refine go_iaload mm_53 (q := (Int32.toNatClampNeg v1)) rfl (hp0.2.2.2.2.1) rfl (ibd_ok hb3) ?_
      show Go XC d 53 0 18 [some (.ref h0), some (.int v1)] [.int (S.1 (h0 + 4) (Int32.toNatClampNeg v1))] S (RV (vI r) S)
      refine go_run mm_53 1 (pc' := 22) (ls' := [some (.ref h0), some (.int v1)]) (st' := [.int (S.1 (h0 + 4) (Int32.toNatClampNeg v1))]) (S' := S) rfl ?_
      cases hr
      exact go_ireturn mm_53 rfl rfl ⟨rfl, rfl, rfl⟩
    · rw [if_neg hc2] at hr
      refine go_run mm_53 1 (pc' := 22) (ls' := [some (.ref h0), some (.int v1)]) (st' := [.int (-1)]) (S' := S) rfl ?_
      cases hr
      exact go_ireturn mm_53 rfl rfl ⟨rfl, rfl, rfl⟩

theorem mm_60 : mtG 60 = some (mi_60, 6, ft_60) := rfl
def F_60 (h0 : Nat) (v1 : Int32) (S : ST) : Option Int32 := if v1 < 0 then (some (-1)) else (if v1 < (S.1 h0 2) then (ck (ibd v1 6) (some (S.1 (h0 + 6) (Int32.toNatClampNeg v1)))) else (some (-1)))
set_option maxRecDepth 20000 in
theorem S_60 {d : Nat} {S : ST} {h0 : Nat} {v1 : Int32} {r} (hp0 : PLH h0) (hr : F_60 h0 v1 S = some r) : Cal XC d 60 [.ref h0, .int v1] S (RV (vI r) S) := by
  unfold F_60 at hr
  refine cal_go 0 rfl ?_
  refine go_run mm_60 1 (pc' := 1) (ls' := [some (.ref h0), some (.int v1)]) (st' := [.int v1]) (S' := S) rfl ?_
  refine go_if0 mm_60 rfl (p1 := 21) (p2 := 4) rfl (fun (hc1 : v1 < 0) => ?_) (fun (hc1 : ¬ v1 < 0) => ?_)
  · rw [if_pos hc1] at hr
    refine go_run mm_60 1 (pc' := 22) (ls' := [some (.ref h0), some (.int v1)]) (st' := [.int (-1)]) (S' := S) rfl ?_
    cases hr
    exact go_ireturn mm_60 rfl rfl ⟨rfl, rfl, rfl⟩
  · rw [if_neg hc1] at hr
    refine go_run mm_60 2 (pc' := 6) (ls' := [some (.ref h0), some (.int v1)]) (st' := [.ref h0, .int v1]) (S' := S) rfl ?_
    refine go_getf mm_60 (h := h0) rfl hp0.1 rfl ?_
    show Go XC d 60 0 9 [some (.ref h0), some (.int v1)] [.int (S.1 h0 2), .int v1] S (RV (vI r) S)
    refine go_if2 mm_60 rfl (p1 := 12) (p2 := 21) rfl (fun (hc2 : v1 < (S.1 h0 2)) => ?_) (fun (hc2 : ¬ v1 < (S.1 h0 2)) => ?_)
    · rw [if_pos hc2] at hr
      refine go_run mm_60 1 (pc' := 13) (ls' := [some (.ref h0), some (.int v1)]) (st' := [.ref h0]) (S' := S) rfl ?_
      refine go_getf mm_60 (h := h0) rfl hp0.1 rfl ?_
      show Go XC d 60 0 16 [some (.ref h0), some (.int v1)] [.ref (h0 + 6)] S (RV (vI r) S)
      refine go_run mm_60 1 (pc' := 17) (ls' := [some (.ref h0), some (.int v1)]) (st' := [.int v1, .ref (h0 + 6)]) (S' := S) rfl ?_
      obtain ⟨hb3, hr⟩ := ck_some hr
      refine go_iaload mm_60 (q := (Int32.toNatClampNeg v1)) rfl (hp0.2.2.2.2.2.2.1) rfl (ibd_ok hb3) ?_
      show Go XC d 60 0 18 [some (.ref h0), some (.int v1)] [.int (S.1 (h0 + 6) (Int32.toNatClampNeg v1))] S (RV (vI r) S)
      refine go_run mm_60 1 (pc' := 22) (ls' := [some (.ref h0), some (.int v1)]) (st' := [.int (S.1 (h0 + 6) (Int32.toNatClampNeg v1))]) (S' := S) rfl ?_
      cases hr
      exact go_ireturn mm_60 rfl rfl ⟨rfl, rfl, rfl⟩
    · rw [if_neg hc2] at hr
      refine go_run mm_60 1 (pc' := 22) (ls' := [some (.ref h0), some (.int v1)]) (st' := [.int (-1)]) (S' := S) rfl ?_
      cases hr
      exact go_ireturn mm_60 rfl rfl ⟨rfl, rfl, rfl⟩

theorem mm_61 : mtG 61 = some (mi_61, 6, ft_61) := rfl
def F_61 (h0 : Nat) (v1 : Int32) (S : ST) : Option Int32 := if v1 < 0 then (some (-1)) else (if v1 < (S.1 h0 2) then (ck (ibd v1 6) (some (S.1 (h0 + 7) (Int32.toNatClampNeg v1)))) else (some (-1)))
set_option maxRecDepth 20000 in
theorem S_61 {d : Nat} {S : ST} {h0 : Nat} {v1 : Int32} {r} (hp0 : PLH h0) (hr : F_61 h0 v1 S = some r) : Cal XC d 61 [.ref h0, .int v1] S (RV (vI r) S) := by
  unfold F_61 at hr
  refine cal_go 0 rfl ?_
  refine go_run mm_61 1 (pc' := 1) (ls' := [some (.ref h0), some (.int v1)]) (st' := [.int v1]) (S' := S) rfl ?_
  refine go_if0 mm_61 rfl (p1 := 21) (p2 := 4) rfl (fun (hc1 : v1 < 0) => ?_) (fun (hc1 : ¬ v1 < 0) => ?_)
  · rw [if_pos hc1] at hr
    refine go_run mm_61 1 (pc' := 22) (ls' := [some (.ref h0), some (.int v1)]) (st' := [.int (-1)]) (S' := S) rfl ?_
    cases hr
    exact go_ireturn mm_61 rfl rfl ⟨rfl, rfl, rfl⟩
  · rw [if_neg hc1] at hr
    refine go_run mm_61 2 (pc' := 6) (ls' := [some (.ref h0), some (.int v1)]) (st' := [.ref h0, .int v1]) (S' := S) rfl ?_
    refine go_getf mm_61 (h := h0) rfl hp0.1 rfl ?_
    show Go XC d 61 0 9 [some (.ref h0), some (.int v1)] [.int (S.1 h0 2), .int v1] S (RV (vI r) S)
    refine go_if2 mm_61 rfl (p1 := 12) (p2 := 21) rfl (fun (hc2 : v1 < (S.1 h0 2)) => ?_) (fun (hc2 : ¬ v1 < (S.1 h0 2)) => ?_)
    · rw [if_pos hc2] at hr
      refine go_run mm_61 1 (pc' := 13) (ls' := [some (.ref h0), some (.int v1)]) (st' := [.ref h0]) (S' := S) rfl ?_
      refine go_getf mm_61 (h := h0) rfl hp0.1 rfl ?_
      show Go XC d 61 0 16 [some (.ref h0), some (.int v1)] [.ref (h0 + 7)] S (RV (vI r) S)
      refine go_run mm_61 1 (pc' := 17) (ls' := [some (.ref h0), some (.int v1)]) (st' := [.int v1, .ref (h0 + 7)]) (S' := S) rfl ?_
      obtain ⟨hb3, hr⟩ := ck_some hr
      refine go_iaload mm_61 (q := (Int32.toNatClampNeg v1)) rfl (hp0.2.2.2.2.2.2.2.1) rfl (ibd_ok hb3) ?_
      show Go XC d 61 0 18 [some (.ref h0), some (.int v1)] [.int (S.1 (h0 + 7) (Int32.toNatClampNeg v1))] S (RV (vI r) S)
      refine go_run mm_61 1 (pc' := 22) (ls' := [some (.ref h0), some (.int v1)]) (st' := [.int (S.1 (h0 + 7) (Int32.toNatClampNeg v1))]) (S' := S) rfl ?_
      cases hr
      exact go_ireturn mm_61 rfl rfl ⟨rfl, rfl, rfl⟩
    · rw [if_neg hc2] at hr
      refine go_run mm_61 1 (pc' := 22) (ls' := [some (.ref h0), some (.int v1)]) (st' := [.int (-1)]) (S' := S) rfl ?_
      cases hr
      exact go_ireturn mm_61 rfl rfl ⟨rfl, rfl, rfl⟩

theorem mm_22 : mtG 22 = some (mi_22, 3, ft_22) := rfl
def L_22_2 (h0 : Nat) (h1 : Nat) (S : ST) (a2 : Int32) : Option ((Int32) ⊕ ((Int32) ⊕ Bool)) := if a2 < (S.1 h1 1) then (ob (F_52 h1 a2 S) (fun w1 => ob (F_53 h1 a2 S) (fun w2 => ob (F_18 h0 w1 w2 S) (fun w3 => if w3 = (-1) then (some (.inr (.inr false))) else (some (.inl (a2 + 1))))))) else (some (.inr (.inl (a2))))
set_option maxRecDepth 20000 in
theorem LS_22_2 {d : Nat} {R : RT} {S : ST} {h0 : Nat} {h1 : Nat} (hp0 : LTH h0) (hp1 : PLH h1) {a2 : Int32} {r9} (hr : L_22_2 h0 h1 S a2 = some r9) (hL : ∀ a9, r9 = .inl a9 → (fun a2 => Go XC (d + 1) 22 0 2 [some (.ref h0), some (.ref h1), some (.int a2)] [] S R) a9) (hR : ∀ b9, r9 = .inr b9 → Sum.elim (fun e2 => Go XC (d + 1) 22 0 36 [some (.ref h0), some (.ref h1), some (.int e2)] [] S R) (fun o => R 0 (.inr (vZ o)) S) b9) : Go XC (d + 1) 22 0 2 [some (.ref h0), some (.ref h1), some (.int a2)] [] S R := by
  unfold L_22_2 at hr
  refine go_run mm_22 2 (pc' := 4) (ls' := [some (.ref h0), some (.ref h1), some (.int a2)]) (st' := [.ref h1, .int a2]) (S' := S) rfl ?_
  refine go_getf mm_22 (h := h1) rfl hp1.1 rfl ?_
  show Go XC (d + 1) 22 0 7 [some (.ref h0), some (.ref h1), some (.int a2)] [.int (S.1 h1 1), .int a2] S R
  refine go_if2 mm_22 rfl (p1 := 10) (p2 := 36) rfl (fun (hc1 : a2 < (S.1 h1 1)) => ?_) (fun (hc1 : ¬ a2 < (S.1 h1 1)) => ?_)
  · rw [if_pos hc1] at hr
    refine go_run mm_22 3 (pc' := 13) (ls' := [some (.ref h0), some (.ref h1), some (.int a2)]) (st' := [.int a2, .ref h1, .ref h0]) (S' := S) rfl ?_
    obtain ⟨w1, hw1, hr⟩ := ob_some hr
    refine go_cv mm_22 (h := h1) (As := [.int a2]) (rest := [.ref h0]) (nl := 2) rfl hp1.1 (show cvOK 22 13 42 52 1 2 5 = true by decide +kernel) rfl rfl rfl (S_52 hp1 hw1) (KP_V ?_)
    show Go XC (d + 1) 22 0 16 [some (.ref h0), some (.ref h1), some (.int a2)] [.int w1, .ref h0] S R
    refine go_run mm_22 2 (pc' := 18) (ls' := [some (.ref h0), some (.ref h1), some (.int a2)]) (st' := [.int a2, .ref h1, .int w1, .ref h0]) (S' := S) rfl ?_
    obtain ⟨w2, hw2, hr⟩ := ob_some hr
    refine go_cv mm_22 (h := h1) (As := [.int a2]) (rest := [.int w1, .ref h0]) (nl := 2) rfl hp1.1 (show cvOK 22 18 46 53 1 2 5 = true by decide +kernel) rfl rfl rfl (S_53 hp1 hw2) (KP_V ?_)
    show Go XC (d + 1) 22 0 21 [some (.ref h0), some (.ref h1), some (.int a2)] [.int w2, .int w1, .ref h0] S R
    obtain ⟨w3, hw3, hr⟩ := ob_some hr
    refine go_cv mm_22 (h := h0) (As := [.int w1, .int w2]) (rest := []) (nl := 3) rfl hp0.1 (show cvOK 22 21 49 18 2 3 3 = true by decide +kernel) rfl rfl rfl (S_18 hp0 hw3) (KP_V ?_)
    show Go XC (d + 1) 22 0 24 [some (.ref h0), some (.ref h1), some (.int a2)] [.int w3] S R
    refine go_run mm_22 1 (pc' := 25) (ls' := [some (.ref h0), some (.ref h1), some (.int a2)]) (st' := [.int (-1), .int w3]) (S' := S) rfl ?_
    refine go_if2 mm_22 rfl (p1 := 28) (p2 := 30) rfl (fun (hc2 : w3 = (-1)) => ?_) (fun (hc2 : ¬ w3 = (-1)) => ?_)
    · rw [if_pos hc2] at hr
      refine go_run mm_22 1 (pc' := 29) (ls' := [some (.ref h0), some (.ref h1), some (.int a2)]) (st' := [.int 0]) (S' := S) rfl ?_
      cases hr
      have h9 : R 0 (.inr (vZ false)) S := hR _ rfl
      exact go_zreturn mm_22 rfl rfl (Or.inl rfl) h9
    · rw [if_neg hc2] at hr
      refine go_run mm_22 2 (pc' := 2) (ls' := [some (.ref h0), some (.ref h1), some (.int (a2 + 1))]) (st' := []) (S' := S) rfl ?_
      cases hr
      have h9 := hL (a2 + 1) rfl
      dsimp only at h9
      exact Go.le h9 (by repeat first | exact True.intro | refine And.intro rfl ?_)
  · rw [if_neg hc1] at hr
    cases hr
    have h9 := hR (.inl (a2)) rfl
    dsimp only [Sum.elim_inl] at h9
    exact Go.le h9 (by repeat first | exact True.intro | refine And.intro rfl ?_)
def L_22_38 (h0 : Nat) (h1 : Nat) (S : ST) (a38 : Int32) : Option ((Int32) ⊕ ((Int32) ⊕ Bool)) := if a38 < (S.1 h1 2) then (ob (F_60 h1 a38 S) (fun w4 => ob (F_61 h1 a38 S) (fun w5 => ob (F_18 h0 w4 w5 S) (fun w6 => if w6 = (-1) then (some (.inr (.inr false))) else (some (.inl (a38 + 1))))))) else (some (.inr (.inl (a38))))
set_option maxRecDepth 20000 in
theorem LS_22_38 {d : Nat} {R : RT} {S : ST} {h0 : Nat} {h1 : Nat} (hp0 : LTH h0) (hp1 : PLH h1) {a38 : Int32} {r9} (hr : L_22_38 h0 h1 S a38 = some r9) (hL : ∀ a9, r9 = .inl a9 → (fun a38 => Go XC (d + 1) 22 0 38 [some (.ref h0), some (.ref h1), some (.int a38)] [] S R) a9) (hR : ∀ b9, r9 = .inr b9 → Sum.elim (fun e38 => Go XC (d + 1) 22 0 72 [some (.ref h0), some (.ref h1), some (.int e38)] [] S R) (fun o => R 0 (.inr (vZ o)) S) b9) : Go XC (d + 1) 22 0 38 [some (.ref h0), some (.ref h1), some (.int a38)] [] S R := by
  unfold L_22_38 at hr
  refine go_run mm_22 2 (pc' := 40) (ls' := [some (.ref h0), some (.ref h1), some (.int a38)]) (st' := [.ref h1, .int a38]) (S' := S) rfl ?_
  refine go_getf mm_22 (h := h1) rfl hp1.1 rfl ?_
  show Go XC (d + 1) 22 0 43 [some (.ref h0), some (.ref h1), some (.int a38)] [.int (S.1 h1 2), .int a38] S R
  refine go_if2 mm_22 rfl (p1 := 46) (p2 := 72) rfl (fun (hc3 : a38 < (S.1 h1 2)) => ?_) (fun (hc3 : ¬ a38 < (S.1 h1 2)) => ?_)
  · rw [if_pos hc3] at hr
    refine go_run mm_22 3 (pc' := 49) (ls' := [some (.ref h0), some (.ref h1), some (.int a38)]) (st' := [.int a38, .ref h1, .ref h0]) (S' := S) rfl ?_
    obtain ⟨w4, hw4, hr⟩ := ob_some hr
    refine go_cv mm_22 (h := h1) (As := [.int a38]) (rest := [.ref h0]) (nl := 2) rfl hp1.1 (show cvOK 22 49 56 60 1 2 5 = true by decide +kernel) rfl rfl rfl (S_60 hp1 hw4) (KP_V ?_)
    show Go XC (d + 1) 22 0 52 [some (.ref h0), some (.ref h1), some (.int a38)] [.int w4, .ref h0] S R
    refine go_run mm_22 2 (pc' := 54) (ls' := [some (.ref h0), some (.ref h1), some (.int a38)]) (st' := [.int a38, .ref h1, .int w4, .ref h0]) (S' := S) rfl ?_
    obtain ⟨w5, hw5, hr⟩ := ob_some hr
    refine go_cv mm_22 (h := h1) (As := [.int a38]) (rest := [.int w4, .ref h0]) (nl := 2) rfl hp1.1 (show cvOK 22 54 59 61 1 2 5 = true by decide +kernel) rfl rfl rfl (S_61 hp1 hw5) (KP_V ?_)
    show Go XC (d + 1) 22 0 57 [some (.ref h0), some (.ref h1), some (.int a38)] [.int w5, .int w4, .ref h0] S R
    obtain ⟨w6, hw6, hr⟩ := ob_some hr
    refine go_cv mm_22 (h := h0) (As := [.int w4, .int w5]) (rest := []) (nl := 3) rfl hp0.1 (show cvOK 22 57 49 18 2 3 3 = true by decide +kernel) rfl rfl rfl (S_18 hp0 hw6) (KP_V ?_)
    show Go XC (d + 1) 22 0 60 [some (.ref h0), some (.ref h1), some (.int a38)] [.int w6] S R
    refine go_run mm_22 1 (pc' := 61) (ls' := [some (.ref h0), some (.ref h1), some (.int a38)]) (st' := [.int (-1), .int w6]) (S' := S) rfl ?_
    refine go_if2 mm_22 rfl (p1 := 64) (p2 := 66) rfl (fun (hc4 : w6 = (-1)) => ?_) (fun (hc4 : ¬ w6 = (-1)) => ?_)
    · rw [if_pos hc4] at hr
      refine go_run mm_22 1 (pc' := 65) (ls' := [some (.ref h0), some (.ref h1), some (.int a38)]) (st' := [.int 0]) (S' := S) rfl ?_
      cases hr
      have h9 : R 0 (.inr (vZ false)) S := hR _ rfl
      exact go_zreturn mm_22 rfl rfl (Or.inl rfl) h9
    · rw [if_neg hc4] at hr
      refine go_run mm_22 2 (pc' := 38) (ls' := [some (.ref h0), some (.ref h1), some (.int (a38 + 1))]) (st' := []) (S' := S) rfl ?_
      cases hr
      have h9 := hL (a38 + 1) rfl
      dsimp only at h9
      exact Go.le h9 (by repeat first | exact True.intro | refine And.intro rfl ?_)
  · rw [if_neg hc3] at hr
    cases hr
    have h9 := hR (.inl (a38)) rfl
    dsimp only [Sum.elim_inl] at h9
    exact Go.le h9 (by repeat first | exact True.intro | refine And.intro rfl ?_)
def F_22 (h0 : Nat) (h1 : Nat) (S : ST) : Option Bool := ob (wh FU (L_22_2 h0 h1 S) (0)) (fun z => Sum.elim (fun e2 => ob (wh FU (L_22_38 h0 h1 S) (0)) (fun z => Sum.elim (fun e38 => some true) (fun o => some o) z)) (fun o => some o) z)
set_option maxRecDepth 20000 in
theorem S_22 {d : Nat} {S : ST} {h0 : Nat} {h1 : Nat} {r} (hp0 : LTH h0) (hp1 : PLH h1) (hr : F_22 h0 h1 S = some r) : Cal XC (d + 1) 22 [.ref h0, .ref h1] S (RV (vZ r) S) := by
  unfold F_22 at hr
  refine cal_go 1 rfl ?_
  refine go_run mm_22 2 (pc' := 2) (ls' := [some (.ref h0), some (.ref h1), some (.int 0)]) (st' := []) (S' := S) rfl ?_
  obtain ⟨z2, he2, hr⟩ := ob_some hr
  refine Go.le (ls' := [some (.ref h0), some (.ref h1), some (.int 0)]) ?_ (by repeat first | exact True.intro | refine And.intro rfl ?_)
  refine wh_go (P := fun a2 => Go XC (d + 1) 22 0 2 [some (.ref h0), some (.ref h1), some (.int a2)] [] S (RV (vZ r) S)) (K := fun z => Sum.elim (fun e2 => Go XC (d + 1) 22 0 36 [some (.ref h0), some (.ref h1), some (.int e2)] [] S (RV (vZ r) S)) (fun o => (RV (vZ r) S) 0 (.inr (vZ o)) S) z) (fun a9 r9 h9 hL hR => LS_22_2 hp0 hp1 h9 hL hR) _ _ _ he2 ?_
  rcases z2 with e2 | o
  rotate_left
  · simp only [Sum.elim_inr] at hr
    cases hr
    exact ⟨rfl, rfl, rfl⟩
  simp only [Sum.elim_inl] at hr
  show Go XC (d + 1) 22 0 36 [some (.ref h0), some (.ref h1), some (.int e2)] [] S (RV (vZ r) S)
  refine go_run mm_22 2 (pc' := 38) (ls' := [some (.ref h0), some (.ref h1), some (.int 0)]) (st' := []) (S' := S) rfl ?_
  obtain ⟨z38, he38, hr⟩ := ob_some hr
  refine Go.le (ls' := [some (.ref h0), some (.ref h1), some (.int 0)]) ?_ (by repeat first | exact True.intro | refine And.intro rfl ?_)
  refine wh_go (P := fun a38 => Go XC (d + 1) 22 0 38 [some (.ref h0), some (.ref h1), some (.int a38)] [] S (RV (vZ r) S)) (K := fun z => Sum.elim (fun e38 => Go XC (d + 1) 22 0 72 [some (.ref h0), some (.ref h1), some (.int e38)] [] S (RV (vZ r) S)) (fun o => (RV (vZ r) S) 0 (.inr (vZ o)) S) z) (fun a9 r9 h9 hL hR => LS_22_38 hp0 hp1 h9 hL hR) _ _ _ he38 ?_
  rcases z38 with e38 | o
  rotate_left
  · simp only [Sum.elim_inr] at hr
    cases hr
    exact ⟨rfl, rfl, rfl⟩
  simp only [Sum.elim_inl] at hr
  show Go XC (d + 1) 22 0 72 [some (.ref h0), some (.ref h1), some (.int e38)] [] S (RV (vZ r) S)
  refine go_run mm_22 1 (pc' := 73) (ls' := [some (.ref h0), some (.ref h1), some (.int e38)]) (st' := [.int 1]) (S' := S) rfl ?_
  cases hr
  exact go_zreturn mm_22 rfl rfl (Or.inr rfl) ⟨rfl, rfl, rfl⟩

theorem mm_24 : mtG 24 = some (mi_24, 4, ft_24) := rfl
def F_24 (h0 : Nat) (v1 : Int32) (v2 : Int32) (v3 : Int32) (S : ST) : Option Int32 := ob (F_44 h0 v1 S) (fun w1 => ob (F_45 h0 v1 S) (fun w2 => ob (F_44 h0 v2 S) (fun w3 => ob (F_45 h0 v2 S) (fun w4 => ob (F_44 h0 v3 S) (fun w5 => ob (F_45 h0 v3 S) (fun w6 => some (F_23 w1 w2 w3 w4 w5 w6)))))))
set_option maxRecDepth 20000 in
theorem S_24 {d : Nat} {S : ST} {h0 : Nat} {v1 : Int32} {v2 : Int32} {v3 : Int32} {r} (hp0 : PLH h0) (hr : F_24 h0 v1 v2 v3 S = some r) : Cal XC (d + 1) 24 [.ref h0, .int v1, .int v2, .int v3] S (RV (vI r) S) := by
  unfold F_24 at hr
  refine cal_go 0 rfl ?_
  refine go_run mm_24 2 (pc' := 2) (ls' := [some (.ref h0), some (.int v1), some (.int v2), some (.int v3)]) (st' := [.int v1, .ref h0]) (S' := S) rfl ?_
  obtain ⟨w1, hw1, hr⟩ := ob_some hr
  refine go_cv mm_24 (h := h0) (As := [.int v1]) (rest := []) (nl := 2) rfl hp0.1 (show cvOK 24 2 9 44 1 2 5 = true by decide +kernel) rfl rfl rfl (S_44 hp0 hw1) (KP_V ?_)
  show Go XC (d + 1) 24 0 5 [some (.ref h0), some (.int v1), some (.int v2), some (.int v3)] [.int w1] S (RV (vI r) S)
  refine go_run mm_24 2 (pc' := 7) (ls' := [some (.ref h0), some (.int v1), some (.int v2), some (.int v3)]) (st' := [.int v1, .ref h0, .int w1]) (S' := S) rfl ?_
  obtain ⟨w2, hw2, hr⟩ := ob_some hr
  refine go_cv mm_24 (h := h0) (As := [.int v1]) (rest := [.int w1]) (nl := 2) rfl hp0.1 (show cvOK 24 7 15 45 1 2 5 = true by decide +kernel) rfl rfl rfl (S_45 hp0 hw2) (KP_V ?_)
  show Go XC (d + 1) 24 0 10 [some (.ref h0), some (.int v1), some (.int v2), some (.int v3)] [.int w2, .int w1] S (RV (vI r) S)
  refine go_run mm_24 2 (pc' := 12) (ls' := [some (.ref h0), some (.int v1), some (.int v2), some (.int v3)]) (st' := [.int v2, .ref h0, .int w2, .int w1]) (S' := S) rfl ?_
  obtain ⟨w3, hw3, hr⟩ := ob_some hr
  refine go_cv mm_24 (h := h0) (As := [.int v2]) (rest := [.int w2, .int w1]) (nl := 2) rfl hp0.1 (show cvOK 24 12 9 44 1 2 5 = true by decide +kernel) rfl rfl rfl (S_44 hp0 hw3) (KP_V ?_)
  show Go XC (d + 1) 24 0 15 [some (.ref h0), some (.int v1), some (.int v2), some (.int v3)] [.int w3, .int w2, .int w1] S (RV (vI r) S)
  refine go_run mm_24 2 (pc' := 17) (ls' := [some (.ref h0), some (.int v1), some (.int v2), some (.int v3)]) (st' := [.int v2, .ref h0, .int w3, .int w2, .int w1]) (S' := S) rfl ?_
  obtain ⟨w4, hw4, hr⟩ := ob_some hr
  refine go_cv mm_24 (h := h0) (As := [.int v2]) (rest := [.int w3, .int w2, .int w1]) (nl := 2) rfl hp0.1 (show cvOK 24 17 15 45 1 2 5 = true by decide +kernel) rfl rfl rfl (S_45 hp0 hw4) (KP_V ?_)
  show Go XC (d + 1) 24 0 20 [some (.ref h0), some (.int v1), some (.int v2), some (.int v3)] [.int w4, .int w3, .int w2, .int w1] S (RV (vI r) S)
  refine go_run mm_24 2 (pc' := 22) (ls' := [some (.ref h0), some (.int v1), some (.int v2), some (.int v3)]) (st' := [.int v3, .ref h0, .int w4, .int w3, .int w2, .int w1]) (S' := S) rfl ?_
  obtain ⟨w5, hw5, hr⟩ := ob_some hr
  refine go_cv mm_24 (h := h0) (As := [.int v3]) (rest := [.int w4, .int w3, .int w2, .int w1]) (nl := 2) rfl hp0.1 (show cvOK 24 22 9 44 1 2 5 = true by decide +kernel) rfl rfl rfl (S_44 hp0 hw5) (KP_V ?_)
  show Go XC (d + 1) 24 0 25 [some (.ref h0), some (.int v1), some (.int v2), some (.int v3)] [.int w5, .int w4, .int w3, .int w2, .int w1] S (RV (vI r) S)
  refine go_run mm_24 2 (pc' := 27) (ls' := [some (.ref h0), some (.int v1), some (.int v2), some (.int v3)]) (st' := [.int v3, .ref h0, .int w5, .int w4, .int w3, .int w2, .int w1]) (S' := S) rfl ?_
  obtain ⟨w6, hw6, hr⟩ := ob_some hr
  refine go_cv mm_24 (h := h0) (As := [.int v3]) (rest := [.int w5, .int w4, .int w3, .int w2, .int w1]) (nl := 2) rfl hp0.1 (show cvOK 24 27 15 45 1 2 5 = true by decide +kernel) rfl rfl rfl (S_45 hp0 hw6) (KP_V ?_)
  show Go XC (d + 1) 24 0 30 [some (.ref h0), some (.int v1), some (.int v2), some (.int v3)] [.int w6, .int w5, .int w4, .int w3, .int w2, .int w1] S (RV (vI r) S)
  refine go_cs mm_24 (av := [.int w1, .int w2, .int w3, .int w4, .int w5, .int w6]) (rest := []) (nl := 6) rfl (show csOK 24 30 18 23 6 6 = true by decide +kernel) rfl rfl rfl (S_23 rfl) (KP_V ?_)
  show Go XC (d + 1) 24 0 33 [some (.ref h0), some (.int v1), some (.int v2), some (.int v3)] [.int (F_23 w1 w2 w3 w4 w5 w6)] S (RV (vI r) S)
  cases hr
  exact go_ireturn mm_24 rfl rfl ⟨rfl, rfl, rfl⟩

theorem mm_25 : mtG 25 = some (mi_25, 4, ft_25) := rfl
def L_25_4 (h0 : Nat) (S : ST) (a4 : Int32 × Int32) : Option ((Int32 × Int32) ⊕ (Int32 × Int32)) := if a4.2 < (S.1 h0 0) then (ob (F_44 h0 a4.2 S) (fun w1 => ob (F_45 h0 (F_46 h0 a4.2 S) S) (fun w2 => ob (F_44 h0 (F_46 h0 a4.2 S) S) (fun w3 => ob (F_45 h0 a4.2 S) (fun w4 => some (.inl (a4.1 + ((w1 * w2) - (w3 * w4)), a4.2 + 1))))))) else (some (.inr (a4.1, a4.2)))
set_option maxRecDepth 20000 in
theorem LS_25_4 {d : Nat} {R : RT} {S : ST} {h0 : Nat} (hp0 : PLH h0) {a4 : Int32 × Int32} {r9} (hr : L_25_4 h0 S a4 = some r9) (hL : ∀ a9, r9 = .inl a9 → (fun a4 => Go XC (d + 1) 25 0 4 [some (.ref h0), some (.int a4.1), some (.int a4.2), none] [] S R) a9) (hR : ∀ b9, r9 = .inr b9 → (fun e4 => Go XC (d + 1) 25 0 50 [some (.ref h0), some (.int e4.1), some (.int e4.2), none] [] S R) b9) : Go XC (d + 1) 25 0 4 [some (.ref h0), some (.int a4.1), some (.int a4.2), none] [] S R := by
  unfold L_25_4 at hr
  refine go_run mm_25 2 (pc' := 6) (ls' := [some (.ref h0), some (.int a4.1), some (.int a4.2), none]) (st' := [.ref h0, .int a4.2]) (S' := S) rfl ?_
  refine go_getf mm_25 (h := h0) rfl hp0.1 rfl ?_
  show Go XC (d + 1) 25 0 9 [some (.ref h0), some (.int a4.1), some (.int a4.2), none] [.int (S.1 h0 0), .int a4.2] S R
  refine go_if2 mm_25 rfl (p1 := 12) (p2 := 50) rfl (fun (hc1 : a4.2 < (S.1 h0 0)) => ?_) (fun (hc1 : ¬ a4.2 < (S.1 h0 0)) => ?_)
  · rw [if_pos hc1] at hr
    refine go_run mm_25 2 (pc' := 14) (ls' := [some (.ref h0), some (.int a4.1), some (.int a4.2), none]) (st' := [.int a4.2, .ref h0]) (S' := S) rfl ?_
    refine go_cv mm_25 (h := h0) (As := [.int a4.2]) (rest := []) (nl := 2) rfl hp0.1 (show cvOK 25 14 28 46 1 2 5 = true by decide +kernel) rfl rfl rfl (S_46 hp0 rfl) (KP_V ?_)
    show Go XC (d + 1) 25 0 17 [some (.ref h0), some (.int a4.1), some (.int a4.2), none] [.int (F_46 h0 a4.2 S)] S R
    refine go_run mm_25 4 (pc' := 21) (ls' := [some (.ref h0), some (.int a4.1), some (.int a4.2), some (.int (F_46 h0 a4.2 S))]) (st' := [.int a4.2, .ref h0, .int a4.1]) (S' := S) rfl ?_
    obtain ⟨w1, hw1, hr⟩ := ob_some hr
    refine go_cv mm_25 (h := h0) (As := [.int a4.2]) (rest := [.int a4.1]) (nl := 2) rfl hp0.1 (show cvOK 25 21 9 44 1 2 5 = true by decide +kernel) rfl rfl rfl (S_44 hp0 hw1) (KP_V ?_)
    show Go XC (d + 1) 25 0 24 [some (.ref h0), some (.int a4.1), some (.int a4.2), some (.int (F_46 h0 a4.2 S))] [.int w1, .int a4.1] S R
    refine go_run mm_25 2 (pc' := 26) (ls' := [some (.ref h0), some (.int a4.1), some (.int a4.2), some (.int (F_46 h0 a4.2 S))]) (st' := [.int (F_46 h0 a4.2 S), .ref h0, .int w1, .int a4.1]) (S' := S) rfl ?_
    obtain ⟨w2, hw2, hr⟩ := ob_some hr
    refine go_cv mm_25 (h := h0) (As := [.int (F_46 h0 a4.2 S)]) (rest := [.int w1, .int a4.1]) (nl := 2) rfl hp0.1 (show cvOK 25 26 15 45 1 2 5 = true by decide +kernel) rfl rfl rfl (S_45 hp0 hw2) (KP_V ?_)
    show Go XC (d + 1) 25 0 29 [some (.ref h0), some (.int a4.1), some (.int a4.2), some (.int (F_46 h0 a4.2 S))] [.int w2, .int w1, .int a4.1] S R
    refine go_run mm_25 3 (pc' := 32) (ls' := [some (.ref h0), some (.int a4.1), some (.int a4.2), some (.int (F_46 h0 a4.2 S))]) (st' := [.int (F_46 h0 a4.2 S), .ref h0, .int (w1 * w2), .int a4.1]) (S' := S) rfl ?_
    obtain ⟨w3, hw3, hr⟩ := ob_some hr
    refine go_cv mm_25 (h := h0) (As := [.int (F_46 h0 a4.2 S)]) (rest := [.int (w1 * w2), .int a4.1]) (nl := 2) rfl hp0.1 (show cvOK 25 32 9 44 1 2 5 = true by decide +kernel) rfl rfl rfl (S_44 hp0 hw3) (KP_V ?_)
    show Go XC (d + 1) 25 0 35 [some (.ref h0), some (.int a4.1), some (.int a4.2), some (.int (F_46 h0 a4.2 S))] [.int w3, .int (w1 * w2), .int a4.1] S R
    refine go_run mm_25 2 (pc' := 37) (ls' := [some (.ref h0), some (.int a4.1), some (.int a4.2), some (.int (F_46 h0 a4.2 S))]) (st' := [.int a4.2, .ref h0, .int w3, .int (w1 * w2), .int a4.1]) (S' := S) rfl ?_
    obtain ⟨w4, hw4, hr⟩ := ob_some hr
    refine go_cv mm_25 (h := h0) (As := [.int a4.2]) (rest := [.int w3, .int (w1 * w2), .int a4.1]) (nl := 2) rfl hp0.1 (show cvOK 25 37 15 45 1 2 5 = true by decide +kernel) rfl rfl rfl (S_45 hp0 hw4) (KP_V ?_)
    show Go XC (d + 1) 25 0 40 [some (.ref h0), some (.int a4.1), some (.int a4.2), some (.int (F_46 h0 a4.2 S))] [.int w4, .int w3, .int (w1 * w2), .int a4.1] S R
    refine go_run mm_25 6 (pc' := 4) (ls' := [some (.ref h0), some (.int (a4.1 + ((w1 * w2) - (w3 * w4)))), some (.int (a4.2 + 1)), some (.int (F_46 h0 a4.2 S))]) (st' := []) (S' := S) rfl ?_
    cases hr
    have h9 := hL (a4.1 + ((w1 * w2) - (w3 * w4)), a4.2 + 1) rfl
    dsimp only at h9
    exact Go.le h9 (by repeat first | exact True.intro | refine And.intro rfl ?_)
  · rw [if_neg hc1] at hr
    cases hr
    have h9 := hR (a4.1, a4.2) rfl
    dsimp only [Sum.elim_inl] at h9
    exact Go.le h9 (by repeat first | exact True.intro | refine And.intro rfl ?_)
def F_25 (h0 : Nat) (S : ST) : Option Int32 := ob (wh FU (L_25_4 h0 S) (0, 0)) (fun e4 => some e4.1)
set_option maxRecDepth 20000 in
theorem S_25 {d : Nat} {S : ST} {h0 : Nat} {r} (hp0 : PLH h0) (hr : F_25 h0 S = some r) : Cal XC (d + 1) 25 [.ref h0] S (RV (vI r) S) := by
  unfold F_25 at hr
  refine cal_go 3 rfl ?_
  refine go_run mm_25 4 (pc' := 4) (ls' := [some (.ref h0), some (.int 0), some (.int 0), none]) (st' := []) (S' := S) rfl ?_
  obtain ⟨z4, he4, hr⟩ := ob_some hr
  refine Go.le (ls' := [some (.ref h0), some (.int 0), some (.int 0), none]) ?_ (by repeat first | exact True.intro | refine And.intro rfl ?_)
  refine wh_go (P := fun a4 => Go XC (d + 1) 25 0 4 [some (.ref h0), some (.int a4.1), some (.int a4.2), none] [] S (RV (vI r) S)) (K := fun e4 => Go XC (d + 1) 25 0 50 [some (.ref h0), some (.int e4.1), some (.int e4.2), none] [] S (RV (vI r) S)) (fun a9 r9 h9 hL hR => LS_25_4 hp0 h9 hL hR) _ _ _ he4 ?_
  generalize z4 = e4 at hr
  show Go XC (d + 1) 25 0 50 [some (.ref h0), some (.int e4.1), some (.int e4.2), none] [] S (RV (vI r) S)
  refine go_run mm_25 1 (pc' := 51) (ls' := [some (.ref h0), some (.int e4.1), some (.int e4.2), none]) (st' := [.int e4.1]) (S' := S) rfl ?_
  cases hr
  exact go_ireturn mm_25 rfl rfl ⟨rfl, rfl, rfl⟩

theorem mm_47 : mtG 47 = some (mi_47, 6, ft_47) := rfl
def F_47 (h0 : Nat) (v1 : Int32) (S : ST) : Int32 := (if (0 : Int32) < v1 then v1 - 1 else (S.1 h0 0) - 1)
set_option maxRecDepth 20000 in
theorem S_47 {d : Nat} {S : ST} {h0 : Nat} {v1 : Int32} {r} (hp0 : PLH h0) (hr : F_47 h0 v1 S = r) : Cal XC d 47 [.ref h0, .int v1] S (RV (vI r) S) := by
  unfold F_47 at hr
  refine cal_go 0 rfl ?_
  refine go_run mm_47 1 (pc' := 1) (ls' := [some (.ref h0), some (.int v1)]) (st' := [.int v1]) (S' := S) rfl ?_
  have j2 : Go XC d 47 0 16 [some (.ref h0), some (.int v1)] [.int (if (0 : Int32) < v1 then v1 - 1 else (S.1 h0 0) - 1)] S (RV (vI r) S) := by
    cases hr
    exact go_ireturn mm_47 rfl rfl ⟨rfl, rfl, rfl⟩
  refine go_if0 mm_47 rfl (p1 := 4) (p2 := 10) rfl (fun (hc1 : (0 : Int32) < v1) => ?_) (fun (hc1 : ¬ (0 : Int32) < v1) => ?_)
  · refine go_run mm_47 4 (pc' := 16) (ls' := [some (.ref h0), some (.int v1)]) (st' := [.int (v1 - 1)]) (S' := S) rfl ?_
    have e : ((if (0 : Int32) < v1 then v1 - 1 else (S.1 h0 0) - 1) : Int32) = v1 - 1 := by simp [b2i, hc1]
    rw [e] at j2
    exact j2
  · refine go_run mm_47 1 (pc' := 11) (ls' := [some (.ref h0), some (.int v1)]) (st' := [.ref h0]) (S' := S) rfl ?_
    refine go_getf mm_47 (h := h0) rfl hp0.1 rfl ?_
    show Go XC d 47 0 14 [some (.ref h0), some (.int v1)] [.int (S.1 h0 0)] S (RV (vI r) S)
    refine go_run mm_47 2 (pc' := 16) (ls' := [some (.ref h0), some (.int v1)]) (st' := [.int ((S.1 h0 0) - 1)]) (S' := S) rfl ?_
    have e : ((if (0 : Int32) < v1 then v1 - 1 else (S.1 h0 0) - 1) : Int32) = (S.1 h0 0) - 1 := by simp [b2i, hc1]
    rw [e] at j2
    exact j2
