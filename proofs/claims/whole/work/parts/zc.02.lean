/-! methods as functions (printed by a program): 6 pickedPoint, 8 clear, 43 copyFrom, 9 keep, 10 takeInto, 11 addWord, 14 runEnd, 15 digitsValue -/
theorem mm_6 : mtG 6 = some (mi_6, 0, ft_6) := rfl
def F_6 (v1 : Int32) (S : ST) : Option Int32 := if v1 < 0 then (some (-1)) else (if v1 < 4 then (ck (ibd v1 4) (some (S.1 42 (Int32.toNatClampNeg v1)))) else (some (-1)))
set_option maxRecDepth 20000 in
theorem S_6 {d : Nat} {S : ST} {v1 : Int32} {r} (hr : F_6 v1 S = some r) : Cal XC d 6 [.ref 39, .int v1] S (RV (vI r) S) := by
  unfold F_6 at hr
  refine cal_go 0 rfl ?_
  refine go_run mm_6 1 (pc' := 1) (ls' := [some (.ref 39), some (.int v1)]) (st' := [.int v1]) (S' := S) rfl ?_
  refine go_if0 mm_6 rfl (p1 := 18) (p2 := 4) rfl (fun (hc1 : v1 < 0) => ?_) (fun (hc1 : ¬ v1 < 0) => ?_)
  · rw [if_pos hc1] at hr
    refine go_run mm_6 1 (pc' := 19) (ls' := [some (.ref 39), some (.int v1)]) (st' := [.int (-1)]) (S' := S) rfl ?_
    cases hr
    exact go_ireturn mm_6 rfl rfl ⟨rfl, rfl, rfl⟩
  · rw [if_neg hc1] at hr
    refine go_run mm_6 2 (pc' := 6) (ls' := [some (.ref 39), some (.int v1)]) (st' := [.int 4, .int v1]) (S' := S) rfl ?_
    refine go_if2 mm_6 rfl (p1 := 9) (p2 := 18) rfl (fun (hc2 : v1 < 4) => ?_) (fun (hc2 : ¬ v1 < 4) => ?_)
    · rw [if_pos hc2] at hr
      refine go_run mm_6 3 (pc' := 14) (ls' := [some (.ref 39), some (.int v1)]) (st' := [.int v1, .ref 42]) (S' := S) rfl ?_
      obtain ⟨hb3, hr⟩ := ck_some hr
      refine go_iaload mm_6 (q := (Int32.toNatClampNeg v1)) rfl rfl rfl (ibd_ok hb3) ?_
      show Go XC d 6 0 15 [some (.ref 39), some (.int v1)] [.int (S.1 42 (Int32.toNatClampNeg v1))] S (RV (vI r) S)
      refine go_run mm_6 1 (pc' := 19) (ls' := [some (.ref 39), some (.int v1)]) (st' := [.int (S.1 42 (Int32.toNatClampNeg v1))]) (S' := S) rfl ?_
      cases hr
      exact go_ireturn mm_6 rfl rfl ⟨rfl, rfl, rfl⟩
    · rw [if_neg hc2] at hr
      refine go_run mm_6 1 (pc' := 19) (ls' := [some (.ref 39), some (.int v1)]) (st' := [.int (-1)]) (S' := S) rfl ?_
      cases hr
      exact go_ireturn mm_6 rfl rfl ⟨rfl, rfl, rfl⟩

theorem mm_8 : mtG 8 = some (mi_8, 1, ft_8) := rfl
def F_8 (S : ST) : Option (Unit × ST) := some ((), (wI S 47 0 0))
set_option maxRecDepth 20000 in
theorem S_8 {d : Nat} {S : ST} {r} (hr : F_8 S = some r) : Cal XC d 8 [.ref 47] S (RV (vU r.1) r.2) := by
  unfold F_8 at hr
  refine cal_go 0 rfl ?_
  refine go_run mm_8 3 (pc' := 5) (ls' := [some (.ref 47)]) (st' := []) (S' := (wI S 47 0 0)) rfl ?_
  cases hr
  exact go_vreturn mm_8 rfl rfl ⟨rfl, rfl, rfl⟩

theorem mm_43 : mtG 43 = some (mi_43, 6, ft_43) := rfl
def F_43 (h0 : Nat) (h1 : Nat) (S : ST) : Option (Unit × ST) := sbn ((wI S h0 0 (S.1 h1 0))) (fun s1 => sbn ((wI s1 h0 1 (s1.1 h1 1))) (fun s2 => sbn ((wI s2 h0 2 (s2.1 h1 2))) (fun s3 => sbn ((wC s3 (h1 + 1) (h0 + 1) 12)) (fun s4 => sbn ((wC s4 (h1 + 2) (h0 + 2) 12)) (fun s5 => sbn ((wC s5 (h1 + 3) (h0 + 3) 6)) (fun s6 => sbn ((wC s6 (h1 + 4) (h0 + 4) 6)) (fun s7 => sbn ((wC s7 (h1 + 5) (h0 + 5) 6)) (fun s8 => sbn ((wC s8 (h1 + 6) (h0 + 6) 6)) (fun s9 => sbn ((wC s9 (h1 + 7) (h0 + 7) 6)) (fun s10 => sbn ((wC s10 (h1 + 8) (h0 + 8) 6)) (fun s11 => some ((), s11))))))))))))
set_option maxRecDepth 20000 in
theorem S_43 {d : Nat} {S : ST} {h0 : Nat} {h1 : Nat} {r} (hp0 : PLH h0) (hp1 : PLH h1) (hr : F_43 h0 h1 S = some r) : Cal XC d 43 [.ref h0, .ref h1] S (RV (vU r.1) r.2) := by
  unfold F_43 at hr
  refine cal_go 0 rfl ?_
  refine go_run mm_43 2 (pc' := 2) (ls' := [some (.ref h0), some (.ref h1)]) (st' := [.ref h1, .ref h0]) (S' := S) rfl ?_
  refine go_getf mm_43 (h := h1) rfl hp1.1 rfl ?_
  show Go XC d 43 0 5 [some (.ref h0), some (.ref h1)] [.int (S.1 h1 0), .ref h0] S (RV (vU r.1) r.2)
  refine go_putI mm_43 (h := h0) rfl hp0.1 rfl ?_
  show Go XC d 43 0 8 [some (.ref h0), some (.ref h1)] [] (wI S h0 0 (S.1 h1 0)) (RV (vU r.1) r.2)
  obtain ⟨s1, es1, hr⟩ := sbn_some hr
  rw [← es1]
  refine go_run mm_43 2 (pc' := 10) (ls' := [some (.ref h0), some (.ref h1)]) (st' := [.ref h1, .ref h0]) (S' := s1) rfl ?_
  refine go_getf mm_43 (h := h1) rfl hp1.1 rfl ?_
  show Go XC d 43 0 13 [some (.ref h0), some (.ref h1)] [.int (s1.1 h1 1), .ref h0] s1 (RV (vU r.1) r.2)
  refine go_putI mm_43 (h := h0) rfl hp0.1 rfl ?_
  show Go XC d 43 0 16 [some (.ref h0), some (.ref h1)] [] (wI s1 h0 1 (s1.1 h1 1)) (RV (vU r.1) r.2)
  obtain ⟨s2, es2, hr⟩ := sbn_some hr
  rw [← es2]
  refine go_run mm_43 2 (pc' := 18) (ls' := [some (.ref h0), some (.ref h1)]) (st' := [.ref h1, .ref h0]) (S' := s2) rfl ?_
  refine go_getf mm_43 (h := h1) rfl hp1.1 rfl ?_
  show Go XC d 43 0 21 [some (.ref h0), some (.ref h1)] [.int (s2.1 h1 2), .ref h0] s2 (RV (vU r.1) r.2)
  refine go_putI mm_43 (h := h0) rfl hp0.1 rfl ?_
  show Go XC d 43 0 24 [some (.ref h0), some (.ref h1)] [] (wI s2 h0 2 (s2.1 h1 2)) (RV (vU r.1) r.2)
  obtain ⟨s3, es3, hr⟩ := sbn_some hr
  rw [← es3]
  refine go_run mm_43 1 (pc' := 25) (ls' := [some (.ref h0), some (.ref h1)]) (st' := [.ref h1]) (S' := s3) rfl ?_
  refine go_getf mm_43 (h := h1) rfl hp1.1 rfl ?_
  show Go XC d 43 0 28 [some (.ref h0), some (.ref h1)] [.ref (h1 + 1)] s3 (RV (vU r.1) r.2)
  refine go_run mm_43 2 (pc' := 30) (ls' := [some (.ref h0), some (.ref h1)]) (st' := [.ref h0, .int 0, .ref (h1 + 1)]) (S' := s3) rfl ?_
  refine go_getf mm_43 (h := h0) rfl hp0.1 rfl ?_
  show Go XC d 43 0 33 [some (.ref h0), some (.ref h1)] [.ref (h0 + 1), .int 0, .ref (h1 + 1)] s3 (RV (vU r.1) r.2)
  refine go_run mm_43 2 (pc' := 36) (ls' := [some (.ref h0), some (.ref h1)]) (st' := [.int 12, .int 0, .ref (h0 + 1), .int 0, .ref (h1 + 1)]) (S' := s3) rfl ?_
  refine go_ac (k := 43) (h0 := (h1 + 1)) (h1 := (h0 + 1)) (n := 12) (hp1.2.1) (hp0.2.1) (by decide) rfl (fun lv σ => rfl) (by decide) ?_
  show Go XC d 43 0 39 [some (.ref h0), some (.ref h1)] [] (wC s3 (h1 + 1) (h0 + 1) 12) (RV (vU r.1) r.2)
  obtain ⟨s4, es4, hr⟩ := sbn_some hr
  rw [← es4]
  refine go_run mm_43 1 (pc' := 40) (ls' := [some (.ref h0), some (.ref h1)]) (st' := [.ref h1]) (S' := s4) rfl ?_
  refine go_getf mm_43 (h := h1) rfl hp1.1 rfl ?_
  show Go XC d 43 0 43 [some (.ref h0), some (.ref h1)] [.ref (h1 + 2)] s4 (RV (vU r.1) r.2)
  refine go_run mm_43 2 (pc' := 45) (ls' := [some (.ref h0), some (.ref h1)]) (st' := [.ref h0, .int 0, .ref (h1 + 2)]) (S' := s4) rfl ?_
  refine go_getf mm_43 (h := h0) rfl hp0.1 rfl ?_
  show Go XC d 43 0 48 [some (.ref h0), some (.ref h1)] [.ref (h0 + 2), .int 0, .ref (h1 + 2)] s4 (RV (vU r.1) r.2)
  refine go_run mm_43 2 (pc' := 51) (ls' := [some (.ref h0), some (.ref h1)]) (st' := [.int 12, .int 0, .ref (h0 + 2), .int 0, .ref (h1 + 2)]) (S' := s4) rfl ?_
  refine go_ac (k := 43) (h0 := (h1 + 2)) (h1 := (h0 + 2)) (n := 12) (hp1.2.2.1) (hp0.2.2.1) (by decide) rfl (fun lv σ => rfl) (by decide) ?_
  show Go XC d 43 0 54 [some (.ref h0), some (.ref h1)] [] (wC s4 (h1 + 2) (h0 + 2) 12) (RV (vU r.1) r.2)
  obtain ⟨s5, es5, hr⟩ := sbn_some hr
  rw [← es5]
  refine go_run mm_43 1 (pc' := 55) (ls' := [some (.ref h0), some (.ref h1)]) (st' := [.ref h1]) (S' := s5) rfl ?_
  refine go_getf mm_43 (h := h1) rfl hp1.1 rfl ?_
  show Go XC d 43 0 58 [some (.ref h0), some (.ref h1)] [.ref (h1 + 3)] s5 (RV (vU r.1) r.2)
  refine go_run mm_43 2 (pc' := 60) (ls' := [some (.ref h0), some (.ref h1)]) (st' := [.ref h0, .int 0, .ref (h1 + 3)]) (S' := s5) rfl ?_
  refine go_getf mm_43 (h := h0) rfl hp0.1 rfl ?_
  show Go XC d 43 0 63 [some (.ref h0), some (.ref h1)] [.ref (h0 + 3), .int 0, .ref (h1 + 3)] s5 (RV (vU r.1) r.2)
  refine go_run mm_43 2 (pc' := 66) (ls' := [some (.ref h0), some (.ref h1)]) (st' := [.int 6, .int 0, .ref (h0 + 3), .int 0, .ref (h1 + 3)]) (S' := s5) rfl ?_
  refine go_ac (k := 43) (h0 := (h1 + 3)) (h1 := (h0 + 3)) (n := 6) (hp1.2.2.2.1) (hp0.2.2.2.1) (by decide) rfl (fun lv σ => rfl) (by decide) ?_
  show Go XC d 43 0 69 [some (.ref h0), some (.ref h1)] [] (wC s5 (h1 + 3) (h0 + 3) 6) (RV (vU r.1) r.2)
  obtain ⟨s6, es6, hr⟩ := sbn_some hr
  rw [← es6]
  refine go_run mm_43 1 (pc' := 70) (ls' := [some (.ref h0), some (.ref h1)]) (st' := [.ref h1]) (S' := s6) rfl ?_
  refine go_getf mm_43 (h := h1) rfl hp1.1 rfl ?_
  show Go XC d 43 0 73 [some (.ref h0), some (.ref h1)] [.ref (h1 + 4)] s6 (RV (vU r.1) r.2)
  refine go_run mm_43 2 (pc' := 75) (ls' := [some (.ref h0), some (.ref h1)]) (st' := [.ref h0, .int 0, .ref (h1 + 4)]) (S' := s6) rfl ?_
  refine go_getf mm_43 (h := h0) rfl hp0.1 rfl ?_
  show Go XC d 43 0 78 [some (.ref h0), some (.ref h1)] [.ref (h0 + 4), .int 0, .ref (h1 + 4)] s6 (RV (vU r.1) r.2)
  refine go_run mm_43 2 (pc' := 81) (ls' := [some (.ref h0), some (.ref h1)]) (st' := [.int 6, .int 0, .ref (h0 + 4), .int 0, .ref (h1 + 4)]) (S' := s6) rfl ?_
  refine go_ac (k := 43) (h0 := (h1 + 4)) (h1 := (h0 + 4)) (n := 6) (hp1.2.2.2.2.1) (hp0.2.2.2.2.1) (by decide) rfl (fun lv σ => rfl) (by decide) ?_
  show Go XC d 43 0 84 [some (.ref h0), some (.ref h1)] [] (wC s6 (h1 + 4) (h0 + 4) 6) (RV (vU r.1) r.2)
  obtain ⟨s7, es7, hr⟩ := sbn_some hr
  rw [← es7]
  refine go_run mm_43 1 (pc' := 85) (ls' := [some (.ref h0), some (.ref h1)]) (st' := [.ref h1]) (S' := s7) rfl ?_
  refine go_getf mm_43 (h := h1) rfl hp1.1 rfl ?_
  show Go XC d 43 0 88 [some (.ref h0), some (.ref h1)] [.ref (h1 + 5)] s7 (RV (vU r.1) r.2)
  refine go_run mm_43 2 (pc' := 90) (ls' := [some (.ref h0), some (.ref h1)]) (st' := [.ref h0, .int 0, .ref (h1 + 5)]) (S' := s7) rfl ?_
  refine go_getf mm_43 (h := h0) rfl hp0.1 rfl ?_
  show Go XC d 43 0 93 [some (.ref h0), some (.ref h1)] [.ref (h0 + 5), .int 0, .ref (h1 + 5)] s7 (RV (vU r.1) r.2)
  refine go_run mm_43 2 (pc' := 96) (ls' := [some (.ref h0), some (.ref h1)]) (st' := [.int 6, .int 0, .ref (h0 + 5), .int 0, .ref (h1 + 5)]) (S' := s7) rfl ?_
  refine go_ac (k := 43) (h0 := (h1 + 5)) (h1 := (h0 + 5)) (n := 6) (hp1.2.2.2.2.2.1) (hp0.2.2.2.2.2.1) (by decide) rfl (fun lv σ => rfl) (by decide) ?_
  show Go XC d 43 0 99 [some (.ref h0), some (.ref h1)] [] (wC s7 (h1 + 5) (h0 + 5) 6) (RV (vU r.1) r.2)
  obtain ⟨s8, es8, hr⟩ := sbn_some hr
  rw [← es8]
  refine go_run mm_43 1 (pc' := 100) (ls' := [some (.ref h0), some (.ref h1)]) (st' := [.ref h1]) (S' := s8) rfl ?_
  refine go_getf mm_43 (h := h1) rfl hp1.1 rfl ?_
  show Go XC d 43 0 103 [some (.ref h0), some (.ref h1)] [.ref (h1 + 6)] s8 (RV (vU r.1) r.2)
  refine go_run mm_43 2 (pc' := 105) (ls' := [some (.ref h0), some (.ref h1)]) (st' := [.ref h0, .int 0, .ref (h1 + 6)]) (S' := s8) rfl ?_
  refine go_getf mm_43 (h := h0) rfl hp0.1 rfl ?_
  show Go XC d 43 0 108 [some (.ref h0), some (.ref h1)] [.ref (h0 + 6), .int 0, .ref (h1 + 6)] s8 (RV (vU r.1) r.2)
  refine go_run mm_43 2 (pc' := 111) (ls' := [some (.ref h0), some (.ref h1)]) (st' := [.int 6, .int 0, .ref (h0 + 6), .int 0, .ref (h1 + 6)]) (S' := s8) rfl ?_
  refine go_ac (k := 43) (h0 := (h1 + 6)) (h1 := (h0 + 6)) (n := 6) (hp1.2.2.2.2.2.2.1) (hp0.2.2.2.2.2.2.1) (by decide) rfl (fun lv σ => rfl) (by decide) ?_
  show Go XC d 43 0 114 [some (.ref h0), some (.ref h1)] [] (wC s8 (h1 + 6) (h0 + 6) 6) (RV (vU r.1) r.2)
  obtain ⟨s9, es9, hr⟩ := sbn_some hr
  rw [← es9]
  refine go_run mm_43 1 (pc' := 115) (ls' := [some (.ref h0), some (.ref h1)]) (st' := [.ref h1]) (S' := s9) rfl ?_
  refine go_getf mm_43 (h := h1) rfl hp1.1 rfl ?_
  show Go XC d 43 0 118 [some (.ref h0), some (.ref h1)] [.ref (h1 + 7)] s9 (RV (vU r.1) r.2)
  refine go_run mm_43 2 (pc' := 120) (ls' := [some (.ref h0), some (.ref h1)]) (st' := [.ref h0, .int 0, .ref (h1 + 7)]) (S' := s9) rfl ?_
  refine go_getf mm_43 (h := h0) rfl hp0.1 rfl ?_
  show Go XC d 43 0 123 [some (.ref h0), some (.ref h1)] [.ref (h0 + 7), .int 0, .ref (h1 + 7)] s9 (RV (vU r.1) r.2)
  refine go_run mm_43 2 (pc' := 126) (ls' := [some (.ref h0), some (.ref h1)]) (st' := [.int 6, .int 0, .ref (h0 + 7), .int 0, .ref (h1 + 7)]) (S' := s9) rfl ?_
  refine go_ac (k := 43) (h0 := (h1 + 7)) (h1 := (h0 + 7)) (n := 6) (hp1.2.2.2.2.2.2.2.1) (hp0.2.2.2.2.2.2.2.1) (by decide) rfl (fun lv σ => rfl) (by decide) ?_
  show Go XC d 43 0 129 [some (.ref h0), some (.ref h1)] [] (wC s9 (h1 + 7) (h0 + 7) 6) (RV (vU r.1) r.2)
  obtain ⟨s10, es10, hr⟩ := sbn_some hr
  rw [← es10]
  refine go_run mm_43 1 (pc' := 130) (ls' := [some (.ref h0), some (.ref h1)]) (st' := [.ref h1]) (S' := s10) rfl ?_
  refine go_getf mm_43 (h := h1) rfl hp1.1 rfl ?_
  show Go XC d 43 0 133 [some (.ref h0), some (.ref h1)] [.ref (h1 + 8)] s10 (RV (vU r.1) r.2)
  refine go_run mm_43 2 (pc' := 135) (ls' := [some (.ref h0), some (.ref h1)]) (st' := [.ref h0, .int 0, .ref (h1 + 8)]) (S' := s10) rfl ?_
  refine go_getf mm_43 (h := h0) rfl hp0.1 rfl ?_
  show Go XC d 43 0 138 [some (.ref h0), some (.ref h1)] [.ref (h0 + 8), .int 0, .ref (h1 + 8)] s10 (RV (vU r.1) r.2)
  refine go_run mm_43 2 (pc' := 141) (ls' := [some (.ref h0), some (.ref h1)]) (st' := [.int 6, .int 0, .ref (h0 + 8), .int 0, .ref (h1 + 8)]) (S' := s10) rfl ?_
  refine go_ac (k := 43) (h0 := (h1 + 8)) (h1 := (h0 + 8)) (n := 6) (hp1.2.2.2.2.2.2.2.2) (hp0.2.2.2.2.2.2.2.2) (by decide) rfl (fun lv σ => rfl) (by decide) ?_
  show Go XC d 43 0 144 [some (.ref h0), some (.ref h1)] [] (wC s10 (h1 + 8) (h0 + 8) 6) (RV (vU r.1) r.2)
  obtain ⟨s11, es11, hr⟩ := sbn_some hr
  rw [← es11]
  cases hr
  exact go_vreturn mm_43 rfl rfl ⟨rfl, rfl, rfl⟩

theorem mm_9 : mtG 9 = some (mi_9, 1, ft_9) := rfl
def F_9 (h1 : Nat) (S : ST) : Option (Unit × ST) := if (S.1 47 0) = 8 then (ck (ibd (((((S.1 47 1) + 1) - ((S.1 47 1) + 1) / 8 * 8) + ((S.1 47 0) - 1)) - ((((S.1 47 1) + 1) - ((S.1 47 1) + 1) / 8 * 8) + ((S.1 47 0) - 1)) / 8 * 8) 8) (ob (F_43 (49 + 9 * Int32.toNatClampNeg (((((S.1 47 1) + 1) - ((S.1 47 1) + 1) / 8 * 8) + ((S.1 47 0) - 1)) - ((((S.1 47 1) + 1) - ((S.1 47 1) + 1) / 8 * 8) + ((S.1 47 0) - 1)) / 8 * 8)) h1 (wI (wI S 47 1 (((S.1 47 1) + 1) - ((S.1 47 1) + 1) / 8 * 8)) 47 0 ((S.1 47 0) - 1))) (fun w1 => some ((), (wI w1.2 47 0 ((w1.2.1 47 0) + 1)))))) else (ck (ibd (((S.1 47 1) + (S.1 47 0)) - ((S.1 47 1) + (S.1 47 0)) / 8 * 8) 8) (ob (F_43 (49 + 9 * Int32.toNatClampNeg (((S.1 47 1) + (S.1 47 0)) - ((S.1 47 1) + (S.1 47 0)) / 8 * 8)) h1 S) (fun w2 => some ((), (wI w2.2 47 0 ((w2.2.1 47 0) + 1))))))
set_option maxRecDepth 20000 in
theorem S_9 {d : Nat} {S : ST} {h1 : Nat} {r} (hp1 : PLH h1) (hr : F_9 h1 S = some r) : Cal XC (d + 1) 9 [.ref 47, .ref h1] S (RV (vU r.1) r.2) := by
  unfold F_9 at hr
  refine cal_go 1 rfl ?_
  refine go_run mm_9 3 (pc' := 6) (ls' := [some (.ref 47), some (.ref h1), none]) (st' := [.int 8, .int (S.1 47 0)]) (S' := S) rfl ?_
  refine go_if2 mm_9 rfl (p1 := 9) (p2 := 32) rfl (fun (hc1 : (S.1 47 0) = 8) => ?_) (fun (hc1 : ¬ (S.1 47 0) = 8) => ?_)
  · rw [if_pos hc1] at hr
    refine go_run mm_9 23 (pc' := 48) (ls' := [some (.ref 47), some (.ref h1), none]) (st' := [.int (((((S.1 47 1) + 1) - ((S.1 47 1) + 1) / 8 * 8) + ((S.1 47 0) - 1)) - ((((S.1 47 1) + 1) - ((S.1 47 1) + 1) / 8 * 8) + ((S.1 47 0) - 1)) / 8 * 8), .ref 48]) (S' := (wI (wI S 47 1 (((S.1 47 1) + 1) - ((S.1 47 1) + 1) / 8 * 8)) 47 0 ((S.1 47 0) - 1))) rfl ?_
    obtain ⟨hq2, hr⟩ := ck_some hr
    refine go_aaload mm_9 (h := 48) (t := 49) (n := 8) rfl rfl (ibd_ok hq2) ?_
    show Go XC (d + 1) 9 0 49 [some (.ref 47), some (.ref h1), none] [.ref (49 + 9 * Int32.toNatClampNeg (((((S.1 47 1) + 1) - ((S.1 47 1) + 1) / 8 * 8) + ((S.1 47 0) - 1)) - ((((S.1 47 1) + 1) - ((S.1 47 1) + 1) / 8 * 8) + ((S.1 47 0) - 1)) / 8 * 8))] (wI (wI S 47 1 (((S.1 47 1) + 1) - ((S.1 47 1) + 1) / 8 * 8)) 47 0 ((S.1 47 0) - 1)) (RV (vU r.1) r.2)
    refine go_run mm_9 2 (pc' := 51) (ls' := [some (.ref 47), some (.ref h1), some (.ref (49 + 9 * Int32.toNatClampNeg (((((S.1 47 1) + 1) - ((S.1 47 1) + 1) / 8 * 8) + ((S.1 47 0) - 1)) - ((((S.1 47 1) + 1) - ((S.1 47 1) + 1) / 8 * 8) + ((S.1 47 0) - 1)) / 8 * 8)))]) (st' := [.ref (49 + 9 * Int32.toNatClampNeg (((((S.1 47 1) + 1) - ((S.1 47 1) + 1) / 8 * 8) + ((S.1 47 0) - 1)) - ((((S.1 47 1) + 1) - ((S.1 47 1) + 1) / 8 * 8) + ((S.1 47 0) - 1)) / 8 * 8))]) (S' := (wI (wI S 47 1 (((S.1 47 1) + 1) - ((S.1 47 1) + 1) / 8 * 8)) 47 0 ((S.1 47 0) - 1))) rfl ?_
    refine go_nn mm_9 rfl ?_
    refine go_run mm_9 2 (pc' := 56) (ls' := [some (.ref 47), some (.ref h1), some (.ref (49 + 9 * Int32.toNatClampNeg (((((S.1 47 1) + 1) - ((S.1 47 1) + 1) / 8 * 8) + ((S.1 47 0) - 1)) - ((((S.1 47 1) + 1) - ((S.1 47 1) + 1) / 8 * 8) + ((S.1 47 0) - 1)) / 8 * 8)))]) (st' := [.ref h1, .ref (49 + 9 * Int32.toNatClampNeg (((((S.1 47 1) + 1) - ((S.1 47 1) + 1) / 8 * 8) + ((S.1 47 0) - 1)) - ((((S.1 47 1) + 1) - ((S.1 47 1) + 1) / 8 * 8) + ((S.1 47 0) - 1)) / 8 * 8))]) (S' := (wI (wI S 47 1 (((S.1 47 1) + 1) - ((S.1 47 1) + 1) / 8 * 8)) 47 0 ((S.1 47 0) - 1))) rfl ?_
    obtain ⟨w1, hw1, hr⟩ := ob_some hr
    refine go_cv mm_9 (h := (49 + 9 * Int32.toNatClampNeg (((((S.1 47 1) + 1) - ((S.1 47 1) + 1) / 8 * 8) + ((S.1 47 0) - 1)) - ((((S.1 47 1) + 1) - ((S.1 47 1) + 1) / 8 * 8) + ((S.1 47 0) - 1)) / 8 * 8))) (As := [.ref h1]) (rest := []) (nl := 2) rfl (plh_past (ibd_ok hq2)).1 (show cvOK 9 56 25 43 1 2 5 = true by decide +kernel) rfl rfl rfl (S_43 (plh_past (ibd_ok hq2)) hp1 hw1) (KP_V ?_)
    show Go XC (d + 1) 9 0 59 [some (.ref 47), some (.ref h1), some (.ref (49 + 9 * Int32.toNatClampNeg (((((S.1 47 1) + 1) - ((S.1 47 1) + 1) / 8 * 8) + ((S.1 47 0) - 1)) - ((((S.1 47 1) + 1) - ((S.1 47 1) + 1) / 8 * 8) + ((S.1 47 0) - 1)) / 8 * 8)))] [] w1.2 (RV (vU r.1) r.2)
    refine go_run mm_9 6 (pc' := 69) (ls' := [some (.ref 47), some (.ref h1), some (.ref (49 + 9 * Int32.toNatClampNeg (((((S.1 47 1) + 1) - ((S.1 47 1) + 1) / 8 * 8) + ((S.1 47 0) - 1)) - ((((S.1 47 1) + 1) - ((S.1 47 1) + 1) / 8 * 8) + ((S.1 47 0) - 1)) / 8 * 8)))]) (st' := []) (S' := (wI w1.2 47 0 ((w1.2.1 47 0) + 1))) rfl ?_
    cases hr
    exact go_vreturn mm_9 rfl rfl ⟨rfl, rfl, rfl⟩
  · rw [if_neg hc1] at hr
    refine go_run mm_9 9 (pc' := 48) (ls' := [some (.ref 47), some (.ref h1), none]) (st' := [.int (((S.1 47 1) + (S.1 47 0)) - ((S.1 47 1) + (S.1 47 0)) / 8 * 8), .ref 48]) (S' := S) rfl ?_
    obtain ⟨hq3, hr⟩ := ck_some hr
    refine go_aaload mm_9 (h := 48) (t := 49) (n := 8) rfl rfl (ibd_ok hq3) ?_
    show Go XC (d + 1) 9 0 49 [some (.ref 47), some (.ref h1), none] [.ref (49 + 9 * Int32.toNatClampNeg (((S.1 47 1) + (S.1 47 0)) - ((S.1 47 1) + (S.1 47 0)) / 8 * 8))] S (RV (vU r.1) r.2)
    refine go_run mm_9 2 (pc' := 51) (ls' := [some (.ref 47), some (.ref h1), some (.ref (49 + 9 * Int32.toNatClampNeg (((S.1 47 1) + (S.1 47 0)) - ((S.1 47 1) + (S.1 47 0)) / 8 * 8)))]) (st' := [.ref (49 + 9 * Int32.toNatClampNeg (((S.1 47 1) + (S.1 47 0)) - ((S.1 47 1) + (S.1 47 0)) / 8 * 8))]) (S' := S) rfl ?_
    refine go_nn mm_9 rfl ?_
    refine go_run mm_9 2 (pc' := 56) (ls' := [some (.ref 47), some (.ref h1), some (.ref (49 + 9 * Int32.toNatClampNeg (((S.1 47 1) + (S.1 47 0)) - ((S.1 47 1) + (S.1 47 0)) / 8 * 8)))]) (st' := [.ref h1, .ref (49 + 9 * Int32.toNatClampNeg (((S.1 47 1) + (S.1 47 0)) - ((S.1 47 1) + (S.1 47 0)) / 8 * 8))]) (S' := S) rfl ?_
    obtain ⟨w2, hw2, hr⟩ := ob_some hr
    refine go_cv mm_9 (h := (49 + 9 * Int32.toNatClampNeg (((S.1 47 1) + (S.1 47 0)) - ((S.1 47 1) + (S.1 47 0)) / 8 * 8))) (As := [.ref h1]) (rest := []) (nl := 2) rfl (plh_past (ibd_ok hq3)).1 (show cvOK 9 56 25 43 1 2 5 = true by decide +kernel) rfl rfl rfl (S_43 (plh_past (ibd_ok hq3)) hp1 hw2) (KP_V ?_)
    show Go XC (d + 1) 9 0 59 [some (.ref 47), some (.ref h1), some (.ref (49 + 9 * Int32.toNatClampNeg (((S.1 47 1) + (S.1 47 0)) - ((S.1 47 1) + (S.1 47 0)) / 8 * 8)))] [] w2.2 (RV (vU r.1) r.2)
    refine go_run mm_9 6 (pc' := 69) (ls' := [some (.ref 47), some (.ref h1), some (.ref (49 + 9 * Int32.toNatClampNeg (((S.1 47 1) + (S.1 47 0)) - ((S.1 47 1) + (S.1 47 0)) / 8 * 8)))]) (st' := []) (S' := (wI w2.2 47 0 ((w2.2.1 47 0) + 1))) rfl ?_
    cases hr
    exact go_vreturn mm_9 rfl rfl ⟨rfl, rfl, rfl⟩

theorem mm_10 : mtG 10 = some (mi_10, 1, ft_10) := rfl
def F_10 (h1 : Nat) (S : ST) : Option (Unit × ST) := if (S.1 47 0) = 0 then (some ((), S)) else (ck (ibd (((S.1 47 1) + ((S.1 47 0) - 1)) - ((S.1 47 1) + ((S.1 47 0) - 1)) / 8 * 8) 8) (ob (F_43 h1 (49 + 9 * Int32.toNatClampNeg (((S.1 47 1) + ((S.1 47 0) - 1)) - ((S.1 47 1) + ((S.1 47 0) - 1)) / 8 * 8)) (wI S 47 0 ((S.1 47 0) - 1))) (fun w1 => some ((), w1.2))))
set_option maxRecDepth 20000 in
theorem S_10 {d : Nat} {S : ST} {h1 : Nat} {r} (hp1 : PLH h1) (hr : F_10 h1 S = some r) : Cal XC (d + 1) 10 [.ref 47, .ref h1] S (RV (vU r.1) r.2) := by
  unfold F_10 at hr
  refine cal_go 1 rfl ?_
  refine go_run mm_10 2 (pc' := 4) (ls' := [some (.ref 47), some (.ref h1), none]) (st' := [.int (S.1 47 0)]) (S' := S) rfl ?_
  refine go_if0 mm_10 rfl (p1 := 7) (p2 := 8) rfl (fun (hc1 : (S.1 47 0) = 0) => ?_) (fun (hc1 : ¬ (S.1 47 0) = 0) => ?_)
  · rw [if_pos hc1] at hr
    cases hr
    exact go_vreturn mm_10 rfl rfl ⟨rfl, rfl, rfl⟩
  · rw [if_neg hc1] at hr
    refine go_run mm_10 15 (pc' := 34) (ls' := [some (.ref 47), some (.ref h1), none]) (st' := [.int (((S.1 47 1) + ((S.1 47 0) - 1)) - ((S.1 47 1) + ((S.1 47 0) - 1)) / 8 * 8), .ref 48]) (S' := (wI S 47 0 ((S.1 47 0) - 1))) rfl ?_
    obtain ⟨hq2, hr⟩ := ck_some hr
    refine go_aaload mm_10 (h := 48) (t := 49) (n := 8) rfl rfl (ibd_ok hq2) ?_
    show Go XC (d + 1) 10 0 35 [some (.ref 47), some (.ref h1), none] [.ref (49 + 9 * Int32.toNatClampNeg (((S.1 47 1) + ((S.1 47 0) - 1)) - ((S.1 47 1) + ((S.1 47 0) - 1)) / 8 * 8))] (wI S 47 0 ((S.1 47 0) - 1)) (RV (vU r.1) r.2)
    refine go_run mm_10 2 (pc' := 37) (ls' := [some (.ref 47), some (.ref h1), some (.ref (49 + 9 * Int32.toNatClampNeg (((S.1 47 1) + ((S.1 47 0) - 1)) - ((S.1 47 1) + ((S.1 47 0) - 1)) / 8 * 8)))]) (st' := [.ref (49 + 9 * Int32.toNatClampNeg (((S.1 47 1) + ((S.1 47 0) - 1)) - ((S.1 47 1) + ((S.1 47 0) - 1)) / 8 * 8))]) (S' := (wI S 47 0 ((S.1 47 0) - 1))) rfl ?_
    refine go_nn mm_10 rfl ?_
    refine go_run mm_10 2 (pc' := 42) (ls' := [some (.ref 47), some (.ref h1), some (.ref (49 + 9 * Int32.toNatClampNeg (((S.1 47 1) + ((S.1 47 0) - 1)) - ((S.1 47 1) + ((S.1 47 0) - 1)) / 8 * 8)))]) (st' := [.ref (49 + 9 * Int32.toNatClampNeg (((S.1 47 1) + ((S.1 47 0) - 1)) - ((S.1 47 1) + ((S.1 47 0) - 1)) / 8 * 8)), .ref h1]) (S' := (wI S 47 0 ((S.1 47 0) - 1))) rfl ?_
    obtain ⟨w1, hw1, hr⟩ := ob_some hr
    refine go_cv mm_10 (h := h1) (As := [.ref (49 + 9 * Int32.toNatClampNeg (((S.1 47 1) + ((S.1 47 0) - 1)) - ((S.1 47 1) + ((S.1 47 0) - 1)) / 8 * 8))]) (rest := []) (nl := 2) rfl hp1.1 (show cvOK 10 42 25 43 1 2 5 = true by decide +kernel) rfl rfl rfl (S_43 hp1 (plh_past (ibd_ok hq2)) hw1) (KP_V ?_)
    show Go XC (d + 1) 10 0 45 [some (.ref 47), some (.ref h1), some (.ref (49 + 9 * Int32.toNatClampNeg (((S.1 47 1) + ((S.1 47 0) - 1)) - ((S.1 47 1) + ((S.1 47 0) - 1)) / 8 * 8)))] [] w1.2 (RV (vU r.1) r.2)
    cases hr
    exact go_vreturn mm_10 rfl rfl ⟨rfl, rfl, rfl⟩

theorem mm_11 : mtG 11 = some (mi_11, 2, ft_11) := rfl
def L_11_3 (v1 : Int32) (a3 : Int32 × ST) : Option ((Int32 × ST) ⊕ (Int32 × ST)) := if a3.1 < 0 then (some (.inr (a3.1, a3.2))) else (if (a3.2.1 1 0) < 600 then (ck (ibd (a3.2.1 1 0) 600) (sbn ((wI a3.2 2 (Int32.toNatClampNeg (a3.2.1 1 0)) ((((Int32.toUInt32 v1) >>> ((Int32.toUInt32 a3.1) &&& Int32.toUInt32 31)).toInt32) &&& 255))) (fun s4 => some (.inl (a3.1 + (-8), (wI s4 1 0 ((s4.1 1 0) + 1))))))) else (some (.inl (a3.1 + (-8), a3.2))))
set_option maxRecDepth 20000 in
theorem LS_11_3 {d : Nat} {R : RT} {v1 : Int32} {a3 : Int32 × ST} {r9} (hr : L_11_3 v1 a3 = some r9) (hL : ∀ a9, r9 = .inl a9 → (fun a3 => Go XC d 11 0 3 [some (.ref 1), some (.int v1), some (.int a3.1)] [] a3.2 R) a9) (hR : ∀ b9, r9 = .inr b9 → (fun e3 => Go XC d 11 0 49 [some (.ref 1), some (.int v1), some (.int e3.1)] [] e3.2 R) b9) : Go XC d 11 0 3 [some (.ref 1), some (.int v1), some (.int a3.1)] [] a3.2 R := by
  unfold L_11_3 at hr
  refine go_run mm_11 1 (pc' := 4) (ls' := [some (.ref 1), some (.int v1), some (.int a3.1)]) (st' := [.int a3.1]) (S' := a3.2) rfl ?_
  refine go_if0 mm_11 rfl (p1 := 49) (p2 := 7) rfl (fun (hc1 : a3.1 < 0) => ?_) (fun (hc1 : ¬ a3.1 < 0) => ?_)
  · rw [if_pos hc1] at hr
    cases hr
    have h9 := hR (a3.1, a3.2) rfl
    dsimp only [Sum.elim_inl] at h9
    exact Go.le h9 (by repeat first | exact True.intro | refine And.intro rfl ?_)
  · rw [if_neg hc1] at hr
    refine go_run mm_11 3 (pc' := 14) (ls' := [some (.ref 1), some (.int v1), some (.int a3.1)]) (st' := [.int 600, .int (a3.2.1 1 0)]) (S' := a3.2) rfl ?_
    refine go_if2 mm_11 rfl (p1 := 17) (p2 := 43) rfl (fun (hc2 : (a3.2.1 1 0) < 600) => ?_) (fun (hc2 : ¬ (a3.2.1 1 0) < 600) => ?_)
    · rw [if_pos hc2] at hr
      refine go_run mm_11 9 (pc' := 32) (ls' := [some (.ref 1), some (.int v1), some (.int a3.1)]) (st' := [.int ((((Int32.toUInt32 v1) >>> ((Int32.toUInt32 a3.1) &&& Int32.toUInt32 31)).toInt32) &&& 255), .int (a3.2.1 1 0), .ref 2]) (S' := a3.2) rfl ?_
      obtain ⟨hb3, hr⟩ := ck_some hr
      refine go_iastore mm_11 (q := (Int32.toNatClampNeg (a3.2.1 1 0))) rfl rfl rfl (ibd_ok hb3) ?_
      show Go XC d 11 0 33 [some (.ref 1), some (.int v1), some (.int a3.1)] [] (wI a3.2 2 (Int32.toNatClampNeg (a3.2.1 1 0)) ((((Int32.toUInt32 v1) >>> ((Int32.toUInt32 a3.1) &&& Int32.toUInt32 31)).toInt32) &&& 255)) R
      obtain ⟨s4, es4, hr⟩ := sbn_some hr
      rw [← es4]
      refine go_run mm_11 8 (pc' := 3) (ls' := [some (.ref 1), some (.int v1), some (.int (a3.1 + (-8)))]) (st' := []) (S' := (wI s4 1 0 ((s4.1 1 0) + 1))) rfl ?_
      cases hr
      have h9 := hL (a3.1 + (-8), (wI s4 1 0 ((s4.1 1 0) + 1))) rfl
      dsimp only at h9
      exact Go.le h9 (by repeat first | exact True.intro | refine And.intro rfl ?_)
    · rw [if_neg hc2] at hr
      refine go_run mm_11 2 (pc' := 3) (ls' := [some (.ref 1), some (.int v1), some (.int (a3.1 + (-8)))]) (st' := []) (S' := a3.2) rfl ?_
      cases hr
      have h9 := hL (a3.1 + (-8), a3.2) rfl
      dsimp only at h9
      exact Go.le h9 (by repeat first | exact True.intro | refine And.intro rfl ?_)
def F_11 (v1 : Int32) (S : ST) : Option (Unit × ST) := ob (wh FU (L_11_3 v1) (24, S)) (fun e3 => some ((), e3.2))
set_option maxRecDepth 20000 in
theorem S_11 {d : Nat} {S : ST} {v1 : Int32} {r} (hr : F_11 v1 S = some r) : Cal XC d 11 [.ref 1, .int v1] S (RV (vU r.1) r.2) := by
  unfold F_11 at hr
  refine cal_go 1 rfl ?_
  refine go_run mm_11 2 (pc' := 3) (ls' := [some (.ref 1), some (.int v1), some (.int 24)]) (st' := []) (S' := S) rfl ?_
  obtain ⟨z3, he3, hr⟩ := ob_some hr
  refine Go.le (ls' := [some (.ref 1), some (.int v1), some (.int 24)]) ?_ (by repeat first | exact True.intro | refine And.intro rfl ?_)
  refine wh_go (P := fun a3 => Go XC d 11 0 3 [some (.ref 1), some (.int v1), some (.int a3.1)] [] a3.2 (RV (vU r.1) r.2)) (K := fun e3 => Go XC d 11 0 49 [some (.ref 1), some (.int v1), some (.int e3.1)] [] e3.2 (RV (vU r.1) r.2)) (fun a9 r9 h9 hL hR => LS_11_3 h9 hL hR) _ _ _ he3 ?_
  generalize z3 = e3 at hr
  show Go XC d 11 0 49 [some (.ref 1), some (.int v1), some (.int e3.1)] [] e3.2 (RV (vU r.1) r.2)
  cases hr
  exact go_vreturn mm_11 rfl rfl ⟨rfl, rfl, rfl⟩

theorem mm_14 : mtG 14 = some (mi_14, 2, ft_14) := rfl
def L_14_7 (v1 : Int32) (v2 : Int32) (v3 : Int32) (S : ST) (a7 : Int32) : Option ((Int32) ⊕ ((Int32) ⊕ Int32)) := if a7 < (S.1 1 5) then (if a7 < 600 then (ck (ibd a7 600) (if (S.1 2 (Int32.toNatClampNeg a7)) < v2 then (some (.inr (.inr a7))) else (ck (ibd a7 600) (if v3 < (S.1 2 (Int32.toNatClampNeg a7)) then (some (.inr (.inr a7))) else (some (.inl (a7 + 1))))))) else (some (.inr (.inl (a7))))) else (some (.inr (.inl (a7))))
set_option maxRecDepth 20000 in
theorem LS_14_7 {d : Nat} {R : RT} {S : ST} {v1 : Int32} {v2 : Int32} {v3 : Int32} {a7 : Int32} {r9} (hr : L_14_7 v1 v2 v3 S a7 = some r9) (hL : ∀ a9, r9 = .inl a9 → (fun a7 => Go XC d 14 0 7 [some (.ref 1), some (.int v1), some (.int v2), some (.int v3), some (.int a7)] [] S R) a9) (hR : ∀ b9, r9 = .inr b9 → Sum.elim (fun e7 => Go XC d 14 0 55 [some (.ref 1), some (.int v1), some (.int v2), some (.int v3), some (.int e7)] [] S R) (fun o => R 0 (.inr (vI o)) S) b9) : Go XC d 14 0 7 [some (.ref 1), some (.int v1), some (.int v2), some (.int v3), some (.int a7)] [] S R := by
  unfold L_14_7 at hr
  refine go_run mm_14 3 (pc' := 13) (ls' := [some (.ref 1), some (.int v1), some (.int v2), some (.int v3), some (.int a7)]) (st' := [.int (S.1 1 5), .int a7]) (S' := S) rfl ?_
  refine go_if2 mm_14 rfl (p1 := 16) (p2 := 55) rfl (fun (hc1 : a7 < (S.1 1 5)) => ?_) (fun (hc1 : ¬ a7 < (S.1 1 5)) => ?_)
  · rw [if_pos hc1] at hr
    refine go_run mm_14 2 (pc' := 21) (ls' := [some (.ref 1), some (.int v1), some (.int v2), some (.int v3), some (.int a7)]) (st' := [.int 600, .int a7]) (S' := S) rfl ?_
    refine go_if2 mm_14 rfl (p1 := 24) (p2 := 55) rfl (fun (hc2 : a7 < 600) => ?_) (fun (hc2 : ¬ a7 < 600) => ?_)
    · rw [if_pos hc2] at hr
      refine go_run mm_14 3 (pc' := 30) (ls' := [some (.ref 1), some (.int v1), some (.int v2), some (.int v3), some (.int a7)]) (st' := [.int a7, .ref 2]) (S' := S) rfl ?_
      obtain ⟨hb3, hr⟩ := ck_some hr
      refine go_iaload mm_14 (q := (Int32.toNatClampNeg a7)) rfl rfl rfl (ibd_ok hb3) ?_
      show Go XC d 14 0 31 [some (.ref 1), some (.int v1), some (.int v2), some (.int v3), some (.int a7)] [.int (S.1 2 (Int32.toNatClampNeg a7))] S R
      refine go_run mm_14 1 (pc' := 32) (ls' := [some (.ref 1), some (.int v1), some (.int v2), some (.int v3), some (.int a7)]) (st' := [.int v2, .int (S.1 2 (Int32.toNatClampNeg a7))]) (S' := S) rfl ?_
      refine go_if2 mm_14 rfl (p1 := 46) (p2 := 35) rfl (fun (hc4 : (S.1 2 (Int32.toNatClampNeg a7)) < v2) => ?_) (fun (hc4 : ¬ (S.1 2 (Int32.toNatClampNeg a7)) < v2) => ?_)
      · rw [if_pos hc4] at hr
        refine go_run mm_14 1 (pc' := 48) (ls' := [some (.ref 1), some (.int v1), some (.int v2), some (.int v3), some (.int a7)]) (st' := [.int a7]) (S' := S) rfl ?_
        cases hr
        have h9 : R 0 (.inr (vI a7)) S := hR _ rfl
        exact go_ireturn mm_14 rfl rfl h9
      · rw [if_neg hc4] at hr
        refine go_run mm_14 3 (pc' := 41) (ls' := [some (.ref 1), some (.int v1), some (.int v2), some (.int v3), some (.int a7)]) (st' := [.int a7, .ref 2]) (S' := S) rfl ?_
        obtain ⟨hb5, hr⟩ := ck_some hr
        refine go_iaload mm_14 (q := (Int32.toNatClampNeg a7)) rfl rfl rfl (ibd_ok hb5) ?_
        show Go XC d 14 0 42 [some (.ref 1), some (.int v1), some (.int v2), some (.int v3), some (.int a7)] [.int (S.1 2 (Int32.toNatClampNeg a7))] S R
        refine go_run mm_14 1 (pc' := 43) (ls' := [some (.ref 1), some (.int v1), some (.int v2), some (.int v3), some (.int a7)]) (st' := [.int v3, .int (S.1 2 (Int32.toNatClampNeg a7))]) (S' := S) rfl ?_
        refine go_if2 mm_14 rfl (p1 := 46) (p2 := 49) rfl (fun (hc6 : v3 < (S.1 2 (Int32.toNatClampNeg a7))) => ?_) (fun (hc6 : ¬ v3 < (S.1 2 (Int32.toNatClampNeg a7))) => ?_)
        · rw [if_pos hc6] at hr
          refine go_run mm_14 1 (pc' := 48) (ls' := [some (.ref 1), some (.int v1), some (.int v2), some (.int v3), some (.int a7)]) (st' := [.int a7]) (S' := S) rfl ?_
          cases hr
          have h9 : R 0 (.inr (vI a7)) S := hR _ rfl
          exact go_ireturn mm_14 rfl rfl h9
        · rw [if_neg hc6] at hr
          refine go_run mm_14 2 (pc' := 7) (ls' := [some (.ref 1), some (.int v1), some (.int v2), some (.int v3), some (.int (a7 + 1))]) (st' := []) (S' := S) rfl ?_
          cases hr
          have h9 := hL (a7 + 1) rfl
          dsimp only at h9
          exact Go.le h9 (by repeat first | exact True.intro | refine And.intro rfl ?_)
    · rw [if_neg hc2] at hr
      cases hr
      have h9 := hR (.inl (a7)) rfl
      dsimp only [Sum.elim_inl] at h9
      exact Go.le h9 (by repeat first | exact True.intro | refine And.intro rfl ?_)
  · rw [if_neg hc1] at hr
    cases hr
    have h9 := hR (.inl (a7)) rfl
    dsimp only [Sum.elim_inl] at h9
    exact Go.le h9 (by repeat first | exact True.intro | refine And.intro rfl ?_)
def F_14 (v1 : Int32) (v2 : Int32) (v3 : Int32) (S : ST) : Option Int32 := ob (wh FU (L_14_7 v1 v2 v3 S) ((if v1 < 0 then 0 else v1))) (fun z => Sum.elim (fun e7 => some (S.1 1 5)) (fun o => some o) z)
set_option maxRecDepth 20000 in
theorem S_14 {d : Nat} {S : ST} {v1 : Int32} {v2 : Int32} {v3 : Int32} {r} (hr : F_14 v1 v2 v3 S = some r) : Cal XC d 14 [.ref 1, .int v1, .int v2, .int v3] S (RV (vI r) S) := by
  unfold F_14 at hr
  refine cal_go 1 rfl ?_
  refine go_run mm_14 2 (pc' := 2) (ls' := [some (.ref 1), some (.int v1), some (.int v2), some (.int v3), none]) (st' := [.int 0, .int v1]) (S' := S) rfl ?_
  refine go_mm (pc' := 5) (st' := [.int (if v1 < 0 then 0 else v1)]) (fun lv σ => rfl) ?_
  show Go XC d 14 0 5 [some (.ref 1), some (.int v1), some (.int v2), some (.int v3), none] [.int (if v1 < 0 then 0 else v1)] S (RV (vI r) S)
  refine go_run mm_14 1 (pc' := 7) (ls' := [some (.ref 1), some (.int v1), some (.int v2), some (.int v3), some (.int (if v1 < 0 then 0 else v1))]) (st' := []) (S' := S) rfl ?_
  obtain ⟨z7, he7, hr⟩ := ob_some hr
  refine Go.le (ls' := [some (.ref 1), some (.int v1), some (.int v2), some (.int v3), some (.int (if v1 < 0 then 0 else v1))]) ?_ (by repeat first | exact True.intro | refine And.intro rfl ?_)
  refine wh_go (P := fun a7 => Go XC d 14 0 7 [some (.ref 1), some (.int v1), some (.int v2), some (.int v3), some (.int a7)] [] S (RV (vI r) S)) (K := fun z => Sum.elim (fun e7 => Go XC d 14 0 55 [some (.ref 1), some (.int v1), some (.int v2), some (.int v3), some (.int e7)] [] S (RV (vI r) S)) (fun o => (RV (vI r) S) 0 (.inr (vI o)) S) z) (fun a9 r9 h9 hL hR => LS_14_7 h9 hL hR) _ _ _ he7 ?_
  rcases z7 with e7 | o
  rotate_left
  · simp only [Sum.elim_inr] at hr
    cases hr
    exact ⟨rfl, rfl, rfl⟩
  simp only [Sum.elim_inl] at hr
  show Go XC d 14 0 55 [some (.ref 1), some (.int v1), some (.int v2), some (.int v3), some (.int e7)] [] S (RV (vI r) S)
  refine go_run mm_14 2 (pc' := 59) (ls' := [some (.ref 1), some (.int v1), some (.int v2), some (.int v3), some (.int e7)]) (st' := [.int (S.1 1 5)]) (S' := S) rfl ?_
  cases hr
  exact go_ireturn mm_14 rfl rfl ⟨rfl, rfl, rfl⟩

theorem mm_15 : mtG 15 = some (mi_15, 2, ft_15) := rfl
def L_15_11 (S : ST) (a11 : Int32 × Int32) : Option ((Int32 × Int32) ⊕ (Int32 × Int32)) := if a11.2 < (S.1 1 4) then (if a11.2 < 600 then (ck (ibd a11.2 600) (some (.inl ((a11.1 * 10) + ((S.1 2 (Int32.toNatClampNeg a11.2)) - 48), a11.2 + 1)))) else (some (.inr (a11.1, a11.2)))) else (some (.inr (a11.1, a11.2)))
set_option maxRecDepth 20000 in
theorem LS_15_11 {d : Nat} {R : RT} {S : ST} {a11 : Int32 × Int32} {r9} (hr : L_15_11 S a11 = some r9) (hL : ∀ a9, r9 = .inl a9 → (fun a11 => Go XC d 15 0 11 [some (.ref 1), some (.int a11.1), some (.int a11.2)] [] S R) a9) (hR : ∀ b9, r9 = .inr b9 → (fun e11 => Go XC d 15 0 47 [some (.ref 1), some (.int e11.1), some (.int e11.2)] [] S R) b9) : Go XC d 15 0 11 [some (.ref 1), some (.int a11.1), some (.int a11.2)] [] S R := by
  unfold L_15_11 at hr
  refine go_run mm_15 3 (pc' := 16) (ls' := [some (.ref 1), some (.int a11.1), some (.int a11.2)]) (st' := [.int (S.1 1 4), .int a11.2]) (S' := S) rfl ?_
  refine go_if2 mm_15 rfl (p1 := 19) (p2 := 47) rfl (fun (hc1 : a11.2 < (S.1 1 4)) => ?_) (fun (hc1 : ¬ a11.2 < (S.1 1 4)) => ?_)
  · rw [if_pos hc1] at hr
    refine go_run mm_15 2 (pc' := 23) (ls' := [some (.ref 1), some (.int a11.1), some (.int a11.2)]) (st' := [.int 600, .int a11.2]) (S' := S) rfl ?_
    refine go_if2 mm_15 rfl (p1 := 26) (p2 := 47) rfl (fun (hc2 : a11.2 < 600) => ?_) (fun (hc2 : ¬ a11.2 < 600) => ?_)
    · rw [if_pos hc2] at hr
      refine go_run mm_15 6 (pc' := 35) (ls' := [some (.ref 1), some (.int a11.1), some (.int a11.2)]) (st' := [.int a11.2, .ref 2, .int (a11.1 * 10)]) (S' := S) rfl ?_
      obtain ⟨hb3, hr⟩ := ck_some hr
      refine go_iaload mm_15 (q := (Int32.toNatClampNeg a11.2)) rfl rfl rfl (ibd_ok hb3) ?_
      show Go XC d 15 0 36 [some (.ref 1), some (.int a11.1), some (.int a11.2)] [.int (S.1 2 (Int32.toNatClampNeg a11.2)), .int (a11.1 * 10)] S R
      refine go_run mm_15 6 (pc' := 11) (ls' := [some (.ref 1), some (.int ((a11.1 * 10) + ((S.1 2 (Int32.toNatClampNeg a11.2)) - 48))), some (.int (a11.2 + 1))]) (st' := []) (S' := S) rfl ?_
      cases hr
      have h9 := hL ((a11.1 * 10) + ((S.1 2 (Int32.toNatClampNeg a11.2)) - 48), a11.2 + 1) rfl
      dsimp only at h9
      exact Go.le h9 (by repeat first | exact True.intro | refine And.intro rfl ?_)
    · rw [if_neg hc2] at hr
      cases hr
      have h9 := hR (a11.1, a11.2) rfl
      dsimp only [Sum.elim_inl] at h9
      exact Go.le h9 (by repeat first | exact True.intro | refine And.intro rfl ?_)
  · rw [if_neg hc1] at hr
    cases hr
    have h9 := hR (a11.1, a11.2) rfl
    dsimp only [Sum.elim_inl] at h9
    exact Go.le h9 (by repeat first | exact True.intro | refine And.intro rfl ?_)
def F_15 (S : ST) : Option Int32 := ob (wh FU (L_15_11 S) (0, (if (S.1 1 2) < 0 then 0 else (S.1 1 2)))) (fun e11 => some e11.1)
set_option maxRecDepth 20000 in
theorem S_15 {d : Nat} {S : ST} {r} (hr : F_15 S = some r) : Cal XC d 15 [.ref 1] S (RV (vI r) S) := by
  unfold F_15 at hr
  refine cal_go 2 rfl ?_
  refine go_run mm_15 5 (pc' := 7) (ls' := [some (.ref 1), some (.int 0), none]) (st' := [.int 0, .int (S.1 1 2)]) (S' := S) rfl ?_
  refine go_mm (pc' := 10) (st' := [.int (if (S.1 1 2) < 0 then 0 else (S.1 1 2))]) (fun lv σ => rfl) ?_
  show Go XC d 15 0 10 [some (.ref 1), some (.int 0), none] [.int (if (S.1 1 2) < 0 then 0 else (S.1 1 2))] S (RV (vI r) S)
  refine go_run mm_15 1 (pc' := 11) (ls' := [some (.ref 1), some (.int 0), some (.int (if (S.1 1 2) < 0 then 0 else (S.1 1 2)))]) (st' := []) (S' := S) rfl ?_
  obtain ⟨z11, he11, hr⟩ := ob_some hr
  refine Go.le (ls' := [some (.ref 1), some (.int 0), some (.int (if (S.1 1 2) < 0 then 0 else (S.1 1 2)))]) ?_ (by repeat first | exact True.intro | refine And.intro rfl ?_)
  refine wh_go (P := fun a11 => Go XC d 15 0 11 [some (.ref 1), some (.int a11.1), some (.int a11.2)] [] S (RV (vI r) S)) (K := fun e11 => Go XC d 15 0 47 [some (.ref 1), some (.int e11.1), some (.int e11.2)] [] S (RV (vI r) S)) (fun a9 r9 h9 hL hR => LS_15_11 h9 hL hR) _ _ _ he11 ?_
  generalize z11 = e11 at hr
  show Go XC d 15 0 47 [some (.ref 1), some (.int e11.1), some (.int e11.2)] [] S (RV (vI r) S)
  refine go_run mm_15 1 (pc' := 48) (ls' := [some (.ref 1), some (.int e11.1), some (.int e11.2)]) (st' := [.int e11.1]) (S' := S) rfl ?_
  cases hr
  exact go_ireturn mm_15 rfl rfl ⟨rfl, rfl, rfl⟩
