theorem mm_253 : mtG 253 = some (mi_253, 12, ft_253) := rfl
theorem b_253_0 {d c : Nat} {R : RT} {S : ST} {v1 : Int32} {v2 : Int32} (e1 : (nb S v1 (S.1 141 0 - 3)) = true → R c (.inr (some (.int 0))) (wI S 140 0 (tb S v1 (S.1 141 0 - 3)))) (e2 : (nb S v1 (S.1 141 0 - 3)) = false → (!(decide (rf (tb S v1 (S.1 141 0 - 3)) (!(f_182 v2 0 2)) 3 = 0))) = true → R c (.inr (some (.int 0))) (wI (wI S 140 0 (tb S v1 (S.1 141 0 - 3))) 140 0 (rf (tb S v1 (S.1 141 0 - 3)) (!(f_182 v2 0 2)) 3))) (e3 : (nb S v1 (S.1 141 0 - 3)) = false → (!(decide (rf (tb S v1 (S.1 141 0 - 3)) (!(f_182 v2 0 2)) 3 = 0))) = false → Go XM (d + 5) 253 c 33 [some (.ref 140), some (.int v1), some (.int v2)] [.ref 140] (wI (wI S 140 0 (tb S v1 (S.1 141 0 - 3))) 140 0 (rf (tb S v1 (S.1 141 0 - 3)) (!(f_182 v2 0 2)) 3)) R) : Go XM (d + 5) 253 c 0 [some (.ref 140), some (.int v1), some (.int v2)] [] S R := by
  refine go_run mm_253 2 (pc' := 2) (ls' := [some (.ref 140), some (.int v1), some (.int v2)]) (st' := [.int v1, .ref 140]) (S' := S) rfl ?_
  refine go_cv mm_253 (h := 140) (As := [.int v1]) (rest := []) (nl := 2) rfl XM_140 (show cvOK 253 2 301 252 1 2 11 = true by decide +kernel) rfl rfl rfl (sq_252) (KP_V ?_)
  refine go_ifb mm_253 rfl (p1 := 30) (p2 := 8) rfl (fun (hc1 : (nb S v1 (S.1 141 0 - 3)) = true) => ?_) (fun (hc1 : (nb S v1 (S.1 141 0 - 3)) = false) => ?_)
  · refine go_run mm_253 1 (pc' := 31) (ls' := [some (.ref 140), some (.int v1), some (.int v2)]) (st' := [.int 0]) (S' := (wI S 140 0 (tb S v1 (S.1 141 0 - 3)))) rfl ?_
    exact go_ireturn mm_253 rfl rfl (e1 hc1)
  · refine go_run mm_253 4 (pc' := 12) (ls' := [some (.ref 140), some (.int v1), some (.int v2)]) (st' := [.int 2, .int 0, .int v2, .ref 140]) (S' := (wI S 140 0 (tb S v1 (S.1 141 0 - 3)))) rfl ?_
    refine go_cs mm_253 (av := [.int v2, .int 0, .int 2]) (rest := [.ref 140]) (nl := 3) rfl (show csOK 253 12 148 182 3 3 = true by decide +kernel) rfl rfl rfl (sp_182) (KP_V ?_)
    have j1 : Go XM (d + 5) 253 c 23 [some (.ref 140), some (.int v1), some (.int v2)] [.int (b2i (!(f_182 v2 0 2))), .ref 140] (wI S 140 0 (tb S v1 (S.1 141 0 - 3))) R := by
      refine go_run mm_253 1 (pc' := 24) (ls' := [some (.ref 140), some (.int v1), some (.int v2)]) (st' := [.int 3, .int (b2i (!(f_182 v2 0 2))), .ref 140]) (S' := (wI S 140 0 (tb S v1 (S.1 141 0 - 3)))) rfl ?_
      refine go_cv mm_253 (h := 140) (As := [.int (b2i (!(f_182 v2 0 2))), .int 3]) (rest := []) (nl := 3) rfl XM_140 (show cvOK 253 24 86 183 2 3 11 = true by decide +kernel) rfl rfl rfl (sq_183) (KP_V ?_)
      refine go_ifb mm_253 rfl (p1 := 30) (p2 := 32) rfl (fun (hc2 : (!(decide (rf (tb S v1 (S.1 141 0 - 3)) (!(f_182 v2 0 2)) 3 = 0))) = true) => ?_) (fun (hc2 : (!(decide (rf (tb S v1 (S.1 141 0 - 3)) (!(f_182 v2 0 2)) 3 = 0))) = false) => ?_)
      · refine go_run mm_253 1 (pc' := 31) (ls' := [some (.ref 140), some (.int v1), some (.int v2)]) (st' := [.int 0]) (S' := (wI (wI S 140 0 (tb S v1 (S.1 141 0 - 3))) 140 0 (rf (tb S v1 (S.1 141 0 - 3)) (!(f_182 v2 0 2)) 3))) rfl ?_
        exact go_ireturn mm_253 rfl rfl (e2 hc1 hc2)
      · refine go_run mm_253 1 (pc' := 33) (ls' := [some (.ref 140), some (.int v1), some (.int v2)]) (st' := [.ref 140]) (S' := (wI (wI S 140 0 (tb S v1 (S.1 141 0 - 3))) 140 0 (rf (tb S v1 (S.1 141 0 - 3)) (!(f_182 v2 0 2)) 3))) rfl ?_
        exact e3 hc1 hc2
    refine go_ifb mm_253 rfl (p1 := 22) (p2 := 18) rfl (fun (hc2 : (f_182 v2 0 2) = true) => ?_) (fun (hc2 : (f_182 v2 0 2) = false) => ?_)
    · refine go_run mm_253 1 (pc' := 23) (ls' := [some (.ref 140), some (.int v1), some (.int v2)]) (st' := [.int 0, .ref 140]) (S' := (wI S 140 0 (tb S v1 (S.1 141 0 - 3)))) rfl ?_
      have e : ((b2i (!(f_182 v2 0 2))) : Int32) = 0 := by simp [b2i, hc2]
      rw [e] at j1
      exact j1
    · refine go_run mm_253 2 (pc' := 23) (ls' := [some (.ref 140), some (.int v1), some (.int v2)]) (st' := [.int 1, .ref 140]) (S' := (wI S 140 0 (tb S v1 (S.1 141 0 - 3)))) rfl ?_
      have e : ((b2i (!(f_182 v2 0 2))) : Int32) = 1 := by simp [b2i, hc2]
      rw [e] at j1
      exact j1
theorem b_253_36 {d c : Nat} {R : RT} {S : ST} {v1 : Int32} {v2 : Int32} (o1 : inB ((3 * v1) + v2) 30) (e1 : R c (.inr (some (.int (ra S 157 ((3 * v1) + v2))))) S) : Go XM (d + 5) 253 c 36 [some (.ref 140), some (.int v1), some (.int v2)] [] S R := by
  refine go_run mm_253 7 (pc' := 45) (ls' := [some (.ref 140), some (.int v1), some (.int v2)]) (st' := [.int ((3 * v1) + v2), .ref 157]) (S' := S) rfl ?_
  refine go_iaload mm_253 (q := (Int32.toNatClampNeg ((3 * v1) + v2))) rfl rfl rfl (o1) ?_
  exact go_ireturn mm_253 rfl rfl (e1)
theorem mm_254 : mtG 254 = some (mi_254, 12, ft_254) := rfl
set_option maxRecDepth 20000 in
theorem b_254_0 {d c : Nat} {R : RT} {S : ST} {v1 : Int32} (e1 : (nb S v1 (S.1 141 0 - 3)) = true → R c (.inr (some (.int 0))) (wI S 140 0 (tb S v1 (S.1 141 0 - 3)))) (e2 : (nb S v1 (S.1 141 0 - 3)) = false → Go XM (d + 5) 254 c 11 [some (.ref 140), some (.int v1), none, none, none, none] [.ref 140] (wI S 140 0 (tb S v1 (S.1 141 0 - 3))) R) : Go XM (d + 5) 254 c 0 [some (.ref 140), some (.int v1), none, none, none, none] [] S R := by
  refine go_run mm_254 2 (pc' := 2) (ls' := [some (.ref 140), some (.int v1), none, none, none, none]) (st' := [.int v1, .ref 140]) (S' := S) rfl ?_
  refine go_cv mm_254 (h := 140) (As := [.int v1]) (rest := []) (nl := 2) rfl XM_140 (show cvOK 254 2 301 252 1 2 11 = true by decide +kernel) rfl rfl rfl (sq_252) (KP_V ?_)
  refine go_ifb mm_254 rfl (p1 := 8) (p2 := 10) rfl (fun (hc1 : (nb S v1 (S.1 141 0 - 3)) = true) => ?_) (fun (hc1 : (nb S v1 (S.1 141 0 - 3)) = false) => ?_)
  · refine go_run mm_254 1 (pc' := 9) (ls' := [some (.ref 140), some (.int v1), none, none, none, none]) (st' := [.int 0]) (S' := (wI S 140 0 (tb S v1 (S.1 141 0 - 3)))) rfl ?_
    exact go_ireturn mm_254 rfl rfl (e1 hc1)
  · refine go_run mm_254 1 (pc' := 11) (ls' := [some (.ref 140), some (.int v1), none, none, none, none]) (st' := [.ref 140]) (S' := (wI S 140 0 (tb S v1 (S.1 141 0 - 3)))) rfl ?_
    exact e2 hc1
set_option maxRecDepth 20000 in
theorem b_254_14 {d c : Nat} {R : RT} {S : ST} {v1 : Int32} (o1 : inB (3 * v1) 30) (o2 : inB ((3 * v1) + 1) 30) (o3 : inB ((3 * v1) + 2) 30) (o4 : inB (3 + (ra S 157 (3 * v1))) 63) (o5 : inB (15 + (ra S 157 (3 * v1))) 63) (o6 : inB (3 + (ra S 157 ((3 * v1) + 1))) 63) (o7 : inB (15 + (ra S 157 ((3 * v1) + 1))) 63) (o8 : inB (3 + (ra S 157 ((3 * v1) + 2))) 63) (o9 : inB (15 + (ra S 157 ((3 * v1) + 2))) 63) (e1 : R c (.inr (some (.int (if (Int64.toInt32 (f_202 (Int32.toInt64 (ra S 141 (3 + (ra S 157 (3 * v1))))) (Int32.toInt64 (ra S 141 (15 + (ra S 157 (3 * v1))))) (Int32.toInt64 (ra S 141 (3 + (ra S 157 ((3 * v1) + 1))))) (Int32.toInt64 (ra S 141 (15 + (ra S 157 ((3 * v1) + 1))))) (Int32.toInt64 (ra S 141 (3 + (ra S 157 ((3 * v1) + 2))))) (Int32.toInt64 (ra S 141 (15 + (ra S 157 ((3 * v1) + 2))))))) < 0 then -(Int64.toInt32 (f_202 (Int32.toInt64 (ra S 141 (3 + (ra S 157 (3 * v1))))) (Int32.toInt64 (ra S 141 (15 + (ra S 157 (3 * v1))))) (Int32.toInt64 (ra S 141 (3 + (ra S 157 ((3 * v1) + 1))))) (Int32.toInt64 (ra S 141 (15 + (ra S 157 ((3 * v1) + 1))))) (Int32.toInt64 (ra S 141 (3 + (ra S 157 ((3 * v1) + 2))))) (Int32.toInt64 (ra S 141 (15 + (ra S 157 ((3 * v1) + 2))))))) else Int64.toInt32 (f_202 (Int32.toInt64 (ra S 141 (3 + (ra S 157 (3 * v1))))) (Int32.toInt64 (ra S 141 (15 + (ra S 157 (3 * v1))))) (Int32.toInt64 (ra S 141 (3 + (ra S 157 ((3 * v1) + 1))))) (Int32.toInt64 (ra S 141 (15 + (ra S 157 ((3 * v1) + 1))))) (Int32.toInt64 (ra S 141 (3 + (ra S 157 ((3 * v1) + 2))))) (Int32.toInt64 (ra S 141 (15 + (ra S 157 ((3 * v1) + 2)))))))))) S) : Go XM (d + 5) 254 c 14 [some (.ref 140), some (.int v1), none, none, none, none] [] S R := by
  refine go_run mm_254 5 (pc' := 21) (ls' := [some (.ref 140), some (.int v1), none, none, none, none]) (st' := [.int (3 * v1), .ref 157]) (S' := S) rfl ?_
  refine go_iaload mm_254 (q := (Int32.toNatClampNeg (3 * v1))) rfl rfl rfl (o1) ?_
  refine go_run mm_254 8 (pc' := 32) (ls' := [some (.ref 140), some (.int v1), some (.int (ra S 157 (3 * v1))), none, none, none]) (st' := [.int ((3 * v1) + 1), .ref 157]) (S' := S) rfl ?_
  refine go_iaload mm_254 (q := (Int32.toNatClampNeg ((3 * v1) + 1))) rfl rfl rfl (o2) ?_
  refine go_run mm_254 8 (pc' := 43) (ls' := [some (.ref 140), some (.int v1), some (.int (ra S 157 (3 * v1))), some (.int (ra S 157 ((3 * v1) + 1))), none, none]) (st' := [.int ((3 * v1) + 2), .ref 157]) (S' := S) rfl ?_
  refine go_iaload mm_254 (q := (Int32.toNatClampNeg ((3 * v1) + 2))) rfl rfl rfl (o3) ?_
  refine go_run mm_254 6 (pc' := 53) (ls' := [some (.ref 140), some (.int v1), some (.int (ra S 157 (3 * v1))), some (.int (ra S 157 ((3 * v1) + 1))), some (.int (ra S 157 ((3 * v1) + 2))), none]) (st' := [.int (3 + (ra S 157 (3 * v1))), .ref 141]) (S' := S) rfl ?_
  refine go_iaload mm_254 (q := (Int32.toNatClampNeg (3 + (ra S 157 (3 * v1))))) rfl rfl rfl (o4) ?_
  refine go_run mm_254 6 (pc' := 63) (ls' := [some (.ref 140), some (.int v1), some (.int (ra S 157 (3 * v1))), some (.int (ra S 157 ((3 * v1) + 1))), some (.int (ra S 157 ((3 * v1) + 2))), none]) (st' := [.int (15 + (ra S 157 (3 * v1))), .ref 141, .long (Int32.toInt64 (ra S 141 (3 + (ra S 157 (3 * v1)))))]) (S' := S) rfl ?_
  refine go_iaload mm_254 (q := (Int32.toNatClampNeg (15 + (ra S 157 (3 * v1))))) rfl rfl rfl (o5) ?_
  refine go_run mm_254 6 (pc' := 72) (ls' := [some (.ref 140), some (.int v1), some (.int (ra S 157 (3 * v1))), some (.int (ra S 157 ((3 * v1) + 1))), some (.int (ra S 157 ((3 * v1) + 2))), none]) (st' := [.int (3 + (ra S 157 ((3 * v1) + 1))), .ref 141, .long (Int32.toInt64 (ra S 141 (15 + (ra S 157 (3 * v1))))), .long (Int32.toInt64 (ra S 141 (3 + (ra S 157 (3 * v1)))))]) (S' := S) rfl ?_
  refine go_iaload mm_254 (q := (Int32.toNatClampNeg (3 + (ra S 157 ((3 * v1) + 1))))) rfl rfl rfl (o6) ?_
  refine go_run mm_254 6 (pc' := 82) (ls' := [some (.ref 140), some (.int v1), some (.int (ra S 157 (3 * v1))), some (.int (ra S 157 ((3 * v1) + 1))), some (.int (ra S 157 ((3 * v1) + 2))), none]) (st' := [.int (15 + (ra S 157 ((3 * v1) + 1))), .ref 141, .long (Int32.toInt64 (ra S 141 (3 + (ra S 157 ((3 * v1) + 1))))), .long (Int32.toInt64 (ra S 141 (15 + (ra S 157 (3 * v1))))), .long (Int32.toInt64 (ra S 141 (3 + (ra S 157 (3 * v1)))))]) (S' := S) rfl ?_
  refine go_iaload mm_254 (q := (Int32.toNatClampNeg (15 + (ra S 157 ((3 * v1) + 1))))) rfl rfl rfl (o7) ?_
  refine go_run mm_254 6 (pc' := 92) (ls' := [some (.ref 140), some (.int v1), some (.int (ra S 157 (3 * v1))), some (.int (ra S 157 ((3 * v1) + 1))), some (.int (ra S 157 ((3 * v1) + 2))), none]) (st' := [.int (3 + (ra S 157 ((3 * v1) + 2))), .ref 141, .long (Int32.toInt64 (ra S 141 (15 + (ra S 157 ((3 * v1) + 1))))), .long (Int32.toInt64 (ra S 141 (3 + (ra S 157 ((3 * v1) + 1))))), .long (Int32.toInt64 (ra S 141 (15 + (ra S 157 (3 * v1))))), .long (Int32.toInt64 (ra S 141 (3 + (ra S 157 (3 * v1)))))]) (S' := S) rfl ?_
  refine go_iaload mm_254 (q := (Int32.toNatClampNeg (3 + (ra S 157 ((3 * v1) + 2))))) rfl rfl rfl (o8) ?_
  refine go_run mm_254 6 (pc' := 103) (ls' := [some (.ref 140), some (.int v1), some (.int (ra S 157 (3 * v1))), some (.int (ra S 157 ((3 * v1) + 1))), some (.int (ra S 157 ((3 * v1) + 2))), none]) (st' := [.int (15 + (ra S 157 ((3 * v1) + 2))), .ref 141, .long (Int32.toInt64 (ra S 141 (3 + (ra S 157 ((3 * v1) + 2))))), .long (Int32.toInt64 (ra S 141 (15 + (ra S 157 ((3 * v1) + 1))))), .long (Int32.toInt64 (ra S 141 (3 + (ra S 157 ((3 * v1) + 1))))), .long (Int32.toInt64 (ra S 141 (15 + (ra S 157 (3 * v1))))), .long (Int32.toInt64 (ra S 141 (3 + (ra S 157 (3 * v1)))))]) (S' := S) rfl ?_
  refine go_iaload mm_254 (q := (Int32.toNatClampNeg (15 + (ra S 157 ((3 * v1) + 2))))) rfl rfl rfl (o9) ?_
  refine go_run mm_254 1 (pc' := 105) (ls' := [some (.ref 140), some (.int v1), some (.int (ra S 157 (3 * v1))), some (.int (ra S 157 ((3 * v1) + 1))), some (.int (ra S 157 ((3 * v1) + 2))), none]) (st' := [.long (Int32.toInt64 (ra S 141 (15 + (ra S 157 ((3 * v1) + 2))))), .long (Int32.toInt64 (ra S 141 (3 + (ra S 157 ((3 * v1) + 2))))), .long (Int32.toInt64 (ra S 141 (15 + (ra S 157 ((3 * v1) + 1))))), .long (Int32.toInt64 (ra S 141 (3 + (ra S 157 ((3 * v1) + 1))))), .long (Int32.toInt64 (ra S 141 (15 + (ra S 157 (3 * v1))))), .long (Int32.toInt64 (ra S 141 (3 + (ra S 157 (3 * v1)))))]) (S' := S) rfl ?_
  refine go_cs mm_254 (av := [.long (Int32.toInt64 (ra S 141 (3 + (ra S 157 (3 * v1))))), .long (Int32.toInt64 (ra S 141 (15 + (ra S 157 (3 * v1))))), .long (Int32.toInt64 (ra S 141 (3 + (ra S 157 ((3 * v1) + 1))))), .long (Int32.toInt64 (ra S 141 (15 + (ra S 157 ((3 * v1) + 1))))), .long (Int32.toInt64 (ra S 141 (3 + (ra S 157 ((3 * v1) + 2))))), .long (Int32.toInt64 (ra S 141 (15 + (ra S 157 ((3 * v1) + 2)))))]) (rest := []) (nl := 12) rfl (show csOK 254 105 204 202 6 12 = true by decide +kernel) rfl rfl rfl (sp_202) (KP_V ?_)
  refine go_run mm_254 3 (pc' := 113) (ls' := [some (.ref 140), some (.int v1), some (.int (ra S 157 (3 * v1))), some (.int (ra S 157 ((3 * v1) + 1))), some (.int (ra S 157 ((3 * v1) + 2))), some (.int (Int64.toInt32 (f_202 (Int32.toInt64 (ra S 141 (3 + (ra S 157 (3 * v1))))) (Int32.toInt64 (ra S 141 (15 + (ra S 157 (3 * v1))))) (Int32.toInt64 (ra S 141 (3 + (ra S 157 ((3 * v1) + 1))))) (Int32.toInt64 (ra S 141 (15 + (ra S 157 ((3 * v1) + 1))))) (Int32.toInt64 (ra S 141 (3 + (ra S 157 ((3 * v1) + 2))))) (Int32.toInt64 (ra S 141 (15 + (ra S 157 ((3 * v1) + 2))))))))]) (st' := [.int (Int64.toInt32 (f_202 (Int32.toInt64 (ra S 141 (3 + (ra S 157 (3 * v1))))) (Int32.toInt64 (ra S 141 (15 + (ra S 157 (3 * v1))))) (Int32.toInt64 (ra S 141 (3 + (ra S 157 ((3 * v1) + 1))))) (Int32.toInt64 (ra S 141 (15 + (ra S 157 ((3 * v1) + 1))))) (Int32.toInt64 (ra S 141 (3 + (ra S 157 ((3 * v1) + 2))))) (Int32.toInt64 (ra S 141 (15 + (ra S 157 ((3 * v1) + 2)))))))]) (S' := S) rfl ?_
  have j1 : Go XM (d + 5) 254 c 124 [some (.ref 140), some (.int v1), some (.int (ra S 157 (3 * v1))), some (.int (ra S 157 ((3 * v1) + 1))), some (.int (ra S 157 ((3 * v1) + 2))), some (.int (Int64.toInt32 (f_202 (Int32.toInt64 (ra S 141 (3 + (ra S 157 (3 * v1))))) (Int32.toInt64 (ra S 141 (15 + (ra S 157 (3 * v1))))) (Int32.toInt64 (ra S 141 (3 + (ra S 157 ((3 * v1) + 1))))) (Int32.toInt64 (ra S 141 (15 + (ra S 157 ((3 * v1) + 1))))) (Int32.toInt64 (ra S 141 (3 + (ra S 157 ((3 * v1) + 2))))) (Int32.toInt64 (ra S 141 (15 + (ra S 157 ((3 * v1) + 2))))))))] [.int (if (Int64.toInt32 (f_202 (Int32.toInt64 (ra S 141 (3 + (ra S 157 (3 * v1))))) (Int32.toInt64 (ra S 141 (15 + (ra S 157 (3 * v1))))) (Int32.toInt64 (ra S 141 (3 + (ra S 157 ((3 * v1) + 1))))) (Int32.toInt64 (ra S 141 (15 + (ra S 157 ((3 * v1) + 1))))) (Int32.toInt64 (ra S 141 (3 + (ra S 157 ((3 * v1) + 2))))) (Int32.toInt64 (ra S 141 (15 + (ra S 157 ((3 * v1) + 2))))))) < 0 then -(Int64.toInt32 (f_202 (Int32.toInt64 (ra S 141 (3 + (ra S 157 (3 * v1))))) (Int32.toInt64 (ra S 141 (15 + (ra S 157 (3 * v1))))) (Int32.toInt64 (ra S 141 (3 + (ra S 157 ((3 * v1) + 1))))) (Int32.toInt64 (ra S 141 (15 + (ra S 157 ((3 * v1) + 1))))) (Int32.toInt64 (ra S 141 (3 + (ra S 157 ((3 * v1) + 2))))) (Int32.toInt64 (ra S 141 (15 + (ra S 157 ((3 * v1) + 2))))))) else Int64.toInt32 (f_202 (Int32.toInt64 (ra S 141 (3 + (ra S 157 (3 * v1))))) (Int32.toInt64 (ra S 141 (15 + (ra S 157 (3 * v1))))) (Int32.toInt64 (ra S 141 (3 + (ra S 157 ((3 * v1) + 1))))) (Int32.toInt64 (ra S 141 (15 + (ra S 157 ((3 * v1) + 1))))) (Int32.toInt64 (ra S 141 (3 + (ra S 157 ((3 * v1) + 2))))) (Int32.toInt64 (ra S 141 (15 + (ra S 157 ((3 * v1) + 2)))))))] S R := by
    exact go_ireturn mm_254 rfl rfl (e1)
  refine go_if0 mm_254 rfl (p1 := 116) (p2 := 122) rfl (fun (hc1 : (Int64.toInt32 (f_202 (Int32.toInt64 (ra S 141 (3 + (ra S 157 (3 * v1))))) (Int32.toInt64 (ra S 141 (15 + (ra S 157 (3 * v1))))) (Int32.toInt64 (ra S 141 (3 + (ra S 157 ((3 * v1) + 1))))) (Int32.toInt64 (ra S 141 (15 + (ra S 157 ((3 * v1) + 1))))) (Int32.toInt64 (ra S 141 (3 + (ra S 157 ((3 * v1) + 2))))) (Int32.toInt64 (ra S 141 (15 + (ra S 157 ((3 * v1) + 2))))))) < 0) => ?_) (fun (hc1 : ¬ (Int64.toInt32 (f_202 (Int32.toInt64 (ra S 141 (3 + (ra S 157 (3 * v1))))) (Int32.toInt64 (ra S 141 (15 + (ra S 157 (3 * v1))))) (Int32.toInt64 (ra S 141 (3 + (ra S 157 ((3 * v1) + 1))))) (Int32.toInt64 (ra S 141 (15 + (ra S 157 ((3 * v1) + 1))))) (Int32.toInt64 (ra S 141 (3 + (ra S 157 ((3 * v1) + 2))))) (Int32.toInt64 (ra S 141 (15 + (ra S 157 ((3 * v1) + 2))))))) < 0) => ?_)
  · refine go_run mm_254 3 (pc' := 124) (ls' := [some (.ref 140), some (.int v1), some (.int (ra S 157 (3 * v1))), some (.int (ra S 157 ((3 * v1) + 1))), some (.int (ra S 157 ((3 * v1) + 2))), some (.int (Int64.toInt32 (f_202 (Int32.toInt64 (ra S 141 (3 + (ra S 157 (3 * v1))))) (Int32.toInt64 (ra S 141 (15 + (ra S 157 (3 * v1))))) (Int32.toInt64 (ra S 141 (3 + (ra S 157 ((3 * v1) + 1))))) (Int32.toInt64 (ra S 141 (15 + (ra S 157 ((3 * v1) + 1))))) (Int32.toInt64 (ra S 141 (3 + (ra S 157 ((3 * v1) + 2))))) (Int32.toInt64 (ra S 141 (15 + (ra S 157 ((3 * v1) + 2))))))))]) (st' := [.int (-(Int64.toInt32 (f_202 (Int32.toInt64 (ra S 141 (3 + (ra S 157 (3 * v1))))) (Int32.toInt64 (ra S 141 (15 + (ra S 157 (3 * v1))))) (Int32.toInt64 (ra S 141 (3 + (ra S 157 ((3 * v1) + 1))))) (Int32.toInt64 (ra S 141 (15 + (ra S 157 ((3 * v1) + 1))))) (Int32.toInt64 (ra S 141 (3 + (ra S 157 ((3 * v1) + 2))))) (Int32.toInt64 (ra S 141 (15 + (ra S 157 ((3 * v1) + 2))))))))]) (S' := S) rfl ?_
    have e : ((if (Int64.toInt32 (f_202 (Int32.toInt64 (ra S 141 (3 + (ra S 157 (3 * v1))))) (Int32.toInt64 (ra S 141 (15 + (ra S 157 (3 * v1))))) (Int32.toInt64 (ra S 141 (3 + (ra S 157 ((3 * v1) + 1))))) (Int32.toInt64 (ra S 141 (15 + (ra S 157 ((3 * v1) + 1))))) (Int32.toInt64 (ra S 141 (3 + (ra S 157 ((3 * v1) + 2))))) (Int32.toInt64 (ra S 141 (15 + (ra S 157 ((3 * v1) + 2))))))) < 0 then -(Int64.toInt32 (f_202 (Int32.toInt64 (ra S 141 (3 + (ra S 157 (3 * v1))))) (Int32.toInt64 (ra S 141 (15 + (ra S 157 (3 * v1))))) (Int32.toInt64 (ra S 141 (3 + (ra S 157 ((3 * v1) + 1))))) (Int32.toInt64 (ra S 141 (15 + (ra S 157 ((3 * v1) + 1))))) (Int32.toInt64 (ra S 141 (3 + (ra S 157 ((3 * v1) + 2))))) (Int32.toInt64 (ra S 141 (15 + (ra S 157 ((3 * v1) + 2))))))) else Int64.toInt32 (f_202 (Int32.toInt64 (ra S 141 (3 + (ra S 157 (3 * v1))))) (Int32.toInt64 (ra S 141 (15 + (ra S 157 (3 * v1))))) (Int32.toInt64 (ra S 141 (3 + (ra S 157 ((3 * v1) + 1))))) (Int32.toInt64 (ra S 141 (15 + (ra S 157 ((3 * v1) + 1))))) (Int32.toInt64 (ra S 141 (3 + (ra S 157 ((3 * v1) + 2))))) (Int32.toInt64 (ra S 141 (15 + (ra S 157 ((3 * v1) + 2))))))) : Int32) = -(Int64.toInt32 (f_202 (Int32.toInt64 (ra S 141 (3 + (ra S 157 (3 * v1))))) (Int32.toInt64 (ra S 141 (15 + (ra S 157 (3 * v1))))) (Int32.toInt64 (ra S 141 (3 + (ra S 157 ((3 * v1) + 1))))) (Int32.toInt64 (ra S 141 (15 + (ra S 157 ((3 * v1) + 1))))) (Int32.toInt64 (ra S 141 (3 + (ra S 157 ((3 * v1) + 2))))) (Int32.toInt64 (ra S 141 (15 + (ra S 157 ((3 * v1) + 2))))))) := by simp [b2i, hc1]
    rw [e] at j1
    exact j1
  · refine go_run mm_254 1 (pc' := 124) (ls' := [some (.ref 140), some (.int v1), some (.int (ra S 157 (3 * v1))), some (.int (ra S 157 ((3 * v1) + 1))), some (.int (ra S 157 ((3 * v1) + 2))), some (.int (Int64.toInt32 (f_202 (Int32.toInt64 (ra S 141 (3 + (ra S 157 (3 * v1))))) (Int32.toInt64 (ra S 141 (15 + (ra S 157 (3 * v1))))) (Int32.toInt64 (ra S 141 (3 + (ra S 157 ((3 * v1) + 1))))) (Int32.toInt64 (ra S 141 (15 + (ra S 157 ((3 * v1) + 1))))) (Int32.toInt64 (ra S 141 (3 + (ra S 157 ((3 * v1) + 2))))) (Int32.toInt64 (ra S 141 (15 + (ra S 157 ((3 * v1) + 2))))))))]) (st' := [.int (Int64.toInt32 (f_202 (Int32.toInt64 (ra S 141 (3 + (ra S 157 (3 * v1))))) (Int32.toInt64 (ra S 141 (15 + (ra S 157 (3 * v1))))) (Int32.toInt64 (ra S 141 (3 + (ra S 157 ((3 * v1) + 1))))) (Int32.toInt64 (ra S 141 (15 + (ra S 157 ((3 * v1) + 1))))) (Int32.toInt64 (ra S 141 (3 + (ra S 157 ((3 * v1) + 2))))) (Int32.toInt64 (ra S 141 (15 + (ra S 157 ((3 * v1) + 2)))))))]) (S' := S) rfl ?_
    have e : ((if (Int64.toInt32 (f_202 (Int32.toInt64 (ra S 141 (3 + (ra S 157 (3 * v1))))) (Int32.toInt64 (ra S 141 (15 + (ra S 157 (3 * v1))))) (Int32.toInt64 (ra S 141 (3 + (ra S 157 ((3 * v1) + 1))))) (Int32.toInt64 (ra S 141 (15 + (ra S 157 ((3 * v1) + 1))))) (Int32.toInt64 (ra S 141 (3 + (ra S 157 ((3 * v1) + 2))))) (Int32.toInt64 (ra S 141 (15 + (ra S 157 ((3 * v1) + 2))))))) < 0 then -(Int64.toInt32 (f_202 (Int32.toInt64 (ra S 141 (3 + (ra S 157 (3 * v1))))) (Int32.toInt64 (ra S 141 (15 + (ra S 157 (3 * v1))))) (Int32.toInt64 (ra S 141 (3 + (ra S 157 ((3 * v1) + 1))))) (Int32.toInt64 (ra S 141 (15 + (ra S 157 ((3 * v1) + 1))))) (Int32.toInt64 (ra S 141 (3 + (ra S 157 ((3 * v1) + 2))))) (Int32.toInt64 (ra S 141 (15 + (ra S 157 ((3 * v1) + 2))))))) else Int64.toInt32 (f_202 (Int32.toInt64 (ra S 141 (3 + (ra S 157 (3 * v1))))) (Int32.toInt64 (ra S 141 (15 + (ra S 157 (3 * v1))))) (Int32.toInt64 (ra S 141 (3 + (ra S 157 ((3 * v1) + 1))))) (Int32.toInt64 (ra S 141 (15 + (ra S 157 ((3 * v1) + 1))))) (Int32.toInt64 (ra S 141 (3 + (ra S 157 ((3 * v1) + 2))))) (Int32.toInt64 (ra S 141 (15 + (ra S 157 ((3 * v1) + 2))))))) : Int32) = Int64.toInt32 (f_202 (Int32.toInt64 (ra S 141 (3 + (ra S 157 (3 * v1))))) (Int32.toInt64 (ra S 141 (15 + (ra S 157 (3 * v1))))) (Int32.toInt64 (ra S 141 (3 + (ra S 157 ((3 * v1) + 1))))) (Int32.toInt64 (ra S 141 (15 + (ra S 157 ((3 * v1) + 1))))) (Int32.toInt64 (ra S 141 (3 + (ra S 157 ((3 * v1) + 2))))) (Int32.toInt64 (ra S 141 (15 + (ra S 157 ((3 * v1) + 2)))))) := by simp [b2i, hc1]
    rw [e] at j1
    exact j1
theorem mm_255 : mtG 255 = some (mi_255, 12, ft_255) := rfl
set_option maxRecDepth 20000 in
theorem b_255_0 {d c : Nat} {R : RT} {S : ST} (e1 : Go XM (d + 5) 255 c 1 [some (.ref 140), none, none, none, none, none, none, none] [.ref 140] S R) : Go XM (d + 5) 255 c 0 [some (.ref 140), none, none, none, none, none, none, none] [] S R := by
  refine go_run mm_255 1 (pc' := 1) (ls' := [some (.ref 140), none, none, none, none, none, none, none]) (st' := [.ref 140]) (S' := S) rfl ?_
  exact e1
set_option maxRecDepth 20000 in
theorem b_255_4 {d c : Nat} {R : RT} {S : ST} (e1 : Go XM (d + 5) 255 c 6 [some (.ref 140), some (.int 0), none, none, none, none, none, none] [] S R) : Go XM (d + 5) 255 c 4 [some (.ref 140), none, none, none, none, none, none, none] [] S R := by
  refine go_run mm_255 2 (pc' := 6) (ls' := [some (.ref 140), some (.int 0), none, none, none, none, none, none]) (st' := []) (S' := S) rfl ?_
  exact e1
set_option maxRecDepth 20000 in
theorem b_255_6 {d c : Nat} {R : RT} {S : ST} {v1 : Int32} (o1 : v1 < (S.1 141 0) → inB v1 12) (e1 : v1 < (S.1 141 0) → Go XM (d + 5) 255 c 6 [some (.ref 140), some (.int (v1 + 1)), none, none, none, none, none, none] [] (wI S 158 (Int32.toNatClampNeg v1) (if v1 < 2 then v1 else (-1))) R) (e2 : ¬ v1 < (S.1 141 0) → Go XM (d + 5) 255 c 40 [some (.ref 140), some (.int 1), none, none, none, none, none, none] [] S R) : Go XM (d + 5) 255 c 6 [some (.ref 140), some (.int v1), none, none, none, none, none, none] [] S R := by
  refine go_run mm_255 4 (pc' := 12) (ls' := [some (.ref 140), some (.int v1), none, none, none, none, none, none]) (st' := [.int 0, .ref 141, .int v1]) (S' := S) rfl ?_
  refine go_iaload mm_255 (q := 0) rfl rfl rfl (inB_lit rfl) ?_
  refine go_if2 mm_255 rfl (p1 := 16) (p2 := 38) rfl (fun (hc1 : v1 < (S.1 141 0)) => ?_) (fun (hc1 : ¬ v1 < (S.1 141 0)) => ?_)
  · refine go_run mm_255 5 (pc' := 23) (ls' := [some (.ref 140), some (.int v1), none, none, none, none, none, none]) (st' := [.int 2, .int v1, .int v1, .ref 158]) (S' := S) rfl ?_
    have j1 : Go XM (d + 5) 255 c 31 [some (.ref 140), some (.int v1), none, none, none, none, none, none] [.int (if v1 < 2 then v1 else (-1)), .int v1, .ref 158] S R := by
      refine go_iastore mm_255 (q := (Int32.toNatClampNeg v1)) rfl rfl rfl (o1 hc1) ?_
      refine go_run mm_255 2 (pc' := 6) (ls' := [some (.ref 140), some (.int (v1 + 1)), none, none, none, none, none, none]) (st' := []) (S' := (wI S 158 (Int32.toNatClampNeg v1) (if v1 < 2 then v1 else (-1)))) rfl ?_
      exact e1 hc1
    refine go_if2 mm_255 rfl (p1 := 26) (p2 := 30) rfl (fun (hc2 : v1 < 2) => ?_) (fun (hc2 : ¬ v1 < 2) => ?_)
    · refine go_run mm_255 2 (pc' := 31) (ls' := [some (.ref 140), some (.int v1), none, none, none, none, none, none]) (st' := [.int v1, .int v1, .ref 158]) (S' := S) rfl ?_
      have e : ((if v1 < 2 then v1 else (-1)) : Int32) = v1 := by simp [b2i, hc2]
      rw [e] at j1
      exact j1
    · refine go_run mm_255 1 (pc' := 31) (ls' := [some (.ref 140), some (.int v1), none, none, none, none, none, none]) (st' := [.int (-1), .int v1, .ref 158]) (S' := S) rfl ?_
      have e : ((if v1 < 2 then v1 else (-1)) : Int32) = (-1) := by simp [b2i, hc2]
      rw [e] at j1
      exact j1
  · refine go_run mm_255 2 (pc' := 40) (ls' := [some (.ref 140), some (.int 1), none, none, none, none, none, none]) (st' := []) (S' := S) rfl ?_
    exact e2 hc1
set_option maxRecDepth 20000 in
theorem b_255_40 {d c : Nat} {R : RT} {S : ST} {v1 : Int32} (e1 : v1 = 0 → R c (.inr none) S) (e2 : ¬ v1 = 0 → Go XM (d + 5) 255 c 48 [some (.ref 140), some (.int 0), some (.int 0), none, none, none, none, none] [] S R) : Go XM (d + 5) 255 c 40 [some (.ref 140), some (.int v1), none, none, none, none, none, none] [] S R := by
  refine go_run mm_255 1 (pc' := 41) (ls' := [some (.ref 140), some (.int v1), none, none, none, none, none, none]) (st' := [.int v1]) (S' := S) rfl ?_
  refine go_if0 mm_255 rfl (p1 := 189) (p2 := 44) rfl (fun (hc1 : v1 = 0) => ?_) (fun (hc1 : ¬ v1 = 0) => ?_)
  · exact go_vreturn mm_255 rfl rfl (e1 hc1)
  · refine go_run mm_255 4 (pc' := 48) (ls' := [some (.ref 140), some (.int 0), some (.int 0), none, none, none, none, none]) (st' := []) (S' := S) rfl ?_
    exact e2 hc1
set_option maxRecDepth 20000 in
theorem b_255_48 {d c : Nat} {R : RT} {S : ST} {v1 : Int32} {v2 : Int32} (e1 : v2 < ((S.1 141 0) - 2) → Go XM (d + 5) 255 c 71 [some (.ref 140), some (.int v1), some (.int v2), some (.int (-1)), some (.int 0), some (.int 0), some (.int 0), none] [] S R) (e2 : ¬ v2 < ((S.1 141 0) - 2) → Go XM (d + 5) 255 c 40 [some (.ref 140), some (.int v1), some (.int v2), none, none, none, none, none] [] S R) : Go XM (d + 5) 255 c 48 [some (.ref 140), some (.int v1), some (.int v2), none, none, none, none, none] [] S R := by
  refine go_run mm_255 4 (pc' := 54) (ls' := [some (.ref 140), some (.int v1), some (.int v2), none, none, none, none, none]) (st' := [.int 0, .ref 141, .int v2]) (S' := S) rfl ?_
  refine go_iaload mm_255 (q := 0) rfl rfl rfl (inB_lit rfl) ?_
  refine go_run mm_255 2 (pc' := 57) (ls' := [some (.ref 140), some (.int v1), some (.int v2), none, none, none, none, none]) (st' := [.int ((S.1 141 0) - 2), .int v2]) (S' := S) rfl ?_
  refine go_if2 mm_255 rfl (p1 := 60) (p2 := 186) rfl (fun (hc1 : v2 < ((S.1 141 0) - 2)) => ?_) (fun (hc1 : ¬ v2 < ((S.1 141 0) - 2)) => ?_)
  · refine go_run mm_255 8 (pc' := 71) (ls' := [some (.ref 140), some (.int v1), some (.int v2), some (.int (-1)), some (.int 0), some (.int 0), some (.int 0), none]) (st' := []) (S' := S) rfl ?_
    exact e1 hc1
  · refine go_run mm_255 1 (pc' := 40) (ls' := [some (.ref 140), some (.int v1), some (.int v2), none, none, none, none, none]) (st' := []) (S' := S) rfl ?_
    exact e2 hc1
set_option maxRecDepth 20000 in
theorem b_255_71 {d c : Nat} {R : RT} {S : ST} {v1 : Int32} {v2 : Int32} {v3 : Int32} {v4 : Int32} {v5 : Int32} {v6 : Int32} (o1 : v6 < 3 → inB ((3 * v2) + v6) 30) (o2 : v6 < 3 → inB (ra S 157 ((3 * v2) + v6)) 12) (o3 : v6 < 3 → ¬ (ra S 158 (ra S 157 ((3 * v2) + v6))) = (-1) → inB (ra S 157 ((3 * v2) + v6)) 12) (o4 : ¬ v6 < 3 → v5 = 2 → inB v3 12) (e1 : v6 < 3 → Go XM (d + 5) 255 c 71 [some (.ref 140), some (.int v1), some (.int v2), some (.int (if (ra S 158 (ra S 157 ((3 * v2) + v6))) = (-1) then ra S 157 ((3 * v2) + v6) else v3)), some (.int (v4 + (if (ra S 158 (ra S 157 ((3 * v2) + v6))) = (-1) then 0 else ra S 158 (ra S 157 ((3 * v2) + v6))))), some (.int (v5 + (b2i (!(decide ((ra S 158 (ra S 157 ((3 * v2) + v6))) = (-1))))))), some (.int (v6 + 1)), some (.int (ra S 157 ((3 * v2) + v6)))] [] S R) (e2 : ¬ v6 < 3 → v5 = 2 → Go XM (d + 5) 255 c 48 [some (.ref 140), some (.int 1), some (.int (v2 + 1)), some (.int v3), some (.int v4), some (.int v5), some (.int v6), none] [] (wI S 158 (Int32.toNatClampNeg v3) (3 - v4)) R) (e3 : ¬ v6 < 3 → ¬ v5 = 2 → Go XM (d + 5) 255 c 48 [some (.ref 140), some (.int v1), some (.int (v2 + 1)), some (.int v3), some (.int v4), some (.int v5), some (.int v6), none] [] S R) : Go XM (d + 5) 255 c 71 [some (.ref 140), some (.int v1), some (.int v2), some (.int v3), some (.int v4), some (.int v5), some (.int v6), none] [] S R := by
  refine go_run mm_255 2 (pc' := 74) (ls' := [some (.ref 140), some (.int v1), some (.int v2), some (.int v3), some (.int v4), some (.int v5), some (.int v6), none]) (st' := [.int 3, .int v6]) (S' := S) rfl ?_
  refine go_if2 mm_255 rfl (p1 := 77) (p2 := 162) rfl (fun (hc1 : v6 < 3) => ?_) (fun (hc1 : ¬ v6 < 3) => ?_)
  · refine go_run mm_255 7 (pc' := 87) (ls' := [some (.ref 140), some (.int v1), some (.int v2), some (.int v3), some (.int v4), some (.int v5), some (.int v6), none]) (st' := [.int ((3 * v2) + v6), .ref 157]) (S' := S) rfl ?_
    refine go_iaload mm_255 (q := (Int32.toNatClampNeg ((3 * v2) + v6))) rfl rfl rfl (o1 hc1) ?_
    refine go_run mm_255 4 (pc' := 96) (ls' := [some (.ref 140), some (.int v1), some (.int v2), some (.int v3), some (.int v4), some (.int v5), some (.int v6), some (.int (ra S 157 ((3 * v2) + v6)))]) (st' := [.int (ra S 157 ((3 * v2) + v6)), .ref 158]) (S' := S) rfl ?_
    refine go_iaload mm_255 (q := (Int32.toNatClampNeg (ra S 157 ((3 * v2) + v6)))) rfl rfl rfl (o2 hc1) ?_
    refine go_run mm_255 1 (pc' := 98) (ls' := [some (.ref 140), some (.int v1), some (.int v2), some (.int v3), some (.int v4), some (.int v5), some (.int v6), some (.int (ra S 157 ((3 * v2) + v6)))]) (st' := [.int (-1), .int (ra S 158 (ra S 157 ((3 * v2) + v6)))]) (S' := S) rfl ?_
    have j3 : Go XM (d + 5) 255 c 107 [some (.ref 140), some (.int v1), some (.int v2), some (.int v3), some (.int v4), some (.int v5), some (.int v6), some (.int (ra S 157 ((3 * v2) + v6)))] [.int (if (ra S 158 (ra S 157 ((3 * v2) + v6))) = (-1) then ra S 157 ((3 * v2) + v6) else v3)] S R := by
      refine go_run mm_255 5 (pc' := 116) (ls' := [some (.ref 140), some (.int v1), some (.int v2), some (.int (if (ra S 158 (ra S 157 ((3 * v2) + v6))) = (-1) then ra S 157 ((3 * v2) + v6) else v3)), some (.int v4), some (.int v5), some (.int v6), some (.int (ra S 157 ((3 * v2) + v6)))]) (st' := [.int (ra S 157 ((3 * v2) + v6)), .ref 158, .int v5]) (S' := S) rfl ?_
      refine go_iaload mm_255 (q := (Int32.toNatClampNeg (ra S 157 ((3 * v2) + v6)))) rfl rfl rfl (o2 hc1) ?_
      refine go_run mm_255 1 (pc' := 118) (ls' := [some (.ref 140), some (.int v1), some (.int v2), some (.int (if (ra S 158 (ra S 157 ((3 * v2) + v6))) = (-1) then ra S 157 ((3 * v2) + v6) else v3)), some (.int v4), some (.int v5), some (.int v6), some (.int (ra S 157 ((3 * v2) + v6)))]) (st' := [.int (-1), .int (ra S 158 (ra S 157 ((3 * v2) + v6))), .int v5]) (S' := S) rfl ?_
      have j2 : Go XM (d + 5) 255 c 126 [some (.ref 140), some (.int v1), some (.int v2), some (.int (if (ra S 158 (ra S 157 ((3 * v2) + v6))) = (-1) then ra S 157 ((3 * v2) + v6) else v3)), some (.int v4), some (.int v5), some (.int v6), some (.int (ra S 157 ((3 * v2) + v6)))] [.int (b2i (!(decide ((ra S 158 (ra S 157 ((3 * v2) + v6))) = (-1))))), .int v5] S R := by
        refine go_run mm_255 6 (pc' := 137) (ls' := [some (.ref 140), some (.int v1), some (.int v2), some (.int (if (ra S 158 (ra S 157 ((3 * v2) + v6))) = (-1) then ra S 157 ((3 * v2) + v6) else v3)), some (.int v4), some (.int (v5 + (b2i (!(decide ((ra S 158 (ra S 157 ((3 * v2) + v6))) = (-1))))))), some (.int v6), some (.int (ra S 157 ((3 * v2) + v6)))]) (st' := [.int (ra S 157 ((3 * v2) + v6)), .ref 158, .int v4]) (S' := S) rfl ?_
        refine go_iaload mm_255 (q := (Int32.toNatClampNeg (ra S 157 ((3 * v2) + v6)))) rfl rfl rfl (o2 hc1) ?_
        refine go_run mm_255 1 (pc' := 139) (ls' := [some (.ref 140), some (.int v1), some (.int v2), some (.int (if (ra S 158 (ra S 157 ((3 * v2) + v6))) = (-1) then ra S 157 ((3 * v2) + v6) else v3)), some (.int v4), some (.int (v5 + (b2i (!(decide ((ra S 158 (ra S 157 ((3 * v2) + v6))) = (-1))))))), some (.int v6), some (.int (ra S 157 ((3 * v2) + v6)))]) (st' := [.int (-1), .int (ra S 158 (ra S 157 ((3 * v2) + v6))), .int v4]) (S' := S) rfl ?_
        have j1 : Go XM (d + 5) 255 c 153 [some (.ref 140), some (.int v1), some (.int v2), some (.int (if (ra S 158 (ra S 157 ((3 * v2) + v6))) = (-1) then ra S 157 ((3 * v2) + v6) else v3)), some (.int v4), some (.int (v5 + (b2i (!(decide ((ra S 158 (ra S 157 ((3 * v2) + v6))) = (-1))))))), some (.int v6), some (.int (ra S 157 ((3 * v2) + v6)))] [.int (if (ra S 158 (ra S 157 ((3 * v2) + v6))) = (-1) then 0 else ra S 158 (ra S 157 ((3 * v2) + v6))), .int v4] S R := by
          refine go_run mm_255 4 (pc' := 71) (ls' := [some (.ref 140), some (.int v1), some (.int v2), some (.int (if (ra S 158 (ra S 157 ((3 * v2) + v6))) = (-1) then ra S 157 ((3 * v2) + v6) else v3)), some (.int (v4 + (if (ra S 158 (ra S 157 ((3 * v2) + v6))) = (-1) then 0 else ra S 158 (ra S 157 ((3 * v2) + v6))))), some (.int (v5 + (b2i (!(decide ((ra S 158 (ra S 157 ((3 * v2) + v6))) = (-1))))))), some (.int (v6 + 1)), some (.int (ra S 157 ((3 * v2) + v6)))]) (st' := []) (S' := S) rfl ?_
          exact e1 hc1
        refine go_if2 mm_255 rfl (p1 := 142) (p2 := 146) rfl (fun (hc2 : (ra S 158 (ra S 157 ((3 * v2) + v6))) = (-1)) => ?_) (fun (hc2 : ¬ (ra S 158 (ra S 157 ((3 * v2) + v6))) = (-1)) => ?_)
        · refine go_run mm_255 2 (pc' := 153) (ls' := [some (.ref 140), some (.int v1), some (.int v2), some (.int (if (ra S 158 (ra S 157 ((3 * v2) + v6))) = (-1) then ra S 157 ((3 * v2) + v6) else v3)), some (.int v4), some (.int (v5 + (b2i (!(decide ((ra S 158 (ra S 157 ((3 * v2) + v6))) = (-1))))))), some (.int v6), some (.int (ra S 157 ((3 * v2) + v6)))]) (st' := [.int 0, .int v4]) (S' := S) rfl ?_
          have e : ((if (ra S 158 (ra S 157 ((3 * v2) + v6))) = (-1) then 0 else ra S 158 (ra S 157 ((3 * v2) + v6))) : Int32) = 0 := by simp [b2i, hc2]
          rw [e] at j1
          exact j1
        · refine go_run mm_255 3 (pc' := 152) (ls' := [some (.ref 140), some (.int v1), some (.int v2), some (.int (if (ra S 158 (ra S 157 ((3 * v2) + v6))) = (-1) then ra S 157 ((3 * v2) + v6) else v3)), some (.int v4), some (.int (v5 + (b2i (!(decide ((ra S 158 (ra S 157 ((3 * v2) + v6))) = (-1))))))), some (.int v6), some (.int (ra S 157 ((3 * v2) + v6)))]) (st' := [.int (ra S 157 ((3 * v2) + v6)), .ref 158, .int v4]) (S' := S) rfl ?_
          refine go_iaload mm_255 (q := (Int32.toNatClampNeg (ra S 157 ((3 * v2) + v6)))) rfl rfl rfl (o3 hc1 hc2) ?_
          have e : ((if (ra S 158 (ra S 157 ((3 * v2) + v6))) = (-1) then 0 else ra S 158 (ra S 157 ((3 * v2) + v6))) : Int32) = ra S 158 (ra S 157 ((3 * v2) + v6)) := by simp [b2i, hc2]
          rw [e] at j1
          exact j1
      refine go_if2 mm_255 rfl (p1 := 121) (p2 := 125) rfl (fun (hc2 : (ra S 158 (ra S 157 ((3 * v2) + v6))) = (-1)) => ?_) (fun (hc2 : ¬ (ra S 158 (ra S 157 ((3 * v2) + v6))) = (-1)) => ?_)
      · refine go_run mm_255 2 (pc' := 126) (ls' := [some (.ref 140), some (.int v1), some (.int v2), some (.int (if (ra S 158 (ra S 157 ((3 * v2) + v6))) = (-1) then ra S 157 ((3 * v2) + v6) else v3)), some (.int v4), some (.int v5), some (.int v6), some (.int (ra S 157 ((3 * v2) + v6)))]) (st' := [.int 0, .int v5]) (S' := S) rfl ?_
        have e : ((b2i (!(decide ((ra S 158 (ra S 157 ((3 * v2) + v6))) = (-1))))) : Int32) = 0 := by simp [b2i, hc2]
        rw [e] at j2
        exact j2
      · refine go_run mm_255 1 (pc' := 126) (ls' := [some (.ref 140), some (.int v1), some (.int v2), some (.int (if (ra S 158 (ra S 157 ((3 * v2) + v6))) = (-1) then ra S 157 ((3 * v2) + v6) else v3)), some (.int v4), some (.int v5), some (.int v6), some (.int (ra S 157 ((3 * v2) + v6)))]) (st' := [.int 1, .int v5]) (S' := S) rfl ?_
        have e : ((b2i (!(decide ((ra S 158 (ra S 157 ((3 * v2) + v6))) = (-1))))) : Int32) = 1 := by simp [b2i, hc2]
        rw [e] at j2
        exact j2
    refine go_if2 mm_255 rfl (p1 := 101) (p2 := 106) rfl (fun (hc2 : (ra S 158 (ra S 157 ((3 * v2) + v6))) = (-1)) => ?_) (fun (hc2 : ¬ (ra S 158 (ra S 157 ((3 * v2) + v6))) = (-1)) => ?_)
    · refine go_run mm_255 2 (pc' := 107) (ls' := [some (.ref 140), some (.int v1), some (.int v2), some (.int v3), some (.int v4), some (.int v5), some (.int v6), some (.int (ra S 157 ((3 * v2) + v6)))]) (st' := [.int (ra S 157 ((3 * v2) + v6))]) (S' := S) rfl ?_
      have e : ((if (ra S 158 (ra S 157 ((3 * v2) + v6))) = (-1) then ra S 157 ((3 * v2) + v6) else v3) : Int32) = ra S 157 ((3 * v2) + v6) := by simp [b2i, hc2]
      rw [e] at j3
      exact j3
    · refine go_run mm_255 1 (pc' := 107) (ls' := [some (.ref 140), some (.int v1), some (.int v2), some (.int v3), some (.int v4), some (.int v5), some (.int v6), some (.int (ra S 157 ((3 * v2) + v6)))]) (st' := [.int v3]) (S' := S) rfl ?_
      have e : ((if (ra S 158 (ra S 157 ((3 * v2) + v6))) = (-1) then ra S 157 ((3 * v2) + v6) else v3) : Int32) = v3 := by simp [b2i, hc2]
      rw [e] at j3
      exact j3
  · refine go_run mm_255 2 (pc' := 165) (ls' := [some (.ref 140), some (.int v1), some (.int v2), some (.int v3), some (.int v4), some (.int v5), some (.int v6), none]) (st' := [.int 2, .int v5]) (S' := S) rfl ?_
    refine go_if2 mm_255 rfl (p1 := 168) (p2 := 180) rfl (fun (hc2 : v5 = 2) => ?_) (fun (hc2 : ¬ v5 = 2) => ?_)
    · refine go_run mm_255 6 (pc' := 177) (ls' := [some (.ref 140), some (.int v1), some (.int v2), some (.int v3), some (.int v4), some (.int v5), some (.int v6), none]) (st' := [.int (3 - v4), .int v3, .ref 158]) (S' := S) rfl ?_
      refine go_iastore mm_255 (q := (Int32.toNatClampNeg v3)) rfl rfl rfl (o4 hc1 hc2) ?_
      refine go_run mm_255 4 (pc' := 48) (ls' := [some (.ref 140), some (.int 1), some (.int (v2 + 1)), some (.int v3), some (.int v4), some (.int v5), some (.int v6), none]) (st' := []) (S' := (wI S 158 (Int32.toNatClampNeg v3) (3 - v4))) rfl ?_
      exact e2 hc1 hc2
    · refine go_run mm_255 2 (pc' := 48) (ls' := [some (.ref 140), some (.int v1), some (.int (v2 + 1)), some (.int v3), some (.int v4), some (.int v5), some (.int v6), none]) (st' := []) (S' := S) rfl ?_
      exact e3 hc1 hc2
theorem mm_256 : mtG 256 = some (mi_256, 12, ft_256) := rfl
theorem b_256_0 {d c : Nat} {R : RT} {S : ST} {v1 : Int32} (e1 : (nb S v1 (S.1 141 0 - 1)) = true → R c (.inr (some (.int 0))) (wI S 140 0 (tb S v1 (S.1 141 0 - 1)))) (e2 : (nb S v1 (S.1 141 0 - 1)) = false → Go XM (d + 6) 256 c 11 [some (.ref 140), some (.int v1)] [.ref 140] (wI S 140 0 (tb S v1 (S.1 141 0 - 1))) R) : Go XM (d + 6) 256 c 0 [some (.ref 140), some (.int v1)] [] S R := by
  refine go_run mm_256 2 (pc' := 2) (ls' := [some (.ref 140), some (.int v1)]) (st' := [.int v1, .ref 140]) (S' := S) rfl ?_
  refine go_cv mm_256 (h := 140) (As := [.int v1]) (rest := []) (nl := 2) rfl XM_140 (show cvOK 256 2 251 225 1 2 11 = true by decide +kernel) rfl rfl rfl (sq_225) (KP_V ?_)
  refine go_ifb mm_256 rfl (p1 := 8) (p2 := 10) rfl (fun (hc1 : (nb S v1 (S.1 141 0 - 1)) = true) => ?_) (fun (hc1 : (nb S v1 (S.1 141 0 - 1)) = false) => ?_)
  · refine go_run mm_256 1 (pc' := 9) (ls' := [some (.ref 140), some (.int v1)]) (st' := [.int 0]) (S' := (wI S 140 0 (tb S v1 (S.1 141 0 - 1)))) rfl ?_
    exact go_ireturn mm_256 rfl rfl (e1 hc1)
  · refine go_run mm_256 1 (pc' := 11) (ls' := [some (.ref 140), some (.int v1)]) (st' := [.ref 140]) (S' := (wI S 140 0 (tb S v1 (S.1 141 0 - 1)))) rfl ?_
    exact e2 hc1
theorem b_256_14 {d c : Nat} {R : RT} {S : ST} {v1 : Int32} (o1 : inB v1 12) (e1 : R c (.inr (some (.int (ra S 158 v1)))) S) : Go XM (d + 6) 256 c 14 [some (.ref 140), some (.int v1)] [] S R := by
  refine go_run mm_256 3 (pc' := 19) (ls' := [some (.ref 140), some (.int v1)]) (st' := [.int v1, .ref 158]) (S' := S) rfl ?_
  refine go_iaload mm_256 (q := (Int32.toNatClampNeg v1)) rfl rfl rfl (o1) ?_
  exact go_ireturn mm_256 rfl rfl (e1)
theorem mm_257 : mtG 257 = some (mi_257, 12, ft_257) := rfl
theorem b_257_0 {d c : Nat} {R : RT} {S : ST} {v1 : Int32} (e1 : Go XM d 257 c 4 [some (.ref 140), some (.int v1), some (.int 0), some (.int 0)] [] S R) : Go XM d 257 c 0 [some (.ref 140), some (.int v1), none, none] [] S R := by
  refine go_run mm_257 4 (pc' := 4) (ls' := [some (.ref 140), some (.int v1), some (.int 0), some (.int 0)]) (st' := []) (S' := S) rfl ?_
  exact e1
theorem b_257_4 {d c : Nat} {R : RT} {S : ST} {v1 : Int32} {v2 : Int32} {v3 : Int32} (o1 : v3 < (S.1 141 0) → inB v3 12) (e1 : v3 < (S.1 141 0) → Go XM d 257 c 4 [some (.ref 140), some (.int v1), some (.int (v2 ||| (if (ra S 158 v3) = v1 then 1 <<< (v3 &&& 31) else 0))), some (.int (v3 + 1))] [] S R) (e2 : ¬ v3 < (S.1 141 0) → R c (.inr (some (.int v2))) S) : Go XM d 257 c 4 [some (.ref 140), some (.int v1), some (.int v2), some (.int v3)] [] S R := by
  refine go_run mm_257 4 (pc' := 10) (ls' := [some (.ref 140), some (.int v1), some (.int v2), some (.int v3)]) (st' := [.int 0, .ref 141, .int v3]) (S' := S) rfl ?_
  refine go_iaload mm_257 (q := 0) rfl rfl rfl (inB_lit rfl) ?_
  refine go_if2 mm_257 rfl (p1 := 14) (p2 := 40) rfl (fun (hc1 : v3 < (S.1 141 0)) => ?_) (fun (hc1 : ¬ v3 < (S.1 141 0)) => ?_)
  · refine go_run mm_257 4 (pc' := 20) (ls' := [some (.ref 140), some (.int v1), some (.int v2), some (.int v3)]) (st' := [.int v3, .ref 158, .int v2]) (S' := S) rfl ?_
    refine go_iaload mm_257 (q := (Int32.toNatClampNeg v3)) rfl rfl rfl (o1 hc1) ?_
    refine go_run mm_257 1 (pc' := 22) (ls' := [some (.ref 140), some (.int v1), some (.int v2), some (.int v3)]) (st' := [.int v1, .int (ra S 158 v3), .int v2]) (S' := S) rfl ?_
    have j1 : Go XM d 257 c 32 [some (.ref 140), some (.int v1), some (.int v2), some (.int v3)] [.int (if (ra S 158 v3) = v1 then 1 <<< (v3 &&& 31) else 0), .int v2] S R := by
      refine go_run mm_257 4 (pc' := 4) (ls' := [some (.ref 140), some (.int v1), some (.int (v2 ||| (if (ra S 158 v3) = v1 then 1 <<< (v3 &&& 31) else 0))), some (.int (v3 + 1))]) (st' := []) (S' := S) rfl ?_
      exact e1 hc1
    refine go_if2 mm_257 rfl (p1 := 25) (p2 := 31) rfl (fun (hc2 : (ra S 158 v3) = v1) => ?_) (fun (hc2 : ¬ (ra S 158 v3) = v1) => ?_)
    · refine go_run mm_257 4 (pc' := 32) (ls' := [some (.ref 140), some (.int v1), some (.int v2), some (.int v3)]) (st' := [.int (1 <<< (v3 &&& 31)), .int v2]) (S' := S) rfl ?_
      have e : ((if (ra S 158 v3) = v1 then 1 <<< (v3 &&& 31) else 0) : Int32) = 1 <<< (v3 &&& 31) := by simp [b2i, hc2]
      rw [e] at j1
      exact j1
    · refine go_run mm_257 1 (pc' := 32) (ls' := [some (.ref 140), some (.int v1), some (.int v2), some (.int v3)]) (st' := [.int 0, .int v2]) (S' := S) rfl ?_
      have e : ((if (ra S 158 v3) = v1 then 1 <<< (v3 &&& 31) else 0) : Int32) = 0 := by simp [b2i, hc2]
      rw [e] at j1
      exact j1
  · refine go_run mm_257 1 (pc' := 41) (ls' := [some (.ref 140), some (.int v1), some (.int v2), some (.int v3)]) (st' := [.int v2]) (S' := S) rfl ?_
    exact go_ireturn mm_257 rfl rfl (e2 hc1)
/-- the triangles are laid, and can be coloured -/
def Tr (S S' : ST) (v : Option Value) : Prop := v = none ∧ Fm [156, 157] [] S S' ∧ ∃ col : Nat → Nat, (∀ v, col v < 3) ∧ col 0 = 0 ∧ col 1 = 1 ∧ ∀ u, u < rN S 141 - 2 → ∃ x y z, S'.1 157 (3 * u) = nJ x ∧ S'.1 157 (3 * u + 1) = nJ y ∧ S'.1 157 (3 * u + 2) = nJ z ∧ (x < rN S 141 ∧ y < rN S 141 ∧ z < rN S 141) ∧ col x ≠ col y ∧ col y ≠ col z ∧ col z ≠ col x
section Tri
variable {d : Nat} {S : ST}
theorem sq_251 (g : GR S 141) : Cal XM (d + 4) 251 [.ref 140] S (RP (fun v S' => Tr S S' v)) := by
  have hW := g.1
  have h12 := g.1.2
  have h3 := g.2.1
  refine cal_go 4 rfl (b_251_0 ?_)
  rw [hW.1]
  have hA : 0 < sgA S * ge_ar (rL S 141) := by
    obtain ⟨g1, g2, g3⟩ := GR_simple g
    obtain ⟨σ, -, hs, -⟩ := ge_orient g2 g1
    have : ge_ar (rL S 141) ≠ 0 := fun q => by rw [q, Int.mul_zero] at hs; omega
    unfold sgA
    split <;> omega
  have key : ∀ m i S1, i + m = rN S 141 → Fm [156, 157] [] S S1 → (∀ j, j < i → S1.1 156 j = nJ j) → Go XM (d + 4) 251 0 9 [some (.ref 140), some (.int (nJ (rN S 141))), some (.int (nJ i)), none, none] [] S1 (RP (fun v S' => Tr S S' v)) := by
    intro m
    induction m with
    | zero =>
      intro i S1 hi hF hr
      have hn : ¬ nJ i < nJ (rN S 141) := by rw [nJ_lt (by omega) (by omega)]; omega
      refine b_251_9 (fun q => absurd q hn) (fun q => absurd q hn) (fun _ => ?_)
      have e1 := hF.row (a := 141) (by decide) (by decide)
      have hRg : Rg S1 (rN S 141) (fun o => o) := fun o ho => ⟨hr o (by omega), by rw [rN_row e1]; exact ho⟩
      have := tri_go (d := d) g (rN S 141) h3 (Nat.le_refl _) (fun o => o) S1 hF hRg (GR_simple g).1 hA
      rw [Nat.sub_self] at this
      refine Go.im this ?_
      rintro c o S' ⟨rfl, v, rfl, rfl, hF2, -, col, h3', hp, htr⟩
      have h01 : col 0 ≠ col 1 := by
        have := hp 0 (by omega)
        rw [Nat.mod_eq_of_lt (by omega)] at this
        exact this
      have inj : ∀ {x y}, col x ≠ col y → (if col x = col 0 then 0 else if col x = col 1 then 1 else 2 : Nat) ≠ (if col y = col 0 then 0 else if col y = col 1 then 1 else 2) := by
        intro x y hxy
        have a := h3' x
        have b := h3' y
        have c := h3' 0
        have e := h3' 1
        split <;> split <;> (try split) <;> (try split) <;> omega
      refine ⟨rfl, _, rfl, rfl, hF.tr hF2, fun v => if col v = col 0 then 0 else if col v = col 1 then 1 else 2, fun v => ?_, ?_, ?_, fun u hu => ?_⟩
      · show (if col v = col 0 then 0 else if col v = col 1 then 1 else 2) < 3
        split
        · omega
        · split <;> omega
      · show (if col 0 = col 0 then 0 else _) = 0
        rw [if_pos rfl]
      · show (if col 1 = col 0 then 0 else if col 1 = col 1 then 1 else 2) = 1
        rw [if_neg (fun q => h01 q.symm), if_pos rfl]
      · obtain ⟨x, y, z, a1, a2, a3, ⟨o1, p1, rfl⟩, ⟨o2, p2, rfl⟩, ⟨o3, p3, rfl⟩, d1, d2, d3⟩ := htr u (by omega) hu
        exact ⟨_, _, _, a1, a2, a3, ⟨p1, p2, p3⟩, inj d1, inj d2, inj d3⟩
    | succ m ih =>
      intro i S1 hi hF hr
      have hlt : nJ i < nJ (rN S 141) := by rw [nJ_lt (by omega) (by omega)]; omega
      refine b_251_9 (fun _ => nJ_inB (by omega) (by omega)) (fun _ => ?_) (fun q => absurd hlt q)
      rw [nJ_succ, nJ_ix (by omega)]
      refine ih (i + 1) _ (by omega) (hF.tr (Fm_a (by decide))) (fun j hj => ?_)
      by_cases q : j = i
      · subst q; simp [wI_1]
      · rw [wI_1, if_neg (fun z => q z.2)]
        exact hr j (by omega)
  exact key (rN S 141) 0 S (by omega) Fm.rf (fun j hj => by omega)
theorem Tr_q (M : MOK S) {S' : ST} {v : Option Value} (h : Tr S S' v) : Qq S S' := Qq_0 M h.2.1 (by decide) (by decide) (by decide) (by decide) (by decide) (by decide)
theorem tri_ix (h : Ld S) {v : Int32} (h0 : 0 ≤ v.toInt) (h1 : v.toInt ≤ (S.1 141 0 - 3).toInt) : ∃ t, v = nJ t ∧ t < rN S 141 - 2 := by
  have h12 := h.1.1.2
  have h3 := h.1.2.1
  rw [h.1.1.1] at h1
  obtain ⟨i, a, b⟩ := ix_of (c := 3) (by omega) (by omega) (by omega) h0 h1
  exact ⟨i, a, by omega⟩
theorem ix3 {t k : Nat} (ht : t < 10) (hk : k < 3) : (3 * nJ t) + nJ k = nJ (3 * t + k) := by
  show (nJ 3 * nJ t) + nJ k = _
  rw [nJ_mul, nJ_add]
theorem q_253 (M : MOK S) {v1 v2 : Int32} : Cal XM (d + 5) 253 [.ref 140, .int v1, .int v2] S (RQi S) := by
  refine cal_go 0 rfl (b_253_0 (fun _ => Qi_t M) (fun _ _ => Qi_q (Qq_tt M _ _)) (fun h1 h2 => ?_))
  obtain ⟨a1, a2, a3⟩ := nb_f h1
  have qt := Qq_tt M (tb S v1 (S.1 141 0 - 3)) (rf (tb S v1 (S.1 141 0 - 3)) (!(f_182 v2 0 2)) 3)
  obtain ⟨b1, b2⟩ := in_f (rf_f h2 (by decide))
  have b2 : v2.toInt ≤ 2 := b2
  obtain ⟨t, rfl, ht⟩ := tri_ix (M.2.1 a1).1 a2 a3
  have h12 := (M.2.1 a1).1.1.1.2
  have hQ : Qp _ := ⟨qt.1, a1⟩
  refine go_cv mm_253 (h := 140) (As := []) (rest := []) (nl := 5) rfl XM_140 (show cvOK 253 33 304 251 0 5 11 = true by decide +kernel) rfl rfl rfl (sq_251 hQ.ld.1.1) (KP_P (fun v S1 k1 => ?_))
  have q1 := Tr_q qt.1 k1
  obtain ⟨rfl, -⟩ := k1
  refine b_253_36 ?_ (Qi_q (qt.tr q1))
  have e2 : v2 = nJ v2.toNatClampNeg := nJ_of b1
  have l2 : v2.toNatClampNeg < 3 := by show v2.toInt.toNat < 3; omega
  rw [e2, ix3 (by omega) l2]
  exact nJ_inB (by omega) (by omega)
theorem q_254 (M : MOK S) {v1 : Int32} : Cal XM (d + 5) 254 [.ref 140, .int v1] S (RQi S) := by
  refine cal_go 4 rfl (b_254_0 (fun _ => Qi_t M) (fun h1 => ?_))
  obtain ⟨a1, a2, a3⟩ := nb_f h1
  have qt := Qq_t M (tb S v1 (S.1 141 0 - 3))
  obtain ⟨t, rfl, ht⟩ := tri_ix (M.2.1 a1).1 a2 a3
  have h12 := (M.2.1 a1).1.1.1.2
  have hQ : Qp _ := ⟨qt.1, a1⟩
  refine go_cv mm_254 (h := 140) (As := []) (rest := []) (nl := 5) rfl XM_140 (show cvOK 254 11 304 251 0 5 11 = true by decide +kernel) rfl rfl rfl (sq_251 hQ.ld.1.1) (KP_P (fun v S1 k1 => ?_))
  have q1 := Tr_q qt.1 k1
  obtain ⟨rfl, hF, col, -, -, -, htr⟩ := k1
  obtain ⟨x, y, z, x1, y1, z1, ⟨bx, by', bz'⟩, -⟩ := htr t ht
  have bx : x < rN S 141 := bx
  have by' : y < rN S 141 := by'
  have bz' : z < rN S 141 := bz'
  have i0 : (3 * nJ t : Int32) = nJ (3 * t) := by show nJ 3 * nJ t = _; rw [nJ_mul]
  have i1 : (3 * nJ t) + 1 = nJ (3 * t + 1) := ix3 (k := 1) (by omega) (by omega)
  have i2 : (3 * nJ t) + 2 = nJ (3 * t + 2) := ix3 (k := 2) (by omega) (by omega)
  refine b_254_14 ?_ ?_ ?_ ?_ ?_ ?_ ?_ ?_ ?_ (Qi_q (qt.tr q1))
  · rw [i0]; exact nJ_inB (by omega) (by omega)
  · rw [i1]; exact nJ_inB (by omega) (by omega)
  · rw [i2]; exact nJ_inB (by omega) (by omega)
  · rw [i0, ra_n S1 157 (by omega), x1]; exact inB_add (a := 3) (by omega) (by omega)
  · rw [i0, ra_n S1 157 (by omega), x1]; exact inB_add (a := 15) (by omega) (by omega)
  · rw [i1, ra_n S1 157 (by omega), y1]; exact inB_add (a := 3) (by omega) (by omega)
  · rw [i1, ra_n S1 157 (by omega), y1]; exact inB_add (a := 15) (by omega) (by omega)
  · rw [i2, ra_n S1 157 (by omega), z1]; exact inB_add (a := 3) (by omega) (by omega)
  · rw [i2, ra_n S1 157 (by omega), z1]; exact inB_add (a := 15) (by omega) (by omega)
theorem nJ_m1 {c : Nat} (hc : c < 2147483648) : ¬ nJ c = -1 := by
  intro q
  have := congrArg Int32.toInt q
  rw [nJ_toInt hc] at this
  have : (c : Int) = -1 := this
  omega
/-- no colour yet -/
def unc (S : ST) (v : Nat) : Bool := decide (S.1 158 v = -1)
/-- while the colours are laid -/
def CJ (col : Nat → Nat) (S S1 S' : ST) : Prop := Fm [158] [] S1 S' ∧ ∀ v, v < rN S 141 → S'.1 158 v = nJ (col v) ∨ S'.1 158 v = -1
theorem col_pass (hW : RW S 141) (h3 : 3 ≤ rN S 141) {S1 : ST} (e1 : S1.1 141 = S.1 141) {col : Nat → Nat} (hc3 : ∀ v, col v < 3) (htr : ∀ u, u < rN S 141 - 2 → ∃ x y z, S1.1 157 (3 * u) = nJ x ∧ S1.1 157 (3 * u + 1) = nJ y ∧ S1.1 157 (3 * u + 2) = nJ z ∧ (x < rN S 141 ∧ y < rN S 141 ∧ z < rN S 141) ∧ col x ≠ col y ∧ col y ≠ col z ∧ col z ≠ col x) {R : RT} {N : Nat} (back : ∀ b S2, CJ col S S1 S2 → (b = 0 ∨ (b = 1 ∧ rk (unc S2) (rN S 141) < N)) → Go XM (d + 5) 255 0 40 [some (.ref 140), some (.int b), none, none, none, none, none, none] [] S2 R) : ∀ m t b S2, t + m = rN S 141 - 2 → CJ col S S1 S2 → rk (unc S2) (rN S 141) ≤ N → (b = 0 ∨ (b = 1 ∧ rk (unc S2) (rN S 141) < N)) → Go XM (d + 5) 255 0 48 [some (.ref 140), some (.int b), some (.int (nJ t)), none, none, none, none, none] [] S2 R := by
  have h12 := hW.2
  have hsub : nJ (rN S 141) - 2 = nJ (rN S 141 - 2) := nJ_sub (j := 2) (by omega)
  intro m
  induction m with
  | zero =>
    intro t b S2 ht hJ hle hb
    have e2 : S2.1 141 = S.1 141 := (hJ.1.row (by decide) (by decide)).trans e1
    have hn : ¬ nJ t < S2.1 141 0 - 2 := by rw [e2, hW.1, hsub, nJ_lt (by omega) (by omega)]; omega
    refine b_255_48 (fun q => absurd q hn) (fun _ => ?_)
    exact Go.le (back b S2 hJ hb) (by repeat first | exact True.intro | refine And.intro rfl ?_)
  | succ m ih =>
    intro t b S2 ht hJ hle hb
    have e2 : S2.1 141 = S.1 141 := (hJ.1.row (by decide) (by decide)).trans e1
    have hlt : nJ t < S2.1 141 0 - 2 := by rw [e2, hW.1, hsub, nJ_lt (by omega) (by omega)]; omega
    refine b_255_48 (fun _ => ?_) (fun q => absurd hlt q)
    obtain ⟨x, y, z, x1, y1, z1, ⟨bx, by', bz'⟩, d1, d2, d3⟩ := htr t (by omega)
    have e7 := hJ.1.row (a := 157) (by decide) (by decide)
    have i0 : ra S2 157 ((3 * nJ t) + 0) = nJ x := by
      rw [show (3 * nJ t) + 0 = nJ (3 * t + 0) from ix3 (k := 0) (by omega) (by omega), ra_n S2 157 (by omega), e7]; exact x1
    have i1 : ra S2 157 ((3 * nJ t) + (0 + 1)) = nJ y := by
      rw [show (3 * nJ t) + (0 + 1) = nJ (3 * t + 1) from ix3 (k := 1) (by omega) (by omega), ra_n S2 157 (by omega), e7, y1]
    have i2 : ra S2 157 ((3 * nJ t) + (0 + 1 + 1)) = nJ z := by
      rw [show (3 * nJ t) + (0 + 1 + 1) = nJ (3 * t + 2) from ix3 (k := 2) (by omega) (by omega), ra_n S2 157 (by omega), e7, z1]
    have b0 : inB ((3 * nJ t) + 0) 30 := by rw [show (3 * nJ t) + 0 = nJ (3 * t + 0) from ix3 (k := 0) (by omega) (by omega)]; exact nJ_inB (by omega) (by omega)
    have b1 : inB ((3 * nJ t) + (0 + 1)) 30 := by rw [show (3 * nJ t) + (0 + 1) = nJ (3 * t + 1) from ix3 (k := 1) (by omega) (by omega)]; exact nJ_inB (by omega) (by omega)
    have b2 : inB ((3 * nJ t) + (0 + 1 + 1)) 30 := by rw [show (3 * nJ t) + (0 + 1 + 1) = nJ (3 * t + 2) from ix3 (k := 2) (by omega) (by omega)]; exact nJ_inB (by omega) (by omega)
    have ib : ∀ {w}, w < rN S 141 → inB (nJ w) 12 := fun h => nJ_inB (by omega) (by omega)
    refine b_255_71 (fun _ => b0) (fun _ => by rw [i0]; exact ib bx) (fun _ _ => by rw [i0]; exact ib bx) (fun q => absurd (by decide) q) (fun _ => ?_) (fun q => absurd (by decide) q) (fun q => absurd (by decide) q)
    refine Go.le (ls' := [some (.ref 140), some (.int b), some (.int (nJ t)), some (.int (if (ra S2 158 (ra S2 157 ((3 * nJ t) + 0))) = (-1) then ra S2 157 ((3 * nJ t) + 0) else (-1))), some (.int (0 + (if (ra S2 158 (ra S2 157 ((3 * nJ t) + 0))) = (-1) then 0 else ra S2 158 (ra S2 157 ((3 * nJ t) + 0))))), some (.int (0 + (b2i (!(decide ((ra S2 158 (ra S2 157 ((3 * nJ t) + 0))) = (-1))))))), some (.int (0 + 1)), none]) ?_ (by repeat first | exact True.intro | refine And.intro rfl ?_)
    refine b_255_71 (fun _ => b1) (fun _ => by rw [i1]; exact ib by') (fun _ _ => by rw [i1]; exact ib by') (fun q => absurd (by decide) q) (fun _ => ?_) (fun q => absurd (by decide) q) (fun q => absurd (by decide) q)
    rw [i0, i1]
    refine Go.le (ls' := [some (.ref 140), some (.int b), some (.int (nJ t)), some (.int (if (ra S2 158 (nJ y)) = (-1) then nJ y else (if (ra S2 158 (nJ x)) = (-1) then nJ x else (-1)))), some (.int ((0 + (if (ra S2 158 (nJ x)) = (-1) then 0 else ra S2 158 (nJ x))) + (if (ra S2 158 (nJ y)) = (-1) then 0 else ra S2 158 (nJ y)))), some (.int ((0 + (b2i (!(decide ((ra S2 158 (nJ x)) = (-1)))))) + (b2i (!(decide ((ra S2 158 (nJ y)) = (-1))))))), some (.int (0 + 1 + 1)), none]) ?_ (by repeat first | exact True.intro | refine And.intro rfl ?_)
    refine b_255_71 (fun _ => b2) (fun _ => by rw [i2]; exact ib bz') (fun _ _ => by rw [i2]; exact ib bz') (fun q => absurd (by decide) q) (fun _ => ?_) (fun q => absurd (by decide) q) (fun q => absurd (by decide) q)
    rw [i2]
    refine Go.le (ls' := [some (.ref 140), some (.int b), some (.int (nJ t)), some (.int (if (ra S2 158 (nJ z)) = (-1) then nJ z else (if (ra S2 158 (nJ y)) = (-1) then nJ y else (if (ra S2 158 (nJ x)) = (-1) then nJ x else (-1))))), some (.int (((0 + (if (ra S2 158 (nJ x)) = (-1) then 0 else ra S2 158 (nJ x))) + (if (ra S2 158 (nJ y)) = (-1) then 0 else ra S2 158 (nJ y))) + (if (ra S2 158 (nJ z)) = (-1) then 0 else ra S2 158 (nJ z)))), some (.int (((0 + (b2i (!(decide ((ra S2 158 (nJ x)) = (-1)))))) + (b2i (!(decide ((ra S2 158 (nJ y)) = (-1)))))) + (b2i (!(decide ((ra S2 158 (nJ z)) = (-1))))))), some (.int (0 + 1 + 1 + 1)), none]) ?_ (by repeat first | exact True.intro | refine And.intro rfl ?_)
    rw [ra_n S2 158 (by omega), ra_n S2 158 (by omega), ra_n S2 158 (by omega)]
    -- on with the next triangle
    have stay : ∀ {v3 v4 v5 v6 : Int32}, Go XM (d + 5) 255 0 48 [some (.ref 140), some (.int b), some (.int (nJ t + 1)), some (.int v3), some (.int v4), some (.int v5), some (.int v6), none] [] S2 R := by
      intro v3 v4 v5 v6
      rw [nJ_succ]
      exact Go.le (ih (t + 1) b S2 (by omega) hJ hle hb) (by repeat first | exact True.intro | refine And.intro rfl ?_)
    have fill : ∀ {w : Nat} {v4 v5 v6 : Int32}, w < rN S 141 → S2.1 158 w = -1 → 3 - v4 = nJ (col w) → Go XM (d + 5) 255 0 48 [some (.ref 140), some (.int 1), some (.int (nJ t + 1)), some (.int (nJ w)), some (.int v4), some (.int v5), some (.int v6), none] [] (wI S2 158 (Int32.toNatClampNeg (nJ w)) (3 - v4)) R := by
      intro w v4 v5 v6 hw hu hv
      rw [nJ_succ, nJ_ix (by omega), hv]
      have hlt : rk (unc (wI S2 158 w (nJ (col w)))) (rN S 141) < rk (unc S2) (rN S 141) := by
        refine rk_up1 (fun i _ hi => ?_) ⟨w, hw, by unfold unc; rw [hu]; rfl, ?_⟩
        · by_cases q : i = w
          · subst q; unfold unc; rw [hu]; rfl
          · unfold unc at hi ⊢
            rw [wI_1, if_neg (fun z => q z.2)] at hi
            exact hi
        · unfold unc
          rw [wI_1, if_pos ⟨rfl, rfl⟩, decide_eq_false (nJ_m1 (by have := hc3 w; omega))]
      refine Go.le (ih (t + 1) 1 _ (by omega) ⟨hJ.1.tr (Fm_a (by decide)), fun v hv' => ?_⟩ (by omega) (Or.inr ⟨rfl, by omega⟩)) (by repeat first | exact True.intro | refine And.intro rfl ?_)
      by_cases q : v = w
      · subst q; rw [wI_1, if_pos ⟨rfl, rfl⟩]; exact Or.inl rfl
      · rw [wI_1, if_neg (fun z => q z.2)]; exact hJ.2 v hv'
    have n31 : ¬ (0 + 1 + 1 + 1 : Int32) < 3 := by decide
    have cx := hc3 x
    have cy := hc3 y
    have cz := hc3 z
    have N0 : ∀ {c : Nat}, c < 3 → ¬ nJ c = -1 := fun h => nJ_m1 (by omega)
    have sum2 : ∀ {a e f : Nat}, a < 3 → e < 3 → f < 3 → a ≠ e → e ≠ f → f ≠ a → (3 : Int32) - (nJ a + nJ e) = nJ f := by
      intro a e f h1 h2 h3 h4 h5 h6
      rw [nJ_add]
      rw [show (3 : Int32) - nJ (a + e) = nJ (3 - (a + e)) from nJ_sub (i := 3) (by omega)]
      congr 1
      omega
    have z1 : ∀ a : Int32, 0 + a = a := fun a => Int32.zero_add a
    have z2 : ∀ a : Int32, a + 0 = a := fun a => Int32.add_zero a
    rcases hJ.2 x bx with hx | hx <;> rcases hJ.2 y by' with hy | hy <;> rcases hJ.2 z bz' with hz | hz <;> rw [hx, hy, hz]
    · -- all told
      refine b_255_71 (fun q => absurd q n31) (fun q => absurd q n31) (fun q => absurd q n31) (fun _ q => ?_) (fun q => absurd q n31) (fun _ q => ?_) (fun _ _ => stay)
      · exfalso; rw [decide_eq_false (N0 cx), decide_eq_false (N0 cy), decide_eq_false (N0 cz)] at q; revert q; decide
      · exfalso; rw [decide_eq_false (N0 cx), decide_eq_false (N0 cy), decide_eq_false (N0 cz)] at q; revert q; decide
    · rw [if_pos rfl, if_neg (N0 cx), if_neg (N0 cy), if_pos rfl]
      refine b_255_71 (fun q => absurd q n31) (fun q => absurd q n31) (fun q => absurd q n31) (fun _ q => ib bz') (fun q => absurd q n31) (fun _ q => fill bz' hz ?_) (fun _ _ => stay)
      rw [z1, z2]; exact sum2 cx cy cz d1 d2 d3
    · rw [if_neg (N0 cz), if_pos rfl, if_neg (N0 cx), if_pos rfl, if_neg (N0 cz)]
      refine b_255_71 (fun q => absurd q n31) (fun q => absurd q n31) (fun q => absurd q n31) (fun _ q => ib by') (fun q => absurd q n31) (fun _ q => fill by' hy ?_) (fun _ _ => stay)
      rw [z1, z2]; exact sum2 cx cz cy (fun q => d3 q.symm) (fun q => d2 q.symm) (fun q => d1 q.symm)
    · refine b_255_71 (fun q => absurd q n31) (fun q => absurd q n31) (fun q => absurd q n31) (fun _ q => ?_) (fun q => absurd q n31) (fun _ q => ?_) (fun _ _ => stay)
      · exfalso; rw [decide_eq_false (N0 cx)] at q; revert q; decide
      · exfalso; rw [decide_eq_false (N0 cx)] at q; revert q; decide
    · rw [if_neg (N0 cz), if_neg (N0 cy), if_pos rfl, if_pos rfl, if_neg (N0 cy), if_neg (N0 cz)]
      refine b_255_71 (fun q => absurd q n31) (fun q => absurd q n31) (fun q => absurd q n31) (fun _ q => ib bx) (fun q => absurd q n31) (fun _ q => fill bx hx ?_) (fun _ _ => stay)
      rw [z1, z1]; exact sum2 cy cz cx d2 d3 d1
    · refine b_255_71 (fun q => absurd q n31) (fun q => absurd q n31) (fun q => absurd q n31) (fun _ q => ?_) (fun q => absurd q n31) (fun _ q => ?_) (fun _ _ => stay)
      · exfalso; rw [decide_eq_false (N0 cy)] at q; revert q; decide
      · exfalso; rw [decide_eq_false (N0 cy)] at q; revert q; decide
    · refine b_255_71 (fun q => absurd q n31) (fun q => absurd q n31) (fun q => absurd q n31) (fun _ q => ?_) (fun q => absurd q n31) (fun _ q => ?_) (fun _ _ => stay)
      · exfalso; rw [decide_eq_false (N0 cz)] at q; revert q; decide
      · exfalso; rw [decide_eq_false (N0 cz)] at q; revert q; decide
    · refine b_255_71 (fun q => absurd q n31) (fun q => absurd q n31) (fun q => absurd q n31) (fun _ q => ?_) (fun q => absurd q n31) (fun _ q => ?_) (fun _ _ => stay)
      · exfalso; revert q; decide
      · exfalso; revert q; decide
theorem sq_255 (h : Qp S) : Cal XM (d + 5) 255 [.ref 140] S (RP (fun v S' => v = none ∧ Qq S S')) := by
  refine cal_go 7 rfl (b_255_0 ?_)
  have g := h.ld.1.1
  have hW := g.1
  have h12 := hW.2
  have h3 := g.2.1
  refine go_cv mm_255 (h := 140) (As := []) (rest := []) (nl := 5) rfl XM_140 (show cvOK 255 1 304 251 0 5 11 = true by decide +kernel) rfl rfl rfl (sq_251 g) (KP_P (fun v S1 k1 => ?_))
  have q1 := Tr_q h.1 k1
  obtain ⟨rfl, hF, col, hc3, hc0, hc1, htr⟩ := k1
  have e1 := hF.row (a := 141) (by decide) (by decide)
  refine b_255_4 ?_
  have fin : ∀ {S2}, Fm [158] [] S1 S2 → Qq S S2 := fun hF2 => q1.tr (Qq_0 q1.1 hF2 (by decide) (by decide) (by decide) (by decide) (by decide) (by decide))
  have loop : ∀ N b S2, CJ col S S1 S2 → rk (unc S2) (rN S 141) ≤ N → Go XM (d + 5) 255 0 40 [some (.ref 140), some (.int b), none, none, none, none, none, none] [] S2 (RP (fun v S' => v = none ∧ Qq S S')) := by
    intro N
    induction N with
    | zero =>
      intro b S2 hJ hN
      refine b_255_40 (fun _ => ⟨rfl, _, rfl, rfl, fin hJ.1⟩) (fun _ => ?_)
      refine col_pass hW h3 e1 hc3 htr (N := 0) (fun b' S3 hJ3 hb3 => ?_) (rN S 141 - 2) 0 0 S2 (by omega) hJ hN (Or.inl rfl)
      rcases hb3 with rfl | ⟨-, hb3⟩
      · exact b_255_40 (fun _ => ⟨rfl, _, rfl, rfl, fin hJ3.1⟩) (fun q => absurd rfl q)
      · omega
    | succ N ih =>
      intro b S2 hJ hN
      refine b_255_40 (fun _ => ⟨rfl, _, rfl, rfl, fin hJ.1⟩) (fun _ => ?_)
      refine col_pass hW h3 e1 hc3 htr (N := N + 1) (fun b' S3 hJ3 hb3 => ?_) (rN S 141 - 2) 0 0 S2 (by omega) hJ hN (Or.inl rfl)
      rcases hb3 with rfl | ⟨-, hb3⟩
      · exact b_255_40 (fun _ => ⟨rfl, _, rfl, rfl, fin hJ3.1⟩) (fun q => absurd rfl q)
      · exact ih b' S3 hJ3 (by omega)
  have init : ∀ m i S2, i + m = rN S 141 → Fm [158] [] S1 S2 → (∀ v, v < i → S2.1 158 v = nJ (col v) ∨ S2.1 158 v = -1) → Go XM (d + 5) 255 0 6 [some (.ref 140), some (.int (nJ i)), none, none, none, none, none, none] [] S2 (RP (fun v S' => v = none ∧ Qq S S')) := by
    intro m
    induction m with
    | zero =>
      intro i S2 hi hF2 hv
      have e2 : S2.1 141 = S.1 141 := (hF2.row (by decide) (by decide)).trans e1
      have hn : ¬ nJ i < S2.1 141 0 := by rw [e2, hW.1, nJ_lt (by omega) (by omega)]; omega
      refine b_255_6 (fun q => absurd q hn) (fun q => absurd q hn) (fun _ => ?_)
      exact loop (rk (unc S2) (rN S 141)) 1 S2 ⟨hF2, fun v hv' => hv v (by omega)⟩ (Nat.le_refl _)
    | succ m ih =>
      intro i S2 hi hF2 hv
      have e2 : S2.1 141 = S.1 141 := (hF2.row (by decide) (by decide)).trans e1
      have hlt : nJ i < S2.1 141 0 := by rw [e2, hW.1, nJ_lt (by omega) (by omega)]; omega
      refine b_255_6 (fun _ => nJ_inB (by omega) (by omega)) (fun _ => ?_) (fun q => absurd hlt q)
      rw [nJ_succ, nJ_ix (by omega)]
      refine ih (i + 1) _ (by omega) (hF2.tr (Fm_a (by decide))) (fun v hv' => ?_)
      by_cases q : v = i
      · subst q
        rw [wI_1, if_pos ⟨rfl, rfl⟩]
        by_cases q2 : v < 2
        · rw [if_pos (show nJ v < 2 from (nJ_lt (j := 2) (by omega) (by omega)).mpr q2)]
          have : v = 0 ∨ v = 1 := by omega
          rcases this with rfl | rfl
          · rw [hc0]; exact Or.inl rfl
          · rw [hc1]; exact Or.inl rfl
        · rw [if_neg (show ¬ nJ v < 2 from fun z => q2 ((nJ_lt (j := 2) (by omega) (by omega)).mp z))]
          exact Or.inr rfl
      · rw [wI_1, if_neg (fun z => q z.2)]
        exact hv v (by omega)
  exact init (rN S 141) 0 S1 (by omega) Fm.rf (fun v hv => by omega)
theorem q_256 (M : MOK S) {v1 : Int32} : Cal XM (d + 6) 256 [.ref 140, .int v1] S (RQi S) := by
  refine cal_go 0 rfl (b_256_0 (fun _ => Qi_t M) (fun h1 => ?_))
  obtain ⟨a1, a2, a3⟩ := nb_f h1
  have qt := Qq_t M (tb S v1 (S.1 141 0 - 1))
  obtain ⟨hW, i, rfl, hi⟩ := vx_ix (M.2.1 a1).1 a2 a3
  have h12 := hW.2
  refine go_cv mm_256 (h := 140) (As := []) (rest := []) (nl := 8) rfl XM_140 (show cvOK 256 11 307 255 0 8 11 = true by decide +kernel) rfl rfl rfl (sq_255 ⟨qt.1, a1⟩) (KP_P (fun v S1 k1 => ?_))
  obtain ⟨rfl, q1⟩ := k1
  exact b_256_14 (nJ_inB (by omega) (by omega)) (Qi_q (qt.tr q1))
def f_257 (S : ST) (v1 : Int32) : Int32 := fr (fun i a => a ||| (if (ra S 158 (nJ i)) = v1 then 1 <<< (nJ i &&& 31) else 0)) 0 (rN S 141) 0
theorem sq_257 {v1 : Int32} (hW : RW S 141) : Cal XM d 257 [.ref 140, .int v1] S (RV (some (.int (f_257 S v1))) S) := by
  refine cal_go 2 rfl (b_257_0 ?_)
  have h12 := hW.2
  refine fr_loop (f := fun i a => a ||| (if (ra S 158 (nJ i)) = v1 then 1 <<< (nJ i &&& 31) else 0)) (n := rN S 141) (J := fun _ _ => True) (H := fun i a => Go XM d 257 0 4 [some (.ref 140), some (.int v1), some (.int a), some (.int (nJ i))] [] S (RV (some (.int (f_257 S v1))) S)) (fun i a hi _ => ⟨trivial, fun hn => ?_⟩) (rN S 141) 0 0 (by omega) trivial (fun _ => ?_)
  · have hlt : nJ i < S.1 141 0 := by rw [hW.1, nJ_lt (by omega) (by omega)]; exact hi
    refine b_257_4 (fun _ => nJ_inB (by omega) (by omega)) (fun _ => ?_) (fun q => absurd hlt q)
    rw [nJ_succ]
    exact hn
  · have hn : ¬ nJ (rN S 141) < S.1 141 0 := by rw [hW.1, nJ_lt (by omega) (by omega)]; omega
    exact b_257_4 (fun q => absurd q hn) (fun q => absurd q hn) (fun _ => ⟨rfl, rfl, rfl⟩)
end Tri
theorem mm_258 : mtG 258 = some (mi_258, 12, ft_258) := rfl
theorem b_258_0 {d c : Nat} {R : RT} {S : ST} (e1 : (decide (S.1 140 1 = 0)) = true → R c (.inr (some (.int 0))) (wI S 140 0 (tz (decide (S.1 140 1 = 0)) 1))) (e2 : (decide (S.1 140 1 = 0)) = false → Go XM (d + 6) 258 c 10 [some (.ref 140), none, none] [.ref 140] (wI S 140 0 (tz (decide (S.1 140 1 = 0)) 1)) R) : Go XM (d + 6) 258 c 0 [some (.ref 140), none, none] [] S R := by
  refine go_run mm_258 1 (pc' := 1) (ls' := [some (.ref 140), none, none]) (st' := [.ref 140]) (S' := S) rfl ?_
  refine go_cv mm_258 (h := 140) (As := []) (rest := []) (nl := 1) rfl XM_140 (show cvOK 258 1 247 184 0 1 11 = true by decide +kernel) rfl rfl rfl (sq_184) (KP_V ?_)
  refine go_ifb mm_258 rfl (p1 := 7) (p2 := 9) rfl (fun (hc1 : (decide (S.1 140 1 = 0)) = true) => ?_) (fun (hc1 : (decide (S.1 140 1 = 0)) = false) => ?_)
  · refine go_run mm_258 1 (pc' := 8) (ls' := [some (.ref 140), none, none]) (st' := [.int 0]) (S' := (wI S 140 0 (tz (decide (S.1 140 1 = 0)) 1))) rfl ?_
    exact go_ireturn mm_258 rfl rfl (e1 hc1)
  · refine go_run mm_258 1 (pc' := 10) (ls' := [some (.ref 140), none, none]) (st' := [.ref 140]) (S' := (wI S 140 0 (tz (decide (S.1 140 1 = 0)) 1))) rfl ?_
    exact e2 hc1
theorem b_258_13 {d c : Nat} {R : RT} {S : ST} (o1 : RW S 141) (e1 : Go XM (d + 6) 258 c 21 [some (.ref 140), some (.int (f_257 S 0)), some (.int 1)] [] S R) : Go XM (d + 6) 258 c 13 [some (.ref 140), none, none] [] S R := by
  refine go_run mm_258 2 (pc' := 15) (ls' := [some (.ref 140), none, none]) (st' := [.int 0, .ref 140]) (S' := S) rfl ?_
  refine go_cv mm_258 (h := 140) (As := [.int 0]) (rest := []) (nl := 4) rfl XM_140 (show cvOK 258 15 310 257 1 4 11 = true by decide +kernel) rfl rfl rfl (sq_257 (o1)) (KP_V ?_)
  refine go_run mm_258 3 (pc' := 21) (ls' := [some (.ref 140), some (.int (f_257 S 0)), some (.int 1)]) (st' := []) (S' := S) rfl ?_
  exact e1
theorem b_258_21 {d c : Nat} {R : RT} {S : ST} {v1 : Int32} {v2 : Int32} (o1 : v2 < 3 → RW S 141) (o2 : v2 < 3 → (f_218 (Int32.toInt64 (f_257 S v2))) < (f_218 (Int32.toInt64 v1)) → RW S 141) (e1 : v2 < 3 → Go XM (d + 6) 258 c 21 [some (.ref 140), some (.int (if (f_218 (Int32.toInt64 (f_257 S v2))) < (f_218 (Int32.toInt64 v1)) then f_257 S v2 else v1)), some (.int (v2 + 1))] [] S R) (e2 : ¬ v2 < 3 → R c (.inr (some (.int v1))) S) : Go XM (d + 6) 258 c 21 [some (.ref 140), some (.int v1), some (.int v2)] [] S R := by
  refine go_run mm_258 2 (pc' := 23) (ls' := [some (.ref 140), some (.int v1), some (.int v2)]) (st' := [.int 3, .int v2]) (S' := S) rfl ?_
  refine go_if2 mm_258 rfl (p1 := 26) (p2 := 59) rfl (fun (hc1 : v2 < 3) => ?_) (fun (hc1 : ¬ v2 < 3) => ?_)
  · refine go_run mm_258 2 (pc' := 28) (ls' := [some (.ref 140), some (.int v1), some (.int v2)]) (st' := [.int v2, .ref 140]) (S' := S) rfl ?_
    refine go_cv mm_258 (h := 140) (As := [.int v2]) (rest := []) (nl := 4) rfl XM_140 (show cvOK 258 28 310 257 1 4 11 = true by decide +kernel) rfl rfl rfl (sq_257 (o1 hc1)) (KP_V ?_)
    refine go_run mm_258 1 (pc' := 32) (ls' := [some (.ref 140), some (.int v1), some (.int v2)]) (st' := [.long (Int32.toInt64 (f_257 S v2))]) (S' := S) rfl ?_
    refine go_cs mm_258 (av := [.long (Int32.toInt64 (f_257 S v2))]) (rest := []) (nl := 5) rfl (show csOK 258 32 313 218 1 5 = true by decide +kernel) rfl rfl rfl (sq_218) (KP_V ?_)
    refine go_run mm_258 2 (pc' := 37) (ls' := [some (.ref 140), some (.int v1), some (.int v2)]) (st' := [.long (Int32.toInt64 v1), .int (f_218 (Int32.toInt64 (f_257 S v2)))]) (S' := S) rfl ?_
    refine go_cs mm_258 (av := [.long (Int32.toInt64 v1)]) (rest := [.int (f_218 (Int32.toInt64 (f_257 S v2)))]) (nl := 5) rfl (show csOK 258 37 313 218 1 5 = true by decide +kernel) rfl rfl rfl (sq_218) (KP_V ?_)
    have j1 : Go XM (d + 6) 258 c 52 [some (.ref 140), some (.int v1), some (.int v2)] [.int (if (f_218 (Int32.toInt64 (f_257 S v2))) < (f_218 (Int32.toInt64 v1)) then f_257 S v2 else v1)] S R := by
      refine go_run mm_258 3 (pc' := 21) (ls' := [some (.ref 140), some (.int (if (f_218 (Int32.toInt64 (f_257 S v2))) < (f_218 (Int32.toInt64 v1)) then f_257 S v2 else v1)), some (.int (v2 + 1))]) (st' := []) (S' := S) rfl ?_
      exact e1 hc1
    refine go_if2 mm_258 rfl (p1 := 43) (p2 := 51) rfl (fun (hc2 : (f_218 (Int32.toInt64 (f_257 S v2))) < (f_218 (Int32.toInt64 v1))) => ?_) (fun (hc2 : ¬ (f_218 (Int32.toInt64 (f_257 S v2))) < (f_218 (Int32.toInt64 v1))) => ?_)
    · refine go_run mm_258 2 (pc' := 45) (ls' := [some (.ref 140), some (.int v1), some (.int v2)]) (st' := [.int v2, .ref 140]) (S' := S) rfl ?_
      refine go_cv mm_258 (h := 140) (As := [.int v2]) (rest := []) (nl := 4) rfl XM_140 (show cvOK 258 45 310 257 1 4 11 = true by decide +kernel) rfl rfl rfl (sq_257 (o2 hc1 hc2)) (KP_V ?_)
      refine go_run mm_258 1 (pc' := 52) (ls' := [some (.ref 140), some (.int v1), some (.int v2)]) (st' := [.int (f_257 S v2)]) (S' := S) rfl ?_
      have e : ((if (f_218 (Int32.toInt64 (f_257 S v2))) < (f_218 (Int32.toInt64 v1)) then f_257 S v2 else v1) : Int32) = f_257 S v2 := by simp [b2i, hc2]
      rw [e] at j1
      exact j1
    · refine go_run mm_258 1 (pc' := 52) (ls' := [some (.ref 140), some (.int v1), some (.int v2)]) (st' := [.int v1]) (S' := S) rfl ?_
      have e : ((if (f_218 (Int32.toInt64 (f_257 S v2))) < (f_218 (Int32.toInt64 v1)) then f_257 S v2 else v1) : Int32) = v1 := by simp [b2i, hc2]
      rw [e] at j1
      exact j1
  · refine go_run mm_258 1 (pc' := 60) (ls' := [some (.ref 140), some (.int v1), some (.int v2)]) (st' := [.int v1]) (S' := S) rfl ?_
    exact go_ireturn mm_258 rfl rfl (e2 hc1)
theorem q_258 {d : Nat} {S : ST} (M : MOK S) : Cal XM (d + 6) 258 [.ref 140] S (RQi S) := by
  refine cal_go 2 rfl (b_258_0 (fun _ => Qi_t M) (fun h1 => ?_))
  have a1 := np_f h1
  have qt := Qq_t M (tz (decide (S.1 140 1 = 0)) 1)
  have hQ : Qp (wI S 140 0 (tz (decide (S.1 140 1 = 0)) 1)) := ⟨qt.1, a1⟩
  refine go_cv mm_258 (h := 140) (As := []) (rest := []) (nl := 8) rfl XM_140 (show cvOK 258 10 307 255 0 8 11 = true by decide +kernel) rfl rfl rfl (sq_255 hQ) (KP_P (fun v S1 k1 => ?_))
  obtain ⟨rfl, q1⟩ := k1
  have hW := (Qp.ld (Qp_q hQ q1)).1.1.1
  refine b_258_13 hW ?_
  have st : ∀ m i a, i + m = 3 → Go XM (d + 6) 258 0 21 [some (.ref 140), some (.int a), some (.int (nJ i))] [] S1 (RQi S) := by
    intro m
    induction m with
    | zero =>
      intro i a hi
      have : i = 3 := by omega
      subst this
      exact b_258_21 (fun q => absurd q (by decide)) (fun q => absurd q (by decide)) (fun q => absurd q (by decide)) (fun _ => Qi_q (qt.tr q1))
    | succ m ih =>
      intro i a hi
      refine b_258_21 (fun _ => hW) (fun _ _ => hW) (fun _ => ?_) (fun q => absurd ((nJ_lt (j := 3) (by omega) (by omega)).mpr (by omega)) q)
      rw [nJ_succ]
      exact ih (i + 1) _ (by omega)
  exact st 2 1 _ (by omega)
