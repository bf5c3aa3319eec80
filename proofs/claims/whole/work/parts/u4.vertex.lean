theorem mm_307 : mtG 307 = some (mi_307, 12, ft_307) := rfl
theorem b_307_0 {d c : Nat} {R : RT} {S : ST} {v1 : Int32} {v2 : Int32} {v3 : Int32} (e1 : (nb S v1 (S.1 141 0 - 1)) = true → R c (.inr (some (.int 0))) (wI S 140 0 (tb S v1 (S.1 141 0 - 1)))) (e2 : (nb S v1 (S.1 141 0 - 1)) = false → (!(decide (rf (tb S v1 (S.1 141 0 - 1)) (f_306 v2 v3) 3 = 0))) = true → R c (.inr (some (.int 0))) (wI (wI S 140 0 (tb S v1 (S.1 141 0 - 1))) 140 0 (rf (tb S v1 (S.1 141 0 - 1)) (f_306 v2 v3) 3))) (e3 : (nb S v1 (S.1 141 0 - 1)) = false → (!(decide (rf (tb S v1 (S.1 141 0 - 1)) (f_306 v2 v3) 3 = 0))) = false → Go XM (d + 8) 307 c 25 [some (.ref 140), some (.int v1), some (.int v2), some (.int v3)] [.ref 140] (wI (wI S 140 0 (tb S v1 (S.1 141 0 - 1))) 140 0 (rf (tb S v1 (S.1 141 0 - 1)) (f_306 v2 v3) 3)) R) : Go XM (d + 8) 307 c 0 [some (.ref 140), some (.int v1), some (.int v2), some (.int v3)] [] S R := by
  refine go_run mm_307 2 (pc' := 2) (ls' := [some (.ref 140), some (.int v1), some (.int v2), some (.int v3)]) (st' := [.int v1, .ref 140]) (S' := S) rfl ?_
  refine go_cv mm_307 (h := 140) (As := [.int v1]) (rest := []) (nl := 2) rfl XM_140 (show cvOK 307 2 251 225 1 2 11 = true by decide +kernel) rfl rfl rfl (sq_225) (KP_V ?_)
  refine go_ifb mm_307 rfl (p1 := 22) (p2 := 8) rfl (fun (hc1 : (nb S v1 (S.1 141 0 - 1)) = true) => ?_) (fun (hc1 : (nb S v1 (S.1 141 0 - 1)) = false) => ?_)
  · refine go_run mm_307 1 (pc' := 23) (ls' := [some (.ref 140), some (.int v1), some (.int v2), some (.int v3)]) (st' := [.int 0]) (S' := (wI S 140 0 (tb S v1 (S.1 141 0 - 1)))) rfl ?_
    exact go_ireturn mm_307 rfl rfl (e1 hc1)
  · refine go_run mm_307 4 (pc' := 12) (ls' := [some (.ref 140), some (.int v1), some (.int v2), some (.int v3)]) (st' := [.int v3, .int v2, .ref 140, .ref 140]) (S' := (wI S 140 0 (tb S v1 (S.1 141 0 - 1)))) rfl ?_
    refine go_cv mm_307 (h := 140) (As := [.int v2, .int v3]) (rest := [.ref 140]) (nl := 3) rfl XM_140 (show cvOK 307 12 388 306 2 3 11 = true by decide +kernel) rfl rfl rfl (sp_306) (KP_V ?_)
    refine go_run mm_307 1 (pc' := 16) (ls' := [some (.ref 140), some (.int v1), some (.int v2), some (.int v3)]) (st' := [.int 3, .int (b2i (f_306 v2 v3)), .ref 140]) (S' := (wI S 140 0 (tb S v1 (S.1 141 0 - 1)))) rfl ?_
    refine go_cv mm_307 (h := 140) (As := [.int (b2i (f_306 v2 v3)), .int 3]) (rest := []) (nl := 3) rfl XM_140 (show cvOK 307 16 86 183 2 3 11 = true by decide +kernel) rfl rfl rfl (sq_183) (KP_V ?_)
    refine go_ifb mm_307 rfl (p1 := 22) (p2 := 24) rfl (fun (hc2 : (!(decide (rf (tb S v1 (S.1 141 0 - 1)) (f_306 v2 v3) 3 = 0))) = true) => ?_) (fun (hc2 : (!(decide (rf (tb S v1 (S.1 141 0 - 1)) (f_306 v2 v3) 3 = 0))) = false) => ?_)
    · refine go_run mm_307 1 (pc' := 23) (ls' := [some (.ref 140), some (.int v1), some (.int v2), some (.int v3)]) (st' := [.int 0]) (S' := (wI (wI S 140 0 (tb S v1 (S.1 141 0 - 1))) 140 0 (rf (tb S v1 (S.1 141 0 - 1)) (f_306 v2 v3) 3))) rfl ?_
      exact go_ireturn mm_307 rfl rfl (e2 hc1 hc2)
    · refine go_run mm_307 1 (pc' := 25) (ls' := [some (.ref 140), some (.int v1), some (.int v2), some (.int v3)]) (st' := [.ref 140]) (S' := (wI (wI S 140 0 (tb S v1 (S.1 141 0 - 1))) 140 0 (rf (tb S v1 (S.1 141 0 - 1)) (f_306 v2 v3) 3))) rfl ?_
      exact e3 hc1 hc2
theorem b_307_28 {d c : Nat} {R : RT} {S : ST} {v1 : Int32} {v2 : Int32} {v3 : Int32} (o1 : inB (3 + v1) 63) (o2 : inB (15 + v1) 63) (e1 : Go XM (d + 8) 307 c 48 [some (.ref 140), some (.int v1), some (.int v2), some (.int v3)] [.ref 140] (wI (wI S 146 (Int32.toNatClampNeg (3 + v1)) v2) 146 (Int32.toNatClampNeg (15 + v1)) v3) R) : Go XM (d + 8) 307 c 28 [some (.ref 140), some (.int v1), some (.int v2), some (.int v3)] [] S R := by
  refine go_run mm_307 6 (pc' := 36) (ls' := [some (.ref 140), some (.int v1), some (.int v2), some (.int v3)]) (st' := [.int v2, .int (3 + v1), .ref 146]) (S' := S) rfl ?_
  refine go_iastore mm_307 (q := (Int32.toNatClampNeg (3 + v1))) rfl rfl rfl (o1) ?_
  refine go_run mm_307 6 (pc' := 46) (ls' := [some (.ref 140), some (.int v1), some (.int v2), some (.int v3)]) (st' := [.int v3, .int (15 + v1), .ref 146]) (S' := (wI S 146 (Int32.toNatClampNeg (3 + v1)) v2)) rfl ?_
  refine go_iastore mm_307 (q := (Int32.toNatClampNeg (15 + v1))) rfl rfl rfl (o2) ?_
  refine go_run mm_307 1 (pc' := 48) (ls' := [some (.ref 140), some (.int v1), some (.int v2), some (.int v3)]) (st' := [.ref 140]) (S' := (wI (wI S 146 (Int32.toNatClampNeg (3 + v1)) v2) 146 (Int32.toNatClampNeg (15 + v1)) v3)) rfl ?_
  exact e1
theorem b_307_51 {d c : Nat} {R : RT} {S : ST} {v1 : Int32} {v2 : Int32} {v3 : Int32} {w0 : Int32} (e1 : R c (.inr (some (.int w0))) S) : Go XM (d + 8) 307 c 51 [some (.ref 140), some (.int v1), some (.int v2), some (.int v3)] [.int w0] S R := by
  exact go_ireturn mm_307 rfl rfl (e1)
theorem mm_308 : mtG 308 = some (mi_308, 12, ft_308) := rfl
set_option maxRecDepth 20000 in
theorem b_308_0 {d c : Nat} {R : RT} {S : ST} {v1 : Int32} {v2 : Int32} {v3 : Int32} (e1 : (nb S v1 (S.1 141 0 - 1)) = true → R c (.inr (some (.int 0))) (wI S 140 0 (tb S v1 (S.1 141 0 - 1)))) (e2 : (nb S v1 (S.1 141 0 - 1)) = false → (!(decide (rf (tb S v1 (S.1 141 0 - 1)) ((f_306 v2 v3) || (decide ((S.1 141 0) = 12))) 3 = 0))) = true → R c (.inr (some (.int 0))) (wI (wI S 140 0 (tb S v1 (S.1 141 0 - 1))) 140 0 (rf (tb S v1 (S.1 141 0 - 1)) ((f_306 v2 v3) || (decide ((S.1 141 0) = 12))) 3))) (e3 : (nb S v1 (S.1 141 0 - 1)) = false → (!(decide (rf (tb S v1 (S.1 141 0 - 1)) ((f_306 v2 v3) || (decide ((S.1 141 0) = 12))) 3 = 0))) = false → Go XM (d + 8) 308 c 44 [some (.ref 140), some (.int v1), some (.int v2), some (.int v3), none] [.ref 140] (wI (wI S 140 0 (tb S v1 (S.1 141 0 - 1))) 140 0 (rf (tb S v1 (S.1 141 0 - 1)) ((f_306 v2 v3) || (decide ((S.1 141 0) = 12))) 3)) R) : Go XM (d + 8) 308 c 0 [some (.ref 140), some (.int v1), some (.int v2), some (.int v3), none] [] S R := by
  refine go_run mm_308 2 (pc' := 2) (ls' := [some (.ref 140), some (.int v1), some (.int v2), some (.int v3), none]) (st' := [.int v1, .ref 140]) (S' := S) rfl ?_
  refine go_cv mm_308 (h := 140) (As := [.int v1]) (rest := []) (nl := 2) rfl XM_140 (show cvOK 308 2 251 225 1 2 11 = true by decide +kernel) rfl rfl rfl (sq_225) (KP_V ?_)
  refine go_ifb mm_308 rfl (p1 := 41) (p2 := 8) rfl (fun (hc1 : (nb S v1 (S.1 141 0 - 1)) = true) => ?_) (fun (hc1 : (nb S v1 (S.1 141 0 - 1)) = false) => ?_)
  · refine go_run mm_308 1 (pc' := 42) (ls' := [some (.ref 140), some (.int v1), some (.int v2), some (.int v3), none]) (st' := [.int 0]) (S' := (wI S 140 0 (tb S v1 (S.1 141 0 - 1)))) rfl ?_
    exact go_ireturn mm_308 rfl rfl (e1 hc1)
  · refine go_run mm_308 4 (pc' := 12) (ls' := [some (.ref 140), some (.int v1), some (.int v2), some (.int v3), none]) (st' := [.int v3, .int v2, .ref 140, .ref 140]) (S' := (wI S 140 0 (tb S v1 (S.1 141 0 - 1)))) rfl ?_
    refine go_cv mm_308 (h := 140) (As := [.int v2, .int v3]) (rest := [.ref 140]) (nl := 3) rfl XM_140 (show cvOK 308 12 388 306 2 3 11 = true by decide +kernel) rfl rfl rfl (sp_306) (KP_V ?_)
    have j2 : Go XM (d + 8) 308 c 34 [some (.ref 140), some (.int v1), some (.int v2), some (.int v3), none] [.int (b2i ((f_306 v2 v3) || (decide ((S.1 141 0) = 12)))), .ref 140] (wI S 140 0 (tb S v1 (S.1 141 0 - 1))) R := by
      refine go_run mm_308 1 (pc' := 35) (ls' := [some (.ref 140), some (.int v1), some (.int v2), some (.int v3), none]) (st' := [.int 3, .int (b2i ((f_306 v2 v3) || (decide ((S.1 141 0) = 12)))), .ref 140]) (S' := (wI S 140 0 (tb S v1 (S.1 141 0 - 1)))) rfl ?_
      refine go_cv mm_308 (h := 140) (As := [.int (b2i ((f_306 v2 v3) || (decide ((S.1 141 0) = 12)))), .int 3]) (rest := []) (nl := 3) rfl XM_140 (show cvOK 308 35 86 183 2 3 11 = true by decide +kernel) rfl rfl rfl (sq_183) (KP_V ?_)
      refine go_ifb mm_308 rfl (p1 := 41) (p2 := 43) rfl (fun (hc2 : (!(decide (rf (tb S v1 (S.1 141 0 - 1)) ((f_306 v2 v3) || (decide ((S.1 141 0) = 12))) 3 = 0))) = true) => ?_) (fun (hc2 : (!(decide (rf (tb S v1 (S.1 141 0 - 1)) ((f_306 v2 v3) || (decide ((S.1 141 0) = 12))) 3 = 0))) = false) => ?_)
      · refine go_run mm_308 1 (pc' := 42) (ls' := [some (.ref 140), some (.int v1), some (.int v2), some (.int v3), none]) (st' := [.int 0]) (S' := (wI (wI S 140 0 (tb S v1 (S.1 141 0 - 1))) 140 0 (rf (tb S v1 (S.1 141 0 - 1)) ((f_306 v2 v3) || (decide ((S.1 141 0) = 12))) 3))) rfl ?_
        exact go_ireturn mm_308 rfl rfl (e2 hc1 hc2)
      · refine go_run mm_308 1 (pc' := 44) (ls' := [some (.ref 140), some (.int v1), some (.int v2), some (.int v3), none]) (st' := [.ref 140]) (S' := (wI (wI S 140 0 (tb S v1 (S.1 141 0 - 1))) 140 0 (rf (tb S v1 (S.1 141 0 - 1)) ((f_306 v2 v3) || (decide ((S.1 141 0) = 12))) 3))) rfl ?_
        exact e3 hc1 hc2
    refine go_ifb mm_308 rfl (p1 := 29) (p2 := 18) rfl (fun (hc2 : (f_306 v2 v3) = true) => ?_) (fun (hc2 : (f_306 v2 v3) = false) => ?_)
    · refine go_run mm_308 2 (pc' := 34) (ls' := [some (.ref 140), some (.int v1), some (.int v2), some (.int v3), none]) (st' := [.int 1, .ref 140]) (S' := (wI S 140 0 (tb S v1 (S.1 141 0 - 1)))) rfl ?_
      have e : ((b2i ((f_306 v2 v3) || (decide ((S.1 141 0) = 12)))) : Int32) = 1 := by simp [b2i, hc2]
      rw [e] at j2
      exact j2
    · refine go_run mm_308 3 (pc' := 23) (ls' := [some (.ref 140), some (.int v1), some (.int v2), some (.int v3), none]) (st' := [.int 0, .ref 141, .ref 140]) (S' := (wI S 140 0 (tb S v1 (S.1 141 0 - 1)))) rfl ?_
      refine go_iaload mm_308 (q := 0) rfl rfl rfl (inB_lit rfl) ?_
      refine go_run mm_308 1 (pc' := 26) (ls' := [some (.ref 140), some (.int v1), some (.int v2), some (.int v3), none]) (st' := [.int 12, .int (S.1 141 0), .ref 140]) (S' := (wI S 140 0 (tb S v1 (S.1 141 0 - 1)))) rfl ?_
      have j1 : Go XM (d + 8) 308 c 34 [some (.ref 140), some (.int v1), some (.int v2), some (.int v3), none] [.int (b2i (decide ((S.1 141 0) = 12))), .ref 140] (wI S 140 0 (tb S v1 (S.1 141 0 - 1))) R := by
        have e : ((b2i ((f_306 v2 v3) || (decide ((S.1 141 0) = 12)))) : Int32) = (b2i (decide ((S.1 141 0) = 12))) := by simp [b2i, hc2]
        rw [e] at j2
        exact j2
      refine go_if2 mm_308 rfl (p1 := 29) (p2 := 33) rfl (fun (hc3 : (S.1 141 0) = 12) => ?_) (fun (hc3 : ¬ (S.1 141 0) = 12) => ?_)
      · refine go_run mm_308 2 (pc' := 34) (ls' := [some (.ref 140), some (.int v1), some (.int v2), some (.int v3), none]) (st' := [.int 1, .ref 140]) (S' := (wI S 140 0 (tb S v1 (S.1 141 0 - 1)))) rfl ?_
        have e : ((b2i (decide ((S.1 141 0) = 12))) : Int32) = 1 := by simp [b2i, hc3]
        rw [e] at j1
        exact j1
      · refine go_run mm_308 1 (pc' := 34) (ls' := [some (.ref 140), some (.int v1), some (.int v2), some (.int v3), none]) (st' := [.int 0, .ref 140]) (S' := (wI S 140 0 (tb S v1 (S.1 141 0 - 1)))) rfl ?_
        have e : ((b2i (decide ((S.1 141 0) = 12))) : Int32) = 0 := by simp [b2i, hc3]
        rw [e] at j1
        exact j1
set_option maxRecDepth 20000 in
theorem b_308_47 {d c : Nat} {R : RT} {S : ST} {v1 : Int32} {v2 : Int32} {v3 : Int32} (e1 : Go XM (d + 8) 308 c 55 [some (.ref 140), some (.int v1), some (.int v2), some (.int v3), some (.int (S.1 141 0))] [] S R) : Go XM (d + 8) 308 c 47 [some (.ref 140), some (.int v1), some (.int v2), some (.int v3), none] [] S R := by
  refine go_run mm_308 3 (pc' := 52) (ls' := [some (.ref 140), some (.int v1), some (.int v2), some (.int v3), none]) (st' := [.int 0, .ref 141]) (S' := S) rfl ?_
  refine go_iaload mm_308 (q := 0) rfl rfl rfl (inB_lit rfl) ?_
  refine go_run mm_308 1 (pc' := 55) (ls' := [some (.ref 140), some (.int v1), some (.int v2), some (.int v3), some (.int (S.1 141 0))]) (st' := []) (S' := S) rfl ?_
  exact e1
set_option maxRecDepth 20000 in
theorem b_308_55 {d c : Nat} {R : RT} {S : ST} {v1 : Int32} {v2 : Int32} {v3 : Int32} {v4 : Int32} (o1 : (v1 + 1) < v4 → inB ((3 + v4) - 1) 63) (o2 : (v1 + 1) < v4 → inB (3 + v4) 63) (o3 : (v1 + 1) < v4 → inB ((15 + v4) - 1) 63) (o4 : (v1 + 1) < v4 → inB (15 + v4) 63) (o5 : ¬ (v1 + 1) < v4 → inB ((3 + v1) + 1) 63) (o6 : ¬ (v1 + 1) < v4 → inB ((15 + v1) + 1) 63) (e1 : (v1 + 1) < v4 → Go XM (d + 8) 308 c 55 [some (.ref 140), some (.int v1), some (.int v2), some (.int v3), some (.int (v4 + (-1)))] [] (wI (wI S 146 (Int32.toNatClampNeg (3 + v4)) (ra S 141 ((3 + v4) - 1))) 146 (Int32.toNatClampNeg (15 + v4)) (ra S 141 ((15 + v4) - 1))) R) (e2 : ¬ (v1 + 1) < v4 → Go XM (d + 8) 308 c 145 [some (.ref 140), some (.int v1), some (.int v2), some (.int v3), some (.int v4)] [.ref 140] (wI (wI (wI S 146 (Int32.toNatClampNeg ((3 + v1) + 1)) v2) 146 (Int32.toNatClampNeg ((15 + v1) + 1)) v3) 146 0 (((wI (wI S 146 (Int32.toNatClampNeg ((3 + v1) + 1)) v2) 146 (Int32.toNatClampNeg ((15 + v1) + 1)) v3).1 146 0) + 1)) R) : Go XM (d + 8) 308 c 55 [some (.ref 140), some (.int v1), some (.int v2), some (.int v3), some (.int v4)] [] S R := by
  refine go_run mm_308 4 (pc' := 60) (ls' := [some (.ref 140), some (.int v1), some (.int v2), some (.int v3), some (.int v4)]) (st' := [.int (v1 + 1), .int v4]) (S' := S) rfl ?_
  refine go_if2 mm_308 rfl (p1 := 63) (p2 := 111) rfl (fun (hc1 : (v1 + 1) < v4) => ?_) (fun (hc1 : ¬ (v1 + 1) < v4) => ?_)
  · refine go_run mm_308 12 (pc' := 81) (ls' := [some (.ref 140), some (.int v1), some (.int v2), some (.int v3), some (.int v4)]) (st' := [.int ((3 + v4) - 1), .ref 141, .int (3 + v4), .ref 146]) (S' := S) rfl ?_
    refine go_iaload mm_308 (q := (Int32.toNatClampNeg ((3 + v4) - 1))) rfl rfl rfl (o1 hc1) ?_
    refine go_iastore mm_308 (q := (Int32.toNatClampNeg (3 + v4))) rfl rfl rfl (o2 hc1) ?_
    refine go_run mm_308 12 (pc' := 103) (ls' := [some (.ref 140), some (.int v1), some (.int v2), some (.int v3), some (.int v4)]) (st' := [.int ((15 + v4) - 1), .ref 141, .int (15 + v4), .ref 146]) (S' := (wI S 146 (Int32.toNatClampNeg (3 + v4)) (ra S 141 ((3 + v4) - 1)))) rfl ?_
    refine go_iaload mm_308 (q := (Int32.toNatClampNeg ((15 + v4) - 1))) rfl rfl rfl (o3 hc1) ?_
    refine go_iastore mm_308 (q := (Int32.toNatClampNeg (15 + v4))) rfl rfl rfl (o4 hc1) ?_
    refine go_run mm_308 2 (pc' := 55) (ls' := [some (.ref 140), some (.int v1), some (.int v2), some (.int v3), some (.int (v4 + (-1)))]) (st' := []) (S' := (wI (wI S 146 (Int32.toNatClampNeg (3 + v4)) (ra S 141 ((3 + v4) - 1))) 146 (Int32.toNatClampNeg (15 + v4)) (ra S 141 ((15 + v4) - 1)))) rfl ?_
    exact e1 hc1
  · refine go_run mm_308 8 (pc' := 121) (ls' := [some (.ref 140), some (.int v1), some (.int v2), some (.int v3), some (.int v4)]) (st' := [.int v2, .int ((3 + v1) + 1), .ref 146]) (S' := S) rfl ?_
    refine go_iastore mm_308 (q := (Int32.toNatClampNeg ((3 + v1) + 1))) rfl rfl rfl (o5 hc1) ?_
    refine go_run mm_308 8 (pc' := 133) (ls' := [some (.ref 140), some (.int v1), some (.int v2), some (.int v3), some (.int v4)]) (st' := [.int v3, .int ((15 + v1) + 1), .ref 146]) (S' := (wI S 146 (Int32.toNatClampNeg ((3 + v1) + 1)) v2)) rfl ?_
    refine go_iastore mm_308 (q := (Int32.toNatClampNeg ((15 + v1) + 1))) rfl rfl rfl (o6 hc1) ?_
    refine go_run mm_308 4 (pc' := 140) (ls' := [some (.ref 140), some (.int v1), some (.int v2), some (.int v3), some (.int v4)]) (st' := [.int 0, .ref 146, .int 0, .ref 146]) (S' := (wI (wI S 146 (Int32.toNatClampNeg ((3 + v1) + 1)) v2) 146 (Int32.toNatClampNeg ((15 + v1) + 1)) v3)) rfl ?_
    refine go_iaload mm_308 (q := 0) rfl rfl rfl (inB_lit rfl) ?_
    refine go_run mm_308 2 (pc' := 143) (ls' := [some (.ref 140), some (.int v1), some (.int v2), some (.int v3), some (.int v4)]) (st' := [.int (((wI (wI S 146 (Int32.toNatClampNeg ((3 + v1) + 1)) v2) 146 (Int32.toNatClampNeg ((15 + v1) + 1)) v3).1 146 0) + 1), .int 0, .ref 146]) (S' := (wI (wI S 146 (Int32.toNatClampNeg ((3 + v1) + 1)) v2) 146 (Int32.toNatClampNeg ((15 + v1) + 1)) v3)) rfl ?_
    refine go_iastore mm_308 (q := 0) rfl rfl rfl (inB_lit rfl) ?_
    refine go_run mm_308 1 (pc' := 145) (ls' := [some (.ref 140), some (.int v1), some (.int v2), some (.int v3), some (.int v4)]) (st' := [.ref 140]) (S' := (wI (wI (wI S 146 (Int32.toNatClampNeg ((3 + v1) + 1)) v2) 146 (Int32.toNatClampNeg ((15 + v1) + 1)) v3) 146 0 (((wI (wI S 146 (Int32.toNatClampNeg ((3 + v1) + 1)) v2) 146 (Int32.toNatClampNeg ((15 + v1) + 1)) v3).1 146 0) + 1))) rfl ?_
    exact e2 hc1
set_option maxRecDepth 20000 in
theorem b_308_148 {d c : Nat} {R : RT} {S : ST} {v1 : Int32} {v2 : Int32} {v3 : Int32} {v4 : Int32} {w0 : Int32} (e1 : R c (.inr (some (.int w0))) S) : Go XM (d + 8) 308 c 148 [some (.ref 140), some (.int v1), some (.int v2), some (.int v3), some (.int v4)] [.int w0] S R := by
  exact go_ireturn mm_308 rfl rfl (e1)
theorem mm_309 : mtG 309 = some (mi_309, 12, ft_309) := rfl
set_option maxRecDepth 20000 in
theorem b_309_0 {d c : Nat} {R : RT} {S : ST} {v1 : Int32} (e1 : (nb S v1 (S.1 141 0 - 1)) = true → R c (.inr (some (.int 0))) (wI S 140 0 (tb S v1 (S.1 141 0 - 1)))) (e2 : (nb S v1 (S.1 141 0 - 1)) = false → (!(decide (rf (tb S v1 (S.1 141 0 - 1)) (decide ((S.1 141 0) = 3)) 3 = 0))) = true → R c (.inr (some (.int 0))) (wI (wI S 140 0 (tb S v1 (S.1 141 0 - 1))) 140 0 (rf (tb S v1 (S.1 141 0 - 1)) (decide ((S.1 141 0) = 3)) 3))) (e3 : (nb S v1 (S.1 141 0 - 1)) = false → (!(decide (rf (tb S v1 (S.1 141 0 - 1)) (decide ((S.1 141 0) = 3)) 3 = 0))) = false → Go XM (d + 8) 309 c 34 [some (.ref 140), some (.int v1), none] [.ref 140] (wI (wI S 140 0 (tb S v1 (S.1 141 0 - 1))) 140 0 (rf (tb S v1 (S.1 141 0 - 1)) (decide ((S.1 141 0) = 3)) 3)) R) : Go XM (d + 8) 309 c 0 [some (.ref 140), some (.int v1), none] [] S R := by
  refine go_run mm_309 2 (pc' := 2) (ls' := [some (.ref 140), some (.int v1), none]) (st' := [.int v1, .ref 140]) (S' := S) rfl ?_
  refine go_cv mm_309 (h := 140) (As := [.int v1]) (rest := []) (nl := 2) rfl XM_140 (show cvOK 309 2 251 225 1 2 11 = true by decide +kernel) rfl rfl rfl (sq_225) (KP_V ?_)
  refine go_ifb mm_309 rfl (p1 := 31) (p2 := 8) rfl (fun (hc1 : (nb S v1 (S.1 141 0 - 1)) = true) => ?_) (fun (hc1 : (nb S v1 (S.1 141 0 - 1)) = false) => ?_)
  · refine go_run mm_309 1 (pc' := 32) (ls' := [some (.ref 140), some (.int v1), none]) (st' := [.int 0]) (S' := (wI S 140 0 (tb S v1 (S.1 141 0 - 1)))) rfl ?_
    exact go_ireturn mm_309 rfl rfl (e1 hc1)
  · refine go_run mm_309 4 (pc' := 14) (ls' := [some (.ref 140), some (.int v1), none]) (st' := [.int 0, .ref 141, .ref 140]) (S' := (wI S 140 0 (tb S v1 (S.1 141 0 - 1)))) rfl ?_
    refine go_iaload mm_309 (q := 0) rfl rfl rfl (inB_lit rfl) ?_
    refine go_run mm_309 1 (pc' := 16) (ls' := [some (.ref 140), some (.int v1), none]) (st' := [.int 3, .int (S.1 141 0), .ref 140]) (S' := (wI S 140 0 (tb S v1 (S.1 141 0 - 1)))) rfl ?_
    have j1 : Go XM (d + 8) 309 c 24 [some (.ref 140), some (.int v1), none] [.int (b2i (decide ((S.1 141 0) = 3))), .ref 140] (wI S 140 0 (tb S v1 (S.1 141 0 - 1))) R := by
      refine go_run mm_309 1 (pc' := 25) (ls' := [some (.ref 140), some (.int v1), none]) (st' := [.int 3, .int (b2i (decide ((S.1 141 0) = 3))), .ref 140]) (S' := (wI S 140 0 (tb S v1 (S.1 141 0 - 1)))) rfl ?_
      refine go_cv mm_309 (h := 140) (As := [.int (b2i (decide ((S.1 141 0) = 3))), .int 3]) (rest := []) (nl := 3) rfl XM_140 (show cvOK 309 25 86 183 2 3 11 = true by decide +kernel) rfl rfl rfl (sq_183) (KP_V ?_)
      refine go_ifb mm_309 rfl (p1 := 31) (p2 := 33) rfl (fun (hc2 : (!(decide (rf (tb S v1 (S.1 141 0 - 1)) (decide ((S.1 141 0) = 3)) 3 = 0))) = true) => ?_) (fun (hc2 : (!(decide (rf (tb S v1 (S.1 141 0 - 1)) (decide ((S.1 141 0) = 3)) 3 = 0))) = false) => ?_)
      · refine go_run mm_309 1 (pc' := 32) (ls' := [some (.ref 140), some (.int v1), none]) (st' := [.int 0]) (S' := (wI (wI S 140 0 (tb S v1 (S.1 141 0 - 1))) 140 0 (rf (tb S v1 (S.1 141 0 - 1)) (decide ((S.1 141 0) = 3)) 3))) rfl ?_
        exact go_ireturn mm_309 rfl rfl (e2 hc1 hc2)
      · refine go_run mm_309 1 (pc' := 34) (ls' := [some (.ref 140), some (.int v1), none]) (st' := [.ref 140]) (S' := (wI (wI S 140 0 (tb S v1 (S.1 141 0 - 1))) 140 0 (rf (tb S v1 (S.1 141 0 - 1)) (decide ((S.1 141 0) = 3)) 3))) rfl ?_
        exact e3 hc1 hc2
    refine go_if2 mm_309 rfl (p1 := 19) (p2 := 23) rfl (fun (hc2 : (S.1 141 0) = 3) => ?_) (fun (hc2 : ¬ (S.1 141 0) = 3) => ?_)
    · refine go_run mm_309 2 (pc' := 24) (ls' := [some (.ref 140), some (.int v1), none]) (st' := [.int 1, .ref 140]) (S' := (wI S 140 0 (tb S v1 (S.1 141 0 - 1)))) rfl ?_
      have e : ((b2i (decide ((S.1 141 0) = 3))) : Int32) = 1 := by simp [b2i, hc2]
      rw [e] at j1
      exact j1
    · refine go_run mm_309 1 (pc' := 24) (ls' := [some (.ref 140), some (.int v1), none]) (st' := [.int 0, .ref 140]) (S' := (wI S 140 0 (tb S v1 (S.1 141 0 - 1)))) rfl ?_
      have e : ((b2i (decide ((S.1 141 0) = 3))) : Int32) = 0 := by simp [b2i, hc2]
      rw [e] at j1
      exact j1
set_option maxRecDepth 20000 in
theorem b_309_37 {d c : Nat} {R : RT} {S : ST} {v1 : Int32} (e1 : Go XM (d + 8) 309 c 49 [some (.ref 140), some (.int v1), some (.int v1)] [] (wI S 146 0 ((S.1 146 0) - 1)) R) : Go XM (d + 8) 309 c 37 [some (.ref 140), some (.int v1), none] [] S R := by
  refine go_run mm_309 4 (pc' := 43) (ls' := [some (.ref 140), some (.int v1), none]) (st' := [.int 0, .ref 146, .int 0, .ref 146]) (S' := S) rfl ?_
  refine go_iaload mm_309 (q := 0) rfl rfl rfl (inB_lit rfl) ?_
  refine go_run mm_309 2 (pc' := 46) (ls' := [some (.ref 140), some (.int v1), none]) (st' := [.int ((S.1 146 0) - 1), .int 0, .ref 146]) (S' := S) rfl ?_
  refine go_iastore mm_309 (q := 0) rfl rfl rfl (inB_lit rfl) ?_
  refine go_run mm_309 2 (pc' := 49) (ls' := [some (.ref 140), some (.int v1), some (.int v1)]) (st' := []) (S' := (wI S 146 0 ((S.1 146 0) - 1))) rfl ?_
  exact e1
set_option maxRecDepth 20000 in
theorem b_309_49 {d c : Nat} {R : RT} {S : ST} {v1 : Int32} {v2 : Int32} (o1 : v2 < (S.1 146 0) → inB ((3 + v2) + 1) 63) (o2 : v2 < (S.1 146 0) → inB (3 + v2) 63) (o3 : v2 < (S.1 146 0) → inB ((15 + v2) + 1) 63) (o4 : v2 < (S.1 146 0) → inB (15 + v2) 63) (e1 : v2 < (S.1 146 0) → Go XM (d + 8) 309 c 49 [some (.ref 140), some (.int v1), some (.int (v2 + 1))] [] (wI (wI S 146 (Int32.toNatClampNeg (3 + v2)) (ra S 141 ((3 + v2) + 1))) 146 (Int32.toNatClampNeg (15 + v2)) (ra S 141 ((15 + v2) + 1))) R) (e2 : ¬ v2 < (S.1 146 0) → Go XM (d + 8) 309 c 104 [some (.ref 140), some (.int v1), some (.int v2)] [.ref 140] S R) : Go XM (d + 8) 309 c 49 [some (.ref 140), some (.int v1), some (.int v2)] [] S R := by
  refine go_run mm_309 4 (pc' := 55) (ls' := [some (.ref 140), some (.int v1), some (.int v2)]) (st' := [.int 0, .ref 146, .int v2]) (S' := S) rfl ?_
  refine go_iaload mm_309 (q := 0) rfl rfl rfl (inB_lit rfl) ?_
  refine go_if2 mm_309 rfl (p1 := 59) (p2 := 103) rfl (fun (hc1 : v2 < (S.1 146 0)) => ?_) (fun (hc1 : ¬ v2 < (S.1 146 0)) => ?_)
  · refine go_run mm_309 12 (pc' := 75) (ls' := [some (.ref 140), some (.int v1), some (.int v2)]) (st' := [.int ((3 + v2) + 1), .ref 141, .int (3 + v2), .ref 146]) (S' := S) rfl ?_
    refine go_iaload mm_309 (q := (Int32.toNatClampNeg ((3 + v2) + 1))) rfl rfl rfl (o1 hc1) ?_
    refine go_iastore mm_309 (q := (Int32.toNatClampNeg (3 + v2))) rfl rfl rfl (o2 hc1) ?_
    refine go_run mm_309 12 (pc' := 95) (ls' := [some (.ref 140), some (.int v1), some (.int v2)]) (st' := [.int ((15 + v2) + 1), .ref 141, .int (15 + v2), .ref 146]) (S' := (wI S 146 (Int32.toNatClampNeg (3 + v2)) (ra S 141 ((3 + v2) + 1)))) rfl ?_
    refine go_iaload mm_309 (q := (Int32.toNatClampNeg ((15 + v2) + 1))) rfl rfl rfl (o3 hc1) ?_
    refine go_iastore mm_309 (q := (Int32.toNatClampNeg (15 + v2))) rfl rfl rfl (o4 hc1) ?_
    refine go_run mm_309 2 (pc' := 49) (ls' := [some (.ref 140), some (.int v1), some (.int (v2 + 1))]) (st' := []) (S' := (wI (wI S 146 (Int32.toNatClampNeg (3 + v2)) (ra S 141 ((3 + v2) + 1))) 146 (Int32.toNatClampNeg (15 + v2)) (ra S 141 ((15 + v2) + 1)))) rfl ?_
    exact e1 hc1
  · refine go_run mm_309 1 (pc' := 104) (ls' := [some (.ref 140), some (.int v1), some (.int v2)]) (st' := [.ref 140]) (S' := S) rfl ?_
    exact e2 hc1
set_option maxRecDepth 20000 in
theorem b_309_107 {d c : Nat} {R : RT} {S : ST} {v1 : Int32} {v2 : Int32} {w0 : Int32} (e1 : R c (.inr (some (.int w0))) S) : Go XM (d + 8) 309 c 107 [some (.ref 140), some (.int v1), some (.int v2)] [.int w0] S R := by
  exact go_ireturn mm_309 rfl rfl (e1)
theorem mm_310 : mtG 310 = some (mi_310, 12, ft_310) := rfl
theorem b_310_0 {d c : Nat} {R : RT} {S : ST} (e1 : (!(decide (rf 0 (decide ((S.1 140 4) = 0)) 1 = 0))) = true → R c (.inr (some (.int 0))) (wI (wI S 140 0 0) 140 0 (rf 0 (decide ((S.1 140 4) = 0)) 1))) (e2 : (!(decide (rf 0 (decide ((S.1 140 4) = 0)) 1 = 0))) = false → Go XM (d + 7) 310 c 44 [some (.ref 140)] [.int (1 + ((S.1 140 4) - 1)), .ref 140] (wI (wI (wI S 140 0 0) 140 0 (rf 0 (decide ((S.1 140 4) = 0)) 1)) 140 4 ((S.1 140 4) - 1)) R) : Go XM (d + 7) 310 c 0 [some (.ref 140)] [] S R := by
  refine go_run mm_310 6 (pc' := 10) (ls' := [some (.ref 140)]) (st' := [.int (S.1 140 4), .ref 140]) (S' := (wI S 140 0 0)) rfl ?_
  have j1 : Go XM (d + 7) 310 c 18 [some (.ref 140)] [.int (b2i (decide ((S.1 140 4) = 0))), .ref 140] (wI S 140 0 0) R := by
    refine go_run mm_310 1 (pc' := 19) (ls' := [some (.ref 140)]) (st' := [.int 1, .int (b2i (decide ((S.1 140 4) = 0))), .ref 140]) (S' := (wI S 140 0 0)) rfl ?_
    refine go_cv mm_310 (h := 140) (As := [.int (b2i (decide ((S.1 140 4) = 0))), .int 1]) (rest := []) (nl := 3) rfl XM_140 (show cvOK 310 19 86 183 2 3 11 = true by decide +kernel) rfl rfl rfl (sq_183) (KP_V ?_)
    refine go_ifb mm_310 rfl (p1 := 25) (p2 := 27) rfl (fun (hc1 : (!(decide (rf 0 (decide ((S.1 140 4) = 0)) 1 = 0))) = true) => ?_) (fun (hc1 : (!(decide (rf 0 (decide ((S.1 140 4) = 0)) 1 = 0))) = false) => ?_)
    · refine go_run mm_310 1 (pc' := 26) (ls' := [some (.ref 140)]) (st' := [.int 0]) (S' := (wI (wI S 140 0 0) 140 0 (rf 0 (decide ((S.1 140 4) = 0)) 1))) rfl ?_
      exact go_ireturn mm_310 rfl rfl (e1 hc1)
    · refine go_run mm_310 11 (pc' := 44) (ls' := [some (.ref 140)]) (st' := [.int (1 + ((S.1 140 4) - 1)), .ref 140]) (S' := (wI (wI (wI S 140 0 0) 140 0 (rf 0 (decide ((S.1 140 4) = 0)) 1)) 140 4 ((S.1 140 4) - 1))) rfl ?_
      exact e2 hc1
  refine go_if0 mm_310 rfl (p1 := 13) (p2 := 17) rfl (fun (hc1 : (S.1 140 4) = 0) => ?_) (fun (hc1 : ¬ (S.1 140 4) = 0) => ?_)
  · refine go_run mm_310 2 (pc' := 18) (ls' := [some (.ref 140)]) (st' := [.int 1, .ref 140]) (S' := (wI S 140 0 0)) rfl ?_
    have e : ((b2i (decide ((S.1 140 4) = 0))) : Int32) = 1 := by simp [b2i, hc1]
    rw [e] at j1
    exact j1
  · refine go_run mm_310 1 (pc' := 18) (ls' := [some (.ref 140)]) (st' := [.int 0, .ref 140]) (S' := (wI S 140 0 0)) rfl ?_
    have e : ((b2i (decide ((S.1 140 4) = 0))) : Int32) = 0 := by simp [b2i, hc1]
    rw [e] at j1
    exact j1
theorem b_310_47 {d c : Nat} {R : RT} {S : ST} (e1 : R c (.inr (some (.int (S.1 140 4)))) S) : Go XM (d + 7) 310 c 47 [some (.ref 140)] [] S R := by
  refine go_run mm_310 2 (pc' := 51) (ls' := [some (.ref 140)]) (st' := [.int (S.1 140 4)]) (S' := S) rfl ?_
  exact go_ireturn mm_310 rfl rfl (e1)
theorem mm_311 : mtG 311 = some (mi_311, 12, ft_311) := rfl
theorem b_311_0 {d c : Nat} {R : RT} {S : ST} {v1 : Int32} (e1 : (decide (S.1 140 1 = 0)) = true → R c (.inr (some (.int 0))) (wI S 140 0 (tz (decide (S.1 140 1 = 0)) 1))) (e2 : (decide (S.1 140 1 = 0)) = false → (!(decide (rf (tz (decide (S.1 140 1 = 0)) 1) (!(f_182 v1 0 1)) 2 = 0))) = true → R c (.inr (some (.int 0))) (wI (wI S 140 0 (tz (decide (S.1 140 1 = 0)) 1)) 140 0 (rf (tz (decide (S.1 140 1 = 0)) 1) (!(f_182 v1 0 1)) 2))) (e3 : (decide (S.1 140 1 = 0)) = false → (!(decide (rf (tz (decide (S.1 140 1 = 0)) 1) (!(f_182 v1 0 1)) 2 = 0))) = false → Go XM (d + 4) 311 c 36 [some (.ref 140), some (.int v1)] [.int (9 + v1), .ref 140] (wI (wI S 140 0 (tz (decide (S.1 140 1 = 0)) 1)) 140 0 (rf (tz (decide (S.1 140 1 = 0)) 1) (!(f_182 v1 0 1)) 2)) R) : Go XM (d + 4) 311 c 0 [some (.ref 140), some (.int v1)] [] S R := by
  refine go_run mm_311 1 (pc' := 1) (ls' := [some (.ref 140), some (.int v1)]) (st' := [.ref 140]) (S' := S) rfl ?_
  refine go_cv mm_311 (h := 140) (As := []) (rest := []) (nl := 1) rfl XM_140 (show cvOK 311 1 247 184 0 1 11 = true by decide +kernel) rfl rfl rfl (sq_184) (KP_V ?_)
  refine go_ifb mm_311 rfl (p1 := 29) (p2 := 7) rfl (fun (hc1 : (decide (S.1 140 1 = 0)) = true) => ?_) (fun (hc1 : (decide (S.1 140 1 = 0)) = false) => ?_)
  · refine go_run mm_311 1 (pc' := 30) (ls' := [some (.ref 140), some (.int v1)]) (st' := [.int 0]) (S' := (wI S 140 0 (tz (decide (S.1 140 1 = 0)) 1))) rfl ?_
    exact go_ireturn mm_311 rfl rfl (e1 hc1)
  · refine go_run mm_311 4 (pc' := 11) (ls' := [some (.ref 140), some (.int v1)]) (st' := [.int 1, .int 0, .int v1, .ref 140]) (S' := (wI S 140 0 (tz (decide (S.1 140 1 = 0)) 1))) rfl ?_
    refine go_cs mm_311 (av := [.int v1, .int 0, .int 1]) (rest := [.ref 140]) (nl := 3) rfl (show csOK 311 11 148 182 3 3 = true by decide +kernel) rfl rfl rfl (sp_182) (KP_V ?_)
    have j1 : Go XM (d + 4) 311 c 22 [some (.ref 140), some (.int v1)] [.int (b2i (!(f_182 v1 0 1))), .ref 140] (wI S 140 0 (tz (decide (S.1 140 1 = 0)) 1)) R := by
      refine go_run mm_311 1 (pc' := 23) (ls' := [some (.ref 140), some (.int v1)]) (st' := [.int 2, .int (b2i (!(f_182 v1 0 1))), .ref 140]) (S' := (wI S 140 0 (tz (decide (S.1 140 1 = 0)) 1))) rfl ?_
      refine go_cv mm_311 (h := 140) (As := [.int (b2i (!(f_182 v1 0 1))), .int 2]) (rest := []) (nl := 3) rfl XM_140 (show cvOK 311 23 86 183 2 3 11 = true by decide +kernel) rfl rfl rfl (sq_183) (KP_V ?_)
      refine go_ifb mm_311 rfl (p1 := 29) (p2 := 31) rfl (fun (hc2 : (!(decide (rf (tz (decide (S.1 140 1 = 0)) 1) (!(f_182 v1 0 1)) 2 = 0))) = true) => ?_) (fun (hc2 : (!(decide (rf (tz (decide (S.1 140 1 = 0)) 1) (!(f_182 v1 0 1)) 2 = 0))) = false) => ?_)
      · refine go_run mm_311 1 (pc' := 30) (ls' := [some (.ref 140), some (.int v1)]) (st' := [.int 0]) (S' := (wI (wI S 140 0 (tz (decide (S.1 140 1 = 0)) 1)) 140 0 (rf (tz (decide (S.1 140 1 = 0)) 1) (!(f_182 v1 0 1)) 2))) rfl ?_
        exact go_ireturn mm_311 rfl rfl (e2 hc1 hc2)
      · refine go_run mm_311 4 (pc' := 36) (ls' := [some (.ref 140), some (.int v1)]) (st' := [.int (9 + v1), .ref 140]) (S' := (wI (wI S 140 0 (tz (decide (S.1 140 1 = 0)) 1)) 140 0 (rf (tz (decide (S.1 140 1 = 0)) 1) (!(f_182 v1 0 1)) 2))) rfl ?_
        exact e3 hc1 hc2
    refine go_ifb mm_311 rfl (p1 := 21) (p2 := 17) rfl (fun (hc2 : (f_182 v1 0 1) = true) => ?_) (fun (hc2 : (f_182 v1 0 1) = false) => ?_)
    · refine go_run mm_311 1 (pc' := 22) (ls' := [some (.ref 140), some (.int v1)]) (st' := [.int 0, .ref 140]) (S' := (wI S 140 0 (tz (decide (S.1 140 1 = 0)) 1))) rfl ?_
      have e : ((b2i (!(f_182 v1 0 1))) : Int32) = 0 := by simp [b2i, hc2]
      rw [e] at j1
      exact j1
    · refine go_run mm_311 2 (pc' := 22) (ls' := [some (.ref 140), some (.int v1)]) (st' := [.int 1, .ref 140]) (S' := (wI S 140 0 (tz (decide (S.1 140 1 = 0)) 1))) rfl ?_
      have e : ((b2i (!(f_182 v1 0 1))) : Int32) = 1 := by simp [b2i, hc2]
      rw [e] at j1
      exact j1
theorem b_311_39 {d c : Nat} {R : RT} {S : ST} {v1 : Int32} (o1 : inB v1 2) (e1 : R c (.inr (some (.int (S.1 140 20)))) (wI S 143 (Int32.toNatClampNeg v1) 1)) : Go XM (d + 4) 311 c 39 [some (.ref 140), some (.int v1)] [] S R := by
  refine go_run mm_311 4 (pc' := 45) (ls' := [some (.ref 140), some (.int v1)]) (st' := [.int 1, .int v1, .ref 143]) (S' := S) rfl ?_
  refine go_bastore mm_311 (q := (Int32.toNatClampNeg v1)) rfl rfl rfl (o1) (Or.inr rfl) ?_
  refine go_run mm_311 2 (pc' := 50) (ls' := [some (.ref 140), some (.int v1)]) (st' := [.int (S.1 140 20)]) (S' := (wI S 143 (Int32.toNatClampNeg v1) 1)) rfl ?_
  exact go_ireturn mm_311 rfl rfl (e1)
theorem mm_312 : mtG 312 = some (mi_312, 12, ft_312) := rfl
theorem b_312_0 {d c : Nat} {R : RT} {S : ST} {v1 : Int32} (o1 : (!(decide (rf 0 (!(f_182 v1 0 1)) 1 = 0))) = false → inB v1 2) (e1 : (!(decide (rf 0 (!(f_182 v1 0 1)) 1 = 0))) = true → R c (.inr (some (.int 0))) (wI (wI S 140 0 0) 140 0 (rf 0 (!(f_182 v1 0 1)) 1))) (e2 : (!(decide (rf 0 (!(f_182 v1 0 1)) 1 = 0))) = false → (!(decide (rf (rf 0 (!(f_182 v1 0 1)) 1) (decide ((ra S 143 v1) = 0)) 2 = 0))) = true → R c (.inr (some (.int 0))) (wI (wI (wI S 140 0 0) 140 0 (rf 0 (!(f_182 v1 0 1)) 1)) 140 0 (rf (rf 0 (!(f_182 v1 0 1)) 1) (decide ((ra S 143 v1) = 0)) 2))) (e3 : (!(decide (rf 0 (!(f_182 v1 0 1)) 1 = 0))) = false → (!(decide (rf (rf 0 (!(f_182 v1 0 1)) 1) (decide ((ra S 143 v1) = 0)) 2 = 0))) = false → Go XM (d + 7) 312 c 56 [some (.ref 140), some (.int v1)] [.int (9 + v1), .ref 140] (wI (wI (wI S 140 0 0) 140 0 (rf 0 (!(f_182 v1 0 1)) 1)) 140 0 (rf (rf 0 (!(f_182 v1 0 1)) 1) (decide ((ra S 143 v1) = 0)) 2)) R) : Go XM (d + 7) 312 c 0 [some (.ref 140), some (.int v1)] [] S R := by
  refine go_run mm_312 7 (pc' := 9) (ls' := [some (.ref 140), some (.int v1)]) (st' := [.int 1, .int 0, .int v1, .ref 140]) (S' := (wI S 140 0 0)) rfl ?_
  refine go_cs mm_312 (av := [.int v1, .int 0, .int 1]) (rest := [.ref 140]) (nl := 3) rfl (show csOK 312 9 148 182 3 3 = true by decide +kernel) rfl rfl rfl (sp_182) (KP_V ?_)
  have j2 : Go XM (d + 7) 312 c 20 [some (.ref 140), some (.int v1)] [.int (b2i (!(f_182 v1 0 1))), .ref 140] (wI S 140 0 0) R := by
    refine go_run mm_312 1 (pc' := 21) (ls' := [some (.ref 140), some (.int v1)]) (st' := [.int 1, .int (b2i (!(f_182 v1 0 1))), .ref 140]) (S' := (wI S 140 0 0)) rfl ?_
    refine go_cv mm_312 (h := 140) (As := [.int (b2i (!(f_182 v1 0 1))), .int 1]) (rest := []) (nl := 3) rfl XM_140 (show cvOK 312 21 86 183 2 3 11 = true by decide +kernel) rfl rfl rfl (sq_183) (KP_V ?_)
    refine go_ifb mm_312 rfl (p1 := 49) (p2 := 27) rfl (fun (hc1 : (!(decide (rf 0 (!(f_182 v1 0 1)) 1 = 0))) = true) => ?_) (fun (hc1 : (!(decide (rf 0 (!(f_182 v1 0 1)) 1 = 0))) = false) => ?_)
    · refine go_run mm_312 1 (pc' := 50) (ls' := [some (.ref 140), some (.int v1)]) (st' := [.int 0]) (S' := (wI (wI S 140 0 0) 140 0 (rf 0 (!(f_182 v1 0 1)) 1))) rfl ?_
      exact go_ireturn mm_312 rfl rfl (e1 hc1)
    · refine go_run mm_312 4 (pc' := 33) (ls' := [some (.ref 140), some (.int v1)]) (st' := [.int v1, .ref 143, .ref 140]) (S' := (wI (wI S 140 0 0) 140 0 (rf 0 (!(f_182 v1 0 1)) 1))) rfl ?_
      refine go_baload mm_312 (q := (Int32.toNatClampNeg v1)) rfl rfl rfl (o1 hc1) ?_
      have j1 : Go XM (d + 7) 312 c 42 [some (.ref 140), some (.int v1)] [.int (b2i (decide ((ra S 143 v1) = 0))), .ref 140] (wI (wI S 140 0 0) 140 0 (rf 0 (!(f_182 v1 0 1)) 1)) R := by
        refine go_run mm_312 1 (pc' := 43) (ls' := [some (.ref 140), some (.int v1)]) (st' := [.int 2, .int (b2i (decide ((ra S 143 v1) = 0))), .ref 140]) (S' := (wI (wI S 140 0 0) 140 0 (rf 0 (!(f_182 v1 0 1)) 1))) rfl ?_
        refine go_cv mm_312 (h := 140) (As := [.int (b2i (decide ((ra S 143 v1) = 0))), .int 2]) (rest := []) (nl := 3) rfl XM_140 (show cvOK 312 43 86 183 2 3 11 = true by decide +kernel) rfl rfl rfl (sq_183) (KP_V ?_)
        refine go_ifb mm_312 rfl (p1 := 49) (p2 := 51) rfl (fun (hc2 : (!(decide (rf (rf 0 (!(f_182 v1 0 1)) 1) (decide ((ra S 143 v1) = 0)) 2 = 0))) = true) => ?_) (fun (hc2 : (!(decide (rf (rf 0 (!(f_182 v1 0 1)) 1) (decide ((ra S 143 v1) = 0)) 2 = 0))) = false) => ?_)
        · refine go_run mm_312 1 (pc' := 50) (ls' := [some (.ref 140), some (.int v1)]) (st' := [.int 0]) (S' := (wI (wI (wI S 140 0 0) 140 0 (rf 0 (!(f_182 v1 0 1)) 1)) 140 0 (rf (rf 0 (!(f_182 v1 0 1)) 1) (decide ((ra S 143 v1) = 0)) 2))) rfl ?_
          exact go_ireturn mm_312 rfl rfl (e2 hc1 hc2)
        · refine go_run mm_312 4 (pc' := 56) (ls' := [some (.ref 140), some (.int v1)]) (st' := [.int (9 + v1), .ref 140]) (S' := (wI (wI (wI S 140 0 0) 140 0 (rf 0 (!(f_182 v1 0 1)) 1)) 140 0 (rf (rf 0 (!(f_182 v1 0 1)) 1) (decide ((ra S 143 v1) = 0)) 2))) rfl ?_
          exact e3 hc1 hc2
      refine go_if0 mm_312 rfl (p1 := 37) (p2 := 41) rfl (fun (hc2 : (ra S 143 v1) = 0) => ?_) (fun (hc2 : ¬ (ra S 143 v1) = 0) => ?_)
      · refine go_run mm_312 2 (pc' := 42) (ls' := [some (.ref 140), some (.int v1)]) (st' := [.int 1, .ref 140]) (S' := (wI (wI S 140 0 0) 140 0 (rf 0 (!(f_182 v1 0 1)) 1))) rfl ?_
        have e : ((b2i (decide ((ra S 143 v1) = 0))) : Int32) = 1 := by simp [b2i, hc2]
        rw [e] at j1
        exact j1
      · refine go_run mm_312 1 (pc' := 42) (ls' := [some (.ref 140), some (.int v1)]) (st' := [.int 0, .ref 140]) (S' := (wI (wI S 140 0 0) 140 0 (rf 0 (!(f_182 v1 0 1)) 1))) rfl ?_
        have e : ((b2i (decide ((ra S 143 v1) = 0))) : Int32) = 0 := by simp [b2i, hc2]
        rw [e] at j1
        exact j1
  refine go_ifb mm_312 rfl (p1 := 19) (p2 := 15) rfl (fun (hc1 : (f_182 v1 0 1) = true) => ?_) (fun (hc1 : (f_182 v1 0 1) = false) => ?_)
  · refine go_run mm_312 1 (pc' := 20) (ls' := [some (.ref 140), some (.int v1)]) (st' := [.int 0, .ref 140]) (S' := (wI S 140 0 0)) rfl ?_
    have e : ((b2i (!(f_182 v1 0 1))) : Int32) = 0 := by simp [b2i, hc1]
    rw [e] at j2
    exact j2
  · refine go_run mm_312 2 (pc' := 20) (ls' := [some (.ref 140), some (.int v1)]) (st' := [.int 1, .ref 140]) (S' := (wI S 140 0 0)) rfl ?_
    have e : ((b2i (!(f_182 v1 0 1))) : Int32) = 1 := by simp [b2i, hc1]
    rw [e] at j2
    exact j2
theorem b_312_59 {d c : Nat} {R : RT} {S : ST} {v1 : Int32} (e1 : R c (.inr (some (.int (S.1 140 20)))) (wI S 140 4 0)) : Go XM (d + 7) 312 c 59 [some (.ref 140), some (.int v1)] [] S R := by
  refine go_run mm_312 5 (pc' := 68) (ls' := [some (.ref 140), some (.int v1)]) (st' := [.int (S.1 140 20)]) (S' := (wI S 140 4 0)) rfl ?_
  exact go_ireturn mm_312 rfl rfl (e1)
section Vx
variable {d : Nat} {S : ST}
/-- the row aside, made out of the state's row: coordinates in the square, the things as they were -/
def Ra (S S1 : ST) : Prop := Fm [146] [] S S1 ∧ RB S1 146 ∧ ∀ j, j = 1 ∨ j = 2 ∨ (27 ≤ j ∧ j < 63) → S1.1 146 j = S.1 141 j
theorem Ra_w {S1 : ST} (h : Ra S S1) {q : Nat} (hq : 3 ≤ q ∧ q < 27) {v : Int32} (hv : 0 ≤ v.toInt ∧ v.toInt ≤ 15) : Ra S (wI S1 146 q v) := by
  refine ⟨h.1.tr (Fm_a (by decide)), fun j h1 h2 => ?_, fun j hj => ?_⟩
  · rw [wI_1]
    split
    · exact hv
    · exact h.2.1 j h1 h2
  · rw [wI_1, if_neg (fun z => by omega)]
    exact h.2.2 j hj
theorem Ra_0 {S1 : ST} (h : Ra S S1) {v : Int32} : Ra S (wI S1 146 0 v) := by
  refine ⟨h.1.tr (Fm_a (by decide)), fun j h1 h2 => ?_, fun j hj => ?_⟩
  · rw [wI_1, if_neg (fun z => by omega)]
    exact h.2.1 j h1 h2
  · rw [wI_1, if_neg (fun z => by omega)]
    exact h.2.2 j hj
theorem Ra_of (h : Qp S) {S1 : ST} (hF : Fm [146] [] S S1) (he : ∀ j, j < 63 → S1.1 146 j = S.1 141 j) : Ra S S1 := ⟨hF, fun j h1 h2 => by rw [he j (by omega)]; exact h.ld.1.1.2.2.1 j h1 h2, fun j hj => he j (by omega)⟩
/-- and on to 'becomes' -/
theorem Ra_go (h : Qp S) {B : ST} (hb : S.1 140 7 = B.1 140 7) {S1 : ST} (hR : Ra S S1) : Cal XM (d + 7) 304 [.ref 140] S1 (RC B) := by
  have hF0 : Fm [146] [0] S S1 := hR.1.wk (by decide) (by decide)
  have M1 := MOK_r h.1 hF0
  have hp1 : ¬ S1.1 140 1 = 0 := by rw [hR.1.fld (by decide) (by decide)]; exact h.2
  refine Cal.im (sq_304 ⟨M1, hp1⟩ hR.2.1 (TBq_e hR.2.2 (TBq_of h.ld.1.1 h.ld.2))) ?_
  rintro c o S2 ⟨rfl, v, rfl, hv, hm, h7⟩
  exact ⟨rfl, v, rfl, hv, hm, by rw [h7, hR.1.fld (by decide) (by decide)]; exact hb⟩
theorem f306_t {x y : Int32} (h : f_306 x y = false) : (0 ≤ x.toInt ∧ x.toInt ≤ 15) ∧ 0 ≤ y.toInt ∧ y.toInt ≤ 15 := by
  unfold f_306 at h
  simp only [Bool.or_eq_false_iff, Bool.not_eq_false'] at h
  exact ⟨f182_t.mp h.1, f182_t.mp h.2⟩
theorem q_307 (M : MOK S) {v1 v2 v3 : Int32} : Cal XM (d + 8) 307 [.ref 140, .int v1, .int v2, .int v3] S (RC S) := by
  refine cal_go 0 rfl (b_307_0 (fun _ => RC_q (Qq_t M _)) (fun _ _ => RC_q (Qq_tt M _ _)) (fun h1 h2 => ?_))
  obtain ⟨a1, a2, a3⟩ := nb_f h1
  have hx := f306_t (rf_f h2 (by decide))
  have qt := Qq_tt M (tb S v1 (S.1 141 0 - 1)) (rf (tb S v1 (S.1 141 0 - 1)) (f_306 v2 v3) 3)
  obtain ⟨hW, i, rfl, hi⟩ := vx_ix (M.2.1 a1).1 a2 a3
  have h12 := hW.2
  have hQ : Qp _ := ⟨qt.1, a1⟩
  have h7 := qt.2.fld (k := 7) (by decide) (by decide)
  generalize wI (wI S 140 0 (tb S (nJ i) (S.1 141 0 - 1))) 140 0 (rf (tb S (nJ i) (S.1 141 0 - 1)) (f_306 v2 v3) 3) = S0 at *
  refine go_cv mm_307 (h := 140) (As := []) (rest := []) (nl := 2) rfl XM_140 (show cvOK 307 25 391 305 0 2 11 = true by decide +kernel) rfl rfl rfl (sq_305 (d := d + 7)) (KP_P (fun v S1 k1 => ?_))
  obtain ⟨rfl, hF, he⟩ := k1
  have hR := Ra_of hQ hF he
  have i0 : (3 + nJ i : Int32) = nJ (3 + i) := nJ_add 3 i
  have i1 : (15 + nJ i : Int32) = nJ (15 + i) := nJ_add 15 i
  refine b_307_28 (by rw [i0]; exact nJ_inB (by omega) (by omega)) (by rw [i1]; exact nJ_inB (by omega) (by omega)) ?_
  rw [i0, i1, nJ_ix (by omega), nJ_ix (by omega)]
  refine go_cv mm_307 (h := 140) (As := []) (rest := []) (nl := 3) rfl XM_140 (show cvOK 307 48 394 304 0 3 11 = true by decide +kernel) rfl rfl rfl (Ra_go (B := S) hQ h7 (Ra_w (Ra_w hR (by omega) hx.1) (by omega) hx.2)) (KP_P (fun v S2 k2 => ?_))
  obtain ⟨⟨x, rfl⟩, k3⟩ := k2
  exact b_307_51 ⟨rfl, _, rfl, ⟨_, rfl⟩, k3⟩
theorem q_308 (M : MOK S) {v1 v2 v3 : Int32} : Cal XM (d + 8) 308 [.ref 140, .int v1, .int v2, .int v3] S (RC S) := by
  refine cal_go 1 rfl (b_308_0 (fun _ => RC_q (Qq_t M _)) (fun _ _ => RC_q (Qq_tt M _ _)) (fun h1 h2 => ?_))
  obtain ⟨a1, a2, a3⟩ := nb_f h1
  have h2' := rf_f h2 (by decide)
  rw [Bool.or_eq_false_iff] at h2'
  have hx := f306_t h2'.1
  have hn12 : ¬ S.1 141 0 = 12 := of_decide_eq_false h2'.2
  have qt := Qq_tt M (tb S v1 (S.1 141 0 - 1)) (rf (tb S v1 (S.1 141 0 - 1)) ((f_306 v2 v3) || (decide ((S.1 141 0) = 12))) 3)
  obtain ⟨hW, i, rfl, hi⟩ := vx_ix (M.2.1 a1).1 a2 a3
  have h12 := hW.2
  have h11 : rN S 141 ≤ 11 := by
    apply Classical.byContradiction
    intro q
    have e : rN S 141 = 12 := by omega
    apply hn12
    rw [hW.1, e]
    rfl
  have hQ : Qp _ := ⟨qt.1, a1⟩
  have h7 := qt.2.fld (k := 7) (by decide) (by decide)
  have e141 := qt.2.row (a := 141) (by decide) (by decide)
  generalize wI (wI S 140 0 (tb S (nJ i) (S.1 141 0 - 1))) 140 0 (rf (tb S (nJ i) (S.1 141 0 - 1)) ((f_306 v2 v3) || (decide ((S.1 141 0) = 12))) 3) = S0 at *
  refine go_cv mm_308 (h := 140) (As := []) (rest := []) (nl := 2) rfl XM_140 (show cvOK 308 44 391 305 0 2 11 = true by decide +kernel) rfl rfl rfl (sq_305 (d := d + 7)) (KP_P (fun v S1 k1 => ?_))
  obtain ⟨rfl, hF, he⟩ := k1
  have hR := Ra_of hQ hF he
  refine b_308_47 ?_
  have e1 : S1.1 141 = S.1 141 := (hF.row (by decide) (by decide)).trans e141
  rw [e1, hW.1]
  have hB : RB S 141 := (M.2.1 a1).1.1.2.2.1
  have key : ∀ m k S2, k = i + 1 + m → k ≤ rN S 141 → Ra S0 S2 → Go XM (d + 8) 308 0 55 [some (.ref 140), some (.int (nJ i)), some (.int v2), some (.int v3), some (.int (nJ k))] [] S2 (RC S) := by
    intro m
    induction m with
    | zero =>
      intro k S2 hk hkN hR2
      have hn : ¬ nJ i + 1 < nJ k := by rw [nJ_succ, nJ_lt (by omega) (by omega)]; omega
      have i0 : (3 + nJ i : Int32) + 1 = nJ (3 + i + 1) := by rw [show (3 + nJ i : Int32) = nJ (3 + i) from nJ_add 3 i, nJ_succ]
      have i1 : (15 + nJ i : Int32) + 1 = nJ (15 + i + 1) := by rw [show (15 + nJ i : Int32) = nJ (15 + i) from nJ_add 15 i, nJ_succ]
      refine b_308_55 (fun q => absurd q hn) (fun q => absurd q hn) (fun q => absurd q hn) (fun q => absurd q hn) (fun _ => by rw [i0]; exact nJ_inB (by omega) (by omega)) (fun _ => by rw [i1]; exact nJ_inB (by omega) (by omega)) (fun q => absurd q hn) (fun _ => ?_)
      rw [i0, i1, nJ_ix (by omega), nJ_ix (by omega)]
      refine go_cv mm_308 (h := 140) (As := []) (rest := []) (nl := 3) rfl XM_140 (show cvOK 308 145 394 304 0 3 11 = true by decide +kernel) rfl rfl rfl (Ra_go (B := S) hQ h7 (Ra_0 (Ra_w (Ra_w hR2 (by omega) hx.1) (by omega) hx.2))) (KP_P (fun v S3 k3 => ?_))
      obtain ⟨⟨x, rfl⟩, k4⟩ := k3
      exact b_308_148 ⟨rfl, _, rfl, ⟨_, rfl⟩, k4⟩
    | succ m ih =>
      intro k S2 hk hkN hR2
      have hlt : nJ i + 1 < nJ k := by rw [nJ_succ, nJ_lt (by omega) (by omega)]; omega
      have i0 : (3 + nJ k : Int32) = nJ (3 + k) := nJ_add 3 k
      have i1 : (15 + nJ k : Int32) = nJ (15 + k) := nJ_add 15 k
      have j0 : (3 + nJ k : Int32) - 1 = nJ (3 + k - 1) := by rw [i0]; exact nJ_sub (j := 1) (by omega)
      have j1 : (15 + nJ k : Int32) - 1 = nJ (15 + k - 1) := by rw [i1]; exact nJ_sub (j := 1) (by omega)
      refine b_308_55 (fun _ => by rw [j0]; exact nJ_inB (by omega) (by omega)) (fun _ => by rw [i0]; exact nJ_inB (by omega) (by omega)) (fun _ => by rw [j1]; exact nJ_inB (by omega) (by omega)) (fun _ => by rw [i1]; exact nJ_inB (by omega) (by omega)) (fun q => absurd hlt q) (fun q => absurd hlt q) (fun _ => ?_) (fun q => absurd hlt q)
      have e2 : S2.1 141 = S.1 141 := (hR2.1.row (by decide) (by decide)).trans e141
      rw [j0, j1, i0, i1, nJ_ix (by omega), nJ_ix (by omega), ra_n S2 141 (by omega), ra_n S2 141 (by omega), e2, nJ_dec (by omega)]
      exact ih (k - 1) _ (by omega) (by omega) (Ra_w (Ra_w hR2 (by omega) (hB _ (by omega) (by omega))) (by omega) (hB _ (by omega) (by omega)))
  exact key (rN S 141 - (i + 1)) (rN S 141) S1 (by omega) (Nat.le_refl _) hR
theorem q_309 (M : MOK S) {v1 : Int32} : Cal XM (d + 8) 309 [.ref 140, .int v1] S (RC S) := by
  refine cal_go 1 rfl (b_309_0 (fun _ => RC_q (Qq_t M _)) (fun _ _ => RC_q (Qq_tt M _ _)) (fun h1 h2 => ?_))
  obtain ⟨a1, a2, a3⟩ := nb_f h1
  have qt := Qq_tt M (tb S v1 (S.1 141 0 - 1)) (rf (tb S v1 (S.1 141 0 - 1)) (decide ((S.1 141 0) = 3)) 3)
  obtain ⟨hW, i, rfl, hi⟩ := vx_ix (M.2.1 a1).1 a2 a3
  have h12 := hW.2
  have h3 := (M.2.1 a1).1.1.2.1
  have hQ : Qp _ := ⟨qt.1, a1⟩
  have h7 := qt.2.fld (k := 7) (by decide) (by decide)
  have e141 := qt.2.row (a := 141) (by decide) (by decide)
  generalize wI (wI S 140 0 (tb S (nJ i) (S.1 141 0 - 1))) 140 0 (rf (tb S (nJ i) (S.1 141 0 - 1)) (decide ((S.1 141 0) = 3)) 3) = S0 at *
  refine go_cv mm_309 (h := 140) (As := []) (rest := []) (nl := 2) rfl XM_140 (show cvOK 309 34 391 305 0 2 11 = true by decide +kernel) rfl rfl rfl (sq_305 (d := d + 7)) (KP_P (fun v S1 k1 => ?_))
  obtain ⟨rfl, hF, he⟩ := k1
  have hR := Ra_of hQ hF he
  refine b_309_37 ?_
  have hB : RB S 141 := (M.2.1 a1).1.1.2.2.1
  have e0 : S1.1 146 0 - 1 = nJ (rN S 141 - 1) := by
    rw [he 0 (by omega), e141, hW.1]
    exact nJ_sub (j := 1) (by omega)
  rw [e0]
  have key : ∀ m k S2, k + m = rN S 141 - 1 ∨ (m = 0 ∧ rN S 141 - 1 ≤ k ∧ k < 12) → S2.1 146 0 = nJ (rN S 141 - 1) → Ra S0 S2 → Go XM (d + 8) 309 0 49 [some (.ref 140), some (.int (nJ i)), some (.int (nJ k))] [] S2 (RC S) := by
    intro m
    induction m with
    | zero =>
      intro k S2 hk h0 hR2
      have hn : ¬ nJ k < S2.1 146 0 := by rw [h0, nJ_lt (by omega) (by omega)]; omega
      refine b_309_49 (fun q => absurd q hn) (fun q => absurd q hn) (fun q => absurd q hn) (fun q => absurd q hn) (fun q => absurd q hn) (fun _ => ?_)
      refine go_cv mm_309 (h := 140) (As := []) (rest := []) (nl := 3) rfl XM_140 (show cvOK 309 104 394 304 0 3 11 = true by decide +kernel) rfl rfl rfl (Ra_go (B := S) hQ h7 hR2) (KP_P (fun v S3 k3 => ?_))
      obtain ⟨⟨x, rfl⟩, k4⟩ := k3
      exact b_309_107 ⟨rfl, _, rfl, ⟨_, rfl⟩, k4⟩
    | succ m ih =>
      intro k S2 hk h0 hR2
      have hk : k + (m + 1) = rN S 141 - 1 := by omega
      have hlt : nJ k < S2.1 146 0 := by rw [h0, nJ_lt (by omega) (by omega)]; omega
      have i0 : (3 + nJ k : Int32) = nJ (3 + k) := nJ_add 3 k
      have i1 : (15 + nJ k : Int32) = nJ (15 + k) := nJ_add 15 k
      have j0 : (3 + nJ k : Int32) + 1 = nJ (3 + k + 1) := by rw [i0, nJ_succ]
      have j1 : (15 + nJ k : Int32) + 1 = nJ (15 + k + 1) := by rw [i1, nJ_succ]
      refine b_309_49 (fun _ => by rw [j0]; exact nJ_inB (by omega) (by omega)) (fun _ => by rw [i0]; exact nJ_inB (by omega) (by omega)) (fun _ => by rw [j1]; exact nJ_inB (by omega) (by omega)) (fun _ => by rw [i1]; exact nJ_inB (by omega) (by omega)) (fun _ => ?_) (fun q => absurd hlt q)
      have e2 : S2.1 141 = S.1 141 := (hR2.1.row (by decide) (by decide)).trans e141
      rw [j0, j1, i0, i1, nJ_ix (by omega), nJ_ix (by omega), ra_n S2 141 (by omega), ra_n S2 141 (by omega), e2, nJ_succ]
      refine ih (k + 1) _ (Or.inl (by omega)) ?_ (Ra_w (Ra_w hR2 (by omega) (hB _ (by omega) (by omega))) (by omega) (hB _ (by omega) (by omega)))
      rw [wI_1, if_neg (fun z => by omega), wI_1, if_neg (fun z => by omega)]
      exact h0
  exact key (rN S 141 - 1 - i) i _ (by omega) (by rw [wI_1, if_pos ⟨rfl, rfl⟩]) (Ra_0 hR)
theorem MOK_4 {S : ST} (M : MOK S) {c c' : Nat} (hc : S.1 140 4 = nJ c) (hc' : c' ≤ c) (h8 : c ≤ 8) : MOK (wI S 140 4 (nJ c')) := by
  have hF : Fm [] [4] S (wI S 140 4 (nJ c')) := Fm_f (by decide)
  obtain ⟨a1, a2, ⟨c0, c1, c2, c3⟩, a4, a5, a6, a7⟩ := M
  have e : c0 = c := (nJ_eq (by omega) (by omega)).mp (c1.symm.trans hc)
  subst e
  exact ⟨a1, fun h1 => ⟨(Ld_fm (a2 h1).1 hF (by decide) (by decide) (by decide) (by decide) (by decide) (by decide)).1, (a2 h1).2⟩, ⟨c', rfl, by omega, fun k hk => c3 k (by omega)⟩, a4, fun h1 => Sv_fm (a5 h1) hF (by decide) (by decide) (by decide) (by decide), a6, a7⟩
theorem q_310 (M : MOK S) : Cal XM (d + 7) 310 [.ref 140] S (RC S) := by
  refine cal_go 0 rfl (b_310_0 (fun _ => RC_q (Qq_tt M _ _)) (fun h1 => ?_))
  have h0 : ¬ S.1 140 4 = 0 := of_decide_eq_false (rf_f h1 (by decide))
  have qt := Qq_tt M 0 (rf 0 (decide ((S.1 140 4) = 0)) 1)
  obtain ⟨c, c1, c2, c3⟩ := M.2.2.1
  have hc0 : 1 ≤ c := by
    apply Classical.byContradiction
    intro q
    have : c = 0 := by omega
    subst this
    exact h0 c1
  have ec : S.1 140 4 - 1 = nJ (c - 1) := by rw [c1]; exact nJ_sub (j := 1) (by omega)
  rw [ec, show (1 : Int32) + nJ (c - 1) = nJ (1 + (c - 1)) from nJ_add 1 (c - 1)]
  have M1 := MOK_4 qt.1 (c := c) (c' := c - 1) c1 (by omega) c2
  have h7 := qt.2.fld (k := 7) (by decide) (by decide)
  have g : GTh (sto (wI (wI (wI S 140 0 0) 140 0 (rf 0 (decide ((S.1 140 4) = 0)) 1)) 140 4 (nJ (c - 1))) (1 + (c - 1))) 0 := c3 (c - 1) (by omega)
  have h4 : (wI (wI (wI S 140 0 0) 140 0 (rf 0 (decide ((S.1 140 4) = 0)) 1)) 140 4 (nJ (c - 1))).1 140 7 = S.1 140 7 := h7
  generalize wI (wI (wI S 140 0 0) 140 0 (rf 0 (decide ((S.1 140 4) = 0)) 1)) 140 4 (nJ (c - 1)) = S1 at *
  refine go_cv mm_310 (h := 140) (As := [.int (nJ (1 + (c - 1)))]) (rest := []) (nl := 3) rfl XM_140 (show cvOK 310 44 397 298 1 3 11 = true by decide +kernel) rfl rfl rfl (sq_298 (d := d) (k := 1 + (c - 1)) (by omega) g) (KP_P (fun v S2 k2 => ?_))
  obtain ⟨rfl, hF, h27, hL, ht⟩ := k2
  exact b_310_47 ⟨rfl, _, rfl, ⟨_, rfl⟩, MOK_N M1 hF h27 hL ht, by rw [hF.fld (by decide) (by decide)]; exact h4⟩
theorem q_311 (M : MOK S) {v1 : Int32} : Cal XM (d + 4) 311 [.ref 140, .int v1] S (RC S) := by
  refine cal_go 0 rfl (b_311_0 (fun _ => RC_q (Qq_t M _)) (fun _ _ => RC_q (Qq_tt M _ _)) (fun h1 h2 => ?_))
  have a1 := np_f h1
  obtain ⟨b1, b2⟩ := in_f (rf_f h2 (by decide))
  have b2 : v1.toInt ≤ 1 := b2
  have qt := Qq_tt M (tz (decide (S.1 140 1 = 0)) 1) (rf (tz (decide (S.1 140 1 = 0)) 1) (!(f_182 v1 0 1)) 2)
  have hQ : Qp _ := ⟨qt.1, a1⟩
  have h7 := qt.2.fld (k := 7) (by decide) (by decide)
  generalize wI (wI S 140 0 (tz (decide (S.1 140 1 = 0)) 1)) 140 0 (rf (tz (decide (S.1 140 1 = 0)) 1) (!(f_182 v1 0 1)) 2) = S0 at *
  have ev : v1 = nJ v1.toNatClampNeg := nJ_of b1
  have lv : v1.toNatClampNeg < 2 := by show v1.toInt.toNat < 2; omega
  generalize v1.toNatClampNeg = s at *
  subst ev
  rw [show (9 : Int32) + nJ s = nJ (9 + s) from nJ_add 9 s]
  refine go_cv mm_311 (h := 140) (As := [.int (nJ (9 + s))]) (rest := []) (nl := 3) rfl XM_140 (show cvOK 311 36 382 297 1 3 11 = true by decide +kernel) rfl rfl rfl (sq_297 (d := d + 3) (k := 9 + s) (by omega)) (KP_P (fun v S1 k1 => ?_))
  obtain ⟨rfl, hF, hv⟩ := k1
  refine b_311_39 (nJ_inB (by omega) (by omega)) ?_
  rw [nJ_ix (by omega)]
  have hF2 : Fm [142, 143] [] S0 (wI S1 143 s 1) := (hF.wk (by decide) (by decide)).tr (Fm_a (by decide))
  have g : GTh S0 141 := ⟨hQ.ld.1.1, hQ.ld.2⟩
  obtain ⟨c1, c2, c3, c4, c5, c6, c7⟩ := hQ.1
  refine ⟨rfl, _, rfl, ⟨_, rfl⟩, ⟨by rw [hF2.fld (by decide) (by decide)]; exact c1, fun h1 => ?_, ?_, fun j hj h1 => ?_, fun h1 => ?_, by rw [hF2.fld (by decide) (by decide)]; exact c6, by rw [hF2.fld (by decide) (by decide)]; exact c7⟩, by rw [hF2.fld (by decide) (by decide)]; exact h7⟩
  · rw [hF2.fld (by decide) (by decide)] at h1
    exact ⟨(Ld_fm (c2 h1).1 hF2 (by decide) (by decide) (by decide) (by decide) (by decide) (by decide)).1, Th_r2 (hF2.row (by decide) (by decide)) (c2 h1).2⟩
  · obtain ⟨n, n1, n2, n3⟩ := c3
    refine ⟨n, by rw [hF2.fld (by decide) (by decide)]; exact n1, n2, fun k hk => GTh_c (S := sto S0 (1 + k)) (h := 0) (fun j hj => ?_) (n3 k hk)⟩
    show S1.1 142 (63 * (1 + k) + j) = S0.1 142 (63 * (1 + k) + j)
    rw [hv, if_neg (by omega)]
  · by_cases q : j = s
    · subst q
      refine GTh_c (S := S0) (h := 141) (fun i hi => ?_) g
      show S1.1 142 (63 * (9 + j) + i) = S0.1 141 i
      rw [hv, if_pos (by omega), show 63 * (9 + j) + i - 63 * (9 + j) = i by omega]
    · rw [wI_1, if_neg (fun z => q z.2), hF.row (a := 143) (by decide) (by decide)] at h1
      refine GTh_c (S := sto S0 (9 + j)) (h := 0) (fun i hi => ?_) (c4 j hj h1)
      show S1.1 142 (63 * (9 + j) + i) = S0.1 142 (63 * (9 + j) + i)
      rw [hv, if_neg (by omega)]
  · rw [hF2.fld (by decide) (by decide)] at h1
    exact Sv_fm (c5 h1) hF2 (by decide) (by decide) (by decide) (by decide)
theorem q_312 (M : MOK S) {v1 : Int32} : Cal XM (d + 7) 312 [.ref 140, .int v1] S (RC S) := by
  have in2 : (!(decide (rf 0 (!(f_182 v1 0 1)) 1 = 0))) = false → ∃ s, v1 = nJ s ∧ s < 2 := fun h => by
    obtain ⟨b1, b2⟩ := in_f (rf_f h (by decide))
    have b2 : v1.toInt ≤ 1 := b2
    exact ⟨v1.toNatClampNeg, nJ_of b1, by show v1.toInt.toNat < 2; omega⟩
  refine cal_go 0 rfl (b_312_0 (fun h => ?_) (fun _ => RC_q (Qq_tt M _ _)) (fun _ _ => RC_q ((Qq_tt M _ _).tr (Qq_t (Qq_tt M _ _).1 _))) (fun h1 h2 => ?_))
  · obtain ⟨s, rfl, hs⟩ := in2 h
    exact nJ_inB (by omega) (by omega)
  obtain ⟨s, rfl, hs⟩ := in2 h1
  have hk : ¬ ra S 143 (nJ s) = 0 := of_decide_eq_false (rf_f h2 (by decide))
  rw [ra_n S 143 (by omega)] at hk
  have qt := (Qq_tt M 0 (rf 0 (!(f_182 (nJ s) 0 1)) 1)).tr (Qq_t (Qq_tt M 0 (rf 0 (!(f_182 (nJ s) 0 1)) 1)).1 (rf (rf 0 (!(f_182 (nJ s) 0 1)) 1) (decide ((ra S 143 (nJ s)) = 0)) 2))
  have g := M.2.2.2.1 s hs hk
  have h7 := qt.2.fld (k := 7) (by decide) (by decide)
  have g' : GTh (sto (wI (wI (wI S 140 0 0) 140 0 (rf 0 (!(f_182 (nJ s) 0 1)) 1)) 140 0 (rf (rf 0 (!(f_182 (nJ s) 0 1)) 1) (decide ((ra S 143 (nJ s)) = 0)) 2)) (9 + s)) 0 := g
  generalize wI (wI (wI S 140 0 0) 140 0 (rf 0 (!(f_182 (nJ s) 0 1)) 1)) 140 0 (rf (rf 0 (!(f_182 (nJ s) 0 1)) 1) (decide ((ra S 143 (nJ s)) = 0)) 2) = S1 at *
  rw [show (9 : Int32) + nJ s = nJ (9 + s) from nJ_add 9 s]
  refine go_cv mm_312 (h := 140) (As := [.int (nJ (9 + s))]) (rest := []) (nl := 3) rfl XM_140 (show cvOK 312 56 397 298 1 3 11 = true by decide +kernel) rfl rfl rfl (sq_298 (d := d) (k := 9 + s) (by omega) g') (KP_P (fun v S2 k2 => ?_))
  obtain ⟨rfl, hF, h27, hL, ht⟩ := k2
  have M2 := MOK_N qt.1 hF h27 hL ht
  obtain ⟨c, c1, c2, -⟩ := M2.2.2.1
  exact b_312_59 ⟨rfl, _, rfl, ⟨_, rfl⟩, MOK_4 M2 (c' := 0) c1 (by omega) c2, by show S2.1 140 7 = _; rw [hF.fld (by decide) (by decide)]; exact h7⟩
end Vx
