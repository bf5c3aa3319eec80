theorem mm_300 : mtG 300 = some (mi_300, 12, ft_300) := rfl
set_option maxRecDepth 20000 in
theorem b_300_0 {d c : Nat} {R : RT} {S : ST} {v1 : Int32} {v2 : Int32} (e1 : (nb S v1 (S.1 140 20 - 1)) = true → R c (.inr (some (.int 0))) (wI S 140 0 (tb S v1 (S.1 140 20 - 1)))) (e2 : (nb S v1 (S.1 140 20 - 1)) = false → (!(decide (rf (tb S v1 (S.1 140 20 - 1)) (!(f_182 v2 0 99)) 3 = 0))) = true → R c (.inr (some (.int 0))) (wI (wI S 140 0 (tb S v1 (S.1 140 20 - 1))) 140 0 (rf (tb S v1 (S.1 140 20 - 1)) (!(f_182 v2 0 99)) 3))) (e3 : (nb S v1 (S.1 140 20 - 1)) = false → (!(decide (rf (tb S v1 (S.1 140 20 - 1)) (!(f_182 v2 0 99)) 3 = 0))) = false → (!(decide (rf (rf (tb S v1 (S.1 140 20 - 1)) (!(f_182 v2 0 99)) 3) (decide ((S.1 141 1) = 6)) 1 = 0))) = true → R c (.inr (some (.int 0))) (wI (wI (wI S 140 0 (tb S v1 (S.1 140 20 - 1))) 140 0 (rf (tb S v1 (S.1 140 20 - 1)) (!(f_182 v2 0 99)) 3)) 140 0 (rf (rf (tb S v1 (S.1 140 20 - 1)) (!(f_182 v2 0 99)) 3) (decide ((S.1 141 1) = 6)) 1))) (e4 : (nb S v1 (S.1 140 20 - 1)) = false → (!(decide (rf (tb S v1 (S.1 140 20 - 1)) (!(f_182 v2 0 99)) 3 = 0))) = false → (!(decide (rf (rf (tb S v1 (S.1 140 20 - 1)) (!(f_182 v2 0 99)) 3) (decide ((S.1 141 1) = 6)) 1 = 0))) = false → Go XM (d + 4) 300 c 58 [some (.ref 140), some (.int v1), some (.int v2), none] [.ref 140] (wI (wI (wI S 140 0 (tb S v1 (S.1 140 20 - 1))) 140 0 (rf (tb S v1 (S.1 140 20 - 1)) (!(f_182 v2 0 99)) 3)) 140 0 (rf (rf (tb S v1 (S.1 140 20 - 1)) (!(f_182 v2 0 99)) 3) (decide ((S.1 141 1) = 6)) 1)) R) : Go XM (d + 4) 300 c 0 [some (.ref 140), some (.int v1), some (.int v2), none] [] S R := by
  refine go_run mm_300 2 (pc' := 2) (ls' := [some (.ref 140), some (.int v1), some (.int v2), none]) (st' := [.int v1, .ref 140]) (S' := S) rfl ?_
  refine go_cv mm_300 (h := 140) (As := [.int v1]) (rest := []) (nl := 2) rfl XM_140 (show cvOK 300 2 254 226 1 2 11 = true by decide +kernel) rfl rfl rfl (sq_226) (KP_V ?_)
  refine go_ifb mm_300 rfl (p1 := 55) (p2 := 8) rfl (fun (hc1 : (nb S v1 (S.1 140 20 - 1)) = true) => ?_) (fun (hc1 : (nb S v1 (S.1 140 20 - 1)) = false) => ?_)
  · refine go_run mm_300 1 (pc' := 56) (ls' := [some (.ref 140), some (.int v1), some (.int v2), none]) (st' := [.int 0]) (S' := (wI S 140 0 (tb S v1 (S.1 140 20 - 1)))) rfl ?_
    exact go_ireturn mm_300 rfl rfl (e1 hc1)
  · refine go_run mm_300 4 (pc' := 13) (ls' := [some (.ref 140), some (.int v1), some (.int v2), none]) (st' := [.int 99, .int 0, .int v2, .ref 140]) (S' := (wI S 140 0 (tb S v1 (S.1 140 20 - 1)))) rfl ?_
    refine go_cs mm_300 (av := [.int v2, .int 0, .int 99]) (rest := [.ref 140]) (nl := 3) rfl (show csOK 300 13 148 182 3 3 = true by decide +kernel) rfl rfl rfl (sp_182) (KP_V ?_)
    have j2 : Go XM (d + 4) 300 c 24 [some (.ref 140), some (.int v1), some (.int v2), none] [.int (b2i (!(f_182 v2 0 99))), .ref 140] (wI S 140 0 (tb S v1 (S.1 140 20 - 1))) R := by
      refine go_run mm_300 1 (pc' := 25) (ls' := [some (.ref 140), some (.int v1), some (.int v2), none]) (st' := [.int 3, .int (b2i (!(f_182 v2 0 99))), .ref 140]) (S' := (wI S 140 0 (tb S v1 (S.1 140 20 - 1)))) rfl ?_
      refine go_cv mm_300 (h := 140) (As := [.int (b2i (!(f_182 v2 0 99))), .int 3]) (rest := []) (nl := 3) rfl XM_140 (show cvOK 300 25 86 183 2 3 11 = true by decide +kernel) rfl rfl rfl (sq_183) (KP_V ?_)
      refine go_ifb mm_300 rfl (p1 := 55) (p2 := 31) rfl (fun (hc2 : (!(decide (rf (tb S v1 (S.1 140 20 - 1)) (!(f_182 v2 0 99)) 3 = 0))) = true) => ?_) (fun (hc2 : (!(decide (rf (tb S v1 (S.1 140 20 - 1)) (!(f_182 v2 0 99)) 3 = 0))) = false) => ?_)
      · refine go_run mm_300 1 (pc' := 56) (ls' := [some (.ref 140), some (.int v1), some (.int v2), none]) (st' := [.int 0]) (S' := (wI (wI S 140 0 (tb S v1 (S.1 140 20 - 1))) 140 0 (rf (tb S v1 (S.1 140 20 - 1)) (!(f_182 v2 0 99)) 3))) rfl ?_
        exact go_ireturn mm_300 rfl rfl (e2 hc1 hc2)
      · refine go_run mm_300 4 (pc' := 37) (ls' := [some (.ref 140), some (.int v1), some (.int v2), none]) (st' := [.int 1, .ref 141, .ref 140]) (S' := (wI (wI S 140 0 (tb S v1 (S.1 140 20 - 1))) 140 0 (rf (tb S v1 (S.1 140 20 - 1)) (!(f_182 v2 0 99)) 3))) rfl ?_
        refine go_iaload mm_300 (q := 1) rfl rfl rfl (inB_lit rfl) ?_
        refine go_run mm_300 1 (pc' := 40) (ls' := [some (.ref 140), some (.int v1), some (.int v2), none]) (st' := [.int 6, .int (S.1 141 1), .ref 140]) (S' := (wI (wI S 140 0 (tb S v1 (S.1 140 20 - 1))) 140 0 (rf (tb S v1 (S.1 140 20 - 1)) (!(f_182 v2 0 99)) 3))) rfl ?_
        have j1 : Go XM (d + 4) 300 c 48 [some (.ref 140), some (.int v1), some (.int v2), none] [.int (b2i (decide ((S.1 141 1) = 6))), .ref 140] (wI (wI S 140 0 (tb S v1 (S.1 140 20 - 1))) 140 0 (rf (tb S v1 (S.1 140 20 - 1)) (!(f_182 v2 0 99)) 3)) R := by
          refine go_run mm_300 1 (pc' := 49) (ls' := [some (.ref 140), some (.int v1), some (.int v2), none]) (st' := [.int 1, .int (b2i (decide ((S.1 141 1) = 6))), .ref 140]) (S' := (wI (wI S 140 0 (tb S v1 (S.1 140 20 - 1))) 140 0 (rf (tb S v1 (S.1 140 20 - 1)) (!(f_182 v2 0 99)) 3))) rfl ?_
          refine go_cv mm_300 (h := 140) (As := [.int (b2i (decide ((S.1 141 1) = 6))), .int 1]) (rest := []) (nl := 3) rfl XM_140 (show cvOK 300 49 86 183 2 3 11 = true by decide +kernel) rfl rfl rfl (sq_183) (KP_V ?_)
          refine go_ifb mm_300 rfl (p1 := 55) (p2 := 57) rfl (fun (hc3 : (!(decide (rf (rf (tb S v1 (S.1 140 20 - 1)) (!(f_182 v2 0 99)) 3) (decide ((S.1 141 1) = 6)) 1 = 0))) = true) => ?_) (fun (hc3 : (!(decide (rf (rf (tb S v1 (S.1 140 20 - 1)) (!(f_182 v2 0 99)) 3) (decide ((S.1 141 1) = 6)) 1 = 0))) = false) => ?_)
          · refine go_run mm_300 1 (pc' := 56) (ls' := [some (.ref 140), some (.int v1), some (.int v2), none]) (st' := [.int 0]) (S' := (wI (wI (wI S 140 0 (tb S v1 (S.1 140 20 - 1))) 140 0 (rf (tb S v1 (S.1 140 20 - 1)) (!(f_182 v2 0 99)) 3)) 140 0 (rf (rf (tb S v1 (S.1 140 20 - 1)) (!(f_182 v2 0 99)) 3) (decide ((S.1 141 1) = 6)) 1))) rfl ?_
            exact go_ireturn mm_300 rfl rfl (e3 hc1 hc2 hc3)
          · refine go_run mm_300 1 (pc' := 58) (ls' := [some (.ref 140), some (.int v1), some (.int v2), none]) (st' := [.ref 140]) (S' := (wI (wI (wI S 140 0 (tb S v1 (S.1 140 20 - 1))) 140 0 (rf (tb S v1 (S.1 140 20 - 1)) (!(f_182 v2 0 99)) 3)) 140 0 (rf (rf (tb S v1 (S.1 140 20 - 1)) (!(f_182 v2 0 99)) 3) (decide ((S.1 141 1) = 6)) 1))) rfl ?_
            exact e4 hc1 hc2 hc3
        refine go_if2 mm_300 rfl (p1 := 43) (p2 := 47) rfl (fun (hc3 : (S.1 141 1) = 6) => ?_) (fun (hc3 : ¬ (S.1 141 1) = 6) => ?_)
        · refine go_run mm_300 2 (pc' := 48) (ls' := [some (.ref 140), some (.int v1), some (.int v2), none]) (st' := [.int 1, .ref 140]) (S' := (wI (wI S 140 0 (tb S v1 (S.1 140 20 - 1))) 140 0 (rf (tb S v1 (S.1 140 20 - 1)) (!(f_182 v2 0 99)) 3))) rfl ?_
          have e : ((b2i (decide ((S.1 141 1) = 6))) : Int32) = 1 := by simp [b2i, hc3]
          rw [e] at j1
          exact j1
        · refine go_run mm_300 1 (pc' := 48) (ls' := [some (.ref 140), some (.int v1), some (.int v2), none]) (st' := [.int 0, .ref 140]) (S' := (wI (wI S 140 0 (tb S v1 (S.1 140 20 - 1))) 140 0 (rf (tb S v1 (S.1 140 20 - 1)) (!(f_182 v2 0 99)) 3))) rfl ?_
          have e : ((b2i (decide ((S.1 141 1) = 6))) : Int32) = 0 := by simp [b2i, hc3]
          rw [e] at j1
          exact j1
    refine go_ifb mm_300 rfl (p1 := 23) (p2 := 19) rfl (fun (hc2 : (f_182 v2 0 99) = true) => ?_) (fun (hc2 : (f_182 v2 0 99) = false) => ?_)
    · refine go_run mm_300 1 (pc' := 24) (ls' := [some (.ref 140), some (.int v1), some (.int v2), none]) (st' := [.int 0, .ref 140]) (S' := (wI S 140 0 (tb S v1 (S.1 140 20 - 1)))) rfl ?_
      have e : ((b2i (!(f_182 v2 0 99))) : Int32) = 0 := by simp [b2i, hc2]
      rw [e] at j2
      exact j2
    · refine go_run mm_300 2 (pc' := 24) (ls' := [some (.ref 140), some (.int v1), some (.int v2), none]) (st' := [.int 1, .ref 140]) (S' := (wI S 140 0 (tb S v1 (S.1 140 20 - 1)))) rfl ?_
      have e : ((b2i (!(f_182 v2 0 99))) : Int32) = 1 := by simp [b2i, hc2]
      rw [e] at j2
      exact j2
set_option maxRecDepth 20000 in
theorem b_300_61 {d c : Nat} {R : RT} {S : ST} {v1 : Int32} {v2 : Int32} (o1 : inB v1 64) (o2 : inB (27 + (3 * (S.1 141 1))) 63) (o3 : inB ((27 + (3 * (S.1 141 1))) + 1) 63) (o4 : inB ((27 + (3 * (S.1 141 1))) + 2) 63) (e1 : R c (.inr (some (.int ((((wI (wI (wI S 141 (Int32.toNatClampNeg (27 + (3 * (S.1 141 1)))) (ra S 147 v1)) 141 (Int32.toNatClampNeg ((27 + (3 * (S.1 141 1))) + 1)) (ra S 148 v1)) 141 (Int32.toNatClampNeg ((27 + (3 * (S.1 141 1))) + 2)) v2).1 141 1) + 1) - 1)))) (wI (wI (wI (wI S 141 (Int32.toNatClampNeg (27 + (3 * (S.1 141 1)))) (ra S 147 v1)) 141 (Int32.toNatClampNeg ((27 + (3 * (S.1 141 1))) + 1)) (ra S 148 v1)) 141 (Int32.toNatClampNeg ((27 + (3 * (S.1 141 1))) + 2)) v2) 141 1 (((wI (wI (wI S 141 (Int32.toNatClampNeg (27 + (3 * (S.1 141 1)))) (ra S 147 v1)) 141 (Int32.toNatClampNeg ((27 + (3 * (S.1 141 1))) + 1)) (ra S 148 v1)) 141 (Int32.toNatClampNeg ((27 + (3 * (S.1 141 1))) + 2)) v2).1 141 1) + 1))) : Go XM (d + 4) 300 c 61 [some (.ref 140), some (.int v1), some (.int v2), none] [] S R := by
  refine go_run mm_300 5 (pc' := 69) (ls' := [some (.ref 140), some (.int v1), some (.int v2), none]) (st' := [.int 1, .ref 141, .int 3, .int 27]) (S' := S) rfl ?_
  refine go_iaload mm_300 (q := 1) rfl rfl rfl (inB_lit rfl) ?_
  refine go_run mm_300 9 (pc' := 83) (ls' := [some (.ref 140), some (.int v1), some (.int v2), some (.int (27 + (3 * (S.1 141 1))))]) (st' := [.int v1, .ref 147, .int (27 + (3 * (S.1 141 1))), .ref 141]) (S' := S) rfl ?_
  refine go_iaload mm_300 (q := (Int32.toNatClampNeg v1)) rfl rfl rfl (o1) ?_
  refine go_iastore mm_300 (q := (Int32.toNatClampNeg (27 + (3 * (S.1 141 1))))) rfl rfl rfl (o2) ?_
  refine go_run mm_300 8 (pc' := 97) (ls' := [some (.ref 140), some (.int v1), some (.int v2), some (.int (27 + (3 * (S.1 141 1))))]) (st' := [.int v1, .ref 148, .int ((27 + (3 * (S.1 141 1))) + 1), .ref 141]) (S' := (wI S 141 (Int32.toNatClampNeg (27 + (3 * (S.1 141 1)))) (ra S 147 v1))) rfl ?_
  refine go_iaload mm_300 (q := (Int32.toNatClampNeg v1)) rfl rfl rfl (o1) ?_
  refine go_iastore mm_300 (q := (Int32.toNatClampNeg ((27 + (3 * (S.1 141 1))) + 1))) rfl rfl rfl (o3) ?_
  refine go_run mm_300 6 (pc' := 107) (ls' := [some (.ref 140), some (.int v1), some (.int v2), some (.int (27 + (3 * (S.1 141 1))))]) (st' := [.int v2, .int ((27 + (3 * (S.1 141 1))) + 2), .ref 141]) (S' := (wI (wI S 141 (Int32.toNatClampNeg (27 + (3 * (S.1 141 1)))) (ra S 147 v1)) 141 (Int32.toNatClampNeg ((27 + (3 * (S.1 141 1))) + 1)) (ra S 148 v1))) rfl ?_
  refine go_iastore mm_300 (q := (Int32.toNatClampNeg ((27 + (3 * (S.1 141 1))) + 2))) rfl rfl rfl (o4) ?_
  refine go_run mm_300 4 (pc' := 114) (ls' := [some (.ref 140), some (.int v1), some (.int v2), some (.int (27 + (3 * (S.1 141 1))))]) (st' := [.int 1, .ref 141, .int 1, .ref 141]) (S' := (wI (wI (wI S 141 (Int32.toNatClampNeg (27 + (3 * (S.1 141 1)))) (ra S 147 v1)) 141 (Int32.toNatClampNeg ((27 + (3 * (S.1 141 1))) + 1)) (ra S 148 v1)) 141 (Int32.toNatClampNeg ((27 + (3 * (S.1 141 1))) + 2)) v2)) rfl ?_
  refine go_iaload mm_300 (q := 1) rfl rfl rfl (inB_lit rfl) ?_
  refine go_run mm_300 2 (pc' := 117) (ls' := [some (.ref 140), some (.int v1), some (.int v2), some (.int (27 + (3 * (S.1 141 1))))]) (st' := [.int (((wI (wI (wI S 141 (Int32.toNatClampNeg (27 + (3 * (S.1 141 1)))) (ra S 147 v1)) 141 (Int32.toNatClampNeg ((27 + (3 * (S.1 141 1))) + 1)) (ra S 148 v1)) 141 (Int32.toNatClampNeg ((27 + (3 * (S.1 141 1))) + 2)) v2).1 141 1) + 1), .int 1, .ref 141]) (S' := (wI (wI (wI S 141 (Int32.toNatClampNeg (27 + (3 * (S.1 141 1)))) (ra S 147 v1)) 141 (Int32.toNatClampNeg ((27 + (3 * (S.1 141 1))) + 1)) (ra S 148 v1)) 141 (Int32.toNatClampNeg ((27 + (3 * (S.1 141 1))) + 2)) v2)) rfl ?_
  refine go_iastore mm_300 (q := 1) rfl rfl rfl (inB_lit rfl) ?_
  refine go_run mm_300 3 (pc' := 123) (ls' := [some (.ref 140), some (.int v1), some (.int v2), some (.int (27 + (3 * (S.1 141 1))))]) (st' := [.int 1, .ref 141]) (S' := (wI (wI (wI (wI S 141 (Int32.toNatClampNeg (27 + (3 * (S.1 141 1)))) (ra S 147 v1)) 141 (Int32.toNatClampNeg ((27 + (3 * (S.1 141 1))) + 1)) (ra S 148 v1)) 141 (Int32.toNatClampNeg ((27 + (3 * (S.1 141 1))) + 2)) v2) 141 1 (((wI (wI (wI S 141 (Int32.toNatClampNeg (27 + (3 * (S.1 141 1)))) (ra S 147 v1)) 141 (Int32.toNatClampNeg ((27 + (3 * (S.1 141 1))) + 1)) (ra S 148 v1)) 141 (Int32.toNatClampNeg ((27 + (3 * (S.1 141 1))) + 2)) v2).1 141 1) + 1))) rfl ?_
  refine go_iaload mm_300 (q := 1) rfl rfl rfl (inB_lit rfl) ?_
  refine go_run mm_300 2 (pc' := 126) (ls' := [some (.ref 140), some (.int v1), some (.int v2), some (.int (27 + (3 * (S.1 141 1))))]) (st' := [.int ((((wI (wI (wI S 141 (Int32.toNatClampNeg (27 + (3 * (S.1 141 1)))) (ra S 147 v1)) 141 (Int32.toNatClampNeg ((27 + (3 * (S.1 141 1))) + 1)) (ra S 148 v1)) 141 (Int32.toNatClampNeg ((27 + (3 * (S.1 141 1))) + 2)) v2).1 141 1) + 1) - 1)]) (S' := (wI (wI (wI (wI S 141 (Int32.toNatClampNeg (27 + (3 * (S.1 141 1)))) (ra S 147 v1)) 141 (Int32.toNatClampNeg ((27 + (3 * (S.1 141 1))) + 1)) (ra S 148 v1)) 141 (Int32.toNatClampNeg ((27 + (3 * (S.1 141 1))) + 2)) v2) 141 1 (((wI (wI (wI S 141 (Int32.toNatClampNeg (27 + (3 * (S.1 141 1)))) (ra S 147 v1)) 141 (Int32.toNatClampNeg ((27 + (3 * (S.1 141 1))) + 1)) (ra S 148 v1)) 141 (Int32.toNatClampNeg ((27 + (3 * (S.1 141 1))) + 2)) v2).1 141 1) + 1))) rfl ?_
  exact go_ireturn mm_300 rfl rfl (e1)
theorem mm_301 : mtG 301 = some (mi_301, 12, ft_301) := rfl
theorem b_301_0 {d c : Nat} {R : RT} {S : ST} {v1 : Int32} (e1 : (nb S v1 (S.1 141 1 - 1)) = true → R c (.inr (some (.int 0))) (wI S 140 0 (tb S v1 (S.1 141 1 - 1)))) (e2 : (nb S v1 (S.1 141 1 - 1)) = false → Go XM (d + 4) 301 c 11 [some (.ref 140), some (.int v1), none] [.ref 140] (wI S 140 0 (tb S v1 (S.1 141 1 - 1))) R) : Go XM (d + 4) 301 c 0 [some (.ref 140), some (.int v1), none] [] S R := by
  refine go_run mm_301 2 (pc' := 2) (ls' := [some (.ref 140), some (.int v1), none]) (st' := [.int v1, .ref 140]) (S' := S) rfl ?_
  refine go_cv mm_301 (h := 140) (As := [.int v1]) (rest := []) (nl := 2) rfl XM_140 (show cvOK 301 2 356 227 1 2 11 = true by decide +kernel) rfl rfl rfl (sq_227) (KP_V ?_)
  refine go_ifb mm_301 rfl (p1 := 8) (p2 := 10) rfl (fun (hc1 : (nb S v1 (S.1 141 1 - 1)) = true) => ?_) (fun (hc1 : (nb S v1 (S.1 141 1 - 1)) = false) => ?_)
  · refine go_run mm_301 1 (pc' := 9) (ls' := [some (.ref 140), some (.int v1), none]) (st' := [.int 0]) (S' := (wI S 140 0 (tb S v1 (S.1 141 1 - 1)))) rfl ?_
    exact go_ireturn mm_301 rfl rfl (e1 hc1)
  · refine go_run mm_301 1 (pc' := 11) (ls' := [some (.ref 140), some (.int v1), none]) (st' := [.ref 140]) (S' := (wI S 140 0 (tb S v1 (S.1 141 1 - 1)))) rfl ?_
    exact e2 hc1
theorem b_301_14 {d c : Nat} {R : RT} {S : ST} {v1 : Int32} (e1 : Go XM (d + 4) 301 c 31 [some (.ref 140), some (.int v1), some (.int (27 + (3 * v1)))] [] (wI S 141 1 ((S.1 141 1) - 1)) R) : Go XM (d + 4) 301 c 14 [some (.ref 140), some (.int v1), none] [] S R := by
  refine go_run mm_301 4 (pc' := 20) (ls' := [some (.ref 140), some (.int v1), none]) (st' := [.int 1, .ref 141, .int 1, .ref 141]) (S' := S) rfl ?_
  refine go_iaload mm_301 (q := 1) rfl rfl rfl (inB_lit rfl) ?_
  refine go_run mm_301 2 (pc' := 23) (ls' := [some (.ref 140), some (.int v1), none]) (st' := [.int ((S.1 141 1) - 1), .int 1, .ref 141]) (S' := S) rfl ?_
  refine go_iastore mm_301 (q := 1) rfl rfl rfl (inB_lit rfl) ?_
  refine go_run mm_301 6 (pc' := 31) (ls' := [some (.ref 140), some (.int v1), some (.int (27 + (3 * v1)))]) (st' := []) (S' := (wI S 141 1 ((S.1 141 1) - 1))) rfl ?_
  exact e1
theorem b_301_31 {d c : Nat} {R : RT} {S : ST} {v1 : Int32} {v2 : Int32} (o1 : v2 < (27 + (3 * (S.1 141 1))) → inB (v2 + 3) 63) (o2 : v2 < (27 + (3 * (S.1 141 1))) → inB v2 63) (e1 : v2 < (27 + (3 * (S.1 141 1))) → Go XM (d + 4) 301 c 31 [some (.ref 140), some (.int v1), some (.int (v2 + 1))] [] (wI S 141 (Int32.toNatClampNeg v2) (ra S 141 (v2 + 3))) R) (e2 : ¬ v2 < (27 + (3 * (S.1 141 1))) → R c (.inr (some (.int (S.1 141 1)))) S) : Go XM (d + 4) 301 c 31 [some (.ref 140), some (.int v1), some (.int v2)] [] S R := by
  refine go_run mm_301 6 (pc' := 40) (ls' := [some (.ref 140), some (.int v1), some (.int v2)]) (st' := [.int 1, .ref 141, .int 3, .int 27, .int v2]) (S' := S) rfl ?_
  refine go_iaload mm_301 (q := 1) rfl rfl rfl (inB_lit rfl) ?_
  refine go_run mm_301 2 (pc' := 43) (ls' := [some (.ref 140), some (.int v1), some (.int v2)]) (st' := [.int (27 + (3 * (S.1 141 1))), .int v2]) (S' := S) rfl ?_
  refine go_if2 mm_301 rfl (p1 := 46) (p2 := 66) rfl (fun (hc1 : v2 < (27 + (3 * (S.1 141 1)))) => ?_) (fun (hc1 : ¬ v2 < (27 + (3 * (S.1 141 1)))) => ?_)
  · refine go_run mm_301 8 (pc' := 58) (ls' := [some (.ref 140), some (.int v1), some (.int v2)]) (st' := [.int (v2 + 3), .ref 141, .int v2, .ref 141]) (S' := S) rfl ?_
    refine go_iaload mm_301 (q := (Int32.toNatClampNeg (v2 + 3))) rfl rfl rfl (o1 hc1) ?_
    refine go_iastore mm_301 (q := (Int32.toNatClampNeg v2)) rfl rfl rfl (o2 hc1) ?_
    refine go_run mm_301 2 (pc' := 31) (ls' := [some (.ref 140), some (.int v1), some (.int (v2 + 1))]) (st' := []) (S' := (wI S 141 (Int32.toNatClampNeg v2) (ra S 141 (v2 + 3)))) rfl ?_
    exact e1 hc1
  · refine go_run mm_301 3 (pc' := 71) (ls' := [some (.ref 140), some (.int v1), some (.int v2)]) (st' := [.int 1, .ref 141]) (S' := S) rfl ?_
    refine go_iaload mm_301 (q := 1) rfl rfl rfl (inB_lit rfl) ?_
    exact go_ireturn mm_301 rfl rfl (e2 hc1)
theorem mm_302 : mtG 302 = some (mi_302, 12, ft_302) := rfl
set_option maxRecDepth 20000 in
theorem b_302_0 {d c : Nat} {R : RT} {S : ST} {v1 : Int32} {v2 : Int32} (e1 : (nb S v1 (S.1 141 1 - 1)) = true → R c (.inr (some (.int 0))) (wI S 140 0 (tb S v1 (S.1 141 1 - 1)))) (e2 : (nb S v1 (S.1 141 1 - 1)) = false → (!(decide (rf (tb S v1 (S.1 141 1 - 1)) (!(f_182 v2 0 ((S.1 140 20) - 1))) 2 = 0))) = true → R c (.inr (some (.int 0))) (wI (wI S 140 0 (tb S v1 (S.1 141 1 - 1))) 140 0 (rf (tb S v1 (S.1 141 1 - 1)) (!(f_182 v2 0 ((S.1 140 20) - 1))) 2))) (e3 : (nb S v1 (S.1 141 1 - 1)) = false → (!(decide (rf (tb S v1 (S.1 141 1 - 1)) (!(f_182 v2 0 ((S.1 140 20) - 1))) 2 = 0))) = false → Go XM (d + 4) 302 c 38 [some (.ref 140), some (.int v1), some (.int v2), none] [.ref 140] (wI (wI S 140 0 (tb S v1 (S.1 141 1 - 1))) 140 0 (rf (tb S v1 (S.1 141 1 - 1)) (!(f_182 v2 0 ((S.1 140 20) - 1))) 2)) R) : Go XM (d + 4) 302 c 0 [some (.ref 140), some (.int v1), some (.int v2), none] [] S R := by
  refine go_run mm_302 2 (pc' := 2) (ls' := [some (.ref 140), some (.int v1), some (.int v2), none]) (st' := [.int v1, .ref 140]) (S' := S) rfl ?_
  refine go_cv mm_302 (h := 140) (As := [.int v1]) (rest := []) (nl := 2) rfl XM_140 (show cvOK 302 2 356 227 1 2 11 = true by decide +kernel) rfl rfl rfl (sq_227) (KP_V ?_)
  refine go_ifb mm_302 rfl (p1 := 35) (p2 := 8) rfl (fun (hc1 : (nb S v1 (S.1 141 1 - 1)) = true) => ?_) (fun (hc1 : (nb S v1 (S.1 141 1 - 1)) = false) => ?_)
  · refine go_run mm_302 1 (pc' := 36) (ls' := [some (.ref 140), some (.int v1), some (.int v2), none]) (st' := [.int 0]) (S' := (wI S 140 0 (tb S v1 (S.1 141 1 - 1)))) rfl ?_
    exact go_ireturn mm_302 rfl rfl (e1 hc1)
  · refine go_run mm_302 7 (pc' := 17) (ls' := [some (.ref 140), some (.int v1), some (.int v2), none]) (st' := [.int ((S.1 140 20) - 1), .int 0, .int v2, .ref 140]) (S' := (wI S 140 0 (tb S v1 (S.1 141 1 - 1)))) rfl ?_
    refine go_cs mm_302 (av := [.int v2, .int 0, .int ((S.1 140 20) - 1)]) (rest := [.ref 140]) (nl := 3) rfl (show csOK 302 17 148 182 3 3 = true by decide +kernel) rfl rfl rfl (sp_182) (KP_V ?_)
    have j1 : Go XM (d + 4) 302 c 28 [some (.ref 140), some (.int v1), some (.int v2), none] [.int (b2i (!(f_182 v2 0 ((S.1 140 20) - 1)))), .ref 140] (wI S 140 0 (tb S v1 (S.1 141 1 - 1))) R := by
      refine go_run mm_302 1 (pc' := 29) (ls' := [some (.ref 140), some (.int v1), some (.int v2), none]) (st' := [.int 2, .int (b2i (!(f_182 v2 0 ((S.1 140 20) - 1)))), .ref 140]) (S' := (wI S 140 0 (tb S v1 (S.1 141 1 - 1)))) rfl ?_
      refine go_cv mm_302 (h := 140) (As := [.int (b2i (!(f_182 v2 0 ((S.1 140 20) - 1)))), .int 2]) (rest := []) (nl := 3) rfl XM_140 (show cvOK 302 29 86 183 2 3 11 = true by decide +kernel) rfl rfl rfl (sq_183) (KP_V ?_)
      refine go_ifb mm_302 rfl (p1 := 35) (p2 := 37) rfl (fun (hc2 : (!(decide (rf (tb S v1 (S.1 141 1 - 1)) (!(f_182 v2 0 ((S.1 140 20) - 1))) 2 = 0))) = true) => ?_) (fun (hc2 : (!(decide (rf (tb S v1 (S.1 141 1 - 1)) (!(f_182 v2 0 ((S.1 140 20) - 1))) 2 = 0))) = false) => ?_)
      · refine go_run mm_302 1 (pc' := 36) (ls' := [some (.ref 140), some (.int v1), some (.int v2), none]) (st' := [.int 0]) (S' := (wI (wI S 140 0 (tb S v1 (S.1 141 1 - 1))) 140 0 (rf (tb S v1 (S.1 141 1 - 1)) (!(f_182 v2 0 ((S.1 140 20) - 1))) 2))) rfl ?_
        exact go_ireturn mm_302 rfl rfl (e2 hc1 hc2)
      · refine go_run mm_302 1 (pc' := 38) (ls' := [some (.ref 140), some (.int v1), some (.int v2), none]) (st' := [.ref 140]) (S' := (wI (wI S 140 0 (tb S v1 (S.1 141 1 - 1))) 140 0 (rf (tb S v1 (S.1 141 1 - 1)) (!(f_182 v2 0 ((S.1 140 20) - 1))) 2))) rfl ?_
        exact e3 hc1 hc2
    refine go_ifb mm_302 rfl (p1 := 27) (p2 := 23) rfl (fun (hc2 : (f_182 v2 0 ((S.1 140 20) - 1)) = true) => ?_) (fun (hc2 : (f_182 v2 0 ((S.1 140 20) - 1)) = false) => ?_)
    · refine go_run mm_302 1 (pc' := 28) (ls' := [some (.ref 140), some (.int v1), some (.int v2), none]) (st' := [.int 0, .ref 140]) (S' := (wI S 140 0 (tb S v1 (S.1 141 1 - 1)))) rfl ?_
      have e : ((b2i (!(f_182 v2 0 ((S.1 140 20) - 1)))) : Int32) = 0 := by simp [b2i, hc2]
      rw [e] at j1
      exact j1
    · refine go_run mm_302 2 (pc' := 28) (ls' := [some (.ref 140), some (.int v1), some (.int v2), none]) (st' := [.int 1, .ref 140]) (S' := (wI S 140 0 (tb S v1 (S.1 141 1 - 1)))) rfl ?_
      have e : ((b2i (!(f_182 v2 0 ((S.1 140 20) - 1)))) : Int32) = 1 := by simp [b2i, hc2]
      rw [e] at j1
      exact j1
set_option maxRecDepth 20000 in
theorem b_302_41 {d c : Nat} {R : RT} {S : ST} {v1 : Int32} {v2 : Int32} (o1 : inB ((27 + (3 * v1)) + 0) 63) (o2 : inB ((27 + (3 * v1)) + 1) 63) (o3 : inB v2 64) (o4 : inB (27 + (3 * v1)) 63) (e1 : R c (.inr (some (.int (f_215 S (f_274 S v1 0) (f_274 S v1 1))))) (wI (wI S 141 (Int32.toNatClampNeg (27 + (3 * v1))) (ra S 147 v2)) 141 (Int32.toNatClampNeg ((27 + (3 * v1)) + 1)) (ra S 148 v2))) : Go XM (d + 4) 302 c 41 [some (.ref 140), some (.int v1), some (.int v2), none] [] S R := by
  refine go_run mm_302 4 (pc' := 45) (ls' := [some (.ref 140), some (.int v1), some (.int v2), none]) (st' := [.int 0, .int v1, .ref 140, .ref 140]) (S' := S) rfl ?_
  refine go_cv mm_302 (h := 140) (As := [.int v1, .int 0]) (rest := [.ref 140]) (nl := 3) rfl XM_140 (show cvOK 302 45 347 274 2 3 11 = true by decide +kernel) rfl rfl rfl (sp_274 (o1)) (KP_V ?_)
  refine go_run mm_302 3 (pc' := 51) (ls' := [some (.ref 140), some (.int v1), some (.int v2), none]) (st' := [.int 1, .int v1, .ref 140, .int (f_274 S v1 0), .ref 140]) (S' := S) rfl ?_
  refine go_cv mm_302 (h := 140) (As := [.int v1, .int 1]) (rest := [.int (f_274 S v1 0), .ref 140]) (nl := 3) rfl XM_140 (show cvOK 302 51 347 274 2 3 11 = true by decide +kernel) rfl rfl rfl (sp_274 (o2)) (KP_V ?_)
  refine go_cv mm_302 (h := 140) (As := [.int (f_274 S v1 0), .int (f_274 S v1 1)]) (rest := []) (nl := 3) rfl XM_140 (show cvOK 302 54 257 215 2 3 11 = true by decide +kernel) rfl rfl rfl (sq_215) (KP_V ?_)
  refine go_run mm_302 11 (pc' := 73) (ls' := [some (.ref 140), some (.int v1), some (.int v2), some (.int (f_215 S (f_274 S v1 0) (f_274 S v1 1)))]) (st' := [.int v2, .ref 147, .int (27 + (3 * v1)), .ref 141]) (S' := S) rfl ?_
  refine go_iaload mm_302 (q := (Int32.toNatClampNeg v2)) rfl rfl rfl (o3) ?_
  refine go_iastore mm_302 (q := (Int32.toNatClampNeg (27 + (3 * v1)))) rfl rfl rfl (o4) ?_
  refine go_run mm_302 12 (pc' := 92) (ls' := [some (.ref 140), some (.int v1), some (.int v2), some (.int (f_215 S (f_274 S v1 0) (f_274 S v1 1)))]) (st' := [.int v2, .ref 148, .int ((27 + (3 * v1)) + 1), .ref 141]) (S' := (wI S 141 (Int32.toNatClampNeg (27 + (3 * v1))) (ra S 147 v2))) rfl ?_
  refine go_iaload mm_302 (q := (Int32.toNatClampNeg v2)) rfl rfl rfl (o3) ?_
  refine go_iastore mm_302 (q := (Int32.toNatClampNeg ((27 + (3 * v1)) + 1))) rfl rfl rfl (o2) ?_
  refine go_run mm_302 1 (pc' := 95) (ls' := [some (.ref 140), some (.int v1), some (.int v2), some (.int (f_215 S (f_274 S v1 0) (f_274 S v1 1)))]) (st' := [.int (f_215 S (f_274 S v1 0) (f_274 S v1 1))]) (S' := (wI (wI S 141 (Int32.toNatClampNeg (27 + (3 * v1))) (ra S 147 v2)) 141 (Int32.toNatClampNeg ((27 + (3 * v1)) + 1)) (ra S 148 v2))) rfl ?_
  exact go_ireturn mm_302 rfl rfl (e1)
theorem mm_303 : mtG 303 = some (mi_303, 12, ft_303) := rfl
theorem b_303_0 {d c : Nat} {R : RT} {S : ST} {v1 : Int32} {v2 : Int32} (e1 : (nb S v1 (S.1 141 1 - 1)) = true → R c (.inr (some (.int 0))) (wI S 140 0 (tb S v1 (S.1 141 1 - 1)))) (e2 : (nb S v1 (S.1 141 1 - 1)) = false → (!(decide (rf (tb S v1 (S.1 141 1 - 1)) (!(f_182 v2 0 99)) 3 = 0))) = true → R c (.inr (some (.int 0))) (wI (wI S 140 0 (tb S v1 (S.1 141 1 - 1))) 140 0 (rf (tb S v1 (S.1 141 1 - 1)) (!(f_182 v2 0 99)) 3))) (e3 : (nb S v1 (S.1 141 1 - 1)) = false → (!(decide (rf (tb S v1 (S.1 141 1 - 1)) (!(f_182 v2 0 99)) 3 = 0))) = false → Go XM (d + 4) 303 c 34 [some (.ref 140), some (.int v1), some (.int v2), none] [.ref 140] (wI (wI S 140 0 (tb S v1 (S.1 141 1 - 1))) 140 0 (rf (tb S v1 (S.1 141 1 - 1)) (!(f_182 v2 0 99)) 3)) R) : Go XM (d + 4) 303 c 0 [some (.ref 140), some (.int v1), some (.int v2), none] [] S R := by
  refine go_run mm_303 2 (pc' := 2) (ls' := [some (.ref 140), some (.int v1), some (.int v2), none]) (st' := [.int v1, .ref 140]) (S' := S) rfl ?_
  refine go_cv mm_303 (h := 140) (As := [.int v1]) (rest := []) (nl := 2) rfl XM_140 (show cvOK 303 2 356 227 1 2 11 = true by decide +kernel) rfl rfl rfl (sq_227) (KP_V ?_)
  refine go_ifb mm_303 rfl (p1 := 31) (p2 := 8) rfl (fun (hc1 : (nb S v1 (S.1 141 1 - 1)) = true) => ?_) (fun (hc1 : (nb S v1 (S.1 141 1 - 1)) = false) => ?_)
  · refine go_run mm_303 1 (pc' := 32) (ls' := [some (.ref 140), some (.int v1), some (.int v2), none]) (st' := [.int 0]) (S' := (wI S 140 0 (tb S v1 (S.1 141 1 - 1)))) rfl ?_
    exact go_ireturn mm_303 rfl rfl (e1 hc1)
  · refine go_run mm_303 4 (pc' := 13) (ls' := [some (.ref 140), some (.int v1), some (.int v2), none]) (st' := [.int 99, .int 0, .int v2, .ref 140]) (S' := (wI S 140 0 (tb S v1 (S.1 141 1 - 1)))) rfl ?_
    refine go_cs mm_303 (av := [.int v2, .int 0, .int 99]) (rest := [.ref 140]) (nl := 3) rfl (show csOK 303 13 148 182 3 3 = true by decide +kernel) rfl rfl rfl (sp_182) (KP_V ?_)
    have j1 : Go XM (d + 4) 303 c 24 [some (.ref 140), some (.int v1), some (.int v2), none] [.int (b2i (!(f_182 v2 0 99))), .ref 140] (wI S 140 0 (tb S v1 (S.1 141 1 - 1))) R := by
      refine go_run mm_303 1 (pc' := 25) (ls' := [some (.ref 140), some (.int v1), some (.int v2), none]) (st' := [.int 3, .int (b2i (!(f_182 v2 0 99))), .ref 140]) (S' := (wI S 140 0 (tb S v1 (S.1 141 1 - 1)))) rfl ?_
      refine go_cv mm_303 (h := 140) (As := [.int (b2i (!(f_182 v2 0 99))), .int 3]) (rest := []) (nl := 3) rfl XM_140 (show cvOK 303 25 86 183 2 3 11 = true by decide +kernel) rfl rfl rfl (sq_183) (KP_V ?_)
      refine go_ifb mm_303 rfl (p1 := 31) (p2 := 33) rfl (fun (hc2 : (!(decide (rf (tb S v1 (S.1 141 1 - 1)) (!(f_182 v2 0 99)) 3 = 0))) = true) => ?_) (fun (hc2 : (!(decide (rf (tb S v1 (S.1 141 1 - 1)) (!(f_182 v2 0 99)) 3 = 0))) = false) => ?_)
      · refine go_run mm_303 1 (pc' := 32) (ls' := [some (.ref 140), some (.int v1), some (.int v2), none]) (st' := [.int 0]) (S' := (wI (wI S 140 0 (tb S v1 (S.1 141 1 - 1))) 140 0 (rf (tb S v1 (S.1 141 1 - 1)) (!(f_182 v2 0 99)) 3))) rfl ?_
        exact go_ireturn mm_303 rfl rfl (e2 hc1 hc2)
      · refine go_run mm_303 1 (pc' := 34) (ls' := [some (.ref 140), some (.int v1), some (.int v2), none]) (st' := [.ref 140]) (S' := (wI (wI S 140 0 (tb S v1 (S.1 141 1 - 1))) 140 0 (rf (tb S v1 (S.1 141 1 - 1)) (!(f_182 v2 0 99)) 3))) rfl ?_
        exact e3 hc1 hc2
    refine go_ifb mm_303 rfl (p1 := 23) (p2 := 19) rfl (fun (hc2 : (f_182 v2 0 99) = true) => ?_) (fun (hc2 : (f_182 v2 0 99) = false) => ?_)
    · refine go_run mm_303 1 (pc' := 24) (ls' := [some (.ref 140), some (.int v1), some (.int v2), none]) (st' := [.int 0, .ref 140]) (S' := (wI S 140 0 (tb S v1 (S.1 141 1 - 1)))) rfl ?_
      have e : ((b2i (!(f_182 v2 0 99))) : Int32) = 0 := by simp [b2i, hc2]
      rw [e] at j1
      exact j1
    · refine go_run mm_303 2 (pc' := 24) (ls' := [some (.ref 140), some (.int v1), some (.int v2), none]) (st' := [.int 1, .ref 140]) (S' := (wI S 140 0 (tb S v1 (S.1 141 1 - 1)))) rfl ?_
      have e : ((b2i (!(f_182 v2 0 99))) : Int32) = 1 := by simp [b2i, hc2]
      rw [e] at j1
      exact j1
theorem b_303_37 {d c : Nat} {R : RT} {S : ST} {v1 : Int32} {v2 : Int32} (o1 : inB ((27 + (3 * v1)) + 2) 63) (e1 : R c (.inr (some (.int (f_274 S v1 2)))) (wI S 141 (Int32.toNatClampNeg ((27 + (3 * v1)) + 2)) v2)) : Go XM (d + 4) 303 c 37 [some (.ref 140), some (.int v1), some (.int v2), none] [] S R := by
  refine go_run mm_303 3 (pc' := 40) (ls' := [some (.ref 140), some (.int v1), some (.int v2), none]) (st' := [.int 2, .int v1, .ref 140]) (S' := S) rfl ?_
  refine go_cv mm_303 (h := 140) (As := [.int v1, .int 2]) (rest := []) (nl := 3) rfl XM_140 (show cvOK 303 40 347 274 2 3 11 = true by decide +kernel) rfl rfl rfl (sp_274 (o1)) (KP_V ?_)
  refine go_run mm_303 11 (pc' := 57) (ls' := [some (.ref 140), some (.int v1), some (.int v2), some (.int (f_274 S v1 2))]) (st' := [.int v2, .int ((27 + (3 * v1)) + 2), .ref 141]) (S' := S) rfl ?_
  refine go_iastore mm_303 (q := (Int32.toNatClampNeg ((27 + (3 * v1)) + 2))) rfl rfl rfl (o1) ?_
  refine go_run mm_303 1 (pc' := 59) (ls' := [some (.ref 140), some (.int v1), some (.int v2), some (.int (f_274 S v1 2))]) (st' := [.int (f_274 S v1 2)]) (S' := (wI S 141 (Int32.toNatClampNeg ((27 + (3 * v1)) + 2)) v2)) rfl ?_
  exact go_ireturn mm_303 rfl rfl (e1)
theorem MOK_T {S S' : ST} (M : MOK S) (hp : ¬ S.1 140 1 = 0) (hF : Fm [141] [] S S') (e : Pe (S.1 141) (S'.1 141)) (ht : Th S' 141) : MOK S' := by
  obtain ⟨a1, a2, a3, a4, a5, a6, a7⟩ := M
  have ge : Ge S S' := ⟨e, hF.row (by decide) (by decide), hF.row (by decide) (by decide), hF.row (by decide) (by decide), hF.fld (by decide) (by decide), hF.rowL (by decide)⟩
  obtain ⟨b1, b2, b3, b4, b5⟩ := Ge_L ge (a2 hp).1
  refine ⟨by rw [hF.fld (by decide) (by decide)]; exact a1, fun _ => ⟨b1, ht⟩, ?_, fun j hj h1 => ?_, fun h1 => ?_, by rw [hF.fld (by decide) (by decide)]; exact a6, by rw [hF.fld (by decide) (by decide)]; exact a7⟩
  · obtain ⟨c, c1, c2, c3⟩ := a3
    exact ⟨c, by rw [hF.fld (by decide) (by decide)]; exact c1, c2, fun k hk => by rw [sto_fm hF (by decide)]; exact c3 k hk⟩
  · rw [hF.row (a := 143) (by decide) (by decide)] at h1
    rw [sto_fm hF (by decide)]
    exact a4 j hj h1
  · rw [hF.fld (by decide) (by decide)] at h1
    exact b5 (a5 h1)
theorem PK_row {S S' : ST} (h : PK S S') {a : Nat} (h1 : a ∉ [142]) (h2 : a ≠ 140) : S'.1 a = S.1 a := h.1.row h1 h2
section Ed
variable {d : Nat} {S : ST}
theorem Th_gs {S S' : ST} {h : Nat} (eL : rL S' h = rL S h) (ht : Th S h) {G : Nat} (g1 : S'.1 h 1 = nJ G) (g2 : G ≤ 6) (g3 : ∀ g, g < G → ge_cl 1 (rL S h) ((S'.1 h (27 + 3 * g)).toInt, (S'.1 h (28 + 3 * g)).toInt)) (e2 : S'.1 h 2 = S.1 h 2) (e3 : ∀ j, 45 ≤ j → S'.1 h j = S.1 h j) : Th S' h := by
  obtain ⟨-, T, t1, t2, t3⟩ := ht
  refine ⟨⟨G, g1, g2, fun g hg => by rw [eL]; exact g3 g hg⟩, T, by rw [e2]; exact t1, t2, fun t ht => ?_⟩
  rw [eL, e3 _ (by omega), e3 _ (by omega)]
  exact t3 t ht
theorem q_300 (M : MOK S) {v1 v2 : Int32} : Cal XM (d + 4) 300 [.ref 140, .int v1, .int v2] S (RC S) := by
  refine cal_go 1 rfl (b_300_0 (fun _ => RC_q (Qq_t M _)) (fun _ _ => RC_q (Qq_tt M _ _)) (fun _ _ _ => RC_q ((Qq_tt M _ _).tr (Qq_t (Qq_tt M _ _).1 _))) (fun h1 h2 h3 => ?_))
  obtain ⟨a1, a2, a3⟩ := nb_f h1
  have h6 : ¬ S.1 141 1 = 6 := of_decide_eq_false (rf_f h3 (by decide))
  have qt := (Qq_tt M (tb S v1 (S.1 140 20 - 1)) (rf (tb S v1 (S.1 140 20 - 1)) (!(f_182 v2 0 99)) 3)).tr (Qq_t (Qq_tt M (tb S v1 (S.1 140 20 - 1)) (rf (tb S v1 (S.1 140 20 - 1)) (!(f_182 v2 0 99)) 3)).1 (rf (rf (tb S v1 (S.1 140 20 - 1)) (!(f_182 v2 0 99)) 3) (decide ((S.1 141 1) = 6)) 1))
  obtain ⟨p, rfl, hp⟩ := pt_ix (M.2.1 a1).1 a2 a3
  have hQ : Qp _ := ⟨qt.1, a1⟩
  have e141 := qt.2.row (a := 141) (by decide) (by decide)
  have hnp := nP_q qt
  generalize wI (wI (wI S 140 0 (tb S (nJ p) (S.1 140 20 - 1))) 140 0 (rf (tb S (nJ p) (S.1 140 20 - 1)) (!(f_182 v2 0 99)) 3)) 140 0 (rf (rf (tb S (nJ p) (S.1 140 20 - 1)) (!(f_182 v2 0 99)) 3) (decide ((S.1 141 1) = 6)) 1) = S0 at *
  refine go_cv mm_300 (h := 140) (As := []) (rest := []) (nl := 2) rfl XM_140 (show cvOK 300 58 385 299 0 2 11 = true by decide +kernel) rfl rfl rfl (sq_299 (d := d + 2) hQ.1.2.2.1 ⟨hQ.ld.1.1, hQ.ld.2⟩) (KP_P (fun v S1 k1 => ?_))
  obtain ⟨rfl, hK⟩ := k1
  have M1 := MOK_K hQ.1 hK
  have hp1 : ¬ S1.1 140 1 = 0 := by rw [hK.1.fld (by decide) (by decide)]; exact hQ.2
  have hQ1 : Qp S1 := ⟨M1, hp1⟩
  have eS : S1.1 141 = S.1 141 := (PK_row hK (by decide) (by decide)).trans e141
  have e20 : nP S1 = nP S := by unfold nP; rw [inp_r2 eS]
  have h64 := (Ld_P hQ1.ld.1).2
  obtain ⟨⟨G, g1, g2, g3⟩, -⟩ := hQ1.ld.2
  have hG5 : G ≤ 5 := by
    apply Classical.byContradiction
    intro q
    have : G = 6 := by omega
    subst this
    rw [eS] at g1
    exact h6 g1
  obtain ⟨t, -, -, -, -, -, -, hcl⟩ := Ld_pt hQ1.ld.1 (p := p) (by omega)
  have i0 : (27 + (3 * (S1.1 141 1)) : Int32) = nJ (27 + 3 * G) := by rw [g1]; show nJ 27 + (nJ 3 * nJ G) = _; rw [nJ_mul, nJ_add]
  have i1 : (27 + (3 * (S1.1 141 1))) + 1 = nJ (27 + 3 * G + 1) := by rw [i0, nJ_succ]
  have i2 : (27 + (3 * (S1.1 141 1))) + 2 = nJ (27 + 3 * G + 2) := by rw [i0]; exact nJ_add _ 2
  refine b_300_61 (nJ_inB (by omega) (by omega)) ?_ ?_ ?_ ?_
  · rw [i0]; exact nJ_inB (by omega) (by omega)
  · rw [i1]; exact nJ_inB (by omega) (by omega)
  · rw [i2]; exact nJ_inB (by omega) (by omega)
  rw [i1, i2, i0, nJ_ix (by omega), nJ_ix (by omega), nJ_ix (by omega), ra_n S1 147 (by omega), ra_n S1 148 (by omega)]
  have ev : (wI (wI (wI S1 141 (27 + 3 * G) (S1.1 147 p)) 141 (27 + 3 * G + 1) (S1.1 148 p)) 141 (27 + 3 * G + 2) v2).1 141 1 = nJ G := by
    have n1 : ¬ 1 = 27 + 3 * G := by omega
    have n2 : ¬ 1 = 27 + 3 * G + 1 := by omega
    have n3 : ¬ 1 = 27 + 3 * G + 2 := by omega
    simp [wI_1, n1, n2, n3, g1]
  rw [ev, nJ_succ]
  have hF : Fm [141] [] S1 (wI (wI (wI (wI S1 141 (27 + 3 * G) (S1.1 147 p)) 141 (27 + 3 * G + 1) (S1.1 148 p)) 141 (27 + 3 * G + 2) v2) 141 1 (nJ (G + 1))) := (((Fm_a (by decide)).tr (Fm_a (by decide))).tr (Fm_a (by decide))).tr (Fm_a (by decide))
  have val : ∀ j, (wI (wI (wI (wI S1 141 (27 + 3 * G) (S1.1 147 p)) 141 (27 + 3 * G + 1) (S1.1 148 p)) 141 (27 + 3 * G + 2) v2) 141 1 (nJ (G + 1))).1 141 j = if j = 1 then nJ (G + 1) else if j = 27 + 3 * G + 2 then v2 else if j = 27 + 3 * G + 1 then S1.1 148 p else if j = 27 + 3 * G then S1.1 147 p else S1.1 141 j := by
    intro j
    simp [wI_1]
  generalize wI (wI (wI (wI S1 141 (27 + 3 * G) (S1.1 147 p)) 141 (27 + 3 * G + 1) (S1.1 148 p)) 141 (27 + 3 * G + 2) v2) 141 1 (nJ (G + 1)) = S2 at *
  have pe : Pe (S1.1 141) (S2.1 141) := fun j hj n1 n2 => by rw [val, if_neg n1, if_neg (by omega), if_neg (by omega), if_neg (by omega)]
  refine ⟨rfl, _, rfl, ⟨_, rfl⟩, MOK_T M1 hp1 hF pe ?_, ?_⟩
  · refine Th_gs (Pe_L pe hQ1.ld.1.1.1) hQ1.ld.2 (G := G + 1) (by rw [val, if_pos rfl]) (by omega) (fun g hg => ?_) ?_ (fun j hj => ?_)
    · by_cases q : g = G
      · subst q
        rw [val, if_neg (by omega), if_neg (by omega), if_neg (by omega), if_pos rfl, val, if_neg (by omega), if_neg (by omega), if_pos (by omega)]
        exact hcl
      · rw [val, if_neg (by omega), if_neg (by omega), if_neg (by omega), if_neg (by omega), val, if_neg (by omega), if_neg (by omega), if_neg (by omega), if_neg (by omega)]
        exact g3 g (by omega)
    · rw [val, if_neg (by omega), if_neg (by omega), if_neg (by omega), if_neg (by omega)]
    · rw [val, if_neg (by omega), if_neg (by omega), if_neg (by omega), if_neg (by omega)]
  · rw [hF.fld (by decide) (by decide), hK.1.fld (by decide) (by decide), qt.2.fld (by decide) (by decide)]
theorem q_301 (M : MOK S) {v1 : Int32} : Cal XM (d + 4) 301 [.ref 140, .int v1] S (RC S) := by
  refine cal_go 1 rfl (b_301_0 (fun _ => RC_q (Qq_t M _)) (fun h1 => ?_))
  obtain ⟨a1, a2, a3⟩ := nb_f h1
  have qt := Qq_t M (tb S v1 (S.1 141 1 - 1))
  obtain ⟨G, g, g1, g2, rfl, hg, g3⟩ := gd_ix (M.2.1 a1).2 a2 a3
  have hQ : Qp _ := ⟨qt.1, a1⟩
  have e141 := qt.2.row (a := 141) (by decide) (by decide)
  generalize wI S 140 0 (tb S (nJ g) (S.1 141 1 - 1)) = S0 at *
  refine go_cv mm_301 (h := 140) (As := []) (rest := []) (nl := 2) rfl XM_140 (show cvOK 301 11 385 299 0 2 11 = true by decide +kernel) rfl rfl rfl (sq_299 (d := d + 2) hQ.1.2.2.1 ⟨hQ.ld.1.1, hQ.ld.2⟩) (KP_P (fun v S1 k1 => ?_))
  obtain ⟨rfl, hK⟩ := k1
  have M1 := MOK_K hQ.1 hK
  have hp1 : ¬ S1.1 140 1 = 0 := by rw [hK.1.fld (by decide) (by decide)]; exact hQ.2
  have hQ1 : Qp S1 := ⟨M1, hp1⟩
  have eS : S1.1 141 = S.1 141 := (PK_row hK (by decide) (by decide)).trans e141
  have gG : S1.1 141 1 = nJ G := by rw [eS]; exact g1
  have eL : rL S1 141 = rL S 141 := rL_r2 eS
  refine b_301_14 ?_
  have i0 : (27 + (3 * nJ g) : Int32) = nJ (27 + 3 * g) := by show nJ 27 + (nJ 3 * nJ g) = _; rw [nJ_mul, nJ_add]
  have iG : S1.1 141 1 - 1 = nJ (G - 1) := by rw [gG]; exact nJ_sub (j := 1) (by omega)
  rw [i0, iG]
  have key : ∀ m i S2, i + m = 27 + 3 * (G - 1) → 27 + 3 * g ≤ i → Fm [141] [] S1 S2 → (∀ j, S2.1 141 j = if j = 1 then nJ (G - 1) else if 27 + 3 * g ≤ j ∧ j < i then S1.1 141 (j + 3) else S1.1 141 j) → Go XM (d + 4) 301 0 31 [some (.ref 140), some (.int (nJ g)), some (.int (nJ i))] [] S2 (RC S) := by
    intro m
    induction m with
    | zero =>
      intro i S2 hi hgi hF hv
      have c1 : S2.1 141 1 = nJ (G - 1) := by rw [hv, if_pos rfl]
      have ib : (27 + (3 * (S2.1 141 1)) : Int32) = nJ (27 + 3 * (G - 1)) := by rw [c1]; show nJ 27 + (nJ 3 * nJ (G - 1)) = _; rw [nJ_mul, nJ_add]
      have hn : ¬ nJ i < 27 + (3 * (S2.1 141 1)) := by rw [ib, nJ_lt (by omega) (by omega)]; omega
      have pe : Pe (S1.1 141) (S2.1 141) := fun j hj n1 n2 => by rw [hv, if_neg n1, if_neg (by omega)]
      refine b_301_31 (fun q => absurd q hn) (fun q => absurd q hn) (fun q => absurd q hn) (fun _ => ⟨rfl, _, rfl, ⟨_, rfl⟩, MOK_T M1 hp1 hF pe ?_, ?_⟩)
      · refine Th_gs (Pe_L pe hQ1.ld.1.1.1) hQ1.ld.2 (G := G - 1) c1 (by omega) (fun g' hg' => ?_) ?_ (fun j hj => ?_)
        · rw [eL]
          by_cases q : g' < g
          · rw [hv, if_neg (by omega), if_neg (by omega), hv, if_neg (by omega), if_neg (by omega), eS]
            exact g3 g' (by omega)
          · rw [hv, if_neg (by omega), if_pos (by omega), hv, if_neg (by omega), if_pos (by omega), eS, show 27 + 3 * g' + 3 = 27 + 3 * (g' + 1) by omega, show 28 + 3 * g' + 3 = 28 + 3 * (g' + 1) by omega]
            exact g3 (g' + 1) (by omega)
        · rw [hv, if_neg (by omega), if_neg (by omega)]
        · rw [hv, if_neg (by omega), if_neg (by omega)]
      · rw [hF.fld (by decide) (by decide), hK.1.fld (by decide) (by decide), qt.2.fld (by decide) (by decide)]
    | succ m ih =>
      intro i S2 hi hgi hF hv
      have c1 : S2.1 141 1 = nJ (G - 1) := by rw [hv, if_pos rfl]
      have ib : (27 + (3 * (S2.1 141 1)) : Int32) = nJ (27 + 3 * (G - 1)) := by rw [c1]; show nJ 27 + (nJ 3 * nJ (G - 1)) = _; rw [nJ_mul, nJ_add]
      have hlt : nJ i < 27 + (3 * (S2.1 141 1)) := by rw [ib, nJ_lt (by omega) (by omega)]; omega
      have ea : nJ i + 3 = nJ (i + 3) := nJ_add i 3
      refine b_301_31 (fun _ => by rw [ea]; exact nJ_inB (by omega) (by omega)) (fun _ => nJ_inB (by omega) (by omega)) (fun _ => ?_) (fun q => absurd hlt q)
      have e0 : S2.1 141 (i + 3) = S1.1 141 (i + 3) := by rw [hv, if_neg (by omega), if_neg (by omega)]
      rw [nJ_succ, ea, nJ_ix (by omega), ra_n S2 141 (by omega), e0]
      refine ih (i + 1) _ (by omega) (by omega) (hF.tr (Fm_a (by decide))) (fun j => ?_)
      rw [wI_1]
      by_cases q : j = i
      · subst q
        rw [if_pos ⟨rfl, rfl⟩, if_neg (by omega), if_pos (by omega)]
      · rw [if_neg (fun z => q z.2), hv j]
        by_cases q1 : j = 1
        · rw [if_pos q1, if_pos q1]
        · rw [if_neg q1, if_neg q1]
          by_cases q2 : 27 + 3 * g ≤ j ∧ j < i
          · rw [if_pos q2, if_pos (by omega)]
          · rw [if_neg q2, if_neg (by omega)]
  refine key (3 * (G - 1) - 3 * g) (27 + 3 * g) _ (by omega) (by omega) (Fm_a (by decide)) (fun j => ?_)
  rw [wI_1]
  by_cases q : j = 1
  · subst q
    rw [if_pos ⟨rfl, rfl⟩, if_pos rfl]
  · rw [if_neg (fun z => q z.2), if_neg q, if_neg (by omega)]
theorem q_302 (M : MOK S) {v1 v2 : Int32} : Cal XM (d + 4) 302 [.ref 140, .int v1, .int v2] S (RC S) := by
  refine cal_go 1 rfl (b_302_0 (fun _ => RC_q (Qq_t M _)) (fun _ _ => RC_q (Qq_tt M _ _)) (fun h1 h2 => ?_))
  obtain ⟨a1, a2, a3⟩ := nb_f h1
  obtain ⟨b1, b2⟩ := in_f (rf_f h2 (by decide))
  have qt := Qq_tt M (tb S v1 (S.1 141 1 - 1)) (rf (tb S v1 (S.1 141 1 - 1)) (!(f_182 v2 0 ((S.1 140 20) - 1))) 2)
  obtain ⟨G, g, g1, g2, rfl, hg, g3⟩ := gd_ix (M.2.1 a1).2 a2 a3
  obtain ⟨p, rfl, hp⟩ := pt_ix (M.2.1 a1).1 b1 b2
  have hQ : Qp _ := ⟨qt.1, a1⟩
  have e141 := qt.2.row (a := 141) (by decide) (by decide)
  generalize wI (wI S 140 0 (tb S (nJ g) (S.1 141 1 - 1))) 140 0 (rf (tb S (nJ g) (S.1 141 1 - 1)) (!(f_182 (nJ p) 0 ((S.1 140 20) - 1))) 2) = S0 at *
  refine go_cv mm_302 (h := 140) (As := []) (rest := []) (nl := 2) rfl XM_140 (show cvOK 302 38 385 299 0 2 11 = true by decide +kernel) rfl rfl rfl (sq_299 (d := d + 2) hQ.1.2.2.1 ⟨hQ.ld.1.1, hQ.ld.2⟩) (KP_P (fun v S1 k1 => ?_))
  obtain ⟨rfl, hK⟩ := k1
  have M1 := MOK_K hQ.1 hK
  have hp1 : ¬ S1.1 140 1 = 0 := by rw [hK.1.fld (by decide) (by decide)]; exact hQ.2
  have hQ1 : Qp S1 := ⟨M1, hp1⟩
  have eS : S1.1 141 = S.1 141 := (PK_row hK (by decide) (by decide)).trans e141
  have gG : S1.1 141 1 = nJ G := by rw [eS]; exact g1
  have eL : rL S1 141 = rL S 141 := rL_r2 eS
  have en : nP S1 = nP S := by unfold nP; rw [inp_r2 eS]
  have h64 := (Ld_P hQ1.ld.1).2
  obtain ⟨t, -, -, -, -, -, -, hcl⟩ := Ld_pt hQ1.ld.1 (p := p) (by omega)
  have i0 : (27 + (3 * nJ g) : Int32) = nJ (27 + 3 * g) := by show nJ 27 + (nJ 3 * nJ g) = _; rw [nJ_mul, nJ_add]
  have i1 : (27 + (3 * nJ g)) + 1 = nJ (27 + 3 * g + 1) := by rw [i0, nJ_succ]
  refine b_302_41 (in274 (k := 0) (by omega) (by omega)) (in274 (k := 1) (by omega) (by omega)) (nJ_inB (by omega) (by omega)) (by rw [i0]; exact nJ_inB (by omega) (by omega)) ?_
  rw [i1, i0, nJ_ix (by omega), nJ_ix (by omega), ra_n S1 147 (by omega), ra_n S1 148 (by omega)]
  have hF : Fm [141] [] S1 (wI (wI S1 141 (27 + 3 * g) (S1.1 147 p)) 141 (27 + 3 * g + 1) (S1.1 148 p)) := (Fm_a (by decide)).tr (Fm_a (by decide))
  have val : ∀ j, (wI (wI S1 141 (27 + 3 * g) (S1.1 147 p)) 141 (27 + 3 * g + 1) (S1.1 148 p)).1 141 j = if j = 27 + 3 * g + 1 then S1.1 148 p else if j = 27 + 3 * g then S1.1 147 p else S1.1 141 j := by
    intro j
    simp [wI_1]
  generalize wI (wI S1 141 (27 + 3 * g) (S1.1 147 p)) 141 (27 + 3 * g + 1) (S1.1 148 p) = S2 at *
  have pe : Pe (S1.1 141) (S2.1 141) := fun j hj n1 n2 => by rw [val, if_neg (by omega), if_neg (by omega)]
  refine ⟨rfl, _, rfl, ⟨_, rfl⟩, MOK_T M1 hp1 hF pe ?_, ?_⟩
  · refine Th_gs (Pe_L pe hQ1.ld.1.1.1) hQ1.ld.2 (G := G) (by rw [val, if_neg (by omega), if_neg (by omega)]; exact gG) (by omega) (fun g' hg' => ?_) ?_ (fun j hj => ?_)
    · by_cases q : g' = g
      · subst q
        rw [val, if_neg (by omega), if_pos rfl, val, if_pos (by omega)]
        exact hcl
      · rw [val, if_neg (by omega), if_neg (by omega), val, if_neg (by omega), if_neg (by omega), eS, eL]
        exact g3 g' hg'
    · rw [val, if_neg (by omega), if_neg (by omega)]
    · rw [val, if_neg (by omega), if_neg (by omega)]
  · rw [hF.fld (by decide) (by decide), hK.1.fld (by decide) (by decide), qt.2.fld (by decide) (by decide)]
theorem q_303 (M : MOK S) {v1 v2 : Int32} : Cal XM (d + 4) 303 [.ref 140, .int v1, .int v2] S (RC S) := by
  refine cal_go 1 rfl (b_303_0 (fun _ => RC_q (Qq_t M _)) (fun _ _ => RC_q (Qq_tt M _ _)) (fun h1 h2 => ?_))
  obtain ⟨a1, a2, a3⟩ := nb_f h1
  have qt := Qq_tt M (tb S v1 (S.1 141 1 - 1)) (rf (tb S v1 (S.1 141 1 - 1)) (!(f_182 v2 0 99)) 3)
  obtain ⟨G, g, g1, g2, rfl, hg, g3⟩ := gd_ix (M.2.1 a1).2 a2 a3
  have hQ : Qp _ := ⟨qt.1, a1⟩
  have e141 := qt.2.row (a := 141) (by decide) (by decide)
  generalize wI (wI S 140 0 (tb S (nJ g) (S.1 141 1 - 1))) 140 0 (rf (tb S (nJ g) (S.1 141 1 - 1)) (!(f_182 v2 0 99)) 3) = S0 at *
  refine go_cv mm_303 (h := 140) (As := []) (rest := []) (nl := 2) rfl XM_140 (show cvOK 303 34 385 299 0 2 11 = true by decide +kernel) rfl rfl rfl (sq_299 (d := d + 2) hQ.1.2.2.1 ⟨hQ.ld.1.1, hQ.ld.2⟩) (KP_P (fun v S1 k1 => ?_))
  obtain ⟨rfl, hK⟩ := k1
  have M1 := MOK_K hQ.1 hK
  have hp1 : ¬ S1.1 140 1 = 0 := by rw [hK.1.fld (by decide) (by decide)]; exact hQ.2
  have hQ1 : Qp S1 := ⟨M1, hp1⟩
  have eS : S1.1 141 = S.1 141 := (PK_row hK (by decide) (by decide)).trans e141
  have gG : S1.1 141 1 = nJ G := by rw [eS]; exact g1
  have eL : rL S1 141 = rL S 141 := rL_r2 eS
  have i2 : (27 + (3 * nJ g)) + 2 = nJ (27 + 3 * g + 2) := ix27 (b := 27) (k := 2) (by omega) (by omega) (by omega)
  refine b_303_37 (in274 (k := 2) (by omega) (by omega)) ?_
  rw [i2, nJ_ix (by omega)]
  have hF : Fm [141] [] S1 (wI S1 141 (27 + 3 * g + 2) v2) := Fm_a (by decide)
  have val : ∀ j, (wI S1 141 (27 + 3 * g + 2) v2).1 141 j = if j = 27 + 3 * g + 2 then v2 else S1.1 141 j := by
    intro j
    simp [wI_1]
  generalize wI S1 141 (27 + 3 * g + 2) v2 = S2 at *
  have pe : Pe (S1.1 141) (S2.1 141) := fun j hj n1 n2 => by rw [val, if_neg (by omega)]
  refine ⟨rfl, _, rfl, ⟨_, rfl⟩, MOK_T M1 hp1 hF pe ?_, ?_⟩
  · refine Th_gs (Pe_L pe hQ1.ld.1.1.1) hQ1.ld.2 (G := G) (by rw [val, if_neg (by omega)]; exact gG) (by omega) (fun g' hg' => ?_) ?_ (fun j hj => ?_)
    · rw [val, if_neg (by omega), val, if_neg (by omega), eS, eL]
      exact g3 g' hg'
    · rw [val, if_neg (by omega)]
    · rw [val, if_neg (by omega)]
  · rw [hF.fld (by decide) (by decide), hK.1.fld (by decide) (by decide), qt.2.fld (by decide) (by decide)]
end Ed
