theorem mm_264 : mtG 264 = some (mi_264, 12, ft_264) := rfl
theorem b_264_0 {d c : Nat} {R : RT} {S : ST} (e1 : (decide (S.1 140 1 = 0)) = true → R c (.inr (some (.int 0))) (wI S 140 0 (tz (decide (S.1 140 1 = 0)) 1))) (e2 : (decide (S.1 140 1 = 0)) = false → Go XM (d + 13) 264 c 10 [some (.ref 140)] [.ref 140] (wI S 140 0 (tz (decide (S.1 140 1 = 0)) 1)) R) : Go XM (d + 13) 264 c 0 [some (.ref 140)] [] S R := by
  refine go_run mm_264 1 (pc' := 1) (ls' := [some (.ref 140)]) (st' := [.ref 140]) (S' := S) rfl ?_
  refine go_cv mm_264 (h := 140) (As := []) (rest := []) (nl := 1) rfl XM_140 (show cvOK 264 1 247 184 0 1 11 = true by decide +kernel) rfl rfl rfl (sq_184) (KP_V ?_)
  refine go_ifb mm_264 rfl (p1 := 7) (p2 := 9) rfl (fun (hc1 : (decide (S.1 140 1 = 0)) = true) => ?_) (fun (hc1 : (decide (S.1 140 1 = 0)) = false) => ?_)
  · refine go_run mm_264 1 (pc' := 8) (ls' := [some (.ref 140)]) (st' := [.int 0]) (S' := (wI S 140 0 (tz (decide (S.1 140 1 = 0)) 1))) rfl ?_
    exact go_ireturn mm_264 rfl rfl (e1 hc1)
  · refine go_run mm_264 1 (pc' := 10) (ls' := [some (.ref 140)]) (st' := [.ref 140]) (S' := (wI S 140 0 (tz (decide (S.1 140 1 = 0)) 1))) rfl ?_
    exact e2 hc1
theorem b_264_13 {d c : Nat} {R : RT} {S : ST} (e1 : R c (.inr (some (.int (S.1 140 34)))) S) : Go XM (d + 13) 264 c 13 [some (.ref 140)] [] S R := by
  refine go_run mm_264 2 (pc' := 17) (ls' := [some (.ref 140)]) (st' := [.int (S.1 140 34)]) (S' := S) rfl ?_
  exact go_ireturn mm_264 rfl rfl (e1)
theorem mm_265 : mtG 265 = some (mi_265, 12, ft_265) := rfl
theorem b_265_0 {d c : Nat} {R : RT} {S : ST} {v1 : Int32} (e1 : (decide (S.1 140 1 = 0)) = true → R c (.inr (some (.int 0))) (wI S 140 0 (tz (decide (S.1 140 1 = 0)) 1))) (e2 : (decide (S.1 140 1 = 0)) = false → Go XM (d + 13) 265 c 10 [some (.ref 140), some (.int v1)] [.ref 140] (wI S 140 0 (tz (decide (S.1 140 1 = 0)) 1)) R) : Go XM (d + 13) 265 c 0 [some (.ref 140), some (.int v1)] [] S R := by
  refine go_run mm_265 1 (pc' := 1) (ls' := [some (.ref 140), some (.int v1)]) (st' := [.ref 140]) (S' := S) rfl ?_
  refine go_cv mm_265 (h := 140) (As := []) (rest := []) (nl := 1) rfl XM_140 (show cvOK 265 1 247 184 0 1 11 = true by decide +kernel) rfl rfl rfl (sq_184) (KP_V ?_)
  refine go_ifb mm_265 rfl (p1 := 7) (p2 := 9) rfl (fun (hc1 : (decide (S.1 140 1 = 0)) = true) => ?_) (fun (hc1 : (decide (S.1 140 1 = 0)) = false) => ?_)
  · refine go_run mm_265 1 (pc' := 8) (ls' := [some (.ref 140), some (.int v1)]) (st' := [.int 0]) (S' := (wI S 140 0 (tz (decide (S.1 140 1 = 0)) 1))) rfl ?_
    exact go_ireturn mm_265 rfl rfl (e1 hc1)
  · refine go_run mm_265 1 (pc' := 10) (ls' := [some (.ref 140), some (.int v1)]) (st' := [.ref 140]) (S' := (wI S 140 0 (tz (decide (S.1 140 1 = 0)) 1))) rfl ?_
    exact e2 hc1
theorem b_265_13 {d c : Nat} {R : RT} {S : ST} {v1 : Int32} (o1 : (!(decide (rf (S.1 140 0) (!(f_182 v1 0 ((S.1 140 34) - 1))) 2 = 0))) = false → inB v1 4) (e1 : R c (.inr (some (.int (if (!(decide (rf (S.1 140 0) (!(f_182 v1 0 ((S.1 140 34) - 1))) 2 = 0))) = true then 0 else ra S 159 v1)))) (wI S 140 0 (rf (S.1 140 0) (!(f_182 v1 0 ((S.1 140 34) - 1))) 2))) : Go XM (d + 13) 265 c 13 [some (.ref 140), some (.int v1)] [] S R := by
  refine go_run mm_265 7 (pc' := 22) (ls' := [some (.ref 140), some (.int v1)]) (st' := [.int ((S.1 140 34) - 1), .int 0, .int v1, .ref 140]) (S' := S) rfl ?_
  refine go_cs mm_265 (av := [.int v1, .int 0, .int ((S.1 140 34) - 1)]) (rest := [.ref 140]) (nl := 3) rfl (show csOK 265 22 148 182 3 3 = true by decide +kernel) rfl rfl rfl (sp_182) (KP_V ?_)
  have j2 : Go XM (d + 13) 265 c 33 [some (.ref 140), some (.int v1)] [.int (b2i (!(f_182 v1 0 ((S.1 140 34) - 1)))), .ref 140] S R := by
    refine go_run mm_265 1 (pc' := 34) (ls' := [some (.ref 140), some (.int v1)]) (st' := [.int 2, .int (b2i (!(f_182 v1 0 ((S.1 140 34) - 1)))), .ref 140]) (S' := S) rfl ?_
    refine go_cv mm_265 (h := 140) (As := [.int (b2i (!(f_182 v1 0 ((S.1 140 34) - 1)))), .int 2]) (rest := []) (nl := 3) rfl XM_140 (show cvOK 265 34 86 183 2 3 11 = true by decide +kernel) rfl rfl rfl (sq_183) (KP_V ?_)
    have j1 : Go XM (d + 13) 265 c 50 [some (.ref 140), some (.int v1)] [.int (if (!(decide (rf (S.1 140 0) (!(f_182 v1 0 ((S.1 140 34) - 1))) 2 = 0))) = true then 0 else ra S 159 v1)] (wI S 140 0 (rf (S.1 140 0) (!(f_182 v1 0 ((S.1 140 34) - 1))) 2)) R := by
      exact go_ireturn mm_265 rfl rfl (e1)
    refine go_ifb mm_265 rfl (p1 := 40) (p2 := 44) rfl (fun (hc1 : (!(decide (rf (S.1 140 0) (!(f_182 v1 0 ((S.1 140 34) - 1))) 2 = 0))) = true) => ?_) (fun (hc1 : (!(decide (rf (S.1 140 0) (!(f_182 v1 0 ((S.1 140 34) - 1))) 2 = 0))) = false) => ?_)
    · refine go_run mm_265 2 (pc' := 50) (ls' := [some (.ref 140), some (.int v1)]) (st' := [.int 0]) (S' := (wI S 140 0 (rf (S.1 140 0) (!(f_182 v1 0 ((S.1 140 34) - 1))) 2))) rfl ?_
      have e : ((if (!(decide (rf (S.1 140 0) (!(f_182 v1 0 ((S.1 140 34) - 1))) 2 = 0))) = true then 0 else ra S 159 v1) : Int32) = 0 := by simp [b2i, hc1]
      rw [e] at j1
      exact j1
    · refine go_run mm_265 3 (pc' := 49) (ls' := [some (.ref 140), some (.int v1)]) (st' := [.int v1, .ref 159]) (S' := (wI S 140 0 (rf (S.1 140 0) (!(f_182 v1 0 ((S.1 140 34) - 1))) 2))) rfl ?_
      refine go_iaload mm_265 (q := (Int32.toNatClampNeg v1)) rfl rfl rfl (o1 hc1) ?_
      have e : ((if (!(decide (rf (S.1 140 0) (!(f_182 v1 0 ((S.1 140 34) - 1))) 2 = 0))) = true then 0 else ra S 159 v1) : Int32) = ra S 159 v1 := by simp [b2i, hc1]
      rw [e] at j1
      exact j1
  refine go_ifb mm_265 rfl (p1 := 32) (p2 := 28) rfl (fun (hc1 : (f_182 v1 0 ((S.1 140 34) - 1)) = true) => ?_) (fun (hc1 : (f_182 v1 0 ((S.1 140 34) - 1)) = false) => ?_)
  · refine go_run mm_265 1 (pc' := 33) (ls' := [some (.ref 140), some (.int v1)]) (st' := [.int 0, .ref 140]) (S' := S) rfl ?_
    have e : ((b2i (!(f_182 v1 0 ((S.1 140 34) - 1)))) : Int32) = 0 := by simp [b2i, hc1]
    rw [e] at j2
    exact j2
  · refine go_run mm_265 2 (pc' := 33) (ls' := [some (.ref 140), some (.int v1)]) (st' := [.int 1, .ref 140]) (S' := S) rfl ?_
    have e : ((b2i (!(f_182 v1 0 ((S.1 140 34) - 1)))) : Int32) = 1 := by simp [b2i, hc1]
    rw [e] at j2
    exact j2
theorem mm_266 : mtG 266 = some (mi_266, 12, ft_266) := rfl
theorem b_266_0 {d c : Nat} {R : RT} {S : ST} {v1 : Int32} {v2 : Int32} {v3 : Int32} {v4 : Int64} (e1 : v1 = v2 → R c (.inr (some (.int 1))) S) (e2 : ¬ v1 = v2 → Go XM d 266 c 10 [some (.ref 140), some (.int v1), some (.int v2), some (.int v3), some (.long v4), none, some (.int v3)] [] S R) : Go XM d 266 c 0 [some (.ref 140), some (.int v1), some (.int v2), some (.int v3), some (.long v4), none, none] [] S R := by
  refine go_run mm_266 2 (pc' := 2) (ls' := [some (.ref 140), some (.int v1), some (.int v2), some (.int v3), some (.long v4), none, none]) (st' := [.int v2, .int v1]) (S' := S) rfl ?_
  refine go_if2 mm_266 rfl (p1 := 5) (p2 := 7) rfl (fun (hc1 : v1 = v2) => ?_) (fun (hc1 : ¬ v1 = v2) => ?_)
  · refine go_run mm_266 1 (pc' := 6) (ls' := [some (.ref 140), some (.int v1), some (.int v2), some (.int v3), some (.long v4), none, none]) (st' := [.int 1]) (S' := S) rfl ?_
    exact go_zreturn mm_266 rfl rfl (Or.inr rfl) (e1 hc1)
  · refine go_run mm_266 2 (pc' := 10) (ls' := [some (.ref 140), some (.int v1), some (.int v2), some (.int v3), some (.long v4), none, some (.int v3)]) (st' := []) (S' := S) rfl ?_
    exact e2 hc1
theorem b_266_10 {d c : Nat} {R : RT} {S : ST} {v1 : Int32} {v2 : Int32} {v3 : Int32} {v4 : Int64} {v6 : Int32} (o1 : v6 < (S.1 140 20) → inB v6 64) (o2 : v6 < (S.1 140 20) → ((rl S 153 v6) &&& v4) = 0 → inB v1 4) (o3 : v6 < (S.1 140 20) → ((rl S 153 v6) &&& v4) = 0 → inB v6 64) (e1 : v6 < (S.1 140 20) → ((rl S 153 v6) &&& v4) = 0 → Go XM d 266 c 64 [some (.ref 140), some (.int v1), some (.int v2), some (.int v3), some (.long v4), none, some (.int v6)] [.long (v4 ||| (rl S 153 v6)), .int (v6 + 1), .int v2, .int (v1 + 1), .ref 140] (wI S 160 (Int32.toNatClampNeg v1) v6) R) (e2 : v6 < (S.1 140 20) → ¬ ((rl S 153 v6) &&& v4) = 0 → Go XM d 266 c 10 [some (.ref 140), some (.int v1), some (.int v2), some (.int v3), some (.long v4), none, some (.int (v6 + 1))] [] S R) (e3 : ¬ v6 < (S.1 140 20) → R c (.inr (some (.int 0))) S) : Go XM d 266 c 10 [some (.ref 140), some (.int v1), some (.int v2), some (.int v3), some (.long v4), none, some (.int v6)] [] S R := by
  refine go_run mm_266 3 (pc' := 16) (ls' := [some (.ref 140), some (.int v1), some (.int v2), some (.int v3), some (.long v4), none, some (.int v6)]) (st' := [.int (S.1 140 20), .int v6]) (S' := S) rfl ?_
  refine go_if2 mm_266 rfl (p1 := 19) (p2 := 78) rfl (fun (hc1 : v6 < (S.1 140 20)) => ?_) (fun (hc1 : ¬ v6 < (S.1 140 20)) => ?_)
  · refine go_run mm_266 3 (pc' := 25) (ls' := [some (.ref 140), some (.int v1), some (.int v2), some (.int v3), some (.long v4), none, some (.int v6)]) (st' := [.int v6, .ref 153]) (S' := S) rfl ?_
    refine go_laload mm_266 (q := (Int32.toNatClampNeg v6)) rfl rfl rfl (o1 hc1) ?_
    refine go_run mm_266 3 (pc' := 30) (ls' := [some (.ref 140), some (.int v1), some (.int v2), some (.int v3), some (.long v4), none, some (.int v6)]) (st' := [.long 0, .long ((rl S 153 v6) &&& v4)]) (S' := S) rfl ?_
    refine go_lif mm_266 rfl rfl (p1 := 37) (p2 := 34) rfl (fun (hc2 : ((rl S 153 v6) &&& v4) = 0) => ?_) (fun (hc2 : ¬ ((rl S 153 v6) &&& v4) = 0) => ?_)
    · refine go_run mm_266 4 (pc' := 44) (ls' := [some (.ref 140), some (.int v1), some (.int v2), some (.int v3), some (.long v4), none, some (.int v6)]) (st' := [.int v6, .int v1, .ref 160]) (S' := S) rfl ?_
      refine go_iastore mm_266 (q := (Int32.toNatClampNeg v1)) rfl rfl rfl (o2 hc1 hc2) ?_
      refine go_run mm_266 12 (pc' := 62) (ls' := [some (.ref 140), some (.int v1), some (.int v2), some (.int v3), some (.long v4), none, some (.int v6)]) (st' := [.int v6, .ref 153, .long v4, .int (v6 + 1), .int v2, .int (v1 + 1), .ref 140]) (S' := (wI S 160 (Int32.toNatClampNeg v1) v6)) rfl ?_
      refine go_laload mm_266 (q := (Int32.toNatClampNeg v6)) rfl rfl rfl (o3 hc1 hc2) ?_
      refine go_run mm_266 1 (pc' := 64) (ls' := [some (.ref 140), some (.int v1), some (.int v2), some (.int v3), some (.long v4), none, some (.int v6)]) (st' := [.long (v4 ||| (rl S 153 v6)), .int (v6 + 1), .int v2, .int (v1 + 1), .ref 140]) (S' := (wI S 160 (Int32.toNatClampNeg v1) v6)) rfl ?_
      exact e1 hc1 hc2
    · refine go_run mm_266 3 (pc' := 10) (ls' := [some (.ref 140), some (.int v1), some (.int v2), some (.int v3), some (.long v4), none, some (.int (v6 + 1))]) (st' := []) (S' := S) rfl ?_
      exact e2 hc1 hc2
  · refine go_run mm_266 1 (pc' := 79) (ls' := [some (.ref 140), some (.int v1), some (.int v2), some (.int v3), some (.long v4), none, some (.int v6)]) (st' := [.int 0]) (S' := S) rfl ?_
    exact go_zreturn mm_266 rfl rfl (Or.inl rfl) (e3 hc1)
theorem b_266_67 {d c : Nat} {R : RT} {S : ST} {v1 : Int32} {v2 : Int32} {v3 : Int32} {v4 : Int64} {v6 : Int32} {w0 : Bool} (e1 : w0 = true → R c (.inr (some (.int 1))) S) (e2 : w0 = false → Go XM d 266 c 10 [some (.ref 140), some (.int v1), some (.int v2), some (.int v3), some (.long v4), none, some (.int (v6 + 1))] [] S R) : Go XM d 266 c 67 [some (.ref 140), some (.int v1), some (.int v2), some (.int v3), some (.long v4), none, some (.int v6)] [.int (b2i w0)] S R := by
  refine go_ifb mm_266 rfl (p1 := 70) (p2 := 72) rfl (fun (hc1 : w0 = true) => ?_) (fun (hc1 : w0 = false) => ?_)
  · refine go_run mm_266 1 (pc' := 71) (ls' := [some (.ref 140), some (.int v1), some (.int v2), some (.int v3), some (.long v4), none, some (.int v6)]) (st' := [.int 1]) (S' := S) rfl ?_
    exact go_zreturn mm_266 rfl rfl (Or.inr rfl) (e1 hc1)
  · refine go_run mm_266 2 (pc' := 10) (ls' := [some (.ref 140), some (.int v1), some (.int v2), some (.int v3), some (.long v4), none, some (.int (v6 + 1))]) (st' := []) (S' := S) rfl ?_
    exact e2 hc1
theorem mm_267 : mtG 267 = some (mi_267, 12, ft_267) := rfl
theorem b_267_0 {d c : Nat} {R : RT} {S : ST} (e1 : Go XM (d + 12) 267 c 1 [some (.ref 140), none] [.ref 140] S R) : Go XM (d + 12) 267 c 0 [some (.ref 140), none] [] S R := by
  refine go_run mm_267 1 (pc' := 1) (ls' := [some (.ref 140), none]) (st' := [.ref 140]) (S' := S) rfl ?_
  exact e1
theorem b_267_4 {d c : Nat} {R : RT} {S : ST} (e1 : (0 : Int32) < (S.1 140 36) → R c (.inr none) S) (e2 : ¬ (0 : Int32) < (S.1 140 36) → Go XM (d + 12) 267 c 14 [some (.ref 140), some (.int 4)] [] S R) : Go XM (d + 12) 267 c 4 [some (.ref 140), none] [] S R := by
  refine go_run mm_267 2 (pc' := 8) (ls' := [some (.ref 140), none]) (st' := [.int (S.1 140 36)]) (S' := S) rfl ?_
  refine go_if0 mm_267 rfl (p1 := 11) (p2 := 12) rfl (fun (hc1 : (0 : Int32) < (S.1 140 36)) => ?_) (fun (hc1 : ¬ (0 : Int32) < (S.1 140 36)) => ?_)
  · exact go_vreturn mm_267 rfl rfl (e1 hc1)
  · refine go_run mm_267 2 (pc' := 14) (ls' := [some (.ref 140), some (.int 4)]) (st' := []) (S' := S) rfl ?_
    exact e2 hc1
theorem b_267_14 {d c : Nat} {R : RT} {S : ST} {v1 : Int32} (e1 : Go XM (d + 12) 267 c 19 [some (.ref 140), some (.int v1)] [.long 0, .int 0, .int v1, .int 0, .ref 140] S R) : Go XM (d + 12) 267 c 14 [some (.ref 140), some (.int v1)] [] S R := by
  refine go_run mm_267 5 (pc' := 19) (ls' := [some (.ref 140), some (.int v1)]) (st' := [.long 0, .int 0, .int v1, .int 0, .ref 140]) (S' := S) rfl ?_
  exact e1
theorem b_267_22 {d c : Nat} {R : RT} {S : ST} {v1 : Int32} {w0 : Bool} (e1 : w0 = true → R c (.inr none) (wI S 140 36 v1)) (e2 : w0 = false → Go XM (d + 12) 267 c 14 [some (.ref 140), some (.int (v1 + (-1)))] [] S R) : Go XM (d + 12) 267 c 22 [some (.ref 140), some (.int v1)] [.int (b2i w0)] S R := by
  refine go_ifb mm_267 rfl (p1 := 31) (p2 := 25) rfl (fun (hc1 : w0 = true) => ?_) (fun (hc1 : w0 = false) => ?_)
  · refine go_run mm_267 3 (pc' := 36) (ls' := [some (.ref 140), some (.int v1)]) (st' := []) (S' := (wI S 140 36 v1)) rfl ?_
    exact go_vreturn mm_267 rfl rfl (e1 hc1)
  · refine go_run mm_267 2 (pc' := 14) (ls' := [some (.ref 140), some (.int (v1 + (-1)))]) (st' := []) (S' := S) rfl ?_
    exact e2 hc1
theorem mm_268 : mtG 268 = some (mi_268, 12, ft_268) := rfl
theorem b_268_0 {d c : Nat} {R : RT} {S : ST} (e1 : (decide (S.1 140 1 = 0)) = true → R c (.inr (some (.int 0))) (wI S 140 0 (tz (decide (S.1 140 1 = 0)) 1))) (e2 : (decide (S.1 140 1 = 0)) = false → Go XM (d + 13) 268 c 10 [some (.ref 140)] [.ref 140] (wI S 140 0 (tz (decide (S.1 140 1 = 0)) 1)) R) : Go XM (d + 13) 268 c 0 [some (.ref 140)] [] S R := by
  refine go_run mm_268 1 (pc' := 1) (ls' := [some (.ref 140)]) (st' := [.ref 140]) (S' := S) rfl ?_
  refine go_cv mm_268 (h := 140) (As := []) (rest := []) (nl := 1) rfl XM_140 (show cvOK 268 1 247 184 0 1 11 = true by decide +kernel) rfl rfl rfl (sq_184) (KP_V ?_)
  refine go_ifb mm_268 rfl (p1 := 7) (p2 := 9) rfl (fun (hc1 : (decide (S.1 140 1 = 0)) = true) => ?_) (fun (hc1 : (decide (S.1 140 1 = 0)) = false) => ?_)
  · refine go_run mm_268 1 (pc' := 8) (ls' := [some (.ref 140)]) (st' := [.int 0]) (S' := (wI S 140 0 (tz (decide (S.1 140 1 = 0)) 1))) rfl ?_
    exact go_ireturn mm_268 rfl rfl (e1 hc1)
  · refine go_run mm_268 1 (pc' := 10) (ls' := [some (.ref 140)]) (st' := [.ref 140]) (S' := (wI S 140 0 (tz (decide (S.1 140 1 = 0)) 1))) rfl ?_
    exact e2 hc1
theorem b_268_13 {d c : Nat} {R : RT} {S : ST} (e1 : R c (.inr (some (.int (S.1 140 36)))) S) : Go XM (d + 13) 268 c 13 [some (.ref 140)] [] S R := by
  refine go_run mm_268 2 (pc' := 17) (ls' := [some (.ref 140)]) (st' := [.int (S.1 140 36)]) (S' := S) rfl ?_
  exact go_ireturn mm_268 rfl rfl (e1)
theorem mm_269 : mtG 269 = some (mi_269, 12, ft_269) := rfl
theorem b_269_0 {d c : Nat} {R : RT} {S : ST} {v1 : Int32} (e1 : (decide (S.1 140 1 = 0)) = true → R c (.inr (some (.int 0))) (wI S 140 0 (tz (decide (S.1 140 1 = 0)) 1))) (e2 : (decide (S.1 140 1 = 0)) = false → Go XM (d + 13) 269 c 10 [some (.ref 140), some (.int v1)] [.ref 140] (wI S 140 0 (tz (decide (S.1 140 1 = 0)) 1)) R) : Go XM (d + 13) 269 c 0 [some (.ref 140), some (.int v1)] [] S R := by
  refine go_run mm_269 1 (pc' := 1) (ls' := [some (.ref 140), some (.int v1)]) (st' := [.ref 140]) (S' := S) rfl ?_
  refine go_cv mm_269 (h := 140) (As := []) (rest := []) (nl := 1) rfl XM_140 (show cvOK 269 1 247 184 0 1 11 = true by decide +kernel) rfl rfl rfl (sq_184) (KP_V ?_)
  refine go_ifb mm_269 rfl (p1 := 7) (p2 := 9) rfl (fun (hc1 : (decide (S.1 140 1 = 0)) = true) => ?_) (fun (hc1 : (decide (S.1 140 1 = 0)) = false) => ?_)
  · refine go_run mm_269 1 (pc' := 8) (ls' := [some (.ref 140), some (.int v1)]) (st' := [.int 0]) (S' := (wI S 140 0 (tz (decide (S.1 140 1 = 0)) 1))) rfl ?_
    exact go_ireturn mm_269 rfl rfl (e1 hc1)
  · refine go_run mm_269 1 (pc' := 10) (ls' := [some (.ref 140), some (.int v1)]) (st' := [.ref 140]) (S' := (wI S 140 0 (tz (decide (S.1 140 1 = 0)) 1))) rfl ?_
    exact e2 hc1
theorem b_269_13 {d c : Nat} {R : RT} {S : ST} {v1 : Int32} (o1 : (!(decide (rf (S.1 140 0) (!(f_182 v1 0 ((S.1 140 36) - 1))) 2 = 0))) = false → inB v1 4) (e1 : R c (.inr (some (.int (if (!(decide (rf (S.1 140 0) (!(f_182 v1 0 ((S.1 140 36) - 1))) 2 = 0))) = true then 0 else ra S 160 v1)))) (wI S 140 0 (rf (S.1 140 0) (!(f_182 v1 0 ((S.1 140 36) - 1))) 2))) : Go XM (d + 13) 269 c 13 [some (.ref 140), some (.int v1)] [] S R := by
  refine go_run mm_269 7 (pc' := 22) (ls' := [some (.ref 140), some (.int v1)]) (st' := [.int ((S.1 140 36) - 1), .int 0, .int v1, .ref 140]) (S' := S) rfl ?_
  refine go_cs mm_269 (av := [.int v1, .int 0, .int ((S.1 140 36) - 1)]) (rest := [.ref 140]) (nl := 3) rfl (show csOK 269 22 148 182 3 3 = true by decide +kernel) rfl rfl rfl (sp_182) (KP_V ?_)
  have j2 : Go XM (d + 13) 269 c 33 [some (.ref 140), some (.int v1)] [.int (b2i (!(f_182 v1 0 ((S.1 140 36) - 1)))), .ref 140] S R := by
    refine go_run mm_269 1 (pc' := 34) (ls' := [some (.ref 140), some (.int v1)]) (st' := [.int 2, .int (b2i (!(f_182 v1 0 ((S.1 140 36) - 1)))), .ref 140]) (S' := S) rfl ?_
    refine go_cv mm_269 (h := 140) (As := [.int (b2i (!(f_182 v1 0 ((S.1 140 36) - 1)))), .int 2]) (rest := []) (nl := 3) rfl XM_140 (show cvOK 269 34 86 183 2 3 11 = true by decide +kernel) rfl rfl rfl (sq_183) (KP_V ?_)
    have j1 : Go XM (d + 13) 269 c 50 [some (.ref 140), some (.int v1)] [.int (if (!(decide (rf (S.1 140 0) (!(f_182 v1 0 ((S.1 140 36) - 1))) 2 = 0))) = true then 0 else ra S 160 v1)] (wI S 140 0 (rf (S.1 140 0) (!(f_182 v1 0 ((S.1 140 36) - 1))) 2)) R := by
      exact go_ireturn mm_269 rfl rfl (e1)
    refine go_ifb mm_269 rfl (p1 := 40) (p2 := 44) rfl (fun (hc1 : (!(decide (rf (S.1 140 0) (!(f_182 v1 0 ((S.1 140 36) - 1))) 2 = 0))) = true) => ?_) (fun (hc1 : (!(decide (rf (S.1 140 0) (!(f_182 v1 0 ((S.1 140 36) - 1))) 2 = 0))) = false) => ?_)
    · refine go_run mm_269 2 (pc' := 50) (ls' := [some (.ref 140), some (.int v1)]) (st' := [.int 0]) (S' := (wI S 140 0 (rf (S.1 140 0) (!(f_182 v1 0 ((S.1 140 36) - 1))) 2))) rfl ?_
      have e : ((if (!(decide (rf (S.1 140 0) (!(f_182 v1 0 ((S.1 140 36) - 1))) 2 = 0))) = true then 0 else ra S 160 v1) : Int32) = 0 := by simp [b2i, hc1]
      rw [e] at j1
      exact j1
    · refine go_run mm_269 3 (pc' := 49) (ls' := [some (.ref 140), some (.int v1)]) (st' := [.int v1, .ref 160]) (S' := (wI S 140 0 (rf (S.1 140 0) (!(f_182 v1 0 ((S.1 140 36) - 1))) 2))) rfl ?_
      refine go_iaload mm_269 (q := (Int32.toNatClampNeg v1)) rfl rfl rfl (o1 hc1) ?_
      have e : ((if (!(decide (rf (S.1 140 0) (!(f_182 v1 0 ((S.1 140 36) - 1))) 2 = 0))) = true then 0 else ra S 160 v1) : Int32) = ra S 160 v1 := by simp [b2i, hc1]
      rw [e] at j1
      exact j1
  refine go_ifb mm_269 rfl (p1 := 32) (p2 := 28) rfl (fun (hc1 : (f_182 v1 0 ((S.1 140 36) - 1)) = true) => ?_) (fun (hc1 : (f_182 v1 0 ((S.1 140 36) - 1)) = false) => ?_)
  · refine go_run mm_269 1 (pc' := 33) (ls' := [some (.ref 140), some (.int v1)]) (st' := [.int 0, .ref 140]) (S' := S) rfl ?_
    have e : ((b2i (!(f_182 v1 0 ((S.1 140 36) - 1)))) : Int32) = 0 := by simp [b2i, hc1]
    rw [e] at j2
    exact j2
  · refine go_run mm_269 2 (pc' := 33) (ls' := [some (.ref 140), some (.int v1)]) (st' := [.int 1, .ref 140]) (S' := S) rfl ?_
    have e : ((b2i (!(f_182 v1 0 ((S.1 140 36) - 1)))) : Int32) = 1 := by simp [b2i, hc1]
    rw [e] at j2
    exact j2
theorem q_260 {d : Nat} {S : ST} (M : MOK S) : Cal XM (d + 8) 260 [.ref 140] S (RQi S) := by
  refine cal_go 0 rfl (b_260_0 (fun _ => Qi_t M) (fun h1 => ?_))
  have a1 := np_f h1
  have qt := Qq_t M (tz (decide (S.1 140 1 = 0)) 1)
  refine go_cv mm_260 (h := 140) (As := [.int (b2i false)]) (rest := []) (nl := 7) rfl XM_140 (show cvOK 260 13 319 259 1 7 11 = true by decide +kernel) rfl rfl rfl (sq_259 ⟨qt.1, a1⟩) (KP_P (fun v S1 k1 => ?_))
  obtain ⟨⟨x, rfl⟩, q1⟩ := k1
  exact b_260_16 (Qi_q (qt.tr q1))
theorem q_261 {d : Nat} {S : ST} (M : MOK S) : Cal XM (d + 8) 261 [.ref 140] S (RQi S) := by
  refine cal_go 0 rfl (b_261_0 (fun _ => Qi_t M) (fun h1 => ?_))
  have a1 := np_f h1
  have qt := Qq_t M (tz (decide (S.1 140 1 = 0)) 1)
  refine go_cv mm_261 (h := 140) (As := [.int (b2i true)]) (rest := []) (nl := 7) rfl XM_140 (show cvOK 261 13 319 259 1 7 11 = true by decide +kernel) rfl rfl rfl (sq_259 ⟨qt.1, a1⟩) (KP_P (fun v S1 k1 => ?_))
  obtain ⟨⟨x, rfl⟩, q1⟩ := k1
  exact b_261_16 (Qi_q (qt.tr q1))
section G2
variable {d : Nat} {S : ST}
theorem sq_263 (h : Qp S) : Cal XM (d + 9) 263 [.ref 140] S (RP (fun v S' => v = none ∧ Qq S S')) := by
  refine cal_go 1 rfl (b_263_0 ?_)
  refine go_cv mm_263 (h := 140) (As := []) (rest := []) (nl := 3) rfl XM_140 (show cvOK 263 1 279 239 0 3 11 = true by decide +kernel) rfl rfl rfl (sr_239 (d := d + 2) h) (KP_P (fun v S1 k1 => ?_))
  obtain ⟨rfl, q1, s1⟩ := k1
  refine b_263_4 (fun _ => ⟨rfl, _, rfl, rfl, q1⟩) (fun _ => ?_)
  have hL := (Qp.ld ⟨s1.1, s1.2.1⟩).1
  obtain ⟨g, g1, g4, hcov⟩ := Cov_4 hL s1.2.2
  have key : ∀ m k S2, k + m = g → 1 ≤ k → Fm [159] [] S1 S2 → Go XM (d + 9) 263 0 14 [some (.ref 140), some (.int (nJ k))] [] S2 (RP (fun v S' => v = none ∧ Qq S S')) := by
    intro m
    induction m with
    | zero =>
      intro k S2 hk h1 hF
      have hk : k = g := by omega
      subst hk
      obtain ⟨hL2, -, -, -⟩ := Ld_fm hL hF (by decide) (by decide) (by decide) (by decide) (by decide) (by decide)
      have ea : f_216 S2 = f_216 S1 := by unfold f_216; rw [hF.fld (by decide) (by decide)]
      refine b_263_14 ?_
      refine go_cv mm_263 (h := 140) (As := [.int (nJ 0), .int (nJ k), .int (nJ 0), .long (f_216 S2)]) (rest := []) (nl := 7) rfl XM_140 (show cvOK 263 22 323 262 4 7 11 = true by decide +kernel) rfl rfl rfl (Cal.up (sq_262 (d := 0) g4 k 0 0 (f_216 S2) S2 (by omega) (by omega) hL2) (by omega)) (KP_P (fun v S3 k3 => ?_))
      obtain ⟨b, rfl, hF3, hb⟩ := k3
      rw [ea] at hb
      have := hb (Cov_fm hF _ _ _ hcov)
      subst this
      refine b_263_25 (w0 := true) (fun _ => ⟨rfl, _, rfl, rfl, ?_⟩) (fun z => by cases z)
      have hF' := hF.tr hF3
      have q2 : Qq S1 S3 := Qq_0 q1.1 hF' (by decide) (by decide) (by decide) (by decide) (by decide) (by decide)
      have hF4 : Fm Lq Fq S3 (wI S3 140 34 (nJ k)) := Fm_f (by decide)
      refine (q1.tr q2).tr ⟨MOK_Q q2.1 hF4 (fun z => ?_) ⟨k, rfl, g4⟩ q2.1.2.2.2.2.2.2, hF4⟩
      exact Sv_fm (hs := []) (fs := [34]) (q2.1.2.2.2.2.1 z) (Fm_f (by decide)) (by decide) (by decide) (by decide) (by decide)
    | succ m ih =>
      intro k S2 hk h1 hF
      obtain ⟨hL2, -, -, -⟩ := Ld_fm hL hF (by decide) (by decide) (by decide) (by decide) (by decide) (by decide)
      refine b_263_14 ?_
      refine go_cv mm_263 (h := 140) (As := [.int (nJ 0), .int (nJ k), .int (nJ 0), .long (f_216 S2)]) (rest := []) (nl := 7) rfl XM_140 (show cvOK 263 22 323 262 4 7 11 = true by decide +kernel) rfl rfl rfl (Cal.up (sq_262 (d := 0) (many := k) (by omega) k 0 0 (f_216 S2) S2 (by omega) (by omega) hL2) (by omega)) (KP_P (fun v S3 k3 => ?_))
      obtain ⟨b, rfl, hF3, hb⟩ := k3
      have hF' := hF.tr hF3
      refine b_263_25 (w0 := b) (fun _ => ⟨rfl, _, rfl, rfl, ?_⟩) (fun z => ?_)
      · have q2 : Qq S1 S3 := Qq_0 q1.1 hF' (by decide) (by decide) (by decide) (by decide) (by decide) (by decide)
        have hF4 : Fm Lq Fq S3 (wI S3 140 34 (nJ k)) := Fm_f (by decide)
        refine (q1.tr q2).tr ⟨MOK_Q q2.1 hF4 (fun z => ?_) ⟨k, rfl, by omega⟩ q2.1.2.2.2.2.2.2, hF4⟩
        exact Sv_fm (hs := []) (fs := [34]) (q2.1.2.2.2.2.1 z) (Fm_f (by decide)) (by decide) (by decide) (by decide) (by decide)
      · rw [nJ_succ]
        exact ih (k + 1) S3 (by omega) (by omega) hF'
  exact key (g - 1) 1 S1 (by omega) (by omega) Fm.rf
theorem q_264 (M : MOK S) : Cal XM (d + 13) 264 [.ref 140] S (RQi S) := by
  refine cal_go 0 rfl (b_264_0 (fun _ => Qi_t M) (fun h1 => ?_))
  have qt := Qq_t M (tz (decide (S.1 140 1 = 0)) 1)
  refine go_cv mm_264 (h := 140) (As := []) (rest := []) (nl := 2) rfl XM_140 (show cvOK 264 10 327 263 0 2 11 = true by decide +kernel) rfl rfl rfl (sq_263 (d := d + 3) ⟨qt.1, np_f h1⟩) (KP_P (fun v S1 k1 => ?_))
  obtain ⟨rfl, q1⟩ := k1
  exact b_264_13 (Qi_q (qt.tr q1))
theorem ix4 {S : ST} {v : Int32} {g : Nat} (hg : g ≤ 4) (h0 : 0 ≤ v.toInt) (h1 : v.toInt ≤ (nJ g - 1).toInt) : inB v 4 := by
  obtain ⟨i, rfl, hi⟩ := ix_of (c := 1) (by omega) (by omega) (by omega) h0 h1
  exact nJ_inB (by omega) (by omega)
theorem q_265 (M : MOK S) {v1 : Int32} : Cal XM (d + 13) 265 [.ref 140, .int v1] S (RQi S) := by
  refine cal_go 0 rfl (b_265_0 (fun _ => Qi_t M) (fun h1 => ?_))
  have qt := Qq_t M (tz (decide (S.1 140 1 = 0)) 1)
  refine go_cv mm_265 (h := 140) (As := []) (rest := []) (nl := 2) rfl XM_140 (show cvOK 265 10 327 263 0 2 11 = true by decide +kernel) rfl rfl rfl (sq_263 (d := d + 3) ⟨qt.1, np_f h1⟩) (KP_P (fun v S1 k1 => ?_))
  obtain ⟨rfl, q1⟩ := k1
  refine b_265_13 (fun h2 => ?_) (Qi_q ((qt.tr q1).tr (Qq_t q1.1 _)))
  obtain ⟨b1, b2⟩ := in_f (rf_f h2 (by decide))
  obtain ⟨g, g1, g2⟩ := q1.1.2.2.2.2.2.1
  rw [g1] at b2
  exact ix4 (S := S) g2 b1 b2
/-- the search for witnesses ends -/
theorem sq_266 {many : Nat} (hm : many ≤ 4) : ∀ q place first u S, place + q = many → first ≤ 64 → Ld S → Cal XM (d + q) 266 [.ref 140, .int (nJ place), .int (nJ many), .int (nJ first), .long u] S (RP (fun v S' => ∃ b : Bool, v = some (.int (b2i b)) ∧ Fm [160] [] S S' ∧ (q = 0 → b = true))) := by
  intro q
  induction q with
  | zero =>
    intro place first u S hp hf hL
    have hp : place = many := by omega
    subst hp
    exact cal_go 1 rfl (b_266_0 (fun _ => ⟨rfl, _, rfl, true, rfl, Fm.rf, fun _ => rfl⟩) (fun h => absurd rfl h))
  | succ q ih =>
    intro place first u S hp hf hL
    have hne : ¬ nJ place = nJ many := fun z => by have := (nJ_eq (by omega) (by omega)).mp z; omega
    have loop : ∀ m i S1, i + m = 64 → Fm [160] [] S S1 → Go XM (d + (q + 1)) 266 0 10 [some (.ref 140), some (.int (nJ place)), some (.int (nJ many)), some (.int (nJ first)), some (.long u), none, some (.int (nJ i))] [] S1 (RP (fun v S' => ∃ b : Bool, v = some (.int (b2i b)) ∧ Fm [160] [] S S' ∧ (q + 1 = 0 → b = true))) := by
      intro m
      induction m with
      | zero =>
        intro i S1 hi hF
        obtain ⟨hL1, -, en, -⟩ := Ld_fm hL hF (by decide) (by decide) (by decide) (by decide) (by decide) (by decide)
        obtain ⟨hP, h64⟩ := Ld_P hL1
        have hn : ¬ nJ i < S1.1 140 20 := by rw [hP, nJ_lt (by omega) (by omega)]; omega
        exact b_266_10 (fun z => absurd z hn) (fun z => absurd z hn) (fun z => absurd z hn) (fun z => absurd z hn) (fun z => absurd z hn) (fun _ => ⟨rfl, _, rfl, false, rfl, hF, fun z => by omega⟩)
      | succ m ihm =>
        intro i S1 hi hF
        obtain ⟨hL1, -, en, -⟩ := Ld_fm hL hF (by decide) (by decide) (by decide) (by decide) (by decide) (by decide)
        obtain ⟨hP, h64⟩ := Ld_P hL1
        by_cases hiP : i < nP S
        · have hlt : nJ i < S1.1 140 20 := by rw [hP, nJ_lt (by omega) (by omega)]; omega
          refine b_266_10 (fun _ => nJ_inB (by omega) (by omega)) (fun _ _ => nJ_inB (by omega) (by omega)) (fun _ _ => nJ_inB (by omega) (by omega)) (fun _ _ => ?_) (fun _ _ => ?_) (fun z => absurd hlt z)
          · rw [nJ_succ, nJ_succ, nJ_ix (by omega), rl_n S1 153 (by omega)]
            have hF1 : Fm [160] [] S1 (wI S1 160 place (nJ i)) := Fm_a (by decide)
            obtain ⟨hL2, -, en2, -⟩ := Ld_fm hL1 hF1 (by decide) (by decide) (by decide) (by decide) (by decide) (by decide)
            refine go_cv mm_266 (h := 140) (As := [.int (nJ (place + 1)), .int (nJ many), .int (nJ (i + 1)), .long (u ||| S1.2 153 i)]) (rest := []) (nl := 7) rfl XM_140 (show cvOK 266 64 329 266 4 7 11 = true by decide +kernel) rfl rfl rfl (ih (place + 1) (i + 1) (u ||| S1.2 153 i) (wI S1 160 place (nJ i)) (by omega) (by omega) hL2) (KP_P (fun v S2 k2 => ?_))
            obtain ⟨b, rfl, hF2, hb⟩ := k2
            have hF02 : Fm [160] [] S S2 := (hF.tr hF1).tr hF2
            refine b_266_67 (w0 := b) (fun h => ⟨rfl, _, rfl, true, rfl, hF02, fun _ => rfl⟩) (fun h => ?_)
            rw [nJ_succ]
            exact ihm (i + 1) S2 (by omega) hF02
          · rw [nJ_succ]
            exact ihm (i + 1) S1 (by omega) hF
        · have hn : ¬ nJ i < S1.1 140 20 := by rw [hP, nJ_lt (by omega) (by omega)]; omega
          exact b_266_10 (fun z => absurd z hn) (fun z => absurd z hn) (fun z => absurd z hn) (fun z => absurd z hn) (fun z => absurd z hn) (fun _ => ⟨rfl, _, rfl, false, rfl, hF, fun z => by omega⟩)
    exact cal_go 1 rfl (b_266_0 (fun h => absurd h hne) (fun _ => loop (64 - first) first S (by omega) Fm.rf))
theorem sq_267 (h : Qp S) : Cal XM (d + 12) 267 [.ref 140] S (RP (fun v S' => v = none ∧ Qq S S')) := by
  refine cal_go 1 rfl (b_267_0 ?_)
  refine go_cv mm_267 (h := 140) (As := []) (rest := []) (nl := 3) rfl XM_140 (show cvOK 267 1 279 239 0 3 11 = true by decide +kernel) rfl rfl rfl (sr_239 (d := d + 5) h) (KP_P (fun v S1 k1 => ?_))
  obtain ⟨rfl, q1, s1⟩ := k1
  refine b_267_4 (fun _ => ⟨rfl, _, rfl, rfl, q1⟩) (fun _ => ?_)
  have hL := (Qp.ld ⟨s1.1, s1.2.1⟩).1
  have key : ∀ k S2, k ≤ 4 → Fm [160] [] S1 S2 → Go XM (d + 12) 267 0 14 [some (.ref 140), some (.int (nJ k))] [] S2 (RP (fun v S' => v = none ∧ Qq S S')) := by
    intro k
    induction k with
    | zero =>
      intro S2 hk hF
      obtain ⟨hL2, -, -, -⟩ := Ld_fm hL hF (by decide) (by decide) (by decide) (by decide) (by decide) (by decide)
      refine b_267_14 ?_
      refine go_cv mm_267 (h := 140) (As := [.int (nJ 0), .int (nJ 0), .int (nJ 0), .long 0]) (rest := []) (nl := 7) rfl XM_140 (show cvOK 267 19 329 266 4 7 11 = true by decide +kernel) rfl rfl rfl (Cal.up (sq_266 (d := 0) (many := 0) (by omega) 0 0 0 0 S2 (by omega) (by omega) hL2) (by omega)) (KP_P (fun v S3 k3 => ?_))
      obtain ⟨b, rfl, hF3, hb⟩ := k3
      have := hb rfl
      subst this
      refine b_267_22 (w0 := true) (fun _ => ⟨rfl, _, rfl, rfl, ?_⟩) (fun z => by cases z)
      have hF' := hF.tr hF3
      have q2 : Qq S1 S3 := Qq_0 q1.1 hF' (by decide) (by decide) (by decide) (by decide) (by decide) (by decide)
      have hF4 : Fm Lq Fq S3 (wI S3 140 36 (nJ 0)) := Fm_f (by decide)
      refine (q1.tr q2).tr ⟨MOK_Q q2.1 hF4 (fun z => ?_) q2.1.2.2.2.2.2.1 ⟨0, rfl, by omega⟩, hF4⟩
      exact Sv_fm (hs := []) (fs := [36]) (q2.1.2.2.2.2.1 z) (Fm_f (by decide)) (by decide) (by decide) (by decide) (by decide)
    | succ k ih =>
      intro S2 hk hF
      obtain ⟨hL2, -, -, -⟩ := Ld_fm hL hF (by decide) (by decide) (by decide) (by decide) (by decide) (by decide)
      refine b_267_14 ?_
      refine go_cv mm_267 (h := 140) (As := [.int (nJ 0), .int (nJ (k + 1)), .int (nJ 0), .long 0]) (rest := []) (nl := 7) rfl XM_140 (show cvOK 267 19 329 266 4 7 11 = true by decide +kernel) rfl rfl rfl (Cal.up (sq_266 (d := 0) (many := k + 1) hk (k + 1) 0 0 0 S2 (by omega) (by omega) hL2) (by omega)) (KP_P (fun v S3 k3 => ?_))
      obtain ⟨b, rfl, hF3, hb⟩ := k3
      have hF' := hF.tr hF3
      refine b_267_22 (w0 := b) (fun _ => ⟨rfl, _, rfl, rfl, ?_⟩) (fun z => ?_)
      · have q2 : Qq S1 S3 := Qq_0 q1.1 hF' (by decide) (by decide) (by decide) (by decide) (by decide) (by decide)
        have hF4 : Fm Lq Fq S3 (wI S3 140 36 (nJ (k + 1))) := Fm_f (by decide)
        refine (q1.tr q2).tr ⟨MOK_Q q2.1 hF4 (fun z => ?_) q2.1.2.2.2.2.2.1 ⟨k + 1, rfl, hk⟩, hF4⟩
        exact Sv_fm (hs := []) (fs := [36]) (q2.1.2.2.2.2.1 z) (Fm_f (by decide)) (by decide) (by decide) (by decide) (by decide)
      · rw [nJ_dec (by omega)]
        exact ih S3 (by omega) hF'
  exact key 4 S1 (by omega) Fm.rf
theorem q_268 (M : MOK S) : Cal XM (d + 13) 268 [.ref 140] S (RQi S) := by
  refine cal_go 0 rfl (b_268_0 (fun _ => Qi_t M) (fun h1 => ?_))
  have qt := Qq_t M (tz (decide (S.1 140 1 = 0)) 1)
  refine go_cv mm_268 (h := 140) (As := []) (rest := []) (nl := 2) rfl XM_140 (show cvOK 268 10 332 267 0 2 11 = true by decide +kernel) rfl rfl rfl (sq_267 (d := d) ⟨qt.1, np_f h1⟩) (KP_P (fun v S1 k1 => ?_))
  obtain ⟨rfl, q1⟩ := k1
  exact b_268_13 (Qi_q (qt.tr q1))
theorem q_269 (M : MOK S) {v1 : Int32} : Cal XM (d + 13) 269 [.ref 140, .int v1] S (RQi S) := by
  refine cal_go 0 rfl (b_269_0 (fun _ => Qi_t M) (fun h1 => ?_))
  have qt := Qq_t M (tz (decide (S.1 140 1 = 0)) 1)
  refine go_cv mm_269 (h := 140) (As := []) (rest := []) (nl := 2) rfl XM_140 (show cvOK 269 10 332 267 0 2 11 = true by decide +kernel) rfl rfl rfl (sq_267 (d := d) ⟨qt.1, np_f h1⟩) (KP_P (fun v S1 k1 => ?_))
  obtain ⟨rfl, q1⟩ := k1
  refine b_269_13 (fun h2 => ?_) (Qi_q ((qt.tr q1).tr (Qq_t q1.1 _)))
  obtain ⟨b1, b2⟩ := in_f (rf_f h2 (by decide))
  obtain ⟨g, g1, g2⟩ := q1.1.2.2.2.2.2.2
  rw [g1] at b2
  exact ix4 (S := S) g2 b1 b2
end G2
theorem mm_270 : mtG 270 = some (mi_270, 12, ft_270) := rfl
theorem b_270_0 {d c : Nat} {R : RT} {S : ST} {v0 : Int64} (e1 : Go XM (d + 1) 270 c 2 [some (.long v0), none, some (.int 0)] [] S R) : Go XM (d + 1) 270 c 0 [some (.long v0), none, none] [] S R := by
  refine go_run mm_270 2 (pc' := 2) (ls' := [some (.long v0), none, some (.int 0)]) (st' := []) (S' := S) rfl ?_
  exact e1
theorem b_270_2 {d c : Nat} {R : RT} {S : ST} {v0 : Int64} {v2 : Int32} (e1 : (f_217 v0 v2) = true → R c (.inr (some (.int v2))) S) (e2 : (f_217 v0 v2) = false → Go XM (d + 1) 270 c 2 [some (.long v0), none, some (.int (v2 + 1))] [] S R) : Go XM (d + 1) 270 c 2 [some (.long v0), none, some (.int v2)] [] S R := by
  refine go_run mm_270 2 (pc' := 4) (ls' := [some (.long v0), none, some (.int v2)]) (st' := [.int v2, .long v0]) (S' := S) rfl ?_
  refine go_cs mm_270 (av := [.long v0, .int v2]) (rest := []) (nl := 3) rfl (show csOK 270 4 282 217 2 3 = true by decide +kernel) rfl rfl rfl (sp_217) (KP_V ?_)
  refine go_ifb mm_270 rfl (p1 := 16) (p2 := 10) rfl (fun (hc1 : (f_217 v0 v2) = true) => ?_) (fun (hc1 : (f_217 v0 v2) = false) => ?_)
  · refine go_run mm_270 1 (pc' := 17) (ls' := [some (.long v0), none, some (.int v2)]) (st' := [.int v2]) (S' := S) rfl ?_
    exact go_ireturn mm_270 rfl rfl (e1 hc1)
  · refine go_run mm_270 2 (pc' := 2) (ls' := [some (.long v0), none, some (.int (v2 + 1))]) (st' := []) (S' := S) rfl ?_
    exact e2 hc1
/-- the lowest bit -/
def lwf (x : Int64) : Nat → Nat → Nat
  | 0, i => i
  | f + 1, i => if bz x i = true then i else lwf x f (i + 1)
def lowN (x : Int64) : Nat := lwf x 64 0
def f_270 (x : Int64) : Int32 := nJ (lowN x)
theorem lwf_ok {x : Int64} : ∀ (f i : Nat), (∃ j, i ≤ j ∧ j < i + f ∧ bz x j = true) → lwf x f i < i + f ∧ bz x (lwf x f i) = true
  | 0, i, ⟨j, h1, h2, _⟩ => by omega
  | f + 1, i, ⟨j, h1, h2, h3⟩ => by
    unfold lwf
    by_cases q : bz x i = true
    · rw [if_pos q]; exact ⟨by omega, q⟩
    · rw [if_neg q]
      have hj : j ≠ i := fun e => q (by rw [← e]; exact h3)
      have := lwf_ok f (i + 1) ⟨j, by omega, by omega, h3⟩
      exact ⟨by omega, this.2⟩
theorem low_ok {x : Int64} (h : ¬ x = 0) : lowN x < 64 ∧ bz x (lowN x) = true := by
  obtain ⟨i, h1, h2⟩ := ne_bz h
  have := lwf_ok (x := x) 64 0 ⟨i, by omega, by omega, h2⟩
  exact ⟨by have := this.1; unfold lowN; omega, this.2⟩
theorem sq_270 {d : Nat} {S : ST} {v0 : Int64} (h : ¬ v0 = 0) : Cal XM (d + 1) 270 [.long v0] S (RV (some (.int (f_270 v0))) S) := by
  refine cal_go 1 rfl (b_270_0 ?_)
  have key : ∀ f i, i + f = 64 → (∃ j, i ≤ j ∧ j < 64 ∧ bz v0 j = true) → lowN v0 = lwf v0 f i → Go XM (d + 1) 270 0 2 [some (.long v0), none, some (.int (nJ i))] [] S (RV (some (.int (f_270 v0))) S) := by
    intro f
    induction f with
    | zero => rintro i hi ⟨j, h1, h2, _⟩; omega
    | succ f ih =>
      rintro i hi ⟨j, h1, h2, h3⟩ hl
      unfold lwf at hl
      refine b_270_2 (fun q => ?_) (fun q => ?_)
      · rw [has_t _ (by omega)] at q
        rw [if_pos q] at hl
        exact ⟨rfl, by unfold f_270; rw [hl], rfl⟩
      · rw [has_t _ (by omega)] at q
        rw [if_neg (ne_t q)] at hl
        rw [nJ_succ]
        refine ih (i + 1) (by omega) ⟨j, ?_, h2, h3⟩ hl
        by_cases e : j = i
        · rw [e, q] at h3; cases h3
        · omega
  obtain ⟨i, h1, h2⟩ := ne_bz h
  exact key 64 0 rfl ⟨i, by omega, h1, h2⟩ rfl
theorem mm_271 : mtG 271 = some (mi_271, 12, ft_271) := rfl
theorem b_271_0 {d c : Nat} {R : RT} {S : ST} {v1 : Int64} (e1 : Go XM (d + 2) 271 c 5 [some (.ref 140), some (.long v1), none, some (.int 0), some (.long v1), none, none, none, none] [] S R) : Go XM (d + 2) 271 c 0 [some (.ref 140), some (.long v1), none, none, none, none, none, none, none] [] S R := by
  refine go_run mm_271 4 (pc' := 5) (ls' := [some (.ref 140), some (.long v1), none, some (.int 0), some (.long v1), none, none, none, none]) (st' := []) (S' := S) rfl ?_
  exact e1
theorem b_271_5 {d c : Nat} {R : RT} {S : ST} {v1 : Int64} {v3 : Int32} {v4 : Int64} (e1 : v4 = 0 → R c (.inr (some (.int v3))) S) (e2 : ¬ v4 = 0 → Go XM (d + 2) 271 c 16 [some (.ref 140), some (.long v1), none, some (.int v3), some (.long v4), none, some (.long v4), none, none] [] S R) : Go XM (d + 2) 271 c 5 [some (.ref 140), some (.long v1), none, some (.int v3), some (.long v4), none, none, none, none] [] S R := by
  refine go_run mm_271 2 (pc' := 8) (ls' := [some (.ref 140), some (.long v1), none, some (.int v3), some (.long v4), none, none, none, none]) (st' := [.long 0, .long v4]) (S' := S) rfl ?_
  refine go_lif mm_271 rfl rfl (p1 := 73) (p2 := 12) rfl (fun (hc1 : v4 = 0) => ?_) (fun (hc1 : ¬ v4 = 0) => ?_)
  · refine go_run mm_271 1 (pc' := 74) (ls' := [some (.ref 140), some (.long v1), none, some (.int v3), some (.long v4), none, none, none, none]) (st' := [.int v3]) (S' := S) rfl ?_
    exact go_ireturn mm_271 rfl rfl (e1 hc1)
  · refine go_run mm_271 2 (pc' := 16) (ls' := [some (.ref 140), some (.long v1), none, some (.int v3), some (.long v4), none, some (.long v4), none, none]) (st' := []) (S' := S) rfl ?_
    exact e2 hc1
theorem b_271_16 {d c : Nat} {R : RT} {S : ST} {v1 : Int64} {v3 : Int32} {v4 : Int64} {v6 : Int64} (o1 : ¬ v6 = 0 → ¬ v6 = 0) (o2 : ¬ v6 = 0 → inB (f_270 v6) 64) (e1 : v6 = 0 → Go XM (d + 2) 271 c 5 [some (.ref 140), some (.long v1), none, some (.int (v3 + 1)), some (.long v4), none, some (.long v6), none, none] [] S R) (e2 : ¬ v6 = 0 → Go XM (d + 2) 271 c 16 [some (.ref 140), some (.long v1), none, some (.int v3), some (.long (v4 &&& ((1 <<< (Int32.toInt64 (f_270 v6) &&& 63)) ^^^ (-1)))), none, some (.long (v6 &&& ((rl S 153 (f_270 v6)) &&& ((1 <<< (Int32.toInt64 (f_270 v6) &&& 63)) ^^^ (-1))))), none, some (.int (f_270 v6))] [] S R) : Go XM (d + 2) 271 c 16 [some (.ref 140), some (.long v1), none, some (.int v3), some (.long v4), none, some (.long v6), none, none] [] S R := by
  refine go_run mm_271 2 (pc' := 19) (ls' := [some (.ref 140), some (.long v1), none, some (.int v3), some (.long v4), none, some (.long v6), none, none]) (st' := [.long 0, .long v6]) (S' := S) rfl ?_
  refine go_lif mm_271 rfl rfl (p1 := 67) (p2 := 23) rfl (fun (hc1 : v6 = 0) => ?_) (fun (hc1 : ¬ v6 = 0) => ?_)
  · refine go_run mm_271 2 (pc' := 5) (ls' := [some (.ref 140), some (.long v1), none, some (.int (v3 + 1)), some (.long v4), none, some (.long v6), none, none]) (st' := []) (S' := S) rfl ?_
    exact e1 hc1
  · refine go_run mm_271 1 (pc' := 25) (ls' := [some (.ref 140), some (.long v1), none, some (.int v3), some (.long v4), none, some (.long v6), none, none]) (st' := [.long v6]) (S' := S) rfl ?_
    refine go_cs mm_271 (av := [.long v6]) (rest := []) (nl := 3) rfl (show csOK 271 25 334 270 1 3 = true by decide +kernel) rfl rfl rfl (sq_270 (o1 hc1)) (KP_V ?_)
    refine go_run mm_271 13 (pc' := 51) (ls' := [some (.ref 140), some (.long v1), none, some (.int v3), some (.long (v4 &&& ((1 <<< (Int32.toInt64 (f_270 v6) &&& 63)) ^^^ (-1)))), none, some (.long v6), none, some (.int (f_270 v6))]) (st' := [.int (f_270 v6), .ref 153, .long v6]) (S' := S) rfl ?_
    refine go_laload mm_271 (q := (Int32.toNatClampNeg (f_270 v6))) rfl rfl rfl (o2 hc1) ?_
    refine go_run mm_271 9 (pc' := 16) (ls' := [some (.ref 140), some (.long v1), none, some (.int v3), some (.long (v4 &&& ((1 <<< (Int32.toInt64 (f_270 v6) &&& 63)) ^^^ (-1)))), none, some (.long (v6 &&& ((rl S 153 (f_270 v6)) &&& ((1 <<< (Int32.toInt64 (f_270 v6) &&& 63)) ^^^ (-1))))), none, some (.int (f_270 v6))]) (st' := []) (S' := S) rfl ?_
    exact e2 hc1
theorem mm_272 : mtG 272 = some (mi_272, 12, ft_272) := rfl
theorem b_272_0 {d c : Nat} {R : RT} {S : ST} {v1 : Int64} {v3 : Int32} (e1 : Go XM (d + 3) 272 c 23 [some (.ref 140), some (.long v1), none, some (.int v3), some (.long v1), none, none] [] (wI S 140 38 (if (S.1 140 38) < v3 then v3 else S.1 140 38)) R) : Go XM (d + 3) 272 c 0 [some (.ref 140), some (.long v1), none, some (.int v3), none, none, none] [] S R := by
  refine go_run mm_272 4 (pc' := 6) (ls' := [some (.ref 140), some (.long v1), none, some (.int v3), none, none, none]) (st' := [.int (S.1 140 38), .int v3, .ref 140]) (S' := S) rfl ?_
  have j1 : Go XM (d + 3) 272 c 17 [some (.ref 140), some (.long v1), none, some (.int v3), none, none, none] [.int (if (S.1 140 38) < v3 then v3 else S.1 140 38), .ref 140] S R := by
    refine go_run mm_272 3 (pc' := 23) (ls' := [some (.ref 140), some (.long v1), none, some (.int v3), some (.long v1), none, none]) (st' := []) (S' := (wI S 140 38 (if (S.1 140 38) < v3 then v3 else S.1 140 38))) rfl ?_
    exact e1
  refine go_if2 mm_272 rfl (p1 := 9) (p2 := 13) rfl (fun (hc1 : (S.1 140 38) < v3) => ?_) (fun (hc1 : ¬ (S.1 140 38) < v3) => ?_)
  · refine go_run mm_272 2 (pc' := 17) (ls' := [some (.ref 140), some (.long v1), none, some (.int v3), none, none, none]) (st' := [.int v3, .ref 140]) (S' := S) rfl ?_
    have e : ((if (S.1 140 38) < v3 then v3 else S.1 140 38) : Int32) = v3 := by simp [b2i, hc1]
    rw [e] at j1
    exact j1
  · refine go_run mm_272 2 (pc' := 17) (ls' := [some (.ref 140), some (.long v1), none, some (.int v3), none, none, none]) (st' := [.int (S.1 140 38), .ref 140]) (S' := S) rfl ?_
    have e : ((if (S.1 140 38) < v3 then v3 else S.1 140 38) : Int32) = S.1 140 38 := by simp [b2i, hc1]
    rw [e] at j1
    exact j1
theorem b_272_23 {d c : Nat} {R : RT} {S : ST} {v1 : Int64} {v3 : Int32} {v4 : Int64} (e1 : v4 = 0 → R c (.inr none) S) (e2 : ¬ v4 = 0 → Go XM (d + 3) 272 c 34 [some (.ref 140), some (.long v1), none, some (.int v3), some (.long v4), none, none] [.long v4, .ref 140, .int v3] S R) : Go XM (d + 3) 272 c 23 [some (.ref 140), some (.long v1), none, some (.int v3), some (.long v4), none, none] [] S R := by
  refine go_run mm_272 2 (pc' := 26) (ls' := [some (.ref 140), some (.long v1), none, some (.int v3), some (.long v4), none, none]) (st' := [.long 0, .long v4]) (S' := S) rfl ?_
  refine go_lif mm_272 rfl rfl (p1 := 89) (p2 := 30) rfl (fun (hc1 : v4 = 0) => ?_) (fun (hc1 : ¬ v4 = 0) => ?_)
  · exact go_vreturn mm_272 rfl rfl (e1 hc1)
  · refine go_run mm_272 3 (pc' := 34) (ls' := [some (.ref 140), some (.long v1), none, some (.int v3), some (.long v4), none, none]) (st' := [.long v4, .ref 140, .int v3]) (S' := S) rfl ?_
    exact e2 hc1
theorem b_272_37 {d c : Nat} {R : RT} {S : ST} {v1 : Int64} {v3 : Int32} {v4 : Int64} {w0 : Int32} {w1 : Int32} (o1 : (S.1 140 38) < (w0 + w1) → ¬ v4 = 0) (o2 : (S.1 140 38) < (w0 + w1) → inB (f_270 v4) 64) (e1 : (S.1 140 38) < (w0 + w1) → Go XM (d + 3) 272 c 83 [some (.ref 140), some (.long v1), none, some (.int v3), some (.long (v4 &&& ((1 <<< (Int32.toInt64 (f_270 v4) &&& 63)) ^^^ (-1)))), none, some (.int (f_270 v4))] [.int (v3 + 1), .long ((v4 &&& ((1 <<< (Int32.toInt64 (f_270 v4) &&& 63)) ^^^ (-1))) &&& ((rl S 153 (f_270 v4)) ^^^ (-1))), .ref 140] S R) (e2 : ¬ (S.1 140 38) < (w0 + w1) → R c (.inr none) S) : Go XM (d + 3) 272 c 37 [some (.ref 140), some (.long v1), none, some (.int v3), some (.long v4), none, none] [.int w1, .int w0] S R := by
  refine go_run mm_272 3 (pc' := 42) (ls' := [some (.ref 140), some (.long v1), none, some (.int v3), some (.long v4), none, none]) (st' := [.int (S.1 140 38), .int (w0 + w1)]) (S' := S) rfl ?_
  refine go_if2 mm_272 rfl (p1 := 45) (p2 := 89) rfl (fun (hc1 : (S.1 140 38) < (w0 + w1)) => ?_) (fun (hc1 : ¬ (S.1 140 38) < (w0 + w1)) => ?_)
  · refine go_run mm_272 1 (pc' := 47) (ls' := [some (.ref 140), some (.long v1), none, some (.int v3), some (.long v4), none, none]) (st' := [.long v4]) (S' := S) rfl ?_
    refine go_cs mm_272 (av := [.long v4]) (rest := []) (nl := 3) rfl (show csOK 272 47 334 270 1 3 = true by decide +kernel) rfl rfl rfl (sq_270 (o1 hc1)) (KP_V ?_)
    refine go_run mm_272 14 (pc' := 74) (ls' := [some (.ref 140), some (.long v1), none, some (.int v3), some (.long (v4 &&& ((1 <<< (Int32.toInt64 (f_270 v4) &&& 63)) ^^^ (-1)))), none, some (.int (f_270 v4))]) (st' := [.int (f_270 v4), .ref 153, .long (v4 &&& ((1 <<< (Int32.toInt64 (f_270 v4) &&& 63)) ^^^ (-1))), .ref 140]) (S' := S) rfl ?_
    refine go_laload mm_272 (q := (Int32.toNatClampNeg (f_270 v4))) rfl rfl rfl (o2 hc1) ?_
    refine go_run mm_272 6 (pc' := 83) (ls' := [some (.ref 140), some (.long v1), none, some (.int v3), some (.long (v4 &&& ((1 <<< (Int32.toInt64 (f_270 v4) &&& 63)) ^^^ (-1)))), none, some (.int (f_270 v4))]) (st' := [.int (v3 + 1), .long ((v4 &&& ((1 <<< (Int32.toInt64 (f_270 v4) &&& 63)) ^^^ (-1))) &&& ((rl S 153 (f_270 v4)) ^^^ (-1))), .ref 140]) (S' := S) rfl ?_
    exact e1 hc1
  · exact go_vreturn mm_272 rfl rfl (e2 hc1)
theorem b_272_86 {d c : Nat} {R : RT} {S : ST} {v1 : Int64} {v3 : Int32} {v4 : Int64} {v6 : Int32} (e1 : Go XM (d + 3) 272 c 23 [some (.ref 140), some (.long v1), none, some (.int v3), some (.long v4), none, some (.int v6)] [] S R) : Go XM (d + 3) 272 c 86 [some (.ref 140), some (.long v1), none, some (.int v3), some (.long v4), none, some (.int v6)] [] S R := by
  refine go_run mm_272 1 (pc' := 23) (ls' := [some (.ref 140), some (.long v1), none, some (.int v3), some (.long v4), none, some (.int v6)]) (st' := []) (S' := S) rfl ?_
  exact e1
theorem mm_273 : mtG 273 = some (mi_273, 12, ft_273) := rfl
theorem b_273_0 {d c : Nat} {R : RT} {S : ST} (e1 : (decide (S.1 140 1 = 0)) = true → R c (.inr (some (.int 0))) (wI S 140 0 (tz (decide (S.1 140 1 = 0)) 1))) (e2 : (decide (S.1 140 1 = 0)) = false → Go XM (d + 68) 273 c 10 [some (.ref 140)] [.ref 140] (wI S 140 0 (tz (decide (S.1 140 1 = 0)) 1)) R) : Go XM (d + 68) 273 c 0 [some (.ref 140)] [] S R := by
  refine go_run mm_273 1 (pc' := 1) (ls' := [some (.ref 140)]) (st' := [.ref 140]) (S' := S) rfl ?_
  refine go_cv mm_273 (h := 140) (As := []) (rest := []) (nl := 1) rfl XM_140 (show cvOK 273 1 247 184 0 1 11 = true by decide +kernel) rfl rfl rfl (sq_184) (KP_V ?_)
  refine go_ifb mm_273 rfl (p1 := 7) (p2 := 9) rfl (fun (hc1 : (decide (S.1 140 1 = 0)) = true) => ?_) (fun (hc1 : (decide (S.1 140 1 = 0)) = false) => ?_)
  · refine go_run mm_273 1 (pc' := 8) (ls' := [some (.ref 140)]) (st' := [.int 0]) (S' := (wI S 140 0 (tz (decide (S.1 140 1 = 0)) 1))) rfl ?_
    exact go_ireturn mm_273 rfl rfl (e1 hc1)
  · refine go_run mm_273 1 (pc' := 10) (ls' := [some (.ref 140)]) (st' := [.ref 140]) (S' := (wI S 140 0 (tz (decide (S.1 140 1 = 0)) 1))) rfl ?_
    exact e2 hc1
theorem b_273_13 {d c : Nat} {R : RT} {S : ST} (e1 : Go XM (d + 68) 273 c 24 [some (.ref 140)] [.int 0, .long (f_216 (wI S 140 38 0)), .ref 140] (wI S 140 38 0) R) : Go XM (d + 68) 273 c 13 [some (.ref 140)] [] S R := by
  refine go_run mm_273 5 (pc' := 20) (ls' := [some (.ref 140)]) (st' := [.ref 140, .ref 140]) (S' := (wI S 140 38 0)) rfl ?_
  refine go_cv mm_273 (h := 140) (As := []) (rest := [.ref 140]) (nl := 1) rfl XM_140 (show cvOK 273 20 286 216 0 1 11 = true by decide +kernel) rfl rfl rfl (sp_216) (KP_V ?_)
  refine go_run mm_273 1 (pc' := 24) (ls' := [some (.ref 140)]) (st' := [.int 0, .long (f_216 (wI S 140 38 0)), .ref 140]) (S' := (wI S 140 38 0)) rfl ?_
  exact e1
theorem b_273_27 {d c : Nat} {R : RT} {S : ST} (e1 : R c (.inr (some (.int (S.1 140 38)))) S) : Go XM (d + 68) 273 c 27 [some (.ref 140)] [] S R := by
  refine go_run mm_273 2 (pc' := 31) (ls' := [some (.ref 140)]) (st' := [.int (S.1 140 38)]) (S' := S) rfl ?_
  exact go_ireturn mm_273 rfl rfl (e1)
def pc64 (x : Int64) : Nat := rk (bz x) 64
theorem pc64_0 {x : Int64} (h : ¬ x = 0) : 0 < pc64 x := by
  obtain ⟨i, h1, h2⟩ := ne_bz h
  have := rk_lt (p := bz x) h1 h2
  unfold pc64
  omega
/-- a bit less -/
theorem pc64_lt {x y : Int64} {p : Nat} (hp : p < 64) (h1 : bz x p = true) (h2 : bz y p = false) (h3 : ∀ i, i < 64 → bz y i = true → bz x i = true) : pc64 y < pc64 x := rk_up1 h3 ⟨p, hp, h1, h2⟩
theorem bz_clr {x : Int64} {p i : Nat} (hp : p < 64) (hi : i < 64) : bz (x &&& ((1 <<< (Int32.toInt64 (nJ p) &&& 63)) ^^^ (-1))) i = (bz x i && !decide (i = p)) := by rw [bz_and, bz_not _ hi, bz_shl hp]
section Hd
variable {d : Nat} {S : ST}
theorem sq_271 {v1 : Int64} : Cal XM (d + 2) 271 [.ref 140, .long v1] S (RP (fun v S' => S' = S ∧ ∃ x : Int32, v = some (.int x))) := by
  refine cal_go 6 rfl (b_271_0 ?_)
  have outer : ∀ N n left, pc64 left ≤ N → Go XM (d + 2) 271 0 5 [some (.ref 140), some (.long v1), none, some (.int n), some (.long left), none, none, none, none] [] S (RP (fun v S' => S' = S ∧ ∃ x : Int32, v = some (.int x))) := by
    intro N
    induction N with
    | zero =>
      intro n left h
      refine b_271_5 (fun _ => ⟨rfl, _, rfl, rfl, _, rfl⟩) (fun q => ?_)
      have := pc64_0 q
      omega
    | succ N ih =>
      intro n left h
      refine b_271_5 (fun _ => ⟨rfl, _, rfl, rfl, _, rfl⟩) (fun q => ?_)
      -- the inner loop: left has lost a bit, or open is left
      have inner : ∀ K lf op, pc64 op ≤ K → (∀ i, i < 64 → bz op i = true → bz lf i = true) → (pc64 lf ≤ N ∨ (¬ op = 0 ∧ pc64 lf ≤ N + 1)) → Go XM (d + 2) 271 0 16 [some (.ref 140), some (.long v1), none, some (.int n), some (.long lf), none, some (.long op), none, none] [] S (RP (fun v S' => S' = S ∧ ∃ x : Int32, v = some (.int x))) := by
        intro K
        induction K with
        | zero =>
          intro lf op hK hsub hN
          have h0 : op = 0 := Classical.byContradiction fun q => by have := pc64_0 q; omega
          refine b_271_16 (fun q => absurd h0 q) (fun q => absurd h0 q) (fun _ => ?_) (fun q => absurd h0 q)
          rcases hN with hN | ⟨hN, -⟩
          · exact Go.le (ih _ lf hN) (by repeat first | exact True.intro | refine And.intro rfl ?_)
          · exact absurd h0 hN
        | succ K ihK =>
          intro lf op hK hsub hN
          refine b_271_16 (fun q => q) (fun q => nJ_inB (low_ok q).1 (by omega)) (fun h0 => ?_) (fun q => ?_)
          · rcases hN with hN | ⟨hN, -⟩
            · exact Go.le (ih _ lf hN) (by repeat first | exact True.intro | refine And.intro rfl ?_)
            · exact absurd h0 hN
          · obtain ⟨p1, p2⟩ := low_ok q
            unfold f_270
            generalize lowN op = p at *
            rw [rl_n S 153 (by omega)]
            have c1 : pc64 (lf &&& ((1 <<< (Int32.toInt64 (nJ p) &&& 63)) ^^^ (-1))) < pc64 lf := by
              refine pc64_lt p1 (hsub p p1 p2) ?_ (fun i hi hb => ?_)
              · rw [bz_clr p1 p1]; simp
              · rw [bz_clr p1 hi, Bool.and_eq_true] at hb; exact hb.1
            have c2 : pc64 (op &&& (S.2 153 p &&& ((1 <<< (Int32.toInt64 (nJ p) &&& 63)) ^^^ (-1)))) < pc64 op := by
              refine pc64_lt p1 p2 ?_ (fun i hi hb => ?_)
              · rw [bz_and, bz_clr p1 p1]; simp
              · rw [bz_and, Bool.and_eq_true] at hb; exact hb.1
            refine Go.le (ihK (lf &&& ((1 <<< (Int32.toInt64 (nJ p) &&& 63)) ^^^ (-1))) (op &&& (S.2 153 p &&& ((1 <<< (Int32.toInt64 (nJ p) &&& 63)) ^^^ (-1)))) (by omega) (fun i hi hb => ?_) (Or.inl (by omega))) (by repeat first | exact True.intro | refine And.intro rfl ?_)
            rw [bz_and, bz_clr p1 hi] at hb
            rw [bz_clr p1 hi]
            simp only [Bool.and_eq_true] at hb ⊢
            exact ⟨hsub i hi hb.1, hb.2.2⟩
      exact inner (pc64 left) left left (Nat.le_refl _) (fun _ _ h => h) (Or.inr ⟨q, h⟩)
  exact outer (pc64 v1) 0 v1 (Nat.le_refl _)
theorem Qq_38 (M : MOK S) (v : Int32) : Qq S (wI S 140 38 v) := Qq_0 M (hs := []) (fs := [38]) (Fm_f (by decide)) (by decide) (by decide) (by decide) (by decide) (by decide) (by decide)
theorem sq_272 : ∀ c op many S, pc64 op ≤ c → Qs S → Cal XM (d + c + 3) 272 [.ref 140, .long op, .int many] S (RP (fun v S' => v = none ∧ Qq S S' ∧ Qs S')) := by
  intro c
  induction c with
  | zero =>
    intro op many S hc hs
    have q0 := Qq_38 hs.1 (if (S.1 140 38) < many then many else S.1 140 38)
    refine cal_go 3 rfl (b_272_0 ?_)
    refine b_272_23 (fun _ => ⟨rfl, _, rfl, rfl, q0, Qs_q hs q0 rfl⟩) (fun q => ?_)
    have := pc64_0 q
    omega
  | succ c ih =>
    intro op many S hc hs
    have q0 := Qq_38 hs.1 (if (S.1 140 38) < many then many else S.1 140 38)
    refine cal_go 3 rfl (b_272_0 ?_)
    have loop : ∀ K left S1, pc64 left ≤ K → K ≤ c + 1 → Qq S S1 → Qs S1 → Go XM (d + (c + 1) + 3) 272 0 23 [some (.ref 140), some (.long op), none, some (.int many), some (.long left), none, none] [] S1 (RP (fun v S' => v = none ∧ Qq S S' ∧ Qs S')) := by
      intro K
      induction K with
      | zero =>
        intro left S1 hK _ q1 s1
        refine b_272_23 (fun _ => ⟨rfl, _, rfl, rfl, q1, s1⟩) (fun q => ?_)
        have := pc64_0 q
        omega
      | succ K ihK =>
        intro left S1 hK hKc q1 s1
        refine b_272_23 (fun _ => ⟨rfl, _, rfl, rfl, q1, s1⟩) (fun q => ?_)
        refine go_cv mm_272 (h := 140) (As := [.long left]) (rest := [.int many]) (nl := 9) rfl XM_140 (show cvOK 272 34 340 271 1 9 11 = true by decide +kernel) rfl rfl rfl (sq_271 (d := d + (c + 1))) (KP_P (fun v S2 k2 => ?_))
        obtain ⟨rfl, x, rfl⟩ := k2
        refine b_272_37 (fun _ => q) (fun _ => nJ_inB (low_ok q).1 (by omega)) (fun _ => ?_) (fun _ => ⟨rfl, _, rfl, rfl, q1, s1⟩)
        obtain ⟨p1, p2⟩ := low_ok q
        unfold f_270
        generalize lowN left = p at *
        rw [rl_n S2 153 (by omega)]
        have c1 : pc64 (left &&& ((1 <<< (Int32.toInt64 (nJ p) &&& 63)) ^^^ (-1))) < pc64 left := by
          refine pc64_lt p1 p2 ?_ (fun i hi hb => ?_)
          · rw [bz_clr p1 p1]; simp
          · rw [bz_clr p1 hi, Bool.and_eq_true] at hb; exact hb.1
        have c2 : pc64 ((left &&& ((1 <<< (Int32.toInt64 (nJ p) &&& 63)) ^^^ (-1))) &&& (S2.2 153 p ^^^ (-1))) ≤ pc64 (left &&& ((1 <<< (Int32.toInt64 (nJ p) &&& 63)) ^^^ (-1))) := rk_up (fun i _ hb => by rw [bz_and, Bool.and_eq_true] at hb; exact hb.1)
        refine go_cv mm_272 (h := 140) (As := [.long ((left &&& ((1 <<< (Int32.toInt64 (nJ p) &&& 63)) ^^^ (-1))) &&& (S2.2 153 p ^^^ (-1))), .int (many + 1)]) (rest := []) (nl := 7) rfl XM_140 (show cvOK 272 83 343 272 2 7 11 = true by decide +kernel) rfl rfl rfl (ih _ (many + 1) S2 (by omega) s1) (KP_P (fun v S3 k3 => ?_))
        obtain ⟨rfl, q3, s3⟩ := k3
        refine b_272_86 ?_
        exact Go.le (ihK (left &&& ((1 <<< (Int32.toInt64 (nJ p) &&& 63)) ^^^ (-1))) S3 (by omega) (by omega) (q1.tr q3) s3) (by repeat first | exact True.intro | refine And.intro rfl ?_)
    exact loop (c + 1) op _ hc (Nat.le_refl _) q0 (Qs_q hs q0 rfl)
theorem q_273 (M : MOK S) : Cal XM (d + 68) 273 [.ref 140] S (RQi S) := by
  refine cal_go 0 rfl (b_273_0 (fun _ => Qi_t M) (fun h1 => ?_))
  have qt := Qq_t M (tz (decide (S.1 140 1 = 0)) 1)
  refine go_cv mm_273 (h := 140) (As := []) (rest := []) (nl := 3) rfl XM_140 (show cvOK 273 10 279 239 0 3 11 = true by decide +kernel) rfl rfl rfl (sr_239 (d := d + 61) ⟨qt.1, np_f h1⟩) (KP_P (fun v S1 k1 => ?_))
  obtain ⟨rfl, q1, s1⟩ := k1
  refine b_273_13 ?_
  have q2 := Qq_38 q1.1 0
  refine go_cv mm_273 (h := 140) (As := [.long (f_216 (wI S1 140 38 0)), .int 0]) (rest := []) (nl := 7) rfl XM_140 (show cvOK 273 24 343 272 2 7 11 = true by decide +kernel) rfl rfl rfl (sq_272 (d := d) 64 _ 0 _ (rk_le _ _) (Qs_q s1 q2 rfl)) (KP_P (fun v S2 k2 => ?_))
  obtain ⟨rfl, q3, s3⟩ := k2
  exact b_273_27 (Qi_q (((qt.tr q1).tr q2).tr q3))
end Hd
