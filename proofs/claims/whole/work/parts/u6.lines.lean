theorem mm_198 : mtG 198 = some (mi_198, 12, ft_198) := rfl
set_option maxRecDepth 20000 in
theorem b_198_0 {d c : Nat} {R : RT} {S : ST} (e1 : Go XM (d + 7) 198 c 3 [some (.ref 140), none, none] [.ref 314, .ref 140] S R) : Go XM (d + 7) 198 c 0 [some (.ref 140), none, none] [] S R := by
  refine go_run mm_198 1 (pc' := 1) (ls' := [some (.ref 140), none, none]) (st' := [.ref 140]) (S' := S) rfl ?_
  refine go_ldcS mm_198 (j := 14) rfl rfl ?_
  exact e1
set_option maxRecDepth 20000 in
theorem b_198_6 {d c : Nat} {R : RT} {S : ST} {w0 : Bool} (e1 : w0 = true → Go XM (d + 7) 198 c 15 [some (.ref 140), none, none] [.ref 140] S R) (e2 : w0 = false → Go XM (d + 7) 198 c 15 [some (.ref 140), none, none] [.ref 140] (g_193 S 1) R) : Go XM (d + 7) 198 c 6 [some (.ref 140), none, none] [.int (b2i w0)] S R := by
  refine go_ifb mm_198 rfl (p1 := 14) (p2 := 9) rfl (fun (hc1 : w0 = true) => ?_) (fun (hc1 : w0 = false) => ?_)
  · refine go_run mm_198 1 (pc' := 15) (ls' := [some (.ref 140), none, none]) (st' := [.ref 140]) (S' := S) rfl ?_
    exact e1 hc1
  · refine go_run mm_198 2 (pc' := 11) (ls' := [some (.ref 140), none, none]) (st' := [.int 1, .ref 140]) (S' := S) rfl ?_
    refine go_cv mm_198 (h := 140) (As := [.int 1]) (rest := []) (nl := 2) rfl XM_140 (show cvOK 198 11 144 193 1 2 11 = true by decide +kernel) rfl rfl rfl (sp_193) (KP_V ?_)
    refine go_run mm_198 1 (pc' := 15) (ls' := [some (.ref 140), none, none]) (st' := [.ref 140]) (S' := (g_193 S 1)) rfl ?_
    exact e2 hc1
set_option maxRecDepth 20000 in
theorem b_198_18 {d c : Nat} {R : RT} {S : ST} (e1 : (S.1 140 17) = 0 → (S.1 146 0) < 3 → Go XM (d + 7) 198 c 43 [some (.ref 140), none, none] [] S R) (e2 : (S.1 140 17) = 0 → ¬ (S.1 146 0) < 3 → (S.1 140 13) = 2 → Go XM (d + 7) 198 c 43 [some (.ref 140), none, none] [] S R) (e3 : (S.1 140 17) = 0 → ¬ (S.1 146 0) < 3 → ¬ (S.1 140 13) = 2 → Go XM (d + 7) 198 c 135 [some (.ref 140), none, none] [] S R) (e4 : ¬ (S.1 140 17) = 0 → Go XM (d + 7) 198 c 135 [some (.ref 140), none, none] [] S R) : Go XM (d + 7) 198 c 18 [some (.ref 140), none, none] [] S R := by
  refine go_run mm_198 2 (pc' := 22) (ls' := [some (.ref 140), none, none]) (st' := [.int (S.1 140 17)]) (S' := S) rfl ?_
  refine go_if0 mm_198 rfl (p1 := 25) (p2 := 135) rfl (fun (hc1 : (S.1 140 17) = 0) => ?_) (fun (hc1 : ¬ (S.1 140 17) = 0) => ?_)
  · refine go_run mm_198 3 (pc' := 30) (ls' := [some (.ref 140), none, none]) (st' := [.int 0, .ref 146]) (S' := S) rfl ?_
    refine go_iaload mm_198 (q := 0) rfl rfl rfl (inB_lit rfl) ?_
    refine go_run mm_198 1 (pc' := 32) (ls' := [some (.ref 140), none, none]) (st' := [.int 3, .int (S.1 146 0)]) (S' := S) rfl ?_
    refine go_if2 mm_198 rfl (p1 := 43) (p2 := 35) rfl (fun (hc2 : (S.1 146 0) < 3) => ?_) (fun (hc2 : ¬ (S.1 146 0) < 3) => ?_)
    · exact e1 hc1 hc2
    · refine go_run mm_198 3 (pc' := 40) (ls' := [some (.ref 140), none, none]) (st' := [.int 2, .int (S.1 140 13)]) (S' := S) rfl ?_
      refine go_if2 mm_198 rfl (p1 := 43) (p2 := 135) rfl (fun (hc3 : (S.1 140 13) = 2) => ?_) (fun (hc3 : ¬ (S.1 140 13) = 2) => ?_)
      · exact e2 hc1 hc2 hc3
      · exact e3 hc1 hc2 hc3
  · exact e4 hc1
set_option maxRecDepth 20000 in
theorem b_198_43 {d c : Nat} {R : RT} {S : ST} (e1 : ((g_196 S 0 15).1 140 17) = 0 → ((g_196 S 0 15).1 146 0) = 12 → Go XM (d + 7) 198 c 75 [some (.ref 140), some (.int (f_196 S 0 15)), none] [.ref 140] (g_193 (g_196 S 0 15) 5) R) (e2 : ((g_196 S 0 15).1 140 17) = 0 → ¬ ((g_196 S 0 15).1 146 0) = 12 → Go XM (d + 7) 198 c 75 [some (.ref 140), some (.int (f_196 S 0 15)), none] [.ref 140] (g_196 S 0 15) R) (e3 : ¬ ((g_196 S 0 15).1 140 17) = 0 → Go XM (d + 7) 198 c 75 [some (.ref 140), some (.int (f_196 S 0 15)), none] [.ref 140] (g_196 S 0 15) R) : Go XM (d + 7) 198 c 43 [some (.ref 140), none, none] [] S R := by
  refine go_run mm_198 3 (pc' := 47) (ls' := [some (.ref 140), none, none]) (st' := [.int 15, .int 0, .ref 140]) (S' := S) rfl ?_
  refine go_cv mm_198 (h := 140) (As := [.int 0, .int 15]) (rest := []) (nl := 3) rfl XM_140 (show cvOK 198 47 152 196 2 3 11 = true by decide +kernel) rfl rfl rfl (sp_196) (KP_V ?_)
  refine go_run mm_198 3 (pc' := 55) (ls' := [some (.ref 140), some (.int (f_196 S 0 15)), none]) (st' := [.int ((g_196 S 0 15).1 140 17)]) (S' := (g_196 S 0 15)) rfl ?_
  refine go_if0 mm_198 rfl (p1 := 58) (p2 := 74) rfl (fun (hc1 : ((g_196 S 0 15).1 140 17) = 0) => ?_) (fun (hc1 : ¬ ((g_196 S 0 15).1 140 17) = 0) => ?_)
  · refine go_run mm_198 3 (pc' := 63) (ls' := [some (.ref 140), some (.int (f_196 S 0 15)), none]) (st' := [.int 0, .ref 146]) (S' := (g_196 S 0 15)) rfl ?_
    refine go_iaload mm_198 (q := 0) rfl rfl rfl (inB_lit rfl) ?_
    refine go_run mm_198 1 (pc' := 66) (ls' := [some (.ref 140), some (.int (f_196 S 0 15)), none]) (st' := [.int 12, .int ((g_196 S 0 15).1 146 0)]) (S' := (g_196 S 0 15)) rfl ?_
    refine go_if2 mm_198 rfl (p1 := 69) (p2 := 74) rfl (fun (hc2 : ((g_196 S 0 15).1 146 0) = 12) => ?_) (fun (hc2 : ¬ ((g_196 S 0 15).1 146 0) = 12) => ?_)
    · refine go_run mm_198 2 (pc' := 71) (ls' := [some (.ref 140), some (.int (f_196 S 0 15)), none]) (st' := [.int 5, .ref 140]) (S' := (g_196 S 0 15)) rfl ?_
      refine go_cv mm_198 (h := 140) (As := [.int 5]) (rest := []) (nl := 2) rfl XM_140 (show cvOK 198 71 144 193 1 2 11 = true by decide +kernel) rfl rfl rfl (sp_193) (KP_V ?_)
      refine go_run mm_198 1 (pc' := 75) (ls' := [some (.ref 140), some (.int (f_196 S 0 15)), none]) (st' := [.ref 140]) (S' := (g_193 (g_196 S 0 15) 5)) rfl ?_
      exact e1 hc1 hc2
    · refine go_run mm_198 1 (pc' := 75) (ls' := [some (.ref 140), some (.int (f_196 S 0 15)), none]) (st' := [.ref 140]) (S' := (g_196 S 0 15)) rfl ?_
      exact e2 hc1 hc2
  · refine go_run mm_198 1 (pc' := 75) (ls' := [some (.ref 140), some (.int (f_196 S 0 15)), none]) (st' := [.ref 140]) (S' := (g_196 S 0 15)) rfl ?_
    exact e3 hc1
set_option maxRecDepth 20000 in
theorem b_198_78 {d c : Nat} {R : RT} {S : ST} {v1 : Int32} (e1 : Go XM (d + 7) 198 c 82 [some (.ref 140), some (.int v1), none] [.int 15, .int 0, .ref 140] S R) : Go XM (d + 7) 198 c 78 [some (.ref 140), some (.int v1), none] [] S R := by
  refine go_run mm_198 3 (pc' := 82) (ls' := [some (.ref 140), some (.int v1), none]) (st' := [.int 15, .int 0, .ref 140]) (S' := S) rfl ?_
  exact e1
set_option maxRecDepth 20000 in
theorem b_198_85 {d c : Nat} {R : RT} {S : ST} {v1 : Int32} {w0 : Int32} (o1 : (S.1 140 17) = 0 → inB (3 + (S.1 146 0)) 63) (o2 : (S.1 140 17) = 0 → inB (15 + ((wI S 146 (Int32.toNatClampNeg (3 + (S.1 146 0))) v1).1 146 0)) 63) (e1 : (S.1 140 17) = 0 → Go XM (d + 7) 198 c 18 [some (.ref 140), some (.int v1), some (.int w0)] [] (wI (wI (wI S 146 (Int32.toNatClampNeg (3 + (S.1 146 0))) v1) 146 (Int32.toNatClampNeg (15 + ((wI S 146 (Int32.toNatClampNeg (3 + (S.1 146 0))) v1).1 146 0))) w0) 146 0 (((wI (wI S 146 (Int32.toNatClampNeg (3 + (S.1 146 0))) v1) 146 (Int32.toNatClampNeg (15 + ((wI S 146 (Int32.toNatClampNeg (3 + (S.1 146 0))) v1).1 146 0))) w0).1 146 0) + 1)) R) (e2 : ¬ (S.1 140 17) = 0 → Go XM (d + 7) 198 c 18 [some (.ref 140), some (.int v1), some (.int w0)] [] S R) : Go XM (d + 7) 198 c 85 [some (.ref 140), some (.int v1), none] [.int w0] S R := by
  refine go_run mm_198 3 (pc' := 90) (ls' := [some (.ref 140), some (.int v1), some (.int w0)]) (st' := [.int (S.1 140 17)]) (S' := S) rfl ?_
  refine go_if0 mm_198 rfl (p1 := 93) (p2 := 132) rfl (fun (hc1 : (S.1 140 17) = 0) => ?_) (fun (hc1 : ¬ (S.1 140 17) = 0) => ?_)
  · refine go_run mm_198 6 (pc' := 103) (ls' := [some (.ref 140), some (.int v1), some (.int w0)]) (st' := [.int 0, .ref 146, .int 3, .ref 146]) (S' := S) rfl ?_
    refine go_iaload mm_198 (q := 0) rfl rfl rfl (inB_lit rfl) ?_
    refine go_run mm_198 2 (pc' := 106) (ls' := [some (.ref 140), some (.int v1), some (.int w0)]) (st' := [.int v1, .int (3 + (S.1 146 0)), .ref 146]) (S' := S) rfl ?_
    refine go_iastore mm_198 (q := (Int32.toNatClampNeg (3 + (S.1 146 0)))) rfl rfl rfl (o1 hc1) ?_
    refine go_run mm_198 6 (pc' := 118) (ls' := [some (.ref 140), some (.int v1), some (.int w0)]) (st' := [.int 0, .ref 146, .int 15, .ref 146]) (S' := (wI S 146 (Int32.toNatClampNeg (3 + (S.1 146 0))) v1)) rfl ?_
    refine go_iaload mm_198 (q := 0) rfl rfl rfl (inB_lit rfl) ?_
    refine go_run mm_198 2 (pc' := 121) (ls' := [some (.ref 140), some (.int v1), some (.int w0)]) (st' := [.int w0, .int (15 + ((wI S 146 (Int32.toNatClampNeg (3 + (S.1 146 0))) v1).1 146 0)), .ref 146]) (S' := (wI S 146 (Int32.toNatClampNeg (3 + (S.1 146 0))) v1)) rfl ?_
    refine go_iastore mm_198 (q := (Int32.toNatClampNeg (15 + ((wI S 146 (Int32.toNatClampNeg (3 + (S.1 146 0))) v1).1 146 0)))) rfl rfl rfl (o2 hc1) ?_
    refine go_run mm_198 4 (pc' := 128) (ls' := [some (.ref 140), some (.int v1), some (.int w0)]) (st' := [.int 0, .ref 146, .int 0, .ref 146]) (S' := (wI (wI S 146 (Int32.toNatClampNeg (3 + (S.1 146 0))) v1) 146 (Int32.toNatClampNeg (15 + ((wI S 146 (Int32.toNatClampNeg (3 + (S.1 146 0))) v1).1 146 0))) w0)) rfl ?_
    refine go_iaload mm_198 (q := 0) rfl rfl rfl (inB_lit rfl) ?_
    refine go_run mm_198 2 (pc' := 131) (ls' := [some (.ref 140), some (.int v1), some (.int w0)]) (st' := [.int (((wI (wI S 146 (Int32.toNatClampNeg (3 + (S.1 146 0))) v1) 146 (Int32.toNatClampNeg (15 + ((wI S 146 (Int32.toNatClampNeg (3 + (S.1 146 0))) v1).1 146 0))) w0).1 146 0) + 1), .int 0, .ref 146]) (S' := (wI (wI S 146 (Int32.toNatClampNeg (3 + (S.1 146 0))) v1) 146 (Int32.toNatClampNeg (15 + ((wI S 146 (Int32.toNatClampNeg (3 + (S.1 146 0))) v1).1 146 0))) w0)) rfl ?_
    refine go_iastore mm_198 (q := 0) rfl rfl rfl (inB_lit rfl) ?_
    refine go_run mm_198 1 (pc' := 18) (ls' := [some (.ref 140), some (.int v1), some (.int w0)]) (st' := []) (S' := (wI (wI (wI S 146 (Int32.toNatClampNeg (3 + (S.1 146 0))) v1) 146 (Int32.toNatClampNeg (15 + ((wI S 146 (Int32.toNatClampNeg (3 + (S.1 146 0))) v1).1 146 0))) w0) 146 0 (((wI (wI S 146 (Int32.toNatClampNeg (3 + (S.1 146 0))) v1) 146 (Int32.toNatClampNeg (15 + ((wI S 146 (Int32.toNatClampNeg (3 + (S.1 146 0))) v1).1 146 0))) w0).1 146 0) + 1))) rfl ?_
    exact e1 hc1
  · refine go_run mm_198 1 (pc' := 18) (ls' := [some (.ref 140), some (.int v1), some (.int w0)]) (st' := []) (S' := S) rfl ?_
    exact e2 hc1
set_option maxRecDepth 20000 in
theorem b_198_135 {d c : Nat} {R : RT} {S : ST} (e1 : (S.1 140 13) = 3 → (S.1 140 17) = 0 → Go XM (d + 7) 198 c 166 [some (.ref 140), none, none] [.ref 146] S R) (e2 : (S.1 140 13) = 3 → ¬ (S.1 140 17) = 0 → R c (.inr none) S) (e3 : ¬ (S.1 140 13) = 3 → (S.1 140 13) = 0 → (S.1 140 17) = 0 → Go XM (d + 7) 198 c 166 [some (.ref 140), none, none] [.ref 146] S R) (e4 : ¬ (S.1 140 13) = 3 → (S.1 140 13) = 0 → ¬ (S.1 140 17) = 0 → R c (.inr none) S) (e5 : ¬ (S.1 140 13) = 3 → ¬ (S.1 140 13) = 0 → ((g_193 S 1).1 140 17) = 0 → Go XM (d + 7) 198 c 166 [some (.ref 140), none, none] [.ref 146] (g_193 S 1) R) (e6 : ¬ (S.1 140 13) = 3 → ¬ (S.1 140 13) = 0 → ¬ ((g_193 S 1).1 140 17) = 0 → R c (.inr none) (g_193 S 1)) : Go XM (d + 7) 198 c 135 [some (.ref 140), none, none] [] S R := by
  refine go_run mm_198 3 (pc' := 140) (ls' := [some (.ref 140), none, none]) (st' := [.int 3, .int (S.1 140 13)]) (S' := S) rfl ?_
  refine go_if2 mm_198 rfl (p1 := 155) (p2 := 143) rfl (fun (hc1 : (S.1 140 13) = 3) => ?_) (fun (hc1 : ¬ (S.1 140 13) = 3) => ?_)
  · refine go_run mm_198 2 (pc' := 159) (ls' := [some (.ref 140), none, none]) (st' := [.int (S.1 140 17)]) (S' := S) rfl ?_
    refine go_if0 mm_198 rfl (p1 := 162) (p2 := 177) rfl (fun (hc2 : (S.1 140 17) = 0) => ?_) (fun (hc2 : ¬ (S.1 140 17) = 0) => ?_)
    · refine go_run mm_198 2 (pc' := 166) (ls' := [some (.ref 140), none, none]) (st' := [.ref 146]) (S' := S) rfl ?_
      exact e1 hc1 hc2
    · exact go_vreturn mm_198 rfl rfl (e2 hc1 hc2)
  · refine go_run mm_198 2 (pc' := 147) (ls' := [some (.ref 140), none, none]) (st' := [.int (S.1 140 13)]) (S' := S) rfl ?_
    refine go_if0 mm_198 rfl (p1 := 155) (p2 := 150) rfl (fun (hc2 : (S.1 140 13) = 0) => ?_) (fun (hc2 : ¬ (S.1 140 13) = 0) => ?_)
    · refine go_run mm_198 2 (pc' := 159) (ls' := [some (.ref 140), none, none]) (st' := [.int (S.1 140 17)]) (S' := S) rfl ?_
      refine go_if0 mm_198 rfl (p1 := 162) (p2 := 177) rfl (fun (hc3 : (S.1 140 17) = 0) => ?_) (fun (hc3 : ¬ (S.1 140 17) = 0) => ?_)
      · refine go_run mm_198 2 (pc' := 166) (ls' := [some (.ref 140), none, none]) (st' := [.ref 146]) (S' := S) rfl ?_
        exact e3 hc1 hc2 hc3
      · exact go_vreturn mm_198 rfl rfl (e4 hc1 hc2 hc3)
    · refine go_run mm_198 2 (pc' := 152) (ls' := [some (.ref 140), none, none]) (st' := [.int 1, .ref 140]) (S' := S) rfl ?_
      refine go_cv mm_198 (h := 140) (As := [.int 1]) (rest := []) (nl := 2) rfl XM_140 (show cvOK 198 152 144 193 1 2 11 = true by decide +kernel) rfl rfl rfl (sp_193) (KP_V ?_)
      refine go_run mm_198 2 (pc' := 159) (ls' := [some (.ref 140), none, none]) (st' := [.int ((g_193 S 1).1 140 17)]) (S' := (g_193 S 1)) rfl ?_
      refine go_if0 mm_198 rfl (p1 := 162) (p2 := 177) rfl (fun (hc3 : ((g_193 S 1).1 140 17) = 0) => ?_) (fun (hc3 : ¬ ((g_193 S 1).1 140 17) = 0) => ?_)
      · refine go_run mm_198 2 (pc' := 166) (ls' := [some (.ref 140), none, none]) (st' := [.ref 146]) (S' := (g_193 S 1)) rfl ?_
        exact e5 hc1 hc2 hc3
      · exact go_vreturn mm_198 rfl rfl (e6 hc1 hc2 hc3)
set_option maxRecDepth 20000 in
theorem b_198_169 {d c : Nat} {R : RT} {S : ST} {w0 : Bool} (e1 : w0 = true → R c (.inr none) S) (e2 : w0 = false → R c (.inr none) (g_193 S 3)) : Go XM (d + 7) 198 c 169 [some (.ref 140), none, none] [.int (b2i w0)] S R := by
  refine go_ifb mm_198 rfl (p1 := 177) (p2 := 172) rfl (fun (hc1 : w0 = true) => ?_) (fun (hc1 : w0 = false) => ?_)
  · exact go_vreturn mm_198 rfl rfl (e1 hc1)
  · refine go_run mm_198 2 (pc' := 174) (ls' := [some (.ref 140), none, none]) (st' := [.int 3, .ref 140]) (S' := S) rfl ?_
    refine go_cv mm_198 (h := 140) (As := [.int 3]) (rest := []) (nl := 2) rfl XM_140 (show cvOK 198 174 144 193 1 2 11 = true by decide +kernel) rfl rfl rfl (sp_193) (KP_V ?_)
    exact go_vreturn mm_198 rfl rfl (e2 hc1)
theorem mm_199 : mtG 199 = some (mi_199, 12, ft_199) := rfl
set_option maxRecDepth 20000 in
theorem b_199_0 {d c : Nat} {R : RT} {S : ST} {v1 : Bool} (o1 : inB (if v1 = true then 1 else 2) 63) (e1 : (ra S 146 (if v1 = true then 1 else 2)) = 6 → Go XM (d + 7) 199 c 27 [some (.ref 140), some (.int (b2i v1)), some (.int (if v1 = true then 1 else 2)), none, none, none, none] [.ref 140] (g_193 S 5) R) (e2 : ¬ (ra S 146 (if v1 = true then 1 else 2)) = 6 → Go XM (d + 7) 199 c 27 [some (.ref 140), some (.int (b2i v1)), some (.int (if v1 = true then 1 else 2)), none, none, none, none] [.ref 140] S R) : Go XM (d + 7) 199 c 0 [some (.ref 140), some (.int (b2i v1)), none, none, none, none, none] [] S R := by
  refine go_run mm_199 1 (pc' := 1) (ls' := [some (.ref 140), some (.int (b2i v1)), none, none, none, none, none]) (st' := [.int (b2i v1)]) (S' := S) rfl ?_
  have j1 : Go XM (d + 7) 199 c 9 [some (.ref 140), some (.int (b2i v1)), none, none, none, none, none] [.int (if v1 = true then 1 else 2)] S R := by
    refine go_run mm_199 4 (pc' := 15) (ls' := [some (.ref 140), some (.int (b2i v1)), some (.int (if v1 = true then 1 else 2)), none, none, none, none]) (st' := [.int (if v1 = true then 1 else 2), .ref 146]) (S' := S) rfl ?_
    refine go_iaload mm_199 (q := (Int32.toNatClampNeg (if v1 = true then 1 else 2))) rfl rfl rfl (o1) ?_
    refine go_run mm_199 1 (pc' := 18) (ls' := [some (.ref 140), some (.int (b2i v1)), some (.int (if v1 = true then 1 else 2)), none, none, none, none]) (st' := [.int 6, .int (ra S 146 (if v1 = true then 1 else 2))]) (S' := S) rfl ?_
    refine go_if2 mm_199 rfl (p1 := 21) (p2 := 26) rfl (fun (hc1 : (ra S 146 (if v1 = true then 1 else 2)) = 6) => ?_) (fun (hc1 : ¬ (ra S 146 (if v1 = true then 1 else 2)) = 6) => ?_)
    · refine go_run mm_199 2 (pc' := 23) (ls' := [some (.ref 140), some (.int (b2i v1)), some (.int (if v1 = true then 1 else 2)), none, none, none, none]) (st' := [.int 5, .ref 140]) (S' := S) rfl ?_
      refine go_cv mm_199 (h := 140) (As := [.int 5]) (rest := []) (nl := 2) rfl XM_140 (show cvOK 199 23 144 193 1 2 11 = true by decide +kernel) rfl rfl rfl (sp_193) (KP_V ?_)
      refine go_run mm_199 1 (pc' := 27) (ls' := [some (.ref 140), some (.int (b2i v1)), some (.int (if v1 = true then 1 else 2)), none, none, none, none]) (st' := [.ref 140]) (S' := (g_193 S 5)) rfl ?_
      exact e1 hc1
    · refine go_run mm_199 1 (pc' := 27) (ls' := [some (.ref 140), some (.int (b2i v1)), some (.int (if v1 = true then 1 else 2)), none, none, none, none]) (st' := [.ref 140]) (S' := S) rfl ?_
      exact e2 hc1
  refine go_ifb mm_199 rfl (p1 := 4) (p2 := 8) rfl (fun (hc1 : v1 = true) => ?_) (fun (hc1 : v1 = false) => ?_)
  · refine go_run mm_199 2 (pc' := 9) (ls' := [some (.ref 140), some (.int (b2i v1)), none, none, none, none, none]) (st' := [.int 1]) (S' := S) rfl ?_
    have e : ((if v1 = true then 1 else 2) : Int32) = 1 := by simp [b2i, hc1]
    rw [e] at j1
    exact j1
  · refine go_run mm_199 1 (pc' := 9) (ls' := [some (.ref 140), some (.int (b2i v1)), none, none, none, none, none]) (st' := [.int 2]) (S' := S) rfl ?_
    have e : ((if v1 = true then 1 else 2) : Int32) = 2 := by simp [b2i, hc1]
    rw [e] at j1
    exact j1
set_option maxRecDepth 20000 in
theorem b_199_30 {d c : Nat} {R : RT} {S : ST} {v1 : Bool} {v2 : Int32} (e1 : Go XM (d + 7) 199 c 34 [some (.ref 140), some (.int (b2i v1)), some (.int v2), none, none, none, none] [.int 15, .int 0, .ref 140] S R) : Go XM (d + 7) 199 c 30 [some (.ref 140), some (.int (b2i v1)), some (.int v2), none, none, none, none] [] S R := by
  refine go_run mm_199 3 (pc' := 34) (ls' := [some (.ref 140), some (.int (b2i v1)), some (.int v2), none, none, none, none]) (st' := [.int 15, .int 0, .ref 140]) (S' := S) rfl ?_
  exact e1
set_option maxRecDepth 20000 in
theorem b_199_37 {d c : Nat} {R : RT} {S : ST} {v1 : Bool} {v2 : Int32} {w0 : Int32} (o1 : ((g_196 S 0 15).1 140 17) = 0 → RW (g_196 S 0 15) 146) (e1 : ((g_196 S 0 15).1 140 17) = 0 → (f_208 (g_196 S 0 15) 146 (Int32.toInt64 w0) (Int32.toInt64 (f_196 S 0 15)) 1) = true → Go XM (d + 7) 199 c 76 [some (.ref 140), some (.int (b2i v1)), some (.int v2), some (.int w0), some (.int (f_196 S 0 15)), none, none] [.ref 140] (g_196 S 0 15) R) (e2 : ((g_196 S 0 15).1 140 17) = 0 → (f_208 (g_196 S 0 15) 146 (Int32.toInt64 w0) (Int32.toInt64 (f_196 S 0 15)) 1) = false → Go XM (d + 7) 199 c 76 [some (.ref 140), some (.int (b2i v1)), some (.int v2), some (.int w0), some (.int (f_196 S 0 15)), none, none] [.ref 140] (g_193 (g_196 S 0 15) 4) R) (e3 : ¬ ((g_196 S 0 15).1 140 17) = 0 → Go XM (d + 7) 199 c 76 [some (.ref 140), some (.int (b2i v1)), some (.int v2), some (.int w0), some (.int (f_196 S 0 15)), none, none] [.ref 140] (g_196 S 0 15) R) : Go XM (d + 7) 199 c 37 [some (.ref 140), some (.int (b2i v1)), some (.int v2), none, none, none, none] [.int w0] S R := by
  refine go_run mm_199 4 (pc' := 42) (ls' := [some (.ref 140), some (.int (b2i v1)), some (.int v2), some (.int w0), none, none, none]) (st' := [.int 15, .int 0, .ref 140]) (S' := S) rfl ?_
  refine go_cv mm_199 (h := 140) (As := [.int 0, .int 15]) (rest := []) (nl := 3) rfl XM_140 (show cvOK 199 42 152 196 2 3 11 = true by decide +kernel) rfl rfl rfl (sp_196) (KP_V ?_)
  refine go_run mm_199 3 (pc' := 51) (ls' := [some (.ref 140), some (.int (b2i v1)), some (.int v2), some (.int w0), some (.int (f_196 S 0 15)), none, none]) (st' := [.int ((g_196 S 0 15).1 140 17)]) (S' := (g_196 S 0 15)) rfl ?_
  refine go_if0 mm_199 rfl (p1 := 54) (p2 := 75) rfl (fun (hc1 : ((g_196 S 0 15).1 140 17) = 0) => ?_) (fun (hc1 : ¬ ((g_196 S 0 15).1 140 17) = 0) => ?_)
  · refine go_run mm_199 7 (pc' := 64) (ls' := [some (.ref 140), some (.int (b2i v1)), some (.int v2), some (.int w0), some (.int (f_196 S 0 15)), none, none]) (st' := [.long 1, .long (Int32.toInt64 (f_196 S 0 15)), .long (Int32.toInt64 w0), .ref 146]) (S' := (g_196 S 0 15)) rfl ?_
    refine go_cs mm_199 (av := [.ref 146, .long (Int32.toInt64 w0), .long (Int32.toInt64 (f_196 S 0 15)), .long 1]) (rest := []) (nl := 16) rfl (show csOK 199 64 172 208 4 16 = true by decide +kernel) rfl rfl rfl (sq_208 rfl (o1 hc1)) (KP_V ?_)
    refine go_ifb mm_199 rfl (p1 := 75) (p2 := 70) rfl (fun (hc2 : (f_208 (g_196 S 0 15) 146 (Int32.toInt64 w0) (Int32.toInt64 (f_196 S 0 15)) 1) = true) => ?_) (fun (hc2 : (f_208 (g_196 S 0 15) 146 (Int32.toInt64 w0) (Int32.toInt64 (f_196 S 0 15)) 1) = false) => ?_)
    · refine go_run mm_199 1 (pc' := 76) (ls' := [some (.ref 140), some (.int (b2i v1)), some (.int v2), some (.int w0), some (.int (f_196 S 0 15)), none, none]) (st' := [.ref 140]) (S' := (g_196 S 0 15)) rfl ?_
      exact e1 hc1 hc2
    · refine go_run mm_199 2 (pc' := 72) (ls' := [some (.ref 140), some (.int (b2i v1)), some (.int v2), some (.int w0), some (.int (f_196 S 0 15)), none, none]) (st' := [.int 4, .ref 140]) (S' := (g_196 S 0 15)) rfl ?_
      refine go_cv mm_199 (h := 140) (As := [.int 4]) (rest := []) (nl := 2) rfl XM_140 (show cvOK 199 72 144 193 1 2 11 = true by decide +kernel) rfl rfl rfl (sp_193) (KP_V ?_)
      refine go_run mm_199 1 (pc' := 76) (ls' := [some (.ref 140), some (.int (b2i v1)), some (.int v2), some (.int w0), some (.int (f_196 S 0 15)), none, none]) (st' := [.ref 140]) (S' := (g_193 (g_196 S 0 15) 4)) rfl ?_
      exact e2 hc1 hc2
  · refine go_run mm_199 1 (pc' := 76) (ls' := [some (.ref 140), some (.int (b2i v1)), some (.int v2), some (.int w0), some (.int (f_196 S 0 15)), none, none]) (st' := [.ref 140]) (S' := (g_196 S 0 15)) rfl ?_
    exact e3 hc1
set_option maxRecDepth 20000 in
theorem b_199_79 {d c : Nat} {R : RT} {S : ST} {v1 : Bool} {v2 : Int32} {v3 : Int32} {v4 : Int32} (e1 : v1 = true → Go XM (d + 7) 199 c 103 [some (.ref 140), some (.int (b2i v1)), some (.int v2), some (.int v3), some (.int v4), some (.int 99), none] [.ref 315, .ref 140] S R) (e2 : v1 = false → Go XM (d + 7) 199 c 92 [some (.ref 140), some (.int (b2i v1)), some (.int v2), some (.int v3), some (.int v4), some (.int 99), none] [.int 999, .int 1, .ref 140] S R) : Go XM (d + 7) 199 c 79 [some (.ref 140), some (.int (b2i v1)), some (.int v2), some (.int v3), some (.int v4), none, none] [] S R := by
  refine go_run mm_199 3 (pc' := 84) (ls' := [some (.ref 140), some (.int (b2i v1)), some (.int v2), some (.int v3), some (.int v4), some (.int 99), none]) (st' := [.int (b2i v1)]) (S' := S) rfl ?_
  refine go_ifb mm_199 rfl (p1 := 100) (p2 := 87) rfl (fun (hc1 : v1 = true) => ?_) (fun (hc1 : v1 = false) => ?_)
  · refine go_run mm_199 1 (pc' := 101) (ls' := [some (.ref 140), some (.int (b2i v1)), some (.int v2), some (.int v3), some (.int v4), some (.int 99), none]) (st' := [.ref 140]) (S' := S) rfl ?_
    refine go_ldcS mm_199 (j := 15) rfl rfl ?_
    exact e1 hc1
  · refine go_run mm_199 3 (pc' := 92) (ls' := [some (.ref 140), some (.int (b2i v1)), some (.int v2), some (.int v3), some (.int v4), some (.int 99), none]) (st' := [.int 999, .int 1, .ref 140]) (S' := S) rfl ?_
    exact e2 hc1
set_option maxRecDepth 20000 in
theorem b_199_95 {d c : Nat} {R : RT} {S : ST} {v1 : Bool} {v2 : Int32} {v3 : Int32} {v4 : Int32} {v5 : Int32} {w0 : Int32} (e1 : Go XM (d + 7) 199 c 122 [some (.ref 140), some (.int (b2i v1)), some (.int v2), some (.int v3), some (.int v4), some (.int w0), none] [] S R) : Go XM (d + 7) 199 c 95 [some (.ref 140), some (.int (b2i v1)), some (.int v2), some (.int v3), some (.int v4), some (.int v5), none] [.int w0] S R := by
  refine go_run mm_199 2 (pc' := 122) (ls' := [some (.ref 140), some (.int (b2i v1)), some (.int v2), some (.int v3), some (.int v4), some (.int w0), none]) (st' := []) (S' := S) rfl ?_
  exact e1
set_option maxRecDepth 20000 in
theorem b_199_106 {d c : Nat} {R : RT} {S : ST} {v1 : Bool} {v2 : Int32} {v3 : Int32} {v4 : Int32} {v5 : Int32} {w0 : Bool} (e1 : w0 = true → Go XM (d + 7) 199 c 110 [some (.ref 140), some (.int (b2i v1)), some (.int v2), some (.int v3), some (.int v4), some (.int v5), none] [.ref 140] S R) (e2 : w0 = false → Go XM (d + 7) 199 c 122 [some (.ref 140), some (.int (b2i v1)), some (.int v2), some (.int v3), some (.int v4), some (.int v5), none] [] S R) : Go XM (d + 7) 199 c 106 [some (.ref 140), some (.int (b2i v1)), some (.int v2), some (.int v3), some (.int v4), some (.int v5), none] [.int (b2i w0)] S R := by
  refine go_ifb mm_199 rfl (p1 := 109) (p2 := 122) rfl (fun (hc1 : w0 = true) => ?_) (fun (hc1 : w0 = false) => ?_)
  · refine go_run mm_199 1 (pc' := 110) (ls' := [some (.ref 140), some (.int (b2i v1)), some (.int v2), some (.int v3), some (.int v4), some (.int v5), none]) (st' := [.ref 140]) (S' := S) rfl ?_
    exact e1 hc1
  · exact e2 hc1
set_option maxRecDepth 20000 in
theorem b_199_113 {d c : Nat} {R : RT} {S : ST} {v1 : Bool} {v2 : Int32} {v3 : Int32} {v4 : Int32} {v5 : Int32} (e1 : Go XM (d + 7) 199 c 117 [some (.ref 140), some (.int (b2i v1)), some (.int v2), some (.int v3), some (.int v4), some (.int v5), none] [.int 99, .int 0, .ref 140] S R) : Go XM (d + 7) 199 c 113 [some (.ref 140), some (.int (b2i v1)), some (.int v2), some (.int v3), some (.int v4), some (.int v5), none] [] S R := by
  refine go_run mm_199 3 (pc' := 117) (ls' := [some (.ref 140), some (.int (b2i v1)), some (.int v2), some (.int v3), some (.int v4), some (.int v5), none]) (st' := [.int 99, .int 0, .ref 140]) (S' := S) rfl ?_
  exact e1
set_option maxRecDepth 20000 in
theorem b_199_120 {d c : Nat} {R : RT} {S : ST} {v1 : Bool} {v2 : Int32} {v3 : Int32} {v4 : Int32} {v5 : Int32} {w0 : Int32} (e1 : Go XM (d + 7) 199 c 122 [some (.ref 140), some (.int (b2i v1)), some (.int v2), some (.int v3), some (.int v4), some (.int w0), none] [] S R) : Go XM (d + 7) 199 c 120 [some (.ref 140), some (.int (b2i v1)), some (.int v2), some (.int v3), some (.int v4), some (.int v5), none] [.int w0] S R := by
  refine go_run mm_199 1 (pc' := 122) (ls' := [some (.ref 140), some (.int (b2i v1)), some (.int v2), some (.int v3), some (.int v4), some (.int w0), none]) (st' := []) (S' := S) rfl ?_
  exact e1
set_option maxRecDepth 20000 in
theorem b_199_122 {d c : Nat} {R : RT} {S : ST} {v1 : Bool} {v2 : Int32} {v3 : Int32} {v4 : Int32} {v5 : Int32} (o1 : (S.1 140 17) = 0 → inB v2 63) (o2 : (S.1 140 17) = 0 → inB ((if v1 = true then 27 else 45) + (3 * (ra S 146 v2))) 63) (o3 : (S.1 140 17) = 0 → inB (((if v1 = true then 27 else 45) + (3 * (ra S 146 v2))) + 1) 63) (o4 : (S.1 140 17) = 0 → inB (((if v1 = true then 27 else 45) + (3 * (ra S 146 v2))) + 2) 63) (e1 : (S.1 140 17) = 0 → R c (.inr none) (wI (wI (wI (wI S 146 (Int32.toNatClampNeg ((if v1 = true then 27 else 45) + (3 * (ra S 146 v2)))) v3) 146 (Int32.toNatClampNeg (((if v1 = true then 27 else 45) + (3 * (ra S 146 v2))) + 1)) v4) 146 (Int32.toNatClampNeg (((if v1 = true then 27 else 45) + (3 * (ra S 146 v2))) + 2)) v5) 146 (Int32.toNatClampNeg v2) ((ra (wI (wI (wI S 146 (Int32.toNatClampNeg ((if v1 = true then 27 else 45) + (3 * (ra S 146 v2)))) v3) 146 (Int32.toNatClampNeg (((if v1 = true then 27 else 45) + (3 * (ra S 146 v2))) + 1)) v4) 146 (Int32.toNatClampNeg (((if v1 = true then 27 else 45) + (3 * (ra S 146 v2))) + 2)) v5) 146 v2) + 1))) (e2 : ¬ (S.1 140 17) = 0 → R c (.inr none) S) : Go XM (d + 7) 199 c 122 [some (.ref 140), some (.int (b2i v1)), some (.int v2), some (.int v3), some (.int v4), some (.int v5), none] [] S R := by
  refine go_run mm_199 2 (pc' := 126) (ls' := [some (.ref 140), some (.int (b2i v1)), some (.int v2), some (.int v3), some (.int v4), some (.int v5), none]) (st' := [.int (S.1 140 17)]) (S' := S) rfl ?_
  refine go_if0 mm_199 rfl (p1 := 129) (p2 := 191) rfl (fun (hc1 : (S.1 140 17) = 0) => ?_) (fun (hc1 : ¬ (S.1 140 17) = 0) => ?_)
  · refine go_run mm_199 1 (pc' := 130) (ls' := [some (.ref 140), some (.int (b2i v1)), some (.int v2), some (.int v3), some (.int v4), some (.int v5), none]) (st' := [.int (b2i v1)]) (S' := S) rfl ?_
    have j2 : Go XM (d + 7) 199 c 140 [some (.ref 140), some (.int (b2i v1)), some (.int v2), some (.int v3), some (.int v4), some (.int v5), none] [.int (if v1 = true then 27 else 45)] S R := by
      refine go_run mm_199 4 (pc' := 146) (ls' := [some (.ref 140), some (.int (b2i v1)), some (.int v2), some (.int v3), some (.int v4), some (.int v5), none]) (st' := [.int v2, .ref 146, .int 3, .int (if v1 = true then 27 else 45)]) (S' := S) rfl ?_
      refine go_iaload mm_199 (q := (Int32.toNatClampNeg v2)) rfl rfl rfl (o1 hc1) ?_
      refine go_run mm_199 7 (pc' := 158) (ls' := [some (.ref 140), some (.int (b2i v1)), some (.int v2), some (.int v3), some (.int v4), some (.int v5), some (.int ((if v1 = true then 27 else 45) + (3 * (ra S 146 v2))))]) (st' := [.int v3, .int ((if v1 = true then 27 else 45) + (3 * (ra S 146 v2))), .ref 146]) (S' := S) rfl ?_
      refine go_iastore mm_199 (q := (Int32.toNatClampNeg ((if v1 = true then 27 else 45) + (3 * (ra S 146 v2))))) rfl rfl rfl (o2 hc1) ?_
      refine go_run mm_199 6 (pc' := 169) (ls' := [some (.ref 140), some (.int (b2i v1)), some (.int v2), some (.int v3), some (.int v4), some (.int v5), some (.int ((if v1 = true then 27 else 45) + (3 * (ra S 146 v2))))]) (st' := [.int v4, .int (((if v1 = true then 27 else 45) + (3 * (ra S 146 v2))) + 1), .ref 146]) (S' := (wI S 146 (Int32.toNatClampNeg ((if v1 = true then 27 else 45) + (3 * (ra S 146 v2)))) v3)) rfl ?_
      refine go_iastore mm_199 (q := (Int32.toNatClampNeg (((if v1 = true then 27 else 45) + (3 * (ra S 146 v2))) + 1))) rfl rfl rfl (o3 hc1) ?_
      refine go_run mm_199 6 (pc' := 180) (ls' := [some (.ref 140), some (.int (b2i v1)), some (.int v2), some (.int v3), some (.int v4), some (.int v5), some (.int ((if v1 = true then 27 else 45) + (3 * (ra S 146 v2))))]) (st' := [.int v5, .int (((if v1 = true then 27 else 45) + (3 * (ra S 146 v2))) + 2), .ref 146]) (S' := (wI (wI S 146 (Int32.toNatClampNeg ((if v1 = true then 27 else 45) + (3 * (ra S 146 v2)))) v3) 146 (Int32.toNatClampNeg (((if v1 = true then 27 else 45) + (3 * (ra S 146 v2))) + 1)) v4)) rfl ?_
      refine go_iastore mm_199 (q := (Int32.toNatClampNeg (((if v1 = true then 27 else 45) + (3 * (ra S 146 v2))) + 2))) rfl rfl rfl (o4 hc1) ?_
      refine go_run mm_199 4 (pc' := 187) (ls' := [some (.ref 140), some (.int (b2i v1)), some (.int v2), some (.int v3), some (.int v4), some (.int v5), some (.int ((if v1 = true then 27 else 45) + (3 * (ra S 146 v2))))]) (st' := [.int v2, .ref 146, .int v2, .ref 146]) (S' := (wI (wI (wI S 146 (Int32.toNatClampNeg ((if v1 = true then 27 else 45) + (3 * (ra S 146 v2)))) v3) 146 (Int32.toNatClampNeg (((if v1 = true then 27 else 45) + (3 * (ra S 146 v2))) + 1)) v4) 146 (Int32.toNatClampNeg (((if v1 = true then 27 else 45) + (3 * (ra S 146 v2))) + 2)) v5)) rfl ?_
      refine go_iaload mm_199 (q := (Int32.toNatClampNeg v2)) rfl rfl rfl (o1 hc1) ?_
      refine go_run mm_199 2 (pc' := 190) (ls' := [some (.ref 140), some (.int (b2i v1)), some (.int v2), some (.int v3), some (.int v4), some (.int v5), some (.int ((if v1 = true then 27 else 45) + (3 * (ra S 146 v2))))]) (st' := [.int ((ra (wI (wI (wI S 146 (Int32.toNatClampNeg ((if v1 = true then 27 else 45) + (3 * (ra S 146 v2)))) v3) 146 (Int32.toNatClampNeg (((if v1 = true then 27 else 45) + (3 * (ra S 146 v2))) + 1)) v4) 146 (Int32.toNatClampNeg (((if v1 = true then 27 else 45) + (3 * (ra S 146 v2))) + 2)) v5) 146 v2) + 1), .int v2, .ref 146]) (S' := (wI (wI (wI S 146 (Int32.toNatClampNeg ((if v1 = true then 27 else 45) + (3 * (ra S 146 v2)))) v3) 146 (Int32.toNatClampNeg (((if v1 = true then 27 else 45) + (3 * (ra S 146 v2))) + 1)) v4) 146 (Int32.toNatClampNeg (((if v1 = true then 27 else 45) + (3 * (ra S 146 v2))) + 2)) v5)) rfl ?_
      refine go_iastore mm_199 (q := (Int32.toNatClampNeg v2)) rfl rfl rfl (o1 hc1) ?_
      exact go_vreturn mm_199 rfl rfl (e1 hc1)
    refine go_ifb mm_199 rfl (p1 := 133) (p2 := 138) rfl (fun (hc2 : v1 = true) => ?_) (fun (hc2 : v1 = false) => ?_)
    · refine go_run mm_199 2 (pc' := 140) (ls' := [some (.ref 140), some (.int (b2i v1)), some (.int v2), some (.int v3), some (.int v4), some (.int v5), none]) (st' := [.int 27]) (S' := S) rfl ?_
      have e : ((if v1 = true then 27 else 45) : Int32) = 27 := by simp [b2i, hc2]
      rw [e] at j2
      exact j2
    · refine go_run mm_199 1 (pc' := 140) (ls' := [some (.ref 140), some (.int (b2i v1)), some (.int v2), some (.int v3), some (.int v4), some (.int v5), none]) (st' := [.int 45]) (S' := S) rfl ?_
      have e : ((if v1 = true then 27 else 45) : Int32) = 45 := by simp [b2i, hc2]
      rw [e] at j2
      exact j2
  · exact go_vreturn mm_199 rfl rfl (e2 hc1)
section Ply
variable {d : Nat} {S S1 : ST} {m : Nat}
theorem txc {t : Nat} (h : ∃ tx, txt t = some tx ∧ tx.length ≤ 8) : Cal XM d 195 [.ref 140, .ref t] S (RP (fun v S' => (∃ b, v = some (.int (b2i b))) ∧ S' = S)) := by
  obtain ⟨tx, h1, h2⟩ := h
  exact sq_195 h1 h2
theorem tx_314 : ∃ tx, txt 314 = some tx ∧ tx.length ≤ 8 := ⟨_, rfl, by decide⟩
theorem tx_315 : ∃ tx, txt 315 = some tx ∧ tx.length ≤ 8 := ⟨_, rfl, by decide⟩
theorem tx_316 : ∃ tx, txt 316 = some tx ∧ tx.length ≤ 8 := ⟨_, rfl, by decide⟩
theorem tx_317 : ∃ tx, txt 317 = some tx ∧ tx.length ≤ 8 := ⟨_, rfl, by decide⟩
def LI (S S1 : ST) (m : Nat) : Prop := Fm [145, 146] PSf S S1 ∧ PB S1 ∧ RB S1 146 ∧ (S1.1 146 0 = nJ m ∧ m ≤ 12) ∧ S1.1 146 1 = 0 ∧ S1.1 146 2 = 0
theorem LI_p {S2 : ST} (h : LI S S1 m) (q : PSt S1 S2) : LI S S2 m := by
  have e := q.1.row (a := 146) (by decide) (by decide)
  refine ⟨h.1.tr (q.1.wk (by decide) (by decide)), q.2.1, ?_, ?_, ?_, ?_⟩
  · unfold RB; rw [e]; exact h.2.2.1
  · rw [e]; exact h.2.2.2.1
  · rw [e]; exact h.2.2.2.2.1
  · rw [e]; exact h.2.2.2.2.2
def Rpl (S : ST) : RT := RP (fun v S' => v = none ∧ ∃ m, LI S S' m ∧ (S'.1 140 17 = 0 → GR S' 146))
theorem pl_end (h : LI S S1 m) : Go XM (d + 7) 198 0 135 [some (.ref 140), none, none] [] S1 (Rpl S) := by
  have bad : ∀ S2, LI S S2 m → ¬ S2.1 140 17 = 0 → Rpl S 0 (.inr none) S2 := fun S2 h2 hw => ⟨rfl, _, rfl, rfl, m, h2, fun z => absurd z hw⟩
  have fin : Go XM (d + 7) 198 0 166 [some (.ref 140), none, none] [.ref 146] S1 (Rpl S) := by
    refine go_cs mm_198 (av := [.ref 146]) (rest := []) (nl := 1) rfl (show csOK 198 166 168 213 1 1 = true by decide +kernel) rfl rfl rfl (sq_213 (d := d) rfl) (KP_V ?_)
    exact b_198_169 (fun q => ⟨rfl, _, rfl, rfl, m, h, fun _ => f213_t h.2.2.1 q⟩) (fun q => bad _ (LI_p h (PSt_193 h.2.1 (by decide))) (g193_w (by decide)))
  exact b_198_135 (fun _ _ => fin) (fun _ w => bad _ h w) (fun _ _ _ => fin) (fun _ _ w => bad _ h w) (fun _ _ w => absurd w (g193_w (by decide))) (fun _ _ w => bad _ (LI_p h (PSt_193 h.2.1 (by decide))) w)
theorem pl_out (h : LI S S1 m) (hw : ¬ S1.1 140 17 = 0) : Go XM (d + 7) 198 0 18 [some (.ref 140), none, none] [] S1 (Rpl S) :=
  b_198_18 (fun q => absurd q hw) (fun q => absurd q hw) (fun q => absurd q hw) (fun _ => pl_end h)
theorem pl_loop : ∀ t m S1, m + t = 12 → LI S S1 m → Go XM (d + 7) 198 0 18 [some (.ref 140), none, none] [] S1 (Rpl S) := by
  have body : ∀ m S1, LI S S1 m → (m < 12 → ∀ S2, LI S S2 (m + 1) → Go XM (d + 7) 198 0 18 [some (.ref 140), none, none] [] S2 (Rpl S)) → Go XM (d + 7) 198 0 18 [some (.ref 140), none, none] [] S1 (Rpl S) := by
    intro m S1 h ih
    have rest : ∀ S3 x, (0 : Int) ≤ x.toInt ∧ x.toInt ≤ 15 → LI S S3 m → (S3.1 140 17 = 0 → m < 12) → Go XM (d + 7) 198 0 75 [some (.ref 140), some (.int x), none] [.ref 140] S3 (Rpl S) := by
      intro S3 x hx h3 hw
      refine go_cv mm_198 (h := 140) (As := []) (rest := []) (nl := 1) rfl XM_140 (show cvOK 198 75 156 194 0 1 11 = true by decide +kernel) rfl rfl rfl (sq_194 (d := d + 4) h3.2.1) (KP_P (fun v S4 k4 => ?_))
      obtain ⟨rfl, p4⟩ := k4
      refine b_198_78 ?_
      refine go_cv mm_198 (h := 140) (As := [.int 0, .int 15]) (rest := []) (nl := 4) rfl XM_140 (show cvOK 198 82 165 197 2 4 11 = true by decide +kernel) rfl rfl rfl (sq_197 (d := d + 3) p4.2.1 (by decide)) (KP_P (fun v S5 k5 => ?_))
      obtain ⟨y, rfl, hy, p5⟩ := k5
      have hy : (0 : Int) ≤ y.toInt ∧ y.toInt ≤ 15 := hy
      have h5 := LI_p (LI_p h3 p4) p5
      have e0 := h5.2.2.2.1.1
      by_cases w5 : S5.1 140 17 = 0
      · have hm := hw (p4.2.2 (p5.2.2 w5))
        have i0 : (3 + S5.1 146 0 : Int32) = nJ (3 + m) := by rw [e0]; exact nJ_add 3 m
        have e1 : (wI S5 146 (3 + m) x).1 146 0 = nJ m := by rw [wI_1, if_neg (fun z => by omega)]; exact e0
        have i1 : (15 + (wI S5 146 (3 + m) x).1 146 0 : Int32) = nJ (15 + m) := by rw [e1]; exact nJ_add 15 m
        have e2 : (wI (wI S5 146 (3 + m) x) 146 (15 + m) y).1 146 0 + 1 = nJ (m + 1) := by rw [wI_1, if_neg (fun z => by omega), e1, nJ_succ]
        have n0 : Int32.toNatClampNeg (nJ (3 + m)) = 3 + m := nJ_ix (by omega)
        have n1 : Int32.toNatClampNeg (nJ (15 + m)) = 15 + m := nJ_ix (by omega)
        refine b_198_85 (fun _ => by rw [i0]; exact nJ_inB (by omega) (by omega)) (fun _ => by rw [i0, n0, i1]; exact nJ_inB (by omega) (by omega)) (fun _ => ?_) (fun q => absurd w5 q)
        rw [i0, n0, i1, n1, e2]
        refine Go.le (ih hm _ ⟨((h5.1.tr (Fm_a (by decide))).tr (Fm_a (by decide))).tr (Fm_a (by decide)), ?_, fun j a b => ?_, ⟨by rw [wI_1, if_pos ⟨rfl, rfl⟩], by omega⟩, ?_, ?_⟩) (by repeat first | exact True.intro | refine And.intro rfl ?_)
        · exact h5.2.1
        · rw [wI_1, if_neg (fun z => by omega), wI_1]
          split
          · exact hy
          · rw [wI_1]
            split
            · exact hx
            · exact h5.2.2.1 j a b
        · rw [wI_1, if_neg (fun z => by omega), wI_1, if_neg (fun z => by omega), wI_1, if_neg (fun z => by omega)]; exact h5.2.2.2.2.1
        · rw [wI_1, if_neg (fun z => by omega), wI_1, if_neg (fun z => by omega), wI_1, if_neg (fun z => by omega)]; exact h5.2.2.2.2.2
      · exact b_198_85 (fun q => absurd q w5) (fun q => absurd q w5) (fun q => absurd q w5) (fun _ => Go.le (pl_out h5 w5) (by repeat first | exact True.intro | refine And.intro rfl ?_))
    have hb : Go XM (d + 7) 198 0 43 [some (.ref 140), none, none] [] S1 (Rpl S) := by
      have p2 := PSt_196 h.2.1 (a := 0) (b := 15)
      have h2 := LI_p h p2
      have hx : (0 : Int) ≤ (f_196 S1 0 15).toInt ∧ (f_196 S1 0 15).toInt ≤ 15 := f196_in (by decide)
      refine b_198_43 (fun _ _ => ?_) (fun _ q => ?_) (fun q => ?_)
      · exact rest _ _ hx (LI_p h2 (PSt_193 h2.2.1 (by decide))) (fun z => absurd z (g193_w (by decide)))
      · refine rest _ _ hx h2 (fun _ => ?_)
        apply Classical.byContradiction
        intro z
        have : m = 12 := by have := h.2.2.2.1.2; omega
        subst this
        exact q h2.2.2.2.1.1
      · exact rest _ _ hx h2 (fun z => absurd z q)
    exact b_198_18 (fun _ _ => hb) (fun _ _ _ => hb) (fun _ _ _ => pl_end h) (fun _ => pl_end h)
  intro t
  induction t with
  | zero => intro m S1 hm h; exact body m S1 h (fun q => by omega)
  | succ t ih => intro m S1 hm h; exact body m S1 h (fun _ S2 h2 => ih (m + 1) S2 (by omega) h2)
theorem sq_198 (h : LI S S 0) : Cal XM (d + 7) 198 [.ref 140] S (Rpl S) := by
  refine cal_go 2 rfl (b_198_0 ?_)
  refine go_cv mm_198 (h := 140) (As := [.ref 314]) (rest := []) (nl := 3) rfl XM_140 (show cvOK 198 3 161 195 1 3 11 = true by decide +kernel) rfl rfl rfl (txc (d := d + 6) tx_314) (KP_P (fun v S1 k1 => ?_))
  obtain ⟨⟨b, rfl⟩, rfl⟩ := k1
  have goes : ∀ S2, LI S1 S2 0 → Go XM (d + 7) 198 0 15 [some (.ref 140), none, none] [.ref 140] S2 (Rpl S1) := by
    intro S2 h2
    refine go_cv mm_198 (h := 140) (As := []) (rest := []) (nl := 1) rfl XM_140 (show cvOK 198 15 156 194 0 1 11 = true by decide +kernel) rfl rfl rfl (sq_194 (d := d + 4) h2.2.1) (KP_P (fun v S3 k3 => ?_))
    obtain ⟨rfl, p3⟩ := k3
    exact pl_loop 12 0 S3 rfl (LI_p h2 p3)
  exact b_198_6 (fun _ => goes _ h) (fun _ => goes _ (LI_p h (PSt_193 h.2.1 (by decide))))
end Ply
section Thg
variable {d : Nat} {S S1 : ST}
def cnt (S : ST) : Nat := (S.1 146 1).toNatClampNeg + (S.1 146 2).toNatClampNeg
def Kb (b : Bool) : Nat := if b = true then 1 else 2
def Bb (b : Bool) : Nat := if b = true then 27 else 45
theorem Kb_i (b : Bool) : (if b = true then (1 : Int32) else 2) = nJ (Kb b) := by cases b <;> rfl
theorem Bb_i (b : Bool) : (if b = true then (27 : Int32) else 45) = nJ (Bb b) := by cases b <;> rfl
theorem Kb_b (b : Bool) : (1 ≤ Kb b ∧ Kb b ≤ 2) ∧ 27 ≤ Bb b ∧ Bb b ≤ 45 := by cases b <;> decide
theorem Th_add (g : GTh S1 146) (b : Bool) {q : Nat} (hq : S1.1 146 (Kb b) = nJ q) (h6 : q < 6) {x y : Int32} (hcl : ge_cl 1 (rL S1 146) (x.toInt, y.toInt)) {S2 : ST} (ex : S2.1 146 (Bb b + 3 * q) = x) (ey : S2.1 146 (Bb b + 3 * q + 1) = y) (ek : S2.1 146 (Kb b) = nJ (q + 1)) (eo : ∀ j, ¬ j = Kb b → (j < Bb b + 3 * q ∨ Bb b + 3 * q + 2 < j) → S2.1 146 j = S1.1 146 j) : GTh S2 146 ∧ cnt S2 = cnt S1 + 1 := by
  have hK := Kb_b b
  have hPe : Pe (S1.1 146) (S2.1 146) := fun j hj h1 h2 => eo j (by omega) (by omega)
  have eL := Pe_L hPe g.1.1
  obtain ⟨gR, ⟨G, a1, a2, a3⟩, T, b1, b2, b3⟩ := g
  cases b with
  | true =>
    have hq : S1.1 146 1 = nJ q := hq
    have eG : G = q := (nJ_eq (by omega) (by omega)).mp (a1.symm.trans hq)
    subst eG
    have ek : S2.1 146 1 = nJ (G + 1) := ek
    have e2 : S2.1 146 2 = S1.1 146 2 := eo 2 (by decide) (by show 2 < 27 + 3 * G ∨ _; omega)
    have ex : S2.1 146 (27 + 3 * G) = x := ex
    have ey : S2.1 146 (27 + 3 * G + 1) = y := ey
    have eo : ∀ j, ¬ j = 1 → (j < 27 + 3 * G ∨ 27 + 3 * G + 2 < j) → S2.1 146 j = S1.1 146 j := eo
    refine ⟨⟨Pe_G hPe gR, ⟨G + 1, ek, by omega, fun i hi => ?_⟩, T, by rw [e2]; exact b1, b2, fun t ht => ?_⟩, ?_⟩
    · rw [eL]
      by_cases e : i = G
      · subst e
        rw [ex, show 28 + 3 * i = 27 + 3 * i + 1 by omega, ey]
        exact hcl
      · rw [eo _ (by omega) (by omega), eo _ (by omega) (by omega)]
        exact a3 i (by omega)
    · rw [eL, eo _ (by omega) (by omega), eo _ (by omega) (by omega)]
      exact b3 t ht
    · unfold cnt
      rw [ek, e2, hq, nJ_ix (by omega), nJ_ix (by omega)]
      omega
  | false =>
    have hq : S1.1 146 2 = nJ q := hq
    have eG : T = q := (nJ_eq (by omega) (by omega)).mp (b1.symm.trans hq)
    subst eG
    have ek : S2.1 146 2 = nJ (T + 1) := ek
    have e2 : S2.1 146 1 = S1.1 146 1 := eo 1 (by decide) (by show 1 < 45 + 3 * T ∨ _; omega)
    have ex : S2.1 146 (45 + 3 * T) = x := ex
    have ey : S2.1 146 (45 + 3 * T + 1) = y := ey
    have eo : ∀ j, ¬ j = 2 → (j < 45 + 3 * T ∨ 45 + 3 * T + 2 < j) → S2.1 146 j = S1.1 146 j := eo
    refine ⟨⟨Pe_G hPe gR, ⟨G, by rw [e2]; exact a1, a2, fun i hi => ?_⟩, T + 1, ek, by omega, fun t ht => ?_⟩, ?_⟩
    · rw [eL, eo _ (by omega) (by omega), eo _ (by omega) (by omega)]
      exact a3 i hi
    · rw [eL]
      by_cases e : t = T
      · subst e
        rw [ex, show 46 + 3 * t = 45 + 3 * t + 1 by omega, ey]
        exact hcl
      · rw [eo _ (by omega) (by omega), eo _ (by omega) (by omega)]
        exact b3 t (by omega)
    · unfold cnt
      rw [ek, e2, hq, nJ_ix (by omega), nJ_ix (by omega)]
      omega
theorem Th_q (g : GTh S 146) (b : Bool) : ∃ q, S.1 146 (Kb b) = nJ q ∧ q ≤ 6 := by
  obtain ⟨-, ⟨G, a1, a2, a3⟩, T, b1, b2, b3⟩ := g
  cases b with
  | true => exact ⟨G, a1, a2⟩
  | false => exact ⟨T, b1, b2⟩
def Rth (S : ST) : RT := RP (fun v S' => v = none ∧ Fm [145, 146] PSf S S' ∧ PB S' ∧ (S'.1 140 17 = 0 → GTh S' 146 ∧ cnt S' = cnt S + 1))
theorem th_end {b : Bool} (g : GTh S 146) (p : PSt S S1) {x y v5 : Int32} (hc : S1.1 140 17 = 0 → ¬ S.1 146 (Kb b) = 6 ∧ ge_cl 1 (rL S 146) (x.toInt, y.toInt)) : Go XM (d + 7) 199 0 122 [some (.ref 140), some (.int (b2i b)), some (.int (nJ (Kb b))), some (.int x), some (.int y), some (.int v5), none] [] S1 (Rth S) := by
  by_cases hw : S1.1 140 17 = 0
  · obtain ⟨h6, hcl⟩ := hc hw
    have e := p.1.row (a := 146) (by decide) (by decide)
    obtain ⟨q, hq, hq6⟩ := Th_q g b
    have hq5 : q < 6 := by
      apply Classical.byContradiction
      intro z
      have : q = 6 := by omega
      subst this
      exact h6 hq
    have hK := Kb_b b
    have r0 : ra S1 146 (nJ (Kb b)) = nJ q := by rw [ra_n S1 146 (by omega), e]; exact hq
    have i0 : ((if b = true then 27 else 45) + (3 * ra S1 146 (nJ (Kb b))) : Int32) = nJ (Bb b + 3 * q) := by rw [Bb_i, r0]; exact ixb (by omega) (by omega)
    have i1 : (nJ (Bb b + 3 * q) + 1 : Int32) = nJ (Bb b + 3 * q + 1) := nJ_succ _
    have i2 : (nJ (Bb b + 3 * q) + 2 : Int32) = nJ (Bb b + 3 * q + 2) := nJ_add _ 2
    refine b_199_122 (fun _ => nJ_inB (by omega) (by omega)) (fun _ => by rw [i0]; exact nJ_inB (by omega) (by omega)) (fun _ => by rw [i0, i1]; exact nJ_inB (by omega) (by omega)) (fun _ => by rw [i0, i2]; exact nJ_inB (by omega) (by omega)) (fun _ => ?_) (fun z => absurd hw z)
    rw [i0, i1, i2, nJ_ix (by omega), nJ_ix (by omega), nJ_ix (by omega), nJ_ix (by omega), ra_n _ 146 (by omega), wI_1 _ _ _ _ 146 (Kb b), if_neg (fun z => by omega), wI_1 _ _ _ _ 146 (Kb b), if_neg (fun z => by omega), wI_1 _ _ _ _ 146 (Kb b), if_neg (fun z => by omega), e, hq, nJ_succ]
    have g1 : GTh S1 146 := GTh_r2 e g
    have c1 : cnt S1 = cnt S := by unfold cnt; rw [e]
    have := Th_add g1 b (q := q) (x := x) (y := y) (by rw [e]; exact hq) hq5 (by rw [rL_r2 e]; exact hcl) (S2 := wI (wI (wI (wI S1 146 (Bb b + 3 * q) x) 146 (Bb b + 3 * q + 1) y) 146 (Bb b + 3 * q + 2) v5) 146 (Kb b) (nJ (q + 1))) (by rw [wI_1, if_neg (fun z => by omega), wI_1, if_neg (fun z => by omega), wI_1, if_neg (fun z => by omega), wI_1, if_pos ⟨rfl, rfl⟩]) (by rw [wI_1, if_neg (fun z => by omega), wI_1, if_neg (fun z => by omega), wI_1, if_pos ⟨rfl, rfl⟩]) (by rw [wI_1, if_pos ⟨rfl, rfl⟩]) (fun j h1 h2 => by rw [wI_1, if_neg (fun z => by omega), wI_1, if_neg (fun z => by omega), wI_1, if_neg (fun z => by omega), wI_1, if_neg (fun z => by omega)])
    refine ⟨rfl, _, rfl, rfl, ((((p.1.wk (by decide) (by decide)).tr (Fm_a (by decide))).tr (Fm_a (by decide))).tr (Fm_a (by decide))).tr (Fm_a (by decide)), p.2.1, fun _ => ⟨this.1, by rw [this.2, c1]⟩⟩
  · exact b_199_122 (fun q => absurd q hw) (fun q => absurd q hw) (fun q => absurd q hw) (fun q => absurd q hw) (fun q => absurd q hw) (fun _ => ⟨rfl, _, rfl, rfl, p.1.wk (by decide) (by decide), p.2.1, fun z => absurd z hw⟩)
theorem sq_199 {b : Bool} (h : PB S) (g : GTh S 146) : Cal XM (d + 7) 199 [.ref 140, .int (b2i b)] S (Rth S) := by
  have hK := Kb_b b
  have body2 : ∀ S4 (x y : Int32), PSt S S4 → (S4.1 140 17 = 0 → ¬ S.1 146 (Kb b) = 6 ∧ ge_cl 1 (rL S 146) (x.toInt, y.toInt)) → Go XM (d + 7) 199 0 76 [some (.ref 140), some (.int (b2i b)), some (.int (nJ (Kb b))), some (.int x), some (.int y), none, none] [.ref 140] S4 (Rth S) := by
    intro S4 x y p4 hc
    refine go_cv mm_199 (h := 140) (As := []) (rest := []) (nl := 1) rfl XM_140 (show cvOK 199 76 156 194 0 1 11 = true by decide +kernel) rfl rfl rfl (sq_194 (d := d + 4) p4.2.1) (KP_P (fun v S5 k5 => ?_))
    obtain ⟨rfl, q5⟩ := k5
    have p5 := p4.tr q5
    refine b_199_79 (fun hb => ?_) (fun hb => ?_)
    · refine go_cv mm_199 (h := 140) (As := [.ref 315]) (rest := []) (nl := 3) rfl XM_140 (show cvOK 199 103 161 195 1 3 11 = true by decide +kernel) rfl rfl rfl (txc (d := d + 6) tx_315) (KP_P (fun v S6 k6 => ?_))
      obtain ⟨⟨z, rfl⟩, rfl⟩ := k6
      refine b_199_106 (fun _ => ?_) (fun _ => th_end g p5 (fun z => hc (q5.2.2 z)))
      refine go_cv mm_199 (h := 140) (As := []) (rest := []) (nl := 1) rfl XM_140 (show cvOK 199 110 156 194 0 1 11 = true by decide +kernel) rfl rfl rfl (sq_194 (d := d + 4) p5.2.1) (KP_P (fun v S7 k7 => ?_))
      obtain ⟨rfl, q7⟩ := k7
      refine b_199_113 ?_
      refine go_cv mm_199 (h := 140) (As := [.int 0, .int 99]) (rest := []) (nl := 4) rfl XM_140 (show cvOK 199 117 165 197 2 4 11 = true by decide +kernel) rfl rfl rfl (sq_197 (d := d + 3) q7.2.1 (by decide)) (KP_P (fun v S8 k8 => ?_))
      obtain ⟨v, rfl, -, q8⟩ := k8
      exact b_199_120 (th_end g ((p5.tr q7).tr q8) (fun z => hc (q5.2.2 (q7.2.2 (q8.2.2 z)))))
    · refine go_cv mm_199 (h := 140) (As := [.int 1, .int 999]) (rest := []) (nl := 4) rfl XM_140 (show cvOK 199 92 165 197 2 4 11 = true by decide +kernel) rfl rfl rfl (sq_197 (d := d + 3) p5.2.1 (by decide)) (KP_P (fun v S6 k6 => ?_))
      obtain ⟨v, rfl, -, q6⟩ := k6
      exact b_199_95 (th_end g (p5.tr q6) (fun z => hc (q5.2.2 (q6.2.2 z))))
  have body : ∀ S1, PSt S S1 → (S1.1 140 17 = 0 → ¬ S.1 146 (Kb b) = 6) → Go XM (d + 7) 199 0 27 [some (.ref 140), some (.int (b2i b)), some (.int (nJ (Kb b))), none, none, none, none] [.ref 140] S1 (Rth S) := by
    intro S1 p1 hc
    refine go_cv mm_199 (h := 140) (As := []) (rest := []) (nl := 1) rfl XM_140 (show cvOK 199 27 156 194 0 1 11 = true by decide +kernel) rfl rfl rfl (sq_194 (d := d + 4) p1.2.1) (KP_P (fun v S2 k2 => ?_))
    obtain ⟨rfl, q2⟩ := k2
    refine b_199_30 ?_
    refine go_cv mm_199 (h := 140) (As := [.int 0, .int 15]) (rest := []) (nl := 4) rfl XM_140 (show cvOK 199 34 165 197 2 4 11 = true by decide +kernel) rfl rfl rfl (sq_197 (d := d + 3) q2.2.1 (by decide)) (KP_P (fun v S3 k3 => ?_))
    obtain ⟨x, rfl, hx, q3⟩ := k3
    have hx : (0 : Int) ≤ x.toInt ∧ x.toInt ≤ 15 := hx
    have p3 := (p1.tr q2).tr q3
    have q4 := PSt_196 p3.2.1 (a := 0) (b := 15)
    have p4 := p3.tr q4
    have hy : (0 : Int) ≤ (f_196 S3 0 15).toInt ∧ (f_196 S3 0 15).toInt ≤ 15 := f196_in (by decide)
    have e4 := p4.1.row (a := 146) (by decide) (by decide)
    have g4 : GTh (g_196 S3 0 15) 146 := GTh_r2 e4 g
    refine b_199_37 (fun _ => g4.1.1) (fun w q => ?_) (fun w q => ?_) (fun w => ?_)
    · refine body2 _ _ _ p4 (fun z => ⟨hc (q2.2.2 (q3.2.2 (q4.2.2 z))), ?_⟩)
      have := (in_cl g4.1 hx hy).mp q
      rw [rL_r2 e4] at this
      exact this
    · exact body2 _ _ _ (p4.tr (PSt_193 p4.2.1 (by decide))) (fun z => absurd z (g193_w (by decide)))
    · exact body2 _ _ _ p4 (fun z => absurd z w)
  refine cal_go 5 rfl (b_199_0 (by rw [Kb_i]; exact nJ_inB (by omega) (by omega)) (fun q => ?_) (fun q => ?_))
  · rw [Kb_i]
    exact body _ (PSt_193 h (by decide)) (fun z => absurd z (g193_w (by decide)))
  · rw [Kb_i] at q ⊢
    rw [ra_n S 146 (by omega)] at q
    exact body _ (PSt.rf h) (fun _ => q)
end Thg
