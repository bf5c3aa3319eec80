theorem mm_200 : mtG 200 = some (mi_200, 12, ft_200) := rfl
set_option maxRecDepth 20000 in
theorem b_200_0 {d c : Nat} {R : RT} {S : ST} {v1 : Int32} (e1 : Go XM (d + 8) 200 c 22 [some (.ref 140), some (.int v1), some (.int 0)] [] (wI (wI (wI (wI S 140 10 v1) 140 11 0) 140 17 0) 140 18 (-1)) R) : Go XM (d + 8) 200 c 0 [some (.ref 140), some (.int v1), none] [] S R := by
  refine go_run mm_200 14 (pc' := 22) (ls' := [some (.ref 140), some (.int v1), some (.int 0)]) (st' := []) (S' := (wI (wI (wI (wI S 140 10 v1) 140 11 0) 140 17 0) 140 18 (-1))) rfl ?_
  exact e1
set_option maxRecDepth 20000 in
theorem b_200_22 {d c : Nat} {R : RT} {S : ST} {v1 : Int32} {v2 : Int32} (o1 : v2 < 63 → inB v2 63) (e1 : v2 < 63 → Go XM (d + 8) 200 c 22 [some (.ref 140), some (.int v1), some (.int (v2 + 1))] [] (wI S 146 (Int32.toNatClampNeg v2) 0) R) (e2 : ¬ v2 < 63 → Go XM (d + 8) 200 c 42 [some (.ref 140), some (.int v1), some (.int v2)] [.ref 140] S R) : Go XM (d + 8) 200 c 22 [some (.ref 140), some (.int v1), some (.int v2)] [] S R := by
  refine go_run mm_200 2 (pc' := 25) (ls' := [some (.ref 140), some (.int v1), some (.int v2)]) (st' := [.int 63, .int v2]) (S' := S) rfl ?_
  refine go_if2 mm_200 rfl (p1 := 28) (p2 := 41) rfl (fun (hc1 : v2 < 63) => ?_) (fun (hc1 : ¬ v2 < 63) => ?_)
  · refine go_run mm_200 4 (pc' := 34) (ls' := [some (.ref 140), some (.int v1), some (.int v2)]) (st' := [.int 0, .int v2, .ref 146]) (S' := S) rfl ?_
    refine go_iastore mm_200 (q := (Int32.toNatClampNeg v2)) rfl rfl rfl (o1 hc1) ?_
    refine go_run mm_200 2 (pc' := 22) (ls' := [some (.ref 140), some (.int v1), some (.int (v2 + 1))]) (st' := []) (S' := (wI S 146 (Int32.toNatClampNeg v2) 0)) rfl ?_
    exact e1 hc1
  · refine go_run mm_200 1 (pc' := 42) (ls' := [some (.ref 140), some (.int v1), some (.int v2)]) (st' := [.ref 140]) (S' := S) rfl ?_
    exact e2 hc1
set_option maxRecDepth 20000 in
theorem b_200_45 {d c : Nat} {R : RT} {S : ST} {v1 : Int32} {v2 : Int32} (e1 : Go XM (d + 8) 200 c 46 [some (.ref 140), some (.int v1), some (.int v2)] [.ref 140] S R) : Go XM (d + 8) 200 c 45 [some (.ref 140), some (.int v1), some (.int v2)] [] S R := by
  refine go_run mm_200 1 (pc' := 46) (ls' := [some (.ref 140), some (.int v1), some (.int v2)]) (st' := [.ref 140]) (S' := S) rfl ?_
  exact e1
set_option maxRecDepth 20000 in
theorem b_200_49 {d c : Nat} {R : RT} {S : ST} {v1 : Int32} {v2 : Int32} (e1 : (S.1 140 17) = 0 → (S.1 140 13) = 3 → Go XM (d + 8) 200 c 65 [some (.ref 140), some (.int v1), some (.int v2)] [.ref 140] S R) (e2 : (S.1 140 17) = 0 → ¬ (S.1 140 13) = 3 → (S.1 140 13) = 0 → R c (.inr none) S) (e3 : (S.1 140 17) = 0 → ¬ (S.1 140 13) = 3 → ¬ (S.1 140 13) = 0 → R c (.inr none) (g_193 S 1)) (e4 : ¬ (S.1 140 17) = 0 → (S.1 140 13) = 0 → R c (.inr none) S) (e5 : ¬ (S.1 140 17) = 0 → ¬ (S.1 140 13) = 0 → R c (.inr none) (g_193 S 1)) : Go XM (d + 8) 200 c 49 [some (.ref 140), some (.int v1), some (.int v2)] [] S R := by
  refine go_run mm_200 2 (pc' := 53) (ls' := [some (.ref 140), some (.int v1), some (.int v2)]) (st' := [.int (S.1 140 17)]) (S' := S) rfl ?_
  refine go_if0 mm_200 rfl (p1 := 56) (p2 := 107) rfl (fun (hc1 : (S.1 140 17) = 0) => ?_) (fun (hc1 : ¬ (S.1 140 17) = 0) => ?_)
  · refine go_run mm_200 3 (pc' := 61) (ls' := [some (.ref 140), some (.int v1), some (.int v2)]) (st' := [.int 3, .int (S.1 140 13)]) (S' := S) rfl ?_
    refine go_if2 mm_200 rfl (p1 := 64) (p2 := 107) rfl (fun (hc2 : (S.1 140 13) = 3) => ?_) (fun (hc2 : ¬ (S.1 140 13) = 3) => ?_)
    · refine go_run mm_200 1 (pc' := 65) (ls' := [some (.ref 140), some (.int v1), some (.int v2)]) (st' := [.ref 140]) (S' := S) rfl ?_
      exact e1 hc1 hc2
    · refine go_run mm_200 2 (pc' := 111) (ls' := [some (.ref 140), some (.int v1), some (.int v2)]) (st' := [.int (S.1 140 13)]) (S' := S) rfl ?_
      refine go_if0 mm_200 rfl (p1 := 119) (p2 := 114) rfl (fun (hc3 : (S.1 140 13) = 0) => ?_) (fun (hc3 : ¬ (S.1 140 13) = 0) => ?_)
      · exact go_vreturn mm_200 rfl rfl (e2 hc1 hc2 hc3)
      · refine go_run mm_200 2 (pc' := 116) (ls' := [some (.ref 140), some (.int v1), some (.int v2)]) (st' := [.int 1, .ref 140]) (S' := S) rfl ?_
        refine go_cv mm_200 (h := 140) (As := [.int 1]) (rest := []) (nl := 2) rfl XM_140 (show cvOK 200 116 144 193 1 2 11 = true by decide +kernel) rfl rfl rfl (sp_193) (KP_V ?_)
        exact go_vreturn mm_200 rfl rfl (e3 hc1 hc2 hc3)
  · refine go_run mm_200 2 (pc' := 111) (ls' := [some (.ref 140), some (.int v1), some (.int v2)]) (st' := [.int (S.1 140 13)]) (S' := S) rfl ?_
    refine go_if0 mm_200 rfl (p1 := 119) (p2 := 114) rfl (fun (hc2 : (S.1 140 13) = 0) => ?_) (fun (hc2 : ¬ (S.1 140 13) = 0) => ?_)
    · exact go_vreturn mm_200 rfl rfl (e4 hc1 hc2)
    · refine go_run mm_200 2 (pc' := 116) (ls' := [some (.ref 140), some (.int v1), some (.int v2)]) (st' := [.int 1, .ref 140]) (S' := S) rfl ?_
      refine go_cv mm_200 (h := 140) (As := [.int 1]) (rest := []) (nl := 2) rfl XM_140 (show cvOK 200 116 144 193 1 2 11 = true by decide +kernel) rfl rfl rfl (sp_193) (KP_V ?_)
      exact go_vreturn mm_200 rfl rfl (e5 hc1 hc2)
set_option maxRecDepth 20000 in
theorem b_200_68 {d c : Nat} {R : RT} {S : ST} {v1 : Int32} {v2 : Int32} (e1 : Go XM (d + 8) 200 c 71 [some (.ref 140), some (.int v1), some (.int v2)] [.ref 316, .ref 140] S R) : Go XM (d + 8) 200 c 68 [some (.ref 140), some (.int v1), some (.int v2)] [] S R := by
  refine go_run mm_200 1 (pc' := 69) (ls' := [some (.ref 140), some (.int v1), some (.int v2)]) (st' := [.ref 140]) (S' := S) rfl ?_
  refine go_ldcS mm_200 (j := 16) rfl rfl ?_
  exact e1
set_option maxRecDepth 20000 in
theorem b_200_74 {d c : Nat} {R : RT} {S : ST} {v1 : Int32} {v2 : Int32} {w0 : Bool} (e1 : w0 = true → Go XM (d + 8) 200 c 90 [some (.ref 140), some (.int v1), some (.int v2)] [.ref 316, .ref 140, .ref 140] S R) (e2 : w0 = false → Go XM (d + 8) 200 c 80 [some (.ref 140), some (.int v1), some (.int v2)] [.ref 317, .ref 140] S R) : Go XM (d + 8) 200 c 74 [some (.ref 140), some (.int v1), some (.int v2)] [.int (b2i w0)] S R := by
  refine go_ifb mm_200 rfl (p1 := 86) (p2 := 77) rfl (fun (hc1 : w0 = true) => ?_) (fun (hc1 : w0 = false) => ?_)
  · refine go_run mm_200 2 (pc' := 88) (ls' := [some (.ref 140), some (.int v1), some (.int v2)]) (st' := [.ref 140, .ref 140]) (S' := S) rfl ?_
    refine go_ldcS mm_200 (j := 16) rfl rfl ?_
    exact e1 hc1
  · refine go_run mm_200 1 (pc' := 78) (ls' := [some (.ref 140), some (.int v1), some (.int v2)]) (st' := [.ref 140]) (S' := S) rfl ?_
    refine go_ldcS mm_200 (j := 17) rfl rfl ?_
    exact e2 hc1
set_option maxRecDepth 20000 in
theorem b_200_83 {d c : Nat} {R : RT} {S : ST} {v1 : Int32} {v2 : Int32} {w0 : Bool} (e1 : w0 = true → Go XM (d + 8) 200 c 90 [some (.ref 140), some (.int v1), some (.int v2)] [.ref 316, .ref 140, .ref 140] S R) (e2 : w0 = false → Go XM (d + 8) 200 c 49 [some (.ref 140), some (.int v1), some (.int v2)] [] (g_193 S 1) R) : Go XM (d + 8) 200 c 83 [some (.ref 140), some (.int v1), some (.int v2)] [.int (b2i w0)] S R := by
  refine go_ifb mm_200 rfl (p1 := 86) (p2 := 99) rfl (fun (hc1 : w0 = true) => ?_) (fun (hc1 : w0 = false) => ?_)
  · refine go_run mm_200 2 (pc' := 88) (ls' := [some (.ref 140), some (.int v1), some (.int v2)]) (st' := [.ref 140, .ref 140]) (S' := S) rfl ?_
    refine go_ldcS mm_200 (j := 16) rfl rfl ?_
    exact e1 hc1
  · refine go_run mm_200 2 (pc' := 101) (ls' := [some (.ref 140), some (.int v1), some (.int v2)]) (st' := [.int 1, .ref 140]) (S' := S) rfl ?_
    refine go_cv mm_200 (h := 140) (As := [.int 1]) (rest := []) (nl := 2) rfl XM_140 (show cvOK 200 101 144 193 1 2 11 = true by decide +kernel) rfl rfl rfl (sp_193) (KP_V ?_)
    refine go_run mm_200 1 (pc' := 49) (ls' := [some (.ref 140), some (.int v1), some (.int v2)]) (st' := []) (S' := (g_193 S 1)) rfl ?_
    exact e2 hc1
set_option maxRecDepth 20000 in
theorem b_200_93 {d c : Nat} {R : RT} {S : ST} {v1 : Int32} {v2 : Int32} {w1 : Bool} (e1 : Go XM (d + 8) 200 c 93 [some (.ref 140), some (.int v1), some (.int v2)] [.int (b2i w1), .ref 140] S R) : Go XM (d + 8) 200 c 93 [some (.ref 140), some (.int v1), some (.int v2)] [.int (b2i w1), .ref 140] S R := by
  exact e1
set_option maxRecDepth 20000 in
theorem b_200_96 {d c : Nat} {R : RT} {S : ST} {v1 : Int32} {v2 : Int32} (e1 : Go XM (d + 8) 200 c 49 [some (.ref 140), some (.int v1), some (.int v2)] [] S R) : Go XM (d + 8) 200 c 96 [some (.ref 140), some (.int v1), some (.int v2)] [] S R := by
  refine go_run mm_200 1 (pc' := 49) (ls' := [some (.ref 140), some (.int v1), some (.int v2)]) (st' := []) (S' := S) rfl ?_
  exact e1
theorem mm_201 : mtG 201 = some (mi_201, 12, ft_201) := rfl
set_option maxRecDepth 20000 in
theorem b_201_0 {d c : Nat} {R : RT} {S : ST} {v1 : Int32} (e1 : (!(decide (rf 0 (!(f_182 v1 0 (S.1 140 7))) 1 = 0))) = true → R c (.inr (some (.int 0))) (wI (wI S 140 0 0) 140 0 (rf 0 (!(f_182 v1 0 (S.1 140 7))) 1))) (e2 : (!(decide (rf 0 (!(f_182 v1 0 (S.1 140 7))) 1 = 0))) = false → Go XM (d + 9) 201 c 39 [some (.ref 140), some (.int v1), none] [.int v1, .ref 140] (wI (wI (wI S 140 0 0) 140 0 (rf 0 (!(f_182 v1 0 (S.1 140 7))) 1)) 140 7 0) R) : Go XM (d + 9) 201 c 0 [some (.ref 140), some (.int v1), none] [] S R := by
  refine go_run mm_201 8 (pc' := 12) (ls' := [some (.ref 140), some (.int v1), none]) (st' := [.int (S.1 140 7), .int 0, .int v1, .ref 140]) (S' := (wI S 140 0 0)) rfl ?_
  refine go_cs mm_201 (av := [.int v1, .int 0, .int (S.1 140 7)]) (rest := [.ref 140]) (nl := 3) rfl (show csOK 201 12 148 182 3 3 = true by decide +kernel) rfl rfl rfl (sp_182) (KP_V ?_)
  have j1 : Go XM (d + 9) 201 c 23 [some (.ref 140), some (.int v1), none] [.int (b2i (!(f_182 v1 0 (S.1 140 7)))), .ref 140] (wI S 140 0 0) R := by
    refine go_run mm_201 1 (pc' := 24) (ls' := [some (.ref 140), some (.int v1), none]) (st' := [.int 1, .int (b2i (!(f_182 v1 0 (S.1 140 7)))), .ref 140]) (S' := (wI S 140 0 0)) rfl ?_
    refine go_cv mm_201 (h := 140) (As := [.int (b2i (!(f_182 v1 0 (S.1 140 7)))), .int 1]) (rest := []) (nl := 3) rfl XM_140 (show cvOK 201 24 86 183 2 3 11 = true by decide +kernel) rfl rfl rfl (sq_183) (KP_V ?_)
    refine go_ifb mm_201 rfl (p1 := 30) (p2 := 32) rfl (fun (hc1 : (!(decide (rf 0 (!(f_182 v1 0 (S.1 140 7))) 1 = 0))) = true) => ?_) (fun (hc1 : (!(decide (rf 0 (!(f_182 v1 0 (S.1 140 7))) 1 = 0))) = false) => ?_)
    · refine go_run mm_201 1 (pc' := 31) (ls' := [some (.ref 140), some (.int v1), none]) (st' := [.int 0]) (S' := (wI (wI S 140 0 0) 140 0 (rf 0 (!(f_182 v1 0 (S.1 140 7))) 1))) rfl ?_
      exact go_ireturn mm_201 rfl rfl (e1 hc1)
    · refine go_run mm_201 5 (pc' := 39) (ls' := [some (.ref 140), some (.int v1), none]) (st' := [.int v1, .ref 140]) (S' := (wI (wI (wI S 140 0 0) 140 0 (rf 0 (!(f_182 v1 0 (S.1 140 7))) 1)) 140 7 0)) rfl ?_
      exact e2 hc1
  refine go_ifb mm_201 rfl (p1 := 22) (p2 := 18) rfl (fun (hc1 : (f_182 v1 0 (S.1 140 7)) = true) => ?_) (fun (hc1 : (f_182 v1 0 (S.1 140 7)) = false) => ?_)
  · refine go_run mm_201 1 (pc' := 23) (ls' := [some (.ref 140), some (.int v1), none]) (st' := [.int 0, .ref 140]) (S' := (wI S 140 0 0)) rfl ?_
    have e : ((b2i (!(f_182 v1 0 (S.1 140 7)))) : Int32) = 0 := by simp [b2i, hc1]
    rw [e] at j1
    exact j1
  · refine go_run mm_201 2 (pc' := 23) (ls' := [some (.ref 140), some (.int v1), none]) (st' := [.int 1, .ref 140]) (S' := (wI S 140 0 0)) rfl ?_
    have e : ((b2i (!(f_182 v1 0 (S.1 140 7)))) : Int32) = 1 := by simp [b2i, hc1]
    rw [e] at j1
    exact j1
set_option maxRecDepth 20000 in
theorem b_201_42 {d c : Nat} {R : RT} {S : ST} {v1 : Int32} (e1 : (!(decide (rf (S.1 140 0) (!(decide ((S.1 140 17) = 0))) 2 = 0))) = true → R c (.inr (some (.int 0))) (wI (wI (wI S 140 8 (S.1 140 17)) 140 9 (if (S.1 140 17) = 0 then (-1) else S.1 140 18)) 140 0 (rf (S.1 140 0) (!(decide ((S.1 140 17) = 0))) 2))) (e2 : (!(decide (rf (S.1 140 0) (!(decide ((S.1 140 17) = 0))) 2 = 0))) = false → Go XM (d + 9) 201 c 98 [some (.ref 140), some (.int v1), some (.int 0)] [] (wI (wI (wI (wI S 140 8 (S.1 140 17)) 140 9 (if (S.1 140 17) = 0 then (-1) else S.1 140 18)) 140 0 (rf (S.1 140 0) (!(decide ((S.1 140 17) = 0))) 2)) 140 1 1) R) : Go XM (d + 9) 201 c 42 [some (.ref 140), some (.int v1), none] [] S R := by
  refine go_run mm_201 7 (pc' := 55) (ls' := [some (.ref 140), some (.int v1), none]) (st' := [.int (S.1 140 17), .ref 140]) (S' := (wI S 140 8 (S.1 140 17))) rfl ?_
  have j2 : Go XM (d + 9) 201 c 66 [some (.ref 140), some (.int v1), none] [.int (if (S.1 140 17) = 0 then (-1) else S.1 140 18), .ref 140] (wI S 140 8 (S.1 140 17)) R := by
    refine go_run mm_201 4 (pc' := 74) (ls' := [some (.ref 140), some (.int v1), none]) (st' := [.int (S.1 140 17), .ref 140]) (S' := (wI (wI S 140 8 (S.1 140 17)) 140 9 (if (S.1 140 17) = 0 then (-1) else S.1 140 18))) rfl ?_
    have j1 : Go XM (d + 9) 201 c 82 [some (.ref 140), some (.int v1), none] [.int (b2i (!(decide ((S.1 140 17) = 0)))), .ref 140] (wI (wI S 140 8 (S.1 140 17)) 140 9 (if (S.1 140 17) = 0 then (-1) else S.1 140 18)) R := by
      refine go_run mm_201 1 (pc' := 83) (ls' := [some (.ref 140), some (.int v1), none]) (st' := [.int 2, .int (b2i (!(decide ((S.1 140 17) = 0)))), .ref 140]) (S' := (wI (wI S 140 8 (S.1 140 17)) 140 9 (if (S.1 140 17) = 0 then (-1) else S.1 140 18))) rfl ?_
      refine go_cv mm_201 (h := 140) (As := [.int (b2i (!(decide ((S.1 140 17) = 0)))), .int 2]) (rest := []) (nl := 3) rfl XM_140 (show cvOK 201 83 86 183 2 3 11 = true by decide +kernel) rfl rfl rfl (sq_183) (KP_V ?_)
      refine go_ifb mm_201 rfl (p1 := 89) (p2 := 91) rfl (fun (hc1 : (!(decide (rf (S.1 140 0) (!(decide ((S.1 140 17) = 0))) 2 = 0))) = true) => ?_) (fun (hc1 : (!(decide (rf (S.1 140 0) (!(decide ((S.1 140 17) = 0))) 2 = 0))) = false) => ?_)
      · refine go_run mm_201 1 (pc' := 90) (ls' := [some (.ref 140), some (.int v1), none]) (st' := [.int 0]) (S' := (wI (wI (wI S 140 8 (S.1 140 17)) 140 9 (if (S.1 140 17) = 0 then (-1) else S.1 140 18)) 140 0 (rf (S.1 140 0) (!(decide ((S.1 140 17) = 0))) 2))) rfl ?_
        exact go_ireturn mm_201 rfl rfl (e1 hc1)
      · refine go_run mm_201 5 (pc' := 98) (ls' := [some (.ref 140), some (.int v1), some (.int 0)]) (st' := []) (S' := (wI (wI (wI (wI S 140 8 (S.1 140 17)) 140 9 (if (S.1 140 17) = 0 then (-1) else S.1 140 18)) 140 0 (rf (S.1 140 0) (!(decide ((S.1 140 17) = 0))) 2)) 140 1 1)) rfl ?_
        exact e2 hc1
    refine go_if0 mm_201 rfl (p1 := 81) (p2 := 77) rfl (fun (hc1 : (S.1 140 17) = 0) => ?_) (fun (hc1 : ¬ (S.1 140 17) = 0) => ?_)
    · refine go_run mm_201 1 (pc' := 82) (ls' := [some (.ref 140), some (.int v1), none]) (st' := [.int 0, .ref 140]) (S' := (wI (wI S 140 8 (S.1 140 17)) 140 9 (if (S.1 140 17) = 0 then (-1) else S.1 140 18))) rfl ?_
      have e : ((b2i (!(decide ((S.1 140 17) = 0)))) : Int32) = 0 := by simp [b2i, hc1]
      rw [e] at j1
      exact j1
    · refine go_run mm_201 2 (pc' := 82) (ls' := [some (.ref 140), some (.int v1), none]) (st' := [.int 1, .ref 140]) (S' := (wI (wI S 140 8 (S.1 140 17)) 140 9 (if (S.1 140 17) = 0 then (-1) else S.1 140 18))) rfl ?_
      have e : ((b2i (!(decide ((S.1 140 17) = 0)))) : Int32) = 1 := by simp [b2i, hc1]
      rw [e] at j1
      exact j1
  refine go_if0 mm_201 rfl (p1 := 58) (p2 := 62) rfl (fun (hc1 : (S.1 140 17) = 0) => ?_) (fun (hc1 : ¬ (S.1 140 17) = 0) => ?_)
  · refine go_run mm_201 2 (pc' := 66) (ls' := [some (.ref 140), some (.int v1), none]) (st' := [.int (-1), .ref 140]) (S' := (wI S 140 8 (S.1 140 17))) rfl ?_
    have e : ((if (S.1 140 17) = 0 then (-1) else S.1 140 18) : Int32) = (-1) := by simp [b2i, hc1]
    rw [e] at j2
    exact j2
  · refine go_run mm_201 2 (pc' := 66) (ls' := [some (.ref 140), some (.int v1), none]) (st' := [.int (S.1 140 18), .ref 140]) (S' := (wI S 140 8 (S.1 140 17))) rfl ?_
    have e : ((if (S.1 140 17) = 0 then (-1) else S.1 140 18) : Int32) = S.1 140 18 := by simp [b2i, hc1]
    rw [e] at j2
    exact j2
set_option maxRecDepth 20000 in
theorem b_201_98 {d c : Nat} {R : RT} {S : ST} {v1 : Int32} {v2 : Int32} (o1 : v2 < 63 → inB v2 63) (e1 : v2 < 63 → Go XM (d + 9) 201 c 98 [some (.ref 140), some (.int v1), some (.int (v2 + 1))] [] (wI S 141 (Int32.toNatClampNeg v2) (ra S 146 v2)) R) (e2 : ¬ v2 < 63 → Go XM (d + 9) 201 c 147 [some (.ref 140), some (.int v1), some (.int v2)] [.ref 140] (wI (wI (wI (wI S 140 4 0) 143 0 0) 143 1 0) 140 27 0) R) : Go XM (d + 9) 201 c 98 [some (.ref 140), some (.int v1), some (.int v2)] [] S R := by
  refine go_run mm_201 2 (pc' := 101) (ls' := [some (.ref 140), some (.int v1), some (.int v2)]) (st' := [.int 63, .int v2]) (S' := S) rfl ?_
  refine go_if2 mm_201 rfl (p1 := 104) (p2 := 122) rfl (fun (hc1 : v2 < 63) => ?_) (fun (hc1 : ¬ v2 < 63) => ?_)
  · refine go_run mm_201 6 (pc' := 114) (ls' := [some (.ref 140), some (.int v1), some (.int v2)]) (st' := [.int v2, .ref 146, .int v2, .ref 141]) (S' := S) rfl ?_
    refine go_iaload mm_201 (q := (Int32.toNatClampNeg v2)) rfl rfl rfl (o1 hc1) ?_
    refine go_iastore mm_201 (q := (Int32.toNatClampNeg v2)) rfl rfl rfl (o1 hc1) ?_
    refine go_run mm_201 2 (pc' := 98) (ls' := [some (.ref 140), some (.int v1), some (.int (v2 + 1))]) (st' := []) (S' := (wI S 141 (Int32.toNatClampNeg v2) (ra S 146 v2))) rfl ?_
    exact e1 hc1
  · refine go_run mm_201 7 (pc' := 133) (ls' := [some (.ref 140), some (.int v1), some (.int v2)]) (st' := [.int 0, .int 0, .ref 143]) (S' := (wI S 140 4 0)) rfl ?_
    refine go_bastore mm_201 (q := 0) rfl rfl rfl (inB_lit rfl) (Or.inl rfl) ?_
    refine go_run mm_201 4 (pc' := 140) (ls' := [some (.ref 140), some (.int v1), some (.int v2)]) (st' := [.int 0, .int 1, .ref 143]) (S' := (wI (wI S 140 4 0) 143 0 0)) rfl ?_
    refine go_bastore mm_201 (q := 1) rfl rfl rfl (inB_lit rfl) (Or.inl rfl) ?_
    refine go_run mm_201 4 (pc' := 147) (ls' := [some (.ref 140), some (.int v1), some (.int v2)]) (st' := [.ref 140]) (S' := (wI (wI (wI (wI S 140 4 0) 143 0 0) 143 1 0) 140 27 0)) rfl ?_
    exact e2 hc1
set_option maxRecDepth 20000 in
theorem b_201_150 {d c : Nat} {R : RT} {S : ST} {v1 : Int32} {v2 : Int32} (e1 : R c (.inr (some (.int (S.1 140 20)))) S) : Go XM (d + 9) 201 c 150 [some (.ref 140), some (.int v1), some (.int v2)] [] S R := by
  refine go_run mm_201 2 (pc' := 154) (ls' := [some (.ref 140), some (.int v1), some (.int v2)]) (st' := [.int (S.1 140 20)]) (S' := S) rfl ?_
  exact go_ireturn mm_201 rfl rfl (e1)
section Rds
variable {d : Nat} {S S1 : ST}
def PSr : List Nat := [10, 11, 12, 13, 15, 16, 17, 18]
def Rrd (S : ST) : RT := RP (fun v S' => v = none ∧ Fm [145, 146] PSr S S' ∧ (S'.1 140 17 = 0 → GTh S' 146))
theorem cnt_le (g : GTh S 146) : cnt S ≤ 12 := by
  obtain ⟨-, ⟨G, a1, a2, a3⟩, T, b1, b2, b3⟩ := g
  unfold cnt
  rw [a1, b1, nJ_ix (by omega), nJ_ix (by omega)]
  omega
theorem rd_loop {v1 v2 : Int32} : ∀ t S1, Fm [145, 146] PSr S S1 → PB S1 → (S1.1 140 17 = 0 → GTh S1 146 ∧ 13 ≤ cnt S1 + t) → Go XM (d + 8) 200 0 49 [some (.ref 140), some (.int v1), some (.int v2)] [] S1 (Rrd S) := by
  have out : ∀ S1, Fm [145, 146] PSr S S1 → PB S1 → (S1.1 140 17 = 0 → GTh S1 146) → (S1.1 140 17 = 0 → S1.1 140 13 = 3 → Go XM (d + 8) 200 0 65 [some (.ref 140), some (.int v1), some (.int v2)] [.ref 140] S1 (Rrd S)) → Go XM (d + 8) 200 0 49 [some (.ref 140), some (.int v1), some (.int v2)] [] S1 (Rrd S) := by
    intro S1 hF hp hg hgo
    have bad : Rrd S 0 (.inr none) (g_193 S1 1) := ⟨rfl, _, rfl, rfl, hF.tr (g193_F.wk (by decide) (by decide)), fun z => absurd z (g193_w (by decide))⟩
    exact b_200_49 hgo (fun w _ _ => ⟨rfl, _, rfl, rfl, hF, hg⟩) (fun _ _ _ => bad) (fun _ _ => ⟨rfl, _, rfl, rfl, hF, hg⟩) (fun _ _ => bad)
  intro t
  induction t with
  | zero =>
    intro S1 hF hp hg
    refine out S1 hF hp (fun z => (hg z).1) (fun w _ => ?_)
    have := cnt_le (hg w).1
    have := (hg w).2
    omega
  | succ t ih =>
    intro S1 hF hp hg
    refine out S1 hF hp (fun z => (hg z).1) (fun w _ => ?_)
    obtain ⟨g, hc⟩ := hg w
    refine go_cv mm_200 (h := 140) (As := []) (rest := []) (nl := 3) rfl XM_140 (show cvOK 200 65 131 192 0 3 11 = true by decide +kernel) rfl rfl rfl (sq_192 (d := d + 6) hp) (KP_P (fun v S2 k2 => ?_))
    obtain ⟨rfl, p2, w2⟩ := k2
    have e2 := p2.1.row (a := 146) (by decide) (by decide)
    have g2 : GTh S2 146 := GTh_r2 e2 g
    have c2 : cnt S2 = cnt S1 := by unfold cnt; rw [e2]
    have hF2 : Fm [145, 146] PSr S S2 := hF.tr (p2.1.wk (by decide) (by decide))
    have thing : Go XM (d + 8) 200 0 90 [some (.ref 140), some (.int v1), some (.int v2)] [.ref 316, .ref 140, .ref 140] S2 (Rrd S) := by
      refine go_cv mm_200 (h := 140) (As := [.ref 316]) (rest := [.ref 140]) (nl := 3) rfl XM_140 (show cvOK 200 90 161 195 1 3 11 = true by decide +kernel) rfl rfl rfl (txc (d := d + 7) tx_316) (KP_P (fun v S3 k3 => ?_))
      obtain ⟨⟨b, rfl⟩, rfl⟩ := k3
      refine b_200_93 ?_
      refine go_cv mm_200 (h := 140) (As := [.int (b2i b)]) (rest := []) (nl := 7) rfl XM_140 (show cvOK 200 93 185 199 1 7 11 = true by decide +kernel) rfl rfl rfl (sq_199 (d := d) p2.2.1 g2) (KP_P (fun v S4 k4 => ?_))
      obtain ⟨rfl, f4, p4, g4⟩ := k4
      refine b_200_96 (ih S4 (hF2.tr (f4.wk (by decide) (by decide))) p4 (fun z => ⟨(g4 z).1, ?_⟩))
      have := (g4 z).2
      omega
    refine b_200_68 ?_
    refine go_cv mm_200 (h := 140) (As := [.ref 316]) (rest := []) (nl := 3) rfl XM_140 (show cvOK 200 71 161 195 1 3 11 = true by decide +kernel) rfl rfl rfl (txc (d := d + 7) tx_316) (KP_P (fun v S3 k3 => ?_))
    obtain ⟨⟨b, rfl⟩, rfl⟩ := k3
    refine b_200_74 (fun _ => thing) (fun _ => ?_)
    refine go_cv mm_200 (h := 140) (As := [.ref 317]) (rest := []) (nl := 3) rfl XM_140 (show cvOK 200 80 161 195 1 3 11 = true by decide +kernel) rfl rfl rfl (txc (d := d + 7) tx_317) (KP_P (fun v S4 k4 => ?_))
    obtain ⟨⟨b', rfl⟩, rfl⟩ := k4
    exact b_200_83 (fun _ => thing) (fun _ => ih _ (hF2.tr (g193_F.wk (by decide) (by decide))) (PSt_193 p2.2.1 (by decide)).2.1 (fun z => absurd z (g193_w (by decide))))
theorem rd_go {v1 v2 : Int32} (hF : Fm [145, 146] PSr S S1) (hp : PB S1) (h0 : ∀ j, j < 63 → S1.1 146 j = 0) : Go XM (d + 8) 200 0 42 [some (.ref 140), some (.int v1), some (.int v2)] [.ref 140] S1 (Rrd S) := by
  refine go_cv mm_200 (h := 140) (As := []) (rest := []) (nl := 3) rfl XM_140 (show cvOK 200 42 131 192 0 3 11 = true by decide +kernel) rfl rfl rfl (sq_192 (d := d + 6) hp) (KP_P (fun v S2 k2 => ?_))
  obtain ⟨rfl, p2, -⟩ := k2
  have e2 := p2.1.row (a := 146) (by decide) (by decide)
  refine b_200_45 ?_
  have h2 : LI S2 S2 0 := ⟨Fm.rf, p2.2.1, fun j h1 h3 => by rw [e2, h0 j (by omega)]; decide, ⟨by rw [e2, h0 0 (by omega)]; rfl, by omega⟩, by rw [e2]; exact h0 1 (by omega), by rw [e2]; exact h0 2 (by omega)⟩
  refine go_cv mm_200 (h := 140) (As := []) (rest := []) (nl := 3) rfl XM_140 (show cvOK 200 46 178 198 0 3 11 = true by decide +kernel) rfl rfl rfl (sq_198 (d := d) h2) (KP_P (fun v S3 k3 => ?_))
  obtain ⟨rfl, m, l3, g3⟩ := k3
  refine rd_loop 13 S3 ((hF.tr (p2.1.wk (by decide) (by decide))).tr (l3.1.wk (by decide) (by decide))) l3.2.1 (fun z => ⟨⟨g3 z, ⟨0, l3.2.2.2.2.1, by omega, fun g hg => by omega⟩, 0, l3.2.2.2.2.2, by omega, fun g hg => by omega⟩, by omega⟩)
theorem sq_200 {n : Nat} (hn : n ≤ 600) : Cal XM (d + 8) 200 [.ref 140, .int (nJ n)] S (Rrd S) := by
  have key : ∀ m i S1, i + m = 63 → Fm [145, 146] PSr S S1 → PB S1 → (∀ j, j < i → S1.1 146 j = 0) → Go XM (d + 8) 200 0 22 [some (.ref 140), some (.int (nJ n)), some (.int (nJ i))] [] S1 (Rrd S) := by
    intro m
    induction m with
    | zero =>
      intro i S1 hi hF hp h0
      have hi : i = 63 := by omega
      subst hi
      exact b_200_22 (fun z => absurd z (by decide)) (fun z => absurd z (by decide)) (fun _ => rd_go hF hp h0)
    | succ m ih =>
      intro i S1 hi hF hp h0
      have hl : nJ i < 63 := (nJ_lt (j := 63) (by omega) (by omega)).mpr (by omega)
      refine b_200_22 (fun _ => nJ_inB (by omega) (by omega)) (fun _ => ?_) (fun z => absurd hl z)
      rw [nJ_succ, nJ_ix (by omega)]
      refine ih (i + 1) _ (by omega) (hF.tr (Fm_a (by decide))) hp (fun j hj => ?_)
      rw [wI_1]
      split
      · rfl
      · next z => exact h0 j (by omega)
  refine cal_go 1 rfl (b_200_0 ?_)
  exact key 63 0 _ rfl ((((Fm_f (by decide)).tr (Fm_f (by decide))).tr (Fm_f (by decide))).tr (Fm_f (by decide))) ⟨n, 0, rfl, hn, rfl, by omega⟩ (fun j hj => by omega)
theorem MOK_i {S : ST} (M : MOK S) {S' : ST} (hF : Fm [144, 145, 146] [0, 7, 8, 9, 10, 11, 12, 13, 15, 16, 17, 18] S S') (h7 : 0 ≤ (S'.1 140 7).toInt ∧ (S'.1 140 7).toInt ≤ 600) : MOK S' := by
  obtain ⟨a1, a2, a3, a4, a5, a6, a7⟩ := M
  refine ⟨h7, fun h1 => ?_, ?_, fun j hj h1 => ?_, fun h1 => ?_, by rw [hF.fld (by decide) (by decide)]; exact a6, by rw [hF.fld (by decide) (by decide)]; exact a7⟩
  · rw [hF.fld (by decide) (by decide)] at h1
    exact ⟨(Ld_fm (a2 h1).1 hF (by decide) (by decide) (by decide) (by decide) (by decide) (by decide)).1, Th_r2 (hF.row (by decide) (by decide)) (a2 h1).2⟩
  · obtain ⟨c, c1, c2, c3⟩ := a3
    exact ⟨c, by rw [hF.fld (by decide) (by decide)]; exact c1, c2, fun k hk => by rw [sto_fm hF (by decide)]; exact c3 k hk⟩
  · rw [hF.row (a := 143) (by decide) (by decide)] at h1
    rw [sto_fm hF (by decide)]
    exact a4 j hj h1
  · rw [hF.fld (by decide) (by decide)] at h1
    exact Sv_fm (a5 h1) hF (by decide) (by decide) (by decide) (by decide)
/-- the invariant behind a good load -/
theorem MOK_L {S : ST} (M : MOK S) {S' : ST} (hF : Fm [141, 143, 144, 145, 146, 147, 148, 149] [0, 1, 4, 7, 8, 9, 10, 11, 12, 13, 15, 16, 17, 18, 20, 27] S S') (h7 : S'.1 140 7 = 0) (h4 : S'.1 140 4 = 0) (h30 : S'.1 143 0 = 0) (h31 : S'.1 143 1 = 0) (h27 : S'.1 140 27 = 0) (hL : Ld S') (ht : Th S' 141) : MOK S' := by
  obtain ⟨a1, a2, a3, a4, a5, a6, a7⟩ := M
  refine ⟨by rw [h7]; decide, fun _ => ⟨hL, ht⟩, ⟨0, h4, by omega, fun k hk => by omega⟩, fun j hj h1 => ?_, fun h1 => absurd h27 h1, by rw [hF.fld (by decide) (by decide)]; exact a6, by rw [hF.fld (by decide) (by decide)]; exact a7⟩
  have : j = 0 ∨ j = 1 := by omega
  rcases this with rfl | rfl
  · exact absurd h30 h1
  · exact absurd h31 h1
/-- load: the buffer is empty behind it, or it is as it was where n is not in it -/
def Rld (b : Nat) (v1 : Int32) : RT := RP (fun v S' => (∃ x : Int32, v = some (.int x)) ∧ MOK S' ∧ S'.1 140 7 = if 0 ≤ v1.toInt ∧ v1.toInt ≤ b then 0 else nJ b)
theorem ld_go {v1 : Int32} (M : MOK S) (h7 : S.1 140 7 = 0) (g : GTh S 146) {b : Nat} (hin : 0 ≤ v1.toInt ∧ v1.toInt ≤ b) : ∀ m i S1, i + m = 63 → Fm [141] [1] S S1 → (∀ j, j < i → S1.1 141 j = S.1 146 j) → Go XM (d + 9) 201 0 98 [some (.ref 140), some (.int v1), some (.int (nJ i))] [] S1 (Rld b v1) := by
  intro m
  induction m with
  | zero =>
    intro i S1 hi hF hv
    have hi : i = 63 := by omega
    subst hi
    have hF1 : Fm [141, 143] [1, 4, 27] S (wI (wI (wI (wI S1 140 4 0) 143 0 0) 143 1 0) 140 27 0) := ((((hF.wk (by decide) (by decide)).tr (Fm_f (by decide))).tr (Fm_a (by decide))).tr (Fm_a (by decide))).tr (Fm_f (by decide))
    have g1 : GTh (wI (wI (wI (wI S1 140 4 0) 143 0 0) 143 1 0) 140 27 0) 141 := GTh_c (S := S) (h := 146) (fun j hj => hv j hj) g
    have k4 : (wI (wI (wI (wI S1 140 4 0) 143 0 0) 143 1 0) 140 27 0).1 140 4 = 0 := rfl
    have k30 : (wI (wI (wI (wI S1 140 4 0) 143 0 0) 143 1 0) 140 27 0).1 143 0 = 0 := rfl
    have k31 : (wI (wI (wI (wI S1 140 4 0) 143 0 0) 143 1 0) 140 27 0).1 143 1 = 0 := rfl
    have k27 : (wI (wI (wI (wI S1 140 4 0) 143 0 0) 143 1 0) 140 27 0).1 140 27 = 0 := rfl
    refine b_201_98 (fun q => absurd q (by decide)) (fun q => absurd q (by decide)) (fun _ => ?_)
    generalize wI (wI (wI (wI S1 140 4 0) 143 0 0) 143 1 0) 140 27 0 = S2 at *
    refine go_cv mm_201 (h := 140) (As := []) (rest := []) (nl := 4) rfl XM_140 (show cvOK 201 147 198 214 0 4 11 = true by decide +kernel) rfl rfl rfl (sq_214 (d := d + 3) g1.1.1 g1.1.2.2.2.2) (KP_V ?_)
    have hl := g214_ld (S := S2) g1.1.2.2.2.2
    generalize g_214 S2 = S3 at *
    refine b_201_150 ?_
    have hF2 := hl.2.2
    have e1 := hF2.row (a := 141) (by decide) (by decide)
    have e3 := hF2.row (a := 143) (by decide) (by decide)
    have hF3 : Fm [141, 143, 144, 145, 146, 147, 148, 149] [0, 1, 4, 7, 8, 9, 10, 11, 12, 13, 15, 16, 17, 18, 20, 27] S S3 := (hF1.wk (by decide) (by decide)).tr (hF2.wk (by decide) (by decide))
    have k7 : S3.1 140 7 = 0 := by rw [hF2.fld (by decide) (by decide), hF1.fld (by decide) (by decide)]; exact h7
    refine ⟨rfl, _, rfl, ⟨_, rfl⟩, MOK_L M hF3 k7 (by rw [hF2.fld (by decide) (by decide)]; exact k4) (by rw [e3]; exact k30) (by rw [e3]; exact k31) (by rw [hF2.fld (by decide) (by decide)]; exact k27) ⟨GR_r2 e1 g1.1, ?_, ?_, Fm.rf⟩ (Th_r2 e1 g1.2), ?_⟩
    · rw [inp_r2 e1]; exact hl.1
    · rw [inp_r2 e1]; exact hl.2.1
    · rw [if_pos hin]; exact k7
  | succ m ih =>
    intro i S1 hi hF hv
    have hlt : nJ i < 63 := (nJ_lt (j := 63) (by omega) (by omega)).mpr (by omega)
    refine b_201_98 (fun _ => nJ_inB (by omega) (by omega)) (fun _ => ?_) (fun q => absurd hlt q)
    rw [nJ_succ, nJ_ix (by omega), ra_n S1 146 (by omega), hF.row (a := 146) (by decide) (by decide)]
    refine ih (i + 1) _ (by omega) (hF.tr (Fm_a (by decide))) (fun j hj => ?_)
    by_cases q : j = i
    · subst q; rw [wI_1, if_pos ⟨rfl, rfl⟩]
    · rw [wI_1, if_neg (fun z => q z.2)]; exact hv j (by omega)
theorem rf_t {t : Int32} {b : Bool} {v : Int32} (h : (!(decide (rf t b v = 0))) = true) (h0 : t = 0) : b = true := by
  cases b with
  | true => rfl
  | false =>
    unfold rf at h
    rw [if_pos h0, if_neg (by decide), h0] at h
    exact absurd h (by decide)
theorem q_201 (M : MOK S) {b : Nat} (hb : S.1 140 7 = nJ b) (hb6 : b ≤ 600) {v1 : Int32} : Cal XM (d + 9) 201 [.ref 140, .int v1] S (Rld b v1) := by
  have hbi : (S.1 140 7).toInt = b := by rw [hb]; exact nJ_toInt (by omega)
  refine cal_go 1 rfl (b_201_0 (fun q => ?_) (fun q => ?_))
  · have := rf_t q rfl
    have hn : ¬ (0 ≤ v1.toInt ∧ v1.toInt ≤ (b : Int)) := fun z => by
      have : f_182 v1 0 (S.1 140 7) = true := f182_t.mpr ⟨z.1, by rw [hbi]; exact z.2⟩
      simp_all
    refine ⟨rfl, _, rfl, ⟨_, rfl⟩, (Qq_tt M _ _).1, ?_⟩
    rw [if_neg hn]
    exact hb
  · have h1 := in_f (rf_f q (by decide))
    have hin : 0 ≤ v1.toInt ∧ v1.toInt ≤ (b : Int) := ⟨h1.1, by have := h1.2; rw [hbi] at this; exact this⟩
    obtain ⟨n, rfl, hn⟩ : ∃ n, v1 = nJ n ∧ n ≤ 600 := ⟨v1.toNatClampNeg, nJ_of h1.1, by show v1.toInt.toNat ≤ 600; omega⟩
    have hF1 : Fm [144, 145, 146] [0, 7, 8, 9, 10, 11, 12, 13, 15, 16, 17, 18] S (wI (wI (wI S 140 0 0) 140 0 (rf 0 (!(f_182 (nJ n) 0 (S.1 140 7))) 1)) 140 7 0) := ((Fm_f (by decide)).tr (Fm_f (by decide))).tr (Fm_f (by decide))
    have k7 : (wI (wI (wI S 140 0 0) 140 0 (rf 0 (!(f_182 (nJ n) 0 (S.1 140 7))) 1)) 140 7 0).1 140 7 = 0 := rfl
    generalize wI (wI (wI S 140 0 0) 140 0 (rf 0 (!(f_182 (nJ n) 0 (S.1 140 7))) 1)) 140 7 0 = S1 at *
    refine go_cv mm_201 (h := 140) (As := [.int (nJ n)]) (rest := []) (nl := 3) rfl XM_140 (show cvOK 201 39 189 200 1 3 11 = true by decide +kernel) rfl rfl rfl (sq_200 (d := d) hn) (KP_P (fun v S2 k2 => ?_))
    obtain ⟨rfl, f2, g2⟩ := k2
    have hF2 := hF1.tr (f2.wk (by decide) (by decide))
    have k72 : S2.1 140 7 = 0 := by rw [f2.fld (by decide) (by decide)]; exact k7
    refine b_201_42 (fun _ => ?_) (fun z => ?_)
    · have hF3 := ((hF2.tr (Fm_f (q := 8) (v := S2.1 140 17) (by decide))).tr (Fm_f (q := 9) (v := if S2.1 140 17 = 0 then -1 else S2.1 140 18) (by decide))).tr (Fm_f (q := 0) (v := rf (S2.1 140 0) (!(decide (S2.1 140 17 = 0))) 2) (by decide))
      refine ⟨rfl, _, rfl, ⟨_, rfl⟩, MOK_i M hF3 ?_, ?_⟩
      · show 0 ≤ (S2.1 140 7).toInt ∧ (S2.1 140 7).toInt ≤ 600
        rw [k72]; decide
      · rw [if_pos hin]; exact k72
    · have hF3 := ((hF2.tr (Fm_f (q := 8) (v := S2.1 140 17) (by decide))).tr (Fm_f (q := 9) (v := if S2.1 140 17 = 0 then -1 else S2.1 140 18) (by decide))).tr (Fm_f (q := 0) (v := rf (S2.1 140 0) (!(decide (S2.1 140 17 = 0))) 2) (by decide))
      have w0 : S2.1 140 17 = 0 := by
        have := rf_f z (by decide)
        simpa using this
      have g3 : GTh (wI (wI (wI S2 140 8 (S2.1 140 17)) 140 9 (if S2.1 140 17 = 0 then -1 else S2.1 140 18)) 140 0 (rf (S2.1 140 0) (!(decide (S2.1 140 17 = 0))) 2)) 146 := GTh_r2 (S := S2) rfl (g2 w0)
      have k73 : (wI (wI (wI S2 140 8 (S2.1 140 17)) 140 9 (if S2.1 140 17 = 0 then -1 else S2.1 140 18)) 140 0 (rf (S2.1 140 0) (!(decide (S2.1 140 17 = 0))) 2)).1 140 7 = 0 := k72
      generalize wI (wI (wI S2 140 8 (S2.1 140 17)) 140 9 (if S2.1 140 17 = 0 then -1 else S2.1 140 18)) 140 0 (rf (S2.1 140 0) (!(decide (S2.1 140 17 = 0))) 2) = S3 at *
      exact ld_go (S := S3) (MOK_i M hF3 (by rw [k73]; decide)) k73 g3 hin 63 0 _ rfl (Fm_f (by decide)) (fun j hj => by omega)
end Rds
