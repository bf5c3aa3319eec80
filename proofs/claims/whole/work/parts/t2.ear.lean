theorem mm_250 : mtG 250 = some (mi_250, 12, ft_250) := rfl
def g_250 (S : ST) (v1 : Int32) (v2 : Int32) (v3 : Int32) (v4 : Int32) : ST := (wI (wI (wI S 157 (Int32.toNatClampNeg (3 * v1)) (if v4 < (if v2 < v3 then v2 else v3) then v4 else (if v2 < v3 then v2 else v3))) 157 (Int32.toNatClampNeg ((3 * v1) + 1)) (if v4 < (if v2 < v3 then v2 else v3) then (if v2 < v3 then v2 else v3) else (if v4 < (if v2 < v3 then v3 else v2) then v4 else (if v2 < v3 then v3 else v2)))) 157 (Int32.toNatClampNeg ((3 * v1) + 2)) (if (if v2 < v3 then v3 else v2) < v4 then v4 else (if v2 < v3 then v3 else v2)))
set_option maxRecDepth 20000 in
theorem b_250_0 {d c : Nat} {R : RT} {S : ST} {v1 : Int32} {v2 : Int32} {v3 : Int32} {v4 : Int32} (o1 : inB (3 * v1) 30) (o2 : inB ((3 * v1) + 1) 30) (o3 : inB ((3 * v1) + 2) 30) (e1 : R c (.inr none) (wI (wI (wI S 157 (Int32.toNatClampNeg (3 * v1)) (if v4 < (if v2 < v3 then v2 else v3) then v4 else (if v2 < v3 then v2 else v3))) 157 (Int32.toNatClampNeg ((3 * v1) + 1)) (if v4 < (if v2 < v3 then v2 else v3) then (if v2 < v3 then v2 else v3) else (if v4 < (if v2 < v3 then v3 else v2) then v4 else (if v2 < v3 then v3 else v2)))) 157 (Int32.toNatClampNeg ((3 * v1) + 2)) (if (if v2 < v3 then v3 else v2) < v4 then v4 else (if v2 < v3 then v3 else v2)))) : Go XM d 250 c 0 [some (.ref 140), some (.int v1), some (.int v2), some (.int v3), some (.int v4), none, none] [] S R := by
  refine go_run mm_250 2 (pc' := 2) (ls' := [some (.ref 140), some (.int v1), some (.int v2), some (.int v3), some (.int v4), none, none]) (st' := [.int v3, .int v2]) (S' := S) rfl ?_
  have j6 : Go XM d 250 c 10 [some (.ref 140), some (.int v1), some (.int v2), some (.int v3), some (.int v4), none, none] [.int (if v2 < v3 then v2 else v3)] S R := by
    refine go_run mm_250 3 (pc' := 14) (ls' := [some (.ref 140), some (.int v1), some (.int v2), some (.int v3), some (.int v4), some (.int (if v2 < v3 then v2 else v3)), none]) (st' := [.int v3, .int v2]) (S' := S) rfl ?_
    have j5 : Go XM d 250 c 22 [some (.ref 140), some (.int v1), some (.int v2), some (.int v3), some (.int v4), some (.int (if v2 < v3 then v2 else v3)), none] [.int (if v2 < v3 then v3 else v2)] S R := by
      refine go_run mm_250 8 (pc' := 35) (ls' := [some (.ref 140), some (.int v1), some (.int v2), some (.int v3), some (.int v4), some (.int (if v2 < v3 then v2 else v3)), some (.int (if v2 < v3 then v3 else v2))]) (st' := [.int (if v2 < v3 then v2 else v3), .int v4, .int (3 * v1), .ref 157]) (S' := S) rfl ?_
      have j4 : Go XM d 250 c 45 [some (.ref 140), some (.int v1), some (.int v2), some (.int v3), some (.int v4), some (.int (if v2 < v3 then v2 else v3)), some (.int (if v2 < v3 then v3 else v2))] [.int (if v4 < (if v2 < v3 then v2 else v3) then v4 else (if v2 < v3 then v2 else v3)), .int (3 * v1), .ref 157] S R := by
        refine go_iastore mm_250 (q := (Int32.toNatClampNeg (3 * v1))) rfl rfl rfl (o1) ?_
        refine go_run mm_250 9 (pc' := 59) (ls' := [some (.ref 140), some (.int v1), some (.int v2), some (.int v3), some (.int v4), some (.int (if v2 < v3 then v2 else v3)), some (.int (if v2 < v3 then v3 else v2))]) (st' := [.int (if v2 < v3 then v2 else v3), .int v4, .int ((3 * v1) + 1), .ref 157]) (S' := (wI S 157 (Int32.toNatClampNeg (3 * v1)) (if v4 < (if v2 < v3 then v2 else v3) then v4 else (if v2 < v3 then v2 else v3)))) rfl ?_
        have j3 : Go XM d 250 c 81 [some (.ref 140), some (.int v1), some (.int v2), some (.int v3), some (.int v4), some (.int (if v2 < v3 then v2 else v3)), some (.int (if v2 < v3 then v3 else v2))] [.int (if v4 < (if v2 < v3 then v2 else v3) then (if v2 < v3 then v2 else v3) else (if v4 < (if v2 < v3 then v3 else v2) then v4 else (if v2 < v3 then v3 else v2))), .int ((3 * v1) + 1), .ref 157] (wI S 157 (Int32.toNatClampNeg (3 * v1)) (if v4 < (if v2 < v3 then v2 else v3) then v4 else (if v2 < v3 then v2 else v3))) R := by
          refine go_iastore mm_250 (q := (Int32.toNatClampNeg ((3 * v1) + 1))) rfl rfl rfl (o2) ?_
          refine go_run mm_250 9 (pc' := 95) (ls' := [some (.ref 140), some (.int v1), some (.int v2), some (.int v3), some (.int v4), some (.int (if v2 < v3 then v2 else v3)), some (.int (if v2 < v3 then v3 else v2))]) (st' := [.int (if v2 < v3 then v3 else v2), .int v4, .int ((3 * v1) + 2), .ref 157]) (S' := (wI (wI S 157 (Int32.toNatClampNeg (3 * v1)) (if v4 < (if v2 < v3 then v2 else v3) then v4 else (if v2 < v3 then v2 else v3))) 157 (Int32.toNatClampNeg ((3 * v1) + 1)) (if v4 < (if v2 < v3 then v2 else v3) then (if v2 < v3 then v2 else v3) else (if v4 < (if v2 < v3 then v3 else v2) then v4 else (if v2 < v3 then v3 else v2))))) rfl ?_
          have j2 : Go XM d 250 c 105 [some (.ref 140), some (.int v1), some (.int v2), some (.int v3), some (.int v4), some (.int (if v2 < v3 then v2 else v3)), some (.int (if v2 < v3 then v3 else v2))] [.int (if (if v2 < v3 then v3 else v2) < v4 then v4 else (if v2 < v3 then v3 else v2)), .int ((3 * v1) + 2), .ref 157] (wI (wI S 157 (Int32.toNatClampNeg (3 * v1)) (if v4 < (if v2 < v3 then v2 else v3) then v4 else (if v2 < v3 then v2 else v3))) 157 (Int32.toNatClampNeg ((3 * v1) + 1)) (if v4 < (if v2 < v3 then v2 else v3) then (if v2 < v3 then v2 else v3) else (if v4 < (if v2 < v3 then v3 else v2) then v4 else (if v2 < v3 then v3 else v2)))) R := by
            refine go_iastore mm_250 (q := (Int32.toNatClampNeg ((3 * v1) + 2))) rfl rfl rfl (o3) ?_
            exact go_vreturn mm_250 rfl rfl (e1)
          refine go_if2 mm_250 rfl (p1 := 98) (p2 := 103) rfl (fun (hc1 : (if v2 < v3 then v3 else v2) < v4) => ?_) (fun (hc1 : ¬ (if v2 < v3 then v3 else v2) < v4) => ?_)
          · refine go_run mm_250 2 (pc' := 105) (ls' := [some (.ref 140), some (.int v1), some (.int v2), some (.int v3), some (.int v4), some (.int (if v2 < v3 then v2 else v3)), some (.int (if v2 < v3 then v3 else v2))]) (st' := [.int v4, .int ((3 * v1) + 2), .ref 157]) (S' := (wI (wI S 157 (Int32.toNatClampNeg (3 * v1)) (if v4 < (if v2 < v3 then v2 else v3) then v4 else (if v2 < v3 then v2 else v3))) 157 (Int32.toNatClampNeg ((3 * v1) + 1)) (if v4 < (if v2 < v3 then v2 else v3) then (if v2 < v3 then v2 else v3) else (if v4 < (if v2 < v3 then v3 else v2) then v4 else (if v2 < v3 then v3 else v2))))) rfl ?_
            have e : ((if (if v2 < v3 then v3 else v2) < v4 then v4 else (if v2 < v3 then v3 else v2)) : Int32) = v4 := by simp [b2i, hc1]
            rw [e] at j2
            exact j2
          · refine go_run mm_250 1 (pc' := 105) (ls' := [some (.ref 140), some (.int v1), some (.int v2), some (.int v3), some (.int v4), some (.int (if v2 < v3 then v2 else v3)), some (.int (if v2 < v3 then v3 else v2))]) (st' := [.int (if v2 < v3 then v3 else v2), .int ((3 * v1) + 2), .ref 157]) (S' := (wI (wI S 157 (Int32.toNatClampNeg (3 * v1)) (if v4 < (if v2 < v3 then v2 else v3) then v4 else (if v2 < v3 then v2 else v3))) 157 (Int32.toNatClampNeg ((3 * v1) + 1)) (if v4 < (if v2 < v3 then v2 else v3) then (if v2 < v3 then v2 else v3) else (if v4 < (if v2 < v3 then v3 else v2) then v4 else (if v2 < v3 then v3 else v2))))) rfl ?_
            have e : ((if (if v2 < v3 then v3 else v2) < v4 then v4 else (if v2 < v3 then v3 else v2)) : Int32) = (if v2 < v3 then v3 else v2) := by simp [b2i, hc1]
            rw [e] at j2
            exact j2
        refine go_if2 mm_250 rfl (p1 := 62) (p2 := 67) rfl (fun (hc1 : v4 < (if v2 < v3 then v2 else v3)) => ?_) (fun (hc1 : ¬ v4 < (if v2 < v3 then v2 else v3)) => ?_)
        · refine go_run mm_250 2 (pc' := 81) (ls' := [some (.ref 140), some (.int v1), some (.int v2), some (.int v3), some (.int v4), some (.int (if v2 < v3 then v2 else v3)), some (.int (if v2 < v3 then v3 else v2))]) (st' := [.int (if v2 < v3 then v2 else v3), .int ((3 * v1) + 1), .ref 157]) (S' := (wI S 157 (Int32.toNatClampNeg (3 * v1)) (if v4 < (if v2 < v3 then v2 else v3) then v4 else (if v2 < v3 then v2 else v3)))) rfl ?_
          have e : ((if v4 < (if v2 < v3 then v2 else v3) then (if v2 < v3 then v2 else v3) else (if v4 < (if v2 < v3 then v3 else v2) then v4 else (if v2 < v3 then v3 else v2))) : Int32) = (if v2 < v3 then v2 else v3) := by simp [b2i, hc1]
          rw [e] at j3
          exact j3
        · refine go_run mm_250 2 (pc' := 71) (ls' := [some (.ref 140), some (.int v1), some (.int v2), some (.int v3), some (.int v4), some (.int (if v2 < v3 then v2 else v3)), some (.int (if v2 < v3 then v3 else v2))]) (st' := [.int (if v2 < v3 then v3 else v2), .int v4, .int ((3 * v1) + 1), .ref 157]) (S' := (wI S 157 (Int32.toNatClampNeg (3 * v1)) (if v4 < (if v2 < v3 then v2 else v3) then v4 else (if v2 < v3 then v2 else v3)))) rfl ?_
          have j1 : Go XM d 250 c 81 [some (.ref 140), some (.int v1), some (.int v2), some (.int v3), some (.int v4), some (.int (if v2 < v3 then v2 else v3)), some (.int (if v2 < v3 then v3 else v2))] [.int (if v4 < (if v2 < v3 then v3 else v2) then v4 else (if v2 < v3 then v3 else v2)), .int ((3 * v1) + 1), .ref 157] (wI S 157 (Int32.toNatClampNeg (3 * v1)) (if v4 < (if v2 < v3 then v2 else v3) then v4 else (if v2 < v3 then v2 else v3))) R := by
            have e : ((if v4 < (if v2 < v3 then v2 else v3) then (if v2 < v3 then v2 else v3) else (if v4 < (if v2 < v3 then v3 else v2) then v4 else (if v2 < v3 then v3 else v2))) : Int32) = (if v4 < (if v2 < v3 then v3 else v2) then v4 else (if v2 < v3 then v3 else v2)) := by simp [b2i, hc1]
            rw [e] at j3
            exact j3
          refine go_if2 mm_250 rfl (p1 := 74) (p2 := 79) rfl (fun (hc2 : v4 < (if v2 < v3 then v3 else v2)) => ?_) (fun (hc2 : ¬ v4 < (if v2 < v3 then v3 else v2)) => ?_)
          · refine go_run mm_250 2 (pc' := 81) (ls' := [some (.ref 140), some (.int v1), some (.int v2), some (.int v3), some (.int v4), some (.int (if v2 < v3 then v2 else v3)), some (.int (if v2 < v3 then v3 else v2))]) (st' := [.int v4, .int ((3 * v1) + 1), .ref 157]) (S' := (wI S 157 (Int32.toNatClampNeg (3 * v1)) (if v4 < (if v2 < v3 then v2 else v3) then v4 else (if v2 < v3 then v2 else v3)))) rfl ?_
            have e : ((if v4 < (if v2 < v3 then v3 else v2) then v4 else (if v2 < v3 then v3 else v2)) : Int32) = v4 := by simp [b2i, hc2]
            rw [e] at j1
            exact j1
          · refine go_run mm_250 1 (pc' := 81) (ls' := [some (.ref 140), some (.int v1), some (.int v2), some (.int v3), some (.int v4), some (.int (if v2 < v3 then v2 else v3)), some (.int (if v2 < v3 then v3 else v2))]) (st' := [.int (if v2 < v3 then v3 else v2), .int ((3 * v1) + 1), .ref 157]) (S' := (wI S 157 (Int32.toNatClampNeg (3 * v1)) (if v4 < (if v2 < v3 then v2 else v3) then v4 else (if v2 < v3 then v2 else v3)))) rfl ?_
            have e : ((if v4 < (if v2 < v3 then v3 else v2) then v4 else (if v2 < v3 then v3 else v2)) : Int32) = (if v2 < v3 then v3 else v2) := by simp [b2i, hc2]
            rw [e] at j1
            exact j1
      refine go_if2 mm_250 rfl (p1 := 38) (p2 := 43) rfl (fun (hc1 : v4 < (if v2 < v3 then v2 else v3)) => ?_) (fun (hc1 : ¬ v4 < (if v2 < v3 then v2 else v3)) => ?_)
      · refine go_run mm_250 2 (pc' := 45) (ls' := [some (.ref 140), some (.int v1), some (.int v2), some (.int v3), some (.int v4), some (.int (if v2 < v3 then v2 else v3)), some (.int (if v2 < v3 then v3 else v2))]) (st' := [.int v4, .int (3 * v1), .ref 157]) (S' := S) rfl ?_
        have e : ((if v4 < (if v2 < v3 then v2 else v3) then v4 else (if v2 < v3 then v2 else v3)) : Int32) = v4 := by simp [b2i, hc1]
        rw [e] at j4
        exact j4
      · refine go_run mm_250 1 (pc' := 45) (ls' := [some (.ref 140), some (.int v1), some (.int v2), some (.int v3), some (.int v4), some (.int (if v2 < v3 then v2 else v3)), some (.int (if v2 < v3 then v3 else v2))]) (st' := [.int (if v2 < v3 then v2 else v3), .int (3 * v1), .ref 157]) (S' := S) rfl ?_
        have e : ((if v4 < (if v2 < v3 then v2 else v3) then v4 else (if v2 < v3 then v2 else v3)) : Int32) = (if v2 < v3 then v2 else v3) := by simp [b2i, hc1]
        rw [e] at j4
        exact j4
    refine go_if2 mm_250 rfl (p1 := 17) (p2 := 21) rfl (fun (hc1 : v2 < v3) => ?_) (fun (hc1 : ¬ v2 < v3) => ?_)
    · refine go_run mm_250 2 (pc' := 22) (ls' := [some (.ref 140), some (.int v1), some (.int v2), some (.int v3), some (.int v4), some (.int (if v2 < v3 then v2 else v3)), none]) (st' := [.int v3]) (S' := S) rfl ?_
      have e : ((if v2 < v3 then v3 else v2) : Int32) = v3 := by simp [b2i, hc1]
      rw [e] at j5
      exact j5
    · refine go_run mm_250 1 (pc' := 22) (ls' := [some (.ref 140), some (.int v1), some (.int v2), some (.int v3), some (.int v4), some (.int (if v2 < v3 then v2 else v3)), none]) (st' := [.int v2]) (S' := S) rfl ?_
      have e : ((if v2 < v3 then v3 else v2) : Int32) = v2 := by simp [b2i, hc1]
      rw [e] at j5
      exact j5
  refine go_if2 mm_250 rfl (p1 := 5) (p2 := 9) rfl (fun (hc1 : v2 < v3) => ?_) (fun (hc1 : ¬ v2 < v3) => ?_)
  · refine go_run mm_250 2 (pc' := 10) (ls' := [some (.ref 140), some (.int v1), some (.int v2), some (.int v3), some (.int v4), none, none]) (st' := [.int v2]) (S' := S) rfl ?_
    have e : ((if v2 < v3 then v2 else v3) : Int32) = v2 := by simp [b2i, hc1]
    rw [e] at j6
    exact j6
  · refine go_run mm_250 1 (pc' := 10) (ls' := [some (.ref 140), some (.int v1), some (.int v2), some (.int v3), some (.int v4), none, none]) (st' := [.int v3]) (S' := S) rfl ?_
    have e : ((if v2 < v3 then v2 else v3) : Int32) = v3 := by simp [b2i, hc1]
    rw [e] at j6
    exact j6
theorem sp_250 {d : Nat} {S : ST} {v1 : Int32} {v2 : Int32} {v3 : Int32} {v4 : Int32} (o1 : inB (3 * v1) 30) (o2 : inB ((3 * v1) + 1) 30) (o3 : inB ((3 * v1) + 2) 30) : Cal XM d 250 [.ref 140, .int v1, .int v2, .int v3, .int v4] S (RV none (g_250 S v1 v2 v3 v4)) := by
  refine cal_go 2 rfl (b_250_0 o1 o2 o3 ?_)
  · exact ⟨rfl, rfl, rfl⟩
theorem mm_249 : mtG 249 = some (mi_249, 12, ft_249) := rfl
set_option maxRecDepth 20000 in
theorem b_249_0 {d c : Nat} {R : RT} {S : ST} {v1 : Int32} {v2 : Int32} (o1 : ¬ v2 = 0) (o2 : inB (((v1 + v2) - 1) - ((v1 + v2) - 1) / v2 * v2) 12) (o3 : inB v1 12) (o4 : inB ((v1 + 1) - (v1 + 1) / v2 * v2) 12) (o5 : RI S 141 (ra S 156 (((v1 + v2) - 1) - ((v1 + v2) - 1) / v2 * v2))) (o6 : RI S 141 (ra S 156 v1)) (o7 : RI S 141 (ra S 156 ((v1 + 1) - (v1 + 1) / v2 * v2))) (e1 : (0 : Int32) < (f_235 S (ra S 156 (((v1 + v2) - 1) - ((v1 + v2) - 1) / v2 * v2)) (ra S 156 v1) (ra S 156 ((v1 + 1) - (v1 + 1) / v2 * v2))) → Go XM (d + 3) 249 c 50 [some (.ref 140), some (.int v1), some (.int v2), some (.int (ra S 156 (((v1 + v2) - 1) - ((v1 + v2) - 1) / v2 * v2))), some (.int (ra S 156 v1)), some (.int (ra S 156 ((v1 + 1) - (v1 + 1) / v2 * v2))), some (.int 0), none] [] S R) (e2 : ¬ (0 : Int32) < (f_235 S (ra S 156 (((v1 + v2) - 1) - ((v1 + v2) - 1) / v2 * v2)) (ra S 156 v1) (ra S 156 ((v1 + 1) - (v1 + 1) / v2 * v2))) → R c (.inr (some (.int 0))) S) : Go XM (d + 3) 249 c 0 [some (.ref 140), some (.int v1), some (.int v2), none, none, none, none, none] [] S R := by
  refine go_run mm_249 8 (pc' := 10) (ls' := [some (.ref 140), some (.int v1), some (.int v2), none, none, none, none, none]) (st' := [.int v2, .int ((v1 + v2) - 1), .ref 156]) (S' := S) rfl ?_
  refine go_irem mm_249 rfl (o1) ?_
  refine go_iaload mm_249 (q := (Int32.toNatClampNeg (((v1 + v2) - 1) - ((v1 + v2) - 1) / v2 * v2))) rfl rfl rfl (o2) ?_
  refine go_run mm_249 4 (pc' := 18) (ls' := [some (.ref 140), some (.int v1), some (.int v2), some (.int (ra S 156 (((v1 + v2) - 1) - ((v1 + v2) - 1) / v2 * v2))), none, none, none, none]) (st' := [.int v1, .ref 156]) (S' := S) rfl ?_
  refine go_iaload mm_249 (q := (Int32.toNatClampNeg v1)) rfl rfl rfl (o3) ?_
  refine go_run mm_249 7 (pc' := 29) (ls' := [some (.ref 140), some (.int v1), some (.int v2), some (.int (ra S 156 (((v1 + v2) - 1) - ((v1 + v2) - 1) / v2 * v2))), some (.int (ra S 156 v1)), none, none, none]) (st' := [.int v2, .int (v1 + 1), .ref 156]) (S' := S) rfl ?_
  refine go_irem mm_249 rfl (o1) ?_
  refine go_iaload mm_249 (q := (Int32.toNatClampNeg ((v1 + 1) - (v1 + 1) / v2 * v2))) rfl rfl rfl (o4) ?_
  refine go_run mm_249 5 (pc' := 39) (ls' := [some (.ref 140), some (.int v1), some (.int v2), some (.int (ra S 156 (((v1 + v2) - 1) - ((v1 + v2) - 1) / v2 * v2))), some (.int (ra S 156 v1)), some (.int (ra S 156 ((v1 + 1) - (v1 + 1) / v2 * v2))), none, none]) (st' := [.int (ra S 156 ((v1 + 1) - (v1 + 1) / v2 * v2)), .int (ra S 156 v1), .int (ra S 156 (((v1 + v2) - 1) - ((v1 + v2) - 1) / v2 * v2)), .ref 140]) (S' := S) rfl ?_
  refine go_cv mm_249 (h := 140) (As := [.int (ra S 156 (((v1 + v2) - 1) - ((v1 + v2) - 1) / v2 * v2)), .int (ra S 156 v1), .int (ra S 156 ((v1 + 1) - (v1 + 1) / v2 * v2))]) (rest := []) (nl := 5) rfl XM_140 (show cvOK 249 39 263 235 3 5 11 = true by decide +kernel) rfl rfl rfl (sq_235 (o5) (o6) (o7)) (KP_V ?_)
  refine go_if0 mm_249 rfl (p1 := 47) (p2 := 45) rfl (fun (hc1 : (0 : Int32) < (f_235 S (ra S 156 (((v1 + v2) - 1) - ((v1 + v2) - 1) / v2 * v2)) (ra S 156 v1) (ra S 156 ((v1 + 1) - (v1 + 1) / v2 * v2)))) => ?_) (fun (hc1 : ¬ (0 : Int32) < (f_235 S (ra S 156 (((v1 + v2) - 1) - ((v1 + v2) - 1) / v2 * v2)) (ra S 156 v1) (ra S 156 ((v1 + 1) - (v1 + 1) / v2 * v2)))) => ?_)
  · refine go_run mm_249 2 (pc' := 50) (ls' := [some (.ref 140), some (.int v1), some (.int v2), some (.int (ra S 156 (((v1 + v2) - 1) - ((v1 + v2) - 1) / v2 * v2))), some (.int (ra S 156 v1)), some (.int (ra S 156 ((v1 + 1) - (v1 + 1) / v2 * v2))), some (.int 0), none]) (st' := []) (S' := S) rfl ?_
    exact e1 hc1
  · refine go_run mm_249 1 (pc' := 46) (ls' := [some (.ref 140), some (.int v1), some (.int v2), some (.int (ra S 156 (((v1 + v2) - 1) - ((v1 + v2) - 1) / v2 * v2))), some (.int (ra S 156 v1)), some (.int (ra S 156 ((v1 + 1) - (v1 + 1) / v2 * v2))), none, none]) (st' := [.int 0]) (S' := S) rfl ?_
    exact go_zreturn mm_249 rfl rfl (Or.inl rfl) (e2 hc1)
set_option maxRecDepth 20000 in
theorem b_249_50 {d c : Nat} {R : RT} {S : ST} {v1 : Int32} {v2 : Int32} {v3 : Int32} {v4 : Int32} {v5 : Int32} {v6 : Int32} (o1 : v6 < v2 → inB v6 12) (o2 : v6 < v2 → ¬ (ra S 156 v6) = v3 → ¬ (ra S 156 v6) = v4 → ¬ (ra S 156 v6) = v5 → RI S 141 v3) (o3 : v6 < v2 → ¬ (ra S 156 v6) = v3 → ¬ (ra S 156 v6) = v4 → ¬ (ra S 156 v6) = v5 → RI S 141 v4) (o4 : v6 < v2 → ¬ (ra S 156 v6) = v3 → ¬ (ra S 156 v6) = v4 → ¬ (ra S 156 v6) = v5 → RI S 141 (ra S 156 v6)) (o5 : v6 < v2 → ¬ (ra S 156 v6) = v3 → ¬ (ra S 156 v6) = v4 → ¬ (ra S 156 v6) = v5 → ¬ (f_235 S v3 v4 (ra S 156 v6)) < 0 → RI S 141 v4) (o6 : v6 < v2 → ¬ (ra S 156 v6) = v3 → ¬ (ra S 156 v6) = v4 → ¬ (ra S 156 v6) = v5 → ¬ (f_235 S v3 v4 (ra S 156 v6)) < 0 → RI S 141 v5) (o7 : v6 < v2 → ¬ (ra S 156 v6) = v3 → ¬ (ra S 156 v6) = v4 → ¬ (ra S 156 v6) = v5 → ¬ (f_235 S v3 v4 (ra S 156 v6)) < 0 → RI S 141 (ra S 156 v6)) (o8 : v6 < v2 → ¬ (ra S 156 v6) = v3 → ¬ (ra S 156 v6) = v4 → ¬ (ra S 156 v6) = v5 → ¬ (f_235 S v3 v4 (ra S 156 v6)) < 0 → ¬ (f_235 S v4 v5 (ra S 156 v6)) < 0 → RI S 141 v5) (o9 : v6 < v2 → ¬ (ra S 156 v6) = v3 → ¬ (ra S 156 v6) = v4 → ¬ (ra S 156 v6) = v5 → ¬ (f_235 S v3 v4 (ra S 156 v6)) < 0 → ¬ (f_235 S v4 v5 (ra S 156 v6)) < 0 → RI S 141 v3) (o10 : v6 < v2 → ¬ (ra S 156 v6) = v3 → ¬ (ra S 156 v6) = v4 → ¬ (ra S 156 v6) = v5 → ¬ (f_235 S v3 v4 (ra S 156 v6)) < 0 → ¬ (f_235 S v4 v5 (ra S 156 v6)) < 0 → RI S 141 (ra S 156 v6)) (e1 : v6 < v2 → (ra S 156 v6) = v3 → Go XM (d + 3) 249 c 50 [some (.ref 140), some (.int v1), some (.int v2), some (.int v3), some (.int v4), some (.int v5), some (.int (v6 + 1)), some (.int (ra S 156 v6))] [] S R) (e2 : v6 < v2 → ¬ (ra S 156 v6) = v3 → (ra S 156 v6) = v4 → Go XM (d + 3) 249 c 50 [some (.ref 140), some (.int v1), some (.int v2), some (.int v3), some (.int v4), some (.int v5), some (.int (v6 + 1)), some (.int (ra S 156 v6))] [] S R) (e3 : v6 < v2 → ¬ (ra S 156 v6) = v3 → ¬ (ra S 156 v6) = v4 → (ra S 156 v6) = v5 → Go XM (d + 3) 249 c 50 [some (.ref 140), some (.int v1), some (.int v2), some (.int v3), some (.int v4), some (.int v5), some (.int (v6 + 1)), some (.int (ra S 156 v6))] [] S R) (e4 : v6 < v2 → ¬ (ra S 156 v6) = v3 → ¬ (ra S 156 v6) = v4 → ¬ (ra S 156 v6) = v5 → (f_235 S v3 v4 (ra S 156 v6)) < 0 → Go XM (d + 3) 249 c 50 [some (.ref 140), some (.int v1), some (.int v2), some (.int v3), some (.int v4), some (.int v5), some (.int (v6 + 1)), some (.int (ra S 156 v6))] [] S R) (e5 : v6 < v2 → ¬ (ra S 156 v6) = v3 → ¬ (ra S 156 v6) = v4 → ¬ (ra S 156 v6) = v5 → ¬ (f_235 S v3 v4 (ra S 156 v6)) < 0 → (f_235 S v4 v5 (ra S 156 v6)) < 0 → Go XM (d + 3) 249 c 50 [some (.ref 140), some (.int v1), some (.int v2), some (.int v3), some (.int v4), some (.int v5), some (.int (v6 + 1)), some (.int (ra S 156 v6))] [] S R) (e6 : v6 < v2 → ¬ (ra S 156 v6) = v3 → ¬ (ra S 156 v6) = v4 → ¬ (ra S 156 v6) = v5 → ¬ (f_235 S v3 v4 (ra S 156 v6)) < 0 → ¬ (f_235 S v4 v5 (ra S 156 v6)) < 0 → (f_235 S v5 v3 (ra S 156 v6)) < 0 → Go XM (d + 3) 249 c 50 [some (.ref 140), some (.int v1), some (.int v2), some (.int v3), some (.int v4), some (.int v5), some (.int (v6 + 1)), some (.int (ra S 156 v6))] [] S R) (e7 : v6 < v2 → ¬ (ra S 156 v6) = v3 → ¬ (ra S 156 v6) = v4 → ¬ (ra S 156 v6) = v5 → ¬ (f_235 S v3 v4 (ra S 156 v6)) < 0 → ¬ (f_235 S v4 v5 (ra S 156 v6)) < 0 → ¬ (f_235 S v5 v3 (ra S 156 v6)) < 0 → R c (.inr (some (.int 0))) S) (e8 : ¬ v6 < v2 → R c (.inr (some (.int 1))) S) : Go XM (d + 3) 249 c 50 [some (.ref 140), some (.int v1), some (.int v2), some (.int v3), some (.int v4), some (.int v5), some (.int v6), none] [] S R := by
  refine go_run mm_249 2 (pc' := 53) (ls' := [some (.ref 140), some (.int v1), some (.int v2), some (.int v3), some (.int v4), some (.int v5), some (.int v6), none]) (st' := [.int v2, .int v6]) (S' := S) rfl ?_
  refine go_if2 mm_249 rfl (p1 := 56) (p2 := 130) rfl (fun (hc1 : v6 < v2) => ?_) (fun (hc1 : ¬ v6 < v2) => ?_)
  · refine go_run mm_249 3 (pc' := 62) (ls' := [some (.ref 140), some (.int v1), some (.int v2), some (.int v3), some (.int v4), some (.int v5), some (.int v6), none]) (st' := [.int v6, .ref 156]) (S' := S) rfl ?_
    refine go_iaload mm_249 (q := (Int32.toNatClampNeg v6)) rfl rfl rfl (o1 hc1) ?_
    refine go_run mm_249 3 (pc' := 68) (ls' := [some (.ref 140), some (.int v1), some (.int v2), some (.int v3), some (.int v4), some (.int v5), some (.int v6), some (.int (ra S 156 v6))]) (st' := [.int v3, .int (ra S 156 v6)]) (S' := S) rfl ?_
    refine go_if2 mm_249 rfl (p1 := 124) (p2 := 71) rfl (fun (hc2 : (ra S 156 v6) = v3) => ?_) (fun (hc2 : ¬ (ra S 156 v6) = v3) => ?_)
    · refine go_run mm_249 2 (pc' := 50) (ls' := [some (.ref 140), some (.int v1), some (.int v2), some (.int v3), some (.int v4), some (.int v5), some (.int (v6 + 1)), some (.int (ra S 156 v6))]) (st' := []) (S' := S) rfl ?_
      exact e1 hc1 hc2
    · refine go_run mm_249 2 (pc' := 75) (ls' := [some (.ref 140), some (.int v1), some (.int v2), some (.int v3), some (.int v4), some (.int v5), some (.int v6), some (.int (ra S 156 v6))]) (st' := [.int v4, .int (ra S 156 v6)]) (S' := S) rfl ?_
      refine go_if2 mm_249 rfl (p1 := 124) (p2 := 78) rfl (fun (hc3 : (ra S 156 v6) = v4) => ?_) (fun (hc3 : ¬ (ra S 156 v6) = v4) => ?_)
      · refine go_run mm_249 2 (pc' := 50) (ls' := [some (.ref 140), some (.int v1), some (.int v2), some (.int v3), some (.int v4), some (.int v5), some (.int (v6 + 1)), some (.int (ra S 156 v6))]) (st' := []) (S' := S) rfl ?_
        exact e2 hc1 hc2 hc3
      · refine go_run mm_249 2 (pc' := 82) (ls' := [some (.ref 140), some (.int v1), some (.int v2), some (.int v3), some (.int v4), some (.int v5), some (.int v6), some (.int (ra S 156 v6))]) (st' := [.int v5, .int (ra S 156 v6)]) (S' := S) rfl ?_
        refine go_if2 mm_249 rfl (p1 := 124) (p2 := 85) rfl (fun (hc4 : (ra S 156 v6) = v5) => ?_) (fun (hc4 : ¬ (ra S 156 v6) = v5) => ?_)
        · refine go_run mm_249 2 (pc' := 50) (ls' := [some (.ref 140), some (.int v1), some (.int v2), some (.int v3), some (.int v4), some (.int v5), some (.int (v6 + 1)), some (.int (ra S 156 v6))]) (st' := []) (S' := S) rfl ?_
          exact e3 hc1 hc2 hc3 hc4
        · refine go_run mm_249 4 (pc' := 91) (ls' := [some (.ref 140), some (.int v1), some (.int v2), some (.int v3), some (.int v4), some (.int v5), some (.int v6), some (.int (ra S 156 v6))]) (st' := [.int (ra S 156 v6), .int v4, .int v3, .ref 140]) (S' := S) rfl ?_
          refine go_cv mm_249 (h := 140) (As := [.int v3, .int v4, .int (ra S 156 v6)]) (rest := []) (nl := 5) rfl XM_140 (show cvOK 249 91 263 235 3 5 11 = true by decide +kernel) rfl rfl rfl (sq_235 (o2 hc1 hc2 hc3 hc4) (o3 hc1 hc2 hc3 hc4) (o4 hc1 hc2 hc3 hc4)) (KP_V ?_)
          refine go_if0 mm_249 rfl (p1 := 124) (p2 := 97) rfl (fun (hc5 : (f_235 S v3 v4 (ra S 156 v6)) < 0) => ?_) (fun (hc5 : ¬ (f_235 S v3 v4 (ra S 156 v6)) < 0) => ?_)
          · refine go_run mm_249 2 (pc' := 50) (ls' := [some (.ref 140), some (.int v1), some (.int v2), some (.int v3), some (.int v4), some (.int v5), some (.int (v6 + 1)), some (.int (ra S 156 v6))]) (st' := []) (S' := S) rfl ?_
            exact e4 hc1 hc2 hc3 hc4 hc5
          · refine go_run mm_249 4 (pc' := 104) (ls' := [some (.ref 140), some (.int v1), some (.int v2), some (.int v3), some (.int v4), some (.int v5), some (.int v6), some (.int (ra S 156 v6))]) (st' := [.int (ra S 156 v6), .int v5, .int v4, .ref 140]) (S' := S) rfl ?_
            refine go_cv mm_249 (h := 140) (As := [.int v4, .int v5, .int (ra S 156 v6)]) (rest := []) (nl := 5) rfl XM_140 (show cvOK 249 104 263 235 3 5 11 = true by decide +kernel) rfl rfl rfl (sq_235 (o5 hc1 hc2 hc3 hc4 hc5) (o6 hc1 hc2 hc3 hc4 hc5) (o7 hc1 hc2 hc3 hc4 hc5)) (KP_V ?_)
            refine go_if0 mm_249 rfl (p1 := 124) (p2 := 110) rfl (fun (hc6 : (f_235 S v4 v5 (ra S 156 v6)) < 0) => ?_) (fun (hc6 : ¬ (f_235 S v4 v5 (ra S 156 v6)) < 0) => ?_)
            · refine go_run mm_249 2 (pc' := 50) (ls' := [some (.ref 140), some (.int v1), some (.int v2), some (.int v3), some (.int v4), some (.int v5), some (.int (v6 + 1)), some (.int (ra S 156 v6))]) (st' := []) (S' := S) rfl ?_
              exact e5 hc1 hc2 hc3 hc4 hc5 hc6
            · refine go_run mm_249 4 (pc' := 116) (ls' := [some (.ref 140), some (.int v1), some (.int v2), some (.int v3), some (.int v4), some (.int v5), some (.int v6), some (.int (ra S 156 v6))]) (st' := [.int (ra S 156 v6), .int v3, .int v5, .ref 140]) (S' := S) rfl ?_
              refine go_cv mm_249 (h := 140) (As := [.int v5, .int v3, .int (ra S 156 v6)]) (rest := []) (nl := 5) rfl XM_140 (show cvOK 249 116 263 235 3 5 11 = true by decide +kernel) rfl rfl rfl (sq_235 (o8 hc1 hc2 hc3 hc4 hc5 hc6) (o9 hc1 hc2 hc3 hc4 hc5 hc6) (o10 hc1 hc2 hc3 hc4 hc5 hc6)) (KP_V ?_)
              refine go_if0 mm_249 rfl (p1 := 124) (p2 := 122) rfl (fun (hc7 : (f_235 S v5 v3 (ra S 156 v6)) < 0) => ?_) (fun (hc7 : ¬ (f_235 S v5 v3 (ra S 156 v6)) < 0) => ?_)
              · refine go_run mm_249 2 (pc' := 50) (ls' := [some (.ref 140), some (.int v1), some (.int v2), some (.int v3), some (.int v4), some (.int v5), some (.int (v6 + 1)), some (.int (ra S 156 v6))]) (st' := []) (S' := S) rfl ?_
                exact e6 hc1 hc2 hc3 hc4 hc5 hc6 hc7
              · refine go_run mm_249 1 (pc' := 123) (ls' := [some (.ref 140), some (.int v1), some (.int v2), some (.int v3), some (.int v4), some (.int v5), some (.int v6), some (.int (ra S 156 v6))]) (st' := [.int 0]) (S' := S) rfl ?_
                exact go_zreturn mm_249 rfl rfl (Or.inl rfl) (e7 hc1 hc2 hc3 hc4 hc5 hc6 hc7)
  · refine go_run mm_249 1 (pc' := 131) (ls' := [some (.ref 140), some (.int v1), some (.int v2), some (.int v3), some (.int v4), some (.int v5), some (.int v6), none]) (st' := [.int 1]) (S' := S) rfl ?_
    exact go_zreturn mm_249 rfl rfl (Or.inr rfl) (e8 hc1)
theorem mm_251 : mtG 251 = some (mi_251, 12, ft_251) := rfl
set_option maxRecDepth 20000 in
theorem b_251_0 {d c : Nat} {R : RT} {S : ST} (e1 : Go XM (d + 4) 251 c 9 [some (.ref 140), some (.int (S.1 141 0)), some (.int 0), none, none] [] S R) : Go XM (d + 4) 251 c 0 [some (.ref 140), none, none, none, none] [] S R := by
  refine go_run mm_251 3 (pc' := 5) (ls' := [some (.ref 140), none, none, none, none]) (st' := [.int 0, .ref 141]) (S' := S) rfl ?_
  refine go_iaload mm_251 (q := 0) rfl rfl rfl (inB_lit rfl) ?_
  refine go_run mm_251 3 (pc' := 9) (ls' := [some (.ref 140), some (.int (S.1 141 0)), some (.int 0), none, none]) (st' := []) (S' := S) rfl ?_
  exact e1
set_option maxRecDepth 20000 in
theorem b_251_9 {d c : Nat} {R : RT} {S : ST} {v1 : Int32} {v2 : Int32} (o1 : v2 < v1 → inB v2 12) (e1 : v2 < v1 → Go XM (d + 4) 251 c 9 [some (.ref 140), some (.int v1), some (.int (v2 + 1)), none, none] [] (wI S 156 (Int32.toNatClampNeg v2) v2) R) (e2 : ¬ v2 < v1 → Go XM (d + 4) 251 c 29 [some (.ref 140), some (.int v1), some (.int 0), none, none] [] S R) : Go XM (d + 4) 251 c 9 [some (.ref 140), some (.int v1), some (.int v2), none, none] [] S R := by
  refine go_run mm_251 2 (pc' := 11) (ls' := [some (.ref 140), some (.int v1), some (.int v2), none, none]) (st' := [.int v1, .int v2]) (S' := S) rfl ?_
  refine go_if2 mm_251 rfl (p1 := 14) (p2 := 27) rfl (fun (hc1 : v2 < v1) => ?_) (fun (hc1 : ¬ v2 < v1) => ?_)
  · refine go_run mm_251 4 (pc' := 20) (ls' := [some (.ref 140), some (.int v1), some (.int v2), none, none]) (st' := [.int v2, .int v2, .ref 156]) (S' := S) rfl ?_
    refine go_iastore mm_251 (q := (Int32.toNatClampNeg v2)) rfl rfl rfl (o1 hc1) ?_
    refine go_run mm_251 2 (pc' := 9) (ls' := [some (.ref 140), some (.int v1), some (.int (v2 + 1)), none, none]) (st' := []) (S' := (wI S 156 (Int32.toNatClampNeg v2) v2)) rfl ?_
    exact e1 hc1
  · refine go_run mm_251 2 (pc' := 29) (ls' := [some (.ref 140), some (.int v1), some (.int 0), none, none]) (st' := []) (S' := S) rfl ?_
    exact e2 hc1
set_option maxRecDepth 20000 in
theorem b_251_29 {d c : Nat} {R : RT} {S : ST} {v1 : Int32} {v2 : Int32} (e1 : (3 : Int32) < v1 → Go XM (d + 4) 251 c 36 [some (.ref 140), some (.int v1), some (.int v2), some (.int 0), none] [] S R) (e2 : ¬ (3 : Int32) < v1 → Go XM (d + 4) 251 c 144 [some (.ref 140), some (.int v1), some (.int v2), none, none] [.int (S.1 156 2), .int (S.1 156 1), .int (S.1 156 0), .int v2, .ref 140] S R) : Go XM (d + 4) 251 c 29 [some (.ref 140), some (.int v1), some (.int v2), none, none] [] S R := by
  refine go_run mm_251 2 (pc' := 31) (ls' := [some (.ref 140), some (.int v1), some (.int v2), none, none]) (st' := [.int 3, .int v1]) (S' := S) rfl ?_
  refine go_if2 mm_251 rfl (p1 := 34) (p2 := 124) rfl (fun (hc1 : (3 : Int32) < v1) => ?_) (fun (hc1 : ¬ (3 : Int32) < v1) => ?_)
  · refine go_run mm_251 2 (pc' := 36) (ls' := [some (.ref 140), some (.int v1), some (.int v2), some (.int 0), none]) (st' := []) (S' := S) rfl ?_
    exact e1 hc1
  · refine go_run mm_251 5 (pc' := 131) (ls' := [some (.ref 140), some (.int v1), some (.int v2), none, none]) (st' := [.int 0, .ref 156, .int v2, .ref 140]) (S' := S) rfl ?_
    refine go_iaload mm_251 (q := 0) rfl rfl rfl (inB_lit rfl) ?_
    refine go_run mm_251 3 (pc' := 137) (ls' := [some (.ref 140), some (.int v1), some (.int v2), none, none]) (st' := [.int 1, .ref 156, .int (S.1 156 0), .int v2, .ref 140]) (S' := S) rfl ?_
    refine go_iaload mm_251 (q := 1) rfl rfl rfl (inB_lit rfl) ?_
    refine go_run mm_251 3 (pc' := 143) (ls' := [some (.ref 140), some (.int v1), some (.int v2), none, none]) (st' := [.int 2, .ref 156, .int (S.1 156 1), .int (S.1 156 0), .int v2, .ref 140]) (S' := S) rfl ?_
    refine go_iaload mm_251 (q := 2) rfl rfl rfl (inB_lit rfl) ?_
    exact e2 hc1
set_option maxRecDepth 20000 in
theorem b_251_36 {d c : Nat} {R : RT} {S : ST} {v1 : Int32} {v2 : Int32} {v3 : Int32} (e1 : Go XM (d + 4) 251 c 39 [some (.ref 140), some (.int v1), some (.int v2), some (.int v3), none] [.int v1, .int v3, .ref 140] S R) : Go XM (d + 4) 251 c 36 [some (.ref 140), some (.int v1), some (.int v2), some (.int v3), none] [] S R := by
  refine go_run mm_251 3 (pc' := 39) (ls' := [some (.ref 140), some (.int v1), some (.int v2), some (.int v3), none]) (st' := [.int v1, .int v3, .ref 140]) (S' := S) rfl ?_
  exact e1
set_option maxRecDepth 20000 in
theorem b_251_42 {d c : Nat} {R : RT} {S : ST} {v1 : Int32} {v2 : Int32} {v3 : Int32} {w0 : Bool} (o1 : w0 = true → ¬ v1 = 0) (o2 : w0 = true → inB (((v3 + v1) - 1) - ((v3 + v1) - 1) / v1 * v1) 12) (o3 : w0 = true → inB v3 12) (o4 : w0 = true → inB ((v3 + 1) - (v3 + 1) / v1 * v1) 12) (e1 : w0 = true → Go XM (d + 4) 251 c 81 [some (.ref 140), some (.int v1), some (.int v2), some (.int v3), none] [.int (ra S 156 ((v3 + 1) - (v3 + 1) / v1 * v1)), .int (ra S 156 v3), .int (ra S 156 (((v3 + v1) - 1) - ((v3 + v1) - 1) / v1 * v1)), .int v2, .ref 140] S R) (e2 : w0 = false → Go XM (d + 4) 251 c 36 [some (.ref 140), some (.int v1), some (.int v2), some (.int (v3 + 1)), none] [] S R) : Go XM (d + 4) 251 c 42 [some (.ref 140), some (.int v1), some (.int v2), some (.int v3), none] [.int (b2i w0)] S R := by
  refine go_ifb mm_251 rfl (p1 := 51) (p2 := 45) rfl (fun (hc1 : w0 = true) => ?_) (fun (hc1 : w0 = false) => ?_)
  · refine go_run mm_251 10 (pc' := 63) (ls' := [some (.ref 140), some (.int v1), some (.int v2), some (.int v3), none]) (st' := [.int v1, .int ((v3 + v1) - 1), .ref 156, .int v2, .ref 140]) (S' := S) rfl ?_
    refine go_irem mm_251 rfl (o1 hc1) ?_
    refine go_iaload mm_251 (q := (Int32.toNatClampNeg (((v3 + v1) - 1) - ((v3 + v1) - 1) / v1 * v1))) rfl rfl rfl (o2 hc1) ?_
    refine go_run mm_251 3 (pc' := 70) (ls' := [some (.ref 140), some (.int v1), some (.int v2), some (.int v3), none]) (st' := [.int v3, .ref 156, .int (ra S 156 (((v3 + v1) - 1) - ((v3 + v1) - 1) / v1 * v1)), .int v2, .ref 140]) (S' := S) rfl ?_
    refine go_iaload mm_251 (q := (Int32.toNatClampNeg v3)) rfl rfl rfl (o3 hc1) ?_
    refine go_run mm_251 6 (pc' := 79) (ls' := [some (.ref 140), some (.int v1), some (.int v2), some (.int v3), none]) (st' := [.int v1, .int (v3 + 1), .ref 156, .int (ra S 156 v3), .int (ra S 156 (((v3 + v1) - 1) - ((v3 + v1) - 1) / v1 * v1)), .int v2, .ref 140]) (S' := S) rfl ?_
    refine go_irem mm_251 rfl (o1 hc1) ?_
    refine go_iaload mm_251 (q := (Int32.toNatClampNeg ((v3 + 1) - (v3 + 1) / v1 * v1))) rfl rfl rfl (o4 hc1) ?_
    exact e1 hc1
  · refine go_run mm_251 2 (pc' := 36) (ls' := [some (.ref 140), some (.int v1), some (.int v2), some (.int (v3 + 1)), none]) (st' := []) (S' := S) rfl ?_
    exact e2 hc1
set_option maxRecDepth 20000 in
theorem b_251_84 {d c : Nat} {R : RT} {S : ST} {v1 : Int32} {v2 : Int32} {v3 : Int32} (e1 : Go XM (d + 4) 251 c 93 [some (.ref 140), some (.int (v1 + (-1))), some (.int (v2 + 1)), some (.int v3), some (.int v3)] [] S R) : Go XM (d + 4) 251 c 84 [some (.ref 140), some (.int v1), some (.int v2), some (.int v3), none] [] S R := by
  refine go_run mm_251 4 (pc' := 93) (ls' := [some (.ref 140), some (.int (v1 + (-1))), some (.int (v2 + 1)), some (.int v3), some (.int v3)]) (st' := []) (S' := S) rfl ?_
  exact e1
set_option maxRecDepth 20000 in
theorem b_251_93 {d c : Nat} {R : RT} {S : ST} {v1 : Int32} {v2 : Int32} {v3 : Int32} {v4 : Int32} (o1 : v4 < v1 → inB (v4 + 1) 12) (o2 : v4 < v1 → inB v4 12) (e1 : v4 < v1 → Go XM (d + 4) 251 c 93 [some (.ref 140), some (.int v1), some (.int v2), some (.int v3), some (.int (v4 + 1))] [] (wI S 156 (Int32.toNatClampNeg v4) (ra S 156 (v4 + 1))) R) (e2 : ¬ v4 < v1 → Go XM (d + 4) 251 c 29 [some (.ref 140), some (.int v1), some (.int v2), some (.int v3), some (.int v4)] [] S R) : Go XM (d + 4) 251 c 93 [some (.ref 140), some (.int v1), some (.int v2), some (.int v3), some (.int v4)] [] S R := by
  refine go_run mm_251 2 (pc' := 96) (ls' := [some (.ref 140), some (.int v1), some (.int v2), some (.int v3), some (.int v4)]) (st' := [.int v1, .int v4]) (S' := S) rfl ?_
  refine go_if2 mm_251 rfl (p1 := 99) (p2 := 121) rfl (fun (hc1 : v4 < v1) => ?_) (fun (hc1 : ¬ v4 < v1) => ?_)
  · refine go_run mm_251 8 (pc' := 113) (ls' := [some (.ref 140), some (.int v1), some (.int v2), some (.int v3), some (.int v4)]) (st' := [.int (v4 + 1), .ref 156, .int v4, .ref 156]) (S' := S) rfl ?_
    refine go_iaload mm_251 (q := (Int32.toNatClampNeg (v4 + 1))) rfl rfl rfl (o1 hc1) ?_
    refine go_iastore mm_251 (q := (Int32.toNatClampNeg v4)) rfl rfl rfl (o2 hc1) ?_
    refine go_run mm_251 2 (pc' := 93) (ls' := [some (.ref 140), some (.int v1), some (.int v2), some (.int v3), some (.int (v4 + 1))]) (st' := []) (S' := (wI S 156 (Int32.toNatClampNeg v4) (ra S 156 (v4 + 1)))) rfl ?_
    exact e1 hc1
  · refine go_run mm_251 1 (pc' := 29) (ls' := [some (.ref 140), some (.int v1), some (.int v2), some (.int v3), some (.int v4)]) (st' := []) (S' := S) rfl ?_
    exact e2 hc1
set_option maxRecDepth 20000 in
theorem b_251_147 {d c : Nat} {R : RT} {S : ST} {v1 : Int32} {v2 : Int32} (e1 : R c (.inr none) S) : Go XM (d + 4) 251 c 147 [some (.ref 140), some (.int v1), some (.int v2), none, none] [] S R := by
  exact go_vreturn mm_251 rfl rfl (e1)
theorem nJ_mod {a b : Nat} (ha : a < 1000000) (hb : b < 1000000) : nJ a - nJ a / nJ b * nJ b = nJ (a % b) := by
  have e : nJ a / nJ b = nJ (a / b) := (Int32.ofNat_div (by omega) (by omega)).symm
  have h := Nat.div_mul_le_self a b
  rw [e, nJ_mul, nJ_sub h]
  congr 1
  exact Nat.mod_eq_sub_div_mul.symm
theorem nJ_md1 {k n : Nat} (hk : k < 1000) (hn : 1 ≤ n) (hn2 : n < 1000) : ((nJ k + nJ n) - 1) - ((nJ k + nJ n) - 1) / nJ n * nJ n = nJ ((k + n - 1) % n) := by
  rw [nJ_add, show nJ (k + n) - 1 = nJ (k + n - 1) from nJ_sub (j := 1) (by omega), nJ_mod (by omega) (by omega)]
theorem nJ_md2 {k n : Nat} (hk : k < 1000) (hn2 : n < 1000) : (nJ k + 1) - (nJ k + 1) / nJ n * nJ n = nJ ((k + 1) % n) := by
  rw [nJ_succ, nJ_mod (by omega) (by omega)]
/-- the ring's first n places hold r -/
def Rg (S : ST) (n : Nat) (r : Nat → Nat) : Prop := ∀ o, o < n → S.1 156 o = nJ (r o) ∧ r o < rN S 141
section Tri
variable {d : Nat} {S : ST}
theorem sq_249 (hW : RW S 141) (hB : RB S 141) {n k : Nat} {r : Nat → Nat} (h3 : 3 ≤ n) (hn : n ≤ 12) (hk : k < n) (hr : Rg S n r) : Cal XM (d + 3) 249 [.ref 140, .int (nJ k), .int (nJ n)] S (RP (fun v S' => S' = S ∧ ∃ b : Bool, v = some (.int (b2i b)) ∧ (b = true ↔ EarAt (rP S 141) (sgA S) n r k))) := by
  have h12 := hW.2
  have ha : (k + n - 1) % n < n := Nat.mod_lt _ (by omega)
  have hc : (k + 1) % n < n := Nat.mod_lt _ (by omega)
  have eA : ra S 156 (((nJ k + nJ n) - 1) - ((nJ k + nJ n) - 1) / nJ n * nJ n) = nJ (r ((k + n - 1) % n)) := by rw [nJ_md1 (by omega) (by omega) (by omega), ra_n S 156 (by omega), (hr _ ha).1]
  have eB : ra S 156 (nJ k) = nJ (r k) := by rw [ra_n S 156 (by omega), (hr _ hk).1]
  have eC : ra S 156 ((nJ k + 1) - (nJ k + 1) / nJ n * nJ n) = nJ (r ((k + 1) % n)) := by rw [nJ_md2 (by omega) (by omega), ra_n S 156 (by omega), (hr _ hc).1]
  have bA := (hr _ ha).2
  have bB := (hr _ hk).2
  have bC := (hr _ hc).2
  have hI : ∀ {x}, x < rN S 141 → RI S 141 (nJ x) := fun {x} h => ⟨hW, x, rfl, h⟩
  have hT := turn_t hW hB (a := r ((k + n - 1) % n)) (b := r k) (c := r ((k + 1) % n)) (by omega) (by omega) (by omega)
  refine cal_go 5 rfl (b_249_0 (fun q => ?_) ?_ (nJ_inB (by omega) (by omega)) ?_ ?_ ?_ ?_ (fun h1 => ?_) (fun h1 => ?_))
  · have := (nJ_eq (j := 0) (by omega) (by omega)).mp q
    omega
  · rw [nJ_md1 (by omega) (by omega) (by omega)]; exact nJ_inB (by omega) (by omega)
  · rw [nJ_md2 (by omega) (by omega)]; exact nJ_inB (by omega) (by omega)
  · rw [eA]; exact hI bA
  · rw [eB]; exact hI bB
  · rw [eC]; exact hI bC
  · rw [eA, eB, eC] at h1 ⊢
    have hpos := hT.1.mp h1
    generalize hAA : r ((k + n - 1) % n) = A at *
    generalize hBB : r k = B at *
    generalize hCC : r ((k + 1) % n) = C at *
    have key : ∀ m o, o + m = n → (∀ j, j < o → r j ≠ A → r j ≠ B → r j ≠ C → ¬ (0 ≤ sgA S * ge_o (rP S 141 A) (rP S 141 B) (rP S 141 (r j)) ∧ 0 ≤ sgA S * ge_o (rP S 141 B) (rP S 141 C) (rP S 141 (r j)) ∧ 0 ≤ sgA S * ge_o (rP S 141 C) (rP S 141 A) (rP S 141 (r j)))) → Go XM (d + 3) 249 0 50 [some (.ref 140), some (.int (nJ k)), some (.int (nJ n)), some (.int (nJ A)), some (.int (nJ B)), some (.int (nJ C)), some (.int (nJ o)), none] [] S (RP (fun v S' => S' = S ∧ ∃ b : Bool, v = some (.int (b2i b)) ∧ (b = true ↔ EarAt (rP S 141) (sgA S) n r k))) := by
      intro m
      induction m with
      | zero =>
        intro o ho hj
        have hn' : ¬ nJ o < nJ n := by rw [nJ_lt (by omega) (by omega)]; omega
        refine b_249_50 (fun q => absurd q hn') (fun q => absurd q hn') (fun q => absurd q hn') (fun q => absurd q hn') (fun q => absurd q hn') (fun q => absurd q hn') (fun q => absurd q hn') (fun q => absurd q hn') (fun q => absurd q hn') (fun q => absurd q hn') (fun q => absurd q hn') (fun q => absurd q hn') (fun q => absurd q hn') (fun q => absurd q hn') (fun q => absurd q hn') (fun q => absurd q hn') (fun q => absurd q hn') (fun _ => ⟨rfl, _, rfl, rfl, true, rfl, ⟨fun _ => ?_, fun _ => rfl⟩⟩)
        unfold EarAt
        rw [hAA, hBB, hCC]
        exact ⟨hpos, fun j hj' => hj j (by omega)⟩
      | succ m ih =>
        intro o ho hj
        have hlt : nJ o < nJ n := by rw [nJ_lt (by omega) (by omega)]; omega
        have hro := hr o (by omega)
        have eV : ra S 156 (nJ o) = nJ (r o) := by rw [ra_n S 156 (by omega), hro.1]
        have t1 := turn_t hW hB (a := A) (b := B) (c := r o) (by omega) (by omega) (by omega)
        have t2 := turn_t hW hB (a := B) (b := C) (c := r o) (by omega) (by omega) (by omega)
        have t3 := turn_t hW hB (a := C) (b := A) (c := r o) (by omega) (by omega) (by omega)
        have nx : (¬ (r o ≠ A ∧ r o ≠ B ∧ r o ≠ C ∧ 0 ≤ sgA S * ge_o (rP S 141 A) (rP S 141 B) (rP S 141 (r o)) ∧ 0 ≤ sgA S * ge_o (rP S 141 B) (rP S 141 C) (rP S 141 (r o)) ∧ 0 ≤ sgA S * ge_o (rP S 141 C) (rP S 141 A) (rP S 141 (r o)))) → Go XM (d + 3) 249 0 50 [some (.ref 140), some (.int (nJ k)), some (.int (nJ n)), some (.int (nJ A)), some (.int (nJ B)), some (.int (nJ C)), some (.int (nJ o + 1)), some (.int (nJ (r o)))] [] S (RP (fun v S' => S' = S ∧ ∃ b : Bool, v = some (.int (b2i b)) ∧ (b = true ↔ EarAt (rP S 141) (sgA S) n r k))) := by
          intro hno
          rw [nJ_succ]
          refine Go.le (ih (o + 1) (by omega) (fun j hj1 n1 n2 n3 z => ?_)) (by repeat first | exact True.intro | refine And.intro rfl ?_)
          by_cases q : j = o
          · subst q; exact hno ⟨n1, n2, n3, z⟩
          · exact hj j (by omega) n1 n2 n3 z
        have iA := hI bA
        have iB := hI bB
        have iC := hI bC
        have iV : RI S 141 (ra S 156 (nJ o)) := by rw [eV]; exact hI hro.2
        refine b_249_50 (fun _ => nJ_inB (by omega) (by omega)) (fun _ _ _ _ => iA) (fun _ _ _ _ => iB) (fun _ _ _ _ => iV) (fun _ _ _ _ _ => iB) (fun _ _ _ _ _ => iC) (fun _ _ _ _ _ => iV) (fun _ _ _ _ _ _ => iC) (fun _ _ _ _ _ _ => iA) (fun _ _ _ _ _ _ => iV) (fun _ c1 => ?_) (fun _ _ c1 => ?_) (fun _ _ _ c1 => ?_) (fun _ _ _ _ c1 => ?_) (fun _ _ _ _ _ c1 => ?_) (fun _ _ _ _ _ _ c1 => ?_) (fun _ c1 c2 c3 c4 c5 c6 => ?_) (fun q => absurd hlt q)
        · rw [eV] at c1 ⊢
          have := (nJ_eq (by omega) (by omega)).mp c1
          exact nx (fun z => z.1 this)
        · rw [eV] at c1 ⊢
          have := (nJ_eq (by omega) (by omega)).mp c1
          exact nx (fun z => z.2.1 this)
        · rw [eV] at c1 ⊢
          have := (nJ_eq (by omega) (by omega)).mp c1
          exact nx (fun z => z.2.2.1 this)
        · rw [eV] at c1 ⊢
          have := t1.2.mp c1
          exact nx (fun z => by have := z.2.2.2.1; omega)
        · rw [eV] at c1 ⊢
          have := t2.2.mp c1
          exact nx (fun z => by have := z.2.2.2.2.1; omega)
        · rw [eV] at c1 ⊢
          have := t3.2.mp c1
          exact nx (fun z => by have := z.2.2.2.2.2; omega)
        · rw [eV] at c1 c2 c3 c4 c5 c6
          refine ⟨rfl, _, rfl, rfl, false, rfl, ⟨fun q => (by cases q), fun q => ?_⟩⟩
          unfold EarAt at q
          rw [hAA, hBB, hCC] at q
          exfalso
          refine q.2 o (by omega) (fun z => c1 (by rw [z])) (fun z => c2 (by rw [z])) (fun z => c3 (by rw [z])) ⟨?_, ?_, ?_⟩
          · exact Int.not_lt.mp (fun z => c4 (t1.2.mpr z))
          · exact Int.not_lt.mp (fun z => c5 (t2.2.mpr z))
          · exact Int.not_lt.mp (fun z => c6 (t3.2.mpr z))
    exact key n 0 (by omega) (fun j hj => by omega)
  · rw [eA, eB, eC] at h1
    exact ⟨rfl, _, rfl, rfl, false, rfl, ⟨fun q => (by cases q), fun q => absurd (hT.1.mpr q.1) h1⟩⟩
/-- the corners are the three, in order -/
theorem g250_t {a b c t : Nat} (ha : a < 12) (hb : b < 12) (hc : c < 12) (ht : t < 10) : Fm [157] [] S (g_250 S (nJ t) (nJ a) (nJ b) (nJ c)) ∧ (∀ j, j < 3 * t → (g_250 S (nJ t) (nJ a) (nJ b) (nJ c)).1 157 j = S.1 157 j) ∧ ∃ x y z, (g_250 S (nJ t) (nJ a) (nJ b) (nJ c)).1 157 (3 * t) = nJ x ∧ (g_250 S (nJ t) (nJ a) (nJ b) (nJ c)).1 157 (3 * t + 1) = nJ y ∧ (g_250 S (nJ t) (nJ a) (nJ b) (nJ c)).1 157 (3 * t + 2) = nJ z ∧ ((x = a ∧ y = b ∧ z = c) ∨ (x = a ∧ y = c ∧ z = b) ∨ (x = b ∧ y = a ∧ z = c) ∨ (x = b ∧ y = c ∧ z = a) ∨ (x = c ∧ y = a ∧ z = b) ∨ (x = c ∧ y = b ∧ z = a)) := by
  have e0 : Int32.toNatClampNeg (3 * nJ t) = 3 * t := by
    show Int32.toNatClampNeg (nJ 3 * nJ t) = _
    rw [nJ_mul, nJ_ix (by omega)]
  have e1 : Int32.toNatClampNeg ((3 * nJ t) + 1) = 3 * t + 1 := by
    show Int32.toNatClampNeg ((nJ 3 * nJ t) + nJ 1) = _
    rw [nJ_mul, nJ_add, nJ_ix (by omega)]
  have e2 : Int32.toNatClampNeg ((3 * nJ t) + 2) = 3 * t + 2 := by
    show Int32.toNatClampNeg ((nJ 3 * nJ t) + nJ 2) = _
    rw [nJ_mul, nJ_add, nJ_ix (by omega)]
  unfold g_250
  rw [e0, e1, e2]
  refine ⟨((Fm_a (by decide)).tr (Fm_a (by decide))).tr (Fm_a (by decide)), fun j hj => ?_, ?_⟩
  · have n0 : ¬ j = 3 * t := by omega
    have n1 : ¬ j = 3 * t + 1 := by omega
    have n2 : ¬ j = 3 * t + 2 := by omega
    simp [wI_1, n0, n1, n2]
  · have L : ∀ {i j : Nat}, i < 12 → j < 12 → (nJ i < nJ j ↔ i < j) := fun hi hj => nJ_lt (by omega) (by omega)
    have q1 : ¬ 3 * t + 1 = 3 * t + 2 := by omega
    have q2 : ¬ 3 * t = 3 * t + 2 := by omega
    have q3 : ¬ 3 * t = 3 * t + 1 := by omega
    by_cases h1 : a < b
    · have c1 : nJ a < nJ b := (L ha hb).mpr h1
      simp only [wI_1, c1, if_true, q1, q2, q3, and_false, and_self, if_false, true_and]
      by_cases h2 : c < a
      · have c2 : nJ c < nJ a := (L hc ha).mpr h2
        have c3 : ¬ nJ b < nJ c := fun z => by have := (L hb hc).mp z; omega
        exact ⟨c, a, b, by simp [c2], by simp [c2], by simp [c3], by simp⟩
      · have c2 : ¬ nJ c < nJ a := fun z => h2 ((L hc ha).mp z)
        by_cases h3 : c < b
        · have c3 : nJ c < nJ b := (L hc hb).mpr h3
          have c4 : ¬ nJ b < nJ c := fun z => by have := (L hb hc).mp z; omega
          exact ⟨a, c, b, by simp [c2], by simp [c2, c3], by simp [c4], by simp⟩
        · have c3 : ¬ nJ c < nJ b := fun z => h3 ((L hc hb).mp z)
          by_cases h4 : b < c
          · have c4 : nJ b < nJ c := (L hb hc).mpr h4
            exact ⟨a, b, c, by simp [c2], by simp [c2, c3], by simp [c4], by simp⟩
          · have c4 : ¬ nJ b < nJ c := fun z => h4 ((L hb hc).mp z)
            have : b = c := by omega
            exact ⟨a, b, c, by simp [c2], by simp [c2, c3], by simp [c4, this], by simp⟩
    · have c1 : ¬ nJ a < nJ b := fun z => h1 ((L ha hb).mp z)
      simp only [wI_1, c1, if_false, q1, q2, q3, and_false, and_self, if_true, true_and]
      by_cases h2 : c < b
      · have c2 : nJ c < nJ b := (L hc hb).mpr h2
        have c3 : ¬ nJ a < nJ c := fun z => by have := (L ha hc).mp z; omega
        exact ⟨c, b, a, by simp [c2], by simp [c2], by simp [c3], by simp⟩
      · have c2 : ¬ nJ c < nJ b := fun z => h2 ((L hc hb).mp z)
        by_cases h3 : c < a
        · have c3 : nJ c < nJ a := (L hc ha).mpr h3
          have c4 : ¬ nJ a < nJ c := fun z => by have := (L ha hc).mp z; omega
          exact ⟨b, c, a, by simp [c2], by simp [c2, c3], by simp [c4], by simp⟩
        · have c3 : ¬ nJ c < nJ a := fun z => h3 ((L hc ha).mp z)
          by_cases h4 : a < c
          · have c4 : nJ a < nJ c := (L ha hc).mpr h4
            exact ⟨b, a, c, by simp [c2], by simp [c2, c3], by simp [c4], by simp⟩
          · have c4 : ¬ nJ a < nJ c := fun z => h4 ((L ha hc).mp z)
            have : a = c := by omega
            exact ⟨b, a, c, by simp [c2], by simp [c2, c3], by simp [c4, this], by simp⟩
theorem sq_250 {a b c t : Nat} (ht : t < 10) : Cal XM d 250 [.ref 140, .int (nJ t), .int (nJ a), .int (nJ b), .int (nJ c)] S (RV none (g_250 S (nJ t) (nJ a) (nJ b) (nJ c))) := by
  refine sp_250 ?_ ?_ ?_
  · show inB (nJ 3 * nJ t) 30
    rw [nJ_mul]; exact nJ_inB (by omega) (by omega)
  · show inB (nJ 3 * nJ t + nJ 1) 30
    rw [nJ_mul, nJ_add]; exact nJ_inB (by omega) (by omega)
  · show inB (nJ 3 * nJ t + nJ 2) 30
    rw [nJ_mul, nJ_add]; exact nJ_inB (by omega) (by omega)
end Tri
