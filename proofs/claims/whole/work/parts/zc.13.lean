/-! methods as functions (printed by a program): 99 inTriangle, 98 isFreeOfOthers, 96 firstEar, 100 clip, 102 tint, 103 tintOf -/
theorem mm_99 : mtG 99 = some (mi_99, 9, ft_99) := rfl
def F_99 (v1 : Int32) (v2 : Int32) (v3 : Int32) (v4 : Int32) (S : ST) : Option Bool := ob (F_24 3 v2 v3 v1 S) (fun w1 => ob (F_24 3 v3 v4 v1 S) (fun w2 => ob (F_24 3 v4 v2 v1 S) (fun w3 => some (if w1 < 0 then (!(decide ((0 : Int32) < w1)) && (!(decide ((0 : Int32) < w2)) && (!(decide ((0 : Int32) < w3))))) else (if w2 < 0 then (!(decide ((0 : Int32) < w1)) && (!(decide ((0 : Int32) < w2)) && (!(decide ((0 : Int32) < w3))))) else (!(decide (w3 < 0)) || (!(decide ((0 : Int32) < w1)) && (!(decide ((0 : Int32) < w2)) && (!(decide ((0 : Int32) < w3)))))))))))
set_option maxRecDepth 20000 in
theorem S_99 {d : Nat} {S : ST} {v1 : Int32} {v2 : Int32} {v3 : Int32} {v4 : Int32} {r} (hr : F_99 v1 v2 v3 v4 S = some r) : Cal XC (d + 2) 99 [.ref 32, .int v1, .int v2, .int v3, .int v4] S (RV (vZ r) S) := by
  unfold F_99 at hr
  refine cal_go 3 rfl ?_
  refine go_run mm_99 5 (pc' := 7) (ls' := [some (.ref 32), some (.int v1), some (.int v2), some (.int v3), some (.int v4), none, none, none]) (st' := [.int v1, .int v3, .int v2, .ref 3]) (S' := S) rfl ?_
  obtain ⟨w1, hw1, hr⟩ := ob_some hr
  refine go_cs mm_99 (av := [.ref 3, .int v2, .int v3, .int v1]) (rest := []) (nl := 4) rfl (show csOK 99 7 46 24 4 4 = true by decide +kernel) rfl rfl rfl (S_24 (plB_ok rfl) hw1) (KP_V ?_)
  show Go XC (d + 2) 99 0 10 [some (.ref 32), some (.int v1), some (.int v2), some (.int v3), some (.int v4), none, none, none] [.int w1] S (RV (vZ r) S)
  refine go_run mm_99 6 (pc' := 20) (ls' := [some (.ref 32), some (.int v1), some (.int v2), some (.int v3), some (.int v4), some (.int w1), none, none]) (st' := [.int v1, .int v4, .int v3, .ref 3]) (S' := S) rfl ?_
  obtain ⟨w2, hw2, hr⟩ := ob_some hr
  refine go_cs mm_99 (av := [.ref 3, .int v3, .int v4, .int v1]) (rest := []) (nl := 4) rfl (show csOK 99 20 46 24 4 4 = true by decide +kernel) rfl rfl rfl (S_24 (plB_ok rfl) hw2) (KP_V ?_)
  show Go XC (d + 2) 99 0 23 [some (.ref 32), some (.int v1), some (.int v2), some (.int v3), some (.int v4), some (.int w1), none, none] [.int w2] S (RV (vZ r) S)
  refine go_run mm_99 6 (pc' := 33) (ls' := [some (.ref 32), some (.int v1), some (.int v2), some (.int v3), some (.int v4), some (.int w1), some (.int w2), none]) (st' := [.int v1, .int v2, .int v4, .ref 3]) (S' := S) rfl ?_
  obtain ⟨w3, hw3, hr⟩ := ob_some hr
  refine go_cs mm_99 (av := [.ref 3, .int v4, .int v2, .int v1]) (rest := []) (nl := 4) rfl (show csOK 99 33 46 24 4 4 = true by decide +kernel) rfl rfl rfl (S_24 (plB_ok rfl) hw3) (KP_V ?_)
  show Go XC (d + 2) 99 0 36 [some (.ref 32), some (.int v1), some (.int v2), some (.int v3), some (.int v4), some (.int w1), some (.int w2), none] [.int w3] S (RV (vZ r) S)
  refine go_run mm_99 2 (pc' := 40) (ls' := [some (.ref 32), some (.int v1), some (.int v2), some (.int v3), some (.int v4), some (.int w1), some (.int w2), some (.int w3)]) (st' := [.int w1]) (S' := S) rfl ?_
  have j24 : Go XC (d + 2) 99 0 73 [some (.ref 32), some (.int v1), some (.int v2), some (.int v3), some (.int v4), some (.int w1), some (.int w2), some (.int w3)] [.int (b2i (if w1 < 0 then (!(decide ((0 : Int32) < w1)) && (!(decide ((0 : Int32) < w2)) && (!(decide ((0 : Int32) < w3))))) else (if w2 < 0 then (!(decide ((0 : Int32) < w1)) && (!(decide ((0 : Int32) < w2)) && (!(decide ((0 : Int32) < w3))))) else (!(decide (w3 < 0)) || (!(decide ((0 : Int32) < w1)) && (!(decide ((0 : Int32) < w2)) && (!(decide ((0 : Int32) < w3)))))))))] S (RV (vZ r) S) := by
    cases hr
    exact go_zreturn mm_99 rfl rfl (b2i_01 _) ⟨rfl, rfl, rfl⟩
  refine go_if0 mm_99 rfl (p1 := 53) (p2 := 43) rfl (fun (hc1 : w1 < 0) => ?_) (fun (hc1 : ¬ w1 < 0) => ?_)
  · refine go_run mm_99 1 (pc' := 55) (ls' := [some (.ref 32), some (.int v1), some (.int v2), some (.int v3), some (.int v4), some (.int w1), some (.int w2), some (.int w3)]) (st' := [.int w1]) (S' := S) rfl ?_
    have j7 : Go XC (d + 2) 99 0 73 [some (.ref 32), some (.int v1), some (.int v2), some (.int v3), some (.int v4), some (.int w1), some (.int w2), some (.int w3)] [.int (b2i (!(decide ((0 : Int32) < w1)) && (!(decide ((0 : Int32) < w2)) && (!(decide ((0 : Int32) < w3))))))] S (RV (vZ r) S) := by
      have e : ((b2i (if w1 < 0 then (!(decide ((0 : Int32) < w1)) && (!(decide ((0 : Int32) < w2)) && (!(decide ((0 : Int32) < w3))))) else (if w2 < 0 then (!(decide ((0 : Int32) < w1)) && (!(decide ((0 : Int32) < w2)) && (!(decide ((0 : Int32) < w3))))) else (!(decide (w3 < 0)) || (!(decide ((0 : Int32) < w1)) && (!(decide ((0 : Int32) < w2)) && (!(decide ((0 : Int32) < w3))))))))) : Int32) = (b2i (!(decide ((0 : Int32) < w1)) && (!(decide ((0 : Int32) < w2)) && (!(decide ((0 : Int32) < w3)))))) := by simp [b2i, hc1]
      rw [e] at j24
      exact j24
    refine go_if0 mm_99 rfl (p1 := 72) (p2 := 58) rfl (fun (hc2 : (0 : Int32) < w1) => ?_) (fun (hc2 : ¬ (0 : Int32) < w1) => ?_)
    · refine go_run mm_99 1 (pc' := 73) (ls' := [some (.ref 32), some (.int v1), some (.int v2), some (.int v3), some (.int v4), some (.int w1), some (.int w2), some (.int w3)]) (st' := [.int 0]) (S' := S) rfl ?_
      have e : ((b2i (!(decide ((0 : Int32) < w1)) && (!(decide ((0 : Int32) < w2)) && (!(decide ((0 : Int32) < w3)))))) : Int32) = 0 := by simp [b2i, hc2]
      rw [e] at j7
      exact j7
    · refine go_run mm_99 1 (pc' := 60) (ls' := [some (.ref 32), some (.int v1), some (.int v2), some (.int v3), some (.int v4), some (.int w1), some (.int w2), some (.int w3)]) (st' := [.int w2]) (S' := S) rfl ?_
      have j6 : Go XC (d + 2) 99 0 73 [some (.ref 32), some (.int v1), some (.int v2), some (.int v3), some (.int v4), some (.int w1), some (.int w2), some (.int w3)] [.int (b2i (!(decide ((0 : Int32) < w2)) && (!(decide ((0 : Int32) < w3)))))] S (RV (vZ r) S) := by
        have e : ((b2i (!(decide ((0 : Int32) < w1)) && (!(decide ((0 : Int32) < w2)) && (!(decide ((0 : Int32) < w3)))))) : Int32) = (b2i (!(decide ((0 : Int32) < w2)) && (!(decide ((0 : Int32) < w3))))) := by simp [b2i, hc2]
        rw [e] at j7
        exact j7
      refine go_if0 mm_99 rfl (p1 := 72) (p2 := 63) rfl (fun (hc3 : (0 : Int32) < w2) => ?_) (fun (hc3 : ¬ (0 : Int32) < w2) => ?_)
      · refine go_run mm_99 1 (pc' := 73) (ls' := [some (.ref 32), some (.int v1), some (.int v2), some (.int v3), some (.int v4), some (.int w1), some (.int w2), some (.int w3)]) (st' := [.int 0]) (S' := S) rfl ?_
        have e : ((b2i (!(decide ((0 : Int32) < w2)) && (!(decide ((0 : Int32) < w3))))) : Int32) = 0 := by simp [b2i, hc3]
        rw [e] at j6
        exact j6
      · refine go_run mm_99 1 (pc' := 65) (ls' := [some (.ref 32), some (.int v1), some (.int v2), some (.int v3), some (.int v4), some (.int w1), some (.int w2), some (.int w3)]) (st' := [.int w3]) (S' := S) rfl ?_
        have j5 : Go XC (d + 2) 99 0 73 [some (.ref 32), some (.int v1), some (.int v2), some (.int v3), some (.int v4), some (.int w1), some (.int w2), some (.int w3)] [.int (b2i (!(decide ((0 : Int32) < w3))))] S (RV (vZ r) S) := by
          have e : ((b2i (!(decide ((0 : Int32) < w2)) && (!(decide ((0 : Int32) < w3))))) : Int32) = (b2i (!(decide ((0 : Int32) < w3)))) := by simp [b2i, hc3]
          rw [e] at j6
          exact j6
        refine go_if0 mm_99 rfl (p1 := 72) (p2 := 68) rfl (fun (hc4 : (0 : Int32) < w3) => ?_) (fun (hc4 : ¬ (0 : Int32) < w3) => ?_)
        · refine go_run mm_99 1 (pc' := 73) (ls' := [some (.ref 32), some (.int v1), some (.int v2), some (.int v3), some (.int v4), some (.int w1), some (.int w2), some (.int w3)]) (st' := [.int 0]) (S' := S) rfl ?_
          have e : ((b2i (!(decide ((0 : Int32) < w3)))) : Int32) = 0 := by simp [b2i, hc4]
          rw [e] at j5
          exact j5
        · refine go_run mm_99 2 (pc' := 73) (ls' := [some (.ref 32), some (.int v1), some (.int v2), some (.int v3), some (.int v4), some (.int w1), some (.int w2), some (.int w3)]) (st' := [.int 1]) (S' := S) rfl ?_
          have e : ((b2i (!(decide ((0 : Int32) < w3)))) : Int32) = 1 := by simp [b2i, hc4]
          rw [e] at j5
          exact j5
  · refine go_run mm_99 1 (pc' := 45) (ls' := [some (.ref 32), some (.int v1), some (.int v2), some (.int v3), some (.int v4), some (.int w1), some (.int w2), some (.int w3)]) (st' := [.int w2]) (S' := S) rfl ?_
    have j23 : Go XC (d + 2) 99 0 73 [some (.ref 32), some (.int v1), some (.int v2), some (.int v3), some (.int v4), some (.int w1), some (.int w2), some (.int w3)] [.int (b2i (if w2 < 0 then (!(decide ((0 : Int32) < w1)) && (!(decide ((0 : Int32) < w2)) && (!(decide ((0 : Int32) < w3))))) else (!(decide (w3 < 0)) || (!(decide ((0 : Int32) < w1)) && (!(decide ((0 : Int32) < w2)) && (!(decide ((0 : Int32) < w3))))))))] S (RV (vZ r) S) := by
      have e : ((b2i (if w1 < 0 then (!(decide ((0 : Int32) < w1)) && (!(decide ((0 : Int32) < w2)) && (!(decide ((0 : Int32) < w3))))) else (if w2 < 0 then (!(decide ((0 : Int32) < w1)) && (!(decide ((0 : Int32) < w2)) && (!(decide ((0 : Int32) < w3))))) else (!(decide (w3 < 0)) || (!(decide ((0 : Int32) < w1)) && (!(decide ((0 : Int32) < w2)) && (!(decide ((0 : Int32) < w3))))))))) : Int32) = (b2i (if w2 < 0 then (!(decide ((0 : Int32) < w1)) && (!(decide ((0 : Int32) < w2)) && (!(decide ((0 : Int32) < w3))))) else (!(decide (w3 < 0)) || (!(decide ((0 : Int32) < w1)) && (!(decide ((0 : Int32) < w2)) && (!(decide ((0 : Int32) < w3)))))))) := by simp [b2i, hc1]
      rw [e] at j24
      exact j24
    refine go_if0 mm_99 rfl (p1 := 53) (p2 := 48) rfl (fun (hc8 : w2 < 0) => ?_) (fun (hc8 : ¬ w2 < 0) => ?_)
    · refine go_run mm_99 1 (pc' := 55) (ls' := [some (.ref 32), some (.int v1), some (.int v2), some (.int v3), some (.int v4), some (.int w1), some (.int w2), some (.int w3)]) (st' := [.int w1]) (S' := S) rfl ?_
      have j14 : Go XC (d + 2) 99 0 73 [some (.ref 32), some (.int v1), some (.int v2), some (.int v3), some (.int v4), some (.int w1), some (.int w2), some (.int w3)] [.int (b2i (!(decide ((0 : Int32) < w1)) && (!(decide ((0 : Int32) < w2)) && (!(decide ((0 : Int32) < w3))))))] S (RV (vZ r) S) := by
        have e : ((b2i (if w2 < 0 then (!(decide ((0 : Int32) < w1)) && (!(decide ((0 : Int32) < w2)) && (!(decide ((0 : Int32) < w3))))) else (!(decide (w3 < 0)) || (!(decide ((0 : Int32) < w1)) && (!(decide ((0 : Int32) < w2)) && (!(decide ((0 : Int32) < w3)))))))) : Int32) = (b2i (!(decide ((0 : Int32) < w1)) && (!(decide ((0 : Int32) < w2)) && (!(decide ((0 : Int32) < w3)))))) := by simp [b2i, hc8]
        rw [e] at j23
        exact j23
      refine go_if0 mm_99 rfl (p1 := 72) (p2 := 58) rfl (fun (hc9 : (0 : Int32) < w1) => ?_) (fun (hc9 : ¬ (0 : Int32) < w1) => ?_)
      · refine go_run mm_99 1 (pc' := 73) (ls' := [some (.ref 32), some (.int v1), some (.int v2), some (.int v3), some (.int v4), some (.int w1), some (.int w2), some (.int w3)]) (st' := [.int 0]) (S' := S) rfl ?_
        have e : ((b2i (!(decide ((0 : Int32) < w1)) && (!(decide ((0 : Int32) < w2)) && (!(decide ((0 : Int32) < w3)))))) : Int32) = 0 := by simp [b2i, hc9]
        rw [e] at j14
        exact j14
      · refine go_run mm_99 1 (pc' := 60) (ls' := [some (.ref 32), some (.int v1), some (.int v2), some (.int v3), some (.int v4), some (.int w1), some (.int w2), some (.int w3)]) (st' := [.int w2]) (S' := S) rfl ?_
        have j13 : Go XC (d + 2) 99 0 73 [some (.ref 32), some (.int v1), some (.int v2), some (.int v3), some (.int v4), some (.int w1), some (.int w2), some (.int w3)] [.int (b2i (!(decide ((0 : Int32) < w2)) && (!(decide ((0 : Int32) < w3)))))] S (RV (vZ r) S) := by
          have e : ((b2i (!(decide ((0 : Int32) < w1)) && (!(decide ((0 : Int32) < w2)) && (!(decide ((0 : Int32) < w3)))))) : Int32) = (b2i (!(decide ((0 : Int32) < w2)) && (!(decide ((0 : Int32) < w3))))) := by simp [b2i, hc9]
          rw [e] at j14
          exact j14
        refine go_if0 mm_99 rfl (p1 := 72) (p2 := 63) rfl (fun (hc10 : (0 : Int32) < w2) => ?_) (fun (hc10 : ¬ (0 : Int32) < w2) => ?_)
        · refine go_run mm_99 1 (pc' := 73) (ls' := [some (.ref 32), some (.int v1), some (.int v2), some (.int v3), some (.int v4), some (.int w1), some (.int w2), some (.int w3)]) (st' := [.int 0]) (S' := S) rfl ?_
          have e : ((b2i (!(decide ((0 : Int32) < w2)) && (!(decide ((0 : Int32) < w3))))) : Int32) = 0 := by simp [b2i, hc10]
          rw [e] at j13
          exact j13
        · refine go_run mm_99 1 (pc' := 65) (ls' := [some (.ref 32), some (.int v1), some (.int v2), some (.int v3), some (.int v4), some (.int w1), some (.int w2), some (.int w3)]) (st' := [.int w3]) (S' := S) rfl ?_
          have j12 : Go XC (d + 2) 99 0 73 [some (.ref 32), some (.int v1), some (.int v2), some (.int v3), some (.int v4), some (.int w1), some (.int w2), some (.int w3)] [.int (b2i (!(decide ((0 : Int32) < w3))))] S (RV (vZ r) S) := by
            have e : ((b2i (!(decide ((0 : Int32) < w2)) && (!(decide ((0 : Int32) < w3))))) : Int32) = (b2i (!(decide ((0 : Int32) < w3)))) := by simp [b2i, hc10]
            rw [e] at j13
            exact j13
          refine go_if0 mm_99 rfl (p1 := 72) (p2 := 68) rfl (fun (hc11 : (0 : Int32) < w3) => ?_) (fun (hc11 : ¬ (0 : Int32) < w3) => ?_)
          · refine go_run mm_99 1 (pc' := 73) (ls' := [some (.ref 32), some (.int v1), some (.int v2), some (.int v3), some (.int v4), some (.int w1), some (.int w2), some (.int w3)]) (st' := [.int 0]) (S' := S) rfl ?_
            have e : ((b2i (!(decide ((0 : Int32) < w3)))) : Int32) = 0 := by simp [b2i, hc11]
            rw [e] at j12
            exact j12
          · refine go_run mm_99 2 (pc' := 73) (ls' := [some (.ref 32), some (.int v1), some (.int v2), some (.int v3), some (.int v4), some (.int w1), some (.int w2), some (.int w3)]) (st' := [.int 1]) (S' := S) rfl ?_
            have e : ((b2i (!(decide ((0 : Int32) < w3)))) : Int32) = 1 := by simp [b2i, hc11]
            rw [e] at j12
            exact j12
    · refine go_run mm_99 1 (pc' := 50) (ls' := [some (.ref 32), some (.int v1), some (.int v2), some (.int v3), some (.int v4), some (.int w1), some (.int w2), some (.int w3)]) (st' := [.int w3]) (S' := S) rfl ?_
      have j22 : Go XC (d + 2) 99 0 73 [some (.ref 32), some (.int v1), some (.int v2), some (.int v3), some (.int v4), some (.int w1), some (.int w2), some (.int w3)] [.int (b2i (!(decide (w3 < 0)) || (!(decide ((0 : Int32) < w1)) && (!(decide ((0 : Int32) < w2)) && (!(decide ((0 : Int32) < w3)))))))] S (RV (vZ r) S) := by
        have e : ((b2i (if w2 < 0 then (!(decide ((0 : Int32) < w1)) && (!(decide ((0 : Int32) < w2)) && (!(decide ((0 : Int32) < w3))))) else (!(decide (w3 < 0)) || (!(decide ((0 : Int32) < w1)) && (!(decide ((0 : Int32) < w2)) && (!(decide ((0 : Int32) < w3)))))))) : Int32) = (b2i (!(decide (w3 < 0)) || (!(decide ((0 : Int32) < w1)) && (!(decide ((0 : Int32) < w2)) && (!(decide ((0 : Int32) < w3))))))) := by simp [b2i, hc8]
        rw [e] at j23
        exact j23
      refine go_if0 mm_99 rfl (p1 := 53) (p2 := 68) rfl (fun (hc15 : w3 < 0) => ?_) (fun (hc15 : ¬ w3 < 0) => ?_)
      · refine go_run mm_99 1 (pc' := 55) (ls' := [some (.ref 32), some (.int v1), some (.int v2), some (.int v3), some (.int v4), some (.int w1), some (.int w2), some (.int w3)]) (st' := [.int w1]) (S' := S) rfl ?_
        have j21 : Go XC (d + 2) 99 0 73 [some (.ref 32), some (.int v1), some (.int v2), some (.int v3), some (.int v4), some (.int w1), some (.int w2), some (.int w3)] [.int (b2i (!(decide ((0 : Int32) < w1)) && (!(decide ((0 : Int32) < w2)) && (!(decide ((0 : Int32) < w3))))))] S (RV (vZ r) S) := by
          have e : ((b2i (!(decide (w3 < 0)) || (!(decide ((0 : Int32) < w1)) && (!(decide ((0 : Int32) < w2)) && (!(decide ((0 : Int32) < w3))))))) : Int32) = (b2i (!(decide ((0 : Int32) < w1)) && (!(decide ((0 : Int32) < w2)) && (!(decide ((0 : Int32) < w3)))))) := by simp [b2i, hc15]
          rw [e] at j22
          exact j22
        refine go_if0 mm_99 rfl (p1 := 72) (p2 := 58) rfl (fun (hc16 : (0 : Int32) < w1) => ?_) (fun (hc16 : ¬ (0 : Int32) < w1) => ?_)
        · refine go_run mm_99 1 (pc' := 73) (ls' := [some (.ref 32), some (.int v1), some (.int v2), some (.int v3), some (.int v4), some (.int w1), some (.int w2), some (.int w3)]) (st' := [.int 0]) (S' := S) rfl ?_
          have e : ((b2i (!(decide ((0 : Int32) < w1)) && (!(decide ((0 : Int32) < w2)) && (!(decide ((0 : Int32) < w3)))))) : Int32) = 0 := by simp [b2i, hc16]
          rw [e] at j21
          exact j21
        · refine go_run mm_99 1 (pc' := 60) (ls' := [some (.ref 32), some (.int v1), some (.int v2), some (.int v3), some (.int v4), some (.int w1), some (.int w2), some (.int w3)]) (st' := [.int w2]) (S' := S) rfl ?_
          have j20 : Go XC (d + 2) 99 0 73 [some (.ref 32), some (.int v1), some (.int v2), some (.int v3), some (.int v4), some (.int w1), some (.int w2), some (.int w3)] [.int (b2i (!(decide ((0 : Int32) < w2)) && (!(decide ((0 : Int32) < w3)))))] S (RV (vZ r) S) := by
            have e : ((b2i (!(decide ((0 : Int32) < w1)) && (!(decide ((0 : Int32) < w2)) && (!(decide ((0 : Int32) < w3)))))) : Int32) = (b2i (!(decide ((0 : Int32) < w2)) && (!(decide ((0 : Int32) < w3))))) := by simp [b2i, hc16]
            rw [e] at j21
            exact j21
          refine go_if0 mm_99 rfl (p1 := 72) (p2 := 63) rfl (fun (hc17 : (0 : Int32) < w2) => ?_) (fun (hc17 : ¬ (0 : Int32) < w2) => ?_)
          · refine go_run mm_99 1 (pc' := 73) (ls' := [some (.ref 32), some (.int v1), some (.int v2), some (.int v3), some (.int v4), some (.int w1), some (.int w2), some (.int w3)]) (st' := [.int 0]) (S' := S) rfl ?_
            have e : ((b2i (!(decide ((0 : Int32) < w2)) && (!(decide ((0 : Int32) < w3))))) : Int32) = 0 := by simp [b2i, hc17]
            rw [e] at j20
            exact j20
          · refine go_run mm_99 1 (pc' := 65) (ls' := [some (.ref 32), some (.int v1), some (.int v2), some (.int v3), some (.int v4), some (.int w1), some (.int w2), some (.int w3)]) (st' := [.int w3]) (S' := S) rfl ?_
            have j19 : Go XC (d + 2) 99 0 73 [some (.ref 32), some (.int v1), some (.int v2), some (.int v3), some (.int v4), some (.int w1), some (.int w2), some (.int w3)] [.int (b2i (!(decide ((0 : Int32) < w3))))] S (RV (vZ r) S) := by
              have e : ((b2i (!(decide ((0 : Int32) < w2)) && (!(decide ((0 : Int32) < w3))))) : Int32) = (b2i (!(decide ((0 : Int32) < w3)))) := by simp [b2i, hc17]
              rw [e] at j20
              exact j20
            refine go_if0 mm_99 rfl (p1 := 72) (p2 := 68) rfl (fun (hc18 : (0 : Int32) < w3) => ?_) (fun (hc18 : ¬ (0 : Int32) < w3) => ?_)
            · refine go_run mm_99 1 (pc' := 73) (ls' := [some (.ref 32), some (.int v1), some (.int v2), some (.int v3), some (.int v4), some (.int w1), some (.int w2), some (.int w3)]) (st' := [.int 0]) (S' := S) rfl ?_
              have e : ((b2i (!(decide ((0 : Int32) < w3)))) : Int32) = 0 := by simp [b2i, hc18]
              rw [e] at j19
              exact j19
            · refine go_run mm_99 2 (pc' := 73) (ls' := [some (.ref 32), some (.int v1), some (.int v2), some (.int v3), some (.int v4), some (.int w1), some (.int w2), some (.int w3)]) (st' := [.int 1]) (S' := S) rfl ?_
              have e : ((b2i (!(decide ((0 : Int32) < w3)))) : Int32) = 1 := by simp [b2i, hc18]
              rw [e] at j19
              exact j19
      · refine go_run mm_99 2 (pc' := 73) (ls' := [some (.ref 32), some (.int v1), some (.int v2), some (.int v3), some (.int v4), some (.int w1), some (.int w2), some (.int w3)]) (st' := [.int 1]) (S' := S) rfl ?_
        have e : ((b2i (!(decide (w3 < 0)) || (!(decide ((0 : Int32) < w1)) && (!(decide ((0 : Int32) < w2)) && (!(decide ((0 : Int32) < w3))))))) : Int32) = 1 := by simp [b2i, hc15]
        rw [e] at j22
        exact j22

theorem mm_98 : mtG 98 = some (mi_98, 9, ft_98) := rfl
def L_98_26 (v1 : Int32) (p26_2 : Int32) (p26_3 : Int32) (p26_4 : Int32) (S : ST) (a26 : Int32) : Option ((Int32) ⊕ ((Int32) ⊕ Bool)) := if a26 < (S.1 32 7) then (ob (F_97 a26 S) (fun w4 => if w4 = p26_2 then (some (.inl (a26 + 1))) else (if w4 = p26_3 then (some (.inl (a26 + 1))) else (if w4 = p26_4 then (some (.inl (a26 + 1))) else (ob (F_99 w4 p26_2 p26_3 p26_4 S) (fun w5 => if w5 = true then (some (.inr (.inr false))) else (some (.inl (a26 + 1))))))))) else (some (.inr (.inl (a26))))
set_option maxRecDepth 20000 in
theorem LS_98_26 {d : Nat} {R : RT} {S : ST} {v1 : Int32} {p26_2 : Int32} {p26_3 : Int32} {p26_4 : Int32} {a26 : Int32} {r9} (hr : L_98_26 v1 p26_2 p26_3 p26_4 S a26 = some r9) (hL : ∀ a9, r9 = .inl a9 → (fun a26 => Go XC (d + 3) 98 0 26 [some (.ref 32), some (.int v1), some (.int p26_2), some (.int p26_3), some (.int p26_4), some (.int a26), none] [] S R) a9) (hR : ∀ b9, r9 = .inr b9 → Sum.elim (fun e26 => Go XC (d + 3) 98 0 83 [some (.ref 32), some (.int v1), some (.int p26_2), some (.int p26_3), some (.int p26_4), some (.int e26), none] [] S R) (fun o => R 0 (.inr (vZ o)) S) b9) : Go XC (d + 3) 98 0 26 [some (.ref 32), some (.int v1), some (.int p26_2), some (.int p26_3), some (.int p26_4), some (.int a26), none] [] S R := by
  unfold L_98_26 at hr
  refine go_run mm_98 3 (pc' := 32) (ls' := [some (.ref 32), some (.int v1), some (.int p26_2), some (.int p26_3), some (.int p26_4), some (.int a26), none]) (st' := [.int (S.1 32 7), .int a26]) (S' := S) rfl ?_
  refine go_if2 mm_98 rfl (p1 := 35) (p2 := 83) rfl (fun (hc1 : a26 < (S.1 32 7)) => ?_) (fun (hc1 : ¬ a26 < (S.1 32 7)) => ?_)
  · rw [if_pos hc1] at hr
    refine go_run mm_98 2 (pc' := 38) (ls' := [some (.ref 32), some (.int v1), some (.int p26_2), some (.int p26_3), some (.int p26_4), some (.int a26), none]) (st' := [.int a26, .ref 32]) (S' := S) rfl ?_
    obtain ⟨w4, hw4, hr⟩ := ob_some hr
    refine go_cv mm_98 (h := 32) (As := [.int a26]) (rest := []) (nl := 3) rfl rfl (show cvOK 98 38 93 97 1 3 8 = true by decide +kernel) rfl rfl rfl (S_97 hw4) (KP_V ?_)
    show Go XC (d + 3) 98 0 41 [some (.ref 32), some (.int v1), some (.int p26_2), some (.int p26_3), some (.int p26_4), some (.int a26), none] [.int w4] S R
    refine go_run mm_98 3 (pc' := 46) (ls' := [some (.ref 32), some (.int v1), some (.int p26_2), some (.int p26_3), some (.int p26_4), some (.int a26), some (.int w4)]) (st' := [.int p26_2, .int w4]) (S' := S) rfl ?_
    refine go_if2 mm_98 rfl (p1 := 77) (p2 := 49) rfl (fun (hc2 : w4 = p26_2) => ?_) (fun (hc2 : ¬ w4 = p26_2) => ?_)
    · rw [if_pos hc2] at hr
      refine go_run mm_98 2 (pc' := 26) (ls' := [some (.ref 32), some (.int v1), some (.int p26_2), some (.int p26_3), some (.int p26_4), some (.int (a26 + 1)), some (.int w4)]) (st' := []) (S' := S) rfl ?_
      cases hr
      have h9 := hL (a26 + 1) rfl
      dsimp only at h9
      exact Go.le h9 (by repeat first | exact True.intro | refine And.intro rfl ?_)
    · rw [if_neg hc2] at hr
      refine go_run mm_98 2 (pc' := 52) (ls' := [some (.ref 32), some (.int v1), some (.int p26_2), some (.int p26_3), some (.int p26_4), some (.int a26), some (.int w4)]) (st' := [.int p26_3, .int w4]) (S' := S) rfl ?_
      refine go_if2 mm_98 rfl (p1 := 77) (p2 := 55) rfl (fun (hc3 : w4 = p26_3) => ?_) (fun (hc3 : ¬ w4 = p26_3) => ?_)
      · rw [if_pos hc3] at hr
        refine go_run mm_98 2 (pc' := 26) (ls' := [some (.ref 32), some (.int v1), some (.int p26_2), some (.int p26_3), some (.int p26_4), some (.int (a26 + 1)), some (.int w4)]) (st' := []) (S' := S) rfl ?_
        cases hr
        have h9 := hL (a26 + 1) rfl
        dsimp only at h9
        exact Go.le h9 (by repeat first | exact True.intro | refine And.intro rfl ?_)
      · rw [if_neg hc3] at hr
        refine go_run mm_98 2 (pc' := 59) (ls' := [some (.ref 32), some (.int v1), some (.int p26_2), some (.int p26_3), some (.int p26_4), some (.int a26), some (.int w4)]) (st' := [.int p26_4, .int w4]) (S' := S) rfl ?_
        refine go_if2 mm_98 rfl (p1 := 77) (p2 := 62) rfl (fun (hc4 : w4 = p26_4) => ?_) (fun (hc4 : ¬ w4 = p26_4) => ?_)
        · rw [if_pos hc4] at hr
          refine go_run mm_98 2 (pc' := 26) (ls' := [some (.ref 32), some (.int v1), some (.int p26_2), some (.int p26_3), some (.int p26_4), some (.int (a26 + 1)), some (.int w4)]) (st' := []) (S' := S) rfl ?_
          cases hr
          have h9 := hL (a26 + 1) rfl
          dsimp only at h9
          exact Go.le h9 (by repeat first | exact True.intro | refine And.intro rfl ?_)
        · rw [if_neg hc4] at hr
          refine go_run mm_98 5 (pc' := 69) (ls' := [some (.ref 32), some (.int v1), some (.int p26_2), some (.int p26_3), some (.int p26_4), some (.int a26), some (.int w4)]) (st' := [.int p26_4, .int p26_3, .int p26_2, .int w4, .ref 32]) (S' := S) rfl ?_
          obtain ⟨w5, hw5, hr⟩ := ob_some hr
          refine go_cv mm_98 (h := 32) (As := [.int w4, .int p26_2, .int p26_3, .int p26_4]) (rest := []) (nl := 8) rfl rfl (show cvOK 98 69 100 99 4 8 8 = true by decide +kernel) rfl rfl rfl (S_99 hw5) (KP_V ?_)
          show Go XC (d + 3) 98 0 72 [some (.ref 32), some (.int v1), some (.int p26_2), some (.int p26_3), some (.int p26_4), some (.int a26), some (.int w4)] [.int (b2i w5)] S R
          refine go_ifb mm_98 rfl (p1 := 75) (p2 := 77) rfl (fun (hc5 : w5 = true) => ?_) (fun (hc5 : w5 = false) => ?_)
          · rw [if_pos hc5] at hr
            refine go_run mm_98 1 (pc' := 76) (ls' := [some (.ref 32), some (.int v1), some (.int p26_2), some (.int p26_3), some (.int p26_4), some (.int a26), some (.int w4)]) (st' := [.int 0]) (S' := S) rfl ?_
            cases hr
            have h9 : R 0 (.inr (vZ false)) S := hR _ rfl
            exact go_zreturn mm_98 rfl rfl (Or.inl rfl) h9
          · rw [if_neg (bf hc5)] at hr
            refine go_run mm_98 2 (pc' := 26) (ls' := [some (.ref 32), some (.int v1), some (.int p26_2), some (.int p26_3), some (.int p26_4), some (.int (a26 + 1)), some (.int w4)]) (st' := []) (S' := S) rfl ?_
            cases hr
            have h9 := hL (a26 + 1) rfl
            dsimp only at h9
            exact Go.le h9 (by repeat first | exact True.intro | refine And.intro rfl ?_)
  · rw [if_neg hc1] at hr
    cases hr
    have h9 := hR (.inl (a26)) rfl
    dsimp only [Sum.elim_inl] at h9
    exact Go.le h9 (by repeat first | exact True.intro | refine And.intro rfl ?_)
def F_98 (v1 : Int32) (S : ST) : Option Bool := ob (F_97 (v1 - 1) S) (fun w1 => ob (F_97 v1 S) (fun w2 => ob (F_97 (v1 + 1) S) (fun w3 => ob (wh FU (L_98_26 v1 w1 w2 w3 S) (0)) (fun z => Sum.elim (fun e26 => some true) (fun o => some o) z))))
set_option maxRecDepth 20000 in
theorem S_98 {d : Nat} {S : ST} {v1 : Int32} {r} (hr : F_98 v1 S = some r) : Cal XC (d + 3) 98 [.ref 32, .int v1] S (RV (vZ r) S) := by
  unfold F_98 at hr
  refine cal_go 5 rfl ?_
  refine go_run mm_98 4 (pc' := 4) (ls' := [some (.ref 32), some (.int v1), none, none, none, none, none]) (st' := [.int (v1 - 1), .ref 32]) (S' := S) rfl ?_
  obtain ⟨w1, hw1, hr⟩ := ob_some hr
  refine go_cv mm_98 (h := 32) (As := [.int (v1 - 1)]) (rest := []) (nl := 3) rfl rfl (show cvOK 98 4 93 97 1 3 8 = true by decide +kernel) rfl rfl rfl (S_97 hw1) (KP_V ?_)
  show Go XC (d + 3) 98 0 7 [some (.ref 32), some (.int v1), none, none, none, none, none] [.int w1] S (RV (vZ r) S)
  refine go_run mm_98 3 (pc' := 10) (ls' := [some (.ref 32), some (.int v1), some (.int w1), none, none, none, none]) (st' := [.int v1, .ref 32]) (S' := S) rfl ?_
  obtain ⟨w2, hw2, hr⟩ := ob_some hr
  refine go_cv mm_98 (h := 32) (As := [.int v1]) (rest := []) (nl := 3) rfl rfl (show cvOK 98 10 93 97 1 3 8 = true by decide +kernel) rfl rfl rfl (S_97 hw2) (KP_V ?_)
  show Go XC (d + 3) 98 0 13 [some (.ref 32), some (.int v1), some (.int w1), none, none, none, none] [.int w2] S (RV (vZ r) S)
  refine go_run mm_98 5 (pc' := 18) (ls' := [some (.ref 32), some (.int v1), some (.int w1), some (.int w2), none, none, none]) (st' := [.int (v1 + 1), .ref 32]) (S' := S) rfl ?_
  obtain ⟨w3, hw3, hr⟩ := ob_some hr
  refine go_cv mm_98 (h := 32) (As := [.int (v1 + 1)]) (rest := []) (nl := 3) rfl rfl (show cvOK 98 18 93 97 1 3 8 = true by decide +kernel) rfl rfl rfl (S_97 hw3) (KP_V ?_)
  show Go XC (d + 3) 98 0 21 [some (.ref 32), some (.int v1), some (.int w1), some (.int w2), none, none, none] [.int w3] S (RV (vZ r) S)
  refine go_run mm_98 3 (pc' := 26) (ls' := [some (.ref 32), some (.int v1), some (.int w1), some (.int w2), some (.int w3), some (.int 0), none]) (st' := []) (S' := S) rfl ?_
  obtain ⟨z26, he26, hr⟩ := ob_some hr
  refine Go.le (ls' := [some (.ref 32), some (.int v1), some (.int w1), some (.int w2), some (.int w3), some (.int 0), none]) ?_ (by repeat first | exact True.intro | refine And.intro rfl ?_)
  refine wh_go (P := fun a26 => Go XC (d + 3) 98 0 26 [some (.ref 32), some (.int v1), some (.int w1), some (.int w2), some (.int w3), some (.int a26), none] [] S (RV (vZ r) S)) (K := fun z => Sum.elim (fun e26 => Go XC (d + 3) 98 0 83 [some (.ref 32), some (.int v1), some (.int w1), some (.int w2), some (.int w3), some (.int e26), none] [] S (RV (vZ r) S)) (fun o => (RV (vZ r) S) 0 (.inr (vZ o)) S) z) (fun a9 r9 h9 hL hR => LS_98_26 h9 hL hR) _ _ _ he26 ?_
  rcases z26 with e26 | o
  rotate_left
  · simp only [Sum.elim_inr] at hr
    cases hr
    exact ⟨rfl, rfl, rfl⟩
  simp only [Sum.elim_inl] at hr
  show Go XC (d + 3) 98 0 83 [some (.ref 32), some (.int v1), some (.int w1), some (.int w2), some (.int w3), some (.int e26), none] [] S (RV (vZ r) S)
  refine go_run mm_98 1 (pc' := 84) (ls' := [some (.ref 32), some (.int v1), some (.int w1), some (.int w2), some (.int w3), some (.int e26), none]) (st' := [.int 1]) (S' := S) rfl ?_
  cases hr
  exact go_zreturn mm_98 rfl rfl (Or.inr rfl) ⟨rfl, rfl, rfl⟩

theorem mm_96 : mtG 96 = some (mi_96, 9, ft_96) := rfl
def L_96_2 (v1 : Bool) (S : ST) (a2 : Int32) : Option ((Int32) ⊕ ((Int32) ⊕ Int32)) := if a2 < (S.1 32 7) then (ob (F_97 (a2 - 1) S) (fun w1 => ob (F_97 a2 S) (fun w2 => ob (F_97 (a2 + 1) S) (fun w3 => ob (F_24 3 w1 w2 w3 S) (fun w4 => if v1 = true then (if (0 : Int32) < w4 then (ob (F_98 a2 S) (fun w5 => if w5 = true then (some (.inr (.inr a2))) else (some (.inl (a2 + 1))))) else (some (.inl (a2 + 1)))) else (if w4 < 0 then (ob (F_98 a2 S) (fun w6 => if w6 = true then (some (.inr (.inr a2))) else (some (.inl (a2 + 1))))) else (some (.inl (a2 + 1))))))))) else (some (.inr (.inl (a2))))
set_option maxRecDepth 20000 in
theorem LS_96_2 {d : Nat} {R : RT} {S : ST} {v1 : Bool} {a2 : Int32} {r9} (hr : L_96_2 v1 S a2 = some r9) (hL : ∀ a9, r9 = .inl a9 → (fun a2 => Go XC (d + 4) 96 0 2 [some (.ref 32), some (.int (b2i v1)), some (.int a2), none] [] S R) a9) (hR : ∀ b9, r9 = .inr b9 → Sum.elim (fun e2 => Go XC (d + 4) 96 0 68 [some (.ref 32), some (.int (b2i v1)), some (.int e2), none] [] S R) (fun o => R 0 (.inr (vI o)) S) b9) : Go XC (d + 4) 96 0 2 [some (.ref 32), some (.int (b2i v1)), some (.int a2), none] [] S R := by
  unfold L_96_2 at hr
  refine go_run mm_96 3 (pc' := 7) (ls' := [some (.ref 32), some (.int (b2i v1)), some (.int a2), none]) (st' := [.int (S.1 32 7), .int a2]) (S' := S) rfl ?_
  refine go_if2 mm_96 rfl (p1 := 10) (p2 := 68) rfl (fun (hc1 : a2 < (S.1 32 7)) => ?_) (fun (hc1 : ¬ a2 < (S.1 32 7)) => ?_)
  · rw [if_pos hc1] at hr
    refine go_run mm_96 6 (pc' := 18) (ls' := [some (.ref 32), some (.int (b2i v1)), some (.int a2), none]) (st' := [.int (a2 - 1), .ref 32, .ref 3]) (S' := S) rfl ?_
    obtain ⟨w1, hw1, hr⟩ := ob_some hr
    refine go_cv mm_96 (h := 32) (As := [.int (a2 - 1)]) (rest := [.ref 3]) (nl := 3) rfl rfl (show cvOK 96 18 93 97 1 3 8 = true by decide +kernel) rfl rfl rfl (S_97 hw1) (KP_V ?_)
    show Go XC (d + 4) 96 0 21 [some (.ref 32), some (.int (b2i v1)), some (.int a2), none] [.int w1, .ref 3] S R
    refine go_run mm_96 2 (pc' := 23) (ls' := [some (.ref 32), some (.int (b2i v1)), some (.int a2), none]) (st' := [.int a2, .ref 32, .int w1, .ref 3]) (S' := S) rfl ?_
    obtain ⟨w2, hw2, hr⟩ := ob_some hr
    refine go_cv mm_96 (h := 32) (As := [.int a2]) (rest := [.int w1, .ref 3]) (nl := 3) rfl rfl (show cvOK 96 23 93 97 1 3 8 = true by decide +kernel) rfl rfl rfl (S_97 hw2) (KP_V ?_)
    show Go XC (d + 4) 96 0 26 [some (.ref 32), some (.int (b2i v1)), some (.int a2), none] [.int w2, .int w1, .ref 3] S R
    refine go_run mm_96 4 (pc' := 30) (ls' := [some (.ref 32), some (.int (b2i v1)), some (.int a2), none]) (st' := [.int (a2 + 1), .ref 32, .int w2, .int w1, .ref 3]) (S' := S) rfl ?_
    obtain ⟨w3, hw3, hr⟩ := ob_some hr
    refine go_cv mm_96 (h := 32) (As := [.int (a2 + 1)]) (rest := [.int w2, .int w1, .ref 3]) (nl := 3) rfl rfl (show cvOK 96 30 93 97 1 3 8 = true by decide +kernel) rfl rfl rfl (S_97 hw3) (KP_V ?_)
    show Go XC (d + 4) 96 0 33 [some (.ref 32), some (.int (b2i v1)), some (.int a2), none] [.int w3, .int w2, .int w1, .ref 3] S R
    obtain ⟨w4, hw4, hr⟩ := ob_some hr
    refine go_cs mm_96 (av := [.ref 3, .int w1, .int w2, .int w3]) (rest := []) (nl := 4) rfl (show csOK 96 33 46 24 4 4 = true by decide +kernel) rfl rfl rfl (S_24 (plB_ok rfl) hw4) (KP_V ?_)
    show Go XC (d + 4) 96 0 36 [some (.ref 32), some (.int (b2i v1)), some (.int a2), none] [.int w4] S R
    refine go_run mm_96 2 (pc' := 38) (ls' := [some (.ref 32), some (.int (b2i v1)), some (.int a2), some (.int w4)]) (st' := [.int (b2i v1)]) (S' := S) rfl ?_
    refine go_ifb mm_96 rfl (p1 := 41) (p2 := 48) rfl (fun (hc2 : v1 = true) => ?_) (fun (hc2 : v1 = false) => ?_)
    · rw [if_pos hc2] at hr
      refine go_run mm_96 1 (pc' := 42) (ls' := [some (.ref 32), some (.int (b2i v1)), some (.int a2), some (.int w4)]) (st' := [.int w4]) (S' := S) rfl ?_
      refine go_if0 mm_96 rfl (p1 := 45) (p2 := 62) rfl (fun (hc3 : (0 : Int32) < w4) => ?_) (fun (hc3 : ¬ (0 : Int32) < w4) => ?_)
      · rw [if_pos hc3] at hr
        refine go_run mm_96 3 (pc' := 54) (ls' := [some (.ref 32), some (.int (b2i v1)), some (.int a2), some (.int w4)]) (st' := [.int a2, .ref 32]) (S' := S) rfl ?_
        obtain ⟨w5, hw5, hr⟩ := ob_some hr
        refine go_cv mm_96 (h := 32) (As := [.int a2]) (rest := []) (nl := 7) rfl rfl (show cvOK 96 54 96 98 1 7 8 = true by decide +kernel) rfl rfl rfl (S_98 hw5) (KP_V ?_)
        show Go XC (d + 4) 96 0 57 [some (.ref 32), some (.int (b2i v1)), some (.int a2), some (.int w4)] [.int (b2i w5)] S R
        refine go_ifb mm_96 rfl (p1 := 60) (p2 := 62) rfl (fun (hc4 : w5 = true) => ?_) (fun (hc4 : w5 = false) => ?_)
        · rw [if_pos hc4] at hr
          refine go_run mm_96 1 (pc' := 61) (ls' := [some (.ref 32), some (.int (b2i v1)), some (.int a2), some (.int w4)]) (st' := [.int a2]) (S' := S) rfl ?_
          cases hr
          have h9 : R 0 (.inr (vI a2)) S := hR _ rfl
          exact go_ireturn mm_96 rfl rfl h9
        · rw [if_neg (bf hc4)] at hr
          refine go_run mm_96 2 (pc' := 2) (ls' := [some (.ref 32), some (.int (b2i v1)), some (.int (a2 + 1)), some (.int w4)]) (st' := []) (S' := S) rfl ?_
          cases hr
          have h9 := hL (a2 + 1) rfl
          dsimp only at h9
          exact Go.le h9 (by repeat first | exact True.intro | refine And.intro rfl ?_)
      · rw [if_neg hc3] at hr
        refine go_run mm_96 2 (pc' := 2) (ls' := [some (.ref 32), some (.int (b2i v1)), some (.int (a2 + 1)), some (.int w4)]) (st' := []) (S' := S) rfl ?_
        cases hr
        have h9 := hL (a2 + 1) rfl
        dsimp only at h9
        exact Go.le h9 (by repeat first | exact True.intro | refine And.intro rfl ?_)
    · rw [if_neg (bf hc2)] at hr
      refine go_run mm_96 1 (pc' := 49) (ls' := [some (.ref 32), some (.int (b2i v1)), some (.int a2), some (.int w4)]) (st' := [.int w4]) (S' := S) rfl ?_
      refine go_if0 mm_96 rfl (p1 := 52) (p2 := 62) rfl (fun (hc5 : w4 < 0) => ?_) (fun (hc5 : ¬ w4 < 0) => ?_)
      · rw [if_pos hc5] at hr
        refine go_run mm_96 2 (pc' := 54) (ls' := [some (.ref 32), some (.int (b2i v1)), some (.int a2), some (.int w4)]) (st' := [.int a2, .ref 32]) (S' := S) rfl ?_
        obtain ⟨w6, hw6, hr⟩ := ob_some hr
        refine go_cv mm_96 (h := 32) (As := [.int a2]) (rest := []) (nl := 7) rfl rfl (show cvOK 96 54 96 98 1 7 8 = true by decide +kernel) rfl rfl rfl (S_98 hw6) (KP_V ?_)
        show Go XC (d + 4) 96 0 57 [some (.ref 32), some (.int (b2i v1)), some (.int a2), some (.int w4)] [.int (b2i w6)] S R
        refine go_ifb mm_96 rfl (p1 := 60) (p2 := 62) rfl (fun (hc6 : w6 = true) => ?_) (fun (hc6 : w6 = false) => ?_)
        · rw [if_pos hc6] at hr
          refine go_run mm_96 1 (pc' := 61) (ls' := [some (.ref 32), some (.int (b2i v1)), some (.int a2), some (.int w4)]) (st' := [.int a2]) (S' := S) rfl ?_
          cases hr
          have h9 : R 0 (.inr (vI a2)) S := hR _ rfl
          exact go_ireturn mm_96 rfl rfl h9
        · rw [if_neg (bf hc6)] at hr
          refine go_run mm_96 2 (pc' := 2) (ls' := [some (.ref 32), some (.int (b2i v1)), some (.int (a2 + 1)), some (.int w4)]) (st' := []) (S' := S) rfl ?_
          cases hr
          have h9 := hL (a2 + 1) rfl
          dsimp only at h9
          exact Go.le h9 (by repeat first | exact True.intro | refine And.intro rfl ?_)
      · rw [if_neg hc5] at hr
        refine go_run mm_96 2 (pc' := 2) (ls' := [some (.ref 32), some (.int (b2i v1)), some (.int (a2 + 1)), some (.int w4)]) (st' := []) (S' := S) rfl ?_
        cases hr
        have h9 := hL (a2 + 1) rfl
        dsimp only at h9
        exact Go.le h9 (by repeat first | exact True.intro | refine And.intro rfl ?_)
  · rw [if_neg hc1] at hr
    cases hr
    have h9 := hR (.inl (a2)) rfl
    dsimp only [Sum.elim_inl] at h9
    exact Go.le h9 (by repeat first | exact True.intro | refine And.intro rfl ?_)
def F_96 (v1 : Bool) (S : ST) : Option Int32 := ob (wh FU (L_96_2 v1 S) (0)) (fun z => Sum.elim (fun e2 => some 0) (fun o => some o) z)
set_option maxRecDepth 20000 in
theorem S_96 {d : Nat} {S : ST} {v1 : Bool} {r} (hr : F_96 v1 S = some r) : Cal XC (d + 4) 96 [.ref 32, .int (b2i v1)] S (RV (vI r) S) := by
  unfold F_96 at hr
  refine cal_go 2 rfl ?_
  refine go_run mm_96 2 (pc' := 2) (ls' := [some (.ref 32), some (.int (b2i v1)), some (.int 0), none]) (st' := []) (S' := S) rfl ?_
  obtain ⟨z2, he2, hr⟩ := ob_some hr
  refine Go.le (ls' := [some (.ref 32), some (.int (b2i v1)), some (.int 0), none]) ?_ (by repeat first | exact True.intro | refine And.intro rfl ?_)
  refine wh_go (P := fun a2 => Go XC (d + 4) 96 0 2 [some (.ref 32), some (.int (b2i v1)), some (.int a2), none] [] S (RV (vI r) S)) (K := fun z => Sum.elim (fun e2 => Go XC (d + 4) 96 0 68 [some (.ref 32), some (.int (b2i v1)), some (.int e2), none] [] S (RV (vI r) S)) (fun o => (RV (vI r) S) 0 (.inr (vI o)) S) z) (fun a9 r9 h9 hL hR => LS_96_2 h9 hL hR) _ _ _ he2 ?_
  rcases z2 with e2 | o
  rotate_left
  · simp only [Sum.elim_inr] at hr
    cases hr
    exact ⟨rfl, rfl, rfl⟩
  simp only [Sum.elim_inl] at hr
  show Go XC (d + 4) 96 0 68 [some (.ref 32), some (.int (b2i v1)), some (.int e2), none] [] S (RV (vI r) S)
  refine go_run mm_96 1 (pc' := 69) (ls' := [some (.ref 32), some (.int (b2i v1)), some (.int e2), none]) (st' := [.int 0]) (S' := S) rfl ?_
  cases hr
  exact go_ireturn mm_96 rfl rfl ⟨rfl, rfl, rfl⟩

theorem mm_100 : mtG 100 = some (mi_100, 9, ft_100) := rfl
def L_100_107 (v1 : Int32) (v2 : Int32) (p107_3 : Int32) (p107_4 : Int32) (p107_5 : Int32) (a107 : Int32 × ST) : Option ((Int32 × ST) ⊕ (Int32 × ST)) := if a107.1 < 0 then (some (.inr (a107.1, a107.2))) else (if (a107.1 + 1) < (a107.2.1 32 7) then (ck (ibd (a107.1 + 1) 12) (ck (ibd a107.1 12) (sbn ((wI a107.2 38 (Int32.toNatClampNeg a107.1) (a107.2.1 38 (Int32.toNatClampNeg (a107.1 + 1))))) (fun s17 => some (.inl (a107.1 + 1, s17)))))) else (some (.inr (a107.1, a107.2))))
set_option maxRecDepth 20000 in
theorem LS_100_107 {d : Nat} {R : RT} {v1 : Int32} {v2 : Int32} {p107_3 : Int32} {p107_4 : Int32} {p107_5 : Int32} {a107 : Int32 × ST} {r9} (hr : L_100_107 v1 v2 p107_3 p107_4 p107_5 a107 = some r9) (hL : ∀ a9, r9 = .inl a9 → (fun a107 => Go XC (d + 1) 100 0 107 [some (.ref 32), some (.int v1), some (.int v2), some (.int p107_3), some (.int p107_4), some (.int p107_5), some (.int a107.1)] [] a107.2 R) a9) (hR : ∀ b9, r9 = .inr b9 → (fun e107 => Go XC (d + 1) 100 0 145 [some (.ref 32), some (.int v1), some (.int v2), some (.int p107_3), some (.int p107_4), some (.int p107_5), some (.int e107.1)] [] e107.2 R) b9) : Go XC (d + 1) 100 0 107 [some (.ref 32), some (.int v1), some (.int v2), some (.int p107_3), some (.int p107_4), some (.int p107_5), some (.int a107.1)] [] a107.2 R := by
  unfold L_100_107 at hr
  refine go_run mm_100 1 (pc' := 109) (ls' := [some (.ref 32), some (.int v1), some (.int v2), some (.int p107_3), some (.int p107_4), some (.int p107_5), some (.int a107.1)]) (st' := [.int a107.1]) (S' := a107.2) rfl ?_
  refine go_if0 mm_100 rfl (p1 := 145) (p2 := 112) rfl (fun (hc13 : a107.1 < 0) => ?_) (fun (hc13 : ¬ a107.1 < 0) => ?_)
  · rw [if_pos hc13] at hr
    cases hr
    have h9 := hR (a107.1, a107.2) rfl
    dsimp only [Sum.elim_inl] at h9
    exact Go.le h9 (by repeat first | exact True.intro | refine And.intro rfl ?_)
  · rw [if_neg hc13] at hr
    refine go_run mm_100 5 (pc' := 120) (ls' := [some (.ref 32), some (.int v1), some (.int v2), some (.int p107_3), some (.int p107_4), some (.int p107_5), some (.int a107.1)]) (st' := [.int (a107.2.1 32 7), .int (a107.1 + 1)]) (S' := a107.2) rfl ?_
    refine go_if2 mm_100 rfl (p1 := 123) (p2 := 145) rfl (fun (hc14 : (a107.1 + 1) < (a107.2.1 32 7)) => ?_) (fun (hc14 : ¬ (a107.1 + 1) < (a107.2.1 32 7)) => ?_)
    · rw [if_pos hc14] at hr
      refine go_run mm_100 8 (pc' := 137) (ls' := [some (.ref 32), some (.int v1), some (.int v2), some (.int p107_3), some (.int p107_4), some (.int p107_5), some (.int a107.1)]) (st' := [.int (a107.1 + 1), .ref 38, .int a107.1, .ref 38]) (S' := a107.2) rfl ?_
      obtain ⟨hb15, hr⟩ := ck_some hr
      refine go_iaload mm_100 (q := (Int32.toNatClampNeg (a107.1 + 1))) rfl rfl rfl (ibd_ok hb15) ?_
      show Go XC (d + 1) 100 0 138 [some (.ref 32), some (.int v1), some (.int v2), some (.int p107_3), some (.int p107_4), some (.int p107_5), some (.int a107.1)] [.int (a107.2.1 38 (Int32.toNatClampNeg (a107.1 + 1))), .int a107.1, .ref 38] a107.2 R
      obtain ⟨hb16, hr⟩ := ck_some hr
      refine go_iastore mm_100 (q := (Int32.toNatClampNeg a107.1)) rfl rfl rfl (ibd_ok hb16) ?_
      show Go XC (d + 1) 100 0 139 [some (.ref 32), some (.int v1), some (.int v2), some (.int p107_3), some (.int p107_4), some (.int p107_5), some (.int a107.1)] [] (wI a107.2 38 (Int32.toNatClampNeg a107.1) (a107.2.1 38 (Int32.toNatClampNeg (a107.1 + 1)))) R
      obtain ⟨s17, es17, hr⟩ := sbn_some hr
      rw [← es17]
      refine go_run mm_100 2 (pc' := 107) (ls' := [some (.ref 32), some (.int v1), some (.int v2), some (.int p107_3), some (.int p107_4), some (.int p107_5), some (.int (a107.1 + 1))]) (st' := []) (S' := s17) rfl ?_
      cases hr
      have h9 := hL (a107.1 + 1, s17) rfl
      dsimp only at h9
      exact Go.le h9 (by repeat first | exact True.intro | refine And.intro rfl ?_)
    · rw [if_neg hc14] at hr
      cases hr
      have h9 := hR (a107.1, a107.2) rfl
      dsimp only [Sum.elim_inl] at h9
      exact Go.le h9 (by repeat first | exact True.intro | refine And.intro rfl ?_)
def F_100 (v1 : Int32) (v2 : Int32) (S : ST) : Option (Unit × ST) := ob (F_97 (v2 - 1) S) (fun w1 => ob (F_97 v2 S) (fun w2 => ob (F_97 (v2 + 1) S) (fun w3 => if v1 < 0 then (some ((), S)) else (if v1 < 10 then (ck (ibd v1 10) (sbn ((wI S 33 (Int32.toNatClampNeg v1) w2)) (fun s4 => ck (ibd v1 10) (sbn ((wI s4 34 (Int32.toNatClampNeg v1) (if (if w3 < w2 then w3 else w2) < w1 then (if w3 < w2 then w3 else w2) else w1))) (fun s6 => ck (ibd v1 10) (sbn ((wI s6 36 (Int32.toNatClampNeg v1) (if w1 < (if w2 < w3 then w3 else w2) then (if w2 < w3 then w3 else w2) else w1))) (fun s8 => ck (ibd v1 10) (ck (ibd v1 10) (ck (ibd v1 10) (sbn ((wI s8 35 (Int32.toNatClampNeg v1) ((((w1 + w2) + w3) - (s8.1 34 (Int32.toNatClampNeg v1))) - (s8.1 36 (Int32.toNatClampNeg v1))))) (fun s12 => ob (wh FU (L_100_107 v1 v2 w1 w2 w3) (v2, s12)) (fun e107 => some ((), (wI e107.2 32 7 ((e107.2.1 32 7) - 1))))))))))))))) else (some ((), S))))))
set_option maxRecDepth 20000 in
theorem S_100 {d : Nat} {S : ST} {v1 : Int32} {v2 : Int32} {r} (hr : F_100 v1 v2 S = some r) : Cal XC (d + 1) 100 [.ref 32, .int v1, .int v2] S (RV (vU r.1) r.2) := by
  unfold F_100 at hr
  refine cal_go 4 rfl ?_
  refine go_run mm_100 4 (pc' := 4) (ls' := [some (.ref 32), some (.int v1), some (.int v2), none, none, none, none]) (st' := [.int (v2 - 1), .ref 32]) (S' := S) rfl ?_
  obtain ⟨w1, hw1, hr⟩ := ob_some hr
  refine go_cv mm_100 (h := 32) (As := [.int (v2 - 1)]) (rest := []) (nl := 3) rfl rfl (show cvOK 100 4 93 97 1 3 8 = true by decide +kernel) rfl rfl rfl (S_97 hw1) (KP_V ?_)
  show Go XC (d + 1) 100 0 7 [some (.ref 32), some (.int v1), some (.int v2), none, none, none, none] [.int w1] S (RV (vU r.1) r.2)
  refine go_run mm_100 3 (pc' := 10) (ls' := [some (.ref 32), some (.int v1), some (.int v2), some (.int w1), none, none, none]) (st' := [.int v2, .ref 32]) (S' := S) rfl ?_
  obtain ⟨w2, hw2, hr⟩ := ob_some hr
  refine go_cv mm_100 (h := 32) (As := [.int v2]) (rest := []) (nl := 3) rfl rfl (show cvOK 100 10 93 97 1 3 8 = true by decide +kernel) rfl rfl rfl (S_97 hw2) (KP_V ?_)
  show Go XC (d + 1) 100 0 13 [some (.ref 32), some (.int v1), some (.int v2), some (.int w1), none, none, none] [.int w2] S (RV (vU r.1) r.2)
  refine go_run mm_100 5 (pc' := 19) (ls' := [some (.ref 32), some (.int v1), some (.int v2), some (.int w1), some (.int w2), none, none]) (st' := [.int (v2 + 1), .ref 32]) (S' := S) rfl ?_
  obtain ⟨w3, hw3, hr⟩ := ob_some hr
  refine go_cv mm_100 (h := 32) (As := [.int (v2 + 1)]) (rest := []) (nl := 3) rfl rfl (show cvOK 100 19 93 97 1 3 8 = true by decide +kernel) rfl rfl rfl (S_97 hw3) (KP_V ?_)
  show Go XC (d + 1) 100 0 22 [some (.ref 32), some (.int v1), some (.int v2), some (.int w1), some (.int w2), none, none] [.int w3] S (RV (vU r.1) r.2)
  refine go_run mm_100 2 (pc' := 25) (ls' := [some (.ref 32), some (.int v1), some (.int v2), some (.int w1), some (.int w2), some (.int w3), none]) (st' := [.int v1]) (S' := S) rfl ?_
  refine go_if0 mm_100 rfl (p1 := 34) (p2 := 28) rfl (fun (hc1 : v1 < 0) => ?_) (fun (hc1 : ¬ v1 < 0) => ?_)
  · rw [if_pos hc1] at hr
    cases hr
    exact go_vreturn mm_100 rfl rfl ⟨rfl, rfl, rfl⟩
  · rw [if_neg hc1] at hr
    refine go_run mm_100 2 (pc' := 31) (ls' := [some (.ref 32), some (.int v1), some (.int v2), some (.int w1), some (.int w2), some (.int w3), none]) (st' := [.int 10, .int v1]) (S' := S) rfl ?_
    refine go_if2 mm_100 rfl (p1 := 35) (p2 := 34) rfl (fun (hc2 : v1 < 10) => ?_) (fun (hc2 : ¬ v1 < 10) => ?_)
    · rw [if_pos hc2] at hr
      refine go_run mm_100 4 (pc' := 42) (ls' := [some (.ref 32), some (.int v1), some (.int v2), some (.int w1), some (.int w2), some (.int w3), none]) (st' := [.int w2, .int v1, .ref 33]) (S' := S) rfl ?_
      obtain ⟨hb3, hr⟩ := ck_some hr
      refine go_iastore mm_100 (q := (Int32.toNatClampNeg v1)) rfl rfl rfl (ibd_ok hb3) ?_
      show Go XC (d + 1) 100 0 43 [some (.ref 32), some (.int v1), some (.int v2), some (.int w1), some (.int w2), some (.int w3), none] [] (wI S 33 (Int32.toNatClampNeg v1) w2) (RV (vU r.1) r.2)
      obtain ⟨s4, es4, hr⟩ := sbn_some hr
      rw [← es4]
      refine go_run mm_100 6 (pc' := 53) (ls' := [some (.ref 32), some (.int v1), some (.int v2), some (.int w1), some (.int w2), some (.int w3), none]) (st' := [.int w3, .int w2, .int w1, .int v1, .ref 34]) (S' := s4) rfl ?_
      refine go_mm (pc' := 56) (st' := [.int (if w3 < w2 then w3 else w2), .int w1, .int v1, .ref 34]) (fun lv σ => rfl) ?_
      show Go XC (d + 1) 100 0 56 [some (.ref 32), some (.int v1), some (.int v2), some (.int w1), some (.int w2), some (.int w3), none] [.int (if w3 < w2 then w3 else w2), .int w1, .int v1, .ref 34] s4 (RV (vU r.1) r.2)
      refine go_mm (pc' := 59) (st' := [.int (if (if w3 < w2 then w3 else w2) < w1 then (if w3 < w2 then w3 else w2) else w1), .int v1, .ref 34]) (fun lv σ => rfl) ?_
      show Go XC (d + 1) 100 0 59 [some (.ref 32), some (.int v1), some (.int v2), some (.int w1), some (.int w2), some (.int w3), none] [.int (if (if w3 < w2 then w3 else w2) < w1 then (if w3 < w2 then w3 else w2) else w1), .int v1, .ref 34] s4 (RV (vU r.1) r.2)
      obtain ⟨hb5, hr⟩ := ck_some hr
      refine go_iastore mm_100 (q := (Int32.toNatClampNeg v1)) rfl rfl rfl (ibd_ok hb5) ?_
      show Go XC (d + 1) 100 0 60 [some (.ref 32), some (.int v1), some (.int v2), some (.int w1), some (.int w2), some (.int w3), none] [] (wI s4 34 (Int32.toNatClampNeg v1) (if (if w3 < w2 then w3 else w2) < w1 then (if w3 < w2 then w3 else w2) else w1)) (RV (vU r.1) r.2)
      obtain ⟨s6, es6, hr⟩ := sbn_some hr
      rw [← es6]
      refine go_run mm_100 6 (pc' := 70) (ls' := [some (.ref 32), some (.int v1), some (.int v2), some (.int w1), some (.int w2), some (.int w3), none]) (st' := [.int w3, .int w2, .int w1, .int v1, .ref 36]) (S' := s6) rfl ?_
      refine go_mm (pc' := 73) (st' := [.int (if w2 < w3 then w3 else w2), .int w1, .int v1, .ref 36]) (fun lv σ => rfl) ?_
      show Go XC (d + 1) 100 0 73 [some (.ref 32), some (.int v1), some (.int v2), some (.int w1), some (.int w2), some (.int w3), none] [.int (if w2 < w3 then w3 else w2), .int w1, .int v1, .ref 36] s6 (RV (vU r.1) r.2)
      refine go_mm (pc' := 76) (st' := [.int (if w1 < (if w2 < w3 then w3 else w2) then (if w2 < w3 then w3 else w2) else w1), .int v1, .ref 36]) (fun lv σ => rfl) ?_
      show Go XC (d + 1) 100 0 76 [some (.ref 32), some (.int v1), some (.int v2), some (.int w1), some (.int w2), some (.int w3), none] [.int (if w1 < (if w2 < w3 then w3 else w2) then (if w2 < w3 then w3 else w2) else w1), .int v1, .ref 36] s6 (RV (vU r.1) r.2)
      obtain ⟨hb7, hr⟩ := ck_some hr
      refine go_iastore mm_100 (q := (Int32.toNatClampNeg v1)) rfl rfl rfl (ibd_ok hb7) ?_
      show Go XC (d + 1) 100 0 77 [some (.ref 32), some (.int v1), some (.int v2), some (.int w1), some (.int w2), some (.int w3), none] [] (wI s6 36 (Int32.toNatClampNeg v1) (if w1 < (if w2 < w3 then w3 else w2) then (if w2 < w3 then w3 else w2) else w1)) (RV (vU r.1) r.2)
      obtain ⟨s8, es8, hr⟩ := sbn_some hr
      rw [← es8]
      refine go_run mm_100 11 (pc' := 94) (ls' := [some (.ref 32), some (.int v1), some (.int v2), some (.int w1), some (.int w2), some (.int w3), none]) (st' := [.int v1, .ref 34, .int ((w1 + w2) + w3), .int v1, .ref 35]) (S' := s8) rfl ?_
      obtain ⟨hb9, hr⟩ := ck_some hr
      refine go_iaload mm_100 (q := (Int32.toNatClampNeg v1)) rfl rfl rfl (ibd_ok hb9) ?_
      show Go XC (d + 1) 100 0 95 [some (.ref 32), some (.int v1), some (.int v2), some (.int w1), some (.int w2), some (.int w3), none] [.int (s8.1 34 (Int32.toNatClampNeg v1)), .int ((w1 + w2) + w3), .int v1, .ref 35] s8 (RV (vU r.1) r.2)
      refine go_run mm_100 4 (pc' := 101) (ls' := [some (.ref 32), some (.int v1), some (.int v2), some (.int w1), some (.int w2), some (.int w3), none]) (st' := [.int v1, .ref 36, .int (((w1 + w2) + w3) - (s8.1 34 (Int32.toNatClampNeg v1))), .int v1, .ref 35]) (S' := s8) rfl ?_
      obtain ⟨hb10, hr⟩ := ck_some hr
      refine go_iaload mm_100 (q := (Int32.toNatClampNeg v1)) rfl rfl rfl (ibd_ok hb10) ?_
      show Go XC (d + 1) 100 0 102 [some (.ref 32), some (.int v1), some (.int v2), some (.int w1), some (.int w2), some (.int w3), none] [.int (s8.1 36 (Int32.toNatClampNeg v1)), .int (((w1 + w2) + w3) - (s8.1 34 (Int32.toNatClampNeg v1))), .int v1, .ref 35] s8 (RV (vU r.1) r.2)
      refine go_run mm_100 1 (pc' := 103) (ls' := [some (.ref 32), some (.int v1), some (.int v2), some (.int w1), some (.int w2), some (.int w3), none]) (st' := [.int ((((w1 + w2) + w3) - (s8.1 34 (Int32.toNatClampNeg v1))) - (s8.1 36 (Int32.toNatClampNeg v1))), .int v1, .ref 35]) (S' := s8) rfl ?_
      obtain ⟨hb11, hr⟩ := ck_some hr
      refine go_iastore mm_100 (q := (Int32.toNatClampNeg v1)) rfl rfl rfl (ibd_ok hb11) ?_
      show Go XC (d + 1) 100 0 104 [some (.ref 32), some (.int v1), some (.int v2), some (.int w1), some (.int w2), some (.int w3), none] [] (wI s8 35 (Int32.toNatClampNeg v1) ((((w1 + w2) + w3) - (s8.1 34 (Int32.toNatClampNeg v1))) - (s8.1 36 (Int32.toNatClampNeg v1)))) (RV (vU r.1) r.2)
      obtain ⟨s12, es12, hr⟩ := sbn_some hr
      rw [← es12]
      refine go_run mm_100 2 (pc' := 107) (ls' := [some (.ref 32), some (.int v1), some (.int v2), some (.int w1), some (.int w2), some (.int w3), some (.int v2)]) (st' := []) (S' := s12) rfl ?_
      obtain ⟨z107, he107, hr⟩ := ob_some hr
      refine Go.le (ls' := [some (.ref 32), some (.int v1), some (.int v2), some (.int w1), some (.int w2), some (.int w3), some (.int v2)]) ?_ (by repeat first | exact True.intro | refine And.intro rfl ?_)
      refine wh_go (P := fun a107 => Go XC (d + 1) 100 0 107 [some (.ref 32), some (.int v1), some (.int v2), some (.int w1), some (.int w2), some (.int w3), some (.int a107.1)] [] a107.2 (RV (vU r.1) r.2)) (K := fun e107 => Go XC (d + 1) 100 0 145 [some (.ref 32), some (.int v1), some (.int v2), some (.int w1), some (.int w2), some (.int w3), some (.int e107.1)] [] e107.2 (RV (vU r.1) r.2)) (fun a9 r9 h9 hL hR => LS_100_107 h9 hL hR) _ _ _ he107 ?_
      generalize z107 = e107 at hr
      show Go XC (d + 1) 100 0 145 [some (.ref 32), some (.int v1), some (.int v2), some (.int w1), some (.int w2), some (.int w3), some (.int e107.1)] [] e107.2 (RV (vU r.1) r.2)
      refine go_run mm_100 6 (pc' := 155) (ls' := [some (.ref 32), some (.int v1), some (.int v2), some (.int w1), some (.int w2), some (.int w3), some (.int e107.1)]) (st' := []) (S' := (wI e107.2 32 7 ((e107.2.1 32 7) - 1))) rfl ?_
      cases hr
      exact go_vreturn mm_100 rfl rfl ⟨rfl, rfl, rfl⟩
    · rw [if_neg hc2] at hr
      cases hr
      exact go_vreturn mm_100 rfl rfl ⟨rfl, rfl, rfl⟩

theorem mm_102 : mtG 102 = some (mi_102, 9, ft_102) := rfl
def F_102 (v1 : Int32) (v2 : Int32) (S : ST) : Option (Unit × ST) := if v1 < 0 then (some ((), S)) else (if v1 < 12 then (ck (ibd v1 12) (sbn ((wI S 37 (Int32.toNatClampNeg v1) v2)) (fun s4 => some ((), s4)))) else (some ((), S)))
set_option maxRecDepth 20000 in
theorem S_102 {d : Nat} {S : ST} {v1 : Int32} {v2 : Int32} {r} (hr : F_102 v1 v2 S = some r) : Cal XC d 102 [.ref 32, .int v1, .int v2] S (RV (vU r.1) r.2) := by
  unfold F_102 at hr
  refine cal_go 0 rfl ?_
  refine go_run mm_102 1 (pc' := 1) (ls' := [some (.ref 32), some (.int v1), some (.int v2)]) (st' := [.int v1]) (S' := S) rfl ?_
  refine go_if0 mm_102 rfl (p1 := 17) (p2 := 4) rfl (fun (hc1 : v1 < 0) => ?_) (fun (hc1 : ¬ v1 < 0) => ?_)
  · rw [if_pos hc1] at hr
    cases hr
    exact go_vreturn mm_102 rfl rfl ⟨rfl, rfl, rfl⟩
  · rw [if_neg hc1] at hr
    refine go_run mm_102 2 (pc' := 7) (ls' := [some (.ref 32), some (.int v1), some (.int v2)]) (st' := [.int 12, .int v1]) (S' := S) rfl ?_
    refine go_if2 mm_102 rfl (p1 := 10) (p2 := 17) rfl (fun (hc2 : v1 < 12) => ?_) (fun (hc2 : ¬ v1 < 12) => ?_)
    · rw [if_pos hc2] at hr
      refine go_run mm_102 4 (pc' := 16) (ls' := [some (.ref 32), some (.int v1), some (.int v2)]) (st' := [.int v2, .int v1, .ref 37]) (S' := S) rfl ?_
      obtain ⟨hb3, hr⟩ := ck_some hr
      refine go_iastore mm_102 (q := (Int32.toNatClampNeg v1)) rfl rfl rfl (ibd_ok hb3) ?_
      show Go XC d 102 0 17 [some (.ref 32), some (.int v1), some (.int v2)] [] (wI S 37 (Int32.toNatClampNeg v1) v2) (RV (vU r.1) r.2)
      obtain ⟨s4, es4, hr⟩ := sbn_some hr
      rw [← es4]
      cases hr
      exact go_vreturn mm_102 rfl rfl ⟨rfl, rfl, rfl⟩
    · rw [if_neg hc2] at hr
      cases hr
      exact go_vreturn mm_102 rfl rfl ⟨rfl, rfl, rfl⟩

theorem mm_103 : mtG 103 = some (mi_103, 9, ft_103) := rfl
def F_103 (v1 : Int32) (S : ST) : Option Int32 := if v1 < 0 then (some 0) else (if v1 < 12 then (ck (ibd v1 12) (some (S.1 37 (Int32.toNatClampNeg v1)))) else (some 0))
set_option maxRecDepth 20000 in
theorem S_103 {d : Nat} {S : ST} {v1 : Int32} {r} (hr : F_103 v1 S = some r) : Cal XC d 103 [.ref 32, .int v1] S (RV (vI r) S) := by
  unfold F_103 at hr
  refine cal_go 0 rfl ?_
  refine go_run mm_103 1 (pc' := 1) (ls' := [some (.ref 32), some (.int v1)]) (st' := [.int v1]) (S' := S) rfl ?_
  refine go_if0 mm_103 rfl (p1 := 19) (p2 := 4) rfl (fun (hc1 : v1 < 0) => ?_) (fun (hc1 : ¬ v1 < 0) => ?_)
  · rw [if_pos hc1] at hr
    refine go_run mm_103 1 (pc' := 20) (ls' := [some (.ref 32), some (.int v1)]) (st' := [.int 0]) (S' := S) rfl ?_
    cases hr
    exact go_ireturn mm_103 rfl rfl ⟨rfl, rfl, rfl⟩
  · rw [if_neg hc1] at hr
    refine go_run mm_103 2 (pc' := 7) (ls' := [some (.ref 32), some (.int v1)]) (st' := [.int 12, .int v1]) (S' := S) rfl ?_
    refine go_if2 mm_103 rfl (p1 := 10) (p2 := 19) rfl (fun (hc2 : v1 < 12) => ?_) (fun (hc2 : ¬ v1 < 12) => ?_)
    · rw [if_pos hc2] at hr
      refine go_run mm_103 3 (pc' := 15) (ls' := [some (.ref 32), some (.int v1)]) (st' := [.int v1, .ref 37]) (S' := S) rfl ?_
      obtain ⟨hb3, hr⟩ := ck_some hr
      refine go_iaload mm_103 (q := (Int32.toNatClampNeg v1)) rfl rfl rfl (ibd_ok hb3) ?_
      show Go XC d 103 0 16 [some (.ref 32), some (.int v1)] [.int (S.1 37 (Int32.toNatClampNeg v1))] S (RV (vI r) S)
      refine go_run mm_103 1 (pc' := 20) (ls' := [some (.ref 32), some (.int v1)]) (st' := [.int (S.1 37 (Int32.toNatClampNeg v1))]) (S' := S) rfl ?_
      cases hr
      exact go_ireturn mm_103 rfl rfl ⟨rfl, rfl, rfl⟩
    · rw [if_neg hc2] at hr
      refine go_run mm_103 1 (pc' := 20) (ls' := [some (.ref 32), some (.int v1)]) (st' := [.int 0]) (S' := S) rfl ?_
      cases hr
      exact go_ireturn mm_103 rfl rfl ⟨rfl, rfl, rfl⟩
