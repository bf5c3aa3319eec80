/-! methods as functions (printed by a program): 32 liesOn, 72 pointCount, 74 fromAnyOf, 75 fromEdge, 2 fewestEdges, 7 pick, 5 pointsNeeded -/
theorem mm_32 : mtG 32 = some (mi_32, 4, ft_32) := rfl
def F_32 (h0 : Nat) (v1 : Int32) (v2 : Int32) (v3 : Int32) (v4 : Int32) (S : ST) : Option Bool := ob (F_44 h0 v1 S) (fun w1 => ob (F_45 h0 v1 S) (fun w2 => ob (F_44 h0 (F_46 h0 v1 S) S) (fun w3 => ob (F_45 h0 (F_46 h0 v1 S) S) (fun w4 => some (decide ((F_23 (w1 * v2) (w2 * v2) (w3 * v2) (w4 * v2) v3 v4) = 0) && (!(decide (v3 < (if (w3 * v2) < (w1 * v2) then (w3 * v2) else (w1 * v2)))) && (!(decide (((if (w1 * v2) < (w3 * v2) then (w3 * v2) else (w1 * v2)) : Int32) < v3)) && (!(decide (v4 < (if (w4 * v2) < (w2 * v2) then (w4 * v2) else (w2 * v2)))) && (!(decide (((if (w2 * v2) < (w4 * v2) then (w4 * v2) else (w2 * v2)) : Int32) < v4)))))))))))
set_option maxRecDepth 20000 in
theorem S_32 {d : Nat} {S : ST} {h0 : Nat} {v1 : Int32} {v2 : Int32} {v3 : Int32} {v4 : Int32} {r} (hp0 : PLH h0) (hr : F_32 h0 v1 v2 v3 v4 S = some r) : Cal XC (d + 1) 32 [.ref h0, .int v1, .int v2, .int v3, .int v4] S (RV (vZ r) S) := by
  unfold F_32 at hr
  refine cal_go 5 rfl ?_
  refine go_run mm_32 2 (pc' := 2) (ls' := [some (.ref h0), some (.int v1), some (.int v2), some (.int v3), some (.int v4), none, none, none, none, none]) (st' := [.int v1, .ref h0]) (S' := S) rfl ?_
  refine go_cv mm_32 (h := h0) (As := [.int v1]) (rest := []) (nl := 2) rfl hp0.1 (show cvOK 32 2 28 46 1 2 5 = true by decide +kernel) rfl rfl rfl (S_46 hp0 rfl) (KP_V ?_)
  show Go XC (d + 1) 32 0 5 [some (.ref h0), some (.int v1), some (.int v2), some (.int v3), some (.int v4), none, none, none, none, none] [.int (F_46 h0 v1 S)] S (RV (vZ r) S)
  refine go_run mm_32 3 (pc' := 9) (ls' := [some (.ref h0), some (.int v1), some (.int v2), some (.int v3), some (.int v4), some (.int (F_46 h0 v1 S)), none, none, none, none]) (st' := [.int v1, .ref h0]) (S' := S) rfl ?_
  obtain ⟨w1, hw1, hr⟩ := ob_some hr
  refine go_cv mm_32 (h := h0) (As := [.int v1]) (rest := []) (nl := 2) rfl hp0.1 (show cvOK 32 9 9 44 1 2 5 = true by decide +kernel) rfl rfl rfl (S_44 hp0 hw1) (KP_V ?_)
  show Go XC (d + 1) 32 0 12 [some (.ref h0), some (.int v1), some (.int v2), some (.int v3), some (.int v4), some (.int (F_46 h0 v1 S)), none, none, none, none] [.int w1] S (RV (vZ r) S)
  refine go_run mm_32 5 (pc' := 18) (ls' := [some (.ref h0), some (.int v1), some (.int v2), some (.int v3), some (.int v4), some (.int (F_46 h0 v1 S)), some (.int (w1 * v2)), none, none, none]) (st' := [.int v1, .ref h0]) (S' := S) rfl ?_
  obtain ⟨w2, hw2, hr⟩ := ob_some hr
  refine go_cv mm_32 (h := h0) (As := [.int v1]) (rest := []) (nl := 2) rfl hp0.1 (show cvOK 32 18 15 45 1 2 5 = true by decide +kernel) rfl rfl rfl (S_45 hp0 hw2) (KP_V ?_)
  show Go XC (d + 1) 32 0 21 [some (.ref h0), some (.int v1), some (.int v2), some (.int v3), some (.int v4), some (.int (F_46 h0 v1 S)), some (.int (w1 * v2)), none, none, none] [.int w2] S (RV (vZ r) S)
  refine go_run mm_32 5 (pc' := 28) (ls' := [some (.ref h0), some (.int v1), some (.int v2), some (.int v3), some (.int v4), some (.int (F_46 h0 v1 S)), some (.int (w1 * v2)), some (.int (w2 * v2)), none, none]) (st' := [.int (F_46 h0 v1 S), .ref h0]) (S' := S) rfl ?_
  obtain ⟨w3, hw3, hr⟩ := ob_some hr
  refine go_cv mm_32 (h := h0) (As := [.int (F_46 h0 v1 S)]) (rest := []) (nl := 2) rfl hp0.1 (show cvOK 32 28 9 44 1 2 5 = true by decide +kernel) rfl rfl rfl (S_44 hp0 hw3) (KP_V ?_)
  show Go XC (d + 1) 32 0 31 [some (.ref h0), some (.int v1), some (.int v2), some (.int v3), some (.int v4), some (.int (F_46 h0 v1 S)), some (.int (w1 * v2)), some (.int (w2 * v2)), none, none] [.int w3] S (RV (vZ r) S)
  refine go_run mm_32 5 (pc' := 38) (ls' := [some (.ref h0), some (.int v1), some (.int v2), some (.int v3), some (.int v4), some (.int (F_46 h0 v1 S)), some (.int (w1 * v2)), some (.int (w2 * v2)), some (.int (w3 * v2)), none]) (st' := [.int (F_46 h0 v1 S), .ref h0]) (S' := S) rfl ?_
  obtain ⟨w4, hw4, hr⟩ := ob_some hr
  refine go_cv mm_32 (h := h0) (As := [.int (F_46 h0 v1 S)]) (rest := []) (nl := 2) rfl hp0.1 (show cvOK 32 38 15 45 1 2 5 = true by decide +kernel) rfl rfl rfl (S_45 hp0 hw4) (KP_V ?_)
  show Go XC (d + 1) 32 0 41 [some (.ref h0), some (.int v1), some (.int v2), some (.int v3), some (.int v4), some (.int (F_46 h0 v1 S)), some (.int (w1 * v2)), some (.int (w2 * v2)), some (.int (w3 * v2)), none] [.int w4] S (RV (vZ r) S)
  refine go_run mm_32 9 (pc' := 56) (ls' := [some (.ref h0), some (.int v1), some (.int v2), some (.int v3), some (.int v4), some (.int (F_46 h0 v1 S)), some (.int (w1 * v2)), some (.int (w2 * v2)), some (.int (w3 * v2)), some (.int (w4 * v2))]) (st' := [.int v4, .int v3, .int (w4 * v2), .int (w3 * v2), .int (w2 * v2), .int (w1 * v2)]) (S' := S) rfl ?_
  refine go_cs mm_32 (av := [.int (w1 * v2), .int (w2 * v2), .int (w3 * v2), .int (w4 * v2), .int v3, .int v4]) (rest := []) (nl := 6) rfl (show csOK 32 56 18 23 6 6 = true by decide +kernel) rfl rfl rfl (S_23 rfl) (KP_V ?_)
  show Go XC (d + 1) 32 0 59 [some (.ref h0), some (.int v1), some (.int v2), some (.int v3), some (.int v4), some (.int (F_46 h0 v1 S)), some (.int (w1 * v2)), some (.int (w2 * v2)), some (.int (w3 * v2)), some (.int (w4 * v2))] [.int (F_23 (w1 * v2) (w2 * v2) (w3 * v2) (w4 * v2) v3 v4)] S (RV (vZ r) S)
  have j10 : Go XC (d + 1) 32 0 113 [some (.ref h0), some (.int v1), some (.int v2), some (.int v3), some (.int v4), some (.int (F_46 h0 v1 S)), some (.int (w1 * v2)), some (.int (w2 * v2)), some (.int (w3 * v2)), some (.int (w4 * v2))] [.int (b2i (decide ((F_23 (w1 * v2) (w2 * v2) (w3 * v2) (w4 * v2) v3 v4) = 0) && (!(decide (v3 < (if (w3 * v2) < (w1 * v2) then (w3 * v2) else (w1 * v2)))) && (!(decide (((if (w1 * v2) < (w3 * v2) then (w3 * v2) else (w1 * v2)) : Int32) < v3)) && (!(decide (v4 < (if (w4 * v2) < (w2 * v2) then (w4 * v2) else (w2 * v2)))) && (!(decide (((if (w2 * v2) < (w4 * v2) then (w4 * v2) else (w2 * v2)) : Int32) < v4))))))))] S (RV (vZ r) S) := by
    cases hr
    exact go_zreturn mm_32 rfl rfl (b2i_01 _) ⟨rfl, rfl, rfl⟩
  refine go_if0 mm_32 rfl (p1 := 62) (p2 := 112) rfl (fun (hc1 : (F_23 (w1 * v2) (w2 * v2) (w3 * v2) (w4 * v2) v3 v4) = 0) => ?_) (fun (hc1 : ¬ (F_23 (w1 * v2) (w2 * v2) (w3 * v2) (w4 * v2) v3 v4) = 0) => ?_)
  · refine go_run mm_32 2 (pc' := 66) (ls' := [some (.ref h0), some (.int v1), some (.int v2), some (.int v3), some (.int v4), some (.int (F_46 h0 v1 S)), some (.int (w1 * v2)), some (.int (w2 * v2)), some (.int (w3 * v2)), some (.int (w4 * v2))]) (st' := [.int (w3 * v2), .int (w1 * v2)]) (S' := S) rfl ?_
    refine go_mm (pc' := 69) (st' := [.int (if (w3 * v2) < (w1 * v2) then (w3 * v2) else (w1 * v2))]) (fun lv σ => rfl) ?_
    show Go XC (d + 1) 32 0 69 [some (.ref h0), some (.int v1), some (.int v2), some (.int v3), some (.int v4), some (.int (F_46 h0 v1 S)), some (.int (w1 * v2)), some (.int (w2 * v2)), some (.int (w3 * v2)), some (.int (w4 * v2))] [.int (if (w3 * v2) < (w1 * v2) then (w3 * v2) else (w1 * v2))] S (RV (vZ r) S)
    refine go_run mm_32 1 (pc' := 70) (ls' := [some (.ref h0), some (.int v1), some (.int v2), some (.int v3), some (.int v4), some (.int (F_46 h0 v1 S)), some (.int (w1 * v2)), some (.int (w2 * v2)), some (.int (w3 * v2)), some (.int (w4 * v2))]) (st' := [.int v3, .int (if (w3 * v2) < (w1 * v2) then (w3 * v2) else (w1 * v2))]) (S' := S) rfl ?_
    have j9 : Go XC (d + 1) 32 0 113 [some (.ref h0), some (.int v1), some (.int v2), some (.int v3), some (.int v4), some (.int (F_46 h0 v1 S)), some (.int (w1 * v2)), some (.int (w2 * v2)), some (.int (w3 * v2)), some (.int (w4 * v2))] [.int (b2i (!(decide (v3 < (if (w3 * v2) < (w1 * v2) then (w3 * v2) else (w1 * v2)))) && (!(decide (((if (w1 * v2) < (w3 * v2) then (w3 * v2) else (w1 * v2)) : Int32) < v3)) && (!(decide (v4 < (if (w4 * v2) < (w2 * v2) then (w4 * v2) else (w2 * v2)))) && (!(decide (((if (w2 * v2) < (w4 * v2) then (w4 * v2) else (w2 * v2)) : Int32) < v4)))))))] S (RV (vZ r) S) := by
      have e : ((b2i (decide ((F_23 (w1 * v2) (w2 * v2) (w3 * v2) (w4 * v2) v3 v4) = 0) && (!(decide (v3 < (if (w3 * v2) < (w1 * v2) then (w3 * v2) else (w1 * v2)))) && (!(decide (((if (w1 * v2) < (w3 * v2) then (w3 * v2) else (w1 * v2)) : Int32) < v3)) && (!(decide (v4 < (if (w4 * v2) < (w2 * v2) then (w4 * v2) else (w2 * v2)))) && (!(decide (((if (w2 * v2) < (w4 * v2) then (w4 * v2) else (w2 * v2)) : Int32) < v4)))))))) : Int32) = (b2i (!(decide (v3 < (if (w3 * v2) < (w1 * v2) then (w3 * v2) else (w1 * v2)))) && (!(decide (((if (w1 * v2) < (w3 * v2) then (w3 * v2) else (w1 * v2)) : Int32) < v3)) && (!(decide (v4 < (if (w4 * v2) < (w2 * v2) then (w4 * v2) else (w2 * v2)))) && (!(decide (((if (w2 * v2) < (w4 * v2) then (w4 * v2) else (w2 * v2)) : Int32) < v4))))))) := by simp [b2i, hc1]
      rw [e] at j10
      exact j10
    refine go_if2 mm_32 rfl (p1 := 112) (p2 := 73) rfl (fun (hc2 : v3 < (if (w3 * v2) < (w1 * v2) then (w3 * v2) else (w1 * v2))) => ?_) (fun (hc2 : ¬ v3 < (if (w3 * v2) < (w1 * v2) then (w3 * v2) else (w1 * v2))) => ?_)
    · refine go_run mm_32 1 (pc' := 113) (ls' := [some (.ref h0), some (.int v1), some (.int v2), some (.int v3), some (.int v4), some (.int (F_46 h0 v1 S)), some (.int (w1 * v2)), some (.int (w2 * v2)), some (.int (w3 * v2)), some (.int (w4 * v2))]) (st' := [.int 0]) (S' := S) rfl ?_
      have e : ((b2i (!(decide (v3 < (if (w3 * v2) < (w1 * v2) then (w3 * v2) else (w1 * v2)))) && (!(decide (((if (w1 * v2) < (w3 * v2) then (w3 * v2) else (w1 * v2)) : Int32) < v3)) && (!(decide (v4 < (if (w4 * v2) < (w2 * v2) then (w4 * v2) else (w2 * v2)))) && (!(decide (((if (w2 * v2) < (w4 * v2) then (w4 * v2) else (w2 * v2)) : Int32) < v4))))))) : Int32) = 0 := by simp [b2i, hc2]
      rw [e] at j9
      exact j9
    · refine go_run mm_32 3 (pc' := 78) (ls' := [some (.ref h0), some (.int v1), some (.int v2), some (.int v3), some (.int v4), some (.int (F_46 h0 v1 S)), some (.int (w1 * v2)), some (.int (w2 * v2)), some (.int (w3 * v2)), some (.int (w4 * v2))]) (st' := [.int (w3 * v2), .int (w1 * v2), .int v3]) (S' := S) rfl ?_
      refine go_mm (pc' := 81) (st' := [.int (if (w1 * v2) < (w3 * v2) then (w3 * v2) else (w1 * v2)), .int v3]) (fun lv σ => rfl) ?_
      show Go XC (d + 1) 32 0 81 [some (.ref h0), some (.int v1), some (.int v2), some (.int v3), some (.int v4), some (.int (F_46 h0 v1 S)), some (.int (w1 * v2)), some (.int (w2 * v2)), some (.int (w3 * v2)), some (.int (w4 * v2))] [.int (if (w1 * v2) < (w3 * v2) then (w3 * v2) else (w1 * v2)), .int v3] S (RV (vZ r) S)
      have j8 : Go XC (d + 1) 32 0 113 [some (.ref h0), some (.int v1), some (.int v2), some (.int v3), some (.int v4), some (.int (F_46 h0 v1 S)), some (.int (w1 * v2)), some (.int (w2 * v2)), some (.int (w3 * v2)), some (.int (w4 * v2))] [.int (b2i (!(decide (((if (w1 * v2) < (w3 * v2) then (w3 * v2) else (w1 * v2)) : Int32) < v3)) && (!(decide (v4 < (if (w4 * v2) < (w2 * v2) then (w4 * v2) else (w2 * v2)))) && (!(decide (((if (w2 * v2) < (w4 * v2) then (w4 * v2) else (w2 * v2)) : Int32) < v4))))))] S (RV (vZ r) S) := by
        have e : ((b2i (!(decide (v3 < (if (w3 * v2) < (w1 * v2) then (w3 * v2) else (w1 * v2)))) && (!(decide (((if (w1 * v2) < (w3 * v2) then (w3 * v2) else (w1 * v2)) : Int32) < v3)) && (!(decide (v4 < (if (w4 * v2) < (w2 * v2) then (w4 * v2) else (w2 * v2)))) && (!(decide (((if (w2 * v2) < (w4 * v2) then (w4 * v2) else (w2 * v2)) : Int32) < v4))))))) : Int32) = (b2i (!(decide (((if (w1 * v2) < (w3 * v2) then (w3 * v2) else (w1 * v2)) : Int32) < v3)) && (!(decide (v4 < (if (w4 * v2) < (w2 * v2) then (w4 * v2) else (w2 * v2)))) && (!(decide (((if (w2 * v2) < (w4 * v2) then (w4 * v2) else (w2 * v2)) : Int32) < v4)))))) := by simp [b2i, hc2]
        rw [e] at j9
        exact j9
      refine go_if2 mm_32 rfl (p1 := 112) (p2 := 84) rfl (fun (hc3 : ((if (w1 * v2) < (w3 * v2) then (w3 * v2) else (w1 * v2)) : Int32) < v3) => ?_) (fun (hc3 : ¬ ((if (w1 * v2) < (w3 * v2) then (w3 * v2) else (w1 * v2)) : Int32) < v3) => ?_)
      · refine go_run mm_32 1 (pc' := 113) (ls' := [some (.ref h0), some (.int v1), some (.int v2), some (.int v3), some (.int v4), some (.int (F_46 h0 v1 S)), some (.int (w1 * v2)), some (.int (w2 * v2)), some (.int (w3 * v2)), some (.int (w4 * v2))]) (st' := [.int 0]) (S' := S) rfl ?_
        have e : ((b2i (!(decide (((if (w1 * v2) < (w3 * v2) then (w3 * v2) else (w1 * v2)) : Int32) < v3)) && (!(decide (v4 < (if (w4 * v2) < (w2 * v2) then (w4 * v2) else (w2 * v2)))) && (!(decide (((if (w2 * v2) < (w4 * v2) then (w4 * v2) else (w2 * v2)) : Int32) < v4)))))) : Int32) = 0 := by simp [b2i, hc3]
        rw [e] at j8
        exact j8
      · refine go_run mm_32 2 (pc' := 88) (ls' := [some (.ref h0), some (.int v1), some (.int v2), some (.int v3), some (.int v4), some (.int (F_46 h0 v1 S)), some (.int (w1 * v2)), some (.int (w2 * v2)), some (.int (w3 * v2)), some (.int (w4 * v2))]) (st' := [.int (w4 * v2), .int (w2 * v2)]) (S' := S) rfl ?_
        refine go_mm (pc' := 91) (st' := [.int (if (w4 * v2) < (w2 * v2) then (w4 * v2) else (w2 * v2))]) (fun lv σ => rfl) ?_
        show Go XC (d + 1) 32 0 91 [some (.ref h0), some (.int v1), some (.int v2), some (.int v3), some (.int v4), some (.int (F_46 h0 v1 S)), some (.int (w1 * v2)), some (.int (w2 * v2)), some (.int (w3 * v2)), some (.int (w4 * v2))] [.int (if (w4 * v2) < (w2 * v2) then (w4 * v2) else (w2 * v2))] S (RV (vZ r) S)
        refine go_run mm_32 1 (pc' := 93) (ls' := [some (.ref h0), some (.int v1), some (.int v2), some (.int v3), some (.int v4), some (.int (F_46 h0 v1 S)), some (.int (w1 * v2)), some (.int (w2 * v2)), some (.int (w3 * v2)), some (.int (w4 * v2))]) (st' := [.int v4, .int (if (w4 * v2) < (w2 * v2) then (w4 * v2) else (w2 * v2))]) (S' := S) rfl ?_
        have j7 : Go XC (d + 1) 32 0 113 [some (.ref h0), some (.int v1), some (.int v2), some (.int v3), some (.int v4), some (.int (F_46 h0 v1 S)), some (.int (w1 * v2)), some (.int (w2 * v2)), some (.int (w3 * v2)), some (.int (w4 * v2))] [.int (b2i (!(decide (v4 < (if (w4 * v2) < (w2 * v2) then (w4 * v2) else (w2 * v2)))) && (!(decide (((if (w2 * v2) < (w4 * v2) then (w4 * v2) else (w2 * v2)) : Int32) < v4)))))] S (RV (vZ r) S) := by
          have e : ((b2i (!(decide (((if (w1 * v2) < (w3 * v2) then (w3 * v2) else (w1 * v2)) : Int32) < v3)) && (!(decide (v4 < (if (w4 * v2) < (w2 * v2) then (w4 * v2) else (w2 * v2)))) && (!(decide (((if (w2 * v2) < (w4 * v2) then (w4 * v2) else (w2 * v2)) : Int32) < v4)))))) : Int32) = (b2i (!(decide (v4 < (if (w4 * v2) < (w2 * v2) then (w4 * v2) else (w2 * v2)))) && (!(decide (((if (w2 * v2) < (w4 * v2) then (w4 * v2) else (w2 * v2)) : Int32) < v4))))) := by simp [b2i, hc3]
          rw [e] at j8
          exact j8
        refine go_if2 mm_32 rfl (p1 := 112) (p2 := 96) rfl (fun (hc4 : v4 < (if (w4 * v2) < (w2 * v2) then (w4 * v2) else (w2 * v2))) => ?_) (fun (hc4 : ¬ v4 < (if (w4 * v2) < (w2 * v2) then (w4 * v2) else (w2 * v2))) => ?_)
        · refine go_run mm_32 1 (pc' := 113) (ls' := [some (.ref h0), some (.int v1), some (.int v2), some (.int v3), some (.int v4), some (.int (F_46 h0 v1 S)), some (.int (w1 * v2)), some (.int (w2 * v2)), some (.int (w3 * v2)), some (.int (w4 * v2))]) (st' := [.int 0]) (S' := S) rfl ?_
          have e : ((b2i (!(decide (v4 < (if (w4 * v2) < (w2 * v2) then (w4 * v2) else (w2 * v2)))) && (!(decide (((if (w2 * v2) < (w4 * v2) then (w4 * v2) else (w2 * v2)) : Int32) < v4))))) : Int32) = 0 := by simp [b2i, hc4]
          rw [e] at j7
          exact j7
        · refine go_run mm_32 3 (pc' := 102) (ls' := [some (.ref h0), some (.int v1), some (.int v2), some (.int v3), some (.int v4), some (.int (F_46 h0 v1 S)), some (.int (w1 * v2)), some (.int (w2 * v2)), some (.int (w3 * v2)), some (.int (w4 * v2))]) (st' := [.int (w4 * v2), .int (w2 * v2), .int v4]) (S' := S) rfl ?_
          refine go_mm (pc' := 105) (st' := [.int (if (w2 * v2) < (w4 * v2) then (w4 * v2) else (w2 * v2)), .int v4]) (fun lv σ => rfl) ?_
          show Go XC (d + 1) 32 0 105 [some (.ref h0), some (.int v1), some (.int v2), some (.int v3), some (.int v4), some (.int (F_46 h0 v1 S)), some (.int (w1 * v2)), some (.int (w2 * v2)), some (.int (w3 * v2)), some (.int (w4 * v2))] [.int (if (w2 * v2) < (w4 * v2) then (w4 * v2) else (w2 * v2)), .int v4] S (RV (vZ r) S)
          have j6 : Go XC (d + 1) 32 0 113 [some (.ref h0), some (.int v1), some (.int v2), some (.int v3), some (.int v4), some (.int (F_46 h0 v1 S)), some (.int (w1 * v2)), some (.int (w2 * v2)), some (.int (w3 * v2)), some (.int (w4 * v2))] [.int (b2i (!(decide (((if (w2 * v2) < (w4 * v2) then (w4 * v2) else (w2 * v2)) : Int32) < v4))))] S (RV (vZ r) S) := by
            have e : ((b2i (!(decide (v4 < (if (w4 * v2) < (w2 * v2) then (w4 * v2) else (w2 * v2)))) && (!(decide (((if (w2 * v2) < (w4 * v2) then (w4 * v2) else (w2 * v2)) : Int32) < v4))))) : Int32) = (b2i (!(decide (((if (w2 * v2) < (w4 * v2) then (w4 * v2) else (w2 * v2)) : Int32) < v4)))) := by simp [b2i, hc4]
            rw [e] at j7
            exact j7
          refine go_if2 mm_32 rfl (p1 := 112) (p2 := 108) rfl (fun (hc5 : ((if (w2 * v2) < (w4 * v2) then (w4 * v2) else (w2 * v2)) : Int32) < v4) => ?_) (fun (hc5 : ¬ ((if (w2 * v2) < (w4 * v2) then (w4 * v2) else (w2 * v2)) : Int32) < v4) => ?_)
          · refine go_run mm_32 1 (pc' := 113) (ls' := [some (.ref h0), some (.int v1), some (.int v2), some (.int v3), some (.int v4), some (.int (F_46 h0 v1 S)), some (.int (w1 * v2)), some (.int (w2 * v2)), some (.int (w3 * v2)), some (.int (w4 * v2))]) (st' := [.int 0]) (S' := S) rfl ?_
            have e : ((b2i (!(decide (((if (w2 * v2) < (w4 * v2) then (w4 * v2) else (w2 * v2)) : Int32) < v4)))) : Int32) = 0 := by simp [b2i, hc5]
            rw [e] at j6
            exact j6
          · refine go_run mm_32 2 (pc' := 113) (ls' := [some (.ref h0), some (.int v1), some (.int v2), some (.int v3), some (.int v4), some (.int (F_46 h0 v1 S)), some (.int (w1 * v2)), some (.int (w2 * v2)), some (.int (w3 * v2)), some (.int (w4 * v2))]) (st' := [.int 1]) (S' := S) rfl ?_
            have e : ((b2i (!(decide (((if (w2 * v2) < (w4 * v2) then (w4 * v2) else (w2 * v2)) : Int32) < v4)))) : Int32) = 1 := by simp [b2i, hc5]
            rw [e] at j6
            exact j6
  · refine go_run mm_32 1 (pc' := 113) (ls' := [some (.ref h0), some (.int v1), some (.int v2), some (.int v3), some (.int v4), some (.int (F_46 h0 v1 S)), some (.int (w1 * v2)), some (.int (w2 * v2)), some (.int (w3 * v2)), some (.int (w4 * v2))]) (st' := [.int 0]) (S' := S) rfl ?_
    have e : ((b2i (decide ((F_23 (w1 * v2) (w2 * v2) (w3 * v2) (w4 * v2) v3 v4) = 0) && (!(decide (v3 < (if (w3 * v2) < (w1 * v2) then (w3 * v2) else (w1 * v2)))) && (!(decide (((if (w1 * v2) < (w3 * v2) then (w3 * v2) else (w1 * v2)) : Int32) < v3)) && (!(decide (v4 < (if (w4 * v2) < (w2 * v2) then (w4 * v2) else (w2 * v2)))) && (!(decide (((if (w2 * v2) < (w4 * v2) then (w4 * v2) else (w2 * v2)) : Int32) < v4)))))))) : Int32) = 0 := by simp [b2i, hc1]
    rw [e] at j10
    exact j10

theorem mm_72 : mtG 72 = some (mi_72, 7, ft_72) := rfl
def F_72 (S : ST) : Int32 := (if 64 < (S.1 21 0) then 64 else (S.1 21 0))
set_option maxRecDepth 20000 in
theorem S_72 {d : Nat} {S : ST} {r} (hr : F_72 S = r) : Cal XC d 72 [.ref 30] S (RV (vI r) S) := by
  unfold F_72 at hr
  refine cal_go 0 rfl ?_
  refine go_run mm_72 4 (pc' := 9) (ls' := [some (.ref 30)]) (st' := [.int 64, .int (S.1 21 0)]) (S' := S) rfl ?_
  refine go_mm (pc' := 12) (st' := [.int (if 64 < (S.1 21 0) then 64 else (S.1 21 0))]) (fun lv σ => rfl) ?_
  show Go XC d 72 0 12 [some (.ref 30)] [.int (if 64 < (S.1 21 0) then 64 else (S.1 21 0))] S (RV (vI r) S)
  cases hr
  exact go_ireturn mm_72 rfl rfl ⟨rfl, rfl, rfl⟩

theorem mm_74 : mtG 74 = some (mi_74, 7, ft_74) := rfl
def L_74_5 (v1 : Int64) (S : ST) (a5 : Int64 × Int32) : Option ((Int64 × Int32) ⊕ (Int64 × Int32)) := if a5.2 < 64 then (if (F_177 v1 a5.2) = true then (ck (ibd a5.2 64) (some (.inl (a5.1 ||| (S.2 31 (Int32.toNatClampNeg a5.2)), a5.2 + 1)))) else (some (.inl (a5.1, a5.2 + 1)))) else (some (.inr (a5.1, a5.2)))
set_option maxRecDepth 20000 in
theorem LS_74_5 {d : Nat} {R : RT} {S : ST} {v1 : Int64} {a5 : Int64 × Int32} {r9} (hr : L_74_5 v1 S a5 = some r9) (hL : ∀ a9, r9 = .inl a9 → (fun a5 => Go XC (d + 1) 74 0 5 [some (.ref 30), some (.long v1), none, some (.long a5.1), none, some (.int a5.2)] [] S R) a9) (hR : ∀ b9, r9 = .inr b9 → (fun e5 => Go XC (d + 1) 74 0 37 [some (.ref 30), some (.long v1), none, some (.long e5.1), none, some (.int e5.2)] [] S R) b9) : Go XC (d + 1) 74 0 5 [some (.ref 30), some (.long v1), none, some (.long a5.1), none, some (.int a5.2)] [] S R := by
  unfold L_74_5 at hr
  refine go_run mm_74 2 (pc' := 9) (ls' := [some (.ref 30), some (.long v1), none, some (.long a5.1), none, some (.int a5.2)]) (st' := [.int 64, .int a5.2]) (S' := S) rfl ?_
  refine go_if2 mm_74 rfl (p1 := 12) (p2 := 37) rfl (fun (hc1 : a5.2 < 64) => ?_) (fun (hc1 : ¬ a5.2 < 64) => ?_)
  · rw [if_pos hc1] at hr
    refine go_run mm_74 2 (pc' := 15) (ls' := [some (.ref 30), some (.long v1), none, some (.long a5.1), none, some (.int a5.2)]) (st' := [.int a5.2, .long v1]) (S' := S) rfl ?_
    refine go_cs mm_74 (av := [.long v1, .int a5.2]) (rest := []) (nl := 3) rfl (show csOK 74 15 74 177 2 3 = true by decide +kernel) rfl rfl rfl (S_177 rfl) (KP_V ?_)
    show Go XC (d + 1) 74 0 18 [some (.ref 30), some (.long v1), none, some (.long a5.1), none, some (.int a5.2)] [.int (b2i (F_177 v1 a5.2))] S R
    refine go_ifb mm_74 rfl (p1 := 21) (p2 := 31) rfl (fun (hc2 : (F_177 v1 a5.2) = true) => ?_) (fun (hc2 : (F_177 v1 a5.2) = false) => ?_)
    · rw [if_pos hc2] at hr
      refine go_run mm_74 4 (pc' := 28) (ls' := [some (.ref 30), some (.long v1), none, some (.long a5.1), none, some (.int a5.2)]) (st' := [.int a5.2, .ref 31, .long a5.1]) (S' := S) rfl ?_
      obtain ⟨hb3, hr⟩ := ck_some hr
      refine go_laload mm_74 (q := (Int32.toNatClampNeg a5.2)) rfl rfl rfl (ibd_ok hb3) ?_
      show Go XC (d + 1) 74 0 29 [some (.ref 30), some (.long v1), none, some (.long a5.1), none, some (.int a5.2)] [.long (S.2 31 (Int32.toNatClampNeg a5.2)), .long a5.1] S R
      refine go_run mm_74 4 (pc' := 5) (ls' := [some (.ref 30), some (.long v1), none, some (.long (a5.1 ||| (S.2 31 (Int32.toNatClampNeg a5.2)))), none, some (.int (a5.2 + 1))]) (st' := []) (S' := S) rfl ?_
      cases hr
      have h9 := hL (a5.1 ||| (S.2 31 (Int32.toNatClampNeg a5.2)), a5.2 + 1) rfl
      dsimp only at h9
      exact Go.le h9 (by repeat first | exact True.intro | refine And.intro rfl ?_)
    · rw [if_neg (bf hc2)] at hr
      refine go_run mm_74 2 (pc' := 5) (ls' := [some (.ref 30), some (.long v1), none, some (.long a5.1), none, some (.int (a5.2 + 1))]) (st' := []) (S' := S) rfl ?_
      cases hr
      have h9 := hL (a5.1, a5.2 + 1) rfl
      dsimp only at h9
      exact Go.le h9 (by repeat first | exact True.intro | refine And.intro rfl ?_)
  · rw [if_neg hc1] at hr
    cases hr
    have h9 := hR (a5.1, a5.2) rfl
    dsimp only [Sum.elim_inl] at h9
    exact Go.le h9 (by repeat first | exact True.intro | refine And.intro rfl ?_)
def F_74 (v1 : Int64) (S : ST) : Option Int64 := ob (wh FU (L_74_5 v1 S) (0, 0)) (fun e5 => some e5.1)
set_option maxRecDepth 20000 in
theorem S_74 {d : Nat} {S : ST} {v1 : Int64} {r} (hr : F_74 v1 S = some r) : Cal XC (d + 1) 74 [.ref 30, .long v1] S (RV (vJ r) S) := by
  unfold F_74 at hr
  refine cal_go 3 rfl ?_
  refine go_run mm_74 4 (pc' := 5) (ls' := [some (.ref 30), some (.long v1), none, some (.long 0), none, some (.int 0)]) (st' := []) (S' := S) rfl ?_
  obtain ⟨z5, he5, hr⟩ := ob_some hr
  refine Go.le (ls' := [some (.ref 30), some (.long v1), none, some (.long 0), none, some (.int 0)]) ?_ (by repeat first | exact True.intro | refine And.intro rfl ?_)
  refine wh_go (P := fun a5 => Go XC (d + 1) 74 0 5 [some (.ref 30), some (.long v1), none, some (.long a5.1), none, some (.int a5.2)] [] S (RV (vJ r) S)) (K := fun e5 => Go XC (d + 1) 74 0 37 [some (.ref 30), some (.long v1), none, some (.long e5.1), none, some (.int e5.2)] [] S (RV (vJ r) S)) (fun a9 r9 h9 hL hR => LS_74_5 h9 hL hR) _ _ _ he5 ?_
  generalize z5 = e5 at hr
  show Go XC (d + 1) 74 0 37 [some (.ref 30), some (.long v1), none, some (.long e5.1), none, some (.int e5.2)] [] S (RV (vJ r) S)
  refine go_run mm_74 1 (pc' := 38) (ls' := [some (.ref 30), some (.long v1), none, some (.long e5.1), none, some (.int e5.2)]) (st' := [.long e5.1]) (S' := S) rfl ?_
  cases hr
  exact go_lreturn mm_74 rfl rfl ⟨rfl, rfl, rfl⟩

theorem mm_75 : mtG 75 = some (mi_75, 7, ft_75) := rfl
def L_75_5 (v1 : Int32) (S : ST) (a5 : Int64 × Int32) : Option ((Int64 × Int32) ⊕ (Int64 × Int32)) := if a5.2 < (F_72 S) then (ob (F_19 21 a5.2 S) (fun w1 => ob (F_20 21 a5.2 S) (fun w2 => ob (F_32 3 v1 1 w1 w2 S) (fun w3 => if w3 = true then (some (.inl (a5.1 ||| (1 <<< (Int32.toInt64 a5.2 &&& 63)), a5.2 + 1))) else (some (.inl (a5.1, a5.2 + 1))))))) else (some (.inr (a5.1, a5.2)))
set_option maxRecDepth 20000 in
theorem LS_75_5 {d : Nat} {R : RT} {S : ST} {v1 : Int32} {a5 : Int64 × Int32} {r9} (hr : L_75_5 v1 S a5 = some r9) (hL : ∀ a9, r9 = .inl a9 → (fun a5 => Go XC (d + 2) 75 0 5 [some (.ref 30), some (.int v1), some (.long a5.1), none, some (.int a5.2)] [] S R) a9) (hR : ∀ b9, r9 = .inr b9 → (fun e5 => Go XC (d + 2) 75 0 57 [some (.ref 30), some (.int v1), some (.long e5.1), none, some (.int e5.2)] [] S R) b9) : Go XC (d + 2) 75 0 5 [some (.ref 30), some (.int v1), some (.long a5.1), none, some (.int a5.2)] [] S R := by
  unfold L_75_5 at hr
  refine go_run mm_75 2 (pc' := 8) (ls' := [some (.ref 30), some (.int v1), some (.long a5.1), none, some (.int a5.2)]) (st' := [.ref 30, .int a5.2]) (S' := S) rfl ?_
  refine go_cv mm_75 (h := 30) (As := []) (rest := [.int a5.2]) (nl := 1) rfl rfl (show cvOK 75 8 87 72 0 1 6 = true by decide +kernel) rfl rfl rfl (S_72 rfl) (KP_V ?_)
  show Go XC (d + 2) 75 0 11 [some (.ref 30), some (.int v1), some (.long a5.1), none, some (.int a5.2)] [.int (F_72 S), .int a5.2] S R
  refine go_if2 mm_75 rfl (p1 := 14) (p2 := 57) rfl (fun (hc1 : a5.2 < (F_72 S)) => ?_) (fun (hc1 : ¬ a5.2 < (F_72 S)) => ?_)
  · rw [if_pos hc1] at hr
    refine go_run mm_75 7 (pc' := 26) (ls' := [some (.ref 30), some (.int v1), some (.long a5.1), none, some (.int a5.2)]) (st' := [.int a5.2, .ref 21, .int 1, .int v1, .ref 3]) (S' := S) rfl ?_
    obtain ⟨w1, hw1, hr⟩ := ob_some hr
    refine go_cv mm_75 (h := 21) (As := [.int a5.2]) (rest := [.int 1, .int v1, .ref 3]) (nl := 2) rfl rfl (show cvOK 75 26 37 19 1 2 3 = true by decide +kernel) rfl rfl rfl (S_19 (ltB_ok rfl) hw1) (KP_V ?_)
    show Go XC (d + 2) 75 0 29 [some (.ref 30), some (.int v1), some (.long a5.1), none, some (.int a5.2)] [.int w1, .int 1, .int v1, .ref 3] S R
    refine go_run mm_75 3 (pc' := 35) (ls' := [some (.ref 30), some (.int v1), some (.long a5.1), none, some (.int a5.2)]) (st' := [.int a5.2, .ref 21, .int w1, .int 1, .int v1, .ref 3]) (S' := S) rfl ?_
    obtain ⟨w2, hw2, hr⟩ := ob_some hr
    refine go_cv mm_75 (h := 21) (As := [.int a5.2]) (rest := [.int w1, .int 1, .int v1, .ref 3]) (nl := 2) rfl rfl (show cvOK 75 35 41 20 1 2 3 = true by decide +kernel) rfl rfl rfl (S_20 (ltB_ok rfl) hw2) (KP_V ?_)
    show Go XC (d + 2) 75 0 38 [some (.ref 30), some (.int v1), some (.long a5.1), none, some (.int a5.2)] [.int w2, .int w1, .int 1, .int v1, .ref 3] S R
    obtain ⟨w3, hw3, hr⟩ := ob_some hr
    refine go_cs mm_75 (av := [.ref 3, .int v1, .int 1, .int w1, .int w2]) (rest := []) (nl := 10) rfl (show csOK 75 38 91 32 5 10 = true by decide +kernel) rfl rfl rfl (S_32 (plB_ok rfl) hw3) (KP_V ?_)
    show Go XC (d + 2) 75 0 41 [some (.ref 30), some (.int v1), some (.long a5.1), none, some (.int a5.2)] [.int (b2i w3)] S R
    refine go_ifb mm_75 rfl (p1 := 44) (p2 := 51) rfl (fun (hc2 : w3 = true) => ?_) (fun (hc2 : w3 = false) => ?_)
    · rw [if_pos hc2] at hr
      refine go_run mm_75 8 (pc' := 5) (ls' := [some (.ref 30), some (.int v1), some (.long (a5.1 ||| (1 <<< (Int32.toInt64 a5.2 &&& 63)))), none, some (.int (a5.2 + 1))]) (st' := []) (S' := S) rfl ?_
      cases hr
      have h9 := hL (a5.1 ||| (1 <<< (Int32.toInt64 a5.2 &&& 63)), a5.2 + 1) rfl
      dsimp only at h9
      exact Go.le h9 (by repeat first | exact True.intro | refine And.intro rfl ?_)
    · rw [if_neg (bf hc2)] at hr
      refine go_run mm_75 2 (pc' := 5) (ls' := [some (.ref 30), some (.int v1), some (.long a5.1), none, some (.int (a5.2 + 1))]) (st' := []) (S' := S) rfl ?_
      cases hr
      have h9 := hL (a5.1, a5.2 + 1) rfl
      dsimp only at h9
      exact Go.le h9 (by repeat first | exact True.intro | refine And.intro rfl ?_)
  · rw [if_neg hc1] at hr
    cases hr
    have h9 := hR (a5.1, a5.2) rfl
    dsimp only [Sum.elim_inl] at h9
    exact Go.le h9 (by repeat first | exact True.intro | refine And.intro rfl ?_)
def F_75 (v1 : Int32) (S : ST) : Option Int64 := ob (wh FU (L_75_5 v1 S) (0, 0)) (fun e5 => ob (F_74 e5.1 S) (fun w4 => some w4))
set_option maxRecDepth 20000 in
theorem S_75 {d : Nat} {S : ST} {v1 : Int32} {r} (hr : F_75 v1 S = some r) : Cal XC (d + 2) 75 [.ref 30, .int v1] S (RV (vJ r) S) := by
  unfold F_75 at hr
  refine cal_go 3 rfl ?_
  refine go_run mm_75 4 (pc' := 5) (ls' := [some (.ref 30), some (.int v1), some (.long 0), none, some (.int 0)]) (st' := []) (S' := S) rfl ?_
  obtain ⟨z5, he5, hr⟩ := ob_some hr
  refine Go.le (ls' := [some (.ref 30), some (.int v1), some (.long 0), none, some (.int 0)]) ?_ (by repeat first | exact True.intro | refine And.intro rfl ?_)
  refine wh_go (P := fun a5 => Go XC (d + 2) 75 0 5 [some (.ref 30), some (.int v1), some (.long a5.1), none, some (.int a5.2)] [] S (RV (vJ r) S)) (K := fun e5 => Go XC (d + 2) 75 0 57 [some (.ref 30), some (.int v1), some (.long e5.1), none, some (.int e5.2)] [] S (RV (vJ r) S)) (fun a9 r9 h9 hL hR => LS_75_5 h9 hL hR) _ _ _ he5 ?_
  generalize z5 = e5 at hr
  show Go XC (d + 2) 75 0 57 [some (.ref 30), some (.int v1), some (.long e5.1), none, some (.int e5.2)] [] S (RV (vJ r) S)
  refine go_run mm_75 2 (pc' := 59) (ls' := [some (.ref 30), some (.int v1), some (.long e5.1), none, some (.int e5.2)]) (st' := [.long e5.1, .ref 30]) (S' := S) rfl ?_
  obtain ⟨w4, hw4, hr⟩ := ob_some hr
  refine go_cv mm_75 (h := 30) (As := [.long e5.1]) (rest := []) (nl := 6) rfl rfl (show cvOK 75 59 95 74 1 6 6 = true by decide +kernel) rfl rfl rfl (S_74 hw4) (KP_V ?_)
  show Go XC (d + 2) 75 0 62 [some (.ref 30), some (.int v1), some (.long e5.1), none, some (.int e5.2)] [.long w4] S (RV (vJ r) S)
  cases hr
  exact go_lreturn mm_75 rfl rfl ⟨rfl, rfl, rfl⟩

theorem mm_2 : mtG 2 = some (mi_2, 0, ft_2) := rfl
def L_2_9 (a9 : Int32 × ST) : Option ((Int32 × ST) ⊕ (Int32 × ST)) := if a9.1 < (a9.2.1 3 0) then (if a9.1 < 12 then (ob (F_75 a9.1 a9.2) (fun w1 => ck (ibd a9.1 12) (sbn ((wL a9.2 40 (Int32.toNatClampNeg a9.1) w1)) (fun s5 => some (.inl (a9.1 + 1, s5)))))) else (some (.inr (a9.1, a9.2)))) else (some (.inr (a9.1, a9.2)))
set_option maxRecDepth 20000 in
theorem LS_2_9 {d : Nat} {R : RT} {a9 : Int32 × ST} {r9} (hr : L_2_9 a9 = some r9) (hL : ∀ a9, r9 = .inl a9 → (fun a9 => Go XC (d + 3) 2 0 9 [some (.ref 39), some (.int a9.1)] [] a9.2 R) a9) (hR : ∀ b9, r9 = .inr b9 → (fun e9 => Go XC (d + 3) 2 0 46 [some (.ref 39), some (.int e9.1)] [] e9.2 R) b9) : Go XC (d + 3) 2 0 9 [some (.ref 39), some (.int a9.1)] [] a9.2 R := by
  unfold L_2_9 at hr
  refine go_run mm_2 4 (pc' := 17) (ls' := [some (.ref 39), some (.int a9.1)]) (st' := [.int (a9.2.1 3 0), .int a9.1]) (S' := a9.2) rfl ?_
  refine go_if2 mm_2 rfl (p1 := 20) (p2 := 46) rfl (fun (hc2 : a9.1 < (a9.2.1 3 0)) => ?_) (fun (hc2 : ¬ a9.1 < (a9.2.1 3 0)) => ?_)
  · rw [if_pos hc2] at hr
    refine go_run mm_2 2 (pc' := 23) (ls' := [some (.ref 39), some (.int a9.1)]) (st' := [.int 12, .int a9.1]) (S' := a9.2) rfl ?_
    refine go_if2 mm_2 rfl (p1 := 26) (p2 := 46) rfl (fun (hc3 : a9.1 < 12) => ?_) (fun (hc3 : ¬ a9.1 < 12) => ?_)
    · rw [if_pos hc3] at hr
      refine go_run mm_2 6 (pc' := 36) (ls' := [some (.ref 39), some (.int a9.1)]) (st' := [.int a9.1, .ref 30, .int a9.1, .ref 40]) (S' := a9.2) rfl ?_
      obtain ⟨w1, hw1, hr⟩ := ob_some hr
      refine go_cv mm_2 (h := 30) (As := [.int a9.1]) (rest := [.int a9.1, .ref 40]) (nl := 5) rfl rfl (show cvOK 2 36 72 75 1 5 6 = true by decide +kernel) rfl rfl rfl (S_75 hw1) (KP_V ?_)
      show Go XC (d + 3) 2 0 39 [some (.ref 39), some (.int a9.1)] [.long w1, .int a9.1, .ref 40] a9.2 R
      obtain ⟨hb4, hr⟩ := ck_some hr
      refine go_lastore mm_2 (q := (Int32.toNatClampNeg a9.1)) rfl rfl rfl (ibd_ok hb4) ?_
      show Go XC (d + 3) 2 0 40 [some (.ref 39), some (.int a9.1)] [] (wL a9.2 40 (Int32.toNatClampNeg a9.1) w1) R
      obtain ⟨s5, es5, hr⟩ := sbn_some hr
      rw [← es5]
      refine go_run mm_2 2 (pc' := 9) (ls' := [some (.ref 39), some (.int (a9.1 + 1))]) (st' := []) (S' := s5) rfl ?_
      cases hr
      have h9 := hL (a9.1 + 1, s5) rfl
      dsimp only at h9
      exact Go.le h9 (by repeat first | exact True.intro | refine And.intro rfl ?_)
    · rw [if_neg hc3] at hr
      cases hr
      have h9 := hR (a9.1, a9.2) rfl
      dsimp only [Sum.elim_inl] at h9
      exact Go.le h9 (by repeat first | exact True.intro | refine And.intro rfl ?_)
  · rw [if_neg hc2] at hr
    cases hr
    have h9 := hR (a9.1, a9.2) rfl
    dsimp only [Sum.elim_inl] at h9
    exact Go.le h9 (by repeat first | exact True.intro | refine And.intro rfl ?_)
def F_2 (S : ST) : Option (Int32 × ST) := if (S.1 39 7) = 0 then (ob (wh FU (L_2_9) (0, S)) (fun e9 => ob (F_3 e9.2) (fun w2 => some (w2, (wI e9.2 39 7 w2))))) else (some (S.1 39 7, S))
set_option maxRecDepth 20000 in
theorem S_2 {d : Nat} {S : ST} {r} (hr : F_2 S = some r) : Cal XC (d + 3) 2 [.ref 39] S (RV (vI r.1) r.2) := by
  unfold F_2 at hr
  refine cal_go 1 rfl ?_
  refine go_run mm_2 2 (pc' := 4) (ls' := [some (.ref 39), none]) (st' := [.int (S.1 39 7)]) (S' := S) rfl ?_
  refine go_if0 mm_2 rfl (p1 := 7) (p2 := 54) rfl (fun (hc1 : (S.1 39 7) = 0) => ?_) (fun (hc1 : ¬ (S.1 39 7) = 0) => ?_)
  · rw [if_pos hc1] at hr
    refine go_run mm_2 2 (pc' := 9) (ls' := [some (.ref 39), some (.int 0)]) (st' := []) (S' := S) rfl ?_
    obtain ⟨z9, he9, hr⟩ := ob_some hr
    refine Go.le (ls' := [some (.ref 39), some (.int 0)]) ?_ (by repeat first | exact True.intro | refine And.intro rfl ?_)
    refine wh_go (P := fun a9 => Go XC (d + 3) 2 0 9 [some (.ref 39), some (.int a9.1)] [] a9.2 (RV (vI r.1) r.2)) (K := fun e9 => Go XC (d + 3) 2 0 46 [some (.ref 39), some (.int e9.1)] [] e9.2 (RV (vI r.1) r.2)) (fun a9 r9 h9 hL hR => LS_2_9 h9 hL hR) _ _ _ he9 ?_
    generalize z9 = e9 at hr
    show Go XC (d + 3) 2 0 46 [some (.ref 39), some (.int e9.1)] [] e9.2 (RV (vI r.1) r.2)
    refine go_run mm_2 2 (pc' := 48) (ls' := [some (.ref 39), some (.int e9.1)]) (st' := [.ref 39, .ref 39]) (S' := e9.2) rfl ?_
    obtain ⟨w2, hw2, hr⟩ := ob_some hr
    refine go_cv mm_2 (h := 39) (As := []) (rest := [.ref 39]) (nl := 4) rfl rfl (show cvOK 2 48 68 3 0 4 0 = true by decide +kernel) rfl rfl rfl (S_3 hw2) (KP_V ?_)
    show Go XC (d + 3) 2 0 51 [some (.ref 39), some (.int e9.1)] [.int w2, .ref 39] e9.2 (RV (vI r.1) r.2)
    refine go_run mm_2 3 (pc' := 58) (ls' := [some (.ref 39), some (.int e9.1)]) (st' := [.int w2]) (S' := (wI e9.2 39 7 w2)) rfl ?_
    cases hr
    exact go_ireturn mm_2 rfl rfl ⟨rfl, rfl, rfl⟩
  · rw [if_neg hc1] at hr
    refine go_run mm_2 2 (pc' := 58) (ls' := [some (.ref 39), none]) (st' := [.int (S.1 39 7)]) (S' := S) rfl ?_
    cases hr
    exact go_ireturn mm_2 rfl rfl ⟨rfl, rfl, rfl⟩

theorem mm_7 : mtG 7 = some (mi_7, 0, ft_7) := rfl
def L_7_22 (rec : Int64 → Int32 → Int32 → Int32 → ST → Option (Bool × ST)) (v1 : Int64) (v3 : Int32) (v4 : Int32) (v5 : Int32) (a22 : Int32 × ST) : Option ((Int32 × ST) ⊕ ((Int32 × ST) ⊕ (Bool × ST))) := if a22.1 < (a22.2.1 21 0) then (if a22.1 < 64 then (ck (ibd a22.1 65) (if (v1 &&& ((a22.2.2 41 (Int32.toNatClampNeg a22.1)) ^^^ (-1))) = 0 then (ck (ibd v5 4) (sbn ((wI a22.2 42 (Int32.toNatClampNeg v5) a22.1)) (fun s9 => ob (F_73 a22.1 s9) (fun w1 => if (v5 + 1) = v4 then (if (v1 &&& (w1 ^^^ (-1))) = 0 then (some (.inr (.inr (true, s9)))) else (some (.inl (a22.1 + 1, s9)))) else (ob (rec (v1 &&& (w1 ^^^ (-1))) (a22.1 + 1) v4 (v5 + 1) s9) (fun w2 => if w2.1 = true then (some (.inr (.inr (true, w2.2)))) else (some (.inl (a22.1 + 1, w2.2))))))))) else (some (.inr (.inr (false, a22.2)))))) else (some (.inr (.inl (a22.1, a22.2))))) else (some (.inr (.inl (a22.1, a22.2))))
set_option maxRecDepth 20000 in
theorem LS_7_22 {d : Nat} {R : RT} {rec : Int64 → Int32 → Int32 → Int32 → ST → Option (Bool × ST)} {v1 : Int64} {v3 : Int32} {v4 : Int32} {v5 : Int32} {a22 : Int32 × ST} {r9} (hrec : ∀ {v1 : Int64} {v3 : Int32} {v4 : Int32} {v5 : Int32} {S : ST} {r}, rec v1 v3 v4 v5 S = some r → Cal XC d 7 [.ref 39, .long v1, .int v3, .int v4, .int v5] S (RV (vZ r.1) r.2)) (hr : L_7_22 rec v1 v3 v4 v5 a22 = some r9) (hL : ∀ a9, r9 = .inl a9 → (fun a22 => Go XC (d + 1) 7 0 22 [some (.ref 39), some (.long v1), none, some (.int v3), some (.int v4), some (.int v5), some (.int a22.1), none, none] [] a22.2 R) a9) (hR : ∀ b9, r9 = .inr b9 → Sum.elim (fun e22 => Go XC (d + 1) 7 0 133 [some (.ref 39), some (.long v1), none, some (.int v3), some (.int v4), some (.int v5), some (.int e22.1), none, none] [] e22.2 R) (fun o => R 0 (.inr (vZ o.1)) o.2) b9) : Go XC (d + 1) 7 0 22 [some (.ref 39), some (.long v1), none, some (.int v3), some (.int v4), some (.int v5), some (.int a22.1), none, none] [] a22.2 R := by
  unfold L_7_22 at hr
  refine go_run mm_7 4 (pc' := 31) (ls' := [some (.ref 39), some (.long v1), none, some (.int v3), some (.int v4), some (.int v5), some (.int a22.1), none, none]) (st' := [.int (a22.2.1 21 0), .int a22.1]) (S' := a22.2) rfl ?_
  refine go_if2 mm_7 rfl (p1 := 34) (p2 := 133) rfl (fun (hc4 : a22.1 < (a22.2.1 21 0)) => ?_) (fun (hc4 : ¬ a22.1 < (a22.2.1 21 0)) => ?_)
  · rw [if_pos hc4] at hr
    refine go_run mm_7 2 (pc' := 38) (ls' := [some (.ref 39), some (.long v1), none, some (.int v3), some (.int v4), some (.int v5), some (.int a22.1), none, none]) (st' := [.int 64, .int a22.1]) (S' := a22.2) rfl ?_
    refine go_if2 mm_7 rfl (p1 := 41) (p2 := 133) rfl (fun (hc5 : a22.1 < 64) => ?_) (fun (hc5 : ¬ a22.1 < 64) => ?_)
    · rw [if_pos hc5] at hr
      refine go_run mm_7 4 (pc' := 48) (ls' := [some (.ref 39), some (.long v1), none, some (.int v3), some (.int v4), some (.int v5), some (.int a22.1), none, none]) (st' := [.int a22.1, .ref 41, .long v1]) (S' := a22.2) rfl ?_
      obtain ⟨hb6, hr⟩ := ck_some hr
      refine go_laload mm_7 (q := (Int32.toNatClampNeg a22.1)) rfl rfl rfl (ibd_ok hb6) ?_
      show Go XC (d + 1) 7 0 49 [some (.ref 39), some (.long v1), none, some (.int v3), some (.int v4), some (.int v5), some (.int a22.1), none, none] [.long (a22.2.2 41 (Int32.toNatClampNeg a22.1)), .long v1] a22.2 R
      refine go_run mm_7 4 (pc' := 55) (ls' := [some (.ref 39), some (.long v1), none, some (.int v3), some (.int v4), some (.int v5), some (.int a22.1), none, none]) (st' := [.long 0, .long (v1 &&& ((a22.2.2 41 (Int32.toNatClampNeg a22.1)) ^^^ (-1)))]) (S' := a22.2) rfl ?_
      refine go_lif mm_7 rfl rfl (p1 := 61) (p2 := 59) rfl (fun (hc7 : (v1 &&& ((a22.2.2 41 (Int32.toNatClampNeg a22.1)) ^^^ (-1))) = 0) => ?_) (fun (hc7 : ¬ (v1 &&& ((a22.2.2 41 (Int32.toNatClampNeg a22.1)) ^^^ (-1))) = 0) => ?_)
      · rw [if_pos hc7] at hr
        refine go_run mm_7 4 (pc' := 69) (ls' := [some (.ref 39), some (.long v1), none, some (.int v3), some (.int v4), some (.int v5), some (.int a22.1), none, none]) (st' := [.int a22.1, .int v5, .ref 42]) (S' := a22.2) rfl ?_
        obtain ⟨hb8, hr⟩ := ck_some hr
        refine go_iastore mm_7 (q := (Int32.toNatClampNeg v5)) rfl rfl rfl (ibd_ok hb8) ?_
        show Go XC (d + 1) 7 0 70 [some (.ref 39), some (.long v1), none, some (.int v3), some (.int v4), some (.int v5), some (.int a22.1), none, none] [] (wI a22.2 42 (Int32.toNatClampNeg v5) a22.1) R
        obtain ⟨s9, es9, hr⟩ := sbn_some hr
        rw [← es9]
        refine go_run mm_7 4 (pc' := 77) (ls' := [some (.ref 39), some (.long v1), none, some (.int v3), some (.int v4), some (.int v5), some (.int a22.1), none, none]) (st' := [.int a22.1, .ref 30, .long v1]) (S' := s9) rfl ?_
        obtain ⟨w1, hw1, hr⟩ := ob_some hr
        refine go_cv mm_7 (h := 30) (As := [.int a22.1]) (rest := [.long v1]) (nl := 2) rfl rfl (show cvOK 7 77 62 73 1 2 6 = true by decide +kernel) rfl rfl rfl (S_73 hw1) (KP_V ?_)
        show Go XC (d + 1) 7 0 80 [some (.ref 39), some (.long v1), none, some (.int v3), some (.int v4), some (.int v5), some (.int a22.1), none, none] [.long w1, .long v1] s9 R
        refine go_run mm_7 8 (pc' := 93) (ls' := [some (.ref 39), some (.long v1), none, some (.int v3), some (.int v4), some (.int v5), some (.int a22.1), some (.long (v1 &&& (w1 ^^^ (-1)))), none]) (st' := [.int v4, .int (v5 + 1)]) (S' := s9) rfl ?_
        refine go_if2 mm_7 rfl (p1 := 96) (p2 := 106) rfl (fun (hc10 : (v5 + 1) = v4) => ?_) (fun (hc10 : ¬ (v5 + 1) = v4) => ?_)
        · rw [if_pos hc10] at hr
          refine go_run mm_7 2 (pc' := 99) (ls' := [some (.ref 39), some (.long v1), none, some (.int v3), some (.int v4), some (.int v5), some (.int a22.1), some (.long (v1 &&& (w1 ^^^ (-1)))), none]) (st' := [.long 0, .long (v1 &&& (w1 ^^^ (-1)))]) (S' := s9) rfl ?_
          refine go_lif mm_7 rfl rfl (p1 := 103) (p2 := 127) rfl (fun (hc11 : (v1 &&& (w1 ^^^ (-1))) = 0) => ?_) (fun (hc11 : ¬ (v1 &&& (w1 ^^^ (-1))) = 0) => ?_)
          · rw [if_pos hc11] at hr
            refine go_run mm_7 2 (pc' := 126) (ls' := [some (.ref 39), some (.long v1), none, some (.int v3), some (.int v4), some (.int v5), some (.int a22.1), some (.long (v1 &&& (w1 ^^^ (-1)))), none]) (st' := [.int 1]) (S' := s9) rfl ?_
            cases hr
            have h9 : R 0 (.inr (vZ true)) s9 := hR _ rfl
            exact go_zreturn mm_7 rfl rfl (Or.inr rfl) h9
          · rw [if_neg hc11] at hr
            refine go_run mm_7 2 (pc' := 22) (ls' := [some (.ref 39), some (.long v1), none, some (.int v3), some (.int v4), some (.int v5), some (.int (a22.1 + 1)), some (.long (v1 &&& (w1 ^^^ (-1)))), none]) (st' := []) (S' := s9) rfl ?_
            cases hr
            have h9 := hL (a22.1 + 1, s9) rfl
            dsimp only at h9
            exact Go.le h9 (by repeat first | exact True.intro | refine And.intro rfl ?_)
        · rw [if_neg hc10] at hr
          refine go_run mm_7 9 (pc' := 119) (ls' := [some (.ref 39), some (.long v1), none, some (.int v3), some (.int v4), some (.int v5), some (.int a22.1), some (.long (v1 &&& (w1 ^^^ (-1)))), none]) (st' := [.int (v5 + 1), .int v4, .int (a22.1 + 1), .long (v1 &&& (w1 ^^^ (-1))), .ref 39]) (S' := s9) rfl ?_
          obtain ⟨w2, hw2, hr⟩ := ob_some hr
          refine go_cv mm_7 (h := 39) (As := [.long (v1 &&& (w1 ^^^ (-1))), .int (a22.1 + 1), .int v4, .int (v5 + 1)]) (rest := []) (nl := 9) rfl rfl (show cvOK 7 119 96 7 4 9 0 = true by decide +kernel) rfl rfl rfl (Cal.up (hrec hw2) (Nat.le_refl _)) (KP_V ?_)
          show Go XC (d + 1) 7 0 122 [some (.ref 39), some (.long v1), none, some (.int v3), some (.int v4), some (.int v5), some (.int a22.1), some (.long (v1 &&& (w1 ^^^ (-1)))), none] [.int (b2i w2.1)] w2.2 R
          refine go_ifb mm_7 rfl (p1 := 125) (p2 := 127) rfl (fun (hc12 : w2.1 = true) => ?_) (fun (hc12 : w2.1 = false) => ?_)
          · rw [if_pos hc12] at hr
            refine go_run mm_7 1 (pc' := 126) (ls' := [some (.ref 39), some (.long v1), none, some (.int v3), some (.int v4), some (.int v5), some (.int a22.1), some (.long (v1 &&& (w1 ^^^ (-1)))), none]) (st' := [.int 1]) (S' := w2.2) rfl ?_
            cases hr
            have h9 : R 0 (.inr (vZ true)) w2.2 := hR _ rfl
            exact go_zreturn mm_7 rfl rfl (Or.inr rfl) h9
          · rw [if_neg (bf hc12)] at hr
            refine go_run mm_7 2 (pc' := 22) (ls' := [some (.ref 39), some (.long v1), none, some (.int v3), some (.int v4), some (.int v5), some (.int (a22.1 + 1)), some (.long (v1 &&& (w1 ^^^ (-1)))), none]) (st' := []) (S' := w2.2) rfl ?_
            cases hr
            have h9 := hL (a22.1 + 1, w2.2) rfl
            dsimp only at h9
            exact Go.le h9 (by repeat first | exact True.intro | refine And.intro rfl ?_)
      · rw [if_neg hc7] at hr
        refine go_run mm_7 1 (pc' := 60) (ls' := [some (.ref 39), some (.long v1), none, some (.int v3), some (.int v4), some (.int v5), some (.int a22.1), none, none]) (st' := [.int 0]) (S' := a22.2) rfl ?_
        cases hr
        have h9 : R 0 (.inr (vZ false)) a22.2 := hR _ rfl
        exact go_zreturn mm_7 rfl rfl (Or.inl rfl) h9
    · rw [if_neg hc5] at hr
      cases hr
      have h9 := hR (.inl (a22.1, a22.2)) rfl
      dsimp only [Sum.elim_inl] at h9
      exact Go.le h9 (by repeat first | exact True.intro | refine And.intro rfl ?_)
  · rw [if_neg hc4] at hr
    cases hr
    have h9 := hR (.inl (a22.1, a22.2)) rfl
    dsimp only [Sum.elim_inl] at h9
    exact Go.le h9 (by repeat first | exact True.intro | refine And.intro rfl ?_)
def B_7 (rec : Int64 → Int32 → Int32 → Int32 → ST → Option (Bool × ST)) (v1 : Int64) (v3 : Int32) (v4 : Int32) (v5 : Int32) (S : ST) : Option (Bool × ST) := if v5 < v4 then (if v5 < 4 then (if v3 < 0 then (some (false, S)) else (ob (wh FU (L_7_22 rec v1 v3 v4 v5) (v3, S)) (fun z => Sum.elim (fun e22 => some (false, e22.2)) (fun o => some o) z))) else (some (false, S))) else (some (false, S))
def F_7 : Nat → Int64 → Int32 → Int32 → Int32 → ST → Option (Bool × ST)
  | 0, _, _, _, _ => fun _ => none
  | n + 1, v1, v3, v4, v5 => fun S => B_7 (F_7 n) v1 v3 v4 v5 S
set_option maxRecDepth 20000 in
theorem S_7 : ∀ (n : Nat) {d : Nat} {v1 : Int64} {v3 : Int32} {v4 : Int32} {v5 : Int32} {S : ST} {r} (_ : F_7 n v1 v3 v4 v5 S = some r), Cal XC (d + n + 1) 7 [.ref 39, .long v1, .int v3, .int v4, .int v5] S (RV (vZ r.1) r.2) := by
  intro n
  induction n with
  | zero => intro d v1 v3 v4 v5 S r hr; cases hr
  | succ n ih =>
    intro d v1 v3 v4 v5 S r hr
    have hr : B_7 (F_7 n) v1 v3 v4 v5 S = some r := hr
    unfold B_7 at hr
    have hrec : ∀ {v1 : Int64} {v3 : Int32} {v4 : Int32} {v5 : Int32} {S : ST} {r}, F_7 n v1 v3 v4 v5 S = some r → Cal XC (d + (n + 1) + 0) 7 [.ref 39, .long v1, .int v3, .int v4, .int v5] S (RV (vZ r.1) r.2) := fun h => Cal.up (ih (d := d) h) (Nat.le_of_eq (by omega))
    refine cal_go 3 rfl ?_
    refine go_run mm_7 2 (pc' := 4) (ls' := [some (.ref 39), some (.long v1), none, some (.int v3), some (.int v4), some (.int v5), none, none, none]) (st' := [.int v4, .int v5]) (S' := S) rfl ?_
    refine go_if2 mm_7 rfl (p1 := 7) (p2 := 17) rfl (fun (hc1 : v5 < v4) => ?_) (fun (hc1 : ¬ v5 < v4) => ?_)
    · rw [if_pos hc1] at hr
      refine go_run mm_7 2 (pc' := 10) (ls' := [some (.ref 39), some (.long v1), none, some (.int v3), some (.int v4), some (.int v5), none, none, none]) (st' := [.int 4, .int v5]) (S' := S) rfl ?_
      refine go_if2 mm_7 rfl (p1 := 13) (p2 := 17) rfl (fun (hc2 : v5 < 4) => ?_) (fun (hc2 : ¬ v5 < 4) => ?_)
      · rw [if_pos hc2] at hr
        refine go_run mm_7 1 (pc' := 14) (ls' := [some (.ref 39), some (.long v1), none, some (.int v3), some (.int v4), some (.int v5), none, none, none]) (st' := [.int v3]) (S' := S) rfl ?_
        refine go_if0 mm_7 rfl (p1 := 17) (p2 := 19) rfl (fun (hc3 : v3 < 0) => ?_) (fun (hc3 : ¬ v3 < 0) => ?_)
        · rw [if_pos hc3] at hr
          refine go_run mm_7 1 (pc' := 18) (ls' := [some (.ref 39), some (.long v1), none, some (.int v3), some (.int v4), some (.int v5), none, none, none]) (st' := [.int 0]) (S' := S) rfl ?_
          cases hr
          exact go_zreturn mm_7 rfl rfl (Or.inl rfl) ⟨rfl, rfl, rfl⟩
        · rw [if_neg hc3] at hr
          refine go_run mm_7 2 (pc' := 22) (ls' := [some (.ref 39), some (.long v1), none, some (.int v3), some (.int v4), some (.int v5), some (.int v3), none, none]) (st' := []) (S' := S) rfl ?_
          obtain ⟨z22, he22, hr⟩ := ob_some hr
          refine Go.le (ls' := [some (.ref 39), some (.long v1), none, some (.int v3), some (.int v4), some (.int v5), some (.int v3), none, none]) ?_ (by repeat first | exact True.intro | refine And.intro rfl ?_)
          refine wh_go (P := fun a22 => Go XC (d + (n + 1) + 1) 7 0 22 [some (.ref 39), some (.long v1), none, some (.int v3), some (.int v4), some (.int v5), some (.int a22.1), none, none] [] a22.2 (RV (vZ r.1) r.2)) (K := fun z => Sum.elim (fun e22 => Go XC (d + (n + 1) + 1) 7 0 133 [some (.ref 39), some (.long v1), none, some (.int v3), some (.int v4), some (.int v5), some (.int e22.1), none, none] [] e22.2 (RV (vZ r.1) r.2)) (fun o => (RV (vZ r.1) r.2) 0 (.inr (vZ o.1)) o.2) z) (fun a9 r9 h9 hL hR => LS_7_22 hrec h9 hL hR) _ _ _ he22 ?_
          rcases z22 with e22 | o
          rotate_left
          · simp only [Sum.elim_inr] at hr
            cases hr
            exact ⟨rfl, rfl, rfl⟩
          simp only [Sum.elim_inl] at hr
          show Go XC (d + (n + 1) + 1) 7 0 133 [some (.ref 39), some (.long v1), none, some (.int v3), some (.int v4), some (.int v5), some (.int e22.1), none, none] [] e22.2 (RV (vZ r.1) r.2)
          refine go_run mm_7 1 (pc' := 134) (ls' := [some (.ref 39), some (.long v1), none, some (.int v3), some (.int v4), some (.int v5), some (.int e22.1), none, none]) (st' := [.int 0]) (S' := e22.2) rfl ?_
          cases hr
          exact go_zreturn mm_7 rfl rfl (Or.inl rfl) ⟨rfl, rfl, rfl⟩
      · rw [if_neg hc2] at hr
        refine go_run mm_7 1 (pc' := 18) (ls' := [some (.ref 39), some (.long v1), none, some (.int v3), some (.int v4), some (.int v5), none, none, none]) (st' := [.int 0]) (S' := S) rfl ?_
        cases hr
        exact go_zreturn mm_7 rfl rfl (Or.inl rfl) ⟨rfl, rfl, rfl⟩
    · rw [if_neg hc1] at hr
      refine go_run mm_7 1 (pc' := 18) (ls' := [some (.ref 39), some (.long v1), none, some (.int v3), some (.int v4), some (.int v5), none, none, none]) (st' := [.int 0]) (S' := S) rfl ?_
      cases hr
      exact go_zreturn mm_7 rfl rfl (Or.inl rfl) ⟨rfl, rfl, rfl⟩

theorem mm_5 : mtG 5 = some (mi_5, 0, ft_5) := rfl
def L_5_23 (a23 : Int32 × ST) : Option ((Int32 × ST) ⊕ (Int32 × ST)) := if a23.1 < 0 then (some (.inr (a23.1, a23.2))) else (ck (ibd (a23.1 + 1) 65) (ob (F_73 a23.1 a23.2) (fun w1 => ck (ibd a23.1 65) (sbn ((wL a23.2 41 (Int32.toNatClampNeg a23.1) ((a23.2.2 41 (Int32.toNatClampNeg (a23.1 + 1))) ||| w1))) (fun s5 => some (.inl (a23.1 + (-1), s5)))))))
set_option maxRecDepth 20000 in
theorem LS_5_23 {d : Nat} {R : RT} {a23 : Int32 × ST} {r9} (hr : L_5_23 a23 = some r9) (hL : ∀ a9, r9 = .inl a9 → (fun a23 => Go XC (d + 8) 5 0 23 [some (.ref 39), some (.int a23.1)] [] a23.2 R) a9) (hR : ∀ b9, r9 = .inr b9 → (fun e23 => Go XC (d + 8) 5 0 56 [some (.ref 39), some (.int e23.1)] [] e23.2 R) b9) : Go XC (d + 8) 5 0 23 [some (.ref 39), some (.int a23.1)] [] a23.2 R := by
  unfold L_5_23 at hr
  refine go_run mm_5 1 (pc' := 24) (ls' := [some (.ref 39), some (.int a23.1)]) (st' := [.int a23.1]) (S' := a23.2) rfl ?_
  refine go_if0 mm_5 rfl (p1 := 56) (p2 := 27) rfl (fun (hc2 : a23.1 < 0) => ?_) (fun (hc2 : ¬ a23.1 < 0) => ?_)
  · rw [if_pos hc2] at hr
    cases hr
    have h9 := hR (a23.1, a23.2) rfl
    dsimp only [Sum.elim_inl] at h9
    exact Go.le h9 (by repeat first | exact True.intro | refine And.intro rfl ?_)
  · rw [if_neg hc2] at hr
    refine go_run mm_5 8 (pc' := 39) (ls' := [some (.ref 39), some (.int a23.1)]) (st' := [.int (a23.1 + 1), .ref 41, .int a23.1, .ref 41]) (S' := a23.2) rfl ?_
    obtain ⟨hb3, hr⟩ := ck_some hr
    refine go_laload mm_5 (q := (Int32.toNatClampNeg (a23.1 + 1))) rfl rfl rfl (ibd_ok hb3) ?_
    show Go XC (d + 8) 5 0 40 [some (.ref 39), some (.int a23.1)] [.long (a23.2.2 41 (Int32.toNatClampNeg (a23.1 + 1))), .int a23.1, .ref 41] a23.2 R
    refine go_run mm_5 3 (pc' := 45) (ls' := [some (.ref 39), some (.int a23.1)]) (st' := [.int a23.1, .ref 30, .long (a23.2.2 41 (Int32.toNatClampNeg (a23.1 + 1))), .int a23.1, .ref 41]) (S' := a23.2) rfl ?_
    obtain ⟨w1, hw1, hr⟩ := ob_some hr
    refine go_cv mm_5 (h := 30) (As := [.int a23.1]) (rest := [.long (a23.2.2 41 (Int32.toNatClampNeg (a23.1 + 1))), .int a23.1, .ref 41]) (nl := 2) rfl rfl (show cvOK 5 45 62 73 1 2 6 = true by decide +kernel) rfl rfl rfl (S_73 hw1) (KP_V ?_)
    show Go XC (d + 8) 5 0 48 [some (.ref 39), some (.int a23.1)] [.long w1, .long (a23.2.2 41 (Int32.toNatClampNeg (a23.1 + 1))), .int a23.1, .ref 41] a23.2 R
    refine go_run mm_5 1 (pc' := 49) (ls' := [some (.ref 39), some (.int a23.1)]) (st' := [.long ((a23.2.2 41 (Int32.toNatClampNeg (a23.1 + 1))) ||| w1), .int a23.1, .ref 41]) (S' := a23.2) rfl ?_
    obtain ⟨hb4, hr⟩ := ck_some hr
    refine go_lastore mm_5 (q := (Int32.toNatClampNeg a23.1)) rfl rfl rfl (ibd_ok hb4) ?_
    show Go XC (d + 8) 5 0 50 [some (.ref 39), some (.int a23.1)] [] (wL a23.2 41 (Int32.toNatClampNeg a23.1) ((a23.2.2 41 (Int32.toNatClampNeg (a23.1 + 1))) ||| w1)) R
    obtain ⟨s5, es5, hr⟩ := sbn_some hr
    rw [← es5]
    refine go_run mm_5 2 (pc' := 23) (ls' := [some (.ref 39), some (.int (a23.1 + (-1)))]) (st' := []) (S' := s5) rfl ?_
    cases hr
    have h9 := hL (a23.1 + (-1), s5) rfl
    dsimp only at h9
    exact Go.le h9 (by repeat first | exact True.intro | refine And.intro rfl ?_)
def L_5_58 (a58 : Int32 × ST) : Option ((Int32 × ST) ⊕ (Int32 × ST)) := if (4 : Int32) < a58.1 then (some (.inr (a58.1, a58.2))) else (if (a58.2.1 39 8) = 0 then (ob (F_7 6 (F_21 21 a58.2) 0 a58.1 0 a58.2) (fun w2 => if w2.1 = true then (some (.inl (a58.1 + 1, (wI w2.2 39 8 a58.1)))) else (some (.inl (a58.1 + 1, w2.2))))) else (some (.inr (a58.1, a58.2))))
set_option maxRecDepth 20000 in
theorem LS_5_58 {d : Nat} {R : RT} {a58 : Int32 × ST} {r9} (hr : L_5_58 a58 = some r9) (hL : ∀ a9, r9 = .inl a9 → (fun a58 => Go XC (d + 8) 5 0 58 [some (.ref 39), some (.int a58.1)] [] a58.2 R) a9) (hR : ∀ b9, r9 = .inr b9 → (fun e58 => Go XC (d + 8) 5 0 98 [some (.ref 39), some (.int e58.1)] [] e58.2 R) b9) : Go XC (d + 8) 5 0 58 [some (.ref 39), some (.int a58.1)] [] a58.2 R := by
  unfold L_5_58 at hr
  refine go_run mm_5 2 (pc' := 60) (ls' := [some (.ref 39), some (.int a58.1)]) (st' := [.int 4, .int a58.1]) (S' := a58.2) rfl ?_
  refine go_if2 mm_5 rfl (p1 := 98) (p2 := 63) rfl (fun (hc6 : (4 : Int32) < a58.1) => ?_) (fun (hc6 : ¬ (4 : Int32) < a58.1) => ?_)
  · rw [if_pos hc6] at hr
    cases hr
    have h9 := hR (a58.1, a58.2) rfl
    dsimp only [Sum.elim_inl] at h9
    exact Go.le h9 (by repeat first | exact True.intro | refine And.intro rfl ?_)
  · rw [if_neg hc6] at hr
    refine go_run mm_5 2 (pc' := 67) (ls' := [some (.ref 39), some (.int a58.1)]) (st' := [.int (a58.2.1 39 8)]) (S' := a58.2) rfl ?_
    refine go_if0 mm_5 rfl (p1 := 70) (p2 := 98) rfl (fun (hc7 : (a58.2.1 39 8) = 0) => ?_) (fun (hc7 : ¬ (a58.2.1 39 8) = 0) => ?_)
    · rw [if_pos hc7] at hr
      refine go_run mm_5 3 (pc' := 75) (ls' := [some (.ref 39), some (.int a58.1)]) (st' := [.ref 21, .ref 39]) (S' := a58.2) rfl ?_
      refine go_cv mm_5 (h := 21) (As := []) (rest := [.ref 39]) (nl := 1) rfl rfl (show cvOK 5 75 88 21 0 1 3 = true by decide +kernel) rfl rfl rfl (S_21 (ltB_ok rfl) rfl) (KP_V ?_)
      show Go XC (d + 8) 5 0 78 [some (.ref 39), some (.int a58.1)] [.long (F_21 21 a58.2), .ref 39] a58.2 R
      refine go_run mm_5 3 (pc' := 81) (ls' := [some (.ref 39), some (.int a58.1)]) (st' := [.int 0, .int a58.1, .int 0, .long (F_21 21 a58.2), .ref 39]) (S' := a58.2) rfl ?_
      obtain ⟨w2, hw2, hr⟩ := ob_some hr
      refine go_cv mm_5 (h := 39) (As := [.long (F_21 21 a58.2), .int 0, .int a58.1, .int 0]) (rest := []) (nl := 9) rfl rfl (show cvOK 5 81 96 7 4 9 0 = true by decide +kernel) rfl rfl rfl (S_7 _ hw2) (KP_V ?_)
      show Go XC (d + 8) 5 0 84 [some (.ref 39), some (.int a58.1)] [.int (b2i w2.1)] w2.2 R
      refine go_ifb mm_5 rfl (p1 := 87) (p2 := 92) rfl (fun (hc8 : w2.1 = true) => ?_) (fun (hc8 : w2.1 = false) => ?_)
      · rw [if_pos hc8] at hr
        refine go_run mm_5 5 (pc' := 58) (ls' := [some (.ref 39), some (.int (a58.1 + 1))]) (st' := []) (S' := (wI w2.2 39 8 a58.1)) rfl ?_
        cases hr
        have h9 := hL (a58.1 + 1, (wI w2.2 39 8 a58.1)) rfl
        dsimp only at h9
        exact Go.le h9 (by repeat first | exact True.intro | refine And.intro rfl ?_)
      · rw [if_neg (bf hc8)] at hr
        refine go_run mm_5 2 (pc' := 58) (ls' := [some (.ref 39), some (.int (a58.1 + 1))]) (st' := []) (S' := w2.2) rfl ?_
        cases hr
        have h9 := hL (a58.1 + 1, w2.2) rfl
        dsimp only at h9
        exact Go.le h9 (by repeat first | exact True.intro | refine And.intro rfl ?_)
    · rw [if_neg hc7] at hr
      cases hr
      have h9 := hR (a58.1, a58.2) rfl
      dsimp only [Sum.elim_inl] at h9
      exact Go.le h9 (by repeat first | exact True.intro | refine And.intro rfl ?_)
def F_5 (S : ST) : Option (Int32 × ST) := if (S.1 39 8) = 0 then (ob (wh FU (L_5_23) (63, (wL S 41 64 0))) (fun e23 => ob (wh FU (L_5_58) (1, e23.2)) (fun e58 => some (e58.2.1 39 8, e58.2)))) else (some (S.1 39 8, S))
set_option maxRecDepth 20000 in
theorem S_5 {d : Nat} {S : ST} {r} (hr : F_5 S = some r) : Cal XC (d + 8) 5 [.ref 39] S (RV (vI r.1) r.2) := by
  unfold F_5 at hr
  refine cal_go 1 rfl ?_
  refine go_run mm_5 2 (pc' := 4) (ls' := [some (.ref 39), none]) (st' := [.int (S.1 39 8)]) (S' := S) rfl ?_
  refine go_if0 mm_5 rfl (p1 := 12) (p2 := 7) rfl (fun (hc1 : (S.1 39 8) = 0) => ?_) (fun (hc1 : ¬ (S.1 39 8) = 0) => ?_)
  · rw [if_pos hc1] at hr
    refine go_run mm_5 4 (pc' := 19) (ls' := [some (.ref 39), none]) (st' := [.long 0, .int 64, .ref 41]) (S' := S) rfl ?_
    refine go_lastore mm_5 (q := 64) rfl rfl rfl (inB_lit rfl) ?_
    show Go XC (d + 8) 5 0 20 [some (.ref 39), none] [] (wL S 41 64 0) (RV (vI r.1) r.2)
    refine go_run mm_5 2 (pc' := 23) (ls' := [some (.ref 39), some (.int 63)]) (st' := []) (S' := (wL S 41 64 0)) rfl ?_
    obtain ⟨z23, he23, hr⟩ := ob_some hr
    refine Go.le (ls' := [some (.ref 39), some (.int 63)]) ?_ (by repeat first | exact True.intro | refine And.intro rfl ?_)
    refine wh_go (P := fun a23 => Go XC (d + 8) 5 0 23 [some (.ref 39), some (.int a23.1)] [] a23.2 (RV (vI r.1) r.2)) (K := fun e23 => Go XC (d + 8) 5 0 56 [some (.ref 39), some (.int e23.1)] [] e23.2 (RV (vI r.1) r.2)) (fun a9 r9 h9 hL hR => LS_5_23 h9 hL hR) _ _ _ he23 ?_
    generalize z23 = e23 at hr
    show Go XC (d + 8) 5 0 56 [some (.ref 39), some (.int e23.1)] [] e23.2 (RV (vI r.1) r.2)
    refine go_run mm_5 2 (pc' := 58) (ls' := [some (.ref 39), some (.int 1)]) (st' := []) (S' := e23.2) rfl ?_
    obtain ⟨z58, he58, hr⟩ := ob_some hr
    refine Go.le (ls' := [some (.ref 39), some (.int 1)]) ?_ (by repeat first | exact True.intro | refine And.intro rfl ?_)
    refine wh_go (P := fun a58 => Go XC (d + 8) 5 0 58 [some (.ref 39), some (.int a58.1)] [] a58.2 (RV (vI r.1) r.2)) (K := fun e58 => Go XC (d + 8) 5 0 98 [some (.ref 39), some (.int e58.1)] [] e58.2 (RV (vI r.1) r.2)) (fun a9 r9 h9 hL hR => LS_5_58 h9 hL hR) _ _ _ he58 ?_
    generalize z58 = e58 at hr
    show Go XC (d + 8) 5 0 98 [some (.ref 39), some (.int e58.1)] [] e58.2 (RV (vI r.1) r.2)
    refine go_run mm_5 2 (pc' := 102) (ls' := [some (.ref 39), some (.int e58.1)]) (st' := [.int (e58.2.1 39 8)]) (S' := e58.2) rfl ?_
    cases hr
    exact go_ireturn mm_5 rfl rfl ⟨rfl, rfl, rfl⟩
  · rw [if_neg hc1] at hr
    refine go_run mm_5 2 (pc' := 11) (ls' := [some (.ref 39), none]) (st' := [.int (S.1 39 8)]) (S' := S) rfl ?_
    cases hr
    exact go_ireturn mm_5 rfl rfl ⟨rfl, rfl, rfl⟩
