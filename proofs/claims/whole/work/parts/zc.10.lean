/-! methods as functions (printed by a program): 363 numberOfTrailingZeros, 365 numberOfTrailingZeros, 78 lastReached, 79 mostLinks, 80 forget -/
theorem mm_363 : mtG 363 = some (mi_363, 14, ft_363) := rfl
def F_363 (v0 : Int32) : Int32 := if (0 : Int32) < ((v0 ^^^ (-1)) &&& (v0 - 1)) then (if (65536 : Int32) < ((v0 ^^^ (-1)) &&& (v0 - 1)) then (if (256 : Int32) < (((Int32.toUInt32 ((v0 ^^^ (-1)) &&& (v0 - 1))) >>> ((Int32.toUInt32 16) &&& Int32.toUInt32 31)).toInt32) then (if (16 : Int32) < (((Int32.toUInt32 (((Int32.toUInt32 ((v0 ^^^ (-1)) &&& (v0 - 1))) >>> ((Int32.toUInt32 16) &&& Int32.toUInt32 31)).toInt32)) >>> ((Int32.toUInt32 8) &&& Int32.toUInt32 31)).toInt32) then (if (4 : Int32) < (((Int32.toUInt32 (((Int32.toUInt32 (((Int32.toUInt32 ((v0 ^^^ (-1)) &&& (v0 - 1))) >>> ((Int32.toUInt32 16) &&& Int32.toUInt32 31)).toInt32)) >>> ((Int32.toUInt32 8) &&& Int32.toUInt32 31)).toInt32)) >>> ((Int32.toUInt32 4) &&& Int32.toUInt32 31)).toInt32) then (((((1 + 16) + 8) + 4) + 2) + (((Int32.toUInt32 (((Int32.toUInt32 (((Int32.toUInt32 (((Int32.toUInt32 (((Int32.toUInt32 ((v0 ^^^ (-1)) &&& (v0 - 1))) >>> ((Int32.toUInt32 16) &&& Int32.toUInt32 31)).toInt32)) >>> ((Int32.toUInt32 8) &&& Int32.toUInt32 31)).toInt32)) >>> ((Int32.toUInt32 4) &&& Int32.toUInt32 31)).toInt32)) >>> ((Int32.toUInt32 2) &&& Int32.toUInt32 31)).toInt32)) >>> ((Int32.toUInt32 1) &&& Int32.toUInt32 31)).toInt32)) else ((((1 + 16) + 8) + 4) + (((Int32.toUInt32 (((Int32.toUInt32 (((Int32.toUInt32 (((Int32.toUInt32 ((v0 ^^^ (-1)) &&& (v0 - 1))) >>> ((Int32.toUInt32 16) &&& Int32.toUInt32 31)).toInt32)) >>> ((Int32.toUInt32 8) &&& Int32.toUInt32 31)).toInt32)) >>> ((Int32.toUInt32 4) &&& Int32.toUInt32 31)).toInt32)) >>> ((Int32.toUInt32 1) &&& Int32.toUInt32 31)).toInt32))) else (if (4 : Int32) < (((Int32.toUInt32 (((Int32.toUInt32 ((v0 ^^^ (-1)) &&& (v0 - 1))) >>> ((Int32.toUInt32 16) &&& Int32.toUInt32 31)).toInt32)) >>> ((Int32.toUInt32 8) &&& Int32.toUInt32 31)).toInt32) then ((((1 + 16) + 8) + 2) + (((Int32.toUInt32 (((Int32.toUInt32 (((Int32.toUInt32 (((Int32.toUInt32 ((v0 ^^^ (-1)) &&& (v0 - 1))) >>> ((Int32.toUInt32 16) &&& Int32.toUInt32 31)).toInt32)) >>> ((Int32.toUInt32 8) &&& Int32.toUInt32 31)).toInt32)) >>> ((Int32.toUInt32 2) &&& Int32.toUInt32 31)).toInt32)) >>> ((Int32.toUInt32 1) &&& Int32.toUInt32 31)).toInt32)) else (((1 + 16) + 8) + (((Int32.toUInt32 (((Int32.toUInt32 (((Int32.toUInt32 ((v0 ^^^ (-1)) &&& (v0 - 1))) >>> ((Int32.toUInt32 16) &&& Int32.toUInt32 31)).toInt32)) >>> ((Int32.toUInt32 8) &&& Int32.toUInt32 31)).toInt32)) >>> ((Int32.toUInt32 1) &&& Int32.toUInt32 31)).toInt32)))) else (if (16 : Int32) < (((Int32.toUInt32 ((v0 ^^^ (-1)) &&& (v0 - 1))) >>> ((Int32.toUInt32 16) &&& Int32.toUInt32 31)).toInt32) then (if (4 : Int32) < (((Int32.toUInt32 (((Int32.toUInt32 ((v0 ^^^ (-1)) &&& (v0 - 1))) >>> ((Int32.toUInt32 16) &&& Int32.toUInt32 31)).toInt32)) >>> ((Int32.toUInt32 4) &&& Int32.toUInt32 31)).toInt32) then ((((1 + 16) + 4) + 2) + (((Int32.toUInt32 (((Int32.toUInt32 (((Int32.toUInt32 (((Int32.toUInt32 ((v0 ^^^ (-1)) &&& (v0 - 1))) >>> ((Int32.toUInt32 16) &&& Int32.toUInt32 31)).toInt32)) >>> ((Int32.toUInt32 4) &&& Int32.toUInt32 31)).toInt32)) >>> ((Int32.toUInt32 2) &&& Int32.toUInt32 31)).toInt32)) >>> ((Int32.toUInt32 1) &&& Int32.toUInt32 31)).toInt32)) else (((1 + 16) + 4) + (((Int32.toUInt32 (((Int32.toUInt32 (((Int32.toUInt32 ((v0 ^^^ (-1)) &&& (v0 - 1))) >>> ((Int32.toUInt32 16) &&& Int32.toUInt32 31)).toInt32)) >>> ((Int32.toUInt32 4) &&& Int32.toUInt32 31)).toInt32)) >>> ((Int32.toUInt32 1) &&& Int32.toUInt32 31)).toInt32))) else (if (4 : Int32) < (((Int32.toUInt32 ((v0 ^^^ (-1)) &&& (v0 - 1))) >>> ((Int32.toUInt32 16) &&& Int32.toUInt32 31)).toInt32) then (((1 + 16) + 2) + (((Int32.toUInt32 (((Int32.toUInt32 (((Int32.toUInt32 ((v0 ^^^ (-1)) &&& (v0 - 1))) >>> ((Int32.toUInt32 16) &&& Int32.toUInt32 31)).toInt32)) >>> ((Int32.toUInt32 2) &&& Int32.toUInt32 31)).toInt32)) >>> ((Int32.toUInt32 1) &&& Int32.toUInt32 31)).toInt32)) else ((1 + 16) + (((Int32.toUInt32 (((Int32.toUInt32 ((v0 ^^^ (-1)) &&& (v0 - 1))) >>> ((Int32.toUInt32 16) &&& Int32.toUInt32 31)).toInt32)) >>> ((Int32.toUInt32 1) &&& Int32.toUInt32 31)).toInt32))))) else (if (256 : Int32) < ((v0 ^^^ (-1)) &&& (v0 - 1)) then (if (16 : Int32) < (((Int32.toUInt32 ((v0 ^^^ (-1)) &&& (v0 - 1))) >>> ((Int32.toUInt32 8) &&& Int32.toUInt32 31)).toInt32) then (if (4 : Int32) < (((Int32.toUInt32 (((Int32.toUInt32 ((v0 ^^^ (-1)) &&& (v0 - 1))) >>> ((Int32.toUInt32 8) &&& Int32.toUInt32 31)).toInt32)) >>> ((Int32.toUInt32 4) &&& Int32.toUInt32 31)).toInt32) then ((((1 + 8) + 4) + 2) + (((Int32.toUInt32 (((Int32.toUInt32 (((Int32.toUInt32 (((Int32.toUInt32 ((v0 ^^^ (-1)) &&& (v0 - 1))) >>> ((Int32.toUInt32 8) &&& Int32.toUInt32 31)).toInt32)) >>> ((Int32.toUInt32 4) &&& Int32.toUInt32 31)).toInt32)) >>> ((Int32.toUInt32 2) &&& Int32.toUInt32 31)).toInt32)) >>> ((Int32.toUInt32 1) &&& Int32.toUInt32 31)).toInt32)) else (((1 + 8) + 4) + (((Int32.toUInt32 (((Int32.toUInt32 (((Int32.toUInt32 ((v0 ^^^ (-1)) &&& (v0 - 1))) >>> ((Int32.toUInt32 8) &&& Int32.toUInt32 31)).toInt32)) >>> ((Int32.toUInt32 4) &&& Int32.toUInt32 31)).toInt32)) >>> ((Int32.toUInt32 1) &&& Int32.toUInt32 31)).toInt32))) else (if (4 : Int32) < (((Int32.toUInt32 ((v0 ^^^ (-1)) &&& (v0 - 1))) >>> ((Int32.toUInt32 8) &&& Int32.toUInt32 31)).toInt32) then (((1 + 8) + 2) + (((Int32.toUInt32 (((Int32.toUInt32 (((Int32.toUInt32 ((v0 ^^^ (-1)) &&& (v0 - 1))) >>> ((Int32.toUInt32 8) &&& Int32.toUInt32 31)).toInt32)) >>> ((Int32.toUInt32 2) &&& Int32.toUInt32 31)).toInt32)) >>> ((Int32.toUInt32 1) &&& Int32.toUInt32 31)).toInt32)) else ((1 + 8) + (((Int32.toUInt32 (((Int32.toUInt32 ((v0 ^^^ (-1)) &&& (v0 - 1))) >>> ((Int32.toUInt32 8) &&& Int32.toUInt32 31)).toInt32)) >>> ((Int32.toUInt32 1) &&& Int32.toUInt32 31)).toInt32)))) else (if (16 : Int32) < ((v0 ^^^ (-1)) &&& (v0 - 1)) then (if (4 : Int32) < (((Int32.toUInt32 ((v0 ^^^ (-1)) &&& (v0 - 1))) >>> ((Int32.toUInt32 4) &&& Int32.toUInt32 31)).toInt32) then (((1 + 4) + 2) + (((Int32.toUInt32 (((Int32.toUInt32 (((Int32.toUInt32 ((v0 ^^^ (-1)) &&& (v0 - 1))) >>> ((Int32.toUInt32 4) &&& Int32.toUInt32 31)).toInt32)) >>> ((Int32.toUInt32 2) &&& Int32.toUInt32 31)).toInt32)) >>> ((Int32.toUInt32 1) &&& Int32.toUInt32 31)).toInt32)) else ((1 + 4) + (((Int32.toUInt32 (((Int32.toUInt32 ((v0 ^^^ (-1)) &&& (v0 - 1))) >>> ((Int32.toUInt32 4) &&& Int32.toUInt32 31)).toInt32)) >>> ((Int32.toUInt32 1) &&& Int32.toUInt32 31)).toInt32))) else (if (4 : Int32) < ((v0 ^^^ (-1)) &&& (v0 - 1)) then ((1 + 2) + (((Int32.toUInt32 (((Int32.toUInt32 ((v0 ^^^ (-1)) &&& (v0 - 1))) >>> ((Int32.toUInt32 2) &&& Int32.toUInt32 31)).toInt32)) >>> ((Int32.toUInt32 1) &&& Int32.toUInt32 31)).toInt32)) else (1 + (((Int32.toUInt32 ((v0 ^^^ (-1)) &&& (v0 - 1))) >>> ((Int32.toUInt32 1) &&& Int32.toUInt32 31)).toInt32)))))) else (((v0 ^^^ (-1)) &&& (v0 - 1)) &&& 32)
set_option maxRecDepth 20000 in
theorem S_363 {d : Nat} {S : ST} {v0 : Int32} {r} (hr : F_363 v0 = r) : Cal XC d 363 [.int v0] S (RV (vI r) S) := by
  unfold F_363 at hr
  refine cal_go 1 rfl ?_
  refine go_run mm_363 9 (pc' := 9) (ls' := [some (.int ((v0 ^^^ (-1)) &&& (v0 - 1))), none]) (st' := [.int ((v0 ^^^ (-1)) &&& (v0 - 1))]) (S' := S) rfl ?_
  refine go_if0 mm_363 rfl (p1 := 17) (p2 := 12) rfl (fun (hc1 : (0 : Int32) < ((v0 ^^^ (-1)) &&& (v0 - 1))) => ?_) (fun (hc1 : ¬ (0 : Int32) < ((v0 ^^^ (-1)) &&& (v0 - 1))) => ?_)
  · rw [if_pos hc1] at hr
    refine go_run mm_363 3 (pc' := 20) (ls' := [some (.int ((v0 ^^^ (-1)) &&& (v0 - 1))), some (.int 1)]) (st' := [.int ((v0 ^^^ (-1)) &&& (v0 - 1))]) (S' := S) rfl ?_
    refine go_ldw mm_363 rfl rfl ?_
    show Go XC d 363 0 23 [some (.int ((v0 ^^^ (-1)) &&& (v0 - 1))), some (.int 1)] [.int 65536, .int ((v0 ^^^ (-1)) &&& (v0 - 1))] S (RV (vI r) S)
    refine go_if2 mm_363 rfl (p1 := 26) (p2 := 34) rfl (fun (hc2 : (65536 : Int32) < ((v0 ^^^ (-1)) &&& (v0 - 1))) => ?_) (fun (hc2 : ¬ (65536 : Int32) < ((v0 ^^^ (-1)) &&& (v0 - 1))) => ?_)
    · rw [if_pos hc2] at hr
      refine go_run mm_363 7 (pc' := 38) (ls' := [some (.int (((Int32.toUInt32 ((v0 ^^^ (-1)) &&& (v0 - 1))) >>> ((Int32.toUInt32 16) &&& Int32.toUInt32 31)).toInt32)), some (.int (1 + 16))]) (st' := [.int 256, .int (((Int32.toUInt32 ((v0 ^^^ (-1)) &&& (v0 - 1))) >>> ((Int32.toUInt32 16) &&& Int32.toUInt32 31)).toInt32)]) (S' := S) rfl ?_
      refine go_if2 mm_363 rfl (p1 := 41) (p2 := 49) rfl (fun (hc3 : (256 : Int32) < (((Int32.toUInt32 ((v0 ^^^ (-1)) &&& (v0 - 1))) >>> ((Int32.toUInt32 16) &&& Int32.toUInt32 31)).toInt32)) => ?_) (fun (hc3 : ¬ (256 : Int32) < (((Int32.toUInt32 ((v0 ^^^ (-1)) &&& (v0 - 1))) >>> ((Int32.toUInt32 16) &&& Int32.toUInt32 31)).toInt32)) => ?_)
      · rw [if_pos hc3] at hr
        refine go_run mm_363 7 (pc' := 52) (ls' := [some (.int (((Int32.toUInt32 (((Int32.toUInt32 ((v0 ^^^ (-1)) &&& (v0 - 1))) >>> ((Int32.toUInt32 16) &&& Int32.toUInt32 31)).toInt32)) >>> ((Int32.toUInt32 8) &&& Int32.toUInt32 31)).toInt32)), some (.int ((1 + 16) + 8))]) (st' := [.int 16, .int (((Int32.toUInt32 (((Int32.toUInt32 ((v0 ^^^ (-1)) &&& (v0 - 1))) >>> ((Int32.toUInt32 16) &&& Int32.toUInt32 31)).toInt32)) >>> ((Int32.toUInt32 8) &&& Int32.toUInt32 31)).toInt32)]) (S' := S) rfl ?_
        refine go_if2 mm_363 rfl (p1 := 55) (p2 := 62) rfl (fun (hc4 : (16 : Int32) < (((Int32.toUInt32 (((Int32.toUInt32 ((v0 ^^^ (-1)) &&& (v0 - 1))) >>> ((Int32.toUInt32 16) &&& Int32.toUInt32 31)).toInt32)) >>> ((Int32.toUInt32 8) &&& Int32.toUInt32 31)).toInt32)) => ?_) (fun (hc4 : ¬ (16 : Int32) < (((Int32.toUInt32 (((Int32.toUInt32 ((v0 ^^^ (-1)) &&& (v0 - 1))) >>> ((Int32.toUInt32 16) &&& Int32.toUInt32 31)).toInt32)) >>> ((Int32.toUInt32 8) &&& Int32.toUInt32 31)).toInt32)) => ?_)
        · rw [if_pos hc4] at hr
          refine go_run mm_363 7 (pc' := 64) (ls' := [some (.int (((Int32.toUInt32 (((Int32.toUInt32 (((Int32.toUInt32 ((v0 ^^^ (-1)) &&& (v0 - 1))) >>> ((Int32.toUInt32 16) &&& Int32.toUInt32 31)).toInt32)) >>> ((Int32.toUInt32 8) &&& Int32.toUInt32 31)).toInt32)) >>> ((Int32.toUInt32 4) &&& Int32.toUInt32 31)).toInt32)), some (.int (((1 + 16) + 8) + 4))]) (st' := [.int 4, .int (((Int32.toUInt32 (((Int32.toUInt32 (((Int32.toUInt32 ((v0 ^^^ (-1)) &&& (v0 - 1))) >>> ((Int32.toUInt32 16) &&& Int32.toUInt32 31)).toInt32)) >>> ((Int32.toUInt32 8) &&& Int32.toUInt32 31)).toInt32)) >>> ((Int32.toUInt32 4) &&& Int32.toUInt32 31)).toInt32)]) (S' := S) rfl ?_
          refine go_if2 mm_363 rfl (p1 := 67) (p2 := 74) rfl (fun (hc5 : (4 : Int32) < (((Int32.toUInt32 (((Int32.toUInt32 (((Int32.toUInt32 ((v0 ^^^ (-1)) &&& (v0 - 1))) >>> ((Int32.toUInt32 16) &&& Int32.toUInt32 31)).toInt32)) >>> ((Int32.toUInt32 8) &&& Int32.toUInt32 31)).toInt32)) >>> ((Int32.toUInt32 4) &&& Int32.toUInt32 31)).toInt32)) => ?_) (fun (hc5 : ¬ (4 : Int32) < (((Int32.toUInt32 (((Int32.toUInt32 (((Int32.toUInt32 ((v0 ^^^ (-1)) &&& (v0 - 1))) >>> ((Int32.toUInt32 16) &&& Int32.toUInt32 31)).toInt32)) >>> ((Int32.toUInt32 8) &&& Int32.toUInt32 31)).toInt32)) >>> ((Int32.toUInt32 4) &&& Int32.toUInt32 31)).toInt32)) => ?_)
          · rw [if_pos hc5] at hr
            refine go_run mm_363 10 (pc' := 79) (ls' := [some (.int (((Int32.toUInt32 (((Int32.toUInt32 (((Int32.toUInt32 (((Int32.toUInt32 ((v0 ^^^ (-1)) &&& (v0 - 1))) >>> ((Int32.toUInt32 16) &&& Int32.toUInt32 31)).toInt32)) >>> ((Int32.toUInt32 8) &&& Int32.toUInt32 31)).toInt32)) >>> ((Int32.toUInt32 4) &&& Int32.toUInt32 31)).toInt32)) >>> ((Int32.toUInt32 2) &&& Int32.toUInt32 31)).toInt32)), some (.int ((((1 + 16) + 8) + 4) + 2))]) (st' := [.int (((((1 + 16) + 8) + 4) + 2) + (((Int32.toUInt32 (((Int32.toUInt32 (((Int32.toUInt32 (((Int32.toUInt32 (((Int32.toUInt32 ((v0 ^^^ (-1)) &&& (v0 - 1))) >>> ((Int32.toUInt32 16) &&& Int32.toUInt32 31)).toInt32)) >>> ((Int32.toUInt32 8) &&& Int32.toUInt32 31)).toInt32)) >>> ((Int32.toUInt32 4) &&& Int32.toUInt32 31)).toInt32)) >>> ((Int32.toUInt32 2) &&& Int32.toUInt32 31)).toInt32)) >>> ((Int32.toUInt32 1) &&& Int32.toUInt32 31)).toInt32))]) (S' := S) rfl ?_
            cases hr
            exact go_ireturn mm_363 rfl rfl ⟨rfl, rfl, rfl⟩
          · rw [if_neg hc5] at hr
            refine go_run mm_363 5 (pc' := 79) (ls' := [some (.int (((Int32.toUInt32 (((Int32.toUInt32 (((Int32.toUInt32 ((v0 ^^^ (-1)) &&& (v0 - 1))) >>> ((Int32.toUInt32 16) &&& Int32.toUInt32 31)).toInt32)) >>> ((Int32.toUInt32 8) &&& Int32.toUInt32 31)).toInt32)) >>> ((Int32.toUInt32 4) &&& Int32.toUInt32 31)).toInt32)), some (.int (((1 + 16) + 8) + 4))]) (st' := [.int ((((1 + 16) + 8) + 4) + (((Int32.toUInt32 (((Int32.toUInt32 (((Int32.toUInt32 (((Int32.toUInt32 ((v0 ^^^ (-1)) &&& (v0 - 1))) >>> ((Int32.toUInt32 16) &&& Int32.toUInt32 31)).toInt32)) >>> ((Int32.toUInt32 8) &&& Int32.toUInt32 31)).toInt32)) >>> ((Int32.toUInt32 4) &&& Int32.toUInt32 31)).toInt32)) >>> ((Int32.toUInt32 1) &&& Int32.toUInt32 31)).toInt32))]) (S' := S) rfl ?_
            cases hr
            exact go_ireturn mm_363 rfl rfl ⟨rfl, rfl, rfl⟩
        · rw [if_neg hc4] at hr
          refine go_run mm_363 2 (pc' := 64) (ls' := [some (.int (((Int32.toUInt32 (((Int32.toUInt32 ((v0 ^^^ (-1)) &&& (v0 - 1))) >>> ((Int32.toUInt32 16) &&& Int32.toUInt32 31)).toInt32)) >>> ((Int32.toUInt32 8) &&& Int32.toUInt32 31)).toInt32)), some (.int ((1 + 16) + 8))]) (st' := [.int 4, .int (((Int32.toUInt32 (((Int32.toUInt32 ((v0 ^^^ (-1)) &&& (v0 - 1))) >>> ((Int32.toUInt32 16) &&& Int32.toUInt32 31)).toInt32)) >>> ((Int32.toUInt32 8) &&& Int32.toUInt32 31)).toInt32)]) (S' := S) rfl ?_
          refine go_if2 mm_363 rfl (p1 := 67) (p2 := 74) rfl (fun (hc6 : (4 : Int32) < (((Int32.toUInt32 (((Int32.toUInt32 ((v0 ^^^ (-1)) &&& (v0 - 1))) >>> ((Int32.toUInt32 16) &&& Int32.toUInt32 31)).toInt32)) >>> ((Int32.toUInt32 8) &&& Int32.toUInt32 31)).toInt32)) => ?_) (fun (hc6 : ¬ (4 : Int32) < (((Int32.toUInt32 (((Int32.toUInt32 ((v0 ^^^ (-1)) &&& (v0 - 1))) >>> ((Int32.toUInt32 16) &&& Int32.toUInt32 31)).toInt32)) >>> ((Int32.toUInt32 8) &&& Int32.toUInt32 31)).toInt32)) => ?_)
          · rw [if_pos hc6] at hr
            refine go_run mm_363 10 (pc' := 79) (ls' := [some (.int (((Int32.toUInt32 (((Int32.toUInt32 (((Int32.toUInt32 ((v0 ^^^ (-1)) &&& (v0 - 1))) >>> ((Int32.toUInt32 16) &&& Int32.toUInt32 31)).toInt32)) >>> ((Int32.toUInt32 8) &&& Int32.toUInt32 31)).toInt32)) >>> ((Int32.toUInt32 2) &&& Int32.toUInt32 31)).toInt32)), some (.int (((1 + 16) + 8) + 2))]) (st' := [.int ((((1 + 16) + 8) + 2) + (((Int32.toUInt32 (((Int32.toUInt32 (((Int32.toUInt32 (((Int32.toUInt32 ((v0 ^^^ (-1)) &&& (v0 - 1))) >>> ((Int32.toUInt32 16) &&& Int32.toUInt32 31)).toInt32)) >>> ((Int32.toUInt32 8) &&& Int32.toUInt32 31)).toInt32)) >>> ((Int32.toUInt32 2) &&& Int32.toUInt32 31)).toInt32)) >>> ((Int32.toUInt32 1) &&& Int32.toUInt32 31)).toInt32))]) (S' := S) rfl ?_
            cases hr
            exact go_ireturn mm_363 rfl rfl ⟨rfl, rfl, rfl⟩
          · rw [if_neg hc6] at hr
            refine go_run mm_363 5 (pc' := 79) (ls' := [some (.int (((Int32.toUInt32 (((Int32.toUInt32 ((v0 ^^^ (-1)) &&& (v0 - 1))) >>> ((Int32.toUInt32 16) &&& Int32.toUInt32 31)).toInt32)) >>> ((Int32.toUInt32 8) &&& Int32.toUInt32 31)).toInt32)), some (.int ((1 + 16) + 8))]) (st' := [.int (((1 + 16) + 8) + (((Int32.toUInt32 (((Int32.toUInt32 (((Int32.toUInt32 ((v0 ^^^ (-1)) &&& (v0 - 1))) >>> ((Int32.toUInt32 16) &&& Int32.toUInt32 31)).toInt32)) >>> ((Int32.toUInt32 8) &&& Int32.toUInt32 31)).toInt32)) >>> ((Int32.toUInt32 1) &&& Int32.toUInt32 31)).toInt32))]) (S' := S) rfl ?_
            cases hr
            exact go_ireturn mm_363 rfl rfl ⟨rfl, rfl, rfl⟩
      · rw [if_neg hc3] at hr
        refine go_run mm_363 2 (pc' := 52) (ls' := [some (.int (((Int32.toUInt32 ((v0 ^^^ (-1)) &&& (v0 - 1))) >>> ((Int32.toUInt32 16) &&& Int32.toUInt32 31)).toInt32)), some (.int (1 + 16))]) (st' := [.int 16, .int (((Int32.toUInt32 ((v0 ^^^ (-1)) &&& (v0 - 1))) >>> ((Int32.toUInt32 16) &&& Int32.toUInt32 31)).toInt32)]) (S' := S) rfl ?_
        refine go_if2 mm_363 rfl (p1 := 55) (p2 := 62) rfl (fun (hc7 : (16 : Int32) < (((Int32.toUInt32 ((v0 ^^^ (-1)) &&& (v0 - 1))) >>> ((Int32.toUInt32 16) &&& Int32.toUInt32 31)).toInt32)) => ?_) (fun (hc7 : ¬ (16 : Int32) < (((Int32.toUInt32 ((v0 ^^^ (-1)) &&& (v0 - 1))) >>> ((Int32.toUInt32 16) &&& Int32.toUInt32 31)).toInt32)) => ?_)
        · rw [if_pos hc7] at hr
          refine go_run mm_363 7 (pc' := 64) (ls' := [some (.int (((Int32.toUInt32 (((Int32.toUInt32 ((v0 ^^^ (-1)) &&& (v0 - 1))) >>> ((Int32.toUInt32 16) &&& Int32.toUInt32 31)).toInt32)) >>> ((Int32.toUInt32 4) &&& Int32.toUInt32 31)).toInt32)), some (.int ((1 + 16) + 4))]) (st' := [.int 4, .int (((Int32.toUInt32 (((Int32.toUInt32 ((v0 ^^^ (-1)) &&& (v0 - 1))) >>> ((Int32.toUInt32 16) &&& Int32.toUInt32 31)).toInt32)) >>> ((Int32.toUInt32 4) &&& Int32.toUInt32 31)).toInt32)]) (S' := S) rfl ?_
          refine go_if2 mm_363 rfl (p1 := 67) (p2 := 74) rfl (fun (hc8 : (4 : Int32) < (((Int32.toUInt32 (((Int32.toUInt32 ((v0 ^^^ (-1)) &&& (v0 - 1))) >>> ((Int32.toUInt32 16) &&& Int32.toUInt32 31)).toInt32)) >>> ((Int32.toUInt32 4) &&& Int32.toUInt32 31)).toInt32)) => ?_) (fun (hc8 : ¬ (4 : Int32) < (((Int32.toUInt32 (((Int32.toUInt32 ((v0 ^^^ (-1)) &&& (v0 - 1))) >>> ((Int32.toUInt32 16) &&& Int32.toUInt32 31)).toInt32)) >>> ((Int32.toUInt32 4) &&& Int32.toUInt32 31)).toInt32)) => ?_)
          · rw [if_pos hc8] at hr
            refine go_run mm_363 10 (pc' := 79) (ls' := [some (.int (((Int32.toUInt32 (((Int32.toUInt32 (((Int32.toUInt32 ((v0 ^^^ (-1)) &&& (v0 - 1))) >>> ((Int32.toUInt32 16) &&& Int32.toUInt32 31)).toInt32)) >>> ((Int32.toUInt32 4) &&& Int32.toUInt32 31)).toInt32)) >>> ((Int32.toUInt32 2) &&& Int32.toUInt32 31)).toInt32)), some (.int (((1 + 16) + 4) + 2))]) (st' := [.int ((((1 + 16) + 4) + 2) + (((Int32.toUInt32 (((Int32.toUInt32 (((Int32.toUInt32 (((Int32.toUInt32 ((v0 ^^^ (-1)) &&& (v0 - 1))) >>> ((Int32.toUInt32 16) &&& Int32.toUInt32 31)).toInt32)) >>> ((Int32.toUInt32 4) &&& Int32.toUInt32 31)).toInt32)) >>> ((Int32.toUInt32 2) &&& Int32.toUInt32 31)).toInt32)) >>> ((Int32.toUInt32 1) &&& Int32.toUInt32 31)).toInt32))]) (S' := S) rfl ?_
            cases hr
            exact go_ireturn mm_363 rfl rfl ⟨rfl, rfl, rfl⟩
          · rw [if_neg hc8] at hr
            refine go_run mm_363 5 (pc' := 79) (ls' := [some (.int (((Int32.toUInt32 (((Int32.toUInt32 ((v0 ^^^ (-1)) &&& (v0 - 1))) >>> ((Int32.toUInt32 16) &&& Int32.toUInt32 31)).toInt32)) >>> ((Int32.toUInt32 4) &&& Int32.toUInt32 31)).toInt32)), some (.int ((1 + 16) + 4))]) (st' := [.int (((1 + 16) + 4) + (((Int32.toUInt32 (((Int32.toUInt32 (((Int32.toUInt32 ((v0 ^^^ (-1)) &&& (v0 - 1))) >>> ((Int32.toUInt32 16) &&& Int32.toUInt32 31)).toInt32)) >>> ((Int32.toUInt32 4) &&& Int32.toUInt32 31)).toInt32)) >>> ((Int32.toUInt32 1) &&& Int32.toUInt32 31)).toInt32))]) (S' := S) rfl ?_
            cases hr
            exact go_ireturn mm_363 rfl rfl ⟨rfl, rfl, rfl⟩
        · rw [if_neg hc7] at hr
          refine go_run mm_363 2 (pc' := 64) (ls' := [some (.int (((Int32.toUInt32 ((v0 ^^^ (-1)) &&& (v0 - 1))) >>> ((Int32.toUInt32 16) &&& Int32.toUInt32 31)).toInt32)), some (.int (1 + 16))]) (st' := [.int 4, .int (((Int32.toUInt32 ((v0 ^^^ (-1)) &&& (v0 - 1))) >>> ((Int32.toUInt32 16) &&& Int32.toUInt32 31)).toInt32)]) (S' := S) rfl ?_
          refine go_if2 mm_363 rfl (p1 := 67) (p2 := 74) rfl (fun (hc9 : (4 : Int32) < (((Int32.toUInt32 ((v0 ^^^ (-1)) &&& (v0 - 1))) >>> ((Int32.toUInt32 16) &&& Int32.toUInt32 31)).toInt32)) => ?_) (fun (hc9 : ¬ (4 : Int32) < (((Int32.toUInt32 ((v0 ^^^ (-1)) &&& (v0 - 1))) >>> ((Int32.toUInt32 16) &&& Int32.toUInt32 31)).toInt32)) => ?_)
          · rw [if_pos hc9] at hr
            refine go_run mm_363 10 (pc' := 79) (ls' := [some (.int (((Int32.toUInt32 (((Int32.toUInt32 ((v0 ^^^ (-1)) &&& (v0 - 1))) >>> ((Int32.toUInt32 16) &&& Int32.toUInt32 31)).toInt32)) >>> ((Int32.toUInt32 2) &&& Int32.toUInt32 31)).toInt32)), some (.int ((1 + 16) + 2))]) (st' := [.int (((1 + 16) + 2) + (((Int32.toUInt32 (((Int32.toUInt32 (((Int32.toUInt32 ((v0 ^^^ (-1)) &&& (v0 - 1))) >>> ((Int32.toUInt32 16) &&& Int32.toUInt32 31)).toInt32)) >>> ((Int32.toUInt32 2) &&& Int32.toUInt32 31)).toInt32)) >>> ((Int32.toUInt32 1) &&& Int32.toUInt32 31)).toInt32))]) (S' := S) rfl ?_
            cases hr
            exact go_ireturn mm_363 rfl rfl ⟨rfl, rfl, rfl⟩
          · rw [if_neg hc9] at hr
            refine go_run mm_363 5 (pc' := 79) (ls' := [some (.int (((Int32.toUInt32 ((v0 ^^^ (-1)) &&& (v0 - 1))) >>> ((Int32.toUInt32 16) &&& Int32.toUInt32 31)).toInt32)), some (.int (1 + 16))]) (st' := [.int ((1 + 16) + (((Int32.toUInt32 (((Int32.toUInt32 ((v0 ^^^ (-1)) &&& (v0 - 1))) >>> ((Int32.toUInt32 16) &&& Int32.toUInt32 31)).toInt32)) >>> ((Int32.toUInt32 1) &&& Int32.toUInt32 31)).toInt32))]) (S' := S) rfl ?_
            cases hr
            exact go_ireturn mm_363 rfl rfl ⟨rfl, rfl, rfl⟩
    · rw [if_neg hc2] at hr
      refine go_run mm_363 2 (pc' := 38) (ls' := [some (.int ((v0 ^^^ (-1)) &&& (v0 - 1))), some (.int 1)]) (st' := [.int 256, .int ((v0 ^^^ (-1)) &&& (v0 - 1))]) (S' := S) rfl ?_
      refine go_if2 mm_363 rfl (p1 := 41) (p2 := 49) rfl (fun (hc10 : (256 : Int32) < ((v0 ^^^ (-1)) &&& (v0 - 1))) => ?_) (fun (hc10 : ¬ (256 : Int32) < ((v0 ^^^ (-1)) &&& (v0 - 1))) => ?_)
      · rw [if_pos hc10] at hr
        refine go_run mm_363 7 (pc' := 52) (ls' := [some (.int (((Int32.toUInt32 ((v0 ^^^ (-1)) &&& (v0 - 1))) >>> ((Int32.toUInt32 8) &&& Int32.toUInt32 31)).toInt32)), some (.int (1 + 8))]) (st' := [.int 16, .int (((Int32.toUInt32 ((v0 ^^^ (-1)) &&& (v0 - 1))) >>> ((Int32.toUInt32 8) &&& Int32.toUInt32 31)).toInt32)]) (S' := S) rfl ?_
        refine go_if2 mm_363 rfl (p1 := 55) (p2 := 62) rfl (fun (hc11 : (16 : Int32) < (((Int32.toUInt32 ((v0 ^^^ (-1)) &&& (v0 - 1))) >>> ((Int32.toUInt32 8) &&& Int32.toUInt32 31)).toInt32)) => ?_) (fun (hc11 : ¬ (16 : Int32) < (((Int32.toUInt32 ((v0 ^^^ (-1)) &&& (v0 - 1))) >>> ((Int32.toUInt32 8) &&& Int32.toUInt32 31)).toInt32)) => ?_)
        · rw [if_pos hc11] at hr
          refine go_run mm_363 7 (pc' := 64) (ls' := [some (.int (((Int32.toUInt32 (((Int32.toUInt32 ((v0 ^^^ (-1)) &&& (v0 - 1))) >>> ((Int32.toUInt32 8) &&& Int32.toUInt32 31)).toInt32)) >>> ((Int32.toUInt32 4) &&& Int32.toUInt32 31)).toInt32)), some (.int ((1 + 8) + 4))]) (st' := [.int 4, .int (((Int32.toUInt32 (((Int32.toUInt32 ((v0 ^^^ (-1)) &&& (v0 - 1))) >>> ((Int32.toUInt32 8) &&& Int32.toUInt32 31)).toInt32)) >>> ((Int32.toUInt32 4) &&& Int32.toUInt32 31)).toInt32)]) (S' := S) rfl ?_
          refine go_if2 mm_363 rfl (p1 := 67) (p2 := 74) rfl (fun (hc12 : (4 : Int32) < (((Int32.toUInt32 (((Int32.toUInt32 ((v0 ^^^ (-1)) &&& (v0 - 1))) >>> ((Int32.toUInt32 8) &&& Int32.toUInt32 31)).toInt32)) >>> ((Int32.toUInt32 4) &&& Int32.toUInt32 31)).toInt32)) => ?_) (fun (hc12 : ¬ (4 : Int32) < (((Int32.toUInt32 (((Int32.toUInt32 ((v0 ^^^ (-1)) &&& (v0 - 1))) >>> ((Int32.toUInt32 8) &&& Int32.toUInt32 31)).toInt32)) >>> ((Int32.toUInt32 4) &&& Int32.toUInt32 31)).toInt32)) => ?_)
          · rw [if_pos hc12] at hr
            refine go_run mm_363 10 (pc' := 79) (ls' := [some (.int (((Int32.toUInt32 (((Int32.toUInt32 (((Int32.toUInt32 ((v0 ^^^ (-1)) &&& (v0 - 1))) >>> ((Int32.toUInt32 8) &&& Int32.toUInt32 31)).toInt32)) >>> ((Int32.toUInt32 4) &&& Int32.toUInt32 31)).toInt32)) >>> ((Int32.toUInt32 2) &&& Int32.toUInt32 31)).toInt32)), some (.int (((1 + 8) + 4) + 2))]) (st' := [.int ((((1 + 8) + 4) + 2) + (((Int32.toUInt32 (((Int32.toUInt32 (((Int32.toUInt32 (((Int32.toUInt32 ((v0 ^^^ (-1)) &&& (v0 - 1))) >>> ((Int32.toUInt32 8) &&& Int32.toUInt32 31)).toInt32)) >>> ((Int32.toUInt32 4) &&& Int32.toUInt32 31)).toInt32)) >>> ((Int32.toUInt32 2) &&& Int32.toUInt32 31)).toInt32)) >>> ((Int32.toUInt32 1) &&& Int32.toUInt32 31)).toInt32))]) (S' := S) rfl ?_
            cases hr
            exact go_ireturn mm_363 rfl rfl ⟨rfl, rfl, rfl⟩
          · rw [if_neg hc12] at hr
            refine go_run mm_363 5 (pc' := 79) (ls' := [some (.int (((Int32.toUInt32 (((Int32.toUInt32 ((v0 ^^^ (-1)) &&& (v0 - 1))) >>> ((Int32.toUInt32 8) &&& Int32.toUInt32 31)).toInt32)) >>> ((Int32.toUInt32 4) &&& Int32.toUInt32 31)).toInt32)), some (.int ((1 + 8) + 4))]) (st' := [.int (((1 + 8) + 4) + (((Int32.toUInt32 (((Int32.toUInt32 (((Int32.toUInt32 ((v0 ^^^ (-1)) &&& (v0 - 1))) >>> ((Int32.toUInt32 8) &&& Int32.toUInt32 31)).toInt32)) >>> ((Int32.toUInt32 4) &&& Int32.toUInt32 31)).toInt32)) >>> ((Int32.toUInt32 1) &&& Int32.toUInt32 31)).toInt32))]) (S' := S) rfl ?_
            cases hr
            exact go_ireturn mm_363 rfl rfl ⟨rfl, rfl, rfl⟩
        · rw [if_neg hc11] at hr
          refine go_run mm_363 2 (pc' := 64) (ls' := [some (.int (((Int32.toUInt32 ((v0 ^^^ (-1)) &&& (v0 - 1))) >>> ((Int32.toUInt32 8) &&& Int32.toUInt32 31)).toInt32)), some (.int (1 + 8))]) (st' := [.int 4, .int (((Int32.toUInt32 ((v0 ^^^ (-1)) &&& (v0 - 1))) >>> ((Int32.toUInt32 8) &&& Int32.toUInt32 31)).toInt32)]) (S' := S) rfl ?_
          refine go_if2 mm_363 rfl (p1 := 67) (p2 := 74) rfl (fun (hc13 : (4 : Int32) < (((Int32.toUInt32 ((v0 ^^^ (-1)) &&& (v0 - 1))) >>> ((Int32.toUInt32 8) &&& Int32.toUInt32 31)).toInt32)) => ?_) (fun (hc13 : ¬ (4 : Int32) < (((Int32.toUInt32 ((v0 ^^^ (-1)) &&& (v0 - 1))) >>> ((Int32.toUInt32 8) &&& Int32.toUInt32 31)).toInt32)) => ?_)
          · rw [if_pos hc13] at hr
            refine go_run mm_363 10 (pc' := 79) (ls' := [some (.int (((Int32.toUInt32 (((Int32.toUInt32 ((v0 ^^^ (-1)) &&& (v0 - 1))) >>> ((Int32.toUInt32 8) &&& Int32.toUInt32 31)).toInt32)) >>> ((Int32.toUInt32 2) &&& Int32.toUInt32 31)).toInt32)), some (.int ((1 + 8) + 2))]) (st' := [.int (((1 + 8) + 2) + (((Int32.toUInt32 (((Int32.toUInt32 (((Int32.toUInt32 ((v0 ^^^ (-1)) &&& (v0 - 1))) >>> ((Int32.toUInt32 8) &&& Int32.toUInt32 31)).toInt32)) >>> ((Int32.toUInt32 2) &&& Int32.toUInt32 31)).toInt32)) >>> ((Int32.toUInt32 1) &&& Int32.toUInt32 31)).toInt32))]) (S' := S) rfl ?_
            cases hr
            exact go_ireturn mm_363 rfl rfl ⟨rfl, rfl, rfl⟩
          · rw [if_neg hc13] at hr
            refine go_run mm_363 5 (pc' := 79) (ls' := [some (.int (((Int32.toUInt32 ((v0 ^^^ (-1)) &&& (v0 - 1))) >>> ((Int32.toUInt32 8) &&& Int32.toUInt32 31)).toInt32)), some (.int (1 + 8))]) (st' := [.int ((1 + 8) + (((Int32.toUInt32 (((Int32.toUInt32 ((v0 ^^^ (-1)) &&& (v0 - 1))) >>> ((Int32.toUInt32 8) &&& Int32.toUInt32 31)).toInt32)) >>> ((Int32.toUInt32 1) &&& Int32.toUInt32 31)).toInt32))]) (S' := S) rfl ?_
            cases hr
            exact go_ireturn mm_363 rfl rfl ⟨rfl, rfl, rfl⟩
      · rw [if_neg hc10] at hr
        refine go_run mm_363 2 (pc' := 52) (ls' := [some (.int ((v0 ^^^ (-1)) &&& (v0 - 1))), some (.int 1)]) (st' := [.int 16, .int ((v0 ^^^ (-1)) &&& (v0 - 1))]) (S' := S) rfl ?_
        refine go_if2 mm_363 rfl (p1 := 55) (p2 := 62) rfl (fun (hc14 : (16 : Int32) < ((v0 ^^^ (-1)) &&& (v0 - 1))) => ?_) (fun (hc14 : ¬ (16 : Int32) < ((v0 ^^^ (-1)) &&& (v0 - 1))) => ?_)
        · rw [if_pos hc14] at hr
          refine go_run mm_363 7 (pc' := 64) (ls' := [some (.int (((Int32.toUInt32 ((v0 ^^^ (-1)) &&& (v0 - 1))) >>> ((Int32.toUInt32 4) &&& Int32.toUInt32 31)).toInt32)), some (.int (1 + 4))]) (st' := [.int 4, .int (((Int32.toUInt32 ((v0 ^^^ (-1)) &&& (v0 - 1))) >>> ((Int32.toUInt32 4) &&& Int32.toUInt32 31)).toInt32)]) (S' := S) rfl ?_
          refine go_if2 mm_363 rfl (p1 := 67) (p2 := 74) rfl (fun (hc15 : (4 : Int32) < (((Int32.toUInt32 ((v0 ^^^ (-1)) &&& (v0 - 1))) >>> ((Int32.toUInt32 4) &&& Int32.toUInt32 31)).toInt32)) => ?_) (fun (hc15 : ¬ (4 : Int32) < (((Int32.toUInt32 ((v0 ^^^ (-1)) &&& (v0 - 1))) >>> ((Int32.toUInt32 4) &&& Int32.toUInt32 31)).toInt32)) => ?_)
          · rw [if_pos hc15] at hr
            refine go_run mm_363 10 (pc' := 79) (ls' := [some (.int (((Int32.toUInt32 (((Int32.toUInt32 ((v0 ^^^ (-1)) &&& (v0 - 1))) >>> ((Int32.toUInt32 4) &&& Int32.toUInt32 31)).toInt32)) >>> ((Int32.toUInt32 2) &&& Int32.toUInt32 31)).toInt32)), some (.int ((1 + 4) + 2))]) (st' := [.int (((1 + 4) + 2) + (((Int32.toUInt32 (((Int32.toUInt32 (((Int32.toUInt32 ((v0 ^^^ (-1)) &&& (v0 - 1))) >>> ((Int32.toUInt32 4) &&& Int32.toUInt32 31)).toInt32)) >>> ((Int32.toUInt32 2) &&& Int32.toUInt32 31)).toInt32)) >>> ((Int32.toUInt32 1) &&& Int32.toUInt32 31)).toInt32))]) (S' := S) rfl ?_
            cases hr
            exact go_ireturn mm_363 rfl rfl ⟨rfl, rfl, rfl⟩
          · rw [if_neg hc15] at hr
            refine go_run mm_363 5 (pc' := 79) (ls' := [some (.int (((Int32.toUInt32 ((v0 ^^^ (-1)) &&& (v0 - 1))) >>> ((Int32.toUInt32 4) &&& Int32.toUInt32 31)).toInt32)), some (.int (1 + 4))]) (st' := [.int ((1 + 4) + (((Int32.toUInt32 (((Int32.toUInt32 ((v0 ^^^ (-1)) &&& (v0 - 1))) >>> ((Int32.toUInt32 4) &&& Int32.toUInt32 31)).toInt32)) >>> ((Int32.toUInt32 1) &&& Int32.toUInt32 31)).toInt32))]) (S' := S) rfl ?_
            cases hr
            exact go_ireturn mm_363 rfl rfl ⟨rfl, rfl, rfl⟩
        · rw [if_neg hc14] at hr
          refine go_run mm_363 2 (pc' := 64) (ls' := [some (.int ((v0 ^^^ (-1)) &&& (v0 - 1))), some (.int 1)]) (st' := [.int 4, .int ((v0 ^^^ (-1)) &&& (v0 - 1))]) (S' := S) rfl ?_
          refine go_if2 mm_363 rfl (p1 := 67) (p2 := 74) rfl (fun (hc16 : (4 : Int32) < ((v0 ^^^ (-1)) &&& (v0 - 1))) => ?_) (fun (hc16 : ¬ (4 : Int32) < ((v0 ^^^ (-1)) &&& (v0 - 1))) => ?_)
          · rw [if_pos hc16] at hr
            refine go_run mm_363 10 (pc' := 79) (ls' := [some (.int (((Int32.toUInt32 ((v0 ^^^ (-1)) &&& (v0 - 1))) >>> ((Int32.toUInt32 2) &&& Int32.toUInt32 31)).toInt32)), some (.int (1 + 2))]) (st' := [.int ((1 + 2) + (((Int32.toUInt32 (((Int32.toUInt32 ((v0 ^^^ (-1)) &&& (v0 - 1))) >>> ((Int32.toUInt32 2) &&& Int32.toUInt32 31)).toInt32)) >>> ((Int32.toUInt32 1) &&& Int32.toUInt32 31)).toInt32))]) (S' := S) rfl ?_
            cases hr
            exact go_ireturn mm_363 rfl rfl ⟨rfl, rfl, rfl⟩
          · rw [if_neg hc16] at hr
            refine go_run mm_363 5 (pc' := 79) (ls' := [some (.int ((v0 ^^^ (-1)) &&& (v0 - 1))), some (.int 1)]) (st' := [.int (1 + (((Int32.toUInt32 ((v0 ^^^ (-1)) &&& (v0 - 1))) >>> ((Int32.toUInt32 1) &&& Int32.toUInt32 31)).toInt32))]) (S' := S) rfl ?_
            cases hr
            exact go_ireturn mm_363 rfl rfl ⟨rfl, rfl, rfl⟩
  · rw [if_neg hc1] at hr
    refine go_run mm_363 3 (pc' := 16) (ls' := [some (.int ((v0 ^^^ (-1)) &&& (v0 - 1))), none]) (st' := [.int (((v0 ^^^ (-1)) &&& (v0 - 1)) &&& 32)]) (S' := S) rfl ?_
    cases hr
    exact go_ireturn mm_363 rfl rfl ⟨rfl, rfl, rfl⟩

theorem mm_365 : mtG 365 = some (mi_365, 15, ft_365) := rfl
def F_365 (v0 : Int64) : Int32 := (if (Int64.toInt32 v0) = 0 then 32 + (F_363 (Int64.toInt32 (((Int64.toUInt64 v0) >>> ((Int64.toUInt64 (Int32.toInt64 32)) &&& Int64.toUInt64 63)).toInt64))) else (F_363 (Int64.toInt32 v0)))
set_option maxRecDepth 20000 in
theorem S_365 {d : Nat} {S : ST} {v0 : Int64} {r} (hr : F_365 v0 = r) : Cal XC (d + 1) 365 [.long v0] S (RV (vI r) S) := by
  unfold F_365 at hr
  refine cal_go 1 rfl ?_
  refine go_run mm_365 4 (pc' := 4) (ls' := [some (.long v0), none, some (.int (Int64.toInt32 v0))]) (st' := [.int (Int64.toInt32 v0)]) (S' := S) rfl ?_
  have j2 : Go XC (d + 1) 365 0 25 [some (.long v0), none, some (.int (Int64.toInt32 v0))] [.int (if (Int64.toInt32 v0) = 0 then 32 + (F_363 (Int64.toInt32 (((Int64.toUInt64 v0) >>> ((Int64.toUInt64 (Int32.toInt64 32)) &&& Int64.toUInt64 63)).toInt64))) else (F_363 (Int64.toInt32 v0)))] S (RV (vI r) S) := by
    cases hr
    exact go_ireturn mm_365 rfl rfl ⟨rfl, rfl, rfl⟩
  refine go_if0 mm_365 rfl (p1 := 7) (p2 := 21) rfl (fun (hc1 : (Int64.toInt32 v0) = 0) => ?_) (fun (hc1 : ¬ (Int64.toInt32 v0) = 0) => ?_)
  · refine go_run mm_365 5 (pc' := 14) (ls' := [some (.long v0), none, some (.int (Int64.toInt32 v0))]) (st' := [.int (Int64.toInt32 (((Int64.toUInt64 v0) >>> ((Int64.toUInt64 (Int32.toInt64 32)) &&& Int64.toUInt64 63)).toInt64)), .int 32]) (S' := S) rfl ?_
    refine go_cs mm_365 (av := [.int (Int64.toInt32 (((Int64.toUInt64 v0) >>> ((Int64.toUInt64 (Int32.toInt64 32)) &&& Int64.toUInt64 63)).toInt64))]) (rest := [.int 32]) (nl := 2) rfl (show csOK 365 14 311 363 1 2 = true by decide +kernel) rfl rfl rfl (S_363 rfl) (KP_V ?_)
    show Go XC (d + 1) 365 0 17 [some (.long v0), none, some (.int (Int64.toInt32 v0))] [.int (F_363 (Int64.toInt32 (((Int64.toUInt64 v0) >>> ((Int64.toUInt64 (Int32.toInt64 32)) &&& Int64.toUInt64 63)).toInt64))), .int 32] S (RV (vI r) S)
    refine go_run mm_365 2 (pc' := 25) (ls' := [some (.long v0), none, some (.int (Int64.toInt32 v0))]) (st' := [.int (32 + (F_363 (Int64.toInt32 (((Int64.toUInt64 v0) >>> ((Int64.toUInt64 (Int32.toInt64 32)) &&& Int64.toUInt64 63)).toInt64))))]) (S' := S) rfl ?_
    have e : ((if (Int64.toInt32 v0) = 0 then 32 + (F_363 (Int64.toInt32 (((Int64.toUInt64 v0) >>> ((Int64.toUInt64 (Int32.toInt64 32)) &&& Int64.toUInt64 63)).toInt64))) else (F_363 (Int64.toInt32 v0))) : Int32) = 32 + (F_363 (Int64.toInt32 (((Int64.toUInt64 v0) >>> ((Int64.toUInt64 (Int32.toInt64 32)) &&& Int64.toUInt64 63)).toInt64))) := by simp [b2i, hc1]
    rw [e] at j2
    exact j2
  · refine go_run mm_365 1 (pc' := 22) (ls' := [some (.long v0), none, some (.int (Int64.toInt32 v0))]) (st' := [.int (Int64.toInt32 v0)]) (S' := S) rfl ?_
    refine go_cs mm_365 (av := [.int (Int64.toInt32 v0)]) (rest := []) (nl := 2) rfl (show csOK 365 22 311 363 1 2 = true by decide +kernel) rfl rfl rfl (S_363 rfl) (KP_V ?_)
    show Go XC (d + 1) 365 0 25 [some (.long v0), none, some (.int (Int64.toInt32 v0))] [.int (F_363 (Int64.toInt32 v0))] S (RV (vI r) S)
    have e : ((if (Int64.toInt32 v0) = 0 then 32 + (F_363 (Int64.toInt32 (((Int64.toUInt64 v0) >>> ((Int64.toUInt64 (Int32.toInt64 32)) &&& Int64.toUInt64 63)).toInt64))) else (F_363 (Int64.toInt32 v0))) : Int32) = (F_363 (Int64.toInt32 v0)) := by simp [b2i, hc1]
    rw [e] at j2
    exact j2

theorem mm_78 : mtG 78 = some (mi_78, 7, ft_78) := rfl
def L_78_7 (v1 : Int32) (S : ST) (a7 : Int64 × Int32) : Option ((Int64 × Int32) ⊕ ((Int64 × Int32) ⊕ Int32)) := if a7.2 < 64 then (ob (F_74 a7.1 S) (fun w1 => if w1 = (F_71 S) then (some (.inr (.inr (F_365 (w1 &&& (a7.1 ^^^ (-1))))))) else (some (.inl (w1, a7.2 + 1))))) else (some (.inr (.inl (a7.1, a7.2))))
set_option maxRecDepth 20000 in
theorem LS_78_7 {d : Nat} {R : RT} {S : ST} {v1 : Int32} {a7 : Int64 × Int32} {r9} (hr : L_78_7 v1 S a7 = some r9) (hL : ∀ a9, r9 = .inl a9 → (fun a7 => Go XC (d + 2) 78 0 7 [some (.ref 30), some (.int v1), some (.long a7.1), none, some (.int a7.2), none, none] [] S R) a9) (hR : ∀ b9, r9 = .inr b9 → Sum.elim (fun e7 => Go XC (d + 2) 78 0 52 [some (.ref 30), some (.int v1), some (.long e7.1), none, some (.int e7.2), none, none] [] S R) (fun o => R 0 (.inr (vI o)) S) b9) : Go XC (d + 2) 78 0 7 [some (.ref 30), some (.int v1), some (.long a7.1), none, some (.int a7.2), none, none] [] S R := by
  unfold L_78_7 at hr
  refine go_run mm_78 2 (pc' := 11) (ls' := [some (.ref 30), some (.int v1), some (.long a7.1), none, some (.int a7.2), none, none]) (st' := [.int 64, .int a7.2]) (S' := S) rfl ?_
  refine go_if2 mm_78 rfl (p1 := 14) (p2 := 52) rfl (fun (hc1 : a7.2 < 64) => ?_) (fun (hc1 : ¬ a7.2 < 64) => ?_)
  · rw [if_pos hc1] at hr
    refine go_run mm_78 2 (pc' := 16) (ls' := [some (.ref 30), some (.int v1), some (.long a7.1), none, some (.int a7.2), none, none]) (st' := [.long a7.1, .ref 30]) (S' := S) rfl ?_
    obtain ⟨w1, hw1, hr⟩ := ob_some hr
    refine go_cv mm_78 (h := 30) (As := [.long a7.1]) (rest := []) (nl := 6) rfl rfl (show cvOK 78 16 95 74 1 6 6 = true by decide +kernel) rfl rfl rfl (S_74 hw1) (KP_V ?_)
    show Go XC (d + 2) 78 0 19 [some (.ref 30), some (.int v1), some (.long a7.1), none, some (.int a7.2), none, none] [.long w1] S R
    refine go_run mm_78 3 (pc' := 24) (ls' := [some (.ref 30), some (.int v1), some (.long a7.1), none, some (.int a7.2), some (.long w1), none]) (st' := [.ref 30, .long w1]) (S' := S) rfl ?_
    refine go_cv mm_78 (h := 30) (As := []) (rest := [.long w1]) (nl := 1) rfl rfl (show cvOK 78 24 103 71 0 1 6 = true by decide +kernel) rfl rfl rfl (S_71 rfl) (KP_V ?_)
    show Go XC (d + 2) 78 0 27 [some (.ref 30), some (.int v1), some (.long a7.1), none, some (.int a7.2), some (.long w1), none] [.long (F_71 S), .long w1] S R
    refine go_lif mm_78 rfl rfl (p1 := 31) (p2 := 43) rfl (fun (hc2 : w1 = (F_71 S)) => ?_) (fun (hc2 : ¬ w1 = (F_71 S)) => ?_)
    · rw [if_pos hc2] at hr
      refine go_run mm_78 5 (pc' := 39) (ls' := [some (.ref 30), some (.int v1), some (.long a7.1), none, some (.int a7.2), some (.long w1), none]) (st' := [.long (w1 &&& (a7.1 ^^^ (-1)))]) (S' := S) rfl ?_
      refine go_cs mm_78 (av := [.long (w1 &&& (a7.1 ^^^ (-1)))]) (rest := []) (nl := 3) rfl (show csOK 78 39 106 365 1 3 = true by decide +kernel) rfl rfl rfl (S_365 rfl) (KP_V ?_)
      show Go XC (d + 2) 78 0 42 [some (.ref 30), some (.int v1), some (.long a7.1), none, some (.int a7.2), some (.long w1), none] [.int (F_365 (w1 &&& (a7.1 ^^^ (-1))))] S R
      cases hr
      have h9 : R 0 (.inr (vI (F_365 (w1 &&& (a7.1 ^^^ (-1)))))) S := hR _ rfl
      exact go_ireturn mm_78 rfl rfl h9
    · rw [if_neg hc2] at hr
      refine go_run mm_78 4 (pc' := 7) (ls' := [some (.ref 30), some (.int v1), some (.long w1), none, some (.int (a7.2 + 1)), some (.long w1), none]) (st' := []) (S' := S) rfl ?_
      cases hr
      have h9 := hL (w1, a7.2 + 1) rfl
      dsimp only at h9
      exact Go.le h9 (by repeat first | exact True.intro | refine And.intro rfl ?_)
  · rw [if_neg hc1] at hr
    cases hr
    have h9 := hR (.inl (a7.1, a7.2)) rfl
    dsimp only [Sum.elim_inl] at h9
    exact Go.le h9 (by repeat first | exact True.intro | refine And.intro rfl ?_)
def F_78 (v1 : Int32) (S : ST) : Option Int32 := ob (wh FU (L_78_7 v1 S) (1 <<< (Int32.toInt64 v1 &&& 63), 0)) (fun z => Sum.elim (fun e7 => some (-1)) (fun o => some o) z)
set_option maxRecDepth 20000 in
theorem S_78 {d : Nat} {S : ST} {v1 : Int32} {r} (hr : F_78 v1 S = some r) : Cal XC (d + 2) 78 [.ref 30, .int v1] S (RV (vI r) S) := by
  unfold F_78 at hr
  refine cal_go 5 rfl ?_
  refine go_run mm_78 6 (pc' := 7) (ls' := [some (.ref 30), some (.int v1), some (.long (1 <<< (Int32.toInt64 v1 &&& 63))), none, some (.int 0), none, none]) (st' := []) (S' := S) rfl ?_
  obtain ⟨z7, he7, hr⟩ := ob_some hr
  refine Go.le (ls' := [some (.ref 30), some (.int v1), some (.long (1 <<< (Int32.toInt64 v1 &&& 63))), none, some (.int 0), none, none]) ?_ (by repeat first | exact True.intro | refine And.intro rfl ?_)
  refine wh_go (P := fun a7 => Go XC (d + 2) 78 0 7 [some (.ref 30), some (.int v1), some (.long a7.1), none, some (.int a7.2), none, none] [] S (RV (vI r) S)) (K := fun z => Sum.elim (fun e7 => Go XC (d + 2) 78 0 52 [some (.ref 30), some (.int v1), some (.long e7.1), none, some (.int e7.2), none, none] [] S (RV (vI r) S)) (fun o => (RV (vI r) S) 0 (.inr (vI o)) S) z) (fun a9 r9 h9 hL hR => LS_78_7 h9 hL hR) _ _ _ he7 ?_
  rcases z7 with e7 | o
  rotate_left
  · simp only [Sum.elim_inr] at hr
    cases hr
    exact ⟨rfl, rfl, rfl⟩
  simp only [Sum.elim_inl] at hr
  show Go XC (d + 2) 78 0 52 [some (.ref 30), some (.int v1), some (.long e7.1), none, some (.int e7.2), none, none] [] S (RV (vI r) S)
  refine go_run mm_78 1 (pc' := 53) (ls' := [some (.ref 30), some (.int v1), some (.long e7.1), none, some (.int e7.2), none, none]) (st' := [.int (-1)]) (S' := S) rfl ?_
  cases hr
  exact go_ireturn mm_78 rfl rfl ⟨rfl, rfl, rfl⟩

theorem mm_79 : mtG 79 = some (mi_79, 7, ft_79) := rfl
def L_79_4 (S : ST) (a4 : Int32 × Int32) : Option ((Int32 × Int32) ⊕ (Int32 × Int32)) := if a4.2 < (F_72 S) then (ob (F_78 a4.2 S) (fun w1 => ob (F_77 a4.2 w1 S) (fun w2 => some (.inl ((if a4.1 < w2 then w2 else a4.1), a4.2 + 1))))) else (some (.inr (a4.1, a4.2)))
set_option maxRecDepth 20000 in
theorem LS_79_4 {d : Nat} {R : RT} {S : ST} {a4 : Int32 × Int32} {r9} (hr : L_79_4 S a4 = some r9) (hL : ∀ a9, r9 = .inl a9 → (fun a4 => Go XC (d + 3) 79 0 4 [some (.ref 30), some (.int a4.1), some (.int a4.2)] [] S R) a9) (hR : ∀ b9, r9 = .inr b9 → (fun e4 => Go XC (d + 3) 79 0 33 [some (.ref 30), some (.int e4.1), some (.int e4.2)] [] S R) b9) : Go XC (d + 3) 79 0 4 [some (.ref 30), some (.int a4.1), some (.int a4.2)] [] S R := by
  unfold L_79_4 at hr
  refine go_run mm_79 2 (pc' := 6) (ls' := [some (.ref 30), some (.int a4.1), some (.int a4.2)]) (st' := [.ref 30, .int a4.2]) (S' := S) rfl ?_
  refine go_cv mm_79 (h := 30) (As := []) (rest := [.int a4.2]) (nl := 1) rfl rfl (show cvOK 79 6 87 72 0 1 6 = true by decide +kernel) rfl rfl rfl (S_72 rfl) (KP_V ?_)
  show Go XC (d + 3) 79 0 9 [some (.ref 30), some (.int a4.1), some (.int a4.2)] [.int (F_72 S), .int a4.2] S R
  refine go_if2 mm_79 rfl (p1 := 12) (p2 := 33) rfl (fun (hc1 : a4.2 < (F_72 S)) => ?_) (fun (hc1 : ¬ a4.2 < (F_72 S)) => ?_)
  · rw [if_pos hc1] at hr
    refine go_run mm_79 5 (pc' := 17) (ls' := [some (.ref 30), some (.int a4.1), some (.int a4.2)]) (st' := [.int a4.2, .ref 30, .int a4.2, .ref 30, .int a4.1]) (S' := S) rfl ?_
    obtain ⟨w1, hw1, hr⟩ := ob_some hr
    refine go_cv mm_79 (h := 30) (As := [.int a4.2]) (rest := [.int a4.2, .ref 30, .int a4.1]) (nl := 7) rfl rfl (show cvOK 79 17 112 78 1 7 6 = true by decide +kernel) rfl rfl rfl (S_78 hw1) (KP_V ?_)
    show Go XC (d + 3) 79 0 20 [some (.ref 30), some (.int a4.1), some (.int a4.2)] [.int w1, .int a4.2, .ref 30, .int a4.1] S R
    obtain ⟨w2, hw2, hr⟩ := ob_some hr
    refine go_cv mm_79 (h := 30) (As := [.int a4.2, .int w1]) (rest := [.int a4.1]) (nl := 6) rfl rfl (show cvOK 79 20 115 77 2 6 6 = true by decide +kernel) rfl rfl rfl (S_77 hw2) (KP_V ?_)
    show Go XC (d + 3) 79 0 23 [some (.ref 30), some (.int a4.1), some (.int a4.2)] [.int w2, .int a4.1] S R
    refine go_mm (pc' := 26) (st' := [.int (if a4.1 < w2 then w2 else a4.1)]) (fun lv σ => rfl) ?_
    show Go XC (d + 3) 79 0 26 [some (.ref 30), some (.int a4.1), some (.int a4.2)] [.int (if a4.1 < w2 then w2 else a4.1)] S R
    refine go_run mm_79 3 (pc' := 4) (ls' := [some (.ref 30), some (.int (if a4.1 < w2 then w2 else a4.1)), some (.int (a4.2 + 1))]) (st' := []) (S' := S) rfl ?_
    cases hr
    have h9 := hL ((if a4.1 < w2 then w2 else a4.1), a4.2 + 1) rfl
    dsimp only at h9
    exact Go.le h9 (by repeat first | exact True.intro | refine And.intro rfl ?_)
  · rw [if_neg hc1] at hr
    cases hr
    have h9 := hR (a4.1, a4.2) rfl
    dsimp only [Sum.elim_inl] at h9
    exact Go.le h9 (by repeat first | exact True.intro | refine And.intro rfl ?_)
def F_79 (S : ST) : Option Int32 := ob (wh FU (L_79_4 S) (0, 0)) (fun e4 => some e4.1)
set_option maxRecDepth 20000 in
theorem S_79 {d : Nat} {S : ST} {r} (hr : F_79 S = some r) : Cal XC (d + 3) 79 [.ref 30] S (RV (vI r) S) := by
  unfold F_79 at hr
  refine cal_go 2 rfl ?_
  refine go_run mm_79 4 (pc' := 4) (ls' := [some (.ref 30), some (.int 0), some (.int 0)]) (st' := []) (S' := S) rfl ?_
  obtain ⟨z4, he4, hr⟩ := ob_some hr
  refine Go.le (ls' := [some (.ref 30), some (.int 0), some (.int 0)]) ?_ (by repeat first | exact True.intro | refine And.intro rfl ?_)
  refine wh_go (P := fun a4 => Go XC (d + 3) 79 0 4 [some (.ref 30), some (.int a4.1), some (.int a4.2)] [] S (RV (vI r) S)) (K := fun e4 => Go XC (d + 3) 79 0 33 [some (.ref 30), some (.int e4.1), some (.int e4.2)] [] S (RV (vI r) S)) (fun a9 r9 h9 hL hR => LS_79_4 h9 hL hR) _ _ _ he4 ?_
  generalize z4 = e4 at hr
  show Go XC (d + 3) 79 0 33 [some (.ref 30), some (.int e4.1), some (.int e4.2)] [] S (RV (vI r) S)
  refine go_run mm_79 1 (pc' := 34) (ls' := [some (.ref 30), some (.int e4.1), some (.int e4.2)]) (st' := [.int e4.1]) (S' := S) rfl ?_
  cases hr
  exact go_ireturn mm_79 rfl rfl ⟨rfl, rfl, rfl⟩

theorem mm_80 : mtG 80 = some (mi_80, 8, ft_80) := rfl
def F_80 (S : ST) : Option (Unit × ST) := some ((), (wI (wI S 43 3 0) 43 4 0))
set_option maxRecDepth 20000 in
theorem S_80 {d : Nat} {S : ST} {r} (hr : F_80 S = some r) : Cal XC d 80 [.ref 43] S (RV (vU r.1) r.2) := by
  unfold F_80 at hr
  refine cal_go 0 rfl ?_
  refine go_run mm_80 6 (pc' := 10) (ls' := [some (.ref 43)]) (st' := []) (S' := (wI (wI S 43 3 0) 43 4 0)) rfl ?_
  cases hr
  exact go_vreturn mm_80 rfl rfl ⟨rfl, rfl, rfl⟩
