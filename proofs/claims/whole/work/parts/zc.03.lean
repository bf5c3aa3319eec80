/-! methods as functions (printed by a program): 13 readToken, 12 startText, 16 isWord, 34 passesRightOf, 33 placeOf -/
theorem mm_13 : mtG 13 = some (mi_13, 2, ft_13) := rfl
def F_13 (S : ST) : Option (Unit × ST) := ob (F_14 (S.1 1 4) 32 32 S) (fun w1 => if w1 < (S.1 1 5) then (if w1 < 600 then (ck (ibd w1 600) (if (S.1 2 (Int32.toNatClampNeg w1)) < 97 then (if (S.1 2 (Int32.toNatClampNeg w1)) < 48 then (some ((), (wI (wI (wI S 1 2 w1) 1 4 (w1 + 1)) 1 1 (if (S.1 2 (Int32.toNatClampNeg w1)) = 59 then 3 else 4)))) else (if (57 : Int32) < (S.1 2 (Int32.toNatClampNeg w1)) then (some ((), (wI (wI (wI S 1 2 w1) 1 4 (w1 + 1)) 1 1 (if (S.1 2 (Int32.toNatClampNeg w1)) = 59 then 3 else 4)))) else (ob (F_14 w1 48 57 (wI S 1 2 w1)) (fun w2 => if ((if (4 : Int32) < (w2 - w1) then 4 else 2) : Int32) = 2 then (ob (F_15 (wI (wI (wI S 1 2 w1) 1 4 w2) 1 1 (if (4 : Int32) < (w2 - w1) then 4 else 2))) (fun w3 => some ((), (wI (wI (wI (wI S 1 2 w1) 1 4 w2) 1 1 (if (4 : Int32) < (w2 - w1) then 4 else 2)) 1 3 w3)))) else (some ((), (wI (wI (wI (wI S 1 2 w1) 1 4 w2) 1 1 (if (4 : Int32) < (w2 - w1) then 4 else 2)) 1 3 0))))))) else (if (122 : Int32) < (S.1 2 (Int32.toNatClampNeg w1)) then (if (S.1 2 (Int32.toNatClampNeg w1)) < 48 then (some ((), (wI (wI (wI S 1 2 w1) 1 4 (w1 + 1)) 1 1 (if (S.1 2 (Int32.toNatClampNeg w1)) = 59 then 3 else 4)))) else (if (57 : Int32) < (S.1 2 (Int32.toNatClampNeg w1)) then (some ((), (wI (wI (wI S 1 2 w1) 1 4 (w1 + 1)) 1 1 (if (S.1 2 (Int32.toNatClampNeg w1)) = 59 then 3 else 4)))) else (ob (F_14 w1 48 57 (wI S 1 2 w1)) (fun w4 => if ((if (4 : Int32) < (w4 - w1) then 4 else 2) : Int32) = 2 then (ob (F_15 (wI (wI (wI S 1 2 w1) 1 4 w4) 1 1 (if (4 : Int32) < (w4 - w1) then 4 else 2))) (fun w5 => some ((), (wI (wI (wI (wI S 1 2 w1) 1 4 w4) 1 1 (if (4 : Int32) < (w4 - w1) then 4 else 2)) 1 3 w5)))) else (some ((), (wI (wI (wI (wI S 1 2 w1) 1 4 w4) 1 1 (if (4 : Int32) < (w4 - w1) then 4 else 2)) 1 3 0))))))) else (ob (F_14 w1 97 122 (wI S 1 2 w1)) (fun w6 => some ((), (wI (wI (wI S 1 2 w1) 1 4 w6) 1 1 (if (8 : Int32) < (w6 - w1) then 4 else 1)))))))) else (some ((), (wI (wI (wI S 1 2 w1) 1 1 0) 1 4 w1)))) else (some ((), (wI (wI (wI S 1 2 w1) 1 1 0) 1 4 w1))))
set_option maxRecDepth 20000 in
theorem S_13 {d : Nat} {S : ST} {r} (hr : F_13 S = some r) : Cal XC (d + 1) 13 [.ref 1] S (RV (vU r.1) r.2) := by
  unfold F_13 at hr
  refine cal_go 1 rfl ?_
  refine go_run mm_13 6 (pc' := 10) (ls' := [some (.ref 1), none]) (st' := [.int 32, .int 32, .int (S.1 1 4), .ref 1, .ref 1]) (S' := S) rfl ?_
  obtain ⟨w1, hw1, hr⟩ := ob_some hr
  refine go_cv mm_13 (h := 1) (As := [.int (S.1 1 4), .int 32, .int 32]) (rest := [.ref 1]) (nl := 5) rfl rfl (show cvOK 13 10 37 14 3 5 2 = true by decide +kernel) rfl rfl rfl (S_14 hw1) (KP_V ?_)
  show Go XC (d + 1) 13 0 13 [some (.ref 1), none] [.int w1, .ref 1] S (RV (vU r.1) r.2)
  refine go_run mm_13 5 (pc' := 24) (ls' := [some (.ref 1), none]) (st' := [.int (S.1 1 5), .int w1]) (S' := (wI S 1 2 w1)) rfl ?_
  refine go_if2 mm_13 rfl (p1 := 27) (p2 := 37) rfl (fun (hc1 : w1 < (S.1 1 5)) => ?_) (fun (hc1 : ¬ w1 < (S.1 1 5)) => ?_)
  · rw [if_pos hc1] at hr
    refine go_run mm_13 3 (pc' := 34) (ls' := [some (.ref 1), none]) (st' := [.int 600, .int w1]) (S' := (wI S 1 2 w1)) rfl ?_
    refine go_if2 mm_13 rfl (p1 := 51) (p2 := 37) rfl (fun (hc2 : w1 < 600) => ?_) (fun (hc2 : ¬ w1 < 600) => ?_)
    · rw [if_pos hc2] at hr
      refine go_run mm_13 4 (pc' := 59) (ls' := [some (.ref 1), none]) (st' := [.int w1, .ref 2]) (S' := (wI S 1 2 w1)) rfl ?_
      obtain ⟨hb3, hr⟩ := ck_some hr
      refine go_iaload mm_13 (q := (Int32.toNatClampNeg w1)) rfl rfl rfl (ibd_ok hb3) ?_
      show Go XC (d + 1) 13 0 60 [some (.ref 1), none] [.int (S.1 2 (Int32.toNatClampNeg w1))] (wI S 1 2 w1) (RV (vU r.1) r.2)
      refine go_run mm_13 3 (pc' := 64) (ls' := [some (.ref 1), some (.int (S.1 2 (Int32.toNatClampNeg w1)))]) (st' := [.int 97, .int (S.1 2 (Int32.toNatClampNeg w1))]) (S' := (wI S 1 2 w1)) rfl ?_
      refine go_if2 mm_13 rfl (p1 := 115) (p2 := 67) rfl (fun (hc4 : (S.1 2 (Int32.toNatClampNeg w1)) < 97) => ?_) (fun (hc4 : ¬ (S.1 2 (Int32.toNatClampNeg w1)) < 97) => ?_)
      · rw [if_pos hc4] at hr
        refine go_run mm_13 2 (pc' := 118) (ls' := [some (.ref 1), some (.int (S.1 2 (Int32.toNatClampNeg w1)))]) (st' := [.int 48, .int (S.1 2 (Int32.toNatClampNeg w1))]) (S' := (wI S 1 2 w1)) rfl ?_
        refine go_if2 mm_13 rfl (p1 := 188) (p2 := 121) rfl (fun (hc5 : (S.1 2 (Int32.toNatClampNeg w1)) < 48) => ?_) (fun (hc5 : ¬ (S.1 2 (Int32.toNatClampNeg w1)) < 48) => ?_)
        · rw [if_pos hc5] at hr
          refine go_run mm_13 9 (pc' := 202) (ls' := [some (.ref 1), some (.int (S.1 2 (Int32.toNatClampNeg w1)))]) (st' := [.int 59, .int (S.1 2 (Int32.toNatClampNeg w1)), .ref 1]) (S' := (wI (wI S 1 2 w1) 1 4 (w1 + 1))) rfl ?_
          have j7 : Go XC (d + 1) 13 0 210 [some (.ref 1), some (.int (S.1 2 (Int32.toNatClampNeg w1)))] [.int (if (S.1 2 (Int32.toNatClampNeg w1)) = 59 then 3 else 4), .ref 1] (wI (wI S 1 2 w1) 1 4 (w1 + 1)) (RV (vU r.1) r.2) := by
            refine go_run mm_13 1 (pc' := 213) (ls' := [some (.ref 1), some (.int (S.1 2 (Int32.toNatClampNeg w1)))]) (st' := []) (S' := (wI (wI (wI S 1 2 w1) 1 4 (w1 + 1)) 1 1 (if (S.1 2 (Int32.toNatClampNeg w1)) = 59 then 3 else 4))) rfl ?_
            cases hr
            exact go_vreturn mm_13 rfl rfl ⟨rfl, rfl, rfl⟩
          refine go_if2 mm_13 rfl (p1 := 205) (p2 := 209) rfl (fun (hc6 : (S.1 2 (Int32.toNatClampNeg w1)) = 59) => ?_) (fun (hc6 : ¬ (S.1 2 (Int32.toNatClampNeg w1)) = 59) => ?_)
          · refine go_run mm_13 2 (pc' := 210) (ls' := [some (.ref 1), some (.int (S.1 2 (Int32.toNatClampNeg w1)))]) (st' := [.int 3, .ref 1]) (S' := (wI (wI S 1 2 w1) 1 4 (w1 + 1))) rfl ?_
            have e : ((if (S.1 2 (Int32.toNatClampNeg w1)) = 59 then 3 else 4) : Int32) = 3 := by simp [b2i, hc6]
            rw [e] at j7
            exact j7
          · refine go_run mm_13 1 (pc' := 210) (ls' := [some (.ref 1), some (.int (S.1 2 (Int32.toNatClampNeg w1)))]) (st' := [.int 4, .ref 1]) (S' := (wI (wI S 1 2 w1) 1 4 (w1 + 1))) rfl ?_
            have e : ((if (S.1 2 (Int32.toNatClampNeg w1)) = 59 then 3 else 4) : Int32) = 4 := by simp [b2i, hc6]
            rw [e] at j7
            exact j7
        · rw [if_neg hc5] at hr
          refine go_run mm_13 2 (pc' := 124) (ls' := [some (.ref 1), some (.int (S.1 2 (Int32.toNatClampNeg w1)))]) (st' := [.int 57, .int (S.1 2 (Int32.toNatClampNeg w1))]) (S' := (wI S 1 2 w1)) rfl ?_
          refine go_if2 mm_13 rfl (p1 := 188) (p2 := 127) rfl (fun (hc8 : (57 : Int32) < (S.1 2 (Int32.toNatClampNeg w1))) => ?_) (fun (hc8 : ¬ (57 : Int32) < (S.1 2 (Int32.toNatClampNeg w1))) => ?_)
          · rw [if_pos hc8] at hr
            refine go_run mm_13 9 (pc' := 202) (ls' := [some (.ref 1), some (.int (S.1 2 (Int32.toNatClampNeg w1)))]) (st' := [.int 59, .int (S.1 2 (Int32.toNatClampNeg w1)), .ref 1]) (S' := (wI (wI S 1 2 w1) 1 4 (w1 + 1))) rfl ?_
            have j10 : Go XC (d + 1) 13 0 210 [some (.ref 1), some (.int (S.1 2 (Int32.toNatClampNeg w1)))] [.int (if (S.1 2 (Int32.toNatClampNeg w1)) = 59 then 3 else 4), .ref 1] (wI (wI S 1 2 w1) 1 4 (w1 + 1)) (RV (vU r.1) r.2) := by
              refine go_run mm_13 1 (pc' := 213) (ls' := [some (.ref 1), some (.int (S.1 2 (Int32.toNatClampNeg w1)))]) (st' := []) (S' := (wI (wI (wI S 1 2 w1) 1 4 (w1 + 1)) 1 1 (if (S.1 2 (Int32.toNatClampNeg w1)) = 59 then 3 else 4))) rfl ?_
              cases hr
              exact go_vreturn mm_13 rfl rfl ⟨rfl, rfl, rfl⟩
            refine go_if2 mm_13 rfl (p1 := 205) (p2 := 209) rfl (fun (hc9 : (S.1 2 (Int32.toNatClampNeg w1)) = 59) => ?_) (fun (hc9 : ¬ (S.1 2 (Int32.toNatClampNeg w1)) = 59) => ?_)
            · refine go_run mm_13 2 (pc' := 210) (ls' := [some (.ref 1), some (.int (S.1 2 (Int32.toNatClampNeg w1)))]) (st' := [.int 3, .ref 1]) (S' := (wI (wI S 1 2 w1) 1 4 (w1 + 1))) rfl ?_
              have e : ((if (S.1 2 (Int32.toNatClampNeg w1)) = 59 then 3 else 4) : Int32) = 3 := by simp [b2i, hc9]
              rw [e] at j10
              exact j10
            · refine go_run mm_13 1 (pc' := 210) (ls' := [some (.ref 1), some (.int (S.1 2 (Int32.toNatClampNeg w1)))]) (st' := [.int 4, .ref 1]) (S' := (wI (wI S 1 2 w1) 1 4 (w1 + 1))) rfl ?_
              have e : ((if (S.1 2 (Int32.toNatClampNeg w1)) = 59 then 3 else 4) : Int32) = 4 := by simp [b2i, hc9]
              rw [e] at j10
              exact j10
          · rw [if_neg hc8] at hr
            refine go_run mm_13 6 (pc' := 137) (ls' := [some (.ref 1), some (.int (S.1 2 (Int32.toNatClampNeg w1)))]) (st' := [.int 57, .int 48, .int w1, .ref 1, .ref 1]) (S' := (wI S 1 2 w1)) rfl ?_
            obtain ⟨w2, hw2, hr⟩ := ob_some hr
            refine go_cv mm_13 (h := 1) (As := [.int w1, .int 48, .int 57]) (rest := [.ref 1]) (nl := 5) rfl rfl (show cvOK 13 137 37 14 3 5 2 = true by decide +kernel) rfl rfl rfl (S_14 hw2) (KP_V ?_)
            show Go XC (d + 1) 13 0 140 [some (.ref 1), some (.int (S.1 2 (Int32.toNatClampNeg w1)))] [.int w2, .ref 1] (wI S 1 2 w1) (RV (vU r.1) r.2)
            refine go_run mm_13 8 (pc' := 154) (ls' := [some (.ref 1), some (.int (S.1 2 (Int32.toNatClampNeg w1)))]) (st' := [.int 4, .int (w2 - w1), .ref 1]) (S' := (wI (wI S 1 2 w1) 1 4 w2)) rfl ?_
            have j13 : Go XC (d + 1) 13 0 162 [some (.ref 1), some (.int (S.1 2 (Int32.toNatClampNeg w1)))] [.int (if (4 : Int32) < (w2 - w1) then 4 else 2), .ref 1] (wI (wI S 1 2 w1) 1 4 w2) (RV (vU r.1) r.2) := by
              refine go_run mm_13 5 (pc' := 171) (ls' := [some (.ref 1), some (.int (S.1 2 (Int32.toNatClampNeg w1)))]) (st' := [.int 2, .int (if (4 : Int32) < (w2 - w1) then 4 else 2), .ref 1]) (S' := (wI (wI (wI S 1 2 w1) 1 4 w2) 1 1 (if (4 : Int32) < (w2 - w1) then 4 else 2))) rfl ?_
              refine go_if2 mm_13 rfl (p1 := 174) (p2 := 181) rfl (fun (hc12 : ((if (4 : Int32) < (w2 - w1) then 4 else 2) : Int32) = 2) => ?_) (fun (hc12 : ¬ ((if (4 : Int32) < (w2 - w1) then 4 else 2) : Int32) = 2) => ?_)
              · rw [if_pos hc12] at hr
                refine go_run mm_13 1 (pc' := 175) (ls' := [some (.ref 1), some (.int (S.1 2 (Int32.toNatClampNeg w1)))]) (st' := [.ref 1, .ref 1]) (S' := (wI (wI (wI S 1 2 w1) 1 4 w2) 1 1 (if (4 : Int32) < (w2 - w1) then 4 else 2))) rfl ?_
                obtain ⟨w3, hw3, hr⟩ := ob_some hr
                refine go_cv mm_13 (h := 1) (As := []) (rest := [.ref 1]) (nl := 3) rfl rfl (show cvOK 13 175 41 15 0 3 2 = true by decide +kernel) rfl rfl rfl (S_15 hw3) (KP_V ?_)
                show Go XC (d + 1) 13 0 178 [some (.ref 1), some (.int (S.1 2 (Int32.toNatClampNeg w1)))] [.int w3, .ref 1] (wI (wI (wI S 1 2 w1) 1 4 w2) 1 1 (if (4 : Int32) < (w2 - w1) then 4 else 2)) (RV (vU r.1) r.2)
                refine go_run mm_13 3 (pc' := 213) (ls' := [some (.ref 1), some (.int (S.1 2 (Int32.toNatClampNeg w1)))]) (st' := []) (S' := (wI (wI (wI (wI S 1 2 w1) 1 4 w2) 1 1 (if (4 : Int32) < (w2 - w1) then 4 else 2)) 1 3 w3)) rfl ?_
                cases hr
                exact go_vreturn mm_13 rfl rfl ⟨rfl, rfl, rfl⟩
              · rw [if_neg hc12] at hr
                refine go_run mm_13 3 (pc' := 213) (ls' := [some (.ref 1), some (.int (S.1 2 (Int32.toNatClampNeg w1)))]) (st' := []) (S' := (wI (wI (wI (wI S 1 2 w1) 1 4 w2) 1 1 (if (4 : Int32) < (w2 - w1) then 4 else 2)) 1 3 0)) rfl ?_
                cases hr
                exact go_vreturn mm_13 rfl rfl ⟨rfl, rfl, rfl⟩
            refine go_if2 mm_13 rfl (p1 := 161) (p2 := 157) rfl (fun (hc11 : (4 : Int32) < (w2 - w1)) => ?_) (fun (hc11 : ¬ (4 : Int32) < (w2 - w1)) => ?_)
            · refine go_run mm_13 1 (pc' := 162) (ls' := [some (.ref 1), some (.int (S.1 2 (Int32.toNatClampNeg w1)))]) (st' := [.int 4, .ref 1]) (S' := (wI (wI S 1 2 w1) 1 4 w2)) rfl ?_
              have e : ((if (4 : Int32) < (w2 - w1) then 4 else 2) : Int32) = 4 := by simp [b2i, hc11]
              rw [e] at j13
              exact j13
            · refine go_run mm_13 2 (pc' := 162) (ls' := [some (.ref 1), some (.int (S.1 2 (Int32.toNatClampNeg w1)))]) (st' := [.int 2, .ref 1]) (S' := (wI (wI S 1 2 w1) 1 4 w2)) rfl ?_
              have e : ((if (4 : Int32) < (w2 - w1) then 4 else 2) : Int32) = 2 := by simp [b2i, hc11]
              rw [e] at j13
              exact j13
      · rw [if_neg hc4] at hr
        refine go_run mm_13 2 (pc' := 70) (ls' := [some (.ref 1), some (.int (S.1 2 (Int32.toNatClampNeg w1)))]) (st' := [.int 122, .int (S.1 2 (Int32.toNatClampNeg w1))]) (S' := (wI S 1 2 w1)) rfl ?_
        refine go_if2 mm_13 rfl (p1 := 115) (p2 := 73) rfl (fun (hc14 : (122 : Int32) < (S.1 2 (Int32.toNatClampNeg w1))) => ?_) (fun (hc14 : ¬ (122 : Int32) < (S.1 2 (Int32.toNatClampNeg w1))) => ?_)
        · rw [if_pos hc14] at hr
          refine go_run mm_13 2 (pc' := 118) (ls' := [some (.ref 1), some (.int (S.1 2 (Int32.toNatClampNeg w1)))]) (st' := [.int 48, .int (S.1 2 (Int32.toNatClampNeg w1))]) (S' := (wI S 1 2 w1)) rfl ?_
          refine go_if2 mm_13 rfl (p1 := 188) (p2 := 121) rfl (fun (hc15 : (S.1 2 (Int32.toNatClampNeg w1)) < 48) => ?_) (fun (hc15 : ¬ (S.1 2 (Int32.toNatClampNeg w1)) < 48) => ?_)
          · rw [if_pos hc15] at hr
            refine go_run mm_13 9 (pc' := 202) (ls' := [some (.ref 1), some (.int (S.1 2 (Int32.toNatClampNeg w1)))]) (st' := [.int 59, .int (S.1 2 (Int32.toNatClampNeg w1)), .ref 1]) (S' := (wI (wI S 1 2 w1) 1 4 (w1 + 1))) rfl ?_
            have j17 : Go XC (d + 1) 13 0 210 [some (.ref 1), some (.int (S.1 2 (Int32.toNatClampNeg w1)))] [.int (if (S.1 2 (Int32.toNatClampNeg w1)) = 59 then 3 else 4), .ref 1] (wI (wI S 1 2 w1) 1 4 (w1 + 1)) (RV (vU r.1) r.2) := by
              refine go_run mm_13 1 (pc' := 213) (ls' := [some (.ref 1), some (.int (S.1 2 (Int32.toNatClampNeg w1)))]) (st' := []) (S' := (wI (wI (wI S 1 2 w1) 1 4 (w1 + 1)) 1 1 (if (S.1 2 (Int32.toNatClampNeg w1)) = 59 then 3 else 4))) rfl ?_
              cases hr
              exact go_vreturn mm_13 rfl rfl ⟨rfl, rfl, rfl⟩
            refine go_if2 mm_13 rfl (p1 := 205) (p2 := 209) rfl (fun (hc16 : (S.1 2 (Int32.toNatClampNeg w1)) = 59) => ?_) (fun (hc16 : ¬ (S.1 2 (Int32.toNatClampNeg w1)) = 59) => ?_)
            · refine go_run mm_13 2 (pc' := 210) (ls' := [some (.ref 1), some (.int (S.1 2 (Int32.toNatClampNeg w1)))]) (st' := [.int 3, .ref 1]) (S' := (wI (wI S 1 2 w1) 1 4 (w1 + 1))) rfl ?_
              have e : ((if (S.1 2 (Int32.toNatClampNeg w1)) = 59 then 3 else 4) : Int32) = 3 := by simp [b2i, hc16]
              rw [e] at j17
              exact j17
            · refine go_run mm_13 1 (pc' := 210) (ls' := [some (.ref 1), some (.int (S.1 2 (Int32.toNatClampNeg w1)))]) (st' := [.int 4, .ref 1]) (S' := (wI (wI S 1 2 w1) 1 4 (w1 + 1))) rfl ?_
              have e : ((if (S.1 2 (Int32.toNatClampNeg w1)) = 59 then 3 else 4) : Int32) = 4 := by simp [b2i, hc16]
              rw [e] at j17
              exact j17
          · rw [if_neg hc15] at hr
            refine go_run mm_13 2 (pc' := 124) (ls' := [some (.ref 1), some (.int (S.1 2 (Int32.toNatClampNeg w1)))]) (st' := [.int 57, .int (S.1 2 (Int32.toNatClampNeg w1))]) (S' := (wI S 1 2 w1)) rfl ?_
            refine go_if2 mm_13 rfl (p1 := 188) (p2 := 127) rfl (fun (hc18 : (57 : Int32) < (S.1 2 (Int32.toNatClampNeg w1))) => ?_) (fun (hc18 : ¬ (57 : Int32) < (S.1 2 (Int32.toNatClampNeg w1))) => ?_)
            · rw [if_pos hc18] at hr
              refine go_run mm_13 9 (pc' := 202) (ls' := [some (.ref 1), some (.int (S.1 2 (Int32.toNatClampNeg w1)))]) (st' := [.int 59, .int (S.1 2 (Int32.toNatClampNeg w1)), .ref 1]) (S' := (wI (wI S 1 2 w1) 1 4 (w1 + 1))) rfl ?_
              have j20 : Go XC (d + 1) 13 0 210 [some (.ref 1), some (.int (S.1 2 (Int32.toNatClampNeg w1)))] [.int (if (S.1 2 (Int32.toNatClampNeg w1)) = 59 then 3 else 4), .ref 1] (wI (wI S 1 2 w1) 1 4 (w1 + 1)) (RV (vU r.1) r.2) := by
                refine go_run mm_13 1 (pc' := 213) (ls' := [some (.ref 1), some (.int (S.1 2 (Int32.toNatClampNeg w1)))]) (st' := []) (S' := (wI (wI (wI S 1 2 w1) 1 4 (w1 + 1)) 1 1 (if (S.1 2 (Int32.toNatClampNeg w1)) = 59 then 3 else 4))) rfl ?_
                cases hr
                exact go_vreturn mm_13 rfl rfl ⟨rfl, rfl, rfl⟩
              refine go_if2 mm_13 rfl (p1 := 205) (p2 := 209) rfl (fun (hc19 : (S.1 2 (Int32.toNatClampNeg w1)) = 59) => ?_) (fun (hc19 : ¬ (S.1 2 (Int32.toNatClampNeg w1)) = 59) => ?_)
              · refine go_run mm_13 2 (pc' := 210) (ls' := [some (.ref 1), some (.int (S.1 2 (Int32.toNatClampNeg w1)))]) (st' := [.int 3, .ref 1]) (S' := (wI (wI S 1 2 w1) 1 4 (w1 + 1))) rfl ?_
                have e : ((if (S.1 2 (Int32.toNatClampNeg w1)) = 59 then 3 else 4) : Int32) = 3 := by simp [b2i, hc19]
                rw [e] at j20
                exact j20
              · refine go_run mm_13 1 (pc' := 210) (ls' := [some (.ref 1), some (.int (S.1 2 (Int32.toNatClampNeg w1)))]) (st' := [.int 4, .ref 1]) (S' := (wI (wI S 1 2 w1) 1 4 (w1 + 1))) rfl ?_
                have e : ((if (S.1 2 (Int32.toNatClampNeg w1)) = 59 then 3 else 4) : Int32) = 4 := by simp [b2i, hc19]
                rw [e] at j20
                exact j20
            · rw [if_neg hc18] at hr
              refine go_run mm_13 6 (pc' := 137) (ls' := [some (.ref 1), some (.int (S.1 2 (Int32.toNatClampNeg w1)))]) (st' := [.int 57, .int 48, .int w1, .ref 1, .ref 1]) (S' := (wI S 1 2 w1)) rfl ?_
              obtain ⟨w4, hw4, hr⟩ := ob_some hr
              refine go_cv mm_13 (h := 1) (As := [.int w1, .int 48, .int 57]) (rest := [.ref 1]) (nl := 5) rfl rfl (show cvOK 13 137 37 14 3 5 2 = true by decide +kernel) rfl rfl rfl (S_14 hw4) (KP_V ?_)
              show Go XC (d + 1) 13 0 140 [some (.ref 1), some (.int (S.1 2 (Int32.toNatClampNeg w1)))] [.int w4, .ref 1] (wI S 1 2 w1) (RV (vU r.1) r.2)
              refine go_run mm_13 8 (pc' := 154) (ls' := [some (.ref 1), some (.int (S.1 2 (Int32.toNatClampNeg w1)))]) (st' := [.int 4, .int (w4 - w1), .ref 1]) (S' := (wI (wI S 1 2 w1) 1 4 w4)) rfl ?_
              have j23 : Go XC (d + 1) 13 0 162 [some (.ref 1), some (.int (S.1 2 (Int32.toNatClampNeg w1)))] [.int (if (4 : Int32) < (w4 - w1) then 4 else 2), .ref 1] (wI (wI S 1 2 w1) 1 4 w4) (RV (vU r.1) r.2) := by
                refine go_run mm_13 5 (pc' := 171) (ls' := [some (.ref 1), some (.int (S.1 2 (Int32.toNatClampNeg w1)))]) (st' := [.int 2, .int (if (4 : Int32) < (w4 - w1) then 4 else 2), .ref 1]) (S' := (wI (wI (wI S 1 2 w1) 1 4 w4) 1 1 (if (4 : Int32) < (w4 - w1) then 4 else 2))) rfl ?_
                refine go_if2 mm_13 rfl (p1 := 174) (p2 := 181) rfl (fun (hc22 : ((if (4 : Int32) < (w4 - w1) then 4 else 2) : Int32) = 2) => ?_) (fun (hc22 : ¬ ((if (4 : Int32) < (w4 - w1) then 4 else 2) : Int32) = 2) => ?_)
                · rw [if_pos hc22] at hr
                  refine go_run mm_13 1 (pc' := 175) (ls' := [some (.ref 1), some (.int (S.1 2 (Int32.toNatClampNeg w1)))]) (st' := [.ref 1, .ref 1]) (S' := (wI (wI (wI S 1 2 w1) 1 4 w4) 1 1 (if (4 : Int32) < (w4 - w1) then 4 else 2))) rfl ?_
                  obtain ⟨w5, hw5, hr⟩ := ob_some hr
                  refine go_cv mm_13 (h := 1) (As := []) (rest := [.ref 1]) (nl := 3) rfl rfl (show cvOK 13 175 41 15 0 3 2 = true by decide +kernel) rfl rfl rfl (S_15 hw5) (KP_V ?_)
                  show Go XC (d + 1) 13 0 178 [some (.ref 1), some (.int (S.1 2 (Int32.toNatClampNeg w1)))] [.int w5, .ref 1] (wI (wI (wI S 1 2 w1) 1 4 w4) 1 1 (if (4 : Int32) < (w4 - w1) then 4 else 2)) (RV (vU r.1) r.2)
                  refine go_run mm_13 3 (pc' := 213) (ls' := [some (.ref 1), some (.int (S.1 2 (Int32.toNatClampNeg w1)))]) (st' := []) (S' := (wI (wI (wI (wI S 1 2 w1) 1 4 w4) 1 1 (if (4 : Int32) < (w4 - w1) then 4 else 2)) 1 3 w5)) rfl ?_
                  cases hr
                  exact go_vreturn mm_13 rfl rfl ⟨rfl, rfl, rfl⟩
                · rw [if_neg hc22] at hr
                  refine go_run mm_13 3 (pc' := 213) (ls' := [some (.ref 1), some (.int (S.1 2 (Int32.toNatClampNeg w1)))]) (st' := []) (S' := (wI (wI (wI (wI S 1 2 w1) 1 4 w4) 1 1 (if (4 : Int32) < (w4 - w1) then 4 else 2)) 1 3 0)) rfl ?_
                  cases hr
                  exact go_vreturn mm_13 rfl rfl ⟨rfl, rfl, rfl⟩
              refine go_if2 mm_13 rfl (p1 := 161) (p2 := 157) rfl (fun (hc21 : (4 : Int32) < (w4 - w1)) => ?_) (fun (hc21 : ¬ (4 : Int32) < (w4 - w1)) => ?_)
              · refine go_run mm_13 1 (pc' := 162) (ls' := [some (.ref 1), some (.int (S.1 2 (Int32.toNatClampNeg w1)))]) (st' := [.int 4, .ref 1]) (S' := (wI (wI S 1 2 w1) 1 4 w4)) rfl ?_
                have e : ((if (4 : Int32) < (w4 - w1) then 4 else 2) : Int32) = 4 := by simp [b2i, hc21]
                rw [e] at j23
                exact j23
              · refine go_run mm_13 2 (pc' := 162) (ls' := [some (.ref 1), some (.int (S.1 2 (Int32.toNatClampNeg w1)))]) (st' := [.int 2, .ref 1]) (S' := (wI (wI S 1 2 w1) 1 4 w4)) rfl ?_
                have e : ((if (4 : Int32) < (w4 - w1) then 4 else 2) : Int32) = 2 := by simp [b2i, hc21]
                rw [e] at j23
                exact j23
        · rw [if_neg hc14] at hr
          refine go_run mm_13 6 (pc' := 83) (ls' := [some (.ref 1), some (.int (S.1 2 (Int32.toNatClampNeg w1)))]) (st' := [.int 122, .int 97, .int w1, .ref 1, .ref 1]) (S' := (wI S 1 2 w1)) rfl ?_
          obtain ⟨w6, hw6, hr⟩ := ob_some hr
          refine go_cv mm_13 (h := 1) (As := [.int w1, .int 97, .int 122]) (rest := [.ref 1]) (nl := 5) rfl rfl (show cvOK 13 83 37 14 3 5 2 = true by decide +kernel) rfl rfl rfl (S_14 hw6) (KP_V ?_)
          show Go XC (d + 1) 13 0 86 [some (.ref 1), some (.int (S.1 2 (Int32.toNatClampNeg w1)))] [.int w6, .ref 1] (wI S 1 2 w1) (RV (vU r.1) r.2)
          refine go_run mm_13 8 (pc' := 101) (ls' := [some (.ref 1), some (.int (S.1 2 (Int32.toNatClampNeg w1)))]) (st' := [.int 8, .int (w6 - w1), .ref 1]) (S' := (wI (wI S 1 2 w1) 1 4 w6)) rfl ?_
          have j25 : Go XC (d + 1) 13 0 109 [some (.ref 1), some (.int (S.1 2 (Int32.toNatClampNeg w1)))] [.int (if (8 : Int32) < (w6 - w1) then 4 else 1), .ref 1] (wI (wI S 1 2 w1) 1 4 w6) (RV (vU r.1) r.2) := by
            refine go_run mm_13 2 (pc' := 213) (ls' := [some (.ref 1), some (.int (S.1 2 (Int32.toNatClampNeg w1)))]) (st' := []) (S' := (wI (wI (wI S 1 2 w1) 1 4 w6) 1 1 (if (8 : Int32) < (w6 - w1) then 4 else 1))) rfl ?_
            cases hr
            exact go_vreturn mm_13 rfl rfl ⟨rfl, rfl, rfl⟩
          refine go_if2 mm_13 rfl (p1 := 108) (p2 := 104) rfl (fun (hc24 : (8 : Int32) < (w6 - w1)) => ?_) (fun (hc24 : ¬ (8 : Int32) < (w6 - w1)) => ?_)
          · refine go_run mm_13 1 (pc' := 109) (ls' := [some (.ref 1), some (.int (S.1 2 (Int32.toNatClampNeg w1)))]) (st' := [.int 4, .ref 1]) (S' := (wI (wI S 1 2 w1) 1 4 w6)) rfl ?_
            have e : ((if (8 : Int32) < (w6 - w1) then 4 else 1) : Int32) = 4 := by simp [b2i, hc24]
            rw [e] at j25
            exact j25
          · refine go_run mm_13 2 (pc' := 109) (ls' := [some (.ref 1), some (.int (S.1 2 (Int32.toNatClampNeg w1)))]) (st' := [.int 1, .ref 1]) (S' := (wI (wI S 1 2 w1) 1 4 w6)) rfl ?_
            have e : ((if (8 : Int32) < (w6 - w1) then 4 else 1) : Int32) = 1 := by simp [b2i, hc24]
            rw [e] at j25
            exact j25
    · rw [if_neg hc2] at hr
      refine go_run mm_13 7 (pc' := 50) (ls' := [some (.ref 1), none]) (st' := []) (S' := (wI (wI (wI S 1 2 w1) 1 1 0) 1 4 w1)) rfl ?_
      cases hr
      exact go_vreturn mm_13 rfl rfl ⟨rfl, rfl, rfl⟩
  · rw [if_neg hc1] at hr
    refine go_run mm_13 7 (pc' := 50) (ls' := [some (.ref 1), none]) (st' := []) (S' := (wI (wI (wI S 1 2 w1) 1 1 0) 1 4 w1)) rfl ?_
    cases hr
    exact go_vreturn mm_13 rfl rfl ⟨rfl, rfl, rfl⟩

theorem mm_12 : mtG 12 = some (mi_12, 2, ft_12) := rfl
def F_12 (v1 : Int32) (S : ST) : Option (Unit × ST) := ob (F_13 (wI (wI S 1 5 v1) 1 4 0)) (fun w1 => some ((), w1.2))
set_option maxRecDepth 20000 in
theorem S_12 {d : Nat} {S : ST} {v1 : Int32} {r} (hr : F_12 v1 S = some r) : Cal XC (d + 2) 12 [.ref 1, .int v1] S (RV (vU r.1) r.2) := by
  unfold F_12 at hr
  refine cal_go 0 rfl ?_
  refine go_run mm_12 7 (pc' := 11) (ls' := [some (.ref 1), some (.int v1)]) (st' := [.ref 1]) (S' := (wI (wI S 1 5 v1) 1 4 0)) rfl ?_
  obtain ⟨w1, hw1, hr⟩ := ob_some hr
  refine go_cv mm_12 (h := 1) (As := []) (rest := []) (nl := 2) rfl rfl (show cvOK 12 11 34 13 0 2 2 = true by decide +kernel) rfl rfl rfl (S_13 hw1) (KP_V ?_)
  show Go XC (d + 2) 12 0 14 [some (.ref 1), some (.int v1)] [] w1.2 (RV (vU r.1) r.2)
  cases hr
  exact go_vreturn mm_12 rfl rfl ⟨rfl, rfl, rfl⟩

theorem mm_16 : mtG 16 = some (mi_16, 2, ft_16) := rfl
def L_16_35 (tx : List Int32) (S : ST) (a35 : Int32) : Option ((Int32) ⊕ ((Int32) ⊕ Bool)) := if a35 < (S.1 1 4) then (if a35 < 600 then (if (a35 - (S.1 1 2)) < 0 then (some (.inr (.inr false))) else (if (a35 - (S.1 1 2)) < (Int32.ofNat (List.length tx)) then (ck (ibd a35 600) (ck (ibd (a35 - (S.1 1 2)) (List.length tx)) (if (S.1 2 (Int32.toNatClampNeg a35)) = (tx.getD (Int32.toNatClampNeg (a35 - (S.1 1 2))) 0) then (some (.inl (a35 + 1))) else (some (.inr (.inr false)))))) else (some (.inr (.inr false))))) else (some (.inr (.inl (a35))))) else (some (.inr (.inl (a35))))
set_option maxRecDepth 20000 in
theorem LS_16_35 {d : Nat} {R : RT} {S : ST} {t1 : Nat} {tx : List Int32} (y1 : txt t1 = some tx) {a35 : Int32} {r9} (hr : L_16_35 tx S a35 = some r9) (hL : ∀ a9, r9 = .inl a9 → (fun a35 => Go XC d 16 0 35 [some (.ref 1), some (.ref t1), some (.int a35), none] [] S R) a9) (hR : ∀ b9, r9 = .inr b9 → Sum.elim (fun e35 => Go XC d 16 0 91 [some (.ref 1), some (.ref t1), some (.int e35), none] [] S R) (fun o => R 0 (.inr (vZ o)) S) b9) : Go XC d 16 0 35 [some (.ref 1), some (.ref t1), some (.int a35), none] [] S R := by
  unfold L_16_35 at hr
  refine go_run mm_16 3 (pc' := 40) (ls' := [some (.ref 1), some (.ref t1), some (.int a35), none]) (st' := [.int (S.1 1 4), .int a35]) (S' := S) rfl ?_
  refine go_if2 mm_16 rfl (p1 := 43) (p2 := 91) rfl (fun (hc3 : a35 < (S.1 1 4)) => ?_) (fun (hc3 : ¬ a35 < (S.1 1 4)) => ?_)
  · rw [if_pos hc3] at hr
    refine go_run mm_16 2 (pc' := 47) (ls' := [some (.ref 1), some (.ref t1), some (.int a35), none]) (st' := [.int 600, .int a35]) (S' := S) rfl ?_
    refine go_if2 mm_16 rfl (p1 := 50) (p2 := 91) rfl (fun (hc4 : a35 < 600) => ?_) (fun (hc4 : ¬ a35 < 600) => ?_)
    · rw [if_pos hc4] at hr
      refine go_run mm_16 6 (pc' := 58) (ls' := [some (.ref 1), some (.ref t1), some (.int a35), some (.int (a35 - (S.1 1 2)))]) (st' := [.int (a35 - (S.1 1 2))]) (S' := S) rfl ?_
      refine go_if0 mm_16 rfl (p1 := 83) (p2 := 61) rfl (fun (hc5 : (a35 - (S.1 1 2)) < 0) => ?_) (fun (hc5 : ¬ (a35 - (S.1 1 2)) < 0) => ?_)
      · rw [if_pos hc5] at hr
        refine go_run mm_16 1 (pc' := 84) (ls' := [some (.ref 1), some (.ref t1), some (.int a35), some (.int (a35 - (S.1 1 2)))]) (st' := [.int 0]) (S' := S) rfl ?_
        cases hr
        have h9 : R 0 (.inr (vZ false)) S := hR _ rfl
        exact go_zreturn mm_16 rfl rfl (Or.inl rfl) h9
      · rw [if_neg hc5] at hr
        refine go_run mm_16 2 (pc' := 63) (ls' := [some (.ref 1), some (.ref t1), some (.int a35), some (.int (a35 - (S.1 1 2)))]) (st' := [.ref t1, .int (a35 - (S.1 1 2))]) (S' := S) rfl ?_
        refine go_len mm_16 (tx := tx) rfl rfl y1 rfl ?_
        show Go XC d 16 0 66 [some (.ref 1), some (.ref t1), some (.int a35), some (.int (a35 - (S.1 1 2)))] [.int (Int32.ofNat (List.length tx)), .int (a35 - (S.1 1 2))] S R
        refine go_if2 mm_16 rfl (p1 := 69) (p2 := 83) rfl (fun (hc6 : (a35 - (S.1 1 2)) < (Int32.ofNat (List.length tx))) => ?_) (fun (hc6 : ¬ (a35 - (S.1 1 2)) < (Int32.ofNat (List.length tx))) => ?_)
        · rw [if_pos hc6] at hr
          refine go_run mm_16 3 (pc' := 74) (ls' := [some (.ref 1), some (.ref t1), some (.int a35), some (.int (a35 - (S.1 1 2)))]) (st' := [.int a35, .ref 2]) (S' := S) rfl ?_
          obtain ⟨hb7, hr⟩ := ck_some hr
          refine go_iaload mm_16 (q := (Int32.toNatClampNeg a35)) rfl rfl rfl (ibd_ok hb7) ?_
          show Go XC d 16 0 75 [some (.ref 1), some (.ref t1), some (.int a35), some (.int (a35 - (S.1 1 2)))] [.int (S.1 2 (Int32.toNatClampNeg a35))] S R
          refine go_run mm_16 2 (pc' := 77) (ls' := [some (.ref 1), some (.ref t1), some (.int a35), some (.int (a35 - (S.1 1 2)))]) (st' := [.int (a35 - (S.1 1 2)), .ref t1, .int (S.1 2 (Int32.toNatClampNeg a35))]) (S' := S) rfl ?_
          obtain ⟨hq8, hr⟩ := ck_some hr
          refine go_chr mm_16 (tx := tx) rfl rfl y1 rfl (ibd_ok hq8) ?_
          show Go XC d 16 0 80 [some (.ref 1), some (.ref t1), some (.int a35), some (.int (a35 - (S.1 1 2)))] [.int (tx.getD (Int32.toNatClampNeg (a35 - (S.1 1 2))) 0), .int (S.1 2 (Int32.toNatClampNeg a35))] S R
          refine go_if2 mm_16 rfl (p1 := 85) (p2 := 83) rfl (fun (hc9 : (S.1 2 (Int32.toNatClampNeg a35)) = (tx.getD (Int32.toNatClampNeg (a35 - (S.1 1 2))) 0)) => ?_) (fun (hc9 : ¬ (S.1 2 (Int32.toNatClampNeg a35)) = (tx.getD (Int32.toNatClampNeg (a35 - (S.1 1 2))) 0)) => ?_)
          · rw [if_pos hc9] at hr
            refine go_run mm_16 2 (pc' := 35) (ls' := [some (.ref 1), some (.ref t1), some (.int (a35 + 1)), some (.int (a35 - (S.1 1 2)))]) (st' := []) (S' := S) rfl ?_
            cases hr
            have h9 := hL (a35 + 1) rfl
            dsimp only at h9
            exact Go.le h9 (by repeat first | exact True.intro | refine And.intro rfl ?_)
          · rw [if_neg hc9] at hr
            refine go_run mm_16 1 (pc' := 84) (ls' := [some (.ref 1), some (.ref t1), some (.int a35), some (.int (a35 - (S.1 1 2)))]) (st' := [.int 0]) (S' := S) rfl ?_
            cases hr
            have h9 : R 0 (.inr (vZ false)) S := hR _ rfl
            exact go_zreturn mm_16 rfl rfl (Or.inl rfl) h9
        · rw [if_neg hc6] at hr
          refine go_run mm_16 1 (pc' := 84) (ls' := [some (.ref 1), some (.ref t1), some (.int a35), some (.int (a35 - (S.1 1 2)))]) (st' := [.int 0]) (S' := S) rfl ?_
          cases hr
          have h9 : R 0 (.inr (vZ false)) S := hR _ rfl
          exact go_zreturn mm_16 rfl rfl (Or.inl rfl) h9
    · rw [if_neg hc4] at hr
      cases hr
      have h9 := hR (.inl (a35)) rfl
      dsimp only [Sum.elim_inl] at h9
      exact Go.le h9 (by repeat first | exact True.intro | refine And.intro rfl ?_)
  · rw [if_neg hc3] at hr
    cases hr
    have h9 := hR (.inl (a35)) rfl
    dsimp only [Sum.elim_inl] at h9
    exact Go.le h9 (by repeat first | exact True.intro | refine And.intro rfl ?_)
def F_16 (tx : List Int32) (S : ST) : Option Bool := if (S.1 1 1) = 1 then (if ((S.1 1 4) - (S.1 1 2)) = (Int32.ofNat (List.length tx)) then (ob (wh FU (L_16_35 tx S) ((if (S.1 1 2) < 0 then 0 else (S.1 1 2)))) (fun z => Sum.elim (fun e35 => some true) (fun o => some o) z)) else (some false)) else (some false)
set_option maxRecDepth 20000 in
theorem S_16 {d : Nat} {S : ST} {t1 : Nat} {tx : List Int32} {r} (y1 : txt t1 = some tx) (hr : F_16 tx S = some r) : Cal XC d 16 [.ref 1, .ref t1] S (RV (vZ r) S) := by
  unfold F_16 at hr
  refine cal_go 2 rfl ?_
  refine go_run mm_16 3 (pc' := 5) (ls' := [some (.ref 1), some (.ref t1), none, none]) (st' := [.int 1, .int (S.1 1 1)]) (S' := S) rfl ?_
  refine go_if2 mm_16 rfl (p1 := 8) (p2 := 24) rfl (fun (hc1 : (S.1 1 1) = 1) => ?_) (fun (hc1 : ¬ (S.1 1 1) = 1) => ?_)
  · rw [if_pos hc1] at hr
    refine go_run mm_16 6 (pc' := 18) (ls' := [some (.ref 1), some (.ref t1), none, none]) (st' := [.ref t1, .int ((S.1 1 4) - (S.1 1 2))]) (S' := S) rfl ?_
    refine go_len mm_16 (tx := tx) rfl rfl y1 rfl ?_
    show Go XC d 16 0 21 [some (.ref 1), some (.ref t1), none, none] [.int (Int32.ofNat (List.length tx)), .int ((S.1 1 4) - (S.1 1 2))] S (RV (vZ r) S)
    refine go_if2 mm_16 rfl (p1 := 26) (p2 := 24) rfl (fun (hc2 : ((S.1 1 4) - (S.1 1 2)) = (Int32.ofNat (List.length tx))) => ?_) (fun (hc2 : ¬ ((S.1 1 4) - (S.1 1 2)) = (Int32.ofNat (List.length tx))) => ?_)
    · rw [if_pos hc2] at hr
      refine go_run mm_16 3 (pc' := 31) (ls' := [some (.ref 1), some (.ref t1), none, none]) (st' := [.int 0, .int (S.1 1 2)]) (S' := S) rfl ?_
      refine go_mm (pc' := 34) (st' := [.int (if (S.1 1 2) < 0 then 0 else (S.1 1 2))]) (fun lv σ => rfl) ?_
      show Go XC d 16 0 34 [some (.ref 1), some (.ref t1), none, none] [.int (if (S.1 1 2) < 0 then 0 else (S.1 1 2))] S (RV (vZ r) S)
      refine go_run mm_16 1 (pc' := 35) (ls' := [some (.ref 1), some (.ref t1), some (.int (if (S.1 1 2) < 0 then 0 else (S.1 1 2))), none]) (st' := []) (S' := S) rfl ?_
      obtain ⟨z35, he35, hr⟩ := ob_some hr
      refine Go.le (ls' := [some (.ref 1), some (.ref t1), some (.int (if (S.1 1 2) < 0 then 0 else (S.1 1 2))), none]) ?_ (by repeat first | exact True.intro | refine And.intro rfl ?_)
      refine wh_go (P := fun a35 => Go XC d 16 0 35 [some (.ref 1), some (.ref t1), some (.int a35), none] [] S (RV (vZ r) S)) (K := fun z => Sum.elim (fun e35 => Go XC d 16 0 91 [some (.ref 1), some (.ref t1), some (.int e35), none] [] S (RV (vZ r) S)) (fun o => (RV (vZ r) S) 0 (.inr (vZ o)) S) z) (fun a9 r9 h9 hL hR => LS_16_35 y1 h9 hL hR) _ _ _ he35 ?_
      rcases z35 with e35 | o
      rotate_left
      · simp only [Sum.elim_inr] at hr
        cases hr
        exact ⟨rfl, rfl, rfl⟩
      simp only [Sum.elim_inl] at hr
      show Go XC d 16 0 91 [some (.ref 1), some (.ref t1), some (.int e35), none] [] S (RV (vZ r) S)
      refine go_run mm_16 1 (pc' := 92) (ls' := [some (.ref 1), some (.ref t1), some (.int e35), none]) (st' := [.int 1]) (S' := S) rfl ?_
      cases hr
      exact go_zreturn mm_16 rfl rfl (Or.inr rfl) ⟨rfl, rfl, rfl⟩
    · rw [if_neg hc2] at hr
      refine go_run mm_16 1 (pc' := 25) (ls' := [some (.ref 1), some (.ref t1), none, none]) (st' := [.int 0]) (S' := S) rfl ?_
      cases hr
      exact go_zreturn mm_16 rfl rfl (Or.inl rfl) ⟨rfl, rfl, rfl⟩
  · rw [if_neg hc1] at hr
    refine go_run mm_16 1 (pc' := 25) (ls' := [some (.ref 1), some (.ref t1), none, none]) (st' := [.int 0]) (S' := S) rfl ?_
    cases hr
    exact go_zreturn mm_16 rfl rfl (Or.inl rfl) ⟨rfl, rfl, rfl⟩

theorem mm_34 : mtG 34 = some (mi_34, 4, ft_34) := rfl
def F_34 (h0 : Nat) (v1 : Int32) (v2 : Int32) (v3 : Int32) (S : ST) : Option Bool := ob (F_45 h0 v1 S) (fun w1 => ob (F_45 h0 (F_46 h0 v1 S) S) (fun w2 => if (decide (v3 < (2 * w1))) = (decide (v3 < (2 * w2))) then (some false) else (ob (F_44 h0 v1 S) (fun w3 => ob (F_44 h0 (F_46 h0 v1 S) S) (fun w4 => some (if (2 * w1) < (2 * w2) then (decide ((0 : Int32) < (F_23 (2 * w3) (2 * w1) (2 * w4) (2 * w2) v2 v3))) else (decide ((F_23 (2 * w3) (2 * w1) (2 * w4) (2 * w2) v2 v3) < 0))))))))
set_option maxRecDepth 20000 in
theorem S_34 {d : Nat} {S : ST} {h0 : Nat} {v1 : Int32} {v2 : Int32} {v3 : Int32} {r} (hp0 : PLH h0) (hr : F_34 h0 v1 v2 v3 S = some r) : Cal XC (d + 1) 34 [.ref h0, .int v1, .int v2, .int v3] S (RV (vZ r) S) := by
  unfold F_34 at hr
  refine cal_go 4 rfl ?_
  refine go_run mm_34 2 (pc' := 2) (ls' := [some (.ref h0), some (.int v1), some (.int v2), some (.int v3), none, none, none, none]) (st' := [.int v1, .ref h0]) (S' := S) rfl ?_
  refine go_cv mm_34 (h := h0) (As := [.int v1]) (rest := []) (nl := 2) rfl hp0.1 (show cvOK 34 2 28 46 1 2 5 = true by decide +kernel) rfl rfl rfl (S_46 hp0 rfl) (KP_V ?_)
  show Go XC (d + 1) 34 0 5 [some (.ref h0), some (.int v1), some (.int v2), some (.int v3), none, none, none, none] [.int (F_46 h0 v1 S)] S (RV (vZ r) S)
  refine go_run mm_34 4 (pc' := 10) (ls' := [some (.ref h0), some (.int v1), some (.int v2), some (.int v3), some (.int (F_46 h0 v1 S)), none, none, none]) (st' := [.int v1, .ref h0, .int 2]) (S' := S) rfl ?_
  obtain ⟨w1, hw1, hr⟩ := ob_some hr
  refine go_cv mm_34 (h := h0) (As := [.int v1]) (rest := [.int 2]) (nl := 2) rfl hp0.1 (show cvOK 34 10 15 45 1 2 5 = true by decide +kernel) rfl rfl rfl (S_45 hp0 hw1) (KP_V ?_)
  show Go XC (d + 1) 34 0 13 [some (.ref h0), some (.int v1), some (.int v2), some (.int v3), some (.int (F_46 h0 v1 S)), none, none, none] [.int w1, .int 2] S (RV (vZ r) S)
  refine go_run mm_34 5 (pc' := 20) (ls' := [some (.ref h0), some (.int v1), some (.int v2), some (.int v3), some (.int (F_46 h0 v1 S)), some (.int (2 * w1)), none, none]) (st' := [.int (F_46 h0 v1 S), .ref h0, .int 2]) (S' := S) rfl ?_
  obtain ⟨w2, hw2, hr⟩ := ob_some hr
  refine go_cv mm_34 (h := h0) (As := [.int (F_46 h0 v1 S)]) (rest := [.int 2]) (nl := 2) rfl hp0.1 (show cvOK 34 20 15 45 1 2 5 = true by decide +kernel) rfl rfl rfl (S_45 hp0 hw2) (KP_V ?_)
  show Go XC (d + 1) 34 0 23 [some (.ref h0), some (.int v1), some (.int v2), some (.int v3), some (.int (F_46 h0 v1 S)), some (.int (2 * w1)), none, none] [.int w2, .int 2] S (RV (vZ r) S)
  refine go_run mm_34 4 (pc' := 29) (ls' := [some (.ref h0), some (.int v1), some (.int v2), some (.int v3), some (.int (F_46 h0 v1 S)), some (.int (2 * w1)), some (.int (2 * w2)), none]) (st' := [.int v3, .int (2 * w1)]) (S' := S) rfl ?_
  have j11 : Go XC (d + 1) 34 0 37 [some (.ref h0), some (.int v1), some (.int v2), some (.int v3), some (.int (F_46 h0 v1 S)), some (.int (2 * w1)), some (.int (2 * w2)), none] [.int (b2i (decide (v3 < (2 * w1))))] S (RV (vZ r) S) := by
    refine go_run mm_34 2 (pc' := 40) (ls' := [some (.ref h0), some (.int v1), some (.int v2), some (.int v3), some (.int (F_46 h0 v1 S)), some (.int (2 * w1)), some (.int (2 * w2)), none]) (st' := [.int v3, .int (2 * w2), .int (b2i (decide (v3 < (2 * w1))))]) (S' := S) rfl ?_
    have j10 : Go XC (d + 1) 34 0 48 [some (.ref h0), some (.int v1), some (.int v2), some (.int v3), some (.int (F_46 h0 v1 S)), some (.int (2 * w1)), some (.int (2 * w2)), none] [.int (b2i (decide (v3 < (2 * w2)))), .int (b2i (decide (v3 < (2 * w1))))] S (RV (vZ r) S) := by
      refine go_ifbb mm_34 rfl (p1 := 51) (p2 := 53) rfl (fun (hc3 : (decide (v3 < (2 * w1))) = (decide (v3 < (2 * w2)))) => ?_) (fun (hc3 : ¬ (decide (v3 < (2 * w1))) = (decide (v3 < (2 * w2)))) => ?_)
      · rw [if_pos hc3] at hr
        refine go_run mm_34 1 (pc' := 52) (ls' := [some (.ref h0), some (.int v1), some (.int v2), some (.int v3), some (.int (F_46 h0 v1 S)), some (.int (2 * w1)), some (.int (2 * w2)), none]) (st' := [.int 0]) (S' := S) rfl ?_
        cases hr
        exact go_zreturn mm_34 rfl rfl (Or.inl rfl) ⟨rfl, rfl, rfl⟩
      · rw [if_neg hc3] at hr
        refine go_run mm_34 3 (pc' := 56) (ls' := [some (.ref h0), some (.int v1), some (.int v2), some (.int v3), some (.int (F_46 h0 v1 S)), some (.int (2 * w1)), some (.int (2 * w2)), none]) (st' := [.int v1, .ref h0, .int 2]) (S' := S) rfl ?_
        obtain ⟨w3, hw3, hr⟩ := ob_some hr
        refine go_cv mm_34 (h := h0) (As := [.int v1]) (rest := [.int 2]) (nl := 2) rfl hp0.1 (show cvOK 34 56 9 44 1 2 5 = true by decide +kernel) rfl rfl rfl (S_44 hp0 hw3) (KP_V ?_)
        show Go XC (d + 1) 34 0 59 [some (.ref h0), some (.int v1), some (.int v2), some (.int v3), some (.int (F_46 h0 v1 S)), some (.int (2 * w1)), some (.int (2 * w2)), none] [.int w3, .int 2] S (RV (vZ r) S)
        refine go_run mm_34 5 (pc' := 66) (ls' := [some (.ref h0), some (.int v1), some (.int v2), some (.int v3), some (.int (F_46 h0 v1 S)), some (.int (2 * w1)), some (.int (2 * w2)), none]) (st' := [.int (F_46 h0 v1 S), .ref h0, .int 2, .int (2 * w1), .int (2 * w3)]) (S' := S) rfl ?_
        obtain ⟨w4, hw4, hr⟩ := ob_some hr
        refine go_cv mm_34 (h := h0) (As := [.int (F_46 h0 v1 S)]) (rest := [.int 2, .int (2 * w1), .int (2 * w3)]) (nl := 2) rfl hp0.1 (show cvOK 34 66 9 44 1 2 5 = true by decide +kernel) rfl rfl rfl (S_44 hp0 hw4) (KP_V ?_)
        show Go XC (d + 1) 34 0 69 [some (.ref h0), some (.int v1), some (.int v2), some (.int v3), some (.int (F_46 h0 v1 S)), some (.int (2 * w1)), some (.int (2 * w2)), none] [.int w4, .int 2, .int (2 * w1), .int (2 * w3)] S (RV (vZ r) S)
        refine go_run mm_34 4 (pc' := 74) (ls' := [some (.ref h0), some (.int v1), some (.int v2), some (.int v3), some (.int (F_46 h0 v1 S)), some (.int (2 * w1)), some (.int (2 * w2)), none]) (st' := [.int v3, .int v2, .int (2 * w2), .int (2 * w4), .int (2 * w1), .int (2 * w3)]) (S' := S) rfl ?_
        refine go_cs mm_34 (av := [.int (2 * w3), .int (2 * w1), .int (2 * w4), .int (2 * w2), .int v2, .int v3]) (rest := []) (nl := 6) rfl (show csOK 34 74 18 23 6 6 = true by decide +kernel) rfl rfl rfl (S_23 rfl) (KP_V ?_)
        show Go XC (d + 1) 34 0 77 [some (.ref h0), some (.int v1), some (.int v2), some (.int v3), some (.int (F_46 h0 v1 S)), some (.int (2 * w1)), some (.int (2 * w2)), none] [.int (F_23 (2 * w3) (2 * w1) (2 * w4) (2 * w2) v2 v3)] S (RV (vZ r) S)
        refine go_run mm_34 3 (pc' := 83) (ls' := [some (.ref h0), some (.int v1), some (.int v2), some (.int v3), some (.int (F_46 h0 v1 S)), some (.int (2 * w1)), some (.int (2 * w2)), some (.int (F_23 (2 * w3) (2 * w1) (2 * w4) (2 * w2) v2 v3))]) (st' := [.int (2 * w1), .int (2 * w2)]) (S' := S) rfl ?_
        have j9 : Go XC (d + 1) 34 0 109 [some (.ref h0), some (.int v1), some (.int v2), some (.int v3), some (.int (F_46 h0 v1 S)), some (.int (2 * w1)), some (.int (2 * w2)), some (.int (F_23 (2 * w3) (2 * w1) (2 * w4) (2 * w2) v2 v3))] [.int (b2i (if (2 * w1) < (2 * w2) then (decide ((0 : Int32) < (F_23 (2 * w3) (2 * w1) (2 * w4) (2 * w2) v2 v3))) else (decide ((F_23 (2 * w3) (2 * w1) (2 * w4) (2 * w2) v2 v3) < 0))))] S (RV (vZ r) S) := by
          cases hr
          exact go_zreturn mm_34 rfl rfl (b2i_01 _) ⟨rfl, rfl, rfl⟩
        refine go_if2 mm_34 rfl (p1 := 86) (p2 := 99) rfl (fun (hc4 : (2 * w1) < (2 * w2)) => ?_) (fun (hc4 : ¬ (2 * w1) < (2 * w2)) => ?_)
        · refine go_run mm_34 1 (pc' := 88) (ls' := [some (.ref h0), some (.int v1), some (.int v2), some (.int v3), some (.int (F_46 h0 v1 S)), some (.int (2 * w1)), some (.int (2 * w2)), some (.int (F_23 (2 * w3) (2 * w1) (2 * w4) (2 * w2) v2 v3))]) (st' := [.int (F_23 (2 * w3) (2 * w1) (2 * w4) (2 * w2) v2 v3)]) (S' := S) rfl ?_
          have j6 : Go XC (d + 1) 34 0 109 [some (.ref h0), some (.int v1), some (.int v2), some (.int v3), some (.int (F_46 h0 v1 S)), some (.int (2 * w1)), some (.int (2 * w2)), some (.int (F_23 (2 * w3) (2 * w1) (2 * w4) (2 * w2) v2 v3))] [.int (b2i (decide ((0 : Int32) < (F_23 (2 * w3) (2 * w1) (2 * w4) (2 * w2) v2 v3))))] S (RV (vZ r) S) := by
            have e : ((b2i (if (2 * w1) < (2 * w2) then (decide ((0 : Int32) < (F_23 (2 * w3) (2 * w1) (2 * w4) (2 * w2) v2 v3))) else (decide ((F_23 (2 * w3) (2 * w1) (2 * w4) (2 * w2) v2 v3) < 0)))) : Int32) = (b2i (decide ((0 : Int32) < (F_23 (2 * w3) (2 * w1) (2 * w4) (2 * w2) v2 v3)))) := by simp [b2i, hc4]
            rw [e] at j9
            exact j9
          refine go_if0 mm_34 rfl (p1 := 91) (p2 := 95) rfl (fun (hc5 : (0 : Int32) < (F_23 (2 * w3) (2 * w1) (2 * w4) (2 * w2) v2 v3)) => ?_) (fun (hc5 : ¬ (0 : Int32) < (F_23 (2 * w3) (2 * w1) (2 * w4) (2 * w2) v2 v3)) => ?_)
          · refine go_run mm_34 2 (pc' := 109) (ls' := [some (.ref h0), some (.int v1), some (.int v2), some (.int v3), some (.int (F_46 h0 v1 S)), some (.int (2 * w1)), some (.int (2 * w2)), some (.int (F_23 (2 * w3) (2 * w1) (2 * w4) (2 * w2) v2 v3))]) (st' := [.int 1]) (S' := S) rfl ?_
            have e : ((b2i (decide ((0 : Int32) < (F_23 (2 * w3) (2 * w1) (2 * w4) (2 * w2) v2 v3)))) : Int32) = 1 := by simp [b2i, hc5]
            rw [e] at j6
            exact j6
          · refine go_run mm_34 2 (pc' := 109) (ls' := [some (.ref h0), some (.int v1), some (.int v2), some (.int v3), some (.int (F_46 h0 v1 S)), some (.int (2 * w1)), some (.int (2 * w2)), some (.int (F_23 (2 * w3) (2 * w1) (2 * w4) (2 * w2) v2 v3))]) (st' := [.int 0]) (S' := S) rfl ?_
            have e : ((b2i (decide ((0 : Int32) < (F_23 (2 * w3) (2 * w1) (2 * w4) (2 * w2) v2 v3)))) : Int32) = 0 := by simp [b2i, hc5]
            rw [e] at j6
            exact j6
        · refine go_run mm_34 1 (pc' := 101) (ls' := [some (.ref h0), some (.int v1), some (.int v2), some (.int v3), some (.int (F_46 h0 v1 S)), some (.int (2 * w1)), some (.int (2 * w2)), some (.int (F_23 (2 * w3) (2 * w1) (2 * w4) (2 * w2) v2 v3))]) (st' := [.int (F_23 (2 * w3) (2 * w1) (2 * w4) (2 * w2) v2 v3)]) (S' := S) rfl ?_
          have j8 : Go XC (d + 1) 34 0 109 [some (.ref h0), some (.int v1), some (.int v2), some (.int v3), some (.int (F_46 h0 v1 S)), some (.int (2 * w1)), some (.int (2 * w2)), some (.int (F_23 (2 * w3) (2 * w1) (2 * w4) (2 * w2) v2 v3))] [.int (b2i (decide ((F_23 (2 * w3) (2 * w1) (2 * w4) (2 * w2) v2 v3) < 0)))] S (RV (vZ r) S) := by
            have e : ((b2i (if (2 * w1) < (2 * w2) then (decide ((0 : Int32) < (F_23 (2 * w3) (2 * w1) (2 * w4) (2 * w2) v2 v3))) else (decide ((F_23 (2 * w3) (2 * w1) (2 * w4) (2 * w2) v2 v3) < 0)))) : Int32) = (b2i (decide ((F_23 (2 * w3) (2 * w1) (2 * w4) (2 * w2) v2 v3) < 0))) := by simp [b2i, hc4]
            rw [e] at j9
            exact j9
          refine go_if0 mm_34 rfl (p1 := 104) (p2 := 108) rfl (fun (hc7 : (F_23 (2 * w3) (2 * w1) (2 * w4) (2 * w2) v2 v3) < 0) => ?_) (fun (hc7 : ¬ (F_23 (2 * w3) (2 * w1) (2 * w4) (2 * w2) v2 v3) < 0) => ?_)
          · refine go_run mm_34 2 (pc' := 109) (ls' := [some (.ref h0), some (.int v1), some (.int v2), some (.int v3), some (.int (F_46 h0 v1 S)), some (.int (2 * w1)), some (.int (2 * w2)), some (.int (F_23 (2 * w3) (2 * w1) (2 * w4) (2 * w2) v2 v3))]) (st' := [.int 1]) (S' := S) rfl ?_
            have e : ((b2i (decide ((F_23 (2 * w3) (2 * w1) (2 * w4) (2 * w2) v2 v3) < 0))) : Int32) = 1 := by simp [b2i, hc7]
            rw [e] at j8
            exact j8
          · refine go_run mm_34 1 (pc' := 109) (ls' := [some (.ref h0), some (.int v1), some (.int v2), some (.int v3), some (.int (F_46 h0 v1 S)), some (.int (2 * w1)), some (.int (2 * w2)), some (.int (F_23 (2 * w3) (2 * w1) (2 * w4) (2 * w2) v2 v3))]) (st' := [.int 0]) (S' := S) rfl ?_
            have e : ((b2i (decide ((F_23 (2 * w3) (2 * w1) (2 * w4) (2 * w2) v2 v3) < 0))) : Int32) = 0 := by simp [b2i, hc7]
            rw [e] at j8
            exact j8
    refine go_if2 mm_34 rfl (p1 := 43) (p2 := 47) rfl (fun (hc2 : v3 < (2 * w2)) => ?_) (fun (hc2 : ¬ v3 < (2 * w2)) => ?_)
    · refine go_run mm_34 2 (pc' := 48) (ls' := [some (.ref h0), some (.int v1), some (.int v2), some (.int v3), some (.int (F_46 h0 v1 S)), some (.int (2 * w1)), some (.int (2 * w2)), none]) (st' := [.int 1, .int (b2i (decide (v3 < (2 * w1))))]) (S' := S) rfl ?_
      have e : ((b2i (decide (v3 < (2 * w2)))) : Int32) = 1 := by simp [b2i, hc2]
      rw [e] at j10
      exact j10
    · refine go_run mm_34 1 (pc' := 48) (ls' := [some (.ref h0), some (.int v1), some (.int v2), some (.int v3), some (.int (F_46 h0 v1 S)), some (.int (2 * w1)), some (.int (2 * w2)), none]) (st' := [.int 0, .int (b2i (decide (v3 < (2 * w1))))]) (S' := S) rfl ?_
      have e : ((b2i (decide (v3 < (2 * w2)))) : Int32) = 0 := by simp [b2i, hc2]
      rw [e] at j10
      exact j10
  refine go_if2 mm_34 rfl (p1 := 32) (p2 := 36) rfl (fun (hc1 : v3 < (2 * w1)) => ?_) (fun (hc1 : ¬ v3 < (2 * w1)) => ?_)
  · refine go_run mm_34 2 (pc' := 37) (ls' := [some (.ref h0), some (.int v1), some (.int v2), some (.int v3), some (.int (F_46 h0 v1 S)), some (.int (2 * w1)), some (.int (2 * w2)), none]) (st' := [.int 1]) (S' := S) rfl ?_
    have e : ((b2i (decide (v3 < (2 * w1)))) : Int32) = 1 := by simp [b2i, hc1]
    rw [e] at j11
    exact j11
  · refine go_run mm_34 1 (pc' := 37) (ls' := [some (.ref h0), some (.int v1), some (.int v2), some (.int v3), some (.int (F_46 h0 v1 S)), some (.int (2 * w1)), some (.int (2 * w2)), none]) (st' := [.int 0]) (S' := S) rfl ?_
    have e : ((b2i (decide (v3 < (2 * w1)))) : Int32) = 0 := by simp [b2i, hc1]
    rw [e] at j11
    exact j11

theorem mm_33 : mtG 33 = some (mi_33, 4, ft_33) := rfl
def L_33_5 (h0 : Nat) (v1 : Int32) (v2 : Int32) (S : ST) (a5 : Int32 × Int32) : Option ((Int32 × Int32) ⊕ ((Int32 × Int32) ⊕ Int32)) := if a5.2 < (S.1 h0 0) then (ob (F_32 h0 a5.2 2 v1 v2 S) (fun w1 => if w1 = true then (some (.inr (.inr 1))) else (ob (F_34 h0 a5.2 v1 v2 S) (fun w2 => if w2 = true then (some (.inl ((b2i (decide (a5.1 = 0))), a5.2 + 1))) else (some (.inl (a5.1, a5.2 + 1))))))) else (some (.inr (.inl (a5.1, a5.2))))
set_option maxRecDepth 20000 in
theorem LS_33_5 {d : Nat} {R : RT} {S : ST} {h0 : Nat} {v1 : Int32} {v2 : Int32} (hp0 : PLH h0) {a5 : Int32 × Int32} {r9} (hr : L_33_5 h0 v1 v2 S a5 = some r9) (hL : ∀ a9, r9 = .inl a9 → (fun a5 => Go XC (d + 2) 33 0 5 [some (.ref h0), some (.int v1), some (.int v2), some (.int a5.1), some (.int a5.2)] [] S R) a9) (hR : ∀ b9, r9 = .inr b9 → Sum.elim (fun e5 => Go XC (d + 2) 33 0 55 [some (.ref h0), some (.int v1), some (.int v2), some (.int e5.1), some (.int e5.2)] [] S R) (fun o => R 0 (.inr (vI o)) S) b9) : Go XC (d + 2) 33 0 5 [some (.ref h0), some (.int v1), some (.int v2), some (.int a5.1), some (.int a5.2)] [] S R := by
  unfold L_33_5 at hr
  refine go_run mm_33 2 (pc' := 8) (ls' := [some (.ref h0), some (.int v1), some (.int v2), some (.int a5.1), some (.int a5.2)]) (st' := [.ref h0, .int a5.2]) (S' := S) rfl ?_
  refine go_getf mm_33 (h := h0) rfl hp0.1 rfl ?_
  show Go XC (d + 2) 33 0 11 [some (.ref h0), some (.int v1), some (.int v2), some (.int a5.1), some (.int a5.2)] [.int (S.1 h0 0), .int a5.2] S R
  refine go_if2 mm_33 rfl (p1 := 14) (p2 := 55) rfl (fun (hc1 : a5.2 < (S.1 h0 0)) => ?_) (fun (hc1 : ¬ a5.2 < (S.1 h0 0)) => ?_)
  · rw [if_pos hc1] at hr
    refine go_run mm_33 5 (pc' := 20) (ls' := [some (.ref h0), some (.int v1), some (.int v2), some (.int a5.1), some (.int a5.2)]) (st' := [.int v2, .int v1, .int 2, .int a5.2, .ref h0]) (S' := S) rfl ?_
    obtain ⟨w1, hw1, hr⟩ := ob_some hr
    refine go_cs mm_33 (av := [.ref h0, .int a5.2, .int 2, .int v1, .int v2]) (rest := []) (nl := 10) rfl (show csOK 33 20 54 32 5 10 = true by decide +kernel) rfl rfl rfl (S_32 hp0 hw1) (KP_V ?_)
    show Go XC (d + 2) 33 0 23 [some (.ref h0), some (.int v1), some (.int v2), some (.int a5.1), some (.int a5.2)] [.int (b2i w1)] S R
    refine go_ifb mm_33 rfl (p1 := 26) (p2 := 28) rfl (fun (hc2 : w1 = true) => ?_) (fun (hc2 : w1 = false) => ?_)
    · rw [if_pos hc2] at hr
      refine go_run mm_33 1 (pc' := 27) (ls' := [some (.ref h0), some (.int v1), some (.int v2), some (.int a5.1), some (.int a5.2)]) (st' := [.int 1]) (S' := S) rfl ?_
      cases hr
      have h9 : R 0 (.inr (vI 1)) S := hR _ rfl
      exact go_ireturn mm_33 rfl rfl h9
    · rw [if_neg (bf hc2)] at hr
      refine go_run mm_33 4 (pc' := 33) (ls' := [some (.ref h0), some (.int v1), some (.int v2), some (.int a5.1), some (.int a5.2)]) (st' := [.int v2, .int v1, .int a5.2, .ref h0]) (S' := S) rfl ?_
      obtain ⟨w2, hw2, hr⟩ := ob_some hr
      refine go_cs mm_33 (av := [.ref h0, .int a5.2, .int v1, .int v2]) (rest := []) (nl := 8) rfl (show csOK 33 33 71 34 4 8 = true by decide +kernel) rfl rfl rfl (S_34 hp0 hw2) (KP_V ?_)
      show Go XC (d + 2) 33 0 36 [some (.ref h0), some (.int v1), some (.int v2), some (.int a5.1), some (.int a5.2)] [.int (b2i w2)] S R
      refine go_ifb mm_33 rfl (p1 := 39) (p2 := 49) rfl (fun (hc3 : w2 = true) => ?_) (fun (hc3 : w2 = false) => ?_)
      · rw [if_pos hc3] at hr
        refine go_run mm_33 1 (pc' := 40) (ls' := [some (.ref h0), some (.int v1), some (.int v2), some (.int a5.1), some (.int a5.2)]) (st' := [.int a5.1]) (S' := S) rfl ?_
        have j5 : Go XC (d + 2) 33 0 48 [some (.ref h0), some (.int v1), some (.int v2), some (.int a5.1), some (.int a5.2)] [.int (b2i (decide (a5.1 = 0)))] S R := by
          refine go_run mm_33 3 (pc' := 5) (ls' := [some (.ref h0), some (.int v1), some (.int v2), some (.int (b2i (decide (a5.1 = 0)))), some (.int (a5.2 + 1))]) (st' := []) (S' := S) rfl ?_
          cases hr
          have h9 := hL ((b2i (decide (a5.1 = 0))), a5.2 + 1) rfl
          dsimp only at h9
          exact Go.le h9 (by repeat first | exact True.intro | refine And.intro rfl ?_)
        refine go_if0 mm_33 rfl (p1 := 43) (p2 := 47) rfl (fun (hc4 : a5.1 = 0) => ?_) (fun (hc4 : ¬ a5.1 = 0) => ?_)
        · refine go_run mm_33 2 (pc' := 48) (ls' := [some (.ref h0), some (.int v1), some (.int v2), some (.int a5.1), some (.int a5.2)]) (st' := [.int 1]) (S' := S) rfl ?_
          have e : ((b2i (decide (a5.1 = 0))) : Int32) = 1 := by simp [b2i, hc4]
          rw [e] at j5
          exact j5
        · refine go_run mm_33 1 (pc' := 48) (ls' := [some (.ref h0), some (.int v1), some (.int v2), some (.int a5.1), some (.int a5.2)]) (st' := [.int 0]) (S' := S) rfl ?_
          have e : ((b2i (decide (a5.1 = 0))) : Int32) = 0 := by simp [b2i, hc4]
          rw [e] at j5
          exact j5
      · rw [if_neg (bf hc3)] at hr
        refine go_run mm_33 2 (pc' := 5) (ls' := [some (.ref h0), some (.int v1), some (.int v2), some (.int a5.1), some (.int (a5.2 + 1))]) (st' := []) (S' := S) rfl ?_
        cases hr
        have h9 := hL (a5.1, a5.2 + 1) rfl
        dsimp only at h9
        exact Go.le h9 (by repeat first | exact True.intro | refine And.intro rfl ?_)
  · rw [if_neg hc1] at hr
    cases hr
    have h9 := hR (.inl (a5.1, a5.2)) rfl
    dsimp only [Sum.elim_inl] at h9
    exact Go.le h9 (by repeat first | exact True.intro | refine And.intro rfl ?_)
def F_33 (h0 : Nat) (v1 : Int32) (v2 : Int32) (S : ST) : Option Int32 := ob (wh FU (L_33_5 h0 v1 v2 S) (0, 0)) (fun z => Sum.elim (fun e5 => some (if e5.1 = 0 then 0 else 2)) (fun o => some o) z)
set_option maxRecDepth 20000 in
theorem S_33 {d : Nat} {S : ST} {h0 : Nat} {v1 : Int32} {v2 : Int32} {r} (hp0 : PLH h0) (hr : F_33 h0 v1 v2 S = some r) : Cal XC (d + 2) 33 [.ref h0, .int v1, .int v2] S (RV (vI r) S) := by
  unfold F_33 at hr
  refine cal_go 2 rfl ?_
  refine go_run mm_33 4 (pc' := 5) (ls' := [some (.ref h0), some (.int v1), some (.int v2), some (.int 0), some (.int 0)]) (st' := []) (S' := S) rfl ?_
  obtain ⟨z5, he5, hr⟩ := ob_some hr
  refine Go.le (ls' := [some (.ref h0), some (.int v1), some (.int v2), some (.int 0), some (.int 0)]) ?_ (by repeat first | exact True.intro | refine And.intro rfl ?_)
  refine wh_go (P := fun a5 => Go XC (d + 2) 33 0 5 [some (.ref h0), some (.int v1), some (.int v2), some (.int a5.1), some (.int a5.2)] [] S (RV (vI r) S)) (K := fun z => Sum.elim (fun e5 => Go XC (d + 2) 33 0 55 [some (.ref h0), some (.int v1), some (.int v2), some (.int e5.1), some (.int e5.2)] [] S (RV (vI r) S)) (fun o => (RV (vI r) S) 0 (.inr (vI o)) S) z) (fun a9 r9 h9 hL hR => LS_33_5 hp0 h9 hL hR) _ _ _ he5 ?_
  rcases z5 with e5 | o
  rotate_left
  · simp only [Sum.elim_inr] at hr
    cases hr
    exact ⟨rfl, rfl, rfl⟩
  simp only [Sum.elim_inl] at hr
  show Go XC (d + 2) 33 0 55 [some (.ref h0), some (.int v1), some (.int v2), some (.int e5.1), some (.int e5.2)] [] S (RV (vI r) S)
  refine go_run mm_33 1 (pc' := 56) (ls' := [some (.ref h0), some (.int v1), some (.int v2), some (.int e5.1), some (.int e5.2)]) (st' := [.int e5.1]) (S' := S) rfl ?_
  have j7 : Go XC (d + 2) 33 0 64 [some (.ref h0), some (.int v1), some (.int v2), some (.int e5.1), some (.int e5.2)] [.int (if e5.1 = 0 then 0 else 2)] S (RV (vI r) S) := by
    cases hr
    exact go_ireturn mm_33 rfl rfl ⟨rfl, rfl, rfl⟩
  refine go_if0 mm_33 rfl (p1 := 63) (p2 := 59) rfl (fun (hc6 : e5.1 = 0) => ?_) (fun (hc6 : ¬ e5.1 = 0) => ?_)
  · refine go_run mm_33 1 (pc' := 64) (ls' := [some (.ref h0), some (.int v1), some (.int v2), some (.int e5.1), some (.int e5.2)]) (st' := [.int 0]) (S' := S) rfl ?_
    have e : ((if e5.1 = 0 then 0 else 2) : Int32) = 0 := by simp [b2i, hc6]
    rw [e] at j7
    exact j7
  · refine go_run mm_33 2 (pc' := 64) (ls' := [some (.ref h0), some (.int v1), some (.int v2), some (.int e5.1), some (.int e5.2)]) (st' := [.int 2]) (S' := S) rfl ?_
    have e : ((if e5.1 = 0 then 0 else 2) : Int32) = 2 := by simp [b2i, hc6]
    rw [e] at j7
    exact j7
