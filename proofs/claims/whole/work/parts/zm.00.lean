/-! methods as functions (printed by a program): 182 in, 183 refuse, 184 noPolygon, 185 append, 186 buffered, 187 parseError, 188 errorPosition, 189 seen, 190 isLetter, 191 isDigit, 192 token, 193 fails, 194 goesOn, 195 isWord -/
noncomputable def F_182 (v0 : Int32) (v1 : Int32) (v2 : Int32) : Bool := (!(decide (v0 < v1)) && (!(decide (v2 < v0))))
set_option maxRecDepth 20000 in
theorem S_182 {d : Nat} {S : ST} {v0 : Int32} {v1 : Int32} {v2 : Int32} {r} (hr : F_182 v0 v1 v2 = r) : Cal XM d 182 [.int v0, .int v1, .int v2] S (RV (vZ r) S) := by
  unfold F_182 at hr
  refine cal_go 0 rfl ?_
  refine go_run mm_182 2 (pc' := 2) (ls' := [some (.int v0), some (.int v1), some (.int v2)]) (st' := [.int v1, .int v0]) (S' := S) rfl ?_
  have j4 : Go XM d 182 0 15 [some (.int v0), some (.int v1), some (.int v2)] [.int (b2i (!(decide (v0 < v1)) && (!(decide (v2 < v0)))))] S (RV (vZ r) S) := by
    cases hr
    exact go_zreturn mm_182 rfl rfl (b2i_01 _) ⟨rfl, rfl, rfl⟩
  refine go_if2 mm_182 rfl (p1 := 14) (p2 := 5) rfl (fun (hc1 : v0 < v1) => ?_) (fun (hc1 : ¬ v0 < v1) => ?_)
  · refine go_run mm_182 1 (pc' := 15) (ls' := [some (.int v0), some (.int v1), some (.int v2)]) (st' := [.int 0]) (S' := S) rfl ?_
    have e : ((b2i (!(decide (v0 < v1)) && (!(decide (v2 < v0))))) : Int32) = 0 := by simp [b2i, hc1]
    rw [e] at j4
    exact j4
  · refine go_run mm_182 2 (pc' := 7) (ls' := [some (.int v0), some (.int v1), some (.int v2)]) (st' := [.int v2, .int v0]) (S' := S) rfl ?_
    have j3 : Go XM d 182 0 15 [some (.int v0), some (.int v1), some (.int v2)] [.int (b2i (!(decide (v2 < v0))))] S (RV (vZ r) S) := by
      have e : ((b2i (!(decide (v0 < v1)) && (!(decide (v2 < v0))))) : Int32) = (b2i (!(decide (v2 < v0)))) := by simp [b2i, hc1]
      rw [e] at j4
      exact j4
    refine go_if2 mm_182 rfl (p1 := 14) (p2 := 10) rfl (fun (hc2 : v2 < v0) => ?_) (fun (hc2 : ¬ v2 < v0) => ?_)
    · refine go_run mm_182 1 (pc' := 15) (ls' := [some (.int v0), some (.int v1), some (.int v2)]) (st' := [.int 0]) (S' := S) rfl ?_
      have e : ((b2i (!(decide (v2 < v0)))) : Int32) = 0 := by simp [b2i, hc2]
      rw [e] at j3
      exact j3
    · refine go_run mm_182 2 (pc' := 15) (ls' := [some (.int v0), some (.int v1), some (.int v2)]) (st' := [.int 1]) (S' := S) rfl ?_
      have e : ((b2i (!(decide (v2 < v0)))) : Int32) = 1 := by simp [b2i, hc2]
      rw [e] at j3
      exact j3

noncomputable def F_183 (v1 : Bool) (v2 : Int32) (S : ST) : Option (Bool × ST) := if (S.1 140 0) = 0 then (if v1 = true then (some ((!(decide (v2 = 0))), (wI S 140 0 v2))) else (some ((!(decide ((S.1 140 0) = 0))), S))) else (some ((!(decide ((S.1 140 0) = 0))), S))
set_option maxRecDepth 20000 in
theorem S_183 {d : Nat} {S : ST} {v1 : Bool} {v2 : Int32} {r} (hr : F_183 v1 v2 S = some r) : Cal XM d 183 [.ref 140, .int (b2i v1), .int v2] S (RV (vZ r.1) r.2) := by
  unfold F_183 at hr
  refine cal_go 0 rfl ?_
  refine go_run mm_183 2 (pc' := 4) (ls' := [some (.ref 140), some (.int (b2i v1)), some (.int v2)]) (st' := [.int (S.1 140 0)]) (S' := S) rfl ?_
  refine go_if0 mm_183 rfl (p1 := 7) (p2 := 16) rfl (fun (hc1 : (S.1 140 0) = 0) => ?_) (fun (hc1 : ¬ (S.1 140 0) = 0) => ?_)
  · rw [if_pos hc1] at hr
    refine go_run mm_183 1 (pc' := 8) (ls' := [some (.ref 140), some (.int (b2i v1)), some (.int v2)]) (st' := [.int (b2i v1)]) (S' := S) rfl ?_
    refine go_ifb mm_183 rfl (p1 := 11) (p2 := 16) rfl (fun (hc2 : v1 = true) => ?_) (fun (hc2 : v1 = false) => ?_)
    · rw [if_pos hc2] at hr
      refine go_run mm_183 5 (pc' := 20) (ls' := [some (.ref 140), some (.int (b2i v1)), some (.int v2)]) (st' := [.int v2]) (S' := (wI S 140 0 v2)) rfl ?_
      have j4 : Go XM d 183 0 28 [some (.ref 140), some (.int (b2i v1)), some (.int v2)] [.int (b2i (!(decide (v2 = 0))))] (wI S 140 0 v2) (RV (vZ r.1) r.2) := by
        cases hr
        exact go_zreturn mm_183 rfl rfl (b2i_01 _) ⟨rfl, rfl, rfl⟩
      refine go_if0 mm_183 rfl (p1 := 27) (p2 := 23) rfl (fun (hc3 : v2 = 0) => ?_) (fun (hc3 : ¬ v2 = 0) => ?_)
      · refine go_run mm_183 1 (pc' := 28) (ls' := [some (.ref 140), some (.int (b2i v1)), some (.int v2)]) (st' := [.int 0]) (S' := (wI S 140 0 v2)) rfl ?_
        have e : ((b2i (!(decide (v2 = 0)))) : Int32) = 0 := by simp [b2i, hc3]
        rw [e] at j4
        exact j4
      · refine go_run mm_183 2 (pc' := 28) (ls' := [some (.ref 140), some (.int (b2i v1)), some (.int v2)]) (st' := [.int 1]) (S' := (wI S 140 0 v2)) rfl ?_
        have e : ((b2i (!(decide (v2 = 0)))) : Int32) = 1 := by simp [b2i, hc3]
        rw [e] at j4
        exact j4
    · rw [if_neg (bf hc2)] at hr
      refine go_run mm_183 2 (pc' := 20) (ls' := [some (.ref 140), some (.int (b2i v1)), some (.int v2)]) (st' := [.int (S.1 140 0)]) (S' := S) rfl ?_
      have j6 : Go XM d 183 0 28 [some (.ref 140), some (.int (b2i v1)), some (.int v2)] [.int (b2i (!(decide ((S.1 140 0) = 0))))] S (RV (vZ r.1) r.2) := by
        cases hr
        exact go_zreturn mm_183 rfl rfl (b2i_01 _) ⟨rfl, rfl, rfl⟩
      refine go_if0 mm_183 rfl (p1 := 27) (p2 := 23) rfl (fun (hc5 : (S.1 140 0) = 0) => ?_) (fun (hc5 : ¬ (S.1 140 0) = 0) => ?_)
      · refine go_run mm_183 1 (pc' := 28) (ls' := [some (.ref 140), some (.int (b2i v1)), some (.int v2)]) (st' := [.int 0]) (S' := S) rfl ?_
        have e : ((b2i (!(decide ((S.1 140 0) = 0)))) : Int32) = 0 := by simp [b2i, hc5]
        rw [e] at j6
        exact j6
      · refine go_run mm_183 2 (pc' := 28) (ls' := [some (.ref 140), some (.int (b2i v1)), some (.int v2)]) (st' := [.int 1]) (S' := S) rfl ?_
        have e : ((b2i (!(decide ((S.1 140 0) = 0)))) : Int32) = 1 := by simp [b2i, hc5]
        rw [e] at j6
        exact j6
  · rw [if_neg hc1] at hr
    refine go_run mm_183 2 (pc' := 20) (ls' := [some (.ref 140), some (.int (b2i v1)), some (.int v2)]) (st' := [.int (S.1 140 0)]) (S' := S) rfl ?_
    have j8 : Go XM d 183 0 28 [some (.ref 140), some (.int (b2i v1)), some (.int v2)] [.int (b2i (!(decide ((S.1 140 0) = 0))))] S (RV (vZ r.1) r.2) := by
      cases hr
      exact go_zreturn mm_183 rfl rfl (b2i_01 _) ⟨rfl, rfl, rfl⟩
    refine go_if0 mm_183 rfl (p1 := 27) (p2 := 23) rfl (fun (hc7 : (S.1 140 0) = 0) => ?_) (fun (hc7 : ¬ (S.1 140 0) = 0) => ?_)
    · refine go_run mm_183 1 (pc' := 28) (ls' := [some (.ref 140), some (.int (b2i v1)), some (.int v2)]) (st' := [.int 0]) (S' := S) rfl ?_
      have e : ((b2i (!(decide ((S.1 140 0) = 0)))) : Int32) = 0 := by simp [b2i, hc7]
      rw [e] at j8
      exact j8
    · refine go_run mm_183 2 (pc' := 28) (ls' := [some (.ref 140), some (.int (b2i v1)), some (.int v2)]) (st' := [.int 1]) (S' := S) rfl ?_
      have e : ((b2i (!(decide ((S.1 140 0) = 0)))) : Int32) = 1 := by simp [b2i, hc7]
      rw [e] at j8
      exact j8

noncomputable def F_184 (S : ST) : Option (Bool × ST) := ob (F_183 (decide ((S.1 140 1) = 0)) 1 (wI S 140 0 0)) (fun w1 => some (w1.1, w1.2))
set_option maxRecDepth 20000 in
theorem S_184 {d : Nat} {S : ST} {r} (hr : F_184 S = some r) : Cal XM (d + 1) 184 [.ref 140] S (RV (vZ r.1) r.2) := by
  unfold F_184 at hr
  refine cal_go 0 rfl ?_
  refine go_run mm_184 6 (pc' := 10) (ls' := [some (.ref 140)]) (st' := [.int (S.1 140 1), .ref 140]) (S' := (wI S 140 0 0)) rfl ?_
  have j2 : Go XM (d + 1) 184 0 18 [some (.ref 140)] [.int (b2i (decide ((S.1 140 1) = 0))), .ref 140] (wI S 140 0 0) (RV (vZ r.1) r.2) := by
    refine go_run mm_184 1 (pc' := 19) (ls' := [some (.ref 140)]) (st' := [.int 1, .int (b2i (decide ((S.1 140 1) = 0))), .ref 140]) (S' := (wI S 140 0 0)) rfl ?_
    obtain ⟨w1, hw1, hr⟩ := ob_some hr
    refine go_cv mm_184 (h := 140) (As := [.int (b2i (decide ((S.1 140 1) = 0))), .int 1]) (rest := []) (nl := 3) rfl rfl (show cvOK 184 19 86 183 2 3 11 = true by decide +kernel) rfl rfl rfl (S_183 hw1) (KP_V ?_)
    show Go XM (d + 1) 184 0 22 [some (.ref 140)] [.int (b2i w1.1)] w1.2 (RV (vZ r.1) r.2)
    cases hr
    exact go_zreturn mm_184 rfl rfl (b2i_01 _) ⟨rfl, rfl, rfl⟩
  refine go_if0 mm_184 rfl (p1 := 13) (p2 := 17) rfl (fun (hc1 : (S.1 140 1) = 0) => ?_) (fun (hc1 : ¬ (S.1 140 1) = 0) => ?_)
  · refine go_run mm_184 2 (pc' := 18) (ls' := [some (.ref 140)]) (st' := [.int 1, .ref 140]) (S' := (wI S 140 0 0)) rfl ?_
    have e : ((b2i (decide ((S.1 140 1) = 0))) : Int32) = 1 := by simp [b2i, hc1]
    rw [e] at j2
    exact j2
  · refine go_run mm_184 1 (pc' := 18) (ls' := [some (.ref 140)]) (st' := [.int 0, .ref 140]) (S' := (wI S 140 0 0)) rfl ?_
    have e : ((b2i (decide ((S.1 140 1) = 0))) : Int32) = 0 := by simp [b2i, hc1]
    rw [e] at j2
    exact j2

noncomputable def Lm_185_23 (v1 : Int32) (v2 : Int32) (v3 : Int32) (v4 : Int32) (v5 : Int32) (a23 : Int32 × ST) : Option ((Int32 × ST) ⊕ (Int32 × ST)) := if a23.1 < 20 then (ck (ibd ((a23.2.1 140 7) + a23.1) 600) (sbn ((wI a23.2 144 (Int32.toNatClampNeg ((a23.2.1 140 7) + a23.1)) (((if a23.1 < 4 then v1 else (if a23.1 < 8 then v2 else (if a23.1 < 12 then v3 else (if a23.1 < 16 then v4 else v5)))) >>> ((24 - (8 * (a23.1 - a23.1 / 4 * 4))) &&& 31)) &&& 255))) (fun s11 => some (.inl (a23.1 + 1, s11))))) else (some (.inr (a23.1, a23.2)))
set_option maxRecDepth 20000 in
theorem LSm_185_23 {d : Nat} {R : RT} {v1 : Int32} {v2 : Int32} {v3 : Int32} {v4 : Int32} {v5 : Int32} {a23 : Int32 × ST} {r9} (hr : Lm_185_23 v1 v2 v3 v4 v5 a23 = some r9) (hL : ∀ a9, r9 = .inl a9 → (fun a23 => Go XM d 185 0 23 [some (.ref 140), some (.int v1), some (.int v2), some (.int v3), some (.int v4), some (.int v5), some (.int a23.1), none] [] a23.2 R) a9) (hR : ∀ b9, r9 = .inr b9 → (fun e23 => Go XM d 185 0 113 [some (.ref 140), some (.int v1), some (.int v2), some (.int v3), some (.int v4), some (.int v5), some (.int e23.1), none] [] e23.2 R) b9) : Go XM d 185 0 23 [some (.ref 140), some (.int v1), some (.int v2), some (.int v3), some (.int v4), some (.int v5), some (.int a23.1), none] [] a23.2 R := by
  unfold Lm_185_23 at hr
  refine go_run mm_185 2 (pc' := 27) (ls' := [some (.ref 140), some (.int v1), some (.int v2), some (.int v3), some (.int v4), some (.int v5), some (.int a23.1), none]) (st' := [.int 20, .int a23.1]) (S' := a23.2) rfl ?_
  refine go_if2 mm_185 rfl (p1 := 30) (p2 := 113) rfl (fun (hc2 : a23.1 < 20) => ?_) (fun (hc2 : ¬ a23.1 < 20) => ?_)
  · rw [if_pos hc2] at hr
    refine go_run mm_185 2 (pc' := 33) (ls' := [some (.ref 140), some (.int v1), some (.int v2), some (.int v3), some (.int v4), some (.int v5), some (.int a23.1), none]) (st' := [.int 4, .int a23.1]) (S' := a23.2) rfl ?_
    have j12 : Go XM d 185 0 76 [some (.ref 140), some (.int v1), some (.int v2), some (.int v3), some (.int v4), some (.int v5), some (.int a23.1), none] [.int (if a23.1 < 4 then v1 else (if a23.1 < 8 then v2 else (if a23.1 < 12 then v3 else (if a23.1 < 16 then v4 else v5))))] a23.2 R := by
      refine go_run mm_185 18 (pc' := 106) (ls' := [some (.ref 140), some (.int v1), some (.int v2), some (.int v3), some (.int v4), some (.int v5), some (.int a23.1), some (.int (if a23.1 < 4 then v1 else (if a23.1 < 8 then v2 else (if a23.1 < 12 then v3 else (if a23.1 < 16 then v4 else v5)))))]) (st' := [.int (((if a23.1 < 4 then v1 else (if a23.1 < 8 then v2 else (if a23.1 < 12 then v3 else (if a23.1 < 16 then v4 else v5)))) >>> ((24 - (8 * (a23.1 - a23.1 / 4 * 4))) &&& 31)) &&& 255), .int ((a23.2.1 140 7) + a23.1), .ref 144]) (S' := a23.2) rfl ?_
      obtain ⟨hb10, hr⟩ := ck_some hr
      refine go_iastore mm_185 (q := (Int32.toNatClampNeg ((a23.2.1 140 7) + a23.1))) rfl rfl rfl (ibd_ok hb10) ?_
      show Go XM d 185 0 107 [some (.ref 140), some (.int v1), some (.int v2), some (.int v3), some (.int v4), some (.int v5), some (.int a23.1), some (.int (if a23.1 < 4 then v1 else (if a23.1 < 8 then v2 else (if a23.1 < 12 then v3 else (if a23.1 < 16 then v4 else v5)))))] [] (wI a23.2 144 (Int32.toNatClampNeg ((a23.2.1 140 7) + a23.1)) (((if a23.1 < 4 then v1 else (if a23.1 < 8 then v2 else (if a23.1 < 12 then v3 else (if a23.1 < 16 then v4 else v5)))) >>> ((24 - (8 * (a23.1 - a23.1 / 4 * 4))) &&& 31)) &&& 255)) R
      obtain ⟨s11, es11, hr⟩ := sbn_some hr
      rw [← es11]
      refine go_run mm_185 2 (pc' := 23) (ls' := [some (.ref 140), some (.int v1), some (.int v2), some (.int v3), some (.int v4), some (.int v5), some (.int (a23.1 + 1)), some (.int (if a23.1 < 4 then v1 else (if a23.1 < 8 then v2 else (if a23.1 < 12 then v3 else (if a23.1 < 16 then v4 else v5)))))]) (st' := []) (S' := s11) rfl ?_
      cases hr
      have h9 := hL (a23.1 + 1, s11) rfl
      dsimp only at h9
      exact Go.le h9 (by repeat first | exact True.intro | refine And.intro rfl ?_)
    refine go_if2 mm_185 rfl (p1 := 36) (p2 := 40) rfl (fun (hc3 : a23.1 < 4) => ?_) (fun (hc3 : ¬ a23.1 < 4) => ?_)
    · refine go_run mm_185 2 (pc' := 76) (ls' := [some (.ref 140), some (.int v1), some (.int v2), some (.int v3), some (.int v4), some (.int v5), some (.int a23.1), none]) (st' := [.int v1]) (S' := a23.2) rfl ?_
      have e : ((if a23.1 < 4 then v1 else (if a23.1 < 8 then v2 else (if a23.1 < 12 then v3 else (if a23.1 < 16 then v4 else v5)))) : Int32) = v1 := by simp [b2i, hc3]
      rw [e] at j12
      exact j12
    · refine go_run mm_185 2 (pc' := 44) (ls' := [some (.ref 140), some (.int v1), some (.int v2), some (.int v3), some (.int v4), some (.int v5), some (.int a23.1), none]) (st' := [.int 8, .int a23.1]) (S' := a23.2) rfl ?_
      have j9 : Go XM d 185 0 76 [some (.ref 140), some (.int v1), some (.int v2), some (.int v3), some (.int v4), some (.int v5), some (.int a23.1), none] [.int (if a23.1 < 8 then v2 else (if a23.1 < 12 then v3 else (if a23.1 < 16 then v4 else v5)))] a23.2 R := by
        have e : ((if a23.1 < 4 then v1 else (if a23.1 < 8 then v2 else (if a23.1 < 12 then v3 else (if a23.1 < 16 then v4 else v5)))) : Int32) = (if a23.1 < 8 then v2 else (if a23.1 < 12 then v3 else (if a23.1 < 16 then v4 else v5))) := by simp [b2i, hc3]
        rw [e] at j12
        exact j12
      refine go_if2 mm_185 rfl (p1 := 47) (p2 := 51) rfl (fun (hc4 : a23.1 < 8) => ?_) (fun (hc4 : ¬ a23.1 < 8) => ?_)
      · refine go_run mm_185 2 (pc' := 76) (ls' := [some (.ref 140), some (.int v1), some (.int v2), some (.int v3), some (.int v4), some (.int v5), some (.int a23.1), none]) (st' := [.int v2]) (S' := a23.2) rfl ?_
        have e : ((if a23.1 < 8 then v2 else (if a23.1 < 12 then v3 else (if a23.1 < 16 then v4 else v5))) : Int32) = v2 := by simp [b2i, hc4]
        rw [e] at j9
        exact j9
      · refine go_run mm_185 2 (pc' := 55) (ls' := [some (.ref 140), some (.int v1), some (.int v2), some (.int v3), some (.int v4), some (.int v5), some (.int a23.1), none]) (st' := [.int 12, .int a23.1]) (S' := a23.2) rfl ?_
        have j8 : Go XM d 185 0 76 [some (.ref 140), some (.int v1), some (.int v2), some (.int v3), some (.int v4), some (.int v5), some (.int a23.1), none] [.int (if a23.1 < 12 then v3 else (if a23.1 < 16 then v4 else v5))] a23.2 R := by
          have e : ((if a23.1 < 8 then v2 else (if a23.1 < 12 then v3 else (if a23.1 < 16 then v4 else v5))) : Int32) = (if a23.1 < 12 then v3 else (if a23.1 < 16 then v4 else v5)) := by simp [b2i, hc4]
          rw [e] at j9
          exact j9
        refine go_if2 mm_185 rfl (p1 := 58) (p2 := 62) rfl (fun (hc5 : a23.1 < 12) => ?_) (fun (hc5 : ¬ a23.1 < 12) => ?_)
        · refine go_run mm_185 2 (pc' := 76) (ls' := [some (.ref 140), some (.int v1), some (.int v2), some (.int v3), some (.int v4), some (.int v5), some (.int a23.1), none]) (st' := [.int v3]) (S' := a23.2) rfl ?_
          have e : ((if a23.1 < 12 then v3 else (if a23.1 < 16 then v4 else v5)) : Int32) = v3 := by simp [b2i, hc5]
          rw [e] at j8
          exact j8
        · refine go_run mm_185 2 (pc' := 66) (ls' := [some (.ref 140), some (.int v1), some (.int v2), some (.int v3), some (.int v4), some (.int v5), some (.int a23.1), none]) (st' := [.int 16, .int a23.1]) (S' := a23.2) rfl ?_
          have j7 : Go XM d 185 0 76 [some (.ref 140), some (.int v1), some (.int v2), some (.int v3), some (.int v4), some (.int v5), some (.int a23.1), none] [.int (if a23.1 < 16 then v4 else v5)] a23.2 R := by
            have e : ((if a23.1 < 12 then v3 else (if a23.1 < 16 then v4 else v5)) : Int32) = (if a23.1 < 16 then v4 else v5) := by simp [b2i, hc5]
            rw [e] at j8
            exact j8
          refine go_if2 mm_185 rfl (p1 := 69) (p2 := 74) rfl (fun (hc6 : a23.1 < 16) => ?_) (fun (hc6 : ¬ a23.1 < 16) => ?_)
          · refine go_run mm_185 2 (pc' := 76) (ls' := [some (.ref 140), some (.int v1), some (.int v2), some (.int v3), some (.int v4), some (.int v5), some (.int a23.1), none]) (st' := [.int v4]) (S' := a23.2) rfl ?_
            have e : ((if a23.1 < 16 then v4 else v5) : Int32) = v4 := by simp [b2i, hc6]
            rw [e] at j7
            exact j7
          · refine go_run mm_185 1 (pc' := 76) (ls' := [some (.ref 140), some (.int v1), some (.int v2), some (.int v3), some (.int v4), some (.int v5), some (.int a23.1), none]) (st' := [.int v5]) (S' := a23.2) rfl ?_
            have e : ((if a23.1 < 16 then v4 else v5) : Int32) = v5 := by simp [b2i, hc6]
            rw [e] at j7
            exact j7
  · rw [if_neg hc2] at hr
    cases hr
    have h9 := hR (a23.1, a23.2) rfl
    dsimp only [Sum.elim_inl] at h9
    exact Go.le h9 (by repeat first | exact True.intro | refine And.intro rfl ?_)
noncomputable def F_185 (v1 : Int32) (v2 : Int32) (v3 : Int32) (v4 : Int32) (v5 : Int32) (S : ST) : Option (Int32 × ST) := if (600 : Int32) < ((S.1 140 7) + 20) then (some ((-1), (wI S 140 0 0))) else (ob (wh FU (Lm_185_23 v1 v2 v3 v4 v5) (0, (wI S 140 0 0))) (fun e23 => some ((e23.2.1 140 7) + 20, (wI e23.2 140 7 ((e23.2.1 140 7) + 20)))))
set_option maxRecDepth 20000 in
theorem S_185 {d : Nat} {S : ST} {v1 : Int32} {v2 : Int32} {v3 : Int32} {v4 : Int32} {v5 : Int32} {r} (hr : F_185 v1 v2 v3 v4 v5 S = some r) : Cal XM d 185 [.ref 140, .int v1, .int v2, .int v3, .int v4, .int v5] S (RV (vI r.1) r.2) := by
  unfold F_185 at hr
  refine cal_go 2 rfl ?_
  refine go_run mm_185 8 (pc' := 15) (ls' := [some (.ref 140), some (.int v1), some (.int v2), some (.int v3), some (.int v4), some (.int v5), none, none]) (st' := [.int 600, .int ((S.1 140 7) + 20)]) (S' := (wI S 140 0 0)) rfl ?_
  refine go_if2 mm_185 rfl (p1 := 18) (p2 := 20) rfl (fun (hc1 : (600 : Int32) < ((S.1 140 7) + 20)) => ?_) (fun (hc1 : ¬ (600 : Int32) < ((S.1 140 7) + 20)) => ?_)
  · rw [if_pos hc1] at hr
    refine go_run mm_185 1 (pc' := 19) (ls' := [some (.ref 140), some (.int v1), some (.int v2), some (.int v3), some (.int v4), some (.int v5), none, none]) (st' := [.int (-1)]) (S' := (wI S 140 0 0)) rfl ?_
    cases hr
    exact go_ireturn mm_185 rfl rfl ⟨rfl, rfl, rfl⟩
  · rw [if_neg hc1] at hr
    refine go_run mm_185 2 (pc' := 23) (ls' := [some (.ref 140), some (.int v1), some (.int v2), some (.int v3), some (.int v4), some (.int v5), some (.int 0), none]) (st' := []) (S' := (wI S 140 0 0)) rfl ?_
    obtain ⟨z23, he23, hr⟩ := ob_some hr
    refine Go.le (ls' := [some (.ref 140), some (.int v1), some (.int v2), some (.int v3), some (.int v4), some (.int v5), some (.int 0), none]) ?_ (by repeat first | exact True.intro | refine And.intro rfl ?_)
    refine wh_go (P := fun a23 => Go XM d 185 0 23 [some (.ref 140), some (.int v1), some (.int v2), some (.int v3), some (.int v4), some (.int v5), some (.int a23.1), none] [] a23.2 (RV (vI r.1) r.2)) (K := fun e23 => Go XM d 185 0 113 [some (.ref 140), some (.int v1), some (.int v2), some (.int v3), some (.int v4), some (.int v5), some (.int e23.1), none] [] e23.2 (RV (vI r.1) r.2)) (fun a9 r9 h9 hL hR => LSm_185_23 h9 hL hR) _ _ _ he23 ?_
    generalize z23 = e23 at hr
    show Go XM d 185 0 113 [some (.ref 140), some (.int v1), some (.int v2), some (.int v3), some (.int v4), some (.int v5), some (.int e23.1), none] [] e23.2 (RV (vI r.1) r.2)
    refine go_run mm_185 8 (pc' := 128) (ls' := [some (.ref 140), some (.int v1), some (.int v2), some (.int v3), some (.int v4), some (.int v5), some (.int e23.1), none]) (st' := [.int ((e23.2.1 140 7) + 20)]) (S' := (wI e23.2 140 7 ((e23.2.1 140 7) + 20))) rfl ?_
    cases hr
    exact go_ireturn mm_185 rfl rfl ⟨rfl, rfl, rfl⟩

noncomputable def F_186 (S : ST) : Option (Int32 × ST) := some (S.1 140 7, (wI S 140 0 0))
set_option maxRecDepth 20000 in
theorem S_186 {d : Nat} {S : ST} {r} (hr : F_186 S = some r) : Cal XM d 186 [.ref 140] S (RV (vI r.1) r.2) := by
  unfold F_186 at hr
  refine cal_go 0 rfl ?_
  refine go_run mm_186 5 (pc' := 9) (ls' := [some (.ref 140)]) (st' := [.int (S.1 140 7)]) (S' := (wI S 140 0 0)) rfl ?_
  cases hr
  exact go_ireturn mm_186 rfl rfl ⟨rfl, rfl, rfl⟩

noncomputable def F_187 (S : ST) : Option (Int32 × ST) := some (S.1 140 8, (wI S 140 0 0))
set_option maxRecDepth 20000 in
theorem S_187 {d : Nat} {S : ST} {r} (hr : F_187 S = some r) : Cal XM d 187 [.ref 140] S (RV (vI r.1) r.2) := by
  unfold F_187 at hr
  refine cal_go 0 rfl ?_
  refine go_run mm_187 5 (pc' := 9) (ls' := [some (.ref 140)]) (st' := [.int (S.1 140 8)]) (S' := (wI S 140 0 0)) rfl ?_
  cases hr
  exact go_ireturn mm_187 rfl rfl ⟨rfl, rfl, rfl⟩

noncomputable def F_188 (S : ST) : Option (Int32 × ST) := some (S.1 140 9, (wI S 140 0 0))
set_option maxRecDepth 20000 in
theorem S_188 {d : Nat} {S : ST} {r} (hr : F_188 S = some r) : Cal XM d 188 [.ref 140] S (RV (vI r.1) r.2) := by
  unfold F_188 at hr
  refine cal_go 0 rfl ?_
  refine go_run mm_188 5 (pc' := 9) (ls' := [some (.ref 140)]) (st' := [.int (S.1 140 9)]) (S' := (wI S 140 0 0)) rfl ?_
  cases hr
  exact go_ireturn mm_188 rfl rfl ⟨rfl, rfl, rfl⟩

noncomputable def F_189 (v1 : Int32) (S : ST) : Option Int32 := if v1 < (S.1 140 10) then (ck (ibd v1 600) (some (S.1 144 (Int32.toNatClampNeg v1)))) else (some (-1))
set_option maxRecDepth 20000 in
theorem S_189 {d : Nat} {S : ST} {v1 : Int32} {r} (hr : F_189 v1 S = some r) : Cal XM d 189 [.ref 140, .int v1] S (RV (vI r) S) := by
  unfold F_189 at hr
  refine cal_go 0 rfl ?_
  refine go_run mm_189 3 (pc' := 5) (ls' := [some (.ref 140), some (.int v1)]) (st' := [.int (S.1 140 10), .int v1]) (S' := S) rfl ?_
  refine go_if2 mm_189 rfl (p1 := 8) (p2 := 17) rfl (fun (hc1 : v1 < (S.1 140 10)) => ?_) (fun (hc1 : ¬ v1 < (S.1 140 10)) => ?_)
  · rw [if_pos hc1] at hr
    refine go_run mm_189 3 (pc' := 13) (ls' := [some (.ref 140), some (.int v1)]) (st' := [.int v1, .ref 144]) (S' := S) rfl ?_
    obtain ⟨hb2, hr⟩ := ck_some hr
    refine go_iaload mm_189 (q := (Int32.toNatClampNeg v1)) rfl rfl rfl (ibd_ok hb2) ?_
    show Go XM d 189 0 14 [some (.ref 140), some (.int v1)] [.int (S.1 144 (Int32.toNatClampNeg v1))] S (RV (vI r) S)
    refine go_run mm_189 1 (pc' := 18) (ls' := [some (.ref 140), some (.int v1)]) (st' := [.int (S.1 144 (Int32.toNatClampNeg v1))]) (S' := S) rfl ?_
    cases hr
    exact go_ireturn mm_189 rfl rfl ⟨rfl, rfl, rfl⟩
  · rw [if_neg hc1] at hr
    refine go_run mm_189 1 (pc' := 18) (ls' := [some (.ref 140), some (.int v1)]) (st' := [.int (-1)]) (S' := S) rfl ?_
    cases hr
    exact go_ireturn mm_189 rfl rfl ⟨rfl, rfl, rfl⟩

noncomputable def F_190 (v0 : Int32) : Bool := (!(decide (v0 < 97)) && (!(decide ((122 : Int32) < v0))))
set_option maxRecDepth 20000 in
theorem S_190 {d : Nat} {S : ST} {v0 : Int32} {r} (hr : F_190 v0 = r) : Cal XM d 190 [.int v0] S (RV (vZ r) S) := by
  unfold F_190 at hr
  refine cal_go 0 rfl ?_
  refine go_run mm_190 2 (pc' := 3) (ls' := [some (.int v0)]) (st' := [.int 97, .int v0]) (S' := S) rfl ?_
  have j4 : Go XM d 190 0 17 [some (.int v0)] [.int (b2i (!(decide (v0 < 97)) && (!(decide ((122 : Int32) < v0)))))] S (RV (vZ r) S) := by
    cases hr
    exact go_zreturn mm_190 rfl rfl (b2i_01 _) ⟨rfl, rfl, rfl⟩
  refine go_if2 mm_190 rfl (p1 := 16) (p2 := 6) rfl (fun (hc1 : v0 < 97) => ?_) (fun (hc1 : ¬ v0 < 97) => ?_)
  · refine go_run mm_190 1 (pc' := 17) (ls' := [some (.int v0)]) (st' := [.int 0]) (S' := S) rfl ?_
    have e : ((b2i (!(decide (v0 < 97)) && (!(decide ((122 : Int32) < v0))))) : Int32) = 0 := by simp [b2i, hc1]
    rw [e] at j4
    exact j4
  · refine go_run mm_190 2 (pc' := 9) (ls' := [some (.int v0)]) (st' := [.int 122, .int v0]) (S' := S) rfl ?_
    have j3 : Go XM d 190 0 17 [some (.int v0)] [.int (b2i (!(decide ((122 : Int32) < v0))))] S (RV (vZ r) S) := by
      have e : ((b2i (!(decide (v0 < 97)) && (!(decide ((122 : Int32) < v0))))) : Int32) = (b2i (!(decide ((122 : Int32) < v0)))) := by simp [b2i, hc1]
      rw [e] at j4
      exact j4
    refine go_if2 mm_190 rfl (p1 := 16) (p2 := 12) rfl (fun (hc2 : (122 : Int32) < v0) => ?_) (fun (hc2 : ¬ (122 : Int32) < v0) => ?_)
    · refine go_run mm_190 1 (pc' := 17) (ls' := [some (.int v0)]) (st' := [.int 0]) (S' := S) rfl ?_
      have e : ((b2i (!(decide ((122 : Int32) < v0)))) : Int32) = 0 := by simp [b2i, hc2]
      rw [e] at j3
      exact j3
    · refine go_run mm_190 2 (pc' := 17) (ls' := [some (.int v0)]) (st' := [.int 1]) (S' := S) rfl ?_
      have e : ((b2i (!(decide ((122 : Int32) < v0)))) : Int32) = 1 := by simp [b2i, hc2]
      rw [e] at j3
      exact j3

noncomputable def F_191 (v0 : Int32) : Bool := (!(decide (v0 < 48)) && (!(decide ((57 : Int32) < v0))))
set_option maxRecDepth 20000 in
theorem S_191 {d : Nat} {S : ST} {v0 : Int32} {r} (hr : F_191 v0 = r) : Cal XM d 191 [.int v0] S (RV (vZ r) S) := by
  unfold F_191 at hr
  refine cal_go 0 rfl ?_
  refine go_run mm_191 2 (pc' := 3) (ls' := [some (.int v0)]) (st' := [.int 48, .int v0]) (S' := S) rfl ?_
  have j4 : Go XM d 191 0 17 [some (.int v0)] [.int (b2i (!(decide (v0 < 48)) && (!(decide ((57 : Int32) < v0)))))] S (RV (vZ r) S) := by
    cases hr
    exact go_zreturn mm_191 rfl rfl (b2i_01 _) ⟨rfl, rfl, rfl⟩
  refine go_if2 mm_191 rfl (p1 := 16) (p2 := 6) rfl (fun (hc1 : v0 < 48) => ?_) (fun (hc1 : ¬ v0 < 48) => ?_)
  · refine go_run mm_191 1 (pc' := 17) (ls' := [some (.int v0)]) (st' := [.int 0]) (S' := S) rfl ?_
    have e : ((b2i (!(decide (v0 < 48)) && (!(decide ((57 : Int32) < v0))))) : Int32) = 0 := by simp [b2i, hc1]
    rw [e] at j4
    exact j4
  · refine go_run mm_191 2 (pc' := 9) (ls' := [some (.int v0)]) (st' := [.int 57, .int v0]) (S' := S) rfl ?_
    have j3 : Go XM d 191 0 17 [some (.int v0)] [.int (b2i (!(decide ((57 : Int32) < v0))))] S (RV (vZ r) S) := by
      have e : ((b2i (!(decide (v0 < 48)) && (!(decide ((57 : Int32) < v0))))) : Int32) = (b2i (!(decide ((57 : Int32) < v0)))) := by simp [b2i, hc1]
      rw [e] at j4
      exact j4
    refine go_if2 mm_191 rfl (p1 := 16) (p2 := 12) rfl (fun (hc2 : (57 : Int32) < v0) => ?_) (fun (hc2 : ¬ (57 : Int32) < v0) => ?_)
    · refine go_run mm_191 1 (pc' := 17) (ls' := [some (.int v0)]) (st' := [.int 0]) (S' := S) rfl ?_
      have e : ((b2i (!(decide ((57 : Int32) < v0)))) : Int32) = 0 := by simp [b2i, hc2]
      rw [e] at j3
      exact j3
    · refine go_run mm_191 2 (pc' := 17) (ls' := [some (.int v0)]) (st' := [.int 1]) (S' := S) rfl ?_
      have e : ((b2i (!(decide ((57 : Int32) < v0)))) : Int32) = 1 := by simp [b2i, hc2]
      rw [e] at j3
      exact j3

noncomputable def Lm_192_0 (a0 : ST) : Option ((ST) ⊕ (ST)) := ob (F_189 (a0.1 140 11) a0) (fun w1 => if w1 = 32 then (some (.inl ((wI a0 140 11 ((a0.1 140 11) + 1))))) else (some (.inr (a0))))
set_option maxRecDepth 20000 in
theorem LSm_192_0 {d : Nat} {R : RT} {a0 : ST} {r9} (hr : Lm_192_0 a0 = some r9) (hL : ∀ a9, r9 = .inl a9 → (fun a0 => Go XM (d + 1) 192 0 0 [some (.ref 140), none, none] [] a0 R) a9) (hR : ∀ b9, r9 = .inr b9 → (fun e0 => Go XM (d + 1) 192 0 26 [some (.ref 140), none, none] [] e0 R) b9) : Go XM (d + 1) 192 0 0 [some (.ref 140), none, none] [] a0 R := by
  unfold Lm_192_0 at hr
  refine go_run mm_192 3 (pc' := 5) (ls' := [some (.ref 140), none, none]) (st' := [.int (a0.1 140 11), .ref 140]) (S' := a0) rfl ?_
  obtain ⟨w1, hw1, hr⟩ := ob_some hr
  refine go_cv mm_192 (h := 140) (As := [.int (a0.1 140 11)]) (rest := []) (nl := 2) rfl rfl (show cvOK 192 5 102 189 1 2 11 = true by decide +kernel) rfl rfl rfl (S_189 hw1) (KP_V ?_)
  show Go XM (d + 1) 192 0 8 [some (.ref 140), none, none] [.int w1] a0 R
  refine go_run mm_192 1 (pc' := 10) (ls' := [some (.ref 140), none, none]) (st' := [.int 32, .int w1]) (S' := a0) rfl ?_
  refine go_if2 mm_192 rfl (p1 := 13) (p2 := 26) rfl (fun (hc1 : w1 = 32) => ?_) (fun (hc1 : ¬ w1 = 32) => ?_)
  · rw [if_pos hc1] at hr
    refine go_run mm_192 7 (pc' := 0) (ls' := [some (.ref 140), none, none]) (st' := []) (S' := (wI a0 140 11 ((a0.1 140 11) + 1))) rfl ?_
    cases hr
    have h9 := hL ((wI a0 140 11 ((a0.1 140 11) + 1))) rfl
    dsimp only at h9
    exact Go.le h9 (by repeat first | exact True.intro | refine And.intro rfl ?_)
  · rw [if_neg hc1] at hr
    cases hr
    have h9 := hR (a0) rfl
    dsimp only [Sum.elim_inl] at h9
    exact Go.le h9 (by repeat first | exact True.intro | refine And.intro rfl ?_)
noncomputable def Lm_192_68 (p68_1 : Int32) (a68 : ST) : Option ((ST) ⊕ (ST)) := ob (F_189 (a68.1 140 11) a68) (fun w3 => if (F_190 w3) = true then (if (a68.1 140 15) < 8 then (ob (F_189 (a68.1 140 11) a68) (fun w4 => ck (ibd (a68.1 140 15) 8) (sbn ((wI a68 145 (Int32.toNatClampNeg (a68.1 140 15)) w4)) (fun s7 => some (.inl ((wI (wI s7 140 15 ((s7.1 140 15) + 1)) 140 11 ((s7.1 140 11) + 1)))))))) else (some (.inl ((wI (wI a68 140 15 ((a68.1 140 15) + 1)) 140 11 ((a68.1 140 11) + 1)))))) else (some (.inr (a68))))
set_option maxRecDepth 20000 in
theorem LSm_192_68 {d : Nat} {R : RT} {p68_1 : Int32} {a68 : ST} {r9} (hr : Lm_192_68 p68_1 a68 = some r9) (hL : ∀ a9, r9 = .inl a9 → (fun a68 => Go XM (d + 1) 192 0 68 [some (.ref 140), some (.int p68_1), none] [] a68 R) a9) (hR : ∀ b9, r9 = .inr b9 → (fun e68 => Go XM (d + 1) 192 0 131 [some (.ref 140), some (.int p68_1), none] [] e68 R) b9) : Go XM (d + 1) 192 0 68 [some (.ref 140), some (.int p68_1), none] [] a68 R := by
  unfold Lm_192_68 at hr
  refine go_run mm_192 3 (pc' := 73) (ls' := [some (.ref 140), some (.int p68_1), none]) (st' := [.int (a68.1 140 11), .ref 140]) (S' := a68) rfl ?_
  obtain ⟨w3, hw3, hr⟩ := ob_some hr
  refine go_cv mm_192 (h := 140) (As := [.int (a68.1 140 11)]) (rest := []) (nl := 2) rfl rfl (show cvOK 192 73 102 189 1 2 11 = true by decide +kernel) rfl rfl rfl (S_189 hw3) (KP_V ?_)
  show Go XM (d + 1) 192 0 76 [some (.ref 140), some (.int p68_1), none] [.int w3] a68 R
  refine go_cs mm_192 (av := [.int w3]) (rest := []) (nl := 1) rfl (show csOK 192 76 112 190 1 1 = true by decide +kernel) rfl rfl rfl (S_190 rfl) (KP_V ?_)
  show Go XM (d + 1) 192 0 79 [some (.ref 140), some (.int p68_1), none] [.int (b2i (F_190 w3))] a68 R
  refine go_ifb mm_192 rfl (p1 := 82) (p2 := 131) rfl (fun (hc4 : (F_190 w3) = true) => ?_) (fun (hc4 : (F_190 w3) = false) => ?_)
  · rw [if_pos hc4] at hr
    refine go_run mm_192 3 (pc' := 88) (ls' := [some (.ref 140), some (.int p68_1), none]) (st' := [.int 8, .int (a68.1 140 15)]) (S' := a68) rfl ?_
    refine go_if2 mm_192 rfl (p1 := 91) (p2 := 108) rfl (fun (hc5 : (a68.1 140 15) < 8) => ?_) (fun (hc5 : ¬ (a68.1 140 15) < 8) => ?_)
    · rw [if_pos hc5] at hr
      refine go_run mm_192 7 (pc' := 104) (ls' := [some (.ref 140), some (.int p68_1), none]) (st' := [.int (a68.1 140 11), .ref 140, .int (a68.1 140 15), .ref 145]) (S' := a68) rfl ?_
      obtain ⟨w4, hw4, hr⟩ := ob_some hr
      refine go_cv mm_192 (h := 140) (As := [.int (a68.1 140 11)]) (rest := [.int (a68.1 140 15), .ref 145]) (nl := 2) rfl rfl (show cvOK 192 104 102 189 1 2 11 = true by decide +kernel) rfl rfl rfl (S_189 hw4) (KP_V ?_)
      show Go XM (d + 1) 192 0 107 [some (.ref 140), some (.int p68_1), none] [.int w4, .int (a68.1 140 15), .ref 145] a68 R
      obtain ⟨hb6, hr⟩ := ck_some hr
      refine go_iastore mm_192 (q := (Int32.toNatClampNeg (a68.1 140 15))) rfl rfl rfl (ibd_ok hb6) ?_
      show Go XM (d + 1) 192 0 108 [some (.ref 140), some (.int p68_1), none] [] (wI a68 145 (Int32.toNatClampNeg (a68.1 140 15)) w4) R
      obtain ⟨s7, es7, hr⟩ := sbn_some hr
      rw [← es7]
      refine go_run mm_192 13 (pc' := 68) (ls' := [some (.ref 140), some (.int p68_1), none]) (st' := []) (S' := (wI (wI s7 140 15 ((s7.1 140 15) + 1)) 140 11 ((s7.1 140 11) + 1))) rfl ?_
      cases hr
      have h9 := hL ((wI (wI s7 140 15 ((s7.1 140 15) + 1)) 140 11 ((s7.1 140 11) + 1))) rfl
      dsimp only at h9
      exact Go.le h9 (by repeat first | exact True.intro | refine And.intro rfl ?_)
    · rw [if_neg hc5] at hr
      refine go_run mm_192 13 (pc' := 68) (ls' := [some (.ref 140), some (.int p68_1), none]) (st' := []) (S' := (wI (wI a68 140 15 ((a68.1 140 15) + 1)) 140 11 ((a68.1 140 11) + 1))) rfl ?_
      cases hr
      have h9 := hL ((wI (wI a68 140 15 ((a68.1 140 15) + 1)) 140 11 ((a68.1 140 11) + 1))) rfl
      dsimp only at h9
      exact Go.le h9 (by repeat first | exact True.intro | refine And.intro rfl ?_)
  · rw [if_neg (bf hc4)] at hr
    cases hr
    have h9 := hR (a68) rfl
    dsimp only [Sum.elim_inl] at h9
    exact Go.le h9 (by repeat first | exact True.intro | refine And.intro rfl ?_)
noncomputable def Lm_192_166 (p166_1 : Int32) (a166 : Int32 × ST) : Option ((Int32 × ST) ⊕ (Int32 × ST)) := ob (F_189 (a166.2.1 140 11) a166.2) (fun w5 => if (F_191 w5) = true then (if a166.1 < 4 then (ob (F_189 (a166.2.1 140 11) a166.2) (fun w6 => some (.inl (a166.1 + 1, (wI (wI a166.2 140 16 (((10 * (a166.2.1 140 16)) + w6) - 48)) 140 11 ((a166.2.1 140 11) + 1)))))) else (some (.inl (a166.1 + 1, (wI (wI a166.2 140 16 0) 140 11 ((a166.2.1 140 11) + 1)))))) else (some (.inr (a166.1, a166.2))))
set_option maxRecDepth 20000 in
theorem LSm_192_166 {d : Nat} {R : RT} {p166_1 : Int32} {a166 : Int32 × ST} {r9} (hr : Lm_192_166 p166_1 a166 = some r9) (hL : ∀ a9, r9 = .inl a9 → (fun a166 => Go XM (d + 1) 192 0 166 [some (.ref 140), some (.int p166_1), some (.int a166.1)] [] a166.2 R) a9) (hR : ∀ b9, r9 = .inr b9 → (fun e166 => Go XM (d + 1) 192 0 228 [some (.ref 140), some (.int p166_1), some (.int e166.1)] [] e166.2 R) b9) : Go XM (d + 1) 192 0 166 [some (.ref 140), some (.int p166_1), some (.int a166.1)] [] a166.2 R := by
  unfold Lm_192_166 at hr
  refine go_run mm_192 3 (pc' := 171) (ls' := [some (.ref 140), some (.int p166_1), some (.int a166.1)]) (st' := [.int (a166.2.1 140 11), .ref 140]) (S' := a166.2) rfl ?_
  obtain ⟨w5, hw5, hr⟩ := ob_some hr
  refine go_cv mm_192 (h := 140) (As := [.int (a166.2.1 140 11)]) (rest := []) (nl := 2) rfl rfl (show cvOK 192 171 102 189 1 2 11 = true by decide +kernel) rfl rfl rfl (S_189 hw5) (KP_V ?_)
  show Go XM (d + 1) 192 0 174 [some (.ref 140), some (.int p166_1), some (.int a166.1)] [.int w5] a166.2 R
  refine go_cs mm_192 (av := [.int w5]) (rest := []) (nl := 1) rfl (show csOK 192 174 119 191 1 1 = true by decide +kernel) rfl rfl rfl (S_191 rfl) (KP_V ?_)
  show Go XM (d + 1) 192 0 177 [some (.ref 140), some (.int p166_1), some (.int a166.1)] [.int (b2i (F_191 w5))] a166.2 R
  refine go_ifb mm_192 rfl (p1 := 180) (p2 := 228) rfl (fun (hc11 : (F_191 w5) = true) => ?_) (fun (hc11 : (F_191 w5) = false) => ?_)
  · rw [if_pos hc11] at hr
    refine go_run mm_192 3 (pc' := 183) (ls' := [some (.ref 140), some (.int p166_1), some (.int a166.1)]) (st' := [.int 4, .int a166.1, .ref 140]) (S' := a166.2) rfl ?_
    refine go_if2 mm_192 rfl (p1 := 186) (p2 := 208) rfl (fun (hc12 : a166.1 < 4) => ?_) (fun (hc12 : ¬ a166.1 < 4) => ?_)
    · rw [if_pos hc12] at hr
      refine go_run mm_192 7 (pc' := 198) (ls' := [some (.ref 140), some (.int p166_1), some (.int a166.1)]) (st' := [.int (a166.2.1 140 11), .ref 140, .int (10 * (a166.2.1 140 16)), .ref 140]) (S' := a166.2) rfl ?_
      obtain ⟨w6, hw6, hr⟩ := ob_some hr
      refine go_cv mm_192 (h := 140) (As := [.int (a166.2.1 140 11)]) (rest := [.int (10 * (a166.2.1 140 16)), .ref 140]) (nl := 2) rfl rfl (show cvOK 192 198 102 189 1 2 11 = true by decide +kernel) rfl rfl rfl (S_189 hw6) (KP_V ?_)
      show Go XM (d + 1) 192 0 201 [some (.ref 140), some (.int p166_1), some (.int a166.1)] [.int w6, .int (10 * (a166.2.1 140 16)), .ref 140] a166.2 R
      refine go_run mm_192 13 (pc' := 166) (ls' := [some (.ref 140), some (.int p166_1), some (.int (a166.1 + 1))]) (st' := []) (S' := (wI (wI a166.2 140 16 (((10 * (a166.2.1 140 16)) + w6) - 48)) 140 11 ((a166.2.1 140 11) + 1))) rfl ?_
      cases hr
      have h9 := hL (a166.1 + 1, (wI (wI a166.2 140 16 (((10 * (a166.2.1 140 16)) + w6) - 48)) 140 11 ((a166.2.1 140 11) + 1))) rfl
      dsimp only at h9
      exact Go.le h9 (by repeat first | exact True.intro | refine And.intro rfl ?_)
    · rw [if_neg hc12] at hr
      refine go_run mm_192 10 (pc' := 166) (ls' := [some (.ref 140), some (.int p166_1), some (.int (a166.1 + 1))]) (st' := []) (S' := (wI (wI a166.2 140 16 0) 140 11 ((a166.2.1 140 11) + 1))) rfl ?_
      cases hr
      have h9 := hL (a166.1 + 1, (wI (wI a166.2 140 16 0) 140 11 ((a166.2.1 140 11) + 1))) rfl
      dsimp only at h9
      exact Go.le h9 (by repeat first | exact True.intro | refine And.intro rfl ?_)
  · rw [if_neg (bf hc11)] at hr
    cases hr
    have h9 := hR (a166.1, a166.2) rfl
    dsimp only [Sum.elim_inl] at h9
    exact Go.le h9 (by repeat first | exact True.intro | refine And.intro rfl ?_)
noncomputable def F_192 (S : ST) : Option (Unit × ST) := ob (wh FU (Lm_192_0) (S)) (fun e0 => ob (F_189 (e0.1 140 11) (wI e0 140 12 (e0.1 140 11))) (fun w2 => if w2 = (-1) then (some ((), (wI (wI e0 140 12 (e0.1 140 11)) 140 13 0))) else (if (F_190 w2) = true then (ob (wh FU (Lm_192_68 w2) ((wI (wI e0 140 12 (e0.1 140 11)) 140 15 0))) (fun e68 => some ((), (wI e68 140 13 (if (8 : Int32) < (e68.1 140 15) then 4 else 1))))) else (if (F_191 w2) = true then (ob (wh FU (Lm_192_166 w2) (0, (wI (wI e0 140 12 (e0.1 140 11)) 140 16 0))) (fun e166 => some ((), (wI e166.2 140 13 (if (4 : Int32) < e166.1 then 4 else 2))))) else (some ((), (wI (wI (wI e0 140 12 (e0.1 140 11)) 140 13 (if w2 = 59 then 3 else 4)) 140 11 ((e0.1 140 11) + 1))))))))
set_option maxRecDepth 20000 in
theorem S_192 {d : Nat} {S : ST} {r} (hr : F_192 S = some r) : Cal XM (d + 1) 192 [.ref 140] S (RV (vU r.1) r.2) := by
  unfold F_192 at hr
  refine cal_go 2 rfl ?_
  obtain ⟨z0, he0, hr⟩ := ob_some hr
  refine Go.le (ls' := [some (.ref 140), none, none]) ?_ (by repeat first | exact True.intro | refine And.intro rfl ?_)
  refine wh_go (P := fun a0 => Go XM (d + 1) 192 0 0 [some (.ref 140), none, none] [] a0 (RV (vU r.1) r.2)) (K := fun e0 => Go XM (d + 1) 192 0 26 [some (.ref 140), none, none] [] e0 (RV (vU r.1) r.2)) (fun a9 r9 h9 hL hR => LSm_192_0 h9 hL hR) _ _ _ he0 ?_
  generalize z0 = e0 at hr
  show Go XM (d + 1) 192 0 26 [some (.ref 140), none, none] [] e0 (RV (vU r.1) r.2)
  refine go_run mm_192 7 (pc' := 39) (ls' := [some (.ref 140), none, none]) (st' := [.int (e0.1 140 11), .ref 140]) (S' := (wI e0 140 12 (e0.1 140 11))) rfl ?_
  obtain ⟨w2, hw2, hr⟩ := ob_some hr
  refine go_cv mm_192 (h := 140) (As := [.int (e0.1 140 11)]) (rest := []) (nl := 2) rfl rfl (show cvOK 192 39 102 189 1 2 11 = true by decide +kernel) rfl rfl rfl (S_189 hw2) (KP_V ?_)
  show Go XM (d + 1) 192 0 42 [some (.ref 140), none, none] [.int w2] (wI e0 140 12 (e0.1 140 11)) (RV (vU r.1) r.2)
  refine go_run mm_192 3 (pc' := 45) (ls' := [some (.ref 140), some (.int w2), none]) (st' := [.int (-1), .int w2]) (S' := (wI e0 140 12 (e0.1 140 11))) rfl ?_
  refine go_if2 mm_192 rfl (p1 := 48) (p2 := 56) rfl (fun (hc2 : w2 = (-1)) => ?_) (fun (hc2 : ¬ w2 = (-1)) => ?_)
  · rw [if_pos hc2] at hr
    refine go_run mm_192 4 (pc' := 270) (ls' := [some (.ref 140), some (.int w2), none]) (st' := []) (S' := (wI (wI e0 140 12 (e0.1 140 11)) 140 13 0)) rfl ?_
    cases hr
    exact go_vreturn mm_192 rfl rfl ⟨rfl, rfl, rfl⟩
  · rw [if_neg hc2] at hr
    refine go_run mm_192 1 (pc' := 57) (ls' := [some (.ref 140), some (.int w2), none]) (st' := [.int w2]) (S' := (wI e0 140 12 (e0.1 140 11))) rfl ?_
    refine go_cs mm_192 (av := [.int w2]) (rest := []) (nl := 1) rfl (show csOK 192 57 112 190 1 1 = true by decide +kernel) rfl rfl rfl (S_190 rfl) (KP_V ?_)
    show Go XM (d + 1) 192 0 60 [some (.ref 140), some (.int w2), none] [.int (b2i (F_190 w2))] (wI e0 140 12 (e0.1 140 11)) (RV (vU r.1) r.2)
    refine go_ifb mm_192 rfl (p1 := 63) (p2 := 152) rfl (fun (hc3 : (F_190 w2) = true) => ?_) (fun (hc3 : (F_190 w2) = false) => ?_)
    · rw [if_pos hc3] at hr
      refine go_run mm_192 3 (pc' := 68) (ls' := [some (.ref 140), some (.int w2), none]) (st' := []) (S' := (wI (wI e0 140 12 (e0.1 140 11)) 140 15 0)) rfl ?_
      obtain ⟨z68, he68, hr⟩ := ob_some hr
      refine Go.le (ls' := [some (.ref 140), some (.int w2), none]) ?_ (by repeat first | exact True.intro | refine And.intro rfl ?_)
      refine wh_go (P := fun a68 => Go XM (d + 1) 192 0 68 [some (.ref 140), some (.int w2), none] [] a68 (RV (vU r.1) r.2)) (K := fun e68 => Go XM (d + 1) 192 0 131 [some (.ref 140), some (.int w2), none] [] e68 (RV (vU r.1) r.2)) (fun a9 r9 h9 hL hR => LSm_192_68 h9 hL hR) _ _ _ he68 ?_
      generalize z68 = e68 at hr
      show Go XM (d + 1) 192 0 131 [some (.ref 140), some (.int w2), none] [] e68 (RV (vU r.1) r.2)
      refine go_run mm_192 4 (pc' := 138) (ls' := [some (.ref 140), some (.int w2), none]) (st' := [.int 8, .int (e68.1 140 15), .ref 140]) (S' := e68) rfl ?_
      have j9 : Go XM (d + 1) 192 0 146 [some (.ref 140), some (.int w2), none] [.int (if (8 : Int32) < (e68.1 140 15) then 4 else 1), .ref 140] e68 (RV (vU r.1) r.2) := by
        refine go_run mm_192 2 (pc' := 270) (ls' := [some (.ref 140), some (.int w2), none]) (st' := []) (S' := (wI e68 140 13 (if (8 : Int32) < (e68.1 140 15) then 4 else 1))) rfl ?_
        cases hr
        exact go_vreturn mm_192 rfl rfl ⟨rfl, rfl, rfl⟩
      refine go_if2 mm_192 rfl (p1 := 141) (p2 := 145) rfl (fun (hc8 : (8 : Int32) < (e68.1 140 15)) => ?_) (fun (hc8 : ¬ (8 : Int32) < (e68.1 140 15)) => ?_)
      · refine go_run mm_192 2 (pc' := 146) (ls' := [some (.ref 140), some (.int w2), none]) (st' := [.int 4, .ref 140]) (S' := e68) rfl ?_
        have e : ((if (8 : Int32) < (e68.1 140 15) then 4 else 1) : Int32) = 4 := by simp [b2i, hc8]
        rw [e] at j9
        exact j9
      · refine go_run mm_192 1 (pc' := 146) (ls' := [some (.ref 140), some (.int w2), none]) (st' := [.int 1, .ref 140]) (S' := e68) rfl ?_
        have e : ((if (8 : Int32) < (e68.1 140 15) then 4 else 1) : Int32) = 1 := by simp [b2i, hc8]
        rw [e] at j9
        exact j9
    · rw [if_neg (bf hc3)] at hr
      refine go_run mm_192 1 (pc' := 153) (ls' := [some (.ref 140), some (.int w2), none]) (st' := [.int w2]) (S' := (wI e0 140 12 (e0.1 140 11))) rfl ?_
      refine go_cs mm_192 (av := [.int w2]) (rest := []) (nl := 1) rfl (show csOK 192 153 119 191 1 1 = true by decide +kernel) rfl rfl rfl (S_191 rfl) (KP_V ?_)
      show Go XM (d + 1) 192 0 156 [some (.ref 140), some (.int w2), none] [.int (b2i (F_191 w2))] (wI e0 140 12 (e0.1 140 11)) (RV (vU r.1) r.2)
      refine go_ifb mm_192 rfl (p1 := 159) (p2 := 245) rfl (fun (hc10 : (F_191 w2) = true) => ?_) (fun (hc10 : (F_191 w2) = false) => ?_)
      · rw [if_pos hc10] at hr
        refine go_run mm_192 5 (pc' := 166) (ls' := [some (.ref 140), some (.int w2), some (.int 0)]) (st' := []) (S' := (wI (wI e0 140 12 (e0.1 140 11)) 140 16 0)) rfl ?_
        obtain ⟨z166, he166, hr⟩ := ob_some hr
        refine Go.le (ls' := [some (.ref 140), some (.int w2), some (.int 0)]) ?_ (by repeat first | exact True.intro | refine And.intro rfl ?_)
        refine wh_go (P := fun a166 => Go XM (d + 1) 192 0 166 [some (.ref 140), some (.int w2), some (.int a166.1)] [] a166.2 (RV (vU r.1) r.2)) (K := fun e166 => Go XM (d + 1) 192 0 228 [some (.ref 140), some (.int w2), some (.int e166.1)] [] e166.2 (RV (vU r.1) r.2)) (fun a9 r9 h9 hL hR => LSm_192_166 h9 hL hR) _ _ _ he166 ?_
        generalize z166 = e166 at hr
        show Go XM (d + 1) 192 0 228 [some (.ref 140), some (.int w2), some (.int e166.1)] [] e166.2 (RV (vU r.1) r.2)
        refine go_run mm_192 3 (pc' := 231) (ls' := [some (.ref 140), some (.int w2), some (.int e166.1)]) (st' := [.int 4, .int e166.1, .ref 140]) (S' := e166.2) rfl ?_
        have j14 : Go XM (d + 1) 192 0 239 [some (.ref 140), some (.int w2), some (.int e166.1)] [.int (if (4 : Int32) < e166.1 then 4 else 2), .ref 140] e166.2 (RV (vU r.1) r.2) := by
          refine go_run mm_192 2 (pc' := 270) (ls' := [some (.ref 140), some (.int w2), some (.int e166.1)]) (st' := []) (S' := (wI e166.2 140 13 (if (4 : Int32) < e166.1 then 4 else 2))) rfl ?_
          cases hr
          exact go_vreturn mm_192 rfl rfl ⟨rfl, rfl, rfl⟩
        refine go_if2 mm_192 rfl (p1 := 234) (p2 := 238) rfl (fun (hc13 : (4 : Int32) < e166.1) => ?_) (fun (hc13 : ¬ (4 : Int32) < e166.1) => ?_)
        · refine go_run mm_192 2 (pc' := 239) (ls' := [some (.ref 140), some (.int w2), some (.int e166.1)]) (st' := [.int 4, .ref 140]) (S' := e166.2) rfl ?_
          have e : ((if (4 : Int32) < e166.1 then 4 else 2) : Int32) = 4 := by simp [b2i, hc13]
          rw [e] at j14
          exact j14
        · refine go_run mm_192 1 (pc' := 239) (ls' := [some (.ref 140), some (.int w2), some (.int e166.1)]) (st' := [.int 2, .ref 140]) (S' := e166.2) rfl ?_
          have e : ((if (4 : Int32) < e166.1 then 4 else 2) : Int32) = 2 := by simp [b2i, hc13]
          rw [e] at j14
          exact j14
      · rw [if_neg (bf hc10)] at hr
        refine go_run mm_192 3 (pc' := 249) (ls' := [some (.ref 140), some (.int w2), none]) (st' := [.int 59, .int w2, .ref 140]) (S' := (wI e0 140 12 (e0.1 140 11))) rfl ?_
        have j16 : Go XM (d + 1) 192 0 257 [some (.ref 140), some (.int w2), none] [.int (if w2 = 59 then 3 else 4), .ref 140] (wI e0 140 12 (e0.1 140 11)) (RV (vU r.1) r.2) := by
          refine go_run mm_192 7 (pc' := 270) (ls' := [some (.ref 140), some (.int w2), none]) (st' := []) (S' := (wI (wI (wI e0 140 12 (e0.1 140 11)) 140 13 (if w2 = 59 then 3 else 4)) 140 11 ((e0.1 140 11) + 1))) rfl ?_
          cases hr
          exact go_vreturn mm_192 rfl rfl ⟨rfl, rfl, rfl⟩
        refine go_if2 mm_192 rfl (p1 := 252) (p2 := 256) rfl (fun (hc15 : w2 = 59) => ?_) (fun (hc15 : ¬ w2 = 59) => ?_)
        · refine go_run mm_192 2 (pc' := 257) (ls' := [some (.ref 140), some (.int w2), none]) (st' := [.int 3, .ref 140]) (S' := (wI e0 140 12 (e0.1 140 11))) rfl ?_
          have e : ((if w2 = 59 then 3 else 4) : Int32) = 3 := by simp [b2i, hc15]
          rw [e] at j16
          exact j16
        · refine go_run mm_192 1 (pc' := 257) (ls' := [some (.ref 140), some (.int w2), none]) (st' := [.int 4, .ref 140]) (S' := (wI e0 140 12 (e0.1 140 11))) rfl ?_
          have e : ((if w2 = 59 then 3 else 4) : Int32) = 4 := by simp [b2i, hc15]
          rw [e] at j16
          exact j16

noncomputable def F_193 (v1 : Int32) (S : ST) : Option (Unit × ST) := if (S.1 140 17) = 0 then (some ((), (wI (wI S 140 17 v1) 140 18 (S.1 140 12)))) else (some ((), S))
set_option maxRecDepth 20000 in
theorem S_193 {d : Nat} {S : ST} {v1 : Int32} {r} (hr : F_193 v1 S = some r) : Cal XM d 193 [.ref 140, .int v1] S (RV (vU r.1) r.2) := by
  unfold F_193 at hr
  refine cal_go 0 rfl ?_
  refine go_run mm_193 2 (pc' := 4) (ls' := [some (.ref 140), some (.int v1)]) (st' := [.int (S.1 140 17)]) (S' := S) rfl ?_
  refine go_if0 mm_193 rfl (p1 := 7) (p2 := 20) rfl (fun (hc1 : (S.1 140 17) = 0) => ?_) (fun (hc1 : ¬ (S.1 140 17) = 0) => ?_)
  · rw [if_pos hc1] at hr
    refine go_run mm_193 7 (pc' := 20) (ls' := [some (.ref 140), some (.int v1)]) (st' := []) (S' := (wI (wI S 140 17 v1) 140 18 (S.1 140 12))) rfl ?_
    cases hr
    exact go_vreturn mm_193 rfl rfl ⟨rfl, rfl, rfl⟩
  · rw [if_neg hc1] at hr
    cases hr
    exact go_vreturn mm_193 rfl rfl ⟨rfl, rfl, rfl⟩

noncomputable def F_194 (S : ST) : Option (Unit × ST) := if (S.1 140 17) = 0 then (ob (F_192 S) (fun w1 => some ((), w1.2))) else (some ((), S))
set_option maxRecDepth 20000 in
theorem S_194 {d : Nat} {S : ST} {r} (hr : F_194 S = some r) : Cal XM (d + 2) 194 [.ref 140] S (RV (vU r.1) r.2) := by
  unfold F_194 at hr
  refine cal_go 0 rfl ?_
  refine go_run mm_194 2 (pc' := 4) (ls' := [some (.ref 140)]) (st' := [.int (S.1 140 17)]) (S' := S) rfl ?_
  refine go_if0 mm_194 rfl (p1 := 7) (p2 := 11) rfl (fun (hc1 : (S.1 140 17) = 0) => ?_) (fun (hc1 : ¬ (S.1 140 17) = 0) => ?_)
  · rw [if_pos hc1] at hr
    refine go_run mm_194 1 (pc' := 8) (ls' := [some (.ref 140)]) (st' := [.ref 140]) (S' := S) rfl ?_
    obtain ⟨w1, hw1, hr⟩ := ob_some hr
    refine go_cv mm_194 (h := 140) (As := []) (rest := []) (nl := 3) rfl rfl (show cvOK 194 8 131 192 0 3 11 = true by decide +kernel) rfl rfl rfl (S_192 hw1) (KP_V ?_)
    show Go XM (d + 2) 194 0 11 [some (.ref 140)] [] w1.2 (RV (vU r.1) r.2)
    cases hr
    exact go_vreturn mm_194 rfl rfl ⟨rfl, rfl, rfl⟩
  · rw [if_neg hc1] at hr
    cases hr
    exact go_vreturn mm_194 rfl rfl ⟨rfl, rfl, rfl⟩

noncomputable def Lm_195_30 (tx : List Int32) (S : ST) (a30 : Int32) : Option ((Int32) ⊕ ((Int32) ⊕ Bool)) := if a30 < (S.1 140 15) then (ck (ibd a30 8) (ck (ibd a30 (List.length tx)) (if (S.1 145 (Int32.toNatClampNeg a30)) = (tx.getD (Int32.toNatClampNeg a30) 0) then (some (.inl (a30 + 1))) else (some (.inr (.inr false)))))) else (some (.inr (.inl (a30))))
set_option maxRecDepth 20000 in
theorem LSm_195_30 {d : Nat} {R : RT} {S : ST} {t1 : Nat} {tx : List Int32} (y1 : txt t1 = some tx) {a30 : Int32} {r9} (hr : Lm_195_30 tx S a30 = some r9) (hL : ∀ a9, r9 = .inl a9 → (fun a30 => Go XM d 195 0 30 [some (.ref 140), some (.ref t1), some (.int a30)] [] S R) a9) (hR : ∀ b9, r9 = .inr b9 → Sum.elim (fun e30 => Go XM d 195 0 60 [some (.ref 140), some (.ref t1), some (.int e30)] [] S R) (fun o => R 0 (.inr (vZ o)) S) b9) : Go XM d 195 0 30 [some (.ref 140), some (.ref t1), some (.int a30)] [] S R := by
  unfold Lm_195_30 at hr
  refine go_run mm_195 3 (pc' := 35) (ls' := [some (.ref 140), some (.ref t1), some (.int a30)]) (st' := [.int (S.1 140 15), .int a30]) (S' := S) rfl ?_
  refine go_if2 mm_195 rfl (p1 := 38) (p2 := 60) rfl (fun (hc4 : a30 < (S.1 140 15)) => ?_) (fun (hc4 : ¬ a30 < (S.1 140 15)) => ?_)
  · rw [if_pos hc4] at hr
    refine go_run mm_195 3 (pc' := 43) (ls' := [some (.ref 140), some (.ref t1), some (.int a30)]) (st' := [.int a30, .ref 145]) (S' := S) rfl ?_
    obtain ⟨hb5, hr⟩ := ck_some hr
    refine go_iaload mm_195 (q := (Int32.toNatClampNeg a30)) rfl rfl rfl (ibd_ok hb5) ?_
    show Go XM d 195 0 44 [some (.ref 140), some (.ref t1), some (.int a30)] [.int (S.1 145 (Int32.toNatClampNeg a30))] S R
    refine go_run mm_195 2 (pc' := 46) (ls' := [some (.ref 140), some (.ref t1), some (.int a30)]) (st' := [.int a30, .ref t1, .int (S.1 145 (Int32.toNatClampNeg a30))]) (S' := S) rfl ?_
    obtain ⟨hq6, hr⟩ := ck_some hr
    refine go_chr mm_195 (tx := tx) rfl rfl y1 rfl (ibd_ok hq6) ?_
    show Go XM d 195 0 49 [some (.ref 140), some (.ref t1), some (.int a30)] [.int (tx.getD (Int32.toNatClampNeg a30) 0), .int (S.1 145 (Int32.toNatClampNeg a30))] S R
    refine go_if2 mm_195 rfl (p1 := 54) (p2 := 52) rfl (fun (hc7 : (S.1 145 (Int32.toNatClampNeg a30)) = (tx.getD (Int32.toNatClampNeg a30) 0)) => ?_) (fun (hc7 : ¬ (S.1 145 (Int32.toNatClampNeg a30)) = (tx.getD (Int32.toNatClampNeg a30) 0)) => ?_)
    · rw [if_pos hc7] at hr
      refine go_run mm_195 2 (pc' := 30) (ls' := [some (.ref 140), some (.ref t1), some (.int (a30 + 1))]) (st' := []) (S' := S) rfl ?_
      cases hr
      have h9 := hL (a30 + 1) rfl
      dsimp only at h9
      exact Go.le h9 (by repeat first | exact True.intro | refine And.intro rfl ?_)
    · rw [if_neg hc7] at hr
      refine go_run mm_195 1 (pc' := 53) (ls' := [some (.ref 140), some (.ref t1), some (.int a30)]) (st' := [.int 0]) (S' := S) rfl ?_
      cases hr
      have h9 : R 0 (.inr (vZ false)) S := hR _ rfl
      exact go_zreturn mm_195 rfl rfl (Or.inl rfl) h9
  · rw [if_neg hc4] at hr
    cases hr
    have h9 := hR (.inl (a30)) rfl
    dsimp only [Sum.elim_inl] at h9
    exact Go.le h9 (by repeat first | exact True.intro | refine And.intro rfl ?_)
noncomputable def F_195 (tx : List Int32) (S : ST) : Option Bool := if (S.1 140 17) = 0 then (if (S.1 140 13) = 1 then (if (S.1 140 15) = (Int32.ofNat (List.length tx)) then (ob (wh FU (Lm_195_30 tx S) (0)) (fun z => Sum.elim (fun e30 => some true) (fun o => some o) z)) else (some false)) else (some false)) else (some false)
set_option maxRecDepth 20000 in
theorem S_195 {d : Nat} {S : ST} {t1 : Nat} {tx : List Int32} {r} (y1 : txt t1 = some tx) (hr : F_195 tx S = some r) : Cal XM d 195 [.ref 140, .ref t1] S (RV (vZ r) S) := by
  unfold F_195 at hr
  refine cal_go 1 rfl ?_
  refine go_run mm_195 2 (pc' := 4) (ls' := [some (.ref 140), some (.ref t1), none]) (st' := [.int (S.1 140 17)]) (S' := S) rfl ?_
  refine go_if0 mm_195 rfl (p1 := 7) (p2 := 26) rfl (fun (hc1 : (S.1 140 17) = 0) => ?_) (fun (hc1 : ¬ (S.1 140 17) = 0) => ?_)
  · rw [if_pos hc1] at hr
    refine go_run mm_195 3 (pc' := 12) (ls' := [some (.ref 140), some (.ref t1), none]) (st' := [.int 1, .int (S.1 140 13)]) (S' := S) rfl ?_
    refine go_if2 mm_195 rfl (p1 := 15) (p2 := 26) rfl (fun (hc2 : (S.1 140 13) = 1) => ?_) (fun (hc2 : ¬ (S.1 140 13) = 1) => ?_)
    · rw [if_pos hc2] at hr
      refine go_run mm_195 3 (pc' := 20) (ls' := [some (.ref 140), some (.ref t1), none]) (st' := [.ref t1, .int (S.1 140 15)]) (S' := S) rfl ?_
      refine go_len mm_195 (tx := tx) rfl rfl y1 rfl ?_
      show Go XM d 195 0 23 [some (.ref 140), some (.ref t1), none] [.int (Int32.ofNat (List.length tx)), .int (S.1 140 15)] S (RV (vZ r) S)
      refine go_if2 mm_195 rfl (p1 := 28) (p2 := 26) rfl (fun (hc3 : (S.1 140 15) = (Int32.ofNat (List.length tx))) => ?_) (fun (hc3 : ¬ (S.1 140 15) = (Int32.ofNat (List.length tx))) => ?_)
      · rw [if_pos hc3] at hr
        refine go_run mm_195 2 (pc' := 30) (ls' := [some (.ref 140), some (.ref t1), some (.int 0)]) (st' := []) (S' := S) rfl ?_
        obtain ⟨z30, he30, hr⟩ := ob_some hr
        refine Go.le (ls' := [some (.ref 140), some (.ref t1), some (.int 0)]) ?_ (by repeat first | exact True.intro | refine And.intro rfl ?_)
        refine wh_go (P := fun a30 => Go XM d 195 0 30 [some (.ref 140), some (.ref t1), some (.int a30)] [] S (RV (vZ r) S)) (K := fun z => Sum.elim (fun e30 => Go XM d 195 0 60 [some (.ref 140), some (.ref t1), some (.int e30)] [] S (RV (vZ r) S)) (fun o => (RV (vZ r) S) 0 (.inr (vZ o)) S) z) (fun a9 r9 h9 hL hR => LSm_195_30 y1 h9 hL hR) _ _ _ he30 ?_
        rcases z30 with e30 | o
        rotate_left
        · simp only [Sum.elim_inr] at hr
          cases hr
          exact ⟨rfl, rfl, rfl⟩
        simp only [Sum.elim_inl] at hr
        show Go XM d 195 0 60 [some (.ref 140), some (.ref t1), some (.int e30)] [] S (RV (vZ r) S)
        refine go_run mm_195 1 (pc' := 61) (ls' := [some (.ref 140), some (.ref t1), some (.int e30)]) (st' := [.int 1]) (S' := S) rfl ?_
        cases hr
        exact go_zreturn mm_195 rfl rfl (Or.inr rfl) ⟨rfl, rfl, rfl⟩
      · rw [if_neg hc3] at hr
        refine go_run mm_195 1 (pc' := 27) (ls' := [some (.ref 140), some (.ref t1), none]) (st' := [.int 0]) (S' := S) rfl ?_
        cases hr
        exact go_zreturn mm_195 rfl rfl (Or.inl rfl) ⟨rfl, rfl, rfl⟩
    · rw [if_neg hc2] at hr
      refine go_run mm_195 1 (pc' := 27) (ls' := [some (.ref 140), some (.ref t1), none]) (st' := [.int 0]) (S' := S) rfl ?_
      cases hr
      exact go_zreturn mm_195 rfl rfl (Or.inl rfl) ⟨rfl, rfl, rfl⟩
  · rw [if_neg hc1] at hr
    refine go_run mm_195 1 (pc' := 27) (ls' := [some (.ref 140), some (.ref t1), none]) (st' := [.int 0]) (S' := S) rfl ?_
    cases hr
    exact go_zreturn mm_195 rfl rfl (Or.inl rfl) ⟨rfl, rfl, rfl⟩
