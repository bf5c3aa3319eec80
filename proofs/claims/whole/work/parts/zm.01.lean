/-! methods as functions (printed by a program): 196 numberHere, 197 takes, 204 after, 202 cross, 203 sign, 205 isOn -/
noncomputable def F_196 (v1 : Int32) (v2 : Int32) (S : ST) : Option (Int32 × ST) := if (S.1 140 13) = 2 then (if (F_182 (S.1 140 16) v1 v2) = true then (some ((if (S.1 140 17) = 0 then S.1 140 16 else v1), S)) else (ob (F_193 2 S) (fun w1 => some ((if (w1.2.1 140 17) = 0 then w1.2.1 140 16 else v1), w1.2)))) else (ob (F_193 1 S) (fun w2 => some ((if (w2.2.1 140 17) = 0 then w2.2.1 140 16 else v1), w2.2)))
set_option maxRecDepth 20000 in
theorem S_196 {d : Nat} {S : ST} {v1 : Int32} {v2 : Int32} {r} (hr : F_196 v1 v2 S = some r) : Cal XM (d + 1) 196 [.ref 140, .int v1, .int v2] S (RV (vI r.1) r.2) := by
  unfold F_196 at hr
  refine cal_go 0 rfl ?_
  refine go_run mm_196 3 (pc' := 5) (ls' := [some (.ref 140), some (.int v1), some (.int v2)]) (st' := [.int 2, .int (S.1 140 13)]) (S' := S) rfl ?_
  refine go_if2 mm_196 rfl (p1 := 16) (p2 := 8) rfl (fun (hc1 : (S.1 140 13) = 2) => ?_) (fun (hc1 : ¬ (S.1 140 13) = 2) => ?_)
  · rw [if_pos hc1] at hr
    refine go_run mm_196 4 (pc' := 22) (ls' := [some (.ref 140), some (.int v1), some (.int v2)]) (st' := [.int v2, .int v1, .int (S.1 140 16)]) (S' := S) rfl ?_
    refine go_cs mm_196 (av := [.int (S.1 140 16), .int v1, .int v2]) (rest := []) (nl := 3) rfl (show csOK 196 22 148 182 3 3 = true by decide +kernel) rfl rfl rfl (S_182 rfl) (KP_V ?_)
    show Go XM (d + 1) 196 0 25 [some (.ref 140), some (.int v1), some (.int v2)] [.int (b2i (F_182 (S.1 140 16) v1 v2))] S (RV (vI r.1) r.2)
    refine go_ifb mm_196 rfl (p1 := 33) (p2 := 28) rfl (fun (hc2 : (F_182 (S.1 140 16) v1 v2) = true) => ?_) (fun (hc2 : (F_182 (S.1 140 16) v1 v2) = false) => ?_)
    · rw [if_pos hc2] at hr
      refine go_run mm_196 2 (pc' := 37) (ls' := [some (.ref 140), some (.int v1), some (.int v2)]) (st' := [.int (S.1 140 17)]) (S' := S) rfl ?_
      have j4 : Go XM (d + 1) 196 0 48 [some (.ref 140), some (.int v1), some (.int v2)] [.int (if (S.1 140 17) = 0 then S.1 140 16 else v1)] S (RV (vI r.1) r.2) := by
        cases hr
        exact go_ireturn mm_196 rfl rfl ⟨rfl, rfl, rfl⟩
      refine go_if0 mm_196 rfl (p1 := 44) (p2 := 40) rfl (fun (hc3 : (S.1 140 17) = 0) => ?_) (fun (hc3 : ¬ (S.1 140 17) = 0) => ?_)
      · refine go_run mm_196 2 (pc' := 48) (ls' := [some (.ref 140), some (.int v1), some (.int v2)]) (st' := [.int (S.1 140 16)]) (S' := S) rfl ?_
        have e : ((if (S.1 140 17) = 0 then S.1 140 16 else v1) : Int32) = S.1 140 16 := by simp [b2i, hc3]
        rw [e] at j4
        exact j4
      · refine go_run mm_196 2 (pc' := 48) (ls' := [some (.ref 140), some (.int v1), some (.int v2)]) (st' := [.int v1]) (S' := S) rfl ?_
        have e : ((if (S.1 140 17) = 0 then S.1 140 16 else v1) : Int32) = v1 := by simp [b2i, hc3]
        rw [e] at j4
        exact j4
    · rw [if_neg (bf hc2)] at hr
      refine go_run mm_196 2 (pc' := 30) (ls' := [some (.ref 140), some (.int v1), some (.int v2)]) (st' := [.int 2, .ref 140]) (S' := S) rfl ?_
      obtain ⟨w1, hw1, hr⟩ := ob_some hr
      refine go_cv mm_196 (h := 140) (As := [.int 2]) (rest := []) (nl := 2) rfl rfl (show cvOK 196 30 144 193 1 2 11 = true by decide +kernel) rfl rfl rfl (S_193 hw1) (KP_V ?_)
      show Go XM (d + 1) 196 0 33 [some (.ref 140), some (.int v1), some (.int v2)] [] w1.2 (RV (vI r.1) r.2)
      refine go_run mm_196 2 (pc' := 37) (ls' := [some (.ref 140), some (.int v1), some (.int v2)]) (st' := [.int (w1.2.1 140 17)]) (S' := w1.2) rfl ?_
      have j6 : Go XM (d + 1) 196 0 48 [some (.ref 140), some (.int v1), some (.int v2)] [.int (if (w1.2.1 140 17) = 0 then w1.2.1 140 16 else v1)] w1.2 (RV (vI r.1) r.2) := by
        cases hr
        exact go_ireturn mm_196 rfl rfl ⟨rfl, rfl, rfl⟩
      refine go_if0 mm_196 rfl (p1 := 44) (p2 := 40) rfl (fun (hc5 : (w1.2.1 140 17) = 0) => ?_) (fun (hc5 : ¬ (w1.2.1 140 17) = 0) => ?_)
      · refine go_run mm_196 2 (pc' := 48) (ls' := [some (.ref 140), some (.int v1), some (.int v2)]) (st' := [.int (w1.2.1 140 16)]) (S' := w1.2) rfl ?_
        have e : ((if (w1.2.1 140 17) = 0 then w1.2.1 140 16 else v1) : Int32) = w1.2.1 140 16 := by simp [b2i, hc5]
        rw [e] at j6
        exact j6
      · refine go_run mm_196 2 (pc' := 48) (ls' := [some (.ref 140), some (.int v1), some (.int v2)]) (st' := [.int v1]) (S' := w1.2) rfl ?_
        have e : ((if (w1.2.1 140 17) = 0 then w1.2.1 140 16 else v1) : Int32) = v1 := by simp [b2i, hc5]
        rw [e] at j6
        exact j6
  · rw [if_neg hc1] at hr
    refine go_run mm_196 2 (pc' := 10) (ls' := [some (.ref 140), some (.int v1), some (.int v2)]) (st' := [.int 1, .ref 140]) (S' := S) rfl ?_
    obtain ⟨w2, hw2, hr⟩ := ob_some hr
    refine go_cv mm_196 (h := 140) (As := [.int 1]) (rest := []) (nl := 2) rfl rfl (show cvOK 196 10 144 193 1 2 11 = true by decide +kernel) rfl rfl rfl (S_193 hw2) (KP_V ?_)
    show Go XM (d + 1) 196 0 13 [some (.ref 140), some (.int v1), some (.int v2)] [] w2.2 (RV (vI r.1) r.2)
    refine go_run mm_196 3 (pc' := 37) (ls' := [some (.ref 140), some (.int v1), some (.int v2)]) (st' := [.int (w2.2.1 140 17)]) (S' := w2.2) rfl ?_
    have j8 : Go XM (d + 1) 196 0 48 [some (.ref 140), some (.int v1), some (.int v2)] [.int (if (w2.2.1 140 17) = 0 then w2.2.1 140 16 else v1)] w2.2 (RV (vI r.1) r.2) := by
      cases hr
      exact go_ireturn mm_196 rfl rfl ⟨rfl, rfl, rfl⟩
    refine go_if0 mm_196 rfl (p1 := 44) (p2 := 40) rfl (fun (hc7 : (w2.2.1 140 17) = 0) => ?_) (fun (hc7 : ¬ (w2.2.1 140 17) = 0) => ?_)
    · refine go_run mm_196 2 (pc' := 48) (ls' := [some (.ref 140), some (.int v1), some (.int v2)]) (st' := [.int (w2.2.1 140 16)]) (S' := w2.2) rfl ?_
      have e : ((if (w2.2.1 140 17) = 0 then w2.2.1 140 16 else v1) : Int32) = w2.2.1 140 16 := by simp [b2i, hc7]
      rw [e] at j8
      exact j8
    · refine go_run mm_196 2 (pc' := 48) (ls' := [some (.ref 140), some (.int v1), some (.int v2)]) (st' := [.int v1]) (S' := w2.2) rfl ?_
      have e : ((if (w2.2.1 140 17) = 0 then w2.2.1 140 16 else v1) : Int32) = v1 := by simp [b2i, hc7]
      rw [e] at j8
      exact j8

noncomputable def F_197 (v1 : Int32) (v2 : Int32) (S : ST) : Option (Int32 × ST) := ob (F_196 v1 v2 S) (fun w1 => ob (F_194 w1.2) (fun w2 => some (w1.1, w2.2)))
set_option maxRecDepth 20000 in
theorem S_197 {d : Nat} {S : ST} {v1 : Int32} {v2 : Int32} {r} (hr : F_197 v1 v2 S = some r) : Cal XM (d + 3) 197 [.ref 140, .int v1, .int v2] S (RV (vI r.1) r.2) := by
  unfold F_197 at hr
  refine cal_go 1 rfl ?_
  refine go_run mm_197 3 (pc' := 3) (ls' := [some (.ref 140), some (.int v1), some (.int v2), none]) (st' := [.int v2, .int v1, .ref 140]) (S' := S) rfl ?_
  obtain ⟨w1, hw1, hr⟩ := ob_some hr
  refine go_cv mm_197 (h := 140) (As := [.int v1, .int v2]) (rest := []) (nl := 3) rfl rfl (show cvOK 197 3 152 196 2 3 11 = true by decide +kernel) rfl rfl rfl (S_196 hw1) (KP_V ?_)
  show Go XM (d + 3) 197 0 6 [some (.ref 140), some (.int v1), some (.int v2), none] [.int w1.1] w1.2 (RV (vI r.1) r.2)
  refine go_run mm_197 2 (pc' := 8) (ls' := [some (.ref 140), some (.int v1), some (.int v2), some (.int w1.1)]) (st' := [.ref 140]) (S' := w1.2) rfl ?_
  obtain ⟨w2, hw2, hr⟩ := ob_some hr
  refine go_cv mm_197 (h := 140) (As := []) (rest := []) (nl := 1) rfl rfl (show cvOK 197 8 156 194 0 1 11 = true by decide +kernel) rfl rfl rfl (S_194 hw2) (KP_V ?_)
  show Go XM (d + 3) 197 0 11 [some (.ref 140), some (.int v1), some (.int v2), some (.int w1.1)] [] w2.2 (RV (vI r.1) r.2)
  refine go_run mm_197 1 (pc' := 12) (ls' := [some (.ref 140), some (.int v1), some (.int v2), some (.int w1.1)]) (st' := [.int w1.1]) (S' := w2.2) rfl ?_
  cases hr
  exact go_ireturn mm_197 rfl rfl ⟨rfl, rfl, rfl⟩

noncomputable def F_204 (h0 : Nat) (v1 : Int32) (S : ST) : Int32 := (if (v1 + 1) = (S.1 h0 0) then 0 else v1 + 1)
set_option maxRecDepth 20000 in
theorem S_204 {d : Nat} {S : ST} {h0 : Nat} {v1 : Int32} {r} (hp0 : XM h0 = some (.inr (0, 63))) (hr : F_204 h0 v1 S = r) : Cal XM d 204 [.ref h0, .int v1] S (RV (vI r) S) := by
  unfold F_204 at hr
  refine cal_go 0 rfl ?_
  refine go_run mm_204 5 (pc' := 5) (ls' := [some (.ref h0), some (.int v1)]) (st' := [.int 0, .ref h0, .int (v1 + 1)]) (S' := S) rfl ?_
  refine go_iaload mm_204 (q := 0) rfl hp0 rfl (inB_lit rfl) ?_
  show Go XM d 204 0 6 [some (.ref h0), some (.int v1)] [.int (S.1 h0 0), .int (v1 + 1)] S (RV (vI r) S)
  have j2 : Go XM d 204 0 16 [some (.ref h0), some (.int v1)] [.int (if (v1 + 1) = (S.1 h0 0) then 0 else v1 + 1)] S (RV (vI r) S) := by
    cases hr
    exact go_ireturn mm_204 rfl rfl ⟨rfl, rfl, rfl⟩
  refine go_if2 mm_204 rfl (p1 := 9) (p2 := 13) rfl (fun (hc1 : (v1 + 1) = (S.1 h0 0)) => ?_) (fun (hc1 : ¬ (v1 + 1) = (S.1 h0 0)) => ?_)
  · refine go_run mm_204 2 (pc' := 16) (ls' := [some (.ref h0), some (.int v1)]) (st' := [.int 0]) (S' := S) rfl ?_
    have e : ((if (v1 + 1) = (S.1 h0 0) then 0 else v1 + 1) : Int32) = 0 := by simp [b2i, hc1]
    rw [e] at j2
    exact j2
  · refine go_run mm_204 3 (pc' := 16) (ls' := [some (.ref h0), some (.int v1)]) (st' := [.int (v1 + 1)]) (S' := S) rfl ?_
    have e : ((if (v1 + 1) = (S.1 h0 0) then 0 else v1 + 1) : Int32) = v1 + 1 := by simp [b2i, hc1]
    rw [e] at j2
    exact j2

noncomputable def F_202 (v0 : Int64) (v2 : Int64) (v4 : Int64) (v6 : Int64) (v8 : Int64) (v10 : Int64) : Int64 := ((v4 - v0) * (v10 - v2)) - ((v6 - v2) * (v8 - v0))
set_option maxRecDepth 20000 in
theorem S_202 {d : Nat} {S : ST} {v0 : Int64} {v2 : Int64} {v4 : Int64} {v6 : Int64} {v8 : Int64} {v10 : Int64} {r} (hr : F_202 v0 v2 v4 v6 v8 v10 = r) : Cal XM d 202 [.long v0, .long v2, .long v4, .long v6, .long v8, .long v10] S (RV (vJ r) S) := by
  unfold F_202 at hr
  refine cal_go 0 rfl ?_
  refine go_run mm_202 15 (pc' := 19) (ls' := [some (.long v0), none, some (.long v2), none, some (.long v4), none, some (.long v6), none, some (.long v8), none, some (.long v10), none]) (st' := [.long (((v4 - v0) * (v10 - v2)) - ((v6 - v2) * (v8 - v0)))]) (S' := S) rfl ?_
  cases hr
  exact go_lreturn mm_202 rfl rfl ⟨rfl, rfl, rfl⟩

noncomputable def F_203 (v0 : Int64) : Int32 := (if (0 : Int64) < v0 then 1 else (if v0 < 0 then (-1) else 0))
set_option maxRecDepth 20000 in
theorem S_203 {d : Nat} {S : ST} {v0 : Int64} {r} (hr : F_203 v0 = r) : Cal XM d 203 [.long v0] S (RV (vI r) S) := by
  unfold F_203 at hr
  refine cal_go 0 rfl ?_
  refine go_run mm_203 2 (pc' := 2) (ls' := [some (.long v0), none]) (st' := [.long 0, .long v0]) (S' := S) rfl ?_
  have j4 : Go XM d 203 0 21 [some (.long v0), none] [.int (if (0 : Int64) < v0 then 1 else (if v0 < 0 then (-1) else 0))] S (RV (vI r) S) := by
    cases hr
    exact go_ireturn mm_203 rfl rfl ⟨rfl, rfl, rfl⟩
  refine go_lif mm_203 rfl rfl (p1 := 6) (p2 := 10) rfl (fun (hc1 : (0 : Int64) < v0) => ?_) (fun (hc1 : ¬ (0 : Int64) < v0) => ?_)
  · refine go_run mm_203 2 (pc' := 21) (ls' := [some (.long v0), none]) (st' := [.int 1]) (S' := S) rfl ?_
    have e : ((if (0 : Int64) < v0 then 1 else (if v0 < 0 then (-1) else 0)) : Int32) = 1 := by simp [b2i, hc1]
    rw [e] at j4
    exact j4
  · refine go_run mm_203 2 (pc' := 12) (ls' := [some (.long v0), none]) (st' := [.long 0, .long v0]) (S' := S) rfl ?_
    have j3 : Go XM d 203 0 21 [some (.long v0), none] [.int (if v0 < 0 then (-1) else 0)] S (RV (vI r) S) := by
      have e : ((if (0 : Int64) < v0 then 1 else (if v0 < 0 then (-1) else 0)) : Int32) = (if v0 < 0 then (-1) else 0) := by simp [b2i, hc1]
      rw [e] at j4
      exact j4
    refine go_lif mm_203 rfl rfl (p1 := 16) (p2 := 20) rfl (fun (hc2 : v0 < 0) => ?_) (fun (hc2 : ¬ v0 < 0) => ?_)
    · refine go_run mm_203 2 (pc' := 21) (ls' := [some (.long v0), none]) (st' := [.int (-1)]) (S' := S) rfl ?_
      have e : ((if v0 < 0 then (-1) else 0) : Int32) = (-1) := by simp [b2i, hc2]
      rw [e] at j3
      exact j3
    · refine go_run mm_203 1 (pc' := 21) (ls' := [some (.long v0), none]) (st' := [.int 0]) (S' := S) rfl ?_
      have e : ((if v0 < 0 then (-1) else 0) : Int32) = 0 := by simp [b2i, hc2]
      rw [e] at j3
      exact j3

noncomputable def F_205 (v0 : Int64) (v2 : Int64) (v4 : Int64) (v6 : Int64) (v8 : Int64) (v10 : Int64) : Bool := ((!(decide ((0 : Int64) < ((v8 - v0) * (v8 - v4)))) && (!(decide ((0 : Int64) < ((v10 - v2) * (v10 - v6)))))) && (decide ((F_202 v0 v2 v4 v6 v8 v10) = 0)))
set_option maxRecDepth 20000 in
theorem S_205 {d : Nat} {S : ST} {v0 : Int64} {v2 : Int64} {v4 : Int64} {v6 : Int64} {v8 : Int64} {v10 : Int64} {r} (hr : F_205 v0 v2 v4 v6 v8 v10 = r) : Cal XM (d + 1) 205 [.long v0, .long v2, .long v4, .long v6, .long v8, .long v10] S (RV (vZ r) S) := by
  unfold F_205 at hr
  refine cal_go 1 rfl ?_
  refine go_run mm_205 8 (pc' := 11) (ls' := [some (.long v0), none, some (.long v2), none, some (.long v4), none, some (.long v6), none, some (.long v8), none, some (.long v10), none, none]) (st' := [.long 0, .long ((v8 - v0) * (v8 - v4))]) (S' := S) rfl ?_
  have j8 : Go XM (d + 1) 205 0 35 [some (.long v0), none, some (.long v2), none, some (.long v4), none, some (.long v6), none, some (.long v8), none, some (.long v10), none, none] [.int (b2i (!(decide ((0 : Int64) < ((v8 - v0) * (v8 - v4)))) && (!(decide ((0 : Int64) < ((v10 - v2) * (v10 - v6)))))))] S (RV (vZ r) S) := by
    refine go_run mm_205 2 (pc' := 39) (ls' := [some (.long v0), none, some (.long v2), none, some (.long v4), none, some (.long v6), none, some (.long v8), none, some (.long v10), none, some (.int (b2i (!(decide ((0 : Int64) < ((v8 - v0) * (v8 - v4)))) && (!(decide ((0 : Int64) < ((v10 - v2) * (v10 - v6))))))))]) (st' := [.int (b2i (!(decide ((0 : Int64) < ((v8 - v0) * (v8 - v4)))) && (!(decide ((0 : Int64) < ((v10 - v2) * (v10 - v6)))))))]) (S' := S) rfl ?_
    have j7 : Go XM (d + 1) 205 0 65 [some (.long v0), none, some (.long v2), none, some (.long v4), none, some (.long v6), none, some (.long v8), none, some (.long v10), none, some (.int (b2i (!(decide ((0 : Int64) < ((v8 - v0) * (v8 - v4)))) && (!(decide ((0 : Int64) < ((v10 - v2) * (v10 - v6))))))))] [.int (b2i ((!(decide ((0 : Int64) < ((v8 - v0) * (v8 - v4)))) && (!(decide ((0 : Int64) < ((v10 - v2) * (v10 - v6)))))) && (decide ((F_202 v0 v2 v4 v6 v8 v10) = 0))))] S (RV (vZ r) S) := by
      cases hr
      exact go_zreturn mm_205 rfl rfl (b2i_01 _) ⟨rfl, rfl, rfl⟩
    refine go_ifb mm_205 rfl (p1 := 42) (p2 := 64) rfl (fun (hc4 : (!(decide ((0 : Int64) < ((v8 - v0) * (v8 - v4)))) && (!(decide ((0 : Int64) < ((v10 - v2) * (v10 - v6)))))) = true) => ?_) (fun (hc4 : (!(decide ((0 : Int64) < ((v8 - v0) * (v8 - v4)))) && (!(decide ((0 : Int64) < ((v10 - v2) * (v10 - v6)))))) = false) => ?_)
    · refine go_run mm_205 6 (pc' := 52) (ls' := [some (.long v0), none, some (.long v2), none, some (.long v4), none, some (.long v6), none, some (.long v8), none, some (.long v10), none, some (.int (b2i (!(decide ((0 : Int64) < ((v8 - v0) * (v8 - v4)))) && (!(decide ((0 : Int64) < ((v10 - v2) * (v10 - v6))))))))]) (st' := [.long v10, .long v8, .long v6, .long v4, .long v2, .long v0]) (S' := S) rfl ?_
      refine go_cs mm_205 (av := [.long v0, .long v2, .long v4, .long v6, .long v8, .long v10]) (rest := []) (nl := 12) rfl (show csOK 205 52 204 202 6 12 = true by decide +kernel) rfl rfl rfl (S_202 rfl) (KP_V ?_)
      show Go XM (d + 1) 205 0 55 [some (.long v0), none, some (.long v2), none, some (.long v4), none, some (.long v6), none, some (.long v8), none, some (.long v10), none, some (.int (b2i (!(decide ((0 : Int64) < ((v8 - v0) * (v8 - v4)))) && (!(decide ((0 : Int64) < ((v10 - v2) * (v10 - v6))))))))] [.long (F_202 v0 v2 v4 v6 v8 v10)] S (RV (vZ r) S)
      refine go_run mm_205 1 (pc' := 56) (ls' := [some (.long v0), none, some (.long v2), none, some (.long v4), none, some (.long v6), none, some (.long v8), none, some (.long v10), none, some (.int (b2i (!(decide ((0 : Int64) < ((v8 - v0) * (v8 - v4)))) && (!(decide ((0 : Int64) < ((v10 - v2) * (v10 - v6))))))))]) (st' := [.long 0, .long (F_202 v0 v2 v4 v6 v8 v10)]) (S' := S) rfl ?_
      have j6 : Go XM (d + 1) 205 0 65 [some (.long v0), none, some (.long v2), none, some (.long v4), none, some (.long v6), none, some (.long v8), none, some (.long v10), none, some (.int (b2i (!(decide ((0 : Int64) < ((v8 - v0) * (v8 - v4)))) && (!(decide ((0 : Int64) < ((v10 - v2) * (v10 - v6))))))))] [.int (b2i (decide ((F_202 v0 v2 v4 v6 v8 v10) = 0)))] S (RV (vZ r) S) := by
        have e : ((b2i ((!(decide ((0 : Int64) < ((v8 - v0) * (v8 - v4)))) && (!(decide ((0 : Int64) < ((v10 - v2) * (v10 - v6)))))) && (decide ((F_202 v0 v2 v4 v6 v8 v10) = 0)))) : Int32) = (b2i (decide ((F_202 v0 v2 v4 v6 v8 v10) = 0))) := by simp [b2i, hc4]
        rw [e] at j7
        exact j7
      refine go_lif mm_205 rfl rfl (p1 := 60) (p2 := 64) rfl (fun (hc5 : (F_202 v0 v2 v4 v6 v8 v10) = 0) => ?_) (fun (hc5 : ¬ (F_202 v0 v2 v4 v6 v8 v10) = 0) => ?_)
      · refine go_run mm_205 2 (pc' := 65) (ls' := [some (.long v0), none, some (.long v2), none, some (.long v4), none, some (.long v6), none, some (.long v8), none, some (.long v10), none, some (.int (b2i (!(decide ((0 : Int64) < ((v8 - v0) * (v8 - v4)))) && (!(decide ((0 : Int64) < ((v10 - v2) * (v10 - v6))))))))]) (st' := [.int 1]) (S' := S) rfl ?_
        have e : ((b2i (decide ((F_202 v0 v2 v4 v6 v8 v10) = 0))) : Int32) = 1 := by simp [b2i, hc5]
        rw [e] at j6
        exact j6
      · refine go_run mm_205 1 (pc' := 65) (ls' := [some (.long v0), none, some (.long v2), none, some (.long v4), none, some (.long v6), none, some (.long v8), none, some (.long v10), none, some (.int (b2i (!(decide ((0 : Int64) < ((v8 - v0) * (v8 - v4)))) && (!(decide ((0 : Int64) < ((v10 - v2) * (v10 - v6))))))))]) (st' := [.int 0]) (S' := S) rfl ?_
        have e : ((b2i (decide ((F_202 v0 v2 v4 v6 v8 v10) = 0))) : Int32) = 0 := by simp [b2i, hc5]
        rw [e] at j6
        exact j6
    · refine go_run mm_205 1 (pc' := 65) (ls' := [some (.long v0), none, some (.long v2), none, some (.long v4), none, some (.long v6), none, some (.long v8), none, some (.long v10), none, some (.int (b2i (!(decide ((0 : Int64) < ((v8 - v0) * (v8 - v4)))) && (!(decide ((0 : Int64) < ((v10 - v2) * (v10 - v6))))))))]) (st' := [.int 0]) (S' := S) rfl ?_
      have e : ((b2i ((!(decide ((0 : Int64) < ((v8 - v0) * (v8 - v4)))) && (!(decide ((0 : Int64) < ((v10 - v2) * (v10 - v6)))))) && (decide ((F_202 v0 v2 v4 v6 v8 v10) = 0)))) : Int32) = 0 := by simp [b2i, hc4]
      rw [e] at j7
      exact j7
  refine go_lif mm_205 rfl rfl (p1 := 34) (p2 := 15) rfl (fun (hc1 : (0 : Int64) < ((v8 - v0) * (v8 - v4))) => ?_) (fun (hc1 : ¬ (0 : Int64) < ((v8 - v0) * (v8 - v4))) => ?_)
  · refine go_run mm_205 1 (pc' := 35) (ls' := [some (.long v0), none, some (.long v2), none, some (.long v4), none, some (.long v6), none, some (.long v8), none, some (.long v10), none, none]) (st' := [.int 0]) (S' := S) rfl ?_
    have e : ((b2i (!(decide ((0 : Int64) < ((v8 - v0) * (v8 - v4)))) && (!(decide ((0 : Int64) < ((v10 - v2) * (v10 - v6))))))) : Int32) = 0 := by simp [b2i, hc1]
    rw [e] at j8
    exact j8
  · refine go_run mm_205 8 (pc' := 26) (ls' := [some (.long v0), none, some (.long v2), none, some (.long v4), none, some (.long v6), none, some (.long v8), none, some (.long v10), none, none]) (st' := [.long 0, .long ((v10 - v2) * (v10 - v6))]) (S' := S) rfl ?_
    have j3 : Go XM (d + 1) 205 0 35 [some (.long v0), none, some (.long v2), none, some (.long v4), none, some (.long v6), none, some (.long v8), none, some (.long v10), none, none] [.int (b2i (!(decide ((0 : Int64) < ((v10 - v2) * (v10 - v6))))))] S (RV (vZ r) S) := by
      have e : ((b2i (!(decide ((0 : Int64) < ((v8 - v0) * (v8 - v4)))) && (!(decide ((0 : Int64) < ((v10 - v2) * (v10 - v6))))))) : Int32) = (b2i (!(decide ((0 : Int64) < ((v10 - v2) * (v10 - v6)))))) := by simp [b2i, hc1]
      rw [e] at j8
      exact j8
    refine go_lif mm_205 rfl rfl (p1 := 34) (p2 := 30) rfl (fun (hc2 : (0 : Int64) < ((v10 - v2) * (v10 - v6))) => ?_) (fun (hc2 : ¬ (0 : Int64) < ((v10 - v2) * (v10 - v6))) => ?_)
    · refine go_run mm_205 1 (pc' := 35) (ls' := [some (.long v0), none, some (.long v2), none, some (.long v4), none, some (.long v6), none, some (.long v8), none, some (.long v10), none, none]) (st' := [.int 0]) (S' := S) rfl ?_
      have e : ((b2i (!(decide ((0 : Int64) < ((v10 - v2) * (v10 - v6)))))) : Int32) = 0 := by simp [b2i, hc2]
      rw [e] at j3
      exact j3
    · refine go_run mm_205 2 (pc' := 35) (ls' := [some (.long v0), none, some (.long v2), none, some (.long v4), none, some (.long v6), none, some (.long v8), none, some (.long v10), none, none]) (st' := [.int 1]) (S' := S) rfl ?_
      have e : ((b2i (!(decide ((0 : Int64) < ((v10 - v2) * (v10 - v6)))))) : Int32) = 1 := by simp [b2i, hc2]
      rw [e] at j3
      exact j3
