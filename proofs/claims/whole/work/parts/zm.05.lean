/-! methods as functions (printed by a program): 201 load, 215 at, 216 all, 217 has, 218 count, 219 told, 220 vertices, 221 points, 222 guards, 223 treasures, 224 undoable, 225 noVertex, 226 noPoint, 227 noGuard, 228 vertexX, 229 vertexY, 230 pointX, 231 pointY, 232 pointAt, 233 turned, 234 doubleArea, 235 turn, 236 reflexVertices -/
noncomputable def Lm_201_98 (v1 : Int32) (a98 : Int32 × ST) : Option ((Int32 × ST) ⊕ (Int32 × ST)) := if a98.1 < 63 then (ck (ibd a98.1 63) (ck (ibd a98.1 63) (sbn ((wI a98.2 141 (Int32.toNatClampNeg a98.1) (a98.2.1 146 (Int32.toNatClampNeg a98.1)))) (fun s9 => some (.inl (a98.1 + 1, s9)))))) else (some (.inr (a98.1, a98.2)))
set_option maxRecDepth 20000 in
theorem LSm_201_98 {d : Nat} {R : RT} {v1 : Int32} {a98 : Int32 × ST} {r9} (hr : Lm_201_98 v1 a98 = some r9) (hL : ∀ a9, r9 = .inl a9 → (fun a98 => Go XM (d + 9) 201 0 98 [some (.ref 140), some (.int v1), some (.int a98.1)] [] a98.2 R) a9) (hR : ∀ b9, r9 = .inr b9 → (fun e98 => Go XM (d + 9) 201 0 122 [some (.ref 140), some (.int v1), some (.int e98.1)] [] e98.2 R) b9) : Go XM (d + 9) 201 0 98 [some (.ref 140), some (.int v1), some (.int a98.1)] [] a98.2 R := by
  unfold Lm_201_98 at hr
  refine go_run mm_201 2 (pc' := 101) (ls' := [some (.ref 140), some (.int v1), some (.int a98.1)]) (st' := [.int 63, .int a98.1]) (S' := a98.2) rfl ?_
  refine go_if2 mm_201 rfl (p1 := 104) (p2 := 122) rfl (fun (hc6 : a98.1 < 63) => ?_) (fun (hc6 : ¬ a98.1 < 63) => ?_)
  · rw [if_pos hc6] at hr
    refine go_run mm_201 6 (pc' := 114) (ls' := [some (.ref 140), some (.int v1), some (.int a98.1)]) (st' := [.int a98.1, .ref 146, .int a98.1, .ref 141]) (S' := a98.2) rfl ?_
    obtain ⟨hb7, hr⟩ := ck_some hr
    refine go_iaload mm_201 (q := (Int32.toNatClampNeg a98.1)) rfl rfl rfl (ibd_ok hb7) ?_
    show Go XM (d + 9) 201 0 115 [some (.ref 140), some (.int v1), some (.int a98.1)] [.int (a98.2.1 146 (Int32.toNatClampNeg a98.1)), .int a98.1, .ref 141] a98.2 R
    obtain ⟨hb8, hr⟩ := ck_some hr
    refine go_iastore mm_201 (q := (Int32.toNatClampNeg a98.1)) rfl rfl rfl (ibd_ok hb8) ?_
    show Go XM (d + 9) 201 0 116 [some (.ref 140), some (.int v1), some (.int a98.1)] [] (wI a98.2 141 (Int32.toNatClampNeg a98.1) (a98.2.1 146 (Int32.toNatClampNeg a98.1))) R
    obtain ⟨s9, es9, hr⟩ := sbn_some hr
    rw [← es9]
    refine go_run mm_201 2 (pc' := 98) (ls' := [some (.ref 140), some (.int v1), some (.int (a98.1 + 1))]) (st' := []) (S' := s9) rfl ?_
    cases hr
    have h9 := hL (a98.1 + 1, s9) rfl
    dsimp only at h9
    exact Go.le h9 (by repeat first | exact True.intro | refine And.intro rfl ?_)
  · rw [if_neg hc6] at hr
    cases hr
    have h9 := hR (a98.1, a98.2) rfl
    dsimp only [Sum.elim_inl] at h9
    exact Go.le h9 (by repeat first | exact True.intro | refine And.intro rfl ?_)
noncomputable def F_201 (v1 : Int32) (S : ST) : Option (Int32 × ST) := ob (F_183 (!(F_182 v1 0 (S.1 140 7))) 1 (wI S 140 0 0)) (fun w1 => if w1.1 = true then (some (0, w1.2)) else (ob (F_200 v1 (wI w1.2 140 7 0)) (fun w2 => ob (F_183 (!(decide ((w2.2.1 140 17) = 0))) 2 (wI (wI w2.2 140 8 (w2.2.1 140 17)) 140 9 (if (w2.2.1 140 17) = 0 then (-1) else w2.2.1 140 18))) (fun w3 => if w3.1 = true then (some (0, w3.2)) else (ob (wh FU (Lm_201_98 v1) (0, (wI w3.2 140 1 1))) (fun e98 => ob (F_214 (wI (wI (wI (wI e98.2 140 4 0) 143 0 0) 143 1 0) 140 27 0)) (fun w4 => some (w4.2.1 140 20, w4.2))))))))
set_option maxRecDepth 20000 in
theorem S_201 {d : Nat} {S : ST} {v1 : Int32} {r} (hr : F_201 v1 S = some r) : Cal XM (d + 9) 201 [.ref 140, .int v1] S (RV (vI r.1) r.2) := by
  unfold F_201 at hr
  refine cal_go 1 rfl ?_
  refine go_run mm_201 8 (pc' := 12) (ls' := [some (.ref 140), some (.int v1), none]) (st' := [.int (S.1 140 7), .int 0, .int v1, .ref 140]) (S' := (wI S 140 0 0)) rfl ?_
  refine go_cs mm_201 (av := [.int v1, .int 0, .int (S.1 140 7)]) (rest := [.ref 140]) (nl := 3) rfl (show csOK 201 12 148 182 3 3 = true by decide +kernel) rfl rfl rfl (S_182 rfl) (KP_V ?_)
  show Go XM (d + 9) 201 0 15 [some (.ref 140), some (.int v1), none] [.int (b2i (F_182 v1 0 (S.1 140 7))), .ref 140] (wI S 140 0 0) (RV (vI r.1) r.2)
  have j12 : Go XM (d + 9) 201 0 23 [some (.ref 140), some (.int v1), none] [.int (b2i (!(F_182 v1 0 (S.1 140 7)))), .ref 140] (wI S 140 0 0) (RV (vI r.1) r.2) := by
    refine go_run mm_201 1 (pc' := 24) (ls' := [some (.ref 140), some (.int v1), none]) (st' := [.int 1, .int (b2i (!(F_182 v1 0 (S.1 140 7)))), .ref 140]) (S' := (wI S 140 0 0)) rfl ?_
    obtain ⟨w1, hw1, hr⟩ := ob_some hr
    refine go_cv mm_201 (h := 140) (As := [.int (b2i (!(F_182 v1 0 (S.1 140 7)))), .int 1]) (rest := []) (nl := 3) rfl rfl (show cvOK 201 24 86 183 2 3 11 = true by decide +kernel) rfl rfl rfl (S_183 hw1) (KP_V ?_)
    show Go XM (d + 9) 201 0 27 [some (.ref 140), some (.int v1), none] [.int (b2i w1.1)] w1.2 (RV (vI r.1) r.2)
    refine go_ifb mm_201 rfl (p1 := 30) (p2 := 32) rfl (fun (hc2 : w1.1 = true) => ?_) (fun (hc2 : w1.1 = false) => ?_)
    · rw [if_pos hc2] at hr
      refine go_run mm_201 1 (pc' := 31) (ls' := [some (.ref 140), some (.int v1), none]) (st' := [.int 0]) (S' := w1.2) rfl ?_
      cases hr
      exact go_ireturn mm_201 rfl rfl ⟨rfl, rfl, rfl⟩
    · rw [if_neg (bf hc2)] at hr
      refine go_run mm_201 5 (pc' := 39) (ls' := [some (.ref 140), some (.int v1), none]) (st' := [.int v1, .ref 140]) (S' := (wI w1.2 140 7 0)) rfl ?_
      obtain ⟨w2, hw2, hr⟩ := ob_some hr
      refine go_cv mm_201 (h := 140) (As := [.int v1]) (rest := []) (nl := 3) rfl rfl (show cvOK 201 39 189 200 1 3 11 = true by decide +kernel) rfl rfl rfl (S_200 hw2) (KP_V ?_)
      show Go XM (d + 9) 201 0 42 [some (.ref 140), some (.int v1), none] [] w2.2 (RV (vI r.1) r.2)
      refine go_run mm_201 7 (pc' := 55) (ls' := [some (.ref 140), some (.int v1), none]) (st' := [.int (w2.2.1 140 17), .ref 140]) (S' := (wI w2.2 140 8 (w2.2.1 140 17))) rfl ?_
      have j11 : Go XM (d + 9) 201 0 66 [some (.ref 140), some (.int v1), none] [.int (if (w2.2.1 140 17) = 0 then (-1) else w2.2.1 140 18), .ref 140] (wI w2.2 140 8 (w2.2.1 140 17)) (RV (vI r.1) r.2) := by
        refine go_run mm_201 4 (pc' := 74) (ls' := [some (.ref 140), some (.int v1), none]) (st' := [.int (w2.2.1 140 17), .ref 140]) (S' := (wI (wI w2.2 140 8 (w2.2.1 140 17)) 140 9 (if (w2.2.1 140 17) = 0 then (-1) else w2.2.1 140 18))) rfl ?_
        have j10 : Go XM (d + 9) 201 0 82 [some (.ref 140), some (.int v1), none] [.int (b2i (!(decide ((w2.2.1 140 17) = 0)))), .ref 140] (wI (wI w2.2 140 8 (w2.2.1 140 17)) 140 9 (if (w2.2.1 140 17) = 0 then (-1) else w2.2.1 140 18)) (RV (vI r.1) r.2) := by
          refine go_run mm_201 1 (pc' := 83) (ls' := [some (.ref 140), some (.int v1), none]) (st' := [.int 2, .int (b2i (!(decide ((w2.2.1 140 17) = 0)))), .ref 140]) (S' := (wI (wI w2.2 140 8 (w2.2.1 140 17)) 140 9 (if (w2.2.1 140 17) = 0 then (-1) else w2.2.1 140 18))) rfl ?_
          obtain ⟨w3, hw3, hr⟩ := ob_some hr
          refine go_cv mm_201 (h := 140) (As := [.int (b2i (!(decide ((w2.2.1 140 17) = 0)))), .int 2]) (rest := []) (nl := 3) rfl rfl (show cvOK 201 83 86 183 2 3 11 = true by decide +kernel) rfl rfl rfl (S_183 hw3) (KP_V ?_)
          show Go XM (d + 9) 201 0 86 [some (.ref 140), some (.int v1), none] [.int (b2i w3.1)] w3.2 (RV (vI r.1) r.2)
          refine go_ifb mm_201 rfl (p1 := 89) (p2 := 91) rfl (fun (hc5 : w3.1 = true) => ?_) (fun (hc5 : w3.1 = false) => ?_)
          · rw [if_pos hc5] at hr
            refine go_run mm_201 1 (pc' := 90) (ls' := [some (.ref 140), some (.int v1), none]) (st' := [.int 0]) (S' := w3.2) rfl ?_
            cases hr
            exact go_ireturn mm_201 rfl rfl ⟨rfl, rfl, rfl⟩
          · rw [if_neg (bf hc5)] at hr
            refine go_run mm_201 5 (pc' := 98) (ls' := [some (.ref 140), some (.int v1), some (.int 0)]) (st' := []) (S' := (wI w3.2 140 1 1)) rfl ?_
            obtain ⟨z98, he98, hr⟩ := ob_some hr
            refine Go.le (ls' := [some (.ref 140), some (.int v1), some (.int 0)]) ?_ (by repeat first | exact True.intro | refine And.intro rfl ?_)
            refine wh_go (P := fun a98 => Go XM (d + 9) 201 0 98 [some (.ref 140), some (.int v1), some (.int a98.1)] [] a98.2 (RV (vI r.1) r.2)) (K := fun e98 => Go XM (d + 9) 201 0 122 [some (.ref 140), some (.int v1), some (.int e98.1)] [] e98.2 (RV (vI r.1) r.2)) (fun a9 r9 h9 hL hR => LSm_201_98 h9 hL hR) _ _ _ he98 ?_
            generalize z98 = e98 at hr
            show Go XM (d + 9) 201 0 122 [some (.ref 140), some (.int v1), some (.int e98.1)] [] e98.2 (RV (vI r.1) r.2)
            refine go_run mm_201 7 (pc' := 133) (ls' := [some (.ref 140), some (.int v1), some (.int e98.1)]) (st' := [.int 0, .int 0, .ref 143]) (S' := (wI e98.2 140 4 0)) rfl ?_
            refine go_bastore mm_201 (q := 0) rfl rfl rfl (inB_lit rfl) (Or.inl rfl) ?_
            show Go XM (d + 9) 201 0 134 [some (.ref 140), some (.int v1), some (.int e98.1)] [] (wI (wI e98.2 140 4 0) 143 0 0) (RV (vI r.1) r.2)
            refine go_run mm_201 4 (pc' := 140) (ls' := [some (.ref 140), some (.int v1), some (.int e98.1)]) (st' := [.int 0, .int 1, .ref 143]) (S' := (wI (wI e98.2 140 4 0) 143 0 0)) rfl ?_
            refine go_bastore mm_201 (q := 1) rfl rfl rfl (inB_lit rfl) (Or.inl rfl) ?_
            show Go XM (d + 9) 201 0 141 [some (.ref 140), some (.int v1), some (.int e98.1)] [] (wI (wI (wI e98.2 140 4 0) 143 0 0) 143 1 0) (RV (vI r.1) r.2)
            refine go_run mm_201 4 (pc' := 147) (ls' := [some (.ref 140), some (.int v1), some (.int e98.1)]) (st' := [.ref 140]) (S' := (wI (wI (wI (wI e98.2 140 4 0) 143 0 0) 143 1 0) 140 27 0)) rfl ?_
            obtain ⟨w4, hw4, hr⟩ := ob_some hr
            refine go_cv mm_201 (h := 140) (As := []) (rest := []) (nl := 4) rfl rfl (show cvOK 201 147 198 214 0 4 11 = true by decide +kernel) rfl rfl rfl (S_214 hw4) (KP_V ?_)
            show Go XM (d + 9) 201 0 150 [some (.ref 140), some (.int v1), some (.int e98.1)] [] w4.2 (RV (vI r.1) r.2)
            refine go_run mm_201 2 (pc' := 154) (ls' := [some (.ref 140), some (.int v1), some (.int e98.1)]) (st' := [.int (w4.2.1 140 20)]) (S' := w4.2) rfl ?_
            cases hr
            exact go_ireturn mm_201 rfl rfl ⟨rfl, rfl, rfl⟩
        refine go_if0 mm_201 rfl (p1 := 81) (p2 := 77) rfl (fun (hc4 : (w2.2.1 140 17) = 0) => ?_) (fun (hc4 : ¬ (w2.2.1 140 17) = 0) => ?_)
        · refine go_run mm_201 1 (pc' := 82) (ls' := [some (.ref 140), some (.int v1), none]) (st' := [.int 0, .ref 140]) (S' := (wI (wI w2.2 140 8 (w2.2.1 140 17)) 140 9 (if (w2.2.1 140 17) = 0 then (-1) else w2.2.1 140 18))) rfl ?_
          have e : ((b2i (!(decide ((w2.2.1 140 17) = 0)))) : Int32) = 0 := by simp [b2i, hc4]
          rw [e] at j10
          exact j10
        · refine go_run mm_201 2 (pc' := 82) (ls' := [some (.ref 140), some (.int v1), none]) (st' := [.int 1, .ref 140]) (S' := (wI (wI w2.2 140 8 (w2.2.1 140 17)) 140 9 (if (w2.2.1 140 17) = 0 then (-1) else w2.2.1 140 18))) rfl ?_
          have e : ((b2i (!(decide ((w2.2.1 140 17) = 0)))) : Int32) = 1 := by simp [b2i, hc4]
          rw [e] at j10
          exact j10
      refine go_if0 mm_201 rfl (p1 := 58) (p2 := 62) rfl (fun (hc3 : (w2.2.1 140 17) = 0) => ?_) (fun (hc3 : ¬ (w2.2.1 140 17) = 0) => ?_)
      · refine go_run mm_201 2 (pc' := 66) (ls' := [some (.ref 140), some (.int v1), none]) (st' := [.int (-1), .ref 140]) (S' := (wI w2.2 140 8 (w2.2.1 140 17))) rfl ?_
        have e : ((if (w2.2.1 140 17) = 0 then (-1) else w2.2.1 140 18) : Int32) = (-1) := by simp [b2i, hc3]
        rw [e] at j11
        exact j11
      · refine go_run mm_201 2 (pc' := 66) (ls' := [some (.ref 140), some (.int v1), none]) (st' := [.int (w2.2.1 140 18), .ref 140]) (S' := (wI w2.2 140 8 (w2.2.1 140 17))) rfl ?_
        have e : ((if (w2.2.1 140 17) = 0 then (-1) else w2.2.1 140 18) : Int32) = w2.2.1 140 18 := by simp [b2i, hc3]
        rw [e] at j11
        exact j11
  refine go_ifb mm_201 rfl (p1 := 22) (p2 := 18) rfl (fun (hc1 : (F_182 v1 0 (S.1 140 7)) = true) => ?_) (fun (hc1 : (F_182 v1 0 (S.1 140 7)) = false) => ?_)
  · refine go_run mm_201 1 (pc' := 23) (ls' := [some (.ref 140), some (.int v1), none]) (st' := [.int 0, .ref 140]) (S' := (wI S 140 0 0)) rfl ?_
    have e : ((b2i (!(F_182 v1 0 (S.1 140 7)))) : Int32) = 0 := by simp [b2i, hc1]
    rw [e] at j12
    exact j12
  · refine go_run mm_201 2 (pc' := 23) (ls' := [some (.ref 140), some (.int v1), none]) (st' := [.int 1, .ref 140]) (S' := (wI S 140 0 0)) rfl ?_
    have e : ((b2i (!(F_182 v1 0 (S.1 140 7)))) : Int32) = 1 := by simp [b2i, hc1]
    rw [e] at j12
    exact j12

noncomputable def F_215 (v1 : Int32) (v2 : Int32) (S : ST) : Int32 := (f_215 S v1 v2)
theorem S_215 {d : Nat} {S : ST} {v1 : Int32} {v2 : Int32} {r} (hr : F_215 v1 v2 S = r) : Cal XM (d + 1) 215 [.ref 140, .int v1, .int v2] S (RV (vI r) S) := by
  unfold F_215 at hr
  subst hr
  exact sq_215

noncomputable def F_216 (S : ST) : Int64 := (if (S.1 140 20) = 64 then (-1) else (1 <<< (Int32.toInt64 (S.1 140 20) &&& 63)) - 1)
set_option maxRecDepth 20000 in
theorem S_216 {d : Nat} {S : ST} {r} (hr : F_216 S = r) : Cal XM d 216 [.ref 140] S (RV (vJ r) S) := by
  unfold F_216 at hr
  refine cal_go 0 rfl ?_
  refine go_run mm_216 3 (pc' := 6) (ls' := [some (.ref 140)]) (st' := [.int 64, .int (S.1 140 20)]) (S' := S) rfl ?_
  have j2 : Go XM d 216 0 23 [some (.ref 140)] [.long (if (S.1 140 20) = 64 then (-1) else (1 <<< (Int32.toInt64 (S.1 140 20) &&& 63)) - 1)] S (RV (vJ r) S) := by
    cases hr
    exact go_lreturn mm_216 rfl rfl ⟨rfl, rfl, rfl⟩
  refine go_if2 mm_216 rfl (p1 := 9) (p2 := 15) rfl (fun (hc1 : (S.1 140 20) = 64) => ?_) (fun (hc1 : ¬ (S.1 140 20) = 64) => ?_)
  · refine go_run mm_216 2 (pc' := 23) (ls' := [some (.ref 140)]) (st' := [.long (-1)]) (S' := S) rfl ?_
    have e : ((if (S.1 140 20) = 64 then (-1) else (1 <<< (Int32.toInt64 (S.1 140 20) &&& 63)) - 1) : Int64) = (-1) := by simp [hc1]
    rw [e] at j2
    exact j2
  · refine go_run mm_216 6 (pc' := 23) (ls' := [some (.ref 140)]) (st' := [.long ((1 <<< (Int32.toInt64 (S.1 140 20) &&& 63)) - 1)]) (S' := S) rfl ?_
    have e : ((if (S.1 140 20) = 64 then (-1) else (1 <<< (Int32.toInt64 (S.1 140 20) &&& 63)) - 1) : Int64) = (1 <<< (Int32.toInt64 (S.1 140 20) &&& 63)) - 1 := by simp [hc1]
    rw [e] at j2
    exact j2

noncomputable def F_217 (v0 : Int64) (v2 : Int32) : Bool := (decide (((v0 >>> (Int32.toInt64 v2 &&& 63)) &&& 1) = 1))
set_option maxRecDepth 20000 in
theorem S_217 {d : Nat} {S : ST} {v0 : Int64} {v2 : Int32} {r} (hr : F_217 v0 v2 = r) : Cal XM d 217 [.long v0, .int v2] S (RV (vZ r) S) := by
  unfold F_217 at hr
  refine cal_go 0 rfl ?_
  refine go_run mm_217 6 (pc' := 6) (ls' := [some (.long v0), none, some (.int v2)]) (st' := [.long 1, .long ((v0 >>> (Int32.toInt64 v2 &&& 63)) &&& 1)]) (S' := S) rfl ?_
  have j2 : Go XM d 217 0 15 [some (.long v0), none, some (.int v2)] [.int (b2i (decide (((v0 >>> (Int32.toInt64 v2 &&& 63)) &&& 1) = 1)))] S (RV (vZ r) S) := by
    cases hr
    exact go_zreturn mm_217 rfl rfl (b2i_01 _) ⟨rfl, rfl, rfl⟩
  refine go_lif mm_217 rfl rfl (p1 := 10) (p2 := 14) rfl (fun (hc1 : ((v0 >>> (Int32.toInt64 v2 &&& 63)) &&& 1) = 1) => ?_) (fun (hc1 : ¬ ((v0 >>> (Int32.toInt64 v2 &&& 63)) &&& 1) = 1) => ?_)
  · refine go_run mm_217 2 (pc' := 15) (ls' := [some (.long v0), none, some (.int v2)]) (st' := [.int 1]) (S' := S) rfl ?_
    have e : ((b2i (decide (((v0 >>> (Int32.toInt64 v2 &&& 63)) &&& 1) = 1))) : Int32) = 1 := by simp [b2i, hc1]
    rw [e] at j2
    exact j2
  · refine go_run mm_217 1 (pc' := 15) (ls' := [some (.long v0), none, some (.int v2)]) (st' := [.int 0]) (S' := S) rfl ?_
    have e : ((b2i (decide (((v0 >>> (Int32.toInt64 v2 &&& 63)) &&& 1) = 1))) : Int32) = 0 := by simp [b2i, hc1]
    rw [e] at j2
    exact j2

noncomputable def F_218 (v0 : Int64) : Int32 := (f_218 v0)
theorem S_218 {d : Nat} {S : ST} {v0 : Int64} {r} (hr : F_218 v0 = r) : Cal XM d 218 [.long v0] S (RV (vI r) S) := by
  unfold F_218 at hr
  subst hr
  exact sq_218

noncomputable def F_219 (v1 : Int32) (S : ST) : Option (Int32 × ST) := some ((if (S.1 140 1) = 0 then 0 else v1), (wI S 140 0 0))
set_option maxRecDepth 20000 in
theorem S_219 {d : Nat} {S : ST} {v1 : Int32} {r} (hr : F_219 v1 S = some r) : Cal XM d 219 [.ref 140, .int v1] S (RV (vI r.1) r.2) := by
  unfold F_219 at hr
  refine cal_go 0 rfl ?_
  refine go_run mm_219 5 (pc' := 9) (ls' := [some (.ref 140), some (.int v1)]) (st' := [.int (S.1 140 1)]) (S' := (wI S 140 0 0)) rfl ?_
  have j2 : Go XM d 219 0 17 [some (.ref 140), some (.int v1)] [.int (if (S.1 140 1) = 0 then 0 else v1)] (wI S 140 0 0) (RV (vI r.1) r.2) := by
    cases hr
    exact go_ireturn mm_219 rfl rfl ⟨rfl, rfl, rfl⟩
  refine go_if0 mm_219 rfl (p1 := 16) (p2 := 12) rfl (fun (hc1 : (S.1 140 1) = 0) => ?_) (fun (hc1 : ¬ (S.1 140 1) = 0) => ?_)
  · refine go_run mm_219 1 (pc' := 17) (ls' := [some (.ref 140), some (.int v1)]) (st' := [.int 0]) (S' := (wI S 140 0 0)) rfl ?_
    have e : ((if (S.1 140 1) = 0 then 0 else v1) : Int32) = 0 := by simp [b2i, hc1]
    rw [e] at j2
    exact j2
  · refine go_run mm_219 2 (pc' := 17) (ls' := [some (.ref 140), some (.int v1)]) (st' := [.int v1]) (S' := (wI S 140 0 0)) rfl ?_
    have e : ((if (S.1 140 1) = 0 then 0 else v1) : Int32) = v1 := by simp [b2i, hc1]
    rw [e] at j2
    exact j2

noncomputable def F_220 (S : ST) : Option (Int32 × ST) := ob (F_219 (S.1 141 0) S) (fun w1 => some (w1.1, w1.2))
set_option maxRecDepth 20000 in
theorem S_220 {d : Nat} {S : ST} {r} (hr : F_220 S = some r) : Cal XM (d + 1) 220 [.ref 140] S (RV (vI r.1) r.2) := by
  unfold F_220 at hr
  refine cal_go 0 rfl ?_
  refine go_run mm_220 4 (pc' := 6) (ls' := [some (.ref 140)]) (st' := [.int 0, .ref 141, .ref 140]) (S' := S) rfl ?_
  refine go_iaload mm_220 (q := 0) rfl rfl rfl (inB_lit rfl) ?_
  show Go XM (d + 1) 220 0 7 [some (.ref 140)] [.int (S.1 141 0), .ref 140] S (RV (vI r.1) r.2)
  obtain ⟨w1, hw1, hr⟩ := ob_some hr
  refine go_cv mm_220 (h := 140) (As := [.int (S.1 141 0)]) (rest := []) (nl := 2) rfl rfl (show cvOK 220 7 244 219 1 2 11 = true by decide +kernel) rfl rfl rfl (S_219 hw1) (KP_V ?_)
  show Go XM (d + 1) 220 0 10 [some (.ref 140)] [.int w1.1] w1.2 (RV (vI r.1) r.2)
  cases hr
  exact go_ireturn mm_220 rfl rfl ⟨rfl, rfl, rfl⟩

noncomputable def F_221 (S : ST) : Option (Int32 × ST) := ob (F_219 (S.1 140 20) S) (fun w1 => some (w1.1, w1.2))
set_option maxRecDepth 20000 in
theorem S_221 {d : Nat} {S : ST} {r} (hr : F_221 S = some r) : Cal XM (d + 1) 221 [.ref 140] S (RV (vI r.1) r.2) := by
  unfold F_221 at hr
  refine cal_go 0 rfl ?_
  refine go_run mm_221 3 (pc' := 5) (ls' := [some (.ref 140)]) (st' := [.int (S.1 140 20), .ref 140]) (S' := S) rfl ?_
  obtain ⟨w1, hw1, hr⟩ := ob_some hr
  refine go_cv mm_221 (h := 140) (As := [.int (S.1 140 20)]) (rest := []) (nl := 2) rfl rfl (show cvOK 221 5 244 219 1 2 11 = true by decide +kernel) rfl rfl rfl (S_219 hw1) (KP_V ?_)
  show Go XM (d + 1) 221 0 8 [some (.ref 140)] [.int w1.1] w1.2 (RV (vI r.1) r.2)
  cases hr
  exact go_ireturn mm_221 rfl rfl ⟨rfl, rfl, rfl⟩

noncomputable def F_222 (S : ST) : Option (Int32 × ST) := ob (F_219 (S.1 141 1) S) (fun w1 => some (w1.1, w1.2))
set_option maxRecDepth 20000 in
theorem S_222 {d : Nat} {S : ST} {r} (hr : F_222 S = some r) : Cal XM (d + 1) 222 [.ref 140] S (RV (vI r.1) r.2) := by
  unfold F_222 at hr
  refine cal_go 0 rfl ?_
  refine go_run mm_222 4 (pc' := 6) (ls' := [some (.ref 140)]) (st' := [.int 1, .ref 141, .ref 140]) (S' := S) rfl ?_
  refine go_iaload mm_222 (q := 1) rfl rfl rfl (inB_lit rfl) ?_
  show Go XM (d + 1) 222 0 7 [some (.ref 140)] [.int (S.1 141 1), .ref 140] S (RV (vI r.1) r.2)
  obtain ⟨w1, hw1, hr⟩ := ob_some hr
  refine go_cv mm_222 (h := 140) (As := [.int (S.1 141 1)]) (rest := []) (nl := 2) rfl rfl (show cvOK 222 7 244 219 1 2 11 = true by decide +kernel) rfl rfl rfl (S_219 hw1) (KP_V ?_)
  show Go XM (d + 1) 222 0 10 [some (.ref 140)] [.int w1.1] w1.2 (RV (vI r.1) r.2)
  cases hr
  exact go_ireturn mm_222 rfl rfl ⟨rfl, rfl, rfl⟩

noncomputable def F_223 (S : ST) : Option (Int32 × ST) := ob (F_219 (S.1 141 2) S) (fun w1 => some (w1.1, w1.2))
set_option maxRecDepth 20000 in
theorem S_223 {d : Nat} {S : ST} {r} (hr : F_223 S = some r) : Cal XM (d + 1) 223 [.ref 140] S (RV (vI r.1) r.2) := by
  unfold F_223 at hr
  refine cal_go 0 rfl ?_
  refine go_run mm_223 4 (pc' := 6) (ls' := [some (.ref 140)]) (st' := [.int 2, .ref 141, .ref 140]) (S' := S) rfl ?_
  refine go_iaload mm_223 (q := 2) rfl rfl rfl (inB_lit rfl) ?_
  show Go XM (d + 1) 223 0 7 [some (.ref 140)] [.int (S.1 141 2), .ref 140] S (RV (vI r.1) r.2)
  obtain ⟨w1, hw1, hr⟩ := ob_some hr
  refine go_cv mm_223 (h := 140) (As := [.int (S.1 141 2)]) (rest := []) (nl := 2) rfl rfl (show cvOK 223 7 244 219 1 2 11 = true by decide +kernel) rfl rfl rfl (S_219 hw1) (KP_V ?_)
  show Go XM (d + 1) 223 0 10 [some (.ref 140)] [.int w1.1] w1.2 (RV (vI r.1) r.2)
  cases hr
  exact go_ireturn mm_223 rfl rfl ⟨rfl, rfl, rfl⟩

noncomputable def F_224 (S : ST) : Option (Int32 × ST) := ob (F_219 (S.1 140 4) S) (fun w1 => some (w1.1, w1.2))
set_option maxRecDepth 20000 in
theorem S_224 {d : Nat} {S : ST} {r} (hr : F_224 S = some r) : Cal XM (d + 1) 224 [.ref 140] S (RV (vI r.1) r.2) := by
  unfold F_224 at hr
  refine cal_go 0 rfl ?_
  refine go_run mm_224 3 (pc' := 5) (ls' := [some (.ref 140)]) (st' := [.int (S.1 140 4), .ref 140]) (S' := S) rfl ?_
  obtain ⟨w1, hw1, hr⟩ := ob_some hr
  refine go_cv mm_224 (h := 140) (As := [.int (S.1 140 4)]) (rest := []) (nl := 2) rfl rfl (show cvOK 224 5 244 219 1 2 11 = true by decide +kernel) rfl rfl rfl (S_219 hw1) (KP_V ?_)
  show Go XM (d + 1) 224 0 8 [some (.ref 140)] [.int w1.1] w1.2 (RV (vI r.1) r.2)
  cases hr
  exact go_ireturn mm_224 rfl rfl ⟨rfl, rfl, rfl⟩

noncomputable def F_225 (v1 : Int32) (S : ST) : Option (Bool × ST) := ob (F_184 S) (fun w1 => if w1.1 = true then (some (true, w1.2)) else (ob (F_183 (!(F_182 v1 0 ((w1.2.1 141 0) - 1))) 2 w1.2) (fun w2 => some (w2.1, w2.2))))
set_option maxRecDepth 20000 in
theorem S_225 {d : Nat} {S : ST} {v1 : Int32} {r} (hr : F_225 v1 S = some r) : Cal XM (d + 2) 225 [.ref 140, .int v1] S (RV (vZ r.1) r.2) := by
  unfold F_225 at hr
  refine cal_go 0 rfl ?_
  refine go_run mm_225 1 (pc' := 1) (ls' := [some (.ref 140), some (.int v1)]) (st' := [.ref 140]) (S' := S) rfl ?_
  obtain ⟨w1, hw1, hr⟩ := ob_some hr
  refine go_cv mm_225 (h := 140) (As := []) (rest := []) (nl := 1) rfl rfl (show cvOK 225 1 247 184 0 1 11 = true by decide +kernel) rfl rfl rfl (S_184 hw1) (KP_V ?_)
  show Go XM (d + 2) 225 0 4 [some (.ref 140), some (.int v1)] [.int (b2i w1.1)] w1.2 (RV (vZ r.1) r.2)
  refine go_ifb mm_225 rfl (p1 := 36) (p2 := 7) rfl (fun (hc1 : w1.1 = true) => ?_) (fun (hc1 : w1.1 = false) => ?_)
  · rw [if_pos hc1] at hr
    refine go_run mm_225 2 (pc' := 41) (ls' := [some (.ref 140), some (.int v1)]) (st' := [.int 1]) (S' := w1.2) rfl ?_
    cases hr
    exact go_zreturn mm_225 rfl rfl (Or.inr rfl) ⟨rfl, rfl, rfl⟩
  · rw [if_neg (bf hc1)] at hr
    refine go_run mm_225 6 (pc' := 15) (ls' := [some (.ref 140), some (.int v1)]) (st' := [.int 0, .ref 141, .int 0, .int v1, .ref 140]) (S' := w1.2) rfl ?_
    refine go_iaload mm_225 (q := 0) rfl rfl rfl (inB_lit rfl) ?_
    show Go XM (d + 2) 225 0 16 [some (.ref 140), some (.int v1)] [.int (w1.2.1 141 0), .int 0, .int v1, .ref 140] w1.2 (RV (vZ r.1) r.2)
    refine go_run mm_225 2 (pc' := 18) (ls' := [some (.ref 140), some (.int v1)]) (st' := [.int ((w1.2.1 141 0) - 1), .int 0, .int v1, .ref 140]) (S' := w1.2) rfl ?_
    refine go_cs mm_225 (av := [.int v1, .int 0, .int ((w1.2.1 141 0) - 1)]) (rest := [.ref 140]) (nl := 3) rfl (show csOK 225 18 148 182 3 3 = true by decide +kernel) rfl rfl rfl (S_182 rfl) (KP_V ?_)
    show Go XM (d + 2) 225 0 21 [some (.ref 140), some (.int v1)] [.int (b2i (F_182 v1 0 ((w1.2.1 141 0) - 1))), .ref 140] w1.2 (RV (vZ r.1) r.2)
    have j5 : Go XM (d + 2) 225 0 29 [some (.ref 140), some (.int v1)] [.int (b2i (!(F_182 v1 0 ((w1.2.1 141 0) - 1)))), .ref 140] w1.2 (RV (vZ r.1) r.2) := by
      refine go_run mm_225 1 (pc' := 30) (ls' := [some (.ref 140), some (.int v1)]) (st' := [.int 2, .int (b2i (!(F_182 v1 0 ((w1.2.1 141 0) - 1)))), .ref 140]) (S' := w1.2) rfl ?_
      obtain ⟨w2, hw2, hr⟩ := ob_some hr
      refine go_cv mm_225 (h := 140) (As := [.int (b2i (!(F_182 v1 0 ((w1.2.1 141 0) - 1)))), .int 2]) (rest := []) (nl := 3) rfl rfl (show cvOK 225 30 86 183 2 3 11 = true by decide +kernel) rfl rfl rfl (S_183 hw2) (KP_V ?_)
      show Go XM (d + 2) 225 0 33 [some (.ref 140), some (.int v1)] [.int (b2i w2.1)] w2.2 (RV (vZ r.1) r.2)
      have j4 : Go XM (d + 2) 225 0 41 [some (.ref 140), some (.int v1)] [.int (b2i w2.1)] w2.2 (RV (vZ r.1) r.2) := by
        cases hr
        exact go_zreturn mm_225 rfl rfl (b2i_01 _) ⟨rfl, rfl, rfl⟩
      refine go_ifb mm_225 rfl (p1 := 36) (p2 := 40) rfl (fun (hc3 : w2.1 = true) => ?_) (fun (hc3 : w2.1 = false) => ?_)
      · refine go_run mm_225 2 (pc' := 41) (ls' := [some (.ref 140), some (.int v1)]) (st' := [.int 1]) (S' := w2.2) rfl ?_
        have e : ((b2i w2.1) : Int32) = 1 := by simp [b2i, hc3]
        rw [e] at j4
        exact j4
      · refine go_run mm_225 1 (pc' := 41) (ls' := [some (.ref 140), some (.int v1)]) (st' := [.int 0]) (S' := w2.2) rfl ?_
        have e : ((b2i w2.1) : Int32) = 0 := by simp [b2i, hc3]
        rw [e] at j4
        exact j4
    refine go_ifb mm_225 rfl (p1 := 28) (p2 := 24) rfl (fun (hc2 : (F_182 v1 0 ((w1.2.1 141 0) - 1)) = true) => ?_) (fun (hc2 : (F_182 v1 0 ((w1.2.1 141 0) - 1)) = false) => ?_)
    · refine go_run mm_225 1 (pc' := 29) (ls' := [some (.ref 140), some (.int v1)]) (st' := [.int 0, .ref 140]) (S' := w1.2) rfl ?_
      have e : ((b2i (!(F_182 v1 0 ((w1.2.1 141 0) - 1)))) : Int32) = 0 := by simp [b2i, hc2]
      rw [e] at j5
      exact j5
    · refine go_run mm_225 2 (pc' := 29) (ls' := [some (.ref 140), some (.int v1)]) (st' := [.int 1, .ref 140]) (S' := w1.2) rfl ?_
      have e : ((b2i (!(F_182 v1 0 ((w1.2.1 141 0) - 1)))) : Int32) = 1 := by simp [b2i, hc2]
      rw [e] at j5
      exact j5

noncomputable def F_226 (v1 : Int32) (S : ST) : Option (Bool × ST) := ob (F_184 S) (fun w1 => if w1.1 = true then (some (true, w1.2)) else (ob (F_183 (!(F_182 v1 0 ((w1.2.1 140 20) - 1))) 2 w1.2) (fun w2 => some (w2.1, w2.2))))
set_option maxRecDepth 20000 in
theorem S_226 {d : Nat} {S : ST} {v1 : Int32} {r} (hr : F_226 v1 S = some r) : Cal XM (d + 2) 226 [.ref 140, .int v1] S (RV (vZ r.1) r.2) := by
  unfold F_226 at hr
  refine cal_go 0 rfl ?_
  refine go_run mm_226 1 (pc' := 1) (ls' := [some (.ref 140), some (.int v1)]) (st' := [.ref 140]) (S' := S) rfl ?_
  obtain ⟨w1, hw1, hr⟩ := ob_some hr
  refine go_cv mm_226 (h := 140) (As := []) (rest := []) (nl := 1) rfl rfl (show cvOK 226 1 247 184 0 1 11 = true by decide +kernel) rfl rfl rfl (S_184 hw1) (KP_V ?_)
  show Go XM (d + 2) 226 0 4 [some (.ref 140), some (.int v1)] [.int (b2i w1.1)] w1.2 (RV (vZ r.1) r.2)
  refine go_ifb mm_226 rfl (p1 := 34) (p2 := 7) rfl (fun (hc1 : w1.1 = true) => ?_) (fun (hc1 : w1.1 = false) => ?_)
  · rw [if_pos hc1] at hr
    refine go_run mm_226 2 (pc' := 39) (ls' := [some (.ref 140), some (.int v1)]) (st' := [.int 1]) (S' := w1.2) rfl ?_
    cases hr
    exact go_zreturn mm_226 rfl rfl (Or.inr rfl) ⟨rfl, rfl, rfl⟩
  · rw [if_neg (bf hc1)] at hr
    refine go_run mm_226 7 (pc' := 16) (ls' := [some (.ref 140), some (.int v1)]) (st' := [.int ((w1.2.1 140 20) - 1), .int 0, .int v1, .ref 140]) (S' := w1.2) rfl ?_
    refine go_cs mm_226 (av := [.int v1, .int 0, .int ((w1.2.1 140 20) - 1)]) (rest := [.ref 140]) (nl := 3) rfl (show csOK 226 16 148 182 3 3 = true by decide +kernel) rfl rfl rfl (S_182 rfl) (KP_V ?_)
    show Go XM (d + 2) 226 0 19 [some (.ref 140), some (.int v1)] [.int (b2i (F_182 v1 0 ((w1.2.1 140 20) - 1))), .ref 140] w1.2 (RV (vZ r.1) r.2)
    have j5 : Go XM (d + 2) 226 0 27 [some (.ref 140), some (.int v1)] [.int (b2i (!(F_182 v1 0 ((w1.2.1 140 20) - 1)))), .ref 140] w1.2 (RV (vZ r.1) r.2) := by
      refine go_run mm_226 1 (pc' := 28) (ls' := [some (.ref 140), some (.int v1)]) (st' := [.int 2, .int (b2i (!(F_182 v1 0 ((w1.2.1 140 20) - 1)))), .ref 140]) (S' := w1.2) rfl ?_
      obtain ⟨w2, hw2, hr⟩ := ob_some hr
      refine go_cv mm_226 (h := 140) (As := [.int (b2i (!(F_182 v1 0 ((w1.2.1 140 20) - 1)))), .int 2]) (rest := []) (nl := 3) rfl rfl (show cvOK 226 28 86 183 2 3 11 = true by decide +kernel) rfl rfl rfl (S_183 hw2) (KP_V ?_)
      show Go XM (d + 2) 226 0 31 [some (.ref 140), some (.int v1)] [.int (b2i w2.1)] w2.2 (RV (vZ r.1) r.2)
      have j4 : Go XM (d + 2) 226 0 39 [some (.ref 140), some (.int v1)] [.int (b2i w2.1)] w2.2 (RV (vZ r.1) r.2) := by
        cases hr
        exact go_zreturn mm_226 rfl rfl (b2i_01 _) ⟨rfl, rfl, rfl⟩
      refine go_ifb mm_226 rfl (p1 := 34) (p2 := 38) rfl (fun (hc3 : w2.1 = true) => ?_) (fun (hc3 : w2.1 = false) => ?_)
      · refine go_run mm_226 2 (pc' := 39) (ls' := [some (.ref 140), some (.int v1)]) (st' := [.int 1]) (S' := w2.2) rfl ?_
        have e : ((b2i w2.1) : Int32) = 1 := by simp [b2i, hc3]
        rw [e] at j4
        exact j4
      · refine go_run mm_226 1 (pc' := 39) (ls' := [some (.ref 140), some (.int v1)]) (st' := [.int 0]) (S' := w2.2) rfl ?_
        have e : ((b2i w2.1) : Int32) = 0 := by simp [b2i, hc3]
        rw [e] at j4
        exact j4
    refine go_ifb mm_226 rfl (p1 := 26) (p2 := 22) rfl (fun (hc2 : (F_182 v1 0 ((w1.2.1 140 20) - 1)) = true) => ?_) (fun (hc2 : (F_182 v1 0 ((w1.2.1 140 20) - 1)) = false) => ?_)
    · refine go_run mm_226 1 (pc' := 27) (ls' := [some (.ref 140), some (.int v1)]) (st' := [.int 0, .ref 140]) (S' := w1.2) rfl ?_
      have e : ((b2i (!(F_182 v1 0 ((w1.2.1 140 20) - 1)))) : Int32) = 0 := by simp [b2i, hc2]
      rw [e] at j5
      exact j5
    · refine go_run mm_226 2 (pc' := 27) (ls' := [some (.ref 140), some (.int v1)]) (st' := [.int 1, .ref 140]) (S' := w1.2) rfl ?_
      have e : ((b2i (!(F_182 v1 0 ((w1.2.1 140 20) - 1)))) : Int32) = 1 := by simp [b2i, hc2]
      rw [e] at j5
      exact j5

noncomputable def F_227 (v1 : Int32) (S : ST) : Option (Bool × ST) := ob (F_184 S) (fun w1 => if w1.1 = true then (some (true, w1.2)) else (ob (F_183 (!(F_182 v1 0 ((w1.2.1 141 1) - 1))) 2 w1.2) (fun w2 => some (w2.1, w2.2))))
set_option maxRecDepth 20000 in
theorem S_227 {d : Nat} {S : ST} {v1 : Int32} {r} (hr : F_227 v1 S = some r) : Cal XM (d + 2) 227 [.ref 140, .int v1] S (RV (vZ r.1) r.2) := by
  unfold F_227 at hr
  refine cal_go 0 rfl ?_
  refine go_run mm_227 1 (pc' := 1) (ls' := [some (.ref 140), some (.int v1)]) (st' := [.ref 140]) (S' := S) rfl ?_
  obtain ⟨w1, hw1, hr⟩ := ob_some hr
  refine go_cv mm_227 (h := 140) (As := []) (rest := []) (nl := 1) rfl rfl (show cvOK 227 1 247 184 0 1 11 = true by decide +kernel) rfl rfl rfl (S_184 hw1) (KP_V ?_)
  show Go XM (d + 2) 227 0 4 [some (.ref 140), some (.int v1)] [.int (b2i w1.1)] w1.2 (RV (vZ r.1) r.2)
  refine go_ifb mm_227 rfl (p1 := 36) (p2 := 7) rfl (fun (hc1 : w1.1 = true) => ?_) (fun (hc1 : w1.1 = false) => ?_)
  · rw [if_pos hc1] at hr
    refine go_run mm_227 2 (pc' := 41) (ls' := [some (.ref 140), some (.int v1)]) (st' := [.int 1]) (S' := w1.2) rfl ?_
    cases hr
    exact go_zreturn mm_227 rfl rfl (Or.inr rfl) ⟨rfl, rfl, rfl⟩
  · rw [if_neg (bf hc1)] at hr
    refine go_run mm_227 6 (pc' := 15) (ls' := [some (.ref 140), some (.int v1)]) (st' := [.int 1, .ref 141, .int 0, .int v1, .ref 140]) (S' := w1.2) rfl ?_
    refine go_iaload mm_227 (q := 1) rfl rfl rfl (inB_lit rfl) ?_
    show Go XM (d + 2) 227 0 16 [some (.ref 140), some (.int v1)] [.int (w1.2.1 141 1), .int 0, .int v1, .ref 140] w1.2 (RV (vZ r.1) r.2)
    refine go_run mm_227 2 (pc' := 18) (ls' := [some (.ref 140), some (.int v1)]) (st' := [.int ((w1.2.1 141 1) - 1), .int 0, .int v1, .ref 140]) (S' := w1.2) rfl ?_
    refine go_cs mm_227 (av := [.int v1, .int 0, .int ((w1.2.1 141 1) - 1)]) (rest := [.ref 140]) (nl := 3) rfl (show csOK 227 18 148 182 3 3 = true by decide +kernel) rfl rfl rfl (S_182 rfl) (KP_V ?_)
    show Go XM (d + 2) 227 0 21 [some (.ref 140), some (.int v1)] [.int (b2i (F_182 v1 0 ((w1.2.1 141 1) - 1))), .ref 140] w1.2 (RV (vZ r.1) r.2)
    have j5 : Go XM (d + 2) 227 0 29 [some (.ref 140), some (.int v1)] [.int (b2i (!(F_182 v1 0 ((w1.2.1 141 1) - 1)))), .ref 140] w1.2 (RV (vZ r.1) r.2) := by
      refine go_run mm_227 1 (pc' := 30) (ls' := [some (.ref 140), some (.int v1)]) (st' := [.int 2, .int (b2i (!(F_182 v1 0 ((w1.2.1 141 1) - 1)))), .ref 140]) (S' := w1.2) rfl ?_
      obtain ⟨w2, hw2, hr⟩ := ob_some hr
      refine go_cv mm_227 (h := 140) (As := [.int (b2i (!(F_182 v1 0 ((w1.2.1 141 1) - 1)))), .int 2]) (rest := []) (nl := 3) rfl rfl (show cvOK 227 30 86 183 2 3 11 = true by decide +kernel) rfl rfl rfl (S_183 hw2) (KP_V ?_)
      show Go XM (d + 2) 227 0 33 [some (.ref 140), some (.int v1)] [.int (b2i w2.1)] w2.2 (RV (vZ r.1) r.2)
      have j4 : Go XM (d + 2) 227 0 41 [some (.ref 140), some (.int v1)] [.int (b2i w2.1)] w2.2 (RV (vZ r.1) r.2) := by
        cases hr
        exact go_zreturn mm_227 rfl rfl (b2i_01 _) ⟨rfl, rfl, rfl⟩
      refine go_ifb mm_227 rfl (p1 := 36) (p2 := 40) rfl (fun (hc3 : w2.1 = true) => ?_) (fun (hc3 : w2.1 = false) => ?_)
      · refine go_run mm_227 2 (pc' := 41) (ls' := [some (.ref 140), some (.int v1)]) (st' := [.int 1]) (S' := w2.2) rfl ?_
        have e : ((b2i w2.1) : Int32) = 1 := by simp [b2i, hc3]
        rw [e] at j4
        exact j4
      · refine go_run mm_227 1 (pc' := 41) (ls' := [some (.ref 140), some (.int v1)]) (st' := [.int 0]) (S' := w2.2) rfl ?_
        have e : ((b2i w2.1) : Int32) = 0 := by simp [b2i, hc3]
        rw [e] at j4
        exact j4
    refine go_ifb mm_227 rfl (p1 := 28) (p2 := 24) rfl (fun (hc2 : (F_182 v1 0 ((w1.2.1 141 1) - 1)) = true) => ?_) (fun (hc2 : (F_182 v1 0 ((w1.2.1 141 1) - 1)) = false) => ?_)
    · refine go_run mm_227 1 (pc' := 29) (ls' := [some (.ref 140), some (.int v1)]) (st' := [.int 0, .ref 140]) (S' := w1.2) rfl ?_
      have e : ((b2i (!(F_182 v1 0 ((w1.2.1 141 1) - 1)))) : Int32) = 0 := by simp [b2i, hc2]
      rw [e] at j5
      exact j5
    · refine go_run mm_227 2 (pc' := 29) (ls' := [some (.ref 140), some (.int v1)]) (st' := [.int 1, .ref 140]) (S' := w1.2) rfl ?_
      have e : ((b2i (!(F_182 v1 0 ((w1.2.1 141 1) - 1)))) : Int32) = 1 := by simp [b2i, hc2]
      rw [e] at j5
      exact j5

noncomputable def F_228 (v1 : Int32) (S : ST) : Option (Int32 × ST) := ob (F_225 v1 S) (fun w1 => if w1.1 = true then (some (0, w1.2)) else (ck (ibd (3 + v1) 63) (some (w1.2.1 141 (Int32.toNatClampNeg (3 + v1)), w1.2))))
set_option maxRecDepth 20000 in
theorem S_228 {d : Nat} {S : ST} {v1 : Int32} {r} (hr : F_228 v1 S = some r) : Cal XM (d + 3) 228 [.ref 140, .int v1] S (RV (vI r.1) r.2) := by
  unfold F_228 at hr
  refine cal_go 0 rfl ?_
  refine go_run mm_228 2 (pc' := 2) (ls' := [some (.ref 140), some (.int v1)]) (st' := [.int v1, .ref 140]) (S' := S) rfl ?_
  obtain ⟨w1, hw1, hr⟩ := ob_some hr
  refine go_cv mm_228 (h := 140) (As := [.int v1]) (rest := []) (nl := 2) rfl rfl (show cvOK 228 2 251 225 1 2 11 = true by decide +kernel) rfl rfl rfl (S_225 hw1) (KP_V ?_)
  show Go XM (d + 3) 228 0 5 [some (.ref 140), some (.int v1)] [.int (b2i w1.1)] w1.2 (RV (vI r.1) r.2)
  refine go_ifb mm_228 rfl (p1 := 8) (p2 := 12) rfl (fun (hc1 : w1.1 = true) => ?_) (fun (hc1 : w1.1 = false) => ?_)
  · rw [if_pos hc1] at hr
    refine go_run mm_228 2 (pc' := 20) (ls' := [some (.ref 140), some (.int v1)]) (st' := [.int 0]) (S' := w1.2) rfl ?_
    cases hr
    exact go_ireturn mm_228 rfl rfl ⟨rfl, rfl, rfl⟩
  · rw [if_neg (bf hc1)] at hr
    refine go_run mm_228 5 (pc' := 19) (ls' := [some (.ref 140), some (.int v1)]) (st' := [.int (3 + v1), .ref 141]) (S' := w1.2) rfl ?_
    obtain ⟨hb2, hr⟩ := ck_some hr
    refine go_iaload mm_228 (q := (Int32.toNatClampNeg (3 + v1))) rfl rfl rfl (ibd_ok hb2) ?_
    show Go XM (d + 3) 228 0 20 [some (.ref 140), some (.int v1)] [.int (w1.2.1 141 (Int32.toNatClampNeg (3 + v1)))] w1.2 (RV (vI r.1) r.2)
    cases hr
    exact go_ireturn mm_228 rfl rfl ⟨rfl, rfl, rfl⟩

noncomputable def F_229 (v1 : Int32) (S : ST) : Option (Int32 × ST) := ob (F_225 v1 S) (fun w1 => if w1.1 = true then (some (0, w1.2)) else (ck (ibd (15 + v1) 63) (some (w1.2.1 141 (Int32.toNatClampNeg (15 + v1)), w1.2))))
set_option maxRecDepth 20000 in
theorem S_229 {d : Nat} {S : ST} {v1 : Int32} {r} (hr : F_229 v1 S = some r) : Cal XM (d + 3) 229 [.ref 140, .int v1] S (RV (vI r.1) r.2) := by
  unfold F_229 at hr
  refine cal_go 0 rfl ?_
  refine go_run mm_229 2 (pc' := 2) (ls' := [some (.ref 140), some (.int v1)]) (st' := [.int v1, .ref 140]) (S' := S) rfl ?_
  obtain ⟨w1, hw1, hr⟩ := ob_some hr
  refine go_cv mm_229 (h := 140) (As := [.int v1]) (rest := []) (nl := 2) rfl rfl (show cvOK 229 2 251 225 1 2 11 = true by decide +kernel) rfl rfl rfl (S_225 hw1) (KP_V ?_)
  show Go XM (d + 3) 229 0 5 [some (.ref 140), some (.int v1)] [.int (b2i w1.1)] w1.2 (RV (vI r.1) r.2)
  refine go_ifb mm_229 rfl (p1 := 8) (p2 := 12) rfl (fun (hc1 : w1.1 = true) => ?_) (fun (hc1 : w1.1 = false) => ?_)
  · rw [if_pos hc1] at hr
    refine go_run mm_229 2 (pc' := 21) (ls' := [some (.ref 140), some (.int v1)]) (st' := [.int 0]) (S' := w1.2) rfl ?_
    cases hr
    exact go_ireturn mm_229 rfl rfl ⟨rfl, rfl, rfl⟩
  · rw [if_neg (bf hc1)] at hr
    refine go_run mm_229 5 (pc' := 20) (ls' := [some (.ref 140), some (.int v1)]) (st' := [.int (15 + v1), .ref 141]) (S' := w1.2) rfl ?_
    obtain ⟨hb2, hr⟩ := ck_some hr
    refine go_iaload mm_229 (q := (Int32.toNatClampNeg (15 + v1))) rfl rfl rfl (ibd_ok hb2) ?_
    show Go XM (d + 3) 229 0 21 [some (.ref 140), some (.int v1)] [.int (w1.2.1 141 (Int32.toNatClampNeg (15 + v1)))] w1.2 (RV (vI r.1) r.2)
    cases hr
    exact go_ireturn mm_229 rfl rfl ⟨rfl, rfl, rfl⟩

noncomputable def F_230 (v1 : Int32) (S : ST) : Option (Int32 × ST) := ob (F_226 v1 S) (fun w1 => if w1.1 = true then (some (0, w1.2)) else (ck (ibd v1 64) (some (w1.2.1 147 (Int32.toNatClampNeg v1), w1.2))))
set_option maxRecDepth 20000 in
theorem S_230 {d : Nat} {S : ST} {v1 : Int32} {r} (hr : F_230 v1 S = some r) : Cal XM (d + 3) 230 [.ref 140, .int v1] S (RV (vI r.1) r.2) := by
  unfold F_230 at hr
  refine cal_go 0 rfl ?_
  refine go_run mm_230 2 (pc' := 2) (ls' := [some (.ref 140), some (.int v1)]) (st' := [.int v1, .ref 140]) (S' := S) rfl ?_
  obtain ⟨w1, hw1, hr⟩ := ob_some hr
  refine go_cv mm_230 (h := 140) (As := [.int v1]) (rest := []) (nl := 2) rfl rfl (show cvOK 230 2 254 226 1 2 11 = true by decide +kernel) rfl rfl rfl (S_226 hw1) (KP_V ?_)
  show Go XM (d + 3) 230 0 5 [some (.ref 140), some (.int v1)] [.int (b2i w1.1)] w1.2 (RV (vI r.1) r.2)
  refine go_ifb mm_230 rfl (p1 := 8) (p2 := 12) rfl (fun (hc1 : w1.1 = true) => ?_) (fun (hc1 : w1.1 = false) => ?_)
  · rw [if_pos hc1] at hr
    refine go_run mm_230 2 (pc' := 18) (ls' := [some (.ref 140), some (.int v1)]) (st' := [.int 0]) (S' := w1.2) rfl ?_
    cases hr
    exact go_ireturn mm_230 rfl rfl ⟨rfl, rfl, rfl⟩
  · rw [if_neg (bf hc1)] at hr
    refine go_run mm_230 3 (pc' := 17) (ls' := [some (.ref 140), some (.int v1)]) (st' := [.int v1, .ref 147]) (S' := w1.2) rfl ?_
    obtain ⟨hb2, hr⟩ := ck_some hr
    refine go_iaload mm_230 (q := (Int32.toNatClampNeg v1)) rfl rfl rfl (ibd_ok hb2) ?_
    show Go XM (d + 3) 230 0 18 [some (.ref 140), some (.int v1)] [.int (w1.2.1 147 (Int32.toNatClampNeg v1))] w1.2 (RV (vI r.1) r.2)
    cases hr
    exact go_ireturn mm_230 rfl rfl ⟨rfl, rfl, rfl⟩

noncomputable def F_231 (v1 : Int32) (S : ST) : Option (Int32 × ST) := ob (F_226 v1 S) (fun w1 => if w1.1 = true then (some (0, w1.2)) else (ck (ibd v1 64) (some (w1.2.1 148 (Int32.toNatClampNeg v1), w1.2))))
set_option maxRecDepth 20000 in
theorem S_231 {d : Nat} {S : ST} {v1 : Int32} {r} (hr : F_231 v1 S = some r) : Cal XM (d + 3) 231 [.ref 140, .int v1] S (RV (vI r.1) r.2) := by
  unfold F_231 at hr
  refine cal_go 0 rfl ?_
  refine go_run mm_231 2 (pc' := 2) (ls' := [some (.ref 140), some (.int v1)]) (st' := [.int v1, .ref 140]) (S' := S) rfl ?_
  obtain ⟨w1, hw1, hr⟩ := ob_some hr
  refine go_cv mm_231 (h := 140) (As := [.int v1]) (rest := []) (nl := 2) rfl rfl (show cvOK 231 2 254 226 1 2 11 = true by decide +kernel) rfl rfl rfl (S_226 hw1) (KP_V ?_)
  show Go XM (d + 3) 231 0 5 [some (.ref 140), some (.int v1)] [.int (b2i w1.1)] w1.2 (RV (vI r.1) r.2)
  refine go_ifb mm_231 rfl (p1 := 8) (p2 := 12) rfl (fun (hc1 : w1.1 = true) => ?_) (fun (hc1 : w1.1 = false) => ?_)
  · rw [if_pos hc1] at hr
    refine go_run mm_231 2 (pc' := 18) (ls' := [some (.ref 140), some (.int v1)]) (st' := [.int 0]) (S' := w1.2) rfl ?_
    cases hr
    exact go_ireturn mm_231 rfl rfl ⟨rfl, rfl, rfl⟩
  · rw [if_neg (bf hc1)] at hr
    refine go_run mm_231 3 (pc' := 17) (ls' := [some (.ref 140), some (.int v1)]) (st' := [.int v1, .ref 148]) (S' := w1.2) rfl ?_
    obtain ⟨hb2, hr⟩ := ck_some hr
    refine go_iaload mm_231 (q := (Int32.toNatClampNeg v1)) rfl rfl rfl (ibd_ok hb2) ?_
    show Go XM (d + 3) 231 0 18 [some (.ref 140), some (.int v1)] [.int (w1.2.1 148 (Int32.toNatClampNeg v1))] w1.2 (RV (vI r.1) r.2)
    cases hr
    exact go_ireturn mm_231 rfl rfl ⟨rfl, rfl, rfl⟩

noncomputable def F_232 (v1 : Int32) (v2 : Int32) (S : ST) : Option (Int32 × ST) := ob (F_184 S) (fun w1 => some ((if w1.1 = true then 0 else (F_215 v1 v2 w1.2)), w1.2))
set_option maxRecDepth 20000 in
theorem S_232 {d : Nat} {S : ST} {v1 : Int32} {v2 : Int32} {r} (hr : F_232 v1 v2 S = some r) : Cal XM (d + 2) 232 [.ref 140, .int v1, .int v2] S (RV (vI r.1) r.2) := by
  unfold F_232 at hr
  refine cal_go 0 rfl ?_
  refine go_run mm_232 1 (pc' := 1) (ls' := [some (.ref 140), some (.int v1), some (.int v2)]) (st' := [.ref 140]) (S' := S) rfl ?_
  obtain ⟨w1, hw1, hr⟩ := ob_some hr
  refine go_cv mm_232 (h := 140) (As := []) (rest := []) (nl := 1) rfl rfl (show cvOK 232 1 247 184 0 1 11 = true by decide +kernel) rfl rfl rfl (S_184 hw1) (KP_V ?_)
  show Go XM (d + 2) 232 0 4 [some (.ref 140), some (.int v1), some (.int v2)] [.int (b2i w1.1)] w1.2 (RV (vI r.1) r.2)
  have j2 : Go XM (d + 2) 232 0 17 [some (.ref 140), some (.int v1), some (.int v2)] [.int (if w1.1 = true then 0 else (F_215 v1 v2 w1.2))] w1.2 (RV (vI r.1) r.2) := by
    cases hr
    exact go_ireturn mm_232 rfl rfl ⟨rfl, rfl, rfl⟩
  refine go_ifb mm_232 rfl (p1 := 7) (p2 := 11) rfl (fun (hc1 : w1.1 = true) => ?_) (fun (hc1 : w1.1 = false) => ?_)
  · refine go_run mm_232 2 (pc' := 17) (ls' := [some (.ref 140), some (.int v1), some (.int v2)]) (st' := [.int 0]) (S' := w1.2) rfl ?_
    have e : ((if w1.1 = true then 0 else (F_215 v1 v2 w1.2)) : Int32) = 0 := by simp [b2i, hc1]
    rw [e] at j2
    exact j2
  · refine go_run mm_232 3 (pc' := 14) (ls' := [some (.ref 140), some (.int v1), some (.int v2)]) (st' := [.int v2, .int v1, .ref 140]) (S' := w1.2) rfl ?_
    refine go_cv mm_232 (h := 140) (As := [.int v1, .int v2]) (rest := []) (nl := 3) rfl rfl (show cvOK 232 14 257 215 2 3 11 = true by decide +kernel) rfl rfl rfl (S_215 rfl) (KP_V ?_)
    show Go XM (d + 2) 232 0 17 [some (.ref 140), some (.int v1), some (.int v2)] [.int (F_215 v1 v2 w1.2)] w1.2 (RV (vI r.1) r.2)
    have e : ((if w1.1 = true then 0 else (F_215 v1 v2 w1.2)) : Int32) = (F_215 v1 v2 w1.2) := by simp [b2i, hc1]
    rw [e] at j2
    exact j2

noncomputable def F_233 (S : ST) : Option Int32 := ck (chB (RW S 141)) (some (f_233 S))
theorem S_233 {d : Nat} {S : ST} {r} (hr : F_233 S = some r) : Cal XM (d + 1) 233 [.ref 140] S (RV (vI r) S) := by
  unfold F_233 at hr
  obtain ⟨q, hr⟩ := ck_some hr
  have q := chB_t.mp q
  cases hr
  exact sq_233 q

noncomputable def F_234 (S : ST) : Option (Int32 × ST) := ob (F_184 S) (fun w1 => if w1.1 = true then (some (0, w1.2)) else (ob (F_233 w1.2) (fun w2 => if w2 < 0 then (ob (F_233 w1.2) (fun w3 => some (-w3, w1.2))) else (ob (F_233 w1.2) (fun w4 => some (w4, w1.2))))))
set_option maxRecDepth 20000 in
theorem S_234 {d : Nat} {S : ST} {r} (hr : F_234 S = some r) : Cal XM (d + 2) 234 [.ref 140] S (RV (vI r.1) r.2) := by
  unfold F_234 at hr
  refine cal_go 0 rfl ?_
  refine go_run mm_234 1 (pc' := 1) (ls' := [some (.ref 140)]) (st' := [.ref 140]) (S' := S) rfl ?_
  obtain ⟨w1, hw1, hr⟩ := ob_some hr
  refine go_cv mm_234 (h := 140) (As := []) (rest := []) (nl := 1) rfl rfl (show cvOK 234 1 247 184 0 1 11 = true by decide +kernel) rfl rfl rfl (S_184 hw1) (KP_V ?_)
  show Go XM (d + 2) 234 0 4 [some (.ref 140)] [.int (b2i w1.1)] w1.2 (RV (vI r.1) r.2)
  refine go_ifb mm_234 rfl (p1 := 7) (p2 := 9) rfl (fun (hc1 : w1.1 = true) => ?_) (fun (hc1 : w1.1 = false) => ?_)
  · rw [if_pos hc1] at hr
    refine go_run mm_234 1 (pc' := 8) (ls' := [some (.ref 140)]) (st' := [.int 0]) (S' := w1.2) rfl ?_
    cases hr
    exact go_ireturn mm_234 rfl rfl ⟨rfl, rfl, rfl⟩
  · rw [if_neg (bf hc1)] at hr
    refine go_run mm_234 1 (pc' := 10) (ls' := [some (.ref 140)]) (st' := [.ref 140]) (S' := w1.2) rfl ?_
    obtain ⟨w2, hw2, hr⟩ := ob_some hr
    refine go_cv mm_234 (h := 140) (As := []) (rest := []) (nl := 4) rfl rfl (show cvOK 234 10 260 233 0 4 11 = true by decide +kernel) rfl rfl rfl (S_233 hw2) (KP_V ?_)
    show Go XM (d + 2) 234 0 13 [some (.ref 140)] [.int w2] w1.2 (RV (vI r.1) r.2)
    refine go_if0 mm_234 rfl (p1 := 16) (p2 := 24) rfl (fun (hc2 : w2 < 0) => ?_) (fun (hc2 : ¬ w2 < 0) => ?_)
    · rw [if_pos hc2] at hr
      refine go_run mm_234 1 (pc' := 17) (ls' := [some (.ref 140)]) (st' := [.ref 140]) (S' := w1.2) rfl ?_
      obtain ⟨w3, hw3, hr⟩ := ob_some hr
      refine go_cv mm_234 (h := 140) (As := []) (rest := []) (nl := 4) rfl rfl (show cvOK 234 17 260 233 0 4 11 = true by decide +kernel) rfl rfl rfl (S_233 hw3) (KP_V ?_)
      show Go XM (d + 2) 234 0 20 [some (.ref 140)] [.int w3] w1.2 (RV (vI r.1) r.2)
      refine go_run mm_234 2 (pc' := 28) (ls' := [some (.ref 140)]) (st' := [.int (-w3)]) (S' := w1.2) rfl ?_
      cases hr
      exact go_ireturn mm_234 rfl rfl ⟨rfl, rfl, rfl⟩
    · rw [if_neg hc2] at hr
      refine go_run mm_234 1 (pc' := 25) (ls' := [some (.ref 140)]) (st' := [.ref 140]) (S' := w1.2) rfl ?_
      obtain ⟨w4, hw4, hr⟩ := ob_some hr
      refine go_cv mm_234 (h := 140) (As := []) (rest := []) (nl := 4) rfl rfl (show cvOK 234 25 260 233 0 4 11 = true by decide +kernel) rfl rfl rfl (S_233 hw4) (KP_V ?_)
      show Go XM (d + 2) 234 0 28 [some (.ref 140)] [.int w4] w1.2 (RV (vI r.1) r.2)
      cases hr
      exact go_ireturn mm_234 rfl rfl ⟨rfl, rfl, rfl⟩

noncomputable def F_235 (v1 : Int32) (v2 : Int32) (v3 : Int32) (S : ST) : Option Int32 := ck (chB (RI S 141 v1 ∧ RI S 141 v2 ∧ RI S 141 v3)) (some (f_235 S v1 v2 v3))
theorem S_235 {d : Nat} {S : ST} {v1 : Int32} {v2 : Int32} {v3 : Int32} {r} (hr : F_235 v1 v2 v3 S = some r) : Cal XM (d + 2) 235 [.ref 140, .int v1, .int v2, .int v3] S (RV (vI r) S) := by
  unfold F_235 at hr
  obtain ⟨q, hr⟩ := ck_some hr
  have q := chB_t.mp q
  cases hr
  exact sq_235 q.1 q.2.1 q.2.2

noncomputable def Lm_236_22 (S : ST) (a22 : Int32 × Int32 × Int32) : Option ((Int32 × Int32 × Int32) ⊕ (Int32 × Int32 × Int32)) := if a22.2.2 < (S.1 141 0) then (ob (F_235 a22.2.1 a22.2.2 (F_204 141 a22.2.2 S) S) (fun w2 => some (.inl (a22.1 ||| (if w2 < 0 then 1 <<< (a22.2.2 &&& 31) else 0), a22.2.2, a22.2.2 + 1)))) else (some (.inr (a22.1, a22.2.1, a22.2.2)))
set_option maxRecDepth 20000 in
theorem LSm_236_22 {d : Nat} {R : RT} {S : ST} {a22 : Int32 × Int32 × Int32} {r9} (hr : Lm_236_22 S a22 = some r9) (hL : ∀ a9, r9 = .inl a9 → (fun a22 => Go XM (d + 3) 236 0 22 [some (.ref 140), some (.int a22.1), some (.int a22.2.1), some (.int a22.2.2)] [] S R) a9) (hR : ∀ b9, r9 = .inr b9 → (fun e22 => Go XM (d + 3) 236 0 67 [some (.ref 140), some (.int e22.1), some (.int e22.2.1), some (.int e22.2.2)] [] S R) b9) : Go XM (d + 3) 236 0 22 [some (.ref 140), some (.int a22.1), some (.int a22.2.1), some (.int a22.2.2)] [] S R := by
  unfold Lm_236_22 at hr
  refine go_run mm_236 4 (pc' := 28) (ls' := [some (.ref 140), some (.int a22.1), some (.int a22.2.1), some (.int a22.2.2)]) (st' := [.int 0, .ref 141, .int a22.2.2]) (S' := S) rfl ?_
  refine go_iaload mm_236 (q := 0) rfl rfl rfl (inB_lit rfl) ?_
  show Go XM (d + 3) 236 0 29 [some (.ref 140), some (.int a22.1), some (.int a22.2.1), some (.int a22.2.2)] [.int (S.1 141 0), .int a22.2.2] S R
  refine go_if2 mm_236 rfl (p1 := 32) (p2 := 67) rfl (fun (hc2 : a22.2.2 < (S.1 141 0)) => ?_) (fun (hc2 : ¬ a22.2.2 < (S.1 141 0)) => ?_)
  · rw [if_pos hc2] at hr
    refine go_run mm_236 7 (pc' := 41) (ls' := [some (.ref 140), some (.int a22.1), some (.int a22.2.1), some (.int a22.2.2)]) (st' := [.int a22.2.2, .ref 141, .int a22.2.2, .int a22.2.1, .ref 140, .int a22.1]) (S' := S) rfl ?_
    refine go_cs mm_236 (av := [.ref 141, .int a22.2.2]) (rest := [.int a22.2.2, .int a22.2.1, .ref 140, .int a22.1]) (nl := 2) rfl (show csOK 236 41 208 204 2 2 = true by decide +kernel) rfl rfl rfl (S_204 rfl rfl) (KP_V ?_)
    show Go XM (d + 3) 236 0 44 [some (.ref 140), some (.int a22.1), some (.int a22.2.1), some (.int a22.2.2)] [.int (F_204 141 a22.2.2 S), .int a22.2.2, .int a22.2.1, .ref 140, .int a22.1] S R
    obtain ⟨w2, hw2, hr⟩ := ob_some hr
    refine go_cv mm_236 (h := 140) (As := [.int a22.2.1, .int a22.2.2, .int (F_204 141 a22.2.2 S)]) (rest := [.int a22.1]) (nl := 5) rfl rfl (show cvOK 236 44 263 235 3 5 11 = true by decide +kernel) rfl rfl rfl (S_235 hw2) (KP_V ?_)
    show Go XM (d + 3) 236 0 47 [some (.ref 140), some (.int a22.1), some (.int a22.2.1), some (.int a22.2.2)] [.int w2, .int a22.1] S R
    have j4 : Go XM (d + 3) 236 0 57 [some (.ref 140), some (.int a22.1), some (.int a22.2.1), some (.int a22.2.2)] [.int (if w2 < 0 then 1 <<< (a22.2.2 &&& 31) else 0), .int a22.1] S R := by
      refine go_run mm_236 6 (pc' := 22) (ls' := [some (.ref 140), some (.int (a22.1 ||| (if w2 < 0 then 1 <<< (a22.2.2 &&& 31) else 0))), some (.int a22.2.2), some (.int (a22.2.2 + 1))]) (st' := []) (S' := S) rfl ?_
      cases hr
      have h9 := hL (a22.1 ||| (if w2 < 0 then 1 <<< (a22.2.2 &&& 31) else 0), a22.2.2, a22.2.2 + 1) rfl
      dsimp only at h9
      exact Go.le h9 (by repeat first | exact True.intro | refine And.intro rfl ?_)
    refine go_if0 mm_236 rfl (p1 := 50) (p2 := 56) rfl (fun (hc3 : w2 < 0) => ?_) (fun (hc3 : ¬ w2 < 0) => ?_)
    · refine go_run mm_236 4 (pc' := 57) (ls' := [some (.ref 140), some (.int a22.1), some (.int a22.2.1), some (.int a22.2.2)]) (st' := [.int (1 <<< (a22.2.2 &&& 31)), .int a22.1]) (S' := S) rfl ?_
      have e : ((if w2 < 0 then 1 <<< (a22.2.2 &&& 31) else 0) : Int32) = 1 <<< (a22.2.2 &&& 31) := by simp [b2i, hc3]
      rw [e] at j4
      exact j4
    · refine go_run mm_236 1 (pc' := 57) (ls' := [some (.ref 140), some (.int a22.1), some (.int a22.2.1), some (.int a22.2.2)]) (st' := [.int 0, .int a22.1]) (S' := S) rfl ?_
      have e : ((if w2 < 0 then 1 <<< (a22.2.2 &&& 31) else 0) : Int32) = 0 := by simp [b2i, hc3]
      rw [e] at j4
      exact j4
  · rw [if_neg hc2] at hr
    cases hr
    have h9 := hR (a22.1, a22.2.1, a22.2.2) rfl
    dsimp only [Sum.elim_inl] at h9
    exact Go.le h9 (by repeat first | exact True.intro | refine And.intro rfl ?_)
noncomputable def F_236 (S : ST) : Option (Int32 × ST) := ob (F_184 S) (fun w1 => if w1.1 = true then (some (0, w1.2)) else (ob (wh FU (Lm_236_22 w1.2) (0, (w1.2.1 141 0) - 1, 0)) (fun e22 => some (e22.1, w1.2))))
set_option maxRecDepth 20000 in
theorem S_236 {d : Nat} {S : ST} {r} (hr : F_236 S = some r) : Cal XM (d + 3) 236 [.ref 140] S (RV (vI r.1) r.2) := by
  unfold F_236 at hr
  refine cal_go 3 rfl ?_
  refine go_run mm_236 1 (pc' := 1) (ls' := [some (.ref 140), none, none, none]) (st' := [.ref 140]) (S' := S) rfl ?_
  obtain ⟨w1, hw1, hr⟩ := ob_some hr
  refine go_cv mm_236 (h := 140) (As := []) (rest := []) (nl := 1) rfl rfl (show cvOK 236 1 247 184 0 1 11 = true by decide +kernel) rfl rfl rfl (S_184 hw1) (KP_V ?_)
  show Go XM (d + 3) 236 0 4 [some (.ref 140), none, none, none] [.int (b2i w1.1)] w1.2 (RV (vI r.1) r.2)
  refine go_ifb mm_236 rfl (p1 := 7) (p2 := 9) rfl (fun (hc1 : w1.1 = true) => ?_) (fun (hc1 : w1.1 = false) => ?_)
  · rw [if_pos hc1] at hr
    refine go_run mm_236 1 (pc' := 8) (ls' := [some (.ref 140), none, none, none]) (st' := [.int 0]) (S' := w1.2) rfl ?_
    cases hr
    exact go_ireturn mm_236 rfl rfl ⟨rfl, rfl, rfl⟩
  · rw [if_neg (bf hc1)] at hr
    refine go_run mm_236 5 (pc' := 16) (ls' := [some (.ref 140), some (.int 0), none, none]) (st' := [.int 0, .ref 141]) (S' := w1.2) rfl ?_
    refine go_iaload mm_236 (q := 0) rfl rfl rfl (inB_lit rfl) ?_
    show Go XM (d + 3) 236 0 17 [some (.ref 140), some (.int 0), none, none] [.int (w1.2.1 141 0)] w1.2 (RV (vI r.1) r.2)
    refine go_run mm_236 5 (pc' := 22) (ls' := [some (.ref 140), some (.int 0), some (.int ((w1.2.1 141 0) - 1)), some (.int 0)]) (st' := []) (S' := w1.2) rfl ?_
    obtain ⟨z22, he22, hr⟩ := ob_some hr
    refine Go.le (ls' := [some (.ref 140), some (.int 0), some (.int ((w1.2.1 141 0) - 1)), some (.int 0)]) ?_ (by repeat first | exact True.intro | refine And.intro rfl ?_)
    refine wh_go (P := fun a22 => Go XM (d + 3) 236 0 22 [some (.ref 140), some (.int a22.1), some (.int a22.2.1), some (.int a22.2.2)] [] w1.2 (RV (vI r.1) r.2)) (K := fun e22 => Go XM (d + 3) 236 0 67 [some (.ref 140), some (.int e22.1), some (.int e22.2.1), some (.int e22.2.2)] [] w1.2 (RV (vI r.1) r.2)) (fun a9 r9 h9 hL hR => LSm_236_22 h9 hL hR) _ _ _ he22 ?_
    generalize z22 = e22 at hr
    show Go XM (d + 3) 236 0 67 [some (.ref 140), some (.int e22.1), some (.int e22.2.1), some (.int e22.2.2)] [] w1.2 (RV (vI r.1) r.2)
    refine go_run mm_236 1 (pc' := 68) (ls' := [some (.ref 140), some (.int e22.1), some (.int e22.2.1), some (.int e22.2.2)]) (st' := [.int e22.1]) (S' := w1.2) rfl ?_
    cases hr
    exact go_ireturn mm_236 rfl rfl ⟨rfl, rfl, rfl⟩
