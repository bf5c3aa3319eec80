/-! methods as functions (printed by a program): 211 isSimple, 206 isOnEdge, 207 isOnBoundary, 208 isIn, 212 pointsOf, 213 isGood, 198 polygonLine, 199 thingLine, 200 reads, 214 laysPoints -/
noncomputable def F_211 (h0 : Nat) (S : ST) : Option Bool := ck (chB (RW S h0)) (some (f_211 S h0))
theorem S_211 {d : Nat} {S : ST} {h0 : Nat} {r} (hp0 : XM h0 = some (.inr (0, 63))) (hr : F_211 h0 S = some r) : Cal XM (d + 3) 211 [.ref h0] S (RV (vZ r) S) := by
  unfold F_211 at hr
  obtain ⟨q, hr⟩ := ck_some hr
  have q := chB_t.mp q
  cases hr
  exact sq_211 hp0 q

noncomputable def F_206 (h0 : Nat) (v1 : Int32) (v2 : Int64) (v4 : Int64) (v6 : Int64) (S : ST) : Option Bool := ck (chB (RI S h0 v1)) (some (f_206 S h0 v1 v2 v4 v6))
theorem S_206 {d : Nat} {S : ST} {h0 : Nat} {v1 : Int32} {v2 : Int64} {v4 : Int64} {v6 : Int64} {r} (hp0 : XM h0 = some (.inr (0, 63))) (hr : F_206 h0 v1 v2 v4 v6 S = some r) : Cal XM (d + 2) 206 [.ref h0, .int v1, .long v2, .long v4, .long v6] S (RV (vZ r) S) := by
  unfold F_206 at hr
  obtain ⟨q, hr⟩ := ck_some hr
  have q := chB_t.mp q
  cases hr
  exact sq_206 hp0 q

noncomputable def F_207 (h0 : Nat) (v1 : Int64) (v3 : Int64) (v5 : Int64) (S : ST) : Option Bool := ck (chB (RW S h0)) (some (f_207 S h0 v1 v3 v5))
theorem S_207 {d : Nat} {S : ST} {h0 : Nat} {v1 : Int64} {v3 : Int64} {v5 : Int64} {r} (hp0 : XM h0 = some (.inr (0, 63))) (hr : F_207 h0 v1 v3 v5 S = some r) : Cal XM (d + 3) 207 [.ref h0, .long v1, .long v3, .long v5] S (RV (vZ r) S) := by
  unfold F_207 at hr
  obtain ⟨q, hr⟩ := ck_some hr
  have q := chB_t.mp q
  cases hr
  exact sq_207 hp0 q

noncomputable def F_208 (h0 : Nat) (v1 : Int64) (v3 : Int64) (v5 : Int64) (S : ST) : Option Bool := ck (chB (RW S h0)) (some (f_208 S h0 v1 v3 v5))
theorem S_208 {d : Nat} {S : ST} {h0 : Nat} {v1 : Int64} {v3 : Int64} {v5 : Int64} {r} (hp0 : XM h0 = some (.inr (0, 63))) (hr : F_208 h0 v1 v3 v5 S = some r) : Cal XM (d + 4) 208 [.ref h0, .long v1, .long v3, .long v5] S (RV (vZ r) S) := by
  unfold F_208 at hr
  obtain ⟨q, hr⟩ := ck_some hr
  have q := chB_t.mp q
  cases hr
  exact sq_208 hp0 q

noncomputable def F_212 (h0 : Nat) (S : ST) : Option Int32 := ck (chB (RW S h0)) (some (f_212 S h0))
theorem S_212 {d : Nat} {S : ST} {h0 : Nat} {r} (hp0 : XM h0 = some (.inr (0, 63))) (hr : F_212 h0 S = some r) : Cal XM (d + 5) 212 [.ref h0] S (RV (vI r) S) := by
  unfold F_212 at hr
  obtain ⟨q, hr⟩ := ck_some hr
  have q := chB_t.mp q
  cases hr
  exact sq_212 hp0 q

noncomputable def F_213 (h0 : Nat) (S : ST) : Bool := (f_213 S h0)
theorem S_213 {d : Nat} {S : ST} {h0 : Nat} {r} (hp0 : XM h0 = some (.inr (0, 63))) (hr : F_213 h0 S = r) : Cal XM (d + 6) 213 [.ref h0] S (RV (vZ r) S) := by
  unfold F_213 at hr
  subst hr
  exact sq_213 hp0

noncomputable def J_198_74 (j1 : Int32) (S : ST) : Option ((ST) ⊕ (ST)) := ob (F_194 S) (fun w5 => ob (F_197 0 15 w5.2) (fun w6 => if (w6.2.1 140 17) = 0 then (ck (ibd (3 + (w6.2.1 146 0)) 63) (sbn ((wI w6.2 146 (Int32.toNatClampNeg (3 + (w6.2.1 146 0))) j1)) (fun s8 => ck (ibd (15 + (s8.1 146 0)) 63) (sbn ((wI s8 146 (Int32.toNatClampNeg (15 + (s8.1 146 0))) w6.1)) (fun s10 => some (.inl ((wI s10 146 0 ((s10.1 146 0) + 1))))))))) else (some (.inl (w6.2)))))
set_option maxRecDepth 20000 in
theorem JS_198_74 {d : Nat} {R : RT} {S : ST} {j1 : Int32} {r9} (hr : J_198_74 j1 S = some r9) (hL : ∀ a9, r9 = .inl a9 → (fun a18 => Go XM (d + 7) 198 0 18 [some (.ref 140), none, none] [] a18 R) a9) (hR : ∀ b9, r9 = .inr b9 → (fun e18 => Go XM (d + 7) 198 0 135 [some (.ref 140), none, none] [] e18 R) b9) : Go XM (d + 7) 198 0 74 [some (.ref 140), some (.int j1), none] [] S R := by
  unfold J_198_74 at hr
  refine go_run mm_198 1 (pc' := 75) (ls' := [some (.ref 140), some (.int j1), none]) (st' := [.ref 140]) (S' := S) rfl ?_
  obtain ⟨w5, hw5, hr⟩ := ob_some hr
  refine go_cv mm_198 (h := 140) (As := []) (rest := []) (nl := 1) rfl rfl (show cvOK 198 75 156 194 0 1 11 = true by decide +kernel) rfl rfl rfl (S_194 hw5) (KP_V ?_)
  show Go XM (d + 7) 198 0 78 [some (.ref 140), some (.int j1), none] [] w5.2 R
  refine go_run mm_198 3 (pc' := 82) (ls' := [some (.ref 140), some (.int j1), none]) (st' := [.int 15, .int 0, .ref 140]) (S' := w5.2) rfl ?_
  obtain ⟨w6, hw6, hr⟩ := ob_some hr
  refine go_cv mm_198 (h := 140) (As := [.int 0, .int 15]) (rest := []) (nl := 4) rfl rfl (show cvOK 198 82 165 197 2 4 11 = true by decide +kernel) rfl rfl rfl (S_197 hw6) (KP_V ?_)
  show Go XM (d + 7) 198 0 85 [some (.ref 140), some (.int j1), none] [.int w6.1] w6.2 R
  refine go_run mm_198 3 (pc' := 90) (ls' := [some (.ref 140), some (.int j1), some (.int w6.1)]) (st' := [.int (w6.2.1 140 17)]) (S' := w6.2) rfl ?_
  refine go_if0 mm_198 rfl (p1 := 93) (p2 := 132) rfl (fun (hc6 : (w6.2.1 140 17) = 0) => ?_) (fun (hc6 : ¬ (w6.2.1 140 17) = 0) => ?_)
  · rw [if_pos hc6] at hr
    refine go_run mm_198 6 (pc' := 103) (ls' := [some (.ref 140), some (.int j1), some (.int w6.1)]) (st' := [.int 0, .ref 146, .int 3, .ref 146]) (S' := w6.2) rfl ?_
    refine go_iaload mm_198 (q := 0) rfl rfl rfl (inB_lit rfl) ?_
    show Go XM (d + 7) 198 0 104 [some (.ref 140), some (.int j1), some (.int w6.1)] [.int (w6.2.1 146 0), .int 3, .ref 146] w6.2 R
    refine go_run mm_198 2 (pc' := 106) (ls' := [some (.ref 140), some (.int j1), some (.int w6.1)]) (st' := [.int j1, .int (3 + (w6.2.1 146 0)), .ref 146]) (S' := w6.2) rfl ?_
    obtain ⟨hb7, hr⟩ := ck_some hr
    refine go_iastore mm_198 (q := (Int32.toNatClampNeg (3 + (w6.2.1 146 0)))) rfl rfl rfl (ibd_ok hb7) ?_
    show Go XM (d + 7) 198 0 107 [some (.ref 140), some (.int j1), some (.int w6.1)] [] (wI w6.2 146 (Int32.toNatClampNeg (3 + (w6.2.1 146 0))) j1) R
    obtain ⟨s8, es8, hr⟩ := sbn_some hr
    rw [← es8]
    refine go_run mm_198 6 (pc' := 118) (ls' := [some (.ref 140), some (.int j1), some (.int w6.1)]) (st' := [.int 0, .ref 146, .int 15, .ref 146]) (S' := s8) rfl ?_
    refine go_iaload mm_198 (q := 0) rfl rfl rfl (inB_lit rfl) ?_
    show Go XM (d + 7) 198 0 119 [some (.ref 140), some (.int j1), some (.int w6.1)] [.int (s8.1 146 0), .int 15, .ref 146] s8 R
    refine go_run mm_198 2 (pc' := 121) (ls' := [some (.ref 140), some (.int j1), some (.int w6.1)]) (st' := [.int w6.1, .int (15 + (s8.1 146 0)), .ref 146]) (S' := s8) rfl ?_
    obtain ⟨hb9, hr⟩ := ck_some hr
    refine go_iastore mm_198 (q := (Int32.toNatClampNeg (15 + (s8.1 146 0)))) rfl rfl rfl (ibd_ok hb9) ?_
    show Go XM (d + 7) 198 0 122 [some (.ref 140), some (.int j1), some (.int w6.1)] [] (wI s8 146 (Int32.toNatClampNeg (15 + (s8.1 146 0))) w6.1) R
    obtain ⟨s10, es10, hr⟩ := sbn_some hr
    rw [← es10]
    refine go_run mm_198 4 (pc' := 128) (ls' := [some (.ref 140), some (.int j1), some (.int w6.1)]) (st' := [.int 0, .ref 146, .int 0, .ref 146]) (S' := s10) rfl ?_
    refine go_iaload mm_198 (q := 0) rfl rfl rfl (inB_lit rfl) ?_
    show Go XM (d + 7) 198 0 129 [some (.ref 140), some (.int j1), some (.int w6.1)] [.int (s10.1 146 0), .int 0, .ref 146] s10 R
    refine go_run mm_198 2 (pc' := 131) (ls' := [some (.ref 140), some (.int j1), some (.int w6.1)]) (st' := [.int ((s10.1 146 0) + 1), .int 0, .ref 146]) (S' := s10) rfl ?_
    refine go_iastore mm_198 (q := 0) rfl rfl rfl (inB_lit rfl) ?_
    show Go XM (d + 7) 198 0 132 [some (.ref 140), some (.int j1), some (.int w6.1)] [] (wI s10 146 0 ((s10.1 146 0) + 1)) R
    refine go_run mm_198 1 (pc' := 18) (ls' := [some (.ref 140), some (.int j1), some (.int w6.1)]) (st' := []) (S' := (wI s10 146 0 ((s10.1 146 0) + 1))) rfl ?_
    cases hr
    have h9 := hL ((wI s10 146 0 ((s10.1 146 0) + 1))) rfl
    dsimp only at h9
    exact Go.le h9 (by repeat first | exact True.intro | refine And.intro rfl ?_)
  · rw [if_neg hc6] at hr
    refine go_run mm_198 1 (pc' := 18) (ls' := [some (.ref 140), some (.int j1), some (.int w6.1)]) (st' := []) (S' := w6.2) rfl ?_
    cases hr
    have h9 := hL (w6.2) rfl
    dsimp only at h9
    exact Go.le h9 (by repeat first | exact True.intro | refine And.intro rfl ?_)
noncomputable def Lm_198_18 (a18 : ST) : Option ((ST) ⊕ (ST)) := if (a18.1 140 17) = 0 then (if (a18.1 146 0) < 3 then (ob (F_196 0 15 a18) (fun w3 => if (w3.2.1 140 17) = 0 then (if (w3.2.1 146 0) = 12 then (ob (F_193 5 w3.2) (fun w4 => J_198_74 w3.1 w4.2)) else (J_198_74 w3.1 w3.2)) else (J_198_74 w3.1 w3.2))) else (if (a18.1 140 13) = 2 then (ob (F_196 0 15 a18) (fun w7 => if (w7.2.1 140 17) = 0 then (if (w7.2.1 146 0) = 12 then (ob (F_193 5 w7.2) (fun w8 => J_198_74 w7.1 w8.2)) else (J_198_74 w7.1 w7.2)) else (J_198_74 w7.1 w7.2))) else (some (.inr (a18))))) else (some (.inr (a18)))
set_option maxRecDepth 20000 in
theorem LSm_198_18 {d : Nat} {R : RT} {a18 : ST} {r9} (hr : Lm_198_18 a18 = some r9) (hL : ∀ a9, r9 = .inl a9 → (fun a18 => Go XM (d + 7) 198 0 18 [some (.ref 140), none, none] [] a18 R) a9) (hR : ∀ b9, r9 = .inr b9 → (fun e18 => Go XM (d + 7) 198 0 135 [some (.ref 140), none, none] [] e18 R) b9) : Go XM (d + 7) 198 0 18 [some (.ref 140), none, none] [] a18 R := by
  unfold Lm_198_18 at hr
  refine go_run mm_198 2 (pc' := 22) (ls' := [some (.ref 140), none, none]) (st' := [.int (a18.1 140 17)]) (S' := a18) rfl ?_
  refine go_if0 mm_198 rfl (p1 := 25) (p2 := 135) rfl (fun (hc2 : (a18.1 140 17) = 0) => ?_) (fun (hc2 : ¬ (a18.1 140 17) = 0) => ?_)
  · rw [if_pos hc2] at hr
    refine go_run mm_198 3 (pc' := 30) (ls' := [some (.ref 140), none, none]) (st' := [.int 0, .ref 146]) (S' := a18) rfl ?_
    refine go_iaload mm_198 (q := 0) rfl rfl rfl (inB_lit rfl) ?_
    show Go XM (d + 7) 198 0 31 [some (.ref 140), none, none] [.int (a18.1 146 0)] a18 R
    refine go_run mm_198 1 (pc' := 32) (ls' := [some (.ref 140), none, none]) (st' := [.int 3, .int (a18.1 146 0)]) (S' := a18) rfl ?_
    refine go_if2 mm_198 rfl (p1 := 43) (p2 := 35) rfl (fun (hc3 : (a18.1 146 0) < 3) => ?_) (fun (hc3 : ¬ (a18.1 146 0) < 3) => ?_)
    · rw [if_pos hc3] at hr
      refine go_run mm_198 3 (pc' := 47) (ls' := [some (.ref 140), none, none]) (st' := [.int 15, .int 0, .ref 140]) (S' := a18) rfl ?_
      obtain ⟨w3, hw3, hr⟩ := ob_some hr
      refine go_cv mm_198 (h := 140) (As := [.int 0, .int 15]) (rest := []) (nl := 3) rfl rfl (show cvOK 198 47 152 196 2 3 11 = true by decide +kernel) rfl rfl rfl (S_196 hw3) (KP_V ?_)
      show Go XM (d + 7) 198 0 50 [some (.ref 140), none, none] [.int w3.1] w3.2 R
      refine go_run mm_198 3 (pc' := 55) (ls' := [some (.ref 140), some (.int w3.1), none]) (st' := [.int (w3.2.1 140 17)]) (S' := w3.2) rfl ?_
      refine go_if0 mm_198 rfl (p1 := 58) (p2 := 74) rfl (fun (hc4 : (w3.2.1 140 17) = 0) => ?_) (fun (hc4 : ¬ (w3.2.1 140 17) = 0) => ?_)
      · rw [if_pos hc4] at hr
        refine go_run mm_198 3 (pc' := 63) (ls' := [some (.ref 140), some (.int w3.1), none]) (st' := [.int 0, .ref 146]) (S' := w3.2) rfl ?_
        refine go_iaload mm_198 (q := 0) rfl rfl rfl (inB_lit rfl) ?_
        show Go XM (d + 7) 198 0 64 [some (.ref 140), some (.int w3.1), none] [.int (w3.2.1 146 0)] w3.2 R
        refine go_run mm_198 1 (pc' := 66) (ls' := [some (.ref 140), some (.int w3.1), none]) (st' := [.int 12, .int (w3.2.1 146 0)]) (S' := w3.2) rfl ?_
        refine go_if2 mm_198 rfl (p1 := 69) (p2 := 74) rfl (fun (hc5 : (w3.2.1 146 0) = 12) => ?_) (fun (hc5 : ¬ (w3.2.1 146 0) = 12) => ?_)
        · rw [if_pos hc5] at hr
          refine go_run mm_198 2 (pc' := 71) (ls' := [some (.ref 140), some (.int w3.1), none]) (st' := [.int 5, .ref 140]) (S' := w3.2) rfl ?_
          obtain ⟨w4, hw4, hr⟩ := ob_some hr
          refine go_cv mm_198 (h := 140) (As := [.int 5]) (rest := []) (nl := 2) rfl rfl (show cvOK 198 71 144 193 1 2 11 = true by decide +kernel) rfl rfl rfl (S_193 hw4) (KP_V ?_)
          show Go XM (d + 7) 198 0 74 [some (.ref 140), some (.int w3.1), none] [] w4.2 R
          exact Go.le (JS_198_74 hr hL hR) (by repeat first | exact True.intro | refine And.intro rfl ?_)
        · rw [if_neg hc5] at hr
          exact Go.le (JS_198_74 hr hL hR) (by repeat first | exact True.intro | refine And.intro rfl ?_)
      · rw [if_neg hc4] at hr
        exact Go.le (JS_198_74 hr hL hR) (by repeat first | exact True.intro | refine And.intro rfl ?_)
    · rw [if_neg hc3] at hr
      refine go_run mm_198 3 (pc' := 40) (ls' := [some (.ref 140), none, none]) (st' := [.int 2, .int (a18.1 140 13)]) (S' := a18) rfl ?_
      refine go_if2 mm_198 rfl (p1 := 43) (p2 := 135) rfl (fun (hc11 : (a18.1 140 13) = 2) => ?_) (fun (hc11 : ¬ (a18.1 140 13) = 2) => ?_)
      · rw [if_pos hc11] at hr
        refine go_run mm_198 3 (pc' := 47) (ls' := [some (.ref 140), none, none]) (st' := [.int 15, .int 0, .ref 140]) (S' := a18) rfl ?_
        obtain ⟨w7, hw7, hr⟩ := ob_some hr
        refine go_cv mm_198 (h := 140) (As := [.int 0, .int 15]) (rest := []) (nl := 3) rfl rfl (show cvOK 198 47 152 196 2 3 11 = true by decide +kernel) rfl rfl rfl (S_196 hw7) (KP_V ?_)
        show Go XM (d + 7) 198 0 50 [some (.ref 140), none, none] [.int w7.1] w7.2 R
        refine go_run mm_198 3 (pc' := 55) (ls' := [some (.ref 140), some (.int w7.1), none]) (st' := [.int (w7.2.1 140 17)]) (S' := w7.2) rfl ?_
        refine go_if0 mm_198 rfl (p1 := 58) (p2 := 74) rfl (fun (hc12 : (w7.2.1 140 17) = 0) => ?_) (fun (hc12 : ¬ (w7.2.1 140 17) = 0) => ?_)
        · rw [if_pos hc12] at hr
          refine go_run mm_198 3 (pc' := 63) (ls' := [some (.ref 140), some (.int w7.1), none]) (st' := [.int 0, .ref 146]) (S' := w7.2) rfl ?_
          refine go_iaload mm_198 (q := 0) rfl rfl rfl (inB_lit rfl) ?_
          show Go XM (d + 7) 198 0 64 [some (.ref 140), some (.int w7.1), none] [.int (w7.2.1 146 0)] w7.2 R
          refine go_run mm_198 1 (pc' := 66) (ls' := [some (.ref 140), some (.int w7.1), none]) (st' := [.int 12, .int (w7.2.1 146 0)]) (S' := w7.2) rfl ?_
          refine go_if2 mm_198 rfl (p1 := 69) (p2 := 74) rfl (fun (hc13 : (w7.2.1 146 0) = 12) => ?_) (fun (hc13 : ¬ (w7.2.1 146 0) = 12) => ?_)
          · rw [if_pos hc13] at hr
            refine go_run mm_198 2 (pc' := 71) (ls' := [some (.ref 140), some (.int w7.1), none]) (st' := [.int 5, .ref 140]) (S' := w7.2) rfl ?_
            obtain ⟨w8, hw8, hr⟩ := ob_some hr
            refine go_cv mm_198 (h := 140) (As := [.int 5]) (rest := []) (nl := 2) rfl rfl (show cvOK 198 71 144 193 1 2 11 = true by decide +kernel) rfl rfl rfl (S_193 hw8) (KP_V ?_)
            show Go XM (d + 7) 198 0 74 [some (.ref 140), some (.int w7.1), none] [] w8.2 R
            exact Go.le (JS_198_74 hr hL hR) (by repeat first | exact True.intro | refine And.intro rfl ?_)
          · rw [if_neg hc13] at hr
            exact Go.le (JS_198_74 hr hL hR) (by repeat first | exact True.intro | refine And.intro rfl ?_)
        · rw [if_neg hc12] at hr
          exact Go.le (JS_198_74 hr hL hR) (by repeat first | exact True.intro | refine And.intro rfl ?_)
      · rw [if_neg hc11] at hr
        cases hr
        have h9 := hR (a18) rfl
        dsimp only [Sum.elim_inl] at h9
        exact Go.le h9 (by repeat first | exact True.intro | refine And.intro rfl ?_)
  · rw [if_neg hc2] at hr
    cases hr
    have h9 := hR (a18) rfl
    dsimp only [Sum.elim_inl] at h9
    exact Go.le h9 (by repeat first | exact True.intro | refine And.intro rfl ?_)
noncomputable def J_198_177 (S : ST) : Option (Unit × ST) := some ((), S)
set_option maxRecDepth 20000 in
theorem JS_198_177 {d : Nat} {S : ST} {r} (hr : J_198_177 S = some r) : Go XM (d + 7) 198 0 177 [none, none, none] [] S (RV (vU r.1) r.2) := by
  unfold J_198_177 at hr
  cases hr
  exact go_vreturn mm_198 rfl rfl ⟨rfl, rfl, rfl⟩
noncomputable def J_198_155 (S : ST) : Option (Unit × ST) := if (S.1 140 17) = 0 then (if (F_213 146 S) = true then (J_198_177 S) else (ob (F_193 3 S) (fun w9 => J_198_177 w9.2))) else (J_198_177 S)
set_option maxRecDepth 20000 in
theorem JS_198_155 {d : Nat} {S : ST} {r} (hr : J_198_155 S = some r) : Go XM (d + 7) 198 0 155 [some (.ref 140), none, none] [] S (RV (vU r.1) r.2) := by
  unfold J_198_155 at hr
  refine go_run mm_198 2 (pc' := 159) (ls' := [some (.ref 140), none, none]) (st' := [.int (S.1 140 17)]) (S' := S) rfl ?_
  refine go_if0 mm_198 rfl (p1 := 162) (p2 := 177) rfl (fun (hc15 : (S.1 140 17) = 0) => ?_) (fun (hc15 : ¬ (S.1 140 17) = 0) => ?_)
  · rw [if_pos hc15] at hr
    refine go_run mm_198 2 (pc' := 166) (ls' := [some (.ref 140), none, none]) (st' := [.ref 146]) (S' := S) rfl ?_
    refine go_cs mm_198 (av := [.ref 146]) (rest := []) (nl := 1) rfl (show csOK 198 166 168 213 1 1 = true by decide +kernel) rfl rfl rfl (S_213 rfl rfl) (KP_V ?_)
    show Go XM (d + 7) 198 0 169 [some (.ref 140), none, none] [.int (b2i (F_213 146 S))] S (RV (vU r.1) r.2)
    refine go_ifb mm_198 rfl (p1 := 177) (p2 := 172) rfl (fun (hc16 : (F_213 146 S) = true) => ?_) (fun (hc16 : (F_213 146 S) = false) => ?_)
    · rw [if_pos hc16] at hr
      exact Go.le (JS_198_177 hr) (by repeat first | exact True.intro | refine And.intro rfl ?_)
    · rw [if_neg (bf hc16)] at hr
      refine go_run mm_198 2 (pc' := 174) (ls' := [some (.ref 140), none, none]) (st' := [.int 3, .ref 140]) (S' := S) rfl ?_
      obtain ⟨w9, hw9, hr⟩ := ob_some hr
      refine go_cv mm_198 (h := 140) (As := [.int 3]) (rest := []) (nl := 2) rfl rfl (show cvOK 198 174 144 193 1 2 11 = true by decide +kernel) rfl rfl rfl (S_193 hw9) (KP_V ?_)
      show Go XM (d + 7) 198 0 177 [some (.ref 140), none, none] [] w9.2 (RV (vU r.1) r.2)
      exact Go.le (JS_198_177 hr) (by repeat first | exact True.intro | refine And.intro rfl ?_)
  · rw [if_neg hc15] at hr
    exact Go.le (JS_198_177 hr) (by repeat first | exact True.intro | refine And.intro rfl ?_)
noncomputable def J_198_14 (S : ST) : Option (Unit × ST) := ob (F_194 S) (fun w2 => ob (wh FU (Lm_198_18) (w2.2)) (fun e18 => if (e18.1 140 13) = 3 then (J_198_155 e18) else (if (e18.1 140 13) = 0 then (J_198_155 e18) else (ob (F_193 1 e18) (fun w10 => J_198_155 w10.2)))))
set_option maxRecDepth 20000 in
theorem JS_198_14 {d : Nat} {S : ST} {r} (hr : J_198_14 S = some r) : Go XM (d + 7) 198 0 14 [some (.ref 140), none, none] [] S (RV (vU r.1) r.2) := by
  unfold J_198_14 at hr
  refine go_run mm_198 1 (pc' := 15) (ls' := [some (.ref 140), none, none]) (st' := [.ref 140]) (S' := S) rfl ?_
  obtain ⟨w2, hw2, hr⟩ := ob_some hr
  refine go_cv mm_198 (h := 140) (As := []) (rest := []) (nl := 1) rfl rfl (show cvOK 198 15 156 194 0 1 11 = true by decide +kernel) rfl rfl rfl (S_194 hw2) (KP_V ?_)
  show Go XM (d + 7) 198 0 18 [some (.ref 140), none, none] [] w2.2 (RV (vU r.1) r.2)
  obtain ⟨z18, he18, hr⟩ := ob_some hr
  refine Go.le (ls' := [some (.ref 140), none, none]) ?_ (by repeat first | exact True.intro | refine And.intro rfl ?_)
  refine wh_go (P := fun a18 => Go XM (d + 7) 198 0 18 [some (.ref 140), none, none] [] a18 (RV (vU r.1) r.2)) (K := fun e18 => Go XM (d + 7) 198 0 135 [some (.ref 140), none, none] [] e18 (RV (vU r.1) r.2)) (fun a9 r9 h9 hL hR => LSm_198_18 h9 hL hR) _ _ _ he18 ?_
  generalize z18 = e18 at hr
  show Go XM (d + 7) 198 0 135 [some (.ref 140), none, none] [] e18 (RV (vU r.1) r.2)
  refine go_run mm_198 3 (pc' := 140) (ls' := [some (.ref 140), none, none]) (st' := [.int 3, .int (e18.1 140 13)]) (S' := e18) rfl ?_
  refine go_if2 mm_198 rfl (p1 := 155) (p2 := 143) rfl (fun (hc14 : (e18.1 140 13) = 3) => ?_) (fun (hc14 : ¬ (e18.1 140 13) = 3) => ?_)
  · rw [if_pos hc14] at hr
    exact Go.le (JS_198_155 hr) (by repeat first | exact True.intro | refine And.intro rfl ?_)
  · rw [if_neg hc14] at hr
    refine go_run mm_198 2 (pc' := 147) (ls' := [some (.ref 140), none, none]) (st' := [.int (e18.1 140 13)]) (S' := e18) rfl ?_
    refine go_if0 mm_198 rfl (p1 := 155) (p2 := 150) rfl (fun (hc17 : (e18.1 140 13) = 0) => ?_) (fun (hc17 : ¬ (e18.1 140 13) = 0) => ?_)
    · rw [if_pos hc17] at hr
      exact Go.le (JS_198_155 hr) (by repeat first | exact True.intro | refine And.intro rfl ?_)
    · rw [if_neg hc17] at hr
      refine go_run mm_198 2 (pc' := 152) (ls' := [some (.ref 140), none, none]) (st' := [.int 1, .ref 140]) (S' := e18) rfl ?_
      obtain ⟨w10, hw10, hr⟩ := ob_some hr
      refine go_cv mm_198 (h := 140) (As := [.int 1]) (rest := []) (nl := 2) rfl rfl (show cvOK 198 152 144 193 1 2 11 = true by decide +kernel) rfl rfl rfl (S_193 hw10) (KP_V ?_)
      show Go XM (d + 7) 198 0 155 [some (.ref 140), none, none] [] w10.2 (RV (vU r.1) r.2)
      exact Go.le (JS_198_155 hr) (by repeat first | exact True.intro | refine And.intro rfl ?_)
noncomputable def F_198 (S : ST) : Option (Unit × ST) := ob (F_195 (TXS.getD 14 []) S) (fun w1 => if w1 = true then (J_198_14 S) else (ob (F_193 1 S) (fun w11 => J_198_14 w11.2)))
set_option maxRecDepth 20000 in
theorem S_198 {d : Nat} {S : ST} {r} (hr : F_198 S = some r) : Cal XM (d + 7) 198 [.ref 140] S (RV (vU r.1) r.2) := by
  unfold F_198 at hr
  refine cal_go 2 rfl ?_
  refine go_run mm_198 1 (pc' := 1) (ls' := [some (.ref 140), none, none]) (st' := [.ref 140]) (S' := S) rfl ?_
  refine go_ldcS mm_198 (j := 14) rfl rfl ?_
  show Go XM (d + 7) 198 0 3 [some (.ref 140), none, none] [.ref 314, .ref 140] S (RV (vU r.1) r.2)
  obtain ⟨w1, hw1, hr⟩ := ob_some hr
  refine go_cv mm_198 (h := 140) (As := [.ref 314]) (rest := []) (nl := 3) rfl rfl (show cvOK 198 3 161 195 1 3 11 = true by decide +kernel) rfl rfl rfl (S_195 (rfl : txt 314 = some (TXS.getD 14 [])) hw1) (KP_V ?_)
  show Go XM (d + 7) 198 0 6 [some (.ref 140), none, none] [.int (b2i w1)] S (RV (vU r.1) r.2)
  refine go_ifb mm_198 rfl (p1 := 14) (p2 := 9) rfl (fun (hc1 : w1 = true) => ?_) (fun (hc1 : w1 = false) => ?_)
  · rw [if_pos hc1] at hr
    exact Go.le (JS_198_14 hr) (by repeat first | exact True.intro | refine And.intro rfl ?_)
  · rw [if_neg (bf hc1)] at hr
    refine go_run mm_198 2 (pc' := 11) (ls' := [some (.ref 140), none, none]) (st' := [.int 1, .ref 140]) (S' := S) rfl ?_
    obtain ⟨w11, hw11, hr⟩ := ob_some hr
    refine go_cv mm_198 (h := 140) (As := [.int 1]) (rest := []) (nl := 2) rfl rfl (show cvOK 198 11 144 193 1 2 11 = true by decide +kernel) rfl rfl rfl (S_193 hw11) (KP_V ?_)
    show Go XM (d + 7) 198 0 14 [some (.ref 140), none, none] [] w11.2 (RV (vU r.1) r.2)
    exact Go.le (JS_198_14 hr) (by repeat first | exact True.intro | refine And.intro rfl ?_)

noncomputable def J_199_122 (v1 : Bool) (j2 : Int32) (j3 : Int32) (j4 : Int32) (j5 : Int32) (S : ST) : Option (Unit × ST) := if (S.1 140 17) = 0 then (ck (ibd j2 63) (ck (ibd ((if v1 = true then 27 else 45) + (3 * (S.1 146 (Int32.toNatClampNeg j2)))) 63) (sbn ((wI S 146 (Int32.toNatClampNeg ((if v1 = true then 27 else 45) + (3 * (S.1 146 (Int32.toNatClampNeg j2))))) j3)) (fun s12 => ck (ibd (((if v1 = true then 27 else 45) + (3 * (S.1 146 (Int32.toNatClampNeg j2)))) + 1) 63) (sbn ((wI s12 146 (Int32.toNatClampNeg (((if v1 = true then 27 else 45) + (3 * (S.1 146 (Int32.toNatClampNeg j2)))) + 1)) j4)) (fun s14 => ck (ibd (((if v1 = true then 27 else 45) + (3 * (S.1 146 (Int32.toNatClampNeg j2)))) + 2) 63) (sbn ((wI s14 146 (Int32.toNatClampNeg (((if v1 = true then 27 else 45) + (3 * (S.1 146 (Int32.toNatClampNeg j2)))) + 2)) j5)) (fun s16 => ck (ibd j2 63) (ck (ibd j2 63) (sbn ((wI s16 146 (Int32.toNatClampNeg j2) ((s16.1 146 (Int32.toNatClampNeg j2)) + 1))) (fun s19 => some ((), s19)))))))))))) else (some ((), S))
set_option maxRecDepth 20000 in
theorem JS_199_122 {d : Nat} {S : ST} {v1 : Bool} {j2 : Int32} {j3 : Int32} {j4 : Int32} {j5 : Int32} {r} (hr : J_199_122 v1 j2 j3 j4 j5 S = some r) : Go XM (d + 5) 199 0 122 [some (.ref 140), some (.int (b2i v1)), some (.int j2), some (.int j3), some (.int j4), some (.int j5), none] [] S (RV (vU r.1) r.2) := by
  unfold J_199_122 at hr
  refine go_run mm_199 2 (pc' := 126) (ls' := [some (.ref 140), some (.int (b2i v1)), some (.int j2), some (.int j3), some (.int j4), some (.int j5), none]) (st' := [.int (S.1 140 17)]) (S' := S) rfl ?_
  refine go_if0 mm_199 rfl (p1 := 129) (p2 := 191) rfl (fun (hc8 : (S.1 140 17) = 0) => ?_) (fun (hc8 : ¬ (S.1 140 17) = 0) => ?_)
  · rw [if_pos hc8] at hr
    refine go_run mm_199 1 (pc' := 130) (ls' := [some (.ref 140), some (.int (b2i v1)), some (.int j2), some (.int j3), some (.int j4), some (.int j5), none]) (st' := [.int (b2i v1)]) (S' := S) rfl ?_
    have j20 : Go XM (d + 5) 199 0 140 [some (.ref 140), some (.int (b2i v1)), some (.int j2), some (.int j3), some (.int j4), some (.int j5), none] [.int (if v1 = true then 27 else 45)] S (RV (vU r.1) r.2) := by
      refine go_run mm_199 4 (pc' := 146) (ls' := [some (.ref 140), some (.int (b2i v1)), some (.int j2), some (.int j3), some (.int j4), some (.int j5), none]) (st' := [.int j2, .ref 146, .int 3, .int (if v1 = true then 27 else 45)]) (S' := S) rfl ?_
      obtain ⟨hb10, hr⟩ := ck_some hr
      refine go_iaload mm_199 (q := (Int32.toNatClampNeg j2)) rfl rfl rfl (ibd_ok hb10) ?_
      show Go XM (d + 5) 199 0 147 [some (.ref 140), some (.int (b2i v1)), some (.int j2), some (.int j3), some (.int j4), some (.int j5), none] [.int (S.1 146 (Int32.toNatClampNeg j2)), .int 3, .int (if v1 = true then 27 else 45)] S (RV (vU r.1) r.2)
      refine go_run mm_199 7 (pc' := 158) (ls' := [some (.ref 140), some (.int (b2i v1)), some (.int j2), some (.int j3), some (.int j4), some (.int j5), some (.int ((if v1 = true then 27 else 45) + (3 * (S.1 146 (Int32.toNatClampNeg j2)))))]) (st' := [.int j3, .int ((if v1 = true then 27 else 45) + (3 * (S.1 146 (Int32.toNatClampNeg j2)))), .ref 146]) (S' := S) rfl ?_
      obtain ⟨hb11, hr⟩ := ck_some hr
      refine go_iastore mm_199 (q := (Int32.toNatClampNeg ((if v1 = true then 27 else 45) + (3 * (S.1 146 (Int32.toNatClampNeg j2)))))) rfl rfl rfl (ibd_ok hb11) ?_
      show Go XM (d + 5) 199 0 159 [some (.ref 140), some (.int (b2i v1)), some (.int j2), some (.int j3), some (.int j4), some (.int j5), some (.int ((if v1 = true then 27 else 45) + (3 * (S.1 146 (Int32.toNatClampNeg j2)))))] [] (wI S 146 (Int32.toNatClampNeg ((if v1 = true then 27 else 45) + (3 * (S.1 146 (Int32.toNatClampNeg j2))))) j3) (RV (vU r.1) r.2)
      obtain ⟨s12, es12, hr⟩ := sbn_some hr
      rw [← es12]
      refine go_run mm_199 6 (pc' := 169) (ls' := [some (.ref 140), some (.int (b2i v1)), some (.int j2), some (.int j3), some (.int j4), some (.int j5), some (.int ((if v1 = true then 27 else 45) + (3 * (S.1 146 (Int32.toNatClampNeg j2)))))]) (st' := [.int j4, .int (((if v1 = true then 27 else 45) + (3 * (S.1 146 (Int32.toNatClampNeg j2)))) + 1), .ref 146]) (S' := s12) rfl ?_
      obtain ⟨hb13, hr⟩ := ck_some hr
      refine go_iastore mm_199 (q := (Int32.toNatClampNeg (((if v1 = true then 27 else 45) + (3 * (S.1 146 (Int32.toNatClampNeg j2)))) + 1))) rfl rfl rfl (ibd_ok hb13) ?_
      show Go XM (d + 5) 199 0 170 [some (.ref 140), some (.int (b2i v1)), some (.int j2), some (.int j3), some (.int j4), some (.int j5), some (.int ((if v1 = true then 27 else 45) + (3 * (S.1 146 (Int32.toNatClampNeg j2)))))] [] (wI s12 146 (Int32.toNatClampNeg (((if v1 = true then 27 else 45) + (3 * (S.1 146 (Int32.toNatClampNeg j2)))) + 1)) j4) (RV (vU r.1) r.2)
      obtain ⟨s14, es14, hr⟩ := sbn_some hr
      rw [← es14]
      refine go_run mm_199 6 (pc' := 180) (ls' := [some (.ref 140), some (.int (b2i v1)), some (.int j2), some (.int j3), some (.int j4), some (.int j5), some (.int ((if v1 = true then 27 else 45) + (3 * (S.1 146 (Int32.toNatClampNeg j2)))))]) (st' := [.int j5, .int (((if v1 = true then 27 else 45) + (3 * (S.1 146 (Int32.toNatClampNeg j2)))) + 2), .ref 146]) (S' := s14) rfl ?_
      obtain ⟨hb15, hr⟩ := ck_some hr
      refine go_iastore mm_199 (q := (Int32.toNatClampNeg (((if v1 = true then 27 else 45) + (3 * (S.1 146 (Int32.toNatClampNeg j2)))) + 2))) rfl rfl rfl (ibd_ok hb15) ?_
      show Go XM (d + 5) 199 0 181 [some (.ref 140), some (.int (b2i v1)), some (.int j2), some (.int j3), some (.int j4), some (.int j5), some (.int ((if v1 = true then 27 else 45) + (3 * (S.1 146 (Int32.toNatClampNeg j2)))))] [] (wI s14 146 (Int32.toNatClampNeg (((if v1 = true then 27 else 45) + (3 * (S.1 146 (Int32.toNatClampNeg j2)))) + 2)) j5) (RV (vU r.1) r.2)
      obtain ⟨s16, es16, hr⟩ := sbn_some hr
      rw [← es16]
      refine go_run mm_199 4 (pc' := 187) (ls' := [some (.ref 140), some (.int (b2i v1)), some (.int j2), some (.int j3), some (.int j4), some (.int j5), some (.int ((if v1 = true then 27 else 45) + (3 * (S.1 146 (Int32.toNatClampNeg j2)))))]) (st' := [.int j2, .ref 146, .int j2, .ref 146]) (S' := s16) rfl ?_
      obtain ⟨hb17, hr⟩ := ck_some hr
      refine go_iaload mm_199 (q := (Int32.toNatClampNeg j2)) rfl rfl rfl (ibd_ok hb17) ?_
      show Go XM (d + 5) 199 0 188 [some (.ref 140), some (.int (b2i v1)), some (.int j2), some (.int j3), some (.int j4), some (.int j5), some (.int ((if v1 = true then 27 else 45) + (3 * (S.1 146 (Int32.toNatClampNeg j2)))))] [.int (s16.1 146 (Int32.toNatClampNeg j2)), .int j2, .ref 146] s16 (RV (vU r.1) r.2)
      refine go_run mm_199 2 (pc' := 190) (ls' := [some (.ref 140), some (.int (b2i v1)), some (.int j2), some (.int j3), some (.int j4), some (.int j5), some (.int ((if v1 = true then 27 else 45) + (3 * (S.1 146 (Int32.toNatClampNeg j2)))))]) (st' := [.int ((s16.1 146 (Int32.toNatClampNeg j2)) + 1), .int j2, .ref 146]) (S' := s16) rfl ?_
      obtain ⟨hb18, hr⟩ := ck_some hr
      refine go_iastore mm_199 (q := (Int32.toNatClampNeg j2)) rfl rfl rfl (ibd_ok hb18) ?_
      show Go XM (d + 5) 199 0 191 [some (.ref 140), some (.int (b2i v1)), some (.int j2), some (.int j3), some (.int j4), some (.int j5), some (.int ((if v1 = true then 27 else 45) + (3 * (S.1 146 (Int32.toNatClampNeg j2)))))] [] (wI s16 146 (Int32.toNatClampNeg j2) ((s16.1 146 (Int32.toNatClampNeg j2)) + 1)) (RV (vU r.1) r.2)
      obtain ⟨s19, es19, hr⟩ := sbn_some hr
      rw [← es19]
      cases hr
      exact go_vreturn mm_199 rfl rfl ⟨rfl, rfl, rfl⟩
    refine go_ifb mm_199 rfl (p1 := 133) (p2 := 138) rfl (fun (hc9 : v1 = true) => ?_) (fun (hc9 : v1 = false) => ?_)
    · refine go_run mm_199 2 (pc' := 140) (ls' := [some (.ref 140), some (.int (b2i v1)), some (.int j2), some (.int j3), some (.int j4), some (.int j5), none]) (st' := [.int 27]) (S' := S) rfl ?_
      have e : ((if v1 = true then 27 else 45) : Int32) = 27 := by simp [b2i, hc9]
      rw [e] at j20
      exact j20
    · refine go_run mm_199 1 (pc' := 140) (ls' := [some (.ref 140), some (.int (b2i v1)), some (.int j2), some (.int j3), some (.int j4), some (.int j5), none]) (st' := [.int 45]) (S' := S) rfl ?_
      have e : ((if v1 = true then 27 else 45) : Int32) = 45 := by simp [b2i, hc9]
      rw [e] at j20
      exact j20
  · rw [if_neg hc8] at hr
    cases hr
    exact go_vreturn mm_199 rfl rfl ⟨rfl, rfl, rfl⟩
noncomputable def J_199_75 (v1 : Bool) (j2 : Int32) (j3 : Int32) (j4 : Int32) (S : ST) : Option (Unit × ST) := ob (F_194 S) (fun w6 => if v1 = true then (ob (F_195 (TXS.getD 15 []) w6.2) (fun w7 => if w7 = true then (ob (F_194 w6.2) (fun w8 => ob (F_197 0 99 w8.2) (fun w9 => J_199_122 v1 j2 j3 j4 w9.1 w9.2))) else (J_199_122 v1 j2 j3 j4 99 w6.2))) else (ob (F_197 1 999 w6.2) (fun w10 => J_199_122 v1 j2 j3 j4 w10.1 w10.2)))
set_option maxRecDepth 20000 in
theorem JS_199_75 {d : Nat} {S : ST} {v1 : Bool} {j2 : Int32} {j3 : Int32} {j4 : Int32} {r} (hr : J_199_75 v1 j2 j3 j4 S = some r) : Go XM (d + 5) 199 0 75 [some (.ref 140), some (.int (b2i v1)), some (.int j2), some (.int j3), some (.int j4), none, none] [] S (RV (vU r.1) r.2) := by
  unfold J_199_75 at hr
  refine go_run mm_199 1 (pc' := 76) (ls' := [some (.ref 140), some (.int (b2i v1)), some (.int j2), some (.int j3), some (.int j4), none, none]) (st' := [.ref 140]) (S' := S) rfl ?_
  obtain ⟨w6, hw6, hr⟩ := ob_some hr
  refine go_cv mm_199 (h := 140) (As := []) (rest := []) (nl := 1) rfl rfl (show cvOK 199 76 156 194 0 1 11 = true by decide +kernel) rfl rfl rfl (S_194 hw6) (KP_V ?_)
  show Go XM (d + 5) 199 0 79 [some (.ref 140), some (.int (b2i v1)), some (.int j2), some (.int j3), some (.int j4), none, none] [] w6.2 (RV (vU r.1) r.2)
  refine go_run mm_199 3 (pc' := 84) (ls' := [some (.ref 140), some (.int (b2i v1)), some (.int j2), some (.int j3), some (.int j4), some (.int 99), none]) (st' := [.int (b2i v1)]) (S' := w6.2) rfl ?_
  refine go_ifb mm_199 rfl (p1 := 100) (p2 := 87) rfl (fun (hc6 : v1 = true) => ?_) (fun (hc6 : v1 = false) => ?_)
  · rw [if_pos hc6] at hr
    refine go_run mm_199 1 (pc' := 101) (ls' := [some (.ref 140), some (.int (b2i v1)), some (.int j2), some (.int j3), some (.int j4), some (.int 99), none]) (st' := [.ref 140]) (S' := w6.2) rfl ?_
    refine go_ldcS mm_199 (j := 15) rfl rfl ?_
    show Go XM (d + 5) 199 0 103 [some (.ref 140), some (.int (b2i v1)), some (.int j2), some (.int j3), some (.int j4), some (.int 99), none] [.ref 315, .ref 140] w6.2 (RV (vU r.1) r.2)
    obtain ⟨w7, hw7, hr⟩ := ob_some hr
    refine go_cv mm_199 (h := 140) (As := [.ref 315]) (rest := []) (nl := 3) rfl rfl (show cvOK 199 103 161 195 1 3 11 = true by decide +kernel) rfl rfl rfl (S_195 (rfl : txt 315 = some (TXS.getD 15 [])) hw7) (KP_V ?_)
    show Go XM (d + 5) 199 0 106 [some (.ref 140), some (.int (b2i v1)), some (.int j2), some (.int j3), some (.int j4), some (.int 99), none] [.int (b2i w7)] w6.2 (RV (vU r.1) r.2)
    refine go_ifb mm_199 rfl (p1 := 109) (p2 := 122) rfl (fun (hc7 : w7 = true) => ?_) (fun (hc7 : w7 = false) => ?_)
    · rw [if_pos hc7] at hr
      refine go_run mm_199 1 (pc' := 110) (ls' := [some (.ref 140), some (.int (b2i v1)), some (.int j2), some (.int j3), some (.int j4), some (.int 99), none]) (st' := [.ref 140]) (S' := w6.2) rfl ?_
      obtain ⟨w8, hw8, hr⟩ := ob_some hr
      refine go_cv mm_199 (h := 140) (As := []) (rest := []) (nl := 1) rfl rfl (show cvOK 199 110 156 194 0 1 11 = true by decide +kernel) rfl rfl rfl (S_194 hw8) (KP_V ?_)
      show Go XM (d + 5) 199 0 113 [some (.ref 140), some (.int (b2i v1)), some (.int j2), some (.int j3), some (.int j4), some (.int 99), none] [] w8.2 (RV (vU r.1) r.2)
      refine go_run mm_199 3 (pc' := 117) (ls' := [some (.ref 140), some (.int (b2i v1)), some (.int j2), some (.int j3), some (.int j4), some (.int 99), none]) (st' := [.int 99, .int 0, .ref 140]) (S' := w8.2) rfl ?_
      obtain ⟨w9, hw9, hr⟩ := ob_some hr
      refine go_cv mm_199 (h := 140) (As := [.int 0, .int 99]) (rest := []) (nl := 4) rfl rfl (show cvOK 199 117 165 197 2 4 11 = true by decide +kernel) rfl rfl rfl (S_197 hw9) (KP_V ?_)
      show Go XM (d + 5) 199 0 120 [some (.ref 140), some (.int (b2i v1)), some (.int j2), some (.int j3), some (.int j4), some (.int 99), none] [.int w9.1] w9.2 (RV (vU r.1) r.2)
      refine go_run mm_199 1 (pc' := 122) (ls' := [some (.ref 140), some (.int (b2i v1)), some (.int j2), some (.int j3), some (.int j4), some (.int w9.1), none]) (st' := []) (S' := w9.2) rfl ?_
      exact Go.le (JS_199_122 hr) (by repeat first | exact True.intro | refine And.intro rfl ?_)
    · rw [if_neg (bf hc7)] at hr
      exact Go.le (JS_199_122 hr) (by repeat first | exact True.intro | refine And.intro rfl ?_)
  · rw [if_neg (bf hc6)] at hr
    refine go_run mm_199 3 (pc' := 92) (ls' := [some (.ref 140), some (.int (b2i v1)), some (.int j2), some (.int j3), some (.int j4), some (.int 99), none]) (st' := [.int 999, .int 1, .ref 140]) (S' := w6.2) rfl ?_
    obtain ⟨w10, hw10, hr⟩ := ob_some hr
    refine go_cv mm_199 (h := 140) (As := [.int 1, .int 999]) (rest := []) (nl := 4) rfl rfl (show cvOK 199 92 165 197 2 4 11 = true by decide +kernel) rfl rfl rfl (S_197 hw10) (KP_V ?_)
    show Go XM (d + 5) 199 0 95 [some (.ref 140), some (.int (b2i v1)), some (.int j2), some (.int j3), some (.int j4), some (.int 99), none] [.int w10.1] w10.2 (RV (vU r.1) r.2)
    refine go_run mm_199 2 (pc' := 122) (ls' := [some (.ref 140), some (.int (b2i v1)), some (.int j2), some (.int j3), some (.int j4), some (.int w10.1), none]) (st' := []) (S' := w10.2) rfl ?_
    exact Go.le (JS_199_122 hr) (by repeat first | exact True.intro | refine And.intro rfl ?_)
noncomputable def J_199_26 (v1 : Bool) (j2 : Int32) (S : ST) : Option (Unit × ST) := ob (F_194 S) (fun w2 => ob (F_197 0 15 w2.2) (fun w3 => ob (F_196 0 15 w3.2) (fun w4 => if (w4.2.1 140 17) = 0 then (ob (F_208 146 (Int32.toInt64 w3.1) (Int32.toInt64 w4.1) 1 w4.2) (fun w5 => if w5 = true then (J_199_75 v1 j2 w3.1 w4.1 w4.2) else (ob (F_193 4 w4.2) (fun w11 => J_199_75 v1 j2 w3.1 w4.1 w11.2)))) else (J_199_75 v1 j2 w3.1 w4.1 w4.2))))
set_option maxRecDepth 20000 in
theorem JS_199_26 {d : Nat} {S : ST} {v1 : Bool} {j2 : Int32} {r} (hr : J_199_26 v1 j2 S = some r) : Go XM (d + 5) 199 0 26 [some (.ref 140), some (.int (b2i v1)), some (.int j2), none, none, none, none] [] S (RV (vU r.1) r.2) := by
  unfold J_199_26 at hr
  refine go_run mm_199 1 (pc' := 27) (ls' := [some (.ref 140), some (.int (b2i v1)), some (.int j2), none, none, none, none]) (st' := [.ref 140]) (S' := S) rfl ?_
  obtain ⟨w2, hw2, hr⟩ := ob_some hr
  refine go_cv mm_199 (h := 140) (As := []) (rest := []) (nl := 1) rfl rfl (show cvOK 199 27 156 194 0 1 11 = true by decide +kernel) rfl rfl rfl (S_194 hw2) (KP_V ?_)
  show Go XM (d + 5) 199 0 30 [some (.ref 140), some (.int (b2i v1)), some (.int j2), none, none, none, none] [] w2.2 (RV (vU r.1) r.2)
  refine go_run mm_199 3 (pc' := 34) (ls' := [some (.ref 140), some (.int (b2i v1)), some (.int j2), none, none, none, none]) (st' := [.int 15, .int 0, .ref 140]) (S' := w2.2) rfl ?_
  obtain ⟨w3, hw3, hr⟩ := ob_some hr
  refine go_cv mm_199 (h := 140) (As := [.int 0, .int 15]) (rest := []) (nl := 4) rfl rfl (show cvOK 199 34 165 197 2 4 11 = true by decide +kernel) rfl rfl rfl (S_197 hw3) (KP_V ?_)
  show Go XM (d + 5) 199 0 37 [some (.ref 140), some (.int (b2i v1)), some (.int j2), none, none, none, none] [.int w3.1] w3.2 (RV (vU r.1) r.2)
  refine go_run mm_199 4 (pc' := 42) (ls' := [some (.ref 140), some (.int (b2i v1)), some (.int j2), some (.int w3.1), none, none, none]) (st' := [.int 15, .int 0, .ref 140]) (S' := w3.2) rfl ?_
  obtain ⟨w4, hw4, hr⟩ := ob_some hr
  refine go_cv mm_199 (h := 140) (As := [.int 0, .int 15]) (rest := []) (nl := 3) rfl rfl (show cvOK 199 42 152 196 2 3 11 = true by decide +kernel) rfl rfl rfl (S_196 hw4) (KP_V ?_)
  show Go XM (d + 5) 199 0 45 [some (.ref 140), some (.int (b2i v1)), some (.int j2), some (.int w3.1), none, none, none] [.int w4.1] w4.2 (RV (vU r.1) r.2)
  refine go_run mm_199 3 (pc' := 51) (ls' := [some (.ref 140), some (.int (b2i v1)), some (.int j2), some (.int w3.1), some (.int w4.1), none, none]) (st' := [.int (w4.2.1 140 17)]) (S' := w4.2) rfl ?_
  refine go_if0 mm_199 rfl (p1 := 54) (p2 := 75) rfl (fun (hc4 : (w4.2.1 140 17) = 0) => ?_) (fun (hc4 : ¬ (w4.2.1 140 17) = 0) => ?_)
  · rw [if_pos hc4] at hr
    refine go_run mm_199 7 (pc' := 64) (ls' := [some (.ref 140), some (.int (b2i v1)), some (.int j2), some (.int w3.1), some (.int w4.1), none, none]) (st' := [.long 1, .long (Int32.toInt64 w4.1), .long (Int32.toInt64 w3.1), .ref 146]) (S' := w4.2) rfl ?_
    obtain ⟨w5, hw5, hr⟩ := ob_some hr
    refine go_cs mm_199 (av := [.ref 146, .long (Int32.toInt64 w3.1), .long (Int32.toInt64 w4.1), .long 1]) (rest := []) (nl := 16) rfl (show csOK 199 64 172 208 4 16 = true by decide +kernel) rfl rfl rfl (S_208 rfl hw5) (KP_V ?_)
    show Go XM (d + 5) 199 0 67 [some (.ref 140), some (.int (b2i v1)), some (.int j2), some (.int w3.1), some (.int w4.1), none, none] [.int (b2i w5)] w4.2 (RV (vU r.1) r.2)
    refine go_ifb mm_199 rfl (p1 := 75) (p2 := 70) rfl (fun (hc5 : w5 = true) => ?_) (fun (hc5 : w5 = false) => ?_)
    · rw [if_pos hc5] at hr
      exact Go.le (JS_199_75 hr) (by repeat first | exact True.intro | refine And.intro rfl ?_)
    · rw [if_neg (bf hc5)] at hr
      refine go_run mm_199 2 (pc' := 72) (ls' := [some (.ref 140), some (.int (b2i v1)), some (.int j2), some (.int w3.1), some (.int w4.1), none, none]) (st' := [.int 4, .ref 140]) (S' := w4.2) rfl ?_
      obtain ⟨w11, hw11, hr⟩ := ob_some hr
      refine go_cv mm_199 (h := 140) (As := [.int 4]) (rest := []) (nl := 2) rfl rfl (show cvOK 199 72 144 193 1 2 11 = true by decide +kernel) rfl rfl rfl (S_193 hw11) (KP_V ?_)
      show Go XM (d + 5) 199 0 75 [some (.ref 140), some (.int (b2i v1)), some (.int j2), some (.int w3.1), some (.int w4.1), none, none] [] w11.2 (RV (vU r.1) r.2)
      exact Go.le (JS_199_75 hr) (by repeat first | exact True.intro | refine And.intro rfl ?_)
  · rw [if_neg hc4] at hr
    exact Go.le (JS_199_75 hr) (by repeat first | exact True.intro | refine And.intro rfl ?_)
noncomputable def F_199 (v1 : Bool) (S : ST) : Option (Unit × ST) := ck (ibd (if v1 = true then 1 else 2) 63) (if (S.1 146 (Int32.toNatClampNeg (if v1 = true then 1 else 2)) : Int32) = 6 then (ob (F_193 5 S) (fun w1 => J_199_26 v1 (if v1 = true then 1 else 2) w1.2)) else (J_199_26 v1 (if v1 = true then 1 else 2) S))
set_option maxRecDepth 20000 in
theorem S_199 {d : Nat} {S : ST} {v1 : Bool} {r} (hr : F_199 v1 S = some r) : Cal XM (d + 5) 199 [.ref 140, .int (b2i v1)] S (RV (vU r.1) r.2) := by
  unfold F_199 at hr
  refine cal_go 5 rfl ?_
  refine go_run mm_199 1 (pc' := 1) (ls' := [some (.ref 140), some (.int (b2i v1)), none, none, none, none, none]) (st' := [.int (b2i v1)]) (S' := S) rfl ?_
  have j21 : Go XM (d + 5) 199 0 9 [some (.ref 140), some (.int (b2i v1)), none, none, none, none, none] [.int (if v1 = true then 1 else 2)] S (RV (vU r.1) r.2) := by
    refine go_run mm_199 4 (pc' := 15) (ls' := [some (.ref 140), some (.int (b2i v1)), some (.int (if v1 = true then 1 else 2)), none, none, none, none]) (st' := [.int (if v1 = true then 1 else 2), .ref 146]) (S' := S) rfl ?_
    obtain ⟨hb2, hr⟩ := ck_some hr
    refine go_iaload mm_199 (q := (Int32.toNatClampNeg (if v1 = true then 1 else 2))) rfl rfl rfl (ibd_ok hb2) ?_
    show Go XM (d + 5) 199 0 16 [some (.ref 140), some (.int (b2i v1)), some (.int (if v1 = true then 1 else 2)), none, none, none, none] [.int (S.1 146 (Int32.toNatClampNeg (if v1 = true then 1 else 2)))] S (RV (vU r.1) r.2)
    refine go_run mm_199 1 (pc' := 18) (ls' := [some (.ref 140), some (.int (b2i v1)), some (.int (if v1 = true then 1 else 2)), none, none, none, none]) (st' := [.int 6, .int (S.1 146 (Int32.toNatClampNeg (if v1 = true then 1 else 2)))]) (S' := S) rfl ?_
    refine go_if2 mm_199 rfl (p1 := 21) (p2 := 26) rfl (fun (hc3 : (S.1 146 (Int32.toNatClampNeg (if v1 = true then 1 else 2)) : Int32) = 6) => ?_) (fun (hc3 : ¬ (S.1 146 (Int32.toNatClampNeg (if v1 = true then 1 else 2)) : Int32) = 6) => ?_)
    · rw [if_pos hc3] at hr
      refine go_run mm_199 2 (pc' := 23) (ls' := [some (.ref 140), some (.int (b2i v1)), some (.int (if v1 = true then 1 else 2)), none, none, none, none]) (st' := [.int 5, .ref 140]) (S' := S) rfl ?_
      obtain ⟨w1, hw1, hr⟩ := ob_some hr
      refine go_cv mm_199 (h := 140) (As := [.int 5]) (rest := []) (nl := 2) rfl rfl (show cvOK 199 23 144 193 1 2 11 = true by decide +kernel) rfl rfl rfl (S_193 hw1) (KP_V ?_)
      show Go XM (d + 5) 199 0 26 [some (.ref 140), some (.int (b2i v1)), some (.int (if v1 = true then 1 else 2)), none, none, none, none] [] w1.2 (RV (vU r.1) r.2)
      exact Go.le (JS_199_26 hr) (by repeat first | exact True.intro | refine And.intro rfl ?_)
    · rw [if_neg hc3] at hr
      exact Go.le (JS_199_26 hr) (by repeat first | exact True.intro | refine And.intro rfl ?_)
  refine go_ifb mm_199 rfl (p1 := 4) (p2 := 8) rfl (fun (hc1 : v1 = true) => ?_) (fun (hc1 : v1 = false) => ?_)
  · refine go_run mm_199 2 (pc' := 9) (ls' := [some (.ref 140), some (.int (b2i v1)), none, none, none, none, none]) (st' := [.int 1]) (S' := S) rfl ?_
    have e : ((if v1 = true then 1 else 2) : Int32) = 1 := by simp [b2i, hc1]
    rw [e] at j21
    exact j21
  · refine go_run mm_199 1 (pc' := 9) (ls' := [some (.ref 140), some (.int (b2i v1)), none, none, none, none, none]) (st' := [.int 2]) (S' := S) rfl ?_
    have e : ((if v1 = true then 1 else 2) : Int32) = 2 := by simp [b2i, hc1]
    rw [e] at j21
    exact j21

noncomputable def Lm_200_22 (v1 : Int32) (a22 : Int32 × ST) : Option ((Int32 × ST) ⊕ (Int32 × ST)) := if a22.1 < 63 then (ck (ibd a22.1 63) (sbn ((wI a22.2 146 (Int32.toNatClampNeg a22.1) 0)) (fun s3 => some (.inl (a22.1 + 1, s3))))) else (some (.inr (a22.1, a22.2)))
set_option maxRecDepth 20000 in
theorem LSm_200_22 {d : Nat} {R : RT} {v1 : Int32} {a22 : Int32 × ST} {r9} (hr : Lm_200_22 v1 a22 = some r9) (hL : ∀ a9, r9 = .inl a9 → (fun a22 => Go XM (d + 8) 200 0 22 [some (.ref 140), some (.int v1), some (.int a22.1)] [] a22.2 R) a9) (hR : ∀ b9, r9 = .inr b9 → (fun e22 => Go XM (d + 8) 200 0 41 [some (.ref 140), some (.int v1), some (.int e22.1)] [] e22.2 R) b9) : Go XM (d + 8) 200 0 22 [some (.ref 140), some (.int v1), some (.int a22.1)] [] a22.2 R := by
  unfold Lm_200_22 at hr
  refine go_run mm_200 2 (pc' := 25) (ls' := [some (.ref 140), some (.int v1), some (.int a22.1)]) (st' := [.int 63, .int a22.1]) (S' := a22.2) rfl ?_
  refine go_if2 mm_200 rfl (p1 := 28) (p2 := 41) rfl (fun (hc1 : a22.1 < 63) => ?_) (fun (hc1 : ¬ a22.1 < 63) => ?_)
  · rw [if_pos hc1] at hr
    refine go_run mm_200 4 (pc' := 34) (ls' := [some (.ref 140), some (.int v1), some (.int a22.1)]) (st' := [.int 0, .int a22.1, .ref 146]) (S' := a22.2) rfl ?_
    obtain ⟨hb2, hr⟩ := ck_some hr
    refine go_iastore mm_200 (q := (Int32.toNatClampNeg a22.1)) rfl rfl rfl (ibd_ok hb2) ?_
    show Go XM (d + 8) 200 0 35 [some (.ref 140), some (.int v1), some (.int a22.1)] [] (wI a22.2 146 (Int32.toNatClampNeg a22.1) 0) R
    obtain ⟨s3, es3, hr⟩ := sbn_some hr
    rw [← es3]
    refine go_run mm_200 2 (pc' := 22) (ls' := [some (.ref 140), some (.int v1), some (.int (a22.1 + 1))]) (st' := []) (S' := s3) rfl ?_
    cases hr
    have h9 := hL (a22.1 + 1, s3) rfl
    dsimp only at h9
    exact Go.le h9 (by repeat first | exact True.intro | refine And.intro rfl ?_)
  · rw [if_neg hc1] at hr
    cases hr
    have h9 := hR (a22.1, a22.2) rfl
    dsimp only [Sum.elim_inl] at h9
    exact Go.le h9 (by repeat first | exact True.intro | refine And.intro rfl ?_)
noncomputable def Lm_200_49 (v1 : Int32) (p49_2 : Int32) (a49 : ST) : Option ((ST) ⊕ (ST)) := if (a49.1 140 17) = 0 then (if (a49.1 140 13) = 3 then (ob (F_192 a49) (fun w3 => ob (F_195 (TXS.getD 16 []) w3.2) (fun w4 => if w4 = true then (ob (F_195 (TXS.getD 16 []) w3.2) (fun w5 => ob (F_199 w5 w3.2) (fun w6 => some (.inl (w6.2))))) else (ob (F_195 (TXS.getD 17 []) w3.2) (fun w7 => if w7 = true then (ob (F_195 (TXS.getD 16 []) w3.2) (fun w8 => ob (F_199 w8 w3.2) (fun w9 => some (.inl (w9.2))))) else (ob (F_193 1 w3.2) (fun w10 => some (.inl (w10.2))))))))) else (some (.inr (a49)))) else (some (.inr (a49)))
set_option maxRecDepth 20000 in
theorem LSm_200_49 {d : Nat} {R : RT} {v1 : Int32} {p49_2 : Int32} {a49 : ST} {r9} (hr : Lm_200_49 v1 p49_2 a49 = some r9) (hL : ∀ a9, r9 = .inl a9 → (fun a49 => Go XM (d + 8) 200 0 49 [some (.ref 140), some (.int v1), some (.int p49_2)] [] a49 R) a9) (hR : ∀ b9, r9 = .inr b9 → (fun e49 => Go XM (d + 8) 200 0 107 [some (.ref 140), some (.int v1), some (.int p49_2)] [] e49 R) b9) : Go XM (d + 8) 200 0 49 [some (.ref 140), some (.int v1), some (.int p49_2)] [] a49 R := by
  unfold Lm_200_49 at hr
  refine go_run mm_200 2 (pc' := 53) (ls' := [some (.ref 140), some (.int v1), some (.int p49_2)]) (st' := [.int (a49.1 140 17)]) (S' := a49) rfl ?_
  refine go_if0 mm_200 rfl (p1 := 56) (p2 := 107) rfl (fun (hc4 : (a49.1 140 17) = 0) => ?_) (fun (hc4 : ¬ (a49.1 140 17) = 0) => ?_)
  · rw [if_pos hc4] at hr
    refine go_run mm_200 3 (pc' := 61) (ls' := [some (.ref 140), some (.int v1), some (.int p49_2)]) (st' := [.int 3, .int (a49.1 140 13)]) (S' := a49) rfl ?_
    refine go_if2 mm_200 rfl (p1 := 64) (p2 := 107) rfl (fun (hc5 : (a49.1 140 13) = 3) => ?_) (fun (hc5 : ¬ (a49.1 140 13) = 3) => ?_)
    · rw [if_pos hc5] at hr
      refine go_run mm_200 1 (pc' := 65) (ls' := [some (.ref 140), some (.int v1), some (.int p49_2)]) (st' := [.ref 140]) (S' := a49) rfl ?_
      obtain ⟨w3, hw3, hr⟩ := ob_some hr
      refine go_cv mm_200 (h := 140) (As := []) (rest := []) (nl := 3) rfl rfl (show cvOK 200 65 131 192 0 3 11 = true by decide +kernel) rfl rfl rfl (S_192 hw3) (KP_V ?_)
      show Go XM (d + 8) 200 0 68 [some (.ref 140), some (.int v1), some (.int p49_2)] [] w3.2 R
      refine go_run mm_200 1 (pc' := 69) (ls' := [some (.ref 140), some (.int v1), some (.int p49_2)]) (st' := [.ref 140]) (S' := w3.2) rfl ?_
      refine go_ldcS mm_200 (j := 16) rfl rfl ?_
      show Go XM (d + 8) 200 0 71 [some (.ref 140), some (.int v1), some (.int p49_2)] [.ref 316, .ref 140] w3.2 R
      obtain ⟨w4, hw4, hr⟩ := ob_some hr
      refine go_cv mm_200 (h := 140) (As := [.ref 316]) (rest := []) (nl := 3) rfl rfl (show cvOK 200 71 161 195 1 3 11 = true by decide +kernel) rfl rfl rfl (S_195 (rfl : txt 316 = some (TXS.getD 16 [])) hw4) (KP_V ?_)
      show Go XM (d + 8) 200 0 74 [some (.ref 140), some (.int v1), some (.int p49_2)] [.int (b2i w4)] w3.2 R
      refine go_ifb mm_200 rfl (p1 := 86) (p2 := 77) rfl (fun (hc6 : w4 = true) => ?_) (fun (hc6 : w4 = false) => ?_)
      · rw [if_pos hc6] at hr
        refine go_run mm_200 2 (pc' := 88) (ls' := [some (.ref 140), some (.int v1), some (.int p49_2)]) (st' := [.ref 140, .ref 140]) (S' := w3.2) rfl ?_
        refine go_ldcS mm_200 (j := 16) rfl rfl ?_
        show Go XM (d + 8) 200 0 90 [some (.ref 140), some (.int v1), some (.int p49_2)] [.ref 316, .ref 140, .ref 140] w3.2 R
        obtain ⟨w5, hw5, hr⟩ := ob_some hr
        refine go_cv mm_200 (h := 140) (As := [.ref 316]) (rest := [.ref 140]) (nl := 3) rfl rfl (show cvOK 200 90 161 195 1 3 11 = true by decide +kernel) rfl rfl rfl (S_195 (rfl : txt 316 = some (TXS.getD 16 [])) hw5) (KP_V ?_)
        show Go XM (d + 8) 200 0 93 [some (.ref 140), some (.int v1), some (.int p49_2)] [.int (b2i w5), .ref 140] w3.2 R
        obtain ⟨w6, hw6, hr⟩ := ob_some hr
        refine go_cv mm_200 (h := 140) (As := [.int (b2i w5)]) (rest := []) (nl := 7) rfl rfl (show cvOK 200 93 185 199 1 7 11 = true by decide +kernel) rfl rfl rfl (S_199 hw6) (KP_V ?_)
        show Go XM (d + 8) 200 0 96 [some (.ref 140), some (.int v1), some (.int p49_2)] [] w6.2 R
        refine go_run mm_200 1 (pc' := 49) (ls' := [some (.ref 140), some (.int v1), some (.int p49_2)]) (st' := []) (S' := w6.2) rfl ?_
        cases hr
        have h9 := hL (w6.2) rfl
        dsimp only at h9
        exact Go.le h9 (by repeat first | exact True.intro | refine And.intro rfl ?_)
      · rw [if_neg (bf hc6)] at hr
        refine go_run mm_200 1 (pc' := 78) (ls' := [some (.ref 140), some (.int v1), some (.int p49_2)]) (st' := [.ref 140]) (S' := w3.2) rfl ?_
        refine go_ldcS mm_200 (j := 17) rfl rfl ?_
        show Go XM (d + 8) 200 0 80 [some (.ref 140), some (.int v1), some (.int p49_2)] [.ref 317, .ref 140] w3.2 R
        obtain ⟨w7, hw7, hr⟩ := ob_some hr
        refine go_cv mm_200 (h := 140) (As := [.ref 317]) (rest := []) (nl := 3) rfl rfl (show cvOK 200 80 161 195 1 3 11 = true by decide +kernel) rfl rfl rfl (S_195 (rfl : txt 317 = some (TXS.getD 17 [])) hw7) (KP_V ?_)
        show Go XM (d + 8) 200 0 83 [some (.ref 140), some (.int v1), some (.int p49_2)] [.int (b2i w7)] w3.2 R
        refine go_ifb mm_200 rfl (p1 := 86) (p2 := 99) rfl (fun (hc7 : w7 = true) => ?_) (fun (hc7 : w7 = false) => ?_)
        · rw [if_pos hc7] at hr
          refine go_run mm_200 2 (pc' := 88) (ls' := [some (.ref 140), some (.int v1), some (.int p49_2)]) (st' := [.ref 140, .ref 140]) (S' := w3.2) rfl ?_
          refine go_ldcS mm_200 (j := 16) rfl rfl ?_
          show Go XM (d + 8) 200 0 90 [some (.ref 140), some (.int v1), some (.int p49_2)] [.ref 316, .ref 140, .ref 140] w3.2 R
          obtain ⟨w8, hw8, hr⟩ := ob_some hr
          refine go_cv mm_200 (h := 140) (As := [.ref 316]) (rest := [.ref 140]) (nl := 3) rfl rfl (show cvOK 200 90 161 195 1 3 11 = true by decide +kernel) rfl rfl rfl (S_195 (rfl : txt 316 = some (TXS.getD 16 [])) hw8) (KP_V ?_)
          show Go XM (d + 8) 200 0 93 [some (.ref 140), some (.int v1), some (.int p49_2)] [.int (b2i w8), .ref 140] w3.2 R
          obtain ⟨w9, hw9, hr⟩ := ob_some hr
          refine go_cv mm_200 (h := 140) (As := [.int (b2i w8)]) (rest := []) (nl := 7) rfl rfl (show cvOK 200 93 185 199 1 7 11 = true by decide +kernel) rfl rfl rfl (S_199 hw9) (KP_V ?_)
          show Go XM (d + 8) 200 0 96 [some (.ref 140), some (.int v1), some (.int p49_2)] [] w9.2 R
          refine go_run mm_200 1 (pc' := 49) (ls' := [some (.ref 140), some (.int v1), some (.int p49_2)]) (st' := []) (S' := w9.2) rfl ?_
          cases hr
          have h9 := hL (w9.2) rfl
          dsimp only at h9
          exact Go.le h9 (by repeat first | exact True.intro | refine And.intro rfl ?_)
        · rw [if_neg (bf hc7)] at hr
          refine go_run mm_200 2 (pc' := 101) (ls' := [some (.ref 140), some (.int v1), some (.int p49_2)]) (st' := [.int 1, .ref 140]) (S' := w3.2) rfl ?_
          obtain ⟨w10, hw10, hr⟩ := ob_some hr
          refine go_cv mm_200 (h := 140) (As := [.int 1]) (rest := []) (nl := 2) rfl rfl (show cvOK 200 101 144 193 1 2 11 = true by decide +kernel) rfl rfl rfl (S_193 hw10) (KP_V ?_)
          show Go XM (d + 8) 200 0 104 [some (.ref 140), some (.int v1), some (.int p49_2)] [] w10.2 R
          refine go_run mm_200 1 (pc' := 49) (ls' := [some (.ref 140), some (.int v1), some (.int p49_2)]) (st' := []) (S' := w10.2) rfl ?_
          cases hr
          have h9 := hL (w10.2) rfl
          dsimp only at h9
          exact Go.le h9 (by repeat first | exact True.intro | refine And.intro rfl ?_)
    · rw [if_neg hc5] at hr
      cases hr
      have h9 := hR (a49) rfl
      dsimp only [Sum.elim_inl] at h9
      exact Go.le h9 (by repeat first | exact True.intro | refine And.intro rfl ?_)
  · rw [if_neg hc4] at hr
    cases hr
    have h9 := hR (a49) rfl
    dsimp only [Sum.elim_inl] at h9
    exact Go.le h9 (by repeat first | exact True.intro | refine And.intro rfl ?_)
noncomputable def F_200 (v1 : Int32) (S : ST) : Option (Unit × ST) := ob (wh FU (Lm_200_22 v1) (0, (wI (wI (wI (wI S 140 10 v1) 140 11 0) 140 17 0) 140 18 (-1)))) (fun e22 => ob (F_192 e22.2) (fun w1 => ob (F_198 w1.2) (fun w2 => ob (wh FU (Lm_200_49 v1 e22.1) (w2.2)) (fun e49 => if (e49.1 140 13) = 0 then (some ((), e49)) else (ob (F_193 1 e49) (fun w11 => some ((), w11.2)))))))
set_option maxRecDepth 20000 in
theorem S_200 {d : Nat} {S : ST} {v1 : Int32} {r} (hr : F_200 v1 S = some r) : Cal XM (d + 8) 200 [.ref 140, .int v1] S (RV (vU r.1) r.2) := by
  unfold F_200 at hr
  refine cal_go 1 rfl ?_
  refine go_run mm_200 14 (pc' := 22) (ls' := [some (.ref 140), some (.int v1), some (.int 0)]) (st' := []) (S' := (wI (wI (wI (wI S 140 10 v1) 140 11 0) 140 17 0) 140 18 (-1))) rfl ?_
  obtain ⟨z22, he22, hr⟩ := ob_some hr
  refine Go.le (ls' := [some (.ref 140), some (.int v1), some (.int 0)]) ?_ (by repeat first | exact True.intro | refine And.intro rfl ?_)
  refine wh_go (P := fun a22 => Go XM (d + 8) 200 0 22 [some (.ref 140), some (.int v1), some (.int a22.1)] [] a22.2 (RV (vU r.1) r.2)) (K := fun e22 => Go XM (d + 8) 200 0 41 [some (.ref 140), some (.int v1), some (.int e22.1)] [] e22.2 (RV (vU r.1) r.2)) (fun a9 r9 h9 hL hR => LSm_200_22 h9 hL hR) _ _ _ he22 ?_
  generalize z22 = e22 at hr
  show Go XM (d + 8) 200 0 41 [some (.ref 140), some (.int v1), some (.int e22.1)] [] e22.2 (RV (vU r.1) r.2)
  refine go_run mm_200 1 (pc' := 42) (ls' := [some (.ref 140), some (.int v1), some (.int e22.1)]) (st' := [.ref 140]) (S' := e22.2) rfl ?_
  obtain ⟨w1, hw1, hr⟩ := ob_some hr
  refine go_cv mm_200 (h := 140) (As := []) (rest := []) (nl := 3) rfl rfl (show cvOK 200 42 131 192 0 3 11 = true by decide +kernel) rfl rfl rfl (S_192 hw1) (KP_V ?_)
  show Go XM (d + 8) 200 0 45 [some (.ref 140), some (.int v1), some (.int e22.1)] [] w1.2 (RV (vU r.1) r.2)
  refine go_run mm_200 1 (pc' := 46) (ls' := [some (.ref 140), some (.int v1), some (.int e22.1)]) (st' := [.ref 140]) (S' := w1.2) rfl ?_
  obtain ⟨w2, hw2, hr⟩ := ob_some hr
  refine go_cv mm_200 (h := 140) (As := []) (rest := []) (nl := 3) rfl rfl (show cvOK 200 46 178 198 0 3 11 = true by decide +kernel) rfl rfl rfl (S_198 hw2) (KP_V ?_)
  show Go XM (d + 8) 200 0 49 [some (.ref 140), some (.int v1), some (.int e22.1)] [] w2.2 (RV (vU r.1) r.2)
  obtain ⟨z49, he49, hr⟩ := ob_some hr
  refine Go.le (ls' := [some (.ref 140), some (.int v1), some (.int e22.1)]) ?_ (by repeat first | exact True.intro | refine And.intro rfl ?_)
  refine wh_go (P := fun a49 => Go XM (d + 8) 200 0 49 [some (.ref 140), some (.int v1), some (.int e22.1)] [] a49 (RV (vU r.1) r.2)) (K := fun e49 => Go XM (d + 8) 200 0 107 [some (.ref 140), some (.int v1), some (.int e22.1)] [] e49 (RV (vU r.1) r.2)) (fun a9 r9 h9 hL hR => LSm_200_49 h9 hL hR) _ _ _ he49 ?_
  generalize z49 = e49 at hr
  show Go XM (d + 8) 200 0 107 [some (.ref 140), some (.int v1), some (.int e22.1)] [] e49 (RV (vU r.1) r.2)
  refine go_run mm_200 2 (pc' := 111) (ls' := [some (.ref 140), some (.int v1), some (.int e22.1)]) (st' := [.int (e49.1 140 13)]) (S' := e49) rfl ?_
  refine go_if0 mm_200 rfl (p1 := 119) (p2 := 114) rfl (fun (hc8 : (e49.1 140 13) = 0) => ?_) (fun (hc8 : ¬ (e49.1 140 13) = 0) => ?_)
  · rw [if_pos hc8] at hr
    cases hr
    exact go_vreturn mm_200 rfl rfl ⟨rfl, rfl, rfl⟩
  · rw [if_neg hc8] at hr
    refine go_run mm_200 2 (pc' := 116) (ls' := [some (.ref 140), some (.int v1), some (.int e22.1)]) (st' := [.int 1, .ref 140]) (S' := e49) rfl ?_
    obtain ⟨w11, hw11, hr⟩ := ob_some hr
    refine go_cv mm_200 (h := 140) (As := [.int 1]) (rest := []) (nl := 2) rfl rfl (show cvOK 200 116 144 193 1 2 11 = true by decide +kernel) rfl rfl rfl (S_193 hw11) (KP_V ?_)
    show Go XM (d + 8) 200 0 119 [some (.ref 140), some (.int v1), some (.int e22.1)] [] w11.2 (RV (vU r.1) r.2)
    cases hr
    exact go_vreturn mm_200 rfl rfl ⟨rfl, rfl, rfl⟩

noncomputable def F_214 (S : ST) : Option (Unit × ST) := ck (chB (RW S 141 ∧ rk (inp S 141) 256 ≤ 64)) (some ((), g_214 S))
theorem S_214 {d : Nat} {S : ST} {r} (hr : F_214 S = some r) : Cal XM (d + 5) 214 [.ref 140] S (RV (vU r.1) r.2) := by
  unfold F_214 at hr
  obtain ⟨q, hr⟩ := ck_some hr
  have q := chB_t.mp q
  have z := sq_214 (d := d) q.1 q.2
  generalize g_214 S = S9 at hr z
  cases hr
  exact z
