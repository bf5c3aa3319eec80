theorem mm_286 : mtG 286 = some (mi_286, 12, ft_286) := rfl
theorem b_286_0 {d c : Nat} {R : RT} {S : ST} (e1 : (decide (S.1 140 1 = 0)) = true → R c (.inr (some (.int 0))) (wI S 140 0 (tz (decide (S.1 140 1 = 0)) 1))) (e2 : (decide (S.1 140 1 = 0)) = false → Go XM (d + 8) 286 c 15 [some (.ref 140), none, none, none] [.int (-1), .ref 140, .long (f_216 (wI S 140 0 (tz (decide (S.1 140 1 = 0)) 1)))] (wI S 140 0 (tz (decide (S.1 140 1 = 0)) 1)) R) : Go XM (d + 8) 286 c 0 [some (.ref 140), none, none, none] [] S R := by
  refine go_run mm_286 1 (pc' := 1) (ls' := [some (.ref 140), none, none, none]) (st' := [.ref 140]) (S' := S) rfl ?_
  refine go_cv mm_286 (h := 140) (As := []) (rest := []) (nl := 1) rfl XM_140 (show cvOK 286 1 247 184 0 1 11 = true by decide +kernel) rfl rfl rfl (sq_184) (KP_V ?_)
  refine go_ifb mm_286 rfl (p1 := 7) (p2 := 9) rfl (fun (hc1 : (decide (S.1 140 1 = 0)) = true) => ?_) (fun (hc1 : (decide (S.1 140 1 = 0)) = false) => ?_)
  · refine go_run mm_286 1 (pc' := 8) (ls' := [some (.ref 140), none, none, none]) (st' := [.int 0]) (S' := (wI S 140 0 (tz (decide (S.1 140 1 = 0)) 1))) rfl ?_
    exact go_ireturn mm_286 rfl rfl (e1 hc1)
  · refine go_run mm_286 1 (pc' := 10) (ls' := [some (.ref 140), none, none, none]) (st' := [.ref 140]) (S' := (wI S 140 0 (tz (decide (S.1 140 1 = 0)) 1))) rfl ?_
    refine go_cv mm_286 (h := 140) (As := []) (rest := []) (nl := 1) rfl XM_140 (show cvOK 286 10 286 216 0 1 11 = true by decide +kernel) rfl rfl rfl (sp_216) (KP_V ?_)
    refine go_run mm_286 2 (pc' := 15) (ls' := [some (.ref 140), none, none, none]) (st' := [.int (-1), .ref 140, .long (f_216 (wI S 140 0 (tz (decide (S.1 140 1 = 0)) 1)))]) (S' := (wI S 140 0 (tz (decide (S.1 140 1 = 0)) 1))) rfl ?_
    exact e2 hc1
theorem b_286_18 {d c : Nat} {R : RT} {S : ST} {w0 : Int64} {w1 : Int64} (e1 : Go XM (d + 8) 286 c 26 [some (.ref 140), some (.long (w0 &&& (w1 ^^^ (-1)))), none, some (.int 0)] [] S R) : Go XM (d + 8) 286 c 18 [some (.ref 140), none, none, none] [.long w1, .long w0] S R := by
  refine go_run mm_286 6 (pc' := 26) (ls' := [some (.ref 140), some (.long (w0 &&& (w1 ^^^ (-1)))), none, some (.int 0)]) (st' := []) (S' := S) rfl ?_
  exact e1
theorem b_286_26 {d c : Nat} {R : RT} {S : ST} {v1 : Int64} {v3 : Int32} (e1 : v1 = 0 → R c (.inr (some (.int v3))) S) (e2 : ¬ v1 = 0 → Go XM (d + 8) 286 c 39 [some (.ref 140), some (.long v1), none, some (.int v3)] [.long v1, .ref 140, .ref 153, .long v1] S R) : Go XM (d + 8) 286 c 26 [some (.ref 140), some (.long v1), none, some (.int v3)] [] S R := by
  refine go_run mm_286 2 (pc' := 28) (ls' := [some (.ref 140), some (.long v1), none, some (.int v3)]) (st' := [.long 0, .long v1]) (S' := S) rfl ?_
  refine go_lif mm_286 rfl rfl (p1 := 55) (p2 := 32) rfl (fun (hc1 : v1 = 0) => ?_) (fun (hc1 : ¬ v1 = 0) => ?_)
  · refine go_run mm_286 1 (pc' := 56) (ls' := [some (.ref 140), some (.long v1), none, some (.int v3)]) (st' := [.int v3]) (S' := S) rfl ?_
    exact go_ireturn mm_286 rfl rfl (e1 hc1)
  · refine go_run mm_286 5 (pc' := 39) (ls' := [some (.ref 140), some (.long v1), none, some (.int v3)]) (st' := [.long v1, .ref 140, .ref 153, .long v1]) (S' := S) rfl ?_
    exact e2 hc1
theorem b_286_42 {d c : Nat} {R : RT} {S : ST} {v1 : Int64} {v3 : Int32} {w0 : Int64} {w2 : Int32} (o1 : inB w2 64) (e1 : Go XM (d + 8) 286 c 26 [some (.ref 140), some (.long (w0 &&& ((rl S 153 w2) ^^^ (-1)))), none, some (.int (v3 + 1))] [] S R) : Go XM (d + 8) 286 c 42 [some (.ref 140), some (.long v1), none, some (.int v3)] [.int w2, .ref 153, .long w0] S R := by
  refine go_laload mm_286 (q := (Int32.toNatClampNeg w2)) rfl rfl rfl (o1) ?_
  refine go_run mm_286 6 (pc' := 26) (ls' := [some (.ref 140), some (.long (w0 &&& ((rl S 153 w2) ^^^ (-1)))), none, some (.int (v3 + 1))]) (st' := []) (S' := S) rfl ?_
  exact e1
theorem mm_289 : mtG 289 = some (mi_289, 12, ft_289) := rfl
theorem b_289_0 {d c : Nat} {R : RT} {S : ST} {v1 : Int64} (e1 : Go XM (d + 2) 289 c 5 [some (.ref 140), some (.long v1), none, some (.int 0), some (.int 0)] [] S R) : Go XM (d + 2) 289 c 0 [some (.ref 140), some (.long v1), none, none, none] [] S R := by
  refine go_run mm_289 4 (pc' := 5) (ls' := [some (.ref 140), some (.long v1), none, some (.int 0), some (.int 0)]) (st' := []) (S' := S) rfl ?_
  exact e1
theorem b_289_5 {d c : Nat} {R : RT} {S : ST} {v1 : Int64} {v3 : Int32} {v4 : Int32} (o1 : v4 < (S.1 141 2) → inB ((45 + (3 * v4)) + 0) 63) (o2 : v4 < (S.1 141 2) → inB ((45 + (3 * v4)) + 1) 63) (o3 : v4 < (S.1 141 2) → (f_217 v1 (f_215 S (f_287 S v4 0) (f_287 S v4 1))) = true → inB ((45 + (3 * v4)) + 2) 63) (e1 : v4 < (S.1 141 2) → Go XM (d + 2) 289 c 5 [some (.ref 140), some (.long v1), none, some (.int (v3 + (if (f_217 v1 (f_215 S (f_287 S v4 0) (f_287 S v4 1))) = true then f_287 S v4 2 else 0))), some (.int (v4 + 1))] [] S R) (e2 : ¬ v4 < (S.1 141 2) → R c (.inr (some (.int v3))) S) : Go XM (d + 2) 289 c 5 [some (.ref 140), some (.long v1), none, some (.int v3), some (.int v4)] [] S R := by
  refine go_run mm_289 4 (pc' := 12) (ls' := [some (.ref 140), some (.long v1), none, some (.int v3), some (.int v4)]) (st' := [.int 2, .ref 141, .int v4]) (S' := S) rfl ?_
  refine go_iaload mm_289 (q := 2) rfl rfl rfl (inB_lit rfl) ?_
  refine go_if2 mm_289 rfl (p1 := 16) (p2 := 61) rfl (fun (hc1 : v4 < (S.1 141 2)) => ?_) (fun (hc1 : ¬ v4 < (S.1 141 2)) => ?_)
  · refine go_run mm_289 6 (pc' := 23) (ls' := [some (.ref 140), some (.long v1), none, some (.int v3), some (.int v4)]) (st' := [.int 0, .int v4, .ref 140, .ref 140, .long v1, .int v3]) (S' := S) rfl ?_
    refine go_cv mm_289 (h := 140) (As := [.int v4, .int 0]) (rest := [.ref 140, .long v1, .int v3]) (nl := 3) rfl XM_140 (show cvOK 289 23 365 287 2 3 11 = true by decide +kernel) rfl rfl rfl (sp_287 (o1 hc1)) (KP_V ?_)
    refine go_run mm_289 3 (pc' := 30) (ls' := [some (.ref 140), some (.long v1), none, some (.int v3), some (.int v4)]) (st' := [.int 1, .int v4, .ref 140, .int (f_287 S v4 0), .ref 140, .long v1, .int v3]) (S' := S) rfl ?_
    refine go_cv mm_289 (h := 140) (As := [.int v4, .int 1]) (rest := [.int (f_287 S v4 0), .ref 140, .long v1, .int v3]) (nl := 3) rfl XM_140 (show cvOK 289 30 365 287 2 3 11 = true by decide +kernel) rfl rfl rfl (sp_287 (o2 hc1)) (KP_V ?_)
    refine go_cv mm_289 (h := 140) (As := [.int (f_287 S v4 0), .int (f_287 S v4 1)]) (rest := [.long v1, .int v3]) (nl := 3) rfl XM_140 (show cvOK 289 33 257 215 2 3 11 = true by decide +kernel) rfl rfl rfl (sq_215) (KP_V ?_)
    refine go_cs mm_289 (av := [.long v1, .int (f_215 S (f_287 S v4 0) (f_287 S v4 1))]) (rest := [.int v3]) (nl := 3) rfl (show csOK 289 36 282 217 2 3 = true by decide +kernel) rfl rfl rfl (sp_217) (KP_V ?_)
    have j1 : Go XM (d + 2) 289 c 53 [some (.ref 140), some (.long v1), none, some (.int v3), some (.int v4)] [.int (if (f_217 v1 (f_215 S (f_287 S v4 0) (f_287 S v4 1))) = true then f_287 S v4 2 else 0), .int v3] S R := by
      refine go_run mm_289 4 (pc' := 5) (ls' := [some (.ref 140), some (.long v1), none, some (.int (v3 + (if (f_217 v1 (f_215 S (f_287 S v4 0) (f_287 S v4 1))) = true then f_287 S v4 2 else 0))), some (.int (v4 + 1))]) (st' := []) (S' := S) rfl ?_
      exact e1 hc1
    refine go_ifb mm_289 rfl (p1 := 42) (p2 := 52) rfl (fun (hc2 : (f_217 v1 (f_215 S (f_287 S v4 0) (f_287 S v4 1))) = true) => ?_) (fun (hc2 : (f_217 v1 (f_215 S (f_287 S v4 0) (f_287 S v4 1))) = false) => ?_)
    · refine go_run mm_289 3 (pc' := 46) (ls' := [some (.ref 140), some (.long v1), none, some (.int v3), some (.int v4)]) (st' := [.int 2, .int v4, .ref 140, .int v3]) (S' := S) rfl ?_
      refine go_cv mm_289 (h := 140) (As := [.int v4, .int 2]) (rest := [.int v3]) (nl := 3) rfl XM_140 (show cvOK 289 46 365 287 2 3 11 = true by decide +kernel) rfl rfl rfl (sp_287 (o3 hc1 hc2)) (KP_V ?_)
      refine go_run mm_289 1 (pc' := 53) (ls' := [some (.ref 140), some (.long v1), none, some (.int v3), some (.int v4)]) (st' := [.int (f_287 S v4 2), .int v3]) (S' := S) rfl ?_
      have e : ((if (f_217 v1 (f_215 S (f_287 S v4 0) (f_287 S v4 1))) = true then f_287 S v4 2 else 0) : Int32) = f_287 S v4 2 := by simp [b2i, hc2]
      rw [e] at j1
      exact j1
    · refine go_run mm_289 1 (pc' := 53) (ls' := [some (.ref 140), some (.long v1), none, some (.int v3), some (.int v4)]) (st' := [.int 0, .int v3]) (S' := S) rfl ?_
      have e : ((if (f_217 v1 (f_215 S (f_287 S v4 0) (f_287 S v4 1))) = true then f_287 S v4 2 else 0) : Int32) = 0 := by simp [b2i, hc2]
      rw [e] at j1
      exact j1
  · refine go_run mm_289 1 (pc' := 62) (ls' := [some (.ref 140), some (.long v1), none, some (.int v3), some (.int v4)]) (st' := [.int v3]) (S' := S) rfl ?_
    exact go_ireturn mm_289 rfl rfl (e2 hc1)
def st89 (S : ST) (u : Int64) (t : Nat) (a : Int32) : Int32 := a + (if (f_217 u (f_215 S (f_287 S (nJ t) 0) (f_287 S (nJ t) 1))) = true then f_287 S (nJ t) 2 else 0)
def f_289 (S : ST) (u : Int64) : Int32 := fr (st89 S u) 0 (Int32.toNatClampNeg (S.1 141 2)) 0
theorem tr_all {S : ST} (h : Qp S) : S.1 141 2 = nJ (Int32.toNatClampNeg (S.1 141 2)) ∧ Int32.toNatClampNeg (S.1 141 2) ≤ 6 := by
  obtain ⟨-, T, t1, t2, -⟩ := h.ld.2
  rw [t1, nJ_ix (by omega)]
  exact ⟨rfl, t2⟩
section W2
variable {d : Nat} {S : ST}
theorem sq_289 {u : Int64} (h : Qp S) : Cal XM (d + 2) 289 [.ref 140, .long u] S (RV (some (.int (f_289 S u))) S) := by
  obtain ⟨t1, t2⟩ := tr_all h
  refine cal_go 2 rfl (b_289_0 ?_)
  unfold f_289
  generalize Int32.toNatClampNeg (S.1 141 2) = T at *
  refine fr_loop (f := st89 S u) (n := T) (J := fun _ _ => True) (H := fun i a => Go XM (d + 2) 289 0 5 [some (.ref 140), some (.long u), none, some (.int a), some (.int (nJ i))] [] S (RV (some (.int (fr (st89 S u) 0 T 0))) S)) (fun i a hi _ => ⟨trivial, fun hn => ?_⟩) T 0 0 (by omega) trivial (fun _ => ?_)
  · have hlt : nJ i < S.1 141 2 := by rw [t1, nJ_lt (by omega) (by omega)]; exact hi
    refine b_289_5 (fun _ => in287 (k := 0) (by omega) (by omega)) (fun _ => in287 (k := 1) (by omega) (by omega)) (fun _ _ => in287 (k := 2) (by omega) (by omega)) (fun _ => ?_) (fun q => absurd hlt q)
    rw [nJ_succ]
    exact hn
  · have hn : ¬ nJ T < S.1 141 2 := by rw [t1, nJ_lt (by omega) (by omega)]; omega
    exact b_289_5 (fun q => absurd q hn) (fun q => absurd q hn) (fun q => absurd q hn) (fun q => absurd q hn) (fun _ => ⟨rfl, rfl, rfl⟩)
theorem q_286 (M : MOK S) : Cal XM (d + 8) 286 [.ref 140] S (RQi S) := by
  refine cal_go 3 rfl (b_286_0 (fun _ => Qi_t M) (fun h1 => ?_))
  have a1 := np_f h1
  have qt := Qq_t M (tz (decide (S.1 140 1 = 0)) 1)
  have hall : ∀ i, i < 64 → bz (f_216 (wI S 140 0 (tz (decide (S.1 140 1 = 0)) 1))) i = decide (i < nP S) := fun i hi => all_t (S := wI S 140 0 (tz (decide (S.1 140 1 = 0)) 1)) (Ld_P (M.2.1 a1).1).1 (Ld_P (M.2.1 a1).1).2 hi
  refine go_cv mm_286 (h := 140) (As := [.int (-1)]) (rest := [.long (f_216 (wI S 140 0 (tz (decide (S.1 140 1 = 0)) 1)))]) (nl := 5) rfl XM_140 (show cvOK 286 15 359 277 1 5 11 = true by decide +kernel) rfl rfl rfl (sq_277 (d := d) ⟨qt.1, a1⟩) (KP_P (fun v S1 k1 => ?_))
  obtain ⟨⟨x, rfl⟩, q1, s1⟩ := k1
  have q01 := qt.tr q1
  have en := nP_q q01
  have hL := (Qp.ld ⟨s1.1, s1.2.1⟩).1
  have h64 := (Ld_P hL).2
  refine b_286_18 ?_
  have key : ∀ K u n, pc64 u ≤ K → (∀ i, i < 64 → bz u i = true → i < nP S1) → Go XM (d + 8) 286 0 26 [some (.ref 140), some (.long u), none, some (.int n)] [] S1 (RQi S) := by
    intro K
    induction K with
    | zero =>
      intro u n hK hu
      refine b_286_26 (fun _ => Qi_q q01) (fun q => ?_)
      have := pc64_0 q
      omega
    | succ K ih =>
      intro u n hK hu
      refine b_286_26 (fun _ => Qi_q q01) (fun q => ?_)
      refine go_cv mm_286 (h := 140) (As := [.long u]) (rest := [.ref 153, .long u]) (nl := 5) rfl XM_140 (show cvOK 286 39 362 284 1 5 11 = true by decide +kernel) rfl rfl rfl (sq_284 (d := d + 5) hL) (KP_P (fun v S2 k2 => ?_))
      obtain ⟨rfl, p, hp, rfl, hbest⟩ := k2
      refine b_286_42 (nJ_inB (by omega) (by omega)) ?_
      rw [rl_n S2 153 (by omega)]
      obtain ⟨i, hi, hb⟩ := ne_bz q
      have hiP := hu i hi hb
      have hne : ¬ (S2.2 153 i &&& u) = 0 := fun z => by
        have := congrArg (fun y => bz y i) z
        simp only [bz_and, bz_0, hb, (s1.2.2 i hiP).2.1, Bool.and_self] at this
        cases this
      have hp1 := pn_pos hne
      have hp2 := hbest i hiP
      have hne2 : ¬ (S2.2 153 p &&& u) = 0 := fun z => by rw [z, pn_0] at hp2; omega
      obtain ⟨j, hj, hjb⟩ := ne_bz hne2
      rw [bz_and, Bool.and_eq_true] at hjb
      refine ih _ _ ?_ (fun r hr hrb => ?_)
      · have := pc64_lt (x := u) (y := u &&& (S2.2 153 p ^^^ (-1))) hj hjb.2 (by rw [bz_and, bz_not _ hj, hjb.1]; simp) (fun r hr hrb => by rw [bz_and, Bool.and_eq_true] at hrb; exact hrb.1)
        omega
      · rw [bz_and, Bool.and_eq_true] at hrb
        exact hu r hr hrb.1
  refine key 64 _ 0 (rk_le _ _) (fun i hi hb => ?_)
  rw [bz_and, Bool.and_eq_true, hall i hi] at hb
  rw [en]
  exact of_decide_eq_true hb.1
end W2
theorem mm_290 : mtG 290 = some (mi_290, 12, ft_290) := rfl
theorem b_290_0 {d c : Nat} {R : RT} {S : ST} (e1 : (decide (S.1 140 1 = 0)) = true → R c (.inr (some (.int 0))) (wI S 140 0 (tz (decide (S.1 140 1 = 0)) 1))) (e2 : (decide (S.1 140 1 = 0)) = false → Go XM (d + 8) 290 c 14 [some (.ref 140)] [.int (-1), .ref 140, .ref 140] (wI S 140 0 (tz (decide (S.1 140 1 = 0)) 1)) R) : Go XM (d + 8) 290 c 0 [some (.ref 140)] [] S R := by
  refine go_run mm_290 1 (pc' := 1) (ls' := [some (.ref 140)]) (st' := [.ref 140]) (S' := S) rfl ?_
  refine go_cv mm_290 (h := 140) (As := []) (rest := []) (nl := 1) rfl XM_140 (show cvOK 290 1 247 184 0 1 11 = true by decide +kernel) rfl rfl rfl (sq_184) (KP_V ?_)
  refine go_ifb mm_290 rfl (p1 := 7) (p2 := 11) rfl (fun (hc1 : (decide (S.1 140 1 = 0)) = true) => ?_) (fun (hc1 : (decide (S.1 140 1 = 0)) = false) => ?_)
  · refine go_run mm_290 2 (pc' := 20) (ls' := [some (.ref 140)]) (st' := [.int 0]) (S' := (wI S 140 0 (tz (decide (S.1 140 1 = 0)) 1))) rfl ?_
    exact go_ireturn mm_290 rfl rfl (e1 hc1)
  · refine go_run mm_290 3 (pc' := 14) (ls' := [some (.ref 140)]) (st' := [.int (-1), .ref 140, .ref 140]) (S' := (wI S 140 0 (tz (decide (S.1 140 1 = 0)) 1))) rfl ?_
    exact e2 hc1
theorem b_290_17 {d c : Nat} {R : RT} {S : ST} {w1 : Int64} (o1 : Qp S) (e1 : R c (.inr (some (.int (f_289 S w1)))) S) : Go XM (d + 8) 290 c 17 [some (.ref 140)] [.long w1, .ref 140] S R := by
  refine go_cv mm_290 (h := 140) (As := [.long w1]) (rest := []) (nl := 5) rfl XM_140 (show cvOK 290 17 367 289 1 5 11 = true by decide +kernel) rfl rfl rfl (sq_289 (o1)) (KP_V ?_)
  exact go_ireturn mm_290 rfl rfl (e1)
theorem mm_291 : mtG 291 = some (mi_291, 12, ft_291) := rfl
set_option maxRecDepth 20000 in
theorem b_291_0 {d c : Nat} {R : RT} {S : ST} (e1 : (decide (S.1 140 1 = 0)) = true → R c (.inr (some (.int 0))) (wI S 140 0 (tz (decide (S.1 140 1 = 0)) 1))) (e2 : (decide (S.1 140 1 = 0)) = false → Go XM (d + 8) 291 c 12 [some (.ref 140), none, none, none, none, none, none] [.int (-1), .ref 140, .ref 140] (wI S 140 0 (tz (decide (S.1 140 1 = 0)) 1)) R) : Go XM (d + 8) 291 c 0 [some (.ref 140), none, none, none, none, none, none] [] S R := by
  refine go_run mm_291 1 (pc' := 1) (ls' := [some (.ref 140), none, none, none, none, none, none]) (st' := [.ref 140]) (S' := S) rfl ?_
  refine go_cv mm_291 (h := 140) (As := []) (rest := []) (nl := 1) rfl XM_140 (show cvOK 291 1 247 184 0 1 11 = true by decide +kernel) rfl rfl rfl (sq_184) (KP_V ?_)
  refine go_ifb mm_291 rfl (p1 := 7) (p2 := 9) rfl (fun (hc1 : (decide (S.1 140 1 = 0)) = true) => ?_) (fun (hc1 : (decide (S.1 140 1 = 0)) = false) => ?_)
  · refine go_run mm_291 1 (pc' := 8) (ls' := [some (.ref 140), none, none, none, none, none, none]) (st' := [.int 0]) (S' := (wI S 140 0 (tz (decide (S.1 140 1 = 0)) 1))) rfl ?_
    exact go_ireturn mm_291 rfl rfl (e1 hc1)
  · refine go_run mm_291 3 (pc' := 12) (ls' := [some (.ref 140), none, none, none, none, none, none]) (st' := [.int (-1), .ref 140, .ref 140]) (S' := (wI S 140 0 (tz (decide (S.1 140 1 = 0)) 1))) rfl ?_
    exact e2 hc1
set_option maxRecDepth 20000 in
theorem b_291_15 {d c : Nat} {R : RT} {S : ST} {w1 : Int64} (o1 : Qp S) (e1 : Go XM (d + 8) 291 c 21 [some (.ref 140), some (.int (f_289 S w1)), some (.int 0), none, none, none, none] [] S R) : Go XM (d + 8) 291 c 15 [some (.ref 140), none, none, none, none, none, none] [.long w1, .ref 140] S R := by
  refine go_cv mm_291 (h := 140) (As := [.long w1]) (rest := []) (nl := 5) rfl XM_140 (show cvOK 291 15 367 289 1 5 11 = true by decide +kernel) rfl rfl rfl (sq_289 (o1)) (KP_V ?_)
  refine go_run mm_291 3 (pc' := 21) (ls' := [some (.ref 140), some (.int (f_289 S w1)), some (.int 0), none, none, none, none]) (st' := []) (S' := S) rfl ?_
  exact e1
set_option maxRecDepth 20000 in
theorem b_291_21 {d c : Nat} {R : RT} {S : ST} {v1 : Int32} {v2 : Int32} (e1 : v2 < (S.1 141 1) → Go XM (d + 8) 291 c 33 [some (.ref 140), some (.int v1), some (.int v2), none, none, none, none] [.int v2, .ref 140] S R) (e2 : ¬ v2 < (S.1 141 1) → R c (.inr (some (.int v1))) S) : Go XM (d + 8) 291 c 21 [some (.ref 140), some (.int v1), some (.int v2), none, none, none, none] [] S R := by
  refine go_run mm_291 4 (pc' := 27) (ls' := [some (.ref 140), some (.int v1), some (.int v2), none, none, none, none]) (st' := [.int 1, .ref 141, .int v2]) (S' := S) rfl ?_
  refine go_iaload mm_291 (q := 1) rfl rfl rfl (inB_lit rfl) ?_
  refine go_if2 mm_291 rfl (p1 := 31) (p2 := 106) rfl (fun (hc1 : v2 < (S.1 141 1)) => ?_) (fun (hc1 : ¬ v2 < (S.1 141 1)) => ?_)
  · refine go_run mm_291 2 (pc' := 33) (ls' := [some (.ref 140), some (.int v1), some (.int v2), none, none, none, none]) (st' := [.int v2, .ref 140]) (S' := S) rfl ?_
    exact e1 hc1
  · refine go_run mm_291 1 (pc' := 107) (ls' := [some (.ref 140), some (.int v1), some (.int v2), none, none, none, none]) (st' := [.int v1]) (S' := S) rfl ?_
    exact go_ireturn mm_291 rfl rfl (e2 hc1)
set_option maxRecDepth 20000 in
theorem b_291_36 {d c : Nat} {R : RT} {S : ST} {v1 : Int32} {v2 : Int32} {w0 : Int64} (e1 : Go XM (d + 8) 291 c 40 [some (.ref 140), some (.int v1), some (.int v2), some (.long w0), none, some (.int 0), none] [] S R) : Go XM (d + 8) 291 c 36 [some (.ref 140), some (.int v1), some (.int v2), none, none, none, none] [.long w0] S R := by
  refine go_run mm_291 3 (pc' := 40) (ls' := [some (.ref 140), some (.int v1), some (.int v2), some (.long w0), none, some (.int 0), none]) (st' := []) (S' := S) rfl ?_
  exact e1
set_option maxRecDepth 20000 in
theorem b_291_40 {d c : Nat} {R : RT} {S : ST} {v1 : Int32} {v2 : Int32} {v3 : Int64} {v5 : Int32} (o1 : v5 < (S.1 140 20) → inB v5 64) (o2 : v5 < (S.1 140 20) → inB ((27 + (3 * v2)) + 2) 63) (o3 : v5 < (S.1 140 20) → Ld S) (o4 : v5 < (S.1 140 20) → ge_cl 1 (rL S 141) (Int32.toInt (ra S 147 v5), Int32.toInt (ra S 148 v5))) (o5 : v5 < (S.1 140 20) → Qp S) (e1 : v5 < (S.1 140 20) → Go XM (d + 8) 291 c 40 [some (.ref 140), some (.int (if v1 < (f_289 S (v3 ||| (f_275 S (ra S 147 v5) (ra S 148 v5) (f_274 S v2 2)))) then f_289 S (v3 ||| (f_275 S (ra S 147 v5) (ra S 148 v5) (f_274 S v2 2))) else v1)), some (.int v2), some (.long v3), none, some (.int (v5 + 1)), some (.int (f_289 S (v3 ||| (f_275 S (ra S 147 v5) (ra S 148 v5) (f_274 S v2 2)))))] [] S R) (e2 : ¬ v5 < (S.1 140 20) → Go XM (d + 8) 291 c 21 [some (.ref 140), some (.int v1), some (.int (v2 + 1)), some (.long v3), none, some (.int v5), none] [] S R) : Go XM (d + 8) 291 c 40 [some (.ref 140), some (.int v1), some (.int v2), some (.long v3), none, some (.int v5), none] [] S R := by
  refine go_run mm_291 3 (pc' := 46) (ls' := [some (.ref 140), some (.int v1), some (.int v2), some (.long v3), none, some (.int v5), none]) (st' := [.int (S.1 140 20), .int v5]) (S' := S) rfl ?_
  refine go_if2 mm_291 rfl (p1 := 49) (p2 := 100) rfl (fun (hc1 : v5 < (S.1 140 20)) => ?_) (fun (hc1 : ¬ v5 < (S.1 140 20)) => ?_)
  · refine go_run mm_291 6 (pc' := 58) (ls' := [some (.ref 140), some (.int v1), some (.int v2), some (.long v3), none, some (.int v5), none]) (st' := [.int v5, .ref 147, .ref 140, .long v3, .ref 140]) (S' := S) rfl ?_
    refine go_iaload mm_291 (q := (Int32.toNatClampNeg v5)) rfl rfl rfl (o1 hc1) ?_
    refine go_run mm_291 3 (pc' := 65) (ls' := [some (.ref 140), some (.int v1), some (.int v2), some (.long v3), none, some (.int v5), none]) (st' := [.int v5, .ref 148, .int (ra S 147 v5), .ref 140, .long v3, .ref 140]) (S' := S) rfl ?_
    refine go_iaload mm_291 (q := (Int32.toNatClampNeg v5)) rfl rfl rfl (o1 hc1) ?_
    refine go_run mm_291 3 (pc' := 69) (ls' := [some (.ref 140), some (.int v1), some (.int v2), some (.long v3), none, some (.int v5), none]) (st' := [.int 2, .int v2, .ref 140, .int (ra S 148 v5), .int (ra S 147 v5), .ref 140, .long v3, .ref 140]) (S' := S) rfl ?_
    refine go_cv mm_291 (h := 140) (As := [.int v2, .int 2]) (rest := [.int (ra S 148 v5), .int (ra S 147 v5), .ref 140, .long v3, .ref 140]) (nl := 3) rfl XM_140 (show cvOK 291 69 347 274 2 3 11 = true by decide +kernel) rfl rfl rfl (sp_274 (o2 hc1)) (KP_V ?_)
    refine go_cv mm_291 (h := 140) (As := [.int (ra S 147 v5), .int (ra S 148 v5), .int (f_274 S v2 2)]) (rest := [.long v3, .ref 140]) (nl := 8) rfl XM_140 (show cvOK 291 72 349 275 3 8 11 = true by decide +kernel) rfl rfl rfl (sq_275 (o3 hc1) (o4 hc1)) (KP_V ?_)
    refine go_run mm_291 1 (pc' := 76) (ls' := [some (.ref 140), some (.int v1), some (.int v2), some (.long v3), none, some (.int v5), none]) (st' := [.long (v3 ||| (f_275 S (ra S 147 v5) (ra S 148 v5) (f_274 S v2 2))), .ref 140]) (S' := S) rfl ?_
    refine go_cv mm_291 (h := 140) (As := [.long (v3 ||| (f_275 S (ra S 147 v5) (ra S 148 v5) (f_274 S v2 2)))]) (rest := []) (nl := 5) rfl XM_140 (show cvOK 291 76 367 289 1 5 11 = true by decide +kernel) rfl rfl rfl (sq_289 (o5 hc1)) (KP_V ?_)
    refine go_run mm_291 3 (pc' := 84) (ls' := [some (.ref 140), some (.int v1), some (.int v2), some (.long v3), none, some (.int v5), some (.int (f_289 S (v3 ||| (f_275 S (ra S 147 v5) (ra S 148 v5) (f_274 S v2 2)))))]) (st' := [.int v1, .int (f_289 S (v3 ||| (f_275 S (ra S 147 v5) (ra S 148 v5) (f_274 S v2 2))))]) (S' := S) rfl ?_
    have j1 : Go XM (d + 8) 291 c 93 [some (.ref 140), some (.int v1), some (.int v2), some (.long v3), none, some (.int v5), some (.int (f_289 S (v3 ||| (f_275 S (ra S 147 v5) (ra S 148 v5) (f_274 S v2 2)))))] [.int (if v1 < (f_289 S (v3 ||| (f_275 S (ra S 147 v5) (ra S 148 v5) (f_274 S v2 2)))) then f_289 S (v3 ||| (f_275 S (ra S 147 v5) (ra S 148 v5) (f_274 S v2 2))) else v1)] S R := by
      refine go_run mm_291 3 (pc' := 40) (ls' := [some (.ref 140), some (.int (if v1 < (f_289 S (v3 ||| (f_275 S (ra S 147 v5) (ra S 148 v5) (f_274 S v2 2)))) then f_289 S (v3 ||| (f_275 S (ra S 147 v5) (ra S 148 v5) (f_274 S v2 2))) else v1)), some (.int v2), some (.long v3), none, some (.int (v5 + 1)), some (.int (f_289 S (v3 ||| (f_275 S (ra S 147 v5) (ra S 148 v5) (f_274 S v2 2)))))]) (st' := []) (S' := S) rfl ?_
      exact e1 hc1
    refine go_if2 mm_291 rfl (p1 := 87) (p2 := 92) rfl (fun (hc2 : v1 < (f_289 S (v3 ||| (f_275 S (ra S 147 v5) (ra S 148 v5) (f_274 S v2 2))))) => ?_) (fun (hc2 : ¬ v1 < (f_289 S (v3 ||| (f_275 S (ra S 147 v5) (ra S 148 v5) (f_274 S v2 2))))) => ?_)
    · refine go_run mm_291 2 (pc' := 93) (ls' := [some (.ref 140), some (.int v1), some (.int v2), some (.long v3), none, some (.int v5), some (.int (f_289 S (v3 ||| (f_275 S (ra S 147 v5) (ra S 148 v5) (f_274 S v2 2)))))]) (st' := [.int (f_289 S (v3 ||| (f_275 S (ra S 147 v5) (ra S 148 v5) (f_274 S v2 2))))]) (S' := S) rfl ?_
      have e : ((if v1 < (f_289 S (v3 ||| (f_275 S (ra S 147 v5) (ra S 148 v5) (f_274 S v2 2)))) then f_289 S (v3 ||| (f_275 S (ra S 147 v5) (ra S 148 v5) (f_274 S v2 2))) else v1) : Int32) = f_289 S (v3 ||| (f_275 S (ra S 147 v5) (ra S 148 v5) (f_274 S v2 2))) := by simp [b2i, hc2]
      rw [e] at j1
      exact j1
    · refine go_run mm_291 1 (pc' := 93) (ls' := [some (.ref 140), some (.int v1), some (.int v2), some (.long v3), none, some (.int v5), some (.int (f_289 S (v3 ||| (f_275 S (ra S 147 v5) (ra S 148 v5) (f_274 S v2 2)))))]) (st' := [.int v1]) (S' := S) rfl ?_
      have e : ((if v1 < (f_289 S (v3 ||| (f_275 S (ra S 147 v5) (ra S 148 v5) (f_274 S v2 2)))) then f_289 S (v3 ||| (f_275 S (ra S 147 v5) (ra S 148 v5) (f_274 S v2 2))) else v1) : Int32) = v1 := by simp [b2i, hc2]
      rw [e] at j1
      exact j1
  · refine go_run mm_291 2 (pc' := 21) (ls' := [some (.ref 140), some (.int v1), some (.int (v2 + 1)), some (.long v3), none, some (.int v5), none]) (st' := []) (S' := S) rfl ?_
    exact e2 hc1
theorem mm_292 : mtG 292 = some (mi_292, 12, ft_292) := rfl
theorem b_292_0 {d c : Nat} {R : RT} {S : ST} {v1 : Int32} {v2 : Int32} (e1 : Go XM (d + 1) 292 c 2 [some (.ref 140), some (.int v1), some (.int v2), some (.int 0)] [] S R) : Go XM (d + 1) 292 c 0 [some (.ref 140), some (.int v1), some (.int v2), none] [] S R := by
  refine go_run mm_292 2 (pc' := 2) (ls' := [some (.ref 140), some (.int v1), some (.int v2), some (.int 0)]) (st' := []) (S' := S) rfl ?_
  exact e1
theorem b_292_2 {d c : Nat} {R : RT} {S : ST} {v1 : Int32} {v2 : Int32} {v3 : Int32} (o1 : v3 < (S.1 141 1) → inB ((27 + (3 * v3)) + 0) 63) (o2 : v3 < (S.1 141 1) → (f_274 S v3 0) = v1 → inB ((27 + (3 * v3)) + 1) 63) (e1 : v3 < (S.1 141 1) → (f_274 S v3 0) = v1 → (f_274 S v3 1) = v2 → R c (.inr (some (.int 1))) S) (e2 : v3 < (S.1 141 1) → (f_274 S v3 0) = v1 → ¬ (f_274 S v3 1) = v2 → Go XM (d + 1) 292 c 2 [some (.ref 140), some (.int v1), some (.int v2), some (.int (v3 + 1))] [] S R) (e3 : v3 < (S.1 141 1) → ¬ (f_274 S v3 0) = v1 → Go XM (d + 1) 292 c 2 [some (.ref 140), some (.int v1), some (.int v2), some (.int (v3 + 1))] [] S R) (e4 : ¬ v3 < (S.1 141 1) → R c (.inr (some (.int 0))) S) : Go XM (d + 1) 292 c 2 [some (.ref 140), some (.int v1), some (.int v2), some (.int v3)] [] S R := by
  refine go_run mm_292 4 (pc' := 8) (ls' := [some (.ref 140), some (.int v1), some (.int v2), some (.int v3)]) (st' := [.int 1, .ref 141, .int v3]) (S' := S) rfl ?_
  refine go_iaload mm_292 (q := 1) rfl rfl rfl (inB_lit rfl) ?_
  refine go_if2 mm_292 rfl (p1 := 12) (p2 := 40) rfl (fun (hc1 : v3 < (S.1 141 1)) => ?_) (fun (hc1 : ¬ v3 < (S.1 141 1)) => ?_)
  · refine go_run mm_292 3 (pc' := 15) (ls' := [some (.ref 140), some (.int v1), some (.int v2), some (.int v3)]) (st' := [.int 0, .int v3, .ref 140]) (S' := S) rfl ?_
    refine go_cv mm_292 (h := 140) (As := [.int v3, .int 0]) (rest := []) (nl := 3) rfl XM_140 (show cvOK 292 15 347 274 2 3 11 = true by decide +kernel) rfl rfl rfl (sp_274 (o1 hc1)) (KP_V ?_)
    refine go_run mm_292 1 (pc' := 19) (ls' := [some (.ref 140), some (.int v1), some (.int v2), some (.int v3)]) (st' := [.int v1, .int (f_274 S v3 0)]) (S' := S) rfl ?_
    refine go_if2 mm_292 rfl (p1 := 22) (p2 := 34) rfl (fun (hc2 : (f_274 S v3 0) = v1) => ?_) (fun (hc2 : ¬ (f_274 S v3 0) = v1) => ?_)
    · refine go_run mm_292 3 (pc' := 25) (ls' := [some (.ref 140), some (.int v1), some (.int v2), some (.int v3)]) (st' := [.int 1, .int v3, .ref 140]) (S' := S) rfl ?_
      refine go_cv mm_292 (h := 140) (As := [.int v3, .int 1]) (rest := []) (nl := 3) rfl XM_140 (show cvOK 292 25 347 274 2 3 11 = true by decide +kernel) rfl rfl rfl (sp_274 (o2 hc1 hc2)) (KP_V ?_)
      refine go_run mm_292 1 (pc' := 29) (ls' := [some (.ref 140), some (.int v1), some (.int v2), some (.int v3)]) (st' := [.int v2, .int (f_274 S v3 1)]) (S' := S) rfl ?_
      refine go_if2 mm_292 rfl (p1 := 32) (p2 := 34) rfl (fun (hc3 : (f_274 S v3 1) = v2) => ?_) (fun (hc3 : ¬ (f_274 S v3 1) = v2) => ?_)
      · refine go_run mm_292 1 (pc' := 33) (ls' := [some (.ref 140), some (.int v1), some (.int v2), some (.int v3)]) (st' := [.int 1]) (S' := S) rfl ?_
        exact go_zreturn mm_292 rfl rfl (Or.inr rfl) (e1 hc1 hc2 hc3)
      · refine go_run mm_292 2 (pc' := 2) (ls' := [some (.ref 140), some (.int v1), some (.int v2), some (.int (v3 + 1))]) (st' := []) (S' := S) rfl ?_
        exact e2 hc1 hc2 hc3
    · refine go_run mm_292 2 (pc' := 2) (ls' := [some (.ref 140), some (.int v1), some (.int v2), some (.int (v3 + 1))]) (st' := []) (S' := S) rfl ?_
      exact e3 hc1 hc2
  · refine go_run mm_292 1 (pc' := 41) (ls' := [some (.ref 140), some (.int v1), some (.int v2), some (.int v3)]) (st' := [.int 0]) (S' := S) rfl ?_
    exact go_zreturn mm_292 rfl rfl (Or.inl rfl) (e4 hc1)
theorem mm_293 : mtG 293 = some (mi_293, 12, ft_293) := rfl
theorem b_293_0 {d c : Nat} {R : RT} {S : ST} {v1 : Int32} {v2 : Int32} (e1 : Go XM (d + 1) 293 c 2 [some (.ref 140), some (.int v1), some (.int v2), some (.int 0)] [] S R) : Go XM (d + 1) 293 c 0 [some (.ref 140), some (.int v1), some (.int v2), none] [] S R := by
  refine go_run mm_293 2 (pc' := 2) (ls' := [some (.ref 140), some (.int v1), some (.int v2), some (.int 0)]) (st' := []) (S' := S) rfl ?_
  exact e1
theorem b_293_2 {d c : Nat} {R : RT} {S : ST} {v1 : Int32} {v2 : Int32} {v3 : Int32} (o1 : v3 < (S.1 141 2) → inB ((45 + (3 * v3)) + 0) 63) (o2 : v3 < (S.1 141 2) → (f_287 S v3 0) = v1 → inB ((45 + (3 * v3)) + 1) 63) (e1 : v3 < (S.1 141 2) → (f_287 S v3 0) = v1 → (f_287 S v3 1) = v2 → R c (.inr (some (.int 1))) S) (e2 : v3 < (S.1 141 2) → (f_287 S v3 0) = v1 → ¬ (f_287 S v3 1) = v2 → Go XM (d + 1) 293 c 2 [some (.ref 140), some (.int v1), some (.int v2), some (.int (v3 + 1))] [] S R) (e3 : v3 < (S.1 141 2) → ¬ (f_287 S v3 0) = v1 → Go XM (d + 1) 293 c 2 [some (.ref 140), some (.int v1), some (.int v2), some (.int (v3 + 1))] [] S R) (e4 : ¬ v3 < (S.1 141 2) → R c (.inr (some (.int 0))) S) : Go XM (d + 1) 293 c 2 [some (.ref 140), some (.int v1), some (.int v2), some (.int v3)] [] S R := by
  refine go_run mm_293 4 (pc' := 8) (ls' := [some (.ref 140), some (.int v1), some (.int v2), some (.int v3)]) (st' := [.int 2, .ref 141, .int v3]) (S' := S) rfl ?_
  refine go_iaload mm_293 (q := 2) rfl rfl rfl (inB_lit rfl) ?_
  refine go_if2 mm_293 rfl (p1 := 12) (p2 := 40) rfl (fun (hc1 : v3 < (S.1 141 2)) => ?_) (fun (hc1 : ¬ v3 < (S.1 141 2)) => ?_)
  · refine go_run mm_293 3 (pc' := 15) (ls' := [some (.ref 140), some (.int v1), some (.int v2), some (.int v3)]) (st' := [.int 0, .int v3, .ref 140]) (S' := S) rfl ?_
    refine go_cv mm_293 (h := 140) (As := [.int v3, .int 0]) (rest := []) (nl := 3) rfl XM_140 (show cvOK 293 15 365 287 2 3 11 = true by decide +kernel) rfl rfl rfl (sp_287 (o1 hc1)) (KP_V ?_)
    refine go_run mm_293 1 (pc' := 19) (ls' := [some (.ref 140), some (.int v1), some (.int v2), some (.int v3)]) (st' := [.int v1, .int (f_287 S v3 0)]) (S' := S) rfl ?_
    refine go_if2 mm_293 rfl (p1 := 22) (p2 := 34) rfl (fun (hc2 : (f_287 S v3 0) = v1) => ?_) (fun (hc2 : ¬ (f_287 S v3 0) = v1) => ?_)
    · refine go_run mm_293 3 (pc' := 25) (ls' := [some (.ref 140), some (.int v1), some (.int v2), some (.int v3)]) (st' := [.int 1, .int v3, .ref 140]) (S' := S) rfl ?_
      refine go_cv mm_293 (h := 140) (As := [.int v3, .int 1]) (rest := []) (nl := 3) rfl XM_140 (show cvOK 293 25 365 287 2 3 11 = true by decide +kernel) rfl rfl rfl (sp_287 (o2 hc1 hc2)) (KP_V ?_)
      refine go_run mm_293 1 (pc' := 29) (ls' := [some (.ref 140), some (.int v1), some (.int v2), some (.int v3)]) (st' := [.int v2, .int (f_287 S v3 1)]) (S' := S) rfl ?_
      refine go_if2 mm_293 rfl (p1 := 32) (p2 := 34) rfl (fun (hc3 : (f_287 S v3 1) = v2) => ?_) (fun (hc3 : ¬ (f_287 S v3 1) = v2) => ?_)
      · refine go_run mm_293 1 (pc' := 33) (ls' := [some (.ref 140), some (.int v1), some (.int v2), some (.int v3)]) (st' := [.int 1]) (S' := S) rfl ?_
        exact go_zreturn mm_293 rfl rfl (Or.inr rfl) (e1 hc1 hc2 hc3)
      · refine go_run mm_293 2 (pc' := 2) (ls' := [some (.ref 140), some (.int v1), some (.int v2), some (.int (v3 + 1))]) (st' := []) (S' := S) rfl ?_
        exact e2 hc1 hc2 hc3
    · refine go_run mm_293 2 (pc' := 2) (ls' := [some (.ref 140), some (.int v1), some (.int v2), some (.int (v3 + 1))]) (st' := []) (S' := S) rfl ?_
      exact e3 hc1 hc2
  · refine go_run mm_293 1 (pc' := 41) (ls' := [some (.ref 140), some (.int v1), some (.int v2), some (.int v3)]) (st' := [.int 0]) (S' := S) rfl ?_
    exact go_zreturn mm_293 rfl rfl (Or.inl rfl) (e4 hc1)
theorem mm_294 : mtG 294 = some (mi_294, 12, ft_294) := rfl
theorem b_294_0 {d c : Nat} {R : RT} {S : ST} {v1 : Int32} {v2 : Int32} (e1 : Go XM d 294 c 2 [some (.ref 140), some (.int v1), some (.int v2), some (.int 0)] [] S R) : Go XM d 294 c 0 [some (.ref 140), some (.int v1), some (.int v2), none] [] S R := by
  refine go_run mm_294 2 (pc' := 2) (ls' := [some (.ref 140), some (.int v1), some (.int v2), some (.int 0)]) (st' := []) (S' := S) rfl ?_
  exact e1
theorem b_294_2 {d c : Nat} {R : RT} {S : ST} {v1 : Int32} {v2 : Int32} {v3 : Int32} (o1 : v3 < (S.1 141 0) → inB (3 + v3) 63) (o2 : v3 < (S.1 141 0) → (ra S 141 (3 + v3)) = v1 → inB (15 + v3) 63) (e1 : v3 < (S.1 141 0) → (ra S 141 (3 + v3)) = v1 → (ra S 141 (15 + v3)) = v2 → R c (.inr (some (.int 1))) S) (e2 : v3 < (S.1 141 0) → (ra S 141 (3 + v3)) = v1 → ¬ (ra S 141 (15 + v3)) = v2 → Go XM d 294 c 2 [some (.ref 140), some (.int v1), some (.int v2), some (.int (v3 + 1))] [] S R) (e3 : v3 < (S.1 141 0) → ¬ (ra S 141 (3 + v3)) = v1 → Go XM d 294 c 2 [some (.ref 140), some (.int v1), some (.int v2), some (.int (v3 + 1))] [] S R) (e4 : ¬ v3 < (S.1 141 0) → R c (.inr (some (.int 0))) S) : Go XM d 294 c 2 [some (.ref 140), some (.int v1), some (.int v2), some (.int v3)] [] S R := by
  refine go_run mm_294 4 (pc' := 8) (ls' := [some (.ref 140), some (.int v1), some (.int v2), some (.int v3)]) (st' := [.int 0, .ref 141, .int v3]) (S' := S) rfl ?_
  refine go_iaload mm_294 (q := 0) rfl rfl rfl (inB_lit rfl) ?_
  refine go_if2 mm_294 rfl (p1 := 12) (p2 := 45) rfl (fun (hc1 : v3 < (S.1 141 0)) => ?_) (fun (hc1 : ¬ v3 < (S.1 141 0)) => ?_)
  · refine go_run mm_294 5 (pc' := 19) (ls' := [some (.ref 140), some (.int v1), some (.int v2), some (.int v3)]) (st' := [.int (3 + v3), .ref 141]) (S' := S) rfl ?_
    refine go_iaload mm_294 (q := (Int32.toNatClampNeg (3 + v3))) rfl rfl rfl (o1 hc1) ?_
    refine go_run mm_294 1 (pc' := 21) (ls' := [some (.ref 140), some (.int v1), some (.int v2), some (.int v3)]) (st' := [.int v1, .int (ra S 141 (3 + v3))]) (S' := S) rfl ?_
    refine go_if2 mm_294 rfl (p1 := 24) (p2 := 39) rfl (fun (hc2 : (ra S 141 (3 + v3)) = v1) => ?_) (fun (hc2 : ¬ (ra S 141 (3 + v3)) = v1) => ?_)
    · refine go_run mm_294 5 (pc' := 32) (ls' := [some (.ref 140), some (.int v1), some (.int v2), some (.int v3)]) (st' := [.int (15 + v3), .ref 141]) (S' := S) rfl ?_
      refine go_iaload mm_294 (q := (Int32.toNatClampNeg (15 + v3))) rfl rfl rfl (o2 hc1 hc2) ?_
      refine go_run mm_294 1 (pc' := 34) (ls' := [some (.ref 140), some (.int v1), some (.int v2), some (.int v3)]) (st' := [.int v2, .int (ra S 141 (15 + v3))]) (S' := S) rfl ?_
      refine go_if2 mm_294 rfl (p1 := 37) (p2 := 39) rfl (fun (hc3 : (ra S 141 (15 + v3)) = v2) => ?_) (fun (hc3 : ¬ (ra S 141 (15 + v3)) = v2) => ?_)
      · refine go_run mm_294 1 (pc' := 38) (ls' := [some (.ref 140), some (.int v1), some (.int v2), some (.int v3)]) (st' := [.int 1]) (S' := S) rfl ?_
        exact go_zreturn mm_294 rfl rfl (Or.inr rfl) (e1 hc1 hc2 hc3)
      · refine go_run mm_294 2 (pc' := 2) (ls' := [some (.ref 140), some (.int v1), some (.int v2), some (.int (v3 + 1))]) (st' := []) (S' := S) rfl ?_
        exact e2 hc1 hc2 hc3
    · refine go_run mm_294 2 (pc' := 2) (ls' := [some (.ref 140), some (.int v1), some (.int v2), some (.int (v3 + 1))]) (st' := []) (S' := S) rfl ?_
      exact e3 hc1 hc2
  · refine go_run mm_294 1 (pc' := 46) (ls' := [some (.ref 140), some (.int v1), some (.int v2), some (.int v3)]) (st' := [.int 0]) (S' := S) rfl ?_
    exact go_zreturn mm_294 rfl rfl (Or.inl rfl) (e4 hc1)
theorem gd_n {S : ST} (h : Qp S) : S.1 141 1 = nJ (Int32.toNatClampNeg (S.1 141 1)) ∧ Int32.toNatClampNeg (S.1 141 1) ≤ 6 := by
  obtain ⟨⟨T, t1, t2, -⟩, -⟩ := h.ld.2
  rw [t1, nJ_ix (by omega)]
  exact ⟨rfl, t2⟩
def f_292 (S : ST) (x y : Int32) : Bool := ay (fun g => decide (f_274 S (nJ g) 0 = x) && decide (f_274 S (nJ g) 1 = y)) 0 (Int32.toNatClampNeg (S.1 141 1))
theorem sq_292 {d : Nat} {S : ST} {x y : Int32} (h : Qp S) : Cal XM (d + 1) 292 [.ref 140, .int x, .int y] S (RV (some (.int (b2i (f_292 S x y)))) S) := by
  obtain ⟨t1, t2⟩ := gd_n h
  refine cal_go 1 rfl (b_292_0 ?_)
  unfold f_292
  generalize hT : Int32.toNatClampNeg (S.1 141 1) = T at *
  have key : ∀ m i, i + m = T → ∀ R : RT, R = RV (some (.int (b2i (ay (fun g => decide (f_274 S (nJ g) 0 = x) && decide (f_274 S (nJ g) 1 = y)) i m)))) S → Go XM (d + 1) 292 0 2 [some (.ref 140), some (.int x), some (.int y), some (.int (nJ i))] [] S R := by
    intro m
    induction m with
    | zero =>
      intro i hi R hR
      subst hR
      have hn : ¬ nJ i < S.1 141 1 := by rw [t1, nJ_lt (by omega) (by omega)]; omega
      exact b_292_2 (fun q => absurd q hn) (fun q => absurd q hn) (fun q => absurd q hn) (fun q => absurd q hn) (fun q => absurd q hn) (fun _ => ⟨rfl, rfl, rfl⟩)
    | succ m ih =>
      intro i hi R hR
      subst hR
      have hlt : nJ i < S.1 141 1 := by rw [t1, nJ_lt (by omega) (by omega)]; omega
      have nx : (decide (f_274 S (nJ i) 0 = x) && decide (f_274 S (nJ i) 1 = y)) = false → Go XM (d + 1) 292 0 2 [some (.ref 140), some (.int x), some (.int y), some (.int (nJ i + 1))] [] S (RV (some (.int (b2i (ay (fun g => decide (f_274 S (nJ g) 0 = x) && decide (f_274 S (nJ g) 1 = y)) i (m + 1))))) S) := by
        intro hf
        rw [nJ_succ]
        refine ih (i + 1) (by omega) _ ?_
        show RV (some (.int (b2i ((decide (f_274 S (nJ i) 0 = x) && decide (f_274 S (nJ i) 1 = y)) || _)))) S = _
        rw [hf]
        rfl
      refine b_292_2 (fun _ => in274 (k := 0) (by omega) (by omega)) (fun _ _ => in274 (k := 1) (by omega) (by omega)) (fun _ h1 h2 => ⟨rfl, ?_, rfl⟩) (fun _ h1 h2 => nx (by rw [decide_eq_false h2, Bool.and_false])) (fun _ h1 => nx (by rw [decide_eq_false h1, Bool.false_and])) (fun q => absurd hlt q)
      show (Sum.inr (some (Value.int 1)) : OC) = .inr (some (.int (b2i ((decide (f_274 S (nJ i) 0 = x) && decide (f_274 S (nJ i) 1 = y)) || _))))
      rw [decide_eq_true h1, decide_eq_true h2]
      rfl
  exact key T 0 (by omega) _ rfl
def f_293 (S : ST) (x y : Int32) : Bool := ay (fun g => decide (f_287 S (nJ g) 0 = x) && decide (f_287 S (nJ g) 1 = y)) 0 (Int32.toNatClampNeg (S.1 141 2))
theorem sq_293 {d : Nat} {S : ST} {x y : Int32} (h : Qp S) : Cal XM (d + 1) 293 [.ref 140, .int x, .int y] S (RV (some (.int (b2i (f_293 S x y)))) S) := by
  obtain ⟨t1, t2⟩ := tr_all h
  refine cal_go 1 rfl (b_293_0 ?_)
  unfold f_293
  generalize hT : Int32.toNatClampNeg (S.1 141 2) = T at *
  have key : ∀ m i, i + m = T → ∀ R : RT, R = RV (some (.int (b2i (ay (fun g => decide (f_287 S (nJ g) 0 = x) && decide (f_287 S (nJ g) 1 = y)) i m)))) S → Go XM (d + 1) 293 0 2 [some (.ref 140), some (.int x), some (.int y), some (.int (nJ i))] [] S R := by
    intro m
    induction m with
    | zero =>
      intro i hi R hR
      subst hR
      have hn : ¬ nJ i < S.1 141 2 := by rw [t1, nJ_lt (by omega) (by omega)]; omega
      exact b_293_2 (fun q => absurd q hn) (fun q => absurd q hn) (fun q => absurd q hn) (fun q => absurd q hn) (fun q => absurd q hn) (fun _ => ⟨rfl, rfl, rfl⟩)
    | succ m ih =>
      intro i hi R hR
      subst hR
      have hlt : nJ i < S.1 141 2 := by rw [t1, nJ_lt (by omega) (by omega)]; omega
      have nx : (decide (f_287 S (nJ i) 0 = x) && decide (f_287 S (nJ i) 1 = y)) = false → Go XM (d + 1) 293 0 2 [some (.ref 140), some (.int x), some (.int y), some (.int (nJ i + 1))] [] S (RV (some (.int (b2i (ay (fun g => decide (f_287 S (nJ g) 0 = x) && decide (f_287 S (nJ g) 1 = y)) i (m + 1))))) S) := by
        intro hf
        rw [nJ_succ]
        refine ih (i + 1) (by omega) _ ?_
        show RV (some (.int (b2i ((decide (f_287 S (nJ i) 0 = x) && decide (f_287 S (nJ i) 1 = y)) || _)))) S = _
        rw [hf]
        rfl
      refine b_293_2 (fun _ => in287 (k := 0) (by omega) (by omega)) (fun _ _ => in287 (k := 1) (by omega) (by omega)) (fun _ h1 h2 => ⟨rfl, ?_, rfl⟩) (fun _ h1 h2 => nx (by rw [decide_eq_false h2, Bool.and_false])) (fun _ h1 => nx (by rw [decide_eq_false h1, Bool.false_and])) (fun q => absurd hlt q)
      show (Sum.inr (some (Value.int 1)) : OC) = .inr (some (.int (b2i ((decide (f_287 S (nJ i) 0 = x) && decide (f_287 S (nJ i) 1 = y)) || _))))
      rw [decide_eq_true h1, decide_eq_true h2]
      rfl
  exact key T 0 (by omega) _ rfl
def f_294 (S : ST) (x y : Int32) : Bool := ay (fun g => decide (ra S 141 (3 + nJ g) = x) && decide (ra S 141 (15 + nJ g) = y)) 0 (rN S 141)
theorem sq_294 {d : Nat} {S : ST} {x y : Int32} (h : Qp S) : Cal XM d 294 [.ref 140, .int x, .int y] S (RV (some (.int (b2i (f_294 S x y)))) S) := by
  have t1 := h.ld.1.1.1.1
  have t2 := h.ld.1.1.1.2
  refine cal_go 1 rfl (b_294_0 ?_)
  unfold f_294
  generalize hT : rN S 141 = T at *
  have key : ∀ m i, i + m = T → ∀ R : RT, R = RV (some (.int (b2i (ay (fun g => decide (ra S 141 (3 + nJ g) = x) && decide (ra S 141 (15 + nJ g) = y)) i m)))) S → Go XM d 294 0 2 [some (.ref 140), some (.int x), some (.int y), some (.int (nJ i))] [] S R := by
    intro m
    induction m with
    | zero =>
      intro i hi R hR
      subst hR
      have hn : ¬ nJ i < S.1 141 0 := by rw [t1, nJ_lt (by omega) (by omega)]; omega
      exact b_294_2 (fun q => absurd q hn) (fun q => absurd q hn) (fun q => absurd q hn) (fun q => absurd q hn) (fun q => absurd q hn) (fun _ => ⟨rfl, rfl, rfl⟩)
    | succ m ih =>
      intro i hi R hR
      subst hR
      have hlt : nJ i < S.1 141 0 := by rw [t1, nJ_lt (by omega) (by omega)]; omega
      have nx : (decide (ra S 141 (3 + nJ i) = x) && decide (ra S 141 (15 + nJ i) = y)) = false → Go XM d 294 0 2 [some (.ref 140), some (.int x), some (.int y), some (.int (nJ i + 1))] [] S (RV (some (.int (b2i (ay (fun g => decide (ra S 141 (3 + nJ g) = x) && decide (ra S 141 (15 + nJ g) = y)) i (m + 1))))) S) := by
        intro hf
        rw [nJ_succ]
        refine ih (i + 1) (by omega) _ ?_
        show RV (some (.int (b2i ((decide (ra S 141 (3 + nJ i) = x) && decide (ra S 141 (15 + nJ i) = y)) || _)))) S = _
        rw [hf]
        rfl
      refine b_294_2 (fun _ => inB_add (a := 3) (by omega) (by omega)) (fun _ _ => inB_add (a := 15) (by omega) (by omega)) (fun _ h1 h2 => ⟨rfl, ?_, rfl⟩) (fun _ h1 h2 => nx (by rw [decide_eq_false h2, Bool.and_false])) (fun _ h1 => nx (by rw [decide_eq_false h1, Bool.false_and])) (fun q => absurd hlt q)
      show (Sum.inr (some (Value.int 1)) : OC) = .inr (some (.int (b2i ((decide (ra S 141 (3 + nJ i) = x) && decide (ra S 141 (15 + nJ i) = y)) || _))))
      rw [decide_eq_true h1, decide_eq_true h2]
      rfl
  exact key T 0 (by omega) _ rfl
theorem mm_295 : mtG 295 = some (mi_295, 12, ft_295) := rfl
set_option maxRecDepth 20000 in
theorem b_295_0 {d c : Nat} {R : RT} {S : ST} {v1 : Int32} (e1 : (decide (S.1 140 1 = 0)) = true → R c (.inr (some (.int 0))) (wI S 140 0 (tz (decide (S.1 140 1 = 0)) 1))) (e2 : (decide (S.1 140 1 = 0)) = false → (!(decide (rf (tz (decide (S.1 140 1 = 0)) 1) (!(f_182 v1 0 15)) 2 = 0))) = true → R c (.inr (some (.int 0))) (wI (wI S 140 0 (tz (decide (S.1 140 1 = 0)) 1)) 140 0 (rf (tz (decide (S.1 140 1 = 0)) 1) (!(f_182 v1 0 15)) 2))) (e3 : (decide (S.1 140 1 = 0)) = false → (!(decide (rf (tz (decide (S.1 140 1 = 0)) 1) (!(f_182 v1 0 15)) 2 = 0))) = false → Go XM (d + 8) 295 c 39 [some (.ref 140), some (.int v1), none, none, none, none, none] [.int (-1), .ref 140] (wI (wI (wI S 140 0 (tz (decide (S.1 140 1 = 0)) 1)) 140 0 (rf (tz (decide (S.1 140 1 = 0)) 1) (!(f_182 v1 0 15)) 2)) 140 40 1) R) : Go XM (d + 8) 295 c 0 [some (.ref 140), some (.int v1), none, none, none, none, none] [] S R := by
  refine go_run mm_295 1 (pc' := 1) (ls' := [some (.ref 140), some (.int v1), none, none, none, none, none]) (st' := [.ref 140]) (S' := S) rfl ?_
  refine go_cv mm_295 (h := 140) (As := []) (rest := []) (nl := 1) rfl XM_140 (show cvOK 295 1 247 184 0 1 11 = true by decide +kernel) rfl rfl rfl (sq_184) (KP_V ?_)
  refine go_ifb mm_295 rfl (p1 := 30) (p2 := 7) rfl (fun (hc1 : (decide (S.1 140 1 = 0)) = true) => ?_) (fun (hc1 : (decide (S.1 140 1 = 0)) = false) => ?_)
  · refine go_run mm_295 1 (pc' := 31) (ls' := [some (.ref 140), some (.int v1), none, none, none, none, none]) (st' := [.int 0]) (S' := (wI S 140 0 (tz (decide (S.1 140 1 = 0)) 1))) rfl ?_
    exact go_ireturn mm_295 rfl rfl (e1 hc1)
  · refine go_run mm_295 4 (pc' := 12) (ls' := [some (.ref 140), some (.int v1), none, none, none, none, none]) (st' := [.int 15, .int 0, .int v1, .ref 140]) (S' := (wI S 140 0 (tz (decide (S.1 140 1 = 0)) 1))) rfl ?_
    refine go_cs mm_295 (av := [.int v1, .int 0, .int 15]) (rest := [.ref 140]) (nl := 3) rfl (show csOK 295 12 148 182 3 3 = true by decide +kernel) rfl rfl rfl (sp_182) (KP_V ?_)
    have j1 : Go XM (d + 8) 295 c 23 [some (.ref 140), some (.int v1), none, none, none, none, none] [.int (b2i (!(f_182 v1 0 15))), .ref 140] (wI S 140 0 (tz (decide (S.1 140 1 = 0)) 1)) R := by
      refine go_run mm_295 1 (pc' := 24) (ls' := [some (.ref 140), some (.int v1), none, none, none, none, none]) (st' := [.int 2, .int (b2i (!(f_182 v1 0 15))), .ref 140]) (S' := (wI S 140 0 (tz (decide (S.1 140 1 = 0)) 1))) rfl ?_
      refine go_cv mm_295 (h := 140) (As := [.int (b2i (!(f_182 v1 0 15))), .int 2]) (rest := []) (nl := 3) rfl XM_140 (show cvOK 295 24 86 183 2 3 11 = true by decide +kernel) rfl rfl rfl (sq_183) (KP_V ?_)
      refine go_ifb mm_295 rfl (p1 := 30) (p2 := 32) rfl (fun (hc2 : (!(decide (rf (tz (decide (S.1 140 1 = 0)) 1) (!(f_182 v1 0 15)) 2 = 0))) = true) => ?_) (fun (hc2 : (!(decide (rf (tz (decide (S.1 140 1 = 0)) 1) (!(f_182 v1 0 15)) 2 = 0))) = false) => ?_)
      · refine go_run mm_295 1 (pc' := 31) (ls' := [some (.ref 140), some (.int v1), none, none, none, none, none]) (st' := [.int 0]) (S' := (wI (wI S 140 0 (tz (decide (S.1 140 1 = 0)) 1)) 140 0 (rf (tz (decide (S.1 140 1 = 0)) 1) (!(f_182 v1 0 15)) 2))) rfl ?_
        exact go_ireturn mm_295 rfl rfl (e2 hc1 hc2)
      · refine go_run mm_295 5 (pc' := 39) (ls' := [some (.ref 140), some (.int v1), none, none, none, none, none]) (st' := [.int (-1), .ref 140]) (S' := (wI (wI (wI S 140 0 (tz (decide (S.1 140 1 = 0)) 1)) 140 0 (rf (tz (decide (S.1 140 1 = 0)) 1) (!(f_182 v1 0 15)) 2)) 140 40 1)) rfl ?_
        exact e3 hc1 hc2
    refine go_ifb mm_295 rfl (p1 := 22) (p2 := 18) rfl (fun (hc2 : (f_182 v1 0 15) = true) => ?_) (fun (hc2 : (f_182 v1 0 15) = false) => ?_)
    · refine go_run mm_295 1 (pc' := 23) (ls' := [some (.ref 140), some (.int v1), none, none, none, none, none]) (st' := [.int 0, .ref 140]) (S' := (wI S 140 0 (tz (decide (S.1 140 1 = 0)) 1))) rfl ?_
      have e : ((b2i (!(f_182 v1 0 15))) : Int32) = 0 := by simp [b2i, hc2]
      rw [e] at j1
      exact j1
    · refine go_run mm_295 2 (pc' := 23) (ls' := [some (.ref 140), some (.int v1), none, none, none, none, none]) (st' := [.int 1, .ref 140]) (S' := (wI S 140 0 (tz (decide (S.1 140 1 = 0)) 1))) rfl ?_
      have e : ((b2i (!(f_182 v1 0 15))) : Int32) = 1 := by simp [b2i, hc2]
      rw [e] at j1
      exact j1
set_option maxRecDepth 20000 in
theorem b_295_42 {d c : Nat} {R : RT} {S : ST} {v1 : Int32} {w0 : Int64} (e1 : Go XM (d + 8) 295 c 49 [some (.ref 140), some (.int v1), some (.long w0), none, some (.int 0), some (.int 0), none] [] S R) : Go XM (d + 8) 295 c 42 [some (.ref 140), some (.int v1), none, none, none, none, none] [.long w0] S R := by
  refine go_run mm_295 5 (pc' := 49) (ls' := [some (.ref 140), some (.int v1), some (.long w0), none, some (.int 0), some (.int 0), none]) (st' := []) (S' := S) rfl ?_
  exact e1
set_option maxRecDepth 20000 in
theorem b_295_49 {d c : Nat} {R : RT} {S : ST} {v1 : Int32} {v2 : Int64} {v4 : Int32} {v5 : Int32} (o1 : v5 < 16 → (f_215 S v5 v1) = (-1) → inB v5 16) (o2 : v5 < 16 → ¬ (f_215 S v5 v1) = (-1) → Qp S) (o3 : v5 < 16 → ¬ (f_215 S v5 v1) = (-1) → (f_292 S v5 v1) = true → inB v5 16) (o4 : v5 < 16 → ¬ (f_215 S v5 v1) = (-1) → (f_292 S v5 v1) = false → Qp S) (o5 : v5 < 16 → ¬ (f_215 S v5 v1) = (-1) → (f_292 S v5 v1) = false → (f_293 S v5 v1) = true → inB v5 16) (o6 : v5 < 16 → ¬ (f_215 S v5 v1) = (-1) → (f_292 S v5 v1) = false → (f_293 S v5 v1) = false → Qp S) (o7 : v5 < 16 → ¬ (f_215 S v5 v1) = (-1) → (f_292 S v5 v1) = false → (f_293 S v5 v1) = false → (f_294 S v5 v1) = true → inB v5 16) (o8 : v5 < 16 → ¬ (f_215 S v5 v1) = (-1) → (f_292 S v5 v1) = false → (f_293 S v5 v1) = false → (f_294 S v5 v1) = false → inB v5 16) (e1 : v5 < 16 → (f_215 S v5 v1) = (-1) → Go XM (d + 8) 295 c 49 [some (.ref 140), some (.int v1), some (.long v2), none, some (.int (v4 + (b2i (!(decide ((f_215 S v5 v1) = (-1))))))), some (.int (v5 + 1)), some (.int (f_215 S v5 v1))] [] (wI S 161 (Int32.toNatClampNeg v5) 32) R) (e2 : v5 < 16 → ¬ (f_215 S v5 v1) = (-1) → (f_292 S v5 v1) = true → Go XM (d + 8) 295 c 49 [some (.ref 140), some (.int v1), some (.long v2), none, some (.int (v4 + (b2i (!(decide ((f_215 S v5 v1) = (-1))))))), some (.int (v5 + 1)), some (.int (f_215 S v5 v1))] [] (wI S 161 (Int32.toNatClampNeg v5) 71) R) (e3 : v5 < 16 → ¬ (f_215 S v5 v1) = (-1) → (f_292 S v5 v1) = false → (f_293 S v5 v1) = true → Go XM (d + 8) 295 c 49 [some (.ref 140), some (.int v1), some (.long v2), none, some (.int (v4 + (b2i (!(decide ((f_215 S v5 v1) = (-1))))))), some (.int (v5 + 1)), some (.int (f_215 S v5 v1))] [] (wI S 161 (Int32.toNatClampNeg v5) 84) R) (e4 : v5 < 16 → ¬ (f_215 S v5 v1) = (-1) → (f_292 S v5 v1) = false → (f_293 S v5 v1) = false → (f_294 S v5 v1) = true → Go XM (d + 8) 295 c 49 [some (.ref 140), some (.int v1), some (.long v2), none, some (.int (v4 + (b2i (!(decide ((f_215 S v5 v1) = (-1))))))), some (.int (v5 + 1)), some (.int (f_215 S v5 v1))] [] (wI S 161 (Int32.toNatClampNeg v5) 86) R) (e5 : v5 < 16 → ¬ (f_215 S v5 v1) = (-1) → (f_292 S v5 v1) = false → (f_293 S v5 v1) = false → (f_294 S v5 v1) = false → Go XM (d + 8) 295 c 49 [some (.ref 140), some (.int v1), some (.long v2), none, some (.int (v4 + (b2i (!(decide ((f_215 S v5 v1) = (-1))))))), some (.int (v5 + 1)), some (.int (f_215 S v5 v1))] [] (wI S 161 (Int32.toNatClampNeg v5) (if (f_217 v2 (f_215 S v5 v1)) = true then 43 else 45)) R) (e6 : ¬ v5 < 16 → R c (.inr (some (.int v4))) S) : Go XM (d + 8) 295 c 49 [some (.ref 140), some (.int v1), some (.long v2), none, some (.int v4), some (.int v5), none] [] S R := by
  refine go_run mm_295 2 (pc' := 53) (ls' := [some (.ref 140), some (.int v1), some (.long v2), none, some (.int v4), some (.int v5), none]) (st' := [.int 16, .int v5]) (S' := S) rfl ?_
  refine go_if2 mm_295 rfl (p1 := 56) (p2 := 194) rfl (fun (hc1 : v5 < 16) => ?_) (fun (hc1 : ¬ v5 < 16) => ?_)
  · refine go_run mm_295 3 (pc' := 60) (ls' := [some (.ref 140), some (.int v1), some (.long v2), none, some (.int v4), some (.int v5), none]) (st' := [.int v1, .int v5, .ref 140]) (S' := S) rfl ?_
    refine go_cv mm_295 (h := 140) (As := [.int v5, .int v1]) (rest := []) (nl := 3) rfl XM_140 (show cvOK 295 60 257 215 2 3 11 = true by decide +kernel) rfl rfl rfl (sq_215) (KP_V ?_)
    refine go_run mm_295 4 (pc' := 70) (ls' := [some (.ref 140), some (.int v1), some (.long v2), none, some (.int v4), some (.int v5), some (.int (f_215 S v5 v1))]) (st' := [.int (-1), .int (f_215 S v5 v1), .int v4]) (S' := S) rfl ?_
    have j17 : Go XM (d + 8) 295 c 78 [some (.ref 140), some (.int v1), some (.long v2), none, some (.int v4), some (.int v5), some (.int (f_215 S v5 v1))] [.int (b2i (!(decide ((f_215 S v5 v1) = (-1))))), .int v4] S R := by
      refine go_run mm_295 4 (pc' := 84) (ls' := [some (.ref 140), some (.int v1), some (.long v2), none, some (.int (v4 + (b2i (!(decide ((f_215 S v5 v1) = (-1))))))), some (.int v5), some (.int (f_215 S v5 v1))]) (st' := [.int (-1), .int (f_215 S v5 v1)]) (S' := S) rfl ?_
      refine go_if2 mm_295 rfl (p1 := 87) (p2 := 99) rfl (fun (hc2 : (f_215 S v5 v1) = (-1)) => ?_) (fun (hc2 : ¬ (f_215 S v5 v1) = (-1)) => ?_)
      · refine go_run mm_295 4 (pc' := 95) (ls' := [some (.ref 140), some (.int v1), some (.long v2), none, some (.int (v4 + (b2i (!(decide ((f_215 S v5 v1) = (-1))))))), some (.int v5), some (.int (f_215 S v5 v1))]) (st' := [.int 32, .int v5, .ref 161]) (S' := S) rfl ?_
        refine go_iastore mm_295 (q := (Int32.toNatClampNeg v5)) rfl rfl rfl (o1 hc1 hc2) ?_
        refine go_run mm_295 3 (pc' := 49) (ls' := [some (.ref 140), some (.int v1), some (.long v2), none, some (.int (v4 + (b2i (!(decide ((f_215 S v5 v1) = (-1))))))), some (.int (v5 + 1)), some (.int (f_215 S v5 v1))]) (st' := []) (S' := (wI S 161 (Int32.toNatClampNeg v5) 32)) rfl ?_
        exact e1 hc1 hc2
      · refine go_run mm_295 3 (pc' := 103) (ls' := [some (.ref 140), some (.int v1), some (.long v2), none, some (.int (v4 + (b2i (!(decide ((f_215 S v5 v1) = (-1))))))), some (.int v5), some (.int (f_215 S v5 v1))]) (st' := [.int v1, .int v5, .ref 140]) (S' := S) rfl ?_
        refine go_cv mm_295 (h := 140) (As := [.int v5, .int v1]) (rest := []) (nl := 4) rfl XM_140 (show cvOK 295 103 373 292 2 4 11 = true by decide +kernel) rfl rfl rfl (sq_292 (o2 hc1 hc2)) (KP_V ?_)
        refine go_ifb mm_295 rfl (p1 := 109) (p2 := 121) rfl (fun (hc3 : (f_292 S v5 v1) = true) => ?_) (fun (hc3 : (f_292 S v5 v1) = false) => ?_)
        · refine go_run mm_295 4 (pc' := 117) (ls' := [some (.ref 140), some (.int v1), some (.long v2), none, some (.int (v4 + (b2i (!(decide ((f_215 S v5 v1) = (-1))))))), some (.int v5), some (.int (f_215 S v5 v1))]) (st' := [.int 71, .int v5, .ref 161]) (S' := S) rfl ?_
          refine go_iastore mm_295 (q := (Int32.toNatClampNeg v5)) rfl rfl rfl (o3 hc1 hc2 hc3) ?_
          refine go_run mm_295 3 (pc' := 49) (ls' := [some (.ref 140), some (.int v1), some (.long v2), none, some (.int (v4 + (b2i (!(decide ((f_215 S v5 v1) = (-1))))))), some (.int (v5 + 1)), some (.int (f_215 S v5 v1))]) (st' := []) (S' := (wI S 161 (Int32.toNatClampNeg v5) 71)) rfl ?_
          exact e2 hc1 hc2 hc3
        · refine go_run mm_295 3 (pc' := 125) (ls' := [some (.ref 140), some (.int v1), some (.long v2), none, some (.int (v4 + (b2i (!(decide ((f_215 S v5 v1) = (-1))))))), some (.int v5), some (.int (f_215 S v5 v1))]) (st' := [.int v1, .int v5, .ref 140]) (S' := S) rfl ?_
          refine go_cv mm_295 (h := 140) (As := [.int v5, .int v1]) (rest := []) (nl := 4) rfl XM_140 (show cvOK 295 125 376 293 2 4 11 = true by decide +kernel) rfl rfl rfl (sq_293 (o4 hc1 hc2 hc3)) (KP_V ?_)
          refine go_ifb mm_295 rfl (p1 := 131) (p2 := 143) rfl (fun (hc4 : (f_293 S v5 v1) = true) => ?_) (fun (hc4 : (f_293 S v5 v1) = false) => ?_)
          · refine go_run mm_295 4 (pc' := 139) (ls' := [some (.ref 140), some (.int v1), some (.long v2), none, some (.int (v4 + (b2i (!(decide ((f_215 S v5 v1) = (-1))))))), some (.int v5), some (.int (f_215 S v5 v1))]) (st' := [.int 84, .int v5, .ref 161]) (S' := S) rfl ?_
            refine go_iastore mm_295 (q := (Int32.toNatClampNeg v5)) rfl rfl rfl (o5 hc1 hc2 hc3 hc4) ?_
            refine go_run mm_295 3 (pc' := 49) (ls' := [some (.ref 140), some (.int v1), some (.long v2), none, some (.int (v4 + (b2i (!(decide ((f_215 S v5 v1) = (-1))))))), some (.int (v5 + 1)), some (.int (f_215 S v5 v1))]) (st' := []) (S' := (wI S 161 (Int32.toNatClampNeg v5) 84)) rfl ?_
            exact e3 hc1 hc2 hc3 hc4
          · refine go_run mm_295 3 (pc' := 147) (ls' := [some (.ref 140), some (.int v1), some (.long v2), none, some (.int (v4 + (b2i (!(decide ((f_215 S v5 v1) = (-1))))))), some (.int v5), some (.int (f_215 S v5 v1))]) (st' := [.int v1, .int v5, .ref 140]) (S' := S) rfl ?_
            refine go_cv mm_295 (h := 140) (As := [.int v5, .int v1]) (rest := []) (nl := 4) rfl XM_140 (show cvOK 295 147 379 294 2 4 11 = true by decide +kernel) rfl rfl rfl (sq_294 (o6 hc1 hc2 hc3 hc4)) (KP_V ?_)
            refine go_ifb mm_295 rfl (p1 := 153) (p2 := 165) rfl (fun (hc5 : (f_294 S v5 v1) = true) => ?_) (fun (hc5 : (f_294 S v5 v1) = false) => ?_)
            · refine go_run mm_295 4 (pc' := 161) (ls' := [some (.ref 140), some (.int v1), some (.long v2), none, some (.int (v4 + (b2i (!(decide ((f_215 S v5 v1) = (-1))))))), some (.int v5), some (.int (f_215 S v5 v1))]) (st' := [.int 86, .int v5, .ref 161]) (S' := S) rfl ?_
              refine go_iastore mm_295 (q := (Int32.toNatClampNeg v5)) rfl rfl rfl (o7 hc1 hc2 hc3 hc4 hc5) ?_
              refine go_run mm_295 3 (pc' := 49) (ls' := [some (.ref 140), some (.int v1), some (.long v2), none, some (.int (v4 + (b2i (!(decide ((f_215 S v5 v1) = (-1))))))), some (.int (v5 + 1)), some (.int (f_215 S v5 v1))]) (st' := []) (S' := (wI S 161 (Int32.toNatClampNeg v5) 86)) rfl ?_
              exact e4 hc1 hc2 hc3 hc4 hc5
            · refine go_run mm_295 5 (pc' := 174) (ls' := [some (.ref 140), some (.int v1), some (.long v2), none, some (.int (v4 + (b2i (!(decide ((f_215 S v5 v1) = (-1))))))), some (.int v5), some (.int (f_215 S v5 v1))]) (st' := [.int (f_215 S v5 v1), .long v2, .int v5, .ref 161]) (S' := S) rfl ?_
              refine go_cs mm_295 (av := [.long v2, .int (f_215 S v5 v1)]) (rest := [.int v5, .ref 161]) (nl := 3) rfl (show csOK 295 174 282 217 2 3 = true by decide +kernel) rfl rfl rfl (sp_217) (KP_V ?_)
              have j16 : Go XM (d + 8) 295 c 187 [some (.ref 140), some (.int v1), some (.long v2), none, some (.int (v4 + (b2i (!(decide ((f_215 S v5 v1) = (-1))))))), some (.int v5), some (.int (f_215 S v5 v1))] [.int (if (f_217 v2 (f_215 S v5 v1)) = true then 43 else 45), .int v5, .ref 161] S R := by
                refine go_iastore mm_295 (q := (Int32.toNatClampNeg v5)) rfl rfl rfl (o8 hc1 hc2 hc3 hc4 hc5) ?_
                refine go_run mm_295 2 (pc' := 49) (ls' := [some (.ref 140), some (.int v1), some (.long v2), none, some (.int (v4 + (b2i (!(decide ((f_215 S v5 v1) = (-1))))))), some (.int (v5 + 1)), some (.int (f_215 S v5 v1))]) (st' := []) (S' := (wI S 161 (Int32.toNatClampNeg v5) (if (f_217 v2 (f_215 S v5 v1)) = true then 43 else 45))) rfl ?_
                exact e5 hc1 hc2 hc3 hc4 hc5
              refine go_ifb mm_295 rfl (p1 := 180) (p2 := 185) rfl (fun (hc6 : (f_217 v2 (f_215 S v5 v1)) = true) => ?_) (fun (hc6 : (f_217 v2 (f_215 S v5 v1)) = false) => ?_)
              · refine go_run mm_295 2 (pc' := 187) (ls' := [some (.ref 140), some (.int v1), some (.long v2), none, some (.int (v4 + (b2i (!(decide ((f_215 S v5 v1) = (-1))))))), some (.int v5), some (.int (f_215 S v5 v1))]) (st' := [.int 43, .int v5, .ref 161]) (S' := S) rfl ?_
                have e : ((if (f_217 v2 (f_215 S v5 v1)) = true then 43 else 45) : Int32) = 43 := by simp [b2i, hc6]
                rw [e] at j16
                exact j16
              · refine go_run mm_295 1 (pc' := 187) (ls' := [some (.ref 140), some (.int v1), some (.long v2), none, some (.int (v4 + (b2i (!(decide ((f_215 S v5 v1) = (-1))))))), some (.int v5), some (.int (f_215 S v5 v1))]) (st' := [.int 45, .int v5, .ref 161]) (S' := S) rfl ?_
                have e : ((if (f_217 v2 (f_215 S v5 v1)) = true then 43 else 45) : Int32) = 45 := by simp [b2i, hc6]
                rw [e] at j16
                exact j16
    refine go_if2 mm_295 rfl (p1 := 73) (p2 := 77) rfl (fun (hc2 : (f_215 S v5 v1) = (-1)) => ?_) (fun (hc2 : ¬ (f_215 S v5 v1) = (-1)) => ?_)
    · refine go_run mm_295 2 (pc' := 78) (ls' := [some (.ref 140), some (.int v1), some (.long v2), none, some (.int v4), some (.int v5), some (.int (f_215 S v5 v1))]) (st' := [.int 0, .int v4]) (S' := S) rfl ?_
      have e : ((b2i (!(decide ((f_215 S v5 v1) = (-1))))) : Int32) = 0 := by simp [b2i, hc2]
      rw [e] at j17
      exact j17
    · refine go_run mm_295 1 (pc' := 78) (ls' := [some (.ref 140), some (.int v1), some (.long v2), none, some (.int v4), some (.int v5), some (.int (f_215 S v5 v1))]) (st' := [.int 1, .int v4]) (S' := S) rfl ?_
      have e : ((b2i (!(decide ((f_215 S v5 v1) = (-1))))) : Int32) = 1 := by simp [b2i, hc2]
      rw [e] at j17
      exact j17
  · refine go_run mm_295 1 (pc' := 196) (ls' := [some (.ref 140), some (.int v1), some (.long v2), none, some (.int v4), some (.int v5), none]) (st' := [.int v4]) (S' := S) rfl ?_
    exact go_ireturn mm_295 rfl rfl (e6 hc1)
theorem mm_296 : mtG 296 = some (mi_296, 12, ft_296) := rfl
def f_296 (S : ST) (v1 : Int32) : Int32 := (if (!(decide (rf 0 (decide ((S.1 140 40) = 0) || (!(f_182 v1 0 15))) 1 = 0))) = true then 0 else ra S 161 v1)
def g_296 (S : ST) (v1 : Int32) : ST := (wI (wI S 140 0 0) 140 0 (rf 0 (decide ((S.1 140 40) = 0) || (!(f_182 v1 0 15))) 1))
theorem b_296_0 {d c : Nat} {R : RT} {S : ST} {v1 : Int32} (o1 : (!(decide (rf 0 (decide ((S.1 140 40) = 0) || (!(f_182 v1 0 15))) 1 = 0))) = false → inB v1 16) (e1 : R c (.inr (some (.int (if (!(decide (rf 0 (decide ((S.1 140 40) = 0) || (!(f_182 v1 0 15))) 1 = 0))) = true then 0 else ra S 161 v1)))) (wI (wI S 140 0 0) 140 0 (rf 0 (decide ((S.1 140 40) = 0) || (!(f_182 v1 0 15))) 1))) : Go XM (d + 1) 296 c 0 [some (.ref 140), some (.int v1)] [] S R := by
  refine go_run mm_296 6 (pc' := 10) (ls' := [some (.ref 140), some (.int v1)]) (st' := [.int (S.1 140 40), .ref 140]) (S' := (wI S 140 0 0)) rfl ?_
  have j3 : Go XM (d + 1) 296 c 28 [some (.ref 140), some (.int v1)] [.int (b2i (decide ((S.1 140 40) = 0) || (!(f_182 v1 0 15)))), .ref 140] (wI S 140 0 0) R := by
    refine go_run mm_296 1 (pc' := 29) (ls' := [some (.ref 140), some (.int v1)]) (st' := [.int 1, .int (b2i (decide ((S.1 140 40) = 0) || (!(f_182 v1 0 15)))), .ref 140]) (S' := (wI S 140 0 0)) rfl ?_
    refine go_cv mm_296 (h := 140) (As := [.int (b2i (decide ((S.1 140 40) = 0) || (!(f_182 v1 0 15)))), .int 1]) (rest := []) (nl := 3) rfl XM_140 (show cvOK 296 29 86 183 2 3 11 = true by decide +kernel) rfl rfl rfl (sq_183) (KP_V ?_)
    have j2 : Go XM (d + 1) 296 c 45 [some (.ref 140), some (.int v1)] [.int (if (!(decide (rf 0 (decide ((S.1 140 40) = 0) || (!(f_182 v1 0 15))) 1 = 0))) = true then 0 else ra S 161 v1)] (wI (wI S 140 0 0) 140 0 (rf 0 (decide ((S.1 140 40) = 0) || (!(f_182 v1 0 15))) 1)) R := by
      exact go_ireturn mm_296 rfl rfl (e1)
    refine go_ifb mm_296 rfl (p1 := 35) (p2 := 39) rfl (fun (hc1 : (!(decide (rf 0 (decide ((S.1 140 40) = 0) || (!(f_182 v1 0 15))) 1 = 0))) = true) => ?_) (fun (hc1 : (!(decide (rf 0 (decide ((S.1 140 40) = 0) || (!(f_182 v1 0 15))) 1 = 0))) = false) => ?_)
    · refine go_run mm_296 2 (pc' := 45) (ls' := [some (.ref 140), some (.int v1)]) (st' := [.int 0]) (S' := (wI (wI S 140 0 0) 140 0 (rf 0 (decide ((S.1 140 40) = 0) || (!(f_182 v1 0 15))) 1))) rfl ?_
      have e : ((if (!(decide (rf 0 (decide ((S.1 140 40) = 0) || (!(f_182 v1 0 15))) 1 = 0))) = true then 0 else ra S 161 v1) : Int32) = 0 := by simp [b2i, hc1]
      rw [e] at j2
      exact j2
    · refine go_run mm_296 3 (pc' := 44) (ls' := [some (.ref 140), some (.int v1)]) (st' := [.int v1, .ref 161]) (S' := (wI (wI S 140 0 0) 140 0 (rf 0 (decide ((S.1 140 40) = 0) || (!(f_182 v1 0 15))) 1))) rfl ?_
      refine go_iaload mm_296 (q := (Int32.toNatClampNeg v1)) rfl rfl rfl (o1 hc1) ?_
      have e : ((if (!(decide (rf 0 (decide ((S.1 140 40) = 0) || (!(f_182 v1 0 15))) 1 = 0))) = true then 0 else ra S 161 v1) : Int32) = ra S 161 v1 := by simp [b2i, hc1]
      rw [e] at j2
      exact j2
  refine go_if0 mm_296 rfl (p1 := 23) (p2 := 13) rfl (fun (hc1 : (S.1 140 40) = 0) => ?_) (fun (hc1 : ¬ (S.1 140 40) = 0) => ?_)
  · refine go_run mm_296 2 (pc' := 28) (ls' := [some (.ref 140), some (.int v1)]) (st' := [.int 1, .ref 140]) (S' := (wI S 140 0 0)) rfl ?_
    have e : ((b2i (decide ((S.1 140 40) = 0) || (!(f_182 v1 0 15)))) : Int32) = 1 := by simp [b2i, hc1]
    rw [e] at j3
    exact j3
  · refine go_run mm_296 3 (pc' := 17) (ls' := [some (.ref 140), some (.int v1)]) (st' := [.int 15, .int 0, .int v1, .ref 140]) (S' := (wI S 140 0 0)) rfl ?_
    refine go_cs mm_296 (av := [.int v1, .int 0, .int 15]) (rest := [.ref 140]) (nl := 3) rfl (show csOK 296 17 148 182 3 3 = true by decide +kernel) rfl rfl rfl (sp_182) (KP_V ?_)
    have j1 : Go XM (d + 1) 296 c 28 [some (.ref 140), some (.int v1)] [.int (b2i (!(f_182 v1 0 15))), .ref 140] (wI S 140 0 0) R := by
      have e : ((b2i (decide ((S.1 140 40) = 0) || (!(f_182 v1 0 15)))) : Int32) = (b2i (!(f_182 v1 0 15))) := by simp [b2i, hc1]
      rw [e] at j3
      exact j3
    refine go_ifb mm_296 rfl (p1 := 27) (p2 := 23) rfl (fun (hc2 : (f_182 v1 0 15) = true) => ?_) (fun (hc2 : (f_182 v1 0 15) = false) => ?_)
    · refine go_run mm_296 1 (pc' := 28) (ls' := [some (.ref 140), some (.int v1)]) (st' := [.int 0, .ref 140]) (S' := (wI S 140 0 0)) rfl ?_
      have e : ((b2i (!(f_182 v1 0 15))) : Int32) = 0 := by simp [b2i, hc2]
      rw [e] at j1
      exact j1
    · refine go_run mm_296 2 (pc' := 28) (ls' := [some (.ref 140), some (.int v1)]) (st' := [.int 1, .ref 140]) (S' := (wI S 140 0 0)) rfl ?_
      have e : ((b2i (!(f_182 v1 0 15))) : Int32) = 1 := by simp [b2i, hc2]
      rw [e] at j1
      exact j1
theorem sp_296 {d : Nat} {S : ST} {v1 : Int32} (o1 : (!(decide (rf 0 (decide ((S.1 140 40) = 0) || (!(f_182 v1 0 15))) 1 = 0))) = false → inB v1 16) : Cal XM (d + 1) 296 [.ref 140, .int v1] S (RV (some (.int (f_296 S v1))) (g_296 S v1)) := by
  refine cal_go 0 rfl (b_296_0 o1 ?_)
  · exact ⟨rfl, rfl, rfl⟩
section W3
variable {d : Nat} {S : ST}
theorem q_290 (M : MOK S) : Cal XM (d + 8) 290 [.ref 140] S (RQi S) := by
  refine cal_go 0 rfl (b_290_0 (fun _ => Qi_t M) (fun h1 => ?_))
  have qt := Qq_t M (tz (decide (S.1 140 1 = 0)) 1)
  refine go_cv mm_290 (h := 140) (As := [.int (-1)]) (rest := [.ref 140]) (nl := 5) rfl XM_140 (show cvOK 290 14 359 277 1 5 11 = true by decide +kernel) rfl rfl rfl (sq_277 (d := d) ⟨qt.1, np_f h1⟩) (KP_P (fun v S1 k1 => ?_))
  obtain ⟨⟨x, rfl⟩, q1, s1⟩ := k1
  exact b_290_17 ⟨s1.1, s1.2.1⟩ (Qi_q (qt.tr q1))
theorem q_291 (M : MOK S) : Cal XM (d + 8) 291 [.ref 140] S (RQi S) := by
  refine cal_go 6 rfl (b_291_0 (fun _ => Qi_t M) (fun h1 => ?_))
  have a1 := np_f h1
  have qt := Qq_t M (tz (decide (S.1 140 1 = 0)) 1)
  refine go_cv mm_291 (h := 140) (As := [.int (-1)]) (rest := [.ref 140]) (nl := 5) rfl XM_140 (show cvOK 291 12 359 277 1 5 11 = true by decide +kernel) rfl rfl rfl (sq_277 (d := d) ⟨qt.1, a1⟩) (KP_P (fun v S1 k1 => ?_))
  obtain ⟨⟨x, rfl⟩, q1, s1⟩ := k1
  refine b_291_15 ⟨s1.1, s1.2.1⟩ ?_
  obtain ⟨t1, t2⟩ := gd_n ⟨M, a1⟩
  generalize Int32.toNatClampNeg (S.1 141 1) = G at *
  have key : ∀ m g best S2, g + m = G → Qq S S2 → Qp S2 → Go XM (d + 8) 291 0 21 [some (.ref 140), some (.int best), some (.int (nJ g)), none, none, none, none] [] S2 (RQi S) := by
    intro m
    induction m with
    | zero =>
      intro g best S2 hg q2 s2
      have e := q2.2.row (a := 141) (by decide) (by decide)
      have hn : ¬ nJ g < S2.1 141 1 := by rw [e, t1, nJ_lt (by omega) (by omega)]; omega
      exact b_291_21 (fun q => absurd q hn) (fun _ => Qi_q q2)
    | succ m ih =>
      intro g best S2 hg q2 s2
      have e := q2.2.row (a := 141) (by decide) (by decide)
      have hlt : nJ g < S2.1 141 1 := by rw [e, t1, nJ_lt (by omega) (by omega)]; omega
      refine b_291_21 (fun _ => ?_) (fun q => absurd hlt q)
      refine go_cv mm_291 (h := 140) (As := [.int (nJ g)]) (rest := []) (nl := 5) rfl XM_140 (show cvOK 291 33 359 277 1 5 11 = true by decide +kernel) rfl rfl rfl (sq_277 (d := d) s2) (KP_P (fun v S3 k3 => ?_))
      obtain ⟨⟨y, rfl⟩, q3, s3⟩ := k3
      refine b_291_36 ?_
      have s3p : Qp S3 := ⟨s3.1, s3.2.1⟩
      obtain ⟨hP, h64⟩ := Ld_P s3p.ld.1
      have inner : ∀ m' p best', p + m' = nP S3 → Go XM (d + 8) 291 0 40 [some (.ref 140), some (.int best'), some (.int (nJ g)), some (.long y), none, some (.int (nJ p)), none] [] S3 (RQi S) := by
        intro m'
        induction m' with
        | zero =>
          intro p best' hp
          have hn : ¬ nJ p < S3.1 140 20 := by rw [hP, nJ_lt (by omega) (by omega)]; omega
          refine b_291_40 (fun q => absurd q hn) (fun q => absurd q hn) (fun q => absurd q hn) (fun q => absurd q hn) (fun q => absurd q hn) (fun q => absurd q hn) (fun _ => ?_)
          rw [nJ_succ]
          exact Go.le (ih (g + 1) best' S3 (by omega) (q2.tr q3) s3p) (by repeat first | exact True.intro | refine And.intro rfl ?_)
        | succ m' ih' =>
          intro p best' hp
          have hl : nJ p < S3.1 140 20 := by rw [hP, nJ_lt (by omega) (by omega)]; omega
          refine b_291_40 (fun _ => nJ_inB (by omega) (by omega)) (fun _ => in274 (k := 2) (by omega) (by omega)) (fun _ => s3p.ld.1) (fun _ => ?_) (fun _ => s3p) (fun _ => ?_) (fun q => absurd hl q)
          · rw [ra_n S3 147 (by omega), ra_n S3 148 (by omega)]
            obtain ⟨t, -, -, -, -, -, -, hcl⟩ := Ld_pt s3p.ld.1 (p := p) (by omega)
            exact hcl
          · rw [nJ_succ]
            exact Go.le (ih' (p + 1) _ (by omega)) (by repeat first | exact True.intro | refine And.intro rfl ?_)
      exact inner (nP S3) 0 best (by omega)
  exact key G 0 _ S1 (by omega) (qt.tr q1) ⟨s1.1, s1.2.1⟩
theorem q_295 (M : MOK S) {v1 : Int32} : Cal XM (d + 8) 295 [.ref 140, .int v1] S (RQi S) := by
  refine cal_go 5 rfl (b_295_0 (fun _ => Qi_t M) (fun _ _ => Qi_q (Qq_tt M _ _)) (fun h1 h2 => ?_))
  have a1 := np_f h1
  have qt0 := Qq_tt M (tz (decide (S.1 140 1 = 0)) 1) (rf (tz (decide (S.1 140 1 = 0)) 1) (!(f_182 v1 0 15)) 2)
  have qt := qt0.tr (Qq_0 qt0.1 (hs := []) (fs := [40]) (Fm_f (q := 40) (v := 1) (by decide)) (by decide) (by decide) (by decide) (by decide) (by decide) (by decide))
  refine go_cv mm_295 (h := 140) (As := [.int (-1)]) (rest := []) (nl := 5) rfl XM_140 (show cvOK 295 39 359 277 1 5 11 = true by decide +kernel) rfl rfl rfl (sq_277 (d := d) ⟨qt.1, a1⟩) (KP_P (fun v S1 k1 => ?_))
  obtain ⟨⟨x, rfl⟩, q1, s1⟩ := k1
  refine b_295_42 ?_
  have key : ∀ m i n S2, i + m = 16 → Qq S S2 → Qp S2 → Go XM (d + 8) 295 0 49 [some (.ref 140), some (.int v1), some (.long x), none, some (.int n), some (.int (nJ i)), none] [] S2 (RQi S) := by
    intro m
    induction m with
    | zero =>
      intro i n S2 hi q2 s2
      have hi : i = 16 := by omega
      subst hi
      have hn : ¬ nJ 16 < 16 := by decide
      exact b_295_49 (fun q => absurd q hn) (fun q => absurd q hn) (fun q => absurd q hn) (fun q => absurd q hn) (fun q => absurd q hn) (fun q => absurd q hn) (fun q => absurd q hn) (fun q => absurd q hn) (fun q => absurd q hn) (fun q => absurd q hn) (fun q => absurd q hn) (fun q => absurd q hn) (fun q => absurd q hn) (fun _ => Qi_q q2)
    | succ m ih =>
      intro i n S2 hi q2 s2
      have hlt : nJ i < 16 := (nJ_lt (j := 16) (by omega) (by omega)).mpr (by omega)
      have ib : inB (nJ i) 16 := nJ_inB (by omega) (by omega)
      have nx : ∀ {n' c w : Int32}, Go XM (d + 8) 295 0 49 [some (.ref 140), some (.int v1), some (.long x), none, some (.int n'), some (.int (nJ i + 1)), some (.int w)] [] (wI S2 161 (Int32.toNatClampNeg (nJ i)) c) (RQi S) := by
        intro n' c w
        rw [nJ_succ]
        have q3 := Qq_a q2.1 (a := 161) (q := Int32.toNatClampNeg (nJ i)) (v := c) (by decide) (by decide)
        exact Go.le (ih (i + 1) n' _ (by omega) (q2.tr q3) (Qp_q s2 q3)) (by repeat first | exact True.intro | refine And.intro rfl ?_)
      exact b_295_49 (fun _ _ => ib) (fun _ _ => s2) (fun _ _ _ => ib) (fun _ _ _ => s2) (fun _ _ _ _ => ib) (fun _ _ _ _ => s2) (fun _ _ _ _ _ => ib) (fun _ _ _ _ _ => ib) (fun _ _ => nx) (fun _ _ _ => nx) (fun _ _ _ _ => nx) (fun _ _ _ _ _ => nx) (fun _ _ _ _ _ => nx) (fun q => absurd hlt q)
  exact key 16 0 0 S1 (by omega) (qt.tr q1) ⟨s1.1, s1.2.1⟩
theorem q_296 (M : MOK S) {v1 : Int32} : Cal XM (d + 1) 296 [.ref 140, .int v1] S (RQi S) := by
  refine (sp_296 (fun h => ?_)).V_i (Qq_tt M _ _)
  have h2 := rf_f h (by decide)
  rw [Bool.or_eq_false_iff] at h2
  obtain ⟨b1, b2⟩ := in_f h2.2
  have b2 : v1.toInt ≤ 15 := b2
  exact ⟨b1, by omega⟩
end W3
