/-! what the guards watch; treasures; the map -/
theorem mm_274 : mtG 274 = some (mi_274, 12, ft_274) := rfl
def f_274 (S : ST) (v1 : Int32) (v2 : Int32) : Int32 := ra S 141 ((27 + (3 * v1)) + v2)
theorem b_274_0 {d c : Nat} {R : RT} {S : ST} {v1 : Int32} {v2 : Int32} (o1 : inB ((27 + (3 * v1)) + v2) 63) (e1 : R c (.inr (some (.int (ra S 141 ((27 + (3 * v1)) + v2))))) S) : Go XM d 274 c 0 [some (.ref 140), some (.int v1), some (.int v2)] [] S R := by
  refine go_run mm_274 9 (pc' := 12) (ls' := [some (.ref 140), some (.int v1), some (.int v2)]) (st' := [.int ((27 + (3 * v1)) + v2), .ref 141]) (S' := S) rfl ?_
  refine go_iaload mm_274 (q := (Int32.toNatClampNeg ((27 + (3 * v1)) + v2))) rfl rfl rfl (o1) ?_
  exact go_ireturn mm_274 rfl rfl (e1)
theorem sp_274 {d : Nat} {S : ST} {v1 : Int32} {v2 : Int32} (o1 : inB ((27 + (3 * v1)) + v2) 63) : Cal XM d 274 [.ref 140, .int v1, .int v2] S (RV (some (.int (f_274 S v1 v2))) S) := by
  refine cal_go 0 rfl (b_274_0 o1 ?_)
  · exact ⟨rfl, rfl, rfl⟩
theorem mm_287 : mtG 287 = some (mi_287, 12, ft_287) := rfl
def f_287 (S : ST) (v1 : Int32) (v2 : Int32) : Int32 := ra S 141 ((45 + (3 * v1)) + v2)
theorem b_287_0 {d c : Nat} {R : RT} {S : ST} {v1 : Int32} {v2 : Int32} (o1 : inB ((45 + (3 * v1)) + v2) 63) (e1 : R c (.inr (some (.int (ra S 141 ((45 + (3 * v1)) + v2))))) S) : Go XM d 287 c 0 [some (.ref 140), some (.int v1), some (.int v2)] [] S R := by
  refine go_run mm_287 9 (pc' := 12) (ls' := [some (.ref 140), some (.int v1), some (.int v2)]) (st' := [.int ((45 + (3 * v1)) + v2), .ref 141]) (S' := S) rfl ?_
  refine go_iaload mm_287 (q := (Int32.toNatClampNeg ((45 + (3 * v1)) + v2))) rfl rfl rfl (o1) ?_
  exact go_ireturn mm_287 rfl rfl (e1)
theorem sp_287 {d : Nat} {S : ST} {v1 : Int32} {v2 : Int32} (o1 : inB ((45 + (3 * v1)) + v2) 63) : Cal XM d 287 [.ref 140, .int v1, .int v2] S (RV (some (.int (f_287 S v1 v2))) S) := by
  refine cal_go 0 rfl (b_287_0 o1 ?_)
  · exact ⟨rfl, rfl, rfl⟩
theorem mm_275 : mtG 275 = some (mi_275, 12, ft_275) := rfl
set_option maxRecDepth 20000 in
theorem b_275_0 {d c : Nat} {R : RT} {S : ST} {v1 : Int32} {v2 : Int32} {v3 : Int32} (o1 : inB (f_215 S v1 v2) 64) (e1 : Go XM (d + 2) 275 c 16 [some (.ref 140), some (.int v1), some (.int v2), some (.int v3), some (.long (rl S 153 (f_215 S v1 v2))), none, some (.int 0), none] [] S R) : Go XM (d + 2) 275 c 0 [some (.ref 140), some (.int v1), some (.int v2), some (.int v3), none, none, none, none] [] S R := by
  refine go_run mm_275 5 (pc' := 7) (ls' := [some (.ref 140), some (.int v1), some (.int v2), some (.int v3), none, none, none, none]) (st' := [.int v2, .int v1, .ref 140, .ref 153]) (S' := S) rfl ?_
  refine go_cv mm_275 (h := 140) (As := [.int v1, .int v2]) (rest := [.ref 153]) (nl := 3) rfl XM_140 (show cvOK 275 7 257 215 2 3 11 = true by decide +kernel) rfl rfl rfl (sq_215) (KP_V ?_)
  refine go_laload mm_275 (q := (Int32.toNatClampNeg (f_215 S v1 v2))) rfl rfl rfl (o1) ?_
  refine go_run mm_275 3 (pc' := 16) (ls' := [some (.ref 140), some (.int v1), some (.int v2), some (.int v3), some (.long (rl S 153 (f_215 S v1 v2))), none, some (.int 0), none]) (st' := []) (S' := S) rfl ?_
  exact e1
set_option maxRecDepth 20000 in
theorem b_275_16 {d c : Nat} {R : RT} {S : ST} {v1 : Int32} {v2 : Int32} {v3 : Int32} {v4 : Int64} {v6 : Int32} (o1 : v6 < (S.1 140 20) → inB v6 64) (e1 : v6 < (S.1 140 20) → Go XM (d + 2) 275 c 16 [some (.ref 140), some (.int v1), some (.int v2), some (.int v3), some (.long (v4 &&& (if (v3 * v3) < ((((ra S 147 v6) - v1) * ((ra S 147 v6) - v1)) + (((ra S 148 v6) - v2) * ((ra S 148 v6) - v2))) then (1 <<< (Int32.toInt64 v6 &&& 63)) ^^^ (-1) else (-1)))), none, some (.int (v6 + 1)), some (.int ((((ra S 147 v6) - v1) * ((ra S 147 v6) - v1)) + (((ra S 148 v6) - v2) * ((ra S 148 v6) - v2))))] [] S R) (e2 : ¬ v6 < (S.1 140 20) → R c (.inr (some (.long v4))) S) : Go XM (d + 2) 275 c 16 [some (.ref 140), some (.int v1), some (.int v2), some (.int v3), some (.long v4), none, some (.int v6), none] [] S R := by
  refine go_run mm_275 3 (pc' := 22) (ls' := [some (.ref 140), some (.int v1), some (.int v2), some (.int v3), some (.long v4), none, some (.int v6), none]) (st' := [.int (S.1 140 20), .int v6]) (S' := S) rfl ?_
  refine go_if2 mm_275 rfl (p1 := 25) (p2 := 99) rfl (fun (hc1 : v6 < (S.1 140 20)) => ?_) (fun (hc1 : ¬ v6 < (S.1 140 20)) => ?_)
  · refine go_run mm_275 3 (pc' := 31) (ls' := [some (.ref 140), some (.int v1), some (.int v2), some (.int v3), some (.long v4), none, some (.int v6), none]) (st' := [.int v6, .ref 147]) (S' := S) rfl ?_
    refine go_iaload mm_275 (q := (Int32.toNatClampNeg v6)) rfl rfl rfl (o1 hc1) ?_
    refine go_run mm_275 5 (pc' := 40) (ls' := [some (.ref 140), some (.int v1), some (.int v2), some (.int v3), some (.long v4), none, some (.int v6), none]) (st' := [.int v6, .ref 147, .int ((ra S 147 v6) - v1)]) (S' := S) rfl ?_
    refine go_iaload mm_275 (q := (Int32.toNatClampNeg v6)) rfl rfl rfl (o1 hc1) ?_
    refine go_run mm_275 6 (pc' := 50) (ls' := [some (.ref 140), some (.int v1), some (.int v2), some (.int v3), some (.long v4), none, some (.int v6), none]) (st' := [.int v6, .ref 148, .int (((ra S 147 v6) - v1) * ((ra S 147 v6) - v1))]) (S' := S) rfl ?_
    refine go_iaload mm_275 (q := (Int32.toNatClampNeg v6)) rfl rfl rfl (o1 hc1) ?_
    refine go_run mm_275 5 (pc' := 59) (ls' := [some (.ref 140), some (.int v1), some (.int v2), some (.int v3), some (.long v4), none, some (.int v6), none]) (st' := [.int v6, .ref 148, .int ((ra S 148 v6) - v2), .int (((ra S 147 v6) - v1) * ((ra S 147 v6) - v1))]) (S' := S) rfl ?_
    refine go_iaload mm_275 (q := (Int32.toNatClampNeg v6)) rfl rfl rfl (o1 hc1) ?_
    refine go_run mm_275 10 (pc' := 73) (ls' := [some (.ref 140), some (.int v1), some (.int v2), some (.int v3), some (.long v4), none, some (.int v6), some (.int ((((ra S 147 v6) - v1) * ((ra S 147 v6) - v1)) + (((ra S 148 v6) - v2) * ((ra S 148 v6) - v2))))]) (st' := [.int (v3 * v3), .int ((((ra S 147 v6) - v1) * ((ra S 147 v6) - v1)) + (((ra S 148 v6) - v2) * ((ra S 148 v6) - v2))), .long v4]) (S' := S) rfl ?_
    have j1 : Go XM (d + 2) 275 c 90 [some (.ref 140), some (.int v1), some (.int v2), some (.int v3), some (.long v4), none, some (.int v6), some (.int ((((ra S 147 v6) - v1) * ((ra S 147 v6) - v1)) + (((ra S 148 v6) - v2) * ((ra S 148 v6) - v2))))] [.long (if (v3 * v3) < ((((ra S 147 v6) - v1) * ((ra S 147 v6) - v1)) + (((ra S 148 v6) - v2) * ((ra S 148 v6) - v2))) then (1 <<< (Int32.toInt64 v6 &&& 63)) ^^^ (-1) else (-1)), .long v4] S R := by
      refine go_run mm_275 4 (pc' := 16) (ls' := [some (.ref 140), some (.int v1), some (.int v2), some (.int v3), some (.long (v4 &&& (if (v3 * v3) < ((((ra S 147 v6) - v1) * ((ra S 147 v6) - v1)) + (((ra S 148 v6) - v2) * ((ra S 148 v6) - v2))) then (1 <<< (Int32.toInt64 v6 &&& 63)) ^^^ (-1) else (-1)))), none, some (.int (v6 + 1)), some (.int ((((ra S 147 v6) - v1) * ((ra S 147 v6) - v1)) + (((ra S 148 v6) - v2) * ((ra S 148 v6) - v2))))]) (st' := []) (S' := S) rfl ?_
      exact e1 hc1
    refine go_if2 mm_275 rfl (p1 := 82) (p2 := 76) rfl (fun (hc2 : (v3 * v3) < ((((ra S 147 v6) - v1) * ((ra S 147 v6) - v1)) + (((ra S 148 v6) - v2) * ((ra S 148 v6) - v2)))) => ?_) (fun (hc2 : ¬ (v3 * v3) < ((((ra S 147 v6) - v1) * ((ra S 147 v6) - v1)) + (((ra S 148 v6) - v2) * ((ra S 148 v6) - v2)))) => ?_)
    · refine go_run mm_275 5 (pc' := 90) (ls' := [some (.ref 140), some (.int v1), some (.int v2), some (.int v3), some (.long v4), none, some (.int v6), some (.int ((((ra S 147 v6) - v1) * ((ra S 147 v6) - v1)) + (((ra S 148 v6) - v2) * ((ra S 148 v6) - v2))))]) (st' := [.long ((1 <<< (Int32.toInt64 v6 &&& 63)) ^^^ (-1)), .long v4]) (S' := S) rfl ?_
      have e : ((if (v3 * v3) < ((((ra S 147 v6) - v1) * ((ra S 147 v6) - v1)) + (((ra S 148 v6) - v2) * ((ra S 148 v6) - v2))) then (1 <<< (Int32.toInt64 v6 &&& 63)) ^^^ (-1) else (-1)) : Int64) = (1 <<< (Int32.toInt64 v6 &&& 63)) ^^^ (-1) := by simp [hc2]
      rw [e] at j1
      exact j1
    · refine go_run mm_275 2 (pc' := 90) (ls' := [some (.ref 140), some (.int v1), some (.int v2), some (.int v3), some (.long v4), none, some (.int v6), some (.int ((((ra S 147 v6) - v1) * ((ra S 147 v6) - v1)) + (((ra S 148 v6) - v2) * ((ra S 148 v6) - v2))))]) (st' := [.long (-1), .long v4]) (S' := S) rfl ?_
      have e : ((if (v3 * v3) < ((((ra S 147 v6) - v1) * ((ra S 147 v6) - v1)) + (((ra S 148 v6) - v2) * ((ra S 148 v6) - v2))) then (1 <<< (Int32.toInt64 v6 &&& 63)) ^^^ (-1) else (-1)) : Int64) = (-1) := by simp [hc2]
      rw [e] at j1
      exact j1
  · refine go_run mm_275 1 (pc' := 101) (ls' := [some (.ref 140), some (.int v1), some (.int v2), some (.int v3), some (.long v4), none, some (.int v6), none]) (st' := [.long v4]) (S' := S) rfl ?_
    exact go_lreturn mm_275 rfl rfl (e2 hc1)
theorem ix27 {b g k : Nat} (hb : b < 1000) (hg : g < 1000) (hk : k < 1000) : (nJ b + (3 * nJ g)) + nJ k = nJ (b + 3 * g + k) := by
  show (nJ b + (nJ 3 * nJ g)) + nJ k = _
  rw [nJ_mul, nJ_add, nJ_add]
theorem f274_t {S : ST} {g k : Nat} (hg : g < 6) (hk : k < 3) : f_274 S (nJ g) (nJ k) = S.1 141 (27 + 3 * g + k) := by
  unfold f_274
  rw [show ((27 + (3 * nJ g)) + nJ k : Int32) = nJ (27 + 3 * g + k) from ix27 (b := 27) (by omega) (by omega) (by omega), ra_n S 141 (by omega)]
theorem in274 {g k : Nat} (hg : g < 6) (hk : k < 3) : inB ((27 + (3 * nJ g)) + nJ k) 63 := by
  rw [show ((27 + (3 * nJ g)) + nJ k : Int32) = nJ (27 + 3 * g + k) from ix27 (b := 27) (by omega) (by omega) (by omega)]
  exact nJ_inB (by omega) (by omega)
theorem in287 {g k : Nat} (hg : g < 6) (hk : k < 3) : inB ((45 + (3 * nJ g)) + nJ k) 63 := by
  rw [show ((45 + (3 * nJ g)) + nJ k : Int32) = nJ (45 + 3 * g + k) from ix27 (b := 45) (by omega) (by omega) (by omega)]
  exact nJ_inB (by omega) (by omega)
def st75 (S : ST) (v1 v2 v3 : Int32) (i : Nat) (a : Int64) : Int64 := a &&& (if (v3 * v3) < ((((ra S 147 (nJ i)) - v1) * ((ra S 147 (nJ i)) - v1)) + (((ra S 148 (nJ i)) - v2) * ((ra S 148 (nJ i)) - v2))) then (1 <<< (Int32.toInt64 (nJ i) &&& 63)) ^^^ (-1) else (-1))
def f_275 (S : ST) (v1 v2 v3 : Int32) : Int64 := fr (st75 S v1 v2 v3) 0 (nP S) (rl S 153 (f_215 S v1 v2))
theorem sq_275 {d : Nat} {S : ST} {v1 v2 v3 : Int32} (hL : Ld S) (hc : ge_cl 1 (rL S 141) (Int32.toInt v1, Int32.toInt v2)) : Cal XM (d + 2) 275 [.ref 140, .int v1, .int v2, .int v3] S (RV (some (.long (f_275 S v1 v2 v3))) S) := by
  obtain ⟨p, p1, p2, -⟩ := at_pt hL hc
  obtain ⟨hP, h64⟩ := Ld_P hL
  refine cal_go 4 rfl (b_275_0 (by rw [p2]; exact nJ_inB (by omega) (by omega)) ?_)
  refine fr_loop (f := st75 S v1 v2 v3) (n := nP S) (J := fun _ _ => True) (H := fun i a => Go XM (d + 2) 275 0 16 [some (.ref 140), some (.int v1), some (.int v2), some (.int v3), some (.long a), none, some (.int (nJ i)), none] [] S (RV (some (.long (f_275 S v1 v2 v3))) S)) (fun i a hi _ => ⟨trivial, fun hn => ?_⟩) (nP S) 0 _ (by omega) trivial (fun _ => ?_)
  · have hlt : nJ i < S.1 140 20 := by rw [hP, nJ_lt (by omega) (by omega)]; exact hi
    refine b_275_16 (fun _ => nJ_inB (by omega) (by omega)) (fun _ => ?_) (fun q => absurd hlt q)
    rw [nJ_succ]
    exact Go.le hn (by repeat first | exact True.intro | refine And.intro rfl ?_)
  · have hn : ¬ nJ (nP S) < S.1 140 20 := by rw [hP, nJ_lt (by omega) (by omega)]; omega
    exact b_275_16 (fun q => absurd q hn) (fun q => absurd q hn) (fun _ => ⟨rfl, rfl, rfl⟩)
/-- a guard's number -/
def GI (S : ST) (v : Int32) : Prop := Ld S ∧ ∃ g, g < 6 ∧ v = nJ g ∧ ge_cl 1 (rL S 141) ((S.1 141 (27 + 3 * g)).toInt, (S.1 141 (28 + 3 * g)).toInt)
theorem mm_276 : mtG 276 = some (mi_276, 12, ft_276) := rfl
def f_276 (S : ST) (v1 : Int32) : Int64 := f_275 S (f_274 S v1 0) (f_274 S v1 1) (f_274 S v1 2)
theorem b_276_0 {d c : Nat} {R : RT} {S : ST} {v1 : Int32} (o1 : inB ((27 + (3 * v1)) + 0) 63) (o2 : inB ((27 + (3 * v1)) + 1) 63) (o3 : inB ((27 + (3 * v1)) + 2) 63) (o4 : Ld S) (o5 : ge_cl 1 (rL S 141) (Int32.toInt (f_274 S v1 0), Int32.toInt (f_274 S v1 1))) (e1 : R c (.inr (some (.long (f_275 S (f_274 S v1 0) (f_274 S v1 1) (f_274 S v1 2))))) S) : Go XM (d + 3) 276 c 0 [some (.ref 140), some (.int v1)] [] S R := by
  refine go_run mm_276 4 (pc' := 4) (ls' := [some (.ref 140), some (.int v1)]) (st' := [.int 0, .int v1, .ref 140, .ref 140]) (S' := S) rfl ?_
  refine go_cv mm_276 (h := 140) (As := [.int v1, .int 0]) (rest := [.ref 140]) (nl := 3) rfl XM_140 (show cvOK 276 4 347 274 2 3 11 = true by decide +kernel) rfl rfl rfl (sp_274 (o1)) (KP_V ?_)
  refine go_run mm_276 3 (pc' := 10) (ls' := [some (.ref 140), some (.int v1)]) (st' := [.int 1, .int v1, .ref 140, .int (f_274 S v1 0), .ref 140]) (S' := S) rfl ?_
  refine go_cv mm_276 (h := 140) (As := [.int v1, .int 1]) (rest := [.int (f_274 S v1 0), .ref 140]) (nl := 3) rfl XM_140 (show cvOK 276 10 347 274 2 3 11 = true by decide +kernel) rfl rfl rfl (sp_274 (o2)) (KP_V ?_)
  refine go_run mm_276 3 (pc' := 16) (ls' := [some (.ref 140), some (.int v1)]) (st' := [.int 2, .int v1, .ref 140, .int (f_274 S v1 1), .int (f_274 S v1 0), .ref 140]) (S' := S) rfl ?_
  refine go_cv mm_276 (h := 140) (As := [.int v1, .int 2]) (rest := [.int (f_274 S v1 1), .int (f_274 S v1 0), .ref 140]) (nl := 3) rfl XM_140 (show cvOK 276 16 347 274 2 3 11 = true by decide +kernel) rfl rfl rfl (sp_274 (o3)) (KP_V ?_)
  refine go_cv mm_276 (h := 140) (As := [.int (f_274 S v1 0), .int (f_274 S v1 1), .int (f_274 S v1 2)]) (rest := []) (nl := 8) rfl XM_140 (show cvOK 276 19 349 275 3 8 11 = true by decide +kernel) rfl rfl rfl (sq_275 (o4) (o5)) (KP_V ?_)
  exact go_lreturn mm_276 rfl rfl (e1)
theorem sp_276 {d : Nat} {S : ST} {v1 : Int32} (o1 : inB ((27 + (3 * v1)) + 0) 63) (o2 : inB ((27 + (3 * v1)) + 1) 63) (o3 : inB ((27 + (3 * v1)) + 2) 63) (o4 : Ld S) (o5 : ge_cl 1 (rL S 141) (Int32.toInt (f_274 S v1 0), Int32.toInt (f_274 S v1 1))) : Cal XM (d + 3) 276 [.ref 140, .int v1] S (RV (some (.long (f_276 S v1))) S) := by
  refine cal_go 0 rfl (b_276_0 o1 o2 o3 o4 o5 ?_)
  · exact ⟨rfl, rfl, rfl⟩
theorem sq_276 {d : Nat} {S : ST} {v1 : Int32} (h : GI S v1) : Cal XM (d + 3) 276 [.ref 140, .int v1] S (RV (some (.long (f_276 S v1))) S) := by
  obtain ⟨hL, g, hg, rfl, hc⟩ := h
  refine sp_276 (in274 (k := 0) hg (by omega)) (in274 (k := 1) hg (by omega)) (in274 (k := 2) hg (by omega)) hL ?_
  rw [show f_274 S (nJ g) 0 = S.1 141 (27 + 3 * g + 0) from f274_t (k := 0) hg (by omega), show f_274 S (nJ g) 1 = S.1 141 (27 + 3 * g + 1) from f274_t (k := 1) hg (by omega), show 27 + 3 * g + 1 = 28 + 3 * g by omega]
  exact hc
/-- guards of a state with a polygon -/
theorem gd_all {S : ST} (h : Qp S) : ∃ G, S.1 141 1 = nJ G ∧ G ≤ 6 ∧ ∀ g, g < G → GI S (nJ g) := by
  obtain ⟨⟨G, g1, g2, g3⟩, -⟩ := h.ld.2
  exact ⟨G, g1, g2, fun g hg => ⟨h.ld.1, g, by omega, rfl, g3 g hg⟩⟩
theorem gd_GI {S : ST} (h : Qp S) {v : Int32} (h0 : 0 ≤ v.toInt) (h1 : v.toInt ≤ (S.1 141 1 - 1).toInt) : GI S v := by
  obtain ⟨G, g, a1, a2, rfl, a3, a4⟩ := gd_ix h.ld.2 h0 h1
  exact ⟨h.ld.1, g, by omega, rfl, a4 g a3⟩
theorem GI_lt {S : ST} {v : Int32} (h : GI S v) : ∃ g, g < 6 ∧ v = nJ g := by
  obtain ⟨-, g, a, b, -⟩ := h
  exact ⟨g, a, b⟩
theorem mm_277 : mtG 277 = some (mi_277, 12, ft_277) := rfl
theorem b_277_0 {d c : Nat} {R : RT} {S : ST} {v1 : Int32} (e1 : Go XM (d + 7) 277 c 1 [some (.ref 140), some (.int v1), none, none, none] [.ref 140] S R) : Go XM (d + 7) 277 c 0 [some (.ref 140), some (.int v1), none, none, none] [] S R := by
  refine go_run mm_277 1 (pc' := 1) (ls' := [some (.ref 140), some (.int v1), none, none, none]) (st' := [.ref 140]) (S' := S) rfl ?_
  exact e1
theorem b_277_4 {d c : Nat} {R : RT} {S : ST} {v1 : Int32} (e1 : Go XM (d + 7) 277 c 9 [some (.ref 140), some (.int v1), some (.long 0), none, some (.int 0)] [] S R) : Go XM (d + 7) 277 c 4 [some (.ref 140), some (.int v1), none, none, none] [] S R := by
  refine go_run mm_277 4 (pc' := 9) (ls' := [some (.ref 140), some (.int v1), some (.long 0), none, some (.int 0)]) (st' := []) (S' := S) rfl ?_
  exact e1
theorem b_277_9 {d c : Nat} {R : RT} {S : ST} {v1 : Int32} {v2 : Int64} {v4 : Int32} (o1 : v4 < (S.1 141 1) → ¬ v4 = v1 → GI S v4) (e1 : v4 < (S.1 141 1) → Go XM (d + 7) 277 c 9 [some (.ref 140), some (.int v1), some (.long (v2 ||| (if v4 = v1 then 0 else f_276 S v4))), none, some (.int (v4 + 1))] [] S R) (e2 : ¬ v4 < (S.1 141 1) → R c (.inr (some (.long v2))) S) : Go XM (d + 7) 277 c 9 [some (.ref 140), some (.int v1), some (.long v2), none, some (.int v4)] [] S R := by
  refine go_run mm_277 4 (pc' := 16) (ls' := [some (.ref 140), some (.int v1), some (.long v2), none, some (.int v4)]) (st' := [.int 1, .ref 141, .int v4]) (S' := S) rfl ?_
  refine go_iaload mm_277 (q := 1) rfl rfl rfl (inB_lit rfl) ?_
  refine go_if2 mm_277 rfl (p1 := 20) (p2 := 45) rfl (fun (hc1 : v4 < (S.1 141 1)) => ?_) (fun (hc1 : ¬ v4 < (S.1 141 1)) => ?_)
  · refine go_run mm_277 3 (pc' := 24) (ls' := [some (.ref 140), some (.int v1), some (.long v2), none, some (.int v4)]) (st' := [.int v1, .int v4, .long v2]) (S' := S) rfl ?_
    have j1 : Go XM (d + 7) 277 c 37 [some (.ref 140), some (.int v1), some (.long v2), none, some (.int v4)] [.long (if v4 = v1 then 0 else f_276 S v4), .long v2] S R := by
      refine go_run mm_277 4 (pc' := 9) (ls' := [some (.ref 140), some (.int v1), some (.long (v2 ||| (if v4 = v1 then 0 else f_276 S v4))), none, some (.int (v4 + 1))]) (st' := []) (S' := S) rfl ?_
      exact e1 hc1
    refine go_if2 mm_277 rfl (p1 := 27) (p2 := 31) rfl (fun (hc2 : v4 = v1) => ?_) (fun (hc2 : ¬ v4 = v1) => ?_)
    · refine go_run mm_277 2 (pc' := 37) (ls' := [some (.ref 140), some (.int v1), some (.long v2), none, some (.int v4)]) (st' := [.long 0, .long v2]) (S' := S) rfl ?_
      have e : ((if v4 = v1 then 0 else f_276 S v4) : Int64) = 0 := by simp [hc2]
      rw [e] at j1
      exact j1
    · refine go_run mm_277 2 (pc' := 34) (ls' := [some (.ref 140), some (.int v1), some (.long v2), none, some (.int v4)]) (st' := [.int v4, .ref 140, .long v2]) (S' := S) rfl ?_
      refine go_cv mm_277 (h := 140) (As := [.int v4]) (rest := [.long v2]) (nl := 2) rfl XM_140 (show cvOK 277 34 353 276 1 2 11 = true by decide +kernel) rfl rfl rfl (sq_276 (o1 hc1 hc2)) (KP_V ?_)
      have e : ((if v4 = v1 then 0 else f_276 S v4) : Int64) = f_276 S v4 := by simp [hc2]
      rw [e] at j1
      exact j1
  · refine go_run mm_277 1 (pc' := 46) (ls' := [some (.ref 140), some (.int v1), some (.long v2), none, some (.int v4)]) (st' := [.long v2]) (S' := S) rfl ?_
    exact go_lreturn mm_277 rfl rfl (e2 hc1)
theorem sq_277 {d : Nat} {S : ST} {v1 : Int32} (h : Qp S) : Cal XM (d + 7) 277 [.ref 140, .int v1] S (RP (fun v S' => (∃ x : Int64, v = some (.long x)) ∧ Qq S S' ∧ Qs S')) := by
  refine cal_go 3 rfl (b_277_0 ?_)
  refine go_cv mm_277 (h := 140) (As := []) (rest := []) (nl := 3) rfl XM_140 (show cvOK 277 1 279 239 0 3 11 = true by decide +kernel) rfl rfl rfl (sr_239 h) (KP_P (fun v S1 k1 => ?_))
  obtain ⟨rfl, q1, s1⟩ := k1
  obtain ⟨G, g1, g2, g3⟩ := gd_all ⟨s1.1, s1.2.1⟩
  refine b_277_4 ?_
  have key : ∀ m i a, i + m = G → Go XM (d + 7) 277 0 9 [some (.ref 140), some (.int v1), some (.long a), none, some (.int (nJ i))] [] S1 (RP (fun v S' => (∃ x : Int64, v = some (.long x)) ∧ Qq S S' ∧ Qs S')) := by
    intro m
    induction m with
    | zero =>
      intro i a hi
      have hn : ¬ nJ i < S1.1 141 1 := by rw [g1, nJ_lt (by omega) (by omega)]; omega
      exact b_277_9 (fun q => absurd q hn) (fun q => absurd q hn) (fun _ => ⟨rfl, _, rfl, ⟨_, rfl⟩, q1, s1⟩)
    | succ m ih =>
      intro i a hi
      have hlt : nJ i < S1.1 141 1 := by rw [g1, nJ_lt (by omega) (by omega)]; omega
      refine b_277_9 (fun _ _ => g3 i (by omega)) (fun _ => ?_) (fun q => absurd hlt q)
      rw [nJ_succ]
      exact ih (i + 1) _ (by omega)
  exact key G 0 0 (by omega)
theorem mm_278 : mtG 278 = some (mi_278, 12, ft_278) := rfl
def f_278 (S : ST) (v1 : Int32) : Int32 := (if (nb S v1 (S.1 141 1 - 1)) = true then 0 else f_215 (wI S 140 0 (tb S v1 (S.1 141 1 - 1))) (f_274 (wI S 140 0 (tb S v1 (S.1 141 1 - 1))) v1 0) (f_274 (wI S 140 0 (tb S v1 (S.1 141 1 - 1))) v1 1))
def g_278 (S : ST) (v1 : Int32) : ST := (wI S 140 0 (tb S v1 (S.1 141 1 - 1)))
theorem b_278_0 {d c : Nat} {R : RT} {S : ST} {v1 : Int32} (o1 : (nb S v1 (S.1 141 1 - 1)) = false → inB ((27 + (3 * v1)) + 0) 63) (o2 : (nb S v1 (S.1 141 1 - 1)) = false → inB ((27 + (3 * v1)) + 1) 63) (e1 : R c (.inr (some (.int (if (nb S v1 (S.1 141 1 - 1)) = true then 0 else f_215 (wI S 140 0 (tb S v1 (S.1 141 1 - 1))) (f_274 (wI S 140 0 (tb S v1 (S.1 141 1 - 1))) v1 0) (f_274 (wI S 140 0 (tb S v1 (S.1 141 1 - 1))) v1 1))))) (wI S 140 0 (tb S v1 (S.1 141 1 - 1)))) : Go XM (d + 3) 278 c 0 [some (.ref 140), some (.int v1)] [] S R := by
  refine go_run mm_278 2 (pc' := 2) (ls' := [some (.ref 140), some (.int v1)]) (st' := [.int v1, .ref 140]) (S' := S) rfl ?_
  refine go_cv mm_278 (h := 140) (As := [.int v1]) (rest := []) (nl := 2) rfl XM_140 (show cvOK 278 2 356 227 1 2 11 = true by decide +kernel) rfl rfl rfl (sq_227) (KP_V ?_)
  have j1 : Go XM (d + 3) 278 c 28 [some (.ref 140), some (.int v1)] [.int (if (nb S v1 (S.1 141 1 - 1)) = true then 0 else f_215 (wI S 140 0 (tb S v1 (S.1 141 1 - 1))) (f_274 (wI S 140 0 (tb S v1 (S.1 141 1 - 1))) v1 0) (f_274 (wI S 140 0 (tb S v1 (S.1 141 1 - 1))) v1 1))] (wI S 140 0 (tb S v1 (S.1 141 1 - 1))) R := by
    exact go_ireturn mm_278 rfl rfl (e1)
  refine go_ifb mm_278 rfl (p1 := 8) (p2 := 12) rfl (fun (hc1 : (nb S v1 (S.1 141 1 - 1)) = true) => ?_) (fun (hc1 : (nb S v1 (S.1 141 1 - 1)) = false) => ?_)
  · refine go_run mm_278 2 (pc' := 28) (ls' := [some (.ref 140), some (.int v1)]) (st' := [.int 0]) (S' := (wI S 140 0 (tb S v1 (S.1 141 1 - 1)))) rfl ?_
    have e : ((if (nb S v1 (S.1 141 1 - 1)) = true then 0 else f_215 (wI S 140 0 (tb S v1 (S.1 141 1 - 1))) (f_274 (wI S 140 0 (tb S v1 (S.1 141 1 - 1))) v1 0) (f_274 (wI S 140 0 (tb S v1 (S.1 141 1 - 1))) v1 1)) : Int32) = 0 := by simp [b2i, hc1]
    rw [e] at j1
    exact j1
  · refine go_run mm_278 4 (pc' := 16) (ls' := [some (.ref 140), some (.int v1)]) (st' := [.int 0, .int v1, .ref 140, .ref 140]) (S' := (wI S 140 0 (tb S v1 (S.1 141 1 - 1)))) rfl ?_
    refine go_cv mm_278 (h := 140) (As := [.int v1, .int 0]) (rest := [.ref 140]) (nl := 3) rfl XM_140 (show cvOK 278 16 347 274 2 3 11 = true by decide +kernel) rfl rfl rfl (sp_274 (o1 hc1)) (KP_V ?_)
    refine go_run mm_278 3 (pc' := 22) (ls' := [some (.ref 140), some (.int v1)]) (st' := [.int 1, .int v1, .ref 140, .int (f_274 (wI S 140 0 (tb S v1 (S.1 141 1 - 1))) v1 0), .ref 140]) (S' := (wI S 140 0 (tb S v1 (S.1 141 1 - 1)))) rfl ?_
    refine go_cv mm_278 (h := 140) (As := [.int v1, .int 1]) (rest := [.int (f_274 (wI S 140 0 (tb S v1 (S.1 141 1 - 1))) v1 0), .ref 140]) (nl := 3) rfl XM_140 (show cvOK 278 22 347 274 2 3 11 = true by decide +kernel) rfl rfl rfl (sp_274 (o2 hc1)) (KP_V ?_)
    refine go_cv mm_278 (h := 140) (As := [.int (f_274 (wI S 140 0 (tb S v1 (S.1 141 1 - 1))) v1 0), .int (f_274 (wI S 140 0 (tb S v1 (S.1 141 1 - 1))) v1 1)]) (rest := []) (nl := 3) rfl XM_140 (show cvOK 278 25 257 215 2 3 11 = true by decide +kernel) rfl rfl rfl (sq_215) (KP_V ?_)
    have e : ((if (nb S v1 (S.1 141 1 - 1)) = true then 0 else f_215 (wI S 140 0 (tb S v1 (S.1 141 1 - 1))) (f_274 (wI S 140 0 (tb S v1 (S.1 141 1 - 1))) v1 0) (f_274 (wI S 140 0 (tb S v1 (S.1 141 1 - 1))) v1 1)) : Int32) = f_215 (wI S 140 0 (tb S v1 (S.1 141 1 - 1))) (f_274 (wI S 140 0 (tb S v1 (S.1 141 1 - 1))) v1 0) (f_274 (wI S 140 0 (tb S v1 (S.1 141 1 - 1))) v1 1) := by simp [b2i, hc1]
    rw [e] at j1
    exact j1
theorem sp_278 {d : Nat} {S : ST} {v1 : Int32} (o1 : (nb S v1 (S.1 141 1 - 1)) = false → inB ((27 + (3 * v1)) + 0) 63) (o2 : (nb S v1 (S.1 141 1 - 1)) = false → inB ((27 + (3 * v1)) + 1) 63) : Cal XM (d + 3) 278 [.ref 140, .int v1] S (RV (some (.int (f_278 S v1))) (g_278 S v1)) := by
  refine cal_go 0 rfl (b_278_0 o1 o2 ?_)
  · exact ⟨rfl, rfl, rfl⟩
theorem mm_279 : mtG 279 = some (mi_279, 12, ft_279) := rfl
def f_279 (S : ST) (v1 : Int32) : Int32 := (if (nb S v1 (S.1 141 1 - 1)) = true then 0 else f_274 (wI S 140 0 (tb S v1 (S.1 141 1 - 1))) v1 2)
def g_279 (S : ST) (v1 : Int32) : ST := (wI S 140 0 (tb S v1 (S.1 141 1 - 1)))
theorem b_279_0 {d c : Nat} {R : RT} {S : ST} {v1 : Int32} (o1 : (nb S v1 (S.1 141 1 - 1)) = false → inB ((27 + (3 * v1)) + 2) 63) (e1 : R c (.inr (some (.int (if (nb S v1 (S.1 141 1 - 1)) = true then 0 else f_274 (wI S 140 0 (tb S v1 (S.1 141 1 - 1))) v1 2)))) (wI S 140 0 (tb S v1 (S.1 141 1 - 1)))) : Go XM (d + 3) 279 c 0 [some (.ref 140), some (.int v1)] [] S R := by
  refine go_run mm_279 2 (pc' := 2) (ls' := [some (.ref 140), some (.int v1)]) (st' := [.int v1, .ref 140]) (S' := S) rfl ?_
  refine go_cv mm_279 (h := 140) (As := [.int v1]) (rest := []) (nl := 2) rfl XM_140 (show cvOK 279 2 356 227 1 2 11 = true by decide +kernel) rfl rfl rfl (sq_227) (KP_V ?_)
  have j1 : Go XM (d + 3) 279 c 18 [some (.ref 140), some (.int v1)] [.int (if (nb S v1 (S.1 141 1 - 1)) = true then 0 else f_274 (wI S 140 0 (tb S v1 (S.1 141 1 - 1))) v1 2)] (wI S 140 0 (tb S v1 (S.1 141 1 - 1))) R := by
    exact go_ireturn mm_279 rfl rfl (e1)
  refine go_ifb mm_279 rfl (p1 := 8) (p2 := 12) rfl (fun (hc1 : (nb S v1 (S.1 141 1 - 1)) = true) => ?_) (fun (hc1 : (nb S v1 (S.1 141 1 - 1)) = false) => ?_)
  · refine go_run mm_279 2 (pc' := 18) (ls' := [some (.ref 140), some (.int v1)]) (st' := [.int 0]) (S' := (wI S 140 0 (tb S v1 (S.1 141 1 - 1)))) rfl ?_
    have e : ((if (nb S v1 (S.1 141 1 - 1)) = true then 0 else f_274 (wI S 140 0 (tb S v1 (S.1 141 1 - 1))) v1 2) : Int32) = 0 := by simp [b2i, hc1]
    rw [e] at j1
    exact j1
  · refine go_run mm_279 3 (pc' := 15) (ls' := [some (.ref 140), some (.int v1)]) (st' := [.int 2, .int v1, .ref 140]) (S' := (wI S 140 0 (tb S v1 (S.1 141 1 - 1)))) rfl ?_
    refine go_cv mm_279 (h := 140) (As := [.int v1, .int 2]) (rest := []) (nl := 3) rfl XM_140 (show cvOK 279 15 347 274 2 3 11 = true by decide +kernel) rfl rfl rfl (sp_274 (o1 hc1)) (KP_V ?_)
    have e : ((if (nb S v1 (S.1 141 1 - 1)) = true then 0 else f_274 (wI S 140 0 (tb S v1 (S.1 141 1 - 1))) v1 2) : Int32) = f_274 (wI S 140 0 (tb S v1 (S.1 141 1 - 1))) v1 2 := by simp [b2i, hc1]
    rw [e] at j1
    exact j1
theorem sp_279 {d : Nat} {S : ST} {v1 : Int32} (o1 : (nb S v1 (S.1 141 1 - 1)) = false → inB ((27 + (3 * v1)) + 2) 63) : Cal XM (d + 3) 279 [.ref 140, .int v1] S (RV (some (.int (f_279 S v1))) (g_279 S v1)) := by
  refine cal_go 0 rfl (b_279_0 o1 ?_)
  · exact ⟨rfl, rfl, rfl⟩
theorem mm_288 : mtG 288 = some (mi_288, 12, ft_288) := rfl
def f_288 (S : ST) (v1 : Int32) : Int32 := (if (decide (S.1 140 1 = 0)) = true then 0 else (if (!(decide (rf (tz (decide (S.1 140 1 = 0)) 1) (!(f_182 v1 0 ((S.1 141 2) - 1))) 2 = 0))) = true then 0 else f_215 (wI (wI S 140 0 (tz (decide (S.1 140 1 = 0)) 1)) 140 0 (rf (tz (decide (S.1 140 1 = 0)) 1) (!(f_182 v1 0 ((S.1 141 2) - 1))) 2)) (f_287 (wI (wI S 140 0 (tz (decide (S.1 140 1 = 0)) 1)) 140 0 (rf (tz (decide (S.1 140 1 = 0)) 1) (!(f_182 v1 0 ((S.1 141 2) - 1))) 2)) v1 0) (f_287 (wI (wI S 140 0 (tz (decide (S.1 140 1 = 0)) 1)) 140 0 (rf (tz (decide (S.1 140 1 = 0)) 1) (!(f_182 v1 0 ((S.1 141 2) - 1))) 2)) v1 1)))
def g_288 (S : ST) (v1 : Int32) : ST := (if (decide (S.1 140 1 = 0)) = true then (wI S 140 0 (tz (decide (S.1 140 1 = 0)) 1)) else (wI (wI S 140 0 (tz (decide (S.1 140 1 = 0)) 1)) 140 0 (rf (tz (decide (S.1 140 1 = 0)) 1) (!(f_182 v1 0 ((S.1 141 2) - 1))) 2)))
theorem b_288_0 {d c : Nat} {R : RT} {S : ST} {v1 : Int32} (o1 : (decide (S.1 140 1 = 0)) = false → (!(decide (rf (tz (decide (S.1 140 1 = 0)) 1) (!(f_182 v1 0 ((S.1 141 2) - 1))) 2 = 0))) = false → inB ((45 + (3 * v1)) + 0) 63) (o2 : (decide (S.1 140 1 = 0)) = false → (!(decide (rf (tz (decide (S.1 140 1 = 0)) 1) (!(f_182 v1 0 ((S.1 141 2) - 1))) 2 = 0))) = false → inB ((45 + (3 * v1)) + 1) 63) (e1 : (decide (S.1 140 1 = 0)) = true → R c (.inr (some (.int 0))) (wI S 140 0 (tz (decide (S.1 140 1 = 0)) 1))) (e2 : (decide (S.1 140 1 = 0)) = false → R c (.inr (some (.int (if (!(decide (rf (tz (decide (S.1 140 1 = 0)) 1) (!(f_182 v1 0 ((S.1 141 2) - 1))) 2 = 0))) = true then 0 else f_215 (wI (wI S 140 0 (tz (decide (S.1 140 1 = 0)) 1)) 140 0 (rf (tz (decide (S.1 140 1 = 0)) 1) (!(f_182 v1 0 ((S.1 141 2) - 1))) 2)) (f_287 (wI (wI S 140 0 (tz (decide (S.1 140 1 = 0)) 1)) 140 0 (rf (tz (decide (S.1 140 1 = 0)) 1) (!(f_182 v1 0 ((S.1 141 2) - 1))) 2)) v1 0) (f_287 (wI (wI S 140 0 (tz (decide (S.1 140 1 = 0)) 1)) 140 0 (rf (tz (decide (S.1 140 1 = 0)) 1) (!(f_182 v1 0 ((S.1 141 2) - 1))) 2)) v1 1))))) (wI (wI S 140 0 (tz (decide (S.1 140 1 = 0)) 1)) 140 0 (rf (tz (decide (S.1 140 1 = 0)) 1) (!(f_182 v1 0 ((S.1 141 2) - 1))) 2))) : Go XM (d + 3) 288 c 0 [some (.ref 140), some (.int v1)] [] S R := by
  refine go_run mm_288 1 (pc' := 1) (ls' := [some (.ref 140), some (.int v1)]) (st' := [.ref 140]) (S' := S) rfl ?_
  refine go_cv mm_288 (h := 140) (As := []) (rest := []) (nl := 1) rfl XM_140 (show cvOK 288 1 247 184 0 1 11 = true by decide +kernel) rfl rfl rfl (sq_184) (KP_V ?_)
  refine go_ifb mm_288 rfl (p1 := 36) (p2 := 7) rfl (fun (hc1 : (decide (S.1 140 1 = 0)) = true) => ?_) (fun (hc1 : (decide (S.1 140 1 = 0)) = false) => ?_)
  · refine go_run mm_288 2 (pc' := 56) (ls' := [some (.ref 140), some (.int v1)]) (st' := [.int 0]) (S' := (wI S 140 0 (tz (decide (S.1 140 1 = 0)) 1))) rfl ?_
    exact go_ireturn mm_288 rfl rfl (e1 hc1)
  · refine go_run mm_288 6 (pc' := 15) (ls' := [some (.ref 140), some (.int v1)]) (st' := [.int 2, .ref 141, .int 0, .int v1, .ref 140]) (S' := (wI S 140 0 (tz (decide (S.1 140 1 = 0)) 1))) rfl ?_
    refine go_iaload mm_288 (q := 2) rfl rfl rfl (inB_lit rfl) ?_
    refine go_run mm_288 2 (pc' := 18) (ls' := [some (.ref 140), some (.int v1)]) (st' := [.int ((S.1 141 2) - 1), .int 0, .int v1, .ref 140]) (S' := (wI S 140 0 (tz (decide (S.1 140 1 = 0)) 1))) rfl ?_
    refine go_cs mm_288 (av := [.int v1, .int 0, .int ((S.1 141 2) - 1)]) (rest := [.ref 140]) (nl := 3) rfl (show csOK 288 18 148 182 3 3 = true by decide +kernel) rfl rfl rfl (sp_182) (KP_V ?_)
    have j4 : Go XM (d + 3) 288 c 29 [some (.ref 140), some (.int v1)] [.int (b2i (!(f_182 v1 0 ((S.1 141 2) - 1)))), .ref 140] (wI S 140 0 (tz (decide (S.1 140 1 = 0)) 1)) R := by
      refine go_run mm_288 1 (pc' := 30) (ls' := [some (.ref 140), some (.int v1)]) (st' := [.int 2, .int (b2i (!(f_182 v1 0 ((S.1 141 2) - 1)))), .ref 140]) (S' := (wI S 140 0 (tz (decide (S.1 140 1 = 0)) 1))) rfl ?_
      refine go_cv mm_288 (h := 140) (As := [.int (b2i (!(f_182 v1 0 ((S.1 141 2) - 1)))), .int 2]) (rest := []) (nl := 3) rfl XM_140 (show cvOK 288 30 86 183 2 3 11 = true by decide +kernel) rfl rfl rfl (sq_183) (KP_V ?_)
      have j3 : Go XM (d + 3) 288 c 56 [some (.ref 140), some (.int v1)] [.int (if (!(decide (rf (tz (decide (S.1 140 1 = 0)) 1) (!(f_182 v1 0 ((S.1 141 2) - 1))) 2 = 0))) = true then 0 else f_215 (wI (wI S 140 0 (tz (decide (S.1 140 1 = 0)) 1)) 140 0 (rf (tz (decide (S.1 140 1 = 0)) 1) (!(f_182 v1 0 ((S.1 141 2) - 1))) 2)) (f_287 (wI (wI S 140 0 (tz (decide (S.1 140 1 = 0)) 1)) 140 0 (rf (tz (decide (S.1 140 1 = 0)) 1) (!(f_182 v1 0 ((S.1 141 2) - 1))) 2)) v1 0) (f_287 (wI (wI S 140 0 (tz (decide (S.1 140 1 = 0)) 1)) 140 0 (rf (tz (decide (S.1 140 1 = 0)) 1) (!(f_182 v1 0 ((S.1 141 2) - 1))) 2)) v1 1))] (wI (wI S 140 0 (tz (decide (S.1 140 1 = 0)) 1)) 140 0 (rf (tz (decide (S.1 140 1 = 0)) 1) (!(f_182 v1 0 ((S.1 141 2) - 1))) 2)) R := by
        exact go_ireturn mm_288 rfl rfl (e2 hc1)
      refine go_ifb mm_288 rfl (p1 := 36) (p2 := 40) rfl (fun (hc2 : (!(decide (rf (tz (decide (S.1 140 1 = 0)) 1) (!(f_182 v1 0 ((S.1 141 2) - 1))) 2 = 0))) = true) => ?_) (fun (hc2 : (!(decide (rf (tz (decide (S.1 140 1 = 0)) 1) (!(f_182 v1 0 ((S.1 141 2) - 1))) 2 = 0))) = false) => ?_)
      · refine go_run mm_288 2 (pc' := 56) (ls' := [some (.ref 140), some (.int v1)]) (st' := [.int 0]) (S' := (wI (wI S 140 0 (tz (decide (S.1 140 1 = 0)) 1)) 140 0 (rf (tz (decide (S.1 140 1 = 0)) 1) (!(f_182 v1 0 ((S.1 141 2) - 1))) 2))) rfl ?_
        have e : ((if (!(decide (rf (tz (decide (S.1 140 1 = 0)) 1) (!(f_182 v1 0 ((S.1 141 2) - 1))) 2 = 0))) = true then 0 else f_215 (wI (wI S 140 0 (tz (decide (S.1 140 1 = 0)) 1)) 140 0 (rf (tz (decide (S.1 140 1 = 0)) 1) (!(f_182 v1 0 ((S.1 141 2) - 1))) 2)) (f_287 (wI (wI S 140 0 (tz (decide (S.1 140 1 = 0)) 1)) 140 0 (rf (tz (decide (S.1 140 1 = 0)) 1) (!(f_182 v1 0 ((S.1 141 2) - 1))) 2)) v1 0) (f_287 (wI (wI S 140 0 (tz (decide (S.1 140 1 = 0)) 1)) 140 0 (rf (tz (decide (S.1 140 1 = 0)) 1) (!(f_182 v1 0 ((S.1 141 2) - 1))) 2)) v1 1)) : Int32) = 0 := by simp [b2i, hc2]
        rw [e] at j3
        exact j3
      · refine go_run mm_288 4 (pc' := 44) (ls' := [some (.ref 140), some (.int v1)]) (st' := [.int 0, .int v1, .ref 140, .ref 140]) (S' := (wI (wI S 140 0 (tz (decide (S.1 140 1 = 0)) 1)) 140 0 (rf (tz (decide (S.1 140 1 = 0)) 1) (!(f_182 v1 0 ((S.1 141 2) - 1))) 2))) rfl ?_
        refine go_cv mm_288 (h := 140) (As := [.int v1, .int 0]) (rest := [.ref 140]) (nl := 3) rfl XM_140 (show cvOK 288 44 365 287 2 3 11 = true by decide +kernel) rfl rfl rfl (sp_287 (o1 hc1 hc2)) (KP_V ?_)
        refine go_run mm_288 3 (pc' := 50) (ls' := [some (.ref 140), some (.int v1)]) (st' := [.int 1, .int v1, .ref 140, .int (f_287 (wI (wI S 140 0 (tz (decide (S.1 140 1 = 0)) 1)) 140 0 (rf (tz (decide (S.1 140 1 = 0)) 1) (!(f_182 v1 0 ((S.1 141 2) - 1))) 2)) v1 0), .ref 140]) (S' := (wI (wI S 140 0 (tz (decide (S.1 140 1 = 0)) 1)) 140 0 (rf (tz (decide (S.1 140 1 = 0)) 1) (!(f_182 v1 0 ((S.1 141 2) - 1))) 2))) rfl ?_
        refine go_cv mm_288 (h := 140) (As := [.int v1, .int 1]) (rest := [.int (f_287 (wI (wI S 140 0 (tz (decide (S.1 140 1 = 0)) 1)) 140 0 (rf (tz (decide (S.1 140 1 = 0)) 1) (!(f_182 v1 0 ((S.1 141 2) - 1))) 2)) v1 0), .ref 140]) (nl := 3) rfl XM_140 (show cvOK 288 50 365 287 2 3 11 = true by decide +kernel) rfl rfl rfl (sp_287 (o2 hc1 hc2)) (KP_V ?_)
        refine go_cv mm_288 (h := 140) (As := [.int (f_287 (wI (wI S 140 0 (tz (decide (S.1 140 1 = 0)) 1)) 140 0 (rf (tz (decide (S.1 140 1 = 0)) 1) (!(f_182 v1 0 ((S.1 141 2) - 1))) 2)) v1 0), .int (f_287 (wI (wI S 140 0 (tz (decide (S.1 140 1 = 0)) 1)) 140 0 (rf (tz (decide (S.1 140 1 = 0)) 1) (!(f_182 v1 0 ((S.1 141 2) - 1))) 2)) v1 1)]) (rest := []) (nl := 3) rfl XM_140 (show cvOK 288 53 257 215 2 3 11 = true by decide +kernel) rfl rfl rfl (sq_215) (KP_V ?_)
        have e : ((if (!(decide (rf (tz (decide (S.1 140 1 = 0)) 1) (!(f_182 v1 0 ((S.1 141 2) - 1))) 2 = 0))) = true then 0 else f_215 (wI (wI S 140 0 (tz (decide (S.1 140 1 = 0)) 1)) 140 0 (rf (tz (decide (S.1 140 1 = 0)) 1) (!(f_182 v1 0 ((S.1 141 2) - 1))) 2)) (f_287 (wI (wI S 140 0 (tz (decide (S.1 140 1 = 0)) 1)) 140 0 (rf (tz (decide (S.1 140 1 = 0)) 1) (!(f_182 v1 0 ((S.1 141 2) - 1))) 2)) v1 0) (f_287 (wI (wI S 140 0 (tz (decide (S.1 140 1 = 0)) 1)) 140 0 (rf (tz (decide (S.1 140 1 = 0)) 1) (!(f_182 v1 0 ((S.1 141 2) - 1))) 2)) v1 1)) : Int32) = f_215 (wI (wI S 140 0 (tz (decide (S.1 140 1 = 0)) 1)) 140 0 (rf (tz (decide (S.1 140 1 = 0)) 1) (!(f_182 v1 0 ((S.1 141 2) - 1))) 2)) (f_287 (wI (wI S 140 0 (tz (decide (S.1 140 1 = 0)) 1)) 140 0 (rf (tz (decide (S.1 140 1 = 0)) 1) (!(f_182 v1 0 ((S.1 141 2) - 1))) 2)) v1 0) (f_287 (wI (wI S 140 0 (tz (decide (S.1 140 1 = 0)) 1)) 140 0 (rf (tz (decide (S.1 140 1 = 0)) 1) (!(f_182 v1 0 ((S.1 141 2) - 1))) 2)) v1 1) := by simp [b2i, hc2]
        rw [e] at j3
        exact j3
    refine go_ifb mm_288 rfl (p1 := 28) (p2 := 24) rfl (fun (hc2 : (f_182 v1 0 ((S.1 141 2) - 1)) = true) => ?_) (fun (hc2 : (f_182 v1 0 ((S.1 141 2) - 1)) = false) => ?_)
    · refine go_run mm_288 1 (pc' := 29) (ls' := [some (.ref 140), some (.int v1)]) (st' := [.int 0, .ref 140]) (S' := (wI S 140 0 (tz (decide (S.1 140 1 = 0)) 1))) rfl ?_
      have e : ((b2i (!(f_182 v1 0 ((S.1 141 2) - 1)))) : Int32) = 0 := by simp [b2i, hc2]
      rw [e] at j4
      exact j4
    · refine go_run mm_288 2 (pc' := 29) (ls' := [some (.ref 140), some (.int v1)]) (st' := [.int 1, .ref 140]) (S' := (wI S 140 0 (tz (decide (S.1 140 1 = 0)) 1))) rfl ?_
      have e : ((b2i (!(f_182 v1 0 ((S.1 141 2) - 1)))) : Int32) = 1 := by simp [b2i, hc2]
      rw [e] at j4
      exact j4
theorem sp_288 {d : Nat} {S : ST} {v1 : Int32} (o1 : (decide (S.1 140 1 = 0)) = false → (!(decide (rf (tz (decide (S.1 140 1 = 0)) 1) (!(f_182 v1 0 ((S.1 141 2) - 1))) 2 = 0))) = false → inB ((45 + (3 * v1)) + 0) 63) (o2 : (decide (S.1 140 1 = 0)) = false → (!(decide (rf (tz (decide (S.1 140 1 = 0)) 1) (!(f_182 v1 0 ((S.1 141 2) - 1))) 2 = 0))) = false → inB ((45 + (3 * v1)) + 1) 63) : Cal XM (d + 3) 288 [.ref 140, .int v1] S (RV (some (.int (f_288 S v1))) (g_288 S v1)) := by
  refine cal_go 0 rfl (b_288_0 o1 o2 ?_ ?_)
  · intro hc1
    refine ⟨rfl, ?_, ?_⟩ <;> simp [f_288, g_288, b2i, hc1]
  · intro hc1
    refine ⟨rfl, ?_, ?_⟩ <;> simp [f_288, g_288, b2i, hc1]
theorem mm_280 : mtG 280 = some (mi_280, 12, ft_280) := rfl
theorem b_280_0 {d c : Nat} {R : RT} {S : ST} {v1 : Int32} (e1 : (nb S v1 (S.1 141 1 - 1)) = true → R c (.inr (some (.long 0))) (wI S 140 0 (tb S v1 (S.1 141 1 - 1)))) (e2 : (nb S v1 (S.1 141 1 - 1)) = false → Go XM (d + 8) 280 c 11 [some (.ref 140), some (.int v1)] [.ref 140] (wI S 140 0 (tb S v1 (S.1 141 1 - 1))) R) : Go XM (d + 8) 280 c 0 [some (.ref 140), some (.int v1)] [] S R := by
  refine go_run mm_280 2 (pc' := 2) (ls' := [some (.ref 140), some (.int v1)]) (st' := [.int v1, .ref 140]) (S' := S) rfl ?_
  refine go_cv mm_280 (h := 140) (As := [.int v1]) (rest := []) (nl := 2) rfl XM_140 (show cvOK 280 2 356 227 1 2 11 = true by decide +kernel) rfl rfl rfl (sq_227) (KP_V ?_)
  refine go_ifb mm_280 rfl (p1 := 8) (p2 := 10) rfl (fun (hc1 : (nb S v1 (S.1 141 1 - 1)) = true) => ?_) (fun (hc1 : (nb S v1 (S.1 141 1 - 1)) = false) => ?_)
  · refine go_run mm_280 1 (pc' := 9) (ls' := [some (.ref 140), some (.int v1)]) (st' := [.long 0]) (S' := (wI S 140 0 (tb S v1 (S.1 141 1 - 1)))) rfl ?_
    exact go_lreturn mm_280 rfl rfl (e1 hc1)
  · refine go_run mm_280 1 (pc' := 11) (ls' := [some (.ref 140), some (.int v1)]) (st' := [.ref 140]) (S' := (wI S 140 0 (tb S v1 (S.1 141 1 - 1)))) rfl ?_
    exact e2 hc1
theorem b_280_14 {d c : Nat} {R : RT} {S : ST} {v1 : Int32} (o1 : GI S v1) (e1 : R c (.inr (some (.long (f_276 S v1)))) S) : Go XM (d + 8) 280 c 14 [some (.ref 140), some (.int v1)] [] S R := by
  refine go_run mm_280 2 (pc' := 16) (ls' := [some (.ref 140), some (.int v1)]) (st' := [.int v1, .ref 140]) (S' := S) rfl ?_
  refine go_cv mm_280 (h := 140) (As := [.int v1]) (rest := []) (nl := 2) rfl XM_140 (show cvOK 280 16 353 276 1 2 11 = true by decide +kernel) rfl rfl rfl (sq_276 (o1)) (KP_V ?_)
  exact go_lreturn mm_280 rfl rfl (e1)
theorem mm_282 : mtG 282 = some (mi_282, 12, ft_282) := rfl
theorem b_282_0 {d c : Nat} {R : RT} {S : ST} {v1 : Int32} (e1 : (nb S v1 (S.1 140 20 - 1)) = true → R c (.inr (some (.int 0))) (wI S 140 0 (tb S v1 (S.1 140 20 - 1)))) (e2 : (nb S v1 (S.1 140 20 - 1)) = false → Go XM (d + 8) 282 c 11 [some (.ref 140), some (.int v1), none, none] [.ref 140] (wI S 140 0 (tb S v1 (S.1 140 20 - 1))) R) : Go XM (d + 8) 282 c 0 [some (.ref 140), some (.int v1), none, none] [] S R := by
  refine go_run mm_282 2 (pc' := 2) (ls' := [some (.ref 140), some (.int v1), none, none]) (st' := [.int v1, .ref 140]) (S' := S) rfl ?_
  refine go_cv mm_282 (h := 140) (As := [.int v1]) (rest := []) (nl := 2) rfl XM_140 (show cvOK 282 2 254 226 1 2 11 = true by decide +kernel) rfl rfl rfl (sq_226) (KP_V ?_)
  refine go_ifb mm_282 rfl (p1 := 8) (p2 := 10) rfl (fun (hc1 : (nb S v1 (S.1 140 20 - 1)) = true) => ?_) (fun (hc1 : (nb S v1 (S.1 140 20 - 1)) = false) => ?_)
  · refine go_run mm_282 1 (pc' := 9) (ls' := [some (.ref 140), some (.int v1), none, none]) (st' := [.int 0]) (S' := (wI S 140 0 (tb S v1 (S.1 140 20 - 1)))) rfl ?_
    exact go_ireturn mm_282 rfl rfl (e1 hc1)
  · refine go_run mm_282 1 (pc' := 11) (ls' := [some (.ref 140), some (.int v1), none, none]) (st' := [.ref 140]) (S' := (wI S 140 0 (tb S v1 (S.1 140 20 - 1)))) rfl ?_
    exact e2 hc1
theorem b_282_14 {d c : Nat} {R : RT} {S : ST} {v1 : Int32} (e1 : Go XM (d + 8) 282 c 18 [some (.ref 140), some (.int v1), some (.int 0), some (.int 0)] [] S R) : Go XM (d + 8) 282 c 14 [some (.ref 140), some (.int v1), none, none] [] S R := by
  refine go_run mm_282 4 (pc' := 18) (ls' := [some (.ref 140), some (.int v1), some (.int 0), some (.int 0)]) (st' := []) (S' := S) rfl ?_
  exact e1
theorem b_282_18 {d c : Nat} {R : RT} {S : ST} {v1 : Int32} {v2 : Int32} {v3 : Int32} (o1 : v3 < (S.1 141 1) → GI S v3) (e1 : v3 < (S.1 141 1) → Go XM (d + 8) 282 c 18 [some (.ref 140), some (.int v1), some (.int (v2 + (b2i (f_217 (f_276 S v3) v1)))), some (.int (v3 + 1))] [] S R) (e2 : ¬ v3 < (S.1 141 1) → R c (.inr (some (.int v2))) S) : Go XM (d + 8) 282 c 18 [some (.ref 140), some (.int v1), some (.int v2), some (.int v3)] [] S R := by
  refine go_run mm_282 4 (pc' := 24) (ls' := [some (.ref 140), some (.int v1), some (.int v2), some (.int v3)]) (st' := [.int 1, .ref 141, .int v3]) (S' := S) rfl ?_
  refine go_iaload mm_282 (q := 1) rfl rfl rfl (inB_lit rfl) ?_
  refine go_if2 mm_282 rfl (p1 := 28) (p2 := 54) rfl (fun (hc1 : v3 < (S.1 141 1)) => ?_) (fun (hc1 : ¬ v3 < (S.1 141 1)) => ?_)
  · refine go_run mm_282 3 (pc' := 31) (ls' := [some (.ref 140), some (.int v1), some (.int v2), some (.int v3)]) (st' := [.int v3, .ref 140, .int v2]) (S' := S) rfl ?_
    refine go_cv mm_282 (h := 140) (As := [.int v3]) (rest := [.int v2]) (nl := 2) rfl XM_140 (show cvOK 282 31 353 276 1 2 11 = true by decide +kernel) rfl rfl rfl (sq_276 (o1 hc1)) (KP_V ?_)
    refine go_run mm_282 1 (pc' := 35) (ls' := [some (.ref 140), some (.int v1), some (.int v2), some (.int v3)]) (st' := [.int v1, .long (f_276 S v3), .int v2]) (S' := S) rfl ?_
    refine go_cs mm_282 (av := [.long (f_276 S v3), .int v1]) (rest := [.int v2]) (nl := 3) rfl (show csOK 282 35 282 217 2 3 = true by decide +kernel) rfl rfl rfl (sp_217) (KP_V ?_)
    have j1 : Go XM (d + 8) 282 c 46 [some (.ref 140), some (.int v1), some (.int v2), some (.int v3)] [.int (b2i (f_217 (f_276 S v3) v1)), .int v2] S R := by
      refine go_run mm_282 4 (pc' := 18) (ls' := [some (.ref 140), some (.int v1), some (.int (v2 + (b2i (f_217 (f_276 S v3) v1)))), some (.int (v3 + 1))]) (st' := []) (S' := S) rfl ?_
      exact e1 hc1
    refine go_ifb mm_282 rfl (p1 := 41) (p2 := 45) rfl (fun (hc2 : (f_217 (f_276 S v3) v1) = true) => ?_) (fun (hc2 : (f_217 (f_276 S v3) v1) = false) => ?_)
    · refine go_run mm_282 2 (pc' := 46) (ls' := [some (.ref 140), some (.int v1), some (.int v2), some (.int v3)]) (st' := [.int 1, .int v2]) (S' := S) rfl ?_
      have e : ((b2i (f_217 (f_276 S v3) v1)) : Int32) = 1 := by simp [b2i, hc2]
      rw [e] at j1
      exact j1
    · refine go_run mm_282 1 (pc' := 46) (ls' := [some (.ref 140), some (.int v1), some (.int v2), some (.int v3)]) (st' := [.int 0, .int v2]) (S' := S) rfl ?_
      have e : ((b2i (f_217 (f_276 S v3) v1)) : Int32) = 0 := by simp [b2i, hc2]
      rw [e] at j1
      exact j1
  · refine go_run mm_282 1 (pc' := 55) (ls' := [some (.ref 140), some (.int v1), some (.int v2), some (.int v3)]) (st' := [.int v2]) (S' := S) rfl ?_
    exact go_ireturn mm_282 rfl rfl (e2 hc1)
theorem mm_283 : mtG 283 = some (mi_283, 12, ft_283) := rfl
theorem b_283_0 {d c : Nat} {R : RT} {S : ST} (e1 : (decide (S.1 140 1 = 0)) = true → R c (.inr (some (.int 0))) (wI S 140 0 (tz (decide (S.1 140 1 = 0)) 1))) (e2 : (decide (S.1 140 1 = 0)) = false → Go XM (d + 8) 283 c 13 [some (.ref 140), some (.int 0), some (.int 0)] [] (wI S 140 0 (tz (decide (S.1 140 1 = 0)) 1)) R) : Go XM (d + 8) 283 c 0 [some (.ref 140), none, none] [] S R := by
  refine go_run mm_283 1 (pc' := 1) (ls' := [some (.ref 140), none, none]) (st' := [.ref 140]) (S' := S) rfl ?_
  refine go_cv mm_283 (h := 140) (As := []) (rest := []) (nl := 1) rfl XM_140 (show cvOK 283 1 247 184 0 1 11 = true by decide +kernel) rfl rfl rfl (sq_184) (KP_V ?_)
  refine go_ifb mm_283 rfl (p1 := 7) (p2 := 9) rfl (fun (hc1 : (decide (S.1 140 1 = 0)) = true) => ?_) (fun (hc1 : (decide (S.1 140 1 = 0)) = false) => ?_)
  · refine go_run mm_283 1 (pc' := 8) (ls' := [some (.ref 140), none, none]) (st' := [.int 0]) (S' := (wI S 140 0 (tz (decide (S.1 140 1 = 0)) 1))) rfl ?_
    exact go_ireturn mm_283 rfl rfl (e1 hc1)
  · refine go_run mm_283 4 (pc' := 13) (ls' := [some (.ref 140), some (.int 0), some (.int 0)]) (st' := []) (S' := (wI S 140 0 (tz (decide (S.1 140 1 = 0)) 1))) rfl ?_
    exact e2 hc1
theorem b_283_13 {d c : Nat} {R : RT} {S : ST} {v1 : Int32} {v2 : Int32} (e1 : v2 < (S.1 141 1) → Go XM (d + 8) 283 c 26 [some (.ref 140), some (.int v1), some (.int v2)] [.int v2, .ref 140, .int v1] S R) (e2 : ¬ v2 < (S.1 141 1) → R c (.inr (some (.int v1))) S) : Go XM (d + 8) 283 c 13 [some (.ref 140), some (.int v1), some (.int v2)] [] S R := by
  refine go_run mm_283 4 (pc' := 19) (ls' := [some (.ref 140), some (.int v1), some (.int v2)]) (st' := [.int 1, .ref 141, .int v2]) (S' := S) rfl ?_
  refine go_iaload mm_283 (q := 1) rfl rfl rfl (inB_lit rfl) ?_
  refine go_if2 mm_283 rfl (p1 := 23) (p2 := 53) rfl (fun (hc1 : v2 < (S.1 141 1)) => ?_) (fun (hc1 : ¬ v2 < (S.1 141 1)) => ?_)
  · refine go_run mm_283 3 (pc' := 26) (ls' := [some (.ref 140), some (.int v1), some (.int v2)]) (st' := [.int v2, .ref 140, .int v1]) (S' := S) rfl ?_
    exact e1 hc1
  · refine go_run mm_283 1 (pc' := 54) (ls' := [some (.ref 140), some (.int v1), some (.int v2)]) (st' := [.int v1]) (S' := S) rfl ?_
    exact go_ireturn mm_283 rfl rfl (e2 hc1)
theorem b_283_29 {d c : Nat} {R : RT} {S : ST} {v1 : Int32} {v2 : Int32} {w0 : Int32} {w1 : Int64} (e1 : Go XM (d + 8) 283 c 31 [some (.ref 140), some (.int v1), some (.int v2)] [.int (-1), .ref 140, .long w1, .int w0] S R) : Go XM (d + 8) 283 c 29 [some (.ref 140), some (.int v1), some (.int v2)] [.long w1, .int w0] S R := by
  refine go_run mm_283 2 (pc' := 31) (ls' := [some (.ref 140), some (.int v1), some (.int v2)]) (st' := [.int (-1), .ref 140, .long w1, .int w0]) (S' := S) rfl ?_
  exact e1
theorem b_283_34 {d c : Nat} {R : RT} {S : ST} {v1 : Int32} {v2 : Int32} {w0 : Int32} {w1 : Int64} {w2 : Int64} (e1 : Go XM (d + 8) 283 c 13 [some (.ref 140), some (.int (w0 ||| (if w1 = w2 then 1 <<< (v2 &&& 31) else 0))), some (.int (v2 + 1))] [] S R) : Go XM (d + 8) 283 c 34 [some (.ref 140), some (.int v1), some (.int v2)] [.long w2, .long w1, .int w0] S R := by
  have j1 : Go XM (d + 8) 283 c 45 [some (.ref 140), some (.int v1), some (.int v2)] [.int (if w1 = w2 then 1 <<< (v2 &&& 31) else 0), .int w0] S R := by
    refine go_run mm_283 4 (pc' := 13) (ls' := [some (.ref 140), some (.int (w0 ||| (if w1 = w2 then 1 <<< (v2 &&& 31) else 0))), some (.int (v2 + 1))]) (st' := []) (S' := S) rfl ?_
    exact e1
  refine go_lif mm_283 rfl rfl (p1 := 38) (p2 := 44) rfl (fun (hc1 : w1 = w2) => ?_) (fun (hc1 : ¬ w1 = w2) => ?_)
  · refine go_run mm_283 4 (pc' := 45) (ls' := [some (.ref 140), some (.int v1), some (.int v2)]) (st' := [.int (1 <<< (v2 &&& 31)), .int w0]) (S' := S) rfl ?_
    have e : ((if w1 = w2 then 1 <<< (v2 &&& 31) else 0) : Int32) = 1 <<< (v2 &&& 31) := by simp [b2i, hc1]
    rw [e] at j1
    exact j1
  · refine go_run mm_283 1 (pc' := 45) (ls' := [some (.ref 140), some (.int v1), some (.int v2)]) (st' := [.int 0, .int w0]) (S' := S) rfl ?_
    have e : ((if w1 = w2 then 1 <<< (v2 &&& 31) else 0) : Int32) = 0 := by simp [b2i, hc1]
    rw [e] at j1
    exact j1
theorem mm_285 : mtG 285 = some (mi_285, 12, ft_285) := rfl
theorem b_285_0 {d c : Nat} {R : RT} {S : ST} (e1 : (decide (S.1 140 1 = 0)) = true → R c (.inr (some (.int 0))) (wI S 140 0 (tz (decide (S.1 140 1 = 0)) 1))) (e2 : (decide (S.1 140 1 = 0)) = false → Go XM (d + 8) 285 c 18 [some (.ref 140)] [.int (-1), .ref 140, .long (f_216 (wI S 140 0 (tz (decide (S.1 140 1 = 0)) 1))), .ref 140] (wI S 140 0 (tz (decide (S.1 140 1 = 0)) 1)) R) : Go XM (d + 8) 285 c 0 [some (.ref 140)] [] S R := by
  refine go_run mm_285 1 (pc' := 1) (ls' := [some (.ref 140)]) (st' := [.ref 140]) (S' := S) rfl ?_
  refine go_cv mm_285 (h := 140) (As := []) (rest := []) (nl := 1) rfl XM_140 (show cvOK 285 1 247 184 0 1 11 = true by decide +kernel) rfl rfl rfl (sq_184) (KP_V ?_)
  refine go_ifb mm_285 rfl (p1 := 7) (p2 := 11) rfl (fun (hc1 : (decide (S.1 140 1 = 0)) = true) => ?_) (fun (hc1 : (decide (S.1 140 1 = 0)) = false) => ?_)
  · refine go_run mm_285 2 (pc' := 29) (ls' := [some (.ref 140)]) (st' := [.int 0]) (S' := (wI S 140 0 (tz (decide (S.1 140 1 = 0)) 1))) rfl ?_
    exact go_ireturn mm_285 rfl rfl (e1 hc1)
  · refine go_run mm_285 2 (pc' := 13) (ls' := [some (.ref 140)]) (st' := [.ref 140, .ref 140]) (S' := (wI S 140 0 (tz (decide (S.1 140 1 = 0)) 1))) rfl ?_
    refine go_cv mm_285 (h := 140) (As := []) (rest := [.ref 140]) (nl := 1) rfl XM_140 (show cvOK 285 13 286 216 0 1 11 = true by decide +kernel) rfl rfl rfl (sp_216) (KP_V ?_)
    refine go_run mm_285 2 (pc' := 18) (ls' := [some (.ref 140)]) (st' := [.int (-1), .ref 140, .long (f_216 (wI S 140 0 (tz (decide (S.1 140 1 = 0)) 1))), .ref 140]) (S' := (wI S 140 0 (tz (decide (S.1 140 1 = 0)) 1))) rfl ?_
    exact e2 hc1
theorem b_285_21 {d c : Nat} {R : RT} {S : ST} {w1 : Int64} {w2 : Int64} (e1 : Go XM (d + 8) 285 c 26 [some (.ref 140)] [.long (w1 &&& (w2 ^^^ (-1))), .ref 140] S R) : Go XM (d + 8) 285 c 21 [some (.ref 140)] [.long w2, .long w1, .ref 140] S R := by
  refine go_run mm_285 3 (pc' := 26) (ls' := [some (.ref 140)]) (st' := [.long (w1 &&& (w2 ^^^ (-1))), .ref 140]) (S' := S) rfl ?_
  exact e1
theorem b_285_29 {d c : Nat} {R : RT} {S : ST} {w0 : Int32} (e1 : R c (.inr (some (.int w0))) S) : Go XM (d + 8) 285 c 29 [some (.ref 140)] [.int w0] S R := by
  exact go_ireturn mm_285 rfl rfl (e1)
theorem mm_281 : mtG 281 = some (mi_281, 12, ft_281) := rfl
theorem b_281_0 {d c : Nat} {R : RT} {S : ST} (e1 : (decide (S.1 140 1 = 0)) = true → R c (.inr (some (.long 0))) (wI S 140 0 (tz (decide (S.1 140 1 = 0)) 1))) (e2 : (decide (S.1 140 1 = 0)) = false → Go XM (d + 8) 281 c 17 [some (.ref 140)] [.int (-1), .ref 140, .long (f_216 (wI S 140 0 (tz (decide (S.1 140 1 = 0)) 1)))] (wI S 140 0 (tz (decide (S.1 140 1 = 0)) 1)) R) : Go XM (d + 8) 281 c 0 [some (.ref 140)] [] S R := by
  refine go_run mm_281 1 (pc' := 1) (ls' := [some (.ref 140)]) (st' := [.ref 140]) (S' := S) rfl ?_
  refine go_cv mm_281 (h := 140) (As := []) (rest := []) (nl := 1) rfl XM_140 (show cvOK 281 1 247 184 0 1 11 = true by decide +kernel) rfl rfl rfl (sq_184) (KP_V ?_)
  refine go_ifb mm_281 rfl (p1 := 7) (p2 := 11) rfl (fun (hc1 : (decide (S.1 140 1 = 0)) = true) => ?_) (fun (hc1 : (decide (S.1 140 1 = 0)) = false) => ?_)
  · refine go_run mm_281 2 (pc' := 25) (ls' := [some (.ref 140)]) (st' := [.long 0]) (S' := (wI S 140 0 (tz (decide (S.1 140 1 = 0)) 1))) rfl ?_
    exact go_lreturn mm_281 rfl rfl (e1 hc1)
  · refine go_run mm_281 1 (pc' := 12) (ls' := [some (.ref 140)]) (st' := [.ref 140]) (S' := (wI S 140 0 (tz (decide (S.1 140 1 = 0)) 1))) rfl ?_
    refine go_cv mm_281 (h := 140) (As := []) (rest := []) (nl := 1) rfl XM_140 (show cvOK 281 12 286 216 0 1 11 = true by decide +kernel) rfl rfl rfl (sp_216) (KP_V ?_)
    refine go_run mm_281 2 (pc' := 17) (ls' := [some (.ref 140)]) (st' := [.int (-1), .ref 140, .long (f_216 (wI S 140 0 (tz (decide (S.1 140 1 = 0)) 1)))]) (S' := (wI S 140 0 (tz (decide (S.1 140 1 = 0)) 1))) rfl ?_
    exact e2 hc1
theorem b_281_20 {d c : Nat} {R : RT} {S : ST} {w0 : Int64} {w1 : Int64} (e1 : R c (.inr (some (.long (w0 &&& (w1 ^^^ (-1)))))) S) : Go XM (d + 8) 281 c 20 [some (.ref 140)] [.long w1, .long w0] S R := by
  refine go_run mm_281 3 (pc' := 25) (ls' := [some (.ref 140)]) (st' := [.long (w0 &&& (w1 ^^^ (-1)))]) (S' := S) rfl ?_
  exact go_lreturn mm_281 rfl rfl (e1)
theorem mm_284 : mtG 284 = some (mi_284, 12, ft_284) := rfl
theorem b_284_0 {d c : Nat} {R : RT} {S : ST} {v1 : Int64} (e1 : Go XM (d + 2) 284 c 5 [some (.ref 140), some (.long v1), none, some (.int 0), some (.int 1)] [] S R) : Go XM (d + 2) 284 c 0 [some (.ref 140), some (.long v1), none, none, none] [] S R := by
  refine go_run mm_284 4 (pc' := 5) (ls' := [some (.ref 140), some (.long v1), none, some (.int 0), some (.int 1)]) (st' := []) (S' := S) rfl ?_
  exact e1
theorem b_284_5 {d c : Nat} {R : RT} {S : ST} {v1 : Int64} {v3 : Int32} {v4 : Int32} (o1 : v4 < (S.1 140 20) → inB v4 64) (o2 : v4 < (S.1 140 20) → inB v3 64) (e1 : v4 < (S.1 140 20) → Go XM (d + 2) 284 c 5 [some (.ref 140), some (.long v1), none, some (.int (if (f_218 ((rl S 153 v3) &&& v1)) < (f_218 ((rl S 153 v4) &&& v1)) then v4 else v3)), some (.int (v4 + 1))] [] S R) (e2 : ¬ v4 < (S.1 140 20) → R c (.inr (some (.int v3))) S) : Go XM (d + 2) 284 c 5 [some (.ref 140), some (.long v1), none, some (.int v3), some (.int v4)] [] S R := by
  refine go_run mm_284 3 (pc' := 11) (ls' := [some (.ref 140), some (.long v1), none, some (.int v3), some (.int v4)]) (st' := [.int (S.1 140 20), .int v4]) (S' := S) rfl ?_
  refine go_if2 mm_284 rfl (p1 := 14) (p2 := 53) rfl (fun (hc1 : v4 < (S.1 140 20)) => ?_) (fun (hc1 : ¬ v4 < (S.1 140 20)) => ?_)
  · refine go_run mm_284 3 (pc' := 20) (ls' := [some (.ref 140), some (.long v1), none, some (.int v3), some (.int v4)]) (st' := [.int v4, .ref 153]) (S' := S) rfl ?_
    refine go_laload mm_284 (q := (Int32.toNatClampNeg v4)) rfl rfl rfl (o1 hc1) ?_
    refine go_run mm_284 2 (pc' := 23) (ls' := [some (.ref 140), some (.long v1), none, some (.int v3), some (.int v4)]) (st' := [.long ((rl S 153 v4) &&& v1)]) (S' := S) rfl ?_
    refine go_cs mm_284 (av := [.long ((rl S 153 v4) &&& v1)]) (rest := []) (nl := 5) rfl (show csOK 284 23 313 218 1 5 = true by decide +kernel) rfl rfl rfl (sq_218) (KP_V ?_)
    refine go_run mm_284 3 (pc' := 31) (ls' := [some (.ref 140), some (.long v1), none, some (.int v3), some (.int v4)]) (st' := [.int v3, .ref 153, .int (f_218 ((rl S 153 v4) &&& v1))]) (S' := S) rfl ?_
    refine go_laload mm_284 (q := (Int32.toNatClampNeg v3)) rfl rfl rfl (o2 hc1) ?_
    refine go_run mm_284 2 (pc' := 34) (ls' := [some (.ref 140), some (.long v1), none, some (.int v3), some (.int v4)]) (st' := [.long ((rl S 153 v3) &&& v1), .int (f_218 ((rl S 153 v4) &&& v1))]) (S' := S) rfl ?_
    refine go_cs mm_284 (av := [.long ((rl S 153 v3) &&& v1)]) (rest := [.int (f_218 ((rl S 153 v4) &&& v1))]) (nl := 5) rfl (show csOK 284 34 313 218 1 5 = true by decide +kernel) rfl rfl rfl (sq_218) (KP_V ?_)
    have j1 : Go XM (d + 2) 284 c 46 [some (.ref 140), some (.long v1), none, some (.int v3), some (.int v4)] [.int (if (f_218 ((rl S 153 v3) &&& v1)) < (f_218 ((rl S 153 v4) &&& v1)) then v4 else v3)] S R := by
      refine go_run mm_284 3 (pc' := 5) (ls' := [some (.ref 140), some (.long v1), none, some (.int (if (f_218 ((rl S 153 v3) &&& v1)) < (f_218 ((rl S 153 v4) &&& v1)) then v4 else v3)), some (.int (v4 + 1))]) (st' := []) (S' := S) rfl ?_
      exact e1 hc1
    refine go_if2 mm_284 rfl (p1 := 40) (p2 := 45) rfl (fun (hc2 : (f_218 ((rl S 153 v3) &&& v1)) < (f_218 ((rl S 153 v4) &&& v1))) => ?_) (fun (hc2 : ¬ (f_218 ((rl S 153 v3) &&& v1)) < (f_218 ((rl S 153 v4) &&& v1))) => ?_)
    · refine go_run mm_284 2 (pc' := 46) (ls' := [some (.ref 140), some (.long v1), none, some (.int v3), some (.int v4)]) (st' := [.int v4]) (S' := S) rfl ?_
      have e : ((if (f_218 ((rl S 153 v3) &&& v1)) < (f_218 ((rl S 153 v4) &&& v1)) then v4 else v3) : Int32) = v4 := by simp [b2i, hc2]
      rw [e] at j1
      exact j1
    · refine go_run mm_284 1 (pc' := 46) (ls' := [some (.ref 140), some (.long v1), none, some (.int v3), some (.int v4)]) (st' := [.int v3]) (S' := S) rfl ?_
      have e : ((if (f_218 ((rl S 153 v3) &&& v1)) < (f_218 ((rl S 153 v4) &&& v1)) then v4 else v3) : Int32) = v3 := by simp [b2i, hc2]
      rw [e] at j1
      exact j1
  · refine go_run mm_284 1 (pc' := 54) (ls' := [some (.ref 140), some (.long v1), none, some (.int v3), some (.int v4)]) (st' := [.int v3]) (S' := S) rfl ?_
    exact go_ireturn mm_284 rfl rfl (e2 hc1)
section W1
variable {d : Nat} {S : ST}
theorem q_278 (M : MOK S) {v1 : Int32} : Cal XM (d + 3) 278 [.ref 140, .int v1] S (RQi S) := by
  refine (sp_278 (fun h => ?_) (fun h => ?_)).V_i (Qq_t M _)
  · obtain ⟨a1, a2, a3⟩ := nb_f h
    obtain ⟨g, hg, rfl⟩ := GI_lt (gd_GI ⟨M, a1⟩ a2 a3)
    exact in274 (k := 0) hg (by omega)
  · obtain ⟨a1, a2, a3⟩ := nb_f h
    obtain ⟨g, hg, rfl⟩ := GI_lt (gd_GI ⟨M, a1⟩ a2 a3)
    exact in274 (k := 1) hg (by omega)
theorem q_279 (M : MOK S) {v1 : Int32} : Cal XM (d + 3) 279 [.ref 140, .int v1] S (RQi S) := by
  refine (sp_279 (fun h => ?_)).V_i (Qq_t M _)
  obtain ⟨a1, a2, a3⟩ := nb_f h
  obtain ⟨g, hg, rfl⟩ := GI_lt (gd_GI ⟨M, a1⟩ a2 a3)
  exact in274 (k := 2) hg (by omega)
theorem tr_ix {S : ST} (h : Th S 141) {v : Int32} (h0 : 0 ≤ v.toInt) (h1 : v.toInt ≤ (S.1 141 2 - 1).toInt) : ∃ t, v = nJ t ∧ t < 6 := by
  obtain ⟨-, T, t1, t2, -⟩ := h
  rw [t1] at h1
  obtain ⟨i, a, b⟩ := ix_of (c := 1) (by omega) (by omega) (by omega) h0 h1
  exact ⟨i, a, by omega⟩
theorem q_288 (M : MOK S) {v1 : Int32} : Cal XM (d + 3) 288 [.ref 140, .int v1] S (RQi S) := by
  have hq : Qq S (g_288 S v1) := by
    unfold g_288
    split
    · exact Qq_t M _
    · exact Qq_tt M _ _
  refine (sp_288 (fun h1 h2 => ?_) (fun h1 h2 => ?_)).V_i hq
  · obtain ⟨b1, b2⟩ := in_f (rf_f h2 (by decide))
    obtain ⟨t, rfl, ht⟩ := tr_ix (M.2.1 (np_f h1)).2 b1 b2
    exact in287 (k := 0) ht (by omega)
  · obtain ⟨b1, b2⟩ := in_f (rf_f h2 (by decide))
    obtain ⟨t, rfl, ht⟩ := tr_ix (M.2.1 (np_f h1)).2 b1 b2
    exact in287 (k := 1) ht (by omega)
theorem GI_q {S S' : ST} (q : Qq S S') {v : Int32} (h : GI S v) : GI S' v := by
  obtain ⟨hL, g, a, b, c⟩ := h
  have e := q.2.row (a := 141) (by decide) (by decide)
  refine ⟨(Ld_fm hL q.2 (by decide) (by decide) (by decide) (by decide) (by decide) (by decide)).1, g, a, b, ?_⟩
  rw [rL_r2 e, e]
  exact c
theorem q_280 (M : MOK S) {v1 : Int32} : Cal XM (d + 8) 280 [.ref 140, .int v1] S (RQl S) := by
  refine cal_go 0 rfl (b_280_0 (fun _ => Ql_t M) (fun h1 => ?_))
  obtain ⟨a1, a2, a3⟩ := nb_f h1
  have hG := gd_GI ⟨M, a1⟩ a2 a3
  have qt := Qq_t M (tb S v1 (S.1 141 1 - 1))
  refine go_cv mm_280 (h := 140) (As := []) (rest := []) (nl := 3) rfl XM_140 (show cvOK 280 11 279 239 0 3 11 = true by decide +kernel) rfl rfl rfl (sr_239 (d := d + 1) ⟨qt.1, a1⟩) (KP_P (fun v S1 k1 => ?_))
  obtain ⟨rfl, q1, s1⟩ := k1
  exact b_280_14 (GI_q (qt.tr q1) hG) (Ql_q (qt.tr q1))
theorem q_281 (M : MOK S) : Cal XM (d + 8) 281 [.ref 140] S (RQl S) := by
  refine cal_go 0 rfl (b_281_0 (fun _ => Ql_t M) (fun h1 => ?_))
  have qt := Qq_t M (tz (decide (S.1 140 1 = 0)) 1)
  refine go_cv mm_281 (h := 140) (As := [.int (-1)]) (rest := [.long (f_216 (wI S 140 0 (tz (decide (S.1 140 1 = 0)) 1)))]) (nl := 5) rfl XM_140 (show cvOK 281 17 359 277 1 5 11 = true by decide +kernel) rfl rfl rfl (sq_277 (d := d) ⟨qt.1, np_f h1⟩) (KP_P (fun v S1 k1 => ?_))
  obtain ⟨⟨x, rfl⟩, q1, s1⟩ := k1
  exact b_281_20 (Ql_q (qt.tr q1))
theorem q_282 (M : MOK S) {v1 : Int32} : Cal XM (d + 8) 282 [.ref 140, .int v1] S (RQi S) := by
  refine cal_go 2 rfl (b_282_0 (fun _ => Qi_t M) (fun h1 => ?_))
  obtain ⟨a1, a2, a3⟩ := nb_f h1
  have qt := Qq_t M (tb S v1 (S.1 140 20 - 1))
  refine go_cv mm_282 (h := 140) (As := []) (rest := []) (nl := 3) rfl XM_140 (show cvOK 282 11 279 239 0 3 11 = true by decide +kernel) rfl rfl rfl (sr_239 (d := d + 1) ⟨qt.1, a1⟩) (KP_P (fun v S1 k1 => ?_))
  obtain ⟨rfl, q1, s1⟩ := k1
  obtain ⟨G, g1, g2, g3⟩ := gd_all ⟨s1.1, s1.2.1⟩
  refine b_282_14 ?_
  have key : ∀ m i a, i + m = G → Go XM (d + 8) 282 0 18 [some (.ref 140), some (.int v1), some (.int a), some (.int (nJ i))] [] S1 (RQi S) := by
    intro m
    induction m with
    | zero =>
      intro i a hi
      have hn : ¬ nJ i < S1.1 141 1 := by rw [g1, nJ_lt (by omega) (by omega)]; omega
      exact b_282_18 (fun q => absurd q hn) (fun q => absurd q hn) (fun _ => Qi_q (qt.tr q1))
    | succ m ih =>
      intro i a hi
      have hlt : nJ i < S1.1 141 1 := by rw [g1, nJ_lt (by omega) (by omega)]; omega
      refine b_282_18 (fun _ => g3 i (by omega)) (fun _ => ?_) (fun q => absurd hlt q)
      rw [nJ_succ]
      exact ih (i + 1) _ (by omega)
  exact key G 0 0 (by omega)
theorem q_283 (M : MOK S) : Cal XM (d + 8) 283 [.ref 140] S (RQi S) := by
  refine cal_go 2 rfl (b_283_0 (fun _ => Qi_t M) (fun h1 => ?_))
  have a1 := np_f h1
  have qt := Qq_t M (tz (decide (S.1 140 1 = 0)) 1)
  obtain ⟨G, g1, g2, -⟩ := gd_all ⟨M, a1⟩
  have key : ∀ m i a S1, i + m = G → Qq S S1 → Qp S1 → Go XM (d + 8) 283 0 13 [some (.ref 140), some (.int a), some (.int (nJ i))] [] S1 (RQi S) := by
    intro m
    induction m with
    | zero =>
      intro i a S1 hi q1 s1
      have e := q1.2.row (a := 141) (by decide) (by decide)
      have hn : ¬ nJ i < S1.1 141 1 := by rw [e, g1, nJ_lt (by omega) (by omega)]; omega
      exact b_283_13 (fun q => absurd q hn) (fun _ => Qi_q q1)
    | succ m ih =>
      intro i a S1 hi q1 s1
      have e := q1.2.row (a := 141) (by decide) (by decide)
      have hlt : nJ i < S1.1 141 1 := by rw [e, g1, nJ_lt (by omega) (by omega)]; omega
      refine b_283_13 (fun _ => ?_) (fun q => absurd hlt q)
      refine go_cv mm_283 (h := 140) (As := [.int (nJ i)]) (rest := [.int a]) (nl := 5) rfl XM_140 (show cvOK 283 26 359 277 1 5 11 = true by decide +kernel) rfl rfl rfl (sq_277 (d := d) s1) (KP_P (fun v S2 k2 => ?_))
      obtain ⟨⟨x, rfl⟩, q2, s2⟩ := k2
      refine b_283_29 ?_
      refine go_cv mm_283 (h := 140) (As := [.int (-1)]) (rest := [.long x, .int a]) (nl := 5) rfl XM_140 (show cvOK 283 31 359 277 1 5 11 = true by decide +kernel) rfl rfl rfl (sq_277 (d := d) ⟨s2.1, s2.2.1⟩) (KP_P (fun v S3 k3 => ?_))
      obtain ⟨⟨y, rfl⟩, q3, s3⟩ := k3
      refine b_283_34 ?_
      rw [nJ_succ]
      exact ih (i + 1) _ S3 (by omega) ((q1.tr q2).tr q3) ⟨s3.1, s3.2.1⟩
  exact key G 0 0 _ (by omega) qt ⟨qt.1, a1⟩
theorem f218_lt {x y : Int64} : f_218 x < f_218 y ↔ pn x < pn y := by
  unfold f_218
  have := pn_le x
  have := pn_le y
  exact nJ_lt (by omega) (by omega)
/-- a point that sees the most of them -/
theorem sq_284 {u : Int64} (hL : Ld S) : Cal XM (d + 2) 284 [.ref 140, .long u] S (RP (fun v S' => S' = S ∧ ∃ p, p < nP S ∧ v = some (.int (nJ p)) ∧ ∀ r, r < nP S → pn (S.2 153 r &&& u) ≤ pn (S.2 153 p &&& u))) := by
  obtain ⟨hP, h64⟩ := Ld_P hL
  obtain ⟨p0, hp0, -⟩ := f240_t hL (i := 0) (by have := hL.1.2.1; omega)
  refine cal_go 2 rfl (b_284_0 ?_)
  have key : ∀ m i b, i + m = nP S → b < nP S → (∀ r, r < i → pn (S.2 153 r &&& u) ≤ pn (S.2 153 b &&& u)) → Go XM (d + 2) 284 0 5 [some (.ref 140), some (.long u), none, some (.int (nJ b)), some (.int (nJ i))] [] S (RP (fun v S' => S' = S ∧ ∃ p, p < nP S ∧ v = some (.int (nJ p)) ∧ ∀ r, r < nP S → pn (S.2 153 r &&& u) ≤ pn (S.2 153 p &&& u))) := by
    intro m
    induction m with
    | zero =>
      intro i b hi hb hm
      have hn : ¬ nJ i < S.1 140 20 := by rw [hP, nJ_lt (by omega) (by omega)]; omega
      exact b_284_5 (fun q => absurd q hn) (fun q => absurd q hn) (fun q => absurd q hn) (fun _ => ⟨rfl, _, rfl, rfl, b, hb, rfl, fun r hr => hm r (by omega)⟩)
    | succ m ih =>
      intro i b hi hb hm
      have hlt : nJ i < S.1 140 20 := by rw [hP, nJ_lt (by omega) (by omega)]; omega
      refine b_284_5 (fun _ => nJ_inB (by omega) (by omega)) (fun _ => nJ_inB (by omega) (by omega)) (fun _ => ?_) (fun q => absurd hlt q)
      rw [nJ_succ, rl_n S 153 (by omega), rl_n S 153 (by omega)]
      by_cases q : f_218 (S.2 153 b &&& u) < f_218 (S.2 153 i &&& u)
      · rw [if_pos q]
        have := f218_lt.mp q
        refine ih (i + 1) i (by omega) (by omega) (fun r hr => ?_)
        by_cases z : r = i
        · subst z; exact Nat.le_refl _
        · exact Nat.le_trans (hm r (by omega)) (by omega)
      · rw [if_neg q]
        have : ¬ pn (S.2 153 b &&& u) < pn (S.2 153 i &&& u) := fun z => q (f218_lt.mpr z)
        refine ih (i + 1) b (by omega) hb (fun r hr => ?_)
        by_cases z : r = i
        · subst z; omega
        · exact hm r (by omega)
  refine key (nP S - 1) 1 0 (by omega) (by omega) (fun r hr => ?_)
  have : r = 0 := by omega
  subst this
  exact Nat.le_refl _
theorem q_285 (M : MOK S) : Cal XM (d + 8) 285 [.ref 140] S (RQi S) := by
  refine cal_go 0 rfl (b_285_0 (fun _ => Qi_t M) (fun h1 => ?_))
  have qt := Qq_t M (tz (decide (S.1 140 1 = 0)) 1)
  refine go_cv mm_285 (h := 140) (As := [.int (-1)]) (rest := [.long (f_216 (wI S 140 0 (tz (decide (S.1 140 1 = 0)) 1))), .ref 140]) (nl := 5) rfl XM_140 (show cvOK 285 18 359 277 1 5 11 = true by decide +kernel) rfl rfl rfl (sq_277 (d := d) ⟨qt.1, np_f h1⟩) (KP_P (fun v S1 k1 => ?_))
  obtain ⟨⟨x, rfl⟩, q1, s1⟩ := k1
  refine b_285_21 ?_
  refine go_cv mm_285 (h := 140) (As := [.long (f_216 (wI S 140 0 (tz (decide (S.1 140 1 = 0)) 1)) &&& (x ^^^ (-1)))]) (rest := []) (nl := 5) rfl XM_140 (show cvOK 285 26 362 284 1 5 11 = true by decide +kernel) rfl rfl rfl (sq_284 (d := d + 5) (Qp.ld ⟨s1.1, s1.2.1⟩).1) (KP_P (fun v S2 k2 => ?_))
  obtain ⟨rfl, p, -, rfl, -⟩ := k2
  exact b_285_29 (Qi_q (qt.tr q1))
end W1
