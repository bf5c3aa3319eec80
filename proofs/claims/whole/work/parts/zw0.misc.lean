/-! area, turned vertices, the boundary, the triangles' answers -/
section Ms
variable {S M : ST}
theorem i32_abs (u : Int32) : (if 0 ≤ u then u else 0 - u) = (if u < 0 then -u else u) := by
  by_cases c : u < 0
  · rw [if_pos c, if_neg (fun q => by have h1 := Int32.lt_iff_toInt_lt.mp c; have h2 := Int32.le_iff_toInt_le.mp q; omega), Int32.zero_sub]
  · rw [if_neg c, if_pos (Int32.not_lt.mp c)]
theorem F25_M (h : CX S M) : F_25 3 S = some (f_233 M) := by
  obtain ⟨u, eu, tu⟩ := F25_eq h.1.1 h.1.2.1
  rw [eu]
  refine congrArg some (Int32.toInt_inj.mp ?_)
  rw [tu, h.1.2.2.1]
  exact (turned_t h.2.2.1.1.1 h.2.2.1.1.2.2.1).symm
theorem F233_eq (g : GR S 141) : F_233 S = some (f_233 S) := by
  unfold F_233
  rw [ck_t (chB_t.mpr g.1)]
def prv (N i : Nat) : Nat := if 0 < i then i - 1 else N - 1
def rfS (M : ST) (i a : Nat) : Nat := if sgA M * ge_o (rP M 141 (prv (rN M 141) i)) (rP M 141 i) (rP M 141 (ge_aft (rN M 141) i)) < 0 then a ||| 2 ^ i else a
def rfN (M : ST) : Nat := fr (rfS M) 0 (rN M 141) 0
theorem prv_lt {N i : Nat} (hi : i < N) : prv N i < N := by unfold prv; split <;> omega
theorem F26_eq (h : CX S M) : F_26 3 S = some (nJ (rfN M)) := by
  have g := h.2.2.1.1
  have h12 := g.1.2
  have h3 := g.2.1
  obtain ⟨wW, wB, -, wn, wp⟩ := h.1
  have hn : S.1 3 0 = nJ (rN M 141) := by rw [wW.1, wn]
  obtain ⟨u, eu, tu⟩ := F25_eq wW wB
  rw [h.1.2.2.1] at tu
  have a := (okg_M g).2.1
  have a' : 0 < sgA M * ge_ar (rL M 141) := a
  rw [← tu] at a'
  have hv : (sgA M = 1 ∧ decide ((0 : Int32) < u) = true) ∨ (sgA M = -1 ∧ decide ((0 : Int32) < u) = false) := by
    rcases sgA_1 M with s | s
    · refine Or.inl ⟨s, decide_eq_true ((i32_p u).mpr ?_)⟩
      rw [s] at a'; omega
    · refine Or.inr ⟨s, decide_eq_false (fun q => ?_)⟩
      have := (i32_p u).mp q
      rw [s] at a'; omega
  generalize decide ((0 : Int32) < u) = v at hv
  unfold F_26
  rw [eu, ob_s]
  have hv' : (sgA M = 1 ∧ decide ((0 : Int32) < u) = true) ∨ (sgA M = -1 ∧ decide ((0 : Int32) < u) = false) := by
    rcases sgA_1 M with s | s
    · refine Or.inl ⟨s, decide_eq_true ((i32_p u).mpr ?_)⟩
      rw [s] at a'; omega
    · refine Or.inr ⟨s, decide_eq_false (fun q => ?_)⟩
      have := (i32_p u).mp q
      rw [s] at a'; omega
  have := wh_fr (f := L_26_17 3 (decide ((0 : Int32) < u)) S) (fun i (a : Nat) => (nJ a, nJ i)) (rfS M) (rN M 141) (fun a => (nJ a, nJ (rN M 141))) (fun i a hi => by
    have hp := prv_lt hi
    have hj := ge_aft_lt hi
    have e47 : F_47 3 (nJ i) S = nJ (prv (rN M 141) i) := by
      unfold F_47 prv
      by_cases c : 0 < i
      · rw [if_pos (show (0 : Int32) < nJ i from (nJ_lt (i := 0) (by omega) (by omega)).mpr c), if_pos c]
        exact nJ_sub (j := 1) (by omega)
      · rw [if_neg (show ¬ (0 : Int32) < nJ i from fun q => c ((nJ_lt (i := 0) (by omega) (by omega)).mp q)), if_neg c, hn]
        exact nJ_sub (j := 1) (by omega)
    have e46 : F_46 3 (nJ i) S = nJ (ge_aft (rN M 141) i) := by rw [F46_eq wW (by rw [wn]; exact hi), wn]
    obtain ⟨x, ex, tx⟩ := F24_eq wW wB (a := prv (rN M 141) i) (b := i) (c := ge_aft (rN M 141) i) (by rw [wn]; exact hp) (by rw [wn]; exact hi) (by rw [wn]; exact hj)
    rw [wp _ hp, wp _ hi, wp _ hj] at tx
    unfold L_26_17
    dsimp only
    rw [hn, if_pos ((nJ_lt (by omega) (by omega)).mpr hi), e47, e46, ex, ob_s, nJ_succ, shl_N i (by omega), nJ_or]
    unfold rfS
    rw [← tx]
    rcases hv' with ⟨s, t⟩ | ⟨s, t⟩
    · rw [if_pos t, s]
      by_cases c : x < 0
      · rw [if_pos c, if_pos (by have := (i32_n x).mp c; omega)]
      · rw [if_neg c, if_neg (fun q => c ((i32_n x).mpr (by omega)))]
    · rw [if_neg (by rw [t]; decide), s]
      by_cases c : (0 : Int32) < x
      · rw [if_pos c, if_pos (by have := (i32_p x).mp c; omega)]
      · rw [if_neg c, if_neg (fun q => c ((i32_p x).mpr (by omega)))]) (fun a => by
    unfold L_26_17
    dsimp only
    rw [hn, if_neg (fun z => by have := (nJ_lt (by omega) (by omega)).mp z; omega)]) (FU_lt (by omega)) 0
  rw [show ((0 : Int32), (0 : Int32)) = (nJ 0, nJ 0) from rfl, this, ob_s]
  rfl
theorem M236_22 (g : GR S 141) : ∃ z, wh FU (Lm_236_22 S) (0, S.1 141 0 - 1, 0) = some (nJ (rfN S), z) := by
  have h12 := g.1.2
  have h3 := g.2.1
  have hn : S.1 141 0 = nJ (rN S 141) := g.1.1
  have := wh_fr (f := Lm_236_22 S) (fun i (a : Nat) => (nJ a, nJ (prv (rN S 141) i), nJ i)) (rfS S) (rN S 141) (fun a => (nJ a, nJ (prv (rN S 141) (rN S 141)), nJ (rN S 141))) (fun i a hi => by
    have hp := prv_lt hi
    have hj := ge_aft_lt hi
    have e204 : F_204 141 (nJ i) S = nJ (ge_aft (rN S 141) i) := f204_eq g.1 hi
    obtain ⟨x, ex, -, tx⟩ := F235_eq g hp hi hj
    unfold Lm_236_22
    dsimp only
    rw [hn, if_pos ((nJ_lt (by omega) (by omega)).mpr hi), e204, ex, ob_s, nJ_succ i, shl_N i (by omega)]
    have ep : prv (rN S 141) (i + 1) = i := by unfold prv; rw [if_pos (by omega)]; omega
    rw [ep]
    unfold rfS
    by_cases c : x < 0
    · rw [if_pos c, if_pos (tx.mp c), nJ_or]
    · rw [if_neg c, if_neg (fun q => c (tx.mpr q))]
      show some (Sum.inl (nJ a ||| nJ 0, _)) = _
      rw [nJ_or, Nat.or_zero]) (fun a => by
    unfold Lm_236_22
    dsimp only
    rw [hn, if_neg (fun z => by have := (nJ_lt (by omega) (by omega)).mp z; omega)]) (FU_lt (by omega)) 0
  refine ⟨(nJ (prv (rN S 141) (rN S 141)), nJ (rN S 141)), ?_⟩
  rw [show ((0 : Int32), S.1 141 0 - 1, (0 : Int32)) = (nJ 0, nJ (prv (rN S 141) 0), nJ 0) by
    rw [hn, show nJ (rN S 141) - 1 = nJ (rN S 141 - 1) from nJ_sub (j := 1) (by omega)]
    rfl, this]
  rfl
theorem F90_eq {t j : Nat} (ht : t < 10) {K : Nat → Nat} {R : Nat → Nat → Nat} {N : Nat} (hc : trC S N K R t) (hj : j < 3) : F_90 (nJ t) (nJ j) S = some (nJ (if j = 0 then lo3 (kx N K R t) (ky K R t) (kz N K R t) else if j = 1 then md3 (kx N K R t) (ky K R t) (kz N K R t) else hi3 (kx N K R t) (ky K R t) (kz N K R t))) := by
  have ib : ibd (nJ t) 10 = true := ibd_n (by omega) (by omega)
  have ix : Int32.toNatClampNeg (nJ t) = t := nJ_ix (by omega)
  unfold F_90
  rw [if_neg (nJ_nn (by omega)), if_pos (show nJ t < 10 from (nJ_lt (j := 10) (by omega) (by omega)).mpr ht), ix]
  obtain ⟨-, q1, q2, q3⟩ := hc
  match j, hj with
  | 0, _ => rw [if_pos (show nJ 0 = 0 from rfl), ck_t ib, q1]; rfl
  | 1, _ => rw [if_neg (show ¬ nJ 1 = 0 by decide), if_pos (show nJ 1 = 1 from rfl), ck_t ib, q2]; rfl
  | 2, _ => rw [if_neg (show ¬ nJ 2 = 0 by decide), if_neg (show ¬ nJ 2 = 1 by decide), ck_t ib, q3]; rfl
theorem tr_at {t j : Nat} {K : Nat → Nat} {R : Nat → Nat → Nat} {N : Nat} (hc : trM S N K R t) (hj : j < 3) : S.1 157 (3 * t + j) = nJ (if j = 0 then lo3 (kx N K R t) (ky K R t) (kz N K R t) else if j = 1 then md3 (kx N K R t) (ky K R t) (kz N K R t) else hi3 (kx N K R t) (ky K R t) (kz N K R t)) := by
  obtain ⟨q1, q2, q3⟩ := hc
  match j, hj with
  | 0, _ => exact q1
  | 1, _ => exact q2
  | 2, _ => exact q3
/-- the area of a triangle, as the class has it -/
theorem F91_eq (h : CX S M) {t : Nat} (ht : t < 10) {K : Nat → Nat} {R : Nat → Nat → Nat} (hT : TR (rP M 141) (sgA M) (rN M 141) K R) (hc : trC S (rN M 141) K R t) (ht3 : t + 3 ≤ rN M 141) : ∃ u : Int32, F_91 (nJ t) S = some (if 0 ≤ u then u else 0 - u) ∧ u.toInt = ge_o (rP M 141 (lo3 (kx (rN M 141) K R t) (ky K R t) (kz (rN M 141) K R t))) (rP M 141 (md3 (kx (rN M 141) K R t) (ky K R t) (kz (rN M 141) K R t))) (rP M 141 (hi3 (kx (rN M 141) K R t) (ky K R t) (kz (rN M 141) K R t))) := by
  obtain ⟨wW, wB, -, wn, wp⟩ := h.1
  have b := cnr_lt (sgA_1 M) hT ht3
  have bl : lo3 (kx (rN M 141) K R t) (ky K R t) (kz (rN M 141) K R t) < rN M 141 := by unfold lo3; omega
  have bm : md3 (kx (rN M 141) K R t) (ky K R t) (kz (rN M 141) K R t) < rN M 141 := by unfold md3 lo3 hi3; omega
  have bh : hi3 (kx (rN M 141) K R t) (ky K R t) (kz (rN M 141) K R t) < rN M 141 := by unfold hi3; omega
  obtain ⟨u, eu, tu⟩ := F24_eq wW wB (by rw [wn]; exact bl) (by rw [wn]; exact bm) (by rw [wn]; exact bh)
  rw [wp _ bl, wp _ bm, wp _ bh] at tu
  have c0 := F90_eq ht hc (j := 0) (by omega)
  have c1 := F90_eq ht hc (j := 1) (by omega)
  have c2 := F90_eq ht hc (j := 2) (by omega)
  refine ⟨u, ?_, tu⟩
  unfold F_91
  rw [show (0 : Int32) = nJ 0 from rfl, c0, ob_s, show (1 : Int32) = nJ 1 from rfl, c1, ob_s, show (2 : Int32) = nJ 2 from rfl, c2, ob_s]
  show ob (F_24 3 (nJ (lo3 _ _ _)) (nJ (md3 _ _ _)) (nJ (hi3 _ _ _)) S) _ = _
  rw [eu, ob_s]
/-- the area of a triangle, as the reference has it -/
theorem A254 (g : GR S 141) {a b c : Nat} (ha : a < rN S 141) (hb : b < rN S 141) (hc : c < rN S 141) : (Int64.toInt32 (F_202 (Int32.toInt64 (S.1 141 (3 + a))) (Int32.toInt64 (S.1 141 (15 + a))) (Int32.toInt64 (S.1 141 (3 + b))) (Int32.toInt64 (S.1 141 (15 + b))) (Int32.toInt64 (S.1 141 (3 + c))) (Int32.toInt64 (S.1 141 (15 + c))))).toInt = ge_o (rP S 141 a) (rP S 141 b) (rP S 141 c) := by
  have h12 := g.1.2
  have hB := g.2.2.1
  have ha' : a < 12 := by omega
  have hb' : b < 12 := by omega
  have hc' : c < 12 := by omega
  have hcr := cross_t (rx_t hB ha').2 (ry_t hB ha').2 (rx_t hB hb').2 (ry_t hB hb').2 (rx_t hB hc').2 (ry_t hB hc').2
  rw [rP_t hB ha', rP_t hB hb', rP_t hB hc', ra_3 S 141 (by omega), ra_15 S 141 (by omega), ra_3 S 141 (by omega), ra_15 S 141 (by omega), ra_3 S 141 (by omega), ra_15 S 141 (by omega)] at hcr
  have hcr' : (F_202 (Int32.toInt64 (S.1 141 (3 + a))) (Int32.toInt64 (S.1 141 (15 + a))) (Int32.toInt64 (S.1 141 (3 + b))) (Int32.toInt64 (S.1 141 (15 + b))) (Int32.toInt64 (S.1 141 (3 + c))) (Int32.toInt64 (S.1 141 (15 + c)))).toInt = ge_o (rP S 141 a) (rP S 141 b) (rP S 141 c) := hcr
  rw [Int64.toInt_toInt32, hcr']
  have xa := RB_x hB ha'
  have ya := RB_y hB ha'
  have xb := RB_x hB hb'
  have yb := RB_y hB hb'
  have xc := RB_x hB hc'
  have yc := RB_y hB hc'
  have m1 := mul_bd (a := (rP S 141 b).1 - (rP S 141 a).1) (b := (rP S 141 c).2 - (rP S 141 a).2) (A := 15) (B := 15) (by omega) (by omega) (by omega) (by omega)
  have m2 := mul_bd (a := (rP S 141 b).2 - (rP S 141 a).2) (b := (rP S 141 c).1 - (rP S 141 a).1) (A := 15) (B := 15) (by omega) (by omega) (by omega) (by omega)
  refine Int.bmod_eq_of_le ?_ ?_
  · unfold ge_o; omega
  · unfold ge_o; omega
end Ms
