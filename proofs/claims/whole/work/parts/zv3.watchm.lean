/-! the reference's watch -/
section Wm
variable {S M : ST}
theorem F274_eq {g j : Nat} (hg : g < 6) (hj : j < 3) : F_274 (nJ g) (nJ j) S = some (S.1 141 (27 + 3 * g + j)) := by
  have e : (27 + (3 * nJ g)) + nJ j = nJ (27 + 3 * g + j) := by
    show (nJ 27 + (nJ 3 * nJ g)) + nJ j = _
    rw [nJ_mul, nJ_add, nJ_add]
  unfold F_274
  rw [e, ck_t (ibd_n (by omega) (by omega)), nJ_ix (by omega)]
theorem F275_eq (h : MS S) {p : Nat} {x y : Int32} (hc : ge_cl 1 (rL S 141) (x.toInt, y.toInt)) (hp : p < nP S) (e : f_215 S x y = nJ p) (v : Int32) : F_275 x y v S = some (vW S (S.2 153) p x y v) := by
  unfold F_275
  rw [ck_t (chB_t.mpr ⟨h.1, hc⟩), f275_eq h.1 h.2.1 hp e]
theorem F276_eq (h : MS S) (hg : GTh S 141) {g : Nat} (hlt : g < cG S) : F_276 (nJ g) S = some (wG S (S.2 153) g) := by
  obtain ⟨g1, g2, g3⟩ := GTh_g hg
  have e28 : 27 + 3 * g + 1 = 28 + 3 * g := by omega
  have e29 : 27 + 3 * g + 2 = 29 + 3 * g := by omega
  have pk := pI_ok h.1 (j := 27 + 3 * g) (by rw [e28]; exact g3 g hlt)
  rw [e28] at pk
  have a0 := F274_eq (S := S) (g := g) (j := 0) (by omega) (by omega)
  have a1 := F274_eq (S := S) (g := g) (j := 1) (by omega) (by omega)
  have a2 := F274_eq (S := S) (g := g) (j := 2) (by omega) (by omega)
  rw [e28] at a1
  rw [e29] at a2
  rw [Nat.add_zero] at a0
  unfold F_276
  rw [show (0 : Int32) = nJ 0 from rfl, a0, ob_s, show (1 : Int32) = nJ 1 from rfl, a1, ob_s, show (2 : Int32) = nJ 2 from rfl, a2, ob_s, F275_eq h (g3 g hlt) pk.1 pk.2.1, ob_s]
  rfl
theorem or0 (x : Int64) : x ||| 0 = x := or_0 x
theorem M277_9 (h : MS S) (hg : GTh S 141) (v : Int32) : wh FU (Lm_277_9 v S) (0, 0) = some (uW S (S.2 153) v, nJ (cG S)) := by
  obtain ⟨g1, g2, g3⟩ := GTh_g hg
  have := wh_fr (f := Lm_277_9 v S) (fun i (a : Int64) => (a, nJ i)) (uS S (S.2 153) v) (cG S) (fun a => (a, nJ (cG S))) (fun i a hi => by
    unfold Lm_277_9
    dsimp only
    rw [g1, if_pos ((nJ_lt (by omega) (by omega)).mpr hi), nJ_succ]
    unfold uS
    by_cases z : nJ i = v
    · rw [if_pos z, if_pos z, or0]
    · rw [if_neg z, if_neg z, F276_eq h hg hi, ob_s]) (fun a => by
    unfold Lm_277_9
    dsimp only
    rw [g1, if_neg (fun z => by have := (nJ_lt (by omega) (by omega)).mp z; omega)]) (FU_lt (by omega)) 0
  rw [show ((0 : Int64), (0 : Int32)) = (0, nJ 0) from rfl, this]
  rfl
theorem F277_eq (h : MS S) (hg : GTh S 141) (h27 : ¬ S.1 140 27 = 0) (v : Int32) : F_277 v S = some (uW S (S.2 153) v, S) := by
  unfold F_277
  rw [show F_239 S = some ((), S) by unfold F_239; rw [if_neg h27], ob_s]
  dsimp only
  rw [M277_9 h hg, ob_s]
theorem M282_18 (h : MS S) (hg : GTh S 141) {p : Nat} (hp : p < 64) : wh FU (Lm_282_18 (nJ p) S) (0, 0) = some (nJ (kW S (S.2 153) p), nJ (cG S)) := by
  obtain ⟨g1, g2, g3⟩ := GTh_g hg
  have := wh_fr (f := Lm_282_18 (nJ p) S) (fun i (a : Nat) => (nJ a, nJ i)) (kS S (S.2 153) p) (cG S) (fun a => (nJ a, nJ (cG S))) (fun i a hi => by
    unfold Lm_282_18
    dsimp only
    rw [g1, if_pos ((nJ_lt (by omega) (by omega)).mpr hi), F276_eq h hg hi, ob_s, nJ_succ i]
    unfold kS
    have e : F_217 (wG S (S.2 153) i) (nJ p) = bz (wG S (S.2 153) i) p := has_t _ hp
    rw [e]
    by_cases z : bz (wG S (S.2 153) i) p = true
    · rw [if_pos z, z]
      show some (Sum.inl (nJ a + nJ 1, _)) = _
      rw [nJ_add]
    · rw [if_neg z, Bool.eq_false_iff.mpr z]
      show some (Sum.inl (nJ a + nJ 0, _)) = _
      rw [nJ_add]
      rfl) (fun a => by
    unfold Lm_282_18
    dsimp only
    rw [g1, if_neg (fun z => by have := (nJ_lt (by omega) (by omega)).mp z; omega)]) (FU_lt (by omega)) 0
  rw [show ((0 : Int32), (0 : Int32)) = (nJ 0, nJ 0) from rfl, this]
  rfl
theorem M283_13 (h : MS S) (hg : GTh S 141) (h27 : ¬ S.1 140 27 = 0) : wh FU Lm_283_13 (0, 0, S) = some (nJ (dN S (S.2 153)), nJ (cG S), S) := by
  obtain ⟨g1, g2, g3⟩ := GTh_g hg
  have := wh_fr (f := Lm_283_13) (fun i (a : Nat) => (nJ a, nJ i, S)) (dS S (S.2 153)) (cG S) (fun a => (nJ a, nJ (cG S), S)) (fun i a hi => by
    unfold Lm_283_13
    dsimp only
    rw [g1, if_pos ((nJ_lt (by omega) (by omega)).mpr hi), F277_eq h hg h27, ob_s]
    dsimp only
    rw [F277_eq h hg h27, ob_s, nJ_succ i]
    unfold dS
    by_cases z : uW S (S.2 153) (nJ i) = uW S (S.2 153) (-1)
    · rw [if_pos z, if_pos z, shl_N i (by omega), nJ_or]
    · rw [if_neg z, if_neg z]
      show some (Sum.inl (nJ a ||| nJ 0, _)) = _
      rw [nJ_or, Nat.or_zero]) (fun a => by
    unfold Lm_283_13
    dsimp only
    rw [g1, if_neg (fun z => by have := (nJ_lt (by omega) (by omega)).mp z; omega)]) (FU_lt (by omega)) 0
  rw [show ((0 : Int32), (0 : Int32), S) = (nJ 0, nJ 0, S) from rfl, this]
  rfl
/-- the best next point -/
def bF (r : Nat → Int64) (V : Int64) (i b : Nat) : Nat := if pn (r b &&& V) < pn (r i &&& V) then i else b
def bP (r : Nat → Int64) (V : Int64) (n : Nat) : Nat := fr (bF r V) 1 (n - 1) 0
theorem pn_B (x : Int64) : pn x < 1000 := Nat.lt_of_le_of_lt (pn_le x) (by decide)
theorem F111_eq (h : CSz S M) (h1 : 1 ≤ nP M) (V : Int64) : F_111 V S = some (nJ (bP (S.2 31) V (nP M))) ∧ bP (S.2 31) V (nP M) < nP M := by
  have h64 := h.1.2.2.2.2.1
  have run := wh_for (f := L_111_5 V S) (e := fun i (b : Nat) => (nJ b, nJ i)) (g := bF (S.2 31) V) (N := nP M) (J := fun _ b => b < nP M) (b := fun b => (nJ b, nJ (nP M))) (fun i b hi hb => by
    refine ⟨?_, ?_⟩
    · unfold L_111_5
      dsimp only
      rw [h.1.2.2.2.1, if_pos ((nJ_lt (by omega) (by omega)).mpr hi), F73_eq S (by omega), ob_s, F73_eq S (by omega), ob_s, F366_t, F366_t, nJ_succ]
      unfold bF
      have b1 := pn_B (S.2 31 b &&& V)
      have b2 := pn_B (S.2 31 i &&& V)
      generalize pn (S.2 31 b &&& V) = u1 at b1 ⊢
      generalize pn (S.2 31 i &&& V) = u2 at b2 ⊢
      by_cases z : u1 < u2
      · rw [if_pos ((nJ_lt (by omega) (by omega)).mpr z), if_pos z]
      · rw [if_neg (fun q => z ((nJ_lt (by omega) (by omega)).mp q)), if_neg z]
    · show bF (S.2 31) V i b < nP M
      unfold bF
      split
      · exact hi
      · exact hb) (fun b _ => by
    unfold L_111_5
    dsimp only
    rw [h.1.2.2.2.1, if_neg (fun z => by have := (nJ_lt (by omega) (by omega)).mp z; omega)]) (nP M - 1) 1 FU 0 (by omega) (FU_lt (by omega)) (by omega)
  unfold F_111
  rw [show ((0 : Int32), (1 : Int32)) = (nJ 0, nJ 1) from rfl, run.1, ob_s]
  exact ⟨rfl, run.2⟩
theorem F284_eq (h : MS S) (h1 : 1 ≤ nP S) (V : Int64) : F_284 V S = some (nJ (bP (S.2 153) V (nP S))) ∧ bP (S.2 153) V (nP S) < nP S := by
  have hP := Ld_P h.1
  have run := wh_for (f := Lm_284_5 V S) (e := fun i (b : Nat) => (nJ b, nJ i)) (g := bF (S.2 153) V) (N := nP S) (J := fun _ b => b < nP S) (b := fun b => (nJ b, nJ (nP S))) (fun i b hi hb => by
    refine ⟨?_, ?_⟩
    · unfold Lm_284_5
      dsimp only
      rw [hP.1, if_pos ((nJ_lt (by omega) (by omega)).mpr hi), ck_t (ibd_n (by omega) (by omega)), ck_t (ibd_n (by omega) (by omega)), nJ_ix (by omega), nJ_ix (by omega), nJ_succ i]
      unfold bF F_218 f_218
      have b1 := pn_B (S.2 153 b &&& V)
      have b2 := pn_B (S.2 153 i &&& V)
      generalize pn (S.2 153 b &&& V) = u1 at b1 ⊢
      generalize pn (S.2 153 i &&& V) = u2 at b2 ⊢
      by_cases z : u1 < u2
      · rw [if_pos ((nJ_lt (by omega) (by omega)).mpr z), if_pos z]
      · rw [if_neg (fun q => z ((nJ_lt (by omega) (by omega)).mp q)), if_neg z]
    · show bF (S.2 153) V i b < nP S
      unfold bF
      split
      · exact hi
      · exact hb) (fun b _ => by
    unfold Lm_284_5
    dsimp only
    rw [hP.1, if_neg (fun z => by have := (nJ_lt (by omega) (by omega)).mp z; omega)]) (nP S - 1) 1 FU 0 (by omega) (FU_lt (by omega)) (by omega)
  unfold F_284
  rw [show ((0 : Int32), (1 : Int32)) = (nJ 0, nJ 1) from rfl, run.1, ob_s]
  exact ⟨rfl, run.2⟩
end Wm
