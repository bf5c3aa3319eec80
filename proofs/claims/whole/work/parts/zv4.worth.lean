/-! greedy covers, treasures, the best move -/
theorem bP_max (r : Nat → Int64) (V : Int64) (c : Int64 → Nat) (hc : ∀ x y, pn x < pn y ↔ c x < c y) {n : Nat} (hn : 1 ≤ n) {i : Nat} (hi : i < n) : c (r i &&& V) ≤ c (r (bP r V n) &&& V) := by
  have key : ∀ m i, i < 1 + m → c (r i &&& V) ≤ c (r (fr (bF r V) 1 m 0) &&& V) := by
    intro m
    induction m with
    | zero => intro i hi; rw [show i = 0 by omega]; exact Nat.le_refl _
    | succ m ih =>
      intro i hi
      rw [fr_snoc]
      generalize fr (bF r V) 1 m 0 = b at ih ⊢
      unfold bF
      by_cases z : pn (r b &&& V) < pn (r (1 + m) &&& V)
      · rw [if_pos z]
        have z' := (hc _ _).mp z
        by_cases e : i = 1 + m
        · rw [e]; exact Nat.le_refl _
        · have := ih i (by omega)
          omega
      · rw [if_neg z]
        have z' := fun q => z ((hc _ _).mpr q)
        by_cases e : i = 1 + m
        · rw [e]; exact Nat.le_of_not_lt z'
        · exact ih i (by omega)
  exact key (n - 1) i (by omega)
theorem pn_abs : ∃ c : Int64 → Nat, (∀ x, c x = pn x) := ⟨pn, fun _ => rfl⟩
def gI (r : Nat → Int64) (n : Nat) : Nat → Int64 → Nat
  | 0, _ => 0
  | k + 1, V => if V = 0 then 0 else gI r n k (wo V (r (bP r V n))) + 1
theorem gI_0 (r : Nat → Int64) (n : Nat) : ∀ k, gI r n k 0 = 0
  | 0 => rfl
  | k + 1 => by unfold gI; rw [if_pos rfl]
theorem gI_dec {n : Nat} {r : Nat → Int64} (hG : hdG n r) (hn : 1 ≤ n) {V : Int64} (hV : ofP n V) (h0 : ¬ V = 0) : pn (wo V (r (bP r V n))) < pn V := by
  obtain ⟨p64, pV⟩ := low_ok h0
  generalize lowN V = p at p64 pV
  have pn' := hV p pV
  have le := bP_max r V pn (fun _ _ => Iff.rfl) hn pn'
  have nz : ¬ r (bP r V n) &&& V = 0 := fun z => by
    rw [z, pn_0] at le
    have pos := pn_pos (x := r p &&& V) (fun q => by
      have := congrArg (fun x => bz x p) q
      simp only [bz_and, bz_0, (hG.2 p pn').2.1, pV] at this
      cases this)
    exact absurd pos (Nat.not_lt.mpr le)
  obtain ⟨q64, qb⟩ := low_ok nz
  generalize lowN (r (bP r V n) &&& V) = q at q64 qb
  rw [bz_and, Bool.and_eq_true] at qb
  rw [pn_rk, pn_rk]
  refine rk_up1 (fun i hi h => ?_) ⟨q, q64, qb.2, ?_⟩
  · rw [wo_bz hi, Bool.and_eq_true] at h; exact h.1
  · rw [wo_bz q64, qb.1, qb.2]; rfl
section Wx
variable {S M : ST}
theorem C112_23 (h : CSz S M) (h1 : 1 ≤ nP M) (V : Int64) : ∃ z w, wh FU (L_112_23 S) (V, 0, 0) = some (z, nJ (gI (S.2 31) (nP M) 64 V), w) := by
  have key : ∃ r, wh FU (L_112_23 S) (V, nJ 0, nJ 0) = some r ∧ r.2.1 = nJ (gI (S.2 31) (nP M) 64 V) := by
    refine wh_inv (I := fun m x => ∃ i V', i + m = 64 ∧ x = (V', nJ i, nJ i) ∧ i + gI (S.2 31) (nP M) m V' = gI (S.2 31) (nP M) 64 V) ?_ FU 64 _ (FU_lt (by omega)) ⟨0, V, rfl, rfl, Nat.zero_add _⟩
    rintro m x ⟨i, V', hi, rfl, e⟩
    unfold L_112_23
    dsimp only
    by_cases c : i < 64
    · rw [if_pos (show nJ i < 64 from (nJ_lt (j := 64) (by omega) (by omega)).mpr c)]
      obtain ⟨m', rfl⟩ : ∃ m', m = m' + 1 := ⟨m - 1, by omega⟩
      by_cases z : V' = 0
      · rw [if_pos z]
        rw [z, gI_0] at e
        exact Or.inr ⟨_, rfl, by rw [← e]; rfl⟩
      · obtain ⟨eb, lb⟩ := F111_eq h h1 V'
        have h64 := h.1.2.2.2.2.1
        rw [if_neg z, eb, ob_s, F73_eq S (by omega), ob_s, nJ_succ]
        refine Or.inl ⟨_, m', by omega, rfl, i + 1, _, by omega, rfl, ?_⟩
        rw [← e]
        show i + 1 + gI (S.2 31) (nP M) m' (wo V' (S.2 31 (bP (S.2 31) V' (nP M)))) = i + gI (S.2 31) (nP M) (m' + 1) V'
        have : gI (S.2 31) (nP M) (m' + 1) V' = gI (S.2 31) (nP M) m' (wo V' (S.2 31 (bP (S.2 31) V' (nP M)))) + 1 := by
          show (if V' = 0 then 0 else _) = _
          rw [if_neg z]
        omega
    · rw [if_neg (show ¬ nJ i < 64 from fun z => c ((nJ_lt (j := 64) (by omega) (by omega)).mp z))]
      have : m = 0 := by omega
      subst this
      exact Or.inr ⟨_, rfl, by rw [← e]; rfl⟩
  obtain ⟨⟨z, y, w⟩, e, ey⟩ := key
  dsimp only at ey
  rw [ey] at e
  exact ⟨z, w, e⟩
theorem M286_26 (h : MS S) (h1 : 1 ≤ nP S) {V : Int64} (hV : ofP (nP S) V) : ∃ z, wh FU (Lm_286_26 S) (V, 0) = some (z, nJ (gI (S.2 153) (nP S) 64 V)) := by
  have hG := hdG_m h
  have key : ∃ r, wh FU (Lm_286_26 S) (V, nJ 0) = some r ∧ r.2 = nJ (gI (S.2 153) (nP S) 64 V) := by
    obtain ⟨c, hc⟩ := pn_abs
    refine wh_inv (I := fun m x => ∃ i V', i + m = 64 ∧ x = (V', nJ i) ∧ ofP (nP S) V' ∧ c V' ≤ m ∧ i + gI (S.2 153) (nP S) m V' = gI (S.2 153) (nP S) 64 V) ?_ FU 64 _ (FU_lt (by omega)) ⟨0, V, rfl, rfl, hV, by rw [hc]; exact pn_le V, Nat.zero_add _⟩
    rintro m x ⟨i, V', hi, rfl, v1, v2, e⟩
    unfold Lm_286_26
    dsimp only
    by_cases z : V' = 0
    · rw [if_pos z]
      rw [z, gI_0] at e
      exact Or.inr ⟨_, rfl, by rw [← e]; rfl⟩
    · have d : c (wo V' (S.2 153 (bP (S.2 153) V' (nP S)))) < c V' := by rw [hc, hc]; exact gI_dec hG h1 v1 z
      obtain ⟨m', rfl⟩ : ∃ m', m = m' + 1 := ⟨m - 1, by omega⟩
      obtain ⟨eb, lb⟩ := F284_eq h h1 V'
      have h64 := hG.1
      rw [if_neg z, eb, ob_s, ck_t (ibd_n (by omega) (by omega)), nJ_ix (by omega), nJ_succ]
      refine Or.inl ⟨_, m', by omega, rfl, i + 1, _, by omega, rfl, wo_of v1, ?_, ?_⟩
      · show c (wo V' (S.2 153 (bP (S.2 153) V' (nP S)))) ≤ m'
        omega
      · rw [← e]
        show i + 1 + gI (S.2 153) (nP S) m' (wo V' (S.2 153 (bP (S.2 153) V' (nP S)))) = i + gI (S.2 153) (nP S) (m' + 1) V'
        have : gI (S.2 153) (nP S) (m' + 1) V' = gI (S.2 153) (nP S) m' (wo V' (S.2 153 (bP (S.2 153) V' (nP S)))) + 1 := by
          show (if V' = 0 then 0 else _) = _
          rw [if_neg z]
        omega
  obtain ⟨⟨z, y⟩, e, ey⟩ := key
  dsimp only at ey
  rw [ey] at e
  exact ⟨z, e⟩
/-- what the watched treasures are worth -/
def tS (M : ST) (V : Int64) (t : Nat) (a : Int32) : Int32 := if bz V (pI M (45 + 3 * t)) = true then a + M.1 141 (47 + 3 * t) else a
def tV (M : ST) (V : Int64) : Int32 := fr (tS M V) 0 (cTz M) 0
theorem F105_eq (h : CSG S M) {t : Nat} (ht : t < cTz M) : F_105 (nJ t) S = some (nJ (pI M (45 + 3 * t))) ∧ F_62 3 (nJ t) S = some (M.1 141 (47 + 3 * t)) ∧ pI M (45 + 3 * t) < nP M := by
  obtain ⟨g1, g2, g3⟩ := GTh_t h.2.2
  have e46 : 45 + 3 * t + 1 = 46 + 3 * t := by omega
  have pk := pI_ok h.1.1.2.2.1 (j := 45 + 3 * t) (by rw [e46]; exact g3 t ht)
  rw [e46] at pk
  have cl := h.2.1.2.2.2 t ht
  have e1 : S.1 3 2 = nJ (cTz M) := h.2.1.1.2.2.trans g1
  have lt : nJ t < nJ (cTz M) := (nJ_lt (by omega) (by omega)).mpr ht
  have ib : ibd (nJ t) 6 = true := ibd_n (by omega) (by omega)
  have ix : Int32.toNatClampNeg (nJ t) = t := nJ_ix (by omega)
  have nn : ¬ nJ t < 0 := nJ_nn (by omega)
  refine ⟨?_, ?_, pk.1⟩
  · unfold F_105 F_60 F_61
    rw [if_neg nn, if_neg nn, e1, if_pos lt, if_pos lt, ck_t ib, ck_t ib, ob_s, ob_s, ix, F18_cx h.1.1, ob_s]
    show some (f_215 M (S.1 9 t) (S.1 10 t)) = _
    rw [cl.1, cl.2.1]
    exact congrArg some pk.2.1
  · unfold F_62
    rw [if_neg nn, e1, if_pos lt, ck_t ib, ix]
    exact congrArg some cl.2.2
theorem F113_eq (h : CSG S M) (V : Int64) : F_113 V S = some (tV M V) := by
  obtain ⟨g1, g2, g3⟩ := GTh_t h.2.2
  have h64 := h.1.1.2.2.2.2.1
  have e1 : S.1 3 2 = nJ (cTz M) := h.2.1.1.2.2.trans g1
  have := wh_fr (f := L_113_5 V S) (fun i (a : Int32) => (a, nJ i)) (tS M V) (cTz M) (fun a => (a, nJ (cTz M))) (fun i a hi => by
    obtain ⟨q1, q2, q3⟩ := F105_eq h hi
    unfold L_113_5
    dsimp only
    rw [e1, if_pos ((nJ_lt (by omega) (by omega)).mpr hi), q1, ob_s, if_neg (nJ_m1 (by omega)), has177 _ (by omega), nJ_succ]
    unfold tS
    by_cases z : bz V (pI M (45 + 3 * i)) = true
    · rw [if_pos z, if_pos z, q2, ob_s]
    · rw [if_neg z, if_neg z]) (fun a => by
    unfold L_113_5
    dsimp only
    rw [e1, if_neg (fun z => by have := (nJ_lt (by omega) (by omega)).mp z; omega)]) (FU_lt (by omega)) 0
  unfold F_113
  rw [show ((0 : Int32), (0 : Int32)) = (0, nJ 0) from rfl, this, ob_s]
  rfl
theorem F289_eq (h : MS S) (hg : GTh S 141) (hQ : Qp S) (V : Int64) : F_289 V S = some (tV S V) := by
  obtain ⟨g1, g2, g3⟩ := GTh_t hg
  have h64 := (Ld_P h.1).2
  unfold F_289
  rw [ck_t (chB_t.mpr hQ)]
  refine congrArg some ?_
  unfold f_289 tV
  show fr (st89 S V) 0 (cTz S) 0 = _
  refine fr_eq (fun i a hi => ?_) 0
  have e46 : 45 + 3 * i + 1 = 46 + 3 * i := by omega
  have e47 : 45 + 3 * i + 2 = 47 + 3 * i := by omega
  have pk := pI_ok h.1 (j := 45 + 3 * i) (by rw [e46]; exact g3 i hi)
  rw [e46] at pk
  have f : ∀ j, j < 3 → f_287 S (nJ i) (nJ j) = S.1 141 (45 + 3 * i + j) := fun j hj => by
    unfold f_287
    rw [show (45 + (3 * nJ i)) + nJ j = nJ (45 + 3 * i + j) by
      show (nJ 45 + (nJ 3 * nJ i)) + nJ j = _
      rw [nJ_mul, nJ_add, nJ_add]]
    unfold ra
    rw [nJ_ix (by omega)]
  have f0 := f 0 (by omega)
  have f1 := f 1 (by omega)
  have f2 := f 2 (by omega)
  rw [Nat.add_zero] at f0
  rw [e46] at f1
  rw [e47] at f2
  unfold st89 tS
  rw [show (0 : Int32) = nJ 0 from rfl, f0, show (1 : Int32) = nJ 1 from rfl, f1, show (2 : Int32) = nJ 2 from rfl, f2, pk.2.1, has_t _ (by omega)]
  by_cases z : bz V (pI S (45 + 3 * i)) = true
  · rw [if_pos z, if_pos z]
  · rw [if_neg z, if_neg z]; exact Int32.add_zero a
end Wx
