/-! the farthest point, the diameter, on both sides -/
section Li
variable {M : ST} {r : Nat → Int64}
theorem rch_mono (hL : Ld M) (h : SR M r) {p : Nat} (hp : p < nP M) {q j : Nat} (hq : bz (rch (nP M) r (bt p) j) q = true) : ∀ k, j ≤ k → bz (rch (nP M) r (bt p) k) q = true := by
  intro k
  induction k with
  | zero => intro hk; rw [show j = 0 by omega] at hq; exact hq
  | succ k ih =>
    intro hk
    by_cases e : j = k + 1
    · rw [← e]; exact hq
    · exact uni_up hL h (rch_of hL h (bt_of hp (Ld_P hL).2) k) (ih (by omega))
/-- the greatest distance from p -/
def dpS (M : ST) (r : Nat → Int64) (p D : Nat) : Prop := 1 ≤ D ∧ D < 64 ∧ rch (nP M) r (bt p) D = aL (nP M) ∧ ∀ j, j < D → rch (nP M) r (bt p) j ≠ aL (nP M)
theorem dpS_u {p D D' : Nat} (h : dpS M r p D) (h' : dpS M r p D') : D = D' := by
  rcases Nat.lt_trichotomy D D' with z | z | z
  · exact absurd h.2.2.1 (h'.2.2.2 D z)
  · exact z
  · exact absurd h'.2.2.1 (h.2.2.2 D' z)
noncomputable def dpt (M : ST) (r : Nat → Int64) (p : Nat) : Nat := @dite Nat (∃ D, dpS M r p D) (Classical.propDecidable _) (fun h => Classical.choose h) (fun _ => 0)
theorem dpt_ok (hL : Ld M) (h : SR M r) {p : Nat} (hp : p < nP M) : dpS M r p (dpt M r p) := by
  have ex : ∃ D, dpS M r p D := by
    obtain ⟨D, a, b, c, d⟩ := rch_D hL h hp
    exact ⟨D, a, b, c, d⟩
  unfold dpt
  rw [dif_pos ex]
  exact Classical.choose_spec ex
/-- a point farthest from p -/
theorem dst_D (hL : Ld M) (h : SR M r) {p q D : Nat} (hp : p < nP M) (hq : q < nP M) (hD : dpS M r p D) : dst M r p q D ↔ bz (rch (nP M) r (bt p) (D - 1)) q = false := by
  have h64 := (Ld_P hL).2
  obtain ⟨d1, d2, d3, d4⟩ := hD
  constructor
  · intro z; exact z.2 (D - 1) (by omega)
  · intro z
    refine ⟨by rw [d3, aL_bz h64 (by omega)]; exact decide_eq_true hq, fun j hj => ?_⟩
    cases e : bz (rch (nP M) r (bt p) j) q with
    | false => rfl
    | true =>
      have := rch_mono hL h hp e (D - 1) (by omega)
      rw [z] at this
      cases this
theorem last_ex (hL : Ld M) (h : SR M r) {p D : Nat} (hp : p < nP M) (hD : dpS M r p D) : ∃ v, v < nP M ∧ dst M r p v D ∧ ∀ u, u < v → ¬ dst M r p u D := by
  have h64 := (Ld_P hL).2
  have ex : ∃ q, q < nP M ∧ bz (rch (nP M) r (bt p) (D - 1)) q = false := by
    apply Classical.byContradiction
    intro hn
    apply hD.2.2.2 (D - 1) (by have := hD.1; omega)
    apply bz_ext
    intro q hq
    rw [aL_bz h64 hq, Bool.eq_iff_iff, decide_eq_true_eq]
    constructor
    · exact rch_of hL h (bt_of hp h64) (D - 1) q
    · intro z
      cases e : bz (rch (nP M) r (bt p) (D - 1)) q with
      | true => rfl
      | false => exact absurd ⟨q, z, e⟩ hn
  obtain ⟨q, q1, q2⟩ := ex
  obtain ⟨v, v1, v2, v3⟩ := least_ex (P := fun v => dst M r p v D) q ((dst_D hL h hp q1 hD).mpr q2)
  exact ⟨v, by omega, v2, v3⟩
end Li
section Cl
variable {S M : ST}
theorem F78_eq (h : CSz S M) {p : Nat} (hp : p < nP M) : ∃ v, v < nP M ∧ dst M (S.2 31) p v (dpt M (S.2 31) p) ∧ (∀ u, u < v → ¬ dst M (S.2 31) p u (dpt M (S.2 31) p)) ∧ F_78 (nJ p) S = some (nJ v) := by
  have hL := h.1.2.2.1
  have h64 := (Ld_P hL).2
  have hD := dpt_ok hL h.2.1 hp
  obtain ⟨v, v1, v2, v3⟩ := last_ex hL h.2.1 hp hD
  refine ⟨v, v1, v2, v3, ?_⟩
  obtain ⟨D, eD⟩ : ∃ D, D = dpt M (S.2 31) p := ⟨_, rfl⟩
  rw [← eD] at hD v2 v3
  have d1 := hD.1
  have d2 := hD.2.1
  have := wh_ff (f := L_78_7 (nJ p) S) (e := fun i => (rch (nP M) (S.2 31) (bt p) i, nJ i)) (p := fun i => decide (rch (nP M) (S.2 31) (bt p) (i + 1) = aL (nP M))) (N := 64) (o := fun i => .inr (F_365 (rch (nP M) (S.2 31) (bt p) (i + 1) &&& (rch (nP M) (S.2 31) (bt p) i ^^^ (-1))))) (b := .inl (rch (nP M) (S.2 31) (bt p) 64, nJ 64)) (fun i hi hb => by
    unfold L_78_7
    dsimp only
    rw [if_pos (show nJ i < 64 from (nJ_lt (j := 64) (by omega) (by omega)).mpr hi), F74_cs h, ob_s, show F_71 S = aL (nP M) from F21_eq h.1, if_pos (show uni (nP M) (S.2 31) (rch (nP M) (S.2 31) (bt p) i) = aL (nP M) from of_decide_eq_true hb)]
    rfl) (fun i hi hb => by
    unfold L_78_7
    dsimp only
    rw [if_pos (show nJ i < 64 from (nJ_lt (j := 64) (by omega) (by omega)).mpr hi), F74_cs h, ob_s, show F_71 S = aL (nP M) from F21_eq h.1, if_neg (show ¬ uni (nP M) (S.2 31) (rch (nP M) (S.2 31) (bt p) i) = aL (nP M) from of_decide_eq_false hb), nJ_succ]
    rfl) (by
    unfold L_78_7
    dsimp only
    rw [if_neg (show ¬ nJ 64 < 64 by decide)]) 64 0 FU (by omega) (FU_lt (by omega))
  unfold F_78
  rw [show ((1 : Int64) <<< (Int32.toInt64 (nJ p) &&& 63), (0 : Int32)) = (rch (nP M) (S.2 31) (bt p) 0, nJ 0) from rfl, this, ob_s]
  cases e : ff (fun i => decide (rch (nP M) (S.2 31) (bt p) (i + 1) = aL (nP M))) 0 64 with
  | none =>
    have := of_decide_eq_false (ff_none e (D - 1) (Nat.zero_le _) (by omega))
    rw [show D - 1 + 1 = D by omega] at this
    exact absurd hD.2.2.1 this
  | some i =>
    obtain ⟨-, i2, i3, i4⟩ := ff_some e
    have i3 := of_decide_eq_true i3
    have ei : i = D - 1 := by
      rcases Nat.lt_trichotomy i (D - 1) with z | z | z
      · exact absurd i3 (hD.2.2.2 (i + 1) (by omega))
      · exact z
      · have := of_decide_eq_false (i4 (D - 1) (Nat.zero_le _) z)
        rw [show D - 1 + 1 = D by omega] at this
        exact absurd hD.2.2.1 this
    subst ei
    show some (F_365 _) = _
    refine congrArg some (F365_lo (by omega) ?_ ?_)
    · rw [show D - 1 + 1 = D by omega, hD.2.2.1, bz_and, aL_bz h64 (by omega), bz_not _ (by omega), (dst_D hL h.2.1 hp v1 hD).mp v2, decide_eq_true v1]
      rfl
    · intro j hj
      rw [show D - 1 + 1 = D by omega, hD.2.2.1, bz_and, aL_bz h64 (by omega), bz_not _ (by omega)]
      have := mt (dst_D hL h.2.1 hp (q := j) (by omega) hD).mpr (v3 j hj)
      cases e : bz (rch (nP M) (S.2 31) (bt p) (D - 1)) j with
      | true => simp
      | false => exact absurd e this
def mxF (f : Nat → Nat) (i : Nat) (a : Int32) : Int32 := if a < nJ (f i) then nJ (f i) else a
theorem F79_eq (h : CSz S M) : F_79 S = some (fr (mxF (dpt M (S.2 31))) 0 (nP M) 0) := by
  have hL := h.1.2.2.1
  have h64 := (Ld_P hL).2
  unfold F_79
  have := wh_fr (f := L_79_4 S) (fun i (a : Int32) => (a, nJ i)) (mxF (dpt M (S.2 31))) (nP M) (fun a => (a, nJ (nP M))) (fun i a hi => by
    obtain ⟨v, v1, v2, v3, e1⟩ := F78_eq h hi
    obtain ⟨k, k1, k2, e2⟩ := F77_eq h hi v1
    rw [dst_u k2 v2] at e2
    unfold L_79_4
    dsimp only
    rw [F72_eq h.1, if_pos ((nJ_lt (by omega) (by omega)).mpr hi), e1, ob_s, e2, ob_s, nJ_succ]
    rfl) (fun a => by
    unfold L_79_4
    dsimp only
    rw [F72_eq h.1, if_neg (fun z => by have := (nJ_lt (by omega) (by omega)).mp z; omega)]) (FU_lt (by omega)) 0
  rw [show ((0 : Int32), (0 : Int32)) = (0, nJ 0) from rfl, this, ob_s]
end Cl
/-- the reference's rows, where they are laid, are right -/
def KR (S : ST) : Prop := S.1 140 27 = 0 ∨ (SR S (S.2 153) ∧ ER S (S.2 153) (S.2 154))
section Re
variable {S : ST}
theorem SR_fm {S' : ST} {r : Nat → Int64} (eP : nP S' = nP S) (eL : rL S' 141 = rL S 141) (ept : ∀ p, pt S' p = pt S p) : SR S' r ↔ SR S r := by
  unfold SR
  rw [eP, eL]
  simp only [ept]
theorem lay (hL : Ld S) (hK : KR S) : ∃ S', F_239 S = some ((), S') ∧ Fm [150, 151, 152, 153, 154] [27, 34, 36] S S' ∧ MS S' ∧ ¬ S'.1 140 27 = 0 ∧ F_239 S' = some ((), S') ∧ ((S.1 140 27 = 0 ∧ S'.1 140 34 = 0 ∧ S'.1 140 36 = 0) ∨ (¬ S.1 140 27 = 0 ∧ S' = S)) := by
  by_cases h0 : S.1 140 27 = 0
  · obtain ⟨S', e, f, e27, e34, e36, sr, er⟩ := F239_eq hL h0
    obtain ⟨L', eL, eP, ept⟩ := Ld_fm hL f (by decide) (by decide) (by decide) (by decide) (by decide) (by decide)
    have n27 : ¬ S'.1 140 27 = 0 := by rw [e27]; decide
    have e141 := f.row (a := 141) (by decide) (by decide)
    refine ⟨S', e, f, ⟨L', (SR_fm eP eL ept).mpr sr, ?_⟩, n27, by unfold F_239; rw [if_neg n27], Or.inl ⟨h0, e34, e36⟩⟩
    intro i hi q hq
    have eN : rN S' 141 = rN S 141 := rN_row e141
    have eR : ∀ k, rP S' 141 k = rP S 141 k := fun k => by unfold rP; rw [e141]
    rw [eP, eR, eN, eR]
    simp only [ept]
    exact er i (by rw [← eN]; exact hi) q hq
  · have k := hK.resolve_left h0
    exact ⟨S, by unfold F_239; rw [if_neg h0], Fm.rf, ⟨hL, k.1, k.2⟩, h0, by unfold F_239; rw [if_neg h0], Or.inr ⟨h0, rfl⟩⟩
theorem F244_lay {S' : ST} {v : Int32} (e : F_239 S = some ((), S')) (e' : F_239 S' = some ((), S')) : F_244 v S = F_244 v S' := by
  unfold F_244
  rw [e, e']
/-- laysLinks over a laid sight, by the greatest distance -/
theorem F244_D (h : MS S) (h27 : ¬ S.1 140 27 = 0) {p : Nat} (hp : p < nP S) : ∃ S', F_244 (nJ p) S = some (nJ (dpt S (S.2 153) p), S') ∧ Fm [155] [] S S' ∧ ∀ q, q < nP S → ∃ k, k < 64 ∧ S'.1 155 q = nJ k ∧ dst S (S.2 153) p q k := by
  obtain ⟨D, S', e, f, a, b, c, d, w⟩ := F244_eq h h27 hp
  have : D = dpt S (S.2 153) p := dpS_u ⟨a, b, c, d⟩ (dpt_ok h.1 h.2.1 hp)
  rw [this] at e
  exact ⟨S', e, f, w⟩
theorem dpt_cg {M M' : ST} {r r' : Nat → Int64} (eP : nP M' = nP M) (hr : ∀ p, p < nP M → r' p = r p) (p : Nat) : dpt M' r' p = dpt M r p := by
  have : dpS M' r' p = dpS M r p := by
    funext D
    unfold dpS
    rw [eP]
    have e : rch (nP M) r' (bt p) = rch (nP M) r (bt p) := funext fun k => rch_cong hr (bt p) k
    rw [e]
  unfold dpt
  rw [this]
theorem M246_13 (h : MS S) (h27 : ¬ S.1 140 27 = 0) : ∃ S', wh FU Lm_246_13 (0, 0, S) = some (fr (mxF (dpt S (S.2 153))) 0 (nP S) 0, nJ (nP S), S') ∧ Fm [155] [] S S' := by
  have hP := Ld_P h.1
  have key : ∃ r, wh FU Lm_246_13 (0, 0, S) = some r ∧ ∃ S', r = (fr (mxF (dpt S (S.2 153))) 0 (nP S) 0, nJ (nP S), S') ∧ Fm [155] [] S S' := by
    refine wh_inv (I := fun m x => ∃ i S', i + m = nP S ∧ x = (fr (mxF (dpt S (S.2 153))) 0 i 0, nJ i, S') ∧ Fm [155] [] S S') ?_ FU (nP S) _ (FU_lt (by omega)) ⟨0, S, by omega, rfl, Fm.rf⟩
    rintro m x ⟨i, S1, hi, rfl, f1⟩
    obtain ⟨h1, eP, e3, -⟩ := MS_fm h f1 (by decide) (by decide) (by decide) (by decide) (by decide) (by decide) (by decide) (by decide)
    unfold Lm_246_13
    dsimp only
    rw [f1.fld (by decide) (by decide), hP.1]
    by_cases c : i < nP S
    · rw [if_pos ((nJ_lt (by omega) (by omega)).mpr c)]
      obtain ⟨S2, e2, f2, -⟩ := F244_D h1 (by rw [f1.fld (by decide) (by decide)]; exact h27) (p := i) (by omega)
      rw [e2, ob_s, nJ_succ, dpt_cg eP (fun p _ => by rw [e3])]
      refine Or.inl ⟨_, m - 1, by omega, rfl, i + 1, S2, by omega, ?_, f1.tr f2⟩
      rw [fr_snoc, Nat.zero_add]
      rfl
    · rw [if_neg (fun z => c ((nJ_lt (by omega) (by omega)).mp z))]
      have ei : i = nP S := by omega
      rw [ei]
      exact Or.inr ⟨_, rfl, S1, rfl, f1⟩
  obtain ⟨r, e, S', rfl, w⟩ := key
  exact ⟨S', e, w⟩
/-- the first farthest, by the links laid -/
theorem M247_18 (h : MS S) {S1 : ST} {p D : Nat} (hp : p < nP S) (hD : dpS S (S.2 153) p D) (w : ∀ q, q < nP S → ∃ k, k < 64 ∧ S1.1 155 q = nJ k ∧ dst S (S.2 153) p q k) (v1 : Int32) : ∃ v, v < nP S ∧ dst S (S.2 153) p v D ∧ (∀ u, u < v → ¬ dst S (S.2 153) p u D) ∧ wh FU (Lm_247_18 v1 (nJ D) S1) 0 = some (nJ v) := by
  have hP := Ld_P h.1
  obtain ⟨v, v1', v2, v3⟩ := last_ex h.1 h.2.1 hp hD
  have d2 := hD.2.1
  refine ⟨v, v1', v2, v3, ?_⟩
  have key : ∃ r, wh FU (Lm_247_18 v1 (nJ D) S1) (nJ 0) = some r ∧ r = nJ v := by
    refine wh_inv (I := fun m x => ∃ i, i + m = v ∧ x = nJ i) ?_ FU v _ (FU_lt (by omega)) ⟨0, by omega, rfl⟩
    rintro m x ⟨i, hi, rfl⟩
    unfold Lm_247_18
    obtain ⟨k, k1, k2, k3⟩ := w i (by omega)
    rw [ck_t (ibd_n (by omega) (by omega)), nJ_ix (by omega), k2]
    by_cases c : i = v
    · subst c
      rw [dst_u k3 v2, if_pos rfl]
      exact Or.inr ⟨_, rfl, rfl⟩
    · have : ¬ k = D := fun z => by rw [z] at k3; exact v3 i (by omega) k3
      rw [if_neg (fun z => this ((nJ_eq (by omega) (by omega)).mp z)), nJ_succ]
      exact Or.inl ⟨_, m - 1, by omega, rfl, i + 1, by omega, rfl⟩
  obtain ⟨r, e, rfl⟩ := key
  exact e
end Re
