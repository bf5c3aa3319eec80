/-! rows are copied; both keep the state; guards are changed -/
/-- a row is moved down in place -/
theorem csh {f : Int32 × ST → Option ((Int32 × ST) ⊕ (Int32 × ST))} {h o E d : Nat} {S : ST} (ho : o ≤ E) (hE : E < 1000) (hd : 0 < d) (hs : ∀ S1 i, Fm [h] [] S S1 → (∀ j, j < o ∨ i ≤ j → S1.1 h j = S.1 h j) → o ≤ i → i < E → f (nJ i, S1) = some (.inl (nJ (i + 1), wI S1 h i (S1.1 h (i + d))))) (he : ∀ S1, Fm [h] [] S S1 → (∀ j, j < o ∨ E ≤ j → S1.1 h j = S.1 h j) → f (nJ E, S1) = some (.inr (nJ E, S1))) : ∃ S', wh FU f (nJ o, S) = some (nJ E, S') ∧ Fm [h] [] S S' ∧ ∀ j, S'.1 h j = if o ≤ j ∧ j < E then S.1 h (j + d) else S.1 h j := by
  have key : ∃ r, wh FU f (nJ o, S) = some r ∧ r.1 = nJ E ∧ Fm [h] [] S r.2 ∧ ∀ j, r.2.1 h j = if o ≤ j ∧ j < E then S.1 h (j + d) else S.1 h j := by
    refine wh_inv (I := fun m x => ∃ i, i + m = E ∧ o ≤ i ∧ x.1 = nJ i ∧ Fm [h] [] S x.2 ∧ ∀ j, x.2.1 h j = if o ≤ j ∧ j < i then S.1 h (j + d) else S.1 h j) ?_ FU (E - o) _ (FU_lt (by omega)) ⟨o, by omega, Nat.le_refl _, rfl, Fm.rf, fun j => by rw [if_neg (by omega)]⟩
    rintro m ⟨y, S1⟩ ⟨i, hi, hoi, rfl, f1, w⟩
    dsimp only at f1 w ⊢
    have same : ∀ j, j < o ∨ i ≤ j → S1.1 h j = S.1 h j := fun j hj => by rw [w j, if_neg (by omega)]
    by_cases c : i < E
    · rw [hs S1 i f1 same hoi c]
      refine Or.inl ⟨_, m - 1, by omega, rfl, i + 1, by omega, by omega, rfl, f1.tr (Fm_a (by simp)), fun j => ?_⟩
      show (wI S1 h i (S1.1 h (i + d))).1 h j = _
      rw [wI_1]
      by_cases e : j = i
      · rw [if_pos ⟨rfl, e⟩, if_pos (by omega), e, same (i + d) (by omega)]
      · rw [if_neg (fun q => e q.2), w j]
        by_cases e2 : o ≤ j ∧ j < i
        · rw [if_pos e2, if_pos (by omega)]
        · rw [if_neg e2, if_neg (by omega)]
    · have : i = E := by omega
      subst this
      rw [he S1 f1 same]
      exact Or.inr ⟨_, rfl, rfl, f1, w⟩
  obtain ⟨⟨z, S'⟩, e, e1, w⟩ := key
  have e1 : z = nJ E := e1
  subst e1
  exact ⟨S', e, w⟩
section Ke
variable {S Sc T T' Sc' Sm : ST}
theorem l63 {i : Nat} (hi : i < 63) : nJ i < (63 : Int32) := (nJ_lt (j := 63) (by omega) (by omega)).mpr hi
theorem M297_eq {k : Nat} (hk : k ≤ 10) (S : ST) : ∃ S', F_297 (nJ k) S = some ((), S') ∧ Fm [142] [] S S' ∧ ∀ j, S'.1 142 j = if 63 * k ≤ j ∧ j < 63 * k + 63 then S.1 141 (j - 63 * k) else S.1 142 j := by
  obtain ⟨S', e, f, w⟩ := cpm (f := Lm_297_2 (nJ k)) (h := 142) (o := 63 * k) (N := 63) (v := fun i => S.1 141 i) (S := S) (by omega) (fun S1 i f1 hi => by
    unfold Lm_297_2
    dsimp only
    rw [if_pos (l63 hi), ck_t (ibd_n (by omega) (by omega)), show (63 : Int32) * nJ k = nJ (63 * k) from nJ_mul 63 k, nJ_add, ck_t (ibd_n (by omega) (by omega)), sbn_e, nJ_ix (by omega), nJ_ix (by omega), nJ_succ, f1.row (by decide) (by decide)]) (fun S1 _ => by
    unfold Lm_297_2
    dsimp only
    rw [if_neg (show ¬ nJ 63 < 63 by decide)])
  refine ⟨S', ?_, f, w⟩
  unfold F_297
  rw [e, ob_s]
theorem M305_eq (S : ST) : ∃ S', F_305 S = some ((), S') ∧ Fm [146] [] S S' ∧ ∀ j, j < 63 → S'.1 146 j = S.1 141 j := by
  obtain ⟨S', e, f, w⟩ := cpm (f := Lm_305_2) (h := 146) (o := 0) (N := 63) (v := fun i => S.1 141 i) (S := S) (by omega) (fun S1 i f1 hi => by
    unfold Lm_305_2
    dsimp only
    rw [if_pos (l63 hi), ck_t (ibd_n (by omega) (by omega)), ck_t (ibd_n (by omega) (by omega)), sbn_e, nJ_ix (by omega), nJ_succ, f1.row (by decide) (by decide), Nat.zero_add]) (fun S1 _ => by
    unfold Lm_305_2
    dsimp only
    rw [if_neg (show ¬ nJ 63 < 63 by decide)])
  refine ⟨S', ?_, f, fun j hj => by rw [w j, if_pos (by omega), Nat.sub_zero]⟩
  unfold F_305
  rw [e, ob_s]
theorem M304_147 {v : Int32} (S : ST) : ∃ S', wh FU (Lm_304_147 v) (0, S) = some (nJ 63, S') ∧ Fm [141] [] S S' ∧ ∀ j, j < 63 → S'.1 141 j = S.1 146 j := by
  obtain ⟨S', e, f, w⟩ := cpm (f := Lm_304_147 v) (h := 141) (o := 0) (N := 63) (v := fun i => S.1 146 i) (S := S) (by omega) (fun S1 i f1 hi => by
    unfold Lm_304_147
    dsimp only
    rw [if_pos (l63 hi), ck_t (ibd_n (by omega) (by omega)), ck_t (ibd_n (by omega) (by omega)), sbn_e, nJ_ix (by omega), nJ_succ, f1.row (by decide) (by decide), Nat.zero_add]) (fun S1 _ => by
    unfold Lm_304_147
    dsimp only
    rw [if_neg (show ¬ nJ 63 < 63 by decide)])
  exact ⟨S', e, f, fun j hj => by rw [w j, if_pos (by omega), Nat.sub_zero]⟩
theorem M298_2 {k : Nat} (hk : k ≤ 10) (S : ST) : ∃ S', wh FU (Lm_298_2 (nJ k)) (0, S) = some (nJ 63, S') ∧ Fm [141] [] S S' ∧ ∀ j, j < 63 → S'.1 141 j = S.1 142 (63 * k + j) := by
  obtain ⟨S', e, f, w⟩ := cpm (f := Lm_298_2 (nJ k)) (h := 141) (o := 0) (N := 63) (v := fun i => S.1 142 (63 * k + i)) (S := S) (by omega) (fun S1 i f1 hi => by
    unfold Lm_298_2
    dsimp only
    rw [if_pos (l63 hi), show (63 : Int32) * nJ k = nJ (63 * k) from nJ_mul 63 k, nJ_add, ck_t (ibd_n (by omega) (by omega)), ck_t (ibd_n (by omega) (by omega)), sbn_e, nJ_ix (by omega), nJ_ix (by omega), nJ_succ, f1.row (by decide) (by decide), Nat.zero_add]) (fun S1 _ => by
    unfold Lm_298_2
    dsimp only
    rw [if_neg (show ¬ nJ 63 < 63 by decide)])
  exact ⟨S', e, f, fun j hj => by rw [w j, if_pos (by omega), Nat.sub_zero]⟩
theorem M299_12 (S : ST) : ∃ S', wh FU Lm_299_12 (nJ 63, S) = some (nJ 504, S') ∧ Fm [142] [] S S' ∧ ∀ j, S'.1 142 j = if 63 ≤ j ∧ j < 504 then S.1 142 (j + 63) else S.1 142 j := by
  refine csh (by omega) (by omega) (by omega) (fun S1 i f1 _ ho hi => ?_) (fun S1 _ _ => ?_)
  · unfold Lm_299_12
    dsimp only
    rw [if_pos (show nJ i < 504 from (nJ_lt (j := 504) (by omega) (by omega)).mpr hi), show nJ i + 63 = nJ (i + 63) from nJ_add i 63, ck_t (ibd_n (by omega) (by omega)), ck_t (ibd_n (by omega) (by omega)), sbn_e, nJ_ix (by omega), nJ_ix (by omega), nJ_succ]
  · unfold Lm_299_12
    dsimp only
    rw [if_neg (show ¬ nJ 504 < 504 by decide)]
/-- the reference keeps its state -/
theorem M299_eq {c : Nat} (h4 : S.1 140 4 = nJ c) (hc : c ≤ 8) : ∃ S', F_299 S = some ((), S') ∧ Fm [142] [4] S S' ∧ S'.1 140 4 = nJ (if c = 8 then 8 else c + 1) ∧ (∀ k, k < (if c = 8 then 8 else c + 1) → ∀ j, j < 63 → S'.1 142 (63 * (1 + k) + j) = if c = 8 then (if k < 7 then S.1 142 (63 * (1 + (k + 1)) + j) else S.1 141 j) else if k < c then S.1 142 (63 * (1 + k) + j) else S.1 141 j) ∧ ∀ j, 567 ≤ j → S'.1 142 j = S.1 142 j := by
  unfold F_299
  rw [h4]
  by_cases q : c = 8
  · subst q
    rw [if_pos (show nJ 8 = 8 from rfl)]
    obtain ⟨S1, e1, f1, w1⟩ := M299_12 S
    rw [show ((63 : Int32), S) = (nJ 63, S) from rfl, e1, ob_s]
    dsimp only
    have k4 : S1.1 140 4 = nJ 8 := by rw [f1.fld (by decide) (by decide)]; exact h4
    rw [k4, show nJ 8 - 1 = nJ 7 from rfl, show (1 : Int32) + nJ 7 = nJ 8 from rfl]
    obtain ⟨S2, e2, f2, w2⟩ := M297_eq (k := 8) (by omega) (wI S1 140 4 (nJ 7))
    rw [e2, ob_s]
    dsimp only
    have k42 : S2.1 140 4 = nJ 7 := by rw [f2.fld (by decide) (by decide), wI_1, if_pos ⟨rfl, rfl⟩]
    rw [k42, nJ_succ]
    refine ⟨_, rfl, (((f1.wk (by decide) (by decide)).tr (Fm_f (by decide))).tr (f2.wk (by decide) (by decide))).tr (Fm_f (by decide)), ?_, fun k hk j hj => ?_, fun j hj => ?_⟩
    · rw [wI_1, if_pos ⟨rfl, rfl⟩, if_pos rfl]
    · rw [if_pos rfl] at hk ⊢
      rw [wI_1, if_neg (by omega), w2]
      by_cases z : k < 7
      · rw [if_neg (by omega), if_pos z, wI_1, if_neg (by omega), w1, if_pos (by omega), show 63 * (1 + k) + j + 63 = 63 * (1 + (k + 1)) + j by omega]
      · rw [if_pos (by omega), if_neg z, wI_1, if_neg (by omega), f1.row (by decide) (by decide), show 63 * (1 + k) + j - 63 * 8 = j by omega]
    · rw [wI_1, if_neg (by omega), w2, if_neg (by omega), wI_1, if_neg (by omega), w1, if_neg (by omega)]
  · rw [if_neg (show ¬ nJ c = 8 from fun z => q ((nJ_eq (j := 8) (by omega) (by omega)).mp z)), show (1 : Int32) + nJ c = nJ (1 + c) from nJ_add 1 c]
    obtain ⟨S2, e2, f2, w2⟩ := M297_eq (k := 1 + c) (by omega) S
    rw [e2, ob_s]
    dsimp only
    have k42 : S2.1 140 4 = nJ c := by rw [f2.fld (by decide) (by decide)]; exact h4
    rw [k42, nJ_succ]
    refine ⟨_, rfl, (f2.wk (by decide) (by decide)).tr (Fm_f (by decide)), ?_, fun k hk j hj => ?_, fun j hj => ?_⟩
    · rw [wI_1, if_pos ⟨rfl, rfl⟩, if_neg q]
    · rw [if_neg q] at hk ⊢
      rw [wI_1, if_neg (by omega), w2]
      by_cases z : k < c
      · rw [if_neg (by omega), if_pos z]
      · rw [if_pos (by omega), if_neg z, show 63 * (1 + k) + j - 63 * (1 + c) = j by omega]
    · rw [wI_1, if_neg (by omega), w2, if_neg (by omega)]
/-- both keep the state -/
theorem keep_eq (H : oH Sc T) (M : MOK T) (hy : ¬ T.1 140 1 = 0) (hp : PR Sc 3 (T.1 141)) : ∃ Sc' T', F_9 3 Sc = some ((), Sc') ∧ F_299 T = some ((), T') ∧ Fp (fun a => a = 47 ∨ (49 ≤ a ∧ a < 121)) Sc Sc' ∧ Fm [142] [4] T T' ∧ oH Sc' T' ∧ ∀ j, 567 ≤ j → T'.1 142 j = T.1 142 j := by
  obtain ⟨c, o, a1, a2, a3, a4, a5, a6, a7⟩ := H
  have g : GTh T 141 := ⟨(M.2.1 hy).1.1, (M.2.1 hy).2⟩
  obtain ⟨T', e2, f2, k4, w2, w3⟩ := M299_eq a1 a3
  obtain ⟨Sc', o', e1, f1, b1, b2, b3, b4⟩ := F9_eq a2 a3 a4 a5 a6 hp (GTh_cb g) (by omega)
  obtain ⟨c', c1, c2, c3⟩ := M.2.2.1
  have cc : c' = c := (nJ_eq (by omega) (by omega)).mp (c1.symm.trans a1)
  subst cc
  refine ⟨Sc', T', e1, e2, f1, f2, ⟨if c' = 8 then 8 else c' + 1, o', k4, b3, by split <;> omega, b2, b1, fun k hk => ?_, fun z => ?_⟩, w3⟩
  · have hb := b4 k hk
    have hw := w2 k hk
    dsimp only at hb
    show PR Sc' (sl8 (o' + k)) (fun j => T'.1 142 (63 * (1 + k) + j))
    by_cases q : c' = 8
    · rw [if_pos q] at hb
      simp only [if_pos q] at hw
      by_cases z : k < 7
      · rw [if_pos z] at hb
        simp only [if_pos z] at hw
        exact PR_row hb (GTh_cb (c3 (k + 1) (by omega))) hw
      · rw [if_neg z] at hb
        simp only [if_neg z] at hw
        exact PR_row hb (GTh_cb g) hw
    · rw [if_neg q] at hb
      simp only [if_neg q] at hw
      by_cases z : k < c'
      · rw [if_pos z] at hb
        simp only [if_pos z] at hw
        exact PR_row hb (GTh_cb (c3 k z)) hw
      · rw [if_neg z] at hb
        simp only [if_neg z] at hw
        exact PR_row hb (GTh_cb g) hw
  · rw [f2.fld (by decide) (by decide)] at z
    exact absurd z hy
/-- what is kept in the slots is still there -/
theorem oK_s {P : Nat → Prop} {hs fs : List Nat} (R : oK Sc T) (M : MOK T) (hC : Fp P Sc Sc') (c0 : ∀ a, 121 ≤ a → a < 139 → ¬ P a) (hM : Fm hs fs T T') (h0 : 140 ∉ hs) (h3 : 143 ∉ hs) (h2 : 1 ∉ fs) (w : ∀ j, 567 ≤ j → T'.1 142 j = T.1 142 j) : oK Sc' T' := by
  intro j hj
  rw [hM.row h3 (by decide), hM.fld h0 h2, (hC (121 + 9 * j) (c0 _ (by omega) (by omega))).1]
  rcases R j hj with q | ⟨q1, q2, q3⟩
  · exact Or.inl q
  · refine Or.inr ⟨q1, PR_row (PR_fp q2 hC (fun x hx => c0 x (by unfold pl9 at hx; omega) (by unfold pl9 at hx; omega))) (GTh_cb (M.2.2.2.1 j hj q1)) (fun i hi => ?_), q3⟩
    show T'.1 142 (63 * (9 + j) + i) = T.1 142 (63 * (9 + j) + i)
    exact w _ (by omega)
/-- a guard is changed behind it -/
theorem Ro_edit {S1 T1 S3 T3 : ST} (R : Ro Sc T) (M : MOK T) (Y : PY Sc T) (f1 : Fp (fun a => a = 47 ∨ (49 ≤ a ∧ a < 121)) Sc S1) (g1 : Fm [142] [4] T T1) (H : oH S1 T1) (w : ∀ j, 567 ≤ j → T1.1 142 j = T.1 142 j) (f3 : Fp (pl9 3) S1 S3) (g3 : Fm [141] [] T1 T3) (hPe : Pe (T1.1 141) (T3.1 141)) (hp : PR S3 3 (T3.1 141)) : Ro S3 T3 := by
  obtain ⟨r1, r2, r3, r4, r5, r6, r7⟩ := R
  have fC : Fp (fun a => a = 47 ∨ (49 ≤ a ∧ a < 121) ∨ pl9 3 a) Sc S3 := (f1.wk (fun a ha => by omega)).tr (f3.wk (fun a ha => Or.inr (Or.inr ha)))
  have fM : Fm [141, 142] [4] T T3 := (g1.wk (by decide) (by decide)).tr (g3.wk (by decide) (by decide))
  have e141 : T1.1 141 = T.1 141 := g1.row (by decide) (by decide)
  have hPe' : Pe (T.1 141) (T3.1 141) := by rw [← e141]; exact hPe
  have gs : gSa T T3 := ⟨hPe', fM.row (by decide) (by decide), fM.row (by decide) (by decide), fM.row (by decide) (by decide), fM.fld (by decide) (by decide)⟩
  have g := Y.2.2.2.1
  refine ⟨oB_f r1 fC (by unfold pl9; omega) (by unfold pl9; omega) fM (by decide) (by decide) (by decide), oE_f r2 fC (by unfold pl9; omega) fM (by decide) (by decide) (by decide), Or.inr ⟨by rw [fM.fld (by decide) (by decide)]; exact Y.1, hp, ?_⟩, oH_f H f3 (fun a _ _ => by unfold pl9; omega) g3 (by decide) (by decide) (by decide) (by decide), oK_s r5 M fC (fun a _ _ => by unfold pl9; omega) fM (by decide) (by decide) (by decide) (fun j hj => by rw [g3.row (by decide) (by decide)]; exact w j hj), oD_f r6 fC (by unfold pl9; omega) (by unfold pl9; omega) fM (by decide) (by decide) (by decide), fun _ => ?_⟩
  · rw [gSa_L gs g]
    exact LC_fp Y.2.1.2.1 fC (fun a ha => by unfold pl9; omega)
  · obtain ⟨c1, c2⟩ := r7 Y.1
    exact ⟨Ca_mv gs g fC (fun a _ _ => by unfold pl9; omega) c1, Cm_mv gs g fM (by decide) (by decide) (by decide) (by decide) (by decide) (by decide) (by decide) (by decide) c2⟩
end Ke
