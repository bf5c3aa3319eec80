/-! the class's plans: guards, treasures, corners put in, moved, taken out (printed by mk_zn5.py) -/
section Ed
variable {S : ST} {h : Nat} {ρ : Nat → Int32}

theorem F55_eq (hp : PR S h ρ) (hc : cb ρ) {G : Nat} (e1 : ρ 1 = nJ G) (hG : G < 6) (x y v : Int32) : ∃ S', F_55 h x y v S = some ((), S') ∧ Fp (pl9 h) S S' ∧ ∀ ρ' : Nat → Int32, (∀ j, j < 63 → ρ' j = if j = 1 then nJ (G + 1) else if j = 27 + 3 * G then x else if j = 28 + 3 * G then y else if j = 29 + 3 * G then v else ρ j) → PR S' h ρ' := by
  obtain ⟨⟨n, n1, n2⟩, ⟨g, g1, g2⟩, t, t1, t2⟩ := hc
  obtain ⟨⟨a0, a1, a2⟩, b, c, d⟩ := hp
  have ib : ibd (nJ G) 6 = true := ibd_n (by omega) (by omega)
  have ik : Int32.toNatClampNeg (nJ G) = G := nJ_ix (by omega)
  have c1 : S.1 h 1 = nJ G := by rw [a1, e1]
  have r3 : ∀ (S1 : ST) q w, (wI S1 (h + 3) q w).1 h 1 = S1.1 h 1 := fun S1 q w => by rw [wI_1, if_neg (by omega)]
  have r4 : ∀ (S1 : ST) q w, (wI S1 (h + 4) q w).1 h 1 = S1.1 h 1 := fun S1 q w => by rw [wI_1, if_neg (by omega)]
  have r5 : ∀ (S1 : ST) q w, (wI S1 (h + 5) q w).1 h 1 = S1.1 h 1 := fun S1 q w => by rw [wI_1, if_neg (by omega)]
  unfold F_55
  rw [c1, if_pos (show nJ G < 6 from (nJ_lt (j := 6) (by omega) (by omega)).mpr hG)]
  simp only [sbn_e, r3, r4, r5, c1, ib, ik, ck_tt]
  refine ⟨_, rfl, ?_, ?_⟩
  · refine Fp.tr (Fp.tr (Fp.tr (Fp_I ?_) (Fp_I ?_)) (Fp_I ?_)) (Fp_I ?_) <;> (unfold pl9; omega)
  · intro ρ' he
    have p0 : ρ' 0 = ρ 0 := by rw [he 0 (by omega)]; repeat (first | rw [if_neg (by omega)] | rw [if_pos (by omega)])
    have p1 : ρ' 1 = nJ (G + 1) := by rw [he 1 (by omega), if_pos rfl]
    have p2 : ρ' 2 = ρ 2 := by rw [he 2 (by omega)]; repeat (first | rw [if_neg (by omega)] | rw [if_pos (by omega)])
    refine ⟨⟨?_, ?_, ?_⟩, fun i hi => ?_, fun i hi => ?_, fun i hi => ?_⟩
    · rw [p0, ← a0]; simp [wI_1]
    · first | (rw [p1]; simp [wI_1, nJ_succ]; done) | (rw [p2, ← a2]; simp [wI_1])
    · first | (rw [p1]; simp [wI_1, nJ_succ]; done) | (rw [p2, ← a2]; simp [wI_1])
    · rw [p0] at hi
      have hi' := hi
      rw [n1, nJ_ix (by omega)] at hi'
      obtain ⟨b1, b2⟩ := b i hi
      rw [he _ (by omega), he (15 + i) (by omega)]
      repeat (first | rw [if_neg (by omega)] | rw [if_pos (by omega)])
      rw [← b1, ← b2]
      exact ⟨by simp [wI_1], by simp [wI_1]⟩
    · rw [p1, nJ_ix (by omega)] at hi
      rw [he _ (by omega), he (28 + 3 * i) (by omega), he (29 + 3 * i) (by omega)]
      by_cases q : i = G
      · subst q
        repeat (first | rw [if_neg (by omega)] | rw [if_pos (by omega)])
        exact ⟨by simp [wI_1], by simp [wI_1], by simp [wI_1]⟩
      · obtain ⟨b1, b2, b3⟩ := c i (by rw [e1, nJ_ix (by omega)]; omega)
        repeat (first | rw [if_neg (by omega)] | rw [if_pos (by omega)])
        rw [← b1, ← b2, ← b3]
        exact ⟨by simp [wI_1, q], by simp [wI_1, q], by simp [wI_1, q]⟩
    · rw [p2] at hi
      have hi' := hi
      rw [t1, nJ_ix (by omega)] at hi'
      obtain ⟨b1, b2, b3⟩ := d i hi
      rw [he _ (by omega), he (46 + 3 * i) (by omega), he (47 + 3 * i) (by omega)]
      repeat (first | rw [if_neg (by omega)] | rw [if_pos (by omega)])
      rw [← b1, ← b2, ← b3]
      exact ⟨by simp [wI_1], by simp [wI_1], by simp [wI_1]⟩


theorem F63_eq (hp : PR S h ρ) (hc : cb ρ) {G : Nat} (e1 : ρ 2 = nJ G) (hG : G < 6) (x y v : Int32) : ∃ S', F_63 h x y v S = some ((), S') ∧ Fp (pl9 h) S S' ∧ ∀ ρ' : Nat → Int32, (∀ j, j < 63 → ρ' j = if j = 2 then nJ (G + 1) else if j = 45 + 3 * G then x else if j = 46 + 3 * G then y else if j = 47 + 3 * G then v else ρ j) → PR S' h ρ' := by
  obtain ⟨⟨n, n1, n2⟩, ⟨g, g1, g2⟩, t, t1, t2⟩ := hc
  obtain ⟨⟨a0, a1, a2⟩, b, c, d⟩ := hp
  have ib : ibd (nJ G) 6 = true := ibd_n (by omega) (by omega)
  have ik : Int32.toNatClampNeg (nJ G) = G := nJ_ix (by omega)
  have c1 : S.1 h 2 = nJ G := by rw [a2, e1]
  have r3 : ∀ (S1 : ST) q w, (wI S1 (h + 6) q w).1 h 2 = S1.1 h 2 := fun S1 q w => by rw [wI_1, if_neg (by omega)]
  have r4 : ∀ (S1 : ST) q w, (wI S1 (h + 7) q w).1 h 2 = S1.1 h 2 := fun S1 q w => by rw [wI_1, if_neg (by omega)]
  have r5 : ∀ (S1 : ST) q w, (wI S1 (h + 8) q w).1 h 2 = S1.1 h 2 := fun S1 q w => by rw [wI_1, if_neg (by omega)]
  unfold F_63
  rw [c1, if_pos (show nJ G < 6 from (nJ_lt (j := 6) (by omega) (by omega)).mpr hG)]
  simp only [sbn_e, r3, r4, r5, c1, ib, ik, ck_tt]
  refine ⟨_, rfl, ?_, ?_⟩
  · refine Fp.tr (Fp.tr (Fp.tr (Fp_I ?_) (Fp_I ?_)) (Fp_I ?_)) (Fp_I ?_) <;> (unfold pl9; omega)
  · intro ρ' he
    have p0 : ρ' 0 = ρ 0 := by rw [he 0 (by omega)]; repeat (first | rw [if_neg (by omega)] | rw [if_pos (by omega)])
    have p1 : ρ' 2 = nJ (G + 1) := by rw [he 2 (by omega), if_pos rfl]
    have p2 : ρ' 1 = ρ 1 := by rw [he 1 (by omega)]; repeat (first | rw [if_neg (by omega)] | rw [if_pos (by omega)])
    refine ⟨⟨?_, ?_, ?_⟩, fun i hi => ?_, fun i hi => ?_, fun i hi => ?_⟩
    · rw [p0, ← a0]; simp [wI_1]
    · first | (rw [p1]; simp [wI_1, nJ_succ]; done) | (rw [p2, ← a1]; simp [wI_1])
    · first | (rw [p1]; simp [wI_1, nJ_succ]; done) | (rw [p2, ← a1]; simp [wI_1])
    · rw [p0] at hi
      have hi' := hi
      rw [n1, nJ_ix (by omega)] at hi'
      obtain ⟨b1, b2⟩ := b i hi
      rw [he _ (by omega), he (15 + i) (by omega)]
      repeat (first | rw [if_neg (by omega)] | rw [if_pos (by omega)])
      rw [← b1, ← b2]
      exact ⟨by simp [wI_1], by simp [wI_1]⟩
    · rw [p2] at hi
      have hi' := hi
      rw [g1, nJ_ix (by omega)] at hi'
      obtain ⟨b1, b2, b3⟩ := c i hi
      rw [he _ (by omega), he (28 + 3 * i) (by omega), he (29 + 3 * i) (by omega)]
      repeat (first | rw [if_neg (by omega)] | rw [if_pos (by omega)])
      rw [← b1, ← b2, ← b3]
      exact ⟨by simp [wI_1], by simp [wI_1], by simp [wI_1]⟩
    · rw [p1, nJ_ix (by omega)] at hi
      rw [he _ (by omega), he (46 + 3 * i) (by omega), he (47 + 3 * i) (by omega)]
      by_cases q : i = G
      · subst q
        repeat (first | rw [if_neg (by omega)] | rw [if_pos (by omega)])
        exact ⟨by simp [wI_1], by simp [wI_1], by simp [wI_1]⟩
      · obtain ⟨b1, b2, b3⟩ := d i (by rw [e1, nJ_ix (by omega)]; omega)
        repeat (first | rw [if_neg (by omega)] | rw [if_pos (by omega)])
        rw [← b1, ← b2, ← b3]
        exact ⟨by simp [wI_1, q], by simp [wI_1, q], by simp [wI_1, q]⟩

theorem F56_eq (hp : PR S h ρ) (hc : cb ρ) {G g0 : Nat} (e1 : ρ 1 = nJ G) (hG : G ≤ 6) (hg : g0 < G) (x y : Int32) : ∃ S', F_56 h (nJ g0) x y S = some ((), S') ∧ Fp (pl9 h) S S' ∧ ∀ ρ' : Nat → Int32, (∀ j, j < 63 → ρ' j = if j = 27 + 3 * g0 then x else if j = 28 + 3 * g0 then y else ρ j) → PR S' h ρ' := by
  obtain ⟨⟨n, n1, n2⟩, -, t, t1, t2⟩ := hc
  obtain ⟨⟨a0, a1, a2⟩, b, c, d⟩ := hp
  have ik : Int32.toNatClampNeg (nJ g0) = g0 := nJ_ix (by omega)
  unfold F_56
  rw [if_neg (nJ_nn (by omega)), a1, e1, if_pos ((nJ_lt (by omega) (by omega)).mpr hg), ck_t (ibd_n (by omega) (by omega)), sbn_e, ck_t (ibd_n (by omega) (by omega)), sbn_e, ik]
  refine ⟨_, rfl, ?_, ?_⟩
  · refine Fp.tr (Fp_I ?_) (Fp_I ?_) <;> (unfold pl9; omega)
  · intro ρ' he
    have p0 : ρ' 0 = ρ 0 := by rw [he 0 (by omega)]; repeat (first | rw [if_neg (by omega)] | rw [if_pos (by omega)])
    have p1 : ρ' 1 = ρ 1 := by rw [he 1 (by omega)]; repeat (first | rw [if_neg (by omega)] | rw [if_pos (by omega)])
    have p2 : ρ' 2 = ρ 2 := by rw [he 2 (by omega)]; repeat (first | rw [if_neg (by omega)] | rw [if_pos (by omega)])
    refine ⟨⟨?_, ?_, ?_⟩, fun i hi => ?_, fun i hi => ?_, fun i hi => ?_⟩
    · rw [p0, ← a0]; simp [wI_1]
    · rw [p1, ← a1]; simp [wI_1]
    · rw [p2, ← a2]; simp [wI_1]
    · rw [p0] at hi
      have hi' := hi
      rw [n1, nJ_ix (by omega)] at hi'
      obtain ⟨b1, b2⟩ := b i hi
      rw [he _ (by omega), he (15 + i) (by omega)]
      repeat (first | rw [if_neg (by omega)] | rw [if_pos (by omega)])
      rw [← b1, ← b2]
      exact ⟨by simp [wI_1], by simp [wI_1]⟩
    · rw [p1] at hi
      obtain ⟨b1, b2, b3⟩ := c i hi
      rw [e1, nJ_ix (by omega)] at hi
      rw [he _ (by omega), he (28 + 3 * i) (by omega), he (29 + 3 * i) (by omega)]
      by_cases q : i = g0
      · subst q
        repeat (first | rw [if_neg (by omega)] | rw [if_pos (by omega)])
        rw [← b3]
        exact ⟨by simp [wI_1], by simp [wI_1], by simp [wI_1]⟩
      · repeat (first | rw [if_neg (by omega)] | rw [if_pos (by omega)])
        rw [← b1, ← b2, ← b3]
        exact ⟨by simp [wI_1, q], by simp [wI_1, q], by simp [wI_1]⟩
    · rw [p2] at hi
      have hi' := hi
      rw [t1, nJ_ix (by omega)] at hi'
      obtain ⟨b1, b2, b3⟩ := d i hi
      rw [he _ (by omega), he (46 + 3 * i) (by omega), he (47 + 3 * i) (by omega)]
      repeat (first | rw [if_neg (by omega)] | rw [if_pos (by omega)])
      rw [← b1, ← b2, ← b3]
      exact ⟨by simp [wI_1], by simp [wI_1], by simp [wI_1]⟩
theorem F57_eq (hp : PR S h ρ) (hc : cb ρ) {G g0 : Nat} (e1 : ρ 1 = nJ G) (hG : G ≤ 6) (hg : g0 < G) (x : Int32) : ∃ S', F_57 h (nJ g0) x S = some ((), S') ∧ Fp (pl9 h) S S' ∧ ∀ ρ' : Nat → Int32, (∀ j, j < 63 → ρ' j = if j = 29 + 3 * g0 then x else ρ j) → PR S' h ρ' := by
  obtain ⟨⟨n, n1, n2⟩, -, t, t1, t2⟩ := hc
  obtain ⟨⟨a0, a1, a2⟩, b, c, d⟩ := hp
  have ik : Int32.toNatClampNeg (nJ g0) = g0 := nJ_ix (by omega)
  unfold F_57
  rw [if_neg (nJ_nn (by omega)), a1, e1, if_pos ((nJ_lt (by omega) (by omega)).mpr hg), ck_t (ibd_n (by omega) (by omega)), sbn_e, ik]
  refine ⟨_, rfl, ?_, ?_⟩
  · refine Fp_I ?_ <;> (unfold pl9; omega)
  · intro ρ' he
    have p0 : ρ' 0 = ρ 0 := by rw [he 0 (by omega)]; repeat (first | rw [if_neg (by omega)] | rw [if_pos (by omega)])
    have p1 : ρ' 1 = ρ 1 := by rw [he 1 (by omega)]; repeat (first | rw [if_neg (by omega)] | rw [if_pos (by omega)])
    have p2 : ρ' 2 = ρ 2 := by rw [he 2 (by omega)]; repeat (first | rw [if_neg (by omega)] | rw [if_pos (by omega)])
    refine ⟨⟨?_, ?_, ?_⟩, fun i hi => ?_, fun i hi => ?_, fun i hi => ?_⟩
    · rw [p0, ← a0]; simp [wI_1]
    · rw [p1, ← a1]; simp [wI_1]
    · rw [p2, ← a2]; simp [wI_1]
    · rw [p0] at hi
      have hi' := hi
      rw [n1, nJ_ix (by omega)] at hi'
      obtain ⟨b1, b2⟩ := b i hi
      rw [he _ (by omega), he (15 + i) (by omega)]
      repeat (first | rw [if_neg (by omega)] | rw [if_pos (by omega)])
      rw [← b1, ← b2]
      exact ⟨by simp [wI_1], by simp [wI_1]⟩
    · rw [p1] at hi
      obtain ⟨b1, b2, b3⟩ := c i hi
      rw [e1, nJ_ix (by omega)] at hi
      rw [he _ (by omega), he (28 + 3 * i) (by omega), he (29 + 3 * i) (by omega)]
      by_cases q : i = g0
      · subst q
        repeat (first | rw [if_neg (by omega)] | rw [if_pos (by omega)])
        rw [← b1, ← b2]
        exact ⟨by simp [wI_1], by simp [wI_1], by simp [wI_1]⟩
      · repeat (first | rw [if_neg (by omega)] | rw [if_pos (by omega)])
        rw [← b1, ← b2, ← b3]
        exact ⟨by simp [wI_1], by simp [wI_1], by simp [wI_1, q]⟩
    · rw [p2] at hi
      have hi' := hi
      rw [t1, nJ_ix (by omega)] at hi'
      obtain ⟨b1, b2, b3⟩ := d i hi
      rw [he _ (by omega), he (46 + 3 * i) (by omega), he (47 + 3 * i) (by omega)]
      repeat (first | rw [if_neg (by omega)] | rw [if_pos (by omega)])
      rw [← b1, ← b2, ← b3]
      exact ⟨by simp [wI_1], by simp [wI_1], by simp [wI_1]⟩
/-- a guard taken out -/
theorem F58_eq (hp : PR S h ρ) (hc : cb ρ) {G g0 : Nat} (e1 : ρ 1 = nJ G) (hG : G ≤ 6) (hg : g0 < G) : ∃ S', F_58 h (nJ g0) S = some ((), S') ∧ Fp (pl9 h) S S' ∧ S'.1 h 1 = nJ (G - 1) ∧ ∀ ρ' : Nat → Int32, (∀ j, j < 63 → (j < 27 ∨ 45 ≤ j) → j ≠ 1 → ρ' j = ρ j) → ρ' 1 = nJ (G - 1) → (∀ j, 27 ≤ j → j < 27 + 3 * (G - 1) → ρ' j = if j < 27 + 3 * g0 then ρ j else ρ (j + 3)) → PR S' h ρ' := by
  obtain ⟨⟨n, n1, n2⟩, -, t, t1, t2⟩ := hc
  obtain ⟨⟨a0, a1, a2⟩, b, c, d⟩ := hp
  have key : ∃ r, wh FU (L_58_15 h (nJ g0)) (nJ g0, S) = some r ∧ (Fp (fun a => h + 3 ≤ a ∧ a < h + 6) S r.2 ∧ ∀ j, j = 3 ∨ j = 4 ∨ j = 5 → ∀ q, r.2.1 (h + j) q = if g0 ≤ q ∧ q < G - 1 then S.1 (h + j) (q + 1) else S.1 (h + j) q) := by
    refine wh_inv (I := fun m a => ∃ i S1, i + m = G - 1 ∧ g0 ≤ i ∧ a = (nJ i, S1) ∧ Fp (fun a => h + 3 ≤ a ∧ a < h + 6) S S1 ∧ ∀ j, j = 3 ∨ j = 4 ∨ j = 5 → ∀ q, S1.1 (h + j) q = if g0 ≤ q ∧ q < i then S.1 (h + j) (q + 1) else S.1 (h + j) q) ?_ FU (G - 1 - g0) _ (FU_lt (by omega)) ⟨g0, S, by omega, Nat.le_refl _, rfl, Fp.rf, fun j hj q => by rw [if_neg (by omega)]⟩
    rintro m a ⟨i, S1, hi, h0, rfl, f1, v1⟩
    unfold L_58_15
    dsimp only
    rw [nJ_succ, (f1 h (by omega)).1, a1, e1]
    by_cases q : i + 1 < G
    · rw [if_pos ((nJ_lt (by omega) (by omega)).mpr q), ck_t (ibd_n (by omega) (by omega)), ck_t (ibd_n (by omega) (by omega)), sbn_e, ck_t (ibd_n (by omega) (by omega)), ck_t (ibd_n (by omega) (by omega)), sbn_e, ck_t (ibd_n (by omega) (by omega)), ck_t (ibd_n (by omega) (by omega)), sbn_e, nJ_ix (by omega), nJ_ix (by omega)]
      refine Or.inl ⟨_, m - 1, by omega, rfl, i + 1, _, by omega, by omega, rfl, f1.tr (Fp.tr (Fp.tr (Fp_I (by omega)) (Fp_I (by omega))) (Fp_I (by omega))), ?_⟩
      rintro j (rfl | rfl | rfl) k
      · have := v1 3 (by omega)
        simp only [wI_1, this]
        by_cases e : k = i
        · subst e; simp; repeat (first | rw [if_neg (by omega)] | rw [if_pos (by omega)])
        · simp [e]
          by_cases z : g0 ≤ k ∧ k < i
          · rw [if_pos z, if_pos (by omega)]
          · rw [if_neg z, if_neg (by omega)]
      · have := v1 4 (by omega)
        simp only [wI_1, this]
        by_cases e : k = i
        · subst e; simp; repeat (first | rw [if_neg (by omega)] | rw [if_pos (by omega)])
        · simp [e]
          by_cases z : g0 ≤ k ∧ k < i
          · rw [if_pos z, if_pos (by omega)]
          · rw [if_neg z, if_neg (by omega)]
      · have := v1 5 (by omega)
        simp only [wI_1, this]
        by_cases e : k = i
        · subst e; simp; repeat (first | rw [if_neg (by omega)] | rw [if_pos (by omega)])
        · simp [e]
          by_cases z : g0 ≤ k ∧ k < i
          · rw [if_pos z, if_pos (by omega)]
          · rw [if_neg z, if_neg (by omega)]
    · rw [if_neg (fun z => q ((nJ_lt (by omega) (by omega)).mp z))]
      refine Or.inr ⟨_, rfl, f1, fun j hj k => ?_⟩
      rw [v1 j hj k, show i = G - 1 by omega]
  obtain ⟨⟨z, S1⟩, e, f1, v1⟩ := key
  unfold F_58
  rw [if_neg (nJ_nn (by omega)), a1, e1, if_pos ((nJ_lt (by omega) (by omega)).mpr hg), e, ob_s]
  dsimp only at f1 v1 ⊢
  have x1 : S1.1 h 1 = nJ G := by rw [(f1 h (by omega)).1, a1, e1]
  rw [sbn_e, x1, show nJ G - 1 = nJ (G - 1) from nJ_sub (j := 1) (by omega)]
  have P : Fp (pl9 h) S1 (wI S1 h 1 (nJ (G - 1))) := Fp_I (by unfold pl9; omega)
  have eS : ∀ j, j = 1 ∨ j = 2 ∨ j = 6 ∨ j = 7 ∨ j = 8 → S1.1 (h + j) = S.1 (h + j) := fun j hj => (f1 (h + j) (by omega)).1
  have eh : S1.1 h = S.1 h := (f1 h (by omega)).1
  refine ⟨_, rfl, (f1.wk (fun x hx => by unfold pl9; omega)).tr P, by rw [wI_1, if_pos ⟨rfl, rfl⟩], fun ρ' w1 w2 w3 => ?_⟩
  have p0 : ρ' 0 = ρ 0 := w1 0 (by omega) (by omega) (by omega)
  have p2 : ρ' 2 = ρ 2 := w1 2 (by omega) (by omega) (by omega)
  refine ⟨⟨?_, ?_, ?_⟩, fun i hi => ?_, fun i hi => ?_, fun i hi => ?_⟩
  · rw [p0, ← a0]; simp [wI_1, eh]
  · rw [w2]; simp [wI_1]
  · rw [p2, ← a2]; simp [wI_1, eh]
  · rw [p0] at hi
    have hi' := hi
    rw [n1, nJ_ix (by omega)] at hi'
    obtain ⟨b1, b2⟩ := b i hi
    rw [w1 _ (by omega) (by omega) (by omega), w1 (15 + i) (by omega) (by omega) (by omega), ← b1, ← b2]
    exact ⟨by simp [wI_1, eS], by simp [wI_1, eS]⟩
  · rw [w2, nJ_ix (by omega)] at hi
    have v3 := v1 3 (by omega) i
    have v4 := v1 4 (by omega) i
    have v5 := v1 5 (by omega) i
    have y3 : (wI S1 h 1 (nJ (G - 1))).1 (h + 3) i = S1.1 (h + 3) i := by simp [wI_1]
    have y4 : (wI S1 h 1 (nJ (G - 1))).1 (h + 4) i = S1.1 (h + 4) i := by simp [wI_1]
    have y5 : (wI S1 h 1 (nJ (G - 1))).1 (h + 5) i = S1.1 (h + 5) i := by simp [wI_1]
    rw [y3, y4, y5, v3, v4, v5, w3 _ (by omega) (by omega), w3 (28 + 3 * i) (by omega) (by omega), w3 (29 + 3 * i) (by omega) (by omega)]
    by_cases q : g0 ≤ i
    · obtain ⟨b1, b2, b3⟩ := c (i + 1) (by rw [e1, nJ_ix (by omega)]; omega)
      repeat (first | rw [if_neg (by omega)] | rw [if_pos (by omega)])
      exact ⟨by rw [b1]; congr 1, by rw [b2]; congr 1, by rw [b3]; congr 1⟩
    · obtain ⟨b1, b2, b3⟩ := c i (by rw [e1, nJ_ix (by omega)]; omega)
      repeat (first | rw [if_neg (by omega)] | rw [if_pos (by omega)])
      exact ⟨b1, b2, b3⟩
  · rw [p2] at hi
    have hi' := hi
    rw [t1, nJ_ix (by omega)] at hi'
    obtain ⟨b1, b2, b3⟩ := d i hi
    rw [w1 _ (by omega) (by omega) (by omega), w1 (46 + 3 * i) (by omega) (by omega) (by omega), w1 (47 + 3 * i) (by omega) (by omega) (by omega), ← b1, ← b2, ← b3]
    exact ⟨by simp [wI_1, eS], by simp [wI_1, eS], by simp [wI_1, eS]⟩
end Ed
