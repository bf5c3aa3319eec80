/-! the class's plans: corners put in, moved, taken out; cleared (printed by mk_zn6.py) -/
section Ed
variable {S : ST} {h : Nat} {ρ : Nat → Int32}
theorem F49_eq (hp : PR S h ρ) (hc : cb ρ) {n v : Nat} (e0 : ρ 0 = nJ n) (hn : n ≤ 12) (hv : v < n) (x y : Int32) : ∃ S', F_49 h (nJ v) x y S = some ((), S') ∧ Fp (pl9 h) S S' ∧ ∀ ρ' : Nat → Int32, (∀ j, j < 63 → (j < 3 ∨ 27 ≤ j) → ρ' j = ρ j) → (∀ i, i < n → ρ' (3 + i) = (if i = v then x else ρ (3 + i)) ∧ ρ' (15 + i) = if i = v then y else ρ (15 + i)) → PR S' h ρ' := by
  obtain ⟨-, ⟨g, g1, g2⟩, t, t1, t2⟩ := hc
  obtain ⟨⟨a0, a1, a2⟩, b, c, d⟩ := hp
  unfold F_49
  rw [if_neg (nJ_nn (by omega)), a0, e0, if_pos ((nJ_lt (by omega) (by omega)).mpr hv), ck_t (ibd_n (by omega) (by omega)), sbn_e, ck_t (ibd_n (by omega) (by omega)), sbn_e, nJ_ix (by omega)]
  have eS : ∀ j, j = 3 ∨ j = 4 ∨ j = 5 ∨ j = 6 ∨ j = 7 ∨ j = 8 → S.1 (h + j) = S.1 (h + j) := fun j hj => rfl
  refine ⟨_, rfl, ?_, fun ρ' w1 w2 => ?_⟩
  · refine Fp.tr (Fp_I ?_) (Fp_I ?_) <;> (unfold pl9; omega)
  have p0 : ρ' 0 = ρ 0 := w1 0 (by omega) (by omega)
  have p1 : ρ' 1 = ρ 1 := w1 1 (by omega) (by omega)
  have p2 : ρ' 2 = ρ 2 := w1 2 (by omega) (by omega)
  refine ⟨⟨?_, ?_, ?_⟩, fun i hi => ?_, fun i hi => ?_, fun i hi => ?_⟩
  · rw [p0, ← a0]; simp [wI_1]
  · rw [p1, ← a1]; simp [wI_1]
  · rw [p2, ← a2]; simp [wI_1]
  · rw [p0] at hi
    obtain ⟨b1, b2⟩ := b i hi
    rw [e0, nJ_ix (by omega)] at hi
    obtain ⟨q1, q2⟩ := w2 i hi
    rw [q1, q2]
    by_cases q : i = v
    · subst q
      repeat (first | rw [if_neg (by omega)] | rw [if_pos (by omega)])
      exact ⟨by simp [wI_1], by simp [wI_1]⟩
    · repeat (first | rw [if_neg (by omega)] | rw [if_pos (by omega)])
      rw [← b1, ← b2]
      exact ⟨by simp [wI_1, q], by simp [wI_1, q]⟩
  · rw [p1] at hi
    have hi' := hi
    rw [g1, nJ_ix (by omega)] at hi'
    obtain ⟨b1, b2, b3⟩ := c i hi
    rw [w1 _ (by omega) (by omega), w1 (28 + 3 * i) (by omega) (by omega), w1 (29 + 3 * i) (by omega) (by omega), ← b1, ← b2, ← b3]
    exact ⟨by simp [wI_1], by simp [wI_1], by simp [wI_1]⟩
  · rw [p2] at hi
    have hi' := hi
    rw [t1, nJ_ix (by omega)] at hi'
    obtain ⟨b1, b2, b3⟩ := d i hi
    rw [w1 _ (by omega) (by omega), w1 (46 + 3 * i) (by omega) (by omega), w1 (47 + 3 * i) (by omega) (by omega), ← b1, ← b2, ← b3]
    exact ⟨by simp [wI_1], by simp [wI_1], by simp [wI_1]⟩
theorem F48_eq (hp : PR S h ρ) (hc : cb ρ) {n v : Nat} (e0 : ρ 0 = nJ n) (hn : n < 12) (hv : v ≤ n) (x y : Int32) : ∃ S', F_48 h (nJ v) x y S = some ((), S') ∧ Fp (pl9 h) S S' ∧ ∀ ρ' : Nat → Int32, (∀ j, j < 63 → (27 ≤ j ∨ j = 1 ∨ j = 2) → ρ' j = ρ j) → ρ' 0 = nJ (n + 1) → (∀ i, i ≤ n → ρ' (3 + i) = (if i < v then ρ (3 + i) else if i = v then x else ρ (3 + (i - 1))) ∧ ρ' (15 + i) = if i < v then ρ (15 + i) else if i = v then y else ρ (15 + (i - 1))) → PR S' h ρ' := by
  obtain ⟨-, ⟨g, g1, g2⟩, t, t1, t2⟩ := hc
  obtain ⟨⟨a0, a1, a2⟩, b, c, d⟩ := hp
  have key : ∃ r, wh FU (L_48_28 h (nJ v) x y) (nJ n, S) = some r ∧ (Fp (fun a => h + 1 ≤ a ∧ a < h + 3) S r.2 ∧ ∀ j, j = 1 ∨ j = 2 → ∀ q, r.2.1 (h + j) q = if v < q ∧ q ≤ n then S.1 (h + j) (q - 1) else S.1 (h + j) q) := by
    refine wh_inv (I := fun m a => ∃ i S1, i = v + m ∧ i ≤ n ∧ a = (nJ i, S1) ∧ Fp (fun a => h + 1 ≤ a ∧ a < h + 3) S S1 ∧ ∀ j, j = 1 ∨ j = 2 → ∀ q, S1.1 (h + j) q = if i < q ∧ q ≤ n then S.1 (h + j) (q - 1) else S.1 (h + j) q) ?_ FU (n - v) _ (FU_lt (by omega)) ⟨n, S, by omega, Nat.le_refl _, rfl, Fp.rf, fun j hj q => by rw [if_neg (by omega)]⟩
    rintro m a ⟨i, S1, hi, h0, rfl, f1, v1⟩
    unfold L_48_28
    dsimp only
    by_cases q : v < i
    · rw [if_pos ((nJ_lt (by omega) (by omega)).mpr q), show nJ i - 1 = nJ (i - 1) from nJ_sub (j := 1) (by omega), ck_t (ibd_n (by omega) (by omega)), ck_t (ibd_n (by omega) (by omega)), sbn_e, ck_t (ibd_n (by omega) (by omega)), ck_t (ibd_n (by omega) (by omega)), sbn_e, nJ_ix (by omega), nJ_ix (by omega), show nJ i + (-1) = nJ (i - 1) from (show nJ i + (-1) = nJ i - 1 from (Int32.sub_eq_add_neg _ _).symm).trans (nJ_sub (j := 1) (by omega))]
      refine Or.inl ⟨_, m - 1, by omega, rfl, i - 1, _, by omega, by omega, rfl, f1.tr (Fp.tr (Fp_I (by omega)) (Fp_I (by omega))), ?_⟩
      rintro j (rfl | rfl) k
      · have := v1 1 (by omega)
        simp only [wI_1, this]
        by_cases e : k = i
        · subst e; simp; repeat (first | rw [if_neg (by omega)] | rw [if_pos (by omega)])
        · simp [e]; (by_cases z : i < k ∧ k ≤ n) <;> repeat (first | rw [if_neg (by omega)] | rw [if_pos (by omega)])
      · have := v1 2 (by omega)
        simp only [wI_1, this]
        by_cases e : k = i
        · subst e; simp; repeat (first | rw [if_neg (by omega)] | rw [if_pos (by omega)])
        · simp [e]; (by_cases z : i < k ∧ k ≤ n) <;> repeat (first | rw [if_neg (by omega)] | rw [if_pos (by omega)])
    · rw [if_neg (fun z => q ((nJ_lt (by omega) (by omega)).mp z))]
      refine Or.inr ⟨_, rfl, f1, fun j hj k => ?_⟩
      rw [v1 j hj k, show i = v by omega]
  obtain ⟨⟨z, S1⟩, e, f1, v1⟩ := key
  unfold F_48
  rw [if_neg (nJ_nn (by omega)), a0, e0, if_neg (fun z => by have := (nJ_lt (by omega) (by omega)).mp z; omega), if_pos (show nJ n < 12 from (nJ_lt (j := 12) (by omega) (by omega)).mpr hn), e, ob_s]
  dsimp only at f1 v1 ⊢
  have x1 : S1.1 h 0 = nJ n := by rw [(f1 h (by omega)).1, a0, e0]
  have r1 : ∀ (S1 : ST) q w, (wI S1 (h + 1) q w).1 h 0 = S1.1 h 0 := fun S1 q w => by rw [wI_1, if_neg (by omega)]
  have r2 : ∀ (S1 : ST) q w, (wI S1 (h + 2) q w).1 h 0 = S1.1 h 0 := fun S1 q w => by rw [wI_1, if_neg (by omega)]
  rw [ck_t (ibd_n (by omega) (by omega)), sbn_e, ck_t (ibd_n (by omega) (by omega)), sbn_e, sbn_e, nJ_ix (by omega), r2, r1, x1, nJ_succ]
  have P : Fp (pl9 h) S1 (wI (wI (wI S1 (h + 1) v x) (h + 2) v y) h 0 (nJ (n + 1))) := by
    refine Fp.tr (Fp.tr (Fp_I ?_) (Fp_I ?_)) (Fp_I ?_) <;> (unfold pl9; omega)
  have eS : ∀ j, j = 3 ∨ j = 4 ∨ j = 5 ∨ j = 6 ∨ j = 7 ∨ j = 8 → S1.1 (h + j) = S.1 (h + j) := fun j hj => (f1 (h + j) (by omega)).1
  have eh : S1.1 h = S.1 h := (f1 h (by omega)).1
  refine ⟨_, rfl, (f1.wk (fun x hx => by unfold pl9; omega)).tr P, fun ρ' w1 w2 w3 => ?_⟩
  have p1 : ρ' 1 = ρ 1 := w1 1 (by omega) (by omega)
  have p2 : ρ' 2 = ρ 2 := w1 2 (by omega) (by omega)
  refine ⟨⟨?_, ?_, ?_⟩, fun i hi => ?_, fun i hi => ?_, fun i hi => ?_⟩
  · rw [w2]; simp [wI_1]
  · rw [p1, ← a1]; simp [wI_1, eh]
  · rw [p2, ← a2]; simp [wI_1, eh]
  · rw [w2, nJ_ix (by omega)] at hi
    obtain ⟨q1, q2⟩ := w3 i (by omega)
    have u1 := v1 1 (by omega) i
    have u2 := v1 2 (by omega) i
    rw [q1, q2]
    by_cases q : i = v
    · subst q
      repeat (first | rw [if_neg (by omega)] | rw [if_pos (by omega)])
      exact ⟨by simp [wI_1], by simp [wI_1]⟩
    · have y1 : (wI (wI (wI S1 (h + 1) v x) (h + 2) v y) h 0 (nJ (n + 1))).1 (h + 1) i = S1.1 (h + 1) i := by simp [wI_1, q]
      have y2 : (wI (wI (wI S1 (h + 1) v x) (h + 2) v y) h 0 (nJ (n + 1))).1 (h + 2) i = S1.1 (h + 2) i := by simp [wI_1, q]
      rw [y1, y2, u1, u2]
      by_cases q' : i < v
      · obtain ⟨b1, b2⟩ := b i (by rw [e0, nJ_ix (by omega)]; omega)
        repeat (first | rw [if_neg (by omega)] | rw [if_pos (by omega)])
        exact ⟨b1, b2⟩
      · obtain ⟨b1, b2⟩ := b (i - 1) (by rw [e0, nJ_ix (by omega)]; omega)
        repeat (first | rw [if_neg (by omega)] | rw [if_pos (by omega)])
        exact ⟨b1, b2⟩
  · rw [p1] at hi
    have hi' := hi
    rw [g1, nJ_ix (by omega)] at hi'
    obtain ⟨b1, b2, b3⟩ := c i hi
    rw [w1 _ (by omega) (by omega), w1 (28 + 3 * i) (by omega) (by omega), w1 (29 + 3 * i) (by omega) (by omega), ← b1, ← b2, ← b3]
    exact ⟨by simp [wI_1, eS], by simp [wI_1, eS], by simp [wI_1, eS]⟩
  · rw [p2] at hi
    have hi' := hi
    rw [t1, nJ_ix (by omega)] at hi'
    obtain ⟨b1, b2, b3⟩ := d i hi
    rw [w1 _ (by omega) (by omega), w1 (46 + 3 * i) (by omega) (by omega), w1 (47 + 3 * i) (by omega) (by omega), ← b1, ← b2, ← b3]
    exact ⟨by simp [wI_1, eS], by simp [wI_1, eS], by simp [wI_1, eS]⟩
theorem F50_eq (hp : PR S h ρ) (hc : cb ρ) {n v : Nat} (e0 : ρ 0 = nJ n) (hn : n ≤ 12) (hv : v < n) : ∃ S', F_50 h (nJ v) S = some ((), S') ∧ Fp (pl9 h) S S' ∧ ∀ ρ' : Nat → Int32, (∀ j, j < 63 → (27 ≤ j ∨ j = 1 ∨ j = 2) → ρ' j = ρ j) → ρ' 0 = nJ (n - 1) → (∀ i, i < n - 1 → ρ' (3 + i) = (if i < v then ρ (3 + i) else ρ (3 + (i + 1))) ∧ ρ' (15 + i) = if i < v then ρ (15 + i) else ρ (15 + (i + 1))) → PR S' h ρ' := by
  obtain ⟨-, ⟨g, g1, g2⟩, t, t1, t2⟩ := hc
  obtain ⟨⟨a0, a1, a2⟩, b, c, d⟩ := hp
  have key : ∃ r, wh FU (L_50_15 h (nJ v)) (nJ v, S) = some r ∧ (Fp (fun a => h + 1 ≤ a ∧ a < h + 3) S r.2 ∧ ∀ j, j = 1 ∨ j = 2 → ∀ q, r.2.1 (h + j) q = if v ≤ q ∧ q < n - 1 then S.1 (h + j) (q + 1) else S.1 (h + j) q) := by
    refine wh_inv (I := fun m a => ∃ i S1, i + m = n - 1 ∧ v ≤ i ∧ a = (nJ i, S1) ∧ Fp (fun a => h + 1 ≤ a ∧ a < h + 3) S S1 ∧ ∀ j, j = 1 ∨ j = 2 → ∀ q, S1.1 (h + j) q = if v ≤ q ∧ q < i then S.1 (h + j) (q + 1) else S.1 (h + j) q) ?_ FU (n - 1 - v) _ (FU_lt (by omega)) ⟨v, S, by omega, Nat.le_refl _, rfl, Fp.rf, fun j hj q => by rw [if_neg (by omega)]⟩
    rintro m a ⟨i, S1, hi, h0, rfl, f1, v1⟩
    unfold L_50_15
    dsimp only
    rw [nJ_succ, (f1 h (by omega)).1, a0, e0]
    by_cases q : i + 1 < n
    · rw [if_pos ((nJ_lt (by omega) (by omega)).mpr q), ck_t (ibd_n (by omega) (by omega)), ck_t (ibd_n (by omega) (by omega)), sbn_e, ck_t (ibd_n (by omega) (by omega)), ck_t (ibd_n (by omega) (by omega)), sbn_e, nJ_ix (by omega), nJ_ix (by omega)]
      refine Or.inl ⟨_, m - 1, by omega, rfl, i + 1, _, by omega, by omega, rfl, f1.tr (Fp.tr (Fp_I (by omega)) (Fp_I (by omega))), ?_⟩
      rintro j (rfl | rfl) k
      · have := v1 1 (by omega)
        simp only [wI_1, this]
        by_cases e : k = i
        · subst e; simp; repeat (first | rw [if_neg (by omega)] | rw [if_pos (by omega)])
        · simp [e]; (by_cases z : v ≤ k ∧ k < i) <;> repeat (first | rw [if_neg (by omega)] | rw [if_pos (by omega)])
      · have := v1 2 (by omega)
        simp only [wI_1, this]
        by_cases e : k = i
        · subst e; simp; repeat (first | rw [if_neg (by omega)] | rw [if_pos (by omega)])
        · simp [e]; (by_cases z : v ≤ k ∧ k < i) <;> repeat (first | rw [if_neg (by omega)] | rw [if_pos (by omega)])
    · rw [if_neg (fun z => q ((nJ_lt (by omega) (by omega)).mp z))]
      refine Or.inr ⟨_, rfl, f1, fun j hj k => ?_⟩
      rw [v1 j hj k, show i = n - 1 by omega]
  obtain ⟨⟨z, S1⟩, e, f1, v1⟩ := key
  unfold F_50
  rw [if_neg (nJ_nn (by omega)), a0, e0, if_pos ((nJ_lt (by omega) (by omega)).mpr hv), e, ob_s]
  dsimp only at f1 v1 ⊢
  have x1 : S1.1 h 0 = nJ n := by rw [(f1 h (by omega)).1, a0, e0]
  rw [sbn_e, x1, show nJ n - 1 = nJ (n - 1) from nJ_sub (j := 1) (by omega)]
  have P : Fp (pl9 h) S1 (wI S1 h 0 (nJ (n - 1))) := Fp_I (by unfold pl9; omega)
  have eS : ∀ j, j = 1 ∨ j = 2 ∨ j = 3 ∨ j = 4 ∨ j = 5 ∨ j = 6 ∨ j = 7 ∨ j = 8 → (j = 1 ∨ j = 2) ∨ S1.1 (h + j) = S.1 (h + j) := fun j hj => by
    by_cases q : j = 1 ∨ j = 2
    · exact Or.inl q
    · exact Or.inr (f1 (h + j) (by omega)).1
  have eS : ∀ j, j = 3 ∨ j = 4 ∨ j = 5 ∨ j = 6 ∨ j = 7 ∨ j = 8 → S1.1 (h + j) = S.1 (h + j) := fun j hj => (f1 (h + j) (by omega)).1
  have eh : S1.1 h = S.1 h := (f1 h (by omega)).1
  refine ⟨_, rfl, (f1.wk (fun x hx => by unfold pl9; omega)).tr P, fun ρ' w1 w2 w3 => ?_⟩
  have p1 : ρ' 1 = ρ 1 := w1 1 (by omega) (by omega)
  have p2 : ρ' 2 = ρ 2 := w1 2 (by omega) (by omega)
  refine ⟨⟨?_, ?_, ?_⟩, fun i hi => ?_, fun i hi => ?_, fun i hi => ?_⟩
  · rw [w2]; simp [wI_1]
  · rw [p1, ← a1]; simp [wI_1, eh]
  · rw [p2, ← a2]; simp [wI_1, eh]
  · rw [w2, nJ_ix (by omega)] at hi
    obtain ⟨q1, q2⟩ := w3 i hi
    have u1 := v1 1 (by omega) i
    have u2 := v1 2 (by omega) i
    have y1 : (wI S1 h 0 (nJ (n - 1))).1 (h + 1) i = S1.1 (h + 1) i := by simp [wI_1]
    have y2 : (wI S1 h 0 (nJ (n - 1))).1 (h + 2) i = S1.1 (h + 2) i := by simp [wI_1]
    rw [q1, q2, y1, y2, u1, u2]
    by_cases q : i < v
    · obtain ⟨b1, b2⟩ := b i (by rw [e0, nJ_ix (by omega)]; omega)
      repeat (first | rw [if_neg (by omega)] | rw [if_pos (by omega)])
      exact ⟨b1, b2⟩
    · obtain ⟨b1, b2⟩ := b (i + 1) (by rw [e0, nJ_ix (by omega)]; omega)
      repeat (first | rw [if_neg (by omega)] | rw [if_pos (by omega)])
      exact ⟨b1, b2⟩
  · rw [p1] at hi
    have hi' := hi
    rw [g1, nJ_ix (by omega)] at hi'
    obtain ⟨b1, b2, b3⟩ := c i hi
    rw [w1 _ (by omega) (by omega), w1 (28 + 3 * i) (by omega) (by omega), w1 (29 + 3 * i) (by omega) (by omega), ← b1, ← b2, ← b3]
    exact ⟨by simp [wI_1, eS], by simp [wI_1, eS], by simp [wI_1, eS]⟩
  · rw [p2] at hi
    have hi' := hi
    rw [t1, nJ_ix (by omega)] at hi'
    obtain ⟨b1, b2, b3⟩ := d i hi
    rw [w1 _ (by omega) (by omega), w1 (46 + 3 * i) (by omega) (by omega), w1 (47 + 3 * i) (by omega) (by omega), ← b1, ← b2, ← b3]
    exact ⟨by simp [wI_1, eS], by simp [wI_1, eS], by simp [wI_1, eS]⟩
theorem F42_eq (S : ST) (h : Nat) : ∃ S', F_42 h S = some ((), S') ∧ Fp (fun a => a = h) S S' ∧ S'.1 h 0 = 0 ∧ S'.1 h 1 = 0 ∧ S'.1 h 2 = 0 := by
  unfold F_42
  simp only [sbn_e]
  refine ⟨_, rfl, Fp.tr (Fp.tr (Fp_I rfl) (Fp_I rfl)) (Fp_I rfl), ?_, ?_, ?_⟩ <;> simp [wI_1]
end Ed
