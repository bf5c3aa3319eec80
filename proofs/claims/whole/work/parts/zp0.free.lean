/-! the reference's isFree: it answers whether the two points see each other -/
theorem ib3 {i : Nat} (h : i < 60) : ibd (3 + nJ i) 63 = true := by
  show ibd (nJ 3 + nJ i) 63 = true
  rw [nJ_add]; exact ibd_n (by omega) (by omega)
theorem ib15 {i : Nat} (h : i < 48) : ibd (15 + nJ i) 63 = true := by
  show ibd (nJ 15 + nJ i) 63 = true
  rw [nJ_add]; exact ibd_n (by omega) (by omega)
def xv (S : ST) (i : Nat) : Int64 := Int32.toInt64 (ra S 141 (3 + nJ i)) * 1
def yv (S : ST) (i : Nat) : Int64 := Int32.toInt64 (ra S 141 (15 + nJ i)) * 1
theorem xv_r {S S' : ST} (e : S'.1 141 = S.1 141) (i : Nat) : xv S' i = xv S i ∧ yv S' i = yv S i := by unfold xv yv ra; rw [e]; exact ⟨rfl, rfl⟩
theorem sxv {S : ST} {i : Nat} (hB : RB S 141) (hi : i < 12) : bd 400000 (xv S i) ∧ bd 400000 (yv S i) ∧ lP (xv S i) (yv S i) = rP S 141 i := sx_1 hB hi
def wq (S : ST) (j : Nat) : GPt := lP (S.2 150 j) (S.2 151 j)
section Fr
variable {S : ST} {v1 v3 v5 v7 : Int64} {A B : GPt}
theorem bd_m {x : Int64} (h : bd 100 x) : bd 1000000 x := bd_le h (by decide)
theorem bd_4 {x : Int64} (h : bd 400000 x) : bd 1000000 x := bd_le h (by decide)
/-- the search for a crossing -/
theorem M238_3 (hW : RW S 141) (hR : RB S 141) (hA : lP v1 v3 = A) (hB : lP v5 v7 = B) (b1 : bd 100 v1) (b3 : bd 100 v3) (b5 : bd 100 v5) (b7 : bd 100 v7) {i : Nat} (hi : i < rN S 141) : (ge_x (rP S 141 i) (rP S 141 (ge_aft (rN S 141) i)) A B ∧ Lm_238_3 v1 v3 v5 v7 1 S (nJ i) = some (.inr (.inr (false, S)))) ∨ (¬ ge_x (rP S 141 i) (rP S 141 (ge_aft (rN S 141) i)) A B ∧ Lm_238_3 v1 v3 v5 v7 1 S (nJ i) = some (.inl (nJ (i + 1)))) := by
  have h12 := hW.2
  have hj := ge_aft_lt hi
  obtain ⟨xi, yi, pi⟩ := sxv hR (i := i) (by omega)
  obtain ⟨xj, yj, pj⟩ := sxv hR (i := ge_aft (rN S 141) i) (by omega)
  have c1 : (f_203 (f_202 v1 v3 v5 v7 (xv S i) (yv S i)) * f_203 (f_202 v1 v3 v5 v7 (xv S (ge_aft (rN S 141) i)) (yv S (ge_aft (rN S 141) i))) < 0) ↔ ge_o A B (rP S 141 i) * ge_o A B (rP S 141 (ge_aft (rN S 141) i)) < 0 := by
    rw [sg_mul, cross_t (bd_m b1) (bd_m b3) (bd_m b5) (bd_m b7) (bd_4 xi) (bd_4 yi), cross_t (bd_m b1) (bd_m b3) (bd_m b5) (bd_m b7) (bd_4 xj) (bd_4 yj), hA, hB, ← pi, ← pj]
  have c2 : (f_203 (f_202 (xv S i) (yv S i) (xv S (ge_aft (rN S 141) i)) (yv S (ge_aft (rN S 141) i)) v1 v3) * f_203 (f_202 (xv S i) (yv S i) (xv S (ge_aft (rN S 141) i)) (yv S (ge_aft (rN S 141) i)) v5 v7) < 0) ↔ ge_o (rP S 141 i) (rP S 141 (ge_aft (rN S 141) i)) A * ge_o (rP S 141 i) (rP S 141 (ge_aft (rN S 141) i)) B < 0 := by
    rw [sg_mul, cross_t (bd_4 xi) (bd_4 yi) (bd_4 xj) (bd_4 yj) (bd_m b1) (bd_m b3), cross_t (bd_4 xi) (bd_4 yi) (bd_4 xj) (bd_4 yj) (bd_m b5) (bd_m b7), hA, hB, ← pi, ← pj]
  have e : Lm_238_3 v1 v3 v5 v7 1 S (nJ i) = if f_203 (f_202 v1 v3 v5 v7 (xv S i) (yv S i)) * f_203 (f_202 v1 v3 v5 v7 (xv S (ge_aft (rN S 141) i)) (yv S (ge_aft (rN S 141) i))) < 0 then (if f_203 (f_202 (xv S i) (yv S i) (xv S (ge_aft (rN S 141) i)) (yv S (ge_aft (rN S 141) i)) v1 v3) * f_203 (f_202 (xv S i) (yv S i) (xv S (ge_aft (rN S 141) i)) (yv S (ge_aft (rN S 141) i)) v5 v7) < 0 then some (.inr (.inr (false, S))) else some (.inl (nJ i + 1))) else some (.inl (nJ i + 1)) := by
    unfold Lm_238_3
    rw [hW.1, if_pos ((nJ_lt (by omega) (by omega)).mpr hi), show F_204 141 (nJ i) S = nJ (ge_aft (rN S 141) i) from f204_eq hW hi, ck_t (ib3 (by omega)), ck_t (ib15 (by omega)), ck_t (ib3 (by omega)), ck_t (ib15 (by omega))]
    rfl
  rw [e, nJ_succ]
  unfold ge_x
  by_cases z1 : ge_o A B (rP S 141 i) * ge_o A B (rP S 141 (ge_aft (rN S 141) i)) < 0
  · rw [if_pos (c1.mpr z1)]
    by_cases z2 : ge_o (rP S 141 i) (rP S 141 (ge_aft (rN S 141) i)) A * ge_o (rP S 141 i) (rP S 141 (ge_aft (rN S 141) i)) B < 0
    · rw [if_pos (c2.mpr z2)]; exact Or.inl ⟨⟨z2, z1⟩, rfl⟩
    · rw [if_neg (fun z => z2 (c2.mp z))]; exact Or.inr ⟨fun z => z2 z.1, rfl⟩
  · rw [if_neg (fun z => z1 (c1.mp z))]; exact Or.inr ⟨fun z => z1 z.2, rfl⟩
/-- while the way points are laid: n of them, i vertices looked at -/
def Wj (S : ST) (A B : GPt) (S1 : ST) (n i : Nat) : Prop :=
  Fm [150, 151, 152] [] S S1 ∧ 1 ≤ n ∧ n ≤ i + 1 ∧ wq S1 0 = A ∧
  (∀ j, j < n → ge_on A B (wq S1 j) ∧ bd 400000 (S1.2 150 j) ∧ bd 400000 (S1.2 151 j) ∧ (S1.2 152 j).toInt = sgp A B (wq S1 j)) ∧
  (∀ j, j + 1 < n → sgp A B (wq S1 j) ≤ sgp A B (wq S1 (j + 1))) ∧
  (∀ j, 0 < j → j < n → wq S1 j ∈ rL S 141) ∧
  ∀ v, v < i → ge_on A B (rP S 141 v) → ∃ j, j < n ∧ wq S1 j = rP S 141 v
theorem w3_150 (S : ST) (k : Nat) (x y z : Int64) (j : Nat) : (wL (wL (wL S 150 k x) 151 k y) 152 k z).2 150 j = if j = k then x else S.2 150 j := by simp [wL_2]
theorem w3_151 (S : ST) (k : Nat) (x y z : Int64) (j : Nat) : (wL (wL (wL S 150 k x) 151 k y) 152 k z).2 151 j = if j = k then y else S.2 151 j := by simp [wL_2]
theorem w3_152 (S : ST) (k : Nat) (x y z : Int64) (j : Nat) : (wL (wL (wL S 150 k x) 151 k y) 152 k z).2 152 j = if j = k then z else S.2 152 j := by simp [wL_2]
/-- the way points above far move up -/
theorem M238_286 {S1 : ST} {n : Nat} (hn : 1 ≤ n) (h13 : n ≤ 13) (p12 : Int32) (x y far : Int64) : ∃ k S2, wh FU (Lm_238_286 v1 v3 v5 v7 1 (nJ n) p12 x y far) (nJ n, S1) = some (nJ k, S2) ∧ 1 ≤ k ∧ k ≤ n ∧ Fm [150, 151, 152] [] S1 S2 ∧ (∀ j, j < k → S2.2 150 j = S1.2 150 j ∧ S2.2 151 j = S1.2 151 j ∧ S2.2 152 j = S1.2 152 j) ∧ (∀ j, k ≤ j → j < n → S2.2 150 (j + 1) = S1.2 150 j ∧ S2.2 151 (j + 1) = S1.2 151 j ∧ S2.2 152 (j + 1) = S1.2 152 j ∧ far.toInt < (S1.2 152 j).toInt) ∧ (k = 1 ∨ (S1.2 152 (k - 1)).toInt ≤ far.toInt) := by
  have key : ∃ b, wh FU (Lm_238_286 v1 v3 v5 v7 1 (nJ n) p12 x y far) (nJ n, S1) = some b ∧ ∃ k S2, b = (nJ k, S2) ∧ 1 ≤ k ∧ k ≤ n ∧ Fm [150, 151, 152] [] S1 S2 ∧ (∀ j, j < k → S2.2 150 j = S1.2 150 j ∧ S2.2 151 j = S1.2 151 j ∧ S2.2 152 j = S1.2 152 j) ∧ (∀ j, k ≤ j → j < n → S2.2 150 (j + 1) = S1.2 150 j ∧ S2.2 151 (j + 1) = S1.2 151 j ∧ S2.2 152 (j + 1) = S1.2 152 j ∧ far.toInt < (S1.2 152 j).toInt) ∧ (k = 1 ∨ (S1.2 152 (k - 1)).toInt ≤ far.toInt) := by
    refine wh_inv (I := fun m a => ∃ k S2, m = k ∧ a = (nJ k, S2) ∧ 1 ≤ k ∧ k ≤ n ∧ Fm [150, 151, 152] [] S1 S2 ∧ (∀ j, j < k → S2.2 150 j = S1.2 150 j ∧ S2.2 151 j = S1.2 151 j ∧ S2.2 152 j = S1.2 152 j) ∧ (∀ j, k ≤ j → j < n → S2.2 150 (j + 1) = S1.2 150 j ∧ S2.2 151 (j + 1) = S1.2 151 j ∧ S2.2 152 (j + 1) = S1.2 152 j ∧ far.toInt < (S1.2 152 j).toInt)) ?_ FU n _ (FU_lt (by omega)) ⟨n, S1, rfl, rfl, hn, Nat.le_refl _, Fm.rf, fun j _ => ⟨rfl, rfl, rfl⟩, fun j h1 h2 => by omega⟩
    rintro m a ⟨k0, S2, rfl, rfl, k1, k2, f2, lo, hi⟩
    unfold Lm_238_286
    dsimp only
    by_cases q : 1 < m
    · have km : nJ m - 1 = nJ (m - 1) := nJ_sub (j := 1) (by omega)
      have lm := lo (m - 1) (by omega)
      rw [if_pos (show (1 : Int32) < nJ m from (nJ_lt (i := 1) (by omega) (by omega)).mpr q), km, ck_t (ibd_n (by omega) (by omega)), nJ_ix (by omega), nJ_ix (by omega), lm.2.2]
      by_cases z : far < S1.2 152 (m - 1)
      · rw [if_pos z, ck_t (ibd_n (by omega) (by omega)), ck_t (ibd_n (by omega) (by omega)), sbn_e, ck_t (ibd_n (by omega) (by omega)), ck_t (ibd_n (by omega) (by omega)), sbn_e, ck_t (ibd_n (by omega) (by omega)), ck_t (ibd_n (by omega) (by omega)), sbn_e, nJ_dec (by omega)]
        have e1 : (wL S2 150 m (S2.2 150 (m - 1))).2 151 (m - 1) = S2.2 151 (m - 1) := by simp [wL_2]
        have e2 : (wL (wL S2 150 m (S2.2 150 (m - 1))) 151 m (S2.2 151 (m - 1))).2 152 (m - 1) = S1.2 152 (m - 1) := by rw [← lm.2.2]; simp [wL_2]
        rw [e1, e2]
        refine Or.inl ⟨_, m - 1, by omega, rfl, m - 1, _, rfl, rfl, by omega, by omega, f2.tr (((Fm_l (by simp)).tr (Fm_l (by simp))).tr (Fm_l (by simp))), fun j hj => ?_, fun j h1 h2 => ?_⟩
        · rw [w3_150, w3_151, w3_152, if_neg (by omega), if_neg (by omega), if_neg (by omega)]
          exact lo j (by omega)
        · rw [w3_150, w3_151, w3_152]
          by_cases e : j + 1 = m
          · rw [if_pos e, if_pos e, if_pos e, show j = m - 1 by omega]
            exact ⟨lm.1, lm.2.1, rfl, Int64.lt_iff_toInt_lt.mp z⟩
          · rw [if_neg e, if_neg e, if_neg e]
            exact hi j (by omega) h2
      · rw [if_neg z]
        refine Or.inr ⟨_, rfl, m, S2, rfl, k1, k2, f2, lo, hi, Or.inr ?_⟩
        exact Int.not_lt.mp (fun w => z (Int64.lt_iff_toInt_lt.mpr w))
    · rw [if_neg (show ¬ (1 : Int32) < nJ m from fun z => q ((nJ_lt (i := 1) (by omega) (by omega)).mp z))]
      exact Or.inr ⟨_, rfl, m, S2, rfl, k1, k2, f2, lo, hi, Or.inl (by omega)⟩
  obtain ⟨b, e, k, S2, rfl, w⟩ := key
  exact ⟨k, S2, e, w⟩
theorem far_t {x y : Int64} (hA : lP v1 v3 = A) (hB : lP v5 v7 = B) (b1 : bd 100 v1) (b3 : bd 100 v3) (b5 : bd 100 v5) (b7 : bd 100 v7) (bx : bd 400000 x) (by' : bd 400000 y) : (((x - v1) * (v5 - v1)) + ((y - v3) * (v7 - v3))).toInt = sgp A B (lP x y) := by
  unfold bd at *
  have d1 : (x - v1).toInt = x.toInt - v1.toInt := lsub_t (by omega) (by omega)
  have d2 : (v5 - v1).toInt = v5.toInt - v1.toInt := lsub_t (by omega) (by omega)
  have d3 : (y - v3).toInt = y.toInt - v3.toInt := lsub_t (by omega) (by omega)
  have d4 : (v7 - v3).toInt = v7.toInt - v3.toInt := lsub_t (by omega) (by omega)
  have m1 := mul_bd (a := (x - v1).toInt) (b := (v5 - v1).toInt) (A := 500000) (B := 500000) (by omega) (by omega) (by omega) (by omega)
  have m2 := mul_bd (a := (y - v3).toInt) (b := (v7 - v3).toInt) (A := 500000) (B := 500000) (by omega) (by omega) (by omega) (by omega)
  have e1 : ((x - v1) * (v5 - v1)).toInt = (x - v1).toInt * (v5 - v1).toInt := lmul_t (by omega) (by omega)
  have e2 : ((y - v3) * (v7 - v3)).toInt = (y - v3).toInt * (v7 - v3).toInt := lmul_t (by omega) (by omega)
  rw [ladd_t (by omega) (by omega), e1, e2, d1, d2, d3, d4, ← hA, ← hB]
  rfl
/-- a vertex looked at -/
theorem M238_200 (hW : RW S 141) (hR : RB S 141) (hAB : A ≠ B) (hA : lP v1 v3 = A) (hB : lP v5 v7 = B) (b1 : bd 100 v1) (b3 : bd 100 v3) (b5 : bd 100 v5) (b7 : bd 100 v7) {n i : Nat} {S1 : ST} (hi : i < rN S 141) (w : Wj S A B S1 n i) : ∃ n' S3, Lm_238_200 v1 v3 v5 v7 1 (nJ n, nJ i, S1) = some (.inl (nJ n', nJ (i + 1), S3)) ∧ Wj S A B S3 n' (i + 1) := by
  obtain ⟨f1, n1, n2, w0, wj, ws, wv, wall⟩ := w
  have h12 := hW.2
  have e141 : S1.1 141 = S.1 141 := f1.row (by decide) (by decide)
  have hW1 := RW_row e141 hW
  obtain ⟨xi, yi, pi⟩ := sxv hR (i := i) (by omega)
  have eN : rN S1 141 = rN S 141 := rN_row e141
  have xe := (xv_r e141 i).1
  have ye := (xv_r e141 i).2
  have on : f_205 v1 v3 v5 v7 (xv S i) (yv S i) = true ↔ ge_on A B (rP S 141 i) := by
    rw [isOn_t (bd_m b1) (bd_m b3) (bd_m b5) (bd_m b7) (bd_4 xi) (bd_4 yi), hA, hB, ← pi]
  have far := far_t hA hB b1 b3 b5 b7 xi yi
  rw [pi] at far
  have e : Lm_238_200 v1 v3 v5 v7 1 (nJ n, nJ i, S1) = if f_205 v1 v3 v5 v7 (xv S1 i) (yv S1 i) = true then ob (wh FU (Lm_238_286 v1 v3 v5 v7 1 (nJ n) (nJ i) (xv S1 i) (yv S1 i) (((xv S1 i - v1) * (v5 - v1)) + ((yv S1 i - v3) * (v7 - v3)))) (nJ n, S1)) (fun e286 => ck (ibd e286.1 14) (sbn ((wL e286.2 150 (Int32.toNatClampNeg e286.1) (xv S1 i))) (fun s25 => ck (ibd e286.1 14) (sbn ((wL s25 151 (Int32.toNatClampNeg e286.1) (yv S1 i))) (fun s27 => ck (ibd e286.1 14) (sbn ((wL s27 152 (Int32.toNatClampNeg e286.1) (((xv S1 i - v1) * (v5 - v1)) + ((yv S1 i - v3) * (v7 - v3))))) (fun s29 => some (.inl (nJ n + 1, nJ i + 1, s29))))))))) else some (.inl (nJ n, nJ i + 1, S1)) := by
    unfold Lm_238_200
    dsimp only
    rw [hW1.1, if_pos ((nJ_lt (by omega) (by omega)).mpr (by rw [eN]; exact hi)), ck_t (ib3 (by omega)), ck_t (ib15 (by omega))]
    rfl
  rw [e, xe, ye]
  by_cases q : ge_on A B (rP S 141 i)
  · rw [if_pos (on.mpr q)]
    obtain ⟨k, S2, g, k1, k2, f2, lo, hi2, kf⟩ := M238_286 (v1 := v1) (v3 := v3) (v5 := v5) (v7 := v7) (S1 := S1) n1 (by omega) (nJ i) (xv S i) (yv S i) (((xv S i - v1) * (v5 - v1)) + ((yv S i - v3) * (v7 - v3)))
    rw [g, ob_s]
    dsimp only
    rw [ck_t (ibd_n (by omega) (by omega)), sbn_e, ck_t (ibd_n (by omega) (by omega)), sbn_e, ck_t (ibd_n (by omega) (by omega)), sbn_e, nJ_ix (by omega), nJ_succ, nJ_succ]
    obtain ⟨F, hF⟩ : ∃ F, F = ((xv S i - v1) * (v5 - v1)) + ((yv S i - v3) * (v7 - v3)) := ⟨_, rfl⟩
    have far : F.toInt = sgp A B (rP S 141 i) := by rw [hF]; exact far
    rw [← hF] at hi2 kf ⊢
    refine ⟨n + 1, _, rfl, ?_⟩
    have qlt : ∀ j, j < k → wq (wL (wL (wL S2 150 k (xv S i)) 151 k (yv S i)) 152 k F) j = wq S1 j := fun j hj => by
      unfold wq
      rw [w3_150, w3_151, if_neg (by omega), if_neg (by omega), (lo j hj).1, (lo j hj).2.1]
    have qk : wq (wL (wL (wL S2 150 k (xv S i)) 151 k (yv S i)) 152 k F) k = rP S 141 i := by
      unfold wq
      rw [w3_150, w3_151, if_pos rfl, if_pos rfl]
      exact pi
    have qgt : ∀ j, k ≤ j → j < n → wq (wL (wL (wL S2 150 k (xv S i)) 151 k (yv S i)) 152 k F) (j + 1) = wq S1 j := fun j h1 h2 => by
      unfold wq
      rw [w3_150, w3_151, if_neg (by omega), if_neg (by omega), (hi2 j h1 h2).1, (hi2 j h1 h2).2.1]
    have f0 := sg_in hAB q
    refine ⟨f1.tr (f2.tr (((Fm_l (by simp)).tr (Fm_l (by simp))).tr (Fm_l (by simp)))), by omega, by omega, ?_, ?_, ?_, ?_, ?_⟩
    · rw [qlt 0 (by omega)]; exact w0
    · intro j hj
      by_cases c : j < k
      · obtain ⟨u1, u2, u3, u4⟩ := wj j (by omega)
        rw [qlt j c, w3_150, w3_151, w3_152, if_neg (by omega), if_neg (by omega), if_neg (by omega), (lo j c).1, (lo j c).2.1, (lo j c).2.2]
        exact ⟨u1, u2, u3, u4⟩
      · by_cases c2 : j = k
        · subst c2
          rw [qk, w3_150, w3_151, w3_152, if_pos rfl, if_pos rfl, if_pos rfl]
          exact ⟨q, xi, yi, far⟩
        · obtain ⟨u1, u2, u3, u4⟩ := wj (j - 1) (by omega)
          have g1 := qgt (j - 1) (by omega) (by omega)
          have g2 := hi2 (j - 1) (by omega) (by omega)
          rw [show j - 1 + 1 = j by omega] at g1 g2
          rw [g1, w3_150, w3_151, w3_152, if_neg c2, if_neg c2, if_neg c2, g2.1, g2.2.1, g2.2.2.1]
          exact ⟨u1, u2, u3, u4⟩
    · intro j hj
      by_cases c : j + 1 < k
      · rw [qlt j (by omega), qlt (j + 1) c]; exact ws j (by omega)
      · by_cases c2 : j + 1 = k
        · rw [qlt j (by omega), c2, qk]
          rcases kf with z | z
          · rw [show j = 0 by omega, w0, sg_u]; exact f0.1
          · rw [show k - 1 = j by omega, (wj j (by omega)).2.2.2, far] at z
            exact z
        · by_cases c3 : j = k
          · subst c3
            rw [qk, qgt j (by omega) (by omega)]
            have := (hi2 j (by omega) (by omega)).2.2.2
            rw [far, (wj j (by omega)).2.2.2] at this
            omega
          · have g1 := qgt (j - 1) (by omega) (by omega)
            rw [show j - 1 + 1 = j by omega] at g1
            rw [g1, qgt j (by omega) (by omega)]
            have := ws (j - 1) (by omega)
            rw [show j - 1 + 1 = j by omega] at this
            exact this
    · intro j h0 hj
      by_cases c : j < k
      · rw [qlt j c]; exact wv j h0 (by omega)
      · by_cases c2 : j = k
        · rw [c2, qk]; exact ge_pl_mem.mpr ⟨i, hi, rfl⟩
        · have g1 := qgt (j - 1) (by omega) (by omega)
          rw [show j - 1 + 1 = j by omega] at g1
          rw [g1]; exact wv (j - 1) (by omega) (by omega)
    · intro v hv ho
      by_cases c : v = i
      · subst c; exact ⟨k, by omega, qk⟩
      · obtain ⟨j, j1, j2⟩ := wall v (by omega) ho
        by_cases c2 : j < k
        · exact ⟨j, by omega, by rw [qlt j c2]; exact j2⟩
        · exact ⟨j + 1, by omega, by rw [qgt j (by omega) j1]; exact j2⟩
  · rw [if_neg (fun z => q (on.mp z)), nJ_succ]
    refine ⟨n, S1, rfl, f1, n1, by omega, w0, wj, ws, wv, fun v hv ho => ?_⟩
    by_cases c : v = i
    · subst c; exact absurd ho q
    · exact wall v (by omega) ho
/-- isFree -/
theorem F238_eq (hG : GR S 141) (hAB : A ≠ B) (hA : lP v1 v3 = A) (hB : lP v5 v7 = B) (b1 : bd 100 v1) (b3 : bd 100 v3) (b5 : bd 100 v5) (b7 : bd 100 v7) (cA : ge_cl 1 (rL S 141) A) (cB : ge_cl 1 (rL S 141) B) : ∃ b S', F_238 v1 v3 v5 v7 1 S = some (b, S') ∧ Fm [150, 151, 152] [] S S' ∧ (b = true ↔ ge_sees (rL S 141) A B) := by
  obtain ⟨hW, g3, hR, gs, -⟩ := hG
  have h12 := hW.2
  have hsi := ge_simple_of g3 gs
  have hlen : (rL S 141).length = rN S 141 := ge_pl_len _ _
  have hne := ge_adj_ne hsi.1 (show 2 ≤ (ge_pl (rN S 141) (rP S 141)).length by rw [ge_pl_len]; omega)
  have adjX : (∀ i, i < rN S 141 → ¬ ge_x (rP S 141 i) (rP S 141 (ge_aft (rN S 141) i)) A B) → ∀ u v : GPt, ge_adj (rL S 141) u v → ¬ ge_x u v A B := by
    intro h u v huv z
    rcases huv with m | m
    · obtain ⟨i, i1, i2⟩ := ge_E_mem_pl.mp m
      cases i2
      exact h i i1 z
    · obtain ⟨i, i1, i2⟩ := ge_E_mem_pl.mp m
      cases i2
      exact h i i1 (ge_x_symm (ge_x_swap (ge_x_symm (ge_x_symm (ge_x_swap (ge_x_symm (ge_x_swap z)))))))
  unfold F_238
  refine wh_seK (f := Lm_238_3 v1 v3 v5 v7 1 S) nJ (fun i => ge_x (rP S 141 i) (rP S 141 (ge_aft (rN S 141) i)) A B) (rN S 141) (fun _ => .inr (false, S)) (fun r => ∃ z, r = .inl z) 0 (fun i _ hi => ?_) (fun i hi => ?_) (FU_lt (by omega)) (fun r g w => ?_)
  · rcases M238_3 hW hR hA hB b1 b3 b5 b7 hi with z | z
    · exact Or.inl z
    · exact Or.inr z
  · unfold Lm_238_3
    rw [hW.1, if_neg (fun z => by have := (nJ_lt (by omega) (by omega)).mp z; omega)]
    exact ⟨_, rfl, _, rfl⟩
  · show ∃ b S', ob (wh FU (Lm_238_3 v1 v3 v5 v7 1 S) (nJ 0)) _ = some (b, S') ∧ _
    rw [g, ob_s]
    rcases w with ⟨i, -, i1, i2, -, rfl⟩ | ⟨⟨z, rfl⟩, w⟩
    · exact ⟨false, S, rfl, Fm.rf, fun q => absurd q (by decide), fun q => absurd i2 (q.1 _ _ (Or.inl (ge_E_mem_pl.mpr ⟨i, i1, rfl⟩)))⟩
    · rw [Sum.elim_inl]
      have w := adjX (fun i hi => w i (Nat.zero_le _) hi)
      -- the way points
      have key : ∃ r, wh FU (Lm_238_200 v1 v3 v5 v7 1) (nJ 1, nJ 0, wL (wL (wL S 150 0 v1) 151 0 v3) 152 0 0) = some r ∧ ∃ n S1, r = (nJ n, nJ (rN S 141), S1) ∧ Wj S A B S1 n (rN S 141) := by
        refine wh_inv (I := fun m a => ∃ i n S1, i + m = rN S 141 ∧ a = (nJ n, nJ i, S1) ∧ Wj S A B S1 n i) ?_ FU (rN S 141) _ (FU_lt (by omega)) ⟨0, 1, _, by omega, rfl, ?_⟩
        · rintro m a ⟨i, n, S1, hi, rfl, wj⟩
          by_cases q : i < rN S 141
          · obtain ⟨n', S3, e, w'⟩ := M238_200 hW hR hAB hA hB b1 b3 b5 b7 q wj
            exact Or.inl ⟨_, m - 1, by omega, e, i + 1, n', S3, by omega, rfl, w'⟩
          · have e141 : S1.1 141 = S.1 141 := wj.1.row (by decide) (by decide)
            refine Or.inr ⟨(nJ n, nJ i, S1), ?_, n, S1, by rw [show i = rN S 141 by omega], by rw [show rN S 141 = i by omega]; exact wj⟩
            unfold Lm_238_200
            dsimp only
            rw [e141, hW.1, if_neg (fun z => by have := (nJ_lt (by omega) (by omega)).mp z; omega)]
        · have q0 : wq (wL (wL (wL S 150 0 v1) 151 0 v3) 152 0 0) 0 = A := by
            unfold wq
            rw [w3_150, w3_151, if_pos rfl, if_pos rfl]
            exact hA
          refine ⟨((Fm_l (by simp)).tr (Fm_l (by simp))).tr (Fm_l (by simp)), by omega, by omega, q0, ?_, ?_, ?_, ?_⟩
          · intro j hj
            rw [show j = 0 by omega, q0, w3_150, w3_151, w3_152, if_pos rfl, if_pos rfl, if_pos rfl]
            exact ⟨ge_on_l _ _, bd_le b1 (by decide), bd_le b3 (by decide), by rw [sg_u]; rfl⟩
          · intro j hj; omega
          · intro j h0 hj; omega
          · intro v hv; omega
      obtain ⟨r, er, n, S1, rfl, f1, n1, n2, w0, wj, ws, wv, wall⟩ := key
      rw [show ((1 : Int32), (0 : Int32), wL (wL (wL S 150 0 v1) 151 0 v3) 152 0 0) = (nJ 1, nJ 0, wL (wL (wL S 150 0 v1) 151 0 v3) 152 0 0) from rfl, er, ob_s]
      dsimp only
      rw [ck_t (ibd_n (by omega) (by omega)), sbn_e, ck_t (ibd_n (by omega) (by omega)), sbn_e, nJ_ix (by omega)]
      obtain ⟨S2, hS2⟩ : ∃ S2, S2 = wL (wL S1 150 n v5) 151 n v7 := ⟨_, rfl⟩
      rw [← hS2]
      have f2 : Fm [150, 151, 152] [] S S2 := by rw [hS2]; exact f1.tr ((Fm_l (by simp)).tr (Fm_l (by simp)))
      have e141 : S2.1 141 = S.1 141 := f2.row (by decide) (by decide)
      have hW2 := RW_row e141 hW
      have hR2 := RB_row e141 hR
      have eL : rL S2 141 = rL S 141 := rL_r2 e141
      have q2 : ∀ j, j < n → wq S2 j = wq S1 j ∧ S2.2 150 j = S1.2 150 j ∧ S2.2 151 j = S1.2 151 j := fun j hj => by
        have a1 : S2.2 150 j = S1.2 150 j := by rw [hS2]; simp [wL_2]; omega
        have a2 : S2.2 151 j = S1.2 151 j := by rw [hS2]; simp [wL_2]; omega
        exact ⟨by unfold wq; rw [a1, a2], a1, a2⟩
      have qn : wq S2 n = B ∧ S2.2 150 n = v5 ∧ S2.2 151 n = v7 := by
        have a1 : S2.2 150 n = v5 := by rw [hS2]; simp [wL_2]
        have a2 : S2.2 151 n = v7 := by rw [hS2]; simp [wL_2]
        exact ⟨by unfold wq; rw [a1, a2]; exact hB, a1, a2⟩
      have on : ∀ j, j ≤ n → ge_on A B (wq S2 j) ∧ bd 400000 (S2.2 150 j) ∧ bd 400000 (S2.2 151 j) := fun j hj => by
        by_cases c : j < n
        · obtain ⟨u1, u2, u3⟩ := q2 j c
          obtain ⟨t1, t2, t3, -⟩ := wj j c
          rw [u1, u2, u3]; exact ⟨t1, t2, t3⟩
        · rw [show j = n by omega, qn.1, qn.2.1, qn.2.2]
          exact ⟨ge_on_r _ _, bd_le b5 (by decide), bd_le b7 (by decide)⟩
      -- the middles
      have mid : ∀ j, j < n → (f_208 S2 141 (S2.2 150 j + S2.2 150 (j + 1)) (S2.2 151 j + S2.2 151 (j + 1)) (2 * 1) = true ↔ ge_cl 2 (rL S 141) ((wq S2 j).1 + (wq S2 (j + 1)).1, (wq S2 j).2 + (wq S2 (j + 1)).2)) := fun j hj => by
        obtain ⟨-, a1, a2⟩ := on j (by omega)
        obtain ⟨-, c1, c2⟩ := on (j + 1) (by omega)
        unfold bd at a1 a2 c1 c2
        have s1 : (S2.2 150 j + S2.2 150 (j + 1)).toInt = (S2.2 150 j).toInt + (S2.2 150 (j + 1)).toInt := ladd_t (by omega) (by omega)
        have s2 : (S2.2 151 j + S2.2 151 (j + 1)).toInt = (S2.2 151 j).toInt + (S2.2 151 (j + 1)).toInt := ladd_t (by omega) (by omega)
        rw [isIn_t hW2 hR2 (by decide) (by decide) (by unfold bd; rw [s1]; omega) (by unfold bd; rw [s2]; omega), eL]
        have e : lP (S2.2 150 j + S2.2 150 (j + 1)) (S2.2 151 j + S2.2 151 (j + 1)) = ((wq S2 j).1 + (wq S2 (j + 1)).1, (wq S2 j).2 + (wq S2 (j + 1)).2) := Prod.ext s1 s2
        rw [e]
        rfl
      refine wh_seK (f := Lm_238_418 v1 v3 v5 v7 1 (nJ n) S2) nJ (fun j => ¬ ge_cl 2 (rL S 141) ((wq S2 j).1 + (wq S2 (j + 1)).1, (wq S2 j).2 + (wq S2 (j + 1)).2)) n (fun _ => .inr (false, S2)) (fun r => ∃ z, r = .inl z) 0 (fun j _ hj => ?_) (fun j hj => ?_) (FU_lt (by omega)) (fun r g w2 => ?_)
      · unfold Lm_238_418
        rw [if_pos ((nJ_lt (by omega) (by omega)).mpr hj), nJ_succ, ck_t (ibd_n (by omega) (by omega)), ck_t (ibd_n (by omega) (by omega)), ck_t (ibd_n (by omega) (by omega)), ck_t (ibd_n (by omega) (by omega)), nJ_ix (by omega), nJ_ix (by omega)]
        unfold F_208
        rw [ck_P hW2, ob_s]
        by_cases z : ge_cl 2 (rL S 141) ((wq S2 j).1 + (wq S2 (j + 1)).1, (wq S2 j).2 + (wq S2 (j + 1)).2)
        · rw [if_pos ((mid j hj).mpr z)]; exact Or.inr ⟨fun y => y z, rfl⟩
        · rw [if_neg (fun y => z ((mid j hj).mp y))]; exact Or.inl ⟨z, rfl⟩
      · unfold Lm_238_418
        rw [if_neg (fun z => by have := (nJ_lt (by omega) (by omega)).mp z; omega)]
        exact ⟨_, rfl, _, rfl⟩
      · show ∃ b S', ob (wh FU (Lm_238_418 v1 v3 v5 v7 1 (nJ n) S2) (nJ 0)) _ = some (b, S') ∧ _
        rw [g, ob_s]
        rcases w2 with ⟨j, -, j1, j2, -, rfl⟩ | ⟨⟨z, rfl⟩, w2⟩
        · refine ⟨false, S2, rfl, f2, fun q => absurd q (by decide), fun q => absurd (q.2 2 (by decide) _ (on_mid (on j (by omega)).1 (on (j + 1) (by omega)).1)) j2⟩
        · rw [Sum.elim_inl]
          refine ⟨true, S2, rfl, f2, fun _ => ?_, fun _ => rfl⟩
          refine sg_ways hAB hne (by rw [hlen]; omega) w cA cB n (wq S2) (by omega) (by rw [(q2 0 (by omega)).1]; exact w0) qn.1 (fun j hj => (on j hj).1) (fun j hj => ?_) (fun j h0 hj => by rw [(q2 j hj).1]; exact wv j h0 hj) (fun v hv ho => ?_) (fun j hj => Classical.byContradiction (w2 j (Nat.zero_le _) hj))
          · by_cases c : j + 1 < n
            · rw [(q2 j hj).1, (q2 (j + 1) c).1]; exact ws j c
            · rw [show j + 1 = n by omega, qn.1]
              exact (sg_in hAB (on j (by omega)).1).2
          · obtain ⟨i, i1, rfl⟩ := ge_pl_mem.mp hv
            obtain ⟨j, j1, j2⟩ := wall i i1 ho
            exact ⟨j, by omega, by rw [(q2 j j1).1]; exact j2⟩
end Fr
