/-! the reference fills the colours in -/
/-- coloured so far as c says -/
def fil (S : ST) (N : Nat) (c : Nat → Nat) : Prop := (∀ v, v < N → S.1 158 v = -1 ∨ S.1 158 v = nJ (c v)) ∧ S.1 158 0 = nJ (c 0) ∧ S.1 158 1 = nJ (c 1)
def uncl (S : ST) (N : Nat) : Nat := rk (fun v => decide (S.1 158 v = -1)) N
/-- how many corners are coloured -/
def ind (S : ST) (v : Nat) : Nat := if S.1 158 v = -1 then 0 else 1
def ccl (S : ST) (c : Nat → Nat) (v : Nat) : Nat := if S.1 158 v = -1 then 0 else c v
def sm3 (f : Nat → Nat) (a : Nat → Nat) : Nat → Nat
  | 0 => 0
  | i + 1 => sm3 f a i + f (a i)
section Fm
variable {S : ST} {N : Nat} {c : Nat → Nat}
theorem M255_71 (v1 : Int32) {t : Nat} (ht : t < 10) (a : Nat → Nat) (ha : ∀ i, i < 3 → S.1 157 (3 * t + i) = nJ (a i) ∧ a i < N) (hN : N ≤ 12) (hf : fil S N c) (c3 : ∀ v, c v < 3) : ∃ r, wh FU (Lm_255_71 v1 (nJ t) S) (-1, 0, 0, 0) = some r ∧ r.2.1 = nJ (sm3 (ccl S c) a 3) ∧ r.2.2.1 = nJ (sm3 (ind S) a 3) ∧ (sm3 (ind S) a 3 < 3 → ∃ i, i < 3 ∧ r.1 = nJ (a i) ∧ S.1 158 (a i) = -1) := by
  have e0 : (3 : Int32) * nJ t = nJ (3 * t) := by
    show nJ 3 * nJ t = _
    rw [nJ_mul]
  refine wh_inv (I := fun m x => ∃ j, j + m = 3 ∧ x.2.2.2 = nJ j ∧ x.2.1 = nJ (sm3 (ccl S c) a j) ∧ x.2.2.1 = nJ (sm3 (ind S) a j) ∧ sm3 (ind S) a j ≤ j ∧ (sm3 (ind S) a j < j → ∃ i, i < j ∧ x.1 = nJ (a i) ∧ S.1 158 (a i) = -1)) ?_ FU 3 _ (FU_lt (by omega)) ⟨0, rfl, rfl, rfl, rfl, Nat.le_refl _, fun z => by cases z⟩
  rintro m ⟨y1, y2, y3, y4⟩ ⟨j, hj, rfl, rfl, rfl, le, op⟩
  dsimp only at op
  unfold Lm_255_71
  dsimp only
  by_cases q : j < 3
  · obtain ⟨a1, a2⟩ := ha j q
    have hc := c3 (a j)
    rw [if_pos (show nJ j < 3 from (nJ_lt (j := 3) (by omega) (by omega)).mpr q), e0, nJ_add, ck_t (ibd_n (by omega) (by omega)), nJ_ix (by omega), a1, ck_t (ibd_n (by omega) (by omega)), ck_t (ibd_n (by omega) (by omega)), ck_t (ibd_n (by omega) (by omega)), nJ_ix (by omega)]
    by_cases d : S.1 158 (a j) = -1
    · rw [if_pos d, if_pos d, decide_eq_true d, nJ_succ]
      refine Or.inl ⟨_, m - 1, by omega, rfl, j + 1, by omega, rfl, ?_, ?_, ?_, fun _ => ⟨j, by omega, rfl, d⟩⟩
      · show nJ (sm3 (ccl S c) a j) + nJ 0 = nJ (sm3 (ccl S c) a j + ccl S c (a j))
        rw [nJ_add]; unfold ccl; rw [if_pos d]
      · show nJ (sm3 (ind S) a j) + nJ 0 = nJ (sm3 (ind S) a j + ind S (a j))
        rw [nJ_add]; unfold ind; rw [if_pos d]
      · show sm3 (ind S) a j + ind S (a j) ≤ j + 1
        unfold ind at *; rw [if_pos d]; omega
    · have dc : S.1 158 (a j) = nJ (c (a j)) := (hf.1 _ a2).resolve_left d
      have i1 : ind S (a j) = 1 := by unfold ind; rw [if_neg d]
      rw [if_neg d, if_neg d, decide_eq_false d, nJ_succ, ck_t (ibd_n (by omega) (by omega)), dc]
      refine Or.inl ⟨_, m - 1, by omega, rfl, j + 1, by omega, rfl, ?_, ?_, ?_, fun z => ?_⟩
      · show nJ (sm3 (ccl S c) a j) + nJ (c (a j)) = nJ (sm3 (ccl S c) a j + ccl S c (a j))
        rw [nJ_add]; unfold ccl; rw [if_neg d]
      · show nJ (sm3 (ind S) a j) + nJ 1 = nJ (sm3 (ind S) a j + ind S (a j))
        rw [nJ_add, i1]
      · show sm3 (ind S) a j + ind S (a j) ≤ j + 1
        rw [i1]; omega
      · have z' : sm3 (ind S) a j + ind S (a j) < j + 1 := z
        rw [i1] at z'
        obtain ⟨i, i1, i2, i3⟩ := op (by omega)
        exact ⟨i, by omega, i2, i3⟩
  · have : j = 3 := by omega
    subst this
    rw [if_neg (show ¬ nJ 3 < 3 by decide)]
    exact Or.inr ⟨_, rfl, rfl, rfl, op⟩
variable {P : Nat → GPt} {σ : Int} {K : Nat → Nat} {R : Nat → Nat → Nat}
theorem trM_158 {S' : ST} (h : oneR 158 S S') {t : Nat} (g : trM S N K R t) : trM S' N K R t := by
  unfold trM
  rw [h.1 157 _ (by decide), h.1 157 _ (by decide), h.1 157 _ (by decide)]
  exact g
def cnt3 (S : ST) (N : Nat) (K : Nat → Nat) (R : Nat → Nat → Nat) (t : Nat) : Nat := ind S (kx N K R t) + ind S (ky K R t) + ind S (kz N K R t)
/-- one pass -/
theorem M255_48 (hσ : σ = 1 ∨ σ = -1) (hT : TR P σ N K R) (hN3 : 3 ≤ N) (hN : N ≤ 12) (h0 : S.1 141 0 = nJ N) (ht : ∀ t, t + 3 ≤ N → trM S N K R t) (hc : colR N K R c) (hf : fil S N c) : ∃ r, wh FU Lm_255_48 (0, 0, S) = some r ∧ oneR 158 S r.2.2 ∧ fil r.2.2 N c ∧ ((r.1 = 0 ∧ ∀ t, t + 3 ≤ N → cnt3 r.2.2 N K R t ≠ 2) ∨ (r.1 = 1 ∧ uncl r.2.2 N < uncl S N)) := by
  refine wh_inv (I := fun m x => ∃ t, t + m + 2 = N ∧ x.2.1 = nJ t ∧ oneR 158 S x.2.2 ∧ fil x.2.2 N c ∧ ((x.1 = 0 ∧ x.2.2 = S ∧ ∀ t', t' < t → cnt3 S N K R t' ≠ 2) ∨ (x.1 = 1 ∧ uncl x.2.2 N < uncl S N))) ?_ FU (N - 2) _ (FU_lt (by omega)) ⟨0, by omega, rfl, oneR.rf, hf, Or.inl ⟨rfl, rfl, fun t' h => by omega⟩⟩
  rintro m ⟨y1, y2, S1⟩ ⟨t, hm, rfl, f1, f2, f3⟩
  dsimp only at f1 f2 f3
  unfold Lm_255_48
  dsimp only
  rw [f1.1 141 0 (by decide), h0, show nJ N - 2 = nJ (N - 2) from nJ_sub (j := 2) (by omega)]
  by_cases q : t < N - 2
  · rw [if_pos ((nJ_lt (by omega) (by omega)).mpr q)]
    have m1 : m - 1 < m := by omega
    have m2 : t + 1 + (m - 1) + 2 = N := by omega
    have tr := trM_158 f1 (ht t (by omega))
    have b := cnr_lt hσ hT (t := t) (by omega)
    obtain ⟨a, ea⟩ : ∃ a : Nat → Nat, a = fun i => if i = 0 then lo3 (kx N K R t) (ky K R t) (kz N K R t) else if i = 1 then md3 (kx N K R t) (ky K R t) (kz N K R t) else hi3 (kx N K R t) (ky K R t) (kz N K R t) := ⟨_, rfl⟩
    have a0 : a 0 = lo3 (kx N K R t) (ky K R t) (kz N K R t) := by rw [ea]; rfl
    have a1 : a 1 = md3 (kx N K R t) (ky K R t) (kz N K R t) := by rw [ea]; rfl
    have a2 : a 2 = hi3 (kx N K R t) (ky K R t) (kz N K R t) := by rw [ea]; rfl
    have s3 : ∀ f : Nat → Nat, sm3 f a 3 = f (kx N K R t) + f (ky K R t) + f (kz N K R t) := fun f => by
      rw [← srt_sum f, ← a0, ← a1, ← a2]
      show 0 + f (a 0) + f (a 1) + f (a 2) = _
      omega
    have ha : ∀ i, i < 3 → S1.1 157 (3 * t + i) = nJ (a i) ∧ a i < N := fun i hi => by
      match i, hi with
      | 0, _ => exact ⟨tr.1.trans (by rw [a0]), by rw [a0]; unfold lo3; omega⟩
      | 1, _ => exact ⟨tr.2.1.trans (by rw [a1]), by rw [a1]; unfold md3 lo3 hi3; omega⟩
      | 2, _ => exact ⟨tr.2.2.trans (by rw [a2]), by rw [a2]; unfold hi3; omega⟩
    obtain ⟨r, er, r1, r2, r3⟩ := M255_71 y1 (t := t) (by omega) a ha hN f2 hc.1
    have k3 : sm3 (ind S1) a 3 = cnt3 S1 N K R t := s3 _
    have kle : cnt3 S1 N K R t ≤ 3 := by unfold cnt3 ind; split <;> split <;> split <;> omega
    rw [er, ob_s, r2, k3]
    by_cases w : cnt3 S1 N K R t = 2
    · rw [w, if_pos (show nJ 2 = 2 from rfl)]
      obtain ⟨i, i1, i2, i3⟩ := r3 (by omega)
      have ai := (ha i i1).2
      have sum3 : sm3 (ccl S1 c) a 3 + c (a i) = 3 := by
        have tot : c (a 0) + c (a 1) + c (a 2) = 3 := by
          rw [a0, a1, a2, srt_sum c]
          have p := hc.2.2.2 t (by omega)
          unfold prT at p
          have u1 := hc.1 (kx N K R t)
          have u2 := hc.1 (ky K R t)
          have u3 := hc.1 (kz N K R t)
          omega
        have k2 : ind S1 (a 0) + ind S1 (a 1) + ind S1 (a 2) = 2 := by
          have : sm3 (ind S1) a 3 = 2 := k3.trans w
          have e : sm3 (ind S1) a 3 = 0 + ind S1 (a 0) + ind S1 (a 1) + ind S1 (a 2) := rfl
          omega
        have e : sm3 (ccl S1 c) a 3 = 0 + ccl S1 c (a 0) + ccl S1 c (a 1) + ccl S1 c (a 2) := rfl
        rw [e]
        have two : ∀ v, ind S1 v = 1 → ccl S1 c v = c v := fun v hv => by
          unfold ind at hv
          unfold ccl
          by_cases z : S1.1 158 v = -1
          · rw [if_pos z] at hv; cases hv
          · rw [if_neg z]
        have le1 : ∀ v, ind S1 v ≤ 1 := fun v => by unfold ind; split <;> omega
        have z0 : ind S1 (a i) = 0 ∧ ccl S1 c (a i) = 0 := by unfold ind ccl; rw [if_pos i3, if_pos i3]; exact ⟨rfl, rfl⟩
        have l0 := le1 (a 0)
        have l1 := le1 (a 1)
        have l2 := le1 (a 2)
        match i, i1, z0 with
        | 0, _, z0 => rw [z0.2, two (a 1) (by omega), two (a 2) (by omega)]; omega
        | 1, _, z0 => rw [z0.2, two (a 0) (by omega), two (a 2) (by omega)]; omega
        | 2, _, z0 => rw [z0.2, two (a 0) (by omega), two (a 1) (by omega)]; omega
      have val : (3 : Int32) - nJ (sm3 (ccl S1 c) a 3) = nJ (c (a i)) := by
        show nJ 3 - _ = _
        rw [nJ_sub (by omega)]
        exact congrArg nJ (by omega)
      rw [i2, ck_t (ibd_n (by omega) (by omega)), sbn_e, nJ_ix (by omega), r1, val, nJ_succ]
      have f2' : fil (wI S1 158 (a i) (nJ (c (a i)))) N c := by
        have g : ∀ v, S1.1 158 v = nJ (c v) → (wI S1 158 (a i) (nJ (c (a i)))).1 158 v = nJ (c v) := fun v hv => by
          rw [wI_1]
          by_cases z : v = a i
          · rw [if_pos ⟨rfl, z⟩, z]
          · rw [if_neg (fun y => z y.2)]; exact hv
        refine ⟨fun v hv => ?_, g 0 f2.2.1, g 1 f2.2.2⟩
        rcases f2.1 v hv with z | z
        · rw [wI_1]
          by_cases y : v = a i
          · rw [if_pos ⟨rfl, y⟩, y]; exact Or.inr rfl
          · rw [if_neg (fun k => y k.2)]; exact Or.inl z
        · exact Or.inr (g v z)
      have dec : uncl (wI S1 158 (a i) (nJ (c (a i)))) N < uncl S1 N := by
        have nm : ¬ nJ (c (a i)) = -1 := nJ_m1 (by have := hc.1 (a i); omega)
        refine rk_up1 (fun v hv h => ?_) ⟨a i, ai, decide_eq_true i3, ?_⟩
        · have h' := of_decide_eq_true h
          rw [wI_1] at h'
          by_cases z : v = a i
          · rw [if_pos ⟨rfl, z⟩] at h'; exact absurd h' nm
          · rw [if_neg (fun k => z k.2)] at h'; exact decide_eq_true h'
        · refine decide_eq_false (fun h' => ?_)
          rw [wI_1, if_pos ⟨rfl, rfl⟩] at h'
          exact nm h'
      refine Or.inl ⟨_, m - 1, by omega, rfl, t + 1, by omega, rfl, f1.tr oneR_I, f2', Or.inr ⟨rfl, ?_⟩⟩
      rcases f3 with ⟨-, e, -⟩ | ⟨-, e⟩
      · rw [e] at dec ⊢; exact dec
      · exact Nat.lt_trans dec e
    · rw [if_neg (show ¬ nJ (cnt3 S1 N K R t) = 2 from fun z => w ((nJ_eq (j := 2) (by omega) (by omega)).mp z)), nJ_succ]
      refine Or.inl ⟨_, m - 1, m1, rfl, t + 1, m2, rfl, f1, f2, ?_⟩
      rcases f3 with ⟨e1, e2, e3⟩ | e
      · refine Or.inl ⟨e1, e2, fun t' h => ?_⟩
        by_cases z : t' = t
        · rw [z, ← e2]; exact w
        · exact e3 t' (by omega)
      · exact Or.inr e
  · rw [if_neg (fun z => q ((nJ_lt (by omega) (by omega)).mp z))]
    refine Or.inr ⟨_, rfl, f1, f2, ?_⟩
    rcases f3 with ⟨e1, e2, e3⟩ | e
    · exact Or.inl ⟨e1, fun t' h => by show cnt3 S1 N K R t' ≠ 2; rw [e2]; exact e3 t' (by omega)⟩
    · exact Or.inr e
/-- all passes: every vertex is coloured -/
theorem M255_40 (hσ : σ = 1 ∨ σ = -1) (hT : TR P σ N K R) (hN3 : 3 ≤ N) (hN : N ≤ 12) (h0 : S.1 141 0 = nJ N) (ht : ∀ t, t + 3 ≤ N → trM S N K R t) (hc : colR N K R c) (hf : fil S N c) : ∃ r, wh FU Lm_255_40 (1, S) = some r ∧ oneR 158 S r.2 ∧ ∀ v, v < N → r.2.1 158 v = nJ (c v) := by
  have key : ∃ r, wh FU Lm_255_40 (1, S) = some r ∧ oneR 158 S r.2 ∧ fil r.2 N c ∧ ∀ t, t + 3 ≤ N → cnt3 r.2 N K R t ≠ 2 := by
    refine wh_inv (I := fun m x => oneR 158 S x.2 ∧ fil x.2 N c ∧ ((x.1 = 0 ∧ ∀ t, t + 3 ≤ N → cnt3 x.2 N K R t ≠ 2) ∨ (x.1 = 1 ∧ uncl x.2 N < m))) ?_ FU (uncl S N + 1) _ (FU_lt (by have : uncl S N ≤ N := rk_le _ _; omega)) ⟨oneR.rf, hf, Or.inr ⟨rfl, by show uncl S N < uncl S N + 1; omega⟩⟩
    rintro m ⟨y, S1⟩ ⟨f1, f2, f3⟩
    dsimp only at f1 f2 f3
    unfold Lm_255_40
    dsimp only
    rcases f3 with ⟨rfl, e⟩ | ⟨rfl, e⟩
    · rw [if_pos rfl]
      exact Or.inr ⟨_, rfl, f1, f2, e⟩
    · rw [if_neg (by decide)]
      obtain ⟨r, er, r1, r2, r3⟩ := M255_48 hσ hT hN3 hN (by rw [f1.1 141 0 (by decide)]; exact h0) (fun t h => trM_158 f1 (ht t h)) hc f2
      rw [er, ob_s]
      rcases r3 with ⟨a, b⟩ | ⟨a, b⟩
      · exact Or.inl ⟨_, m - 1, by omega, rfl, f1.tr r1, r2, Or.inl ⟨a, b⟩⟩
      · exact Or.inl ⟨_, m - 1, by omega, rfl, f1.tr r1, r2, Or.inr ⟨a, by show uncl r.2.2 N < m - 1; omega⟩⟩
  obtain ⟨r, e, f1, f2, f3⟩ := key
  refine ⟨r, e, f1, ?_⟩
  have nm : ∀ v, ¬ nJ (c v) = -1 := fun v => nJ_m1 (by have := hc.1 v; omega)
  have all := clo_all (D := fun v => ¬ r.2.1 158 v = -1) hσ hT hN3 (fun t h => ?_) (by rw [f2.2.1]; exact nm 0) (by rw [f2.2.2]; exact nm 1)
  · exact fun v hv => (f2.1 v hv).resolve_left (all v hv)
  · have g := f3 t h
    unfold cnt3 ind at g
    refine ⟨fun a b z => g ?_, fun a b z => g ?_, fun a b z => g ?_⟩
    · rw [if_neg a, if_neg b, if_pos z]
    · rw [if_pos z, if_neg a, if_neg b]
    · rw [if_neg b, if_pos z, if_neg a]
end Fm
