/-! the triangles: the reference -/
def trM (S : ST) (N : Nat) (K : Nat → Nat) (R : Nat → Nat → Nat) (t : Nat) : Prop := S.1 157 (3 * t) = nJ (lo3 (kx N K R t) (ky K R t) (kz N K R t)) ∧ S.1 157 (3 * t + 1) = nJ (md3 (kx N K R t) (ky K R t) (kz N K R t)) ∧ S.1 157 (3 * t + 2) = nJ (hi3 (kx N K R t) (ky K R t) (kz N K R t))
section Mt
variable {S : ST}
theorem M251_9 {N : Nat} (hN : N ≤ 12) : ∃ z S', wh FU (Lm_251_9 (nJ N)) (0, S) = some (z, S') ∧ Fm [156, 157] [] S S' ∧ ∀ o, o < N → S'.1 156 o = nJ o := by
  have key : ∃ r, wh FU (Lm_251_9 (nJ N)) (nJ 0, S) = some r ∧ Fm [156, 157] [] S r.2 ∧ ∀ o, o < N → r.2.1 156 o = nJ o := by
    refine wh_inv (I := fun m x => ∃ i, i + m = N ∧ x.1 = nJ i ∧ Fm [156, 157] [] S x.2 ∧ ∀ o, o < i → x.2.1 156 o = nJ o) ?_ FU N _ (FU_lt (by omega)) ⟨0, by omega, rfl, Fm.rf, fun o ho => by omega⟩
    rintro m ⟨y, S1⟩ ⟨i, hi, rfl, f1, w⟩
    unfold Lm_251_9
    dsimp only at f1 w ⊢
    by_cases c : i < N
    · rw [if_pos ((nJ_lt (by omega) (by omega)).mpr c), ck_t (ibd_n (by omega) (by omega)), sbn_e, nJ_ix (by omega), nJ_succ]
      refine Or.inl ⟨_, m - 1, by omega, rfl, i + 1, by omega, rfl, f1.tr (Fm_a (by simp)), fun o ho => ?_⟩
      show (wI S1 156 i (nJ i)).1 156 o = nJ o
      rw [wI_1]
      by_cases d : o = i
      · rw [if_pos ⟨rfl, d⟩, d]
      · rw [if_neg (fun q => d q.2)]; exact w o (by omega)
    · rw [if_neg (fun q => c ((nJ_lt (by omega) (by omega)).mp q))]
      exact Or.inr ⟨_, rfl, f1, fun o ho => w o (by omega)⟩
  obtain ⟨⟨z, S'⟩, e, w⟩ := key
  exact ⟨z, S', e, w⟩
theorem M251_36 (g : GR S 141) {n k : Nat} {r : Nat → Nat} (p : Int32) (hr : Rg S n r) (hn : 3 ≤ n) (hn2 : n ≤ 12) (hk : lst (rP S 141) (sgA S) n r k) : wh FU (Lm_251_36 (nJ n) p S) 0 = some (nJ k) := by
  have k1 := hk.1
  have key : ∃ z, wh FU (Lm_251_36 (nJ n) p S) (nJ 0) = some z ∧ z = nJ k := by
    refine wh_inv (I := fun m x => ∃ i, i + m = k ∧ x = nJ i) ?_ FU k _ (FU_lt (by omega)) ⟨0, by omega, rfl⟩
    rintro m x ⟨i, hi, rfl⟩
    unfold Lm_251_36
    obtain ⟨b, eb, hb⟩ := F249_eq g hr hn hn2 (show i < n by omega)
    rw [eb, ob_s]
    by_cases c : b = true
    · rw [if_pos c]
      have : i = k := by
        rcases Nat.lt_or_ge i k with z | z
        · exact absurd (hb.mp c) (hk.2.2 i z)
        · omega
      exact Or.inr ⟨_, rfl, by rw [this]⟩
    · rw [if_neg c, nJ_succ]
      have : i ≠ k := fun z => c (hb.mpr (by rw [z]; exact hk.2.1))
      exact Or.inl ⟨_, m - 1, by omega, rfl, i + 1, by omega, rfl⟩
  obtain ⟨z, e, rfl⟩ := key
  exact e
theorem M251_93 (p q : Int32) {n k : Nat} {r : Nat → Nat} (hr : ∀ o, o < n → S.1 156 o = nJ (r o)) (hn : n ≤ 12) (hk : k < n) : ∃ z S', wh FU (Lm_251_93 (nJ (n - 1)) p q) (nJ k, S) = some (z, S') ∧ Fm [156, 157] [] S S' ∧ S'.1 157 = S.1 157 ∧ ∀ o, o < n - 1 → S'.1 156 o = nJ (rmv r k o) := by
  have key : ∃ x, wh FU (Lm_251_93 (nJ (n - 1)) p q) (nJ k, S) = some x ∧ Fm [156, 157] [] S x.2 ∧ x.2.1 157 = S.1 157 ∧ ∀ o, o < n - 1 → x.2.1 156 o = nJ (rmv r k o) := by
    refine wh_inv (I := fun m x => ∃ i, i + m = n - 1 ∧ k ≤ i ∧ x.1 = nJ i ∧ Fm [156, 157] [] S x.2 ∧ x.2.1 157 = S.1 157 ∧ (∀ o, o < i → x.2.1 156 o = nJ (rmv r k o)) ∧ ∀ o, i ≤ o → x.2.1 156 o = S.1 156 o) ?_ FU (n - 1 - k) _ (FU_lt (by omega)) ⟨k, by omega, Nat.le_refl _, rfl, Fm.rf, rfl, fun o ho => ?_, fun _ _ => rfl⟩
    · rintro m ⟨y, S1⟩ ⟨i, hi, hki, rfl, f1, f2, w1, w2⟩
      unfold Lm_251_93
      dsimp only at f1 f2 w1 w2 ⊢
      by_cases c : i < n - 1
      · rw [if_pos ((nJ_lt (by omega) (by omega)).mpr c), nJ_succ, ck_t (ibd_n (by omega) (by omega)), ck_t (ibd_n (by omega) (by omega)), sbn_e, nJ_ix (by omega), nJ_ix (by omega), w2 (i + 1) (by omega), hr (i + 1) (by omega)]
        refine Or.inl ⟨_, m - 1, by omega, rfl, i + 1, by omega, by omega, rfl, f1.tr (Fm_a (by simp)), ?_, fun o ho => ?_, fun o ho => ?_⟩
        · rw [← f2]; exact funext fun j => (by rw [wI_1, if_neg (by omega)])
        · show (wI S1 156 i (nJ (r (i + 1)))).1 156 o = nJ (rmv r k o)
          rw [wI_1]
          by_cases d : o = i
          · rw [if_pos ⟨rfl, d⟩, d]; unfold rmv; rw [if_neg (by omega)]
          · rw [if_neg (fun q => d q.2)]; exact w1 o (by omega)
        · show (wI S1 156 i (nJ (r (i + 1)))).1 156 o = S.1 156 o
          rw [wI_1, if_neg (by omega)]; exact w2 o (by omega)
      · rw [if_neg (fun q => c ((nJ_lt (by omega) (by omega)).mp q))]
        exact Or.inr ⟨_, rfl, f1, f2, fun o ho => w1 o (by omega)⟩
    · show S.1 156 o = _
      rw [hr o (by omega)]; unfold rmv; rw [if_pos ho]
  obtain ⟨⟨z, S'⟩, e, w⟩ := key
  exact ⟨z, S', e, w⟩
theorem F251_eq (g : GR S 141) {K : Nat → Nat} {R : Nat → Nat → Nat} (hT : TR (rP S 141) (sgA S) (rN S 141) K R) : ∃ S', F_251 S = some ((), S') ∧ Fm [156, 157] [] S S' ∧ ∀ t, t + 3 ≤ rN S 141 → trM S' (rN S 141) K R t := by
  have h12 := g.1.2
  have h3 := g.2.1
  obtain ⟨z1, S1, e1, f1, w1⟩ := M251_9 (S := S) h12
  have key : ∃ r, wh FU Lm_251_29 (nJ (rN S 141), nJ 0, S1) = some r ∧ r.1 = nJ 3 ∧ r.2.1 = nJ (rN S 141 - 3) ∧ Fm [156, 157] [] S r.2.2 ∧ (∀ o, o < 3 → r.2.2.1 156 o = nJ (R (rN S 141 - 3) o)) ∧ ∀ t, t + 3 < rN S 141 → trM r.2.2 (rN S 141) K R t := by
    refine wh_inv (I := fun m x => ∃ t, t + m + 3 = rN S 141 ∧ x.1 = nJ (rN S 141 - t) ∧ x.2.1 = nJ t ∧ Fm [156, 157] [] S x.2.2 ∧ (∀ o, o < rN S 141 - t → x.2.2.1 156 o = nJ (R t o)) ∧ ∀ t', t' < t → trM x.2.2 (rN S 141) K R t') ?_ FU (rN S 141 - 3) _ (FU_lt (by omega)) ⟨0, by omega, rfl, rfl, f1, fun o ho => by rw [hT.1]; exact w1 o ho, fun t' ht => by omega⟩
    rintro m ⟨y1, y2, S2⟩ ⟨t, ht, rfl, rfl, f2, w2, w3⟩
    dsimp only at f2 w2 w3
    unfold Lm_251_29
    dsimp only
    by_cases c : t + 3 < rN S 141
    · obtain ⟨l, er⟩ := hT.2.2.1 t c
      have ok := hT.2.1 t (by omega)
      obtain ⟨q1, q2, q3, q4⟩ := r141 (S := S) (S1 := S2) (f2.row (by simp) (by decide))
      have hr : Rg S2 (rN S 141 - t) (R t) := fun o ho => ⟨w2 o ho, by rw [q1]; exact ok.2.2.2 o ho⟩
      have lk := l.1
      have m36 := M251_36 (q4 g) (nJ t) hr (by omega) (by omega) (by rw [q2, q3]; exact l)
      have l1 := Nat.mod_lt (K t + (rN S 141 - t) - 1) (show 0 < rN S 141 - t by omega)
      have l2 := Nat.mod_lt (K t + 1) (show 0 < rN S 141 - t by omega)
      have b1 := ok.2.2.2 _ l1
      have b2 := ok.2.2.2 _ lk
      have b3 := ok.2.2.2 _ l2
      have nz : ¬ nJ (rN S 141 - t) = 0 := fun z => by have := (nJ_eq (j := 0) (by omega) (by omega)).mp z; omega
      have nz' : (!(decide (nJ (rN S 141 - t) = 0))) = true := by rw [decide_eq_false nz]; rfl
      obtain ⟨S3, e3, f3, g1, g2, g3, g4⟩ := F250_eq (S := S2) (a := kx (rN S 141) K R t) (b := ky K R t) (c := kz (rN S 141) K R t) (t := t) (by unfold kx; omega) (by unfold ky; omega) (by unfold kz; omega) (by omega)
      have f3' : Fm [156, 157] [] S2 S3 := f3.wk (by simp) (by simp)
      have e156 : S3.1 156 = S2.1 156 := f3.row (by simp) (by decide)
      obtain ⟨z4, S4, e4, f4, r4, w4⟩ := M251_93 (S := S3) (nJ (t + 1)) (nJ (K t)) (n := rN S 141 - t) (k := K t) (r := R t) (fun o ho => by rw [e156]; exact w2 o ho) (by omega) lk
      rw [if_pos (show (3 : Int32) < nJ (rN S 141 - t) from (nJ_lt (i := 3) (by omega) (by omega)).mpr (by omega)), m36, ob_s, nJ_md1 (by omega) (by omega) (by omega), nJ_md2 (by omega) (by omega), ck_t nz', ck_t (ibd_n (by omega) (by omega)), ck_t (ibd_n (by omega) (by omega)), ck_t nz', ck_t (ibd_n (by omega) (by omega)), nJ_ix (by omega), nJ_ix (by omega), nJ_ix (by omega), w2 _ l1, w2 _ lk, w2 _ l2]
      have e3' : F_250 (nJ t) (nJ (R t ((K t + (rN S 141 - t) - 1) % (rN S 141 - t)))) (nJ (R t (K t))) (nJ (R t ((K t + 1) % (rN S 141 - t)))) S2 = some ((), S3) := e3
      rw [e3', ob_s, nJ_succ, nJ_dec (by omega), e4, ob_s]
      refine Or.inl ⟨_, m - 1, by omega, rfl, t + 1, by omega, ?_, rfl, f2.tr (f3'.tr f4), fun o ho => ?_, fun t' ht' => ?_⟩
      · exact congrArg nJ (by omega)
      · show S4.1 156 o = nJ (R (t + 1) o)
        rw [er]; exact w4 o (by omega)
      · show trM S4 _ K R t'
        unfold trM
        rw [r4]
        by_cases d : t' = t
        · rw [d]; exact ⟨g2, g3, g4⟩
        · rw [g1 _ (by omega), g1 _ (by omega), g1 _ (by omega)]
          exact w3 t' (by omega)
    · have et : t = rN S 141 - 3 := by omega
      have e33 : rN S 141 - t = 3 := by omega
      rw [e33, if_neg (show ¬ (3 : Int32) < nJ 3 by decide)]
      refine Or.inr ⟨_, rfl, rfl, by rw [et], f2, fun o ho => ?_, fun t' ht' => w3 t' (by omega)⟩
      rw [← et]; exact w2 o (by omega)
  obtain ⟨⟨y1, y2, S2⟩, e2, h1, h2, f2, w2, w3⟩ := key
  dsimp only at h1 h2 f2 w2 w3
  subst h1 h2
  have ok := hT.2.1 (rN S 141 - 3) (by omega)
  have eN : rN S 141 - (rN S 141 - 3) = 3 := by omega
  rw [eN] at ok
  have b0 := ok.2.2.2 0 (by omega)
  have b1 := ok.2.2.2 1 (by omega)
  have b2 := ok.2.2.2 2 (by omega)
  obtain ⟨S3, e3, f3, g1, g2, g3, g4⟩ := F250_eq (S := S2) (a := R (rN S 141 - 3) 0) (b := R (rN S 141 - 3) 1) (c := R (rN S 141 - 3) 2) (t := rN S 141 - 3) (by omega) (by omega) (by omega) (by omega)
  refine ⟨S3, ?_, f2.tr (f3.wk (by simp) (by simp)), fun t ht => ?_⟩
  · unfold F_251
    rw [g.1.1, e1, ob_s]
    show ob (wh FU Lm_251_29 (nJ (rN S 141), nJ 0, S1)) _ = _
    rw [e2, ob_s]
    dsimp only
    rw [w2 0 (by omega), w2 1 (by omega), w2 2 (by omega), e3, ob_s]
  · by_cases d : t = rN S 141 - 3
    · subst d
      unfold trM kx ky kz
      rw [eN, hT.2.2.2]
      refine ⟨g2.trans (congrArg nJ ?_), g3.trans (congrArg nJ ?_), g4.trans (congrArg nJ ?_)⟩
      · show lo3 _ _ _ = lo3 (R (rN S 141 - 3) 2) (R (rN S 141 - 3) 0) (R (rN S 141 - 3) 1); unfold lo3; omega
      · show md3 _ _ _ = md3 (R (rN S 141 - 3) 2) (R (rN S 141 - 3) 0) (R (rN S 141 - 3) 1); unfold md3 lo3 hi3; omega
      · show hi3 _ _ _ = hi3 (R (rN S 141 - 3) 2) (R (rN S 141 - 3) 0) (R (rN S 141 - 3) 1); unfold hi3; omega
    · unfold trM
      rw [g1 _ (by omega), g1 _ (by omega), g1 _ (by omega)]
      exact w3 t (by omega)
end Mt
