/-! the class's triangles -/
theorem EarAt_cg {P P' : Nat → GPt} {σ : Int} {N n k : Nat} {r : Nat → Nat} (hP : ∀ i, i < N → P i = P' i) (hr : ∀ o, o < n → r o < N) (hk : k < n) : EarAt P σ n r k → EarAt P' σ n r k := by
  have e : ∀ o, o < n → P (r o) = P' (r o) := fun o ho => hP _ (hr o ho)
  rintro ⟨a, b⟩
  rw [e _ (Nat.mod_lt _ (by omega)), e _ hk, e _ (Nat.mod_lt _ (by omega))] at a
  refine ⟨a, fun o ho q1 q2 q3 => ?_⟩
  have := b o ho q1 q2 q3
  rw [e _ (Nat.mod_lt _ (by omega)), e _ hk, e _ (Nat.mod_lt _ (by omega)), e o ho] at this
  exact this
theorem lst_cg {P P' : Nat → GPt} {σ : Int} {N n k : Nat} {r : Nat → Nat} (hP : ∀ i, i < N → P i = P' i) (hr : ∀ o, o < n → r o < N) (h : lst P σ n r k) : lst P' σ n r k :=
  ⟨h.1, EarAt_cg hP hr h.1 h.2.1, fun j hj q => h.2.2 j hj (EarAt_cg (fun i hi => (hP i hi).symm) hr (by have := h.1; omega) q)⟩
/-- the last corner is 0 -/
theorem lst_3 {P : Nat → GPt} {σ : Int} {N : Nat} {r : Nat → Nat} (hσ : σ = 1 ∨ σ = -1) (h : okg P σ N r 3) : lst P σ 3 r 0 := by
  obtain ⟨k, k1, k2, -⟩ := lst_ex hσ (Nat.le_refl _) h
  refine ⟨by omega, ⟨?_, fun o ho q1 q2 q3 => ?_⟩, fun j hj => by omega⟩
  · show 0 < σ * ge_o (P (r 2)) (P (r 0)) (P (r 1))
    have a := k2.1
    have c1 := ge_o_cyc (P (r 0)) (P (r 1)) (P (r 2))
    have c2 := ge_o_cyc (P (r 1)) (P (r 2)) (P (r 0))
    have c3 := ge_o_cyc (P (r 2)) (P (r 0)) (P (r 1))
    match k, k1, a with
    | 0, _, a => exact a
    | 1, _, a =>
      have a' : 0 < σ * ge_o (P (r 0)) (P (r 1)) (P (r 2)) := a
      rw [← c3]; exact a'
    | 2, _, a =>
      have a' : 0 < σ * ge_o (P (r 1)) (P (r 2)) (P (r 0)) := a
      rw [← c3, ← c1]; exact a'
  · exfalso
    have q1' : r o ≠ r 2 := q1
    have q3' : r o ≠ r 1 := q3
    match o, ho with
    | 0, _ => exact q2 rfl
    | 1, _ => exact q3' rfl
    | 2, _ => exact q1' rfl
theorem TR_lst {P : Nat → GPt} {σ : Int} {N : Nat} {K : Nat → Nat} {R : Nat → Nat → Nat} (hσ : σ = 1 ∨ σ = -1) (hT : TR P σ N K R) {t : Nat} (ht : t + 3 ≤ N) : lst P σ (N - t) (R t) (K t) := by
  by_cases c : t + 3 < N
  · exact (hT.2.2.1 t c).1
  · have e : t = N - 3 := by omega
    have ok := hT.2.1 t ht
    have k0 := hT.2.2.2
    rw [← e] at k0
    rw [k0]
    rw [show N - t = 3 by omega] at ok ⊢
    exact lst_3 hσ ok
section Ct
variable {S M : ST}
theorem C95_31 {N : Nat} (hN : N ≤ 12) (h7 : S.1 32 7 = nJ N) : ∃ z S', wh FU L_95_31 (0, S) = some (z, S') ∧ trF S S' ∧ S'.1 32 7 = nJ N ∧ S'.1 32 8 = S.1 32 8 ∧ ∀ o, o < N → S'.1 38 o = nJ o := by
  have key : ∃ r, wh FU L_95_31 (nJ 0, S) = some r ∧ trF S r.2 ∧ r.2.1 32 7 = nJ N ∧ r.2.1 32 8 = S.1 32 8 ∧ ∀ o, o < N → r.2.1 38 o = nJ o := by
    refine wh_inv (I := fun m x => ∃ i, i + m = N ∧ x.1 = nJ i ∧ trF S x.2 ∧ x.2.1 32 7 = nJ N ∧ x.2.1 32 8 = S.1 32 8 ∧ ∀ o, o < i → x.2.1 38 o = nJ o) ?_ FU N _ (FU_lt (by omega)) ⟨0, by omega, rfl, trF.rf, h7, rfl, fun o ho => by omega⟩
    rintro m ⟨y, S1⟩ ⟨i, hi, rfl, f1, f7, f8, w⟩
    unfold L_95_31
    dsimp only at f1 f7 f8 w ⊢
    rw [f7]
    by_cases c : i < N
    · rw [if_pos ((nJ_lt (by omega) (by omega)).mpr c), ck_t (ibd_n (by omega) (by omega)), sbn_e, nJ_ix (by omega), nJ_succ]
      refine Or.inl ⟨_, m - 1, by omega, rfl, i + 1, by omega, rfl, f1.tr (trF_I (by decide) (by decide)), ?_, ?_, fun o ho => ?_⟩
      · show (wI S1 38 i (nJ i)).1 32 7 = _
        rw [wI_1, if_neg (fun q => absurd q.1 (by decide))]; exact f7
      · show (wI S1 38 i (nJ i)).1 32 8 = _
        rw [wI_1, if_neg (fun q => absurd q.1 (by decide))]; exact f8
      · show (wI S1 38 i (nJ i)).1 38 o = nJ o
        rw [wI_1]
        by_cases d : o = i
        · rw [if_pos ⟨rfl, d⟩, d]
        · rw [if_neg (fun q => d q.2)]; exact w o (by omega)
    · rw [if_neg (fun q => c ((nJ_lt (by omega) (by omega)).mp q))]
      exact Or.inr ⟨_, rfl, f1, f7, f8, fun o ho => w o (by omega)⟩
  obtain ⟨⟨z, S'⟩, e, w⟩ := key
  exact ⟨z, S', e, w⟩
theorem CX_trF (h : CX S M) {S' : ST} (f : trF S S') : CX S' M := CX_fp h f.1 (fun a ha => by unfold cxC at ha; omega)
theorem C95_77 (h : CX S M) {K : Nat → Nat} {R : Nat → Nat → Nat} (hT : TR (rP M 141) (sgA M) (rN M 141) K R) {v : Bool} (hv : (sgA M = 1 ∧ v = true) ∨ (sgA M = -1 ∧ v = false)) (hC : Cg S (rN M 141) id) : ∃ z S', wh FU (L_95_77 v (nJ (rN M 141 - 2))) (0, S) = some (z, S') ∧ trF S S' ∧ S'.1 32 8 = S.1 32 8 ∧ ∀ t, t + 3 ≤ rN M 141 → trC S' (rN M 141) K R t := by
  have g := h.2.2.1.1
  have h12 := g.1.2
  have h3 := g.2.1
  have key : ∃ r, wh FU (L_95_77 v (nJ (rN M 141 - 2))) (nJ 0, S) = some r ∧ trF S r.2 ∧ r.2.1 32 8 = S.1 32 8 ∧ ∀ t, t + 3 ≤ rN M 141 → trC r.2 (rN M 141) K R t := by
    refine wh_inv (I := fun m x => ∃ t, t + m + 2 = rN M 141 ∧ x.1 = nJ t ∧ trF S x.2 ∧ x.2.1 32 8 = S.1 32 8 ∧ (t + 3 ≤ rN M 141 → Cg x.2 (rN M 141 - t) (R t)) ∧ ∀ t', t' < t → trC x.2 (rN M 141) K R t') ?_ FU (rN M 141 - 2) _ (FU_lt (by omega)) ⟨0, by omega, rfl, trF.rf, rfl, fun _ => by rw [hT.1]; exact hC, fun t' ht => by omega⟩
    rintro m ⟨y, S2⟩ ⟨t, ht, rfl, f2, f8, w2, w3⟩
    dsimp only at f2 f8 w2 w3
    unfold L_95_77
    dsimp only
    by_cases c : t + 3 ≤ rN M 141
    · have hl := TR_lst (sgA_1 M) hT c
      have ok := hT.2.1 t c
      have hx := CX_trF h f2
      obtain ⟨⟨wW, wB, -, wn, wp⟩, -⟩ := hx
      have hr : ∀ o, o < rN M 141 - t → R t o < clN S2 3 := fun o ho => by rw [wn]; exact ok.2.2.2 o ho
      have e96 := F96_eq wW wB hv (w2 c) hr (by omega) (lst_cg (fun i hi => (wp i hi).symm) ok.2.2.2 hl)
      obtain ⟨S3, e3, f3, f38, c3, p1, p2, p3, p4, p5⟩ := F100_eq (t := t) (w2 c) (fun o ho => by have := ok.2.2.2 o ho; omega) (by omega) (by omega) hl.1 (by omega)
      rw [if_pos ((nJ_lt (by omega) (by omega)).mpr (by omega)), if_pos (show nJ t < 10 from (nJ_lt (j := 10) (by omega) (by omega)).mpr (by omega)), e96, ob_s, e3, ob_s, nJ_succ]
      refine Or.inl ⟨_, m - 1, by omega, rfl, t + 1, by omega, rfl, f2.tr f3, f38.trans f8, fun q => ?_, fun t' ht' => ?_⟩
      · rw [(hT.2.2.1 t (by omega)).2, show rN M 141 - (t + 1) = rN M 141 - t - 1 by omega]; exact c3
      · show trC S3 _ K R t'
        by_cases d : t' = t
        · rw [d]; exact ⟨p2, p3, p4, p5⟩
        · have := p1 t' (by omega)
          unfold trC
          rw [this.1, this.2.1, this.2.2.1, this.2.2.2]
          exact w3 t' (by omega)
    · rw [if_neg (fun q => by have := (nJ_lt (by omega) (by omega)).mp q; omega)]
      exact Or.inr ⟨_, rfl, f2, f8, fun t' ht' => w3 t' (by omega)⟩
  obtain ⟨⟨z, S'⟩, e, w⟩ := key
  exact ⟨z, S', e, w⟩
theorem F95_eq (h : CX S M) (h0 : S.1 32 8 = 0) {K : Nat → Nat} {R : Nat → Nat → Nat} (hT : TR (rP M 141) (sgA M) (rN M 141) K R) : ∃ S1, F_95 S = ob (F_101 (nJ (rN M 141 - 2)) S1) (fun w4 => some ((), w4.2)) ∧ trF S S1 ∧ S1.1 32 8 = 1 ∧ ∀ t, t + 3 ≤ rN M 141 → trC S1 (rN M 141) K R t := by
  have g := h.2.2.1.1
  have h12 := g.1.2
  have h3 := g.2.1
  have hn : S.1 3 0 = nJ (rN M 141) := by rw [h.1.1.1, h.1.2.2.2.1]
  have f0 : trF S (wI (wI S 32 8 1) 32 7 (nJ (rN M 141))) := (trF_7 (Or.inr rfl)).tr (trF_7 (Or.inl rfl))
  obtain ⟨z1, S1, e1, f1, g7, g8, w1⟩ := C95_31 (S := wI (wI S 32 8 1) 32 7 (nJ (rN M 141))) h12 (by rw [wI_1, if_pos ⟨rfl, rfl⟩])
  have F1 := f0.tr f1
  have hx := CX_trF h F1
  obtain ⟨u, eu, tu⟩ := F25_eq hx.1.1 hx.1.2.1
  rw [hx.1.2.2.1] at tu
  have hv : (sgA M = 1 ∧ decide ((0 : Int32) < u) = true) ∨ (sgA M = -1 ∧ decide ((0 : Int32) < u) = false) := by
    have a := (okg_M g).2.1
    have a' : 0 < sgA M * ge_ar (rL M 141) := a
    rw [← tu] at a'
    rcases sgA_1 M with s | s
    · refine Or.inl ⟨s, decide_eq_true ((i32_p u).mpr ?_)⟩
      rw [s] at a'; omega
    · refine Or.inr ⟨s, decide_eq_false (fun q => ?_)⟩
      have := (i32_p u).mp q
      rw [s] at a'; omega
  obtain ⟨z2, S2, e2, f2, k8, w2⟩ := C95_77 hx hT hv ⟨g7, w1⟩
  refine ⟨S2, ?_, F1.tr f2, ?_, w2⟩
  · unfold F_95
    rw [if_pos h0, hn, if_neg (show ¬ (12 : Int32) < nJ (rN M 141) from fun q => by have := (nJ_lt (i := 12) (by omega) (by omega)).mp q; omega), e1, ob_s, eu, ob_s]
    dsimp only
    rw [g7, show nJ (rN M 141) - 2 = nJ (rN M 141 - 2) from nJ_sub (j := 2) (by omega), e2, ob_s]
  · rw [k8, g8, wI_1, if_neg (fun q => absurd q.2 (by decide)), wI_1, if_pos ⟨rfl, rfl⟩]
end Ct
