/-! the class paints -/
/-- only the row a moves -/
def oneR (a : Nat) (S S' : ST) : Prop := (∀ b j, b ≠ a → S'.1 b j = S.1 b j) ∧ S'.2 = S.2
theorem oneR.rf {a : Nat} {S : ST} : oneR a S S := ⟨fun _ _ _ => rfl, rfl⟩
theorem oneR.tr {a : Nat} {S S1 S2 : ST} (h : oneR a S S1) (h' : oneR a S1 S2) : oneR a S S2 := ⟨fun b j q => (h'.1 b j q).trans (h.1 b j q), h'.2.trans h.2⟩
theorem oneR_I {a j : Nat} {S : ST} {v : Int32} : oneR a S (wI S a j v) := ⟨fun b i q => by rw [wI_1, if_neg (fun z => q z.1)], rfl⟩
theorem oneR_37 {S S' : ST} (h : oneR 37 S S') : trF S S' := ⟨fun a ha => ⟨funext fun j => h.1 a j (fun q => ha (by omega)), by rw [h.2]⟩, fun j _ _ => h.1 32 j (by decide)⟩
theorem trC_37 {S S' : ST} (h : oneR 37 S S') {N : Nat} {K : Nat → Nat} {R : Nat → Nat → Nat} {t : Nat} (g : trC S N K R t) : trC S' N K R t := by
  unfold trC
  rw [h.1 33 t (by decide), h.1 34 t (by decide), h.1 35 t (by decide), h.1 36 t (by decide)]
  exact g
section Cc
variable {S : ST} {P : Nat → GPt} {σ : Int} {N : Nat} {K : Nat → Nat} {R : Nat → Nat → Nat}
theorem i32_cn (a b c : Int32) : a + b + c - c = a + b := Int32.add_sub_cancel _ _
theorem C101_52 (hσ : σ = 1 ∨ σ = -1) (hT : TR P σ N K R) (hN3 : 3 ≤ N) (hN : N ≤ 12) (v1 v2 : Int32) (hc : ∀ t, t + 3 ≤ N → trC S N K R t) (hp : pnt S N K R (N - 3)) : ∃ z S', wh FU (L_101_52 v1 v2) (nJ (N - 3) + (-1), S) = some (z, S') ∧ oneR 37 S S' ∧ pnt S' N K R 0 := by
  have key : ∃ r, wh FU (L_101_52 v1 v2) (nJ (N - 3) + (-1), S) = some r ∧ oneR 37 S r.2 ∧ pnt r.2 N K R 0 := by
    refine wh_inv (I := fun m x => m + 3 ≤ N ∧ x.1 = nJ m + (-1) ∧ oneR 37 S x.2 ∧ pnt x.2 N K R m) ?_ FU (N - 3) _ (FU_lt (by omega)) ⟨by omega, rfl, oneR.rf, hp⟩
    rintro m ⟨y, S1⟩ ⟨hm, rfl, f1, p1⟩
    dsimp only at f1 p1
    unfold L_101_52
    dsimp only
    by_cases c : m = 0
    · subst c
      rw [if_pos (show nJ 0 + (-1) < 0 by decide)]
      exact Or.inr ⟨_, rfl, f1, p1⟩
    · obtain ⟨t, rfl⟩ : ∃ t, m = t + 1 := ⟨m - 1, by omega⟩
      rw [nJ_dec (by omega), show t + 1 - 1 = t by omega]
      obtain ⟨g1, g2, g3, g4⟩ := trC_37 f1 (hc t (by omega))
      have b := cnr_lt hσ hT (t := t) (by omega)
      have bl : lo3 (kx N K R t) (ky K R t) (kz N K R t) < 12 := by unfold lo3; omega
      have bm : md3 (kx N K R t) (ky K R t) (kz N K R t) < 12 := by unfold md3 lo3 hi3; omega
      have bh : hi3 (kx N K R t) (ky K R t) (kz N K R t) < 12 := by unfold hi3; omega
      have ib : ibd (nJ t) 10 = true := ibd_n (by omega) (by omega)
      have ix : Int32.toNatClampNeg (nJ t) = t := nJ_ix (by omega)
      rw [if_neg (nJ_nn (by omega)), ck_t ib, ix, g2, F103_eq bl, ob_s, ck_t ib, g3, F103_eq bm, ob_s, ck_t ib, g4, F103_eq bh, ob_s, ck_t ib, g1, F103_eq (by omega), ob_s, ck_t ib, F102_eq (by omega), ob_s]
      rw [srt_sumI (fun v => S1.1 37 v), i32_cn]
      exact Or.inl ⟨_, t, by omega, rfl, by omega, rfl, f1.tr oneR_I, pnt_step hσ hT hN (by omega) p1⟩
  obtain ⟨⟨z, S'⟩, e, w⟩ := key
  exact ⟨z, S', e, w⟩
/-- the colours, named by the first two vertices -/
def colR (N : Nat) (K : Nat → Nat) (R : Nat → Nat → Nat) (c : Nat → Nat) : Prop := (∀ v, c v < 3) ∧ c 0 = 0 ∧ c 1 = 1 ∧ ∀ t, t + 3 ≤ N → prT N K R c t
theorem C101_139 (v1 v2 : Int32) (hN3 : 3 ≤ N) (hN : N ≤ 12) (hT : TR P σ N K R) (h0 : S.1 3 0 = nJ N) (hp : pnt S N K R 0) : ∃ z S' c, wh FU (L_101_139 v1 v2 (S.1 37 0) (S.1 37 1)) (0, S) = some (z, S') ∧ oneR 37 S S' ∧ colR N K R c ∧ ∀ v, v < N → S'.1 37 v = nJ (c v) := by
  obtain ⟨c, c3, cp, ct, cc⟩ := hp
  rw [hT.1] at cp cc
  have n01 : c 0 ≠ c 1 := by
    have := cp 0 (by omega)
    rw [show (0 + 1) % (N - 0) = 1 from Nat.mod_eq_of_lt (by omega)] at this
    exact this
  have cell : ∀ v, v < N → S.1 37 v = nJ (c v) := fun v hv => cc v (by omega)
  obtain ⟨c', hc'⟩ : ∃ c' : Nat → Nat, c' = fun v => if c v = c 0 then 0 else if c v = c 1 then 1 else 2 := ⟨_, rfl⟩
  have ne : ∀ u v, c u ≠ c v → c' u ≠ c' v := fun u v h => by
    have a := c3 u
    have b := c3 v
    have d := c3 0
    have e := c3 1
    rw [hc']
    dsimp only
    by_cases q1 : c u = c 0
    · rw [if_pos q1]
      by_cases q2 : c v = c 0
      · exact absurd (q1.trans q2.symm) h
      · rw [if_neg q2]; split <;> omega
    · rw [if_neg q1]
      by_cases q2 : c v = c 0
      · rw [if_pos q2]; split <;> omega
      · rw [if_neg q2]
        by_cases q3 : c u = c 1
        · rw [if_pos q3, if_neg (fun q => h (q3.trans q.symm))]; omega
        · rw [if_neg q3]
          by_cases q4 : c v = c 1
          · rw [if_pos q4]; omega
          · omega
  have key : ∃ r, wh FU (L_101_139 v1 v2 (S.1 37 0) (S.1 37 1)) (nJ 0, S) = some r ∧ oneR 37 S r.2 ∧ ∀ v, v < N → r.2.1 37 v = nJ (c' v) := by
    refine wh_inv (I := fun m x => ∃ i, i + m = N ∧ x.1 = nJ i ∧ oneR 37 S x.2 ∧ (∀ v, v < i → x.2.1 37 v = nJ (c' v)) ∧ ∀ v, i ≤ v → x.2.1 37 v = S.1 37 v) ?_ FU N _ (FU_lt (by omega)) ⟨0, by omega, rfl, oneR.rf, fun v hv => by omega, fun _ _ => rfl⟩
    rintro m ⟨y, S1⟩ ⟨i, hi, rfl, f1, w1, w2⟩
    dsimp only at f1 w1 w2
    unfold L_101_139
    dsimp only
    rw [f1.1 3 0 (by decide), h0]
    by_cases d : i < N
    · have ib : ibd (nJ i) 12 = true := ibd_n (by omega) (by omega)
      have ix : Int32.toNatClampNeg (nJ i) = i := nJ_ix (by omega)
      have a := c3 i
      have b := c3 0
      have e := c3 1
      rw [if_pos ((nJ_lt (by omega) (by omega)).mpr d), if_pos (show nJ i < 12 from (nJ_lt (j := 12) (by omega) (by omega)).mpr (by omega)), ck_t ib, ix, w2 i (Nat.le_refl _), cell i d, cell 0 (by omega), cell 1 (by omega)]
      have fin : ∀ x : Int32, x = nJ (c' i) → oneR 37 S (wI S1 37 i x) ∧ (∀ v, v < i + 1 → (wI S1 37 i x).1 37 v = nJ (c' v)) ∧ ∀ v, i + 1 ≤ v → (wI S1 37 i x).1 37 v = S.1 37 v := fun x hx => by
        refine ⟨f1.tr oneR_I, fun v hv => ?_, fun v hv => ?_⟩
        · rw [wI_1]
          by_cases q : v = i
          · rw [if_pos ⟨rfl, q⟩, q, hx]
          · rw [if_neg (fun z => q z.2)]; exact w1 v (by omega)
        · rw [wI_1, if_neg (fun z => by have := z.2; omega)]; exact w2 v (by omega)
      by_cases q1 : c i = c 0
      · rw [if_pos (by rw [q1]), ck_t ib, sbn_e, nJ_succ]
        exact Or.inl ⟨_, m - 1, by omega, rfl, i + 1, by omega, rfl, fin 0 (by rw [hc']; dsimp only; rw [if_pos q1]; rfl)⟩
      · rw [if_neg (fun z => q1 ((nJ_eq (by omega) (by omega)).mp z)), ck_t ib, ck_t ib, sbn_e, nJ_succ]
        refine Or.inl ⟨_, m - 1, by omega, rfl, i + 1, by omega, rfl, fin _ ?_⟩
        rw [hc']
        dsimp only
        rw [if_neg q1]
        by_cases q2 : c i = c 1
        · rw [if_pos (by rw [q2]), if_pos q2]; rfl
        · rw [if_neg (fun z => q2 ((nJ_eq (by omega) (by omega)).mp z)), if_neg q2]; rfl
    · rw [if_neg (fun z => d ((nJ_lt (by omega) (by omega)).mp z))]
      exact Or.inr ⟨_, rfl, f1, fun v hv => w1 v (by omega)⟩
  obtain ⟨⟨z, S'⟩, e, f, w⟩ := key
  refine ⟨z, S', c', e, f, ⟨fun v => ?_, ?_, ?_, fun t ht => ?_⟩, w⟩
  · rw [hc']; dsimp only; split <;> (try split) <;> omega
  · rw [hc']; dsimp only; rw [if_pos rfl]
  · rw [hc']; dsimp only; rw [if_neg n01.symm, if_pos rfl]
  · have := ct t (by omega) ht
    exact ⟨ne _ _ this.1, ne _ _ this.2.1, ne _ _ this.2.2⟩
theorem F101_eq (hσ : σ = 1 ∨ σ = -1) (hT : TR P σ N K R) (hN3 : 3 ≤ N) (hN : N ≤ 12) (h0 : S.1 3 0 = nJ N) (hc : ∀ t, t + 3 ≤ N → trC S N K R t) : ∃ S' c, F_101 (nJ (N - 2)) S = some ((), S') ∧ oneR 37 S S' ∧ colR N K R c ∧ ∀ v, v < N → S'.1 37 v = nJ (c v) := by
  have b := cnr_lt hσ hT (t := N - 3) (by omega)
  have ne := cnr_ne hσ hT (t := N - 3) (by omega)
  have bl : lo3 (kx N K R (N - 3)) (ky K R (N - 3)) (kz N K R (N - 3)) < 12 := by unfold lo3; omega
  have bm : md3 (kx N K R (N - 3)) (ky K R (N - 3)) (kz N K R (N - 3)) < 12 := by unfold md3 lo3 hi3; omega
  have bh : hi3 (kx N K R (N - 3)) (ky K R (N - 3)) (kz N K R (N - 3)) < 12 := by unfold hi3; omega
  obtain ⟨g1, g2, g3, g4⟩ := hc (N - 3) (by omega)
  have e1 : nJ (N - 2) - 1 = nJ (N - 3) := nJ_sub (j := 1) (by omega)
  have ib : ibd (nJ (N - 3)) 10 = true := ibd_n (by omega) (by omega)
  have ix : Int32.toNatClampNeg (nJ (N - 3)) = N - 3 := nJ_ix (by omega)
  unfold F_101
  rw [e1, if_neg (nJ_nn (by omega)), if_pos (show nJ (N - 3) < 10 from (nJ_lt (j := 10) (by omega) (by omega)).mpr (by omega)), ck_t ib, ix, g2, F102_eq bl, ob_s, ck_t ib]
  dsimp only
  obtain ⟨S1, hS1⟩ : ∃ S1, S1 = wI S 37 (lo3 (kx N K R (N - 3)) (ky K R (N - 3)) (kz N K R (N - 3))) 0 := ⟨_, rfl⟩
  rw [← hS1]
  have o1 : oneR 37 S S1 := by rw [hS1]; exact oneR_I
  rw [o1.1 35 _ (by decide), g3, F102_eq bm, ob_s, ck_t ib]
  dsimp only
  obtain ⟨S2, hS2⟩ : ∃ S2, S2 = wI S1 37 (md3 (kx N K R (N - 3)) (ky K R (N - 3)) (kz N K R (N - 3))) 1 := ⟨_, rfl⟩
  rw [← hS2]
  have o2 : oneR 37 S S2 := by rw [hS2]; exact o1.tr oneR_I
  rw [o2.1 36 _ (by decide), g4, F102_eq bh, ob_s]
  dsimp only
  obtain ⟨S3, hS3⟩ : ∃ S3, S3 = wI S2 37 (hi3 (kx N K R (N - 3)) (ky K R (N - 3)) (kz N K R (N - 3))) 2 := ⟨_, rfl⟩
  rw [← hS3]
  have o3 : oneR 37 S S3 := by rw [hS3]; exact o2.tr oneR_I
  have dl : lo3 (kx N K R (N - 3)) (ky K R (N - 3)) (kz N K R (N - 3)) ≠ md3 (kx N K R (N - 3)) (ky K R (N - 3)) (kz N K R (N - 3)) := by
    rcases srt6 (kx N K R (N - 3)) (ky K R (N - 3)) (kz N K R (N - 3)) with ⟨a, b, c⟩ | ⟨a, b, c⟩ | ⟨a, b, c⟩ | ⟨a, b, c⟩ | ⟨a, b, c⟩ | ⟨a, b, c⟩ <;> rw [a, b] <;> omega
  have dm : md3 (kx N K R (N - 3)) (ky K R (N - 3)) (kz N K R (N - 3)) ≠ hi3 (kx N K R (N - 3)) (ky K R (N - 3)) (kz N K R (N - 3)) := by
    rcases srt6 (kx N K R (N - 3)) (ky K R (N - 3)) (kz N K R (N - 3)) with ⟨a, b, c⟩ | ⟨a, b, c⟩ | ⟨a, b, c⟩ | ⟨a, b, c⟩ | ⟨a, b, c⟩ | ⟨a, b, c⟩ <;> rw [b, c] <;> omega
  have dh : lo3 (kx N K R (N - 3)) (ky K R (N - 3)) (kz N K R (N - 3)) ≠ hi3 (kx N K R (N - 3)) (ky K R (N - 3)) (kz N K R (N - 3)) := by
    rcases srt6 (kx N K R (N - 3)) (ky K R (N - 3)) (kz N K R (N - 3)) with ⟨a, b, c⟩ | ⟨a, b, c⟩ | ⟨a, b, c⟩ | ⟨a, b, c⟩ | ⟨a, b, c⟩ | ⟨a, b, c⟩ <;> rw [a, c] <;> omega
  have hp : pnt S3 N K R (N - 3) := by
    refine pnt_3 hσ hT hN3 ⟨?_, ?_, ?_⟩
    · rw [hS3, wI_1, if_neg (fun q => dh q.2), hS2, wI_1, if_neg (fun q => dl q.2), hS1, wI_1, if_pos ⟨rfl, rfl⟩]
    · rw [hS3, wI_1, if_neg (fun q => dm q.2), hS2, wI_1, if_pos ⟨rfl, rfl⟩]
    · rw [hS3, wI_1, if_pos ⟨rfl, rfl⟩]
  obtain ⟨z4, S4, e4, f4, p4⟩ := C101_52 hσ hT hN3 hN (nJ (N - 2)) (nJ (N - 3)) (fun t ht => trC_37 o3 (hc t ht)) hp
  rw [show nJ (N - 3) - 1 = nJ (N - 3) + (-1) from Int32.sub_eq_add_neg _ _, e4, ob_s]
  dsimp only
  have o4 := o3.tr f4
  obtain ⟨z5, S5, c, e5, f5, hcol, w5⟩ := C101_139 (S := S4) (nJ (N - 2)) (nJ (N - 3)) hN3 hN hT (by rw [o4.1 3 0 (by decide)]; exact h0) p4
  rw [e5, ob_s]
  exact ⟨S5, c, rfl, o4.tr f5, hcol, w5⟩
end Cc
