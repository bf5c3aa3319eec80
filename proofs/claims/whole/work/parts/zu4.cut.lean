/-! the class cuts the ears -/
def trC (S : ST) (N : Nat) (K : Nat → Nat) (R : Nat → Nat → Nat) (t : Nat) : Prop := S.1 33 t = nJ (ky K R t) ∧ S.1 34 t = nJ (lo3 (kx N K R t) (ky K R t) (kz N K R t)) ∧ S.1 35 t = nJ (md3 (kx N K R t) (ky K R t) (kz N K R t)) ∧ S.1 36 t = nJ (hi3 (kx N K R t) (ky K R t) (kz N K R t))
/-- what laying the triangles may move -/
def trF (S S' : ST) : Prop := Fp (fun a => 32 ≤ a ∧ a ≤ 38) S S' ∧ ∀ j, j ≠ 7 → j ≠ 8 → S'.1 32 j = S.1 32 j
theorem trF.rf {S : ST} : trF S S := ⟨Fp.rf, fun _ _ _ => rfl⟩
theorem trF.tr {S S1 S2 : ST} (h : trF S S1) (h' : trF S1 S2) : trF S S2 := ⟨h.1.tr h'.1, fun j a b => (h'.2 j a b).trans (h.2 j a b)⟩
theorem trF_I {S : ST} {a j : Nat} {v : Int32} (h1 : 32 < a) (h2 : a ≤ 38) : trF S (wI S a j v) := ⟨Fp_I ⟨by omega, h2⟩, fun i _ _ => by rw [wI_1, if_neg (fun z => by have := z.1; omega)]⟩
theorem trF_7 {S : ST} {j : Nat} {v : Int32} (h : j = 7 ∨ j = 8) : trF S (wI S 32 j v) := ⟨Fp_I ⟨by omega, by omega⟩, fun i a b => by rw [wI_1, if_neg (fun z => by have := z.2; omega)]⟩
section Ct
variable {S : ST}
theorem C100_107 (v1 : Int32) (w1 w2 w3 : Int32) {n k : Nat} {r : Nat → Nat} (h : Cg S n r) (hn : n ≤ 12) (hk : k < n) : ∃ z S', wh FU (L_100_107 v1 (nJ k) w1 w2 w3) (nJ k, S) = some (z, S') ∧ (∀ a j, a ≠ 38 → S'.1 a j = S.1 a j) ∧ S'.2 = S.2 ∧ ∀ o, o < n - 1 → S'.1 38 o = nJ (rmv r k o) := by
  have key : ∃ x, wh FU (L_100_107 v1 (nJ k) w1 w2 w3) (nJ k, S) = some x ∧ (∀ a j, a ≠ 38 → x.2.1 a j = S.1 a j) ∧ x.2.2 = S.2 ∧ ∀ o, o < n - 1 → x.2.1 38 o = nJ (rmv r k o) := by
    refine wh_inv (I := fun m x => ∃ i, i + m = n - 1 ∧ k ≤ i ∧ x.1 = nJ i ∧ (∀ a j, a ≠ 38 → x.2.1 a j = S.1 a j) ∧ x.2.2 = S.2 ∧ (∀ o, o < i → x.2.1 38 o = nJ (rmv r k o)) ∧ ∀ o, i ≤ o → x.2.1 38 o = S.1 38 o) ?_ FU (n - 1 - k) _ (FU_lt (by omega)) ⟨k, by omega, Nat.le_refl _, rfl, fun _ _ _ => rfl, rfl, fun o ho => ?_, fun _ _ => rfl⟩
    · rintro m ⟨y, S1⟩ ⟨i, hi, hki, rfl, f1, f2, w1, w2⟩
      unfold L_100_107
      dsimp only at f1 f2 w1 w2 ⊢
      rw [if_neg (nJ_nn (by omega)), f1 32 7 (by decide), h.1, nJ_succ]
      by_cases c : i + 1 < n
      · rw [if_pos ((nJ_lt (by omega) (by omega)).mpr c), ck_t (ibd_n (by omega) (by omega)), ck_t (ibd_n (by omega) (by omega)), sbn_e, nJ_ix (by omega), nJ_ix (by omega), w2 (i + 1) (by omega), h.2 (i + 1) c]
        refine Or.inl ⟨_, m - 1, by omega, rfl, i + 1, by omega, by omega, rfl, fun a j ha => ?_, f2, fun o ho => ?_, fun o ho => ?_⟩
        · show (wI S1 38 i (nJ (r (i + 1)))).1 a j = S.1 a j
          rw [wI_1, if_neg (fun z => ha z.1)]; exact f1 a j ha
        · show (wI S1 38 i (nJ (r (i + 1)))).1 38 o = nJ (rmv r k o)
          rw [wI_1]
          by_cases d : o = i
          · rw [if_pos ⟨rfl, d⟩, d]; unfold rmv; rw [if_neg (by omega)]
          · rw [if_neg (fun q => d q.2)]; exact w1 o (by omega)
        · show (wI S1 38 i (nJ (r (i + 1)))).1 38 o = S.1 38 o
          rw [wI_1, if_neg (by omega)]; exact w2 o (by omega)
      · rw [if_neg (fun q => c ((nJ_lt (by omega) (by omega)).mp q))]
        exact Or.inr ⟨_, rfl, f1, f2, fun o ho => w1 o (by omega)⟩
    · show S.1 38 o = _
      rw [h.2 o (by omega)]; unfold rmv; rw [if_pos ho]
  obtain ⟨⟨z, S'⟩, e, w⟩ := key
  exact ⟨z, S', e, w⟩
theorem F100_eq {n k t : Nat} {r : Nat → Nat} (h : Cg S n r) (hr : ∀ o, o < n → r o < 12) (hn3 : 3 ≤ n) (hn : n ≤ 12) (hk : k < n) (ht : t < 10) : ∃ S', F_100 (nJ t) (nJ k) S = some ((), S') ∧ trF S S' ∧ S'.1 32 8 = S.1 32 8 ∧ Cg S' (n - 1) (rmv r k) ∧ (∀ t', t' < t → S'.1 33 t' = S.1 33 t' ∧ S'.1 34 t' = S.1 34 t' ∧ S'.1 35 t' = S.1 35 t' ∧ S'.1 36 t' = S.1 36 t') ∧ S'.1 33 t = nJ (r k) ∧ S'.1 34 t = nJ (lo3 (r ((k + n - 1) % n)) (r k) (r ((k + 1) % n))) ∧ S'.1 35 t = nJ (md3 (r ((k + n - 1) % n)) (r k) (r ((k + 1) % n))) ∧ S'.1 36 t = nJ (hi3 (r ((k + n - 1) % n)) (r k) (r ((k + 1) % n))) := by
  have l1 := Nat.mod_lt (k + n - 1) (show 0 < n by omega)
  have l2 := Nat.mod_lt (k + 1) (show 0 < n by omega)
  have b1 := hr _ l1
  have b2 := hr _ hk
  have b3 := hr _ l2
  unfold F_100
  rw [F97_m h hn hk, ob_s, F97_k h hn hk, ob_s, F97_p h hn hk, ob_s, if_neg (nJ_nn (by omega)), if_pos (show nJ t < 10 from (nJ_lt (j := 10) (by omega) (by omega)).mpr ht)]
  generalize r ((k + n - 1) % n) = x at b1 ⊢
  generalize r ((k + 1) % n) = z at b3 ⊢
  have hy : ∃ y, y = r k := ⟨_, rfl⟩
  obtain ⟨y, ey⟩ := hy
  rw [← ey] at b2 ⊢
  have e1 : (if (if nJ z < nJ y then nJ z else nJ y) < nJ x then (if nJ z < nJ y then nJ z else nJ y) else nJ x) = nJ (lo3 x y z) := by
    rw [nJ_mnt (by omega) (by omega), nJ_mnt (by omega) (by omega)]; exact congrArg nJ (by unfold lo3; omega)
  have e2 : (if nJ x < (if nJ y < nJ z then nJ z else nJ y) then (if nJ y < nJ z then nJ z else nJ y) else nJ x) = nJ (hi3 x y z) := by
    rw [nJ_mxt (by omega) (by omega), nJ_mxt (by omega) (by omega)]; exact congrArg nJ (by unfold hi3; omega)
  have e3 : nJ x + nJ y + nJ z - nJ (lo3 x y z) - nJ (hi3 x y z) = nJ (md3 x y z) := by
    rw [nJ_add, nJ_add, nJ_sub (by unfold lo3; omega), nJ_sub (by unfold lo3 hi3; omega)]; rfl
  rw [e1, e2]
  have ib : ibd (nJ t) 10 = true := ibd_n (by omega) (by omega)
  have ix : Int32.toNatClampNeg (nJ t) = t := nJ_ix (by omega)
  simp only [ck_t ib, sbn_e, ix]
  have c34 : (wI (wI (wI S 33 t (nJ y)) 34 t (nJ (lo3 x y z))) 36 t (nJ (hi3 x y z))).1 34 t = nJ (lo3 x y z) := by
    rw [wI_1, if_neg (fun q => absurd q.1 (by decide)), wI_1, if_pos ⟨rfl, rfl⟩]
  have c36 : (wI (wI (wI S 33 t (nJ y)) 34 t (nJ (lo3 x y z))) 36 t (nJ (hi3 x y z))).1 36 t = nJ (hi3 x y z) := by
    rw [wI_1, if_pos ⟨rfl, rfl⟩]
  rw [c34, c36, e3]
  obtain ⟨S1, es⟩ : ∃ S1, S1 = wI (wI (wI (wI S 33 t (nJ y)) 34 t (nJ (lo3 x y z))) 36 t (nJ (hi3 x y z))) 35 t (nJ (md3 x y z)) := ⟨_, rfl⟩
  rw [← es]
  have f1 : trF S S1 := by
    rw [es]
    exact (((trF_I (by decide) (by decide)).tr (trF_I (by decide) (by decide))).tr (trF_I (by decide) (by decide))).tr (trF_I (by decide) (by decide))
  have g32 : ∀ j, S1.1 32 j = S.1 32 j := fun j => by rw [es, wI_1, if_neg (fun q => absurd q.1 (by decide)), wI_1, if_neg (fun q => absurd q.1 (by decide)), wI_1, if_neg (fun q => absurd q.1 (by decide)), wI_1, if_neg (fun q => absurd q.1 (by decide))]
  have g38 : ∀ j, S1.1 38 j = S.1 38 j := fun j => by rw [es, wI_1, if_neg (fun q => absurd q.1 (by decide)), wI_1, if_neg (fun q => absurd q.1 (by decide)), wI_1, if_neg (fun q => absurd q.1 (by decide)), wI_1, if_neg (fun q => absurd q.1 (by decide))]
  have hC : Cg S1 n r := ⟨by rw [g32]; exact h.1, fun o ho => by rw [g38]; exact h.2 o ho⟩
  obtain ⟨zz, S2, e4, w1, w2, w3⟩ := C100_107 (nJ t) (nJ x) (nJ y) (nJ z) hC hn hk
  rw [e4, ob_s]
  have e7 : S2.1 32 7 - 1 = nJ (n - 1) := by
    rw [w1 32 7 (by decide), hC.1]
    exact nJ_sub (i := n) (j := 1) (by omega)
  have far : ∀ a j, a ≠ 32 → a ≠ 38 → (wI S2 32 7 (S2.1 32 7 - 1)).1 a j = S1.1 a j := fun a j h1 h2 => by
    rw [wI_1, if_neg (fun q => h1 q.1), w1 a j h2]
  refine ⟨_, rfl, (f1.tr ⟨fun a ha => ⟨funext fun j => w1 a j (fun q => ha (by omega)), by rw [w2]⟩, fun j _ _ => w1 32 j (by decide)⟩).tr (trF_7 (Or.inl rfl)), ?_, ⟨?_, fun o ho => ?_⟩, fun t' ht' => ?_, ?_, ?_, ?_, ?_⟩
  · show (wI S2 32 7 (S2.1 32 7 - 1)).1 32 8 = _
    rw [wI_1, if_neg (fun q => absurd q.2 (by decide)), w1 32 8 (by decide), g32]
  · show (wI S2 32 7 (S2.1 32 7 - 1)).1 32 7 = _
    rw [wI_1, if_pos ⟨rfl, rfl⟩, e7]
  · show (wI S2 32 7 (S2.1 32 7 - 1)).1 38 o = _
    rw [wI_1, if_neg (fun q => absurd q.1 (by decide))]; exact w3 o ho
  · have : ¬ t' = t := by omega
    refine ⟨?_, ?_, ?_, ?_⟩ <;> rw [far _ _ (by decide) (by decide), es] <;> simp [wI_1, this]
  · rw [far _ _ (by decide) (by decide), es]; simp [wI_1]
  · rw [far _ _ (by decide) (by decide), es]; simp [wI_1]
  · rw [far _ _ (by decide) (by decide), es]; simp [wI_1]
  · rw [far _ _ (by decide) (by decide), es]; simp [wI_1]
end Ct
