/-! the colours: the class -/
theorem srt6 (x y z : Nat) : (lo3 x y z = x ∧ md3 x y z = y ∧ hi3 x y z = z) ∨ (lo3 x y z = x ∧ md3 x y z = z ∧ hi3 x y z = y) ∨ (lo3 x y z = y ∧ md3 x y z = x ∧ hi3 x y z = z) ∨ (lo3 x y z = y ∧ md3 x y z = z ∧ hi3 x y z = x) ∨ (lo3 x y z = z ∧ md3 x y z = x ∧ hi3 x y z = y) ∨ (lo3 x y z = z ∧ md3 x y z = y ∧ hi3 x y z = x) := by
  unfold md3 lo3 hi3
  by_cases h1 : x ≤ y
  · by_cases h2 : y ≤ z
    · exact Or.inl ⟨by omega, by omega, by omega⟩
    · by_cases h3 : x ≤ z
      · exact Or.inr (Or.inl ⟨by omega, by omega, by omega⟩)
      · exact Or.inr (Or.inr (Or.inr (Or.inr (Or.inl ⟨by omega, by omega, by omega⟩))))
  · by_cases h2 : x ≤ z
    · exact Or.inr (Or.inr (Or.inl ⟨by omega, by omega, by omega⟩))
    · by_cases h3 : y ≤ z
      · exact Or.inr (Or.inr (Or.inr (Or.inl ⟨by omega, by omega, by omega⟩)))
      · exact Or.inr (Or.inr (Or.inr (Or.inr (Or.inr ⟨by omega, by omega, by omega⟩))))
theorem srt_sum (f : Nat → Nat) (x y z : Nat) : f (lo3 x y z) + f (md3 x y z) + f (hi3 x y z) = f x + f y + f z := by
  rcases srt6 x y z with ⟨a, b, c⟩ | ⟨a, b, c⟩ | ⟨a, b, c⟩ | ⟨a, b, c⟩ | ⟨a, b, c⟩ | ⟨a, b, c⟩ <;> rw [a, b, c] <;> omega
theorem i32_ac (a b c : Int32) : a + b + c = a + c + b := by rw [Int32.add_assoc, Int32.add_comm b c, ← Int32.add_assoc]
theorem srt_sumI (f : Nat → Int32) (x y z : Nat) : f (lo3 x y z) + f (md3 x y z) + f (hi3 x y z) = f x + f z + f y := by
  rcases srt6 x y z with ⟨a, b, c⟩ | ⟨a, b, c⟩ | ⟨a, b, c⟩ | ⟨a, b, c⟩ | ⟨a, b, c⟩ | ⟨a, b, c⟩ <;> rw [a, b, c]
  · rw [i32_ac]
  · rw [Int32.add_comm (f y) (f x), i32_ac]
  · rw [i32_ac, Int32.add_comm (f y) (f x), i32_ac]
  · rw [Int32.add_comm (f z) (f x)]
  · rw [i32_ac, Int32.add_comm (f z) (f x)]
/-- three colours for the corners of each triangle -/
def prT (N : Nat) (K : Nat → Nat) (R : Nat → Nat → Nat) (c : Nat → Nat) (t : Nat) : Prop := c (kx N K R t) ≠ c (ky K R t) ∧ c (ky K R t) ≠ c (kz N K R t) ∧ c (kz N K R t) ≠ c (kx N K R t)
section Rs
variable {P : Nat → GPt} {σ : Int} {N : Nat} {K : Nat → Nat} {R : Nat → Nat → Nat}
theorem ring_sub (hσ : σ = 1 ∨ σ = -1) (hT : TR P σ N K R) {t : Nat} : ∀ {d : Nat}, t + d + 3 ≤ N → ∀ o, o < N - (t + d) → ∃ o', o' < N - t ∧ R (t + d) o = R t o' := by
  intro d
  induction d with
  | zero => intro _ o ho; exact ⟨o, ho, rfl⟩
  | succ d ih =>
    intro hd o ho
    have e := (hT.2.2.1 (t + d) (by omega)).2
    have l := TR_lst hσ hT (t := t + d) (by omega)
    obtain ⟨o', a, -, b⟩ := rmv_in (r := R (t + d)) (n := N - (t + d)) l.1 (o := o) (by omega)
    obtain ⟨o'', a2, b2⟩ := ih (by omega) o' a
    exact ⟨o'', a2, by rw [show t + (d + 1) = t + d + 1 by omega, e, b, b2]⟩
/-- what is cut at t is in no later ring -/
theorem ring_cut (hσ : σ = 1 ∨ σ = -1) (hT : TR P σ N K R) {t t' o : Nat} (h : t < t') (ht : t' + 3 ≤ N) (ho : o < N - t') : R t' o ≠ ky K R t := by
  obtain ⟨d, rfl⟩ : ∃ d, t' = (t + 1) + d := ⟨t' - (t + 1), by omega⟩
  obtain ⟨o', a, b⟩ := ring_sub hσ hT ht o ho
  rw [b, (hT.2.2.1 t (by omega)).2]
  have l := TR_lst hσ hT (t := t) (by omega)
  obtain ⟨o'', a2, b2, c2⟩ := rmv_in (r := R t) (n := N - t) l.1 (o := o') (by omega)
  rw [c2]
  intro q
  exact b2 ((hT.2.1 t (by omega)).2.2.1 o'' (K t) a2 l.1 q)
theorem cnr_lt (hσ : σ = 1 ∨ σ = -1) (hT : TR P σ N K R) {t : Nat} (ht : t + 3 ≤ N) : kx N K R t < N ∧ ky K R t < N ∧ kz N K R t < N := by
  have ok := hT.2.1 t ht
  exact ⟨ok.2.2.2 _ (Nat.mod_lt _ (by omega)), ok.2.2.2 _ (TR_lst hσ hT ht).1, ok.2.2.2 _ (Nat.mod_lt _ (by omega))⟩
theorem md_pn {k n : Nat} (hn : 3 ≤ n) (hk : k < n) : ((k + n - 1) % n + 1) % n = k ∧ (k + n - 1) % n ≠ k ∧ (k + 1) % n ≠ k ∧ (k + n - 1) % n ≠ (k + 1) % n := by
  by_cases h : k = 0
  · subst h
    rw [show (0 + n - 1) % n = n - 1 by rw [Nat.mod_eq_of_lt (by omega)]; omega, show n - 1 + 1 = n by omega, Nat.mod_self, show (0 + 1) % n = 1 from Nat.mod_eq_of_lt (by omega)]
    omega
  · rw [show k + n - 1 = k - 1 + n by omega, Nat.add_mod_right, Nat.mod_eq_of_lt (by omega : k - 1 < n), show k - 1 + 1 = k by omega, Nat.mod_eq_of_lt hk]
    by_cases h2 : k + 1 = n
    · rw [h2, Nat.mod_self]; omega
    · rw [Nat.mod_eq_of_lt (by omega : k + 1 < n)]; omega
theorem cnr_ne (hσ : σ = 1 ∨ σ = -1) (hT : TR P σ N K R) {t : Nat} (ht : t + 3 ≤ N) : kx N K R t ≠ ky K R t ∧ ky K R t ≠ kz N K R t ∧ kz N K R t ≠ kx N K R t := by
  have ok := hT.2.1 t ht
  have k1 := (TR_lst hσ hT ht).1
  have m := md_pn (k := K t) (n := N - t) (by omega) k1
  exact ⟨fun q => m.2.1 (ok.2.2.1 _ _ (Nat.mod_lt _ (by omega)) k1 q), fun q => m.2.2.1 (ok.2.2.1 _ _ k1 (Nat.mod_lt _ (by omega)) q).symm, fun q => m.2.2.2 (ok.2.2.1 _ _ (Nat.mod_lt _ (by omega)) (Nat.mod_lt _ (by omega)) q).symm⟩
end Rs
section Cc
variable {S : ST} {P : Nat → GPt} {σ : Int} {N : Nat} {K : Nat → Nat} {R : Nat → Nat → Nat}
theorem F102_eq {v : Nat} (hv : v < 12) (c : Int32) : F_102 (nJ v) c S = some ((), wI S 37 v c) := by
  unfold F_102
  rw [if_neg (nJ_nn (by omega)), if_pos (show nJ v < 12 from (nJ_lt (j := 12) (by omega) (by omega)).mpr hv), ck_t (ibd_n (by omega) (by omega)), sbn_e, nJ_ix (by omega)]
theorem F103_eq {v : Nat} (hv : v < 12) : F_103 (nJ v) S = some (S.1 37 v) := by
  unfold F_103
  rw [if_neg (nJ_nn (by omega)), if_pos (show nJ v < 12 from (nJ_lt (j := 12) (by omega) (by omega)).mpr hv), ck_t (ibd_n (by omega) (by omega)), nJ_ix (by omega)]
/-- painted from ring t on -/
def pnt (S : ST) (N : Nat) (K : Nat → Nat) (R : Nat → Nat → Nat) (t : Nat) : Prop := ∃ c : Nat → Nat, (∀ v, c v < 3) ∧ (∀ o, o < N - t → c (R t o) ≠ c (R t ((o + 1) % (N - t)))) ∧ (∀ t', t ≤ t' → t' + 3 ≤ N → prT N K R c t') ∧ ∀ o, o < N - t → S.1 37 (R t o) = nJ (c (R t o))
theorem pnt_step (hσ : σ = 1 ∨ σ = -1) (hT : TR P σ N K R) (hN : N ≤ 12) {t : Nat} (ht : t + 3 < N) (h : pnt S N K R (t + 1)) : pnt (wI S 37 (ky K R t) (3 - (S.1 37 (kx N K R t) + S.1 37 (kz N K R t)))) N K R t := by
  obtain ⟨c', h3, hp, hd, hc⟩ := h
  have l := (hT.2.2.1 t ht).1
  have er := (hT.2.2.1 t ht).2
  have ok := hT.2.1 t (by omega)
  rw [er, show N - (t + 1) = N - t - 1 by omega] at hp hc
  obtain ⟨c, c3, cne, cp, cxz⟩ := col_step (by omega) l.1 ok.2.2.1 h3 hp
  have k1 := l.1
  have m := md_pn (k := K t) (n := N - t) (by omega) k1
  have ml1 := Nat.mod_lt (K t + (N - t) - 1) (show 0 < N - t by omega)
  have ml2 := Nat.mod_lt (K t + 1) (show 0 < N - t by omega)
  have xy := cp _ ml1
  rw [m.1] at xy
  have yz := cp _ k1
  have in2 : ∀ o, o < N - t → o ≠ K t → S.1 37 (R t o) = nJ (c (R t o)) := fun o ho ne => by
    obtain ⟨o', a, b, -⟩ := rmv_at (r := R t) k1 ho ne
    have := hc o' (by omega)
    rw [b] at this
    rw [this, cne _ (fun q => ne (ok.2.2.1 _ _ ho k1 q))]
  have sx := in2 _ ml1 m.2.1
  have sz := in2 _ ml2 m.2.2.1
  refine ⟨c, c3, cp, fun t' h1 h2 => ?_, fun o ho => ?_⟩
  · by_cases e : t' = t
    · rw [e]; exact ⟨xy, yz, cxz.symm⟩
    · have hl' := (TR_lst hσ hT h2).1
      have := hd t' (by omega) h2
      have nx : c (kx N K R t') = c' (kx N K R t') := cne _ (ring_cut hσ hT (show t < t' by omega) h2 (Nat.mod_lt _ (by omega)))
      have ny : c (ky K R t') = c' (ky K R t') := cne _ (ring_cut hσ hT (show t < t' by omega) h2 hl')
      have nz : c (kz N K R t') = c' (kz N K R t') := cne _ (ring_cut hσ hT (show t < t' by omega) h2 (Nat.mod_lt _ (by omega)))
      unfold prT at this ⊢
      rw [nx, ny, nz]
      exact this
  · by_cases e : o = K t
    · rw [e, wI_1, if_pos ⟨rfl, rfl⟩]
      show 3 - (S.1 37 (R t ((K t + (N - t) - 1) % (N - t))) + S.1 37 (R t ((K t + 1) % (N - t)))) = _
      rw [sx, sz, nJ_add]
      have u1 := c3 (R t ((K t + (N - t) - 1) % (N - t)))
      have u2 := c3 (R t ((K t + 1) % (N - t)))
      have u3 := c3 (R t (K t))
      show nJ 3 - _ = _
      rw [nJ_sub (by omega)]
      exact congrArg nJ (by omega)
    · rw [wI_1, if_neg (fun q => e (ok.2.2.1 _ _ ho k1 q.2))]
      exact in2 o ho e
/-- the first three -/
theorem pnt_3 (hσ : σ = 1 ∨ σ = -1) (hT : TR P σ N K R) (h3 : 3 ≤ N) (hC : S.1 37 (lo3 (kx N K R (N - 3)) (ky K R (N - 3)) (kz N K R (N - 3))) = 0 ∧ S.1 37 (md3 (kx N K R (N - 3)) (ky K R (N - 3)) (kz N K R (N - 3))) = 1 ∧ S.1 37 (hi3 (kx N K R (N - 3)) (ky K R (N - 3)) (kz N K R (N - 3))) = 2) : pnt S N K R (N - 3) := by
  have ne := cnr_ne hσ hT (t := N - 3) (by omega)
  have eN : N - (N - 3) = 3 := by omega
  have ex : kx N K R (N - 3) = R (N - 3) 2 := by unfold kx; rw [eN, hT.2.2.2]
  have ey : ky K R (N - 3) = R (N - 3) 0 := by unfold ky; rw [hT.2.2.2]
  have ez : kz N K R (N - 3) = R (N - 3) 1 := by unfold kz; rw [eN, hT.2.2.2]
  have key : ∃ c : Nat → Nat, (∀ v, c v < 3) ∧ prT N K R c (N - 3) ∧ S.1 37 (kx N K R (N - 3)) = nJ (c (kx N K R (N - 3))) ∧ S.1 37 (ky K R (N - 3)) = nJ (c (ky K R (N - 3))) ∧ S.1 37 (kz N K R (N - 3)) = nJ (c (kz N K R (N - 3))) := by
    unfold prT
    generalize kx N K R (N - 3) = x at *
    generalize ky K R (N - 3) = y at *
    generalize kz N K R (N - 3) = z at *
    have mk : ∀ a b d : Nat, a ≠ b → b ≠ d → d ≠ a → S.1 37 a = 0 → S.1 37 b = 1 → S.1 37 d = 2 → ∃ c : Nat → Nat, (∀ v, c v < 3) ∧ (c a ≠ c b ∧ c b ≠ c d ∧ c d ≠ c a) ∧ S.1 37 a = nJ (c a) ∧ S.1 37 b = nJ (c b) ∧ S.1 37 d = nJ (c d) := fun a b d h1 h2 h3 e1 e2 e3 => by
      refine ⟨fun v => if v = a then 0 else if v = b then 1 else 2, fun v => by dsimp only; split <;> (try split) <;> omega, ?_, ?_, ?_, ?_⟩
      · dsimp only
        rw [if_pos rfl, if_neg h1.symm, if_pos rfl, if_neg h3, if_neg h2.symm]; omega
      · dsimp only; rw [if_pos rfl]; exact e1
      · dsimp only; rw [if_neg h1.symm, if_pos rfl]; exact e2
      · dsimp only; rw [if_neg h3, if_neg h2.symm]; exact e3
    obtain ⟨n1, n2, n3⟩ := ne
    rcases srt6 x y z with ⟨a, b, c⟩ | ⟨a, b, c⟩ | ⟨a, b, c⟩ | ⟨a, b, c⟩ | ⟨a, b, c⟩ | ⟨a, b, c⟩ <;> rw [a, b, c] at hC <;> obtain ⟨q1, q2, q3⟩ := hC
    · obtain ⟨c, c3, p, s1, s2, s3⟩ := mk x y z n1 n2 n3 q1 q2 q3
      exact ⟨c, c3, ⟨p.1, p.2.1, p.2.2⟩, s1, s2, s3⟩
    · obtain ⟨c, c3, p, s1, s2, s3⟩ := mk x z y n3.symm n2.symm n1.symm q1 q2 q3
      exact ⟨c, c3, ⟨p.2.2.symm, p.2.1.symm, p.1.symm⟩, s1, s3, s2⟩
    · obtain ⟨c, c3, p, s1, s2, s3⟩ := mk y x z n1.symm n3.symm n2.symm q1 q2 q3
      exact ⟨c, c3, ⟨p.1.symm, p.2.2.symm, p.2.1.symm⟩, s2, s1, s3⟩
    · obtain ⟨c, c3, p, s1, s2, s3⟩ := mk y z x n2 n3 n1 q1 q2 q3
      exact ⟨c, c3, ⟨p.2.2, p.1, p.2.1⟩, s3, s1, s2⟩
    · obtain ⟨c, c3, p, s1, s2, s3⟩ := mk z x y n3 n1 n2 q1 q2 q3
      exact ⟨c, c3, ⟨p.2.1, p.2.2, p.1⟩, s2, s3, s1⟩
    · obtain ⟨c, c3, p, s1, s2, s3⟩ := mk z y x n2.symm n1.symm n3.symm q1 q2 q3
      exact ⟨c, c3, ⟨p.2.1.symm, p.1.symm, p.2.2.symm⟩, s3, s2, s1⟩
  obtain ⟨c, c3, p, s1, s2, s3⟩ := key
  have p' := p
  unfold prT at p'
  rw [ex, ey, ez] at p'
  rw [ex] at s1
  rw [ey] at s2
  rw [ez] at s3
  refine ⟨c, c3, fun o ho => ?_, fun t' h1 h2 => by rw [show t' = N - 3 by omega]; exact p, fun o ho => ?_⟩
  · rw [eN] at ho ⊢
    match o, ho with
    | 0, _ => exact p'.2.1
    | 1, _ => exact p'.2.2
    | 2, _ => exact p'.1
  · rw [eN] at ho
    match o, ho with
    | 0, _ => exact s2
    | 1, _ => exact s3
    | 2, _ => exact s1
end Cc
