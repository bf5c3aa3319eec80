/-! what holds two neighbours and with any two corners the third holds all -/
section Cl
variable {P : Nat → GPt} {σ : Int} {N : Nat} {K : Nat → Nat} {R : Nat → Nat → Nat} {D : Nat → Prop}
def thr (D : Nat → Prop) (x y z : Nat) : Prop := (D x → D y → D z) ∧ (D y → D z → D x) ∧ (D z → D x → D y)
theorem md_po {n k o : Nat} (hk : k < n) (ho : o < n) (hn : 3 ≤ n) (e : (o + 1) % n = k) : o = (k + n - 1) % n := by
  by_cases h : o + 1 = n
  · rw [h, Nat.mod_self] at e
    subst e
    rw [show 0 + n - 1 = n - 1 by omega, Nat.mod_eq_of_lt (by omega)]; omega
  · rw [Nat.mod_eq_of_lt (by omega)] at e
    rw [show k + n - 1 = k - 1 + n by omega, Nat.add_mod_right, Nat.mod_eq_of_lt (by omega)]; omega
theorem nb_cut {r : Nat → Nat} {n k : Nat} (hn : 4 ≤ n) (hk : k < n) : ∃ o', o' < n - 1 ∧ rmv r k o' = r ((k + n - 1) % n) ∧ rmv r k ((o' + 1) % (n - 1)) = r ((k + 1) % n) := by
  by_cases k0 : k = 0
  · subst k0
    refine ⟨n - 2, by omega, ?_, ?_⟩
    · unfold rmv; rw [if_neg (by omega), show 0 + n - 1 = n - 1 by omega, Nat.mod_eq_of_lt (by omega), show n - 2 + 1 = n - 1 by omega]
    · rw [show n - 2 + 1 = n - 1 by omega, Nat.mod_self]; unfold rmv; rw [if_neg (by omega), Nat.mod_eq_of_lt (by omega)]
  · by_cases k1 : k + 1 = n
    · refine ⟨n - 2, by omega, ?_, ?_⟩
      · unfold rmv; rw [if_pos (by omega), show k + n - 1 = k - 1 + n by omega, Nat.add_mod_right, Nat.mod_eq_of_lt (by omega), show k - 1 = n - 2 by omega]
      · rw [show n - 2 + 1 = n - 1 by omega, Nat.mod_self, k1, Nat.mod_self]; unfold rmv; rw [if_pos (by omega)]
    · refine ⟨k - 1, by omega, ?_, ?_⟩
      · unfold rmv; rw [if_pos (by omega), show k + n - 1 = k - 1 + n by omega, Nat.add_mod_right, Nat.mod_eq_of_lt (by omega)]
      · rw [show k - 1 + 1 = k by omega, Nat.mod_eq_of_lt (by omega : k < n - 1), Nat.mod_eq_of_lt (by omega : k + 1 < n)]; unfold rmv; rw [if_neg (by omega)]
theorem nb_keep {r : Nat → Nat} {n k o : Nat} (hn : 4 ≤ n) (hk : k < n) (ho : o < n) (h1 : o ≠ k) (h2 : (o + 1) % n ≠ k) : ∃ o', o' < n - 1 ∧ rmv r k o' = r o ∧ rmv r k ((o' + 1) % (n - 1)) = r ((o + 1) % n) := by
  rcases Nat.lt_or_ge o k with c | c
  · rw [Nat.mod_eq_of_lt (by omega)] at h2 ⊢
    refine ⟨o, by omega, ?_, ?_⟩
    · unfold rmv; rw [if_pos c]
    · rw [Nat.mod_eq_of_lt (by omega)]; unfold rmv; rw [if_pos (by omega)]
  · by_cases e : o + 1 = n
    · rw [e, Nat.mod_self] at h2 ⊢
      refine ⟨o - 1, by omega, ?_, ?_⟩
      · unfold rmv; rw [if_neg (by omega), show o - 1 + 1 = o by omega]
      · rw [show o - 1 + 1 = n - 1 by omega, Nat.mod_self]; unfold rmv; rw [if_pos (by omega)]
    · rw [Nat.mod_eq_of_lt (by omega : o + 1 < n)]
      refine ⟨o - 1, by omega, ?_, ?_⟩
      · unfold rmv; rw [if_neg (by omega), show o - 1 + 1 = o by omega]
      · rw [show o - 1 + 1 = o by omega, Nat.mod_eq_of_lt (by omega)]; unfold rmv; rw [if_neg (by omega)]
def nbD (D : Nat → Prop) (N : Nat) (R : Nat → Nat → Nat) (t : Nat) : Prop := ∃ o, o < N - t ∧ D (R t o) ∧ D (R t ((o + 1) % (N - t)))
theorem clo_all (hσ : σ = 1 ∨ σ = -1) (hT : TR P σ N K R) (h3 : 3 ≤ N) (ht : ∀ t, t + 3 ≤ N → thr D (kx N K R t) (ky K R t) (kz N K R t)) (d0 : D 0) (d1 : D 1) : ∀ v, v < N → D v := by
  have up : ∀ t, t + 3 ≤ N → nbD D N R t := by
    intro t
    induction t with
    | zero =>
      intro _
      refine ⟨0, by omega, by rw [hT.1]; exact d0, ?_⟩
      rw [hT.1, show (0 + 1) % (N - 0) = 1 from Nat.mod_eq_of_lt (by omega)]
      exact d1
    | succ t ih =>
      intro h
      obtain ⟨o, ho, a, b⟩ := ih (by omega)
      have l := hT.2.2.1 t (by omega)
      have k1 := l.1.1
      have tt := ht t (by omega)
      have xz : D (kx N K R t) → D (kz N K R t) → nbD D N R (t + 1) := fun q1 q2 => by
        obtain ⟨o', e1, e2, e3⟩ := nb_cut (r := R t) (n := N - t) (k := K t) (by omega) k1
        refine ⟨o', by omega, ?_, ?_⟩
        · rw [l.2, e2]; exact q1
        · rw [l.2, show N - (t + 1) = N - t - 1 by omega, e3]; exact q2
      by_cases c1 : o = K t
      · subst c1
        exact xz (tt.2.1 a b) b
      · by_cases c2 : (o + 1) % (N - t) = K t
        · have e := md_po k1 ho (by omega) c2
          rw [c2] at b
          rw [e] at a
          exact xz a (tt.1 a b)
        · obtain ⟨o', e1, e2, e3⟩ := nb_keep (r := R t) (n := N - t) (k := K t) (by omega) k1 ho c1 c2
          refine ⟨o', by omega, ?_, ?_⟩
          · rw [l.2, e2]; exact a
          · rw [l.2, show N - (t + 1) = N - t - 1 by omega, e3]; exact b
  have last : ∀ o, o < 3 → D (R (N - 3) o) := by
    have eN : N - (N - 3) = 3 := by omega
    have ex : kx N K R (N - 3) = R (N - 3) 2 := by unfold kx; rw [eN, hT.2.2.2]
    have ey : ky K R (N - 3) = R (N - 3) 0 := by unfold ky; rw [hT.2.2.2]
    have ez : kz N K R (N - 3) = R (N - 3) 1 := by unfold kz; rw [eN, hT.2.2.2]
    have tt := ht (N - 3) (by omega)
    rw [ex, ey, ez] at tt
    obtain ⟨o, ho, a, b⟩ := up (N - 3) (by omega)
    rw [eN] at ho b
    have all : D (R (N - 3) 0) ∧ D (R (N - 3) 1) ∧ D (R (N - 3) 2) := by
      match o, ho, a, b with
      | 0, _, a, b => exact ⟨a, b, tt.2.1 a b⟩
      | 1, _, a, b => exact ⟨tt.2.2 a b, a, b⟩
      | 2, _, a, b => exact ⟨b, tt.1 a b, a⟩
    intro o ho
    match o, ho with
    | 0, _ => exact all.1
    | 1, _ => exact all.2.1
    | 2, _ => exact all.2.2
  have down : ∀ d, d + 3 ≤ N → ∀ o, o < d + 3 → D (R (N - 3 - d) o) := by
    intro d
    induction d with
    | zero => intro _ o ho; exact last o ho
    | succ d ih =>
      intro h o ho
      obtain ⟨t, et⟩ : ∃ t, t = N - 3 - (d + 1) := ⟨_, rfl⟩
      rw [← et]
      have ih' := ih (by omega)
      rw [show N - 3 - d = t + 1 by omega] at ih'
      have l := hT.2.2.1 t (by omega)
      have k1 := l.1.1
      have en : N - t = d + 1 + 3 := by omega
      have keep : ∀ p, p < N - t → p ≠ K t → D (R t p) := fun p hp ne => by
        obtain ⟨o', a, b, -⟩ := rmv_at (r := R t) k1 hp ne
        rw [← b, ← l.2]
        exact ih' o' (by omega)
      by_cases c : o = K t
      · have m := md_pn (k := K t) (n := N - t) (by omega) k1
        have dx := keep _ (Nat.mod_lt _ (by omega)) m.2.1
        have dz := keep _ (Nat.mod_lt _ (by omega)) m.2.2.1
        rw [c]
        exact (ht t (by omega)).2.2 dz dx
      · exact keep o (by omega) c
  intro v hv
  have := down (N - 3) (by omega) v (by omega)
  rw [show N - 3 - (N - 3) = 0 by omega, hT.1] at this
  exact this
end Cl
