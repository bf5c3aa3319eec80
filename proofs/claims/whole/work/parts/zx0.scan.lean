/-! the parser: runs of letters, digits, blanks -/
/-- the end of the run from p on -/
def scE (b : Nat → Int32) (lo hi : Int32) : Nat → Nat → Nat
  | 0, p => p
  | k + 1, p => if b p < lo then p else if hi < b p then p else scE b lo hi k (p + 1)
theorem scE_le (b : Nat → Int32) (lo hi : Int32) : ∀ k p, p ≤ scE b lo hi k p ∧ scE b lo hi k p ≤ p + k
  | 0, p => ⟨Nat.le_refl _, Nat.le_refl _⟩
  | k + 1, p => by
    have ih := scE_le b lo hi k (p + 1)
    unfold scE
    split
    · omega
    · split
      · omega
      · omega
section Sc
variable {S : ST}
theorem F14_eq {n p : Nat} (h5 : S.1 1 5 = nJ n) (hn : n ≤ 600) (hp : p ≤ n) (lo hi : Int32) : F_14 (nJ p) lo hi S = some (nJ (scE (S.1 2) lo hi (n - p) p)) := by
  have key : ∃ z, wh FU (L_14_7 (nJ p) lo hi S) (nJ p) = some z ∧ Sum.elim (fun _ => some (S.1 1 5)) (fun o => some o) z = some (nJ (scE (S.1 2) lo hi (n - p) p)) := by
    refine wh_inv (I := fun m x => ∃ i, i + m = n ∧ x = nJ i ∧ scE (S.1 2) lo hi m i = scE (S.1 2) lo hi (n - p) p) ?_ FU (n - p) _ (FU_lt (by omega)) ⟨p, by omega, rfl, rfl⟩
    rintro m x ⟨i, hi', rfl, e⟩
    unfold L_14_7
    rw [h5]
    by_cases c : i < n
    · obtain ⟨m', rfl⟩ : ∃ m', m = m' + 1 := ⟨m - 1, by omega⟩
      have ib : ibd (nJ i) 600 = true := ibd_n (by omega) (by omega)
      rw [if_pos ((nJ_lt (by omega) (by omega)).mpr c), if_pos (show nJ i < 600 from (nJ_lt (j := 600) (by omega) (by omega)).mpr (by omega)), ck_t ib, nJ_ix (by omega)]
      have u : scE (S.1 2) lo hi (m' + 1) i = if S.1 2 i < lo then i else if hi < S.1 2 i then i else scE (S.1 2) lo hi m' (i + 1) := rfl
      rw [u] at e
      by_cases d : S.1 2 i < lo
      · rw [if_pos d] at e ⊢
        exact Or.inr ⟨_, rfl, by rw [← e]; rfl⟩
      · rw [if_neg d] at e ⊢
        rw [ck_t ib]
        by_cases d2 : hi < S.1 2 i
        · rw [if_pos d2] at e ⊢
          exact Or.inr ⟨_, rfl, by rw [← e]; rfl⟩
        · rw [if_neg d2] at e ⊢
          exact Or.inl ⟨_, m', by omega, rfl, i + 1, by omega, nJ_succ i, e⟩
    · rw [if_neg (fun q => c ((nJ_lt (by omega) (by omega)).mp q))]
      have : m = 0 := by omega
      subst this
      have e' : i = scE (S.1 2) lo hi (n - p) p := e
      exact Or.inr ⟨_, rfl, by show some (nJ n) = _; rw [← e', show i = n by omega]⟩
  obtain ⟨z, e, ez⟩ := key
  unfold F_14
  rw [if_neg (nJ_nn (by omega)), e, ob_s]
  exact ez
end Sc
