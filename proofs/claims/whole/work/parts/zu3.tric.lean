/-! the triangles: the class -/
/-- the class's ring -/
def Cg (S : ST) (n : Nat) (r : Nat → Nat) : Prop := S.1 32 7 = nJ n ∧ ∀ o, o < n → S.1 38 o = nJ (r o)
section Ct
variable {S : ST}
theorem F97_g {n j : Nat} {r : Nat → Nat} {v : Int32} (h : Cg S n r) (hn : n ≤ 12) (hj : j < n) (e : (if v < 0 then v + S.1 32 7 else (if v < S.1 32 7 then v else v - S.1 32 7)) = nJ j) : F_97 v S = some (nJ (r j)) := by
  unfold F_97
  rw [e, if_neg (nJ_nn (by omega)), if_pos (show nJ j < 12 from (nJ_lt (j := 12) (by omega) (by omega)).mpr (by omega)), ck_t (ibd_n (by omega) (by omega)), nJ_ix (by omega), h.2 j hj]
theorem F97_k {n k : Nat} {r : Nat → Nat} (h : Cg S n r) (hn : n ≤ 12) (hk : k < n) : F_97 (nJ k) S = some (nJ (r k)) := by
  refine F97_g h hn hk ?_
  rw [if_neg (nJ_nn (by omega)), h.1, if_pos ((nJ_lt (by omega) (by omega)).mpr hk)]
theorem F97_m {n k : Nat} {r : Nat → Nat} (h : Cg S n r) (hn : n ≤ 12) (hk : k < n) : F_97 (nJ k - 1) S = some (nJ (r ((k + n - 1) % n))) := by
  refine F97_g h hn (Nat.mod_lt _ (by omega)) ?_
  by_cases c : k = 0
  · subst c
    rw [if_pos (show nJ 0 - 1 < 0 by decide), h.1, show (0 + n - 1) % n = n - 1 by rw [Nat.zero_add]; exact Nat.mod_eq_of_lt (by omega)]
    obtain ⟨m, rfl⟩ : ∃ m, n = m + 1 := ⟨n - 1, by omega⟩
    rw [← nJ_succ, show nJ 0 - 1 + (nJ m + 1) = nJ m by
      rw [show (nJ 0 - 1 : Int32) = -1 from rfl, Int32.add_comm (nJ m) 1, ← Int32.add_assoc]
      show (0 : Int32) + nJ m = nJ m
      rw [Int32.zero_add]]
    rfl
  · obtain ⟨k', rfl⟩ : ∃ k', k = k' + 1 := ⟨k - 1, by omega⟩
    rw [show nJ (k' + 1) - 1 = nJ k' by rw [← nJ_succ, Int32.add_sub_cancel], if_neg (nJ_nn (by omega)), h.1, if_pos ((nJ_lt (by omega) (by omega)).mpr (by omega)), show (k' + 1 + n - 1) = k' + n by omega, Nat.add_mod_right, Nat.mod_eq_of_lt (by omega)]
theorem F97_p {n k : Nat} {r : Nat → Nat} (h : Cg S n r) (hn : n ≤ 12) (hk : k < n) : F_97 (nJ k + 1) S = some (nJ (r ((k + 1) % n))) := by
  refine F97_g h hn (Nat.mod_lt _ (by omega)) ?_
  rw [nJ_succ, if_neg (nJ_nn (by omega)), h.1]
  by_cases c : k + 1 = n
  · rw [if_neg (fun z => by have := (nJ_lt (by omega) (by omega)).mp z; omega), c, Nat.mod_self, Int32.sub_self]; rfl
  · rw [if_pos ((nJ_lt (by omega) (by omega)).mpr (by omega)), Nat.mod_eq_of_lt (by omega)]
theorem o_sum3 (x y z w : GPt) : ge_o x y w + ge_o y z w + ge_o z x w = ge_o x y z := by unfold ge_o; grind
/-- in a corner's triangle -/
theorem F99_eq (hW : clW S 3) (hB : clB S 3) {σ : Int} (hσ : σ = 1 ∨ σ = -1) {x y z w : Nat} (hx : x < clN S 3) (hy : y < clN S 3) (hz : z < clN S 3) (hw : w < clN S 3) (ho : 0 < σ * ge_o (clP S 3 x) (clP S 3 y) (clP S 3 z)) : ∃ b, F_99 (nJ w) (nJ x) (nJ y) (nJ z) S = some b ∧ (b = true ↔ 0 ≤ σ * ge_o (clP S 3 x) (clP S 3 y) (clP S 3 w) ∧ 0 ≤ σ * ge_o (clP S 3 y) (clP S 3 z) (clP S 3 w) ∧ 0 ≤ σ * ge_o (clP S 3 z) (clP S 3 x) (clP S 3 w)) := by
  obtain ⟨u1, e1, t1⟩ := F24_eq hW hB hx hy hw
  obtain ⟨u2, e2, t2⟩ := F24_eq hW hB hy hz hw
  obtain ⟨u3, e3, t3⟩ := F24_eq hW hB hz hx hw
  have s := o_sum3 (clP S 3 x) (clP S 3 y) (clP S 3 z) (clP S 3 w)
  unfold F_99
  rw [e1, ob_s, e2, ob_s, e3, ob_s]
  refine ⟨_, rfl, ?_⟩
  rw [← t1, ← t2, ← t3] at s ⊢
  rw [← s] at ho
  clear t1 t2 t3 e1 e2 e3 s
  have p1 := i32_p u1
  have p2 := i32_p u2
  have p3 := i32_p u3
  have n1 := i32_n u1
  have n2 := i32_n u2
  have n3 := i32_n u3
  generalize u1.toInt = a at *
  generalize u2.toInt = b at *
  generalize u3.toInt = c at *
  by_cases q1 : u1 < 0
  · rw [if_pos q1]
    simp only [Bool.and_eq_true, Bool.not_eq_true', decide_eq_false_iff_not, p1, p2, p3]
    have := n1.mp q1
    rcases hσ with rfl | rfl <;> omega
  · rw [if_neg q1]
    by_cases q2 : u2 < 0
    · rw [if_pos q2]
      simp only [Bool.and_eq_true, Bool.not_eq_true', decide_eq_false_iff_not, p1, p2, p3]
      have := n2.mp q2
      rcases hσ with rfl | rfl <;> omega
    · rw [if_neg q2]
      simp only [Bool.or_eq_true, Bool.and_eq_true, Bool.not_eq_true', decide_eq_false_iff_not, p1, p2, p3, n3]
      rw [n1] at q1
      rw [n2] at q2
      rcases hσ with rfl | rfl <;> omega
/-- nothing of the ring in a corner's triangle -/
theorem F98_eq (hW : clW S 3) (hB : clB S 3) {σ : Int} (hσ : σ = 1 ∨ σ = -1) {n k : Nat} {r : Nat → Nat} (h : Cg S n r) (hr : ∀ o, o < n → r o < clN S 3) (hn : n ≤ 12) (hk : k < n) (ho : 0 < σ * ge_o (clP S 3 (r ((k + n - 1) % n))) (clP S 3 (r k)) (clP S 3 (r ((k + 1) % n)))) : ∃ b, F_98 (nJ k) S = some b ∧ (b = true ↔ EarAt (clP S 3) σ n r k) := by
  have h12 := hW.2
  have l1 := Nat.mod_lt (k + n - 1) (show 0 < n by omega)
  have l2 := Nat.mod_lt (k + 1) (show 0 < n by omega)
  unfold F_98 EarAt
  rw [F97_m h hn hk, ob_s, F97_k h hn hk, ob_s, F97_p h hn hk, ob_s]
  have b1 := hr _ l1
  have b2 := hr _ hk
  have b3 := hr _ l2
  generalize r ((k + n - 1) % n) = x at *
  generalize r k = y at *
  generalize r ((k + 1) % n) = z at *
  have hs : ∀ o, o < n → ((r o ≠ x ∧ r o ≠ y ∧ r o ≠ z ∧ 0 ≤ σ * ge_o (clP S 3 x) (clP S 3 y) (clP S 3 (r o)) ∧ 0 ≤ σ * ge_o (clP S 3 y) (clP S 3 z) (clP S 3 (r o)) ∧ 0 ≤ σ * ge_o (clP S 3 z) (clP S 3 x) (clP S 3 (r o))) ∧ L_98_26 (nJ k) (nJ x) (nJ y) (nJ z) S (nJ o) = some (.inr (.inr false))) ∨ (¬ (r o ≠ x ∧ r o ≠ y ∧ r o ≠ z ∧ 0 ≤ σ * ge_o (clP S 3 x) (clP S 3 y) (clP S 3 (r o)) ∧ 0 ≤ σ * ge_o (clP S 3 y) (clP S 3 z) (clP S 3 (r o)) ∧ 0 ≤ σ * ge_o (clP S 3 z) (clP S 3 x) (clP S 3 (r o))) ∧ L_98_26 (nJ k) (nJ x) (nJ y) (nJ z) S (nJ o) = some (.inl (nJ (o + 1)))) := by
    intro o o1
    have br := hr o o1
    unfold L_98_26
    rw [h.1, if_pos ((nJ_lt (by omega) (by omega)).mpr o1), F97_k h hn o1, ob_s, nJ_succ]
    by_cases d1 : r o = x
    · rw [d1, if_pos rfl]; exact Or.inr ⟨fun q => q.1 rfl, rfl⟩
    rw [if_neg (fun q => d1 ((nJ_eq (by omega) (by omega)).mp q))]
    by_cases d2 : r o = y
    · rw [d2, if_pos rfl]; exact Or.inr ⟨fun q => q.2.1 rfl, rfl⟩
    rw [if_neg (fun q => d2 ((nJ_eq (by omega) (by omega)).mp q))]
    by_cases d3 : r o = z
    · rw [d3, if_pos rfl]; exact Or.inr ⟨fun q => q.2.2.1 rfl, rfl⟩
    rw [if_neg (fun q => d3 ((nJ_eq (by omega) (by omega)).mp q))]
    obtain ⟨b, eb, hb⟩ := F99_eq hW hB hσ b1 b2 b3 br ho
    rw [eb, ob_s]
    by_cases c : b = true
    · rw [if_pos c]; exact Or.inl ⟨⟨d1, d2, d3, hb.mp c⟩, rfl⟩
    · rw [if_neg c]; exact Or.inr ⟨fun q => c (hb.mpr q.2.2.2), rfl⟩
  have he : ∃ b, L_98_26 (nJ k) (nJ x) (nJ y) (nJ z) S (nJ n) = some (.inr b) ∧ ∃ e, b = .inl e := by
    unfold L_98_26
    rw [h.1, if_neg (fun q => by have := (nJ_lt (by omega) (by omega)).mp q; omega)]
    exact ⟨_, rfl, _, rfl⟩
  obtain ⟨w, ew, hw⟩ := wh_se (f := L_98_26 (nJ k) (nJ x) (nJ y) (nJ z) S) (e := nJ) (p := fun o => r o ≠ x ∧ r o ≠ y ∧ r o ≠ z ∧ 0 ≤ σ * ge_o (clP S 3 x) (clP S 3 y) (clP S 3 (r o)) ∧ 0 ≤ σ * ge_o (clP S 3 y) (clP S 3 z) (clP S 3 (r o)) ∧ 0 ≤ σ * ge_o (clP S 3 z) (clP S 3 x) (clP S 3 (r o))) (N := n) (o := fun _ => .inr (false)) (Q := fun q => ∃ e, q = .inl e) (i := 0) (fun o _ ho => hs o ho) (fun o ho => by rw [show o = n by omega]; exact he) (FU_lt (by omega))
  rw [show (0 : Int32) = nJ 0 from rfl, ew, ob_s]
  rcases hw with ⟨o, -, ho', hp, -, rfl⟩ | ⟨⟨e, rfl⟩, hq⟩
  · refine ⟨false, rfl, fun q => (by cases q), fun q => ?_⟩
    exact absurd hp.2.2.2 (q.2 o ho' hp.1 hp.2.1 hp.2.2.1)
  · exact ⟨true, rfl, fun _ => ⟨ho, fun o ho q1 q2 q3 q4 => hq o (by omega) ho ⟨q1, q2, q3, q4⟩⟩, fun _ => rfl⟩
/-- the first ear, by the class -/
theorem F96_eq (hW : clW S 3) (hB : clB S 3) {σ : Int} {v : Bool} (hσ : (σ = 1 ∧ v = true) ∨ (σ = -1 ∧ v = false)) {n k : Nat} {r : Nat → Nat} (h : Cg S n r) (hr : ∀ o, o < n → r o < clN S 3) (hn : n ≤ 12) (hk : lst (clP S 3) σ n r k) : F_96 v S = some (nJ k) := by
  have h12 := hW.2
  have k1 := hk.1
  have hσ' : σ = 1 ∨ σ = -1 := hσ.elim (fun q => Or.inl q.1) (fun q => Or.inr q.1)
  have key : ∃ z, wh FU (L_96_2 v S) (nJ 0) = some z ∧ z = .inr (nJ k) := by
    refine wh_inv (I := fun m x => ∃ i, i + m = k ∧ x = nJ i) ?_ FU k _ (FU_lt (by omega)) ⟨0, by omega, rfl⟩
    rintro m x ⟨i, hi, rfl⟩
    have hin : i < n := by omega
    have l1 := Nat.mod_lt (i + n - 1) (show 0 < n by omega)
    have l2 := Nat.mod_lt (i + 1) (show 0 < n by omega)
    obtain ⟨u, eu, tu⟩ := F24_eq hW hB (hr _ l1) (hr _ hin) (hr _ l2)
    have step : ∀ b : Bool, (b = true ↔ EarAt (clP S 3) σ n r i) → (∃ a' m', m' < m ∧ (if b = true then some (.inr (.inr (nJ i))) else some (.inl (nJ (i + 1))) : Option (Int32 ⊕ (Int32 ⊕ Int32))) = some (.inl a') ∧ ∃ i, i + m' = k ∧ a' = nJ i) ∨ ∃ z, (if b = true then some (.inr (.inr (nJ i))) else some (.inl (nJ (i + 1))) : Option (Int32 ⊕ (Int32 ⊕ Int32))) = some (.inr z) ∧ z = .inr (nJ k) := fun b hb => by
      by_cases c : b = true
      · rw [if_pos c]
        have : i = k := by
          rcases Nat.lt_or_ge i k with z | z
          · exact absurd (hb.mp c) (hk.2.2 i z)
          · omega
        exact Or.inr ⟨_, rfl, by rw [this]⟩
      · rw [if_neg c]
        have : i ≠ k := fun z => c (hb.mpr (by rw [z]; exact hk.2.1))
        exact Or.inl ⟨_, m - 1, by omega, rfl, i + 1, by omega, rfl⟩
    have no : ¬ 0 < σ * ge_o (clP S 3 (r ((i + n - 1) % n))) (clP S 3 (r i)) (clP S 3 (r ((i + 1) % n))) → (false = true ↔ EarAt (clP S 3) σ n r i) := fun q => ⟨fun z => (by cases z), fun z => absurd z.1 q⟩
    unfold L_96_2
    rw [h.1, if_pos ((nJ_lt (by omega) (by omega)).mpr hin), F97_m h hn hin, ob_s, F97_k h hn hin, ob_s, F97_p h hn hin, ob_s, eu, ob_s, nJ_succ]
    rcases hσ with ⟨s1, v1⟩ | ⟨s1, v1⟩
    · rw [if_pos v1]
      by_cases c : (0 : Int32) < u
      · have ho : 0 < σ * ge_o (clP S 3 (r ((i + n - 1) % n))) (clP S 3 (r i)) (clP S 3 (r ((i + 1) % n))) := by
          rw [s1, ← tu]; have := (i32_p u).mp c; omega
        obtain ⟨b, eb, hb⟩ := F98_eq hW hB hσ' h hr hn hin ho
        rw [if_pos c, eb, ob_s]
        exact step b hb
      · rw [if_neg c]
        exact step false (no (by rw [s1, ← tu]; intro q; exact c ((i32_p u).mpr (by omega))))
    · rw [if_neg (by rw [v1]; decide)]
      by_cases c : u < 0
      · have ho : 0 < σ * ge_o (clP S 3 (r ((i + n - 1) % n))) (clP S 3 (r i)) (clP S 3 (r ((i + 1) % n))) := by
          rw [s1, ← tu]; have := (i32_n u).mp c; omega
        obtain ⟨b, eb, hb⟩ := F98_eq hW hB hσ' h hr hn hin ho
        rw [if_pos c, eb, ob_s]
        exact step b hb
      · rw [if_neg c]
        exact step false (no (by rw [s1, ← tu]; intro q; exact c ((i32_n u).mpr (by omega))))
  obtain ⟨z, e, rfl⟩ := key
  unfold F_96
  rw [show (0 : Int32) = nJ 0 from rfl, e, ob_s]
  rfl
end Ct
