/-! edges of a simple polygon touch in common ends alone; a point off the polygon has a short free way in any direction -/
theorem ge_wt_eq {v x r : GPt} {i j : Int} (w : ge_wt v x r i j) : (i + j) * (r.1 - v.1) = j * (x.1 - v.1) ∧ (i + j) * (r.2 - v.2) = j * (x.2 - v.2) := by
  obtain ⟨-, -, -, h1, h2⟩ := w
  exact ⟨by grind, by grind⟩
/-- two segments from v that share another point: one holds the other's end -/
theorem ge_ray {v x y r : GPt} (hr : r ≠ v) (hx : v ≠ x) (hy : v ≠ y) (h1 : ge_on v x r) (h2 : ge_on v y r) : ge_on v x y ∨ ge_on v y x := by
  obtain ⟨i, j, w⟩ := ge_on_wt hx h1
  obtain ⟨i', j', w'⟩ := ge_on_wt hy h2
  have hj : 0 < j := by
    have := w.2.1
    rcases Int.lt_or_eq_of_le this with q | q
    · exact q
    · subst q; exact absurd (ge_wt_0 w) hr
  have hj' : 0 < j' := by
    have := w'.2.1
    rcases Int.lt_or_eq_of_le this with q | q
    · exact q
    · subst q; exact absurd (ge_wt_0 w') hr
  obtain ⟨e1, e2⟩ := ge_wt_eq w
  obtain ⟨f1, f2⟩ := ge_wt_eq w'
  have hs := w.2.2.1
  have hs' := w'.2.2.1
  obtain ⟨A, hA⟩ : ∃ A, A = j * (i' + j') := ⟨_, rfl⟩
  obtain ⟨B, hB⟩ : ∃ B, B = j' * (i + j) := ⟨_, rfl⟩
  have hA0 : 0 < A := by rw [hA]; exact Int.mul_pos hj hs'
  have hB0 : 0 < B := by rw [hB]; exact Int.mul_pos hj' hs
  have g1 : A * (x.1 - v.1) = B * (y.1 - v.1) := by
    have q1 : A * (x.1 - v.1) = (i' + j') * (j * (x.1 - v.1)) := by rw [hA]; grind
    have q2 : B * (y.1 - v.1) = (i + j) * (j' * (y.1 - v.1)) := by rw [hB]; grind
    rw [q1, q2, ← e1, ← f1]; grind
  have g2 : A * (x.2 - v.2) = B * (y.2 - v.2) := by
    have q1 : A * (x.2 - v.2) = (i' + j') * (j * (x.2 - v.2)) := by rw [hA]; grind
    have q2 : B * (y.2 - v.2) = (i + j) * (j' * (y.2 - v.2)) := by rw [hB]; grind
    rw [q1, q2, ← e2, ← f2]; grind
  clear hA hB e1 e2 f1 f2
  rcases Int.le_total A B with q | q
  · exact Or.inl (ge_wt_on (i := B - A) (j := A) ⟨by omega, by omega, by omega, by grind, by grind⟩)
  · exact Or.inr (ge_wt_on (i := A - B) (j := B) ⟨by omega, by omega, by omega, by grind, by grind⟩)
/-- two edges with a common end -/
theorem ge_touch1 {l : List GPt} (hs : ge_simple l) (hne : ∀ u v : GPt, ge_adj l u v → u ≠ v) {v x y r : GPt} (h : ge_adj l v x) (g : ge_adj l v y) (hxy : x ≠ y) (h1 : ge_on v x r) (h2 : ge_on v y r) : r = v := by
  by_cases q : r = v
  · exact q
  · exfalso
    have vx := hne _ _ h
    have vy := hne _ _ g
    rcases ge_ray q vx vy h1 h2 with z | z
    · rcases ge_adj_V hs (ge_adj_mem g).2 h z with t | t
      · exact vy t.symm
      · exact hxy t.symm
    · rcases ge_adj_V hs (ge_adj_mem h).2 g z with t | t
      · exact vx t.symm
      · exact hxy t
theorem ge_touch {l : List GPt} (hs : ge_simple l) (hne : ∀ u v : GPt, ge_adj l u v → u ≠ v) {u v x y r : GPt} (h : ge_adj l u v) (g : ge_adj l x y) (hd : ¬ ((u = x ∧ v = y) ∨ (u = y ∧ v = x))) (h1 : ge_on u v r) (h2 : ge_on x y r) : (r = u ∨ r = v) ∧ (r = x ∨ r = y) := by
  have huv := hne _ _ h
  have hxy := hne _ _ g
  by_cases c1 : u = x
  · subst c1
    have := ge_touch1 hs hne h g (fun z => hd (Or.inl ⟨rfl, z⟩)) h1 h2
    exact ⟨Or.inl this, Or.inl this⟩
  by_cases c2 : u = y
  · subst c2
    have := ge_touch1 hs hne h (ge_adj_symm g) (fun z => hd (Or.inr ⟨rfl, z⟩)) h1 (ge_on_symm h2)
    exact ⟨Or.inl this, Or.inr this⟩
  by_cases c3 : v = x
  · subst c3
    have := ge_touch1 hs hne (ge_adj_symm h) g (fun z => hd (Or.inr ⟨z, rfl⟩)) (ge_on_symm h1) h2
    exact ⟨Or.inr this, Or.inl this⟩
  by_cases c4 : v = y
  · subst c4
    have := ge_touch1 hs hne (ge_adj_symm h) (ge_adj_symm g) (fun z => hd (Or.inl ⟨z, rfl⟩)) (ge_on_symm h1) (ge_on_symm h2)
    exact ⟨Or.inr this, Or.inr this⟩
  exact absurd (ge_pt_meet huv hxy h1 h2) (ge_disj hs h g c1 c2 c3 c4)
/-- m moved by d at scale K -/
def ge_mvd (K : Int) (m d : GPt) : GPt := (K * m.1 + d.1, K * m.2 + d.2)
theorem ge_mvd_o (K : Int) (u v m d : GPt) : ge_o (ge_s K u) (ge_s K v) (ge_mvd K m d) = K * (K * ge_o u v m + ((v.1 - u.1) * d.2 - (v.2 - u.2) * d.1)) := by unfold ge_mvd ge_s ge_o; grind
theorem ge_big {K t o : Int} (ho : 0 < o) (hK : 0 < K) (h : -t < K) : 0 < K * (K * o + t) := by
  have : K * 1 ≤ K * o := (ge_sg_le hK).mpr (by omega)
  exact Int.mul_pos hK (by omega)
theorem ge_eps1 {u v m : GPt} (d : GPt) (h : ¬ ge_on u v m) : ∃ K0 : Int, ∀ K : Int, K0 ≤ K → 0 < K → ¬ ge_meet (ge_s K u) (ge_s K v) (ge_s K m) (ge_mvd K m d) := by
  obtain ⟨k, hk, k1, k2⟩ := ge_abs_ge ((v.1 - u.1) * d.2 - (v.2 - u.2) * d.1)
  obtain ⟨j, hj, j1, j2⟩ := ge_abs_ge d.1
  obtain ⟨i, hi, i1, i2⟩ := ge_abs_ge d.2
  refine ⟨k + j + i + 1, fun K hK K0 => ?_⟩
  have KK := Int.mul_pos K0 K0
  rcases Int.lt_trichotomy (ge_o u v m) 0 with q | q | q
  · intro z
    refine ge_free_line (u := ge_s K v) (v := ge_s K u) ?_ ?_ (ge_meet_flip z)
    · rw [ge_o_s, ge_o_swap]; exact Int.mul_pos KK (by omega)
    · rw [ge_mvd_o, ge_o_swap u v]
      have := ge_big (K := K) (t := (u.1 - v.1) * d.2 - (u.2 - v.2) * d.1) (o := -ge_o u v m) (by omega) K0 (by
        have : (u.1 - v.1) * d.2 - (u.2 - v.2) * d.1 = -((v.1 - u.1) * d.2 - (v.2 - u.2) * d.1) := by grind
        omega)
      exact this
  · have e1 : ∀ p : GPt, ge_o (0, 0) (0, -1) p = p.1 := fun p => by unfold ge_o; grind
    have e2 : ∀ p : GPt, ge_o (0, 0) (0, 1) p = -p.1 := fun p => by unfold ge_o; grind
    have e3 : ∀ p : GPt, ge_o (0, 0) (1, 0) p = p.2 := fun p => by unfold ge_o; grind
    have e4 : ∀ p : GPt, ge_o (0, 0) (-1, 0) p = -p.2 := fun p => by unfold ge_o; grind
    have lt : ∀ {x y : Int}, x < y → K * x + K ≤ K * y := fun {x y} z => by
      have := (ge_sg_le K0).mpr (show x + 1 ≤ y by omega)
      rw [Int.mul_add] at this; omega
    have two : ∀ {r x y : Int}, 0 < (r - x) * (r - y) → (r < x ∧ r < y) ∨ (x < r ∧ y < r) := fun {r x y} z => by
      rcases Int.lt_trichotomy r x with a | a | a
      · left; refine ⟨a, ?_⟩
        rcases Int.lt_or_le r y with b | b
        · exact b
        · have := Int.mul_nonneg (show 0 ≤ x - r by omega) (show 0 ≤ r - y by omega)
          exfalso; grind
      · rw [a, Int.sub_self, Int.zero_mul] at z; omega
      · right; refine ⟨a, ?_⟩
        rcases Int.lt_or_le y r with b | b
        · exact b
        · have := Int.mul_nonneg (show 0 ≤ r - x by omega) (show 0 ≤ y - r by omega)
          exfalso; grind
    have hno : 0 < (m.1 - u.1) * (m.1 - v.1) ∨ 0 < (m.2 - u.2) * (m.2 - v.2) := by
      rcases Int.lt_or_le 0 ((m.1 - u.1) * (m.1 - v.1)) with a | a
      · exact Or.inl a
      · rcases Int.lt_or_le 0 ((m.2 - u.2) * (m.2 - v.2)) with b | b
        · exact Or.inr b
        · exact absurd ⟨q, a, b⟩ h
    rcases hno with z | z
    · rcases two z with ⟨a, b⟩ | ⟨a, b⟩
      · have a' := lt a
        have b' := lt b
        refine ge_low_free (c := (0, 0)) (a := (0, 1)) (K := -(K * m.1 + d.1) - 1 - j + d.1) ?_ ?_ ?_ ?_
        · rw [e2]; show -(K * u.1) ≤ _; omega
        · rw [e2]; show -(K * v.1) ≤ _; omega
        · rw [e2]; show _ < -(K * m.1); omega
        · rw [e2]; show _ < -(K * m.1 + d.1); omega
      · have a' := lt a
        have b' := lt b
        refine ge_low_free (c := (0, 0)) (a := (0, -1)) (K := K * m.1 - j - 1) ?_ ?_ ?_ ?_
        · rw [e1]; show K * u.1 ≤ _; omega
        · rw [e1]; show K * v.1 ≤ _; omega
        · rw [e1]; show _ < K * m.1; omega
        · rw [e1]; show _ < K * m.1 + d.1; omega
    · rcases two z with ⟨a, b⟩ | ⟨a, b⟩
      · have a' := lt a
        have b' := lt b
        refine ge_low_free (c := (0, 0)) (a := (-1, 0)) (K := -(K * m.2) - i - 1) ?_ ?_ ?_ ?_
        · rw [e4]; show -(K * u.2) ≤ _; omega
        · rw [e4]; show -(K * v.2) ≤ _; omega
        · rw [e4]; show _ < -(K * m.2); omega
        · rw [e4]; show _ < -(K * m.2 + d.2); omega
      · have a' := lt a
        have b' := lt b
        refine ge_low_free (c := (0, 0)) (a := (1, 0)) (K := K * m.2 - i - 1) ?_ ?_ ?_ ?_
        · rw [e3]; show K * u.2 ≤ _; omega
        · rw [e3]; show K * v.2 ≤ _; omega
        · rw [e3]; show _ < K * m.2; omega
        · rw [e3]; show _ < K * m.2 + d.2; omega
  · refine ge_free_line ?_ ?_
    · rw [ge_o_s]; exact Int.mul_pos KK q
    · rw [ge_mvd_o]
      exact ge_big q K0 (by omega)
theorem ge_epsL (m d : GPt) : ∀ (L : List (GPt × GPt)), (∀ e ∈ L, ¬ ge_on e.1 e.2 m) → ∃ K0 : Int, ∀ K : Int, K0 ≤ K → 0 < K → ∀ e ∈ L, ¬ ge_meet (ge_s K e.1) (ge_s K e.2) (ge_s K m) (ge_mvd K m d)
  | [], _ => ⟨1, fun _ _ _ e he => nomatch he⟩
  | f :: L, h => by
    obtain ⟨K1, h1⟩ := ge_eps1 d (h f List.mem_cons_self)
    obtain ⟨K2, h2⟩ := ge_epsL m d L (fun e he => h e (List.mem_cons_of_mem _ he))
    refine ⟨if K1 ≤ K2 then K2 else K1, fun K hK hp e he => ?_⟩
    have hK1 : K1 ≤ K := by split at hK <;> omega
    have hK2 : K2 ≤ K := by split at hK <;> omega
    rcases List.mem_cons.mp he with q | q
    · rw [q]; exact h1 K hK1 hp
    · exact h2 K hK2 hp e q
/-- two ways at once, in opposite directions -/
theorem ge_eps {l : List GPt} {m : GPt} (d : GPt) (ho : ge_off l m) : ∃ K : Int, 1 < K ∧ ∀ e ∈ ge_E (ge_S K l), ¬ ge_meet e.1 e.2 (ge_s K m) (ge_mvd K m d) ∧ ¬ ge_meet e.1 e.2 (ge_s K m) (ge_mvd K m (-d.1, -d.2)) := by
  obtain ⟨K1, h1⟩ := ge_epsL m d (ge_E l) ho
  obtain ⟨K2, h2⟩ := ge_epsL m (-d.1, -d.2) (ge_E l) ho
  obtain ⟨k1, a1, b1, c1⟩ := ge_abs_ge K1
  obtain ⟨k2, a2, b2, c2⟩ := ge_abs_ge K2
  refine ⟨k1 + k2 + 2, by omega, fun e he => ?_⟩
  rw [ge_E_S] at he
  obtain ⟨f, hf, rfl⟩ := List.mem_map.mp he
  exact ⟨h1 _ (by omega) (by omega) f hf, h2 _ (by omega) (by omega) f hf⟩
