/-! a corner that holds no other vertex is cut off: the rest is simple; at the lowest corner the triangle lies inside -/
theorem ge_side_swap {a b c x y : GPt} (h : ge_side a b c x y) : ge_side a b c y x := by
  obtain ⟨h1, h2, h3, h4, h5, h6, h7, h8⟩ := h
  exact ⟨h1.symm, h3, h2, fun z => h4 (ge_x_swap z), fun z => h5 (ge_x_swap z), fun z => by rw [Int.mul_comm]; exact h6 (ge_on_symm z), fun z => h7 (ge_on_symm z), fun z => by rw [Int.mul_comm]; exact h8 (ge_on_symm z)⟩
theorem ge_abs_ge (x : Int) : ∃ k : Int, 0 ≤ k ∧ -k ≤ x ∧ x ≤ k := by
  rcases Int.le_total 0 x with h | h
  · exact ⟨x, h, by omega, by omega⟩
  · exact ⟨-x, by omega, by omega, by omega⟩
/-- past the third side there is a point of the triangle -/
theorem ge_X1' {a b c x y r : GPt} {i j : Int} (h : ge_side a b c x y) (w : ge_wt x y r i j) (r1 : 0 < ge_o a b r) (r2 : 0 < ge_o b c r) (r3 : ge_o c a r = 0) (y3 : 0 < ge_o c a y) : False := by
  obtain ⟨k1, k1n, k1a, k1b⟩ := ge_abs_ge (ge_o a b y)
  obtain ⟨k2, k2n, k2a, k2b⟩ := ge_abs_ge (ge_o b c y)
  obtain ⟨M, hM⟩ : ∃ M : Int, M = k1 + k2 + 1 := ⟨_, rfl⟩
  have hM0 : 0 < M := by omega
  have hm : 0 < M + 1 := by omega
  obtain ⟨r', hr'⟩ : ∃ z : GPt, z = (M * r.1 + y.1, M * r.2 + y.2) := ⟨_, rfl⟩
  have f : ∀ u v : GPt, ge_o (ge_s (M + 1) u) (ge_s (M + 1) v) r' = (M + 1) * (M * ge_o u v r + ge_o u v y) := fun u v => by
    rw [hr']; unfold ge_s ge_o; grind
  obtain ⟨hi, hj, hs, w1, w2⟩ := w
  have wt : ge_wt (ge_s (M + 1) x) (ge_s (M + 1) y) r' (M * i) (M * j + (i + j)) := by
    have q1 := Int.mul_nonneg (Int.le_of_lt hM0) hi
    have q2 := Int.mul_nonneg (Int.le_of_lt hM0) hj
    refine ⟨q1, by omega, by omega, ?_, ?_⟩
    · rw [hr']; unfold ge_s; show (M * i + (M * j + (i + j))) * (M * r.1 + y.1) = M * i * ((M + 1) * x.1) + (M * j + (i + j)) * ((M + 1) * y.1)
      have : (M * i + (M * j + (i + j))) * (M * r.1 + y.1) = (M + 1) * M * ((i + j) * r.1) + (M + 1) * (i + j) * y.1 := by grind
      rw [this, w1]; grind
    · rw [hr']; unfold ge_s; show (M * i + (M * j + (i + j))) * (M * r.2 + y.2) = M * i * ((M + 1) * x.2) + (M * j + (i + j)) * ((M + 1) * y.2)
      have : (M * i + (M * j + (i + j))) * (M * r.2 + y.2) = (M + 1) * M * ((i + j) * r.2) + (M + 1) * (i + j) * y.2 := by grind
      rw [this, w2]; grind
  have m1 : M ≤ M * ge_o a b r := by have := Int.mul_le_mul_of_nonneg_left (show (1 : Int) ≤ ge_o a b r by omega) (show 0 ≤ M by omega); omega
  have m2 : M ≤ M * ge_o b c r := by have := Int.mul_le_mul_of_nonneg_left (show (1 : Int) ≤ ge_o b c r by omega) (show 0 ≤ M by omega); omega
  refine ge_side_K (ge_side_s hm h) (ge_wt_on wt) ⟨?_, ?_, ?_⟩ ?_
  · rw [f]; exact Int.mul_nonneg (by omega) (by omega)
  · rw [f]; exact Int.mul_nonneg (by omega) (by omega)
  · rw [f, r3, Int.mul_zero]; exact Int.mul_nonneg (by omega) (by omega)
  · rw [f, r3, Int.mul_zero]; exact Int.mul_pos (by omega) (by omega)
theorem ge_X1 {a b c x y : GPt} (hF : 0 < ge_o a b c) (h : ge_side a b c x y) : ¬ ge_x x y a c := by
  intro z
  have hz := z.2
  obtain ⟨m, r, i, j, i', j', hm, w, w', hi, hj, -⟩ := ge_x_pt z
  have hF' : 0 < m * m * ge_o a b c := Int.mul_pos (ge_mm hm) hF
  have za : ge_o a b a = 0 := by unfold ge_o; grind
  have zc : ge_o b c c = 0 := by unfold ge_o; grind
  have zb : ge_o b c a = ge_o a b c := ge_o_cyc a b c
  have z3 : ge_o c a a = 0 := by unfold ge_o; grind
  have z4 : ge_o c a c = 0 := by unfold ge_o; grind
  have e1 := ge_wt_o w (ge_s m a) (ge_s m b)
  have e2 := ge_wt_o w (ge_s m b) (ge_s m c)
  have e3 := ge_wt_o w (ge_s m c) (ge_s m a)
  rw [ge_o_s, ge_o_s, za] at e1
  rw [ge_o_s, ge_o_s, zc, zb] at e2
  rw [ge_o_s, ge_o_s, z3, z4] at e3
  have hs := w.2.2.1
  have r1 : 0 < ge_o (ge_s m a) (ge_s m b) r := ge_pos hs (by have := Int.mul_pos hj hF'; rw [e1, Int.mul_zero, Int.mul_zero]; omega)
  have r2 : 0 < ge_o (ge_s m b) (ge_s m c) r := ge_pos hs (by have := Int.mul_pos hi hF'; rw [e2, Int.mul_zero, Int.mul_zero]; omega)
  have r3 : ge_o (ge_s m c) (ge_s m a) r = 0 := ge_zero hs (by rw [e3, Int.mul_zero, Int.mul_zero, Int.mul_zero]; rfl)
  have hz' : ge_o c a x * ge_o c a y < 0 := by rw [ge_o_swap a c x, ge_o_swap a c y, Int.neg_mul_neg]; exact hz
  rcases Int.lt_or_le 0 (ge_o c a y) with y3 | y3
  · exact ge_X1' (ge_side_s hm h) w' r1 r2 r3 (by rw [ge_o_s]; exact Int.mul_pos (ge_mm hm) y3)
  · have x3 : 0 < ge_o c a x := by
      rcases Int.lt_or_le 0 (ge_o c a x) with q | q
      · exact q
      · have := Int.mul_nonneg (show 0 ≤ -ge_o c a x by omega) (show 0 ≤ -ge_o c a y by omega)
        rw [Int.neg_mul_neg] at this
        omega
    exact ge_X1' (ge_side_swap (ge_side_s hm h)) (ge_wt_swap w') r1 r2 r3 (by rw [ge_o_s]; exact Int.mul_pos (ge_mm hm) x3)
section Cut
variable {a b c : GPt} {mid : List GPt}
theorem ge_sides (hs : ge_simple (b :: c :: (mid ++ [a]))) (he : ∀ w ∈ c :: (mid ++ [a]), w ≠ a → w ≠ c → ¬ ge_in a b c w) : ∀ e ∈ ge_ed (c :: (mid ++ [a])), ge_side a b c e.1 e.2 := by
  intro e h
  obtain ⟨hn, hv, hx⟩ := hs
  rw [ge_E_ear] at hv hx
  obtain ⟨hb, hn'⟩ := List.nodup_cons.mp hn
  have hm := ge_ed_mem _ e h
  have hE : e ∈ (b, c) :: (ge_ed (c :: (mid ++ [a])) ++ [(a, b)]) := List.mem_cons_of_mem _ (List.mem_append_left _ h)
  have hab : (a, b) ∈ (b, c) :: (ge_ed (c :: (mid ++ [a])) ++ [(a, b)]) := List.mem_cons_of_mem _ (List.mem_append_right _ List.mem_cons_self)
  have hbc : (b, c) ∈ (b, c) :: (ge_ed (c :: (mid ++ [a])) ++ [(a, b)]) := List.mem_cons_self
  have out : ∀ w ∈ c :: (mid ++ [a]), ¬ (ge_in a b c w ∧ 0 < ge_o c a w) := fun w hw z => by
    by_cases e1 : w = a
    · subst e1
      have : ge_o c w w = 0 := by unfold ge_o; grind
      omega
    · by_cases e2 : w = c
      · subst e2
        have : ge_o w a w = 0 := by unfold ge_o; grind
        omega
      · exact he w hw e1 e2 z.1
  have ha : a ∈ b :: c :: (mid ++ [a]) := by simp
  have hc : c ∈ b :: c :: (mid ++ [a]) := by simp
  refine ⟨ge_ed_ne _ hn' e h, out _ hm.1, out _ hm.2, hx e hE _ hab, hx e hE _ hbc, fun z => ge_end1 (hv a ha e hE z), fun z => ?_, fun z => ge_end2 (hv c hc e hE z)⟩
  rcases hv b List.mem_cons_self e hE z with q | q
  · rw [q] at hb; exact hb hm.1
  · rw [q] at hb; exact hb hm.2
theorem ge_ac_in (hF : 0 < ge_o a b c) {w : GPt} (h : ge_on a c w) (hac : a ≠ c) : ge_in a b c w := by
  obtain ⟨i, j, wt⟩ := ge_on_wt hac h
  have za : ge_o a b a = 0 := by unfold ge_o; grind
  have zc : ge_o b c c = 0 := by unfold ge_o; grind
  have zb : ge_o b c a = ge_o a b c := ge_o_cyc a b c
  have z3 : ge_o c a a = 0 := by unfold ge_o; grind
  have z4 : ge_o c a c = 0 := by unfold ge_o; grind
  exact ⟨ge_wt_nn wt (by omega) (by omega), ge_wt_nn wt (by omega) (by omega), ge_wt_nn wt (by omega) (by omega)⟩
theorem ge_cut_simple (hF : 0 < ge_o a b c) (hs : ge_simple (b :: c :: (mid ++ [a]))) (he : ∀ w ∈ c :: (mid ++ [a]), w ≠ a → w ≠ c → ¬ ge_in a b c w) : ge_simple (c :: (mid ++ [a])) := by
  have hsd := ge_sides hs he
  obtain ⟨hn, hv, hx⟩ := hs
  obtain ⟨hb, hn'⟩ := List.nodup_cons.mp hn
  have hac : a ≠ c := fun z => by
    have : c ∉ mid ++ [a] := (List.nodup_cons.mp hn').1
    rw [← z] at this
    exact this (by simp)
  have up : ∀ e ∈ ge_ed (c :: (mid ++ [a])), e ∈ ge_E (b :: c :: (mid ++ [a])) := fun e h => by rw [ge_E_ear]; exact List.mem_cons_of_mem _ (List.mem_append_left _ h)
  refine ⟨hn', fun w hw e h z => ?_, fun e h f g => ?_⟩
  · rw [ge_E_cut] at h
    rcases List.mem_append.mp h with h | h
    · exact hv w (List.mem_cons_of_mem _ hw) e (up e h) z
    · rw [List.mem_singleton.mp h] at z ⊢
      by_cases e1 : w = a
      · exact Or.inl e1
      · by_cases e2 : w = c
        · exact Or.inr e2
        · exact absurd (ge_ac_in hF z hac) (he w hw e1 e2)
  · rw [ge_E_cut] at h g
    rcases List.mem_append.mp h with h | h <;> rcases List.mem_append.mp g with g | g
    · exact hx e (up e h) f (up f g)
    · rw [List.mem_singleton.mp g]
      exact ge_X1 hF (hsd e h)
    · rw [List.mem_singleton.mp h]
      exact fun z => ge_X1 hF (hsd f g) (ge_x_symm z)
    · rw [List.mem_singleton.mp h, List.mem_singleton.mp g]
      intro z
      have : ge_o a c a = 0 := by unfold ge_o; grind
      have z1 : ge_o a c a * ge_o a c c < 0 := z.1
      rw [this, Int.zero_mul] at z1
      omega
/-- b lies lower than all of them, or as low and to the right -/
def ge_low (b v : GPt) : Prop := b.2 < v.2 ∨ (b.2 = v.2 ∧ v.1 < b.1)
theorem ge_cs_low {b u v : GPt} (hu : ge_low b u) (hv : ge_low b v) : ge_cs u v b = false := by
  rcases hu with hu | ⟨hu, hu'⟩ <;> rcases hv with hv | ⟨hv, hv'⟩
  · exact ge_cs_hi hu hv
  · rw [ge_cs_comm, ge_cs_up (by omega) hu]
    have : ge_o v u b = (u.2 - v.2) * (v.1 - b.1) := by unfold ge_o; rw [hv]; grind
    have k := Int.mul_pos (show 0 < u.2 - v.2 by omega) (show 0 < b.1 - v.1 by omega)
    have : ¬ 0 < ge_o v u b := by grind
    simp [this]
  · rw [ge_cs_up (by omega) hv]
    have : ge_o u v b = (v.2 - u.2) * (u.1 - b.1) := by unfold ge_o; rw [hu]; grind
    have k := Int.mul_pos (show 0 < v.2 - u.2 by omega) (show 0 < b.1 - u.1 by omega)
    have : ¬ 0 < ge_o u v b := by grind
    simp [this]
  · exact ge_cs_lo (by omega) (by omega)
theorem ge_pp_low {b : GPt} : ∀ (l : List GPt), (∀ v ∈ l, ge_low b v) → ge_pp l b = false
  | [], _ => rfl
  | [_], _ => rfl
  | u :: v :: r, h => by
    show (ge_cs u v b != ge_pp (v :: r) b) = false
    rw [ge_cs_low (h u List.mem_cons_self) (h v (List.mem_cons_of_mem _ List.mem_cons_self)), ge_pp_low (v :: r) (fun z hz => h z (List.mem_cons_of_mem _ hz))]
    rfl
theorem ge_par_low {b : GPt} {l : List GPt} (h : ∀ v ∈ l, ge_low b v) : ge_par l b = false := ge_pp_low _ (fun v hv => h v (ge_cy_mem hv))
/-- the rest counts nothing in the triangle off the cut -/
theorem ge_A1 (hF : 0 < ge_o a b c) (hs : ge_simple (b :: c :: (mid ++ [a]))) (he : ∀ w ∈ c :: (mid ++ [a]), w ≠ a → w ≠ c → ¬ ge_in a b c w) (hl : ∀ v ∈ c :: (mid ++ [a]), ge_low b v) {p : GPt} (hp : ge_in a b c p) (hp3 : 0 < ge_o c a p) : ge_par (c :: (mid ++ [a])) p = false := by
  have hsd := ge_sides hs he
  have zb : ge_o c a b = ge_o a b c := by rw [ge_o_cyc, ge_o_cyc]
  have z1 : ge_o a b b = 0 := by unfold ge_o; grind
  have z2 : ge_o b c b = 0 := by unfold ge_o; grind
  rw [← ge_par_low hl]
  refine ge_par_mv (fun e h => ?_)
  rw [ge_E_cut] at h
  rcases List.mem_append.mp h with h | h
  · exact ge_free (hsd e h) hp hp3 ⟨by omega, by omega, by omega⟩ (by omega)
  · rw [List.mem_singleton.mp h]
    exact ge_free3 hp3 (show 0 < ge_o c a b by omega)
end Cut
