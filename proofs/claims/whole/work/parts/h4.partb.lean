/-! the lowest corner's triangle holds vertices: the polygon is parted along the diagonal to the farthest of them -/
theorem ge_disj {l : List GPt} (hs : ge_simple l) {u v x y : GPt} (h : ge_adj l u v) (g : ge_adj l x y) (n1 : u ≠ x) (n2 : u ≠ y) (n3 : v ≠ x) (n4 : v ≠ y) : ¬ ge_meet u v x y := by
  have mu := ge_adj_mem h
  have mx := ge_adj_mem g
  intro q
  rcases q with q | q | q | q | q
  · rcases ge_adj_V hs mx.1 h q with r | r
    · exact n1 r.symm
    · exact n3 r.symm
  · rcases ge_adj_V hs mx.2 h q with r | r
    · exact n2 r.symm
    · exact n4 r.symm
  · rcases ge_adj_V hs mu.1 g q with r | r
    · exact n1 r
    · exact n2 r
  · rcases ge_adj_V hs mu.2 g q with r | r
    · exact n3 r
    · exact n4 r
  · exact ge_adj_X hs h g q
theorem ge_ed_tl {x : GPt} {r : List GPt} {e : GPt × GPt} (h : e ∈ ge_ed r) : e ∈ ge_ed (x :: r) := by
  cases r with
  | nil => cases h
  | cons y r => exact List.mem_cons_of_mem _ h
theorem ge_ed_pre {e : GPt × GPt} : ∀ {l : List GPt} (r : List GPt), e ∈ ge_ed l → e ∈ ge_ed (l ++ r)
  | [], r, h => nomatch h
  | [_], r, h => nomatch h
  | a :: b :: l, r, h => by
    rcases List.mem_cons.mp h with q | q
    · exact List.mem_cons.mpr (Or.inl q)
    · exact List.mem_cons_of_mem _ (ge_ed_pre (l := b :: l) r q)
theorem ge_chain1 (f : GPt → Bool) : ∀ (m : List GPt) (c : GPt), (∀ e ∈ ge_ed (c :: m), f e.1 = f e.2) → ∀ w ∈ c :: m, f w = f c
  | [], c, _, w, hw => by rw [List.mem_singleton.mp hw]
  | y :: m, c, h, w, hw => by
    rcases List.mem_cons.mp hw with q | q
    · rw [q]
    · rw [ge_chain1 f m y (fun e he => h e (List.mem_cons_of_mem _ he)) w q]
      exact (h (c, y) List.mem_cons_self).symm
theorem ge_chain2 (f : GPt → Bool) : ∀ (m : List GPt) (a : GPt), (∀ e ∈ ge_ed (m ++ [a]), f e.1 = f e.2) → ∀ w ∈ m ++ [a], f w = f a
  | [], a, _, w, hw => by rw [List.mem_singleton.mp hw]
  | [y], a, h, w, hw => by
    have h1 := h (y, a) List.mem_cons_self
    rcases List.mem_cons.mp hw with q | q
    · rw [q]; exact h1
    · rw [List.mem_singleton.mp q]
  | y :: x :: m, a, h, w, hw => by
    have ih := ge_chain2 f (x :: m) a (fun e he => h e (List.mem_cons_of_mem _ he))
    have h1 := h (y, x) List.mem_cons_self
    rcases List.mem_cons.mp hw with q | q
    · rw [q]; exact h1.trans (ih x List.mem_cons_self)
    · exact ih w q
theorem ge_on_gt {x y r u v : GPt} {K : Int} (hr : ge_on x y r) (hx : K < ge_o u v x) (hy : K < ge_o u v y) : K < ge_o u v r := by
  by_cases e : x = y
  · subst e; rw [ge_on_pp hr]; exact hx
  · obtain ⟨i, j, w⟩ := ge_on_wt e hr
    have ho := ge_wt_o w u v
    obtain ⟨hi, hj, hs, -, -⟩ := w
    have k1 := Int.mul_nonneg hi (show 0 ≤ ge_o u v x - K - 1 by omega)
    have k2 := Int.mul_nonneg hj (show 0 ≤ ge_o u v y - K - 1 by omega)
    have : 0 ≤ (i + j) * (ge_o u v r - K - 1) := by grind
    have := ge_nn hs this
    omega
theorem ge_on_le {x y r u v : GPt} {K : Int} (hr : ge_on x y r) (hx : ge_o u v x ≤ K) (hy : ge_o u v y ≤ K) : ge_o u v r ≤ K := by
  by_cases e : x = y
  · subst e; rw [ge_on_pp hr]; exact hx
  · obtain ⟨i, j, w⟩ := ge_on_wt e hr
    have ho := ge_wt_o w u v
    obtain ⟨hi, hj, hs, -, -⟩ := w
    have k1 := Int.mul_nonneg hi (show 0 ≤ K - ge_o u v x by omega)
    have k2 := Int.mul_nonneg hj (show 0 ≤ K - ge_o u v y by omega)
    have : 0 ≤ (i + j) * (K - ge_o u v r) := by grind
    have := ge_nn hs this
    omega
theorem ge_on_in {x y r a b c : GPt} (hr : ge_on x y r) (hx : ge_in a b c x) (hy : ge_in a b c y) : ge_in a b c r := by
  by_cases e : x = y
  · subst e; rw [ge_on_pp hr]; exact hx
  · obtain ⟨i, j, w⟩ := ge_on_wt e hr
    exact ge_wt_in w hx hy
/-- parted by a line -/
theorem ge_low_free {u v p q a c : GPt} {K : Int} (hu : ge_o c a u ≤ K) (hv : ge_o c a v ≤ K) (hp : K < ge_o c a p) (hq : K < ge_o c a q) : ¬ ge_meet u v p q := by
  intro h
  obtain ⟨m, r, hm, h1, h2⟩ := ge_meet_pt h
  have mm := ge_mm hm
  have g1 : ge_o (ge_s m c) (ge_s m a) r ≤ m * m * K := ge_on_le h1 (by rw [ge_o_s]; exact (ge_sg_le mm).mpr hu) (by rw [ge_o_s]; exact (ge_sg_le mm).mpr hv)
  have g2 : m * m * K < ge_o (ge_s m c) (ge_s m a) r := ge_on_gt h2 (by rw [ge_o_s]; exact (ge_sg_lt mm).mpr hp) (by rw [ge_o_s]; exact (ge_sg_lt mm).mpr hq)
  omega
theorem ge_part_simple {l Q : List GPt} {b z : GPt} (hs : ge_simple l) (hn : Q.Nodup) (hsub : ∀ w ∈ Q, w ∈ l) (hE : ∀ u v : GPt, ge_adj Q u v → ge_adj l u v ∨ (u = b ∧ v = z) ∨ (u = z ∧ v = b)) (hV : ∀ w ∈ l, ge_on b z w → w = b ∨ w = z) (hX : ∀ u v : GPt, ge_adj l u v → ¬ ge_x u v b z) : ge_simple Q := by
  refine ⟨hn, fun w hw e he q => ?_, fun e he f hf q => ?_⟩
  · rcases hE e.1 e.2 (Or.inl he) with g | ⟨g1, g2⟩ | ⟨g1, g2⟩
    · exact ge_adj_V hs (hsub w hw) g q
    · rw [g1, g2] at q ⊢
      exact hV w (hsub w hw) q
    · rw [g1, g2] at q ⊢
      exact (hV w (hsub w hw) (ge_on_symm q)).symm
  · have self : ¬ ge_x b z b z := fun r => by
      have : ge_o b z b = 0 := by unfold ge_o; grind
      have r1 := r.1
      rw [this, Int.zero_mul] at r1
      omega
    have sw : ∀ {u v x y : GPt}, ge_x u v x y → ge_x u v y x := fun {u v x y} r => ge_x_symm (ge_x_swap (ge_x_symm r))
    rcases hE e.1 e.2 (Or.inl he) with g | ⟨g1, g2⟩ | ⟨g1, g2⟩ <;> rcases hE f.1 f.2 (Or.inl hf) with k | ⟨k1, k2⟩ | ⟨k1, k2⟩
    · exact ge_adj_X hs g k q
    · rw [k1, k2] at q; exact hX _ _ g q
    · rw [k1, k2] at q; exact hX _ _ g (sw q)
    · rw [g1, g2] at q; exact hX _ _ k (ge_x_symm q)
    · rw [g1, g2, k1, k2] at q; exact self q
    · rw [g1, g2, k1, k2] at q; exact self (sw q)
    · rw [g1, g2] at q; exact hX _ _ k (ge_x_symm (ge_x_swap q))
    · rw [g1, g2, k1, k2] at q; exact self (ge_x_swap q)
    · rw [g1, g2, k1, k2] at q; exact self (ge_x_swap (sw q))
/-- the diagonal's situation: z is the vertex of the lowest corner's triangle that is farthest from its far side -/
def ge_B (a b c z : GPt) (n1 n2 : List GPt) : Prop := 0 < ge_o a b c ∧ ge_simple (b :: c :: ((n1 ++ z :: n2) ++ [a])) ∧ (∀ v ∈ c :: ((n1 ++ z :: n2) ++ [a]), ge_low b v) ∧ ge_in a b c z ∧ ∀ w ∈ c :: ((n1 ++ z :: n2) ++ [a]), ge_in a b c w → ge_o c a w ≤ ge_o c a z
section CaseB
variable {a b c z : GPt} {n1 n2 : List GPt}
theorem ge_B_S (k : Int) : ge_S k (b :: c :: ((n1 ++ z :: n2) ++ [a])) = ge_s k b :: ge_s k c :: ((ge_S k n1 ++ ge_s k z :: ge_S k n2) ++ [ge_s k a]) := by simp [ge_S]
theorem ge_B_St (k : Int) : ge_S k (c :: ((n1 ++ z :: n2) ++ [a])) = ge_s k c :: ((ge_S k n1 ++ ge_s k z :: ge_S k n2) ++ [ge_s k a]) := by simp [ge_S]
theorem ge_B_s {k : Int} (hk : 0 < k) (H : ge_B a b c z n1 n2) : ge_B (ge_s k a) (ge_s k b) (ge_s k c) (ge_s k z) (ge_S k n1) (ge_S k n2) := by
  obtain ⟨hF, hs, hl, hz, hm⟩ := H
  refine ⟨by rw [ge_o_s]; exact Int.mul_pos (ge_mm hk) hF, by rw [← ge_B_S]; exact ge_simple_S hk hs, ?_, (ge_in_s hk _ _ _ _).mpr hz, ?_⟩
  · intro v hv
    rw [← ge_B_St] at hv
    obtain ⟨w, hw, rfl⟩ := List.mem_map.mp hv
    exact ge_low_s hk (hl w hw)
  · intro v hv q
    rw [← ge_B_St] at hv
    obtain ⟨w, hw, rfl⟩ := List.mem_map.mp hv
    rw [ge_o_s, ge_o_s]
    exact (ge_sg_le (ge_mm hk)).mpr (hm w hw ((ge_in_s hk _ _ _ _).mp q))
theorem ge_B_t : c :: ((n1 ++ z :: n2) ++ [a]) = (c :: n1) ++ z :: (n2 ++ [a]) := by simp
theorem ge_B_ed : ge_ed (c :: ((n1 ++ z :: n2) ++ [a])) = ge_ed (c :: (n1 ++ [z])) ++ ge_ed (z :: (n2 ++ [a])) := by
  rw [ge_B_t, ge_ed_app]
  rfl
theorem ge_B_nd (H : ge_B a b c z n1 n2) : b ∉ c :: ((n1 ++ z :: n2) ++ [a]) ∧ (c :: n1).Nodup ∧ (z :: (n2 ++ [a])).Nodup ∧ ∀ x ∈ c :: n1, ∀ y ∈ z :: (n2 ++ [a]), x ≠ y := by
  have hn := H.2.1.1
  obtain ⟨h1, h2⟩ := List.nodup_cons.mp hn
  rw [ge_B_t] at h2
  obtain ⟨h3, h4, h5⟩ := List.nodup_append.mp h2
  exact ⟨h1, h3, h4, h5⟩
theorem ge_B_num (H : ge_B a b c z n1 n2) : 0 < ge_o a b z ∧ 0 < ge_o b c z ∧ 0 ≤ ge_o c a z ∧ ge_o a b z + ge_o b c z + ge_o c a z = ge_o a b c := by
  obtain ⟨h1, h2, h3, h4⟩ := ge_B_nd H
  obtain ⟨hF, hs, hl, hz, hm⟩ := H
  have hzl : z ∈ b :: c :: ((n1 ++ z :: n2) ++ [a]) := by simp
  have zb : z ≠ b := fun q => h1 (by rw [← q]; simp)
  have za : z ≠ a := fun q => (List.nodup_cons.mp h3).1 (by rw [q]; simp)
  have zc : z ≠ c := fun q => h4 c List.mem_cons_self z List.mem_cons_self q.symm
  have hab : (a, b) ∈ ge_E (b :: c :: ((n1 ++ z :: n2) ++ [a])) := by rw [ge_E_ear]; simp
  have hbc : (b, c) ∈ ge_E (b :: c :: ((n1 ++ z :: n2) ++ [a])) := by rw [ge_E_ear]; simp
  refine ⟨?_, ?_, hz.2.2, ge_b0 a b c z⟩
  · rcases Int.lt_or_eq_of_le hz.1 with q | q
    · exact q
    · exact ((hs.2.1 z hzl _ hab (ge_in_on hF hz q.symm)).elim za zb).elim
  · rcases Int.lt_or_eq_of_le hz.2.1 with q | q
    · exact q
    · exact ((hs.2.1 z hzl _ hbc (ge_in_on (by rw [ge_o_cyc]; exact hF) (ge_in_cyc hz) q.symm)).elim zb zc).elim
theorem ge_B_U (H : ge_B a b c z n1 n2) {e : GPt × GPt} (he : e ∈ ge_ed (c :: ((n1 ++ z :: n2) ++ [a]))) {m : Int} (hm : 0 < m) {r : GPt} (hr : ge_on (ge_s m e.1) (ge_s m e.2) r) (rT : ge_in (ge_s m a) (ge_s m b) (ge_s m c) r) : ge_o (ge_s m c) (ge_s m a) r ≤ m * m * ge_o c a z := by
  obtain ⟨z1, z2, z3, z4⟩ := ge_B_num H
  obtain ⟨h1, h2, h3, h4⟩ := ge_B_nd H
  obtain ⟨hF, hs, hl, hz, hmax⟩ := H
  have hE : e ∈ ge_E (b :: c :: ((n1 ++ z :: n2) ++ [a])) := by rw [ge_E_ear]; exact List.mem_cons_of_mem _ (List.mem_append_left _ he)
  have hab : (a, b) ∈ ge_E (b :: c :: ((n1 ++ z :: n2) ++ [a])) := by rw [ge_E_ear]; simp
  have hbc : (b, c) ∈ ge_E (b :: c :: ((n1 ++ z :: n2) ++ [a])) := by rw [ge_E_ear]; simp
  have me := ge_ed_mem _ e he
  have hG : 0 < ge_o a b z + ge_o b c z := by omega
  have e0 : ge_o c a b = ge_o a b c := by rw [ge_o_cyc, ge_o_cyc]
  have hF' : ge_o c a b = ge_o c a z + (ge_o a b z + ge_o b c z) := by omega
  refine ge_U z3 hG hF' (ge_side_up z3 hG hF' (ge_ed_ne _ (List.nodup_cons.mp hs.1).2 e he) (hmax _ me.1) (hmax _ me.2) (hs.2.2 e hE _ hab) (hs.2.2 e hE _ hbc) (hs.2.1 a (by simp) e hE) (fun q => ?_) (hs.2.1 c (by simp) e hE)) hm hr rT
  rcases hs.2.1 b List.mem_cons_self e hE q with r | r
  · exact h1 (r ▸ me.1)
  · exact h1 (r ▸ me.2)
theorem ge_B_free (H : ge_B a b c z n1 n2) {e : GPt × GPt} (he : e ∈ ge_ed (c :: ((n1 ++ z :: n2) ++ [a]))) {p q : GPt} (hp : ge_in a b c p) (hp3 : ge_o c a z < ge_o c a p) (hq : ge_in a b c q) (hq3 : ge_o c a z < ge_o c a q) : ¬ ge_meet e.1 e.2 p q := by
  intro h
  obtain ⟨m, r, hm, h1, h2⟩ := ge_meet_pt h
  have mm := ge_mm hm
  have g1 := ge_B_U H he hm h1 (ge_on_in h2 ((ge_in_s hm _ _ _ _).mpr hp) ((ge_in_s hm _ _ _ _).mpr hq))
  have g2 : m * m * ge_o c a z < ge_o (ge_s m c) (ge_s m a) r := ge_on_gt h2 (by rw [ge_o_s]; exact (ge_sg_lt mm).mpr hp3) (by rw [ge_o_s]; exact (ge_sg_lt mm).mpr hq3)
  omega
theorem ge_B_b (H : ge_B a b c z n1 n2) : ge_in a b c b ∧ ge_o c a z < ge_o c a b := by
  obtain ⟨z1, z2, z3, z4⟩ := ge_B_num H
  have e1 : ge_o a b b = 0 := by unfold ge_o; grind
  have e2 : ge_o b c b = 0 := by unfold ge_o; grind
  have e3 : ge_o c a b = ge_o a b c := by rw [ge_o_cyc, ge_o_cyc]
  exact ⟨⟨by omega, by omega, by omega⟩, by omega⟩
/-- on the diagonal short of z -/
theorem ge_B_bz (H : ge_B a b c z n1 n2) {r : GPt} {i j : Int} (w : ge_wt b z r i j) (hi : 0 < i) : ge_in a b c r ∧ ge_o c a z < ge_o c a r := by
  have hb := ge_B_b H
  refine ⟨ge_wt_in w hb.1 H.2.2.2.1, ?_⟩
  have e := ge_wt_o w c a
  have k1 := Int.mul_pos hi (show 0 < ge_o c a b - ge_o c a z by omega)
  have : 0 < (i + j) * (ge_o c a r - ge_o c a z) := by grind
  have := ge_pos w.2.2.1 this
  omega
theorem ge_B_ne (H : ge_B a b c z n1 n2) : b ≠ z := fun q => (ge_B_nd H).1 (by rw [q]; simp)
theorem ge_B_V (H : ge_B a b c z n1 n2) {w : GPt} (hw : w ∈ b :: c :: ((n1 ++ z :: n2) ++ [a])) (ho : ge_on b z w) : w = b ∨ w = z := by
  rcases List.mem_cons.mp hw with q | q
  · exact Or.inl q
  · obtain ⟨i, j, wt⟩ := ge_on_wt (ge_B_ne H) ho
    by_cases hi : i = 0
    · subst hi
      exact Or.inr (ge_wt_0 (ge_wt_swap wt))
    · have := ge_B_bz H wt (by have := wt.1; omega)
      have := H.2.2.2.2 w q this.1
      omega
theorem ge_B_X1 (H : ge_B a b c z n1 n2) {e : GPt × GPt} (he : e ∈ ge_ed (c :: ((n1 ++ z :: n2) ++ [a]))) : ¬ ge_x e.1 e.2 b z := by
  intro q
  obtain ⟨m, r, i, j, i', j', hm, w, w', hi, -⟩ := ge_x_pt q
  have g := ge_B_bz (ge_B_s hm H) w hi
  have := ge_B_U H he hm (ge_wt_on w') g.1
  have g2 := g.2
  rw [ge_o_s] at g2
  omega
theorem ge_B_X (H : ge_B a b c z n1 n2) {u v : GPt} (h : ge_adj (b :: c :: ((n1 ++ z :: n2) ++ [a])) u v) : ¬ ge_x u v b z := by
  have key : ∀ e ∈ ge_E (b :: c :: ((n1 ++ z :: n2) ++ [a])), ¬ ge_x e.1 e.2 b z := fun e he q => by
    rw [ge_E_ear] at he
    rcases List.mem_cons.mp he with r | r
    · subst r
      have : ge_o b c b = 0 := by unfold ge_o; grind
      have q1 : ge_o b c b * ge_o b c z < 0 := q.1
      rw [this, Int.zero_mul] at q1
      omega
    · rcases List.mem_append.mp r with r | r
      · exact ge_B_X1 H r q
      · rw [List.mem_singleton.mp r] at q
        have : ge_o a b b = 0 := by unfold ge_o; grind
        have q1 : ge_o a b b * ge_o a b z < 0 := q.1
        rw [this, Int.zero_mul] at q1
        omega
  rcases h with h | h
  · exact key _ h
  · exact fun q => key _ h (ge_x_swap q)
end CaseB
