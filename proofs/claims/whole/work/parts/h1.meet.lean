/-! meeting by signs is having a common point, at some scale -/
theorem ge_meet_pt {u v p q : GPt} (h : ge_meet u v p q) : ∃ (m : Int) (r : GPt), 0 < m ∧ ge_on (ge_s m u) (ge_s m v) r ∧ ge_on (ge_s m p) (ge_s m q) r := by
  rcases h with h | h | h | h | h
  · exact ⟨1, p, by decide, by rw [ge_s_1, ge_s_1]; exact h, by rw [ge_s_1, ge_s_1]; exact ge_on_l _ _⟩
  · exact ⟨1, q, by decide, by rw [ge_s_1, ge_s_1]; exact h, by rw [ge_s_1, ge_s_1]; exact ge_on_r _ _⟩
  · exact ⟨1, u, by decide, by rw [ge_s_1, ge_s_1]; exact ge_on_l _ _, by rw [ge_s_1, ge_s_1]; exact h⟩
  · exact ⟨1, v, by decide, by rw [ge_s_1, ge_s_1]; exact ge_on_r _ _, by rw [ge_s_1, ge_s_1]; exact h⟩
  · obtain ⟨m, r, i, j, i', j', hm, w, w', -⟩ := ge_x_pt h
    exact ⟨m, r, hm, ge_wt_on w', ge_wt_on w⟩
theorem ge_on_xx {p q v : GPt} (h0 : ge_o p q v = 0) (hx : p.1 < q.1) (h1 : p.1 ≤ v.1) (h2 : v.1 ≤ q.1) : ge_on p q v := by
  refine ge_wt_on (i := q.1 - v.1) (j := v.1 - p.1) ⟨by omega, by omega, by omega, by grind, ?_⟩
  unfold ge_o at h0
  grind
theorem ge_col_x {x y u v r : GPt} (hu : u.1 < r.1) (hv : r.1 < v.1) (hx : x.1 < r.1) (hy : r.1 < y.1) (sx : ge_o u v x = 0) (tu : ge_o x y u = 0) : ge_on u v x ∨ ge_on x y u := by
  rcases Int.le_total u.1 x.1 with z | z
  · exact Or.inl (ge_on_xx sx (by omega) z (by omega))
  · exact Or.inr (ge_on_xx tu (by omega) z (by omega))
theorem ge_col_y {x y u v r : GPt} (hu : u.2 < r.2) (hv : r.2 < v.2) (hx : x.2 < r.2) (hy : r.2 < y.2) (sx : ge_o u v x = 0) (tu : ge_o x y u = 0) : ge_on u v x ∨ ge_on x y u := by
  rcases Int.le_total u.2 x.2 with z | z
  · exact Or.inl (ge_on_y sx (by omega) z (by omega))
  · exact Or.inr (ge_on_y tu (by omega) z (by omega))
/-- strictly between, by weights -/
theorem ge_wt_btw {A B R i j : Int} (hi : 0 < i) (hj : 0 < j) (h : (i + j) * R = i * A + j * B) : (A < R ∧ R < B) ∨ (B < R ∧ R < A) ∨ (A = R ∧ B = R) := by
  rcases Int.lt_trichotomy A R with q | q | q
  · left
    refine ⟨q, ?_⟩
    have k := Int.mul_pos hi (show 0 < R - A by omega)
    have := ge_pos (t := B - R) hj (by grind)
    omega
  · right; right
    have := ge_zero (t := B - R) hj (by grind)
    exact ⟨q, by omega⟩
  · right; left
    refine ⟨?_, q⟩
    have k := Int.mul_pos hi (show 0 < A - R by omega)
    have := ge_pos (t := R - B) hj (by grind)
    omega
theorem ge_pt_meet {x y u v r : GPt} (hxy : x ≠ y) (huv : u ≠ v) (h1 : ge_on x y r) (h2 : ge_on u v r) : ge_meet x y u v := by
  obtain ⟨i, j, w⟩ := ge_on_wt hxy h1
  obtain ⟨i', j', w'⟩ := ge_on_wt huv h2
  by_cases e1 : i = 0
  · subst e1
    have := ge_wt_0 (ge_wt_swap w)
    subst this
    exact Or.inr (Or.inr (Or.inr (Or.inl h2)))
  by_cases e2 : j = 0
  · subst e2
    have := ge_wt_0 w
    subst this
    exact Or.inr (Or.inr (Or.inl h2))
  by_cases e3 : i' = 0
  · subst e3
    have := ge_wt_0 (ge_wt_swap w')
    subst this
    exact Or.inr (Or.inl h1)
  by_cases e4 : j' = 0
  · subst e4
    have := ge_wt_0 w'
    subst this
    exact Or.inl h1
  have hi : 0 < i := by have := w.1; omega
  have hj : 0 < j := by have := w.2.1; omega
  have hi' : 0 < i' := by have := w'.1; omega
  have hj' : 0 < j' := by have := w'.2.1; omega
  have s := ge_wt_o w u v
  have t := ge_wt_o w' x y
  rw [h2.1, Int.mul_zero] at s
  rw [h1.1, Int.mul_zero] at t
  rcases Int.lt_trichotomy (ge_o u v x) 0 with sx | sx | sx
  · have k := Int.mul_pos hi (show 0 < -ge_o u v x by omega)
    rw [Int.mul_neg] at k
    have sy : 0 < ge_o u v y := ge_pos hj (by omega)
    have sub := ge_o_sub x y u v
    have hne : ge_o x y u ≠ ge_o x y v := by omega
    rcases Int.lt_trichotomy (ge_o x y u) 0 with tu | tu | tu
    · have k2 := Int.mul_pos hi' (show 0 < -ge_o x y u by omega)
      rw [Int.mul_neg] at k2
      have tv : 0 < ge_o x y v := ge_pos hj' (by omega)
      refine Or.inr (Or.inr (Or.inr (Or.inr ⟨?_, ?_⟩)))
      · have := Int.mul_pos (show 0 < -ge_o x y u by omega) tv
        rw [Int.neg_mul] at this; omega
      · have := Int.mul_pos (show 0 < -ge_o u v x by omega) sy
        rw [Int.neg_mul] at this; omega
    · rw [tu, Int.mul_zero] at t
      have : ge_o x y v = 0 := ge_zero hj' (by omega)
      omega
    · have k2 := Int.mul_pos hi' tu
      have tv : 0 < -ge_o x y v := ge_pos hj' (by rw [Int.mul_neg]; omega)
      refine Or.inr (Or.inr (Or.inr (Or.inr ⟨?_, ?_⟩)))
      · have := Int.mul_pos tu tv
        rw [Int.mul_neg] at this; omega
      · have := Int.mul_pos (show 0 < -ge_o u v x by omega) sy
        rw [Int.neg_mul] at this; omega
  · rw [sx, Int.mul_zero] at s
    have sy : ge_o u v y = 0 := ge_zero hj (by omega)
    have sub := ge_o_sub x y u v
    have tt : ge_o x y u = ge_o x y v := by omega
    have tu : ge_o x y u = 0 := by
      rw [← tt] at t
      have : (i' + j') * ge_o x y u = 0 := by rw [Int.add_mul]; omega
      exact ge_zero (by omega) this
    have tv : ge_o x y v = 0 := by omega
    have fin : ge_on u v x ∨ ge_on u v y ∨ ge_on x y u ∨ ge_on x y v → ge_meet x y u v := fun q => by
      rcases q with q | q | q | q
      · exact Or.inr (Or.inr (Or.inl q))
      · exact Or.inr (Or.inr (Or.inr (Or.inl q)))
      · exact Or.inl q
      · exact Or.inr (Or.inl q)
    have neg : ∀ {A B C : GPt}, ge_o A B C = 0 → ge_o B A C = 0 := fun {A B C} h => by rw [ge_o_swap, h]; rfl
    apply fin
    rcases ge_wt_btw hi' hj' w'.2.2.2.1 with ⟨a1, a2⟩ | ⟨a1, a2⟩ | ⟨a1, a2⟩
    · rcases ge_wt_btw hi hj w.2.2.2.1 with ⟨b1, b2⟩ | ⟨b1, b2⟩ | ⟨b1, b2⟩
      · rcases ge_col_x a1 a2 b1 b2 sx tu with q | q
        · exact Or.inl q
        · exact Or.inr (Or.inr (Or.inl q))
      · rcases ge_col_x a1 a2 b1 b2 sy (neg tu) with q | q
        · exact Or.inr (Or.inl q)
        · exact Or.inr (Or.inr (Or.inl (ge_on_symm q)))
      · exfalso
        have hx1 : x.1 = y.1 := by omega
        have e : ge_o x y u = (y.2 - x.2) * (x.1 - u.1) := by unfold ge_o; grind
        rw [tu] at e
        rcases Int.mul_eq_zero.mp e.symm with q | q
        · exact hxy (Prod.ext hx1 (by omega))
        · omega
    · rcases ge_wt_btw hi hj w.2.2.2.1 with ⟨b1, b2⟩ | ⟨b1, b2⟩ | ⟨b1, b2⟩
      · rcases ge_col_x a1 a2 b1 b2 (neg sx) tv with q | q
        · exact Or.inl (ge_on_symm q)
        · exact Or.inr (Or.inr (Or.inr q))
      · rcases ge_col_x a1 a2 b1 b2 (neg sy) (neg tv) with q | q
        · exact Or.inr (Or.inl (ge_on_symm q))
        · exact Or.inr (Or.inr (Or.inr (ge_on_symm q)))
      · exfalso
        have hx1 : x.1 = y.1 := by omega
        have e : ge_o x y u = (y.2 - x.2) * (x.1 - u.1) := by unfold ge_o; grind
        rw [tu] at e
        rcases Int.mul_eq_zero.mp e.symm with q | q
        · exact hxy (Prod.ext hx1 (by omega))
        · omega
    · have hu1 : u.1 = v.1 := by omega
      have hx1 : x.1 = u.1 := by
        have e : ge_o u v x = (v.2 - u.2) * (u.1 - x.1) := by unfold ge_o; grind
        rw [sx] at e
        rcases Int.mul_eq_zero.mp e.symm with q | q
        · exact absurd (Prod.ext hu1 (by omega)) huv
        · omega
      rcases ge_wt_btw hi' hj' w'.2.2.2.2 with ⟨c1, c2⟩ | ⟨c1, c2⟩ | ⟨c1, c2⟩
      · rcases ge_wt_btw hi hj w.2.2.2.2 with ⟨b1, b2⟩ | ⟨b1, b2⟩ | ⟨b1, b2⟩
        · rcases ge_col_y c1 c2 b1 b2 sx tu with q | q
          · exact Or.inl q
          · exact Or.inr (Or.inr (Or.inl q))
        · rcases ge_col_y c1 c2 b1 b2 sy (neg tu) with q | q
          · exact Or.inr (Or.inl q)
          · exact Or.inr (Or.inr (Or.inl (ge_on_symm q)))
        · exact absurd (Prod.ext (by rcases ge_wt_btw hi hj w.2.2.2.1 with q | q | q <;> omega) (by omega)) hxy
      · rcases ge_wt_btw hi hj w.2.2.2.2 with ⟨b1, b2⟩ | ⟨b1, b2⟩ | ⟨b1, b2⟩
        · rcases ge_col_y c1 c2 b1 b2 (neg sx) tv with q | q
          · exact Or.inl (ge_on_symm q)
          · exact Or.inr (Or.inr (Or.inr q))
        · rcases ge_col_y c1 c2 b1 b2 (neg sy) (neg tv) with q | q
          · exact Or.inr (Or.inl (ge_on_symm q))
          · exact Or.inr (Or.inr (Or.inr (ge_on_symm q)))
        · exact absurd (Prod.ext (by rcases ge_wt_btw hi hj w.2.2.2.1 with q | q | q <;> omega) (by omega)) hxy
      · exact absurd (Prod.ext hu1 (by omega)) huv
  · have k := Int.mul_pos hi sx
    have sy : 0 < -ge_o u v y := ge_pos hj (by rw [Int.mul_neg]; omega)
    have sub := ge_o_sub x y u v
    rcases Int.lt_trichotomy (ge_o x y u) 0 with tu | tu | tu
    · have k2 := Int.mul_pos hi' (show 0 < -ge_o x y u by omega)
      rw [Int.mul_neg] at k2
      have tv : 0 < ge_o x y v := ge_pos hj' (by omega)
      refine Or.inr (Or.inr (Or.inr (Or.inr ⟨?_, ?_⟩)))
      · have := Int.mul_pos (show 0 < -ge_o x y u by omega) tv
        rw [Int.neg_mul] at this; omega
      · have := Int.mul_pos sx sy
        rw [Int.mul_neg] at this; omega
    · rw [tu, Int.mul_zero] at t
      have : ge_o x y v = 0 := ge_zero hj' (by omega)
      omega
    · have k2 := Int.mul_pos hi' tu
      have tv : 0 < -ge_o x y v := ge_pos hj' (by rw [Int.mul_neg]; omega)
      refine Or.inr (Or.inr (Or.inr (Or.inr ⟨?_, ?_⟩)))
      · have := Int.mul_pos tu tv
        rw [Int.mul_neg] at this; omega
      · have := Int.mul_pos sx sy
        rw [Int.mul_neg] at this; omega
theorem ge_meet_s {m : Int} (hm : 0 < m) (u v p q : GPt) : ge_meet (ge_s m u) (ge_s m v) (ge_s m p) (ge_s m q) ↔ ge_meet u v p q := by
  have h := ge_x_s hm u v p q
  unfold ge_x at h
  unfold ge_meet
  rw [ge_on_s hm, ge_on_s hm, ge_on_s hm, ge_on_s hm, h]
/-- a piece of an edge meets no more than the edge does -/
theorem ge_meet_part {x y a b p q : GPt} (hxy : x ≠ y) (hab : a ≠ b) (hp : ge_on a b p) (hq : ge_on a b q) (h : ge_meet x y p q) : ge_meet x y a b := by
  obtain ⟨m, r, hm, h1, h2⟩ := ge_meet_pt h
  rw [← ge_meet_s hm]
  have hp' := (ge_on_s hm a b p).mpr hp
  have hq' := (ge_on_s hm a b q).mpr hq
  have hab' : ge_s m a ≠ ge_s m b := fun z => hab (ge_s_inj hm z)
  refine ge_pt_meet (fun z => hxy (ge_s_inj hm z)) hab' h1 ?_
  by_cases e : ge_s m p = ge_s m q
  · rw [e] at h2
    rw [ge_on_pp h2]
    exact hq'
  · obtain ⟨i, j, w⟩ := ge_on_wt e h2
    obtain ⟨i1, j1, w1⟩ := ge_on_wt hab' hp'
    obtain ⟨i2, j2, w2⟩ := ge_on_wt hab' hq'
    obtain ⟨ii, ij, is, ix, iy⟩ := w
    obtain ⟨a1, a2, a3, ax, ay⟩ := w1
    obtain ⟨b1, b2, b3, bx, by'⟩ := w2
    have q1 := Int.mul_nonneg (Int.mul_nonneg ii a1) (Int.le_of_lt b3)
    have q2 := Int.mul_nonneg (Int.mul_nonneg ij b1) (Int.le_of_lt a3)
    have q3 := Int.mul_nonneg (Int.mul_nonneg ii a2) (Int.le_of_lt b3)
    have q4 := Int.mul_nonneg (Int.mul_nonneg ij b2) (Int.le_of_lt a3)
    have q5 := Int.mul_pos (Int.mul_pos is a3) b3
    refine ge_wt_on (i := i * i1 * (i2 + j2) + j * i2 * (i1 + j1)) (j := i * j1 * (i2 + j2) + j * j2 * (i1 + j1)) ⟨by omega, by omega, ?_, ?_, ?_⟩
    · have : i * i1 * (i2 + j2) + j * i2 * (i1 + j1) + (i * j1 * (i2 + j2) + j * j2 * (i1 + j1)) = (i + j) * (i1 + j1) * (i2 + j2) := by grind
      rw [this]; exact q5
    · have : (i * i1 * (i2 + j2) + j * i2 * (i1 + j1) + (i * j1 * (i2 + j2) + j * j2 * (i1 + j1))) * r.1 = (i1 + j1) * (i2 + j2) * ((i + j) * r.1) := by grind
      rw [this, ix]
      have e2 : (i1 + j1) * (i2 + j2) * (i * (ge_s m p).1 + j * (ge_s m q).1) = i * (i2 + j2) * ((i1 + j1) * (ge_s m p).1) + j * (i1 + j1) * ((i2 + j2) * (ge_s m q).1) := by grind
      rw [e2, ax, bx]; grind
    · have : (i * i1 * (i2 + j2) + j * i2 * (i1 + j1) + (i * j1 * (i2 + j2) + j * j2 * (i1 + j1))) * r.2 = (i1 + j1) * (i2 + j2) * ((i + j) * r.2) := by grind
      rw [this, iy]
      have e2 : (i1 + j1) * (i2 + j2) * (i * (ge_s m p).2 + j * (ge_s m q).2) = i * (i2 + j2) * ((i1 + j1) * (ge_s m p).2) + j * (i1 + j1) * ((i2 + j2) * (ge_s m q).2) := by grind
      rw [e2, ay, by']; grind
