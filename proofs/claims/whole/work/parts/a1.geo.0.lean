/-! cut out of the base by slice.py: a1.geo -/
-- g1.geo
/-! plane geometry over whole numbers: sides, segments, the even-odd rule of the reference (a ray to the right, lower ends count) -/
abbrev GPt : Type := Int × Int
/-- twice the signed area of a, b, c -/
def ge_o (a b c : GPt) : Int := (b.1 - a.1) * (c.2 - a.2) - (b.2 - a.2) * (c.1 - a.1)
def ge_on (a b p : GPt) : Prop := ge_o a b p = 0 ∧ (p.1 - a.1) * (p.1 - b.1) ≤ 0 ∧ (p.2 - a.2) * (p.2 - b.2) ≤ 0
/-- the segments uv and pq have a point in common, by signs -/
def ge_meet (u v p q : GPt) : Prop := ge_on u v p ∨ ge_on u v q ∨ ge_on p q u ∨ ge_on p q v ∨ (ge_o u v p * ge_o u v q < 0 ∧ ge_o p q u * ge_o p q v < 0)
/-- the ray from p to the right crosses uv -/
def ge_cr (u v p : GPt) : Bool := (decide (p.2 < u.2) != decide (p.2 < v.2)) && (decide (u.2 < v.2) == decide (0 < ge_o u v p))
theorem ge_pos {k t : Int} (hk : 0 < k) (h : 0 < k * t) : 0 < t := by
  rcases Int.lt_or_le 0 t with q | q
  · exact q
  · have := Int.mul_nonneg (Int.le_of_lt hk) (show 0 ≤ -t by omega)
    rw [Int.mul_neg] at this
    omega
theorem ge_nn {k t : Int} (hk : 0 < k) (h : 0 ≤ k * t) : 0 ≤ t := by
  rcases Int.lt_or_le t 0 with q | q
  · have := Int.mul_pos hk (show 0 < -t by omega)
    rw [Int.mul_neg] at this
    omega
  · exact q
theorem ge_zero {k t : Int} (hk : 0 < k) (h : k * t = 0) : t = 0 := by
  rcases Int.mul_eq_zero.mp h with q | q
  · omega
  · exact q
theorem ge_sum0 {x y : Int} (h1 : 0 ≤ x) (h2 : 0 ≤ y) (h : x + y = 0) : x = 0 := by omega
theorem ge_sq (x : Int) : 0 ≤ x * x := by
  rcases Int.le_total 0 x with z | z
  · exact Int.mul_nonneg z z
  · have := Int.mul_nonneg (show 0 ≤ -x by omega) (show 0 ≤ -x by omega)
    grind
theorem ge_o_cyc (a b c : GPt) : ge_o b c a = ge_o a b c := by unfold ge_o; grind
theorem ge_o_swap (a b c : GPt) : ge_o b a c = -ge_o a b c := by unfold ge_o; grind
theorem ge_o_sub (u v p q : GPt) : ge_o u v p - ge_o u v q = ge_o p q v - ge_o p q u := by unfold ge_o; grind
theorem ge_o_y1 (u v p q : GPt) : (q.2 - p.2) * ge_o u v p = (u.2 - p.2) * ge_o p q v - (v.2 - p.2) * ge_o p q u := by unfold ge_o; grind
theorem ge_o_y2 (u v p q : GPt) : (q.2 - p.2) * ge_o u v q = (u.2 - q.2) * ge_o p q v - (v.2 - q.2) * ge_o p q u := by unfold ge_o; grind
theorem ge_on_symm {a b p : GPt} (h : ge_on a b p) : ge_on b a p := by
  obtain ⟨h1, h2, h3⟩ := h
  refine ⟨by rw [ge_o_swap, h1]; rfl, ?_, ?_⟩
  · rw [Int.mul_comm]; exact h2
  · rw [Int.mul_comm]; exact h3
theorem ge_meet_symm {u v p q : GPt} (h : ge_meet u v p q) : ge_meet p q u v := by
  unfold ge_meet at *
  grind
theorem ge_meet_swap {u v p q : GPt} (h : ge_meet u v p q) : ge_meet u v q p := by
  rcases h with h | h | h | h | ⟨h1, h2⟩
  · exact Or.inr (Or.inl h)
  · exact Or.inl h
  · exact Or.inr (Or.inr (Or.inl (ge_on_symm h)))
  · exact Or.inr (Or.inr (Or.inr (Or.inl (ge_on_symm h))))
  · refine Or.inr (Or.inr (Or.inr (Or.inr ⟨by rw [Int.mul_comm]; exact h1, ?_⟩)))
    rw [ge_o_swap p q u, ge_o_swap p q v]
    grind
/-- on the line, and between the heights: on the segment -/
theorem ge_on_y {p q v : GPt} (h0 : ge_o p q v = 0) (hy : p.2 < q.2) (h1 : p.2 ≤ v.2) (h2 : v.2 ≤ q.2) : ge_on p q v := by
  have e : (v.1 - p.1) * (q.2 - p.2) = (v.2 - p.2) * (q.1 - p.1) := by unfold ge_o at h0; grind
  refine ⟨h0, ?_, ?_⟩
  · have hd : 0 < (q.2 - p.2) * (q.2 - p.2) := Int.mul_pos (by omega) (by omega)
    have k1 : (q.2 - p.2) * (q.2 - p.2) * -((v.1 - p.1) * (v.1 - q.1)) = ((q.1 - p.1) * (q.1 - p.1)) * ((v.2 - p.2) * (q.2 - v.2)) := by grind
    have k2 : 0 ≤ ((q.1 - p.1) * (q.1 - p.1)) * ((v.2 - p.2) * (q.2 - v.2)) := Int.mul_nonneg (ge_sq _) (Int.mul_nonneg (by omega) (by omega))
    have := ge_nn hd (by rw [k1]; exact k2)
    omega
  · have := Int.mul_nonneg (show 0 ≤ v.2 - p.2 by omega) (show 0 ≤ q.2 - v.2 by omega)
    grind
theorem ge_on_x {p q v : GPt} (hy : p.2 = q.2) (hv : v.2 = p.2) (h1 : p.1 ≤ v.1) (h2 : v.1 ≤ q.1) : ge_on p q v := by
  refine ⟨by unfold ge_o; grind, ?_, ?_⟩
  · have := Int.mul_nonneg (show 0 ≤ v.1 - p.1 by omega) (show 0 ≤ q.1 - v.1 by omega)
    grind
  · have : v.2 - p.2 = 0 := by omega
    rw [this, Int.zero_mul]
    exact Int.le_refl _
/-- the direction doesn't matter off the segment -/
theorem ge_cr_symm {u v p : GPt} (h : ¬ ge_on u v p) : ge_cr u v p = ge_cr v u p := by
  unfold ge_cr
  rw [ge_o_swap u v p]
  rcases Int.lt_trichotomy u.2 v.2 with hy | hy | hy
  · by_cases h0 : ge_o u v p = 0
    · have : ¬ (u.2 ≤ p.2 ∧ p.2 ≤ v.2) := fun z => h (ge_on_y h0 hy z.1 z.2)
      grind
    · grind
  · grind
  · by_cases h0 : ge_o u v p = 0
    · have : ¬ (v.2 ≤ p.2 ∧ p.2 ≤ u.2) := fun z => h (ge_on_symm (ge_on_y (by rw [ge_o_swap, h0]; rfl) hy z.1 z.2))
      grind
    · grind
/-- right of the way from p up to q, between the heights -/
def ge_F (p q u : GPt) : Bool := decide (p.2 < u.2) && !decide (q.2 < u.2) && decide (ge_o p q u < 0)
/-- both ends between the heights, on the two sides: they meet -/
theorem ge_mv_in {u v p q : GPt} (a1 : p.2 < u.2) (a2 : u.2 ≤ q.2) (b1 : p.2 < v.2) (b2 : v.2 ≤ q.2) (hu : ge_o p q u < 0) (hv : 0 ≤ ge_o p q v) : ge_meet u v p q := by
  have hpq : p.2 < q.2 := by omega
  have e1 := ge_o_y1 u v p q
  have e2 := ge_o_y2 u v p q
  rcases Int.lt_or_eq_of_le hv with hv' | hv'
  · have k1 : 0 < (u.2 - p.2) * ge_o p q v := Int.mul_pos (by omega) hv'
    have k2 : 0 < (v.2 - p.2) * -ge_o p q u := Int.mul_pos (by omega) (by omega)
    have tp : 0 < ge_o u v p := ge_pos (show 0 < q.2 - p.2 by omega) (by grind)
    have k3 : 0 ≤ (q.2 - u.2) * ge_o p q v := Int.mul_nonneg (by omega) (by omega)
    have k4 : 0 ≤ (q.2 - v.2) * -ge_o p q u := Int.mul_nonneg (by omega) (by omega)
    have tq : 0 ≤ -ge_o u v q := ge_nn (show 0 < q.2 - p.2 by omega) (by grind)
    rcases Int.lt_or_eq_of_le tq with tq' | tq'
    · refine Or.inr (Or.inr (Or.inr (Or.inr ⟨?_, ?_⟩)))
      · have := Int.mul_pos tp tq'
        grind
      · have := Int.mul_pos hv' (show 0 < -ge_o p q u by omega)
        grind
    · have tq0 : ge_o u v q = 0 := by omega
      have e3 : (q.2 - u.2) * ge_o p q v + (q.2 - v.2) * -ge_o p q u = 0 := by rw [tq0] at e2; grind
      have z3 : (q.2 - u.2) * ge_o p q v = 0 := ge_sum0 k3 k4 e3
      have z4 : (q.2 - v.2) * -ge_o p q u = 0 := ge_sum0 k4 k3 (by rw [Int.add_comm]; exact e3)
      have uq : u.2 = q.2 := by
        rcases Int.mul_eq_zero.mp z3 with z | z <;> omega
      have vq : v.2 = q.2 := by
        rcases Int.mul_eq_zero.mp z4 with z | z <;> omega
      have su : ge_o p q u = (q.2 - p.2) * (q.1 - u.1) := by unfold ge_o; grind
      have sv : ge_o p q v = (q.2 - p.2) * (q.1 - v.1) := by unfold ge_o; grind
      have x1 : 0 < u.1 - q.1 := ge_pos (show 0 < q.2 - p.2 by omega) (by grind)
      have x2 : 0 < q.1 - v.1 := ge_pos (show 0 < q.2 - p.2 by omega) (by grind)
      exact Or.inr (Or.inl (ge_on_symm (ge_on_x (by omega) (by omega) (by omega) (by omega))))
  · exact Or.inr (Or.inr (Or.inr (Or.inl (ge_on_y hv'.symm hpq (by omega) b2))))
/-- one end below, one between -/
theorem ge_mv_low {u v p q : GPt} (a1 : u.2 ≤ p.2) (b1 : p.2 < v.2) (b2 : v.2 ≤ q.2) (hm : ¬ ge_meet u v p q) : (0 < ge_o u v p) ↔ ge_o p q v < 0 := by
  have hpq : p.2 < q.2 := by omega
  have e2 := ge_o_y2 u v p q
  have e1 := ge_o_y1 u v p q
  have np : ¬ ge_on u v p := fun z => hm (Or.inl z)
  have nv : ¬ ge_on p q v := fun z => hm (Or.inr (Or.inr (Or.inr (Or.inl z))))
  have tp0 : ge_o u v p ≠ 0 := fun z => np (ge_on_y z (by omega) a1 (by omega))
  have sv0 : ge_o p q v ≠ 0 := fun z => nv (ge_on_y z hpq (by omega) b2)
  have hx : ¬ (ge_o u v p * ge_o u v q < 0 ∧ ge_o p q u * ge_o p q v < 0) := fun z => hm (Or.inr (Or.inr (Or.inr (Or.inr z))))
  have sb := ge_o_sub u v p q
  constructor
  · intro tp
    rcases Int.lt_or_lt_of_ne sv0 with h | h
    · exact h
    · exfalso
      have k1 : 0 ≤ (p.2 - u.2) * ge_o p q v := Int.mul_nonneg (by omega) (by omega)
      have k2 : 0 < (q.2 - p.2) * ge_o u v p := Int.mul_pos (by omega) tp
      have su : 0 < -ge_o p q u := ge_pos (show 0 < v.2 - p.2 by omega) (by grind)
      have k3 : 0 < (q.2 - u.2) * ge_o p q v := Int.mul_pos (by omega) h
      have k4 : 0 ≤ (q.2 - v.2) * -ge_o p q u := Int.mul_nonneg (by omega) (by omega)
      have tq : 0 < -ge_o u v q := ge_pos (show 0 < q.2 - p.2 by omega) (by grind)
      have m1 := Int.mul_pos tp tq
      have m2 := Int.mul_pos h su
      exact hx ⟨by grind, by grind⟩
  · intro sv
    rcases Int.lt_or_lt_of_ne tp0 with h | h
    · exfalso
      have k1 : 0 ≤ (p.2 - u.2) * -ge_o p q v := Int.mul_nonneg (by omega) (by omega)
      have k2 : 0 < (q.2 - p.2) * -ge_o u v p := Int.mul_pos (by omega) (by omega)
      have su : 0 < ge_o p q u := ge_pos (show 0 < v.2 - p.2 by omega) (by grind)
      have k3 : 0 < (q.2 - u.2) * -ge_o p q v := Int.mul_pos (by omega) (by omega)
      have k4 : 0 ≤ (q.2 - v.2) * ge_o p q u := Int.mul_nonneg (by omega) (by omega)
      have tq : 0 < ge_o u v q := ge_pos (show 0 < q.2 - p.2 by omega) (by grind)
      have m1 := Int.mul_pos (show 0 < -ge_o u v p by omega) tq
      have m2 := Int.mul_pos (show 0 < -ge_o p q v by omega) su
      exact hx ⟨by grind, by grind⟩
    · exact h
/-- one end between, one above -/
theorem ge_mv_high {u v p q : GPt} (a1 : p.2 < u.2) (a2 : u.2 ≤ q.2) (b2 : q.2 < v.2) (hm : ¬ ge_meet u v p q) : (0 < ge_o u v q) ↔ ge_o p q u < 0 := by
  have hpq : p.2 < q.2 := by omega
  have e2 := ge_o_y2 u v p q
  have e1 := ge_o_y1 u v p q
  have nq : ¬ ge_on u v q := fun z => hm (Or.inr (Or.inl z))
  have nu : ¬ ge_on p q u := fun z => hm (Or.inr (Or.inr (Or.inl z)))
  have tq0 : ge_o u v q ≠ 0 := fun z => nq (ge_on_y z (by omega) a2 (by omega))
  have su0 : ge_o p q u ≠ 0 := fun z => nu (ge_on_y z hpq (by omega) a2)
  have hx : ¬ (ge_o u v p * ge_o u v q < 0 ∧ ge_o p q u * ge_o p q v < 0) := fun z => hm (Or.inr (Or.inr (Or.inr (Or.inr z))))
  constructor
  · intro tq
    rcases Int.lt_or_lt_of_ne su0 with h | h
    · exact h
    · exfalso
      have k1 : 0 < (q.2 - p.2) * ge_o u v q := Int.mul_pos (by omega) tq
      have k2 : 0 < (v.2 - q.2) * ge_o p q u := Int.mul_pos (by omega) h
      have k3 : 0 < (q.2 - p.2) * ge_o u v q + (v.2 - q.2) * ge_o p q u := by omega
      have sv : ge_o p q v < 0 := by
        rcases Int.lt_or_le (ge_o p q v) 0 with z | z
        · exact z
        · have := Int.mul_nonneg (show 0 ≤ q.2 - u.2 by omega) z
          grind
      have k4 : 0 < (u.2 - p.2) * -ge_o p q v := Int.mul_pos (by omega) (by omega)
      have k5 : 0 < (v.2 - p.2) * ge_o p q u := Int.mul_pos (by omega) h
      have tp : 0 < -ge_o u v p := ge_pos (show 0 < q.2 - p.2 by omega) (by grind)
      have m1 := Int.mul_pos tp tq
      have m2 := Int.mul_pos h (show 0 < -ge_o p q v by omega)
      exact hx ⟨by grind, by grind⟩
  · intro su
    rcases Int.lt_or_lt_of_ne tq0 with h | h
    · exfalso
      have k1 : 0 < (q.2 - p.2) * -ge_o u v q := Int.mul_pos (by omega) (by omega)
      have k2 : 0 < (v.2 - q.2) * -ge_o p q u := Int.mul_pos (by omega) (by omega)
      have sv : 0 < ge_o p q v := by
        rcases Int.lt_or_le 0 (ge_o p q v) with z | z
        · exact z
        · have := Int.mul_nonneg (show 0 ≤ q.2 - u.2 by omega) (show 0 ≤ -ge_o p q v by omega)
          grind
      have k4 : 0 < (u.2 - p.2) * ge_o p q v := Int.mul_pos (by omega) sv
      have k5 : 0 < (v.2 - p.2) * -ge_o p q u := Int.mul_pos (by omega) (by omega)
      have tp : 0 < ge_o u v p := ge_pos (show 0 < q.2 - p.2 by omega) (by grind)
      have m1 := Int.mul_pos tp (show 0 < -ge_o u v q by omega)
      have m2 := Int.mul_pos sv (show 0 < -ge_o p q u by omega)
      exact hx ⟨by grind, by grind⟩
    · exact h
theorem ge_mv_b1 {u v p q : GPt} (a1 : u.2 ≤ p.2) (a2 : p.2 ≤ q.2) (b2 : q.2 < v.2) (tp : 0 < ge_o u v p) (tq : ge_o u v q < 0) : ge_meet u v p q := by
  have e1 := ge_o_y1 p q u v
  have e2 := ge_o_y2 p q u v
  have k1 : 0 ≤ (p.2 - u.2) * -ge_o u v q := Int.mul_nonneg (by omega) (by omega)
  have k2 : 0 ≤ (q.2 - u.2) * ge_o u v p := Int.mul_nonneg (by omega) (by omega)
  have k3 : 0 < (v.2 - p.2) * -ge_o u v q := Int.mul_pos (by omega) (by omega)
  have k4 : 0 < (v.2 - q.2) * ge_o u v p := Int.mul_pos (by omega) tp
  have sv : 0 < ge_o p q v := ge_pos (show 0 < v.2 - u.2 by omega) (by grind)
  have su : 0 ≤ -ge_o p q u := ge_nn (show 0 < v.2 - u.2 by omega) (by grind)
  rcases Int.lt_or_eq_of_le su with su' | su'
  · have m1 := Int.mul_pos tp (show 0 < -ge_o u v q by omega)
    have m2 := Int.mul_pos sv su'
    exact Or.inr (Or.inr (Or.inr (Or.inr ⟨by grind, by grind⟩)))
  · have su0 : ge_o p q u = 0 := by omega
    have e3 : (p.2 - u.2) * -ge_o u v q + (q.2 - u.2) * ge_o u v p = 0 := by rw [su0] at e1; grind
    have z1 := ge_sum0 k1 k2 e3
    have z2 := ge_sum0 k2 k1 (by rw [Int.add_comm]; exact e3)
    have y1 : p.2 = u.2 := by rcases Int.mul_eq_zero.mp z1 with z | z <;> omega
    have y2 : q.2 = u.2 := by rcases Int.mul_eq_zero.mp z2 with z | z <;> omega
    have f1 : ge_o u v p = (v.2 - u.2) * (u.1 - p.1) := by unfold ge_o; grind
    have f2 : ge_o u v q = (v.2 - u.2) * (u.1 - q.1) := by unfold ge_o; grind
    have x1 : 0 < u.1 - p.1 := ge_pos (show 0 < v.2 - u.2 by omega) (by omega)
    have x2 : 0 < q.1 - u.1 := ge_pos (show 0 < v.2 - u.2 by omega) (by grind)
    exact Or.inr (Or.inr (Or.inl (ge_on_x (by omega) (by omega) (by omega) (by omega))))
theorem ge_mv_both {u v p q : GPt} (a1 : u.2 ≤ p.2) (a2 : p.2 ≤ q.2) (b2 : q.2 < v.2) (hm : ¬ ge_meet u v p q) : (0 < ge_o u v p) ↔ (0 < ge_o u v q) := by
  have tp0 : ge_o u v p ≠ 0 := fun z => hm (Or.inl (ge_on_y z (by omega) a1 (by omega)))
  have tq0 : ge_o u v q ≠ 0 := fun z => hm (Or.inr (Or.inl (ge_on_y z (by omega) (by omega) (by omega))))
  constructor
  · intro tp
    rcases Int.lt_or_lt_of_ne tq0 with h | h
    · exact absurd (ge_mv_b1 a1 a2 b2 tp h) hm
    · exact h
  · intro tq
    rcases Int.lt_or_lt_of_ne tp0 with h | h
    · exfalso
      -- the mirrored case
      have e1 := ge_o_y1 p q u v
      have e2 := ge_o_y2 p q u v
      have k1 : 0 ≤ (p.2 - u.2) * ge_o u v q := Int.mul_nonneg (by omega) (by omega)
      have k2 : 0 ≤ (q.2 - u.2) * -ge_o u v p := Int.mul_nonneg (by omega) (by omega)
      have k3 : 0 < (v.2 - p.2) * ge_o u v q := Int.mul_pos (by omega) tq
      have k4 : 0 < (v.2 - q.2) * -ge_o u v p := Int.mul_pos (by omega) (by omega)
      have sv : 0 < -ge_o p q v := ge_pos (show 0 < v.2 - u.2 by omega) (by grind)
      have su : 0 ≤ ge_o p q u := ge_nn (show 0 < v.2 - u.2 by omega) (by grind)
      rcases Int.lt_or_eq_of_le su with su' | su'
      · have m1 := Int.mul_pos tq (show 0 < -ge_o u v p by omega)
        have m2 := Int.mul_pos sv su'
        exact hm (Or.inr (Or.inr (Or.inr (Or.inr ⟨by grind, by grind⟩))))
      · have su0 : ge_o p q u = 0 := by omega
        have e3 : (p.2 - u.2) * ge_o u v q + (q.2 - u.2) * -ge_o u v p = 0 := by rw [su0] at e1; grind
        have z1 := ge_sum0 k1 k2 e3
        have z2 := ge_sum0 k2 k1 (by rw [Int.add_comm]; exact e3)
        have y1 : p.2 = u.2 := by rcases Int.mul_eq_zero.mp z1 with z | z <;> omega
        have y2 : q.2 = u.2 := by rcases Int.mul_eq_zero.mp z2 with z | z <;> omega
        have f1 : ge_o u v p = (v.2 - u.2) * (u.1 - p.1) := by unfold ge_o; grind
        have f2 : ge_o u v q = (v.2 - u.2) * (u.1 - q.1) := by unfold ge_o; grind
        have x1 : 0 < p.1 - u.1 := ge_pos (show 0 < v.2 - u.2 by omega) (by grind)
        have x2 : 0 < u.1 - q.1 := ge_pos (show 0 < v.2 - u.2 by omega) (by omega)
        exact hm (Or.inr (Or.inr (Or.inl (ge_on_symm (ge_on_x (by omega) (by omega) (by omega) (by omega))))))
    · exact h
theorem ge_cr_mv1 {u v p q : GPt} (hpq : p.2 ≤ q.2) (huv : u.2 ≤ v.2) (hm : ¬ ge_meet u v p q) : (ge_cr u v p != ge_cr u v q) = (ge_F p q u != ge_F p q v) := by
  unfold ge_cr ge_F
  rcases Int.lt_or_le p.2 u.2 with h1 | h1
  · rcases Int.lt_or_le q.2 u.2 with h2 | h2
    · grind
    · rcases Int.lt_or_le q.2 v.2 with h3 | h3
      · have := ge_mv_high h1 h2 h3 hm
        grind
      · have i1 : ge_o p q u < 0 → ge_o p q v < 0 := fun a => by
          rcases Int.lt_or_le (ge_o p q v) 0 with z | z
          · exact z
          · exact absurd (ge_mv_in h1 h2 (by omega) h3 a z) hm
        have i2 : ge_o p q v < 0 → ge_o p q u < 0 := fun a => by
          rcases Int.lt_or_le (ge_o p q u) 0 with z | z
          · exact z
          · exact absurd (ge_meet_symm (ge_meet_swap (ge_meet_symm (ge_mv_in (by omega) h3 h1 h2 a z)))) hm
        grind
  · rcases Int.lt_or_le p.2 v.2 with h3 | h3
    · rcases Int.lt_or_le q.2 v.2 with h4 | h4
      · have := ge_mv_both h1 hpq h4 hm
        grind
      · have := ge_mv_low h1 h3 h4 hm
        grind
    · grind
theorem ge_meet_flip {u v p q : GPt} (h : ge_meet v u p q) : ge_meet u v p q := ge_meet_symm (ge_meet_swap (ge_meet_symm h))
/-- what an edge that the way from p to q doesn't meet adds to the two counts -/
theorem ge_cr_mv {u v p q : GPt} (hpq : p.2 ≤ q.2) (hm : ¬ ge_meet u v p q) : (ge_cr u v p != ge_cr u v q) = (ge_F p q u != ge_F p q v) := by
  rcases Int.le_total u.2 v.2 with h | h
  · exact ge_cr_mv1 hpq h hm
  · rw [ge_cr_symm (fun z => hm (Or.inl z)), ge_cr_symm (u := u) (v := v) (p := q) (fun z => hm (Or.inr (Or.inl z)))]
    rw [ge_cr_mv1 hpq h (fun z => hm (ge_meet_flip z))]
    cases ge_F p q u <;> cases ge_F p q v <;> rfl
-- g2.poly
/-! closed polygons as lists of vertices: edges, the even-odd count, and that it is constant along a way that meets no edge -/
/-- the crossing count of an edge, without direction -/
def ge_cs (u v p : GPt) : Bool := if u.2 ≤ v.2 then ge_cr u v p else ge_cr v u p
theorem ge_cr_flat {u v p : GPt} (h : u.2 = v.2) : ge_cr u v p = false := by unfold ge_cr; rw [h]; simp
theorem ge_cs_comm (u v p : GPt) : ge_cs u v p = ge_cs v u p := by
  unfold ge_cs
  rcases Int.lt_trichotomy u.2 v.2 with h | h | h
  · rw [if_pos (by omega), if_neg (by omega)]
  · rw [if_pos (by omega), if_pos (by omega), ge_cr_flat h, ge_cr_flat h.symm]
  · rw [if_neg (by omega), if_pos (by omega)]
theorem ge_cs_cr {u v p : GPt} (h : ¬ ge_on u v p) : ge_cs u v p = ge_cr u v p := by
  unfold ge_cs
  split
  · rfl
  · exact (ge_cr_symm h).symm
theorem ge_cs_mv {u v p q : GPt} (hpq : p.2 ≤ q.2) (hm : ¬ ge_meet u v p q) : (ge_cs u v p != ge_cs u v q) = (ge_F p q u != ge_F p q v) := by
  rw [ge_cs_cr (fun z => hm (Or.inl z)), ge_cs_cr (fun z => hm (Or.inr (Or.inl z)))]
  exact ge_cr_mv hpq hm
/-- a path's edges -/
def ge_ed : List GPt → List (GPt × GPt)
  | [] => []
  | [_] => []
  | a :: b :: r => (a, b) :: ge_ed (b :: r)
/-- a path's count -/
def ge_pp : List GPt → GPt → Bool
  | [], _ => false
  | [_], _ => false
  | a :: b :: r, p => ge_cs a b p != ge_pp (b :: r) p
def ge_cy : List GPt → List GPt
  | [] => []
  | a :: r => a :: r ++ [a]
/-- a closed polygon's edges, and its count -/
def ge_E (l : List GPt) : List (GPt × GPt) := ge_ed (ge_cy l)
def ge_par (l : List GPt) (p : GPt) : Bool := ge_pp (ge_cy l) p
theorem ge_ed_app (xs : List GPt) (m : GPt) (ys : List GPt) : ge_ed (xs ++ m :: ys) = ge_ed (xs ++ [m]) ++ ge_ed (m :: ys) := by
  induction xs with
  | nil => rfl
  | cons a r ih =>
    cases r with
    | nil => rfl
    | cons b r => show (a, b) :: ge_ed (b :: r ++ m :: ys) = (a, b) :: ge_ed (b :: r ++ [m]) ++ ge_ed (m :: ys); rw [ih]; rfl
theorem ge_pp_app (xs : List GPt) (m : GPt) (ys : List GPt) (p : GPt) : ge_pp (xs ++ m :: ys) p = (ge_pp (xs ++ [m]) p != ge_pp (m :: ys) p) := by
  induction xs with
  | nil => show ge_pp (m :: ys) p = (false != ge_pp (m :: ys) p); cases ge_pp (m :: ys) p <;> rfl
  | cons a r ih =>
    cases r with
    | nil => show (ge_cs a m p != ge_pp (m :: ys) p) = ((ge_cs a m p != false) != ge_pp (m :: ys) p); cases ge_cs a m p <;> cases ge_pp (m :: ys) p <;> rfl
    | cons b r =>
      show (ge_cs a b p != ge_pp (b :: r ++ m :: ys) p) = ((ge_cs a b p != ge_pp (b :: r ++ [m]) p) != ge_pp (m :: ys) p)
      rw [ih]
      cases ge_cs a b p <;> cases ge_pp (b :: r ++ [m]) p <;> cases ge_pp (m :: ys) p <;> rfl
theorem ge_pp_mv {p q : GPt} (hpq : p.2 ≤ q.2) : ∀ (r : List GPt) (a : GPt), (∀ e ∈ ge_ed (a :: r), ¬ ge_meet e.1 e.2 p q) → (ge_pp (a :: r) p != ge_pp (a :: r) q) = (ge_F p q a != ge_F p q ((a :: r).getLast (List.cons_ne_nil _ _))) := by
  intro r
  induction r with
  | nil => intro a _; show (false != false) = (ge_F p q a != ge_F p q a); cases ge_F p q a <;> rfl
  | cons b r ih =>
    intro a h
    have h1 := ge_cs_mv hpq (h (a, b) List.mem_cons_self)
    have h2 := ih b (fun e he => h e (List.mem_cons_of_mem _ he))
    show ((ge_cs a b p != ge_pp (b :: r) p) != (ge_cs a b q != ge_pp (b :: r) q)) = (ge_F p q a != ge_F p q ((b :: r).getLast (List.cons_ne_nil _ _)))
    revert h1 h2
    generalize ge_F p q ((b :: r).getLast (List.cons_ne_nil _ _)) = z
    generalize ge_pp (b :: r) p = x1
    generalize ge_pp (b :: r) q = x2
    dsimp only
    cases ge_cs a b p <;> cases ge_cs a b q <;> cases ge_F p q a <;> cases ge_F p q b <;> cases x1 <;> cases x2 <;> cases z <;> simp
theorem ge_par_mv1 {l : List GPt} {p q : GPt} (hpq : p.2 ≤ q.2) (h : ∀ e ∈ ge_E l, ¬ ge_meet e.1 e.2 p q) : ge_par l p = ge_par l q := by
  cases l with
  | nil => rfl
  | cons a r =>
    have h1 := ge_pp_mv hpq (r ++ [a]) a h
    have h2 : (a :: (r ++ [a])).getLast (List.cons_ne_nil _ _) = a := by first | exact List.getLast_concat | exact List.getLast_append_singleton _ | grind | (rw [List.getLast_cons (by simp)]; simp)
    rw [h2] at h1
    show ge_pp (a :: (r ++ [a])) p = ge_pp (a :: (r ++ [a])) q
    revert h1
    cases ge_pp (a :: (r ++ [a])) p <;> cases ge_pp (a :: (r ++ [a])) q <;> cases ge_F p q a <;> simp
/-- the count is constant along a way that meets no edge -/
theorem ge_par_mv {l : List GPt} {p q : GPt} (h : ∀ e ∈ ge_E l, ¬ ge_meet e.1 e.2 p q) : ge_par l p = ge_par l q := by
  rcases Int.le_total p.2 q.2 with z | z
  · exact ge_par_mv1 z h
  · exact (ge_par_mv1 z (fun e he hm => h e he (ge_meet_swap hm))).symm
/-- turning the list round its cycle -/
theorem ge_E_rot (s t : List GPt) (e : GPt × GPt) : e ∈ ge_E (s ++ t) ↔ e ∈ ge_E (t ++ s) := by
  cases s with
  | nil => simp
  | cons a s =>
    cases t with
    | nil => simp
    | cons b t =>
      have h1 : ge_E (a :: s ++ b :: t) = ge_ed (a :: s ++ [b]) ++ ge_ed (b :: t ++ [a]) := by
        show ge_ed (a :: (s ++ b :: t) ++ [a]) = _
        rw [show a :: (s ++ b :: t) ++ [a] = (a :: s) ++ b :: (t ++ [a]) by simp, ge_ed_app]
        rfl
      have h2 : ge_E (b :: t ++ a :: s) = ge_ed (b :: t ++ [a]) ++ ge_ed (a :: s ++ [b]) := by
        show ge_ed (b :: (t ++ a :: s) ++ [b]) = _
        rw [show b :: (t ++ a :: s) ++ [b] = (b :: t) ++ a :: (s ++ [b]) by simp, ge_ed_app]
        rfl
      rw [h1, h2, List.mem_append, List.mem_append]
      exact Or.comm
theorem ge_par_rot (s t : List GPt) (p : GPt) : ge_par (s ++ t) p = ge_par (t ++ s) p := by
  cases s with
  | nil => simp
  | cons a s =>
    cases t with
    | nil => simp
    | cons b t =>
      have h1 : ge_par (a :: s ++ b :: t) p = (ge_pp (a :: s ++ [b]) p != ge_pp (b :: t ++ [a]) p) := by
        show ge_pp (a :: (s ++ b :: t) ++ [a]) p = _
        rw [show a :: (s ++ b :: t) ++ [a] = (a :: s) ++ b :: (t ++ [a]) by simp, ge_pp_app]
        rfl
      have h2 : ge_par (b :: t ++ a :: s) p = (ge_pp (b :: t ++ [a]) p != ge_pp (a :: s ++ [b]) p) := by
        show ge_pp (b :: (t ++ a :: s) ++ [b]) p = _
        rw [show b :: (t ++ a :: s) ++ [b] = (b :: t) ++ a :: (s ++ [b]) by simp, ge_pp_app]
        rfl
      rw [h1, h2]
      cases ge_pp (a :: s ++ [b]) p <;> cases ge_pp (b :: t ++ [a]) p <;> rfl
-- g3.tri
/-! triangles: weights, the count of a triangle, and that an edge that meets neither of two sides doesn't enter from the third -/
theorem ge_b0 (a b c p : GPt) : ge_o a b p + ge_o b c p + ge_o c a p = ge_o a b c := by unfold ge_o; grind
/-- a point's three sides weigh the corners -/
theorem ge_b1 (a b c p x y : GPt) : ge_o b c p * ge_o x y a + ge_o c a p * ge_o x y b + ge_o a b p * ge_o x y c = ge_o a b c * ge_o x y p := by unfold ge_o; grind
theorem ge_by (a b c p : GPt) : ge_o b c p * (a.2 - p.2) + ge_o c a p * (b.2 - p.2) + ge_o a b p * (c.2 - p.2) = 0 := by unfold ge_o; grind
theorem ge_bx (a b c p : GPt) : ge_o b c p * (a.1 - p.1) + ge_o c a p * (b.1 - p.1) + ge_o a b p * (c.1 - p.1) = 0 := by unfold ge_o; grind
/-- closed, and open, triangle to the left of a, b, c -/
def ge_in (a b c p : GPt) : Prop := 0 ≤ ge_o a b p ∧ 0 ≤ ge_o b c p ∧ 0 ≤ ge_o c a p
def ge_int (a b c p : GPt) : Prop := 0 < ge_o a b p ∧ 0 < ge_o b c p ∧ 0 < ge_o c a p
theorem ge_in_cyc {a b c p : GPt} (h : ge_in a b c p) : ge_in b c a p := ⟨h.2.1, h.2.2, h.1⟩
theorem ge_int_cyc {a b c p : GPt} (h : ge_int a b c p) : ge_int b c a p := ⟨h.2.1, h.2.2, h.1⟩
theorem ge_int_in {a b c p : GPt} (h : ge_int a b c p) : ge_in a b c p := ⟨by have := h.1; omega, by have := h.2.1; omega, by have := h.2.2; omega⟩
/-- on a side's line and in the triangle: on the side -/
theorem ge_in_on {a b c p : GPt} (hF : 0 < ge_o a b c) (h : ge_in a b c p) (h0 : ge_o a b p = 0) : ge_on a b p := by
  obtain ⟨h1, h2, h3⟩ := h
  have b0 := ge_b0 a b c p
  have bx := ge_bx a b c p
  have by' := ge_by a b c p
  rw [h0] at bx by' b0
  have hs : ge_o b c p + ge_o c a p = ge_o a b c := by omega
  have ex : ge_o a b c * (p.1 - a.1) = ge_o c a p * (b.1 - a.1) := by rw [← hs]; grind
  have ex2 : ge_o a b c * (p.1 - b.1) = ge_o b c p * (a.1 - b.1) := by rw [← hs]; grind
  have ey : ge_o a b c * (p.2 - a.2) = ge_o c a p * (b.2 - a.2) := by rw [← hs]; grind
  have ey2 : ge_o a b c * (p.2 - b.2) = ge_o b c p * (a.2 - b.2) := by rw [← hs]; grind
  have hFF : 0 < ge_o a b c * ge_o a b c := Int.mul_pos hF hF
  have kk : 0 ≤ ge_o c a p * ge_o b c p := Int.mul_nonneg h3 h2
  refine ⟨h0, ?_, ?_⟩
  · have q1 : 0 ≤ ge_o c a p * ge_o b c p * ((b.1 - a.1) * (b.1 - a.1)) := Int.mul_nonneg kk (ge_sq _)
    have q2 : ge_o a b c * ge_o a b c * -((p.1 - a.1) * (p.1 - b.1)) = ge_o c a p * ge_o b c p * ((b.1 - a.1) * (b.1 - a.1)) := by
      have : ge_o a b c * ge_o a b c * -((p.1 - a.1) * (p.1 - b.1)) = -((ge_o a b c * (p.1 - a.1)) * (ge_o a b c * (p.1 - b.1))) := by grind
      rw [this, ex, ex2]; grind
    have := ge_nn hFF (by rw [q2]; exact q1)
    omega
  · have q1 : 0 ≤ ge_o c a p * ge_o b c p * ((b.2 - a.2) * (b.2 - a.2)) := Int.mul_nonneg kk (ge_sq _)
    have q2 : ge_o a b c * ge_o a b c * -((p.2 - a.2) * (p.2 - b.2)) = ge_o c a p * ge_o b c p * ((b.2 - a.2) * (b.2 - a.2)) := by
      have : ge_o a b c * ge_o a b c * -((p.2 - a.2) * (p.2 - b.2)) = -((ge_o a b c * (p.2 - a.2)) * (ge_o a b c * (p.2 - b.2))) := by grind
      rw [this, ey, ey2]; grind
    have := ge_nn hFF (by rw [q2]; exact q1)
    omega
/-- one corner above, two not: the count of a triangle -/
theorem ge_tri1 {a b c p : GPt} (hF : 0 < ge_o a b c) (ha : a.2 ≤ p.2) (hb : b.2 ≤ p.2) (hc : p.2 < c.2) (n1 : ¬ ge_on a b p) : (0 < ge_o b c p ∧ 0 < ge_o c a p) ↔ ge_int a b c p := by
  have by' := ge_by a b c p
  have b0 := ge_b0 a b c p
  constructor
  · rintro ⟨h1, h2⟩
    refine ⟨?_, h1, h2⟩
    have k1 : 0 ≤ ge_o b c p * (p.2 - a.2) := Int.mul_nonneg (by omega) (by omega)
    have k2 : 0 ≤ ge_o c a p * (p.2 - b.2) := Int.mul_nonneg (by omega) (by omega)
    have k3 : 0 ≤ ge_o a b p := ge_nn (show 0 < c.2 - p.2 by omega) (by grind)
    rcases Int.lt_or_eq_of_le k3 with z | z
    · exact z
    · exact absurd (ge_in_on hF ⟨k3, by omega, by omega⟩ z.symm) n1
  · rintro ⟨_, h2, h3⟩
    exact ⟨h2, h3⟩
theorem ge_cs_up {u v p : GPt} (h1 : u.2 ≤ p.2) (h2 : p.2 < v.2) : ge_cs u v p = decide (0 < ge_o u v p) := by
  unfold ge_cs ge_cr
  rw [if_pos (by omega)]
  grind
theorem ge_cs_lo {u v p : GPt} (h1 : u.2 ≤ p.2) (h2 : v.2 ≤ p.2) : ge_cs u v p = false := by
  unfold ge_cs ge_cr
  split <;> grind
theorem ge_cs_hi {u v p : GPt} (h1 : p.2 < u.2) (h2 : p.2 < v.2) : ge_cs u v p = false := by
  unfold ge_cs ge_cr
  split <;> grind
def ge_tp (a b c p : GPt) : Bool := (ge_cs a b p != ge_cs b c p) != ge_cs c a p
theorem ge_tp_cyc (a b c p : GPt) : ge_tp b c a p = ge_tp a b c p := by unfold ge_tp; cases ge_cs a b p <;> cases ge_cs b c p <;> cases ge_cs c a p <;> rfl
theorem ge_tri_1 {a b c p : GPt} (hF : 0 < ge_o a b c) (ha : a.2 ≤ p.2) (hb : b.2 ≤ p.2) (hc : p.2 < c.2) (n1 : ¬ ge_on a b p) (n2 : ¬ ge_on b c p) (n3 : ¬ ge_on c a p) : ge_tp a b c p = true ↔ ge_int a b c p := by
  rw [← ge_tri1 hF ha hb hc n1]
  unfold ge_tp
  rw [ge_cs_lo ha hb, ge_cs_up hb hc, ge_cs_comm c a, ge_cs_up ha hc, ge_o_swap c a p]
  have by' := ge_by a b c p
  have b0 := ge_b0 a b c p
  have z3 : ge_o c a p ≠ 0 := fun z => n3 (ge_on_symm (ge_on_y (by rw [ge_o_swap, z]; rfl) (by omega) ha (by omega)))
  have z2 : ge_o b c p ≠ 0 := fun z => n2 (ge_on_y z (by omega) hb (by omega))
  have imp : ¬ (ge_o b c p < 0 ∧ ge_o c a p < 0) := fun z => by
    have k1 : 0 ≤ -ge_o b c p * (p.2 - a.2) := Int.mul_nonneg (by omega) (by omega)
    have k2 : 0 ≤ -ge_o c a p * (p.2 - b.2) := Int.mul_nonneg (by omega) (by omega)
    have k3 : 0 ≤ -ge_o a b p := ge_nn (show 0 < c.2 - p.2 by omega) (by grind)
    omega
  grind
theorem ge_tri_2 {a b c p : GPt} (hF : 0 < ge_o a b c) (ha : p.2 < a.2) (hb : p.2 < b.2) (hc : c.2 ≤ p.2) (n1 : ¬ ge_on a b p) (n2 : ¬ ge_on b c p) (n3 : ¬ ge_on c a p) : ge_tp a b c p = true ↔ ge_int a b c p := by
  unfold ge_tp ge_int
  rw [ge_cs_hi ha hb, ge_cs_comm b c, ge_cs_up hc hb, ge_cs_up hc ha, ge_o_swap b c p]
  have by' := ge_by a b c p
  have b0 := ge_b0 a b c p
  have z2 : ge_o b c p ≠ 0 := fun z => n2 (ge_on_symm (ge_on_y (by rw [ge_o_swap, z]; rfl) (by omega) hc (by omega)))
  have z3 : ge_o c a p ≠ 0 := fun z => n3 (ge_on_y z (by omega) hc (by omega))
  have pos : 0 < ge_o b c p → 0 < ge_o c a p → 0 < ge_o a b p := fun h1 h2 => by
    have k1 : 0 < ge_o b c p * (a.2 - p.2) := Int.mul_pos h1 (by omega)
    have k2 : 0 < ge_o c a p * (b.2 - p.2) := Int.mul_pos h2 (by omega)
    rcases Int.lt_or_le 0 (ge_o a b p) with z | z
    · exact z
    · have := Int.mul_nonneg (show 0 ≤ -ge_o a b p by omega) (show 0 ≤ p.2 - c.2 by omega)
      grind
  have imp : ¬ (ge_o b c p < 0 ∧ ge_o c a p < 0) := fun z => by
    have k1 : 0 < -ge_o b c p * (a.2 - p.2) := Int.mul_pos (by omega) (by omega)
    have k2 : 0 < -ge_o c a p * (b.2 - p.2) := Int.mul_pos (by omega) (by omega)
    rcases Int.lt_or_le (ge_o a b p) 0 with q | q
    · omega
    · have := Int.mul_nonneg q (show 0 ≤ p.2 - c.2 by omega)
      grind
  grind
/-- the count of a triangle, off its sides -/
theorem ge_tri {a b c p : GPt} (hF : 0 < ge_o a b c) (n1 : ¬ ge_on a b p) (n2 : ¬ ge_on b c p) (n3 : ¬ ge_on c a p) : ge_tp a b c p = true ↔ ge_int a b c p := by
  have cy1 : ge_int b c a p ↔ ge_int a b c p := ⟨fun h => ge_int_cyc (ge_int_cyc h), ge_int_cyc⟩
  have cy2 : ge_int c a b p ↔ ge_int a b c p := ⟨ge_int_cyc, fun h => ge_int_cyc (ge_int_cyc h)⟩
  have hF1 : 0 < ge_o b c a := by rw [ge_o_cyc]; exact hF
  have hF2 : 0 < ge_o c a b := by rw [ge_o_cyc]; exact hF1
  have tpc : ge_tp c a b p = ge_tp a b c p := (ge_tp_cyc b c a p).trans (ge_tp_cyc a b c p)
  have by' := ge_by a b c p
  rcases Int.lt_or_le p.2 a.2 with ha | ha <;> rcases Int.lt_or_le p.2 b.2 with hb | hb <;> rcases Int.lt_or_le p.2 c.2 with hc | hc
  · unfold ge_tp ge_int
    rw [ge_cs_hi ha hb, ge_cs_hi hb hc, ge_cs_hi hc ha]
    constructor
    · intro h; cases h
    · rintro ⟨h1, h2, h3⟩
      have k1 : 0 < ge_o b c p * (a.2 - p.2) := Int.mul_pos h2 (by omega)
      have k2 : 0 < ge_o c a p * (b.2 - p.2) := Int.mul_pos h3 (by omega)
      have k3 : 0 < ge_o a b p * (c.2 - p.2) := Int.mul_pos h1 (by omega)
      omega
  · exact ge_tri_2 hF ha hb hc n1 n2 n3
  · rw [← tpc, ← cy2]
    exact ge_tri_2 hF2 hc ha hb n3 n1 n2
  · rw [← cy1, ← ge_tp_cyc a b c p]
    exact ge_tri_1 hF1 hb hc ha n2 n3 n1
  · rw [← cy1, ← ge_tp_cyc a b c p]
    exact ge_tri_2 hF1 hb hc ha n2 n3 n1
  · rw [← tpc, ← cy2]
    exact ge_tri_1 hF2 hc ha hb n3 n1 n2
  · exact ge_tri_1 hF ha hb hc n1 n2 n3
  · unfold ge_tp ge_int
    rw [ge_cs_lo ha hb, ge_cs_lo hb hc, ge_cs_lo hc ha]
    constructor
    · intro h; cases h
    · rintro ⟨h1, h2, h3⟩
      exfalso
      have k1 : 0 ≤ ge_o b c p * (p.2 - a.2) := Int.mul_nonneg (by omega) (by omega)
      have k2 : 0 ≤ ge_o c a p * (p.2 - b.2) := Int.mul_nonneg (by omega) (by omega)
      have k3 : 0 ≤ ge_o a b p * (p.2 - c.2) := Int.mul_nonneg (by omega) (by omega)
      have es : ge_o b c p * (p.2 - a.2) + ge_o c a p * (p.2 - b.2) + ge_o a b p * (p.2 - c.2) = 0 := by
        have q : ge_o b c p * (p.2 - a.2) + ge_o c a p * (p.2 - b.2) + ge_o a b p * (p.2 - c.2) = -(ge_o b c p * (a.2 - p.2) + ge_o c a p * (b.2 - p.2) + ge_o a b p * (c.2 - p.2)) := by clear by' k1 k2 k3; grind
        rw [q, by']; rfl
      have e1 : ge_o b c p * (p.2 - a.2) = 0 := by omega
      have e2 : ge_o c a p * (p.2 - b.2) = 0 := by omega
      have e3 : ge_o a b p * (p.2 - c.2) = 0 := by omega
      have y1 : p.2 - a.2 = 0 := by rcases Int.mul_eq_zero.mp e1 with z | z <;> omega
      have y2 : p.2 - b.2 = 0 := by rcases Int.mul_eq_zero.mp e2 with z | z <;> omega
      have y3 : p.2 - c.2 = 0 := by rcases Int.mul_eq_zero.mp e3 with z | z <;> omega
      have : ge_o a b c = 0 := by unfold ge_o; grind
      omega
-- g4.free
/-! points of a segment by weights; an edge that doesn't cross two sides of a triangle stays out of it, but for the third side -/
def ge_x (u v p q : GPt) : Prop := ge_o u v p * ge_o u v q < 0 ∧ ge_o p q u * ge_o p q v < 0
def ge_wt (x y r : GPt) (i j : Int) : Prop := 0 ≤ i ∧ 0 ≤ j ∧ 0 < i + j ∧ (i + j) * r.1 = i * x.1 + j * y.1 ∧ (i + j) * r.2 = i * x.2 + j * y.2
theorem ge_wt_o {x y r : GPt} {i j : Int} (h : ge_wt x y r i j) (u v : GPt) : (i + j) * ge_o u v r = i * ge_o u v x + j * ge_o u v y := by
  obtain ⟨-, -, -, h1, h2⟩ := h
  unfold ge_o
  grind
theorem ge_wt_swap {x y r : GPt} {i j : Int} (h : ge_wt x y r i j) : ge_wt y x r j i := by
  obtain ⟨h1, h2, h3, h4, h5⟩ := h
  exact ⟨h2, h1, by omega, by rw [Int.add_comm j i, h4]; omega, by rw [Int.add_comm j i, h5]; omega⟩
theorem ge_mul_le {k a b : Int} (hk : 0 < k) (h : k * a ≤ k * b) : a ≤ b := by
  have := ge_nn (t := b - a) hk (by grind)
  omega
theorem ge_wt_on {x y r : GPt} {i j : Int} (h : ge_wt x y r i j) : ge_on x y r := by
  have ho := ge_wt_o h x y
  obtain ⟨hi, hj, hs, h1, h2⟩ := h
  have z1 : ge_o x y x = 0 := by unfold ge_o; grind
  have z2 : ge_o x y y = 0 := by unfold ge_o; grind
  rw [z1, z2] at ho
  have hss : 0 < (i + j) * (i + j) := Int.mul_pos hs hs
  have hij := Int.mul_nonneg hi hj
  refine ⟨ge_zero hs (by omega), ?_, ?_⟩
  · have e1 : (i + j) * (r.1 - x.1) = j * (y.1 - x.1) := by grind
    have e2 : (i + j) * (r.1 - y.1) = i * (x.1 - y.1) := by grind
    have q1 : 0 ≤ i * j * ((y.1 - x.1) * (y.1 - x.1)) := Int.mul_nonneg hij (ge_sq _)
    have q2 : (i + j) * (i + j) * -((r.1 - x.1) * (r.1 - y.1)) = i * j * ((y.1 - x.1) * (y.1 - x.1)) := by
      have : (i + j) * (i + j) * -((r.1 - x.1) * (r.1 - y.1)) = -(((i + j) * (r.1 - x.1)) * ((i + j) * (r.1 - y.1))) := by grind
      rw [this, e1, e2]; grind
    have := ge_nn hss (by rw [q2]; exact q1)
    omega
  · have e1 : (i + j) * (r.2 - x.2) = j * (y.2 - x.2) := by grind
    have e2 : (i + j) * (r.2 - y.2) = i * (x.2 - y.2) := by grind
    have q1 : 0 ≤ i * j * ((y.2 - x.2) * (y.2 - x.2)) := Int.mul_nonneg hij (ge_sq _)
    have q2 : (i + j) * (i + j) * -((r.2 - x.2) * (r.2 - y.2)) = i * j * ((y.2 - x.2) * (y.2 - x.2)) := by
      have : (i + j) * (i + j) * -((r.2 - x.2) * (r.2 - y.2)) = -(((i + j) * (r.2 - x.2)) * ((i + j) * (r.2 - y.2))) := by grind
      rw [this, e1, e2]; grind
    have := ge_nn hss (by rw [q2]; exact q1)
    omega
theorem ge_btw {a b r : Int} (h : (r - a) * (r - b) ≤ 0) : (a ≤ r ∧ r ≤ b) ∨ (b ≤ r ∧ r ≤ a) := by
  rcases Int.lt_or_le r a with z | z
  · rcases Int.lt_or_le r b with w | w
    · have := Int.mul_pos (show 0 < a - r by omega) (show 0 < b - r by omega)
      exfalso
      grind
    · exact Or.inr ⟨w, by omega⟩
  · rcases Int.lt_or_le b r with w | w
    · rcases Int.lt_or_eq_of_le z with z' | z'
      · have := Int.mul_pos (show 0 < r - a by omega) (show 0 < r - b by omega)
        omega
      · exact Or.inr ⟨by omega, by omega⟩
    · exact Or.inl ⟨z, w⟩
theorem ge_on_wt {x y r : GPt} (hxy : x ≠ y) (h : ge_on x y r) : ∃ i j : Int, ge_wt x y r i j := by
  obtain ⟨h0, h1, h2⟩ := h
  unfold ge_o at h0
  have b1 := ge_btw h1
  have b2 := ge_btw h2
  by_cases hx : x.1 = y.1
  · have hy : x.2 ≠ y.2 := fun z => hxy (Prod.ext hx z)
    have hr : r.1 = x.1 := by omega
    rcases b2 with ⟨u, v⟩ | ⟨u, v⟩
    · exact ⟨y.2 - r.2, r.2 - x.2, by omega, by omega, by omega, by rw [hr, ← hx]; grind, by grind⟩
    · exact ⟨r.2 - y.2, x.2 - r.2, by omega, by omega, by omega, by rw [hr, ← hx]; grind, by grind⟩
  · rcases b1 with ⟨u, v⟩ | ⟨u, v⟩
    · exact ⟨y.1 - r.1, r.1 - x.1, by omega, by omega, by omega, by grind, by grind⟩
    · exact ⟨r.1 - y.1, x.1 - r.1, by omega, by omega, by omega, by grind, by grind⟩
/-- the point where the line xy meets the line ab, if it is a -/
theorem ge_at {a b x y : GPt} (h0 : ge_o x y a = 0) (hx : 0 < ge_o a b x) (hy : ge_o a b y < 0) : ge_on x y a := by
  refine ge_wt_on (i := -ge_o a b y) (j := ge_o a b x) ⟨by omega, by omega, by omega, ?_, ?_⟩
  · have : (-ge_o a b y + ge_o a b x) * a.1 - (-ge_o a b y * x.1 + ge_o a b x * y.1) = ge_o x y a * (b.1 - a.1) := by unfold ge_o; grind
    rw [h0] at this
    omega
  · have : (-ge_o a b y + ge_o a b x) * a.2 - (-ge_o a b y * x.2 + ge_o a b x * y.2) = ge_o x y a * (b.2 - a.2) := by unfold ge_o; grind
    rw [h0] at this
    omega
theorem ge_neg_of {k f : Int} (hk : 0 ≤ k) (h : 0 < k * f) : 0 < f := by
  rcases Int.lt_or_le 0 f with z | z
  · exact z
  · have := Int.mul_nonneg hk (show 0 ≤ -f by omega)
    rw [Int.mul_neg] at this
    omega
theorem ge_lt_of {k f : Int} (hk : 0 < k) (h : k * f < 0) : f < 0 := by
  have := ge_pos (t := -f) hk (by rw [Int.mul_neg]; omega)
  omega
theorem ge_ngt_of {k f : Int} (hk : k < 0) (h : k * f < 0) : 0 < f := ge_pos (k := -k) (by omega) (by rw [Int.neg_mul]; omega)
theorem ge_nlt_of {k f : Int} (hk : k < 0) (h : 0 < k * f) : f < 0 := by
  have := ge_pos (k := -k) (t := -f) (by omega) (by rw [Int.neg_mul_neg]; exact h)
  omega
/-- a side is passed strictly -/
theorem ge_pass {x y r : GPt} {i j : Int} (w : ge_wt x y r i j) {u v : GPt} (hr : 0 ≤ ge_o u v r) (hy : ge_o u v y < 0) (hj : 0 < j) : 0 < ge_o u v x := by
  have e := ge_wt_o w u v
  obtain ⟨hi, _, hs, _⟩ := w
  have k1 : 0 ≤ (i + j) * ge_o u v r := Int.mul_nonneg (by omega) hr
  have k2 : 0 < j * -ge_o u v y := Int.mul_pos hj (by omega)
  rw [Int.mul_neg] at k2
  exact ge_neg_of hi (by omega)
theorem ge_K1 {a b c x y r : GPt} {i j : Int} (w : ge_wt x y r i j) (hj : 0 < j) (rT : ge_in a b c r) (r3 : 0 < ge_o c a r) (y3 : 0 < ge_o c a y) (y1 : ge_o a b y < 0)
    (c1 : ¬ ge_x x y a b) (c2 : ¬ ge_x x y b c) (na : ge_on x y a → ¬ ge_o a b x * ge_o a b y < 0) (nb : ¬ ge_on x y b) : False := by
  have x1 : 0 < ge_o a b x := ge_pass w rT.1 y1 hj
  have hr0 : ge_o x y r = 0 := (ge_wt_on w).1
  have br := ge_b1 a b c r x y
  have byy := ge_b1 a b c y x y
  have hyy : ge_o x y y = 0 := by unfold ge_o; grind
  rw [hr0, Int.mul_zero] at br
  rw [hyy, Int.mul_zero] at byy
  have pxy : ge_o a b x * ge_o a b y < 0 := by have := Int.mul_pos x1 (show 0 < -ge_o a b y by omega); rw [Int.mul_neg] at this; omega
  have oa : ge_o x y a ≠ 0 := fun z => na (ge_at z x1 y1) pxy
  have ob : ge_o x y b ≠ 0 := fun z => nb (by
    have e1 : ge_o b a x = -ge_o a b x := ge_o_swap a b x
    have e2 : ge_o b a y = -ge_o a b y := ge_o_swap a b y
    exact ge_on_symm (ge_at (a := b) (b := a) (x := y) (y := x) (by rw [ge_o_swap, z]; rfl) (by omega) (by omega)))
  have same : ¬ ge_o x y a * ge_o x y b < 0 := fun z => c1 ⟨z, pxy⟩
  obtain ⟨r1, r2, -⟩ := rT
  rcases Int.lt_or_lt_of_ne oa with ha | ha
  · have hb : ge_o x y b < 0 := by
      rcases Int.lt_or_lt_of_ne ob with q | q
      · exact q
      · have := Int.mul_pos (show 0 < -ge_o x y a by omega) q
        rw [Int.neg_mul] at this
        exact absurd (by omega) same
    have k1 : 0 ≤ ge_o b c r * -ge_o x y a := Int.mul_nonneg r2 (by omega)
    have k2 : 0 < ge_o c a r * -ge_o x y b := Int.mul_pos r3 (by omega)
    rw [Int.mul_neg] at k1 k2
    have k3 : 0 < ge_o a b r * ge_o x y c := by omega
    have oc : 0 < ge_o x y c := ge_neg_of r1 k3
    have m1 : 0 < ge_o c a y * -ge_o x y b := Int.mul_pos y3 (by omega)
    have m2 : 0 < -ge_o a b y * ge_o x y c := Int.mul_pos (by omega) oc
    rw [Int.mul_neg] at m1
    rw [Int.neg_mul] at m2
    have m3 : ge_o x y a * ge_o b c y > 0 := by rw [Int.mul_comm]; omega
    have y2 : ge_o b c y < 0 := ge_nlt_of ha m3
    have x2 : 0 < ge_o b c x := ge_pass w r2 y2 hj
    refine c2 ⟨?_, ?_⟩
    · have := Int.mul_pos (show 0 < -ge_o x y b by omega) oc
      rw [Int.neg_mul] at this
      omega
    · have := Int.mul_pos x2 (show 0 < -ge_o b c y by omega)
      rw [Int.mul_neg] at this
      omega
  · have hb : 0 < ge_o x y b := by
      rcases Int.lt_or_lt_of_ne ob with q | q
      · have := Int.mul_pos ha (show 0 < -ge_o x y b by omega)
        rw [Int.mul_neg] at this
        exact absurd (by omega) same
      · exact q
    have k1 : 0 ≤ ge_o b c r * ge_o x y a := Int.mul_nonneg r2 (by omega)
    have k2 : 0 < ge_o c a r * ge_o x y b := Int.mul_pos r3 hb
    have k3 : 0 < ge_o a b r * -ge_o x y c := by rw [Int.mul_neg]; omega
    have oc : 0 < -ge_o x y c := ge_neg_of r1 k3
    have m1 : 0 < ge_o c a y * ge_o x y b := Int.mul_pos y3 hb
    have m2 : 0 < -ge_o a b y * -ge_o x y c := Int.mul_pos (by omega) oc
    rw [Int.neg_mul_neg] at m2
    have m3 : ge_o x y a * ge_o b c y < 0 := by rw [Int.mul_comm]; omega
    have y2 : ge_o b c y < 0 := ge_lt_of ha m3
    have x2 : 0 < ge_o b c x := ge_pass w r2 y2 hj
    refine c2 ⟨?_, ?_⟩
    · have := Int.mul_pos hb oc
      rw [Int.mul_neg] at this
      omega
    · have := Int.mul_pos x2 (show 0 < -ge_o b c y by omega)
      rw [Int.mul_neg] at this
      omega
theorem ge_K2 {a b c x y r : GPt} {i j : Int} (w : ge_wt x y r i j) (hj : 0 < j) (rT : ge_in a b c r) (r3 : 0 < ge_o c a r) (y3 : 0 < ge_o c a y) (y2 : ge_o b c y < 0)
    (c1 : ¬ ge_x x y a b) (c2 : ¬ ge_x x y b c) (na : ge_on x y a → ¬ ge_o a b x * ge_o a b y < 0) (nb : ¬ ge_on x y b) (nc : ge_on x y c → ¬ ge_o b c x * ge_o b c y < 0) : False := by
  have x2 : 0 < ge_o b c x := ge_pass w rT.2.1 y2 hj
  have hr0 : ge_o x y r = 0 := (ge_wt_on w).1
  have br := ge_b1 a b c r x y
  have byy := ge_b1 a b c y x y
  have hyy : ge_o x y y = 0 := by unfold ge_o; grind
  rw [hr0, Int.mul_zero] at br
  rw [hyy, Int.mul_zero] at byy
  have pxy : ge_o b c x * ge_o b c y < 0 := by have := Int.mul_pos x2 (show 0 < -ge_o b c y by omega); rw [Int.mul_neg] at this; omega
  have ob : ge_o x y b ≠ 0 := fun z => nb (ge_at z x2 y2)
  have oc : ge_o x y c ≠ 0 := fun z => by
    have e1 : ge_o c b x = -ge_o b c x := ge_o_swap b c x
    have e2 : ge_o c b y = -ge_o b c y := ge_o_swap b c y
    exact nc (ge_on_symm (ge_at (a := c) (b := b) (x := y) (y := x) (by rw [ge_o_swap, z]; rfl) (by omega) (by omega))) pxy
  have same : ¬ ge_o x y b * ge_o x y c < 0 := fun z => c2 ⟨z, pxy⟩
  refine ge_K1 w hj rT r3 y3 ?_ c1 c2 na nb
  obtain ⟨r1, r2, -⟩ := rT
  rcases Int.lt_or_lt_of_ne ob with hb | hb
  · have hc : ge_o x y c < 0 := by
      rcases Int.lt_or_lt_of_ne oc with q | q
      · exact q
      · have := Int.mul_pos (show 0 < -ge_o x y b by omega) q
        rw [Int.neg_mul] at this
        exact absurd (by omega) same
    have k1 : 0 ≤ ge_o a b r * -ge_o x y c := Int.mul_nonneg r1 (by omega)
    have k2 : 0 < ge_o c a r * -ge_o x y b := Int.mul_pos r3 (by omega)
    rw [Int.mul_neg] at k1 k2
    have oa : 0 < ge_o x y a := ge_neg_of r2 (by omega)
    have m1 : 0 < ge_o c a y * -ge_o x y b := Int.mul_pos y3 (by omega)
    have m2 : 0 < -ge_o b c y * ge_o x y a := Int.mul_pos (by omega) oa
    rw [Int.mul_neg] at m1
    rw [Int.neg_mul] at m2
    exact ge_nlt_of hc (by rw [Int.mul_comm]; omega)
  · have hc : 0 < ge_o x y c := by
      rcases Int.lt_or_lt_of_ne oc with q | q
      · have := Int.mul_pos hb (show 0 < -ge_o x y c by omega)
        rw [Int.mul_neg] at this
        exact absurd (by omega) same
      · exact q
    have k1 : 0 ≤ ge_o a b r * ge_o x y c := Int.mul_nonneg r1 (by omega)
    have k2 : 0 < ge_o c a r * ge_o x y b := Int.mul_pos r3 hb
    have oa : 0 < -ge_o x y a := ge_neg_of r2 (by rw [Int.mul_neg]; omega)
    have m1 : 0 < ge_o c a y * ge_o x y b := Int.mul_pos y3 hb
    have m2 : 0 < -ge_o b c y * -ge_o x y a := Int.mul_pos (by omega) oa
    rw [Int.neg_mul_neg] at m2
    exact ge_lt_of hc (by rw [Int.mul_comm]; omega)
theorem ge_x_swap {x y p q : GPt} (h : ge_x y x p q) : ge_x x y p q := by
  obtain ⟨h1, h2⟩ := h
  rw [ge_o_swap x y p, ge_o_swap x y q, Int.neg_mul_neg] at h1
  exact ⟨h1, by rw [Int.mul_comm]; exact h2⟩
theorem ge_x_symm {x y p q : GPt} (h : ge_x x y p q) : ge_x p q x y := ⟨h.2, h.1⟩
theorem ge_wt_0 {x y r : GPt} {i : Int} (w : ge_wt x y r i 0) : r = x := by
  obtain ⟨h1, h2, h3, h4, h5⟩ := w
  have e1 := ge_zero (t := r.1 - x.1) (show 0 < i by omega) (by grind)
  have e2 := ge_zero (t := r.2 - x.2) (show 0 < i by omega) (by grind)
  exact Prod.ext (by omega) (by omega)
/-- the edge xy has no point in the triangle off its side ca -/
theorem ge_K {a b c x y r : GPt} (hxy : x ≠ y) (hr : ge_on x y r) (rT : ge_in a b c r) (r3 : 0 < ge_o c a r) (hx : ¬ (ge_in a b c x ∧ 0 < ge_o c a x)) (hy : ¬ (ge_in a b c y ∧ 0 < ge_o c a y))
    (c1 : ¬ ge_x x y a b) (c2 : ¬ ge_x x y b c) (na : ge_on x y a → ¬ ge_o a b x * ge_o a b y < 0) (nb : ¬ ge_on x y b) (nc : ge_on x y c → ¬ ge_o b c x * ge_o b c y < 0) : False := by
  obtain ⟨i, j, w⟩ := ge_on_wt hxy hr
  have e3 := ge_wt_o w c a
  have k3 : 0 < (i + j) * ge_o c a r := Int.mul_pos w.2.2.1 r3
  have hi0 : i ≠ 0 := fun z => by
    subst z
    have := ge_wt_0 (ge_wt_swap w)
    subst this
    exact hy ⟨rT, r3⟩
  have hj0 : j ≠ 0 := fun z => by
    subst z
    have := ge_wt_0 w
    subst this
    exact hx ⟨rT, r3⟩
  have hi : 0 < i := by have := w.1; omega
  have hj : 0 < j := by have := w.2.1; omega
  rcases Int.lt_or_le 0 (ge_o c a y) with y3 | y3
  · rcases Int.lt_or_le (ge_o a b y) 0 with y1 | y1
    · exact ge_K1 w hj rT r3 y3 y1 c1 c2 na nb
    · rcases Int.lt_or_le (ge_o b c y) 0 with y2 | y2
      · exact ge_K2 w hj rT r3 y3 y2 c1 c2 na nb nc
      · exact hy ⟨⟨y1, y2, by omega⟩, y3⟩
  · have x3 : 0 < ge_o c a x := by
      have := Int.mul_nonneg (show 0 ≤ j by omega) (show 0 ≤ -ge_o c a y by omega)
      rw [Int.mul_neg] at this
      exact ge_pos hi (by omega)
    have c1' : ¬ ge_x y x a b := fun z => c1 (ge_x_swap z)
    have c2' : ¬ ge_x y x b c := fun z => c2 (ge_x_swap z)
    have na' : ge_on y x a → ¬ ge_o a b y * ge_o a b x < 0 := fun z => by rw [Int.mul_comm]; exact na (ge_on_symm z)
    have nc' : ge_on y x c → ¬ ge_o b c y * ge_o b c x < 0 := fun z => by rw [Int.mul_comm]; exact nc (ge_on_symm z)
    have nb' : ¬ ge_on y x b := fun z => nb (ge_on_symm z)
    rcases Int.lt_or_le (ge_o a b x) 0 with y1 | y1
    · exact ge_K1 (ge_wt_swap w) hi rT r3 x3 y1 c1' c2' na' nb'
    · rcases Int.lt_or_le (ge_o b c x) 0 with y2 | y2
      · exact ge_K2 (ge_wt_swap w) hi rT r3 x3 y2 c1' c2' na' nb' nc'
      · exact hx ⟨⟨y1, y2, by omega⟩, x3⟩
-- g5.scale
/-! scaling, and the common point of two segments that meet -/
def ge_s (m : Int) (v : GPt) : GPt := (m * v.1, m * v.2)
theorem ge_o_s (m : Int) (a b c : GPt) : ge_o (ge_s m a) (ge_s m b) (ge_s m c) = m * m * ge_o a b c := by unfold ge_o ge_s; grind
theorem ge_s_s (m k : Int) (a : GPt) : ge_s m (ge_s k a) = ge_s (m * k) a := by unfold ge_s; simp [Int.mul_assoc]
theorem ge_s_1 (a : GPt) : ge_s 1 a = a := by unfold ge_s; simp
theorem ge_s_inj {m : Int} (hm : 0 < m) {a b : GPt} (h : ge_s m a = ge_s m b) : a = b := by
  have h1 : m * a.1 = m * b.1 := congrArg Prod.fst h
  have h2 : m * a.2 = m * b.2 := congrArg Prod.snd h
  exact Prod.ext (Int.eq_of_mul_eq_mul_left (by omega) h1) (Int.eq_of_mul_eq_mul_left (by omega) h2)
theorem ge_mm {m : Int} (hm : 0 < m) : 0 < m * m := Int.mul_pos hm hm
theorem ge_sg_pos {k t : Int} (hk : 0 < k) : 0 < k * t ↔ 0 < t := ⟨ge_pos hk, Int.mul_pos hk⟩
theorem ge_sg_nn {k t : Int} (hk : 0 < k) : 0 ≤ k * t ↔ 0 ≤ t := ⟨ge_nn hk, Int.mul_nonneg (Int.le_of_lt hk)⟩
theorem ge_sg_neg {k t : Int} (hk : 0 < k) : k * t < 0 ↔ t < 0 := by
  constructor
  · exact ge_lt_of hk
  · intro h
    have := Int.mul_pos hk (show 0 < -t by omega)
    rw [Int.mul_neg] at this
    omega
theorem ge_sg_np {k t : Int} (hk : 0 < k) : k * t ≤ 0 ↔ t ≤ 0 := by
  have := ge_sg_pos (t := t) hk
  constructor
  · intro h
    rcases Int.lt_or_le 0 t with z | z
    · have := this.mpr z; omega
    · exact z
  · intro h
    rcases Int.lt_or_le 0 (k * t) with z | z
    · have := this.mp z; omega
    · exact z
theorem ge_sg_0 {k t : Int} (hk : 0 < k) : k * t = 0 ↔ t = 0 := ⟨ge_zero hk, fun h => by rw [h, Int.mul_zero]⟩
theorem ge_on_s {m : Int} (hm : 0 < m) (a b p : GPt) : ge_on (ge_s m a) (ge_s m b) (ge_s m p) ↔ ge_on a b p := by
  unfold ge_on
  rw [ge_o_s, ge_sg_0 (ge_mm hm)]
  have e1 : ((ge_s m p).1 - (ge_s m a).1) * ((ge_s m p).1 - (ge_s m b).1) = m * m * ((p.1 - a.1) * (p.1 - b.1)) := by unfold ge_s; grind
  have e2 : ((ge_s m p).2 - (ge_s m a).2) * ((ge_s m p).2 - (ge_s m b).2) = m * m * ((p.2 - a.2) * (p.2 - b.2)) := by unfold ge_s; grind
  rw [e1, e2, ge_sg_np (ge_mm hm), ge_sg_np (ge_mm hm)]
theorem ge_x_s {m : Int} (hm : 0 < m) (a b p q : GPt) : ge_x (ge_s m a) (ge_s m b) (ge_s m p) (ge_s m q) ↔ ge_x a b p q := by
  unfold ge_x
  rw [ge_o_s, ge_o_s, ge_o_s, ge_o_s]
  have e1 : m * m * ge_o a b p * (m * m * ge_o a b q) = (m * m) * (m * m) * (ge_o a b p * ge_o a b q) := by grind
  have e2 : m * m * ge_o p q a * (m * m * ge_o p q b) = (m * m) * (m * m) * (ge_o p q a * ge_o p q b) := by grind
  rw [e1, e2, ge_sg_neg (Int.mul_pos (ge_mm hm) (ge_mm hm)), ge_sg_neg (Int.mul_pos (ge_mm hm) (ge_mm hm))]
theorem ge_in_s {m : Int} (hm : 0 < m) (a b c p : GPt) : ge_in (ge_s m a) (ge_s m b) (ge_s m c) (ge_s m p) ↔ ge_in a b c p := by
  unfold ge_in
  rw [ge_o_s, ge_o_s, ge_o_s, ge_sg_nn (ge_mm hm), ge_sg_nn (ge_mm hm), ge_sg_nn (ge_mm hm)]
theorem ge_int_s {m : Int} (hm : 0 < m) (a b c p : GPt) : ge_int (ge_s m a) (ge_s m b) (ge_s m c) (ge_s m p) ↔ ge_int a b c p := by
  unfold ge_int
  rw [ge_o_s, ge_o_s, ge_o_s, ge_sg_pos (ge_mm hm), ge_sg_pos (ge_mm hm), ge_sg_pos (ge_mm hm)]
theorem ge_sg_lt {m a b : Int} (hm : 0 < m) : m * a < m * b ↔ a < b := by
  have := ge_sg_pos (t := b - a) hm
  rw [Int.mul_sub] at this
  omega
theorem ge_sg_le {m a b : Int} (hm : 0 < m) : m * a ≤ m * b ↔ a ≤ b := by
  have := ge_sg_nn (t := b - a) hm
  rw [Int.mul_sub] at this
  omega
theorem ge_cr_s {m : Int} (hm : 0 < m) (u v p : GPt) : ge_cr (ge_s m u) (ge_s m v) (ge_s m p) = ge_cr u v p := by
  unfold ge_cr
  have h1 : ((ge_s m p).2 < (ge_s m u).2) ↔ p.2 < u.2 := ge_sg_lt hm
  have h2 : ((ge_s m p).2 < (ge_s m v).2) ↔ p.2 < v.2 := ge_sg_lt hm
  have h3 : ((ge_s m u).2 < (ge_s m v).2) ↔ u.2 < v.2 := ge_sg_lt hm
  have h4 : (0 < ge_o (ge_s m u) (ge_s m v) (ge_s m p)) ↔ 0 < ge_o u v p := by rw [ge_o_s, ge_sg_pos (ge_mm hm)]
  simp only [h1, h2, h3, h4]
theorem ge_cs_s {m : Int} (hm : 0 < m) (u v p : GPt) : ge_cs (ge_s m u) (ge_s m v) (ge_s m p) = ge_cs u v p := by
  unfold ge_cs
  have h3 : ((ge_s m u).2 ≤ (ge_s m v).2) ↔ u.2 ≤ v.2 := ge_sg_le hm
  simp only [h3, ge_cr_s hm]
def ge_S (m : Int) (l : List GPt) : List GPt := l.map (ge_s m)
theorem ge_pp_s {m : Int} (hm : 0 < m) (l : List GPt) (p : GPt) : ge_pp (ge_S m l) (ge_s m p) = ge_pp l p := by
  induction l with
  | nil => rfl
  | cons a r ih =>
    cases r with
    | nil => rfl
    | cons b r =>
      show (ge_cs (ge_s m a) (ge_s m b) (ge_s m p) != ge_pp (ge_S m (b :: r)) (ge_s m p)) = (ge_cs a b p != ge_pp (b :: r) p)
      rw [ih, ge_cs_s hm]
theorem ge_cy_S (m : Int) (l : List GPt) : ge_cy (ge_S m l) = ge_S m (ge_cy l) := by
  cases l with
  | nil => rfl
  | cons a r => simp [ge_cy, ge_S]
theorem ge_par_s {m : Int} (hm : 0 < m) (l : List GPt) (p : GPt) : ge_par (ge_S m l) (ge_s m p) = ge_par l p := by
  unfold ge_par
  rw [ge_cy_S, ge_pp_s hm]
theorem ge_S_S (m k : Int) (l : List GPt) : ge_S m (ge_S k l) = ge_S (m * k) l := by
  unfold ge_S
  rw [List.map_map]
  congr 1
  funext v
  exact ge_s_s m k v
theorem ge_S_1 (l : List GPt) : ge_S 1 l = l := by
  unfold ge_S
  rw [show ge_s 1 = id from funext ge_s_1, List.map_id]
theorem ge_ed_S (m : Int) (l : List GPt) : ge_ed (ge_S m l) = (ge_ed l).map (fun e => (ge_s m e.1, ge_s m e.2)) := by
  induction l with
  | nil => rfl
  | cons a r ih =>
    cases r with
    | nil => rfl
    | cons b r =>
      show (ge_s m a, ge_s m b) :: ge_ed (ge_S m (b :: r)) = _
      rw [ih]
      rfl
theorem ge_E_S (m : Int) (l : List GPt) : ge_E (ge_S m l) = (ge_E l).map (fun e => (ge_s m e.1, ge_s m e.2)) := by
  unfold ge_E
  rw [ge_cy_S, ge_ed_S]
/-- where two segments cross -/
theorem ge_x_pt {x y p q : GPt} (h : ge_x x y p q) : ∃ (m : Int) (r : GPt) (i j i' j' : Int), 0 < m ∧ ge_wt (ge_s m p) (ge_s m q) r i j ∧ ge_wt (ge_s m x) (ge_s m y) r i' j' ∧ 0 < i ∧ 0 < j ∧ 0 < i' ∧ 0 < j' := by
  obtain ⟨h1, h2⟩ := h
  have hs := ge_o_sub x y p q
  rcases Int.lt_trichotomy (ge_o x y p) 0 with hp | hp | hp
  · have hq : 0 < ge_o x y q := ge_ngt_of hp h1
    have hy : ge_o p q y < 0 := by
      rcases Int.lt_or_le (ge_o p q y) 0 with z | z
      · exact z
      · have : 0 < ge_o p q x := by omega
        have := Int.mul_nonneg (show 0 ≤ ge_o p q x by omega) z
        omega
    have hx : 0 < ge_o p q x := by
      have := ge_ngt_of hy (by rw [Int.mul_comm]; exact h2)
      exact this
    refine ⟨ge_o x y q - ge_o x y p, (ge_o x y q * p.1 - ge_o x y p * q.1, ge_o x y q * p.2 - ge_o x y p * q.2), ge_o x y q, -ge_o x y p, -ge_o p q y, ge_o p q x, by omega, ⟨by omega, by omega, by omega, ?_, ?_⟩, ⟨by omega, by omega, by omega, ?_, ?_⟩, by omega, by omega, by omega, by omega⟩
    · unfold ge_s; grind
    · unfold ge_s; grind
    · have : -ge_o p q y + ge_o p q x = ge_o x y q - ge_o x y p := by omega
      rw [this]
      unfold ge_s ge_o; grind
    · have : -ge_o p q y + ge_o p q x = ge_o x y q - ge_o x y p := by omega
      rw [this]
      unfold ge_s ge_o; grind
  · rw [hp, Int.zero_mul] at h1; omega
  · have hq : ge_o x y q < 0 := ge_lt_of hp h1
    have hy : 0 < ge_o p q y := by
      rcases Int.lt_or_le 0 (ge_o p q y) with z | z
      · exact z
      · have : ge_o p q x < 0 := by omega
        have := Int.mul_nonneg (show 0 ≤ -ge_o p q x by omega) (show 0 ≤ -ge_o p q y by omega)
        rw [Int.neg_mul_neg] at this
        omega
    have hx : ge_o p q x < 0 := ge_lt_of hy (by rw [Int.mul_comm]; exact h2)
    refine ⟨ge_o x y p - ge_o x y q, (-ge_o x y q * p.1 + ge_o x y p * q.1, -ge_o x y q * p.2 + ge_o x y p * q.2), -ge_o x y q, ge_o x y p, ge_o p q y, -ge_o p q x, by omega, ⟨by omega, by omega, by omega, ?_, ?_⟩, ⟨by omega, by omega, by omega, ?_, ?_⟩, by omega, by omega, by omega, by omega⟩
    · unfold ge_s; grind
    · unfold ge_s; grind
    · have : ge_o p q y + -ge_o p q x = ge_o x y p - ge_o x y q := by omega
      rw [this]
      unfold ge_s ge_o; grind
    · have : ge_o p q y + -ge_o p q x = ge_o x y p - ge_o x y q := by omega
      rw [this]
      unfold ge_s ge_o; grind
-- g6.ear
/-! simple polygons; a corner whose triangle holds no other vertex -/
theorem ge_on_l (p q : GPt) : ge_on p q p := by
  refine ⟨by unfold ge_o; grind, ?_, ?_⟩
  · rw [Int.sub_self, Int.zero_mul]; exact Int.le_refl _
  · rw [Int.sub_self, Int.zero_mul]; exact Int.le_refl _
theorem ge_on_r (p q : GPt) : ge_on p q q := ge_on_symm (ge_on_l q p)
theorem ge_on_pp {p x : GPt} (h : ge_on p p x) : x = p := by
  obtain ⟨-, h1, h2⟩ := h
  have s1 := ge_sq (x.1 - p.1)
  have s2 := ge_sq (x.2 - p.2)
  have e1 : (x.1 - p.1) * (x.1 - p.1) = 0 := by omega
  have e2 : (x.2 - p.2) * (x.2 - p.2) = 0 := by omega
  have f1 : x.1 - p.1 = 0 := by rcases Int.mul_eq_zero.mp e1 with z | z <;> exact z
  have f2 : x.2 - p.2 = 0 := by rcases Int.mul_eq_zero.mp e2 with z | z <;> exact z
  exact Prod.ext (by omega) (by omega)
theorem ge_wt_nn {x y r : GPt} {i j : Int} (w : ge_wt x y r i j) {u v : GPt} (h1 : 0 ≤ ge_o u v x) (h2 : 0 ≤ ge_o u v y) : 0 ≤ ge_o u v r := by
  have e := ge_wt_o w u v
  have k1 := Int.mul_nonneg w.1 h1
  have k2 := Int.mul_nonneg w.2.1 h2
  exact ge_nn w.2.2.1 (by omega)
theorem ge_wt_ps {x y r : GPt} {i j : Int} (w : ge_wt x y r i j) {u v : GPt} (h1 : 0 < ge_o u v x) (h2 : 0 < ge_o u v y) : 0 < ge_o u v r := by
  have e := ge_wt_o w u v
  have hs := w.2.2.1
  rcases Int.lt_or_le 0 i with z | z
  · have k1 := Int.mul_pos z h1
    have k2 := Int.mul_nonneg w.2.1 (Int.le_of_lt h2)
    exact ge_pos hs (by omega)
  · have hi : i = 0 := by have := w.1; omega
    have k2 := Int.mul_pos (show 0 < j by omega) h2
    have k1 := Int.mul_nonneg w.1 (Int.le_of_lt h1)
    exact ge_pos hs (by omega)
theorem ge_wt_in {x y r a b c : GPt} {i j : Int} (w : ge_wt x y r i j) (h1 : ge_in a b c x) (h2 : ge_in a b c y) : ge_in a b c r := ⟨ge_wt_nn w h1.1 h2.1, ge_wt_nn w h1.2.1 h2.2.1, ge_wt_nn w h1.2.2 h2.2.2⟩
/-- what an edge of a simple polygon keeps to beside a triangle on two of its edges -/
def ge_side (a b c x y : GPt) : Prop := x ≠ y ∧ ¬ (ge_in a b c x ∧ 0 < ge_o c a x) ∧ ¬ (ge_in a b c y ∧ 0 < ge_o c a y) ∧ ¬ ge_x x y a b ∧ ¬ ge_x x y b c ∧ (ge_on x y a → ¬ ge_o a b x * ge_o a b y < 0) ∧ ¬ ge_on x y b ∧ (ge_on x y c → ¬ ge_o b c x * ge_o b c y < 0)
theorem ge_side_K {a b c x y r : GPt} (h : ge_side a b c x y) (hr : ge_on x y r) (rT : ge_in a b c r) (r3 : 0 < ge_o c a r) : False := ge_K h.1 hr rT r3 h.2.1 h.2.2.1 h.2.2.2.1 h.2.2.2.2.1 h.2.2.2.2.2.1 h.2.2.2.2.2.2.1 h.2.2.2.2.2.2.2
theorem ge_side_s {m : Int} (hm : 0 < m) {a b c x y : GPt} (h : ge_side a b c x y) : ge_side (ge_s m a) (ge_s m b) (ge_s m c) (ge_s m x) (ge_s m y) := by
  obtain ⟨h1, h2, h3, h4, h5, h6, h7, h8⟩ := h
  refine ⟨fun z => h1 (ge_s_inj hm z), ?_, ?_, ?_, ?_, ?_, ?_, ?_⟩
  · rw [ge_in_s hm, ge_o_s, ge_sg_pos (ge_mm hm)]; exact h2
  · rw [ge_in_s hm, ge_o_s, ge_sg_pos (ge_mm hm)]; exact h3
  · rw [ge_x_s hm]; exact h4
  · rw [ge_x_s hm]; exact h5
  · rw [ge_on_s hm, ge_o_s, ge_o_s]
    intro z q
    have e : m * m * ge_o a b x * (m * m * ge_o a b y) = (m * m) * (m * m) * (ge_o a b x * ge_o a b y) := by grind
    rw [e, ge_sg_neg (Int.mul_pos (ge_mm hm) (ge_mm hm))] at q
    exact h6 z q
  · rw [ge_on_s hm]; exact h7
  · rw [ge_on_s hm, ge_o_s, ge_o_s]
    intro z q
    have e : m * m * ge_o b c x * (m * m * ge_o b c y) = (m * m) * (m * m) * (ge_o b c x * ge_o b c y) := by grind
    rw [e, ge_sg_neg (Int.mul_pos (ge_mm hm) (ge_mm hm))] at q
    exact h8 z q
theorem ge_free {a b c x y p q : GPt} (h : ge_side a b c x y) (hp : ge_in a b c p) (hp3 : 0 < ge_o c a p) (hq : ge_in a b c q) (hq3 : 0 < ge_o c a q) : ¬ ge_meet x y p q := by
  intro hm
  have inn : ∀ z : GPt, ge_on p q z → ge_in a b c z ∧ 0 < ge_o c a z := fun z hz => by
    by_cases e : p = q
    · subst e
      rw [ge_on_pp hz]
      exact ⟨hp, hp3⟩
    · obtain ⟨i, j, w⟩ := ge_on_wt e hz
      exact ⟨ge_wt_in w hp hq, ge_wt_ps w hp3 hq3⟩
  rcases hm with z | z | z | z | z
  · exact ge_side_K h z hp hp3
  · exact ge_side_K h z hq hq3
  · exact h.2.1 (inn x z)
  · exact h.2.2.1 (inn y z)
  · obtain ⟨m, r, i, j, i', j', hm, w, w', -⟩ := ge_x_pt z
    refine ge_side_K (ge_side_s hm h) (ge_wt_on w') (ge_wt_in w ((ge_in_s hm a b c p).mpr hp) ((ge_in_s hm a b c q).mpr hq)) (ge_wt_ps w ?_ ?_)
    · rw [ge_o_s]; exact Int.mul_pos (ge_mm hm) hp3
    · rw [ge_o_s]; exact Int.mul_pos (ge_mm hm) hq3
/-- the third side itself -/
theorem ge_free3 {a c p q : GPt} (hp3 : 0 < ge_o c a p) (hq3 : 0 < ge_o c a q) : ¬ ge_meet a c p q := by
  intro hm
  have e1 := ge_o_swap c a p
  have e2 := ge_o_swap c a q
  have za : ge_o c a a = 0 := by unfold ge_o; grind
  have zc : ge_o c a c = 0 := by unfold ge_o; grind
  have inn : ∀ z : GPt, ge_on p q z → 0 < ge_o c a z := fun z hz => by
    by_cases e : p = q
    · subst e
      rw [ge_on_pp hz]
      exact hp3
    · obtain ⟨i, j, w⟩ := ge_on_wt e hz
      exact ge_wt_ps w hp3 hq3
  rcases hm with z | z | z | z | ⟨z, -⟩
  · have := z.1; omega
  · have := z.1; omega
  · have := inn a z; omega
  · have := inn c z; omega
  · rw [e1, e2, Int.neg_mul_neg] at z
    have := Int.mul_pos hp3 hq3
    omega
def ge_simple (l : List GPt) : Prop := l.Nodup ∧ (∀ w ∈ l, ∀ e ∈ ge_E l, ge_on e.1 e.2 w → w = e.1 ∨ w = e.2) ∧ ∀ e ∈ ge_E l, ∀ f ∈ ge_E l, ¬ ge_x e.1 e.2 f.1 f.2
theorem ge_ed_mem : ∀ (l : List GPt) (e : GPt × GPt), e ∈ ge_ed l → e.1 ∈ l ∧ e.2 ∈ l
  | [], e, h => nomatch h
  | [_], e, h => nomatch h
  | a :: b :: r, e, h => by
    rcases List.mem_cons.mp h with h | h
    · subst h
      exact ⟨List.mem_cons_self, List.mem_cons_of_mem _ List.mem_cons_self⟩
    · have := ge_ed_mem (b :: r) e h
      exact ⟨List.mem_cons_of_mem _ this.1, List.mem_cons_of_mem _ this.2⟩
theorem ge_ed_ne : ∀ (l : List GPt), l.Nodup → ∀ e ∈ ge_ed l, e.1 ≠ e.2
  | [], _, e, h => nomatch h
  | [_], _, e, h => nomatch h
  | a :: b :: r, hn, e, h => by
    rcases List.mem_cons.mp h with h | h
    · subst h
      intro z
      have : a = b := z
      subst this
      exact (List.nodup_cons.mp hn).1 List.mem_cons_self
    · exact ge_ed_ne (b :: r) (List.nodup_cons.mp hn).2 e h
theorem ge_cy_mem {l : List GPt} {v : GPt} (h : v ∈ ge_cy l) : v ∈ l := by
  cases l with
  | nil => exact h
  | cons a r =>
    have h : v ∈ a :: (r ++ [a]) := h
    simp at h ⊢
    grind
theorem ge_E_mem {l : List GPt} {e : GPt × GPt} (h : e ∈ ge_E l) : e.1 ∈ l ∧ e.2 ∈ l := ⟨ge_cy_mem (ge_ed_mem _ e h).1, ge_cy_mem (ge_ed_mem _ e h).2⟩
/-- the edges of b, c, mid, a -/
theorem ge_E_ear (a b c : GPt) (mid : List GPt) : ge_E (b :: c :: (mid ++ [a])) = (b, c) :: (ge_ed (c :: (mid ++ [a])) ++ [(a, b)]) := by
  show ge_ed (b :: (c :: (mid ++ [a])) ++ [b]) = _
  rw [show b :: (c :: (mid ++ [a])) ++ [b] = (b :: c :: mid) ++ a :: [b] by simp, ge_ed_app]
  rfl
theorem ge_E_cut (a c : GPt) (mid : List GPt) : ge_E (c :: (mid ++ [a])) = ge_ed (c :: (mid ++ [a])) ++ [(a, c)] := by
  show ge_ed (c :: (mid ++ [a]) ++ [c]) = _
  rw [show c :: (mid ++ [a]) ++ [c] = (c :: mid) ++ a :: [c] by simp, ge_ed_app]
  rfl
theorem ge_par_ear (a b c : GPt) (mid : List GPt) (p : GPt) : ge_par (b :: c :: (mid ++ [a])) p = (ge_par (c :: (mid ++ [a])) p != ge_tp a b c p) := by
  have h1 : ge_par (b :: c :: (mid ++ [a])) p = (ge_cs b c p != (ge_pp (c :: (mid ++ [a])) p != ge_cs a b p)) := by
    show ge_pp (b :: (c :: (mid ++ [a])) ++ [b]) p = _
    rw [show b :: (c :: (mid ++ [a])) ++ [b] = (b :: c :: mid) ++ a :: [b] by simp, ge_pp_app]
    show ((ge_cs b c p != ge_pp (c :: mid ++ [a]) p) != (ge_cs a b p != false)) = _
    rw [show c :: mid ++ [a] = c :: (mid ++ [a]) by simp]
    cases ge_cs b c p <;> cases ge_pp (c :: (mid ++ [a])) p <;> cases ge_cs a b p <;> rfl
  have h2 : ge_par (c :: (mid ++ [a])) p = (ge_pp (c :: (mid ++ [a])) p != ge_cs a c p) := by
    show ge_pp (c :: (mid ++ [a]) ++ [c]) p = _
    rw [show c :: (mid ++ [a]) ++ [c] = (c :: mid) ++ a :: [c] by simp, ge_pp_app]
    show (ge_pp (c :: mid ++ [a]) p != (ge_cs a c p != false)) = _
    rw [show c :: mid ++ [a] = c :: (mid ++ [a]) by simp]
    cases ge_pp (c :: (mid ++ [a])) p <;> cases ge_cs a c p <;> rfl
  rw [h1, h2]
  unfold ge_tp
  rw [ge_cs_comm c a]
  cases ge_cs b c p <;> cases ge_pp (c :: (mid ++ [a])) p <;> cases ge_cs a b p <;> cases ge_cs a c p <;> rfl
/-- an endpoint is no passing -/
theorem ge_end1 {a b x y : GPt} (h : a = x ∨ a = y) : ¬ ge_o a b x * ge_o a b y < 0 := by
  have z0 : ge_o a b a = 0 := by unfold ge_o; grind
  rcases h with h | h
  · rw [← h, z0, Int.zero_mul]; omega
  · rw [← h, z0, Int.mul_zero]; omega
theorem ge_end2 {b c x y : GPt} (h : c = x ∨ c = y) : ¬ ge_o b c x * ge_o b c y < 0 := by
  have z0 : ge_o b c c = 0 := by unfold ge_o; grind
  rcases h with h | h
  · rw [← h, z0, Int.zero_mul]; omega
  · rw [← h, z0, Int.mul_zero]; omega
-- g7.cut
/-! a corner that holds no other vertex is cut off: the rest is simple; at the lowest corner the triangle lies inside -/
theorem ge_side_swap {a b c x y : GPt} (h : ge_side a b c x y) : ge_side a b c y x := by
  obtain ⟨h1, h2, h3, h4, h5, h6, h7, h8⟩ := h
  exact ⟨h1.symm, h3, h2, fun z => h4 (ge_x_swap z), fun z => h5 (ge_x_swap z), fun z => by rw [Int.mul_comm]; exact h6 (ge_on_symm z), fun z => h7 (ge_on_symm z), fun z => by rw [Int.mul_comm]; exact h8 (ge_on_symm z)⟩
theorem ge_abs_ge (x : Int) : ∃ k : Int, 0 ≤ k ∧ -k ≤ x ∧ x ≤ k := by
  rcases Int.le_total 0 x with h | h
  · exact ⟨x, h, by omega, by omega⟩
  · exact ⟨-x, by omega, by omega, by omega⟩
/-- past the third side there is a point of the triangle -/
theorem ge_X1' {a b c x y r : GPt} {i j : Int} (h : ge_side a b c x y) (w : ge_wt x y r i j) (r1 : 0 < ge_o a b r) (r2 : 0 < ge_o b c r) (r3 : ge_o c a r = 0) (y3 : 0 < ge_o c a y) : False := by
  obtain ⟨k1, k1n, k1a, k1b⟩ := ge_abs_ge (ge_o a b y)
  obtain ⟨k2, k2n, k2a, k2b⟩ := ge_abs_ge (ge_o b c y)
  obtain ⟨M, hM⟩ : ∃ M : Int, M = k1 + k2 + 1 := ⟨_, rfl⟩
  have hM0 : 0 < M := by omega
  have hm : 0 < M + 1 := by omega
  obtain ⟨r', hr'⟩ : ∃ z : GPt, z = (M * r.1 + y.1, M * r.2 + y.2) := ⟨_, rfl⟩
  have f : ∀ u v : GPt, ge_o (ge_s (M + 1) u) (ge_s (M + 1) v) r' = (M + 1) * (M * ge_o u v r + ge_o u v y) := fun u v => by
    rw [hr']; unfold ge_s ge_o; grind
  obtain ⟨hi, hj, hs, w1, w2⟩ := w
  have wt : ge_wt (ge_s (M + 1) x) (ge_s (M + 1) y) r' (M * i) (M * j + (i + j)) := by
    have q1 := Int.mul_nonneg (Int.le_of_lt hM0) hi
    have q2 := Int.mul_nonneg (Int.le_of_lt hM0) hj
    refine ⟨q1, by omega, by omega, ?_, ?_⟩
    · rw [hr']; unfold ge_s; show (M * i + (M * j + (i + j))) * (M * r.1 + y.1) = M * i * ((M + 1) * x.1) + (M * j + (i + j)) * ((M + 1) * y.1)
      have : (M * i + (M * j + (i + j))) * (M * r.1 + y.1) = (M + 1) * M * ((i + j) * r.1) + (M + 1) * (i + j) * y.1 := by grind
      rw [this, w1]; grind
    · rw [hr']; unfold ge_s; show (M * i + (M * j + (i + j))) * (M * r.2 + y.2) = M * i * ((M + 1) * x.2) + (M * j + (i + j)) * ((M + 1) * y.2)
      have : (M * i + (M * j + (i + j))) * (M * r.2 + y.2) = (M + 1) * M * ((i + j) * r.2) + (M + 1) * (i + j) * y.2 := by grind
      rw [this, w2]; grind
  have m1 : M ≤ M * ge_o a b r := by have := Int.mul_le_mul_of_nonneg_left (show (1 : Int) ≤ ge_o a b r by omega) (show 0 ≤ M by omega); omega
  have m2 : M ≤ M * ge_o b c r := by have := Int.mul_le_mul_of_nonneg_left (show (1 : Int) ≤ ge_o b c r by omega) (show 0 ≤ M by omega); omega
  refine ge_side_K (ge_side_s hm h) (ge_wt_on wt) ⟨?_, ?_, ?_⟩ ?_
  · rw [f]; exact Int.mul_nonneg (by omega) (by omega)
  · rw [f]; exact Int.mul_nonneg (by omega) (by omega)
  · rw [f, r3, Int.mul_zero]; exact Int.mul_nonneg (by omega) (by omega)
  · rw [f, r3, Int.mul_zero]; exact Int.mul_pos (by omega) (by omega)
theorem ge_X1 {a b c x y : GPt} (hF : 0 < ge_o a b c) (h : ge_side a b c x y) : ¬ ge_x x y a c := by
  intro z
  have hz := z.2
  obtain ⟨m, r, i, j, i', j', hm, w, w', hi, hj, -⟩ := ge_x_pt z
  have hF' : 0 < m * m * ge_o a b c := Int.mul_pos (ge_mm hm) hF
  have za : ge_o a b a = 0 := by unfold ge_o; grind
  have zc : ge_o b c c = 0 := by unfold ge_o; grind
  have zb : ge_o b c a = ge_o a b c := ge_o_cyc a b c
  have z3 : ge_o c a a = 0 := by unfold ge_o; grind
  have z4 : ge_o c a c = 0 := by unfold ge_o; grind
  have e1 := ge_wt_o w (ge_s m a) (ge_s m b)
  have e2 := ge_wt_o w (ge_s m b) (ge_s m c)
  have e3 := ge_wt_o w (ge_s m c) (ge_s m a)
  rw [ge_o_s, ge_o_s, za] at e1
  rw [ge_o_s, ge_o_s, zc, zb] at e2
  rw [ge_o_s, ge_o_s, z3, z4] at e3
  have hs := w.2.2.1
  have r1 : 0 < ge_o (ge_s m a) (ge_s m b) r := ge_pos hs (by have := Int.mul_pos hj hF'; rw [e1, Int.mul_zero, Int.mul_zero]; omega)
  have r2 : 0 < ge_o (ge_s m b) (ge_s m c) r := ge_pos hs (by have := Int.mul_pos hi hF'; rw [e2, Int.mul_zero, Int.mul_zero]; omega)
  have r3 : ge_o (ge_s m c) (ge_s m a) r = 0 := ge_zero hs (by rw [e3, Int.mul_zero, Int.mul_zero, Int.mul_zero]; rfl)
  have hz' : ge_o c a x * ge_o c a y < 0 := by rw [ge_o_swap a c x, ge_o_swap a c y, Int.neg_mul_neg]; exact hz
  rcases Int.lt_or_le 0 (ge_o c a y) with y3 | y3
  · exact ge_X1' (ge_side_s hm h) w' r1 r2 r3 (by rw [ge_o_s]; exact Int.mul_pos (ge_mm hm) y3)
  · have x3 : 0 < ge_o c a x := by
      rcases Int.lt_or_le 0 (ge_o c a x) with q | q
      · exact q
      · have := Int.mul_nonneg (show 0 ≤ -ge_o c a x by omega) (show 0 ≤ -ge_o c a y by omega)
        rw [Int.neg_mul_neg] at this
        omega
    exact ge_X1' (ge_side_swap (ge_side_s hm h)) (ge_wt_swap w') r1 r2 r3 (by rw [ge_o_s]; exact Int.mul_pos (ge_mm hm) x3)
section Cut
variable {a b c : GPt} {mid : List GPt}
theorem ge_sides (hs : ge_simple (b :: c :: (mid ++ [a]))) (he : ∀ w ∈ c :: (mid ++ [a]), w ≠ a → w ≠ c → ¬ ge_in a b c w) : ∀ e ∈ ge_ed (c :: (mid ++ [a])), ge_side a b c e.1 e.2 := by
  intro e h
  obtain ⟨hn, hv, hx⟩ := hs
  rw [ge_E_ear] at hv hx
  obtain ⟨hb, hn'⟩ := List.nodup_cons.mp hn
  have hm := ge_ed_mem _ e h
  have hE : e ∈ (b, c) :: (ge_ed (c :: (mid ++ [a])) ++ [(a, b)]) := List.mem_cons_of_mem _ (List.mem_append_left _ h)
  have hab : (a, b) ∈ (b, c) :: (ge_ed (c :: (mid ++ [a])) ++ [(a, b)]) := List.mem_cons_of_mem _ (List.mem_append_right _ List.mem_cons_self)
  have hbc : (b, c) ∈ (b, c) :: (ge_ed (c :: (mid ++ [a])) ++ [(a, b)]) := List.mem_cons_self
  have out : ∀ w ∈ c :: (mid ++ [a]), ¬ (ge_in a b c w ∧ 0 < ge_o c a w) := fun w hw z => by
    by_cases e1 : w = a
    · subst e1
      have : ge_o c w w = 0 := by unfold ge_o; grind
      omega
    · by_cases e2 : w = c
      · subst e2
        have : ge_o w a w = 0 := by unfold ge_o; grind
        omega
      · exact he w hw e1 e2 z.1
  have ha : a ∈ b :: c :: (mid ++ [a]) := by simp
  have hc : c ∈ b :: c :: (mid ++ [a]) := by simp
  refine ⟨ge_ed_ne _ hn' e h, out _ hm.1, out _ hm.2, hx e hE _ hab, hx e hE _ hbc, fun z => ge_end1 (hv a ha e hE z), fun z => ?_, fun z => ge_end2 (hv c hc e hE z)⟩
  rcases hv b List.mem_cons_self e hE z with q | q
  · rw [q] at hb; exact hb hm.1
  · rw [q] at hb; exact hb hm.2
theorem ge_ac_in (hF : 0 < ge_o a b c) {w : GPt} (h : ge_on a c w) (hac : a ≠ c) : ge_in a b c w := by
  obtain ⟨i, j, wt⟩ := ge_on_wt hac h
  have za : ge_o a b a = 0 := by unfold ge_o; grind
  have zc : ge_o b c c = 0 := by unfold ge_o; grind
  have zb : ge_o b c a = ge_o a b c := ge_o_cyc a b c
  have z3 : ge_o c a a = 0 := by unfold ge_o; grind
  have z4 : ge_o c a c = 0 := by unfold ge_o; grind
  exact ⟨ge_wt_nn wt (by omega) (by omega), ge_wt_nn wt (by omega) (by omega), ge_wt_nn wt (by omega) (by omega)⟩
theorem ge_cut_simple (hF : 0 < ge_o a b c) (hs : ge_simple (b :: c :: (mid ++ [a]))) (he : ∀ w ∈ c :: (mid ++ [a]), w ≠ a → w ≠ c → ¬ ge_in a b c w) : ge_simple (c :: (mid ++ [a])) := by
  have hsd := ge_sides hs he
  obtain ⟨hn, hv, hx⟩ := hs
  obtain ⟨hb, hn'⟩ := List.nodup_cons.mp hn
  have hac : a ≠ c := fun z => by
    have : c ∉ mid ++ [a] := (List.nodup_cons.mp hn').1
    rw [← z] at this
    exact this (by simp)
  have up : ∀ e ∈ ge_ed (c :: (mid ++ [a])), e ∈ ge_E (b :: c :: (mid ++ [a])) := fun e h => by rw [ge_E_ear]; exact List.mem_cons_of_mem _ (List.mem_append_left _ h)
  refine ⟨hn', fun w hw e h z => ?_, fun e h f g => ?_⟩
  · rw [ge_E_cut] at h
    rcases List.mem_append.mp h with h | h
    · exact hv w (List.mem_cons_of_mem _ hw) e (up e h) z
    · rw [List.mem_singleton.mp h] at z ⊢
      by_cases e1 : w = a
      · exact Or.inl e1
      · by_cases e2 : w = c
        · exact Or.inr e2
        · exact absurd (ge_ac_in hF z hac) (he w hw e1 e2)
  · rw [ge_E_cut] at h g
    rcases List.mem_append.mp h with h | h <;> rcases List.mem_append.mp g with g | g
    · exact hx e (up e h) f (up f g)
    · rw [List.mem_singleton.mp g]
      exact ge_X1 hF (hsd e h)
    · rw [List.mem_singleton.mp h]
      exact fun z => ge_X1 hF (hsd f g) (ge_x_symm z)
    · rw [List.mem_singleton.mp h, List.mem_singleton.mp g]
      intro z
      have : ge_o a c a = 0 := by unfold ge_o; grind
      have z1 : ge_o a c a * ge_o a c c < 0 := z.1
      rw [this, Int.zero_mul] at z1
      omega
/-- b lies lower than all of them, or as low and to the right -/
def ge_low (b v : GPt) : Prop := b.2 < v.2 ∨ (b.2 = v.2 ∧ v.1 < b.1)
theorem ge_cs_low {b u v : GPt} (hu : ge_low b u) (hv : ge_low b v) : ge_cs u v b = false := by
  rcases hu with hu | ⟨hu, hu'⟩ <;> rcases hv with hv | ⟨hv, hv'⟩
  · exact ge_cs_hi hu hv
  · rw [ge_cs_comm, ge_cs_up (by omega) hu]
    have : ge_o v u b = (u.2 - v.2) * (v.1 - b.1) := by unfold ge_o; rw [hv]; grind
    have k := Int.mul_pos (show 0 < u.2 - v.2 by omega) (show 0 < b.1 - v.1 by omega)
    have : ¬ 0 < ge_o v u b := by grind
    simp [this]
  · rw [ge_cs_up (by omega) hv]
    have : ge_o u v b = (v.2 - u.2) * (u.1 - b.1) := by unfold ge_o; rw [hu]; grind
    have k := Int.mul_pos (show 0 < v.2 - u.2 by omega) (show 0 < b.1 - u.1 by omega)
    have : ¬ 0 < ge_o u v b := by grind
    simp [this]
  · exact ge_cs_lo (by omega) (by omega)
theorem ge_pp_low {b : GPt} : ∀ (l : List GPt), (∀ v ∈ l, ge_low b v) → ge_pp l b = false
  | [], _ => rfl
  | [_], _ => rfl
  | u :: v :: r, h => by
    show (ge_cs u v b != ge_pp (v :: r) b) = false
    rw [ge_cs_low (h u List.mem_cons_self) (h v (List.mem_cons_of_mem _ List.mem_cons_self)), ge_pp_low (v :: r) (fun z hz => h z (List.mem_cons_of_mem _ hz))]
    rfl
theorem ge_par_low {b : GPt} {l : List GPt} (h : ∀ v ∈ l, ge_low b v) : ge_par l b = false := ge_pp_low _ (fun v hv => h v (ge_cy_mem hv))
/-- the rest counts nothing in the triangle off the cut -/
theorem ge_A1 (hF : 0 < ge_o a b c) (hs : ge_simple (b :: c :: (mid ++ [a]))) (he : ∀ w ∈ c :: (mid ++ [a]), w ≠ a → w ≠ c → ¬ ge_in a b c w) (hl : ∀ v ∈ c :: (mid ++ [a]), ge_low b v) {p : GPt} (hp : ge_in a b c p) (hp3 : 0 < ge_o c a p) : ge_par (c :: (mid ++ [a])) p = false := by
  have hsd := ge_sides hs he
  have zb : ge_o c a b = ge_o a b c := by rw [ge_o_cyc, ge_o_cyc]
  have z1 : ge_o a b b = 0 := by unfold ge_o; grind
  have z2 : ge_o b c b = 0 := by unfold ge_o; grind
  rw [← ge_par_low hl]
  refine ge_par_mv (fun e h => ?_)
  rw [ge_E_cut] at h
  rcases List.mem_append.mp h with h | h
  · exact ge_free (hsd e h) hp hp3 ⟨by omega, by omega, by omega⟩ (by omega)
  · rw [List.mem_singleton.mp h]
    exact ge_free3 hp3 (show 0 < ge_o c a b by omega)
end Cut
-- g8.good
/-! what a good ear is, at every scale; the lowest corner with an empty triangle is one -/
/-- the closed triangle, whichever way round -/
def ge_tc (x e y w : GPt) : Prop := ge_in x e y w ∨ ge_in y e x w
theorem ge_tc_symm {x e y w : GPt} (h : ge_tc x e y w) : ge_tc y e x w := Or.comm.mp h
theorem ge_tc_in {x e y w : GPt} (hF : 0 < ge_o x e y) (h : ge_tc x e y w) : ge_in x e y w := by
  rcases h with h | ⟨h1, h2, h3⟩
  · exact h
  · have b0 := ge_b0 y e x w
    have : ge_o y e x = -ge_o x e y := by unfold ge_o; grind
    omega
def ge_off (l : List GPt) (p : GPt) : Prop := ∀ f ∈ ge_E l, ¬ ge_on f.1 f.2 p
def ge_good (l : List GPt) (x e y : GPt) : Prop := (∀ w ∈ l, w ≠ x → w ≠ e → w ≠ y → ¬ ge_tc x e y w) ∧ ∀ k : Int, 0 < k → ∀ p : GPt, ge_tc (ge_s k x) (ge_s k e) (ge_s k y) p → ge_off (ge_S k l) p → ge_par (ge_S k l) p = true
theorem ge_good_symm {l : List GPt} {x e y : GPt} (h : ge_good l x e y) : ge_good l y e x := ⟨fun w hw h1 h2 h3 z => h.1 w hw h3 h2 h1 (ge_tc_symm z), fun k hk p hp ho => h.2 k hk p (ge_tc_symm hp) ho⟩
theorem ge_S_ear (k : Int) (a b c : GPt) (mid : List GPt) : ge_S k (b :: c :: (mid ++ [a])) = ge_s k b :: ge_s k c :: (ge_S k mid ++ [ge_s k a]) := by simp [ge_S]
theorem ge_S_cut (k : Int) (a c : GPt) (mid : List GPt) : ge_S k (c :: (mid ++ [a])) = ge_s k c :: (ge_S k mid ++ [ge_s k a]) := by simp [ge_S]
theorem ge_simple_S {k : Int} (hk : 0 < k) {l : List GPt} (h : ge_simple l) : ge_simple (ge_S k l) := by
  obtain ⟨hn, hv, hx⟩ := h
  refine ⟨?_, ?_, ?_⟩
  · unfold ge_S
    exact List.pairwise_map.mpr (List.Pairwise.imp (fun h z => h (ge_s_inj hk z)) hn)
  · intro w hw e he z
    obtain ⟨w0, hw0, rfl⟩ := List.mem_map.mp hw
    rw [ge_E_S] at he
    obtain ⟨e0, he0, rfl⟩ := List.mem_map.mp he
    rcases hv w0 hw0 e0 he0 ((ge_on_s hk _ _ _).mp z) with q | q
    · exact Or.inl (by rw [q])
    · exact Or.inr (by rw [q])
  · intro e he f hf z
    rw [ge_E_S] at he hf
    obtain ⟨e0, he0, rfl⟩ := List.mem_map.mp he
    obtain ⟨f0, hf0, rfl⟩ := List.mem_map.mp hf
    exact hx e0 he0 f0 hf0 ((ge_x_s hk _ _ _ _).mp z)
theorem ge_low_s {k : Int} (hk : 0 < k) {b v : GPt} (h : ge_low b v) : ge_low (ge_s k b) (ge_s k v) := by
  rcases h with h | ⟨h1, h2⟩
  · exact Or.inl ((ge_sg_lt hk).mpr h)
  · exact Or.inr ⟨show k * b.2 = k * v.2 by rw [h1], (ge_sg_lt hk).mpr h2⟩
theorem ge_off_s {k : Int} (hk : 0 < k) {l : List GPt} {p : GPt} (h : ge_off l p) : ge_off (ge_S k l) (ge_s k p) := by
  intro f hf z
  rw [ge_E_S] at hf
  obtain ⟨f0, hf0, rfl⟩ := List.mem_map.mp hf
  exact h f0 hf0 ((ge_on_s hk _ _ _).mp z)
/-- a line with both points strictly on one side isn't met -/
theorem ge_free_line {u v p q : GPt} (h1 : 0 < ge_o u v p) (h2 : 0 < ge_o u v q) : ¬ ge_meet u v p q := fun z => ge_free3 (a := v) (c := u) h1 h2 (ge_meet_flip z)
section CaseA
variable {a b c : GPt} {mid : List GPt}
/-- in the lowest corner's empty triangle, also on the cut, the polygon counts odd -/
theorem ge_A2 (hF : 0 < ge_o a b c) (hs : ge_simple (b :: c :: (mid ++ [a]))) (he : ∀ w ∈ c :: (mid ++ [a]), w ≠ a → w ≠ c → ¬ ge_in a b c w) (hl : ∀ v ∈ c :: (mid ++ [a]), ge_low b v) {p : GPt} (hp : ge_in a b c p) (ho : ge_off (b :: c :: (mid ++ [a])) p) (hp3 : 0 < ge_o c a p) : ge_par (b :: c :: (mid ++ [a])) p = true := by
  have hab : (a, b) ∈ ge_E (b :: c :: (mid ++ [a])) := by rw [ge_E_ear]; simp
  have hbc : (b, c) ∈ ge_E (b :: c :: (mid ++ [a])) := by rw [ge_E_ear]; simp
  have n1 : ¬ ge_on a b p := ho _ hab
  have n2 : ¬ ge_on b c p := ho _ hbc
  have n3 : ¬ ge_on c a p := fun z => by have := z.1; omega
  have p1 : 0 < ge_o a b p := by
    rcases Int.lt_or_eq_of_le hp.1 with z | z
    · exact z
    · exact absurd (ge_in_on hF hp z.symm) n1
  have p2 : 0 < ge_o b c p := by
    rcases Int.lt_or_eq_of_le hp.2.1 with z | z
    · exact z
    · exact absurd (ge_in_on (by rw [ge_o_cyc]; exact hF) (ge_in_cyc hp) z.symm) n2
  rw [ge_par_ear, ge_A1 hF hs he hl hp hp3, (ge_tri hF n1 n2 n3).mpr ⟨p1, p2, hp3⟩]
  rfl
theorem ge_A3 (hF : 0 < ge_o a b c) (hs : ge_simple (b :: c :: (mid ++ [a]))) (he : ∀ w ∈ c :: (mid ++ [a]), w ≠ a → w ≠ c → ¬ ge_in a b c w) (hl : ∀ v ∈ c :: (mid ++ [a]), ge_low b v) {p : GPt} (hp : ge_in a b c p) (ho : ge_off (b :: c :: (mid ++ [a])) p) : ge_par (b :: c :: (mid ++ [a])) p = true := by
  rcases Int.lt_or_eq_of_le hp.2.2 with hp3 | hp3
  · exact ge_A2 hF hs he hl hp ho hp3
  · have hp0 : ge_o c a p = 0 := hp3.symm
    have hab : (a, b) ∈ ge_E (b :: c :: (mid ++ [a])) := by rw [ge_E_ear]; simp
    have hbc : (b, c) ∈ ge_E (b :: c :: (mid ++ [a])) := by rw [ge_E_ear]; simp
    have p1 : 0 < ge_o a b p := by
      rcases Int.lt_or_eq_of_le hp.1 with z | z
      · exact z
      · exact absurd (ge_in_on hF hp z.symm) (ho _ hab)
    have p2 : 0 < ge_o b c p := by
      rcases Int.lt_or_eq_of_le hp.2.1 with z | z
      · exact z
      · exact absurd (ge_in_on (by rw [ge_o_cyc]; exact hF) (ge_in_cyc hp) z.symm) (ho _ hbc)
    -- the middle of b and p, at scale 2
    have h2 : (0 : Int) < 2 := by decide
    obtain ⟨g, hg⟩ : ∃ g : GPt, g = (p.1 + b.1, p.2 + b.2) := ⟨_, rfl⟩
    have f : ∀ u v : GPt, ge_o (ge_s 2 u) (ge_s 2 v) g = 2 * (ge_o u v p + ge_o u v b) := fun u v => by rw [hg]; unfold ge_s ge_o; grind
    have z1 : ge_o a b b = 0 := by unfold ge_o; grind
    have z2 : ge_o b c b = 0 := by unfold ge_o; grind
    have z3 : ge_o c a b = ge_o a b c := by rw [ge_o_cyc, ge_o_cyc]
    have g1 : 0 < ge_o (ge_s 2 a) (ge_s 2 b) g := by rw [f]; omega
    have g2 : 0 < ge_o (ge_s 2 b) (ge_s 2 c) g := by rw [f]; omega
    have g3 : 0 < ge_o (ge_s 2 c) (ge_s 2 a) g := by rw [f]; omega
    have sd := ge_sides hs he
    have sd2 : ∀ e ∈ ge_ed (c :: (mid ++ [a])), ge_side (ge_s 2 a) (ge_s 2 b) (ge_s 2 c) (ge_s 2 e.1) (ge_s 2 e.2) := fun e h => ge_side_s h2 (sd e h)
    have hp2 : ge_in (ge_s 2 a) (ge_s 2 b) (ge_s 2 c) (ge_s 2 p) := (ge_in_s h2 a b c p).mpr hp
    have hgin : ge_in (ge_s 2 a) (ge_s 2 b) (ge_s 2 c) g := ⟨by omega, by omega, by omega⟩
    have q1 : 0 < ge_o (ge_s 2 a) (ge_s 2 b) (ge_s 2 p) := by rw [ge_o_s]; omega
    have q2 : 0 < ge_o (ge_s 2 b) (ge_s 2 c) (ge_s 2 p) := by rw [ge_o_s]; omega
    have q3 : ge_o (ge_s 2 c) (ge_s 2 a) (ge_s 2 p) = 0 := by rw [ge_o_s]; omega
    have hpg : ge_s 2 p ≠ g := fun z => by rw [z] at q3; omega
    have inn : ∀ z : GPt, ge_on (ge_s 2 p) g z → z = ge_s 2 p ∨ (ge_in (ge_s 2 a) (ge_s 2 b) (ge_s 2 c) z ∧ 0 < ge_o (ge_s 2 c) (ge_s 2 a) z) := fun z hz => by
      obtain ⟨i, j, w⟩ := ge_on_wt hpg hz
      by_cases hj : j = 0
      · subst hj
        exact Or.inl (ge_wt_0 w)
      · refine Or.inr ⟨ge_wt_in w hp2 hgin, ?_⟩
        have e := ge_wt_o w (ge_s 2 c) (ge_s 2 a)
        rw [q3, Int.mul_zero] at e
        have := Int.mul_pos (show 0 < j by have := w.2.1; omega) g3
        exact ge_pos w.2.2.1 (by omega)
    have free : ∀ e ∈ ge_E (ge_S 2 (b :: c :: (mid ++ [a]))), ¬ ge_meet e.1 e.2 (ge_s 2 p) g := by
      intro e he2 hm
      rw [ge_E_S] at he2
      obtain ⟨e0, he0, rfl⟩ := List.mem_map.mp he2
      have off : ¬ ge_on (ge_s 2 e0.1) (ge_s 2 e0.2) (ge_s 2 p) := fun z => ho e0 he0 ((ge_on_s h2 _ _ _).mp z)
      rw [ge_E_ear] at he0
      rcases List.mem_cons.mp he0 with h | h
      · subst h
        exact ge_free_line q2 g2 hm
      · rcases List.mem_append.mp h with h | h
        · have sde := sd2 e0 h
          rcases hm with z | z | z | z | z
          · exact off z
          · exact ge_side_K sde z hgin g3
          · rcases inn _ z with q | q
            · exact off (by rw [← q]; exact ge_on_l _ _)
            · exact sde.2.1 q
          · rcases inn _ z with q | q
            · exact off (by rw [← q]; exact ge_on_r _ _)
            · exact sde.2.2.1 q
          · obtain ⟨m, r, i, j, i', j', hm, w, w', hi, hj, -⟩ := ge_x_pt z
            refine ge_side_K (ge_side_s hm sde) (ge_wt_on w') (ge_wt_in w ((ge_in_s hm _ _ _ _).mpr hp2) ((ge_in_s hm _ _ _ _).mpr hgin)) ?_
            have e := ge_wt_o w (ge_s m (ge_s 2 c)) (ge_s m (ge_s 2 a))
            rw [ge_o_s, q3, Int.mul_zero, Int.mul_zero, ge_o_s] at e
            have := Int.mul_pos hj (Int.mul_pos (ge_mm hm) g3)
            exact ge_pos w.2.2.1 (by omega)
        · rw [List.mem_singleton.mp h] at hm
          exact ge_free_line q1 g1 hm
    have k := ge_par_mv free
    rw [ge_par_s h2] at k
    rw [k, ge_S_ear]
    rw [ge_S_ear] at free
    refine ge_A2 (mid := ge_S 2 mid) (by rw [ge_o_s]; omega) (by rw [← ge_S_ear]; exact ge_simple_S h2 hs) ?_ ?_ hgin ?_ g3
    · intro w hw h1 h2' z
      rw [← ge_S_cut] at hw
      obtain ⟨w0, hw0, rfl⟩ := List.mem_map.mp hw
      exact he w0 hw0 (fun q => h1 (by rw [q])) (fun q => h2' (by rw [q])) ((ge_in_s h2 _ _ _ _).mp z)
    · intro v hv
      rw [← ge_S_cut] at hv
      obtain ⟨w0, hw0, rfl⟩ := List.mem_map.mp hv
      exact ge_low_s h2 (hl w0 hw0)
    · intro e he2 z
      exact free e he2 (Or.inr (Or.inl z))
theorem ge_goodA (hF : 0 < ge_o a b c) (hs : ge_simple (b :: c :: (mid ++ [a]))) (he : ∀ w ∈ c :: (mid ++ [a]), w ≠ a → w ≠ c → ¬ ge_in a b c w) (hl : ∀ v ∈ c :: (mid ++ [a]), ge_low b v) : ge_good (b :: c :: (mid ++ [a])) a b c := by
  refine ⟨fun w hw h1 h2 h3 z => ?_, fun k hk p hp ho => ?_⟩
  · rcases List.mem_cons.mp hw with q | q
    · exact h2 q
    · exact he w q h1 h3 (ge_tc_in hF z)
  · have hF' : 0 < ge_o (ge_s k a) (ge_s k b) (ge_s k c) := by rw [ge_o_s]; exact Int.mul_pos (ge_mm hk) hF
    rw [ge_S_ear] at ho ⊢
    refine ge_A3 (mid := ge_S k mid) hF' (by rw [← ge_S_ear]; exact ge_simple_S hk hs) ?_ ?_ (ge_tc_in hF' hp) ho
    · intro w hw h1 h2' z
      rw [← ge_S_cut] at hw
      obtain ⟨w0, hw0, rfl⟩ := List.mem_map.mp hw
      exact he w0 hw0 (fun q => h1 (by rw [q])) (fun q => h2' (by rw [q])) ((ge_in_s hk _ _ _ _).mp z)
    · intro v hv
      rw [← ge_S_cut] at hv
      obtain ⟨w0, hw0, rfl⟩ := List.mem_map.mp hv
      exact ge_low_s hk (hl w0 hw0)
end CaseA
-- g9.eqv
/-! good ears don't depend on where the list begins, nor on its direction; the step over the lowest corner if its triangle is empty -/
def ge_adj (l : List GPt) (u v : GPt) : Prop := (u, v) ∈ ge_E l ∨ (v, u) ∈ ge_E l
theorem ge_adj_symm {l : List GPt} {u v : GPt} (h : ge_adj l u v) : ge_adj l v u := Or.comm.mp h
/-- for each edge a good ear that isn't one of its ends -/
def ge_PE (l : List GPt) : Prop := ∀ u v : GPt, ge_adj l u v → ∃ x e y : GPt, ge_adj l x e ∧ ge_adj l e y ∧ x ≠ y ∧ e ≠ u ∧ e ≠ v ∧ ge_o x e y ≠ 0 ∧ ge_good l x e y
def ge_eqv (l l' : List GPt) : Prop := (∀ v : GPt, v ∈ l ↔ v ∈ l') ∧ (∀ u v : GPt, ge_adj l u v ↔ ge_adj l' u v) ∧ ∀ (k : Int) (p : GPt), ge_par (ge_S k l) p = ge_par (ge_S k l') p
theorem ge_off_iff {l : List GPt} {k : Int} {p : GPt} : ge_off (ge_S k l) p ↔ ∀ u v : GPt, ge_adj l u v → ¬ ge_on (ge_s k u) (ge_s k v) p := by
  unfold ge_off
  rw [ge_E_S]
  constructor
  · intro h u v huv z
    rcases huv with q | q
    · exact h (ge_s k u, ge_s k v) (List.mem_map.mpr ⟨(u, v), q, rfl⟩) z
    · exact h (ge_s k v, ge_s k u) (List.mem_map.mpr ⟨(v, u), q, rfl⟩) (ge_on_symm z)
  · intro h f hf z
    obtain ⟨f0, hf0, rfl⟩ := List.mem_map.mp hf
    exact h f0.1 f0.2 (Or.inl hf0) z
theorem ge_eqv_symm {l l' : List GPt} (h : ge_eqv l l') : ge_eqv l' l := ⟨fun v => (h.1 v).symm, fun u v => (h.2.1 u v).symm, fun k p => (h.2.2 k p).symm⟩
theorem ge_eqv_trans {l l' l'' : List GPt} (h : ge_eqv l l') (g : ge_eqv l' l'') : ge_eqv l l'' := ⟨fun v => (h.1 v).trans (g.1 v), fun u v => (h.2.1 u v).trans (g.2.1 u v), fun k p => (h.2.2 k p).trans (g.2.2 k p)⟩
theorem ge_eqv_off {l l' : List GPt} (h : ge_eqv l l') {k : Int} {p : GPt} : ge_off (ge_S k l) p ↔ ge_off (ge_S k l') p := by
  rw [ge_off_iff, ge_off_iff]
  exact ⟨fun g u v q => g u v ((h.2.1 u v).mpr q), fun g u v q => g u v ((h.2.1 u v).mp q)⟩
theorem ge_eqv_good {l l' : List GPt} (h : ge_eqv l l') {x e y : GPt} (g : ge_good l x e y) : ge_good l' x e y :=
  ⟨fun w hw => g.1 w ((h.1 w).mpr hw), fun k hk p hp ho => by rw [← h.2.2]; exact g.2 k hk p hp ((ge_eqv_off h).mpr ho)⟩
theorem ge_eqv_PE {l l' : List GPt} (h : ge_eqv l l') (g : ge_PE l) : ge_PE l' := by
  intro u v huv
  obtain ⟨x, e, y, h1, h2, h3, h4, h5, h6, h7⟩ := g u v ((h.2.1 u v).mpr huv)
  exact ⟨x, e, y, (h.2.1 x e).mp h1, (h.2.1 e y).mp h2, h3, h4, h5, h6, ge_eqv_good h h7⟩
theorem ge_eqv_simple {l l' : List GPt} (h : ge_eqv l l') (hn : l'.Nodup) (g : ge_simple l) : ge_simple l' := by
  obtain ⟨-, hv, hx⟩ := g
  have back : ∀ e ∈ ge_E l', e ∈ ge_E l ∨ (e.2, e.1) ∈ ge_E l := fun e he => (h.2.1 e.1 e.2).mpr (Or.inl he)
  refine ⟨hn, fun w hw e he z => ?_, fun e he f hf z => ?_⟩
  · rcases back e he with q | q
    · exact hv w ((h.1 w).mpr hw) e q z
    · exact (hv w ((h.1 w).mpr hw) _ q (ge_on_symm z)).symm
  · rcases back e he with q | q <;> rcases back f hf with r | r
    · exact hx _ q _ r z
    · exact hx _ q _ r (ge_x_symm (ge_x_swap (ge_x_symm z)))
    · exact hx _ q _ r (ge_x_swap z)
    · exact hx _ q _ r (ge_x_symm (ge_x_swap (ge_x_symm (ge_x_swap z))))
theorem ge_S_app (k : Int) (s t : List GPt) : ge_S k (s ++ t) = ge_S k s ++ ge_S k t := by simp [ge_S]
theorem ge_eqv_rot (s t : List GPt) : ge_eqv (s ++ t) (t ++ s) := by
  refine ⟨fun v => by simp [Or.comm], fun u v => ?_, fun k p => ?_⟩
  · unfold ge_adj
    rw [ge_E_rot s t, ge_E_rot s t]
  · rw [ge_S_app, ge_S_app, ge_par_rot]
theorem ge_ed_rev (l : List GPt) (u v : GPt) : (u, v) ∈ ge_ed l.reverse ↔ (v, u) ∈ ge_ed l := by
  induction l with
  | nil => simp [ge_ed]
  | cons a r ih =>
    cases r with
    | nil => simp [ge_ed]
    | cons b r =>
      rw [show (a :: b :: r).reverse = r.reverse ++ b :: [a] by simp, ge_ed_app]
      rw [show r.reverse ++ [b] = (b :: r).reverse by simp, List.mem_append, ih]
      show (v, u) ∈ ge_ed (b :: r) ∨ (u, v) ∈ [(b, a)] ↔ (v, u) ∈ (a, b) :: ge_ed (b :: r)
      simp
      grind
theorem ge_pp_rev (l : List GPt) (p : GPt) : ge_pp l.reverse p = ge_pp l p := by
  induction l with
  | nil => rfl
  | cons a r ih =>
    cases r with
    | nil => rfl
    | cons b r =>
      rw [show (a :: b :: r).reverse = r.reverse ++ b :: [a] by simp, ge_pp_app]
      rw [show r.reverse ++ [b] = (b :: r).reverse by simp, ih]
      show (ge_pp (b :: r) p != (ge_cs b a p != false)) = (ge_cs a b p != ge_pp (b :: r) p)
      rw [ge_cs_comm b a]
      cases ge_pp (b :: r) p <;> cases ge_cs a b p <;> rfl
theorem ge_cy_rev (b : GPt) (t : List GPt) : ge_cy (b :: t.reverse) = (ge_cy (b :: t)).reverse := by simp [ge_cy]
theorem ge_eqv_rev (b : GPt) (t : List GPt) : ge_eqv (b :: t) (b :: t.reverse) := by
  refine ⟨fun v => by simp, fun u v => ?_, fun k p => ?_⟩
  · unfold ge_adj ge_E
    rw [ge_cy_rev, ge_ed_rev, ge_ed_rev]
    exact Or.comm
  · rw [show ge_S k (b :: t.reverse) = ge_s k b :: (ge_S k t).reverse by simp [ge_S]]
    unfold ge_par
    rw [ge_cy_rev, ge_pp_rev]
    rfl
/-- a point that lies lower than the corners isn't in the triangle -/
theorem ge_low_in {x e y b : GPt} (hF : 0 < ge_o x e y) (hx : ge_low b x) (he : ge_low b e) (hy : ge_low b y) : ¬ ge_in x e y b := by
  rintro ⟨h1, h2, h3⟩
  have b0 := ge_b0 x e y b
  have by' := ge_by x e y b
  have bx := ge_bx x e y b
  have nn : ∀ {w : GPt}, ge_low b w → 0 ≤ w.2 - b.2 := fun h => by rcases h with h | ⟨h, -⟩ <;> omega
  have k1 := Int.mul_nonneg h2 (nn hx)
  have k2 := Int.mul_nonneg h3 (nn he)
  have k3 := Int.mul_nonneg h1 (nn hy)
  have e1 : ge_o e y b * (x.2 - b.2) = 0 := by omega
  have e2 : ge_o y x b * (e.2 - b.2) = 0 := by omega
  have e3 : ge_o x e b * (y.2 - b.2) = 0 := by omega
  have lt : ∀ {w : GPt} {k : Int}, ge_low b w → 0 ≤ k → k * (w.2 - b.2) = 0 → k * (w.1 - b.1) ≤ 0 ∧ (0 < k → k * (w.1 - b.1) < 0) := fun {w k} h hk hz => by
    rcases h with h | ⟨h, h'⟩
    · have : k = 0 := by rcases Int.mul_eq_zero.mp hz with q | q <;> omega
      subst this
      exact ⟨by rw [Int.zero_mul]; exact Int.le_refl _, fun q => by omega⟩
    · have m1 := Int.mul_nonneg hk (show 0 ≤ b.1 - w.1 by omega)
      refine ⟨by grind, fun q => ?_⟩
      have m2 := Int.mul_pos q (show 0 < b.1 - w.1 by omega)
      grind
  have l1 := lt hx h2 e1
  have l2 := lt he h3 e2
  have l3 := lt hy h1 e3
  omega
theorem ge_low_tc {x e y b : GPt} (hF : ge_o x e y ≠ 0) (hx : ge_low b x) (he : ge_low b e) (hy : ge_low b y) : ¬ ge_tc x e y b := by
  intro h
  rcases Int.lt_or_lt_of_ne hF with q | q
  · have : ge_o y e x = -ge_o x e y := by unfold ge_o; grind
    exact ge_low_in (by omega) hy he hx (ge_tc_in (by omega) (ge_tc_symm h))
  · exact ge_low_in q hx he hy (ge_tc_in q h)
section CaseA
variable {a b c : GPt} {mid : List GPt}
theorem ge_PE_A (hF : 0 < ge_o a b c) (hs : ge_simple (b :: c :: (mid ++ [a]))) (he : ∀ w ∈ c :: (mid ++ [a]), w ≠ a → w ≠ c → ¬ ge_in a b c w) (hl : ∀ v ∈ c :: (mid ++ [a]), ge_low b v) (ih : ge_PE (c :: (mid ++ [a]))) : ge_PE (b :: c :: (mid ++ [a])) := by
  have hn := hs.1
  obtain ⟨hb, hn'⟩ := List.nodup_cons.mp hn
  have hac : a ≠ c := fun z => by
    have : c ∉ mid ++ [a] := (List.nodup_cons.mp hn').1
    rw [← z] at this
    exact this (by simp)
  have hat : a ∈ c :: (mid ++ [a]) := by simp
  have good := ge_goodA hF hs he hl
  intro u v huv
  by_cases hbu : b = u ∨ b = v
  · obtain ⟨x, e, y, h1, h2, h3, h4, h5, h6, h7⟩ := ih a c (Or.inl (by rw [ge_E_cut]; simp))
    have lift : ∀ {w : GPt}, ge_adj (c :: (mid ++ [a])) w e → ge_adj (b :: c :: (mid ++ [a])) w e := fun {w} h => by
      unfold ge_adj at h ⊢
      rw [ge_E_cut] at h
      rw [ge_E_ear]
      rcases h with h | h
      · rcases List.mem_append.mp h with h | h
        · exact Or.inl (List.mem_cons_of_mem _ (List.mem_append_left _ h))
        · have := (Prod.mk.inj (List.mem_singleton.mp h)).2
          exact absurd this h5
      · rcases List.mem_append.mp h with h | h
        · exact Or.inr (List.mem_cons_of_mem _ (List.mem_append_left _ h))
        · have := (Prod.mk.inj (List.mem_singleton.mp h)).1
          exact absurd this h4
    have mem : ∀ {w : GPt}, ge_adj (c :: (mid ++ [a])) w e → w ∈ c :: (mid ++ [a]) ∧ e ∈ c :: (mid ++ [a]) := fun {w} h => by
      rcases h with h | h
      · exact ge_E_mem h
      · exact (ge_E_mem h).symm
    have hx := (mem h1).1
    have hem := (mem h1).2
    have hy := (mem (ge_adj_symm h2)).1
    have eb : e ≠ b := fun z => hb (z ▸ hem)
    have nb : ∀ {w : GPt}, ge_adj (b :: c :: (mid ++ [a])) b w → w = a ∨ w = c := fun {w} h => by
      unfold ge_adj at h
      rw [ge_E_ear] at h
      have nin : ∀ q : GPt × GPt, q ∈ ge_ed (c :: (mid ++ [a])) → q.1 ≠ b ∧ q.2 ≠ b := fun q hq => ⟨fun z => hb (z ▸ (ge_ed_mem _ q hq).1), fun z => hb (z ▸ (ge_ed_mem _ q hq).2)⟩
      rcases h with h | h
      · rcases List.mem_cons.mp h with h | h
        · exact Or.inr (Prod.mk.inj h).2
        · rcases List.mem_append.mp h with h | h
          · exact absurd rfl (nin _ h).1
          · have := (Prod.mk.inj (List.mem_singleton.mp h)).1
            exact absurd (this ▸ hat) hb
      · rcases List.mem_cons.mp h with h | h
        · have := (Prod.mk.inj h).2
          exact absurd (this ▸ List.mem_cons_self) hb
        · rcases List.mem_append.mp h with h | h
          · exact absurd rfl (nin _ h).2
          · exact Or.inl (Prod.mk.inj (List.mem_singleton.mp h)).1
    have euv : e ≠ u ∧ e ≠ v := by
      rcases hbu with q | q
      · subst q
        refine ⟨eb, fun z => ?_⟩
        rcases nb huv with r | r
        · exact h4 (z.trans r)
        · exact h5 (z.trans r)
      · subst q
        refine ⟨fun z => ?_, eb⟩
        rcases nb (ge_adj_symm huv) with r | r
        · exact h4 (z.trans r)
        · exact h5 (z.trans r)
    refine ⟨x, e, y, lift h1, ge_adj_symm (lift (ge_adj_symm h2)), h3, euv.1, euv.2, h6, ?_, ?_⟩
    · intro w hw w1 w2 w3
      rcases List.mem_cons.mp hw with q | q
      · rw [q]
        exact ge_low_tc h6 (hl x hx) (hl e hem) (hl y hy)
      · exact h7.1 w q w1 w2 w3
    · intro k hk p hp ho
      have hF' : 0 < ge_o (ge_s k a) (ge_s k b) (ge_s k c) := by rw [ge_o_s]; exact Int.mul_pos (ge_mm hk) hF
      have ac : (ge_s k a, ge_s k c) ∈ ge_E (ge_S k (c :: (mid ++ [a]))) := by rw [ge_E_S, ge_E_cut]; simp
      by_cases pac : ge_on (ge_s k a) (ge_s k c) p
      · exact good.2 k hk p (Or.inl (ge_ac_in hF' pac (fun z => hac (ge_s_inj hk z)))) ho
      · have off' : ge_off (ge_S k (c :: (mid ++ [a]))) p := by
          intro f hf z
          rw [ge_E_S, ge_E_cut] at hf
          obtain ⟨f0, hf0, rfl⟩ := List.mem_map.mp hf
          rcases List.mem_append.mp hf0 with q | q
          · refine ho (ge_s k f0.1, ge_s k f0.2) ?_ z
            rw [ge_E_S, ge_E_ear]
            exact List.mem_map.mpr ⟨f0, List.mem_cons_of_mem _ (List.mem_append_left _ q), rfl⟩
          · rw [List.mem_singleton.mp q] at z
            exact pac z
        have pt := h7.2 k hk p hp off'
        have n1 : ¬ ge_on (ge_s k a) (ge_s k b) p := fun z => ho (ge_s k a, ge_s k b) (by rw [ge_E_S, ge_E_ear]; simp) z
        have n2 : ¬ ge_on (ge_s k b) (ge_s k c) p := fun z => ho (ge_s k b, ge_s k c) (by rw [ge_E_S, ge_E_ear]; simp) z
        have n3 : ¬ ge_on (ge_s k c) (ge_s k a) p := fun z => pac (ge_on_symm z)
        have notT : ¬ ge_int (ge_s k a) (ge_s k b) (ge_s k c) p := fun z => by
          have z0 : ge_par (ge_S k (c :: (mid ++ [a]))) p = false := by
            rw [ge_S_cut]
            refine ge_A1 (mid := ge_S k mid) hF' (by rw [← ge_S_ear]; exact ge_simple_S hk hs) ?_ ?_ (ge_int_in z) z.2.2
            · intro w hw q1 q2 z
              rw [← ge_S_cut] at hw
              obtain ⟨w0, hw0, rfl⟩ := List.mem_map.mp hw
              exact he w0 hw0 (fun q => q1 (by rw [q])) (fun q => q2 (by rw [q])) ((ge_in_s hk _ _ _ _).mp z)
            · intro v hv
              rw [← ge_S_cut] at hv
              obtain ⟨w0, hw0, rfl⟩ := List.mem_map.mp hv
              exact ge_low_s hk (hl w0 hw0)
          rw [pt] at z0
          cases z0
        have tp0 : ge_tp (ge_s k a) (ge_s k b) (ge_s k c) p = false := by
          cases hq : ge_tp (ge_s k a) (ge_s k b) (ge_s k c) p with
          | false => rfl
          | true => exact absurd ((ge_tri hF' n1 n2 n3).mp hq) notT
        rw [ge_S_ear, ge_par_ear, tp0, ← ge_S_cut, pt]
        rfl
  · exact ⟨a, b, c, Or.inl (by rw [ge_E_ear]; simp), Or.inl (by rw [ge_E_ear]; simp), hac, fun z => hbu (Or.inl z), fun z => hbu (Or.inr z), by omega, good⟩
end CaseA
-- h1.meet
/-! meeting by signs is having a common point, at some scale -/
theorem ge_meet_pt {u v p q : GPt} (h : ge_meet u v p q) : ∃ (m : Int) (r : GPt), 0 < m ∧ ge_on (ge_s m u) (ge_s m v) r ∧ ge_on (ge_s m p) (ge_s m q) r := by
  rcases h with h | h | h | h | h
  · exact ⟨1, p, by decide, by rw [ge_s_1, ge_s_1]; exact h, by rw [ge_s_1, ge_s_1]; exact ge_on_l _ _⟩
  · exact ⟨1, q, by decide, by rw [ge_s_1, ge_s_1]; exact h, by rw [ge_s_1, ge_s_1]; exact ge_on_r _ _⟩
  · exact ⟨1, u, by decide, by rw [ge_s_1, ge_s_1]; exact ge_on_l _ _, by rw [ge_s_1, ge_s_1]; exact h⟩
  · exact ⟨1, v, by decide, by rw [ge_s_1, ge_s_1]; exact ge_on_r _ _, by rw [ge_s_1, ge_s_1]; exact h⟩
  · obtain ⟨m, r, i, j, i', j', hm, w, w', -⟩ := ge_x_pt h
    exact ⟨m, r, hm, ge_wt_on w', ge_wt_on w⟩
theorem ge_on_xx {p q v : GPt} (h0 : ge_o p q v = 0) (hx : p.1 < q.1) (h1 : p.1 ≤ v.1) (h2 : v.1 ≤ q.1) : ge_on p q v := by
  refine ge_wt_on (i := q.1 - v.1) (j := v.1 - p.1) ⟨by omega, by omega, by omega, by grind, ?_⟩
  unfold ge_o at h0
  grind
theorem ge_col_x {x y u v r : GPt} (hu : u.1 < r.1) (hv : r.1 < v.1) (hx : x.1 < r.1) (hy : r.1 < y.1) (sx : ge_o u v x = 0) (tu : ge_o x y u = 0) : ge_on u v x ∨ ge_on x y u := by
  rcases Int.le_total u.1 x.1 with z | z
  · exact Or.inl (ge_on_xx sx (by omega) z (by omega))
  · exact Or.inr (ge_on_xx tu (by omega) z (by omega))
theorem ge_col_y {x y u v r : GPt} (hu : u.2 < r.2) (hv : r.2 < v.2) (hx : x.2 < r.2) (hy : r.2 < y.2) (sx : ge_o u v x = 0) (tu : ge_o x y u = 0) : ge_on u v x ∨ ge_on x y u := by
  rcases Int.le_total u.2 x.2 with z | z
  · exact Or.inl (ge_on_y sx (by omega) z (by omega))
  · exact Or.inr (ge_on_y tu (by omega) z (by omega))
/-- strictly between, by weights -/
theorem ge_wt_btw {A B R i j : Int} (hi : 0 < i) (hj : 0 < j) (h : (i + j) * R = i * A + j * B) : (A < R ∧ R < B) ∨ (B < R ∧ R < A) ∨ (A = R ∧ B = R) := by
  rcases Int.lt_trichotomy A R with q | q | q
  · left
    refine ⟨q, ?_⟩
    have k := Int.mul_pos hi (show 0 < R - A by omega)
    have := ge_pos (t := B - R) hj (by grind)
    omega
  · right; right
    have := ge_zero (t := B - R) hj (by grind)
    exact ⟨q, by omega⟩
  · right; left
    refine ⟨?_, q⟩
    have k := Int.mul_pos hi (show 0 < A - R by omega)
    have := ge_pos (t := R - B) hj (by grind)
    omega
theorem ge_pt_meet {x y u v r : GPt} (hxy : x ≠ y) (huv : u ≠ v) (h1 : ge_on x y r) (h2 : ge_on u v r) : ge_meet x y u v := by
  obtain ⟨i, j, w⟩ := ge_on_wt hxy h1
  obtain ⟨i', j', w'⟩ := ge_on_wt huv h2
  by_cases e1 : i = 0
  · subst e1
    have := ge_wt_0 (ge_wt_swap w)
    subst this
    exact Or.inr (Or.inr (Or.inr (Or.inl h2)))
  by_cases e2 : j = 0
  · subst e2
    have := ge_wt_0 w
    subst this
    exact Or.inr (Or.inr (Or.inl h2))
  by_cases e3 : i' = 0
  · subst e3
    have := ge_wt_0 (ge_wt_swap w')
    subst this
    exact Or.inr (Or.inl h1)
  by_cases e4 : j' = 0
  · subst e4
    have := ge_wt_0 w'
    subst this
    exact Or.inl h1
  have hi : 0 < i := by have := w.1; omega
  have hj : 0 < j := by have := w.2.1; omega
  have hi' : 0 < i' := by have := w'.1; omega
  have hj' : 0 < j' := by have := w'.2.1; omega
  have s := ge_wt_o w u v
  have t := ge_wt_o w' x y
  rw [h2.1, Int.mul_zero] at s
  rw [h1.1, Int.mul_zero] at t
  rcases Int.lt_trichotomy (ge_o u v x) 0 with sx | sx | sx
  · have k := Int.mul_pos hi (show 0 < -ge_o u v x by omega)
    rw [Int.mul_neg] at k
    have sy : 0 < ge_o u v y := ge_pos hj (by omega)
    have sub := ge_o_sub x y u v
    have hne : ge_o x y u ≠ ge_o x y v := by omega
    rcases Int.lt_trichotomy (ge_o x y u) 0 with tu | tu | tu
    · have k2 := Int.mul_pos hi' (show 0 < -ge_o x y u by omega)
      rw [Int.mul_neg] at k2
      have tv : 0 < ge_o x y v := ge_pos hj' (by omega)
      refine Or.inr (Or.inr (Or.inr (Or.inr ⟨?_, ?_⟩)))
      · have := Int.mul_pos (show 0 < -ge_o x y u by omega) tv
        rw [Int.neg_mul] at this; omega
      · have := Int.mul_pos (show 0 < -ge_o u v x by omega) sy
        rw [Int.neg_mul] at this; omega
    · rw [tu, Int.mul_zero] at t
      have : ge_o x y v = 0 := ge_zero hj' (by omega)
      omega
    · have k2 := Int.mul_pos hi' tu
      have tv : 0 < -ge_o x y v := ge_pos hj' (by rw [Int.mul_neg]; omega)
      refine Or.inr (Or.inr (Or.inr (Or.inr ⟨?_, ?_⟩)))
      · have := Int.mul_pos tu tv
        rw [Int.mul_neg] at this; omega
      · have := Int.mul_pos (show 0 < -ge_o u v x by omega) sy
        rw [Int.neg_mul] at this; omega
  · rw [sx, Int.mul_zero] at s
    have sy : ge_o u v y = 0 := ge_zero hj (by omega)
    have sub := ge_o_sub x y u v
    have tt : ge_o x y u = ge_o x y v := by omega
    have tu : ge_o x y u = 0 := by
      rw [← tt] at t
      have : (i' + j') * ge_o x y u = 0 := by rw [Int.add_mul]; omega
      exact ge_zero (by omega) this
    have tv : ge_o x y v = 0 := by omega
    have fin : ge_on u v x ∨ ge_on u v y ∨ ge_on x y u ∨ ge_on x y v → ge_meet x y u v := fun q => by
      rcases q with q | q | q | q
      · exact Or.inr (Or.inr (Or.inl q))
      · exact Or.inr (Or.inr (Or.inr (Or.inl q)))
      · exact Or.inl q
      · exact Or.inr (Or.inl q)
    have neg : ∀ {A B C : GPt}, ge_o A B C = 0 → ge_o B A C = 0 := fun {A B C} h => by rw [ge_o_swap, h]; rfl
    apply fin
    rcases ge_wt_btw hi' hj' w'.2.2.2.1 with ⟨a1, a2⟩ | ⟨a1, a2⟩ | ⟨a1, a2⟩
    · rcases ge_wt_btw hi hj w.2.2.2.1 with ⟨b1, b2⟩ | ⟨b1, b2⟩ | ⟨b1, b2⟩
      · rcases ge_col_x a1 a2 b1 b2 sx tu with q | q
        · exact Or.inl q
        · exact Or.inr (Or.inr (Or.inl q))
      · rcases ge_col_x a1 a2 b1 b2 sy (neg tu) with q | q
        · exact Or.inr (Or.inl q)
        · exact Or.inr (Or.inr (Or.inl (ge_on_symm q)))
      · exfalso
        have hx1 : x.1 = y.1 := by omega
        have e : ge_o x y u = (y.2 - x.2) * (x.1 - u.1) := by unfold ge_o; grind
        rw [tu] at e
        rcases Int.mul_eq_zero.mp e.symm with q | q
        · exact hxy (Prod.ext hx1 (by omega))
        · omega
    · rcases ge_wt_btw hi hj w.2.2.2.1 with ⟨b1, b2⟩ | ⟨b1, b2⟩ | ⟨b1, b2⟩
      · rcases ge_col_x a1 a2 b1 b2 (neg sx) tv with q | q
        · exact Or.inl (ge_on_symm q)
        · exact Or.inr (Or.inr (Or.inr q))
      · rcases ge_col_x a1 a2 b1 b2 (neg sy) (neg tv) with q | q
        · exact Or.inr (Or.inl (ge_on_symm q))
        · exact Or.inr (Or.inr (Or.inr (ge_on_symm q)))
      · exfalso
        have hx1 : x.1 = y.1 := by omega
        have e : ge_o x y u = (y.2 - x.2) * (x.1 - u.1) := by unfold ge_o; grind
        rw [tu] at e
        rcases Int.mul_eq_zero.mp e.symm with q | q
        · exact hxy (Prod.ext hx1 (by omega))
        · omega
    · have hu1 : u.1 = v.1 := by omega
      have hx1 : x.1 = u.1 := by
        have e : ge_o u v x = (v.2 - u.2) * (u.1 - x.1) := by unfold ge_o; grind
        rw [sx] at e
        rcases Int.mul_eq_zero.mp e.symm with q | q
        · exact absurd (Prod.ext hu1 (by omega)) huv
        · omega
      rcases ge_wt_btw hi' hj' w'.2.2.2.2 with ⟨c1, c2⟩ | ⟨c1, c2⟩ | ⟨c1, c2⟩
      · rcases ge_wt_btw hi hj w.2.2.2.2 with ⟨b1, b2⟩ | ⟨b1, b2⟩ | ⟨b1, b2⟩
        · rcases ge_col_y c1 c2 b1 b2 sx tu with q | q
          · exact Or.inl q
          · exact Or.inr (Or.inr (Or.inl q))
        · rcases ge_col_y c1 c2 b1 b2 sy (neg tu) with q | q
          · exact Or.inr (Or.inl q)
          · exact Or.inr (Or.inr (Or.inl (ge_on_symm q)))
        · exact absurd (Prod.ext (by rcases ge_wt_btw hi hj w.2.2.2.1 with q | q | q <;> omega) (by omega)) hxy
      · rcases ge_wt_btw hi hj w.2.2.2.2 with ⟨b1, b2⟩ | ⟨b1, b2⟩ | ⟨b1, b2⟩
        · rcases ge_col_y c1 c2 b1 b2 (neg sx) tv with q | q
          · exact Or.inl (ge_on_symm q)
          · exact Or.inr (Or.inr (Or.inr q))
        · rcases ge_col_y c1 c2 b1 b2 (neg sy) (neg tv) with q | q
          · exact Or.inr (Or.inl (ge_on_symm q))
          · exact Or.inr (Or.inr (Or.inr (ge_on_symm q)))
        · exact absurd (Prod.ext (by rcases ge_wt_btw hi hj w.2.2.2.1 with q | q | q <;> omega) (by omega)) hxy
      · exact absurd (Prod.ext hu1 (by omega)) huv
  · have k := Int.mul_pos hi sx
    have sy : 0 < -ge_o u v y := ge_pos hj (by rw [Int.mul_neg]; omega)
    have sub := ge_o_sub x y u v
    rcases Int.lt_trichotomy (ge_o x y u) 0 with tu | tu | tu
    · have k2 := Int.mul_pos hi' (show 0 < -ge_o x y u by omega)
      rw [Int.mul_neg] at k2
      have tv : 0 < ge_o x y v := ge_pos hj' (by omega)
      refine Or.inr (Or.inr (Or.inr (Or.inr ⟨?_, ?_⟩)))
      · have := Int.mul_pos (show 0 < -ge_o x y u by omega) tv
        rw [Int.neg_mul] at this; omega
      · have := Int.mul_pos sx sy
        rw [Int.mul_neg] at this; omega
    · rw [tu, Int.mul_zero] at t
      have : ge_o x y v = 0 := ge_zero hj' (by omega)
      omega
    · have k2 := Int.mul_pos hi' tu
      have tv : 0 < -ge_o x y v := ge_pos hj' (by rw [Int.mul_neg]; omega)
      refine Or.inr (Or.inr (Or.inr (Or.inr ⟨?_, ?_⟩)))
      · have := Int.mul_pos tu tv
        rw [Int.mul_neg] at this; omega
      · have := Int.mul_pos sx sy
        rw [Int.mul_neg] at this; omega
theorem ge_meet_s {m : Int} (hm : 0 < m) (u v p q : GPt) : ge_meet (ge_s m u) (ge_s m v) (ge_s m p) (ge_s m q) ↔ ge_meet u v p q := by
  have h := ge_x_s hm u v p q
  unfold ge_x at h
  unfold ge_meet
  rw [ge_on_s hm, ge_on_s hm, ge_on_s hm, ge_on_s hm, h]
/-- a piece of an edge meets no more than the edge does -/
theorem ge_meet_part {x y a b p q : GPt} (hxy : x ≠ y) (hab : a ≠ b) (hp : ge_on a b p) (hq : ge_on a b q) (h : ge_meet x y p q) : ge_meet x y a b := by
  obtain ⟨m, r, hm, h1, h2⟩ := ge_meet_pt h
  rw [← ge_meet_s hm]
  have hp' := (ge_on_s hm a b p).mpr hp
  have hq' := (ge_on_s hm a b q).mpr hq
  have hab' : ge_s m a ≠ ge_s m b := fun z => hab (ge_s_inj hm z)
  refine ge_pt_meet (fun z => hxy (ge_s_inj hm z)) hab' h1 ?_
  by_cases e : ge_s m p = ge_s m q
  · rw [e] at h2
    rw [ge_on_pp h2]
    exact hq'
  · obtain ⟨i, j, w⟩ := ge_on_wt e h2
    obtain ⟨i1, j1, w1⟩ := ge_on_wt hab' hp'
    obtain ⟨i2, j2, w2⟩ := ge_on_wt hab' hq'
    obtain ⟨ii, ij, is, ix, iy⟩ := w
    obtain ⟨a1, a2, a3, ax, ay⟩ := w1
    obtain ⟨b1, b2, b3, bx, by'⟩ := w2
    have q1 := Int.mul_nonneg (Int.mul_nonneg ii a1) (Int.le_of_lt b3)
    have q2 := Int.mul_nonneg (Int.mul_nonneg ij b1) (Int.le_of_lt a3)
    have q3 := Int.mul_nonneg (Int.mul_nonneg ii a2) (Int.le_of_lt b3)
    have q4 := Int.mul_nonneg (Int.mul_nonneg ij b2) (Int.le_of_lt a3)
    have q5 := Int.mul_pos (Int.mul_pos is a3) b3
    refine ge_wt_on (i := i * i1 * (i2 + j2) + j * i2 * (i1 + j1)) (j := i * j1 * (i2 + j2) + j * j2 * (i1 + j1)) ⟨by omega, by omega, ?_, ?_, ?_⟩
    · have : i * i1 * (i2 + j2) + j * i2 * (i1 + j1) + (i * j1 * (i2 + j2) + j * j2 * (i1 + j1)) = (i + j) * (i1 + j1) * (i2 + j2) := by grind
      rw [this]; exact q5
    · have : (i * i1 * (i2 + j2) + j * i2 * (i1 + j1) + (i * j1 * (i2 + j2) + j * j2 * (i1 + j1))) * r.1 = (i1 + j1) * (i2 + j2) * ((i + j) * r.1) := by grind
      rw [this, ix]
      have e2 : (i1 + j1) * (i2 + j2) * (i * (ge_s m p).1 + j * (ge_s m q).1) = i * (i2 + j2) * ((i1 + j1) * (ge_s m p).1) + j * (i1 + j1) * ((i2 + j2) * (ge_s m q).1) := by grind
      rw [e2, ax, bx]; grind
    · have : (i * i1 * (i2 + j2) + j * i2 * (i1 + j1) + (i * j1 * (i2 + j2) + j * j2 * (i1 + j1))) * r.2 = (i1 + j1) * (i2 + j2) * ((i + j) * r.2) := by grind
      rw [this, iy]
      have e2 : (i1 + j1) * (i2 + j2) * (i * (ge_s m p).2 + j * (ge_s m q).2) = i * (i2 + j2) * ((i1 + j1) * (ge_s m p).2) + j * (i1 + j1) * ((i2 + j2) * (ge_s m q).2) := by grind
      rw [e2, ay, by']; grind
-- h2.diag
/-! the lowest corner's triangle holds vertices: the one farthest from the far side is joined to the corner; that diagonal meets no edge -/
/-- the triangle above the height h of z -/
def ge_up (h G : Int) (b a : GPt) : GPt := (h * b.1 + G * a.1, h * b.2 + G * a.2)
theorem ge_up1 (h G : Int) (a b p : GPt) : ge_o (ge_up h G b a) (ge_s (h + G) b) (ge_s (h + G) p) = G * (h + G) * ge_o a b p := by unfold ge_up ge_s ge_o; grind
theorem ge_up2 (h G : Int) (b c p : GPt) : ge_o (ge_s (h + G) b) (ge_up h G b c) (ge_s (h + G) p) = G * (h + G) * ge_o b c p := by unfold ge_up ge_s ge_o; grind
theorem ge_up3 (h G : Int) (a b c p : GPt) : ge_o (ge_up h G b c) (ge_up h G b a) (ge_s (h + G) p) = G * ((h + G) * ge_o c a p - h * ge_o c a b) := by unfold ge_up ge_s ge_o; grind
theorem ge_up_o (h G : Int) (b a x y : GPt) : ge_o (ge_s (h + G) x) (ge_s (h + G) y) (ge_up h G b a) = (h + G) * (h * ge_o x y b + G * ge_o x y a) := by unfold ge_up ge_s ge_o; grind
theorem ge_up_s (m h G : Int) (b a : GPt) : ge_s m (ge_up h G b a) = ge_up h G (ge_s m b) (ge_s m a) := by unfold ge_up ge_s; simp; constructor <;> grind
theorem ge_opp {p q : Int} (h : p * q < 0) : (p < 0 ∧ 0 < q) ∨ (0 < p ∧ q < 0) := by
  rcases Int.lt_trichotomy p 0 with z | z | z
  · exact Or.inl ⟨z, ge_ngt_of z h⟩
  · rw [z, Int.zero_mul] at h; omega
  · exact Or.inr ⟨z, ge_lt_of z h⟩
theorem ge_opp_mk1 {p q : Int} (h1 : p < 0) (h2 : 0 < q) : p * q < 0 := by
  have := Int.mul_pos (show 0 < -p by omega) h2
  rw [Int.neg_mul] at this
  omega
theorem ge_opp_mk2 {p q : Int} (h1 : 0 < p) (h2 : q < 0) : p * q < 0 := by rw [Int.mul_comm]; exact ge_opp_mk1 h2 h1
/-- if the line through x, y parts b from a point between a and b, it parts b from a -/
theorem ge_part_up {h G ob oa : Int} (hh : 0 ≤ h) (hG : 0 < G) (H : (h * ob + G * oa) * ob < 0) : oa * ob < 0 := by
  rcases ge_opp H with ⟨q1, q2⟩ | ⟨q1, q2⟩
  · have k := Int.mul_nonneg hh (Int.le_of_lt q2)
    have : 0 < -oa := ge_pos hG (by rw [Int.mul_neg]; omega)
    exact ge_opp_mk1 (by omega) q2
  · have k := Int.mul_nonneg hh (show 0 ≤ -ob by omega)
    rw [Int.mul_neg] at k
    have : 0 < oa := ge_pos hG (by omega)
    exact ge_opp_mk2 this q2
section Diag
variable {a b c x y : GPt} {h G : Int}
/-- beside the upper triangle an edge keeps what it keeps beside the whole, where its ends aren't higher than h -/
theorem ge_side_up (hh : 0 ≤ h) (hG : 0 < G) (hF : ge_o c a b = h + G) (hxy : x ≠ y) (hx : ge_in a b c x → ge_o c a x ≤ h) (hy : ge_in a b c y → ge_o c a y ≤ h) (c1 : ¬ ge_x x y a b) (c2 : ¬ ge_x x y b c)
    (na : ge_on x y a → a = x ∨ a = y) (nb : ¬ ge_on x y b) (nc : ge_on x y c → c = x ∨ c = y) : ge_side (ge_up h G b a) (ge_s (h + G) b) (ge_up h G b c) (ge_s (h + G) x) (ge_s (h + G) y) := by
  have hFp : 0 < h + G := by omega
  have hGF : 0 < G * (h + G) := Int.mul_pos hG hFp
  have low : ∀ w : GPt, (ge_in a b c w → ge_o c a w ≤ h) → ¬ (ge_in (ge_up h G b a) (ge_s (h + G) b) (ge_up h G b c) (ge_s (h + G) w) ∧ 0 < ge_o (ge_up h G b c) (ge_up h G b a) (ge_s (h + G) w)) := fun w hw z => by
    obtain ⟨⟨z1, z2, -⟩, z3⟩ := z
    rw [ge_up1] at z1
    rw [ge_up2] at z2
    rw [ge_up3, hF] at z3
    have q1 := ge_nn hGF z1
    have q2 := ge_nn hGF z2
    have e : (h + G) * ge_o c a w - h * (h + G) = (h + G) * (ge_o c a w - h) := by grind
    rw [e] at z3
    have q3 : 0 < ge_o c a w - h := ge_pos hFp (ge_pos hG z3)
    have := hw ⟨q1, q2, by omega⟩
    omega
  have sg : ∀ p q : Int, G * (h + G) * p * (G * (h + G) * q) < 0 → p * q < 0 := fun p q z => by
    have e : G * (h + G) * p * (G * (h + G) * q) = (G * (h + G)) * (G * (h + G)) * (p * q) := by grind
    rw [e] at z
    exact ge_lt_of (Int.mul_pos hGF hGF) z
  have sb : ∀ w : GPt, ge_o (ge_s (h + G) x) (ge_s (h + G) y) (ge_s (h + G) w) = (h + G) * (h + G) * ge_o x y w := fun w => ge_o_s _ _ _ _
  have FF : 0 < (h + G) * ((h + G) * (h + G)) := Int.mul_pos hFp (ge_mm hFp)
  -- a corner of the upper triangle on the edge
  have corner : ∀ w : GPt, (ge_on x y w → w = x ∨ w = y) → ge_o x y b ≠ 0 ∨ True → (ge_o x y w * ge_o x y b < 0 → False) → ge_on (ge_s (h + G) x) (ge_s (h + G) y) (ge_up h G b w) → ge_o w b x * ge_o w b y < 0 → False := fun w hw _ hc z q => by
    have e := z.1
    rw [ge_up_o] at e
    have e' : h * ge_o x y b + G * ge_o x y w = 0 := ge_zero hFp e
    by_cases hb0 : ge_o x y b = 0
    · rw [hb0, Int.mul_zero] at e'
      have hw0 : ge_o x y w = 0 := ge_zero hG (by omega)
      rcases ge_opp q with ⟨q1, q2⟩ | ⟨q1, q2⟩
      · have := ge_at (a := w) (b := b) (x := y) (y := x) (by rw [ge_o_swap, hw0]; rfl) q2 q1
        exact ge_end1 (hw (ge_on_symm this)) q
      · exact ge_end1 (hw (ge_at hw0 q1 q2)) q
    · by_cases hw0 : ge_o x y w = 0
      · rcases ge_opp q with ⟨q1, q2⟩ | ⟨q1, q2⟩
        · have := ge_at (a := w) (b := b) (x := y) (y := x) (by rw [ge_o_swap, hw0]; rfl) q2 q1
          exact ge_end1 (hw (ge_on_symm this)) q
        · exact ge_end1 (hw (ge_at hw0 q1 q2)) q
      · rcases Int.lt_or_lt_of_ne hb0 with r | r
        · have k := Int.mul_nonneg hh (show 0 ≤ -ge_o x y b by omega)
          rw [Int.mul_neg] at k
          have : 0 ≤ ge_o x y w := ge_nn hG (by omega)
          exact hc (ge_opp_mk2 (by omega) r)
        · have k := Int.mul_nonneg hh (Int.le_of_lt r)
          have : 0 ≤ -ge_o x y w := ge_nn hG (by rw [Int.mul_neg]; omega)
          exact hc (ge_opp_mk1 (by omega) r)
  have crossA : ge_o a b x * ge_o a b y < 0 → ge_o x y a * ge_o x y b < 0 → False := fun q r => c1 ⟨r, q⟩
  have crossC : ge_o b c x * ge_o b c y < 0 → ge_o x y c * ge_o x y b < 0 → False := fun q r => c2 ⟨by rw [Int.mul_comm]; exact r, q⟩
  have flip : ge_o c b x * ge_o c b y = ge_o b c x * ge_o b c y := by rw [ge_o_swap b c x, ge_o_swap b c y, Int.neg_mul_neg]
  refine ⟨fun z => hxy (ge_s_inj hFp z), low x hx, low y hy, fun z => ?_, fun z => ?_, fun z q => ?_, ?_, fun z q => ?_⟩
  · obtain ⟨z1, z2⟩ := z
    rw [ge_up1, ge_up1] at z2
    rw [ge_up_o, sb] at z1
    have e : (h + G) * (h * ge_o x y b + G * ge_o x y a) * ((h + G) * (h + G) * ge_o x y b) = (h + G) * ((h + G) * (h + G)) * ((h * ge_o x y b + G * ge_o x y a) * ge_o x y b) := by grind
    rw [e] at z1
    exact crossA (sg _ _ z2) (ge_part_up hh hG (ge_lt_of FF z1))
  · obtain ⟨z1, z2⟩ := z
    rw [ge_up2, ge_up2] at z2
    rw [ge_up_o, sb] at z1
    have e : (h + G) * (h + G) * ge_o x y b * ((h + G) * (h * ge_o x y b + G * ge_o x y c)) = (h + G) * ((h + G) * (h + G)) * ((h * ge_o x y b + G * ge_o x y c) * ge_o x y b) := by grind
    rw [e] at z1
    exact crossC (sg _ _ z2) (ge_part_up hh hG (ge_lt_of FF z1))
  · rw [ge_up1, ge_up1] at q
    have q' := sg _ _ q
    exact corner a na (Or.inr trivial) (crossA q') z q'
  · rw [ge_on_s hFp]; exact nb
  · rw [ge_up2, ge_up2] at q
    have q' := sg _ _ q
    exact corner c nc (Or.inr trivial) (crossC q') z (by rw [flip]; exact q')
/-- so it has no point higher than h in the triangle -/
theorem ge_U (hh : 0 ≤ h) (hG : 0 < G) (hF : ge_o c a b = h + G) (sd : ge_side (ge_up h G b a) (ge_s (h + G) b) (ge_up h G b c) (ge_s (h + G) x) (ge_s (h + G) y)) {m : Int} (hm : 0 < m) {r : GPt} (hr : ge_on (ge_s m x) (ge_s m y) r) (rT : ge_in (ge_s m a) (ge_s m b) (ge_s m c) r) : ge_o (ge_s m c) (ge_s m a) r ≤ m * m * h := by
  rcases Int.lt_or_le (m * m * h) (ge_o (ge_s m c) (ge_s m a) r) with z | z
  · exfalso
    have hFp : 0 < h + G := by omega
    have hGF : 0 < G * (h + G) := Int.mul_pos hG hFp
    have sd' := ge_side_s hm sd
    rw [ge_up_s, ge_up_s] at sd'
    have comm : ∀ w : GPt, ge_s m (ge_s (h + G) w) = ge_s (h + G) (ge_s m w) := fun w => by rw [ge_s_s, ge_s_s, Int.mul_comm]
    rw [comm, comm, comm] at sd'
    have e3 : ge_o (ge_s m c) (ge_s m a) (ge_s m b) = m * m * (h + G) := by rw [ge_o_s, hF]
    refine ge_side_K (r := ge_s (h + G) r) sd' ((ge_on_s hFp _ _ _).mpr hr) ⟨?_, ?_, ?_⟩ ?_
    · rw [ge_up1]; exact Int.mul_nonneg (Int.le_of_lt hGF) rT.1
    · rw [ge_up2]; exact Int.mul_nonneg (Int.le_of_lt hGF) rT.2.1
    · rw [ge_up3, e3]
      have e : (h + G) * ge_o (ge_s m c) (ge_s m a) r - h * (m * m * (h + G)) = (h + G) * (ge_o (ge_s m c) (ge_s m a) r - m * m * h) := by grind
      rw [e]
      exact Int.mul_nonneg (Int.le_of_lt hG) (Int.mul_nonneg (Int.le_of_lt hFp) (by omega))
    · rw [ge_up3, e3]
      have e : (h + G) * ge_o (ge_s m c) (ge_s m a) r - h * (m * m * (h + G)) = (h + G) * (ge_o (ge_s m c) (ge_s m a) r - m * m * h) := by grind
      rw [e]
      exact Int.mul_pos hG (Int.mul_pos hFp (by omega))
  · exact z
end Diag
-- h3.join
/-! an ear of one part of a parted polygon is an ear of the whole -/
theorem ge_free_end {a b c x y p q : GPt} (h : ge_side a b c x y) (hp : ge_in a b c p) (hpo : ¬ ge_on x y p) (hq : ge_in a b c q) (hq3 : 0 < ge_o c a q) : ¬ ge_meet x y p q := by
  rcases Int.lt_or_eq_of_le hp.2.2 with hp3 | hp3
  · exact ge_free h hp hp3 hq hq3
  · intro hm
    have hpq : p ≠ q := fun z => by rw [z] at hp3; omega
    have inn : ∀ z : GPt, ge_on p q z → z = p ∨ (ge_in a b c z ∧ 0 < ge_o c a z) := fun z hz => by
      obtain ⟨i, j, w⟩ := ge_on_wt hpq hz
      by_cases hj : j = 0
      · subst hj
        exact Or.inl (ge_wt_0 w)
      · refine Or.inr ⟨ge_wt_in w hp hq, ?_⟩
        have e := ge_wt_o w c a
        rw [← hp3, Int.mul_zero] at e
        have := Int.mul_pos (show 0 < j by have := w.2.1; omega) hq3
        exact ge_pos w.2.2.1 (by omega)
    rcases hm with z | z | z | z | z
    · exact hpo z
    · exact ge_side_K h z hq hq3
    · rcases inn _ z with r | r
      · exact hpo (by rw [← r]; exact ge_on_l _ _)
      · exact h.2.1 r
    · rcases inn _ z with r | r
      · exact hpo (by rw [← r]; exact ge_on_r _ _)
      · exact h.2.2.1 r
    · obtain ⟨m, r, i, j, i', j', hm, w, w', hi, hj, -⟩ := ge_x_pt z
      refine ge_side_K (ge_side_s hm h) (ge_wt_on w') (ge_wt_in w ((ge_in_s hm _ _ _ _).mpr hp) ((ge_in_s hm _ _ _ _).mpr hq)) ?_
      have e := ge_wt_o w (ge_s m c) (ge_s m a)
      rw [ge_o_s, ← hp3, Int.mul_zero, Int.mul_zero, ge_o_s] at e
      have := Int.mul_pos hj (Int.mul_pos (ge_mm hm) hq3)
      exact ge_pos w.2.2.1 (by omega)
section Join
variable {l Q1 Q2 : List GPt} {b z : GPt}
/-- the parts of a polygon parted by bz -/
def ge_parts (l Q1 Q2 : List GPt) (b z : GPt) : Prop :=
  (∀ u v : GPt, ge_adj Q1 u v → ge_adj l u v ∨ (u = b ∧ v = z) ∨ (u = z ∧ v = b)) ∧ (∀ u v : GPt, ge_adj Q2 u v → ge_adj l u v ∨ (u = b ∧ v = z) ∨ (u = z ∧ v = b)) ∧
  (∀ w ∈ l, w ∈ Q1 ∨ w ∈ Q2) ∧ (∀ w ∈ Q1, w ∈ l) ∧ (∀ w ∈ Q2, w ∈ l) ∧ (∀ w ∈ Q1, w ∈ Q2 → w = b ∨ w = z) ∧ b ∈ Q1 ∧ z ∈ Q1 ∧ b ≠ z ∧
  (∀ (k : Int) (p : GPt), ge_par (ge_S k l) p = (ge_par (ge_S k Q1) p != ge_par (ge_S k Q2) p)) ∧
  (∀ w ∈ Q2, w ≠ b → w ≠ z → ge_par Q1 w = false) ∧ (∀ w ∈ Q1, w ≠ b → w ≠ z → ge_par Q2 w = false) ∧
  (∀ (k : Int) (p : GPt), 0 < k → ge_on (ge_s k b) (ge_s k z) p → ge_off (ge_S k l) p → ge_par (ge_S k l) p = true) ∧
  (∀ w ∈ l, ge_on b z w → w = b ∨ w = z) ∧ (∀ u v : GPt, ge_adj l u v → ¬ ge_x u v b z) ∧ ge_simple l
theorem ge_adj_V {l : List GPt} (hs : ge_simple l) {u v w : GPt} (hw : w ∈ l) (h : ge_adj l u v) (ho : ge_on u v w) : w = u ∨ w = v := by
  rcases h with h | h
  · exact hs.2.1 w hw _ h ho
  · exact (hs.2.1 w hw _ h (ge_on_symm ho)).symm
theorem ge_adj_X {l : List GPt} (hs : ge_simple l) {u v x y : GPt} (h : ge_adj l u v) (g : ge_adj l x y) : ¬ ge_x u v x y := by
  intro q
  rcases h with h | h <;> rcases g with g | g
  · exact hs.2.2 _ h _ g q
  · exact hs.2.2 _ h _ g (ge_x_symm (ge_x_swap (ge_x_symm q)))
  · exact hs.2.2 _ h _ g (ge_x_swap q)
  · exact hs.2.2 _ h _ g (ge_x_swap (ge_x_symm (ge_x_swap (ge_x_symm q))))
theorem ge_adj_mem {l : List GPt} {u v : GPt} (h : ge_adj l u v) : u ∈ l ∧ v ∈ l := by
  rcases h with h | h
  · exact ge_E_mem h
  · exact (ge_E_mem h).symm
theorem ge_join1 (H : ge_parts l Q1 Q2 b z) (hne : ∀ u v : GPt, ge_adj l u v → u ≠ v) {x e y : GPt} (hF : 0 < ge_o x e y) (h1 : ge_adj l x e) (h2 : ge_adj l e y) (heQ : e ∈ Q1) (hxQ : x ∈ Q1) (hyQ : y ∈ Q1) (eb : e ≠ b) (ez : e ≠ z) (hg : ge_good Q1 x e y) : ge_good l x e y := by
  obtain ⟨hE1, hE2, hV, hV1, hV2, hVV, hbQ, hzQ, hbz, hpar, hc1, hc2, hin, hzV, hzX, hs⟩ := H
  have empty : ∀ w ∈ l, w ≠ x → w ≠ e → w ≠ y → ¬ ge_tc x e y w := by
    intro w hw w1 w2 w3 q
    by_cases hw1 : w ∈ Q1
    · exact hg.1 w hw1 w1 w2 w3 q
    · have hw2 : w ∈ Q2 := (hV w hw).resolve_left hw1
      have wb : w ≠ b := fun r => hw1 (r ▸ hbQ)
      have wz : w ≠ z := fun r => hw1 (r ▸ hzQ)
      have p0 := hc1 w hw2 wb wz
      have off : ge_off (ge_S 1 Q1) w := by
        rw [ge_off_iff]
        intro u v huv r
        rw [ge_s_1, ge_s_1] at r
        have mu := ge_adj_mem huv
        rcases hE1 u v huv with g | ⟨g1, g2⟩ | ⟨g1, g2⟩
        · rcases ge_adj_V hs hw g r with t | t
          · exact hw1 (t ▸ mu.1)
          · exact hw1 (t ▸ mu.2)
        · rw [g1, g2] at r
          exact (hzV w hw r).elim wb wz
        · rw [g1, g2] at r
          exact (hzV w hw (ge_on_symm r)).elim wb wz
      have p1 := hg.2 1 (by decide) w (by rw [ge_s_1, ge_s_1, ge_s_1]; exact q) off
      rw [ge_S_1, p0] at p1
      cases p1
  refine ⟨empty, fun k hk p hp ho => ?_⟩
  by_cases hbzp : ge_on (ge_s k b) (ge_s k z) p
  · exact hin k p hk hbzp ho
  · have hoi := ge_off_iff.mp ho
    have off1 : ge_off (ge_S k Q1) p := by
      rw [ge_off_iff]
      intro u v huv r
      rcases hE1 u v huv with g | ⟨g1, g2⟩ | ⟨g1, g2⟩
      · exact hoi u v g r
      · rw [g1, g2] at r; exact hbzp r
      · rw [g1, g2] at r; exact hbzp (ge_on_symm r)
    have q1 := hg.2 k hk p hp off1
    have hF' : 0 < ge_o (ge_s k x) (ge_s k e) (ge_s k y) := by rw [ge_o_s]; exact Int.mul_pos (ge_mm hk) hF
    have pin := ge_tc_in hF' hp
    have zx : ge_o y x e = ge_o x e y := by rw [ge_o_cyc, ge_o_cyc]
    have eQ2 : e ∉ Q2 := fun r => (hVV e heQ r).elim eb ez
    have q2 : ge_par (ge_S k Q2) p = ge_par (ge_S k Q2) (ge_s k e) := by
      refine ge_par_mv (fun f hf => ?_)
      rw [ge_E_S] at hf
      obtain ⟨f0, hf0, rfl⟩ := List.mem_map.mp hf
      have hadj : ge_adj Q2 f0.1 f0.2 := Or.inl hf0
      have mf := ge_adj_mem hadj
      have out : ∀ w ∈ Q2, ¬ (ge_in x e y w ∧ 0 < ge_o y x w) := fun w hw r => by
        by_cases wx : w = x
        · have : ge_o y x x = 0 := by unfold ge_o; grind
          rw [wx] at r; omega
        · by_cases wy : w = y
          · have : ge_o y x y = 0 := by unfold ge_o; grind
            rw [wy] at r; omega
          · exact empty w (hV2 w hw) wx (fun t => eQ2 (t ▸ hw)) wy (Or.inl r.1)
      have V : ∀ w ∈ l, ge_on f0.1 f0.2 w → w = f0.1 ∨ w = f0.2 := fun w hw r => by
        rcases hE2 _ _ hadj with g | ⟨g1, g2⟩ | ⟨g1, g2⟩
        · exact ge_adj_V hs hw g r
        · rw [g1, g2] at r ⊢
          exact hzV w hw r
        · rw [g1, g2] at r ⊢
          exact (hzV w hw (ge_on_symm r)).symm
      have X : ∀ u v : GPt, ge_adj l u v → ¬ ge_x f0.1 f0.2 u v := fun u v huv r => by
        rcases hE2 _ _ hadj with g | ⟨g1, g2⟩ | ⟨g1, g2⟩
        · exact ge_adj_X hs g huv r
        · rw [g1, g2] at r
          exact hzX u v huv (ge_x_symm r)
        · rw [g1, g2] at r
          exact hzX u v huv (ge_x_symm (ge_x_swap r))
      have ne : f0.1 ≠ f0.2 := by
        rcases hE2 _ _ hadj with g | ⟨g1, g2⟩ | ⟨g1, g2⟩
        · exact hne _ _ g
        · rw [g1, g2]; exact hbz
        · rw [g1, g2]; exact hbz.symm
      have side : ge_side x e y f0.1 f0.2 := ⟨ne, out _ mf.1, out _ mf.2, X x e h1, X e y h2, fun r => ge_end1 (V x (hV1 x hxQ) r), fun r => by
        rcases V e (hV1 e heQ) r with t | t
        · exact eQ2 (t ▸ mf.1)
        · exact eQ2 (t ▸ mf.2), fun r => ge_end2 (V y (hV1 y hyQ) r)⟩
      have pno : ¬ ge_on (ge_s k f0.1) (ge_s k f0.2) p := fun r => by
        rcases hE2 _ _ hadj with g | ⟨g1, g2⟩ | ⟨g1, g2⟩
        · exact hoi _ _ g r
        · rw [g1, g2] at r; exact hbzp r
        · rw [g1, g2] at r; exact hbzp (ge_on_symm r)
      have z1 : ge_o (ge_s k x) (ge_s k e) (ge_s k e) = 0 := by unfold ge_o; grind
      have z2 : ge_o (ge_s k e) (ge_s k y) (ge_s k e) = 0 := by unfold ge_o; grind
      have z3 : 0 < ge_o (ge_s k y) (ge_s k x) (ge_s k e) := by rw [ge_o_s, zx]; exact Int.mul_pos (ge_mm hk) hF
      exact ge_free_end (ge_side_s hk side) pin pno ⟨by omega, by omega, by omega⟩ z3
    rw [hpar, q1, q2, ge_par_s hk, hc2 e heQ eb ez]
    rfl
theorem ge_join (H : ge_parts l Q1 Q2 b z) (hne : ∀ u v : GPt, ge_adj l u v → u ≠ v) {x e y : GPt} (h1 : ge_adj Q1 x e) (h2 : ge_adj Q1 e y) (eb : e ≠ b) (ez : e ≠ z) (hF : ge_o x e y ≠ 0) (hg : ge_good Q1 x e y) : ge_adj l x e ∧ ge_adj l e y ∧ ge_good l x e y := by
  have hE1 := H.1
  have a1 : ge_adj l x e := by
    rcases hE1 x e h1 with g | ⟨g1, g2⟩ | ⟨g1, g2⟩
    · exact g
    · exact absurd g2 ez
    · exact absurd g2 eb
  have a2 : ge_adj l e y := by
    rcases hE1 e y h2 with g | ⟨g1, g2⟩ | ⟨g1, g2⟩
    · exact g
    · exact absurd g1 eb
    · exact absurd g1 ez
  have m1 := ge_adj_mem h1
  have m2 := ge_adj_mem h2
  refine ⟨a1, a2, ?_⟩
  rcases Int.lt_or_lt_of_ne hF with q | q
  · have : ge_o y e x = -ge_o x e y := by unfold ge_o; grind
    exact ge_good_symm (ge_join1 H hne (by omega) (ge_adj_symm a2) (ge_adj_symm a1) m1.2 m2.2 m1.1 eb ez (ge_good_symm hg))
  · exact ge_join1 H hne q a1 a2 m1.2 m1.1 m2.2 eb ez hg
end Join
-- h4.partb
/-! the lowest corner's triangle holds vertices: the polygon is parted along the diagonal to the farthest of them -/
theorem ge_disj {l : List GPt} (hs : ge_simple l) {u v x y : GPt} (h : ge_adj l u v) (g : ge_adj l x y) (n1 : u ≠ x) (n2 : u ≠ y) (n3 : v ≠ x) (n4 : v ≠ y) : ¬ ge_meet u v x y := by
  have mu := ge_adj_mem h
  have mx := ge_adj_mem g
  intro q
  rcases q with q | q | q | q | q
  · rcases ge_adj_V hs mx.1 h q with r | r
    · exact n1 r.symm
    · exact n3 r.symm
  · rcases ge_adj_V hs mx.2 h q with r | r
    · exact n2 r.symm
    · exact n4 r.symm
  · rcases ge_adj_V hs mu.1 g q with r | r
    · exact n1 r
    · exact n2 r
  · rcases ge_adj_V hs mu.2 g q with r | r
    · exact n3 r
    · exact n4 r
  · exact ge_adj_X hs h g q
theorem ge_ed_tl {x : GPt} {r : List GPt} {e : GPt × GPt} (h : e ∈ ge_ed r) : e ∈ ge_ed (x :: r) := by
  cases r with
  | nil => cases h
  | cons y r => exact List.mem_cons_of_mem _ h
theorem ge_ed_pre {e : GPt × GPt} : ∀ {l : List GPt} (r : List GPt), e ∈ ge_ed l → e ∈ ge_ed (l ++ r)
  | [], r, h => nomatch h
  | [_], r, h => nomatch h
  | a :: b :: l, r, h => by
    rcases List.mem_cons.mp h with q | q
    · exact List.mem_cons.mpr (Or.inl q)
    · exact List.mem_cons_of_mem _ (ge_ed_pre (l := b :: l) r q)
theorem ge_chain1 (f : GPt → Bool) : ∀ (m : List GPt) (c : GPt), (∀ e ∈ ge_ed (c :: m), f e.1 = f e.2) → ∀ w ∈ c :: m, f w = f c
  | [], c, _, w, hw => by rw [List.mem_singleton.mp hw]
  | y :: m, c, h, w, hw => by
    rcases List.mem_cons.mp hw with q | q
    · rw [q]
    · rw [ge_chain1 f m y (fun e he => h e (List.mem_cons_of_mem _ he)) w q]
      exact (h (c, y) List.mem_cons_self).symm
theorem ge_chain2 (f : GPt → Bool) : ∀ (m : List GPt) (a : GPt), (∀ e ∈ ge_ed (m ++ [a]), f e.1 = f e.2) → ∀ w ∈ m ++ [a], f w = f a
  | [], a, _, w, hw => by rw [List.mem_singleton.mp hw]
  | [y], a, h, w, hw => by
    have h1 := h (y, a) List.mem_cons_self
    rcases List.mem_cons.mp hw with q | q
    · rw [q]; exact h1
    · rw [List.mem_singleton.mp q]
  | y :: x :: m, a, h, w, hw => by
    have ih := ge_chain2 f (x :: m) a (fun e he => h e (List.mem_cons_of_mem _ he))
    have h1 := h (y, x) List.mem_cons_self
    rcases List.mem_cons.mp hw with q | q
    · rw [q]; exact h1.trans (ih x List.mem_cons_self)
    · exact ih w q
theorem ge_on_gt {x y r u v : GPt} {K : Int} (hr : ge_on x y r) (hx : K < ge_o u v x) (hy : K < ge_o u v y) : K < ge_o u v r := by
  by_cases e : x = y
  · subst e; rw [ge_on_pp hr]; exact hx
  · obtain ⟨i, j, w⟩ := ge_on_wt e hr
    have ho := ge_wt_o w u v
    obtain ⟨hi, hj, hs, -, -⟩ := w
    have k1 := Int.mul_nonneg hi (show 0 ≤ ge_o u v x - K - 1 by omega)
    have k2 := Int.mul_nonneg hj (show 0 ≤ ge_o u v y - K - 1 by omega)
    have : 0 ≤ (i + j) * (ge_o u v r - K - 1) := by grind
    have := ge_nn hs this
    omega
theorem ge_on_le {x y r u v : GPt} {K : Int} (hr : ge_on x y r) (hx : ge_o u v x ≤ K) (hy : ge_o u v y ≤ K) : ge_o u v r ≤ K := by
  by_cases e : x = y
  · subst e; rw [ge_on_pp hr]; exact hx
  · obtain ⟨i, j, w⟩ := ge_on_wt e hr
    have ho := ge_wt_o w u v
    obtain ⟨hi, hj, hs, -, -⟩ := w
    have k1 := Int.mul_nonneg hi (show 0 ≤ K - ge_o u v x by omega)
    have k2 := Int.mul_nonneg hj (show 0 ≤ K - ge_o u v y by omega)
    have : 0 ≤ (i + j) * (K - ge_o u v r) := by grind
    have := ge_nn hs this
    omega
theorem ge_on_in {x y r a b c : GPt} (hr : ge_on x y r) (hx : ge_in a b c x) (hy : ge_in a b c y) : ge_in a b c r := by
  by_cases e : x = y
  · subst e; rw [ge_on_pp hr]; exact hx
  · obtain ⟨i, j, w⟩ := ge_on_wt e hr
    exact ge_wt_in w hx hy
/-- parted by a line -/
theorem ge_low_free {u v p q a c : GPt} {K : Int} (hu : ge_o c a u ≤ K) (hv : ge_o c a v ≤ K) (hp : K < ge_o c a p) (hq : K < ge_o c a q) : ¬ ge_meet u v p q := by
  intro h
  obtain ⟨m, r, hm, h1, h2⟩ := ge_meet_pt h
  have mm := ge_mm hm
  have g1 : ge_o (ge_s m c) (ge_s m a) r ≤ m * m * K := ge_on_le h1 (by rw [ge_o_s]; exact (ge_sg_le mm).mpr hu) (by rw [ge_o_s]; exact (ge_sg_le mm).mpr hv)
  have g2 : m * m * K < ge_o (ge_s m c) (ge_s m a) r := ge_on_gt h2 (by rw [ge_o_s]; exact (ge_sg_lt mm).mpr hp) (by rw [ge_o_s]; exact (ge_sg_lt mm).mpr hq)
  omega
theorem ge_part_simple {l Q : List GPt} {b z : GPt} (hs : ge_simple l) (hn : Q.Nodup) (hsub : ∀ w ∈ Q, w ∈ l) (hE : ∀ u v : GPt, ge_adj Q u v → ge_adj l u v ∨ (u = b ∧ v = z) ∨ (u = z ∧ v = b)) (hV : ∀ w ∈ l, ge_on b z w → w = b ∨ w = z) (hX : ∀ u v : GPt, ge_adj l u v → ¬ ge_x u v b z) : ge_simple Q := by
  refine ⟨hn, fun w hw e he q => ?_, fun e he f hf q => ?_⟩
  · rcases hE e.1 e.2 (Or.inl he) with g | ⟨g1, g2⟩ | ⟨g1, g2⟩
    · exact ge_adj_V hs (hsub w hw) g q
    · rw [g1, g2] at q ⊢
      exact hV w (hsub w hw) q
    · rw [g1, g2] at q ⊢
      exact (hV w (hsub w hw) (ge_on_symm q)).symm
  · have self : ¬ ge_x b z b z := fun r => by
      have : ge_o b z b = 0 := by unfold ge_o; grind
      have r1 := r.1
      rw [this, Int.zero_mul] at r1
      omega
    have sw : ∀ {u v x y : GPt}, ge_x u v x y → ge_x u v y x := fun {u v x y} r => ge_x_symm (ge_x_swap (ge_x_symm r))
    rcases hE e.1 e.2 (Or.inl he) with g | ⟨g1, g2⟩ | ⟨g1, g2⟩ <;> rcases hE f.1 f.2 (Or.inl hf) with k | ⟨k1, k2⟩ | ⟨k1, k2⟩
    · exact ge_adj_X hs g k q
    · rw [k1, k2] at q; exact hX _ _ g q
    · rw [k1, k2] at q; exact hX _ _ g (sw q)
    · rw [g1, g2] at q; exact hX _ _ k (ge_x_symm q)
    · rw [g1, g2, k1, k2] at q; exact self q
    · rw [g1, g2, k1, k2] at q; exact self (sw q)
    · rw [g1, g2] at q; exact hX _ _ k (ge_x_symm (ge_x_swap q))
    · rw [g1, g2, k1, k2] at q; exact self (ge_x_swap q)
    · rw [g1, g2, k1, k2] at q; exact self (ge_x_swap (sw q))
/-- the diagonal's situation: z is the vertex of the lowest corner's triangle that is farthest from its far side -/
def ge_B (a b c z : GPt) (n1 n2 : List GPt) : Prop := 0 < ge_o a b c ∧ ge_simple (b :: c :: ((n1 ++ z :: n2) ++ [a])) ∧ (∀ v ∈ c :: ((n1 ++ z :: n2) ++ [a]), ge_low b v) ∧ ge_in a b c z ∧ ∀ w ∈ c :: ((n1 ++ z :: n2) ++ [a]), ge_in a b c w → ge_o c a w ≤ ge_o c a z
section CaseB
variable {a b c z : GPt} {n1 n2 : List GPt}
theorem ge_B_S (k : Int) : ge_S k (b :: c :: ((n1 ++ z :: n2) ++ [a])) = ge_s k b :: ge_s k c :: ((ge_S k n1 ++ ge_s k z :: ge_S k n2) ++ [ge_s k a]) := by simp [ge_S]
theorem ge_B_St (k : Int) : ge_S k (c :: ((n1 ++ z :: n2) ++ [a])) = ge_s k c :: ((ge_S k n1 ++ ge_s k z :: ge_S k n2) ++ [ge_s k a]) := by simp [ge_S]
theorem ge_B_s {k : Int} (hk : 0 < k) (H : ge_B a b c z n1 n2) : ge_B (ge_s k a) (ge_s k b) (ge_s k c) (ge_s k z) (ge_S k n1) (ge_S k n2) := by
  obtain ⟨hF, hs, hl, hz, hm⟩ := H
  refine ⟨by rw [ge_o_s]; exact Int.mul_pos (ge_mm hk) hF, by rw [← ge_B_S]; exact ge_simple_S hk hs, ?_, (ge_in_s hk _ _ _ _).mpr hz, ?_⟩
  · intro v hv
    rw [← ge_B_St] at hv
    obtain ⟨w, hw, rfl⟩ := List.mem_map.mp hv
    exact ge_low_s hk (hl w hw)
  · intro v hv q
    rw [← ge_B_St] at hv
    obtain ⟨w, hw, rfl⟩ := List.mem_map.mp hv
    rw [ge_o_s, ge_o_s]
    exact (ge_sg_le (ge_mm hk)).mpr (hm w hw ((ge_in_s hk _ _ _ _).mp q))
theorem ge_B_t : c :: ((n1 ++ z :: n2) ++ [a]) = (c :: n1) ++ z :: (n2 ++ [a]) := by simp
theorem ge_B_ed : ge_ed (c :: ((n1 ++ z :: n2) ++ [a])) = ge_ed (c :: (n1 ++ [z])) ++ ge_ed (z :: (n2 ++ [a])) := by
  rw [ge_B_t, ge_ed_app]
  rfl
theorem ge_B_nd (H : ge_B a b c z n1 n2) : b ∉ c :: ((n1 ++ z :: n2) ++ [a]) ∧ (c :: n1).Nodup ∧ (z :: (n2 ++ [a])).Nodup ∧ ∀ x ∈ c :: n1, ∀ y ∈ z :: (n2 ++ [a]), x ≠ y := by
  have hn := H.2.1.1
  obtain ⟨h1, h2⟩ := List.nodup_cons.mp hn
  rw [ge_B_t] at h2
  obtain ⟨h3, h4, h5⟩ := List.nodup_append.mp h2
  exact ⟨h1, h3, h4, h5⟩
theorem ge_B_num (H : ge_B a b c z n1 n2) : 0 < ge_o a b z ∧ 0 < ge_o b c z ∧ 0 ≤ ge_o c a z ∧ ge_o a b z + ge_o b c z + ge_o c a z = ge_o a b c := by
  obtain ⟨h1, h2, h3, h4⟩ := ge_B_nd H
  obtain ⟨hF, hs, hl, hz, hm⟩ := H
  have hzl : z ∈ b :: c :: ((n1 ++ z :: n2) ++ [a]) := by simp
  have zb : z ≠ b := fun q => h1 (by rw [← q]; simp)
  have za : z ≠ a := fun q => (List.nodup_cons.mp h3).1 (by rw [q]; simp)
  have zc : z ≠ c := fun q => h4 c List.mem_cons_self z List.mem_cons_self q.symm
  have hab : (a, b) ∈ ge_E (b :: c :: ((n1 ++ z :: n2) ++ [a])) := by rw [ge_E_ear]; simp
  have hbc : (b, c) ∈ ge_E (b :: c :: ((n1 ++ z :: n2) ++ [a])) := by rw [ge_E_ear]; simp
  refine ⟨?_, ?_, hz.2.2, ge_b0 a b c z⟩
  · rcases Int.lt_or_eq_of_le hz.1 with q | q
    · exact q
    · exact ((hs.2.1 z hzl _ hab (ge_in_on hF hz q.symm)).elim za zb).elim
  · rcases Int.lt_or_eq_of_le hz.2.1 with q | q
    · exact q
    · exact ((hs.2.1 z hzl _ hbc (ge_in_on (by rw [ge_o_cyc]; exact hF) (ge_in_cyc hz) q.symm)).elim zb zc).elim
theorem ge_B_U (H : ge_B a b c z n1 n2) {e : GPt × GPt} (he : e ∈ ge_ed (c :: ((n1 ++ z :: n2) ++ [a]))) {m : Int} (hm : 0 < m) {r : GPt} (hr : ge_on (ge_s m e.1) (ge_s m e.2) r) (rT : ge_in (ge_s m a) (ge_s m b) (ge_s m c) r) : ge_o (ge_s m c) (ge_s m a) r ≤ m * m * ge_o c a z := by
  obtain ⟨z1, z2, z3, z4⟩ := ge_B_num H
  obtain ⟨h1, h2, h3, h4⟩ := ge_B_nd H
  obtain ⟨hF, hs, hl, hz, hmax⟩ := H
  have hE : e ∈ ge_E (b :: c :: ((n1 ++ z :: n2) ++ [a])) := by rw [ge_E_ear]; exact List.mem_cons_of_mem _ (List.mem_append_left _ he)
  have hab : (a, b) ∈ ge_E (b :: c :: ((n1 ++ z :: n2) ++ [a])) := by rw [ge_E_ear]; simp
  have hbc : (b, c) ∈ ge_E (b :: c :: ((n1 ++ z :: n2) ++ [a])) := by rw [ge_E_ear]; simp
  have me := ge_ed_mem _ e he
  have hG : 0 < ge_o a b z + ge_o b c z := by omega
  have e0 : ge_o c a b = ge_o a b c := by rw [ge_o_cyc, ge_o_cyc]
  have hF' : ge_o c a b = ge_o c a z + (ge_o a b z + ge_o b c z) := by omega
  refine ge_U z3 hG hF' (ge_side_up z3 hG hF' (ge_ed_ne _ (List.nodup_cons.mp hs.1).2 e he) (hmax _ me.1) (hmax _ me.2) (hs.2.2 e hE _ hab) (hs.2.2 e hE _ hbc) (hs.2.1 a (by simp) e hE) (fun q => ?_) (hs.2.1 c (by simp) e hE)) hm hr rT
  rcases hs.2.1 b List.mem_cons_self e hE q with r | r
  · exact h1 (r ▸ me.1)
  · exact h1 (r ▸ me.2)
theorem ge_B_free (H : ge_B a b c z n1 n2) {e : GPt × GPt} (he : e ∈ ge_ed (c :: ((n1 ++ z :: n2) ++ [a]))) {p q : GPt} (hp : ge_in a b c p) (hp3 : ge_o c a z < ge_o c a p) (hq : ge_in a b c q) (hq3 : ge_o c a z < ge_o c a q) : ¬ ge_meet e.1 e.2 p q := by
  intro h
  obtain ⟨m, r, hm, h1, h2⟩ := ge_meet_pt h
  have mm := ge_mm hm
  have g1 := ge_B_U H he hm h1 (ge_on_in h2 ((ge_in_s hm _ _ _ _).mpr hp) ((ge_in_s hm _ _ _ _).mpr hq))
  have g2 : m * m * ge_o c a z < ge_o (ge_s m c) (ge_s m a) r := ge_on_gt h2 (by rw [ge_o_s]; exact (ge_sg_lt mm).mpr hp3) (by rw [ge_o_s]; exact (ge_sg_lt mm).mpr hq3)
  omega
theorem ge_B_b (H : ge_B a b c z n1 n2) : ge_in a b c b ∧ ge_o c a z < ge_o c a b := by
  obtain ⟨z1, z2, z3, z4⟩ := ge_B_num H
  have e1 : ge_o a b b = 0 := by unfold ge_o; grind
  have e2 : ge_o b c b = 0 := by unfold ge_o; grind
  have e3 : ge_o c a b = ge_o a b c := by rw [ge_o_cyc, ge_o_cyc]
  exact ⟨⟨by omega, by omega, by omega⟩, by omega⟩
/-- on the diagonal short of z -/
theorem ge_B_bz (H : ge_B a b c z n1 n2) {r : GPt} {i j : Int} (w : ge_wt b z r i j) (hi : 0 < i) : ge_in a b c r ∧ ge_o c a z < ge_o c a r := by
  have hb := ge_B_b H
  refine ⟨ge_wt_in w hb.1 H.2.2.2.1, ?_⟩
  have e := ge_wt_o w c a
  have k1 := Int.mul_pos hi (show 0 < ge_o c a b - ge_o c a z by omega)
  have : 0 < (i + j) * (ge_o c a r - ge_o c a z) := by grind
  have := ge_pos w.2.2.1 this
  omega
theorem ge_B_ne (H : ge_B a b c z n1 n2) : b ≠ z := fun q => (ge_B_nd H).1 (by rw [q]; simp)
theorem ge_B_V (H : ge_B a b c z n1 n2) {w : GPt} (hw : w ∈ b :: c :: ((n1 ++ z :: n2) ++ [a])) (ho : ge_on b z w) : w = b ∨ w = z := by
  rcases List.mem_cons.mp hw with q | q
  · exact Or.inl q
  · obtain ⟨i, j, wt⟩ := ge_on_wt (ge_B_ne H) ho
    by_cases hi : i = 0
    · subst hi
      exact Or.inr (ge_wt_0 (ge_wt_swap wt))
    · have := ge_B_bz H wt (by have := wt.1; omega)
      have := H.2.2.2.2 w q this.1
      omega
theorem ge_B_X1 (H : ge_B a b c z n1 n2) {e : GPt × GPt} (he : e ∈ ge_ed (c :: ((n1 ++ z :: n2) ++ [a]))) : ¬ ge_x e.1 e.2 b z := by
  intro q
  obtain ⟨m, r, i, j, i', j', hm, w, w', hi, -⟩ := ge_x_pt q
  have g := ge_B_bz (ge_B_s hm H) w hi
  have := ge_B_U H he hm (ge_wt_on w') g.1
  have g2 := g.2
  rw [ge_o_s] at g2
  omega
theorem ge_B_X (H : ge_B a b c z n1 n2) {u v : GPt} (h : ge_adj (b :: c :: ((n1 ++ z :: n2) ++ [a])) u v) : ¬ ge_x u v b z := by
  have key : ∀ e ∈ ge_E (b :: c :: ((n1 ++ z :: n2) ++ [a])), ¬ ge_x e.1 e.2 b z := fun e he q => by
    rw [ge_E_ear] at he
    rcases List.mem_cons.mp he with r | r
    · subst r
      have : ge_o b c b = 0 := by unfold ge_o; grind
      have q1 : ge_o b c b * ge_o b c z < 0 := q.1
      rw [this, Int.zero_mul] at q1
      omega
    · rcases List.mem_append.mp r with r | r
      · exact ge_B_X1 H r q
      · rw [List.mem_singleton.mp r] at q
        have : ge_o a b b = 0 := by unfold ge_o; grind
        have q1 : ge_o a b b * ge_o a b z < 0 := q.1
        rw [this, Int.zero_mul] at q1
        omega
  rcases h with h | h
  · exact key _ h
  · exact fun q => key _ h (ge_x_swap q)
end CaseB
