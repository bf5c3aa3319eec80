section
/-! plane geometry over whole numbers: sides, segments, the even-odd rule of the reference (a ray to the right, lower ends count) -/
abbrev GPt : Type := Int × Int
/-- twice the signed area of a, b, c -/
def ge_o (a b c : GPt) : Int := (b.1 - a.1) * (c.2 - a.2) - (b.2 - a.2) * (c.1 - a.1)
def ge_on (a b p : GPt) : Prop := ge_o a b p = 0 ∧ (p.1 - a.1) * (p.1 - b.1) ≤ 0 ∧ (p.2 - a.2) * (p.2 - b.2) ≤ 0
/-- the segments uv and pq have a point in common, by signs -/
def ge_meet (u v p q : GPt) : Prop := ge_on u v p ∨ ge_on u v q ∨ ge_on p q u ∨ ge_on p q v ∨ (ge_o u v p * ge_o u v q < 0 ∧ ge_o p q u * ge_o p q v < 0)
/-- the ray from p to the right crosses uv -/
def ge_cr (u v p : GPt) : Bool := (decide (p.2 < u.2) != decide (p.2 < v.2)) && (decide (u.2 < v.2) == decide (0 < ge_o u v p))
theorem ge_pos {k t : Int} (hk : 0 < k) (h : 0 < k * t) : 0 < t := by
  rcases Int.lt_or_le 0 t with q | q
  · exact q
  · have := Int.mul_nonneg (Int.le_of_lt hk) (show 0 ≤ -t by omega)
    rw [Int.mul_neg] at this
    omega
theorem ge_nn {k t : Int} (hk : 0 < k) (h : 0 ≤ k * t) : 0 ≤ t := by
  rcases Int.lt_or_le t 0 with q | q
  · have := Int.mul_pos hk (show 0 < -t by omega)
    rw [Int.mul_neg] at this
    omega
  · exact q
theorem ge_zero {k t : Int} (hk : 0 < k) (h : k * t = 0) : t = 0 := by
  rcases Int.mul_eq_zero.mp h with q | q
  · omega
  · exact q
theorem ge_sum0 {x y : Int} (h1 : 0 ≤ x) (h2 : 0 ≤ y) (h : x + y = 0) : x = 0 := by omega
theorem ge_sq (x : Int) : 0 ≤ x * x := by
  rcases Int.le_total 0 x with z | z
  · exact Int.mul_nonneg z z
  · have := Int.mul_nonneg (show 0 ≤ -x by omega) (show 0 ≤ -x by omega)
    grind
theorem ge_o_cyc (a b c : GPt) : ge_o b c a = ge_o a b c := by unfold ge_o; grind
theorem ge_o_swap (a b c : GPt) : ge_o b a c = -ge_o a b c := by unfold ge_o; grind
theorem ge_o_sub (u v p q : GPt) : ge_o u v p - ge_o u v q = ge_o p q v - ge_o p q u := by unfold ge_o; grind
theorem ge_o_y1 (u v p q : GPt) : (q.2 - p.2) * ge_o u v p = (u.2 - p.2) * ge_o p q v - (v.2 - p.2) * ge_o p q u := by unfold ge_o; grind
theorem ge_o_y2 (u v p q : GPt) : (q.2 - p.2) * ge_o u v q = (u.2 - q.2) * ge_o p q v - (v.2 - q.2) * ge_o p q u := by unfold ge_o; grind
theorem ge_on_symm {a b p : GPt} (h : ge_on a b p) : ge_on b a p := by
  obtain ⟨h1, h2, h3⟩ := h
  refine ⟨by rw [ge_o_swap, h1]; rfl, ?_, ?_⟩
  · rw [Int.mul_comm]; exact h2
  · rw [Int.mul_comm]; exact h3
theorem ge_meet_symm {u v p q : GPt} (h : ge_meet u v p q) : ge_meet p q u v := by
  unfold ge_meet at *
  grind
theorem ge_meet_swap {u v p q : GPt} (h : ge_meet u v p q) : ge_meet u v q p := by
  rcases h with h | h | h | h | ⟨h1, h2⟩
  · exact Or.inr (Or.inl h)
  · exact Or.inl h
  · exact Or.inr (Or.inr (Or.inl (ge_on_symm h)))
  · exact Or.inr (Or.inr (Or.inr (Or.inl (ge_on_symm h))))
  · refine Or.inr (Or.inr (Or.inr (Or.inr ⟨by rw [Int.mul_comm]; exact h1, ?_⟩)))
    rw [ge_o_swap p q u, ge_o_swap p q v]
    grind
/-- on the line, and between the heights: on the segment -/
theorem ge_on_y {p q v : GPt} (h0 : ge_o p q v = 0) (hy : p.2 < q.2) (h1 : p.2 ≤ v.2) (h2 : v.2 ≤ q.2) : ge_on p q v := by
  have e : (v.1 - p.1) * (q.2 - p.2) = (v.2 - p.2) * (q.1 - p.1) := by unfold ge_o at h0; grind
  refine ⟨h0, ?_, ?_⟩
  · have hd : 0 < (q.2 - p.2) * (q.2 - p.2) := Int.mul_pos (by omega) (by omega)
    have k1 : (q.2 - p.2) * (q.2 - p.2) * -((v.1 - p.1) * (v.1 - q.1)) = ((q.1 - p.1) * (q.1 - p.1)) * ((v.2 - p.2) * (q.2 - v.2)) := by grind
    have k2 : 0 ≤ ((q.1 - p.1) * (q.1 - p.1)) * ((v.2 - p.2) * (q.2 - v.2)) := Int.mul_nonneg (ge_sq _) (Int.mul_nonneg (by omega) (by omega))
    have := ge_nn hd (by rw [k1]; exact k2)
    omega
  · have := Int.mul_nonneg (show 0 ≤ v.2 - p.2 by omega) (show 0 ≤ q.2 - v.2 by omega)
    grind

theorem ge_on_x {p q v : GPt} (hy : p.2 = q.2) (hv : v.2 = p.2) (h1 : p.1 ≤ v.1) (h2 : v.1 ≤ q.1) : ge_on p q v := by
  refine ⟨by unfold ge_o; grind, ?_, ?_⟩
  · have := Int.mul_nonneg (show 0 ≤ v.1 - p.1 by omega) (show 0 ≤ q.1 - v.1 by omega)
    grind
  · have : v.2 - p.2 = 0 := by omega
    rw [this, Int.zero_mul]
    exact Int.le_refl _
/-- the direction doesn't matter off the segment -/
theorem ge_cr_symm {u v p : GPt} (h : ¬ ge_on u v p) : ge_cr u v p = ge_cr v u p := by
  unfold ge_cr
  rw [ge_o_swap u v p]
  rcases Int.lt_trichotomy u.2 v.2 with hy | hy | hy
  · by_cases h0 : ge_o u v p = 0
    · have : ¬ (u.2 ≤ p.2 ∧ p.2 ≤ v.2) := fun z => h (ge_on_y h0 hy z.1 z.2)
      grind
    · grind
  · grind
  · by_cases h0 : ge_o u v p = 0
    · have : ¬ (v.2 ≤ p.2 ∧ p.2 ≤ u.2) := fun z => h (ge_on_symm (ge_on_y (by rw [ge_o_swap, h0]; rfl) hy z.1 z.2))
      grind
    · grind
/-- right of the way from p up to q, between the heights -/
def ge_F (p q u : GPt) : Bool := decide (p.2 < u.2) && !decide (q.2 < u.2) && decide (ge_o p q u < 0)
/-- both ends between the heights, on the two sides: they meet -/
theorem ge_mv_in {u v p q : GPt} (a1 : p.2 < u.2) (a2 : u.2 ≤ q.2) (b1 : p.2 < v.2) (b2 : v.2 ≤ q.2) (hu : ge_o p q u < 0) (hv : 0 ≤ ge_o p q v) : ge_meet u v p q := by
  have hpq : p.2 < q.2 := by omega
  have e1 := ge_o_y1 u v p q
  have e2 := ge_o_y2 u v p q
  rcases Int.lt_or_eq_of_le hv with hv' | hv'
  · have k1 : 0 < (u.2 - p.2) * ge_o p q v := Int.mul_pos (by omega) hv'
    have k2 : 0 < (v.2 - p.2) * -ge_o p q u := Int.mul_pos (by omega) (by omega)
    have tp : 0 < ge_o u v p := ge_pos (show 0 < q.2 - p.2 by omega) (by grind)
    have k3 : 0 ≤ (q.2 - u.2) * ge_o p q v := Int.mul_nonneg (by omega) (by omega)
    have k4 : 0 ≤ (q.2 - v.2) * -ge_o p q u := Int.mul_nonneg (by omega) (by omega)
    have tq : 0 ≤ -ge_o u v q := ge_nn (show 0 < q.2 - p.2 by omega) (by grind)
    rcases Int.lt_or_eq_of_le tq with tq' | tq'
    · refine Or.inr (Or.inr (Or.inr (Or.inr ⟨?_, ?_⟩)))
      · have := Int.mul_pos tp tq'
        grind
      · have := Int.mul_pos hv' (show 0 < -ge_o p q u by omega)
        grind
    · have tq0 : ge_o u v q = 0 := by omega
      have e3 : (q.2 - u.2) * ge_o p q v + (q.2 - v.2) * -ge_o p q u = 0 := by rw [tq0] at e2; grind
      have z3 : (q.2 - u.2) * ge_o p q v = 0 := ge_sum0 k3 k4 e3
      have z4 : (q.2 - v.2) * -ge_o p q u = 0 := ge_sum0 k4 k3 (by rw [Int.add_comm]; exact e3)
      have uq : u.2 = q.2 := by
        rcases Int.mul_eq_zero.mp z3 with z | z <;> omega
      have vq : v.2 = q.2 := by
        rcases Int.mul_eq_zero.mp z4 with z | z <;> omega
      have su : ge_o p q u = (q.2 - p.2) * (q.1 - u.1) := by unfold ge_o; grind
      have sv : ge_o p q v = (q.2 - p.2) * (q.1 - v.1) := by unfold ge_o; grind
      have x1 : 0 < u.1 - q.1 := ge_pos (show 0 < q.2 - p.2 by omega) (by grind)
      have x2 : 0 < q.1 - v.1 := ge_pos (show 0 < q.2 - p.2 by omega) (by grind)
      exact Or.inr (Or.inl (ge_on_symm (ge_on_x (by omega) (by omega) (by omega) (by omega))))
  · exact Or.inr (Or.inr (Or.inr (Or.inl (ge_on_y hv'.symm hpq (by omega) b2))))

/-- one end below, one between -/
theorem ge_mv_low {u v p q : GPt} (a1 : u.2 ≤ p.2) (b1 : p.2 < v.2) (b2 : v.2 ≤ q.2) (hm : ¬ ge_meet u v p q) : (0 < ge_o u v p) ↔ ge_o p q v < 0 := by
  have hpq : p.2 < q.2 := by omega
  have e2 := ge_o_y2 u v p q
  have e1 := ge_o_y1 u v p q
  have np : ¬ ge_on u v p := fun z => hm (Or.inl z)
  have nv : ¬ ge_on p q v := fun z => hm (Or.inr (Or.inr (Or.inr (Or.inl z))))
  have tp0 : ge_o u v p ≠ 0 := fun z => np (ge_on_y z (by omega) a1 (by omega))
  have sv0 : ge_o p q v ≠ 0 := fun z => nv (ge_on_y z hpq (by omega) b2)
  have hx : ¬ (ge_o u v p * ge_o u v q < 0 ∧ ge_o p q u * ge_o p q v < 0) := fun z => hm (Or.inr (Or.inr (Or.inr (Or.inr z))))
  have sb := ge_o_sub u v p q
  constructor
  · intro tp
    rcases Int.lt_or_lt_of_ne sv0 with h | h
    · exact h
    · exfalso
      have k1 : 0 ≤ (p.2 - u.2) * ge_o p q v := Int.mul_nonneg (by omega) (by omega)
      have k2 : 0 < (q.2 - p.2) * ge_o u v p := Int.mul_pos (by omega) tp
      have su : 0 < -ge_o p q u := ge_pos (show 0 < v.2 - p.2 by omega) (by grind)
      have k3 : 0 < (q.2 - u.2) * ge_o p q v := Int.mul_pos (by omega) h
      have k4 : 0 ≤ (q.2 - v.2) * -ge_o p q u := Int.mul_nonneg (by omega) (by omega)
      have tq : 0 < -ge_o u v q := ge_pos (show 0 < q.2 - p.2 by omega) (by grind)
      have m1 := Int.mul_pos tp tq
      have m2 := Int.mul_pos h su
      exact hx ⟨by grind, by grind⟩
  · intro sv
    rcases Int.lt_or_lt_of_ne tp0 with h | h
    · exfalso
      have k1 : 0 ≤ (p.2 - u.2) * -ge_o p q v := Int.mul_nonneg (by omega) (by omega)
      have k2 : 0 < (q.2 - p.2) * -ge_o u v p := Int.mul_pos (by omega) (by omega)
      have su : 0 < ge_o p q u := ge_pos (show 0 < v.2 - p.2 by omega) (by grind)
      have k3 : 0 < (q.2 - u.2) * -ge_o p q v := Int.mul_pos (by omega) (by omega)
      have k4 : 0 ≤ (q.2 - v.2) * ge_o p q u := Int.mul_nonneg (by omega) (by omega)
      have tq : 0 < ge_o u v q := ge_pos (show 0 < q.2 - p.2 by omega) (by grind)
      have m1 := Int.mul_pos (show 0 < -ge_o u v p by omega) tq
      have m2 := Int.mul_pos (show 0 < -ge_o p q v by omega) su
      exact hx ⟨by grind, by grind⟩
    · exact h

/-- one end between, one above -/
theorem ge_mv_high {u v p q : GPt} (a1 : p.2 < u.2) (a2 : u.2 ≤ q.2) (b2 : q.2 < v.2) (hm : ¬ ge_meet u v p q) : (0 < ge_o u v q) ↔ ge_o p q u < 0 := by
  have hpq : p.2 < q.2 := by omega
  have e2 := ge_o_y2 u v p q
  have e1 := ge_o_y1 u v p q
  have nq : ¬ ge_on u v q := fun z => hm (Or.inr (Or.inl z))
  have nu : ¬ ge_on p q u := fun z => hm (Or.inr (Or.inr (Or.inl z)))
  have tq0 : ge_o u v q ≠ 0 := fun z => nq (ge_on_y z (by omega) a2 (by omega))
  have su0 : ge_o p q u ≠ 0 := fun z => nu (ge_on_y z hpq (by omega) a2)
  have hx : ¬ (ge_o u v p * ge_o u v q < 0 ∧ ge_o p q u * ge_o p q v < 0) := fun z => hm (Or.inr (Or.inr (Or.inr (Or.inr z))))
  constructor
  · intro tq
    rcases Int.lt_or_lt_of_ne su0 with h | h
    · exact h
    · exfalso
      have k1 : 0 < (q.2 - p.2) * ge_o u v q := Int.mul_pos (by omega) tq
      have k2 : 0 < (v.2 - q.2) * ge_o p q u := Int.mul_pos (by omega) h
      have k3 : 0 < (q.2 - p.2) * ge_o u v q + (v.2 - q.2) * ge_o p q u := by omega
      have sv : ge_o p q v < 0 := by
        rcases Int.lt_or_le (ge_o p q v) 0 with z | z
        · exact z
        · have := Int.mul_nonneg (show 0 ≤ q.2 - u.2 by omega) z
          grind
      have k4 : 0 < (u.2 - p.2) * -ge_o p q v := Int.mul_pos (by omega) (by omega)
      have k5 : 0 < (v.2 - p.2) * ge_o p q u := Int.mul_pos (by omega) h
      have tp : 0 < -ge_o u v p := ge_pos (show 0 < q.2 - p.2 by omega) (by grind)
      have m1 := Int.mul_pos tp tq
      have m2 := Int.mul_pos h (show 0 < -ge_o p q v by omega)
      exact hx ⟨by grind, by grind⟩
  · intro su
    rcases Int.lt_or_lt_of_ne tq0 with h | h
    · exfalso
      have k1 : 0 < (q.2 - p.2) * -ge_o u v q := Int.mul_pos (by omega) (by omega)
      have k2 : 0 < (v.2 - q.2) * -ge_o p q u := Int.mul_pos (by omega) (by omega)
      have sv : 0 < ge_o p q v := by
        rcases Int.lt_or_le 0 (ge_o p q v) with z | z
        · exact z
        · have := Int.mul_nonneg (show 0 ≤ q.2 - u.2 by omega) (show 0 ≤ -ge_o p q v by omega)
          grind
      have k4 : 0 < (u.2 - p.2) * ge_o p q v := Int.mul_pos (by omega) sv
      have k5 : 0 < (v.2 - p.2) * -ge_o p q u := Int.mul_pos (by omega) (by omega)
      have tp : 0 < ge_o u v p := ge_pos (show 0 < q.2 - p.2 by omega) (by grind)
      have m1 := Int.mul_pos tp (show 0 < -ge_o u v q by omega)
      have m2 := Int.mul_pos sv (show 0 < -ge_o p q u by omega)
      exact hx ⟨by grind, by grind⟩
    · exact h
theorem ge_mv_b1 {u v p q : GPt} (a1 : u.2 ≤ p.2) (a2 : p.2 ≤ q.2) (b2 : q.2 < v.2) (tp : 0 < ge_o u v p) (tq : ge_o u v q < 0) : ge_meet u v p q := by
  have e1 := ge_o_y1 p q u v
  have e2 := ge_o_y2 p q u v
  have k1 : 0 ≤ (p.2 - u.2) * -ge_o u v q := Int.mul_nonneg (by omega) (by omega)
  have k2 : 0 ≤ (q.2 - u.2) * ge_o u v p := Int.mul_nonneg (by omega) (by omega)
  have k3 : 0 < (v.2 - p.2) * -ge_o u v q := Int.mul_pos (by omega) (by omega)
  have k4 : 0 < (v.2 - q.2) * ge_o u v p := Int.mul_pos (by omega) tp
  have sv : 0 < ge_o p q v := ge_pos (show 0 < v.2 - u.2 by omega) (by grind)
  have su : 0 ≤ -ge_o p q u := ge_nn (show 0 < v.2 - u.2 by omega) (by grind)
  rcases Int.lt_or_eq_of_le su with su' | su'
  · have m1 := Int.mul_pos tp (show 0 < -ge_o u v q by omega)
    have m2 := Int.mul_pos sv su'
    exact Or.inr (Or.inr (Or.inr (Or.inr ⟨by grind, by grind⟩)))
  · have su0 : ge_o p q u = 0 := by omega
    have e3 : (p.2 - u.2) * -ge_o u v q + (q.2 - u.2) * ge_o u v p = 0 := by rw [su0] at e1; grind
    have z1 := ge_sum0 k1 k2 e3
    have z2 := ge_sum0 k2 k1 (by rw [Int.add_comm]; exact e3)
    have y1 : p.2 = u.2 := by rcases Int.mul_eq_zero.mp z1 with z | z <;> omega
    have y2 : q.2 = u.2 := by rcases Int.mul_eq_zero.mp z2 with z | z <;> omega
    have f1 : ge_o u v p = (v.2 - u.2) * (u.1 - p.1) := by unfold ge_o; grind
    have f2 : ge_o u v q = (v.2 - u.2) * (u.1 - q.1) := by unfold ge_o; grind
    have x1 : 0 < u.1 - p.1 := ge_pos (show 0 < v.2 - u.2 by omega) (by omega)
    have x2 : 0 < q.1 - u.1 := ge_pos (show 0 < v.2 - u.2 by omega) (by grind)
    exact Or.inr (Or.inr (Or.inl (ge_on_x (by omega) (by omega) (by omega) (by omega))))
theorem ge_mv_both {u v p q : GPt} (a1 : u.2 ≤ p.2) (a2 : p.2 ≤ q.2) (b2 : q.2 < v.2) (hm : ¬ ge_meet u v p q) : (0 < ge_o u v p) ↔ (0 < ge_o u v q) := by
  have tp0 : ge_o u v p ≠ 0 := fun z => hm (Or.inl (ge_on_y z (by omega) a1 (by omega)))
  have tq0 : ge_o u v q ≠ 0 := fun z => hm (Or.inr (Or.inl (ge_on_y z (by omega) (by omega) (by omega))))
  constructor
  · intro tp
    rcases Int.lt_or_lt_of_ne tq0 with h | h
    · exact absurd (ge_mv_b1 a1 a2 b2 tp h) hm
    · exact h
  · intro tq
    rcases Int.lt_or_lt_of_ne tp0 with h | h
    · exfalso
      -- the mirrored case
      have e1 := ge_o_y1 p q u v
      have e2 := ge_o_y2 p q u v
      have k1 : 0 ≤ (p.2 - u.2) * ge_o u v q := Int.mul_nonneg (by omega) (by omega)
      have k2 : 0 ≤ (q.2 - u.2) * -ge_o u v p := Int.mul_nonneg (by omega) (by omega)
      have k3 : 0 < (v.2 - p.2) * ge_o u v q := Int.mul_pos (by omega) tq
      have k4 : 0 < (v.2 - q.2) * -ge_o u v p := Int.mul_pos (by omega) (by omega)
      have sv : 0 < -ge_o p q v := ge_pos (show 0 < v.2 - u.2 by omega) (by grind)
      have su : 0 ≤ ge_o p q u := ge_nn (show 0 < v.2 - u.2 by omega) (by grind)
      rcases Int.lt_or_eq_of_le su with su' | su'
      · have m1 := Int.mul_pos tq (show 0 < -ge_o u v p by omega)
        have m2 := Int.mul_pos sv su'
        exact hm (Or.inr (Or.inr (Or.inr (Or.inr ⟨by grind, by grind⟩))))
      · have su0 : ge_o p q u = 0 := by omega
        have e3 : (p.2 - u.2) * ge_o u v q + (q.2 - u.2) * -ge_o u v p = 0 := by rw [su0] at e1; grind
        have z1 := ge_sum0 k1 k2 e3
        have z2 := ge_sum0 k2 k1 (by rw [Int.add_comm]; exact e3)
        have y1 : p.2 = u.2 := by rcases Int.mul_eq_zero.mp z1 with z | z <;> omega
        have y2 : q.2 = u.2 := by rcases Int.mul_eq_zero.mp z2 with z | z <;> omega
        have f1 : ge_o u v p = (v.2 - u.2) * (u.1 - p.1) := by unfold ge_o; grind
        have f2 : ge_o u v q = (v.2 - u.2) * (u.1 - q.1) := by unfold ge_o; grind
        have x1 : 0 < p.1 - u.1 := ge_pos (show 0 < v.2 - u.2 by omega) (by grind)
        have x2 : 0 < u.1 - q.1 := ge_pos (show 0 < v.2 - u.2 by omega) (by omega)
        exact hm (Or.inr (Or.inr (Or.inl (ge_on_symm (ge_on_x (by omega) (by omega) (by omega) (by omega))))))
    · exact h
theorem ge_cr_mv1 {u v p q : GPt} (hpq : p.2 ≤ q.2) (huv : u.2 ≤ v.2) (hm : ¬ ge_meet u v p q) : (ge_cr u v p != ge_cr u v q) = (ge_F p q u != ge_F p q v) := by
  unfold ge_cr ge_F
  rcases Int.lt_or_le p.2 u.2 with h1 | h1
  · rcases Int.lt_or_le q.2 u.2 with h2 | h2
    · grind
    · rcases Int.lt_or_le q.2 v.2 with h3 | h3
      · have := ge_mv_high h1 h2 h3 hm
        grind
      · have i1 : ge_o p q u < 0 → ge_o p q v < 0 := fun a => by
          rcases Int.lt_or_le (ge_o p q v) 0 with z | z
          · exact z
          · exact absurd (ge_mv_in h1 h2 (by omega) h3 a z) hm
        have i2 : ge_o p q v < 0 → ge_o p q u < 0 := fun a => by
          rcases Int.lt_or_le (ge_o p q u) 0 with z | z
          · exact z
          · exact absurd (ge_meet_symm (ge_meet_swap (ge_meet_symm (ge_mv_in (by omega) h3 h1 h2 a z)))) hm
        grind
  · rcases Int.lt_or_le p.2 v.2 with h3 | h3
    · rcases Int.lt_or_le q.2 v.2 with h4 | h4
      · have := ge_mv_both h1 hpq h4 hm
        grind
      · have := ge_mv_low h1 h3 h4 hm
        grind
    · grind
theorem ge_meet_flip {u v p q : GPt} (h : ge_meet v u p q) : ge_meet u v p q := ge_meet_symm (ge_meet_swap (ge_meet_symm h))
/-- what an edge that the way from p to q doesn't meet adds to the two counts -/
theorem ge_cr_mv {u v p q : GPt} (hpq : p.2 ≤ q.2) (hm : ¬ ge_meet u v p q) : (ge_cr u v p != ge_cr u v q) = (ge_F p q u != ge_F p q v) := by
  rcases Int.le_total u.2 v.2 with h | h
  · exact ge_cr_mv1 hpq h hm
  · rw [ge_cr_symm (fun z => hm (Or.inl z)), ge_cr_symm (u := u) (v := v) (p := q) (fun z => hm (Or.inr (Or.inl z)))]
    rw [ge_cr_mv1 hpq h (fun z => hm (ge_meet_flip z))]
    cases ge_F p q u <;> cases ge_F p q v <;> rfl
end
section
/-! closed polygons as lists of vertices: edges, the even-odd count, and that it is constant along a way that meets no edge -/
/-- the crossing count of an edge, without direction -/
def ge_cs (u v p : GPt) : Bool := if u.2 ≤ v.2 then ge_cr u v p else ge_cr v u p
theorem ge_cr_flat {u v p : GPt} (h : u.2 = v.2) : ge_cr u v p = false := by unfold ge_cr; rw [h]; simp
theorem ge_cs_comm (u v p : GPt) : ge_cs u v p = ge_cs v u p := by
  unfold ge_cs
  rcases Int.lt_trichotomy u.2 v.2 with h | h | h
  · rw [if_pos (by omega), if_neg (by omega)]
  · rw [if_pos (by omega), if_pos (by omega), ge_cr_flat h, ge_cr_flat h.symm]
  · rw [if_neg (by omega), if_pos (by omega)]
theorem ge_cs_cr {u v p : GPt} (h : ¬ ge_on u v p) : ge_cs u v p = ge_cr u v p := by
  unfold ge_cs
  split
  · rfl
  · exact (ge_cr_symm h).symm
theorem ge_cs_mv {u v p q : GPt} (hpq : p.2 ≤ q.2) (hm : ¬ ge_meet u v p q) : (ge_cs u v p != ge_cs u v q) = (ge_F p q u != ge_F p q v) := by
  rw [ge_cs_cr (fun z => hm (Or.inl z)), ge_cs_cr (fun z => hm (Or.inr (Or.inl z)))]
  exact ge_cr_mv hpq hm
/-- a path's edges -/
def ge_ed : List GPt → List (GPt × GPt)
  | [] => []
  | [_] => []
  | a :: b :: r => (a, b) :: ge_ed (b :: r)
/-- a path's count -/
def ge_pp : List GPt → GPt → Bool
  | [], _ => false
  | [_], _ => false
  | a :: b :: r, p => ge_cs a b p != ge_pp (b :: r) p
def ge_cy : List GPt → List GPt
  | [] => []
  | a :: r => a :: r ++ [a]
/-- a closed polygon's edges, and its count -/
def ge_E (l : List GPt) : List (GPt × GPt) := ge_ed (ge_cy l)
def ge_par (l : List GPt) (p : GPt) : Bool := ge_pp (ge_cy l) p
theorem ge_ed_app (xs : List GPt) (m : GPt) (ys : List GPt) : ge_ed (xs ++ m :: ys) = ge_ed (xs ++ [m]) ++ ge_ed (m :: ys) := by
  induction xs with
  | nil => rfl
  | cons a r ih =>
    cases r with
    | nil => rfl
    | cons b r => show (a, b) :: ge_ed (b :: r ++ m :: ys) = (a, b) :: ge_ed (b :: r ++ [m]) ++ ge_ed (m :: ys); rw [ih]; rfl
theorem ge_pp_app (xs : List GPt) (m : GPt) (ys : List GPt) (p : GPt) : ge_pp (xs ++ m :: ys) p = (ge_pp (xs ++ [m]) p != ge_pp (m :: ys) p) := by
  induction xs with
  | nil => show ge_pp (m :: ys) p = (false != ge_pp (m :: ys) p); cases ge_pp (m :: ys) p <;> rfl
  | cons a r ih =>
    cases r with
    | nil => show (ge_cs a m p != ge_pp (m :: ys) p) = ((ge_cs a m p != false) != ge_pp (m :: ys) p); cases ge_cs a m p <;> cases ge_pp (m :: ys) p <;> rfl
    | cons b r =>
      show (ge_cs a b p != ge_pp (b :: r ++ m :: ys) p) = ((ge_cs a b p != ge_pp (b :: r ++ [m]) p) != ge_pp (m :: ys) p)
      rw [ih]
      cases ge_cs a b p <;> cases ge_pp (b :: r ++ [m]) p <;> cases ge_pp (m :: ys) p <;> rfl
theorem ge_pp_mv {p q : GPt} (hpq : p.2 ≤ q.2) : ∀ (r : List GPt) (a : GPt), (∀ e ∈ ge_ed (a :: r), ¬ ge_meet e.1 e.2 p q) → (ge_pp (a :: r) p != ge_pp (a :: r) q) = (ge_F p q a != ge_F p q ((a :: r).getLast (List.cons_ne_nil _ _))) := by
  intro r
  induction r with
  | nil => intro a _; show (false != false) = (ge_F p q a != ge_F p q a); cases ge_F p q a <;> rfl
  | cons b r ih =>
    intro a h
    have h1 := ge_cs_mv hpq (h (a, b) List.mem_cons_self)
    have h2 := ih b (fun e he => h e (List.mem_cons_of_mem _ he))
    show ((ge_cs a b p != ge_pp (b :: r) p) != (ge_cs a b q != ge_pp (b :: r) q)) = (ge_F p q a != ge_F p q ((b :: r).getLast (List.cons_ne_nil _ _)))
    revert h1 h2
    generalize ge_F p q ((b :: r).getLast (List.cons_ne_nil _ _)) = z
    generalize ge_pp (b :: r) p = x1
    generalize ge_pp (b :: r) q = x2
    dsimp only
    cases ge_cs a b p <;> cases ge_cs a b q <;> cases ge_F p q a <;> cases ge_F p q b <;> cases x1 <;> cases x2 <;> cases z <;> simp
theorem ge_par_mv1 {l : List GPt} {p q : GPt} (hpq : p.2 ≤ q.2) (h : ∀ e ∈ ge_E l, ¬ ge_meet e.1 e.2 p q) : ge_par l p = ge_par l q := by
  cases l with
  | nil => rfl
  | cons a r =>
    have h1 := ge_pp_mv hpq (r ++ [a]) a h
    have h2 : (a :: (r ++ [a])).getLast (List.cons_ne_nil _ _) = a := by first | exact List.getLast_concat | exact List.getLast_append_singleton _ | grind | (rw [List.getLast_cons (by simp)]; simp)
    rw [h2] at h1
    show ge_pp (a :: (r ++ [a])) p = ge_pp (a :: (r ++ [a])) q
    revert h1
    cases ge_pp (a :: (r ++ [a])) p <;> cases ge_pp (a :: (r ++ [a])) q <;> cases ge_F p q a <;> simp
/-- the count is constant along a way that meets no edge -/
theorem ge_par_mv {l : List GPt} {p q : GPt} (h : ∀ e ∈ ge_E l, ¬ ge_meet e.1 e.2 p q) : ge_par l p = ge_par l q := by
  rcases Int.le_total p.2 q.2 with z | z
  · exact ge_par_mv1 z h
  · exact (ge_par_mv1 z (fun e he hm => h e he (ge_meet_swap hm))).symm
/-- turning the list round its cycle -/
theorem ge_E_rot (s t : List GPt) (e : GPt × GPt) : e ∈ ge_E (s ++ t) ↔ e ∈ ge_E (t ++ s) := by
  cases s with
  | nil => simp
  | cons a s =>
    cases t with
    | nil => simp
    | cons b t =>
      have h1 : ge_E (a :: s ++ b :: t) = ge_ed (a :: s ++ [b]) ++ ge_ed (b :: t ++ [a]) := by
        show ge_ed (a :: (s ++ b :: t) ++ [a]) = _
        rw [show a :: (s ++ b :: t) ++ [a] = (a :: s) ++ b :: (t ++ [a]) by simp, ge_ed_app]
        rfl
      have h2 : ge_E (b :: t ++ a :: s) = ge_ed (b :: t ++ [a]) ++ ge_ed (a :: s ++ [b]) := by
        show ge_ed (b :: (t ++ a :: s) ++ [b]) = _
        rw [show b :: (t ++ a :: s) ++ [b] = (b :: t) ++ a :: (s ++ [b]) by simp, ge_ed_app]
        rfl
      rw [h1, h2, List.mem_append, List.mem_append]
      exact Or.comm
theorem ge_par_rot (s t : List GPt) (p : GPt) : ge_par (s ++ t) p = ge_par (t ++ s) p := by
  cases s with
  | nil => simp
  | cons a s =>
    cases t with
    | nil => simp
    | cons b t =>
      have h1 : ge_par (a :: s ++ b :: t) p = (ge_pp (a :: s ++ [b]) p != ge_pp (b :: t ++ [a]) p) := by
        show ge_pp (a :: (s ++ b :: t) ++ [a]) p = _
        rw [show a :: (s ++ b :: t) ++ [a] = (a :: s) ++ b :: (t ++ [a]) by simp, ge_pp_app]
        rfl
      have h2 : ge_par (b :: t ++ a :: s) p = (ge_pp (b :: t ++ [a]) p != ge_pp (a :: s ++ [b]) p) := by
        show ge_pp (b :: (t ++ a :: s) ++ [b]) p = _
        rw [show b :: (t ++ a :: s) ++ [b] = (b :: t) ++ a :: (s ++ [b]) by simp, ge_pp_app]
        rfl
      rw [h1, h2]
      cases ge_pp (a :: s ++ [b]) p <;> cases ge_pp (b :: t ++ [a]) p <;> rfl
end
section
/-! triangles: weights, the count of a triangle, and that an edge that meets neither of two sides doesn't enter from the third -/
theorem ge_b0 (a b c p : GPt) : ge_o a b p + ge_o b c p + ge_o c a p = ge_o a b c := by unfold ge_o; grind
/-- a point's three sides weigh the corners -/
theorem ge_b1 (a b c p x y : GPt) : ge_o b c p * ge_o x y a + ge_o c a p * ge_o x y b + ge_o a b p * ge_o x y c = ge_o a b c * ge_o x y p := by unfold ge_o; grind
theorem ge_by (a b c p : GPt) : ge_o b c p * (a.2 - p.2) + ge_o c a p * (b.2 - p.2) + ge_o a b p * (c.2 - p.2) = 0 := by unfold ge_o; grind
theorem ge_bx (a b c p : GPt) : ge_o b c p * (a.1 - p.1) + ge_o c a p * (b.1 - p.1) + ge_o a b p * (c.1 - p.1) = 0 := by unfold ge_o; grind
/-- closed, and open, triangle to the left of a, b, c -/
def ge_in (a b c p : GPt) : Prop := 0 ≤ ge_o a b p ∧ 0 ≤ ge_o b c p ∧ 0 ≤ ge_o c a p
def ge_int (a b c p : GPt) : Prop := 0 < ge_o a b p ∧ 0 < ge_o b c p ∧ 0 < ge_o c a p
theorem ge_in_cyc {a b c p : GPt} (h : ge_in a b c p) : ge_in b c a p := ⟨h.2.1, h.2.2, h.1⟩
theorem ge_int_cyc {a b c p : GPt} (h : ge_int a b c p) : ge_int b c a p := ⟨h.2.1, h.2.2, h.1⟩
theorem ge_int_in {a b c p : GPt} (h : ge_int a b c p) : ge_in a b c p := ⟨by have := h.1; omega, by have := h.2.1; omega, by have := h.2.2; omega⟩
/-- on a side's line and in the triangle: on the side -/
theorem ge_in_on {a b c p : GPt} (hF : 0 < ge_o a b c) (h : ge_in a b c p) (h0 : ge_o a b p = 0) : ge_on a b p := by
  obtain ⟨h1, h2, h3⟩ := h
  have b0 := ge_b0 a b c p
  have bx := ge_bx a b c p
  have by' := ge_by a b c p
  rw [h0] at bx by' b0
  have hs : ge_o b c p + ge_o c a p = ge_o a b c := by omega
  have ex : ge_o a b c * (p.1 - a.1) = ge_o c a p * (b.1 - a.1) := by rw [← hs]; grind
  have ex2 : ge_o a b c * (p.1 - b.1) = ge_o b c p * (a.1 - b.1) := by rw [← hs]; grind
  have ey : ge_o a b c * (p.2 - a.2) = ge_o c a p * (b.2 - a.2) := by rw [← hs]; grind
  have ey2 : ge_o a b c * (p.2 - b.2) = ge_o b c p * (a.2 - b.2) := by rw [← hs]; grind
  have hFF : 0 < ge_o a b c * ge_o a b c := Int.mul_pos hF hF
  have kk : 0 ≤ ge_o c a p * ge_o b c p := Int.mul_nonneg h3 h2
  refine ⟨h0, ?_, ?_⟩
  · have q1 : 0 ≤ ge_o c a p * ge_o b c p * ((b.1 - a.1) * (b.1 - a.1)) := Int.mul_nonneg kk (ge_sq _)
    have q2 : ge_o a b c * ge_o a b c * -((p.1 - a.1) * (p.1 - b.1)) = ge_o c a p * ge_o b c p * ((b.1 - a.1) * (b.1 - a.1)) := by
      have : ge_o a b c * ge_o a b c * -((p.1 - a.1) * (p.1 - b.1)) = -((ge_o a b c * (p.1 - a.1)) * (ge_o a b c * (p.1 - b.1))) := by grind
      rw [this, ex, ex2]; grind
    have := ge_nn hFF (by rw [q2]; exact q1)
    omega
  · have q1 : 0 ≤ ge_o c a p * ge_o b c p * ((b.2 - a.2) * (b.2 - a.2)) := Int.mul_nonneg kk (ge_sq _)
    have q2 : ge_o a b c * ge_o a b c * -((p.2 - a.2) * (p.2 - b.2)) = ge_o c a p * ge_o b c p * ((b.2 - a.2) * (b.2 - a.2)) := by
      have : ge_o a b c * ge_o a b c * -((p.2 - a.2) * (p.2 - b.2)) = -((ge_o a b c * (p.2 - a.2)) * (ge_o a b c * (p.2 - b.2))) := by grind
      rw [this, ey, ey2]; grind
    have := ge_nn hFF (by rw [q2]; exact q1)
    omega
/-- one corner above, two not: the count of a triangle -/
theorem ge_tri1 {a b c p : GPt} (hF : 0 < ge_o a b c) (ha : a.2 ≤ p.2) (hb : b.2 ≤ p.2) (hc : p.2 < c.2) (n1 : ¬ ge_on a b p) : (0 < ge_o b c p ∧ 0 < ge_o c a p) ↔ ge_int a b c p := by
  have by' := ge_by a b c p
  have b0 := ge_b0 a b c p
  constructor
  · rintro ⟨h1, h2⟩
    refine ⟨?_, h1, h2⟩
    have k1 : 0 ≤ ge_o b c p * (p.2 - a.2) := Int.mul_nonneg (by omega) (by omega)
    have k2 : 0 ≤ ge_o c a p * (p.2 - b.2) := Int.mul_nonneg (by omega) (by omega)
    have k3 : 0 ≤ ge_o a b p := ge_nn (show 0 < c.2 - p.2 by omega) (by grind)
    rcases Int.lt_or_eq_of_le k3 with z | z
    · exact z
    · exact absurd (ge_in_on hF ⟨k3, by omega, by omega⟩ z.symm) n1
  · rintro ⟨_, h2, h3⟩
    exact ⟨h2, h3⟩
theorem ge_cs_up {u v p : GPt} (h1 : u.2 ≤ p.2) (h2 : p.2 < v.2) : ge_cs u v p = decide (0 < ge_o u v p) := by
  unfold ge_cs ge_cr
  rw [if_pos (by omega)]
  grind
theorem ge_cs_lo {u v p : GPt} (h1 : u.2 ≤ p.2) (h2 : v.2 ≤ p.2) : ge_cs u v p = false := by
  unfold ge_cs ge_cr
  split <;> grind
theorem ge_cs_hi {u v p : GPt} (h1 : p.2 < u.2) (h2 : p.2 < v.2) : ge_cs u v p = false := by
  unfold ge_cs ge_cr
  split <;> grind
def ge_tp (a b c p : GPt) : Bool := (ge_cs a b p != ge_cs b c p) != ge_cs c a p
theorem ge_tp_cyc (a b c p : GPt) : ge_tp b c a p = ge_tp a b c p := by unfold ge_tp; cases ge_cs a b p <;> cases ge_cs b c p <;> cases ge_cs c a p <;> rfl
theorem ge_tri_1 {a b c p : GPt} (hF : 0 < ge_o a b c) (ha : a.2 ≤ p.2) (hb : b.2 ≤ p.2) (hc : p.2 < c.2) (n1 : ¬ ge_on a b p) (n2 : ¬ ge_on b c p) (n3 : ¬ ge_on c a p) : ge_tp a b c p = true ↔ ge_int a b c p := by
  rw [← ge_tri1 hF ha hb hc n1]
  unfold ge_tp
  rw [ge_cs_lo ha hb, ge_cs_up hb hc, ge_cs_comm c a, ge_cs_up ha hc, ge_o_swap c a p]
  have by' := ge_by a b c p
  have b0 := ge_b0 a b c p
  have z3 : ge_o c a p ≠ 0 := fun z => n3 (ge_on_symm (ge_on_y (by rw [ge_o_swap, z]; rfl) (by omega) ha (by omega)))
  have z2 : ge_o b c p ≠ 0 := fun z => n2 (ge_on_y z (by omega) hb (by omega))
  have imp : ¬ (ge_o b c p < 0 ∧ ge_o c a p < 0) := fun z => by
    have k1 : 0 ≤ -ge_o b c p * (p.2 - a.2) := Int.mul_nonneg (by omega) (by omega)
    have k2 : 0 ≤ -ge_o c a p * (p.2 - b.2) := Int.mul_nonneg (by omega) (by omega)
    have k3 : 0 ≤ -ge_o a b p := ge_nn (show 0 < c.2 - p.2 by omega) (by grind)
    omega
  grind
theorem ge_tri_2 {a b c p : GPt} (hF : 0 < ge_o a b c) (ha : p.2 < a.2) (hb : p.2 < b.2) (hc : c.2 ≤ p.2) (n1 : ¬ ge_on a b p) (n2 : ¬ ge_on b c p) (n3 : ¬ ge_on c a p) : ge_tp a b c p = true ↔ ge_int a b c p := by
  unfold ge_tp ge_int
  rw [ge_cs_hi ha hb, ge_cs_comm b c, ge_cs_up hc hb, ge_cs_up hc ha, ge_o_swap b c p]
  have by' := ge_by a b c p
  have b0 := ge_b0 a b c p
  have z2 : ge_o b c p ≠ 0 := fun z => n2 (ge_on_symm (ge_on_y (by rw [ge_o_swap, z]; rfl) (by omega) hc (by omega)))
  have z3 : ge_o c a p ≠ 0 := fun z => n3 (ge_on_y z (by omega) hc (by omega))
  have pos : 0 < ge_o b c p → 0 < ge_o c a p → 0 < ge_o a b p := fun h1 h2 => by
    have k1 : 0 < ge_o b c p * (a.2 - p.2) := Int.mul_pos h1 (by omega)
    have k2 : 0 < ge_o c a p * (b.2 - p.2) := Int.mul_pos h2 (by omega)
    rcases Int.lt_or_le 0 (ge_o a b p) with z | z
    · exact z
    · have := Int.mul_nonneg (show 0 ≤ -ge_o a b p by omega) (show 0 ≤ p.2 - c.2 by omega)
      grind
  have imp : ¬ (ge_o b c p < 0 ∧ ge_o c a p < 0) := fun z => by
    have k1 : 0 < -ge_o b c p * (a.2 - p.2) := Int.mul_pos (by omega) (by omega)
    have k2 : 0 < -ge_o c a p * (b.2 - p.2) := Int.mul_pos (by omega) (by omega)
    rcases Int.lt_or_le (ge_o a b p) 0 with q | q
    · omega
    · have := Int.mul_nonneg q (show 0 ≤ p.2 - c.2 by omega)
      grind
  grind
/-- the count of a triangle, off its sides -/
theorem ge_tri {a b c p : GPt} (hF : 0 < ge_o a b c) (n1 : ¬ ge_on a b p) (n2 : ¬ ge_on b c p) (n3 : ¬ ge_on c a p) : ge_tp a b c p = true ↔ ge_int a b c p := by
  have cy1 : ge_int b c a p ↔ ge_int a b c p := ⟨fun h => ge_int_cyc (ge_int_cyc h), ge_int_cyc⟩
  have cy2 : ge_int c a b p ↔ ge_int a b c p := ⟨ge_int_cyc, fun h => ge_int_cyc (ge_int_cyc h)⟩
  have hF1 : 0 < ge_o b c a := by rw [ge_o_cyc]; exact hF
  have hF2 : 0 < ge_o c a b := by rw [ge_o_cyc]; exact hF1
  have tpc : ge_tp c a b p = ge_tp a b c p := (ge_tp_cyc b c a p).trans (ge_tp_cyc a b c p)
  have by' := ge_by a b c p
  rcases Int.lt_or_le p.2 a.2 with ha | ha <;> rcases Int.lt_or_le p.2 b.2 with hb | hb <;> rcases Int.lt_or_le p.2 c.2 with hc | hc
  · unfold ge_tp ge_int
    rw [ge_cs_hi ha hb, ge_cs_hi hb hc, ge_cs_hi hc ha]
    constructor
    · intro h; cases h
    · rintro ⟨h1, h2, h3⟩
      have k1 : 0 < ge_o b c p * (a.2 - p.2) := Int.mul_pos h2 (by omega)
      have k2 : 0 < ge_o c a p * (b.2 - p.2) := Int.mul_pos h3 (by omega)
      have k3 : 0 < ge_o a b p * (c.2 - p.2) := Int.mul_pos h1 (by omega)
      omega
  · exact ge_tri_2 hF ha hb hc n1 n2 n3
  · rw [← tpc, ← cy2]
    exact ge_tri_2 hF2 hc ha hb n3 n1 n2
  · rw [← cy1, ← ge_tp_cyc a b c p]
    exact ge_tri_1 hF1 hb hc ha n2 n3 n1
  · rw [← cy1, ← ge_tp_cyc a b c p]
    exact ge_tri_2 hF1 hb hc ha n2 n3 n1
  · rw [← tpc, ← cy2]
    exact ge_tri_1 hF2 hc ha hb n3 n1 n2
  · exact ge_tri_1 hF ha hb hc n1 n2 n3
  · unfold ge_tp ge_int
    rw [ge_cs_lo ha hb, ge_cs_lo hb hc, ge_cs_lo hc ha]
    constructor
    · intro h; cases h
    · rintro ⟨h1, h2, h3⟩
      exfalso
      have k1 : 0 ≤ ge_o b c p * (p.2 - a.2) := Int.mul_nonneg (by omega) (by omega)
      have k2 : 0 ≤ ge_o c a p * (p.2 - b.2) := Int.mul_nonneg (by omega) (by omega)
      have k3 : 0 ≤ ge_o a b p * (p.2 - c.2) := Int.mul_nonneg (by omega) (by omega)
      have es : ge_o b c p * (p.2 - a.2) + ge_o c a p * (p.2 - b.2) + ge_o a b p * (p.2 - c.2) = 0 := by
        have q : ge_o b c p * (p.2 - a.2) + ge_o c a p * (p.2 - b.2) + ge_o a b p * (p.2 - c.2) = -(ge_o b c p * (a.2 - p.2) + ge_o c a p * (b.2 - p.2) + ge_o a b p * (c.2 - p.2)) := by clear by' k1 k2 k3; grind
        rw [q, by']; rfl
      have e1 : ge_o b c p * (p.2 - a.2) = 0 := by omega
      have e2 : ge_o c a p * (p.2 - b.2) = 0 := by omega
      have e3 : ge_o a b p * (p.2 - c.2) = 0 := by omega
      have y1 : p.2 - a.2 = 0 := by rcases Int.mul_eq_zero.mp e1 with z | z <;> omega
      have y2 : p.2 - b.2 = 0 := by rcases Int.mul_eq_zero.mp e2 with z | z <;> omega
      have y3 : p.2 - c.2 = 0 := by rcases Int.mul_eq_zero.mp e3 with z | z <;> omega
      have : ge_o a b c = 0 := by unfold ge_o; grind
      omega
end
section
/-! points of a segment by weights; an edge that doesn't cross two sides of a triangle stays out of it, but for the third side -/
def ge_x (u v p q : GPt) : Prop := ge_o u v p * ge_o u v q < 0 ∧ ge_o p q u * ge_o p q v < 0
def ge_wt (x y r : GPt) (i j : Int) : Prop := 0 ≤ i ∧ 0 ≤ j ∧ 0 < i + j ∧ (i + j) * r.1 = i * x.1 + j * y.1 ∧ (i + j) * r.2 = i * x.2 + j * y.2
theorem ge_wt_o {x y r : GPt} {i j : Int} (h : ge_wt x y r i j) (u v : GPt) : (i + j) * ge_o u v r = i * ge_o u v x + j * ge_o u v y := by
  obtain ⟨-, -, -, h1, h2⟩ := h
  unfold ge_o
  grind
theorem ge_wt_swap {x y r : GPt} {i j : Int} (h : ge_wt x y r i j) : ge_wt y x r j i := by
  obtain ⟨h1, h2, h3, h4, h5⟩ := h
  exact ⟨h2, h1, by omega, by rw [Int.add_comm j i, h4]; omega, by rw [Int.add_comm j i, h5]; omega⟩
theorem ge_mul_le {k a b : Int} (hk : 0 < k) (h : k * a ≤ k * b) : a ≤ b := by
  have := ge_nn (t := b - a) hk (by grind)
  omega
theorem ge_wt_on {x y r : GPt} {i j : Int} (h : ge_wt x y r i j) : ge_on x y r := by
  have ho := ge_wt_o h x y
  obtain ⟨hi, hj, hs, h1, h2⟩ := h
  have z1 : ge_o x y x = 0 := by unfold ge_o; grind
  have z2 : ge_o x y y = 0 := by unfold ge_o; grind
  rw [z1, z2] at ho
  have hss : 0 < (i + j) * (i + j) := Int.mul_pos hs hs
  have hij := Int.mul_nonneg hi hj
  refine ⟨ge_zero hs (by omega), ?_, ?_⟩
  · have e1 : (i + j) * (r.1 - x.1) = j * (y.1 - x.1) := by grind
    have e2 : (i + j) * (r.1 - y.1) = i * (x.1 - y.1) := by grind
    have q1 : 0 ≤ i * j * ((y.1 - x.1) * (y.1 - x.1)) := Int.mul_nonneg hij (ge_sq _)
    have q2 : (i + j) * (i + j) * -((r.1 - x.1) * (r.1 - y.1)) = i * j * ((y.1 - x.1) * (y.1 - x.1)) := by
      have : (i + j) * (i + j) * -((r.1 - x.1) * (r.1 - y.1)) = -(((i + j) * (r.1 - x.1)) * ((i + j) * (r.1 - y.1))) := by grind
      rw [this, e1, e2]; grind
    have := ge_nn hss (by rw [q2]; exact q1)
    omega
  · have e1 : (i + j) * (r.2 - x.2) = j * (y.2 - x.2) := by grind
    have e2 : (i + j) * (r.2 - y.2) = i * (x.2 - y.2) := by grind
    have q1 : 0 ≤ i * j * ((y.2 - x.2) * (y.2 - x.2)) := Int.mul_nonneg hij (ge_sq _)
    have q2 : (i + j) * (i + j) * -((r.2 - x.2) * (r.2 - y.2)) = i * j * ((y.2 - x.2) * (y.2 - x.2)) := by
      have : (i + j) * (i + j) * -((r.2 - x.2) * (r.2 - y.2)) = -(((i + j) * (r.2 - x.2)) * ((i + j) * (r.2 - y.2))) := by grind
      rw [this, e1, e2]; grind
    have := ge_nn hss (by rw [q2]; exact q1)
    omega
theorem ge_btw {a b r : Int} (h : (r - a) * (r - b) ≤ 0) : (a ≤ r ∧ r ≤ b) ∨ (b ≤ r ∧ r ≤ a) := by
  rcases Int.lt_or_le r a with z | z
  · rcases Int.lt_or_le r b with w | w
    · have := Int.mul_pos (show 0 < a - r by omega) (show 0 < b - r by omega)
      exfalso
      grind
    · exact Or.inr ⟨w, by omega⟩
  · rcases Int.lt_or_le b r with w | w
    · rcases Int.lt_or_eq_of_le z with z' | z'
      · have := Int.mul_pos (show 0 < r - a by omega) (show 0 < r - b by omega)
        omega
      · exact Or.inr ⟨by omega, by omega⟩
    · exact Or.inl ⟨z, w⟩
theorem ge_on_wt {x y r : GPt} (hxy : x ≠ y) (h : ge_on x y r) : ∃ i j : Int, ge_wt x y r i j := by
  obtain ⟨h0, h1, h2⟩ := h
  unfold ge_o at h0
  have b1 := ge_btw h1
  have b2 := ge_btw h2
  by_cases hx : x.1 = y.1
  · have hy : x.2 ≠ y.2 := fun z => hxy (Prod.ext hx z)
    have hr : r.1 = x.1 := by omega
    rcases b2 with ⟨u, v⟩ | ⟨u, v⟩
    · exact ⟨y.2 - r.2, r.2 - x.2, by omega, by omega, by omega, by rw [hr, ← hx]; grind, by grind⟩
    · exact ⟨r.2 - y.2, x.2 - r.2, by omega, by omega, by omega, by rw [hr, ← hx]; grind, by grind⟩
  · rcases b1 with ⟨u, v⟩ | ⟨u, v⟩
    · exact ⟨y.1 - r.1, r.1 - x.1, by omega, by omega, by omega, by grind, by grind⟩
    · exact ⟨r.1 - y.1, x.1 - r.1, by omega, by omega, by omega, by grind, by grind⟩
/-- the point where the line xy meets the line ab, if it is a -/
theorem ge_at {a b x y : GPt} (h0 : ge_o x y a = 0) (hx : 0 < ge_o a b x) (hy : ge_o a b y < 0) : ge_on x y a := by
  refine ge_wt_on (i := -ge_o a b y) (j := ge_o a b x) ⟨by omega, by omega, by omega, ?_, ?_⟩
  · have : (-ge_o a b y + ge_o a b x) * a.1 - (-ge_o a b y * x.1 + ge_o a b x * y.1) = ge_o x y a * (b.1 - a.1) := by unfold ge_o; grind
    rw [h0] at this
    omega
  · have : (-ge_o a b y + ge_o a b x) * a.2 - (-ge_o a b y * x.2 + ge_o a b x * y.2) = ge_o x y a * (b.2 - a.2) := by unfold ge_o; grind
    rw [h0] at this
    omega
theorem ge_neg_of {k f : Int} (hk : 0 ≤ k) (h : 0 < k * f) : 0 < f := by
  rcases Int.lt_or_le 0 f with z | z
  · exact z
  · have := Int.mul_nonneg hk (show 0 ≤ -f by omega)
    rw [Int.mul_neg] at this
    omega
theorem ge_lt_of {k f : Int} (hk : 0 < k) (h : k * f < 0) : f < 0 := by
  have := ge_pos (t := -f) hk (by rw [Int.mul_neg]; omega)
  omega
theorem ge_ngt_of {k f : Int} (hk : k < 0) (h : k * f < 0) : 0 < f := ge_pos (k := -k) (by omega) (by rw [Int.neg_mul]; omega)
theorem ge_nlt_of {k f : Int} (hk : k < 0) (h : 0 < k * f) : f < 0 := by
  have := ge_pos (k := -k) (t := -f) (by omega) (by rw [Int.neg_mul_neg]; exact h)
  omega
/-- a side is passed strictly -/
theorem ge_pass {x y r : GPt} {i j : Int} (w : ge_wt x y r i j) {u v : GPt} (hr : 0 ≤ ge_o u v r) (hy : ge_o u v y < 0) (hj : 0 < j) : 0 < ge_o u v x := by
  have e := ge_wt_o w u v
  obtain ⟨hi, _, hs, _⟩ := w
  have k1 : 0 ≤ (i + j) * ge_o u v r := Int.mul_nonneg (by omega) hr
  have k2 : 0 < j * -ge_o u v y := Int.mul_pos hj (by omega)
  rw [Int.mul_neg] at k2
  exact ge_neg_of hi (by omega)
theorem ge_K1 {a b c x y r : GPt} {i j : Int} (w : ge_wt x y r i j) (hj : 0 < j) (rT : ge_in a b c r) (r3 : 0 < ge_o c a r) (y3 : 0 < ge_o c a y) (y1 : ge_o a b y < 0)
    (c1 : ¬ ge_x x y a b) (c2 : ¬ ge_x x y b c) (na : ge_on x y a → ¬ ge_o a b x * ge_o a b y < 0) (nb : ¬ ge_on x y b) : False := by
  have x1 : 0 < ge_o a b x := ge_pass w rT.1 y1 hj
  have hr0 : ge_o x y r = 0 := (ge_wt_on w).1
  have br := ge_b1 a b c r x y
  have byy := ge_b1 a b c y x y
  have hyy : ge_o x y y = 0 := by unfold ge_o; grind
  rw [hr0, Int.mul_zero] at br
  rw [hyy, Int.mul_zero] at byy
  have pxy : ge_o a b x * ge_o a b y < 0 := by have := Int.mul_pos x1 (show 0 < -ge_o a b y by omega); rw [Int.mul_neg] at this; omega
  have oa : ge_o x y a ≠ 0 := fun z => na (ge_at z x1 y1) pxy
  have ob : ge_o x y b ≠ 0 := fun z => nb (by
    have e1 : ge_o b a x = -ge_o a b x := ge_o_swap a b x
    have e2 : ge_o b a y = -ge_o a b y := ge_o_swap a b y
    exact ge_on_symm (ge_at (a := b) (b := a) (x := y) (y := x) (by rw [ge_o_swap, z]; rfl) (by omega) (by omega)))
  have same : ¬ ge_o x y a * ge_o x y b < 0 := fun z => c1 ⟨z, pxy⟩
  obtain ⟨r1, r2, -⟩ := rT
  rcases Int.lt_or_lt_of_ne oa with ha | ha
  · have hb : ge_o x y b < 0 := by
      rcases Int.lt_or_lt_of_ne ob with q | q
      · exact q
      · have := Int.mul_pos (show 0 < -ge_o x y a by omega) q
        rw [Int.neg_mul] at this
        exact absurd (by omega) same
    have k1 : 0 ≤ ge_o b c r * -ge_o x y a := Int.mul_nonneg r2 (by omega)
    have k2 : 0 < ge_o c a r * -ge_o x y b := Int.mul_pos r3 (by omega)
    rw [Int.mul_neg] at k1 k2
    have k3 : 0 < ge_o a b r * ge_o x y c := by omega
    have oc : 0 < ge_o x y c := ge_neg_of r1 k3
    have m1 : 0 < ge_o c a y * -ge_o x y b := Int.mul_pos y3 (by omega)
    have m2 : 0 < -ge_o a b y * ge_o x y c := Int.mul_pos (by omega) oc
    rw [Int.mul_neg] at m1
    rw [Int.neg_mul] at m2
    have m3 : ge_o x y a * ge_o b c y > 0 := by rw [Int.mul_comm]; omega
    have y2 : ge_o b c y < 0 := ge_nlt_of ha m3
    have x2 : 0 < ge_o b c x := ge_pass w r2 y2 hj
    refine c2 ⟨?_, ?_⟩
    · have := Int.mul_pos (show 0 < -ge_o x y b by omega) oc
      rw [Int.neg_mul] at this
      omega
    · have := Int.mul_pos x2 (show 0 < -ge_o b c y by omega)
      rw [Int.mul_neg] at this
      omega
  · have hb : 0 < ge_o x y b := by
      rcases Int.lt_or_lt_of_ne ob with q | q
      · have := Int.mul_pos ha (show 0 < -ge_o x y b by omega)
        rw [Int.mul_neg] at this
        exact absurd (by omega) same
      · exact q
    have k1 : 0 ≤ ge_o b c r * ge_o x y a := Int.mul_nonneg r2 (by omega)
    have k2 : 0 < ge_o c a r * ge_o x y b := Int.mul_pos r3 hb
    have k3 : 0 < ge_o a b r * -ge_o x y c := by rw [Int.mul_neg]; omega
    have oc : 0 < -ge_o x y c := ge_neg_of r1 k3
    have m1 : 0 < ge_o c a y * ge_o x y b := Int.mul_pos y3 hb
    have m2 : 0 < -ge_o a b y * -ge_o x y c := Int.mul_pos (by omega) oc
    rw [Int.neg_mul_neg] at m2
    have m3 : ge_o x y a * ge_o b c y < 0 := by rw [Int.mul_comm]; omega
    have y2 : ge_o b c y < 0 := ge_lt_of ha m3
    have x2 : 0 < ge_o b c x := ge_pass w r2 y2 hj
    refine c2 ⟨?_, ?_⟩
    · have := Int.mul_pos hb oc
      rw [Int.mul_neg] at this
      omega
    · have := Int.mul_pos x2 (show 0 < -ge_o b c y by omega)
      rw [Int.mul_neg] at this
      omega
theorem ge_K2 {a b c x y r : GPt} {i j : Int} (w : ge_wt x y r i j) (hj : 0 < j) (rT : ge_in a b c r) (r3 : 0 < ge_o c a r) (y3 : 0 < ge_o c a y) (y2 : ge_o b c y < 0)
    (c1 : ¬ ge_x x y a b) (c2 : ¬ ge_x x y b c) (na : ge_on x y a → ¬ ge_o a b x * ge_o a b y < 0) (nb : ¬ ge_on x y b) (nc : ge_on x y c → ¬ ge_o b c x * ge_o b c y < 0) : False := by
  have x2 : 0 < ge_o b c x := ge_pass w rT.2.1 y2 hj
  have hr0 : ge_o x y r = 0 := (ge_wt_on w).1
  have br := ge_b1 a b c r x y
  have byy := ge_b1 a b c y x y
  have hyy : ge_o x y y = 0 := by unfold ge_o; grind
  rw [hr0, Int.mul_zero] at br
  rw [hyy, Int.mul_zero] at byy
  have pxy : ge_o b c x * ge_o b c y < 0 := by have := Int.mul_pos x2 (show 0 < -ge_o b c y by omega); rw [Int.mul_neg] at this; omega
  have ob : ge_o x y b ≠ 0 := fun z => nb (ge_at z x2 y2)
  have oc : ge_o x y c ≠ 0 := fun z => by
    have e1 : ge_o c b x = -ge_o b c x := ge_o_swap b c x
    have e2 : ge_o c b y = -ge_o b c y := ge_o_swap b c y
    exact nc (ge_on_symm (ge_at (a := c) (b := b) (x := y) (y := x) (by rw [ge_o_swap, z]; rfl) (by omega) (by omega))) pxy
  have same : ¬ ge_o x y b * ge_o x y c < 0 := fun z => c2 ⟨z, pxy⟩
  refine ge_K1 w hj rT r3 y3 ?_ c1 c2 na nb
  obtain ⟨r1, r2, -⟩ := rT
  rcases Int.lt_or_lt_of_ne ob with hb | hb
  · have hc : ge_o x y c < 0 := by
      rcases Int.lt_or_lt_of_ne oc with q | q
      · exact q
      · have := Int.mul_pos (show 0 < -ge_o x y b by omega) q
        rw [Int.neg_mul] at this
        exact absurd (by omega) same
    have k1 : 0 ≤ ge_o a b r * -ge_o x y c := Int.mul_nonneg r1 (by omega)
    have k2 : 0 < ge_o c a r * -ge_o x y b := Int.mul_pos r3 (by omega)
    rw [Int.mul_neg] at k1 k2
    have oa : 0 < ge_o x y a := ge_neg_of r2 (by omega)
    have m1 : 0 < ge_o c a y * -ge_o x y b := Int.mul_pos y3 (by omega)
    have m2 : 0 < -ge_o b c y * ge_o x y a := Int.mul_pos (by omega) oa
    rw [Int.mul_neg] at m1
    rw [Int.neg_mul] at m2
    exact ge_nlt_of hc (by rw [Int.mul_comm]; omega)
  · have hc : 0 < ge_o x y c := by
      rcases Int.lt_or_lt_of_ne oc with q | q
      · have := Int.mul_pos hb (show 0 < -ge_o x y c by omega)
        rw [Int.mul_neg] at this
        exact absurd (by omega) same
      · exact q
    have k1 : 0 ≤ ge_o a b r * ge_o x y c := Int.mul_nonneg r1 (by omega)
    have k2 : 0 < ge_o c a r * ge_o x y b := Int.mul_pos r3 hb
    have oa : 0 < -ge_o x y a := ge_neg_of r2 (by rw [Int.mul_neg]; omega)
    have m1 : 0 < ge_o c a y * ge_o x y b := Int.mul_pos y3 hb
    have m2 : 0 < -ge_o b c y * -ge_o x y a := Int.mul_pos (by omega) oa
    rw [Int.neg_mul_neg] at m2
    exact ge_lt_of hc (by rw [Int.mul_comm]; omega)
theorem ge_x_swap {x y p q : GPt} (h : ge_x y x p q) : ge_x x y p q := by
  obtain ⟨h1, h2⟩ := h
  rw [ge_o_swap x y p, ge_o_swap x y q, Int.neg_mul_neg] at h1
  exact ⟨h1, by rw [Int.mul_comm]; exact h2⟩
theorem ge_x_symm {x y p q : GPt} (h : ge_x x y p q) : ge_x p q x y := ⟨h.2, h.1⟩
theorem ge_wt_0 {x y r : GPt} {i : Int} (w : ge_wt x y r i 0) : r = x := by
  obtain ⟨h1, h2, h3, h4, h5⟩ := w
  have e1 := ge_zero (t := r.1 - x.1) (show 0 < i by omega) (by grind)
  have e2 := ge_zero (t := r.2 - x.2) (show 0 < i by omega) (by grind)
  exact Prod.ext (by omega) (by omega)
/-- the edge xy has no point in the triangle off its side ca -/
theorem ge_K {a b c x y r : GPt} (hxy : x ≠ y) (hr : ge_on x y r) (rT : ge_in a b c r) (r3 : 0 < ge_o c a r) (hx : ¬ (ge_in a b c x ∧ 0 < ge_o c a x)) (hy : ¬ (ge_in a b c y ∧ 0 < ge_o c a y))
    (c1 : ¬ ge_x x y a b) (c2 : ¬ ge_x x y b c) (na : ge_on x y a → ¬ ge_o a b x * ge_o a b y < 0) (nb : ¬ ge_on x y b) (nc : ge_on x y c → ¬ ge_o b c x * ge_o b c y < 0) : False := by
  obtain ⟨i, j, w⟩ := ge_on_wt hxy hr
  have e3 := ge_wt_o w c a
  have k3 : 0 < (i + j) * ge_o c a r := Int.mul_pos w.2.2.1 r3
  have hi0 : i ≠ 0 := fun z => by
    subst z
    have := ge_wt_0 (ge_wt_swap w)
    subst this
    exact hy ⟨rT, r3⟩
  have hj0 : j ≠ 0 := fun z => by
    subst z
    have := ge_wt_0 w
    subst this
    exact hx ⟨rT, r3⟩
  have hi : 0 < i := by have := w.1; omega
  have hj : 0 < j := by have := w.2.1; omega
  rcases Int.lt_or_le 0 (ge_o c a y) with y3 | y3
  · rcases Int.lt_or_le (ge_o a b y) 0 with y1 | y1
    · exact ge_K1 w hj rT r3 y3 y1 c1 c2 na nb
    · rcases Int.lt_or_le (ge_o b c y) 0 with y2 | y2
      · exact ge_K2 w hj rT r3 y3 y2 c1 c2 na nb nc
      · exact hy ⟨⟨y1, y2, by omega⟩, y3⟩
  · have x3 : 0 < ge_o c a x := by
      have := Int.mul_nonneg (show 0 ≤ j by omega) (show 0 ≤ -ge_o c a y by omega)
      rw [Int.mul_neg] at this
      exact ge_pos hi (by omega)
    have c1' : ¬ ge_x y x a b := fun z => c1 (ge_x_swap z)
    have c2' : ¬ ge_x y x b c := fun z => c2 (ge_x_swap z)
    have na' : ge_on y x a → ¬ ge_o a b y * ge_o a b x < 0 := fun z => by rw [Int.mul_comm]; exact na (ge_on_symm z)
    have nc' : ge_on y x c → ¬ ge_o b c y * ge_o b c x < 0 := fun z => by rw [Int.mul_comm]; exact nc (ge_on_symm z)
    have nb' : ¬ ge_on y x b := fun z => nb (ge_on_symm z)
    rcases Int.lt_or_le (ge_o a b x) 0 with y1 | y1
    · exact ge_K1 (ge_wt_swap w) hi rT r3 x3 y1 c1' c2' na' nb'
    · rcases Int.lt_or_le (ge_o b c x) 0 with y2 | y2
      · exact ge_K2 (ge_wt_swap w) hi rT r3 x3 y2 c1' c2' na' nb' nc'
      · exact hx ⟨⟨y1, y2, by omega⟩, x3⟩
end
section
/-! scaling, and the common point of two segments that meet -/
def ge_s (m : Int) (v : GPt) : GPt := (m * v.1, m * v.2)
theorem ge_o_s (m : Int) (a b c : GPt) : ge_o (ge_s m a) (ge_s m b) (ge_s m c) = m * m * ge_o a b c := by unfold ge_o ge_s; grind
theorem ge_s_s (m k : Int) (a : GPt) : ge_s m (ge_s k a) = ge_s (m * k) a := by unfold ge_s; simp [Int.mul_assoc]
theorem ge_s_1 (a : GPt) : ge_s 1 a = a := by unfold ge_s; simp
theorem ge_s_inj {m : Int} (hm : 0 < m) {a b : GPt} (h : ge_s m a = ge_s m b) : a = b := by
  have h1 : m * a.1 = m * b.1 := congrArg Prod.fst h
  have h2 : m * a.2 = m * b.2 := congrArg Prod.snd h
  exact Prod.ext (Int.eq_of_mul_eq_mul_left (by omega) h1) (Int.eq_of_mul_eq_mul_left (by omega) h2)
theorem ge_mm {m : Int} (hm : 0 < m) : 0 < m * m := Int.mul_pos hm hm
theorem ge_sg_pos {k t : Int} (hk : 0 < k) : 0 < k * t ↔ 0 < t := ⟨ge_pos hk, Int.mul_pos hk⟩
theorem ge_sg_nn {k t : Int} (hk : 0 < k) : 0 ≤ k * t ↔ 0 ≤ t := ⟨ge_nn hk, Int.mul_nonneg (Int.le_of_lt hk)⟩
theorem ge_sg_neg {k t : Int} (hk : 0 < k) : k * t < 0 ↔ t < 0 := by
  constructor
  · exact ge_lt_of hk
  · intro h
    have := Int.mul_pos hk (show 0 < -t by omega)
    rw [Int.mul_neg] at this
    omega
theorem ge_sg_np {k t : Int} (hk : 0 < k) : k * t ≤ 0 ↔ t ≤ 0 := by
  have := ge_sg_pos (t := t) hk
  constructor
  · intro h
    rcases Int.lt_or_le 0 t with z | z
    · have := this.mpr z; omega
    · exact z
  · intro h
    rcases Int.lt_or_le 0 (k * t) with z | z
    · have := this.mp z; omega
    · exact z
theorem ge_sg_0 {k t : Int} (hk : 0 < k) : k * t = 0 ↔ t = 0 := ⟨ge_zero hk, fun h => by rw [h, Int.mul_zero]⟩
theorem ge_on_s {m : Int} (hm : 0 < m) (a b p : GPt) : ge_on (ge_s m a) (ge_s m b) (ge_s m p) ↔ ge_on a b p := by
  unfold ge_on
  rw [ge_o_s, ge_sg_0 (ge_mm hm)]
  have e1 : ((ge_s m p).1 - (ge_s m a).1) * ((ge_s m p).1 - (ge_s m b).1) = m * m * ((p.1 - a.1) * (p.1 - b.1)) := by unfold ge_s; grind
  have e2 : ((ge_s m p).2 - (ge_s m a).2) * ((ge_s m p).2 - (ge_s m b).2) = m * m * ((p.2 - a.2) * (p.2 - b.2)) := by unfold ge_s; grind
  rw [e1, e2, ge_sg_np (ge_mm hm), ge_sg_np (ge_mm hm)]
theorem ge_x_s {m : Int} (hm : 0 < m) (a b p q : GPt) : ge_x (ge_s m a) (ge_s m b) (ge_s m p) (ge_s m q) ↔ ge_x a b p q := by
  unfold ge_x
  rw [ge_o_s, ge_o_s, ge_o_s, ge_o_s]
  have e1 : m * m * ge_o a b p * (m * m * ge_o a b q) = (m * m) * (m * m) * (ge_o a b p * ge_o a b q) := by grind
  have e2 : m * m * ge_o p q a * (m * m * ge_o p q b) = (m * m) * (m * m) * (ge_o p q a * ge_o p q b) := by grind
  rw [e1, e2, ge_sg_neg (Int.mul_pos (ge_mm hm) (ge_mm hm)), ge_sg_neg (Int.mul_pos (ge_mm hm) (ge_mm hm))]
theorem ge_in_s {m : Int} (hm : 0 < m) (a b c p : GPt) : ge_in (ge_s m a) (ge_s m b) (ge_s m c) (ge_s m p) ↔ ge_in a b c p := by
  unfold ge_in
  rw [ge_o_s, ge_o_s, ge_o_s, ge_sg_nn (ge_mm hm), ge_sg_nn (ge_mm hm), ge_sg_nn (ge_mm hm)]
theorem ge_int_s {m : Int} (hm : 0 < m) (a b c p : GPt) : ge_int (ge_s m a) (ge_s m b) (ge_s m c) (ge_s m p) ↔ ge_int a b c p := by
  unfold ge_int
  rw [ge_o_s, ge_o_s, ge_o_s, ge_sg_pos (ge_mm hm), ge_sg_pos (ge_mm hm), ge_sg_pos (ge_mm hm)]
theorem ge_sg_lt {m a b : Int} (hm : 0 < m) : m * a < m * b ↔ a < b := by
  have := ge_sg_pos (t := b - a) hm
  rw [Int.mul_sub] at this
  omega
theorem ge_sg_le {m a b : Int} (hm : 0 < m) : m * a ≤ m * b ↔ a ≤ b := by
  have := ge_sg_nn (t := b - a) hm
  rw [Int.mul_sub] at this
  omega
theorem ge_cr_s {m : Int} (hm : 0 < m) (u v p : GPt) : ge_cr (ge_s m u) (ge_s m v) (ge_s m p) = ge_cr u v p := by
  unfold ge_cr
  have h1 : ((ge_s m p).2 < (ge_s m u).2) ↔ p.2 < u.2 := ge_sg_lt hm
  have h2 : ((ge_s m p).2 < (ge_s m v).2) ↔ p.2 < v.2 := ge_sg_lt hm
  have h3 : ((ge_s m u).2 < (ge_s m v).2) ↔ u.2 < v.2 := ge_sg_lt hm
  have h4 : (0 < ge_o (ge_s m u) (ge_s m v) (ge_s m p)) ↔ 0 < ge_o u v p := by rw [ge_o_s, ge_sg_pos (ge_mm hm)]
  simp only [h1, h2, h3, h4]
theorem ge_cs_s {m : Int} (hm : 0 < m) (u v p : GPt) : ge_cs (ge_s m u) (ge_s m v) (ge_s m p) = ge_cs u v p := by
  unfold ge_cs
  have h3 : ((ge_s m u).2 ≤ (ge_s m v).2) ↔ u.2 ≤ v.2 := ge_sg_le hm
  simp only [h3, ge_cr_s hm]
def ge_S (m : Int) (l : List GPt) : List GPt := l.map (ge_s m)
theorem ge_pp_s {m : Int} (hm : 0 < m) (l : List GPt) (p : GPt) : ge_pp (ge_S m l) (ge_s m p) = ge_pp l p := by
  induction l with
  | nil => rfl
  | cons a r ih =>
    cases r with
    | nil => rfl
    | cons b r =>
      show (ge_cs (ge_s m a) (ge_s m b) (ge_s m p) != ge_pp (ge_S m (b :: r)) (ge_s m p)) = (ge_cs a b p != ge_pp (b :: r) p)
      rw [ih, ge_cs_s hm]
theorem ge_cy_S (m : Int) (l : List GPt) : ge_cy (ge_S m l) = ge_S m (ge_cy l) := by
  cases l with
  | nil => rfl
  | cons a r => simp [ge_cy, ge_S]
theorem ge_par_s {m : Int} (hm : 0 < m) (l : List GPt) (p : GPt) : ge_par (ge_S m l) (ge_s m p) = ge_par l p := by
  unfold ge_par
  rw [ge_cy_S, ge_pp_s hm]
theorem ge_S_S (m k : Int) (l : List GPt) : ge_S m (ge_S k l) = ge_S (m * k) l := by
  unfold ge_S
  rw [List.map_map]
  congr 1
  funext v
  exact ge_s_s m k v
theorem ge_S_1 (l : List GPt) : ge_S 1 l = l := by
  unfold ge_S
  rw [show ge_s 1 = id from funext ge_s_1, List.map_id]
theorem ge_ed_S (m : Int) (l : List GPt) : ge_ed (ge_S m l) = (ge_ed l).map (fun e => (ge_s m e.1, ge_s m e.2)) := by
  induction l with
  | nil => rfl
  | cons a r ih =>
    cases r with
    | nil => rfl
    | cons b r =>
      show (ge_s m a, ge_s m b) :: ge_ed (ge_S m (b :: r)) = _
      rw [ih]
      rfl
theorem ge_E_S (m : Int) (l : List GPt) : ge_E (ge_S m l) = (ge_E l).map (fun e => (ge_s m e.1, ge_s m e.2)) := by
  unfold ge_E
  rw [ge_cy_S, ge_ed_S]
/-- where two segments cross -/
theorem ge_x_pt {x y p q : GPt} (h : ge_x x y p q) : ∃ (m : Int) (r : GPt) (i j i' j' : Int), 0 < m ∧ ge_wt (ge_s m p) (ge_s m q) r i j ∧ ge_wt (ge_s m x) (ge_s m y) r i' j' ∧ 0 < i ∧ 0 < j ∧ 0 < i' ∧ 0 < j' := by
  obtain ⟨h1, h2⟩ := h
  have hs := ge_o_sub x y p q
  rcases Int.lt_trichotomy (ge_o x y p) 0 with hp | hp | hp
  · have hq : 0 < ge_o x y q := ge_ngt_of hp h1
    have hy : ge_o p q y < 0 := by
      rcases Int.lt_or_le (ge_o p q y) 0 with z | z
      · exact z
      · have : 0 < ge_o p q x := by omega
        have := Int.mul_nonneg (show 0 ≤ ge_o p q x by omega) z
        omega
    have hx : 0 < ge_o p q x := by
      have := ge_ngt_of hy (by rw [Int.mul_comm]; exact h2)
      exact this
    refine ⟨ge_o x y q - ge_o x y p, (ge_o x y q * p.1 - ge_o x y p * q.1, ge_o x y q * p.2 - ge_o x y p * q.2), ge_o x y q, -ge_o x y p, -ge_o p q y, ge_o p q x, by omega, ⟨by omega, by omega, by omega, ?_, ?_⟩, ⟨by omega, by omega, by omega, ?_, ?_⟩, by omega, by omega, by omega, by omega⟩
    · unfold ge_s; grind
    · unfold ge_s; grind
    · have : -ge_o p q y + ge_o p q x = ge_o x y q - ge_o x y p := by omega
      rw [this]
      unfold ge_s ge_o; grind
    · have : -ge_o p q y + ge_o p q x = ge_o x y q - ge_o x y p := by omega
      rw [this]
      unfold ge_s ge_o; grind
  · rw [hp, Int.zero_mul] at h1; omega
  · have hq : ge_o x y q < 0 := ge_lt_of hp h1
    have hy : 0 < ge_o p q y := by
      rcases Int.lt_or_le 0 (ge_o p q y) with z | z
      · exact z
      · have : ge_o p q x < 0 := by omega
        have := Int.mul_nonneg (show 0 ≤ -ge_o p q x by omega) (show 0 ≤ -ge_o p q y by omega)
        rw [Int.neg_mul_neg] at this
        omega
    have hx : ge_o p q x < 0 := ge_lt_of hy (by rw [Int.mul_comm]; exact h2)
    refine ⟨ge_o x y p - ge_o x y q, (-ge_o x y q * p.1 + ge_o x y p * q.1, -ge_o x y q * p.2 + ge_o x y p * q.2), -ge_o x y q, ge_o x y p, ge_o p q y, -ge_o p q x, by omega, ⟨by omega, by omega, by omega, ?_, ?_⟩, ⟨by omega, by omega, by omega, ?_, ?_⟩, by omega, by omega, by omega, by omega⟩
    · unfold ge_s; grind
    · unfold ge_s; grind
    · have : ge_o p q y + -ge_o p q x = ge_o x y p - ge_o x y q := by omega
      rw [this]
      unfold ge_s ge_o; grind
    · have : ge_o p q y + -ge_o p q x = ge_o x y p - ge_o x y q := by omega
      rw [this]
      unfold ge_s ge_o; grind
end
section
/-! simple polygons; a corner whose triangle holds no other vertex -/
theorem ge_on_l (p q : GPt) : ge_on p q p := by
  refine ⟨by unfold ge_o; grind, ?_, ?_⟩
  · rw [Int.sub_self, Int.zero_mul]; exact Int.le_refl _
  · rw [Int.sub_self, Int.zero_mul]; exact Int.le_refl _
theorem ge_on_r (p q : GPt) : ge_on p q q := ge_on_symm (ge_on_l q p)
theorem ge_on_pp {p x : GPt} (h : ge_on p p x) : x = p := by
  obtain ⟨-, h1, h2⟩ := h
  have s1 := ge_sq (x.1 - p.1)
  have s2 := ge_sq (x.2 - p.2)
  have e1 : (x.1 - p.1) * (x.1 - p.1) = 0 := by omega
  have e2 : (x.2 - p.2) * (x.2 - p.2) = 0 := by omega
  have f1 : x.1 - p.1 = 0 := by rcases Int.mul_eq_zero.mp e1 with z | z <;> exact z
  have f2 : x.2 - p.2 = 0 := by rcases Int.mul_eq_zero.mp e2 with z | z <;> exact z
  exact Prod.ext (by omega) (by omega)
theorem ge_wt_nn {x y r : GPt} {i j : Int} (w : ge_wt x y r i j) {u v : GPt} (h1 : 0 ≤ ge_o u v x) (h2 : 0 ≤ ge_o u v y) : 0 ≤ ge_o u v r := by
  have e := ge_wt_o w u v
  have k1 := Int.mul_nonneg w.1 h1
  have k2 := Int.mul_nonneg w.2.1 h2
  exact ge_nn w.2.2.1 (by omega)
theorem ge_wt_ps {x y r : GPt} {i j : Int} (w : ge_wt x y r i j) {u v : GPt} (h1 : 0 < ge_o u v x) (h2 : 0 < ge_o u v y) : 0 < ge_o u v r := by
  have e := ge_wt_o w u v
  have hs := w.2.2.1
  rcases Int.lt_or_le 0 i with z | z
  · have k1 := Int.mul_pos z h1
    have k2 := Int.mul_nonneg w.2.1 (Int.le_of_lt h2)
    exact ge_pos hs (by omega)
  · have hi : i = 0 := by have := w.1; omega
    have k2 := Int.mul_pos (show 0 < j by omega) h2
    have k1 := Int.mul_nonneg w.1 (Int.le_of_lt h1)
    exact ge_pos hs (by omega)
theorem ge_wt_in {x y r a b c : GPt} {i j : Int} (w : ge_wt x y r i j) (h1 : ge_in a b c x) (h2 : ge_in a b c y) : ge_in a b c r := ⟨ge_wt_nn w h1.1 h2.1, ge_wt_nn w h1.2.1 h2.2.1, ge_wt_nn w h1.2.2 h2.2.2⟩
/-- what an edge of a simple polygon keeps to beside a triangle on two of its edges -/
def ge_side (a b c x y : GPt) : Prop := x ≠ y ∧ ¬ (ge_in a b c x ∧ 0 < ge_o c a x) ∧ ¬ (ge_in a b c y ∧ 0 < ge_o c a y) ∧ ¬ ge_x x y a b ∧ ¬ ge_x x y b c ∧ (ge_on x y a → ¬ ge_o a b x * ge_o a b y < 0) ∧ ¬ ge_on x y b ∧ (ge_on x y c → ¬ ge_o b c x * ge_o b c y < 0)
theorem ge_side_K {a b c x y r : GPt} (h : ge_side a b c x y) (hr : ge_on x y r) (rT : ge_in a b c r) (r3 : 0 < ge_o c a r) : False := ge_K h.1 hr rT r3 h.2.1 h.2.2.1 h.2.2.2.1 h.2.2.2.2.1 h.2.2.2.2.2.1 h.2.2.2.2.2.2.1 h.2.2.2.2.2.2.2
theorem ge_side_s {m : Int} (hm : 0 < m) {a b c x y : GPt} (h : ge_side a b c x y) : ge_side (ge_s m a) (ge_s m b) (ge_s m c) (ge_s m x) (ge_s m y) := by
  obtain ⟨h1, h2, h3, h4, h5, h6, h7, h8⟩ := h
  refine ⟨fun z => h1 (ge_s_inj hm z), ?_, ?_, ?_, ?_, ?_, ?_, ?_⟩
  · rw [ge_in_s hm, ge_o_s, ge_sg_pos (ge_mm hm)]; exact h2
  · rw [ge_in_s hm, ge_o_s, ge_sg_pos (ge_mm hm)]; exact h3
  · rw [ge_x_s hm]; exact h4
  · rw [ge_x_s hm]; exact h5
  · rw [ge_on_s hm, ge_o_s, ge_o_s]
    intro z q
    have e : m * m * ge_o a b x * (m * m * ge_o a b y) = (m * m) * (m * m) * (ge_o a b x * ge_o a b y) := by grind
    rw [e, ge_sg_neg (Int.mul_pos (ge_mm hm) (ge_mm hm))] at q
    exact h6 z q
  · rw [ge_on_s hm]; exact h7
  · rw [ge_on_s hm, ge_o_s, ge_o_s]
    intro z q
    have e : m * m * ge_o b c x * (m * m * ge_o b c y) = (m * m) * (m * m) * (ge_o b c x * ge_o b c y) := by grind
    rw [e, ge_sg_neg (Int.mul_pos (ge_mm hm) (ge_mm hm))] at q
    exact h8 z q
theorem ge_free {a b c x y p q : GPt} (h : ge_side a b c x y) (hp : ge_in a b c p) (hp3 : 0 < ge_o c a p) (hq : ge_in a b c q) (hq3 : 0 < ge_o c a q) : ¬ ge_meet x y p q := by
  intro hm
  have inn : ∀ z : GPt, ge_on p q z → ge_in a b c z ∧ 0 < ge_o c a z := fun z hz => by
    by_cases e : p = q
    · subst e
      rw [ge_on_pp hz]
      exact ⟨hp, hp3⟩
    · obtain ⟨i, j, w⟩ := ge_on_wt e hz
      exact ⟨ge_wt_in w hp hq, ge_wt_ps w hp3 hq3⟩
  rcases hm with z | z | z | z | z
  · exact ge_side_K h z hp hp3
  · exact ge_side_K h z hq hq3
  · exact h.2.1 (inn x z)
  · exact h.2.2.1 (inn y z)
  · obtain ⟨m, r, i, j, i', j', hm, w, w', -⟩ := ge_x_pt z
    refine ge_side_K (ge_side_s hm h) (ge_wt_on w') (ge_wt_in w ((ge_in_s hm a b c p).mpr hp) ((ge_in_s hm a b c q).mpr hq)) (ge_wt_ps w ?_ ?_)
    · rw [ge_o_s]; exact Int.mul_pos (ge_mm hm) hp3
    · rw [ge_o_s]; exact Int.mul_pos (ge_mm hm) hq3
/-- the third side itself -/
theorem ge_free3 {a c p q : GPt} (hp3 : 0 < ge_o c a p) (hq3 : 0 < ge_o c a q) : ¬ ge_meet a c p q := by
  intro hm
  have e1 := ge_o_swap c a p
  have e2 := ge_o_swap c a q
  have za : ge_o c a a = 0 := by unfold ge_o; grind
  have zc : ge_o c a c = 0 := by unfold ge_o; grind
  have inn : ∀ z : GPt, ge_on p q z → 0 < ge_o c a z := fun z hz => by
    by_cases e : p = q
    · subst e
      rw [ge_on_pp hz]
      exact hp3
    · obtain ⟨i, j, w⟩ := ge_on_wt e hz
      exact ge_wt_ps w hp3 hq3
  rcases hm with z | z | z | z | ⟨z, -⟩
  · have := z.1; omega
  · have := z.1; omega
  · have := inn a z; omega
  · have := inn c z; omega
  · rw [e1, e2, Int.neg_mul_neg] at z
    have := Int.mul_pos hp3 hq3
    omega
def ge_simple (l : List GPt) : Prop := l.Nodup ∧ (∀ w ∈ l, ∀ e ∈ ge_E l, ge_on e.1 e.2 w → w = e.1 ∨ w = e.2) ∧ ∀ e ∈ ge_E l, ∀ f ∈ ge_E l, ¬ ge_x e.1 e.2 f.1 f.2
theorem ge_ed_mem : ∀ (l : List GPt) (e : GPt × GPt), e ∈ ge_ed l → e.1 ∈ l ∧ e.2 ∈ l
  | [], e, h => nomatch h
  | [_], e, h => nomatch h
  | a :: b :: r, e, h => by
    rcases List.mem_cons.mp h with h | h
    · subst h
      exact ⟨List.mem_cons_self, List.mem_cons_of_mem _ List.mem_cons_self⟩
    · have := ge_ed_mem (b :: r) e h
      exact ⟨List.mem_cons_of_mem _ this.1, List.mem_cons_of_mem _ this.2⟩
theorem ge_ed_ne : ∀ (l : List GPt), l.Nodup → ∀ e ∈ ge_ed l, e.1 ≠ e.2
  | [], _, e, h => nomatch h
  | [_], _, e, h => nomatch h
  | a :: b :: r, hn, e, h => by
    rcases List.mem_cons.mp h with h | h
    · subst h
      intro z
      have : a = b := z
      subst this
      exact (List.nodup_cons.mp hn).1 List.mem_cons_self
    · exact ge_ed_ne (b :: r) (List.nodup_cons.mp hn).2 e h
theorem ge_cy_mem {l : List GPt} {v : GPt} (h : v ∈ ge_cy l) : v ∈ l := by
  cases l with
  | nil => exact h
  | cons a r =>
    have h : v ∈ a :: (r ++ [a]) := h
    simp at h ⊢
    grind
theorem ge_E_mem {l : List GPt} {e : GPt × GPt} (h : e ∈ ge_E l) : e.1 ∈ l ∧ e.2 ∈ l := ⟨ge_cy_mem (ge_ed_mem _ e h).1, ge_cy_mem (ge_ed_mem _ e h).2⟩
/-- the edges of b, c, mid, a -/
theorem ge_E_ear (a b c : GPt) (mid : List GPt) : ge_E (b :: c :: (mid ++ [a])) = (b, c) :: (ge_ed (c :: (mid ++ [a])) ++ [(a, b)]) := by
  show ge_ed (b :: (c :: (mid ++ [a])) ++ [b]) = _
  rw [show b :: (c :: (mid ++ [a])) ++ [b] = (b :: c :: mid) ++ a :: [b] by simp, ge_ed_app]
  rfl
theorem ge_E_cut (a c : GPt) (mid : List GPt) : ge_E (c :: (mid ++ [a])) = ge_ed (c :: (mid ++ [a])) ++ [(a, c)] := by
  show ge_ed (c :: (mid ++ [a]) ++ [c]) = _
  rw [show c :: (mid ++ [a]) ++ [c] = (c :: mid) ++ a :: [c] by simp, ge_ed_app]
  rfl
theorem ge_par_ear (a b c : GPt) (mid : List GPt) (p : GPt) : ge_par (b :: c :: (mid ++ [a])) p = (ge_par (c :: (mid ++ [a])) p != ge_tp a b c p) := by
  have h1 : ge_par (b :: c :: (mid ++ [a])) p = (ge_cs b c p != (ge_pp (c :: (mid ++ [a])) p != ge_cs a b p)) := by
    show ge_pp (b :: (c :: (mid ++ [a])) ++ [b]) p = _
    rw [show b :: (c :: (mid ++ [a])) ++ [b] = (b :: c :: mid) ++ a :: [b] by simp, ge_pp_app]
    show ((ge_cs b c p != ge_pp (c :: mid ++ [a]) p) != (ge_cs a b p != false)) = _
    rw [show c :: mid ++ [a] = c :: (mid ++ [a]) by simp]
    cases ge_cs b c p <;> cases ge_pp (c :: (mid ++ [a])) p <;> cases ge_cs a b p <;> rfl
  have h2 : ge_par (c :: (mid ++ [a])) p = (ge_pp (c :: (mid ++ [a])) p != ge_cs a c p) := by
    show ge_pp (c :: (mid ++ [a]) ++ [c]) p = _
    rw [show c :: (mid ++ [a]) ++ [c] = (c :: mid) ++ a :: [c] by simp, ge_pp_app]
    show (ge_pp (c :: mid ++ [a]) p != (ge_cs a c p != false)) = _
    rw [show c :: mid ++ [a] = c :: (mid ++ [a]) by simp]
    cases ge_pp (c :: (mid ++ [a])) p <;> cases ge_cs a c p <;> rfl
  rw [h1, h2]
  unfold ge_tp
  rw [ge_cs_comm c a]
  cases ge_cs b c p <;> cases ge_pp (c :: (mid ++ [a])) p <;> cases ge_cs a b p <;> cases ge_cs a c p <;> rfl
/-- an endpoint is no passing -/
theorem ge_end1 {a b x y : GPt} (h : a = x ∨ a = y) : ¬ ge_o a b x * ge_o a b y < 0 := by
  have z0 : ge_o a b a = 0 := by unfold ge_o; grind
  rcases h with h | h
  · rw [← h, z0, Int.zero_mul]; omega
  · rw [← h, z0, Int.mul_zero]; omega
theorem ge_end2 {b c x y : GPt} (h : c = x ∨ c = y) : ¬ ge_o b c x * ge_o b c y < 0 := by
  have z0 : ge_o b c c = 0 := by unfold ge_o; grind
  rcases h with h | h
  · rw [← h, z0, Int.zero_mul]; omega
  · rw [← h, z0, Int.mul_zero]; omega
end
section
/-! a corner that holds no other vertex is cut off: the rest is simple; at the lowest corner the triangle lies inside -/
theorem ge_side_swap {a b c x y : GPt} (h : ge_side a b c x y) : ge_side a b c y x := by
  obtain ⟨h1, h2, h3, h4, h5, h6, h7, h8⟩ := h
  exact ⟨h1.symm, h3, h2, fun z => h4 (ge_x_swap z), fun z => h5 (ge_x_swap z), fun z => by rw [Int.mul_comm]; exact h6 (ge_on_symm z), fun z => h7 (ge_on_symm z), fun z => by rw [Int.mul_comm]; exact h8 (ge_on_symm z)⟩
theorem ge_abs_ge (x : Int) : ∃ k : Int, 0 ≤ k ∧ -k ≤ x ∧ x ≤ k := by
  rcases Int.le_total 0 x with h | h
  · exact ⟨x, h, by omega, by omega⟩
  · exact ⟨-x, by omega, by omega, by omega⟩
/-- past the third side there is a point of the triangle -/
theorem ge_X1' {a b c x y r : GPt} {i j : Int} (h : ge_side a b c x y) (w : ge_wt x y r i j) (r1 : 0 < ge_o a b r) (r2 : 0 < ge_o b c r) (r3 : ge_o c a r = 0) (y3 : 0 < ge_o c a y) : False := by
  obtain ⟨k1, k1n, k1a, k1b⟩ := ge_abs_ge (ge_o a b y)
  obtain ⟨k2, k2n, k2a, k2b⟩ := ge_abs_ge (ge_o b c y)
  obtain ⟨M, hM⟩ : ∃ M : Int, M = k1 + k2 + 1 := ⟨_, rfl⟩
  have hM0 : 0 < M := by omega
  have hm : 0 < M + 1 := by omega
  obtain ⟨r', hr'⟩ : ∃ z : GPt, z = (M * r.1 + y.1, M * r.2 + y.2) := ⟨_, rfl⟩
  have f : ∀ u v : GPt, ge_o (ge_s (M + 1) u) (ge_s (M + 1) v) r' = (M + 1) * (M * ge_o u v r + ge_o u v y) := fun u v => by
    rw [hr']; unfold ge_s ge_o; grind
  obtain ⟨hi, hj, hs, w1, w2⟩ := w
  have wt : ge_wt (ge_s (M + 1) x) (ge_s (M + 1) y) r' (M * i) (M * j + (i + j)) := by
    have q1 := Int.mul_nonneg (Int.le_of_lt hM0) hi
    have q2 := Int.mul_nonneg (Int.le_of_lt hM0) hj
    refine ⟨q1, by omega, by omega, ?_, ?_⟩
    · rw [hr']; unfold ge_s; show (M * i + (M * j + (i + j))) * (M * r.1 + y.1) = M * i * ((M + 1) * x.1) + (M * j + (i + j)) * ((M + 1) * y.1)
      have : (M * i + (M * j + (i + j))) * (M * r.1 + y.1) = (M + 1) * M * ((i + j) * r.1) + (M + 1) * (i + j) * y.1 := by grind
      rw [this, w1]; grind
    · rw [hr']; unfold ge_s; show (M * i + (M * j + (i + j))) * (M * r.2 + y.2) = M * i * ((M + 1) * x.2) + (M * j + (i + j)) * ((M + 1) * y.2)
      have : (M * i + (M * j + (i + j))) * (M * r.2 + y.2) = (M + 1) * M * ((i + j) * r.2) + (M + 1) * (i + j) * y.2 := by grind
      rw [this, w2]; grind
  have m1 : M ≤ M * ge_o a b r := by have := Int.mul_le_mul_of_nonneg_left (show (1 : Int) ≤ ge_o a b r by omega) (show 0 ≤ M by omega); omega
  have m2 : M ≤ M * ge_o b c r := by have := Int.mul_le_mul_of_nonneg_left (show (1 : Int) ≤ ge_o b c r by omega) (show 0 ≤ M by omega); omega
  refine ge_side_K (ge_side_s hm h) (ge_wt_on wt) ⟨?_, ?_, ?_⟩ ?_
  · rw [f]; exact Int.mul_nonneg (by omega) (by omega)
  · rw [f]; exact Int.mul_nonneg (by omega) (by omega)
  · rw [f, r3, Int.mul_zero]; exact Int.mul_nonneg (by omega) (by omega)
  · rw [f, r3, Int.mul_zero]; exact Int.mul_pos (by omega) (by omega)
theorem ge_X1 {a b c x y : GPt} (hF : 0 < ge_o a b c) (h : ge_side a b c x y) : ¬ ge_x x y a c := by
  intro z
  have hz := z.2
  obtain ⟨m, r, i, j, i', j', hm, w, w', hi, hj, -⟩ := ge_x_pt z
  have hF' : 0 < m * m * ge_o a b c := Int.mul_pos (ge_mm hm) hF
  have za : ge_o a b a = 0 := by unfold ge_o; grind
  have zc : ge_o b c c = 0 := by unfold ge_o; grind
  have zb : ge_o b c a = ge_o a b c := ge_o_cyc a b c
  have z3 : ge_o c a a = 0 := by unfold ge_o; grind
  have z4 : ge_o c a c = 0 := by unfold ge_o; grind
  have e1 := ge_wt_o w (ge_s m a) (ge_s m b)
  have e2 := ge_wt_o w (ge_s m b) (ge_s m c)
  have e3 := ge_wt_o w (ge_s m c) (ge_s m a)
  rw [ge_o_s, ge_o_s, za] at e1
  rw [ge_o_s, ge_o_s, zc, zb] at e2
  rw [ge_o_s, ge_o_s, z3, z4] at e3
  have hs := w.2.2.1
  have r1 : 0 < ge_o (ge_s m a) (ge_s m b) r := ge_pos hs (by have := Int.mul_pos hj hF'; rw [e1, Int.mul_zero, Int.mul_zero]; omega)
  have r2 : 0 < ge_o (ge_s m b) (ge_s m c) r := ge_pos hs (by have := Int.mul_pos hi hF'; rw [e2, Int.mul_zero, Int.mul_zero]; omega)
  have r3 : ge_o (ge_s m c) (ge_s m a) r = 0 := ge_zero hs (by rw [e3, Int.mul_zero, Int.mul_zero, Int.mul_zero]; rfl)
  have hz' : ge_o c a x * ge_o c a y < 0 := by rw [ge_o_swap a c x, ge_o_swap a c y, Int.neg_mul_neg]; exact hz
  rcases Int.lt_or_le 0 (ge_o c a y) with y3 | y3
  · exact ge_X1' (ge_side_s hm h) w' r1 r2 r3 (by rw [ge_o_s]; exact Int.mul_pos (ge_mm hm) y3)
  · have x3 : 0 < ge_o c a x := by
      rcases Int.lt_or_le 0 (ge_o c a x) with q | q
      · exact q
      · have := Int.mul_nonneg (show 0 ≤ -ge_o c a x by omega) (show 0 ≤ -ge_o c a y by omega)
        rw [Int.neg_mul_neg] at this
        omega
    exact ge_X1' (ge_side_swap (ge_side_s hm h)) (ge_wt_swap w') r1 r2 r3 (by rw [ge_o_s]; exact Int.mul_pos (ge_mm hm) x3)
section Cut
variable {a b c : GPt} {mid : List GPt}
theorem ge_sides (hs : ge_simple (b :: c :: (mid ++ [a]))) (he : ∀ w ∈ c :: (mid ++ [a]), w ≠ a → w ≠ c → ¬ ge_in a b c w) : ∀ e ∈ ge_ed (c :: (mid ++ [a])), ge_side a b c e.1 e.2 := by
  intro e h
  obtain ⟨hn, hv, hx⟩ := hs
  rw [ge_E_ear] at hv hx
  obtain ⟨hb, hn'⟩ := List.nodup_cons.mp hn
  have hm := ge_ed_mem _ e h
  have hE : e ∈ (b, c) :: (ge_ed (c :: (mid ++ [a])) ++ [(a, b)]) := List.mem_cons_of_mem _ (List.mem_append_left _ h)
  have hab : (a, b) ∈ (b, c) :: (ge_ed (c :: (mid ++ [a])) ++ [(a, b)]) := List.mem_cons_of_mem _ (List.mem_append_right _ List.mem_cons_self)
  have hbc : (b, c) ∈ (b, c) :: (ge_ed (c :: (mid ++ [a])) ++ [(a, b)]) := List.mem_cons_self
  have out : ∀ w ∈ c :: (mid ++ [a]), ¬ (ge_in a b c w ∧ 0 < ge_o c a w) := fun w hw z => by
    by_cases e1 : w = a
    · subst e1
      have : ge_o c w w = 0 := by unfold ge_o; grind
      omega
    · by_cases e2 : w = c
      · subst e2
        have : ge_o w a w = 0 := by unfold ge_o; grind
        omega
      · exact he w hw e1 e2 z.1
  have ha : a ∈ b :: c :: (mid ++ [a]) := by simp
  have hc : c ∈ b :: c :: (mid ++ [a]) := by simp
  refine ⟨ge_ed_ne _ hn' e h, out _ hm.1, out _ hm.2, hx e hE _ hab, hx e hE _ hbc, fun z => ge_end1 (hv a ha e hE z), fun z => ?_, fun z => ge_end2 (hv c hc e hE z)⟩
  rcases hv b List.mem_cons_self e hE z with q | q
  · rw [q] at hb; exact hb hm.1
  · rw [q] at hb; exact hb hm.2
theorem ge_ac_in (hF : 0 < ge_o a b c) {w : GPt} (h : ge_on a c w) (hac : a ≠ c) : ge_in a b c w := by
  obtain ⟨i, j, wt⟩ := ge_on_wt hac h
  have za : ge_o a b a = 0 := by unfold ge_o; grind
  have zc : ge_o b c c = 0 := by unfold ge_o; grind
  have zb : ge_o b c a = ge_o a b c := ge_o_cyc a b c
  have z3 : ge_o c a a = 0 := by unfold ge_o; grind
  have z4 : ge_o c a c = 0 := by unfold ge_o; grind
  exact ⟨ge_wt_nn wt (by omega) (by omega), ge_wt_nn wt (by omega) (by omega), ge_wt_nn wt (by omega) (by omega)⟩
theorem ge_cut_simple (hF : 0 < ge_o a b c) (hs : ge_simple (b :: c :: (mid ++ [a]))) (he : ∀ w ∈ c :: (mid ++ [a]), w ≠ a → w ≠ c → ¬ ge_in a b c w) : ge_simple (c :: (mid ++ [a])) := by
  have hsd := ge_sides hs he
  obtain ⟨hn, hv, hx⟩ := hs
  obtain ⟨hb, hn'⟩ := List.nodup_cons.mp hn
  have hac : a ≠ c := fun z => by
    have : c ∉ mid ++ [a] := (List.nodup_cons.mp hn').1
    rw [← z] at this
    exact this (by simp)
  have up : ∀ e ∈ ge_ed (c :: (mid ++ [a])), e ∈ ge_E (b :: c :: (mid ++ [a])) := fun e h => by rw [ge_E_ear]; exact List.mem_cons_of_mem _ (List.mem_append_left _ h)
  refine ⟨hn', fun w hw e h z => ?_, fun e h f g => ?_⟩
  · rw [ge_E_cut] at h
    rcases List.mem_append.mp h with h | h
    · exact hv w (List.mem_cons_of_mem _ hw) e (up e h) z
    · rw [List.mem_singleton.mp h] at z ⊢
      by_cases e1 : w = a
      · exact Or.inl e1
      · by_cases e2 : w = c
        · exact Or.inr e2
        · exact absurd (ge_ac_in hF z hac) (he w hw e1 e2)
  · rw [ge_E_cut] at h g
    rcases List.mem_append.mp h with h | h <;> rcases List.mem_append.mp g with g | g
    · exact hx e (up e h) f (up f g)
    · rw [List.mem_singleton.mp g]
      exact ge_X1 hF (hsd e h)
    · rw [List.mem_singleton.mp h]
      exact fun z => ge_X1 hF (hsd f g) (ge_x_symm z)
    · rw [List.mem_singleton.mp h, List.mem_singleton.mp g]
      intro z
      have : ge_o a c a = 0 := by unfold ge_o; grind
      have z1 : ge_o a c a * ge_o a c c < 0 := z.1
      rw [this, Int.zero_mul] at z1
      omega
/-- b lies lower than all of them, or as low and to the right -/
def ge_low (b v : GPt) : Prop := b.2 < v.2 ∨ (b.2 = v.2 ∧ v.1 < b.1)
theorem ge_cs_low {b u v : GPt} (hu : ge_low b u) (hv : ge_low b v) : ge_cs u v b = false := by
  rcases hu with hu | ⟨hu, hu'⟩ <;> rcases hv with hv | ⟨hv, hv'⟩
  · exact ge_cs_hi hu hv
  · rw [ge_cs_comm, ge_cs_up (by omega) hu]
    have : ge_o v u b = (u.2 - v.2) * (v.1 - b.1) := by unfold ge_o; rw [hv]; grind
    have k := Int.mul_pos (show 0 < u.2 - v.2 by omega) (show 0 < b.1 - v.1 by omega)
    have : ¬ 0 < ge_o v u b := by grind
    simp [this]
  · rw [ge_cs_up (by omega) hv]
    have : ge_o u v b = (v.2 - u.2) * (u.1 - b.1) := by unfold ge_o; rw [hu]; grind
    have k := Int.mul_pos (show 0 < v.2 - u.2 by omega) (show 0 < b.1 - u.1 by omega)
    have : ¬ 0 < ge_o u v b := by grind
    simp [this]
  · exact ge_cs_lo (by omega) (by omega)
theorem ge_pp_low {b : GPt} : ∀ (l : List GPt), (∀ v ∈ l, ge_low b v) → ge_pp l b = false
  | [], _ => rfl
  | [_], _ => rfl
  | u :: v :: r, h => by
    show (ge_cs u v b != ge_pp (v :: r) b) = false
    rw [ge_cs_low (h u List.mem_cons_self) (h v (List.mem_cons_of_mem _ List.mem_cons_self)), ge_pp_low (v :: r) (fun z hz => h z (List.mem_cons_of_mem _ hz))]
    rfl
theorem ge_par_low {b : GPt} {l : List GPt} (h : ∀ v ∈ l, ge_low b v) : ge_par l b = false := ge_pp_low _ (fun v hv => h v (ge_cy_mem hv))
/-- the rest counts nothing in the triangle off the cut -/
theorem ge_A1 (hF : 0 < ge_o a b c) (hs : ge_simple (b :: c :: (mid ++ [a]))) (he : ∀ w ∈ c :: (mid ++ [a]), w ≠ a → w ≠ c → ¬ ge_in a b c w) (hl : ∀ v ∈ c :: (mid ++ [a]), ge_low b v) {p : GPt} (hp : ge_in a b c p) (hp3 : 0 < ge_o c a p) : ge_par (c :: (mid ++ [a])) p = false := by
  have hsd := ge_sides hs he
  have zb : ge_o c a b = ge_o a b c := by rw [ge_o_cyc, ge_o_cyc]
  have z1 : ge_o a b b = 0 := by unfold ge_o; grind
  have z2 : ge_o b c b = 0 := by unfold ge_o; grind
  rw [← ge_par_low hl]
  refine ge_par_mv (fun e h => ?_)
  rw [ge_E_cut] at h
  rcases List.mem_append.mp h with h | h
  · exact ge_free (hsd e h) hp hp3 ⟨by omega, by omega, by omega⟩ (by omega)
  · rw [List.mem_singleton.mp h]
    exact ge_free3 hp3 (show 0 < ge_o c a b by omega)
end Cut
end
section
/-! what a good ear is, at every scale; the lowest corner with an empty triangle is one -/
/-- the closed triangle, whichever way round -/
def ge_tc (x e y w : GPt) : Prop := ge_in x e y w ∨ ge_in y e x w
theorem ge_tc_symm {x e y w : GPt} (h : ge_tc x e y w) : ge_tc y e x w := Or.comm.mp h
theorem ge_tc_in {x e y w : GPt} (hF : 0 < ge_o x e y) (h : ge_tc x e y w) : ge_in x e y w := by
  rcases h with h | ⟨h1, h2, h3⟩
  · exact h
  · have b0 := ge_b0 y e x w
    have : ge_o y e x = -ge_o x e y := by unfold ge_o; grind
    omega
def ge_off (l : List GPt) (p : GPt) : Prop := ∀ f ∈ ge_E l, ¬ ge_on f.1 f.2 p
def ge_good (l : List GPt) (x e y : GPt) : Prop := (∀ w ∈ l, w ≠ x → w ≠ e → w ≠ y → ¬ ge_tc x e y w) ∧ ∀ k : Int, 0 < k → ∀ p : GPt, ge_tc (ge_s k x) (ge_s k e) (ge_s k y) p → ge_off (ge_S k l) p → ge_par (ge_S k l) p = true
theorem ge_good_symm {l : List GPt} {x e y : GPt} (h : ge_good l x e y) : ge_good l y e x := ⟨fun w hw h1 h2 h3 z => h.1 w hw h3 h2 h1 (ge_tc_symm z), fun k hk p hp ho => h.2 k hk p (ge_tc_symm hp) ho⟩
theorem ge_S_ear (k : Int) (a b c : GPt) (mid : List GPt) : ge_S k (b :: c :: (mid ++ [a])) = ge_s k b :: ge_s k c :: (ge_S k mid ++ [ge_s k a]) := by simp [ge_S]
theorem ge_S_cut (k : Int) (a c : GPt) (mid : List GPt) : ge_S k (c :: (mid ++ [a])) = ge_s k c :: (ge_S k mid ++ [ge_s k a]) := by simp [ge_S]
theorem ge_simple_S {k : Int} (hk : 0 < k) {l : List GPt} (h : ge_simple l) : ge_simple (ge_S k l) := by
  obtain ⟨hn, hv, hx⟩ := h
  refine ⟨?_, ?_, ?_⟩
  · unfold ge_S
    exact List.pairwise_map.mpr (List.Pairwise.imp (fun h z => h (ge_s_inj hk z)) hn)
  · intro w hw e he z
    obtain ⟨w0, hw0, rfl⟩ := List.mem_map.mp hw
    rw [ge_E_S] at he
    obtain ⟨e0, he0, rfl⟩ := List.mem_map.mp he
    rcases hv w0 hw0 e0 he0 ((ge_on_s hk _ _ _).mp z) with q | q
    · exact Or.inl (by rw [q])
    · exact Or.inr (by rw [q])
  · intro e he f hf z
    rw [ge_E_S] at he hf
    obtain ⟨e0, he0, rfl⟩ := List.mem_map.mp he
    obtain ⟨f0, hf0, rfl⟩ := List.mem_map.mp hf
    exact hx e0 he0 f0 hf0 ((ge_x_s hk _ _ _ _).mp z)
theorem ge_low_s {k : Int} (hk : 0 < k) {b v : GPt} (h : ge_low b v) : ge_low (ge_s k b) (ge_s k v) := by
  rcases h with h | ⟨h1, h2⟩
  · exact Or.inl ((ge_sg_lt hk).mpr h)
  · exact Or.inr ⟨show k * b.2 = k * v.2 by rw [h1], (ge_sg_lt hk).mpr h2⟩
theorem ge_off_s {k : Int} (hk : 0 < k) {l : List GPt} {p : GPt} (h : ge_off l p) : ge_off (ge_S k l) (ge_s k p) := by
  intro f hf z
  rw [ge_E_S] at hf
  obtain ⟨f0, hf0, rfl⟩ := List.mem_map.mp hf
  exact h f0 hf0 ((ge_on_s hk _ _ _).mp z)
/-- a line with both points strictly on one side isn't met -/
theorem ge_free_line {u v p q : GPt} (h1 : 0 < ge_o u v p) (h2 : 0 < ge_o u v q) : ¬ ge_meet u v p q := fun z => ge_free3 (a := v) (c := u) h1 h2 (ge_meet_flip z)
section CaseA
variable {a b c : GPt} {mid : List GPt}
/-- in the lowest corner's empty triangle, also on the cut, the polygon counts odd -/
theorem ge_A2 (hF : 0 < ge_o a b c) (hs : ge_simple (b :: c :: (mid ++ [a]))) (he : ∀ w ∈ c :: (mid ++ [a]), w ≠ a → w ≠ c → ¬ ge_in a b c w) (hl : ∀ v ∈ c :: (mid ++ [a]), ge_low b v) {p : GPt} (hp : ge_in a b c p) (ho : ge_off (b :: c :: (mid ++ [a])) p) (hp3 : 0 < ge_o c a p) : ge_par (b :: c :: (mid ++ [a])) p = true := by
  have hab : (a, b) ∈ ge_E (b :: c :: (mid ++ [a])) := by rw [ge_E_ear]; simp
  have hbc : (b, c) ∈ ge_E (b :: c :: (mid ++ [a])) := by rw [ge_E_ear]; simp
  have n1 : ¬ ge_on a b p := ho _ hab
  have n2 : ¬ ge_on b c p := ho _ hbc
  have n3 : ¬ ge_on c a p := fun z => by have := z.1; omega
  have p1 : 0 < ge_o a b p := by
    rcases Int.lt_or_eq_of_le hp.1 with z | z
    · exact z
    · exact absurd (ge_in_on hF hp z.symm) n1
  have p2 : 0 < ge_o b c p := by
    rcases Int.lt_or_eq_of_le hp.2.1 with z | z
    · exact z
    · exact absurd (ge_in_on (by rw [ge_o_cyc]; exact hF) (ge_in_cyc hp) z.symm) n2
  rw [ge_par_ear, ge_A1 hF hs he hl hp hp3, (ge_tri hF n1 n2 n3).mpr ⟨p1, p2, hp3⟩]
  rfl
theorem ge_A3 (hF : 0 < ge_o a b c) (hs : ge_simple (b :: c :: (mid ++ [a]))) (he : ∀ w ∈ c :: (mid ++ [a]), w ≠ a → w ≠ c → ¬ ge_in a b c w) (hl : ∀ v ∈ c :: (mid ++ [a]), ge_low b v) {p : GPt} (hp : ge_in a b c p) (ho : ge_off (b :: c :: (mid ++ [a])) p) : ge_par (b :: c :: (mid ++ [a])) p = true := by
  rcases Int.lt_or_eq_of_le hp.2.2 with hp3 | hp3
  · exact ge_A2 hF hs he hl hp ho hp3
  · have hp0 : ge_o c a p = 0 := hp3.symm
    have hab : (a, b) ∈ ge_E (b :: c :: (mid ++ [a])) := by rw [ge_E_ear]; simp
    have hbc : (b, c) ∈ ge_E (b :: c :: (mid ++ [a])) := by rw [ge_E_ear]; simp
    have p1 : 0 < ge_o a b p := by
      rcases Int.lt_or_eq_of_le hp.1 with z | z
      · exact z
      · exact absurd (ge_in_on hF hp z.symm) (ho _ hab)
    have p2 : 0 < ge_o b c p := by
      rcases Int.lt_or_eq_of_le hp.2.1 with z | z
      · exact z
      · exact absurd (ge_in_on (by rw [ge_o_cyc]; exact hF) (ge_in_cyc hp) z.symm) (ho _ hbc)
    -- the middle of b and p, at scale 2
    have h2 : (0 : Int) < 2 := by decide
    obtain ⟨g, hg⟩ : ∃ g : GPt, g = (p.1 + b.1, p.2 + b.2) := ⟨_, rfl⟩
    have f : ∀ u v : GPt, ge_o (ge_s 2 u) (ge_s 2 v) g = 2 * (ge_o u v p + ge_o u v b) := fun u v => by rw [hg]; unfold ge_s ge_o; grind
    have z1 : ge_o a b b = 0 := by unfold ge_o; grind
    have z2 : ge_o b c b = 0 := by unfold ge_o; grind
    have z3 : ge_o c a b = ge_o a b c := by rw [ge_o_cyc, ge_o_cyc]
    have g1 : 0 < ge_o (ge_s 2 a) (ge_s 2 b) g := by rw [f]; omega
    have g2 : 0 < ge_o (ge_s 2 b) (ge_s 2 c) g := by rw [f]; omega
    have g3 : 0 < ge_o (ge_s 2 c) (ge_s 2 a) g := by rw [f]; omega
    have sd := ge_sides hs he
    have sd2 : ∀ e ∈ ge_ed (c :: (mid ++ [a])), ge_side (ge_s 2 a) (ge_s 2 b) (ge_s 2 c) (ge_s 2 e.1) (ge_s 2 e.2) := fun e h => ge_side_s h2 (sd e h)
    have hp2 : ge_in (ge_s 2 a) (ge_s 2 b) (ge_s 2 c) (ge_s 2 p) := (ge_in_s h2 a b c p).mpr hp
    have hgin : ge_in (ge_s 2 a) (ge_s 2 b) (ge_s 2 c) g := ⟨by omega, by omega, by omega⟩
    have q1 : 0 < ge_o (ge_s 2 a) (ge_s 2 b) (ge_s 2 p) := by rw [ge_o_s]; omega
    have q2 : 0 < ge_o (ge_s 2 b) (ge_s 2 c) (ge_s 2 p) := by rw [ge_o_s]; omega
    have q3 : ge_o (ge_s 2 c) (ge_s 2 a) (ge_s 2 p) = 0 := by rw [ge_o_s]; omega
    have hpg : ge_s 2 p ≠ g := fun z => by rw [z] at q3; omega
    have inn : ∀ z : GPt, ge_on (ge_s 2 p) g z → z = ge_s 2 p ∨ (ge_in (ge_s 2 a) (ge_s 2 b) (ge_s 2 c) z ∧ 0 < ge_o (ge_s 2 c) (ge_s 2 a) z) := fun z hz => by
      obtain ⟨i, j, w⟩ := ge_on_wt hpg hz
      by_cases hj : j = 0
      · subst hj
        exact Or.inl (ge_wt_0 w)
      · refine Or.inr ⟨ge_wt_in w hp2 hgin, ?_⟩
        have e := ge_wt_o w (ge_s 2 c) (ge_s 2 a)
        rw [q3, Int.mul_zero] at e
        have := Int.mul_pos (show 0 < j by have := w.2.1; omega) g3
        exact ge_pos w.2.2.1 (by omega)
    have free : ∀ e ∈ ge_E (ge_S 2 (b :: c :: (mid ++ [a]))), ¬ ge_meet e.1 e.2 (ge_s 2 p) g := by
      intro e he2 hm
      rw [ge_E_S] at he2
      obtain ⟨e0, he0, rfl⟩ := List.mem_map.mp he2
      have off : ¬ ge_on (ge_s 2 e0.1) (ge_s 2 e0.2) (ge_s 2 p) := fun z => ho e0 he0 ((ge_on_s h2 _ _ _).mp z)
      rw [ge_E_ear] at he0
      rcases List.mem_cons.mp he0 with h | h
      · subst h
        exact ge_free_line q2 g2 hm
      · rcases List.mem_append.mp h with h | h
        · have sde := sd2 e0 h
          rcases hm with z | z | z | z | z
          · exact off z
          · exact ge_side_K sde z hgin g3
          · rcases inn _ z with q | q
            · exact off (by rw [← q]; exact ge_on_l _ _)
            · exact sde.2.1 q
          · rcases inn _ z with q | q
            · exact off (by rw [← q]; exact ge_on_r _ _)
            · exact sde.2.2.1 q
          · obtain ⟨m, r, i, j, i', j', hm, w, w', hi, hj, -⟩ := ge_x_pt z
            refine ge_side_K (ge_side_s hm sde) (ge_wt_on w') (ge_wt_in w ((ge_in_s hm _ _ _ _).mpr hp2) ((ge_in_s hm _ _ _ _).mpr hgin)) ?_
            have e := ge_wt_o w (ge_s m (ge_s 2 c)) (ge_s m (ge_s 2 a))
            rw [ge_o_s, q3, Int.mul_zero, Int.mul_zero, ge_o_s] at e
            have := Int.mul_pos hj (Int.mul_pos (ge_mm hm) g3)
            exact ge_pos w.2.2.1 (by omega)
        · rw [List.mem_singleton.mp h] at hm
          exact ge_free_line q1 g1 hm
    have k := ge_par_mv free
    rw [ge_par_s h2] at k
    rw [k, ge_S_ear]
    rw [ge_S_ear] at free
    refine ge_A2 (mid := ge_S 2 mid) (by rw [ge_o_s]; omega) (by rw [← ge_S_ear]; exact ge_simple_S h2 hs) ?_ ?_ hgin ?_ g3
    · intro w hw h1 h2' z
      rw [← ge_S_cut] at hw
      obtain ⟨w0, hw0, rfl⟩ := List.mem_map.mp hw
      exact he w0 hw0 (fun q => h1 (by rw [q])) (fun q => h2' (by rw [q])) ((ge_in_s h2 _ _ _ _).mp z)
    · intro v hv
      rw [← ge_S_cut] at hv
      obtain ⟨w0, hw0, rfl⟩ := List.mem_map.mp hv
      exact ge_low_s h2 (hl w0 hw0)
    · intro e he2 z
      exact free e he2 (Or.inr (Or.inl z))
theorem ge_goodA (hF : 0 < ge_o a b c) (hs : ge_simple (b :: c :: (mid ++ [a]))) (he : ∀ w ∈ c :: (mid ++ [a]), w ≠ a → w ≠ c → ¬ ge_in a b c w) (hl : ∀ v ∈ c :: (mid ++ [a]), ge_low b v) : ge_good (b :: c :: (mid ++ [a])) a b c := by
  refine ⟨fun w hw h1 h2 h3 z => ?_, fun k hk p hp ho => ?_⟩
  · rcases List.mem_cons.mp hw with q | q
    · exact h2 q
    · exact he w q h1 h3 (ge_tc_in hF z)
  · have hF' : 0 < ge_o (ge_s k a) (ge_s k b) (ge_s k c) := by rw [ge_o_s]; exact Int.mul_pos (ge_mm hk) hF
    rw [ge_S_ear] at ho ⊢
    refine ge_A3 (mid := ge_S k mid) hF' (by rw [← ge_S_ear]; exact ge_simple_S hk hs) ?_ ?_ (ge_tc_in hF' hp) ho
    · intro w hw h1 h2' z
      rw [← ge_S_cut] at hw
      obtain ⟨w0, hw0, rfl⟩ := List.mem_map.mp hw
      exact he w0 hw0 (fun q => h1 (by rw [q])) (fun q => h2' (by rw [q])) ((ge_in_s hk _ _ _ _).mp z)
    · intro v hv
      rw [← ge_S_cut] at hv
      obtain ⟨w0, hw0, rfl⟩ := List.mem_map.mp hv
      exact ge_low_s hk (hl w0 hw0)
end CaseA
end
section
/-! good ears don't depend on where the list begins, nor on its direction; the step over the lowest corner if its triangle is empty -/
def ge_adj (l : List GPt) (u v : GPt) : Prop := (u, v) ∈ ge_E l ∨ (v, u) ∈ ge_E l
theorem ge_adj_symm {l : List GPt} {u v : GPt} (h : ge_adj l u v) : ge_adj l v u := Or.comm.mp h
/-- for each edge a good ear that isn't one of its ends -/
def ge_PE (l : List GPt) : Prop := ∀ u v : GPt, ge_adj l u v → ∃ x e y : GPt, ge_adj l x e ∧ ge_adj l e y ∧ x ≠ y ∧ e ≠ u ∧ e ≠ v ∧ ge_o x e y ≠ 0 ∧ ge_good l x e y
def ge_eqv (l l' : List GPt) : Prop := (∀ v : GPt, v ∈ l ↔ v ∈ l') ∧ (∀ u v : GPt, ge_adj l u v ↔ ge_adj l' u v) ∧ ∀ (k : Int) (p : GPt), ge_par (ge_S k l) p = ge_par (ge_S k l') p
theorem ge_off_iff {l : List GPt} {k : Int} {p : GPt} : ge_off (ge_S k l) p ↔ ∀ u v : GPt, ge_adj l u v → ¬ ge_on (ge_s k u) (ge_s k v) p := by
  unfold ge_off
  rw [ge_E_S]
  constructor
  · intro h u v huv z
    rcases huv with q | q
    · exact h (ge_s k u, ge_s k v) (List.mem_map.mpr ⟨(u, v), q, rfl⟩) z
    · exact h (ge_s k v, ge_s k u) (List.mem_map.mpr ⟨(v, u), q, rfl⟩) (ge_on_symm z)
  · intro h f hf z
    obtain ⟨f0, hf0, rfl⟩ := List.mem_map.mp hf
    exact h f0.1 f0.2 (Or.inl hf0) z
theorem ge_eqv_symm {l l' : List GPt} (h : ge_eqv l l') : ge_eqv l' l := ⟨fun v => (h.1 v).symm, fun u v => (h.2.1 u v).symm, fun k p => (h.2.2 k p).symm⟩
theorem ge_eqv_trans {l l' l'' : List GPt} (h : ge_eqv l l') (g : ge_eqv l' l'') : ge_eqv l l'' := ⟨fun v => (h.1 v).trans (g.1 v), fun u v => (h.2.1 u v).trans (g.2.1 u v), fun k p => (h.2.2 k p).trans (g.2.2 k p)⟩
theorem ge_eqv_off {l l' : List GPt} (h : ge_eqv l l') {k : Int} {p : GPt} : ge_off (ge_S k l) p ↔ ge_off (ge_S k l') p := by
  rw [ge_off_iff, ge_off_iff]
  exact ⟨fun g u v q => g u v ((h.2.1 u v).mpr q), fun g u v q => g u v ((h.2.1 u v).mp q)⟩
theorem ge_eqv_good {l l' : List GPt} (h : ge_eqv l l') {x e y : GPt} (g : ge_good l x e y) : ge_good l' x e y :=
  ⟨fun w hw => g.1 w ((h.1 w).mpr hw), fun k hk p hp ho => by rw [← h.2.2]; exact g.2 k hk p hp ((ge_eqv_off h).mpr ho)⟩
theorem ge_eqv_PE {l l' : List GPt} (h : ge_eqv l l') (g : ge_PE l) : ge_PE l' := by
  intro u v huv
  obtain ⟨x, e, y, h1, h2, h3, h4, h5, h6, h7⟩ := g u v ((h.2.1 u v).mpr huv)
  exact ⟨x, e, y, (h.2.1 x e).mp h1, (h.2.1 e y).mp h2, h3, h4, h5, h6, ge_eqv_good h h7⟩
theorem ge_eqv_simple {l l' : List GPt} (h : ge_eqv l l') (hn : l'.Nodup) (g : ge_simple l) : ge_simple l' := by
  obtain ⟨-, hv, hx⟩ := g
  have back : ∀ e ∈ ge_E l', e ∈ ge_E l ∨ (e.2, e.1) ∈ ge_E l := fun e he => (h.2.1 e.1 e.2).mpr (Or.inl he)
  refine ⟨hn, fun w hw e he z => ?_, fun e he f hf z => ?_⟩
  · rcases back e he with q | q
    · exact hv w ((h.1 w).mpr hw) e q z
    · exact (hv w ((h.1 w).mpr hw) _ q (ge_on_symm z)).symm
  · rcases back e he with q | q <;> rcases back f hf with r | r
    · exact hx _ q _ r z
    · exact hx _ q _ r (ge_x_symm (ge_x_swap (ge_x_symm z)))
    · exact hx _ q _ r (ge_x_swap z)
    · exact hx _ q _ r (ge_x_symm (ge_x_swap (ge_x_symm (ge_x_swap z))))
theorem ge_S_app (k : Int) (s t : List GPt) : ge_S k (s ++ t) = ge_S k s ++ ge_S k t := by simp [ge_S]
theorem ge_eqv_rot (s t : List GPt) : ge_eqv (s ++ t) (t ++ s) := by
  refine ⟨fun v => by simp [Or.comm], fun u v => ?_, fun k p => ?_⟩
  · unfold ge_adj
    rw [ge_E_rot s t, ge_E_rot s t]
  · rw [ge_S_app, ge_S_app, ge_par_rot]
theorem ge_ed_rev (l : List GPt) (u v : GPt) : (u, v) ∈ ge_ed l.reverse ↔ (v, u) ∈ ge_ed l := by
  induction l with
  | nil => simp [ge_ed]
  | cons a r ih =>
    cases r with
    | nil => simp [ge_ed]
    | cons b r =>
      rw [show (a :: b :: r).reverse = r.reverse ++ b :: [a] by simp, ge_ed_app]
      rw [show r.reverse ++ [b] = (b :: r).reverse by simp, List.mem_append, ih]
      show (v, u) ∈ ge_ed (b :: r) ∨ (u, v) ∈ [(b, a)] ↔ (v, u) ∈ (a, b) :: ge_ed (b :: r)
      simp
      grind
theorem ge_pp_rev (l : List GPt) (p : GPt) : ge_pp l.reverse p = ge_pp l p := by
  induction l with
  | nil => rfl
  | cons a r ih =>
    cases r with
    | nil => rfl
    | cons b r =>
      rw [show (a :: b :: r).reverse = r.reverse ++ b :: [a] by simp, ge_pp_app]
      rw [show r.reverse ++ [b] = (b :: r).reverse by simp, ih]
      show (ge_pp (b :: r) p != (ge_cs b a p != false)) = (ge_cs a b p != ge_pp (b :: r) p)
      rw [ge_cs_comm b a]
      cases ge_pp (b :: r) p <;> cases ge_cs a b p <;> rfl
theorem ge_cy_rev (b : GPt) (t : List GPt) : ge_cy (b :: t.reverse) = (ge_cy (b :: t)).reverse := by simp [ge_cy]
theorem ge_eqv_rev (b : GPt) (t : List GPt) : ge_eqv (b :: t) (b :: t.reverse) := by
  refine ⟨fun v => by simp, fun u v => ?_, fun k p => ?_⟩
  · unfold ge_adj ge_E
    rw [ge_cy_rev, ge_ed_rev, ge_ed_rev]
    exact Or.comm
  · rw [show ge_S k (b :: t.reverse) = ge_s k b :: (ge_S k t).reverse by simp [ge_S]]
    unfold ge_par
    rw [ge_cy_rev, ge_pp_rev]
    rfl
/-- a point that lies lower than the corners isn't in the triangle -/
theorem ge_low_in {x e y b : GPt} (hF : 0 < ge_o x e y) (hx : ge_low b x) (he : ge_low b e) (hy : ge_low b y) : ¬ ge_in x e y b := by
  rintro ⟨h1, h2, h3⟩
  have b0 := ge_b0 x e y b
  have by' := ge_by x e y b
  have bx := ge_bx x e y b
  have nn : ∀ {w : GPt}, ge_low b w → 0 ≤ w.2 - b.2 := fun h => by rcases h with h | ⟨h, -⟩ <;> omega
  have k1 := Int.mul_nonneg h2 (nn hx)
  have k2 := Int.mul_nonneg h3 (nn he)
  have k3 := Int.mul_nonneg h1 (nn hy)
  have e1 : ge_o e y b * (x.2 - b.2) = 0 := by omega
  have e2 : ge_o y x b * (e.2 - b.2) = 0 := by omega
  have e3 : ge_o x e b * (y.2 - b.2) = 0 := by omega
  have lt : ∀ {w : GPt} {k : Int}, ge_low b w → 0 ≤ k → k * (w.2 - b.2) = 0 → k * (w.1 - b.1) ≤ 0 ∧ (0 < k → k * (w.1 - b.1) < 0) := fun {w k} h hk hz => by
    rcases h with h | ⟨h, h'⟩
    · have : k = 0 := by rcases Int.mul_eq_zero.mp hz with q | q <;> omega
      subst this
      exact ⟨by rw [Int.zero_mul]; exact Int.le_refl _, fun q => by omega⟩
    · have m1 := Int.mul_nonneg hk (show 0 ≤ b.1 - w.1 by omega)
      refine ⟨by grind, fun q => ?_⟩
      have m2 := Int.mul_pos q (show 0 < b.1 - w.1 by omega)
      grind
  have l1 := lt hx h2 e1
  have l2 := lt he h3 e2
  have l3 := lt hy h1 e3
  omega
theorem ge_low_tc {x e y b : GPt} (hF : ge_o x e y ≠ 0) (hx : ge_low b x) (he : ge_low b e) (hy : ge_low b y) : ¬ ge_tc x e y b := by
  intro h
  rcases Int.lt_or_lt_of_ne hF with q | q
  · have : ge_o y e x = -ge_o x e y := by unfold ge_o; grind
    exact ge_low_in (by omega) hy he hx (ge_tc_in (by omega) (ge_tc_symm h))
  · exact ge_low_in q hx he hy (ge_tc_in q h)
section CaseA
variable {a b c : GPt} {mid : List GPt}
theorem ge_PE_A (hF : 0 < ge_o a b c) (hs : ge_simple (b :: c :: (mid ++ [a]))) (he : ∀ w ∈ c :: (mid ++ [a]), w ≠ a → w ≠ c → ¬ ge_in a b c w) (hl : ∀ v ∈ c :: (mid ++ [a]), ge_low b v) (ih : ge_PE (c :: (mid ++ [a]))) : ge_PE (b :: c :: (mid ++ [a])) := by
  have hn := hs.1
  obtain ⟨hb, hn'⟩ := List.nodup_cons.mp hn
  have hac : a ≠ c := fun z => by
    have : c ∉ mid ++ [a] := (List.nodup_cons.mp hn').1
    rw [← z] at this
    exact this (by simp)
  have hat : a ∈ c :: (mid ++ [a]) := by simp
  have good := ge_goodA hF hs he hl
  intro u v huv
  by_cases hbu : b = u ∨ b = v
  · obtain ⟨x, e, y, h1, h2, h3, h4, h5, h6, h7⟩ := ih a c (Or.inl (by rw [ge_E_cut]; simp))
    have lift : ∀ {w : GPt}, ge_adj (c :: (mid ++ [a])) w e → ge_adj (b :: c :: (mid ++ [a])) w e := fun {w} h => by
      unfold ge_adj at h ⊢
      rw [ge_E_cut] at h
      rw [ge_E_ear]
      rcases h with h | h
      · rcases List.mem_append.mp h with h | h
        · exact Or.inl (List.mem_cons_of_mem _ (List.mem_append_left _ h))
        · have := (Prod.mk.inj (List.mem_singleton.mp h)).2
          exact absurd this h5
      · rcases List.mem_append.mp h with h | h
        · exact Or.inr (List.mem_cons_of_mem _ (List.mem_append_left _ h))
        · have := (Prod.mk.inj (List.mem_singleton.mp h)).1
          exact absurd this h4
    have mem : ∀ {w : GPt}, ge_adj (c :: (mid ++ [a])) w e → w ∈ c :: (mid ++ [a]) ∧ e ∈ c :: (mid ++ [a]) := fun {w} h => by
      rcases h with h | h
      · exact ge_E_mem h
      · exact (ge_E_mem h).symm
    have hx := (mem h1).1
    have hem := (mem h1).2
    have hy := (mem (ge_adj_symm h2)).1
    have eb : e ≠ b := fun z => hb (z ▸ hem)
    have nb : ∀ {w : GPt}, ge_adj (b :: c :: (mid ++ [a])) b w → w = a ∨ w = c := fun {w} h => by
      unfold ge_adj at h
      rw [ge_E_ear] at h
      have nin : ∀ q : GPt × GPt, q ∈ ge_ed (c :: (mid ++ [a])) → q.1 ≠ b ∧ q.2 ≠ b := fun q hq => ⟨fun z => hb (z ▸ (ge_ed_mem _ q hq).1), fun z => hb (z ▸ (ge_ed_mem _ q hq).2)⟩
      rcases h with h | h
      · rcases List.mem_cons.mp h with h | h
        · exact Or.inr (Prod.mk.inj h).2
        · rcases List.mem_append.mp h with h | h
          · exact absurd rfl (nin _ h).1
          · have := (Prod.mk.inj (List.mem_singleton.mp h)).1
            exact absurd (this ▸ hat) hb
      · rcases List.mem_cons.mp h with h | h
        · have := (Prod.mk.inj h).2
          exact absurd (this ▸ List.mem_cons_self) hb
        · rcases List.mem_append.mp h with h | h
          · exact absurd rfl (nin _ h).2
          · exact Or.inl (Prod.mk.inj (List.mem_singleton.mp h)).1
    have euv : e ≠ u ∧ e ≠ v := by
      rcases hbu with q | q
      · subst q
        refine ⟨eb, fun z => ?_⟩
        rcases nb huv with r | r
        · exact h4 (z.trans r)
        · exact h5 (z.trans r)
      · subst q
        refine ⟨fun z => ?_, eb⟩
        rcases nb (ge_adj_symm huv) with r | r
        · exact h4 (z.trans r)
        · exact h5 (z.trans r)
    refine ⟨x, e, y, lift h1, ge_adj_symm (lift (ge_adj_symm h2)), h3, euv.1, euv.2, h6, ?_, ?_⟩
    · intro w hw w1 w2 w3
      rcases List.mem_cons.mp hw with q | q
      · rw [q]
        exact ge_low_tc h6 (hl x hx) (hl e hem) (hl y hy)
      · exact h7.1 w q w1 w2 w3
    · intro k hk p hp ho
      have hF' : 0 < ge_o (ge_s k a) (ge_s k b) (ge_s k c) := by rw [ge_o_s]; exact Int.mul_pos (ge_mm hk) hF
      have ac : (ge_s k a, ge_s k c) ∈ ge_E (ge_S k (c :: (mid ++ [a]))) := by rw [ge_E_S, ge_E_cut]; simp
      by_cases pac : ge_on (ge_s k a) (ge_s k c) p
      · exact good.2 k hk p (Or.inl (ge_ac_in hF' pac (fun z => hac (ge_s_inj hk z)))) ho
      · have off' : ge_off (ge_S k (c :: (mid ++ [a]))) p := by
          intro f hf z
          rw [ge_E_S, ge_E_cut] at hf
          obtain ⟨f0, hf0, rfl⟩ := List.mem_map.mp hf
          rcases List.mem_append.mp hf0 with q | q
          · refine ho (ge_s k f0.1, ge_s k f0.2) ?_ z
            rw [ge_E_S, ge_E_ear]
            exact List.mem_map.mpr ⟨f0, List.mem_cons_of_mem _ (List.mem_append_left _ q), rfl⟩
          · rw [List.mem_singleton.mp q] at z
            exact pac z
        have pt := h7.2 k hk p hp off'
        have n1 : ¬ ge_on (ge_s k a) (ge_s k b) p := fun z => ho (ge_s k a, ge_s k b) (by rw [ge_E_S, ge_E_ear]; simp) z
        have n2 : ¬ ge_on (ge_s k b) (ge_s k c) p := fun z => ho (ge_s k b, ge_s k c) (by rw [ge_E_S, ge_E_ear]; simp) z
        have n3 : ¬ ge_on (ge_s k c) (ge_s k a) p := fun z => pac (ge_on_symm z)
        have notT : ¬ ge_int (ge_s k a) (ge_s k b) (ge_s k c) p := fun z => by
          have z0 : ge_par (ge_S k (c :: (mid ++ [a]))) p = false := by
            rw [ge_S_cut]
            refine ge_A1 (mid := ge_S k mid) hF' (by rw [← ge_S_ear]; exact ge_simple_S hk hs) ?_ ?_ (ge_int_in z) z.2.2
            · intro w hw q1 q2 z
              rw [← ge_S_cut] at hw
              obtain ⟨w0, hw0, rfl⟩ := List.mem_map.mp hw
              exact he w0 hw0 (fun q => q1 (by rw [q])) (fun q => q2 (by rw [q])) ((ge_in_s hk _ _ _ _).mp z)
            · intro v hv
              rw [← ge_S_cut] at hv
              obtain ⟨w0, hw0, rfl⟩ := List.mem_map.mp hv
              exact ge_low_s hk (hl w0 hw0)
          rw [pt] at z0
          cases z0
        have tp0 : ge_tp (ge_s k a) (ge_s k b) (ge_s k c) p = false := by
          cases hq : ge_tp (ge_s k a) (ge_s k b) (ge_s k c) p with
          | false => rfl
          | true => exact absurd ((ge_tri hF' n1 n2 n3).mp hq) notT
        rw [ge_S_ear, ge_par_ear, tp0, ← ge_S_cut, pt]
        rfl
  · exact ⟨a, b, c, Or.inl (by rw [ge_E_ear]; simp), Or.inl (by rw [ge_E_ear]; simp), hac, fun z => hbu (Or.inl z), fun z => hbu (Or.inr z), by omega, good⟩
end CaseA
end
section
/-! meeting by signs is having a common point, at some scale -/
theorem ge_meet_pt {u v p q : GPt} (h : ge_meet u v p q) : ∃ (m : Int) (r : GPt), 0 < m ∧ ge_on (ge_s m u) (ge_s m v) r ∧ ge_on (ge_s m p) (ge_s m q) r := by
  rcases h with h | h | h | h | h
  · exact ⟨1, p, by decide, by rw [ge_s_1, ge_s_1]; exact h, by rw [ge_s_1, ge_s_1]; exact ge_on_l _ _⟩
  · exact ⟨1, q, by decide, by rw [ge_s_1, ge_s_1]; exact h, by rw [ge_s_1, ge_s_1]; exact ge_on_r _ _⟩
  · exact ⟨1, u, by decide, by rw [ge_s_1, ge_s_1]; exact ge_on_l _ _, by rw [ge_s_1, ge_s_1]; exact h⟩
  · exact ⟨1, v, by decide, by rw [ge_s_1, ge_s_1]; exact ge_on_r _ _, by rw [ge_s_1, ge_s_1]; exact h⟩
  · obtain ⟨m, r, i, j, i', j', hm, w, w', -⟩ := ge_x_pt h
    exact ⟨m, r, hm, ge_wt_on w', ge_wt_on w⟩
theorem ge_on_xx {p q v : GPt} (h0 : ge_o p q v = 0) (hx : p.1 < q.1) (h1 : p.1 ≤ v.1) (h2 : v.1 ≤ q.1) : ge_on p q v := by
  refine ge_wt_on (i := q.1 - v.1) (j := v.1 - p.1) ⟨by omega, by omega, by omega, by grind, ?_⟩
  unfold ge_o at h0
  grind
theorem ge_col_x {x y u v r : GPt} (hu : u.1 < r.1) (hv : r.1 < v.1) (hx : x.1 < r.1) (hy : r.1 < y.1) (sx : ge_o u v x = 0) (tu : ge_o x y u = 0) : ge_on u v x ∨ ge_on x y u := by
  rcases Int.le_total u.1 x.1 with z | z
  · exact Or.inl (ge_on_xx sx (by omega) z (by omega))
  · exact Or.inr (ge_on_xx tu (by omega) z (by omega))
theorem ge_col_y {x y u v r : GPt} (hu : u.2 < r.2) (hv : r.2 < v.2) (hx : x.2 < r.2) (hy : r.2 < y.2) (sx : ge_o u v x = 0) (tu : ge_o x y u = 0) : ge_on u v x ∨ ge_on x y u := by
  rcases Int.le_total u.2 x.2 with z | z
  · exact Or.inl (ge_on_y sx (by omega) z (by omega))
  · exact Or.inr (ge_on_y tu (by omega) z (by omega))
/-- strictly between, by weights -/
theorem ge_wt_btw {A B R i j : Int} (hi : 0 < i) (hj : 0 < j) (h : (i + j) * R = i * A + j * B) : (A < R ∧ R < B) ∨ (B < R ∧ R < A) ∨ (A = R ∧ B = R) := by
  rcases Int.lt_trichotomy A R with q | q | q
  · left
    refine ⟨q, ?_⟩
    have k := Int.mul_pos hi (show 0 < R - A by omega)
    have := ge_pos (t := B - R) hj (by grind)
    omega
  · right; right
    have := ge_zero (t := B - R) hj (by grind)
    exact ⟨q, by omega⟩
  · right; left
    refine ⟨?_, q⟩
    have k := Int.mul_pos hi (show 0 < A - R by omega)
    have := ge_pos (t := R - B) hj (by grind)
    omega
theorem ge_pt_meet {x y u v r : GPt} (hxy : x ≠ y) (huv : u ≠ v) (h1 : ge_on x y r) (h2 : ge_on u v r) : ge_meet x y u v := by
  obtain ⟨i, j, w⟩ := ge_on_wt hxy h1
  obtain ⟨i', j', w'⟩ := ge_on_wt huv h2
  by_cases e1 : i = 0
  · subst e1
    have := ge_wt_0 (ge_wt_swap w)
    subst this
    exact Or.inr (Or.inr (Or.inr (Or.inl h2)))
  by_cases e2 : j = 0
  · subst e2
    have := ge_wt_0 w
    subst this
    exact Or.inr (Or.inr (Or.inl h2))
  by_cases e3 : i' = 0
  · subst e3
    have := ge_wt_0 (ge_wt_swap w')
    subst this
    exact Or.inr (Or.inl h1)
  by_cases e4 : j' = 0
  · subst e4
    have := ge_wt_0 w'
    subst this
    exact Or.inl h1
  have hi : 0 < i := by have := w.1; omega
  have hj : 0 < j := by have := w.2.1; omega
  have hi' : 0 < i' := by have := w'.1; omega
  have hj' : 0 < j' := by have := w'.2.1; omega
  have s := ge_wt_o w u v
  have t := ge_wt_o w' x y
  rw [h2.1, Int.mul_zero] at s
  rw [h1.1, Int.mul_zero] at t
  rcases Int.lt_trichotomy (ge_o u v x) 0 with sx | sx | sx
  · have k := Int.mul_pos hi (show 0 < -ge_o u v x by omega)
    rw [Int.mul_neg] at k
    have sy : 0 < ge_o u v y := ge_pos hj (by omega)
    have sub := ge_o_sub x y u v
    have hne : ge_o x y u ≠ ge_o x y v := by omega
    rcases Int.lt_trichotomy (ge_o x y u) 0 with tu | tu | tu
    · have k2 := Int.mul_pos hi' (show 0 < -ge_o x y u by omega)
      rw [Int.mul_neg] at k2
      have tv : 0 < ge_o x y v := ge_pos hj' (by omega)
      refine Or.inr (Or.inr (Or.inr (Or.inr ⟨?_, ?_⟩)))
      · have := Int.mul_pos (show 0 < -ge_o x y u by omega) tv
        rw [Int.neg_mul] at this; omega
      · have := Int.mul_pos (show 0 < -ge_o u v x by omega) sy
        rw [Int.neg_mul] at this; omega
    · rw [tu, Int.mul_zero] at t
      have : ge_o x y v = 0 := ge_zero hj' (by omega)
      omega
    · have k2 := Int.mul_pos hi' tu
      have tv : 0 < -ge_o x y v := ge_pos hj' (by rw [Int.mul_neg]; omega)
      refine Or.inr (Or.inr (Or.inr (Or.inr ⟨?_, ?_⟩)))
      · have := Int.mul_pos tu tv
        rw [Int.mul_neg] at this; omega
      · have := Int.mul_pos (show 0 < -ge_o u v x by omega) sy
        rw [Int.neg_mul] at this; omega
  · rw [sx, Int.mul_zero] at s
    have sy : ge_o u v y = 0 := ge_zero hj (by omega)
    have sub := ge_o_sub x y u v
    have tt : ge_o x y u = ge_o x y v := by omega
    have tu : ge_o x y u = 0 := by
      rw [← tt] at t
      have : (i' + j') * ge_o x y u = 0 := by rw [Int.add_mul]; omega
      exact ge_zero (by omega) this
    have tv : ge_o x y v = 0 := by omega
    have fin : ge_on u v x ∨ ge_on u v y ∨ ge_on x y u ∨ ge_on x y v → ge_meet x y u v := fun q => by
      rcases q with q | q | q | q
      · exact Or.inr (Or.inr (Or.inl q))
      · exact Or.inr (Or.inr (Or.inr (Or.inl q)))
      · exact Or.inl q
      · exact Or.inr (Or.inl q)
    have neg : ∀ {A B C : GPt}, ge_o A B C = 0 → ge_o B A C = 0 := fun {A B C} h => by rw [ge_o_swap, h]; rfl
    apply fin
    rcases ge_wt_btw hi' hj' w'.2.2.2.1 with ⟨a1, a2⟩ | ⟨a1, a2⟩ | ⟨a1, a2⟩
    · rcases ge_wt_btw hi hj w.2.2.2.1 with ⟨b1, b2⟩ | ⟨b1, b2⟩ | ⟨b1, b2⟩
      · rcases ge_col_x a1 a2 b1 b2 sx tu with q | q
        · exact Or.inl q
        · exact Or.inr (Or.inr (Or.inl q))
      · rcases ge_col_x a1 a2 b1 b2 sy (neg tu) with q | q
        · exact Or.inr (Or.inl q)
        · exact Or.inr (Or.inr (Or.inl (ge_on_symm q)))
      · exfalso
        have hx1 : x.1 = y.1 := by omega
        have e : ge_o x y u = (y.2 - x.2) * (x.1 - u.1) := by unfold ge_o; grind
        rw [tu] at e
        rcases Int.mul_eq_zero.mp e.symm with q | q
        · exact hxy (Prod.ext hx1 (by omega))
        · omega
    · rcases ge_wt_btw hi hj w.2.2.2.1 with ⟨b1, b2⟩ | ⟨b1, b2⟩ | ⟨b1, b2⟩
      · rcases ge_col_x a1 a2 b1 b2 (neg sx) tv with q | q
        · exact Or.inl (ge_on_symm q)
        · exact Or.inr (Or.inr (Or.inr q))
      · rcases ge_col_x a1 a2 b1 b2 (neg sy) (neg tv) with q | q
        · exact Or.inr (Or.inl (ge_on_symm q))
        · exact Or.inr (Or.inr (Or.inr (ge_on_symm q)))
      · exfalso
        have hx1 : x.1 = y.1 := by omega
        have e : ge_o x y u = (y.2 - x.2) * (x.1 - u.1) := by unfold ge_o; grind
        rw [tu] at e
        rcases Int.mul_eq_zero.mp e.symm with q | q
        · exact hxy (Prod.ext hx1 (by omega))
        · omega
    · have hu1 : u.1 = v.1 := by omega
      have hx1 : x.1 = u.1 := by
        have e : ge_o u v x = (v.2 - u.2) * (u.1 - x.1) := by unfold ge_o; grind
        rw [sx] at e
        rcases Int.mul_eq_zero.mp e.symm with q | q
        · exact absurd (Prod.ext hu1 (by omega)) huv
        · omega
      rcases ge_wt_btw hi' hj' w'.2.2.2.2 with ⟨c1, c2⟩ | ⟨c1, c2⟩ | ⟨c1, c2⟩
      · rcases ge_wt_btw hi hj w.2.2.2.2 with ⟨b1, b2⟩ | ⟨b1, b2⟩ | ⟨b1, b2⟩
        · rcases ge_col_y c1 c2 b1 b2 sx tu with q | q
          · exact Or.inl q
          · exact Or.inr (Or.inr (Or.inl q))
        · rcases ge_col_y c1 c2 b1 b2 sy (neg tu) with q | q
          · exact Or.inr (Or.inl q)
          · exact Or.inr (Or.inr (Or.inl (ge_on_symm q)))
        · exact absurd (Prod.ext (by rcases ge_wt_btw hi hj w.2.2.2.1 with q | q | q <;> omega) (by omega)) hxy
      · rcases ge_wt_btw hi hj w.2.2.2.2 with ⟨b1, b2⟩ | ⟨b1, b2⟩ | ⟨b1, b2⟩
        · rcases ge_col_y c1 c2 b1 b2 (neg sx) tv with q | q
          · exact Or.inl (ge_on_symm q)
          · exact Or.inr (Or.inr (Or.inr q))
        · rcases ge_col_y c1 c2 b1 b2 (neg sy) (neg tv) with q | q
          · exact Or.inr (Or.inl (ge_on_symm q))
          · exact Or.inr (Or.inr (Or.inr (ge_on_symm q)))
        · exact absurd (Prod.ext (by rcases ge_wt_btw hi hj w.2.2.2.1 with q | q | q <;> omega) (by omega)) hxy
      · exact absurd (Prod.ext hu1 (by omega)) huv
  · have k := Int.mul_pos hi sx
    have sy : 0 < -ge_o u v y := ge_pos hj (by rw [Int.mul_neg]; omega)
    have sub := ge_o_sub x y u v
    rcases Int.lt_trichotomy (ge_o x y u) 0 with tu | tu | tu
    · have k2 := Int.mul_pos hi' (show 0 < -ge_o x y u by omega)
      rw [Int.mul_neg] at k2
      have tv : 0 < ge_o x y v := ge_pos hj' (by omega)
      refine Or.inr (Or.inr (Or.inr (Or.inr ⟨?_, ?_⟩)))
      · have := Int.mul_pos (show 0 < -ge_o x y u by omega) tv
        rw [Int.neg_mul] at this; omega
      · have := Int.mul_pos sx sy
        rw [Int.mul_neg] at this; omega
    · rw [tu, Int.mul_zero] at t
      have : ge_o x y v = 0 := ge_zero hj' (by omega)
      omega
    · have k2 := Int.mul_pos hi' tu
      have tv : 0 < -ge_o x y v := ge_pos hj' (by rw [Int.mul_neg]; omega)
      refine Or.inr (Or.inr (Or.inr (Or.inr ⟨?_, ?_⟩)))
      · have := Int.mul_pos tu tv
        rw [Int.mul_neg] at this; omega
      · have := Int.mul_pos sx sy
        rw [Int.mul_neg] at this; omega
theorem ge_meet_s {m : Int} (hm : 0 < m) (u v p q : GPt) : ge_meet (ge_s m u) (ge_s m v) (ge_s m p) (ge_s m q) ↔ ge_meet u v p q := by
  have h := ge_x_s hm u v p q
  unfold ge_x at h
  unfold ge_meet
  rw [ge_on_s hm, ge_on_s hm, ge_on_s hm, ge_on_s hm, h]
/-- a piece of an edge meets no more than the edge does -/
theorem ge_meet_part {x y a b p q : GPt} (hxy : x ≠ y) (hab : a ≠ b) (hp : ge_on a b p) (hq : ge_on a b q) (h : ge_meet x y p q) : ge_meet x y a b := by
  obtain ⟨m, r, hm, h1, h2⟩ := ge_meet_pt h
  rw [← ge_meet_s hm]
  have hp' := (ge_on_s hm a b p).mpr hp
  have hq' := (ge_on_s hm a b q).mpr hq
  have hab' : ge_s m a ≠ ge_s m b := fun z => hab (ge_s_inj hm z)
  refine ge_pt_meet (fun z => hxy (ge_s_inj hm z)) hab' h1 ?_
  by_cases e : ge_s m p = ge_s m q
  · rw [e] at h2
    rw [ge_on_pp h2]
    exact hq'
  · obtain ⟨i, j, w⟩ := ge_on_wt e h2
    obtain ⟨i1, j1, w1⟩ := ge_on_wt hab' hp'
    obtain ⟨i2, j2, w2⟩ := ge_on_wt hab' hq'
    obtain ⟨ii, ij, is, ix, iy⟩ := w
    obtain ⟨a1, a2, a3, ax, ay⟩ := w1
    obtain ⟨b1, b2, b3, bx, by'⟩ := w2
    have q1 := Int.mul_nonneg (Int.mul_nonneg ii a1) (Int.le_of_lt b3)
    have q2 := Int.mul_nonneg (Int.mul_nonneg ij b1) (Int.le_of_lt a3)
    have q3 := Int.mul_nonneg (Int.mul_nonneg ii a2) (Int.le_of_lt b3)
    have q4 := Int.mul_nonneg (Int.mul_nonneg ij b2) (Int.le_of_lt a3)
    have q5 := Int.mul_pos (Int.mul_pos is a3) b3
    refine ge_wt_on (i := i * i1 * (i2 + j2) + j * i2 * (i1 + j1)) (j := i * j1 * (i2 + j2) + j * j2 * (i1 + j1)) ⟨by omega, by omega, ?_, ?_, ?_⟩
    · have : i * i1 * (i2 + j2) + j * i2 * (i1 + j1) + (i * j1 * (i2 + j2) + j * j2 * (i1 + j1)) = (i + j) * (i1 + j1) * (i2 + j2) := by grind
      rw [this]; exact q5
    · have : (i * i1 * (i2 + j2) + j * i2 * (i1 + j1) + (i * j1 * (i2 + j2) + j * j2 * (i1 + j1))) * r.1 = (i1 + j1) * (i2 + j2) * ((i + j) * r.1) := by grind
      rw [this, ix]
      have e2 : (i1 + j1) * (i2 + j2) * (i * (ge_s m p).1 + j * (ge_s m q).1) = i * (i2 + j2) * ((i1 + j1) * (ge_s m p).1) + j * (i1 + j1) * ((i2 + j2) * (ge_s m q).1) := by grind
      rw [e2, ax, bx]; grind
    · have : (i * i1 * (i2 + j2) + j * i2 * (i1 + j1) + (i * j1 * (i2 + j2) + j * j2 * (i1 + j1))) * r.2 = (i1 + j1) * (i2 + j2) * ((i + j) * r.2) := by grind
      rw [this, iy]
      have e2 : (i1 + j1) * (i2 + j2) * (i * (ge_s m p).2 + j * (ge_s m q).2) = i * (i2 + j2) * ((i1 + j1) * (ge_s m p).2) + j * (i1 + j1) * ((i2 + j2) * (ge_s m q).2) := by grind
      rw [e2, ay, by']; grind
end
section
/-! the lowest corner's triangle holds vertices: the one farthest from the far side is joined to the corner; that diagonal meets no edge -/
/-- the triangle above the height h of z -/
def ge_up (h G : Int) (b a : GPt) : GPt := (h * b.1 + G * a.1, h * b.2 + G * a.2)
theorem ge_up1 (h G : Int) (a b p : GPt) : ge_o (ge_up h G b a) (ge_s (h + G) b) (ge_s (h + G) p) = G * (h + G) * ge_o a b p := by unfold ge_up ge_s ge_o; grind
theorem ge_up2 (h G : Int) (b c p : GPt) : ge_o (ge_s (h + G) b) (ge_up h G b c) (ge_s (h + G) p) = G * (h + G) * ge_o b c p := by unfold ge_up ge_s ge_o; grind
theorem ge_up3 (h G : Int) (a b c p : GPt) : ge_o (ge_up h G b c) (ge_up h G b a) (ge_s (h + G) p) = G * ((h + G) * ge_o c a p - h * ge_o c a b) := by unfold ge_up ge_s ge_o; grind
theorem ge_up_o (h G : Int) (b a x y : GPt) : ge_o (ge_s (h + G) x) (ge_s (h + G) y) (ge_up h G b a) = (h + G) * (h * ge_o x y b + G * ge_o x y a) := by unfold ge_up ge_s ge_o; grind
theorem ge_up_s (m h G : Int) (b a : GPt) : ge_s m (ge_up h G b a) = ge_up h G (ge_s m b) (ge_s m a) := by unfold ge_up ge_s; simp; constructor <;> grind
theorem ge_opp {p q : Int} (h : p * q < 0) : (p < 0 ∧ 0 < q) ∨ (0 < p ∧ q < 0) := by
  rcases Int.lt_trichotomy p 0 with z | z | z
  · exact Or.inl ⟨z, ge_ngt_of z h⟩
  · rw [z, Int.zero_mul] at h; omega
  · exact Or.inr ⟨z, ge_lt_of z h⟩
theorem ge_opp_mk1 {p q : Int} (h1 : p < 0) (h2 : 0 < q) : p * q < 0 := by
  have := Int.mul_pos (show 0 < -p by omega) h2
  rw [Int.neg_mul] at this
  omega
theorem ge_opp_mk2 {p q : Int} (h1 : 0 < p) (h2 : q < 0) : p * q < 0 := by rw [Int.mul_comm]; exact ge_opp_mk1 h2 h1
/-- if the line through x, y parts b from a point between a and b, it parts b from a -/
theorem ge_part_up {h G ob oa : Int} (hh : 0 ≤ h) (hG : 0 < G) (H : (h * ob + G * oa) * ob < 0) : oa * ob < 0 := by
  rcases ge_opp H with ⟨q1, q2⟩ | ⟨q1, q2⟩
  · have k := Int.mul_nonneg hh (Int.le_of_lt q2)
    have : 0 < -oa := ge_pos hG (by rw [Int.mul_neg]; omega)
    exact ge_opp_mk1 (by omega) q2
  · have k := Int.mul_nonneg hh (show 0 ≤ -ob by omega)
    rw [Int.mul_neg] at k
    have : 0 < oa := ge_pos hG (by omega)
    exact ge_opp_mk2 this q2
section Diag
variable {a b c x y : GPt} {h G : Int}
/-- beside the upper triangle an edge keeps what it keeps beside the whole, where its ends aren't higher than h -/
theorem ge_side_up (hh : 0 ≤ h) (hG : 0 < G) (hF : ge_o c a b = h + G) (hxy : x ≠ y) (hx : ge_in a b c x → ge_o c a x ≤ h) (hy : ge_in a b c y → ge_o c a y ≤ h) (c1 : ¬ ge_x x y a b) (c2 : ¬ ge_x x y b c)
    (na : ge_on x y a → a = x ∨ a = y) (nb : ¬ ge_on x y b) (nc : ge_on x y c → c = x ∨ c = y) : ge_side (ge_up h G b a) (ge_s (h + G) b) (ge_up h G b c) (ge_s (h + G) x) (ge_s (h + G) y) := by
  have hFp : 0 < h + G := by omega
  have hGF : 0 < G * (h + G) := Int.mul_pos hG hFp
  have low : ∀ w : GPt, (ge_in a b c w → ge_o c a w ≤ h) → ¬ (ge_in (ge_up h G b a) (ge_s (h + G) b) (ge_up h G b c) (ge_s (h + G) w) ∧ 0 < ge_o (ge_up h G b c) (ge_up h G b a) (ge_s (h + G) w)) := fun w hw z => by
    obtain ⟨⟨z1, z2, -⟩, z3⟩ := z
    rw [ge_up1] at z1
    rw [ge_up2] at z2
    rw [ge_up3, hF] at z3
    have q1 := ge_nn hGF z1
    have q2 := ge_nn hGF z2
    have e : (h + G) * ge_o c a w - h * (h + G) = (h + G) * (ge_o c a w - h) := by grind
    rw [e] at z3
    have q3 : 0 < ge_o c a w - h := ge_pos hFp (ge_pos hG z3)
    have := hw ⟨q1, q2, by omega⟩
    omega
  have sg : ∀ p q : Int, G * (h + G) * p * (G * (h + G) * q) < 0 → p * q < 0 := fun p q z => by
    have e : G * (h + G) * p * (G * (h + G) * q) = (G * (h + G)) * (G * (h + G)) * (p * q) := by grind
    rw [e] at z
    exact ge_lt_of (Int.mul_pos hGF hGF) z
  have sb : ∀ w : GPt, ge_o (ge_s (h + G) x) (ge_s (h + G) y) (ge_s (h + G) w) = (h + G) * (h + G) * ge_o x y w := fun w => ge_o_s _ _ _ _
  have FF : 0 < (h + G) * ((h + G) * (h + G)) := Int.mul_pos hFp (ge_mm hFp)
  -- a corner of the upper triangle on the edge
  have corner : ∀ w : GPt, (ge_on x y w → w = x ∨ w = y) → ge_o x y b ≠ 0 ∨ True → (ge_o x y w * ge_o x y b < 0 → False) → ge_on (ge_s (h + G) x) (ge_s (h + G) y) (ge_up h G b w) → ge_o w b x * ge_o w b y < 0 → False := fun w hw _ hc z q => by
    have e := z.1
    rw [ge_up_o] at e
    have e' : h * ge_o x y b + G * ge_o x y w = 0 := ge_zero hFp e
    by_cases hb0 : ge_o x y b = 0
    · rw [hb0, Int.mul_zero] at e'
      have hw0 : ge_o x y w = 0 := ge_zero hG (by omega)
      rcases ge_opp q with ⟨q1, q2⟩ | ⟨q1, q2⟩
      · have := ge_at (a := w) (b := b) (x := y) (y := x) (by rw [ge_o_swap, hw0]; rfl) q2 q1
        exact ge_end1 (hw (ge_on_symm this)) q
      · exact ge_end1 (hw (ge_at hw0 q1 q2)) q
    · by_cases hw0 : ge_o x y w = 0
      · rcases ge_opp q with ⟨q1, q2⟩ | ⟨q1, q2⟩
        · have := ge_at (a := w) (b := b) (x := y) (y := x) (by rw [ge_o_swap, hw0]; rfl) q2 q1
          exact ge_end1 (hw (ge_on_symm this)) q
        · exact ge_end1 (hw (ge_at hw0 q1 q2)) q
      · rcases Int.lt_or_lt_of_ne hb0 with r | r
        · have k := Int.mul_nonneg hh (show 0 ≤ -ge_o x y b by omega)
          rw [Int.mul_neg] at k
          have : 0 ≤ ge_o x y w := ge_nn hG (by omega)
          exact hc (ge_opp_mk2 (by omega) r)
        · have k := Int.mul_nonneg hh (Int.le_of_lt r)
          have : 0 ≤ -ge_o x y w := ge_nn hG (by rw [Int.mul_neg]; omega)
          exact hc (ge_opp_mk1 (by omega) r)
  have crossA : ge_o a b x * ge_o a b y < 0 → ge_o x y a * ge_o x y b < 0 → False := fun q r => c1 ⟨r, q⟩
  have crossC : ge_o b c x * ge_o b c y < 0 → ge_o x y c * ge_o x y b < 0 → False := fun q r => c2 ⟨by rw [Int.mul_comm]; exact r, q⟩
  have flip : ge_o c b x * ge_o c b y = ge_o b c x * ge_o b c y := by rw [ge_o_swap b c x, ge_o_swap b c y, Int.neg_mul_neg]
  refine ⟨fun z => hxy (ge_s_inj hFp z), low x hx, low y hy, fun z => ?_, fun z => ?_, fun z q => ?_, ?_, fun z q => ?_⟩
  · obtain ⟨z1, z2⟩ := z
    rw [ge_up1, ge_up1] at z2
    rw [ge_up_o, sb] at z1
    have e : (h + G) * (h * ge_o x y b + G * ge_o x y a) * ((h + G) * (h + G) * ge_o x y b) = (h + G) * ((h + G) * (h + G)) * ((h * ge_o x y b + G * ge_o x y a) * ge_o x y b) := by grind
    rw [e] at z1
    exact crossA (sg _ _ z2) (ge_part_up hh hG (ge_lt_of FF z1))
  · obtain ⟨z1, z2⟩ := z
    rw [ge_up2, ge_up2] at z2
    rw [ge_up_o, sb] at z1
    have e : (h + G) * (h + G) * ge_o x y b * ((h + G) * (h * ge_o x y b + G * ge_o x y c)) = (h + G) * ((h + G) * (h + G)) * ((h * ge_o x y b + G * ge_o x y c) * ge_o x y b) := by grind
    rw [e] at z1
    exact crossC (sg _ _ z2) (ge_part_up hh hG (ge_lt_of FF z1))
  · rw [ge_up1, ge_up1] at q
    have q' := sg _ _ q
    exact corner a na (Or.inr trivial) (crossA q') z q'
  · rw [ge_on_s hFp]; exact nb
  · rw [ge_up2, ge_up2] at q
    have q' := sg _ _ q
    exact corner c nc (Or.inr trivial) (crossC q') z (by rw [flip]; exact q')
/-- so it has no point higher than h in the triangle -/
theorem ge_U (hh : 0 ≤ h) (hG : 0 < G) (hF : ge_o c a b = h + G) (sd : ge_side (ge_up h G b a) (ge_s (h + G) b) (ge_up h G b c) (ge_s (h + G) x) (ge_s (h + G) y)) {m : Int} (hm : 0 < m) {r : GPt} (hr : ge_on (ge_s m x) (ge_s m y) r) (rT : ge_in (ge_s m a) (ge_s m b) (ge_s m c) r) : ge_o (ge_s m c) (ge_s m a) r ≤ m * m * h := by
  rcases Int.lt_or_le (m * m * h) (ge_o (ge_s m c) (ge_s m a) r) with z | z
  · exfalso
    have hFp : 0 < h + G := by omega
    have hGF : 0 < G * (h + G) := Int.mul_pos hG hFp
    have sd' := ge_side_s hm sd
    rw [ge_up_s, ge_up_s] at sd'
    have comm : ∀ w : GPt, ge_s m (ge_s (h + G) w) = ge_s (h + G) (ge_s m w) := fun w => by rw [ge_s_s, ge_s_s, Int.mul_comm]
    rw [comm, comm, comm] at sd'
    have e3 : ge_o (ge_s m c) (ge_s m a) (ge_s m b) = m * m * (h + G) := by rw [ge_o_s, hF]
    refine ge_side_K (r := ge_s (h + G) r) sd' ((ge_on_s hFp _ _ _).mpr hr) ⟨?_, ?_, ?_⟩ ?_
    · rw [ge_up1]; exact Int.mul_nonneg (Int.le_of_lt hGF) rT.1
    · rw [ge_up2]; exact Int.mul_nonneg (Int.le_of_lt hGF) rT.2.1
    · rw [ge_up3, e3]
      have e : (h + G) * ge_o (ge_s m c) (ge_s m a) r - h * (m * m * (h + G)) = (h + G) * (ge_o (ge_s m c) (ge_s m a) r - m * m * h) := by grind
      rw [e]
      exact Int.mul_nonneg (Int.le_of_lt hG) (Int.mul_nonneg (Int.le_of_lt hFp) (by omega))
    · rw [ge_up3, e3]
      have e : (h + G) * ge_o (ge_s m c) (ge_s m a) r - h * (m * m * (h + G)) = (h + G) * (ge_o (ge_s m c) (ge_s m a) r - m * m * h) := by grind
      rw [e]
      exact Int.mul_pos hG (Int.mul_pos hFp (by omega))
  · exact z
end Diag
end
section
/-! an ear of one part of a parted polygon is an ear of the whole -/
theorem ge_free_end {a b c x y p q : GPt} (h : ge_side a b c x y) (hp : ge_in a b c p) (hpo : ¬ ge_on x y p) (hq : ge_in a b c q) (hq3 : 0 < ge_o c a q) : ¬ ge_meet x y p q := by
  rcases Int.lt_or_eq_of_le hp.2.2 with hp3 | hp3
  · exact ge_free h hp hp3 hq hq3
  · intro hm
    have hpq : p ≠ q := fun z => by rw [z] at hp3; omega
    have inn : ∀ z : GPt, ge_on p q z → z = p ∨ (ge_in a b c z ∧ 0 < ge_o c a z) := fun z hz => by
      obtain ⟨i, j, w⟩ := ge_on_wt hpq hz
      by_cases hj : j = 0
      · subst hj
        exact Or.inl (ge_wt_0 w)
      · refine Or.inr ⟨ge_wt_in w hp hq, ?_⟩
        have e := ge_wt_o w c a
        rw [← hp3, Int.mul_zero] at e
        have := Int.mul_pos (show 0 < j by have := w.2.1; omega) hq3
        exact ge_pos w.2.2.1 (by omega)
    rcases hm with z | z | z | z | z
    · exact hpo z
    · exact ge_side_K h z hq hq3
    · rcases inn _ z with r | r
      · exact hpo (by rw [← r]; exact ge_on_l _ _)
      · exact h.2.1 r
    · rcases inn _ z with r | r
      · exact hpo (by rw [← r]; exact ge_on_r _ _)
      · exact h.2.2.1 r
    · obtain ⟨m, r, i, j, i', j', hm, w, w', hi, hj, -⟩ := ge_x_pt z
      refine ge_side_K (ge_side_s hm h) (ge_wt_on w') (ge_wt_in w ((ge_in_s hm _ _ _ _).mpr hp) ((ge_in_s hm _ _ _ _).mpr hq)) ?_
      have e := ge_wt_o w (ge_s m c) (ge_s m a)
      rw [ge_o_s, ← hp3, Int.mul_zero, Int.mul_zero, ge_o_s] at e
      have := Int.mul_pos hj (Int.mul_pos (ge_mm hm) hq3)
      exact ge_pos w.2.2.1 (by omega)
section Join
variable {l Q1 Q2 : List GPt} {b z : GPt}
/-- the parts of a polygon parted by bz -/
def ge_parts (l Q1 Q2 : List GPt) (b z : GPt) : Prop :=
  (∀ u v : GPt, ge_adj Q1 u v → ge_adj l u v ∨ (u = b ∧ v = z) ∨ (u = z ∧ v = b)) ∧ (∀ u v : GPt, ge_adj Q2 u v → ge_adj l u v ∨ (u = b ∧ v = z) ∨ (u = z ∧ v = b)) ∧
  (∀ w ∈ l, w ∈ Q1 ∨ w ∈ Q2) ∧ (∀ w ∈ Q1, w ∈ l) ∧ (∀ w ∈ Q2, w ∈ l) ∧ (∀ w ∈ Q1, w ∈ Q2 → w = b ∨ w = z) ∧ b ∈ Q1 ∧ z ∈ Q1 ∧ b ≠ z ∧
  (∀ (k : Int) (p : GPt), ge_par (ge_S k l) p = (ge_par (ge_S k Q1) p != ge_par (ge_S k Q2) p)) ∧
  (∀ w ∈ Q2, w ≠ b → w ≠ z → ge_par Q1 w = false) ∧ (∀ w ∈ Q1, w ≠ b → w ≠ z → ge_par Q2 w = false) ∧
  (∀ (k : Int) (p : GPt), 0 < k → ge_on (ge_s k b) (ge_s k z) p → ge_off (ge_S k l) p → ge_par (ge_S k l) p = true) ∧
  (∀ w ∈ l, ge_on b z w → w = b ∨ w = z) ∧ (∀ u v : GPt, ge_adj l u v → ¬ ge_x u v b z) ∧ ge_simple l
theorem ge_adj_V {l : List GPt} (hs : ge_simple l) {u v w : GPt} (hw : w ∈ l) (h : ge_adj l u v) (ho : ge_on u v w) : w = u ∨ w = v := by
  rcases h with h | h
  · exact hs.2.1 w hw _ h ho
  · exact (hs.2.1 w hw _ h (ge_on_symm ho)).symm
theorem ge_adj_X {l : List GPt} (hs : ge_simple l) {u v x y : GPt} (h : ge_adj l u v) (g : ge_adj l x y) : ¬ ge_x u v x y := by
  intro q
  rcases h with h | h <;> rcases g with g | g
  · exact hs.2.2 _ h _ g q
  · exact hs.2.2 _ h _ g (ge_x_symm (ge_x_swap (ge_x_symm q)))
  · exact hs.2.2 _ h _ g (ge_x_swap q)
  · exact hs.2.2 _ h _ g (ge_x_swap (ge_x_symm (ge_x_swap (ge_x_symm q))))
theorem ge_adj_mem {l : List GPt} {u v : GPt} (h : ge_adj l u v) : u ∈ l ∧ v ∈ l := by
  rcases h with h | h
  · exact ge_E_mem h
  · exact (ge_E_mem h).symm
theorem ge_join1 (H : ge_parts l Q1 Q2 b z) (hne : ∀ u v : GPt, ge_adj l u v → u ≠ v) {x e y : GPt} (hF : 0 < ge_o x e y) (h1 : ge_adj l x e) (h2 : ge_adj l e y) (heQ : e ∈ Q1) (hxQ : x ∈ Q1) (hyQ : y ∈ Q1) (eb : e ≠ b) (ez : e ≠ z) (hg : ge_good Q1 x e y) : ge_good l x e y := by
  obtain ⟨hE1, hE2, hV, hV1, hV2, hVV, hbQ, hzQ, hbz, hpar, hc1, hc2, hin, hzV, hzX, hs⟩ := H
  have empty : ∀ w ∈ l, w ≠ x → w ≠ e → w ≠ y → ¬ ge_tc x e y w := by
    intro w hw w1 w2 w3 q
    by_cases hw1 : w ∈ Q1
    · exact hg.1 w hw1 w1 w2 w3 q
    · have hw2 : w ∈ Q2 := (hV w hw).resolve_left hw1
      have wb : w ≠ b := fun r => hw1 (r ▸ hbQ)
      have wz : w ≠ z := fun r => hw1 (r ▸ hzQ)
      have p0 := hc1 w hw2 wb wz
      have off : ge_off (ge_S 1 Q1) w := by
        rw [ge_off_iff]
        intro u v huv r
        rw [ge_s_1, ge_s_1] at r
        have mu := ge_adj_mem huv
        rcases hE1 u v huv with g | ⟨g1, g2⟩ | ⟨g1, g2⟩
        · rcases ge_adj_V hs hw g r with t | t
          · exact hw1 (t ▸ mu.1)
          · exact hw1 (t ▸ mu.2)
        · rw [g1, g2] at r
          exact (hzV w hw r).elim wb wz
        · rw [g1, g2] at r
          exact (hzV w hw (ge_on_symm r)).elim wb wz
      have p1 := hg.2 1 (by decide) w (by rw [ge_s_1, ge_s_1, ge_s_1]; exact q) off
      rw [ge_S_1, p0] at p1
      cases p1
  refine ⟨empty, fun k hk p hp ho => ?_⟩
  by_cases hbzp : ge_on (ge_s k b) (ge_s k z) p
  · exact hin k p hk hbzp ho
  · have hoi := ge_off_iff.mp ho
    have off1 : ge_off (ge_S k Q1) p := by
      rw [ge_off_iff]
      intro u v huv r
      rcases hE1 u v huv with g | ⟨g1, g2⟩ | ⟨g1, g2⟩
      · exact hoi u v g r
      · rw [g1, g2] at r; exact hbzp r
      · rw [g1, g2] at r; exact hbzp (ge_on_symm r)
    have q1 := hg.2 k hk p hp off1
    have hF' : 0 < ge_o (ge_s k x) (ge_s k e) (ge_s k y) := by rw [ge_o_s]; exact Int.mul_pos (ge_mm hk) hF
    have pin := ge_tc_in hF' hp
    have zx : ge_o y x e = ge_o x e y := by rw [ge_o_cyc, ge_o_cyc]
    have eQ2 : e ∉ Q2 := fun r => (hVV e heQ r).elim eb ez
    have q2 : ge_par (ge_S k Q2) p = ge_par (ge_S k Q2) (ge_s k e) := by
      refine ge_par_mv (fun f hf => ?_)
      rw [ge_E_S] at hf
      obtain ⟨f0, hf0, rfl⟩ := List.mem_map.mp hf
      have hadj : ge_adj Q2 f0.1 f0.2 := Or.inl hf0
      have mf := ge_adj_mem hadj
      have out : ∀ w ∈ Q2, ¬ (ge_in x e y w ∧ 0 < ge_o y x w) := fun w hw r => by
        by_cases wx : w = x
        · have : ge_o y x x = 0 := by unfold ge_o; grind
          rw [wx] at r; omega
        · by_cases wy : w = y
          · have : ge_o y x y = 0 := by unfold ge_o; grind
            rw [wy] at r; omega
          · exact empty w (hV2 w hw) wx (fun t => eQ2 (t ▸ hw)) wy (Or.inl r.1)
      have V : ∀ w ∈ l, ge_on f0.1 f0.2 w → w = f0.1 ∨ w = f0.2 := fun w hw r => by
        rcases hE2 _ _ hadj with g | ⟨g1, g2⟩ | ⟨g1, g2⟩
        · exact ge_adj_V hs hw g r
        · rw [g1, g2] at r ⊢
          exact hzV w hw r
        · rw [g1, g2] at r ⊢
          exact (hzV w hw (ge_on_symm r)).symm
      have X : ∀ u v : GPt, ge_adj l u v → ¬ ge_x f0.1 f0.2 u v := fun u v huv r => by
        rcases hE2 _ _ hadj with g | ⟨g1, g2⟩ | ⟨g1, g2⟩
        · exact ge_adj_X hs g huv r
        · rw [g1, g2] at r
          exact hzX u v huv (ge_x_symm r)
        · rw [g1, g2] at r
          exact hzX u v huv (ge_x_symm (ge_x_swap r))
      have ne : f0.1 ≠ f0.2 := by
        rcases hE2 _ _ hadj with g | ⟨g1, g2⟩ | ⟨g1, g2⟩
        · exact hne _ _ g
        · rw [g1, g2]; exact hbz
        · rw [g1, g2]; exact hbz.symm
      have side : ge_side x e y f0.1 f0.2 := ⟨ne, out _ mf.1, out _ mf.2, X x e h1, X e y h2, fun r => ge_end1 (V x (hV1 x hxQ) r), fun r => by
        rcases V e (hV1 e heQ) r with t | t
        · exact eQ2 (t ▸ mf.1)
        · exact eQ2 (t ▸ mf.2), fun r => ge_end2 (V y (hV1 y hyQ) r)⟩
      have pno : ¬ ge_on (ge_s k f0.1) (ge_s k f0.2) p := fun r => by
        rcases hE2 _ _ hadj with g | ⟨g1, g2⟩ | ⟨g1, g2⟩
        · exact hoi _ _ g r
        · rw [g1, g2] at r; exact hbzp r
        · rw [g1, g2] at r; exact hbzp (ge_on_symm r)
      have z1 : ge_o (ge_s k x) (ge_s k e) (ge_s k e) = 0 := by unfold ge_o; grind
      have z2 : ge_o (ge_s k e) (ge_s k y) (ge_s k e) = 0 := by unfold ge_o; grind
      have z3 : 0 < ge_o (ge_s k y) (ge_s k x) (ge_s k e) := by rw [ge_o_s, zx]; exact Int.mul_pos (ge_mm hk) hF
      exact ge_free_end (ge_side_s hk side) pin pno ⟨by omega, by omega, by omega⟩ z3
    rw [hpar, q1, q2, ge_par_s hk, hc2 e heQ eb ez]
    rfl
theorem ge_join (H : ge_parts l Q1 Q2 b z) (hne : ∀ u v : GPt, ge_adj l u v → u ≠ v) {x e y : GPt} (h1 : ge_adj Q1 x e) (h2 : ge_adj Q1 e y) (eb : e ≠ b) (ez : e ≠ z) (hF : ge_o x e y ≠ 0) (hg : ge_good Q1 x e y) : ge_adj l x e ∧ ge_adj l e y ∧ ge_good l x e y := by
  have hE1 := H.1
  have a1 : ge_adj l x e := by
    rcases hE1 x e h1 with g | ⟨g1, g2⟩ | ⟨g1, g2⟩
    · exact g
    · exact absurd g2 ez
    · exact absurd g2 eb
  have a2 : ge_adj l e y := by
    rcases hE1 e y h2 with g | ⟨g1, g2⟩ | ⟨g1, g2⟩
    · exact g
    · exact absurd g1 eb
    · exact absurd g1 ez
  have m1 := ge_adj_mem h1
  have m2 := ge_adj_mem h2
  refine ⟨a1, a2, ?_⟩
  rcases Int.lt_or_lt_of_ne hF with q | q
  · have : ge_o y e x = -ge_o x e y := by unfold ge_o; grind
    exact ge_good_symm (ge_join1 H hne (by omega) (ge_adj_symm a2) (ge_adj_symm a1) m1.2 m2.2 m1.1 eb ez (ge_good_symm hg))
  · exact ge_join1 H hne q a1 a2 m1.2 m1.1 m2.2 eb ez hg
end Join
end
section
/-! the lowest corner's triangle holds vertices: the polygon is parted along the diagonal to the farthest of them -/
theorem ge_disj {l : List GPt} (hs : ge_simple l) {u v x y : GPt} (h : ge_adj l u v) (g : ge_adj l x y) (n1 : u ≠ x) (n2 : u ≠ y) (n3 : v ≠ x) (n4 : v ≠ y) : ¬ ge_meet u v x y := by
  have mu := ge_adj_mem h
  have mx := ge_adj_mem g
  intro q
  rcases q with q | q | q | q | q
  · rcases ge_adj_V hs mx.1 h q with r | r
    · exact n1 r.symm
    · exact n3 r.symm
  · rcases ge_adj_V hs mx.2 h q with r | r
    · exact n2 r.symm
    · exact n4 r.symm
  · rcases ge_adj_V hs mu.1 g q with r | r
    · exact n1 r
    · exact n2 r
  · rcases ge_adj_V hs mu.2 g q with r | r
    · exact n3 r
    · exact n4 r
  · exact ge_adj_X hs h g q
theorem ge_ed_tl {x : GPt} {r : List GPt} {e : GPt × GPt} (h : e ∈ ge_ed r) : e ∈ ge_ed (x :: r) := by
  cases r with
  | nil => cases h
  | cons y r => exact List.mem_cons_of_mem _ h
theorem ge_ed_pre {e : GPt × GPt} : ∀ {l : List GPt} (r : List GPt), e ∈ ge_ed l → e ∈ ge_ed (l ++ r)
  | [], r, h => nomatch h
  | [_], r, h => nomatch h
  | a :: b :: l, r, h => by
    rcases List.mem_cons.mp h with q | q
    · exact List.mem_cons.mpr (Or.inl q)
    · exact List.mem_cons_of_mem _ (ge_ed_pre (l := b :: l) r q)
theorem ge_chain1 (f : GPt → Bool) : ∀ (m : List GPt) (c : GPt), (∀ e ∈ ge_ed (c :: m), f e.1 = f e.2) → ∀ w ∈ c :: m, f w = f c
  | [], c, _, w, hw => by rw [List.mem_singleton.mp hw]
  | y :: m, c, h, w, hw => by
    rcases List.mem_cons.mp hw with q | q
    · rw [q]
    · rw [ge_chain1 f m y (fun e he => h e (List.mem_cons_of_mem _ he)) w q]
      exact (h (c, y) List.mem_cons_self).symm
theorem ge_chain2 (f : GPt → Bool) : ∀ (m : List GPt) (a : GPt), (∀ e ∈ ge_ed (m ++ [a]), f e.1 = f e.2) → ∀ w ∈ m ++ [a], f w = f a
  | [], a, _, w, hw => by rw [List.mem_singleton.mp hw]
  | [y], a, h, w, hw => by
    have h1 := h (y, a) List.mem_cons_self
    rcases List.mem_cons.mp hw with q | q
    · rw [q]; exact h1
    · rw [List.mem_singleton.mp q]
  | y :: x :: m, a, h, w, hw => by
    have ih := ge_chain2 f (x :: m) a (fun e he => h e (List.mem_cons_of_mem _ he))
    have h1 := h (y, x) List.mem_cons_self
    rcases List.mem_cons.mp hw with q | q
    · rw [q]; exact h1.trans (ih x List.mem_cons_self)
    · exact ih w q
theorem ge_on_gt {x y r u v : GPt} {K : Int} (hr : ge_on x y r) (hx : K < ge_o u v x) (hy : K < ge_o u v y) : K < ge_o u v r := by
  by_cases e : x = y
  · subst e; rw [ge_on_pp hr]; exact hx
  · obtain ⟨i, j, w⟩ := ge_on_wt e hr
    have ho := ge_wt_o w u v
    obtain ⟨hi, hj, hs, -, -⟩ := w
    have k1 := Int.mul_nonneg hi (show 0 ≤ ge_o u v x - K - 1 by omega)
    have k2 := Int.mul_nonneg hj (show 0 ≤ ge_o u v y - K - 1 by omega)
    have : 0 ≤ (i + j) * (ge_o u v r - K - 1) := by grind
    have := ge_nn hs this
    omega
theorem ge_on_le {x y r u v : GPt} {K : Int} (hr : ge_on x y r) (hx : ge_o u v x ≤ K) (hy : ge_o u v y ≤ K) : ge_o u v r ≤ K := by
  by_cases e : x = y
  · subst e; rw [ge_on_pp hr]; exact hx
  · obtain ⟨i, j, w⟩ := ge_on_wt e hr
    have ho := ge_wt_o w u v
    obtain ⟨hi, hj, hs, -, -⟩ := w
    have k1 := Int.mul_nonneg hi (show 0 ≤ K - ge_o u v x by omega)
    have k2 := Int.mul_nonneg hj (show 0 ≤ K - ge_o u v y by omega)
    have : 0 ≤ (i + j) * (K - ge_o u v r) := by grind
    have := ge_nn hs this
    omega
theorem ge_on_in {x y r a b c : GPt} (hr : ge_on x y r) (hx : ge_in a b c x) (hy : ge_in a b c y) : ge_in a b c r := by
  by_cases e : x = y
  · subst e; rw [ge_on_pp hr]; exact hx
  · obtain ⟨i, j, w⟩ := ge_on_wt e hr
    exact ge_wt_in w hx hy
/-- parted by a line -/
theorem ge_low_free {u v p q a c : GPt} {K : Int} (hu : ge_o c a u ≤ K) (hv : ge_o c a v ≤ K) (hp : K < ge_o c a p) (hq : K < ge_o c a q) : ¬ ge_meet u v p q := by
  intro h
  obtain ⟨m, r, hm, h1, h2⟩ := ge_meet_pt h
  have mm := ge_mm hm
  have g1 : ge_o (ge_s m c) (ge_s m a) r ≤ m * m * K := ge_on_le h1 (by rw [ge_o_s]; exact (ge_sg_le mm).mpr hu) (by rw [ge_o_s]; exact (ge_sg_le mm).mpr hv)
  have g2 : m * m * K < ge_o (ge_s m c) (ge_s m a) r := ge_on_gt h2 (by rw [ge_o_s]; exact (ge_sg_lt mm).mpr hp) (by rw [ge_o_s]; exact (ge_sg_lt mm).mpr hq)
  omega
theorem ge_part_simple {l Q : List GPt} {b z : GPt} (hs : ge_simple l) (hn : Q.Nodup) (hsub : ∀ w ∈ Q, w ∈ l) (hE : ∀ u v : GPt, ge_adj Q u v → ge_adj l u v ∨ (u = b ∧ v = z) ∨ (u = z ∧ v = b)) (hV : ∀ w ∈ l, ge_on b z w → w = b ∨ w = z) (hX : ∀ u v : GPt, ge_adj l u v → ¬ ge_x u v b z) : ge_simple Q := by
  refine ⟨hn, fun w hw e he q => ?_, fun e he f hf q => ?_⟩
  · rcases hE e.1 e.2 (Or.inl he) with g | ⟨g1, g2⟩ | ⟨g1, g2⟩
    · exact ge_adj_V hs (hsub w hw) g q
    · rw [g1, g2] at q ⊢
      exact hV w (hsub w hw) q
    · rw [g1, g2] at q ⊢
      exact (hV w (hsub w hw) (ge_on_symm q)).symm
  · have self : ¬ ge_x b z b z := fun r => by
      have : ge_o b z b = 0 := by unfold ge_o; grind
      have r1 := r.1
      rw [this, Int.zero_mul] at r1
      omega
    have sw : ∀ {u v x y : GPt}, ge_x u v x y → ge_x u v y x := fun {u v x y} r => ge_x_symm (ge_x_swap (ge_x_symm r))
    rcases hE e.1 e.2 (Or.inl he) with g | ⟨g1, g2⟩ | ⟨g1, g2⟩ <;> rcases hE f.1 f.2 (Or.inl hf) with k | ⟨k1, k2⟩ | ⟨k1, k2⟩
    · exact ge_adj_X hs g k q
    · rw [k1, k2] at q; exact hX _ _ g q
    · rw [k1, k2] at q; exact hX _ _ g (sw q)
    · rw [g1, g2] at q; exact hX _ _ k (ge_x_symm q)
    · rw [g1, g2, k1, k2] at q; exact self q
    · rw [g1, g2, k1, k2] at q; exact self (sw q)
    · rw [g1, g2] at q; exact hX _ _ k (ge_x_symm (ge_x_swap q))
    · rw [g1, g2, k1, k2] at q; exact self (ge_x_swap q)
    · rw [g1, g2, k1, k2] at q; exact self (ge_x_swap (sw q))
/-- the diagonal's situation: z is the vertex of the lowest corner's triangle that is farthest from its far side -/
def ge_B (a b c z : GPt) (n1 n2 : List GPt) : Prop := 0 < ge_o a b c ∧ ge_simple (b :: c :: ((n1 ++ z :: n2) ++ [a])) ∧ (∀ v ∈ c :: ((n1 ++ z :: n2) ++ [a]), ge_low b v) ∧ ge_in a b c z ∧ ∀ w ∈ c :: ((n1 ++ z :: n2) ++ [a]), ge_in a b c w → ge_o c a w ≤ ge_o c a z
section CaseB
variable {a b c z : GPt} {n1 n2 : List GPt}
theorem ge_B_S (k : Int) : ge_S k (b :: c :: ((n1 ++ z :: n2) ++ [a])) = ge_s k b :: ge_s k c :: ((ge_S k n1 ++ ge_s k z :: ge_S k n2) ++ [ge_s k a]) := by simp [ge_S]
theorem ge_B_St (k : Int) : ge_S k (c :: ((n1 ++ z :: n2) ++ [a])) = ge_s k c :: ((ge_S k n1 ++ ge_s k z :: ge_S k n2) ++ [ge_s k a]) := by simp [ge_S]
theorem ge_B_s {k : Int} (hk : 0 < k) (H : ge_B a b c z n1 n2) : ge_B (ge_s k a) (ge_s k b) (ge_s k c) (ge_s k z) (ge_S k n1) (ge_S k n2) := by
  obtain ⟨hF, hs, hl, hz, hm⟩ := H
  refine ⟨by rw [ge_o_s]; exact Int.mul_pos (ge_mm hk) hF, by rw [← ge_B_S]; exact ge_simple_S hk hs, ?_, (ge_in_s hk _ _ _ _).mpr hz, ?_⟩
  · intro v hv
    rw [← ge_B_St] at hv
    obtain ⟨w, hw, rfl⟩ := List.mem_map.mp hv
    exact ge_low_s hk (hl w hw)
  · intro v hv q
    rw [← ge_B_St] at hv
    obtain ⟨w, hw, rfl⟩ := List.mem_map.mp hv
    rw [ge_o_s, ge_o_s]
    exact (ge_sg_le (ge_mm hk)).mpr (hm w hw ((ge_in_s hk _ _ _ _).mp q))
theorem ge_B_t : c :: ((n1 ++ z :: n2) ++ [a]) = (c :: n1) ++ z :: (n2 ++ [a]) := by simp
theorem ge_B_ed : ge_ed (c :: ((n1 ++ z :: n2) ++ [a])) = ge_ed (c :: (n1 ++ [z])) ++ ge_ed (z :: (n2 ++ [a])) := by
  rw [ge_B_t, ge_ed_app]
  rfl
theorem ge_B_nd (H : ge_B a b c z n1 n2) : b ∉ c :: ((n1 ++ z :: n2) ++ [a]) ∧ (c :: n1).Nodup ∧ (z :: (n2 ++ [a])).Nodup ∧ ∀ x ∈ c :: n1, ∀ y ∈ z :: (n2 ++ [a]), x ≠ y := by
  have hn := H.2.1.1
  obtain ⟨h1, h2⟩ := List.nodup_cons.mp hn
  rw [ge_B_t] at h2
  obtain ⟨h3, h4, h5⟩ := List.nodup_append.mp h2
  exact ⟨h1, h3, h4, h5⟩
theorem ge_B_num (H : ge_B a b c z n1 n2) : 0 < ge_o a b z ∧ 0 < ge_o b c z ∧ 0 ≤ ge_o c a z ∧ ge_o a b z + ge_o b c z + ge_o c a z = ge_o a b c := by
  obtain ⟨h1, h2, h3, h4⟩ := ge_B_nd H
  obtain ⟨hF, hs, hl, hz, hm⟩ := H
  have hzl : z ∈ b :: c :: ((n1 ++ z :: n2) ++ [a]) := by simp
  have zb : z ≠ b := fun q => h1 (by rw [← q]; simp)
  have za : z ≠ a := fun q => (List.nodup_cons.mp h3).1 (by rw [q]; simp)
  have zc : z ≠ c := fun q => h4 c List.mem_cons_self z List.mem_cons_self q.symm
  have hab : (a, b) ∈ ge_E (b :: c :: ((n1 ++ z :: n2) ++ [a])) := by rw [ge_E_ear]; simp
  have hbc : (b, c) ∈ ge_E (b :: c :: ((n1 ++ z :: n2) ++ [a])) := by rw [ge_E_ear]; simp
  refine ⟨?_, ?_, hz.2.2, ge_b0 a b c z⟩
  · rcases Int.lt_or_eq_of_le hz.1 with q | q
    · exact q
    · exact ((hs.2.1 z hzl _ hab (ge_in_on hF hz q.symm)).elim za zb).elim
  · rcases Int.lt_or_eq_of_le hz.2.1 with q | q
    · exact q
    · exact ((hs.2.1 z hzl _ hbc (ge_in_on (by rw [ge_o_cyc]; exact hF) (ge_in_cyc hz) q.symm)).elim zb zc).elim
theorem ge_B_U (H : ge_B a b c z n1 n2) {e : GPt × GPt} (he : e ∈ ge_ed (c :: ((n1 ++ z :: n2) ++ [a]))) {m : Int} (hm : 0 < m) {r : GPt} (hr : ge_on (ge_s m e.1) (ge_s m e.2) r) (rT : ge_in (ge_s m a) (ge_s m b) (ge_s m c) r) : ge_o (ge_s m c) (ge_s m a) r ≤ m * m * ge_o c a z := by
  obtain ⟨z1, z2, z3, z4⟩ := ge_B_num H
  obtain ⟨h1, h2, h3, h4⟩ := ge_B_nd H
  obtain ⟨hF, hs, hl, hz, hmax⟩ := H
  have hE : e ∈ ge_E (b :: c :: ((n1 ++ z :: n2) ++ [a])) := by rw [ge_E_ear]; exact List.mem_cons_of_mem _ (List.mem_append_left _ he)
  have hab : (a, b) ∈ ge_E (b :: c :: ((n1 ++ z :: n2) ++ [a])) := by rw [ge_E_ear]; simp
  have hbc : (b, c) ∈ ge_E (b :: c :: ((n1 ++ z :: n2) ++ [a])) := by rw [ge_E_ear]; simp
  have me := ge_ed_mem _ e he
  have hG : 0 < ge_o a b z + ge_o b c z := by omega
  have e0 : ge_o c a b = ge_o a b c := by rw [ge_o_cyc, ge_o_cyc]
  have hF' : ge_o c a b = ge_o c a z + (ge_o a b z + ge_o b c z) := by omega
  refine ge_U z3 hG hF' (ge_side_up z3 hG hF' (ge_ed_ne _ (List.nodup_cons.mp hs.1).2 e he) (hmax _ me.1) (hmax _ me.2) (hs.2.2 e hE _ hab) (hs.2.2 e hE _ hbc) (hs.2.1 a (by simp) e hE) (fun q => ?_) (hs.2.1 c (by simp) e hE)) hm hr rT
  rcases hs.2.1 b List.mem_cons_self e hE q with r | r
  · exact h1 (r ▸ me.1)
  · exact h1 (r ▸ me.2)
theorem ge_B_free (H : ge_B a b c z n1 n2) {e : GPt × GPt} (he : e ∈ ge_ed (c :: ((n1 ++ z :: n2) ++ [a]))) {p q : GPt} (hp : ge_in a b c p) (hp3 : ge_o c a z < ge_o c a p) (hq : ge_in a b c q) (hq3 : ge_o c a z < ge_o c a q) : ¬ ge_meet e.1 e.2 p q := by
  intro h
  obtain ⟨m, r, hm, h1, h2⟩ := ge_meet_pt h
  have mm := ge_mm hm
  have g1 := ge_B_U H he hm h1 (ge_on_in h2 ((ge_in_s hm _ _ _ _).mpr hp) ((ge_in_s hm _ _ _ _).mpr hq))
  have g2 : m * m * ge_o c a z < ge_o (ge_s m c) (ge_s m a) r := ge_on_gt h2 (by rw [ge_o_s]; exact (ge_sg_lt mm).mpr hp3) (by rw [ge_o_s]; exact (ge_sg_lt mm).mpr hq3)
  omega
theorem ge_B_b (H : ge_B a b c z n1 n2) : ge_in a b c b ∧ ge_o c a z < ge_o c a b := by
  obtain ⟨z1, z2, z3, z4⟩ := ge_B_num H
  have e1 : ge_o a b b = 0 := by unfold ge_o; grind
  have e2 : ge_o b c b = 0 := by unfold ge_o; grind
  have e3 : ge_o c a b = ge_o a b c := by rw [ge_o_cyc, ge_o_cyc]
  exact ⟨⟨by omega, by omega, by omega⟩, by omega⟩
/-- on the diagonal short of z -/
theorem ge_B_bz (H : ge_B a b c z n1 n2) {r : GPt} {i j : Int} (w : ge_wt b z r i j) (hi : 0 < i) : ge_in a b c r ∧ ge_o c a z < ge_o c a r := by
  have hb := ge_B_b H
  refine ⟨ge_wt_in w hb.1 H.2.2.2.1, ?_⟩
  have e := ge_wt_o w c a
  have k1 := Int.mul_pos hi (show 0 < ge_o c a b - ge_o c a z by omega)
  have : 0 < (i + j) * (ge_o c a r - ge_o c a z) := by grind
  have := ge_pos w.2.2.1 this
  omega
theorem ge_B_ne (H : ge_B a b c z n1 n2) : b ≠ z := fun q => (ge_B_nd H).1 (by rw [q]; simp)
theorem ge_B_V (H : ge_B a b c z n1 n2) {w : GPt} (hw : w ∈ b :: c :: ((n1 ++ z :: n2) ++ [a])) (ho : ge_on b z w) : w = b ∨ w = z := by
  rcases List.mem_cons.mp hw with q | q
  · exact Or.inl q
  · obtain ⟨i, j, wt⟩ := ge_on_wt (ge_B_ne H) ho
    by_cases hi : i = 0
    · subst hi
      exact Or.inr (ge_wt_0 (ge_wt_swap wt))
    · have := ge_B_bz H wt (by have := wt.1; omega)
      have := H.2.2.2.2 w q this.1
      omega
theorem ge_B_X1 (H : ge_B a b c z n1 n2) {e : GPt × GPt} (he : e ∈ ge_ed (c :: ((n1 ++ z :: n2) ++ [a]))) : ¬ ge_x e.1 e.2 b z := by
  intro q
  obtain ⟨m, r, i, j, i', j', hm, w, w', hi, -⟩ := ge_x_pt q
  have g := ge_B_bz (ge_B_s hm H) w hi
  have := ge_B_U H he hm (ge_wt_on w') g.1
  have g2 := g.2
  rw [ge_o_s] at g2
  omega
theorem ge_B_X (H : ge_B a b c z n1 n2) {u v : GPt} (h : ge_adj (b :: c :: ((n1 ++ z :: n2) ++ [a])) u v) : ¬ ge_x u v b z := by
  have key : ∀ e ∈ ge_E (b :: c :: ((n1 ++ z :: n2) ++ [a])), ¬ ge_x e.1 e.2 b z := fun e he q => by
    rw [ge_E_ear] at he
    rcases List.mem_cons.mp he with r | r
    · subst r
      have : ge_o b c b = 0 := by unfold ge_o; grind
      have q1 : ge_o b c b * ge_o b c z < 0 := q.1
      rw [this, Int.zero_mul] at q1
      omega
    · rcases List.mem_append.mp r with r | r
      · exact ge_B_X1 H r q
      · rw [List.mem_singleton.mp r] at q
        have : ge_o a b b = 0 := by unfold ge_o; grind
        have q1 : ge_o a b b * ge_o a b z < 0 := q.1
        rw [this, Int.zero_mul] at q1
        omega
  rcases h with h | h
  · exact key _ h
  · exact fun q => key _ h (ge_x_swap q)
end CaseB
end
section
/-! the parts along the diagonal, and the step over them -/
section CaseB
variable {a b c z : GPt} {n1 n2 : List GPt}
theorem ge_B_E1 {e : GPt × GPt} (h : e ∈ ge_E (b :: c :: (n1 ++ [z]))) : e ∈ ge_E (b :: c :: ((n1 ++ z :: n2) ++ [a])) ∨ e = (z, b) := by
  rw [ge_E_ear] at h
  rw [ge_E_ear, ge_B_ed]
  rcases List.mem_cons.mp h with q | q
  · exact Or.inl (by rw [q]; exact List.mem_cons_self)
  · rcases List.mem_append.mp q with q | q
    · exact Or.inl (List.mem_cons_of_mem _ (List.mem_append_left _ (List.mem_append_left _ q)))
    · exact Or.inr (List.mem_singleton.mp q)
theorem ge_B_E2 {e : GPt × GPt} (h : e ∈ ge_E (b :: z :: (n2 ++ [a]))) : e ∈ ge_E (b :: c :: ((n1 ++ z :: n2) ++ [a])) ∨ e = (b, z) := by
  rw [ge_E_ear] at h
  rw [ge_E_ear, ge_B_ed]
  rcases List.mem_cons.mp h with q | q
  · exact Or.inr q
  · rcases List.mem_append.mp q with q | q
    · exact Or.inl (List.mem_cons_of_mem _ (List.mem_append_left _ (List.mem_append_right _ q)))
    · exact Or.inl (by rw [List.mem_singleton.mp q]; simp)
theorem ge_B_El {e : GPt × GPt} (h : e ∈ ge_E (b :: c :: ((n1 ++ z :: n2) ++ [a]))) : e ∈ ge_E (b :: c :: (n1 ++ [z])) ∨ e ∈ ge_E (b :: z :: (n2 ++ [a])) := by
  rw [ge_E_ear, ge_B_ed] at h
  rw [ge_E_ear, ge_E_ear]
  rcases List.mem_cons.mp h with q | q
  · exact Or.inl (by rw [q]; exact List.mem_cons_self)
  · rcases List.mem_append.mp q with q | q
    · rcases List.mem_append.mp q with q | q
      · exact Or.inl (List.mem_cons_of_mem _ (List.mem_append_left _ q))
      · exact Or.inr (List.mem_cons_of_mem _ (List.mem_append_left _ q))
    · exact Or.inr (by rw [List.mem_singleton.mp q]; simp)
theorem ge_B_par (p : GPt) : ge_par (b :: c :: ((n1 ++ z :: n2) ++ [a])) p = (ge_par (b :: c :: (n1 ++ [z])) p != ge_par (b :: z :: (n2 ++ [a])) p) := by
  have h1 : ge_par (b :: c :: ((n1 ++ z :: n2) ++ [a])) p = (ge_pp (b :: c :: (n1 ++ [z])) p != ge_pp (z :: (n2 ++ [a, b])) p) := by
    show ge_pp (b :: (c :: ((n1 ++ z :: n2) ++ [a])) ++ [b]) p = _
    rw [show b :: (c :: ((n1 ++ z :: n2) ++ [a])) ++ [b] = (b :: c :: n1) ++ z :: (n2 ++ [a, b]) by simp, ge_pp_app]
    rfl
  have h2 : ge_par (b :: c :: (n1 ++ [z])) p = (ge_pp (b :: c :: (n1 ++ [z])) p != ge_cs z b p) := by
    show ge_pp (b :: (c :: (n1 ++ [z])) ++ [b]) p = _
    rw [show b :: (c :: (n1 ++ [z])) ++ [b] = (b :: c :: n1) ++ z :: [b] by simp, ge_pp_app]
    show (ge_pp (b :: c :: (n1 ++ [z])) p != (ge_cs z b p != false)) = _
    cases ge_cs z b p <;> cases ge_pp (b :: c :: (n1 ++ [z])) p <;> rfl
  have h3 : ge_par (b :: z :: (n2 ++ [a])) p = (ge_cs b z p != ge_pp (z :: (n2 ++ [a, b])) p) := by
    show ge_pp (b :: (z :: (n2 ++ [a])) ++ [b]) p = _
    rw [show b :: (z :: (n2 ++ [a])) ++ [b] = b :: z :: (n2 ++ [a, b]) by simp]
    rfl
  rw [h1, h2, h3, ge_cs_comm z b]
  cases ge_cs b z p <;> cases ge_pp (b :: c :: (n1 ++ [z])) p <;> cases ge_pp (z :: (n2 ++ [a, b])) p <;> rfl
/-- higher than z the paths count nothing -/
theorem ge_B_L (H : ge_B a b c z n1 n2) {p : GPt} (hp : ge_in a b c p) (hp3 : ge_o c a z < ge_o c a p) {x y : GPt} {m : List GPt} (hsub : ∀ e ∈ ge_ed (x :: (m ++ [y])), e ∈ ge_ed (c :: ((n1 ++ z :: n2) ++ [a]))) (hin : ∀ w ∈ x :: (m ++ [y]), w ∈ c :: ((n1 ++ z :: n2) ++ [a])) (hx : ge_o c a x ≤ ge_o c a z) (hy : ge_o c a y ≤ ge_o c a z) : ge_par (x :: (m ++ [y])) p = false := by
  have hb := ge_B_b H
  rw [← ge_par_low (b := b) (l := x :: (m ++ [y])) (fun v hv => H.2.2.1 v (hin v hv))]
  refine ge_par_mv (fun e he => ?_)
  rw [ge_E_cut] at he
  rcases List.mem_append.mp he with q | q
  · exact ge_B_free H (hsub e q) hp hp3 hb.1 hb.2
  · rw [List.mem_singleton.mp q]
    exact ge_low_free hy hx hp3 hb.2
theorem ge_B_0 (H : ge_B a b c z n1 n2) : ge_o c a c ≤ ge_o c a z ∧ ge_o c a a ≤ ge_o c a z := by
  have h3 := (ge_B_num H).2.2.1
  have e1 : ge_o c a c = 0 := by unfold ge_o; grind
  have e2 : ge_o c a a = 0 := by unfold ge_o; grind
  omega
theorem ge_B_L0 (H : ge_B a b c z n1 n2) {p : GPt} (hp : ge_in a b c p) (hp3 : ge_o c a z < ge_o c a p) : ge_par (c :: ((n1 ++ z :: n2) ++ [a])) p = false :=
  ge_B_L H hp hp3 (fun _ h => h) (fun _ h => h) (ge_B_0 H).1 (ge_B_0 H).2
theorem ge_B_L1 (H : ge_B a b c z n1 n2) {p : GPt} (hp : ge_in a b c p) (hp3 : ge_o c a z < ge_o c a p) : ge_par (c :: (n1 ++ [z])) p = false :=
  ge_B_L H hp hp3 (fun e h => by rw [ge_B_ed]; exact List.mem_append_left _ h) (fun w h => by simp at h ⊢; grind) (ge_B_0 H).1 (Int.le_refl _)
theorem ge_B_L2 (H : ge_B a b c z n1 n2) {p : GPt} (hp : ge_in a b c p) (hp3 : ge_o c a z < ge_o c a p) : ge_par (z :: (n2 ++ [a])) p = false :=
  ge_B_L H hp hp3 (fun e h => by rw [ge_B_ed]; exact List.mem_append_right _ h) (fun w h => by simp at h ⊢; grind) (Int.le_refl _) (ge_B_0 H).2
/-- the path to z keeps off ab, the path from z off bc -/
theorem ge_B_ab (H : ge_B a b c z n1 n2) {e : GPt × GPt} (he : e ∈ ge_ed (c :: (n1 ++ [z]))) : ¬ ge_meet e.1 e.2 a b := by
  obtain ⟨h1, h2, h3, h4⟩ := ge_B_nd H
  have me := ge_ed_mem _ e he
  have nn : ∀ w ∈ c :: (n1 ++ [z]), w ≠ a ∧ w ≠ b := fun w hw => by
    refine ⟨fun q => ?_, fun q => h1 ?_⟩
    · rw [show c :: (n1 ++ [z]) = (c :: n1) ++ [z] by simp] at hw
      rcases List.mem_append.mp hw with r | r
      · exact h4 w r a (by simp) q
      · have : z = a := by rw [← q, List.mem_singleton.mp r]
        exact (List.nodup_cons.mp h3).1 (by rw [this]; simp)
    · rw [← q]; simp at hw ⊢; grind
  refine ge_disj H.2.1 (Or.inl ?_) (Or.inl ?_) (nn _ me.1).1 (nn _ me.1).2 (nn _ me.2).1 (nn _ me.2).2
  · rw [ge_E_ear, ge_B_ed]
    exact List.mem_cons_of_mem _ (List.mem_append_left _ (List.mem_append_left _ he))
  · rw [ge_E_ear]; simp
theorem ge_B_bc (H : ge_B a b c z n1 n2) {e : GPt × GPt} (he : e ∈ ge_ed (z :: (n2 ++ [a]))) : ¬ ge_meet e.1 e.2 b c := by
  obtain ⟨h1, h2, h3, h4⟩ := ge_B_nd H
  have me := ge_ed_mem _ e he
  have nn : ∀ w ∈ z :: (n2 ++ [a]), w ≠ b ∧ w ≠ c := fun w hw => by
    refine ⟨fun q => h1 ?_, fun q => h4 c List.mem_cons_self w hw q.symm⟩
    rw [← q]; simp at hw ⊢; grind
  refine ge_disj H.2.1 (Or.inl ?_) (Or.inl ?_) (nn _ me.1).1 (nn _ me.1).2 (nn _ me.2).1 (nn _ me.2).2
  · rw [ge_E_ear, ge_B_ed]
    exact List.mem_cons_of_mem _ (List.mem_append_left _ (List.mem_append_right _ he))
  · rw [ge_E_ear]; simp
theorem ge_false_of {x : Bool} {P : Prop} (h : x = true ↔ P) (n : ¬ P) : x = false := by
  cases x with
  | false => rfl
  | true => exact absurd (h.mp rfl) n
/-- beside ab, near b, the part to c counts nothing -/
theorem ge_B_C1a (H : ge_B a b c z n1 n2) : ge_par (b :: c :: (n1 ++ [z])) a = false := by
  obtain ⟨z1, z2, z3, z4⟩ := ge_B_num H
  obtain ⟨F, hFe⟩ : ∃ F, F = ge_o a b c := ⟨_, rfl⟩
  have hF : 0 < F := by rw [hFe]; exact H.1
  obtain ⟨M, hM⟩ : ∃ M, M = F + 1 := ⟨_, rfl⟩
  have hM0 : 0 < M := by omega
  obtain ⟨p, hp⟩ : ∃ p : GPt, p = (F * b.1 + a.1, F * b.2 + a.2) := ⟨_, rfl⟩
  have f : ∀ u v : GPt, ge_o (ge_s M u) (ge_s M v) p = M * (F * ge_o u v b + ge_o u v a) := fun u v => by
    rw [hp, hM]; unfold ge_s ge_o; grind
  have HS := ge_B_s hM0 H
  have zz : ∀ u v : GPt, ge_o u v u = 0 ∧ ge_o u v v = 0 := fun u v => ⟨by unfold ge_o; grind, by unfold ge_o; grind⟩
  have e3 : ge_o c a b = F := by rw [hFe, ge_o_cyc, ge_o_cyc]
  have e2 : ge_o b c a = F := by rw [hFe, ge_o_cyc]
  have p1 : ge_o (ge_s M a) (ge_s M b) p = 0 := by rw [f, (zz a b).2, (zz a b).1]; omega
  have p2 : ge_o (ge_s M b) (ge_s M c) p = M * F := by rw [f, (zz b c).1, e2]; simp
  have p3 : ge_o (ge_s M c) (ge_s M a) p = M * (F * F) := by rw [f, (zz c a).2, e3]; simp
  have mf : 0 < M * F := Int.mul_pos hM0 hF
  have mff : 0 < M * (F * F) := Int.mul_pos hM0 (Int.mul_pos hF hF)
  have pin : ge_in (ge_s M a) (ge_s M b) (ge_s M c) p := ⟨by omega, by omega, by omega⟩
  have hh : ge_o c a z ≤ F - 1 := by omega
  have h3 : ge_o (ge_s M c) (ge_s M a) (ge_s M z) < ge_o (ge_s M c) (ge_s M a) p := by
    rw [ge_o_s, p3, Int.mul_assoc]
    refine (ge_sg_lt hM0).mpr ?_
    have : M * ge_o c a z ≤ M * (F - 1) := (ge_sg_le hM0).mpr hh
    have : M * (F - 1) = F * F - 1 := by rw [hM]; grind
    omega
  have a1 : ge_o z b a = -ge_o a b z := by unfold ge_o; grind
  have a2 : ge_o c z b = ge_o b c z := by unfold ge_o; grind
  have a3 : ge_o c z a = -ge_o c a z := by unfold ge_o; grind
  have q1 : ge_o (ge_s M z) (ge_s M b) p = M * -ge_o a b z := by rw [f, (zz z b).2, a1]; simp
  have q1n : ge_o (ge_s M z) (ge_s M b) p < 0 := by
    rw [q1, Int.mul_neg]
    have := Int.mul_pos hM0 z1
    omega
  have q3 : 0 < ge_o (ge_s M c) (ge_s M z) p := by
    rw [f, a2, a3]
    refine Int.mul_pos hM0 ?_
    have : F * 1 ≤ F * ge_o b c z := (ge_sg_le hF).mpr (by omega)
    omega
  have t0 : ge_tp (ge_s M z) (ge_s M b) (ge_s M c) p = false := by
    refine ge_false_of (ge_tri ?_ (fun q => ?_) (fun q => ?_) (fun q => ?_)) (fun q => ?_)
    · rw [ge_o_s]
      have : ge_o z b c = ge_o b c z := by unfold ge_o; grind
      rw [this]
      exact Int.mul_pos (ge_mm hM0) z2
    · have := q.1; omega
    · have := q.1; omega
    · have := q.1; omega
    · have := q.1; omega
  have s0 : ge_par (ge_s M b :: ge_s M c :: (ge_S M n1 ++ [ge_s M z])) p = false := by
    rw [ge_par_ear, t0, ge_B_L1 HS pin h3]; rfl
  have s1 : ge_par (ge_s M b :: ge_s M c :: (ge_S M n1 ++ [ge_s M z])) p = ge_par (ge_s M b :: ge_s M c :: (ge_S M n1 ++ [ge_s M z])) (ge_s M a) := by
    refine ge_par_mv (fun e he => ?_)
    rw [ge_E_ear] at he
    have hab : ge_s M a ≠ ge_s M b := fun q => (ge_B_nd H).1 (by rw [← ge_s_inj hM0 q]; simp)
    rcases List.mem_cons.mp he with r | r
    · rw [r]
      exact ge_free_line (u := ge_s M b) (v := ge_s M c) (by omega) (by rw [ge_o_s, e2]; exact Int.mul_pos (ge_mm hM0) hF)
    · rcases List.mem_append.mp r with r | r
      · intro q
        refine ge_B_ab HS r (ge_meet_part ?_ hab ?_ (ge_on_l _ _) q)
        · refine ge_ed_ne _ ?_ e r
          have nd := ge_B_nd HS
          rw [show ge_s M c :: (ge_S M n1 ++ [ge_s M z]) = (ge_s M c :: ge_S M n1) ++ [ge_s M z] by simp]
          exact List.nodup_append.mpr ⟨nd.2.1, by simp, fun x hx y hy => nd.2.2.2 x hx y (by rw [List.mem_singleton.mp hy]; exact List.mem_cons_self)⟩
        · refine ge_wt_on (i := 1) (j := F) ⟨by decide, by omega, by omega, ?_, ?_⟩
          · rw [hp]; unfold ge_s; grind
          · rw [hp]; unfold ge_s; grind
      · rw [List.mem_singleton.mp r]
        intro q
        refine ge_free_line (u := ge_s M b) (v := ge_s M z) ?_ ?_ (ge_meet_flip q)
        · rw [ge_o_swap]; omega
        · rw [ge_o_swap, ge_o_s, a1]
          have := Int.mul_pos (ge_mm hM0) z1
          rw [Int.mul_neg]; omega
  rw [s0] at s1
  rw [← ge_par_s hM0, ge_S_ear]
  exact s1.symm
theorem ge_B_C2c (H : ge_B a b c z n1 n2) : ge_par (b :: z :: (n2 ++ [a])) c = false := by
  obtain ⟨z1, z2, z3, z4⟩ := ge_B_num H
  obtain ⟨F, hFe⟩ : ∃ F, F = ge_o a b c := ⟨_, rfl⟩
  have hF : 0 < F := by rw [hFe]; exact H.1
  obtain ⟨M, hM⟩ : ∃ M, M = F + 1 := ⟨_, rfl⟩
  have hM0 : 0 < M := by omega
  obtain ⟨p, hp⟩ : ∃ p : GPt, p = (F * b.1 + c.1, F * b.2 + c.2) := ⟨_, rfl⟩
  have f : ∀ u v : GPt, ge_o (ge_s M u) (ge_s M v) p = M * (F * ge_o u v b + ge_o u v c) := fun u v => by
    rw [hp, hM]; unfold ge_s ge_o; grind
  have HS := ge_B_s hM0 H
  have zz : ∀ u v : GPt, ge_o u v u = 0 ∧ ge_o u v v = 0 := fun u v => ⟨by unfold ge_o; grind, by unfold ge_o; grind⟩
  have e3 : ge_o c a b = F := by rw [hFe, ge_o_cyc, ge_o_cyc]
  have p1 : ge_o (ge_s M a) (ge_s M b) p = M * F := by rw [f, (zz a b).2, ← hFe]; simp
  have p2 : ge_o (ge_s M b) (ge_s M c) p = 0 := by rw [f, (zz b c).1, (zz b c).2]; omega
  have p3 : ge_o (ge_s M c) (ge_s M a) p = M * (F * F) := by rw [f, (zz c a).1, e3]; simp
  have mf : 0 < M * F := Int.mul_pos hM0 hF
  have mff : 0 < M * (F * F) := Int.mul_pos hM0 (Int.mul_pos hF hF)
  have pin : ge_in (ge_s M a) (ge_s M b) (ge_s M c) p := ⟨by omega, by omega, by omega⟩
  have hh : ge_o c a z ≤ F - 1 := by omega
  have h3 : ge_o (ge_s M c) (ge_s M a) (ge_s M z) < ge_o (ge_s M c) (ge_s M a) p := by
    rw [ge_o_s, p3, Int.mul_assoc]
    refine (ge_sg_lt hM0).mpr ?_
    have : M * ge_o c a z ≤ M * (F - 1) := (ge_sg_le hM0).mpr hh
    have : M * (F - 1) = F * F - 1 := by rw [hM]; grind
    omega
  have a1 : ge_o b z c = -ge_o b c z := by unfold ge_o; grind
  have a2 : ge_o z a b = ge_o a b z := by unfold ge_o; grind
  have a3 : ge_o z a c = -ge_o c a z := by unfold ge_o; grind
  have q1 : ge_o (ge_s M b) (ge_s M z) p = M * -ge_o b c z := by rw [f, (zz b z).1, a1]; simp
  have q1n : ge_o (ge_s M b) (ge_s M z) p < 0 := by
    rw [q1, Int.mul_neg]
    have := Int.mul_pos hM0 z2
    omega
  have q3 : 0 < ge_o (ge_s M z) (ge_s M a) p := by
    rw [f, a2, a3]
    refine Int.mul_pos hM0 ?_
    have : F * 1 ≤ F * ge_o a b z := (ge_sg_le hF).mpr (by omega)
    omega
  have t0 : ge_tp (ge_s M a) (ge_s M b) (ge_s M z) p = false := by
    refine ge_false_of (ge_tri ?_ (fun q => ?_) (fun q => ?_) (fun q => ?_)) (fun q => ?_)
    · rw [ge_o_s]
      exact Int.mul_pos (ge_mm hM0) z1
    · have := q.1; omega
    · have := q.1; omega
    · have := q.1; omega
    · have := q.2.1; omega
  have s0 : ge_par (ge_s M b :: ge_s M z :: (ge_S M n2 ++ [ge_s M a])) p = false := by
    rw [ge_par_ear, t0, ge_B_L2 HS pin h3]; rfl
  have s1 : ge_par (ge_s M b :: ge_s M z :: (ge_S M n2 ++ [ge_s M a])) p = ge_par (ge_s M b :: ge_s M z :: (ge_S M n2 ++ [ge_s M a])) (ge_s M c) := by
    refine ge_par_mv (fun e he => ?_)
    rw [ge_E_ear] at he
    have hbc : ge_s M b ≠ ge_s M c := fun q => (ge_B_nd H).1 (by rw [ge_s_inj hM0 q]; simp)
    rcases List.mem_cons.mp he with r | r
    · rw [r]
      intro q
      refine ge_free_line (u := ge_s M z) (v := ge_s M b) ?_ ?_ (ge_meet_flip q)
      · rw [ge_o_swap]; omega
      · rw [ge_o_swap, ge_o_s, a1]
        have := Int.mul_pos (ge_mm hM0) z2
        rw [Int.mul_neg]; omega
    · rcases List.mem_append.mp r with r | r
      · intro q
        refine ge_B_bc HS r (ge_meet_part ?_ hbc ?_ (ge_on_r _ _) q)
        · exact ge_ed_ne _ (ge_B_nd HS).2.2.1 e r
        · refine ge_wt_on (i := F) (j := 1) ⟨by omega, by decide, by omega, ?_, ?_⟩
          · rw [hp]; unfold ge_s; grind
          · rw [hp]; unfold ge_s; grind
      · rw [List.mem_singleton.mp r]
        exact ge_free_line (u := ge_s M a) (v := ge_s M b) (by omega) (by rw [ge_o_s, ← hFe]; exact Int.mul_pos (ge_mm hM0) hF)
  rw [s0] at s1
  rw [← ge_par_s hM0, ge_S_ear]
  exact s1.symm
end CaseB
end
section
/-! every simple polygon has, for each edge, a good ear that isn't one of its ends -/
section CaseB
variable {a b c z : GPt} {n1 n2 : List GPt}
theorem ge_B_adj1 {u v : GPt} (h : ge_adj (b :: c :: (n1 ++ [z])) u v) : ge_adj (b :: c :: ((n1 ++ z :: n2) ++ [a])) u v ∨ (u = b ∧ v = z) ∨ (u = z ∧ v = b) := by
  rcases h with h | h
  · rcases ge_B_E1 (a := a) (n2 := n2) h with q | q
    · exact Or.inl (Or.inl q)
    · exact Or.inr (Or.inr (Prod.mk.inj q))
  · rcases ge_B_E1 (a := a) (n2 := n2) h with q | q
    · exact Or.inl (Or.inr q)
    · exact Or.inr (Or.inl (Prod.mk.inj q).symm)
theorem ge_B_adj2 {u v : GPt} (h : ge_adj (b :: z :: (n2 ++ [a])) u v) : ge_adj (b :: c :: ((n1 ++ z :: n2) ++ [a])) u v ∨ (u = b ∧ v = z) ∨ (u = z ∧ v = b) := by
  rcases h with h | h
  · rcases ge_B_E2 (c := c) (n1 := n1) h with q | q
    · exact Or.inl (Or.inl q)
    · exact Or.inr (Or.inl (Prod.mk.inj q))
  · rcases ge_B_E2 (c := c) (n1 := n1) h with q | q
    · exact Or.inl (Or.inr q)
    · exact Or.inr (Or.inr (Prod.mk.inj q).symm)
theorem ge_B_adjl {u v : GPt} (h : ge_adj (b :: c :: ((n1 ++ z :: n2) ++ [a])) u v) : ge_adj (b :: c :: (n1 ++ [z])) u v ∨ ge_adj (b :: z :: (n2 ++ [a])) u v := by
  rcases h with h | h
  · exact (ge_B_El h).imp Or.inl Or.inl
  · exact (ge_B_El h).imp Or.inr Or.inr
theorem ge_B_sub1 : ∀ w ∈ b :: c :: (n1 ++ [z]), w ∈ b :: c :: ((n1 ++ z :: n2) ++ [a]) := fun w h => by simp at h ⊢; grind
theorem ge_B_sub2 : ∀ w ∈ b :: z :: (n2 ++ [a]), w ∈ b :: c :: ((n1 ++ z :: n2) ++ [a]) := fun w h => by simp at h ⊢; grind
theorem ge_B_nd1 (H : ge_B a b c z n1 n2) : (b :: c :: (n1 ++ [z])).Nodup := by
  have nd := ge_B_nd H
  refine List.nodup_cons.mpr ⟨fun q => nd.1 (by simp at q ⊢; grind), ?_⟩
  rw [show c :: (n1 ++ [z]) = (c :: n1) ++ [z] by simp]
  exact List.nodup_append.mpr ⟨nd.2.1, by simp, fun x hx y hy => nd.2.2.2 x hx y (by rw [List.mem_singleton.mp hy]; exact List.mem_cons_self)⟩
theorem ge_B_nd2 (H : ge_B a b c z n1 n2) : (b :: z :: (n2 ++ [a])).Nodup := by
  have nd := ge_B_nd H
  exact List.nodup_cons.mpr ⟨fun q => nd.1 (by simp at q ⊢; grind), nd.2.2.1⟩
theorem ge_B_s1 (H : ge_B a b c z n1 n2) : ge_simple (b :: c :: (n1 ++ [z])) := ge_part_simple (b := b) (z := z) H.2.1 (ge_B_nd1 H) ge_B_sub1 (fun _ _ h => ge_B_adj1 h) (fun _ hw ho => ge_B_V H hw ho) (fun _ _ h => ge_B_X H h)
theorem ge_B_s2 (H : ge_B a b c z n1 n2) : ge_simple (b :: z :: (n2 ++ [a])) := ge_part_simple (b := b) (z := z) H.2.1 (ge_B_nd2 H) ge_B_sub2 (fun _ _ h => ge_B_adj2 h) (fun _ hw ho => ge_B_V H hw ho) (fun _ _ h => ge_B_X H h)
/-- an edge of the polygon whose ends aren't in a part doesn't meet the part's edges -/
theorem ge_B_far (H : ge_B a b c z n1 n2) {u v x y : GPt} (h : ge_adj (b :: c :: ((n1 ++ z :: n2) ++ [a])) u v) (g : ge_adj (b :: c :: ((n1 ++ z :: n2) ++ [a])) x y ∨ (x = b ∧ y = z) ∨ (x = z ∧ y = b)) (n1' : u ≠ x) (n2' : u ≠ y) (n3 : v ≠ x) (n4 : v ≠ y) : ¬ ge_meet x y u v := by
  have mu := ge_adj_mem h
  have bz : (u ≠ b ∧ u ≠ z ∧ v ≠ b ∧ v ≠ z) → ¬ ge_meet b z u v := fun ⟨q1, q2, q3, q4⟩ m => by
    rcases m with m | m | m | m | m
    · exact (ge_B_V H mu.1 m).elim q1 q2
    · exact (ge_B_V H mu.2 m).elim q3 q4
    · rcases ge_adj_V H.2.1 List.mem_cons_self h m with r | r
      · exact q1 r.symm
      · exact q3 r.symm
    · rcases ge_adj_V H.2.1 (by simp) h m with r | r
      · exact q2 r.symm
      · exact q4 r.symm
    · exact ge_B_X H h (ge_x_symm m)
  rcases g with g | ⟨g1, g2⟩ | ⟨g1, g2⟩
  · exact fun m => ge_disj H.2.1 h g n1' n2' n3 n4 (ge_meet_symm m)
  · subst g1; subst g2
    exact bz ⟨n1', n2', n3, n4⟩
  · subst g1; subst g2
    exact fun m => bz ⟨n2', n1', n4, n3⟩ (ge_meet_flip m)
theorem ge_B_sep (H : ge_B a b c z n1 n2) {w : GPt} (h1 : w ∈ b :: c :: (n1 ++ [z])) (h2 : w ∈ b :: z :: (n2 ++ [a])) : w = b ∨ w = z := by
  have nd := ge_B_nd H
  rcases List.mem_cons.mp h2 with q | q
  · exact Or.inl q
  · rcases List.mem_cons.mp h1 with r | r
    · exact Or.inl r
    · rw [show c :: (n1 ++ [z]) = (c :: n1) ++ [z] by simp] at r
      rcases List.mem_append.mp r with r | r
      · exact absurd rfl (nd.2.2.2 w r w q)
      · exact Or.inr (List.mem_singleton.mp r)
theorem ge_B_C1 (H : ge_B a b c z n1 n2) : ∀ w ∈ b :: z :: (n2 ++ [a]), w ≠ b → w ≠ z → ge_par (b :: c :: (n1 ++ [z])) w = false := by
  intro w hw wb wz
  have nd := ge_B_nd H
  have hw' : w ∈ n2 ++ [a] := by simp at hw ⊢; grind
  rw [← ge_B_C1a H]
  refine ge_chain2 (fun p => ge_par (b :: c :: (n1 ++ [z])) p) n2 a (fun e he => ?_) w hw'
  have me := ge_ed_mem _ e he
  have out : ∀ v ∈ n2 ++ [a], v ∉ b :: c :: (n1 ++ [z]) := fun v hv q => by
    rcases ge_B_sep H q (List.mem_cons_of_mem _ (List.mem_cons_of_mem _ hv)) with r | r
    · exact nd.1 (by rw [← r]; simp at hv ⊢; grind)
    · exact (List.nodup_cons.mp nd.2.2.1).1 (by rw [← r]; exact hv)
  have hadj : ge_adj (b :: c :: ((n1 ++ z :: n2) ++ [a])) e.1 e.2 := Or.inl (by
    rw [ge_E_ear, ge_B_ed]
    exact List.mem_cons_of_mem _ (List.mem_append_left _ (List.mem_append_right _ (ge_ed_tl he))))
  refine ge_par_mv (fun g hg => ?_)
  have mg := ge_E_mem hg
  exact ge_B_far H hadj (ge_B_adj1 (Or.inl hg)) (fun q => out _ me.1 (by rw [q]; exact mg.1)) (fun q => out _ me.1 (by rw [q]; exact mg.2)) (fun q => out _ me.2 (by rw [q]; exact mg.1)) (fun q => out _ me.2 (by rw [q]; exact mg.2))
theorem ge_B_C2 (H : ge_B a b c z n1 n2) : ∀ w ∈ b :: c :: (n1 ++ [z]), w ≠ b → w ≠ z → ge_par (b :: z :: (n2 ++ [a])) w = false := by
  intro w hw wb wz
  have nd := ge_B_nd H
  have hw' : w ∈ c :: n1 := by simp at hw ⊢; grind
  rw [← ge_B_C2c H]
  refine ge_chain1 (fun p => ge_par (b :: z :: (n2 ++ [a])) p) n1 c (fun e he => ?_) w hw'
  have me := ge_ed_mem _ e he
  have out : ∀ v ∈ c :: n1, v ∉ b :: z :: (n2 ++ [a]) := fun v hv q => by
    rcases List.mem_cons.mp q with r | r
    · exact nd.1 (by rw [← r]; simp at hv ⊢; grind)
    · exact nd.2.2.2 v hv v r rfl
  have hadj : ge_adj (b :: c :: ((n1 ++ z :: n2) ++ [a])) e.1 e.2 := Or.inl (by
    rw [ge_E_ear, ge_B_ed]
    exact List.mem_cons_of_mem _ (List.mem_append_left _ (List.mem_append_left _ (ge_ed_pre (l := c :: n1) [z] he))))
  refine ge_par_mv (fun g hg => ?_)
  have mg := ge_E_mem hg
  exact ge_B_far H hadj (ge_B_adj2 (Or.inl hg)) (fun q => out _ me.1 (by rw [q]; exact mg.1)) (fun q => out _ me.1 (by rw [q]; exact mg.2)) (fun q => out _ me.2 (by rw [q]; exact mg.1)) (fun q => out _ me.2 (by rw [q]; exact mg.2))
theorem ge_ed_start : ∀ (x : GPt) (m : List GPt) (y : GPt), ∃ v : GPt, (x, v) ∈ ge_ed (x :: (m ++ [y]))
  | x, [], y => ⟨y, List.mem_cons_self⟩
  | x, v :: m, y => ⟨v, List.mem_cons_self⟩
theorem ge_B_C3' (H : ge_B a b c z n1 n2) {p : GPt} (hp : ge_on b z p) (ho : ge_off (b :: c :: ((n1 ++ z :: n2) ++ [a])) p) : ge_par (b :: c :: ((n1 ++ z :: n2) ++ [a])) p = true := by
  obtain ⟨z1, z2, z3, z4⟩ := ge_B_num H
  obtain ⟨i, j, w⟩ := ge_on_wt (ge_B_ne H) hp
  have hi : i ≠ 0 := fun q => by
    subst q
    have := ge_wt_0 (ge_wt_swap w)
    subst this
    obtain ⟨v, hv⟩ := ge_ed_start p n2 a
    exact ho (p, v) (by rw [ge_E_ear, ge_B_ed]; exact List.mem_cons_of_mem _ (List.mem_append_left _ (List.mem_append_right _ hv))) (ge_on_l _ _)
  have hj : j ≠ 0 := fun q => by
    subst q
    have := ge_wt_0 w
    subst this
    exact ho (p, c) (by rw [ge_E_ear]; exact List.mem_cons_self) (ge_on_l _ _)
  have hi' : 0 < i := by have := w.1; omega
  have hj' : 0 < j := by have := w.2.1; omega
  have g := ge_B_bz H w hi'
  have e1 := ge_wt_o w a b
  have e2 := ge_wt_o w b c
  have zz1 : ge_o a b b = 0 := by unfold ge_o; grind
  have zz2 : ge_o b c b = 0 := by unfold ge_o; grind
  rw [zz1, Int.mul_zero] at e1
  rw [zz2, Int.mul_zero] at e2
  have k1 : 0 < ge_o a b p := ge_pos w.2.2.1 (by have := Int.mul_pos hj' z1; omega)
  have k2 : 0 < ge_o b c p := ge_pos w.2.2.1 (by have := Int.mul_pos hj' z2; omega)
  have k3 : 0 < ge_o c a p := by omega
  rw [ge_par_ear, ge_B_L0 H g.1 g.2, (ge_tri H.1 (fun q => by have := q.1; omega) (fun q => by have := q.1; omega) (fun q => by have := q.1; omega)).mpr ⟨k1, k2, k3⟩]
  rfl
theorem ge_B_C3 (H : ge_B a b c z n1 n2) (k : Int) (p : GPt) (hk : 0 < k) (hp : ge_on (ge_s k b) (ge_s k z) p) (ho : ge_off (ge_S k (b :: c :: ((n1 ++ z :: n2) ++ [a]))) p) : ge_par (ge_S k (b :: c :: ((n1 ++ z :: n2) ++ [a]))) p = true := by
  rw [ge_B_S] at ho ⊢
  exact ge_B_C3' (ge_B_s hk H) hp ho
theorem ge_B_parts1 (H : ge_B a b c z n1 n2) : ge_parts (b :: c :: ((n1 ++ z :: n2) ++ [a])) (b :: c :: (n1 ++ [z])) (b :: z :: (n2 ++ [a])) b z := by
  refine ⟨fun _ _ h => ge_B_adj1 h, fun _ _ h => ge_B_adj2 h, fun w hw => by simp at hw ⊢; grind, ge_B_sub1, ge_B_sub2, fun w h1 h2 => ge_B_sep H h1 h2, by simp, by simp, ge_B_ne H, fun k p => ?_, ge_B_C1 H, ge_B_C2 H, ge_B_C3 H, fun w hw ho => ge_B_V H hw ho, fun u v h => ge_B_X H h, H.2.1⟩
  rw [ge_B_S, ge_S_ear, ge_S_ear]
  exact ge_B_par p
theorem ge_B_parts2 (H : ge_B a b c z n1 n2) : ge_parts (b :: c :: ((n1 ++ z :: n2) ++ [a])) (b :: z :: (n2 ++ [a])) (b :: c :: (n1 ++ [z])) b z := by
  refine ⟨fun _ _ h => ge_B_adj2 h, fun _ _ h => ge_B_adj1 h, fun w hw => by simp at hw ⊢; grind, ge_B_sub2, ge_B_sub1, fun w h1 h2 => ge_B_sep H h2 h1, by simp, by simp, ge_B_ne H, fun k p => ?_, ge_B_C2 H, ge_B_C1 H, ge_B_C3 H, fun w hw ho => ge_B_V H hw ho, fun u v h => ge_B_X H h, H.2.1⟩
  rw [ge_B_S, ge_S_ear, ge_S_ear, ge_B_par p]
  cases ge_par (ge_s k b :: ge_s k c :: (ge_S k n1 ++ [ge_s k z])) p <;> cases ge_par (ge_s k b :: ge_s k z :: (ge_S k n2 ++ [ge_s k a])) p <;> rfl
theorem ge_E_ne {l : List GPt} (hn : l.Nodup) (h2 : 2 ≤ l.length) : ∀ e ∈ ge_E l, e.1 ≠ e.2 := by
  intro e he
  match l, hn, h2 with
  | u :: v :: r, hn, _ =>
    have h : e ∈ ge_ed (u :: v :: (r ++ [u])) := he
    rcases List.mem_cons.mp h with q | q
    · rw [q]
      intro z
      have z : u = v := z
      exact (List.nodup_cons.mp hn).1 (by rw [z]; exact List.mem_cons_self)
    · refine ge_ed_ne (v :: (r ++ [u])) ?_ e q
      rw [show v :: (r ++ [u]) = (v :: r) ++ [u] by simp]
      obtain ⟨h1, h2⟩ := List.nodup_cons.mp hn
      exact List.nodup_append.mpr ⟨h2, by simp, fun x hx y hy z => h1 (by rw [← List.mem_singleton.mp hy, ← z]; exact hx)⟩
theorem ge_adj_ne {l : List GPt} (hn : l.Nodup) (h2 : 2 ≤ l.length) : ∀ u v : GPt, ge_adj l u v → u ≠ v := by
  intro u v h
  rcases h with h | h
  · exact ge_E_ne hn h2 _ h
  · exact (ge_E_ne hn h2 _ h).symm
theorem ge_PE_B (H : ge_B a b c z n1 n2) (i1 : ge_PE (b :: c :: (n1 ++ [z]))) (i2 : ge_PE (b :: z :: (n2 ++ [a]))) : ge_PE (b :: c :: ((n1 ++ z :: n2) ++ [a])) := by
  have ne := ge_adj_ne H.2.1.1 (by simp)
  intro u v huv
  rcases ge_B_adjl huv with q | q
  · obtain ⟨x, e, y, h1, h2, h3, h4, h5, h6, h7⟩ := i2 b z (Or.inl (by rw [ge_E_ear]; exact List.mem_cons_self))
    obtain ⟨j1, j2, j3⟩ := ge_join (ge_B_parts2 H) ne h1 h2 h4 h5 h6 h7
    have mq := ge_adj_mem q
    have me := (ge_adj_mem h1).2
    exact ⟨x, e, y, j1, j2, h3, fun r => (ge_B_sep H (r ▸ mq.1) me).elim h4 h5, fun r => (ge_B_sep H (r ▸ mq.2) me).elim h4 h5, h6, j3⟩
  · obtain ⟨x, e, y, h1, h2, h3, h4, h5, h6, h7⟩ := i1 b z (Or.inr (by rw [ge_E_ear]; simp))
    obtain ⟨j1, j2, j3⟩ := ge_join (ge_B_parts1 H) ne h1 h2 h4 h5 h6 h7
    have mq := ge_adj_mem q
    have me := (ge_adj_mem h1).2
    exact ⟨x, e, y, j1, j2, h3, fun r => (ge_B_sep H me (r ▸ mq.1)).elim h4 h5, fun r => (ge_B_sep H me (r ▸ mq.2)).elim h4 h5, h6, j3⟩
end CaseB
end
section
/-! every simple polygon has ears -/
theorem ge_low_tri (x b : GPt) : x = b ∨ ge_low b x ∨ ge_low x b := by
  unfold ge_low
  rcases Int.lt_trichotomy b.2 x.2 with h | h | h
  · exact Or.inr (Or.inl (Or.inl h))
  · rcases Int.lt_trichotomy b.1 x.1 with g | g | g
    · exact Or.inr (Or.inr (Or.inr ⟨h.symm, g⟩))
    · exact Or.inl (Prod.ext g.symm h.symm)
    · exact Or.inr (Or.inl (Or.inr ⟨h, g⟩))
  · exact Or.inr (Or.inr (Or.inl h))
theorem ge_low_trans {x b v : GPt} (h : ge_low x b) (g : ge_low b v) : ge_low x v := by
  unfold ge_low at *
  omega
theorem ge_lowest : ∀ (l : List GPt), l ≠ [] → ∃ b ∈ l, ∀ v ∈ l, v = b ∨ ge_low b v
  | [], h => absurd rfl h
  | [x], _ => ⟨x, List.mem_cons_self, fun v hv => Or.inl (List.mem_singleton.mp hv)⟩
  | x :: y :: l, _ => by
    obtain ⟨b, hb, h⟩ := ge_lowest (y :: l) (List.cons_ne_nil _ _)
    rcases ge_low_tri x b with q | q | q
    · refine ⟨b, List.mem_cons_of_mem _ hb, fun v hv => ?_⟩
      rcases List.mem_cons.mp hv with r | r
      · exact Or.inl (r.trans q)
      · exact h v r
    · refine ⟨b, List.mem_cons_of_mem _ hb, fun v hv => ?_⟩
      rcases List.mem_cons.mp hv with r | r
      · exact Or.inr (r ▸ q)
      · exact h v r
    · refine ⟨x, List.mem_cons_self, fun v hv => ?_⟩
      rcases List.mem_cons.mp hv with r | r
      · exact Or.inl r
      · rcases h v r with t | t
        · exact Or.inr (t ▸ q)
        · exact Or.inr (ge_low_trans q t)
/-- at the lowest corner, a flat one turns back -/
theorem ge_corner {a b c : GPt} (ha : ge_low b a) (hc : ge_low b c) (h0 : ge_o a b c = 0) : ge_on b c a ∨ ge_on b a c := by
  have e1 : ge_o b c a = 0 := by rw [ge_o_cyc]; exact h0
  have e2 : ge_o b a c = 0 := by rw [ge_o_swap, h0]; rfl
  rcases ha with ha | ⟨ha, ha'⟩
  · rcases hc with hc | ⟨hc, hc'⟩
    · rcases Int.le_total a.2 c.2 with q | q
      · exact Or.inl (ge_on_y e1 hc (by omega) q)
      · exact Or.inr (ge_on_y e2 ha (by omega) q)
    · exfalso
      have e : ge_o b c a = (c.1 - b.1) * (a.2 - b.2) := by unfold ge_o; rw [hc]; grind
      rw [e1] at e
      rcases Int.mul_eq_zero.mp e.symm with q | q <;> omega
  · have hc2 : b.2 = c.2 := by
      have e : ge_o b a c = (a.1 - b.1) * (c.2 - b.2) := by unfold ge_o; rw [ha]; grind
      rw [e2] at e
      rcases Int.mul_eq_zero.mp e.symm with q | q <;> omega
    have hc1 : c.1 < b.1 := by rcases hc with hc | ⟨_, hc⟩ <;> omega
    rcases Int.le_total a.1 c.1 with q | q
    · exact Or.inr (ge_on_symm (ge_on_x (by omega) (by omega) q (by omega)))
    · exact Or.inl (ge_on_symm (ge_on_x (by omega) (by omega) q (by omega)))
theorem ge_argmax (P : GPt → Prop) (f : GPt → Int) : ∀ m : List GPt, (∃ w ∈ m, P w) → ∃ z ∈ m, P z ∧ ∀ w ∈ m, P w → f w ≤ f z
  | [], ⟨_, h, _⟩ => nomatch h
  | x :: m, ⟨w, hw, pw⟩ => by
    by_cases hm : ∃ w ∈ m, P w
    · obtain ⟨z, hz, pz, mz⟩ := ge_argmax P f m hm
      by_cases hx : P x ∧ f z < f x
      · refine ⟨x, List.mem_cons_self, hx.1, fun v hv pv => ?_⟩
        rcases List.mem_cons.mp hv with r | r
        · rw [r]; exact Int.le_refl _
        · have := mz v r pv
          omega
      · refine ⟨z, List.mem_cons_of_mem _ hz, pz, fun v hv pv => ?_⟩
        rcases List.mem_cons.mp hv with r | r
        · subst r
          rcases Int.lt_or_le (f z) (f v) with q | q
          · exact absurd ⟨pv, q⟩ hx
          · exact q
        · exact mz v r pv
    · rcases List.mem_cons.mp hw with r | r
      · subst r
        refine ⟨w, List.mem_cons_self, pw, fun v hv pv => ?_⟩
        rcases List.mem_cons.mp hv with t | t
        · rw [t]; exact Int.le_refl _
        · exact absurd ⟨v, t, pv⟩ hm
      · exact absurd ⟨w, r, pw⟩ hm
theorem ge_tc_cyc {x e y w : GPt} (h : ge_tc x e y w) : ge_tc e y x w := by
  rcases h with h | h
  · exact Or.inl (ge_in_cyc h)
  · exact Or.inr (ge_in_cyc (ge_in_cyc h))
theorem ge_good_cyc {l : List GPt} {x e y : GPt} (h : ge_good l x e y) : ge_good l e y x :=
  ⟨fun w hw w1 w2 w3 q => h.1 w hw w3 w1 w2 (ge_tc_cyc (ge_tc_cyc q)), fun k hk p hp ho => h.2 k hk p (ge_tc_cyc (ge_tc_cyc hp)) ho⟩
theorem ge_PE_3 {a b c : GPt} (hF : 0 < ge_o a b c) (hs : ge_simple (b :: c :: ([] ++ [a]))) (hl : ∀ v ∈ c :: ([] ++ [a]), ge_low b v) : ge_PE (b :: c :: ([] ++ [a])) := by
  have g1 : ge_good (b :: c :: ([] ++ [a])) a b c := ge_goodA hF hs (fun w hw w1 w2 => by simp at hw; grind) hl
  have g2 := ge_good_cyc g1
  have g3 := ge_good_cyc g2
  have hn := hs.1
  have nbc : b ≠ c := by simp at hn; grind
  have nba : b ≠ a := by simp at hn; grind
  have nca : c ≠ a := by simp at hn; grind
  have hE : ∀ e : GPt × GPt, e ∈ ge_E (b :: c :: ([] ++ [a])) ↔ e = (b, c) ∨ e = (c, a) ∨ e = (a, b) := fun e => by
    rw [ge_E_ear]
    simp [ge_ed]
  have a1 : ge_adj (b :: c :: ([] ++ [a])) b c := Or.inl ((hE _).mpr (Or.inl rfl))
  have a2 : ge_adj (b :: c :: ([] ++ [a])) c a := Or.inl ((hE _).mpr (Or.inr (Or.inl rfl)))
  have a3 : ge_adj (b :: c :: ([] ++ [a])) a b := Or.inl ((hE _).mpr (Or.inr (Or.inr rfl)))
  have f2 : ge_o b c a = ge_o a b c := ge_o_cyc a b c
  have f3 : ge_o c a b = ge_o a b c := by rw [ge_o_cyc, ge_o_cyc]
  have key : ∀ u v : GPt, (u, v) ∈ ge_E (b :: c :: ([] ++ [a])) → ∃ x e y : GPt, ge_adj (b :: c :: ([] ++ [a])) x e ∧ ge_adj (b :: c :: ([] ++ [a])) e y ∧ x ≠ y ∧ e ≠ u ∧ e ≠ v ∧ ge_o x e y ≠ 0 ∧ ge_good (b :: c :: ([] ++ [a])) x e y := fun u v h => by
    rcases (hE _).mp h with q | q | q
    · obtain ⟨q1, q2⟩ := Prod.mk.inj q
      subst q1; subst q2
      exact ⟨v, a, u, a2, a3, nbc.symm, nba.symm, nca.symm, by omega, g3⟩
    · obtain ⟨q1, q2⟩ := Prod.mk.inj q
      subst q1; subst q2
      exact ⟨v, b, u, a3, a1, nca.symm, nbc, nba, by omega, g1⟩
    · obtain ⟨q1, q2⟩ := Prod.mk.inj q
      subst q1; subst q2
      exact ⟨v, c, u, a1, a2, nba, nca, nbc.symm, by omega, g2⟩
  intro u v h
  rcases h with h | h
  · exact key u v h
  · obtain ⟨x, e, y, h1, h2, h3, h4, h5, h6⟩ := key v u h
    exact ⟨x, e, y, h1, h2, h3, h5, h4, h6⟩
theorem ge_PE_pos {n : Nat} (ih : ∀ l : List GPt, l.length ≤ n → 3 ≤ l.length → ge_simple l → ge_PE l) {a b c : GPt} {mid : List GPt} (hlen : mid.length + 3 ≤ n + 1) (hF : 0 < ge_o a b c) (hs : ge_simple (b :: c :: (mid ++ [a]))) (hl : ∀ v ∈ c :: (mid ++ [a]), ge_low b v) : ge_PE (b :: c :: (mid ++ [a])) := by
  by_cases hm : mid = []
  · subst hm
    exact ge_PE_3 hF hs hl
  · have hm1 : 0 < mid.length := List.length_pos_iff.mpr hm
    by_cases he : ∀ w ∈ c :: (mid ++ [a]), w ≠ a → w ≠ c → ¬ ge_in a b c w
    · exact ge_PE_A hF hs he hl (ih _ (by simp; omega) (by simp; omega) (ge_cut_simple hF hs he))
    · have hex : ∃ w ∈ mid, ge_in a b c w := by
        refine Classical.byContradiction (fun q => he (fun w hw w1 w2 r => q ⟨w, ?_, r⟩))
        simp at hw; grind
      obtain ⟨z, hz, pz, mz⟩ := ge_argmax (ge_in a b c) (ge_o c a) mid hex
      obtain ⟨n1, n2, rfl⟩ := List.append_of_mem hz
      have H : ge_B a b c z n1 n2 := by
        refine ⟨hF, hs, hl, pz, fun w hw pw => ?_⟩
        have e1 : ge_o c a c = 0 := by unfold ge_o; grind
        have e2 : ge_o c a a = 0 := by unfold ge_o; grind
        rcases List.mem_cons.mp hw with r | r
        · rw [r, e1]; exact pz.2.2
        · rcases List.mem_append.mp r with r | r
          · exact mz w r pw
          · rw [List.mem_singleton.mp r, e2]; exact pz.2.2
      simp at hlen
      exact ge_PE_B H (ih _ (by simp; omega) (by simp) (ge_B_s1 H)) (ih _ (by simp; omega) (by simp) (ge_B_s2 H))
theorem ge_two {t : List GPt} (h : 2 ≤ t.length) : ∃ (c : GPt) (mid : List GPt) (a : GPt), t = c :: (mid ++ [a]) := by
  match t, h with
  | c :: u :: r, _ =>
    refine ⟨c, (u :: r).dropLast, (u :: r).getLast (List.cons_ne_nil _ _), ?_⟩
    rw [List.dropLast_concat_getLast]
theorem ge_ears_n : ∀ (n : Nat) (l : List GPt), l.length ≤ n → 3 ≤ l.length → ge_simple l → ge_PE l
  | 0, l, h1, h2, _ => by omega
  | n + 1, l, h1, h2, hs => by
    have ih := ge_ears_n n
    obtain ⟨b, hb, hlow⟩ := ge_lowest l (fun q => by rw [q] at h2; simp at h2)
    obtain ⟨s, r, rfl⟩ := List.append_of_mem hb
    have eq1 := ge_eqv_rot s (b :: r)
    have nd1 : (b :: r ++ s).Nodup := List.perm_append_comm.nodup_iff.mp hs.1
    refine ge_eqv_PE (ge_eqv_symm eq1) ?_
    have hs1 := ge_eqv_simple eq1 nd1 hs
    have hlen : (r ++ s).length = (s ++ b :: r).length - 1 := by simp; omega
    have hlow1 : ∀ v ∈ r ++ s, ge_low b v := fun v hv => by
      rcases hlow v (by simp at hv ⊢; grind) with q | q
      · exact absurd (q ▸ hv) (List.nodup_cons.mp nd1).1
      · exact q
    obtain ⟨c, mid, a, ht⟩ := ge_two (t := r ++ s) (by omega)
    rw [show b :: r ++ s = b :: (r ++ s) by simp, ht] at hs1 nd1 ⊢
    rw [ht] at hlen hlow1
    have hl2 : mid.length + 3 ≤ n + 1 := by simp at hlen h1; omega
    have F0 : ge_o a b c ≠ 0 := fun q => by
      have hbc : (b, c) ∈ ge_E (b :: c :: (mid ++ [a])) := by rw [ge_E_ear]; simp
      have hab : (a, b) ∈ ge_E (b :: c :: (mid ++ [a])) := by rw [ge_E_ear]; simp
      have nca : c ≠ a := fun z => (List.nodup_cons.mp (List.nodup_cons.mp nd1).2).1 (by rw [z]; simp)
      have nba : b ≠ a := fun z => (List.nodup_cons.mp nd1).1 (by rw [z]; simp)
      have nbc : b ≠ c := fun z => (List.nodup_cons.mp nd1).1 (by rw [z]; simp)
      rcases ge_corner (hlow1 a (by simp)) (hlow1 c (by simp)) q with z | z
      · rcases hs1.2.1 a (by simp) _ hbc z with w | w
        · exact nba w.symm
        · exact nca w.symm
      · rcases hs1.2.1 c (by simp) _ hab (ge_on_symm z) with w | w
        · exact nca w
        · exact nbc w.symm
    rcases Int.lt_or_lt_of_ne F0 with q | q
    · have eq2 := ge_eqv_rev b (c :: (mid ++ [a]))
      have e : (c :: (mid ++ [a])).reverse = a :: (mid.reverse ++ [c]) := by simp
      rw [e] at eq2
      refine ge_eqv_PE (ge_eqv_symm eq2) ?_
      have nd2 : (b :: a :: (mid.reverse ++ [c])).Nodup := by
        rw [← e]
        exact List.nodup_cons.mpr ⟨fun z => (List.nodup_cons.mp nd1).1 (List.mem_reverse.mp z), (List.reverse_perm _).nodup_iff.mpr (List.nodup_cons.mp nd1).2⟩
      refine ge_PE_pos ih (by simp; omega) ?_ (ge_eqv_simple eq2 nd2 hs1) (fun v hv => hlow1 v (by simp at hv ⊢; grind))
      have : ge_o c b a = -ge_o a b c := by unfold ge_o; grind
      omega
    · exact ge_PE_pos ih hl2 q hs1 hlow1
/-- for each edge of a simple polygon there is a good ear that isn't one of its ends -/
theorem ge_ears {l : List GPt} (h3 : 3 ≤ l.length) (hs : ge_simple l) : ge_PE l := ge_ears_n l.length l (Nat.le_refl _) h3 hs
end
section
/-! the winding count: the even-odd count with signs -/
def ge_b2 (x : Bool) : Int := if x = true then 1 else 0
def ge_sc (u v p : GPt) : Int := if u.2 ≤ v.2 then ge_b2 (ge_cr u v p) else -ge_b2 (ge_cr v u p)
theorem ge_sc_swap (u v p : GPt) : ge_sc v u p = -ge_sc u v p := by
  unfold ge_sc
  rcases Int.lt_trichotomy u.2 v.2 with h | h | h
  · rw [if_neg (by omega), if_pos (by omega)]
  · rw [if_pos (by omega), if_pos (by omega), ge_cr_flat h, ge_cr_flat h.symm]; rfl
  · rw [if_pos (by omega), if_neg (by omega)]; omega
theorem ge_sc_cs (u v p : GPt) : ge_sc u v p = ge_b2 (ge_cs u v p) ∨ ge_sc u v p = -ge_b2 (ge_cs u v p) := by
  unfold ge_sc ge_cs
  split
  · exact Or.inl rfl
  · exact Or.inr rfl
theorem ge_sc_mv1 {u v p q : GPt} (huv : u.2 ≤ v.2) (hpq : p.2 ≤ q.2) (hm : ¬ ge_meet u v p q) : ge_b2 (ge_cr u v p) - ge_b2 (ge_cr u v q) = ge_b2 (ge_F p q v) - ge_b2 (ge_F p q u) := by
  have h := ge_cr_mv hpq hm
  have i1 : ge_cr u v p = true → ge_F p q u = false := by unfold ge_cr ge_F; grind
  have i2 : ge_cr u v q = true → ge_F p q v = false := by unfold ge_cr ge_F; grind
  revert h i1 i2
  unfold ge_b2
  cases ge_cr u v p <;> cases ge_cr u v q <;> cases ge_F p q u <;> cases ge_F p q v <;> simp
theorem ge_sc_mv {u v p q : GPt} (hpq : p.2 ≤ q.2) (hm : ¬ ge_meet u v p q) : ge_sc u v p - ge_sc u v q = ge_b2 (ge_F p q v) - ge_b2 (ge_F p q u) := by
  unfold ge_sc
  rcases Int.lt_or_le v.2 u.2 with h | h
  · rw [if_neg (by omega), if_neg (by omega)]
    have := ge_sc_mv1 (u := v) (v := u) (by omega) hpq (fun z => hm (ge_meet_flip z))
    omega
  · rw [if_pos h, if_pos h]
    exact ge_sc_mv1 h hpq hm
theorem ge_sc_s {m : Int} (hm : 0 < m) (u v p : GPt) : ge_sc (ge_s m u) (ge_s m v) (ge_s m p) = ge_sc u v p := by
  unfold ge_sc
  have h3 : ((ge_s m u).2 ≤ (ge_s m v).2) ↔ u.2 ≤ v.2 := ge_sg_le hm
  simp only [h3, ge_cr_s hm]
/-- a path's count -/
def ge_wp : List GPt → GPt → Int
  | [], _ => 0
  | [_], _ => 0
  | a :: b :: r, p => ge_sc a b p + ge_wp (b :: r) p
def ge_wn (l : List GPt) (p : GPt) : Int := ge_wp (ge_cy l) p
theorem ge_wp_app (xs : List GPt) (m : GPt) (ys : List GPt) (p : GPt) : ge_wp (xs ++ m :: ys) p = ge_wp (xs ++ [m]) p + ge_wp (m :: ys) p := by
  induction xs with
  | nil => show ge_wp (m :: ys) p = 0 + ge_wp (m :: ys) p; omega
  | cons a r ih =>
    cases r with
    | nil => show ge_sc a m p + ge_wp (m :: ys) p = (ge_sc a m p + 0) + ge_wp (m :: ys) p; omega
    | cons b r =>
      show ge_sc a b p + ge_wp (b :: r ++ m :: ys) p = (ge_sc a b p + ge_wp (b :: r ++ [m]) p) + ge_wp (m :: ys) p
      rw [ih]; omega
theorem ge_wp_mv {p q : GPt} (hpq : p.2 ≤ q.2) : ∀ (r : List GPt) (a : GPt), (∀ e ∈ ge_ed (a :: r), ¬ ge_meet e.1 e.2 p q) → ge_wp (a :: r) p - ge_wp (a :: r) q = ge_b2 (ge_F p q ((a :: r).getLast (List.cons_ne_nil _ _))) - ge_b2 (ge_F p q a) := by
  intro r
  induction r with
  | nil => intro a _; show (0 : Int) - 0 = ge_b2 (ge_F p q a) - ge_b2 (ge_F p q a); omega
  | cons b r ih =>
    intro a h
    have h1 := ge_sc_mv hpq (h (a, b) List.mem_cons_self)
    have h2 := ih b (fun e he => h e (List.mem_cons_of_mem _ he))
    show (ge_sc a b p + ge_wp (b :: r) p) - (ge_sc a b q + ge_wp (b :: r) q) = ge_b2 (ge_F p q ((b :: r).getLast (List.cons_ne_nil _ _))) - ge_b2 (ge_F p q a)
    dsimp only at h1
    omega
theorem ge_wn_mv1 {l : List GPt} {p q : GPt} (hpq : p.2 ≤ q.2) (h : ∀ e ∈ ge_E l, ¬ ge_meet e.1 e.2 p q) : ge_wn l p = ge_wn l q := by
  cases l with
  | nil => rfl
  | cons a r =>
    have h1 := ge_wp_mv hpq (r ++ [a]) a h
    have h2 : (a :: (r ++ [a])).getLast (List.cons_ne_nil _ _) = a := by first | exact List.getLast_concat | exact List.getLast_append_singleton _ | grind | (rw [List.getLast_cons (by simp)]; simp)
    rw [h2] at h1
    show ge_wp (a :: (r ++ [a])) p = ge_wp (a :: (r ++ [a])) q
    omega
theorem ge_wn_mv {l : List GPt} {p q : GPt} (h : ∀ e ∈ ge_E l, ¬ ge_meet e.1 e.2 p q) : ge_wn l p = ge_wn l q := by
  rcases Int.le_total p.2 q.2 with z | z
  · exact ge_wn_mv1 z h
  · exact (ge_wn_mv1 z (fun e he hm => h e he (ge_meet_swap hm))).symm
theorem ge_wn_rot (s t : List GPt) (p : GPt) : ge_wn (s ++ t) p = ge_wn (t ++ s) p := by
  cases s with
  | nil => simp
  | cons a s =>
    cases t with
    | nil => simp
    | cons b t =>
      have h1 : ge_wn (a :: s ++ b :: t) p = ge_wp (a :: s ++ [b]) p + ge_wp (b :: t ++ [a]) p := by
        show ge_wp (a :: (s ++ b :: t) ++ [a]) p = _
        rw [show a :: (s ++ b :: t) ++ [a] = (a :: s) ++ b :: (t ++ [a]) by simp, ge_wp_app]
        rfl
      have h2 : ge_wn (b :: t ++ a :: s) p = ge_wp (b :: t ++ [a]) p + ge_wp (a :: s ++ [b]) p := by
        show ge_wp (b :: (t ++ a :: s) ++ [b]) p = _
        rw [show b :: (t ++ a :: s) ++ [b] = (b :: t) ++ a :: (s ++ [b]) by simp, ge_wp_app]
        rfl
      rw [h1, h2]
      omega
theorem ge_wp_rev (l : List GPt) (p : GPt) : ge_wp l.reverse p = -ge_wp l p := by
  induction l with
  | nil => rfl
  | cons a r ih =>
    cases r with
    | nil => rfl
    | cons b r =>
      rw [show (a :: b :: r).reverse = r.reverse ++ b :: [a] by simp, ge_wp_app]
      rw [show r.reverse ++ [b] = (b :: r).reverse by simp, ih]
      show -ge_wp (b :: r) p + (ge_sc b a p + 0) = -(ge_sc a b p + ge_wp (b :: r) p)
      rw [ge_sc_swap a b]
      omega
theorem ge_wn_rev (b : GPt) (t : List GPt) (p : GPt) : ge_wn (b :: t.reverse) p = -ge_wn (b :: t) p := by
  unfold ge_wn
  rw [ge_cy_rev, ge_wp_rev]
theorem ge_wp_s {m : Int} (hm : 0 < m) (l : List GPt) (p : GPt) : ge_wp (ge_S m l) (ge_s m p) = ge_wp l p := by
  induction l with
  | nil => rfl
  | cons a r ih =>
    cases r with
    | nil => rfl
    | cons b r =>
      show ge_sc (ge_s m a) (ge_s m b) (ge_s m p) + ge_wp (ge_S m (b :: r)) (ge_s m p) = ge_sc a b p + ge_wp (b :: r) p
      rw [ih, ge_sc_s hm]
theorem ge_wn_s {m : Int} (hm : 0 < m) (l : List GPt) (p : GPt) : ge_wn (ge_S m l) (ge_s m p) = ge_wn l p := by
  unfold ge_wn
  rw [ge_cy_S, ge_wp_s hm]
theorem ge_pp_wp (l : List GPt) (p : GPt) : ge_pp l p = decide (ge_wp l p % 2 = 1) := by
  induction l with
  | nil => rfl
  | cons a r ih =>
    cases r with
    | nil => rfl
    | cons b r =>
      show (ge_cs a b p != ge_pp (b :: r) p) = decide ((ge_sc a b p + ge_wp (b :: r) p) % 2 = 1)
      rw [ih]
      have h := ge_sc_cs a b p
      revert h
      unfold ge_b2
      cases ge_cs a b p
      · intro h
        have h : ge_sc a b p = 0 := by simpa using h
        rw [h]
        simp
      · intro h
        have h : ge_sc a b p = 1 ∨ ge_sc a b p = -1 := by simpa using h
        have : ((ge_sc a b p + ge_wp (b :: r) p) % 2 = 1) ↔ ¬ (ge_wp (b :: r) p % 2 = 1) := by omega
        simp only [this]
        by_cases q : ge_wp (b :: r) p % 2 = 1 <;> simp [q]
theorem ge_par_wn (l : List GPt) (p : GPt) : ge_par l p = decide (ge_wn l p % 2 = 1) := ge_pp_wp _ p
def ge_w3 (a b c p : GPt) : Int := ge_sc a b p + ge_sc b c p + ge_sc c a p
theorem ge_w3_cyc (a b c p : GPt) : ge_w3 b c a p = ge_w3 a b c p := by unfold ge_w3; omega
theorem ge_wn_ear (a b c : GPt) (mid : List GPt) (p : GPt) : ge_wn (b :: c :: (mid ++ [a])) p = ge_wn (c :: (mid ++ [a])) p + ge_w3 a b c p := by
  have h1 : ge_wn (b :: c :: (mid ++ [a])) p = ge_sc b c p + (ge_wp (c :: (mid ++ [a])) p + ge_sc a b p) := by
    show ge_wp (b :: (c :: (mid ++ [a])) ++ [b]) p = _
    rw [show b :: (c :: (mid ++ [a])) ++ [b] = (b :: c :: mid) ++ a :: [b] by simp, ge_wp_app]
    show (ge_sc b c p + ge_wp (c :: mid ++ [a]) p) + (ge_sc a b p + 0) = _
    rw [show c :: mid ++ [a] = c :: (mid ++ [a]) by simp]
    omega
  have h2 : ge_wn (c :: (mid ++ [a])) p = ge_wp (c :: (mid ++ [a])) p + ge_sc a c p := by
    show ge_wp (c :: (mid ++ [a]) ++ [c]) p = _
    rw [show c :: (mid ++ [a]) ++ [c] = (c :: mid) ++ a :: [c] by simp, ge_wp_app]
    show ge_wp (c :: mid ++ [a]) p + (ge_sc a c p + 0) = _
    rw [show c :: mid ++ [a] = c :: (mid ++ [a]) by simp]
    omega
  rw [h1, h2]
  unfold ge_w3
  rw [ge_sc_swap a c]
  omega
theorem ge_sc_up {u v p : GPt} (h1 : u.2 ≤ p.2) (h2 : p.2 < v.2) : ge_sc u v p = if 0 < ge_o u v p then 1 else 0 := by
  unfold ge_sc ge_cr ge_b2
  rw [if_pos (by omega)]
  grind
theorem ge_sc_dn {u v p : GPt} (h1 : v.2 ≤ p.2) (h2 : p.2 < u.2) : ge_sc u v p = if ge_o u v p < 0 then -1 else 0 := by
  rw [ge_sc_swap v u, ge_sc_up h1 h2, ge_o_swap u v p]
  grind
theorem ge_sc_lo {u v p : GPt} (h1 : u.2 ≤ p.2) (h2 : v.2 ≤ p.2) : ge_sc u v p = 0 := by
  have := ge_sc_cs u v p
  rw [ge_cs_lo h1 h2] at this
  unfold ge_b2 at this
  grind
theorem ge_sc_hi {u v p : GPt} (h1 : p.2 < u.2) (h2 : p.2 < v.2) : ge_sc u v p = 0 := by
  have := ge_sc_cs u v p
  rw [ge_cs_hi h1 h2] at this
  unfold ge_b2 at this
  grind
theorem ge_w3_1 {a b c p : GPt} (hF : 0 < ge_o a b c) (ha : a.2 ≤ p.2) (hb : b.2 ≤ p.2) (hc : p.2 < c.2) (n2 : ¬ ge_on b c p) (n3 : ¬ ge_on c a p) : 0 ≤ ge_w3 a b c p ∧ ge_w3 a b c p ≤ 1 := by
  unfold ge_w3
  rw [ge_sc_lo ha hb, ge_sc_up hb hc, ge_sc_dn ha hc]
  have by' := ge_by a b c p
  have b0 := ge_b0 a b c p
  have z3 : ge_o c a p ≠ 0 := fun z => n3 (ge_on_symm (ge_on_y (by rw [ge_o_swap, z]; rfl) (by omega) ha (by omega)))
  have z2 : ge_o b c p ≠ 0 := fun z => n2 (ge_on_y z (by omega) hb (by omega))
  have imp : ¬ (ge_o b c p < 0 ∧ ge_o c a p < 0) := fun z => by
    have k1 : 0 ≤ -ge_o b c p * (p.2 - a.2) := Int.mul_nonneg (by omega) (by omega)
    have k2 : 0 ≤ -ge_o c a p * (p.2 - b.2) := Int.mul_nonneg (by omega) (by omega)
    have k3 : 0 ≤ -ge_o a b p := ge_nn (show 0 < c.2 - p.2 by omega) (by grind)
    omega
  split <;> split <;> omega
theorem ge_w3_2 {a b c p : GPt} (hF : 0 < ge_o a b c) (ha : p.2 < a.2) (hb : p.2 < b.2) (hc : c.2 ≤ p.2) (n2 : ¬ ge_on b c p) (n3 : ¬ ge_on c a p) : 0 ≤ ge_w3 a b c p ∧ ge_w3 a b c p ≤ 1 := by
  unfold ge_w3
  rw [ge_sc_hi ha hb, ge_sc_dn hc hb, ge_sc_up hc ha]
  have by' := ge_by a b c p
  have b0 := ge_b0 a b c p
  have z2 : ge_o b c p ≠ 0 := fun z => n2 (ge_on_symm (ge_on_y (by rw [ge_o_swap, z]; rfl) (by omega) hc (by omega)))
  have z3 : ge_o c a p ≠ 0 := fun z => n3 (ge_on_y z (by omega) hc (by omega))
  have imp : ¬ (ge_o b c p < 0 ∧ ge_o c a p < 0) := fun z => by
    have k1 : 0 < -ge_o b c p * (a.2 - p.2) := Int.mul_pos (by omega) (by omega)
    have k2 : 0 < -ge_o c a p * (b.2 - p.2) := Int.mul_pos (by omega) (by omega)
    rcases Int.lt_or_le (ge_o a b p) 0 with q | q
    · omega
    · have := Int.mul_nonneg q (show 0 ≤ p.2 - c.2 by omega)
      grind
  split <;> split <;> omega
theorem ge_w3_01 {a b c p : GPt} (hF : 0 < ge_o a b c) (n1 : ¬ ge_on a b p) (n2 : ¬ ge_on b c p) (n3 : ¬ ge_on c a p) : 0 ≤ ge_w3 a b c p ∧ ge_w3 a b c p ≤ 1 := by
  have hF1 : 0 < ge_o b c a := by rw [ge_o_cyc]; exact hF
  have hF2 : 0 < ge_o c a b := by rw [ge_o_cyc]; exact hF1
  have tpc : ge_w3 c a b p = ge_w3 a b c p := (ge_w3_cyc b c a p).trans (ge_w3_cyc a b c p)
  rcases Int.lt_or_le p.2 a.2 with ha | ha <;> rcases Int.lt_or_le p.2 b.2 with hb | hb <;> rcases Int.lt_or_le p.2 c.2 with hc | hc
  · unfold ge_w3; rw [ge_sc_hi ha hb, ge_sc_hi hb hc, ge_sc_hi hc ha]; omega
  · exact ge_w3_2 hF ha hb hc n2 n3
  · rw [← tpc]; exact ge_w3_2 hF2 hc ha hb n1 n2
  · rw [← ge_w3_cyc a b c p]; exact ge_w3_1 hF1 hb hc ha n3 n1
  · rw [← ge_w3_cyc a b c p]; exact ge_w3_2 hF1 hb hc ha n3 n1
  · rw [← tpc]; exact ge_w3_1 hF2 hc ha hb n1 n2
  · exact ge_w3_1 hF ha hb hc n2 n3
  · unfold ge_w3; rw [ge_sc_lo ha hb, ge_sc_lo hb hc, ge_sc_lo hc ha]; omega
theorem ge_w3_par (a b c p : GPt) : ge_tp a b c p = decide (ge_w3 a b c p % 2 = 1) := by
  have h := ge_par_wn (a :: b :: [c]) p
  have e1 : ge_par (a :: b :: [c]) p = ge_tp a b c p := by
    show (ge_cs a b p != (ge_cs b c p != (ge_cs c a p != false))) = _
    unfold ge_tp
    cases ge_cs a b p <;> cases ge_cs b c p <;> cases ge_cs c a p <;> rfl
  have e2 : ge_wn (a :: b :: [c]) p = ge_w3 a b c p := by
    show ge_sc a b p + (ge_sc b c p + (ge_sc c a p + 0)) = _
    unfold ge_w3
    omega
  rw [e1, e2] at h
  exact h
/-- the winding count of a triangle -/
theorem ge_w3_in {a b c p : GPt} (hF : 0 < ge_o a b c) (n1 : ¬ ge_on a b p) (n2 : ¬ ge_on b c p) (n3 : ¬ ge_on c a p) : (ge_int a b c p ∧ ge_w3 a b c p = 1) ∨ (¬ ge_int a b c p ∧ ge_w3 a b c p = 0) := by
  have h := ge_tri hF n1 n2 n3
  rw [ge_w3_par] at h
  have h01 := ge_w3_01 hF n1 n2 n3
  by_cases q : ge_int a b c p
  · have := h.mpr q
    have := of_decide_eq_true this
    exact Or.inl ⟨q, by omega⟩
  · refine Or.inr ⟨q, ?_⟩
    have : ¬ (ge_w3 a b c p % 2 = 1) := fun z => q (h.mp (decide_eq_true z))
    omega
end
section
/-! edges of a simple polygon touch in common ends alone; a point off the polygon has a short free way in any direction -/
theorem ge_wt_eq {v x r : GPt} {i j : Int} (w : ge_wt v x r i j) : (i + j) * (r.1 - v.1) = j * (x.1 - v.1) ∧ (i + j) * (r.2 - v.2) = j * (x.2 - v.2) := by
  obtain ⟨-, -, -, h1, h2⟩ := w
  exact ⟨by grind, by grind⟩
/-- two segments from v that share another point: one holds the other's end -/
theorem ge_ray {v x y r : GPt} (hr : r ≠ v) (hx : v ≠ x) (hy : v ≠ y) (h1 : ge_on v x r) (h2 : ge_on v y r) : ge_on v x y ∨ ge_on v y x := by
  obtain ⟨i, j, w⟩ := ge_on_wt hx h1
  obtain ⟨i', j', w'⟩ := ge_on_wt hy h2
  have hj : 0 < j := by
    have := w.2.1
    rcases Int.lt_or_eq_of_le this with q | q
    · exact q
    · subst q; exact absurd (ge_wt_0 w) hr
  have hj' : 0 < j' := by
    have := w'.2.1
    rcases Int.lt_or_eq_of_le this with q | q
    · exact q
    · subst q; exact absurd (ge_wt_0 w') hr
  obtain ⟨e1, e2⟩ := ge_wt_eq w
  obtain ⟨f1, f2⟩ := ge_wt_eq w'
  have hs := w.2.2.1
  have hs' := w'.2.2.1
  obtain ⟨A, hA⟩ : ∃ A, A = j * (i' + j') := ⟨_, rfl⟩
  obtain ⟨B, hB⟩ : ∃ B, B = j' * (i + j) := ⟨_, rfl⟩
  have hA0 : 0 < A := by rw [hA]; exact Int.mul_pos hj hs'
  have hB0 : 0 < B := by rw [hB]; exact Int.mul_pos hj' hs
  have g1 : A * (x.1 - v.1) = B * (y.1 - v.1) := by
    have q1 : A * (x.1 - v.1) = (i' + j') * (j * (x.1 - v.1)) := by rw [hA]; grind
    have q2 : B * (y.1 - v.1) = (i + j) * (j' * (y.1 - v.1)) := by rw [hB]; grind
    rw [q1, q2, ← e1, ← f1]; grind
  have g2 : A * (x.2 - v.2) = B * (y.2 - v.2) := by
    have q1 : A * (x.2 - v.2) = (i' + j') * (j * (x.2 - v.2)) := by rw [hA]; grind
    have q2 : B * (y.2 - v.2) = (i + j) * (j' * (y.2 - v.2)) := by rw [hB]; grind
    rw [q1, q2, ← e2, ← f2]; grind
  clear hA hB e1 e2 f1 f2
  rcases Int.le_total A B with q | q
  · exact Or.inl (ge_wt_on (i := B - A) (j := A) ⟨by omega, by omega, by omega, by grind, by grind⟩)
  · exact Or.inr (ge_wt_on (i := A - B) (j := B) ⟨by omega, by omega, by omega, by grind, by grind⟩)
/-- two edges with a common end -/
theorem ge_touch1 {l : List GPt} (hs : ge_simple l) (hne : ∀ u v : GPt, ge_adj l u v → u ≠ v) {v x y r : GPt} (h : ge_adj l v x) (g : ge_adj l v y) (hxy : x ≠ y) (h1 : ge_on v x r) (h2 : ge_on v y r) : r = v := by
  by_cases q : r = v
  · exact q
  · exfalso
    have vx := hne _ _ h
    have vy := hne _ _ g
    rcases ge_ray q vx vy h1 h2 with z | z
    · rcases ge_adj_V hs (ge_adj_mem g).2 h z with t | t
      · exact vy t.symm
      · exact hxy t.symm
    · rcases ge_adj_V hs (ge_adj_mem h).2 g z with t | t
      · exact vx t.symm
      · exact hxy t
theorem ge_touch {l : List GPt} (hs : ge_simple l) (hne : ∀ u v : GPt, ge_adj l u v → u ≠ v) {u v x y r : GPt} (h : ge_adj l u v) (g : ge_adj l x y) (hd : ¬ ((u = x ∧ v = y) ∨ (u = y ∧ v = x))) (h1 : ge_on u v r) (h2 : ge_on x y r) : (r = u ∨ r = v) ∧ (r = x ∨ r = y) := by
  have huv := hne _ _ h
  have hxy := hne _ _ g
  by_cases c1 : u = x
  · subst c1
    have := ge_touch1 hs hne h g (fun z => hd (Or.inl ⟨rfl, z⟩)) h1 h2
    exact ⟨Or.inl this, Or.inl this⟩
  by_cases c2 : u = y
  · subst c2
    have := ge_touch1 hs hne h (ge_adj_symm g) (fun z => hd (Or.inr ⟨rfl, z⟩)) h1 (ge_on_symm h2)
    exact ⟨Or.inl this, Or.inr this⟩
  by_cases c3 : v = x
  · subst c3
    have := ge_touch1 hs hne (ge_adj_symm h) g (fun z => hd (Or.inr ⟨z, rfl⟩)) (ge_on_symm h1) h2
    exact ⟨Or.inr this, Or.inl this⟩
  by_cases c4 : v = y
  · subst c4
    have := ge_touch1 hs hne (ge_adj_symm h) (ge_adj_symm g) (fun z => hd (Or.inl ⟨z, rfl⟩)) (ge_on_symm h1) (ge_on_symm h2)
    exact ⟨Or.inr this, Or.inr this⟩
  exact absurd (ge_pt_meet huv hxy h1 h2) (ge_disj hs h g c1 c2 c3 c4)
/-- m moved by d at scale K -/
def ge_mvd (K : Int) (m d : GPt) : GPt := (K * m.1 + d.1, K * m.2 + d.2)
theorem ge_mvd_o (K : Int) (u v m d : GPt) : ge_o (ge_s K u) (ge_s K v) (ge_mvd K m d) = K * (K * ge_o u v m + ((v.1 - u.1) * d.2 - (v.2 - u.2) * d.1)) := by unfold ge_mvd ge_s ge_o; grind
theorem ge_big {K t o : Int} (ho : 0 < o) (hK : 0 < K) (h : -t < K) : 0 < K * (K * o + t) := by
  have : K * 1 ≤ K * o := (ge_sg_le hK).mpr (by omega)
  exact Int.mul_pos hK (by omega)
theorem ge_eps1 {u v m : GPt} (d : GPt) (h : ¬ ge_on u v m) : ∃ K0 : Int, ∀ K : Int, K0 ≤ K → 0 < K → ¬ ge_meet (ge_s K u) (ge_s K v) (ge_s K m) (ge_mvd K m d) := by
  obtain ⟨k, hk, k1, k2⟩ := ge_abs_ge ((v.1 - u.1) * d.2 - (v.2 - u.2) * d.1)
  obtain ⟨j, hj, j1, j2⟩ := ge_abs_ge d.1
  obtain ⟨i, hi, i1, i2⟩ := ge_abs_ge d.2
  refine ⟨k + j + i + 1, fun K hK K0 => ?_⟩
  have KK := Int.mul_pos K0 K0
  rcases Int.lt_trichotomy (ge_o u v m) 0 with q | q | q
  · intro z
    refine ge_free_line (u := ge_s K v) (v := ge_s K u) ?_ ?_ (ge_meet_flip z)
    · rw [ge_o_s, ge_o_swap]; exact Int.mul_pos KK (by omega)
    · rw [ge_mvd_o, ge_o_swap u v]
      have := ge_big (K := K) (t := (u.1 - v.1) * d.2 - (u.2 - v.2) * d.1) (o := -ge_o u v m) (by omega) K0 (by
        have : (u.1 - v.1) * d.2 - (u.2 - v.2) * d.1 = -((v.1 - u.1) * d.2 - (v.2 - u.2) * d.1) := by grind
        omega)
      exact this
  · have e1 : ∀ p : GPt, ge_o (0, 0) (0, -1) p = p.1 := fun p => by unfold ge_o; grind
    have e2 : ∀ p : GPt, ge_o (0, 0) (0, 1) p = -p.1 := fun p => by unfold ge_o; grind
    have e3 : ∀ p : GPt, ge_o (0, 0) (1, 0) p = p.2 := fun p => by unfold ge_o; grind
    have e4 : ∀ p : GPt, ge_o (0, 0) (-1, 0) p = -p.2 := fun p => by unfold ge_o; grind
    have lt : ∀ {x y : Int}, x < y → K * x + K ≤ K * y := fun {x y} z => by
      have := (ge_sg_le K0).mpr (show x + 1 ≤ y by omega)
      rw [Int.mul_add] at this; omega
    have two : ∀ {r x y : Int}, 0 < (r - x) * (r - y) → (r < x ∧ r < y) ∨ (x < r ∧ y < r) := fun {r x y} z => by
      rcases Int.lt_trichotomy r x with a | a | a
      · left; refine ⟨a, ?_⟩
        rcases Int.lt_or_le r y with b | b
        · exact b
        · have := Int.mul_nonneg (show 0 ≤ x - r by omega) (show 0 ≤ r - y by omega)
          exfalso; grind
      · rw [a, Int.sub_self, Int.zero_mul] at z; omega
      · right; refine ⟨a, ?_⟩
        rcases Int.lt_or_le y r with b | b
        · exact b
        · have := Int.mul_nonneg (show 0 ≤ r - x by omega) (show 0 ≤ y - r by omega)
          exfalso; grind
    have hno : 0 < (m.1 - u.1) * (m.1 - v.1) ∨ 0 < (m.2 - u.2) * (m.2 - v.2) := by
      rcases Int.lt_or_le 0 ((m.1 - u.1) * (m.1 - v.1)) with a | a
      · exact Or.inl a
      · rcases Int.lt_or_le 0 ((m.2 - u.2) * (m.2 - v.2)) with b | b
        · exact Or.inr b
        · exact absurd ⟨q, a, b⟩ h
    rcases hno with z | z
    · rcases two z with ⟨a, b⟩ | ⟨a, b⟩
      · have a' := lt a
        have b' := lt b
        refine ge_low_free (c := (0, 0)) (a := (0, 1)) (K := -(K * m.1 + d.1) - 1 - j + d.1) ?_ ?_ ?_ ?_
        · rw [e2]; show -(K * u.1) ≤ _; omega
        · rw [e2]; show -(K * v.1) ≤ _; omega
        · rw [e2]; show _ < -(K * m.1); omega
        · rw [e2]; show _ < -(K * m.1 + d.1); omega
      · have a' := lt a
        have b' := lt b
        refine ge_low_free (c := (0, 0)) (a := (0, -1)) (K := K * m.1 - j - 1) ?_ ?_ ?_ ?_
        · rw [e1]; show K * u.1 ≤ _; omega
        · rw [e1]; show K * v.1 ≤ _; omega
        · rw [e1]; show _ < K * m.1; omega
        · rw [e1]; show _ < K * m.1 + d.1; omega
    · rcases two z with ⟨a, b⟩ | ⟨a, b⟩
      · have a' := lt a
        have b' := lt b
        refine ge_low_free (c := (0, 0)) (a := (-1, 0)) (K := -(K * m.2) - i - 1) ?_ ?_ ?_ ?_
        · rw [e4]; show -(K * u.2) ≤ _; omega
        · rw [e4]; show -(K * v.2) ≤ _; omega
        · rw [e4]; show _ < -(K * m.2); omega
        · rw [e4]; show _ < -(K * m.2 + d.2); omega
      · have a' := lt a
        have b' := lt b
        refine ge_low_free (c := (0, 0)) (a := (1, 0)) (K := K * m.2 - i - 1) ?_ ?_ ?_ ?_
        · rw [e3]; show K * u.2 ≤ _; omega
        · rw [e3]; show K * v.2 ≤ _; omega
        · rw [e3]; show _ < K * m.2; omega
        · rw [e3]; show _ < K * m.2 + d.2; omega
  · refine ge_free_line ?_ ?_
    · rw [ge_o_s]; exact Int.mul_pos KK q
    · rw [ge_mvd_o]
      exact ge_big q K0 (by omega)
theorem ge_epsL (m d : GPt) : ∀ (L : List (GPt × GPt)), (∀ e ∈ L, ¬ ge_on e.1 e.2 m) → ∃ K0 : Int, ∀ K : Int, K0 ≤ K → 0 < K → ∀ e ∈ L, ¬ ge_meet (ge_s K e.1) (ge_s K e.2) (ge_s K m) (ge_mvd K m d)
  | [], _ => ⟨1, fun _ _ _ e he => nomatch he⟩
  | f :: L, h => by
    obtain ⟨K1, h1⟩ := ge_eps1 d (h f List.mem_cons_self)
    obtain ⟨K2, h2⟩ := ge_epsL m d L (fun e he => h e (List.mem_cons_of_mem _ he))
    refine ⟨if K1 ≤ K2 then K2 else K1, fun K hK hp e he => ?_⟩
    have hK1 : K1 ≤ K := by split at hK <;> omega
    have hK2 : K2 ≤ K := by split at hK <;> omega
    rcases List.mem_cons.mp he with q | q
    · rw [q]; exact h1 K hK1 hp
    · exact h2 K hK2 hp e q
/-- two ways at once, in opposite directions -/
theorem ge_eps {l : List GPt} {m : GPt} (d : GPt) (ho : ge_off l m) : ∃ K : Int, 1 < K ∧ ∀ e ∈ ge_E (ge_S K l), ¬ ge_meet e.1 e.2 (ge_s K m) (ge_mvd K m d) ∧ ¬ ge_meet e.1 e.2 (ge_s K m) (ge_mvd K m (-d.1, -d.2)) := by
  obtain ⟨K1, h1⟩ := ge_epsL m d (ge_E l) ho
  obtain ⟨K2, h2⟩ := ge_epsL m (-d.1, -d.2) (ge_E l) ho
  obtain ⟨k1, a1, b1, c1⟩ := ge_abs_ge K1
  obtain ⟨k2, a2, b2, c2⟩ := ge_abs_ge K2
  refine ⟨k1 + k2 + 2, by omega, fun e he => ?_⟩
  rw [ge_E_S] at he
  obtain ⟨f, hf, rfl⟩ := List.mem_map.mp he
  exact ⟨h1 _ (by omega) (by omega) f hf, h2 _ (by omega) (by omega) f hf⟩
end
section
/-! the winding count of a simple polygon is 0 or s; the step over a corner with an empty triangle -/
def ge_W (l : List GPt) (s : Int) : Prop := (s = 1 ∨ s = -1) ∧ ∀ k : Int, 0 < k → ∀ p : GPt, ge_off (ge_S k l) p → ge_wn (ge_S k l) p = 0 ∨ ge_wn (ge_S k l) p = s
/-- a corner whose triangle is empty, of a polygon of at least four -/
def ge_C (a b c : GPt) (mid : List GPt) : Prop := 0 < ge_o a b c ∧ ge_simple (b :: c :: (mid ++ [a])) ∧ (∀ w ∈ c :: (mid ++ [a]), w ≠ a → w ≠ c → ¬ ge_in a b c w) ∧ mid ≠ []
theorem ge_ed_snd {e : GPt × GPt} : ∀ {r : List GPt} {x : GPt}, e ∈ ge_ed (x :: r) → e.2 ∈ r
  | [], x, h => nomatch h
  | y :: r, x, h => by
    rcases List.mem_cons.mp h with q | q
    · rw [q]; exact List.mem_cons_self
    · exact List.mem_cons_of_mem _ (ge_ed_snd q)
section Corner
variable {a b c : GPt} {mid : List GPt}
theorem ge_C_s {k : Int} (hk : 0 < k) (H : ge_C a b c mid) : ge_C (ge_s k a) (ge_s k b) (ge_s k c) (ge_S k mid) := by
  obtain ⟨hF, hs, he, hm⟩ := H
  refine ⟨by rw [ge_o_s]; exact Int.mul_pos (ge_mm hk) hF, by rw [← ge_S_ear]; exact ge_simple_S hk hs, fun w hw h1 h2 z => ?_, fun q => hm (by unfold ge_S at q; exact List.map_eq_nil_iff.mp q)⟩
  rw [← ge_S_cut] at hw
  obtain ⟨w0, hw0, rfl⟩ := List.mem_map.mp hw
  exact he w0 hw0 (fun q => h1 (by rw [q])) (fun q => h2 (by rw [q])) ((ge_in_s hk _ _ _ _).mp z)
theorem ge_C_zz (u v : GPt) : ge_o u v u = 0 ∧ ge_o u v v = 0 := ⟨by unfold ge_o; grind, by unfold ge_o; grind⟩
theorem ge_C_cyc (a b c : GPt) : ge_o b c a = ge_o a b c ∧ ge_o c a b = ge_o a b c := ⟨ge_o_cyc a b c, by rw [ge_o_cyc, ge_o_cyc]⟩
theorem ge_C_off {p : GPt} (h1 : ¬ ge_on a b p) (h2 : ¬ ge_on b c p) (h3 : ∀ e ∈ ge_ed (c :: (mid ++ [a])), ¬ ge_on e.1 e.2 p) : ge_off (b :: c :: (mid ++ [a])) p := by
  intro e he
  rw [ge_E_ear] at he
  rcases List.mem_cons.mp he with q | q
  · rw [q]; exact h2
  · rcases List.mem_append.mp q with q | q
    · exact h3 e q
    · rw [List.mem_singleton.mp q]; exact h1
theorem ge_C_offt {p : GPt} (h1 : ¬ ge_on a c p) (h3 : ∀ e ∈ ge_ed (c :: (mid ++ [a])), ¬ ge_on e.1 e.2 p) : ge_off (c :: (mid ++ [a])) p := by
  intro e he
  rw [ge_E_cut] at he
  rcases List.mem_append.mp he with q | q
  · exact h3 e q
  · rw [List.mem_singleton.mp q]; exact h1
theorem ge_C_of {p : GPt} (h : ge_off (b :: c :: (mid ++ [a])) p) : ¬ ge_on a b p ∧ ¬ ge_on b c p ∧ ∀ e ∈ ge_ed (c :: (mid ++ [a])), ¬ ge_on e.1 e.2 p := by
  unfold ge_off at h
  rw [ge_E_ear] at h
  exact ⟨h (a, b) (by simp), h (b, c) (by simp), fun e he => h e (List.mem_cons_of_mem _ (List.mem_append_left _ he))⟩
theorem ge_C_int (H : ge_C a b c mid) {q : GPt} (hq : ge_int a b c q) : ge_off (b :: c :: (mid ++ [a])) q ∧ ge_off (c :: (mid ++ [a])) q := by
  have sd := ge_sides H.2.1 H.2.2.1
  have pe : ∀ e ∈ ge_ed (c :: (mid ++ [a])), ¬ ge_on e.1 e.2 q := fun e he z => ge_side_K (sd e he) z (ge_int_in hq) hq.2.2
  obtain ⟨q1, q2, q3⟩ := hq
  exact ⟨ge_C_off (fun z => by have := z.1; omega) (fun z => by have := z.1; omega) pe, ge_C_offt (fun z => by have := (ge_on_symm z).1; omega) pe⟩
theorem ge_C_pos (H : ge_C a b c mid) {p : GPt} (hp : ge_in a b c p) (ho : ge_off (b :: c :: (mid ++ [a])) p) : 0 < ge_o a b p ∧ 0 < ge_o b c p := by
  obtain ⟨n1, n2, -⟩ := ge_C_of ho
  constructor
  · rcases Int.lt_or_eq_of_le hp.1 with z | z
    · exact z
    · exact absurd (ge_in_on H.1 hp z.symm) n1
  · rcases Int.lt_or_eq_of_le hp.2.1 with z | z
    · exact z
    · exact absurd (ge_in_on (by rw [ge_o_cyc]; exact H.1) (ge_in_cyc hp) z.symm) n2
theorem ge_C_move (H : ge_C a b c mid) {p q : GPt} (hp : ge_in a b c p) (ho : ge_off (b :: c :: (mid ++ [a])) p) (hq : ge_int a b c q) : ge_wn (b :: c :: (mid ++ [a])) p = ge_wn (b :: c :: (mid ++ [a])) q := by
  have sd := ge_sides H.2.1 H.2.2.1
  have pp := ge_C_pos H hp ho
  have po := (ge_C_of ho).2.2
  refine ge_wn_mv (fun e he => ?_)
  rw [ge_E_ear] at he
  rcases List.mem_cons.mp he with z | z
  · rw [z]; exact ge_free_line pp.2 hq.2.1
  · rcases List.mem_append.mp z with z | z
    · exact ge_free_end (sd e z) hp (po e z) (ge_int_in hq) hq.2.2
    · rw [List.mem_singleton.mp z]; exact ge_free_line pp.1 hq.1
theorem ge_C_movet (H : ge_C a b c mid) {p q : GPt} (hp : ge_int a b c p) (hq : ge_int a b c q) : ge_wn (c :: (mid ++ [a])) p = ge_wn (c :: (mid ++ [a])) q := by
  have sd := ge_sides H.2.1 H.2.2.1
  refine ge_wn_mv (fun e he => ?_)
  rw [ge_E_cut] at he
  rcases List.mem_append.mp he with z | z
  · exact ge_free (sd e z) (ge_int_in hp) hp.2.2 (ge_int_in hq) hq.2.2
  · rw [List.mem_singleton.mp z]; exact ge_free3 hp.2.2 hq.2.2
/-- an inner point of ac lies off the polygon -/
theorem ge_C_mid (H : ge_C a b c mid) {m : GPt} {i j : Int} (w : ge_wt a c m i j) (hi : 0 < i) (hj : 0 < j) : ge_off (b :: c :: (mid ++ [a])) m ∧ 0 < ge_o a b m ∧ 0 < ge_o b c m ∧ ge_o c a m = 0 := by
  have e1 := ge_wt_o w a b
  have e2 := ge_wt_o w b c
  have e3 := ge_wt_o w c a
  rw [(ge_C_zz a b).1, Int.mul_zero] at e1
  rw [(ge_C_zz b c).2, Int.mul_zero, (ge_C_cyc a b c).1] at e2
  rw [(ge_C_zz c a).1, (ge_C_zz c a).2, Int.mul_zero, Int.mul_zero] at e3
  have hs := w.2.2.1
  have m1 : 0 < ge_o a b m := ge_pos hs (by have := Int.mul_pos hj H.1; omega)
  have m2 : 0 < ge_o b c m := ge_pos hs (by have := Int.mul_pos hi H.1; omega)
  have m3 : ge_o c a m = 0 := ge_zero hs (by omega)
  refine ⟨ge_C_off (fun z => by have := z.1; omega) (fun z => by have := z.1; omega) (fun e he z => ?_), m1, m2, m3⟩
  have hst := ge_cut_simple H.1 H.2.1 H.2.2.1
  have hne := ge_adj_ne hst.1 (by simp)
  have hea : ge_adj (c :: (mid ++ [a])) e.1 e.2 := Or.inl (by rw [ge_E_cut]; exact List.mem_append_left _ he)
  have hac : ge_adj (c :: (mid ++ [a])) a c := Or.inl (by rw [ge_E_cut]; simp)
  have hcn : c ∉ mid ++ [a] := (List.nodup_cons.mp hst.1).1
  have hd : ¬ ((e.1 = a ∧ e.2 = c) ∨ (e.1 = c ∧ e.2 = a)) := fun q => by
    rcases q with ⟨-, q⟩ | ⟨q1, q2⟩
    · exact hcn (q ▸ ge_ed_snd he)
    · have hm := H.2.2.2
      cases mid with
      | nil => exact hm rfl
      | cons y r =>
        have hn := (List.nodup_cons.mp hst.1).2
        rcases List.mem_cons.mp he with t | t
        · rw [t] at q2
          have q2 : y = a := q2
          exact (List.nodup_cons.mp hn).1 (by rw [q2]; simp)
        · exact hcn (q1 ▸ (ge_ed_mem _ e t).1)
  rcases (ge_touch hst hne hea hac hd z (ge_wt_on w)).2 with q | q
  · rw [q, (ge_C_zz a b).1] at m1; omega
  · rw [q, (ge_C_zz b c).2] at m2; omega
theorem ge_C_zero (H : ge_C a b c mid) (Z : ∃ k : Int, 0 < k ∧ ∃ q : GPt, ge_int (ge_s k a) (ge_s k b) (ge_s k c) q ∧ ge_wn (ge_S k (c :: (mid ++ [a]))) q = 0) {k : Int} (hk : 0 < k) {p : GPt} (hp : ge_int (ge_s k a) (ge_s k b) (ge_s k c) p) : ge_wn (ge_S k (c :: (mid ++ [a]))) p = 0 := by
  obtain ⟨n, hn, q, hq, hz⟩ := Z
  have hkn := Int.mul_pos hk hn
  have HN := ge_C_s hkn H
  have ip : ge_int (ge_s (k * n) a) (ge_s (k * n) b) (ge_s (k * n) c) (ge_s n p) := by
    rw [Int.mul_comm k n, ← ge_s_s, ← ge_s_s, ← ge_s_s]; exact (ge_int_s hn _ _ _ _).mpr hp
  have iq : ge_int (ge_s (k * n) a) (ge_s (k * n) b) (ge_s (k * n) c) (ge_s k q) := by
    rw [← ge_s_s, ← ge_s_s, ← ge_s_s]; exact (ge_int_s hk _ _ _ _).mpr hq
  have e := ge_C_movet HN ip iq
  rw [← ge_S_cut] at e
  have e1 : ge_wn (ge_S (k * n) (c :: (mid ++ [a]))) (ge_s n p) = ge_wn (ge_S k (c :: (mid ++ [a]))) p := by
    rw [Int.mul_comm k n, ← ge_S_S, ge_wn_s hn]
  have e2 : ge_wn (ge_S (k * n) (c :: (mid ++ [a]))) (ge_s k q) = ge_wn (ge_S n (c :: (mid ++ [a]))) q := by
    rw [← ge_S_S, ge_wn_s hk]
  rw [e1, e2, hz] at e
  exact e
theorem ge_C_one (H : ge_C a b c mid) (Z : ∃ k : Int, 0 < k ∧ ∃ q : GPt, ge_int (ge_s k a) (ge_s k b) (ge_s k c) q ∧ ge_wn (ge_S k (c :: (mid ++ [a]))) q = 0) {k : Int} (hk : 0 < k) {p : GPt} (hp : ge_int (ge_s k a) (ge_s k b) (ge_s k c) p) : ge_wn (ge_S k (b :: c :: (mid ++ [a]))) p = 1 := by
  have z := ge_C_zero H Z hk hp
  have HK := ge_C_s hk H
  have n1 : ¬ ge_on (ge_s k a) (ge_s k b) p := fun q => by have := q.1; have := hp.1; omega
  have n2 : ¬ ge_on (ge_s k b) (ge_s k c) p := fun q => by have := q.1; have := hp.2.1; omega
  have n3 : ¬ ge_on (ge_s k c) (ge_s k a) p := fun q => by have := q.1; have := hp.2.2; omega
  rcases ge_w3_in HK.1 n1 n2 n3 with ⟨-, w⟩ | ⟨q, -⟩
  · rw [ge_S_ear, ge_wn_ear, w, ← ge_S_cut, z]; rfl
  · exact absurd hp q
theorem ge_C_closed (H : ge_C a b c mid) (Z : ∃ k : Int, 0 < k ∧ ∃ q : GPt, ge_int (ge_s k a) (ge_s k b) (ge_s k c) q ∧ ge_wn (ge_S k (c :: (mid ++ [a]))) q = 0) {k : Int} (hk : 0 < k) {p : GPt} (hp : ge_in (ge_s k a) (ge_s k b) (ge_s k c) p) (ho : ge_off (ge_S k (b :: c :: (mid ++ [a]))) p) : ge_wn (ge_S k (b :: c :: (mid ++ [a]))) p = 1 := by
  have HK := ge_C_s hk H
  have h2 : (0 : Int) < 2 := by decide
  have h2k : 0 < 2 * k := by omega
  have HN := ge_C_s h2 HK
  rw [ge_S_ear] at ho
  have pp := ge_C_pos HK hp ho
  obtain ⟨g, hg⟩ : ∃ g : GPt, g = (p.1 + (ge_s k b).1, p.2 + (ge_s k b).2) := ⟨_, rfl⟩
  have f : ∀ u v : GPt, ge_o (ge_s 2 u) (ge_s 2 v) g = 2 * (ge_o u v p + ge_o u v (ge_s k b)) := fun u v => by
    rw [hg]; generalize ge_s k b = B; unfold ge_s ge_o; grind
  have F' := HK.1
  have c3 := (ge_C_cyc (ge_s k a) (ge_s k b) (ge_s k c)).2
  have z1 := (ge_C_zz (ge_s k a) (ge_s k b)).2
  have z2 := (ge_C_zz (ge_s k b) (ge_s k c)).1
  have gi : ge_int (ge_s 2 (ge_s k a)) (ge_s 2 (ge_s k b)) (ge_s 2 (ge_s k c)) g := by
    refine ⟨?_, ?_, ?_⟩
    · rw [f, z1]; omega
    · rw [f, z2]; omega
    · rw [f, c3]; have := hp.2.2; omega
  have off2 : ge_off (ge_s 2 (ge_s k b) :: ge_s 2 (ge_s k c) :: (ge_S 2 (ge_S k mid) ++ [ge_s 2 (ge_s k a)])) (ge_s 2 p) := by
    rw [← ge_S_ear]; exact ge_off_s h2 ho
  have e := ge_C_move HN ((ge_in_s h2 _ _ _ _).mpr hp) off2 gi
  rw [← ge_S_ear, ge_wn_s h2, ← ge_S_ear] at e
  rw [e, ge_S_S]
  exact ge_C_one H Z h2k (by rw [← ge_s_s, ← ge_s_s, ← ge_s_s]; exact gi)
end Corner
end
section
/-! across the cut, and across an edge: what the counts on both sides say -/
section Corner
variable {a b c : GPt} {mid : List GPt}
/-- m moved away from, and towards, a point w -/
theorem ge_mv_o (K : Int) (u v m w : GPt) : ge_o (ge_s K u) (ge_s K v) (ge_mvd K m (m.1 - w.1, m.2 - w.2)) = K * ((K + 1) * ge_o u v m - ge_o u v w) := by unfold ge_mvd ge_s ge_o; grind
theorem ge_mv_t (K : Int) (u v m w : GPt) : ge_o (ge_s K u) (ge_s K v) (ge_mvd K m (-(m.1 - w.1), -(m.2 - w.2))) = K * ((K - 1) * ge_o u v m + ge_o u v w) := by unfold ge_mvd ge_s ge_o; grind
theorem ge_not_on {u v p q : GPt} (h : ¬ ge_meet u v p q) : ¬ ge_on u v q := fun z => h (Or.inr (Or.inl z))
theorem ge_w3_int {a b c p : GPt} (hF : 0 < ge_o a b c) (hp : ge_int a b c p) : ge_w3 a b c p = 1 := by
  have n1 : ¬ ge_on a b p := fun z => by have := z.1; have := hp.1; omega
  have n2 : ¬ ge_on b c p := fun z => by have := z.1; have := hp.2.1; omega
  have n3 : ¬ ge_on c a p := fun z => by have := z.1; have := hp.2.2; omega
  rcases ge_w3_in hF n1 n2 n3 with ⟨-, z⟩ | ⟨z, -⟩
  · exact z
  · exact absurd hp z
/-- the way across the middle of ac -/
theorem ge_C_across (H : ge_C a b c mid) (Z : ∃ k : Int, 0 < k ∧ ∃ q : GPt, ge_int (ge_s k a) (ge_s k b) (ge_s k c) q ∧ ge_wn (ge_S k (c :: (mid ++ [a]))) q = 0) {s : Int} (W : ge_W (c :: (mid ++ [a])) s) : s = 1 := by
  have h2 : (0 : Int) < 2 := by decide
  have H2 := ge_C_s h2 H
  obtain ⟨m, hm⟩ : ∃ m : GPt, m = (a.1 + c.1, a.2 + c.2) := ⟨_, rfl⟩
  have w : ge_wt (ge_s 2 a) (ge_s 2 c) m 1 1 := ⟨by decide, by decide, by decide, by rw [hm]; unfold ge_s; grind, by rw [hm]; unfold ge_s; grind⟩
  obtain ⟨mo, m1, m2, m3⟩ := ge_C_mid H2 w (by decide) (by decide)
  obtain ⟨K, hK, hf⟩ := ge_eps (m.1 - (ge_s 2 b).1, m.2 - (ge_s 2 b).2) mo
  have hK0 : 0 < K := by omega
  obtain ⟨P, hP⟩ : ∃ P, P = ge_mvd K m (m.1 - (ge_s 2 b).1, m.2 - (ge_s 2 b).2) := ⟨_, rfl⟩
  obtain ⟨Q, hQ⟩ : ∃ Q, Q = ge_mvd K m (-(m.1 - (ge_s 2 b).1), -(m.2 - (ge_s 2 b).2)) := ⟨_, rfl⟩
  have hf1 : ∀ e ∈ ge_E (ge_S K (ge_s 2 b :: ge_s 2 c :: (ge_S 2 mid ++ [ge_s 2 a]))), ¬ ge_meet e.1 e.2 (ge_s K m) P := fun e he => by rw [hP]; exact (hf e he).1
  have hf2 : ∀ e ∈ ge_E (ge_S K (ge_s 2 b :: ge_s 2 c :: (ge_S 2 mid ++ [ge_s 2 a]))), ¬ ge_meet e.1 e.2 (ge_s K m) Q := fun e he => by rw [hQ]; exact (hf e he).2
  have HN := ge_C_s hK0 H2
  have F2 := H2.1
  have z1 := (ge_C_zz (ge_s 2 a) (ge_s 2 b)).2
  have z2 := (ge_C_zz (ge_s 2 b) (ge_s 2 c)).1
  have c3 := (ge_C_cyc (ge_s 2 a) (ge_s 2 b) (ge_s 2 c)).2
  have qi : ge_int (ge_s K (ge_s 2 a)) (ge_s K (ge_s 2 b)) (ge_s K (ge_s 2 c)) Q := by
    rw [hQ]
    refine ⟨?_, ?_, ?_⟩
    · rw [ge_mv_t, z1]; exact Int.mul_pos hK0 (by have := Int.mul_pos (show 0 < K - 1 by omega) m1; omega)
    · rw [ge_mv_t, z2]; exact Int.mul_pos hK0 (by have := Int.mul_pos (show 0 < K - 1 by omega) m2; omega)
    · rw [ge_mv_t, m3, c3, Int.mul_zero]; exact Int.mul_pos hK0 (by omega)
  have p3 : ge_o (ge_s K (ge_s 2 c)) (ge_s K (ge_s 2 a)) P < 0 := by
    rw [hP, ge_mv_o, m3, c3, Int.mul_zero]
    have := Int.mul_pos hK0 F2
    rw [Int.zero_sub, Int.mul_neg]; omega
  have one : ge_wn (ge_S K (ge_s 2 b :: ge_s 2 c :: (ge_S 2 mid ++ [ge_s 2 a]))) Q = 1 := by
    rw [← ge_S_ear, ge_S_S]
    exact ge_C_one H Z (by omega) (by rw [← ge_s_s, ← ge_s_s, ← ge_s_s]; exact qi)
  have eP := (ge_wn_mv hf1).symm.trans ((ge_wn_mv hf2).trans one)
  have po : ge_off (ge_S K (ge_s 2 b :: ge_s 2 c :: (ge_S 2 mid ++ [ge_s 2 a]))) P := fun e he => ge_not_on (hf1 e he)
  rw [ge_S_ear] at po eP
  obtain ⟨o1, o2, o3⟩ := ge_C_of po
  rw [ge_wn_ear] at eP
  have n3 : ¬ ge_on (ge_s K (ge_s 2 c)) (ge_s K (ge_s 2 a)) P := fun z => by have := z.1; omega
  have w0 : ge_w3 (ge_s K (ge_s 2 a)) (ge_s K (ge_s 2 b)) (ge_s K (ge_s 2 c)) P = 0 := by
    rcases ge_w3_in HN.1 o1 o2 n3 with ⟨q, -⟩ | ⟨-, q⟩
    · have := q.2.2; omega
    · exact q
  have pt : ge_off (ge_s K (ge_s 2 c) :: (ge_S K (ge_S 2 mid) ++ [ge_s K (ge_s 2 a)])) P := ge_C_offt (fun z => n3 (ge_on_symm z)) o3
  have et : ge_s K (ge_s 2 c) :: (ge_S K (ge_S 2 mid) ++ [ge_s K (ge_s 2 a)]) = ge_S (K * 2) (c :: (mid ++ [a])) := by rw [← ge_S_cut, ← ge_S_cut, ge_S_S]
  rw [et] at pt eP
  rcases W.2 (K * 2) (by omega) P pt with q | q <;> omega
theorem ge_C_W (H : ge_C a b c mid) (Z : ∃ k : Int, 0 < k ∧ ∃ q : GPt, ge_int (ge_s k a) (ge_s k b) (ge_s k c) q ∧ ge_wn (ge_S k (c :: (mid ++ [a]))) q = 0) {s : Int} (W : ge_W (c :: (mid ++ [a])) s) : ge_W (b :: c :: (mid ++ [a])) 1 := by
  have s1 := ge_C_across H Z W
  subst s1
  refine ⟨Or.inl rfl, fun k hk p ho => ?_⟩
  have HK := ge_C_s hk H
  by_cases hac : ge_on (ge_s k a) (ge_s k c) p
  · refine Or.inr (ge_C_closed H Z hk (ge_ac_in HK.1 hac (fun q => ?_)) ho)
    have hn := (List.nodup_cons.mp H.2.1.1).2
    exact (List.nodup_cons.mp hn).1 (by rw [← ge_s_inj hk q]; simp)
  · by_cases hi : ge_int (ge_s k a) (ge_s k b) (ge_s k c) p
    · exact Or.inr (ge_C_one H Z hk hi)
    · rw [ge_S_ear] at ho ⊢
      obtain ⟨o1, o2, o3⟩ := ge_C_of ho
      have w0 : ge_w3 (ge_s k a) (ge_s k b) (ge_s k c) p = 0 := by
        rcases ge_w3_in HK.1 o1 o2 (fun z => hac (ge_on_symm z)) with ⟨q, -⟩ | ⟨-, q⟩
        · exact absurd q hi
        · exact q
      have pt := ge_C_offt (mid := ge_S k mid) hac o3
      rw [ge_wn_ear, w0, ← ge_S_cut, Int.add_zero]
      rw [← ge_S_cut] at pt
      exact W.2 k hk p pt
/-- a good ear counts 0 of the rest -/
theorem ge_C_good (H : ge_C a b c mid) (hg : ge_good (b :: c :: (mid ++ [a])) a b c) {s : Int} (W : ge_W (c :: (mid ++ [a])) s) : ∃ k : Int, 0 < k ∧ ∃ q : GPt, ge_int (ge_s k a) (ge_s k b) (ge_s k c) q ∧ ge_wn (ge_S k (c :: (mid ++ [a]))) q = 0 := by
  have h3 : (0 : Int) < 3 := by decide
  have H3 := ge_C_s h3 H
  obtain ⟨q, hq⟩ : ∃ q : GPt, q = (a.1 + b.1 + c.1, a.2 + b.2 + c.2) := ⟨_, rfl⟩
  have f : ∀ u v : GPt, ge_o (ge_s 3 u) (ge_s 3 v) q = 3 * (ge_o u v a + ge_o u v b + ge_o u v c) := fun u v => by rw [hq]; unfold ge_s ge_o; grind
  have F := H.1
  have qi : ge_int (ge_s 3 a) (ge_s 3 b) (ge_s 3 c) q := by
    refine ⟨?_, ?_, ?_⟩
    · rw [f, (ge_C_zz a b).1, (ge_C_zz a b).2]; omega
    · rw [f, (ge_C_zz b c).1, (ge_C_zz b c).2, (ge_C_cyc a b c).1]; omega
    · rw [f, (ge_C_zz c a).1, (ge_C_zz c a).2, (ge_C_cyc a b c).2]; omega
  refine ⟨3, h3, q, qi, ?_⟩
  obtain ⟨o1, o2⟩ := ge_C_int H3 qi
  rw [← ge_S_ear] at o1
  rw [← ge_S_cut] at o2
  have par := hg.2 3 h3 q (Or.inl (ge_int_in qi)) o1
  rw [ge_par_wn] at par
  have par := of_decide_eq_true par
  have w1 : ge_w3 (ge_s 3 a) (ge_s 3 b) (ge_s 3 c) q = 1 := ge_w3_int H3.1 qi
  rw [ge_S_ear, ge_wn_ear, w1, ← ge_S_cut] at par
  rcases W.2 3 h3 q o2 with z | z
  · exact z
  · rcases W.1 with r | r <;> omega
/-- an empty corner that turns to the polygon's side counts 0 of the rest: across the middle of ab -/
theorem ge_C_turn (H : ge_C a b c mid) (W : ge_W (b :: c :: (mid ++ [a])) 1) : ∃ k : Int, 0 < k ∧ ∃ q : GPt, ge_int (ge_s k a) (ge_s k b) (ge_s k c) q ∧ ge_wn (ge_S k (c :: (mid ++ [a]))) q = 0 := by
  have h2 : (0 : Int) < 2 := by decide
  have H2 := ge_C_s h2 H
  obtain ⟨m, hm⟩ : ∃ m : GPt, m = (a.1 + b.1, a.2 + b.2) := ⟨_, rfl⟩
  have w : ge_wt (ge_s 2 a) (ge_s 2 b) m 1 1 := ⟨by decide, by decide, by decide, by rw [hm]; unfold ge_s; grind, by rw [hm]; unfold ge_s; grind⟩
  have F2 := H2.1
  have e1 := ge_wt_o w (ge_s 2 a) (ge_s 2 b)
  have e2 := ge_wt_o w (ge_s 2 b) (ge_s 2 c)
  have e3 := ge_wt_o w (ge_s 2 c) (ge_s 2 a)
  rw [(ge_C_zz _ _).1, (ge_C_zz _ _).2] at e1
  rw [(ge_C_zz _ _).1, (ge_C_cyc (ge_s 2 a) (ge_s 2 b) (ge_s 2 c)).1] at e2
  rw [(ge_C_zz _ _).2, (ge_C_cyc (ge_s 2 a) (ge_s 2 b) (ge_s 2 c)).2] at e3
  have m1 : ge_o (ge_s 2 a) (ge_s 2 b) m = 0 := by omega
  have m2 : 0 < ge_o (ge_s 2 b) (ge_s 2 c) m := by omega
  have m3 : 0 < ge_o (ge_s 2 c) (ge_s 2 a) m := by omega
  have hne := ge_adj_ne H2.2.1.1 (by simp)
  have hbt := (List.nodup_cons.mp H2.2.1.1).1
  have mo : ge_off (ge_s 2 c :: (ge_S 2 mid ++ [ge_s 2 a])) m := by
    refine ge_C_offt (fun z => by have := (ge_on_symm z).1; omega) (fun e he z => ?_)
    have me := ge_ed_mem _ e he
    have hea : ge_adj (ge_s 2 b :: ge_s 2 c :: (ge_S 2 mid ++ [ge_s 2 a])) e.1 e.2 := Or.inl (by rw [ge_E_ear]; exact List.mem_cons_of_mem _ (List.mem_append_left _ he))
    have hab : ge_adj (ge_s 2 b :: ge_s 2 c :: (ge_S 2 mid ++ [ge_s 2 a])) (ge_s 2 a) (ge_s 2 b) := Or.inl (by rw [ge_E_ear]; simp)
    have hd : ¬ ((e.1 = ge_s 2 a ∧ e.2 = ge_s 2 b) ∨ (e.1 = ge_s 2 b ∧ e.2 = ge_s 2 a)) := fun q => by
      rcases q with ⟨-, q⟩ | ⟨q, -⟩
      · exact hbt (q ▸ me.2)
      · exact hbt (q ▸ me.1)
    rcases (ge_touch H2.2.1 hne hea hab hd z (ge_wt_on w)).2 with q | q
    · rw [q, (ge_C_zz _ _).2] at m3; omega
    · rw [q, (ge_C_zz _ _).1] at m2; omega
  obtain ⟨K, hK, hf⟩ := ge_eps (m.1 - (ge_s 2 c).1, m.2 - (ge_s 2 c).2) mo
  have hK0 : 0 < K := by omega
  obtain ⟨P, hP⟩ : ∃ P, P = ge_mvd K m (m.1 - (ge_s 2 c).1, m.2 - (ge_s 2 c).2) := ⟨_, rfl⟩
  obtain ⟨Q, hQ⟩ : ∃ Q, Q = ge_mvd K m (-(m.1 - (ge_s 2 c).1), -(m.2 - (ge_s 2 c).2)) := ⟨_, rfl⟩
  have hf1 : ∀ e ∈ ge_E (ge_S K (ge_s 2 c :: (ge_S 2 mid ++ [ge_s 2 a]))), ¬ ge_meet e.1 e.2 (ge_s K m) P := fun e he => by rw [hP]; exact (hf e he).1
  have hf2 : ∀ e ∈ ge_E (ge_S K (ge_s 2 c :: (ge_S 2 mid ++ [ge_s 2 a]))), ¬ ge_meet e.1 e.2 (ge_s K m) Q := fun e he => by rw [hQ]; exact (hf e he).2
  have HN := ge_C_s hK0 H2
  have qi : ge_int (ge_s K (ge_s 2 a)) (ge_s K (ge_s 2 b)) (ge_s K (ge_s 2 c)) Q := by
    rw [hQ]
    refine ⟨?_, ?_, ?_⟩
    · rw [ge_mv_t, m1, Int.mul_zero]; exact Int.mul_pos hK0 (by omega)
    · rw [ge_mv_t, (ge_C_zz _ _).2]; exact Int.mul_pos hK0 (by have := Int.mul_pos (show 0 < K - 1 by omega) m2; omega)
    · rw [ge_mv_t, (ge_C_zz _ _).1]; exact Int.mul_pos hK0 (by have := Int.mul_pos (show 0 < K - 1 by omega) m3; omega)
  have p1 : ge_o (ge_s K (ge_s 2 a)) (ge_s K (ge_s 2 b)) P < 0 := by
    rw [hP, ge_mv_o, m1, Int.mul_zero]
    have := Int.mul_pos hK0 F2
    rw [Int.zero_sub, Int.mul_neg]; omega
  have p2 : 0 < ge_o (ge_s K (ge_s 2 b)) (ge_s K (ge_s 2 c)) P := by
    rw [hP, ge_mv_o, (ge_C_zz _ _).2]
    exact Int.mul_pos hK0 (by have := Int.mul_pos (show 0 < K + 1 by omega) m2; omega)
  have p3 : 0 < ge_o (ge_s K (ge_s 2 c)) (ge_s K (ge_s 2 a)) P := by
    rw [hP, ge_mv_o, (ge_C_zz _ _).1]
    exact Int.mul_pos hK0 (by have := Int.mul_pos (show 0 < K + 1 by omega) m3; omega)
  have ePQ := (ge_wn_mv hf1).symm.trans (ge_wn_mv hf2)
  have po : ge_off (ge_S K (ge_s 2 c :: (ge_S 2 mid ++ [ge_s 2 a]))) P := fun e he => ge_not_on (hf1 e he)
  rw [ge_S_cut] at po ePQ
  have n1 : ¬ ge_on (ge_s K (ge_s 2 a)) (ge_s K (ge_s 2 b)) P := fun z => by have := z.1; omega
  have n2 : ¬ ge_on (ge_s K (ge_s 2 b)) (ge_s K (ge_s 2 c)) P := fun z => by have := z.1; omega
  have n3 : ¬ ge_on (ge_s K (ge_s 2 c)) (ge_s K (ge_s 2 a)) P := fun z => by have := z.1; omega
  have po3 : ∀ e ∈ ge_ed (ge_s K (ge_s 2 c) :: (ge_S K (ge_S 2 mid) ++ [ge_s K (ge_s 2 a)])), ¬ ge_on e.1 e.2 P := fun e he => po e (by rw [ge_E_cut]; exact List.mem_append_left _ he)
  have pl := ge_C_off (mid := ge_S K (ge_S 2 mid)) n1 n2 po3
  have ql := (ge_C_int HN qi).1
  have el : ge_s K (ge_s 2 b) :: ge_s K (ge_s 2 c) :: (ge_S K (ge_S 2 mid) ++ [ge_s K (ge_s 2 a)]) = ge_S (K * 2) (b :: c :: (mid ++ [a])) := by rw [← ge_S_ear, ← ge_S_ear, ge_S_S]
  have et : ge_s K (ge_s 2 c) :: (ge_S K (ge_S 2 mid) ++ [ge_s K (ge_s 2 a)]) = ge_S (K * 2) (c :: (mid ++ [a])) := by rw [← ge_S_cut, ← ge_S_cut, ge_S_S]
  have hK2 : 0 < K * 2 := by omega
  rw [el] at pl ql
  have vP := W.2 (K * 2) hK2 P pl
  have vQ := W.2 (K * 2) hK2 Q ql
  rw [← el, ge_wn_ear] at vP vQ
  have w0 : ge_w3 (ge_s K (ge_s 2 a)) (ge_s K (ge_s 2 b)) (ge_s K (ge_s 2 c)) P = 0 := by
    rcases ge_w3_in HN.1 n1 n2 n3 with ⟨q, -⟩ | ⟨-, q⟩
    · have := q.1; omega
    · exact q
  have w1 : ge_w3 (ge_s K (ge_s 2 a)) (ge_s K (ge_s 2 b)) (ge_s K (ge_s 2 c)) Q = 1 := ge_w3_int HN.1 qi
  refine ⟨K * 2, hK2, Q, by rw [← ge_s_s, ← ge_s_s, ← ge_s_s]; exact qi, ?_⟩
  rw [← et]
  omega
theorem ge_C_isgood (H : ge_C a b c mid) (Z : ∃ k : Int, 0 < k ∧ ∃ q : GPt, ge_int (ge_s k a) (ge_s k b) (ge_s k c) q ∧ ge_wn (ge_S k (c :: (mid ++ [a]))) q = 0) : ge_good (b :: c :: (mid ++ [a])) a b c := by
  refine ⟨fun w hw h1 h2 h3 z => ?_, fun k hk p hp ho => ?_⟩
  · rcases List.mem_cons.mp hw with q | q
    · exact h2 q
    · exact H.2.2.1 w q h1 h3 (ge_tc_in H.1 z)
  · rw [ge_par_wn, ge_C_closed H Z hk (ge_tc_in (ge_C_s hk H).1 hp) ho]
    rfl
end Corner
end
section
/-! the sign of the area is the side of the polygon: ears turn to it, and cutting them keeps it -/
def ge_ap : List GPt → Int
  | [] => 0
  | [_] => 0
  | a :: b :: r => (a.1 * b.2 - b.1 * a.2) + ge_ap (b :: r)
/-- twice the signed area -/
def ge_ar (l : List GPt) : Int := ge_ap (ge_cy l)
theorem ge_ap_app (xs : List GPt) (m : GPt) (ys : List GPt) : ge_ap (xs ++ m :: ys) = ge_ap (xs ++ [m]) + ge_ap (m :: ys) := by
  induction xs with
  | nil => show ge_ap (m :: ys) = 0 + ge_ap (m :: ys); omega
  | cons a r ih =>
    cases r with
    | nil => show (a.1 * m.2 - m.1 * a.2) + ge_ap (m :: ys) = ((a.1 * m.2 - m.1 * a.2) + 0) + ge_ap (m :: ys); omega
    | cons b r =>
      show (a.1 * b.2 - b.1 * a.2) + ge_ap (b :: r ++ m :: ys) = ((a.1 * b.2 - b.1 * a.2) + ge_ap (b :: r ++ [m])) + ge_ap (m :: ys)
      rw [ih]; omega
theorem ge_ar_rot (s t : List GPt) : ge_ar (s ++ t) = ge_ar (t ++ s) := by
  cases s with
  | nil => simp
  | cons a s =>
    cases t with
    | nil => simp
    | cons b t =>
      have h1 : ge_ar (a :: s ++ b :: t) = ge_ap (a :: s ++ [b]) + ge_ap (b :: t ++ [a]) := by
        show ge_ap (a :: (s ++ b :: t) ++ [a]) = _
        rw [show a :: (s ++ b :: t) ++ [a] = (a :: s) ++ b :: (t ++ [a]) by simp, ge_ap_app]
        rfl
      have h2 : ge_ar (b :: t ++ a :: s) = ge_ap (b :: t ++ [a]) + ge_ap (a :: s ++ [b]) := by
        show ge_ap (b :: (t ++ a :: s) ++ [b]) = _
        rw [show b :: (t ++ a :: s) ++ [b] = (b :: t) ++ a :: (s ++ [b]) by simp, ge_ap_app]
        rfl
      rw [h1, h2]
      omega
theorem ge_ap_rev (l : List GPt) : ge_ap l.reverse = -ge_ap l := by
  induction l with
  | nil => rfl
  | cons a r ih =>
    cases r with
    | nil => rfl
    | cons b r =>
      rw [show (a :: b :: r).reverse = r.reverse ++ b :: [a] by simp, ge_ap_app]
      rw [show r.reverse ++ [b] = (b :: r).reverse by simp, ih]
      show -ge_ap (b :: r) + ((b.1 * a.2 - a.1 * b.2) + 0) = -((a.1 * b.2 - b.1 * a.2) + ge_ap (b :: r))
      omega
theorem ge_ar_rev (b : GPt) (t : List GPt) : ge_ar (b :: t.reverse) = -ge_ar (b :: t) := by
  unfold ge_ar
  rw [ge_cy_rev, ge_ap_rev]
theorem ge_ar_ear (a b c : GPt) (mid : List GPt) : ge_ar (b :: c :: (mid ++ [a])) = ge_ar (c :: (mid ++ [a])) + ge_o a b c := by
  have h1 : ge_ar (b :: c :: (mid ++ [a])) = (b.1 * c.2 - c.1 * b.2) + (ge_ap (c :: (mid ++ [a])) + (a.1 * b.2 - b.1 * a.2)) := by
    show ge_ap (b :: (c :: (mid ++ [a])) ++ [b]) = _
    rw [show b :: (c :: (mid ++ [a])) ++ [b] = (b :: c :: mid) ++ a :: [b] by simp, ge_ap_app]
    show ((b.1 * c.2 - c.1 * b.2) + ge_ap (c :: mid ++ [a])) + ((a.1 * b.2 - b.1 * a.2) + 0) = _
    rw [show c :: mid ++ [a] = c :: (mid ++ [a]) by simp]
    omega
  have h2 : ge_ar (c :: (mid ++ [a])) = ge_ap (c :: (mid ++ [a])) + (a.1 * c.2 - c.1 * a.2) := by
    show ge_ap (c :: (mid ++ [a]) ++ [c]) = _
    rw [show c :: (mid ++ [a]) ++ [c] = (c :: mid) ++ a :: [c] by simp, ge_ap_app]
    show ge_ap (c :: mid ++ [a]) + ((a.1 * c.2 - c.1 * a.2) + 0) = _
    rw [show c :: mid ++ [a] = c :: (mid ++ [a]) by simp]
    omega
  have h3 : ge_o a b c = (b.1 * c.2 - c.1 * b.2) + (a.1 * b.2 - b.1 * a.2) - (a.1 * c.2 - c.1 * a.2) := by unfold ge_o; grind
  rw [h1, h2, h3]
  omega
theorem ge_W_rot {s t : List GPt} {σ : Int} (h : ge_W (s ++ t) σ) : ge_W (t ++ s) σ := by
  refine ⟨h.1, fun k hk p ho => ?_⟩
  have ho' := (ge_eqv_off (ge_eqv_rot s t)).mpr ho
  have := h.2 k hk p ho'
  rw [ge_S_app, ge_wn_rot, ← ge_S_app] at this
  exact this
theorem ge_W_rev {b : GPt} {t : List GPt} {σ : Int} (h : ge_W (b :: t) σ) : ge_W (b :: t.reverse) (-σ) := by
  refine ⟨by have := h.1; omega, fun k hk p ho => ?_⟩
  have ho' := (ge_eqv_off (ge_eqv_rev b t)).mpr ho
  have := h.2 k hk p ho'
  rw [show ge_S k (b :: t.reverse) = ge_s k b :: (ge_S k t).reverse by simp [ge_S], ge_wn_rev]
  have e : ge_S k (b :: t) = ge_s k b :: ge_S k t := rfl
  rw [e] at this
  omega
theorem ge_nb {a b c w : GPt} {mid : List GPt} (hn : (b :: c :: (mid ++ [a])).Nodup) (h : ge_adj (b :: c :: (mid ++ [a])) b w) : w = a ∨ w = c := by
  have hb := (List.nodup_cons.mp hn).1
  have hat : a ∈ c :: (mid ++ [a]) := by simp
  unfold ge_adj at h
  rw [ge_E_ear] at h
  have nin : ∀ q : GPt × GPt, q ∈ ge_ed (c :: (mid ++ [a])) → q.1 ≠ b ∧ q.2 ≠ b := fun q hq => ⟨fun z => hb (z ▸ (ge_ed_mem _ q hq).1), fun z => hb (z ▸ (ge_ed_mem _ q hq).2)⟩
  rcases h with h | h
  · rcases List.mem_cons.mp h with h | h
    · exact Or.inr (Prod.mk.inj h).2
    · rcases List.mem_append.mp h with h | h
      · exact absurd rfl (nin _ h).1
      · have := (Prod.mk.inj (List.mem_singleton.mp h)).1
        exact absurd (this ▸ hat) hb
  · rcases List.mem_cons.mp h with h | h
    · have := (Prod.mk.inj h).2
      exact absurd (this ▸ List.mem_cons_self) hb
    · rcases List.mem_append.mp h with h | h
      · exact absurd rfl (nin _ h).2
      · exact Or.inl (Prod.mk.inj (List.mem_singleton.mp h)).1
theorem ge_W_3 {a b c : GPt} (hF : 0 < ge_o a b c) : ge_W (b :: c :: ([] ++ [a])) 1 ∧ 0 < ge_ar (b :: c :: ([] ++ [a])) := by
  refine ⟨⟨Or.inl rfl, fun k hk p ho => ?_⟩, ?_⟩
  · rw [ge_S_ear] at ho ⊢
    obtain ⟨o1, o2, o3⟩ := ge_C_of ho
    have n3 := o3 (ge_s k c, ge_s k a) List.mem_cons_self
    have h := ge_w3_01 (by rw [ge_o_s]; exact Int.mul_pos (ge_mm hk) hF) o1 o2 n3
    rw [ge_wn_ear]
    have z : ge_wn (ge_s k c :: (ge_S k [] ++ [ge_s k a])) p = 0 := by
      show ge_sc (ge_s k c) (ge_s k a) p + (ge_sc (ge_s k a) (ge_s k c) p + 0) = 0
      rw [ge_sc_swap (ge_s k c) (ge_s k a)]; omega
    rw [z]
    omega
  · rw [ge_ar_ear]
    have z : ge_ar (c :: ([] ++ [a])) = 0 := by
      show (c.1 * a.2 - a.1 * c.2) + ((a.1 * c.2 - c.1 * a.2) + 0) = 0
      omega
    omega
theorem ge_turn_pos {n : Nat} (ih : ∀ l : List GPt, l.length ≤ n → 3 ≤ l.length → ge_simple l → ∃ σ : Int, ge_W l σ ∧ 0 < σ * ge_ar l) {a b c : GPt} {mid : List GPt} (hlen : mid.length + 3 ≤ n + 1) (hF : 0 < ge_o a b c) (hs : ge_simple (b :: c :: (mid ++ [a]))) (hg : ge_good (b :: c :: (mid ++ [a])) a b c) : ge_W (b :: c :: (mid ++ [a])) 1 ∧ 0 < ge_ar (b :: c :: (mid ++ [a])) := by
  by_cases hm : mid = []
  · subst hm; exact ge_W_3 hF
  · have hm1 : 0 < mid.length := List.length_pos_iff.mpr hm
    have hb := (List.nodup_cons.mp hs.1).1
    have H : ge_C a b c mid := ⟨hF, hs, fun w hw h1 h2 z => hg.1 w (List.mem_cons_of_mem _ hw) h1 (fun q => hb (q ▸ hw)) h2 (Or.inl z), hm⟩
    obtain ⟨σ, W, ha⟩ := ih (c :: (mid ++ [a])) (by simp; omega) (by simp; omega) (ge_cut_simple H.1 H.2.1 H.2.2.1)
    have Z := ge_C_good H hg W
    have s1 := ge_C_across H Z W
    refine ⟨ge_C_W H Z W, ?_⟩
    rw [ge_ar_ear]
    subst s1
    omega
/-- a corner with an empty triangle on the side σ -/
def ge_ear (l : List GPt) (σ : Int) (s r : List GPt) (a e c : GPt) (mid : List GPt) : Prop := l = s ++ e :: r ∧ r ++ s = c :: (mid ++ [a]) ∧ 0 < σ * ge_o a e c ∧ ∀ w ∈ l, w ≠ a → w ≠ e → w ≠ c → ¬ ge_tc a e c w
theorem ge_turn_n : ∀ (n : Nat) (l : List GPt), l.length ≤ n → 3 ≤ l.length → ge_simple l → (∃ σ : Int, ge_W l σ ∧ 0 < σ * ge_ar l ∧ ∃ (s r : List GPt) (a e c : GPt) (mid : List GPt), ge_ear l σ s r a e c mid)
  | 0, l, h1, h2, _ => by omega
  | n + 1, l, h1, h2, hs => by
    have ih : ∀ l : List GPt, l.length ≤ n → 3 ≤ l.length → ge_simple l → ∃ σ : Int, ge_W l σ ∧ 0 < σ * ge_ar l := fun l q1 q2 q3 => by
      obtain ⟨σ, w1, w2, -⟩ := ge_turn_n n l q1 q2 q3
      exact ⟨σ, w1, w2⟩
    obtain ⟨u, v, r0, rfl⟩ : ∃ u v r, l = u :: v :: r := by
      match l, h2 with
      | u :: v :: r, _ => exact ⟨u, v, r, rfl⟩
    obtain ⟨x, e, y, g1, g2, g3, -, -, g6, g7⟩ := ge_ears h2 hs u v (Or.inl List.mem_cons_self)
    obtain ⟨s, r, hl⟩ := List.append_of_mem (ge_adj_mem g1).2
    rw [hl] at h1 h2 hs g1 g2 g7 ⊢
    clear hl
    have eq1 := ge_eqv_rot s (e :: r)
    have nd1 : (e :: r ++ s).Nodup := List.perm_append_comm.nodup_iff.mp hs.1
    have hs1 := ge_eqv_simple eq1 nd1 hs
    have hlen : (r ++ s).length = (s ++ e :: r).length - 1 := by simp; omega
    obtain ⟨c, mid, a, ht⟩ := ge_two (t := r ++ s) (by omega)
    have g1' := (eq1.2.1 _ _).mp g1
    have g2' := (eq1.2.1 _ _).mp g2
    have g7' := ge_eqv_good eq1 g7
    rw [show e :: r ++ s = e :: (r ++ s) by simp, ht] at hs1 nd1 g1' g2' g7'
    rw [ht] at hlen
    have hl2 : mid.length + 3 ≤ n + 1 := by simp at hlen h1; omega
    have hgac : ge_good (e :: c :: (mid ++ [a])) a e c ∧ ge_o a e c ≠ 0 := by
      have sw : ge_o y e x = -ge_o x e y := by unfold ge_o; grind
      rcases ge_nb nd1 (ge_adj_symm g1') with q1 | q1 <;> rcases ge_nb nd1 g2' with q2 | q2
      · exact absurd (q1.trans q2.symm) g3
      · subst q1; subst q2; exact ⟨g7', g6⟩
      · subst q1; subst q2; exact ⟨ge_good_symm g7', by omega⟩
      · exact absurd (q1.trans q2.symm) g3
    obtain ⟨hg, hF0⟩ := hgac
    have hemp : ∀ w ∈ s ++ e :: r, w ≠ a → w ≠ e → w ≠ c → ¬ ge_tc a e c w := fun w hw => by
      refine hg.1 w ?_
      rw [← ht]; simp at hw ⊢; grind
    have fin : ∀ σ : Int, ge_W (e :: c :: (mid ++ [a])) σ → 0 < σ * ge_ar (e :: c :: (mid ++ [a])) → 0 < σ * ge_o a e c → ∃ σ : Int, ge_W (s ++ e :: r) σ ∧ 0 < σ * ge_ar (s ++ e :: r) ∧ ∃ (s' r' : List GPt) (a e' c : GPt) (mid : List GPt), ge_ear (s ++ e :: r) σ s' r' a e' c mid := fun σ w1 w2 w3 => by
      rw [← ht] at w1 w2
      refine ⟨σ, ge_W_rot (s := e :: r) (t := s) w1, ?_, s, r, a, e, c, mid, rfl, ht, w3, hemp⟩
      rw [ge_ar_rot]
      exact w2
    rcases Int.lt_or_lt_of_ne hF0 with q | q
    · have eq2 := ge_eqv_rev e (c :: (mid ++ [a]))
      have er : (c :: (mid ++ [a])).reverse = a :: (mid.reverse ++ [c]) := by simp
      have hg2 := ge_good_symm (ge_eqv_good eq2 hg)
      have nd2 : (e :: (c :: (mid ++ [a])).reverse).Nodup := List.nodup_cons.mpr ⟨fun z => (List.nodup_cons.mp nd1).1 (List.mem_reverse.mp z), (List.reverse_perm _).nodup_iff.mpr (List.nodup_cons.mp nd1).2⟩
      have hs2 := ge_eqv_simple eq2 nd2 hs1
      have ar2 := ge_ar_rev e (c :: (mid ++ [a]))
      rw [er] at hg2 hs2 ar2
      have sw : ge_o c e a = -ge_o a e c := by unfold ge_o; grind
      obtain ⟨w1, w2⟩ := ge_turn_pos ih (by simp; omega) (by omega) hs2 hg2
      have w3 := ge_W_rev w1
      rw [← er, List.reverse_reverse] at w3
      exact fin (-1) w3 (by omega) (by omega)
    · obtain ⟨w1, w2⟩ := ge_turn_pos ih hl2 q hs1 hg
      exact fin 1 w1 (by omega) (by omega)
/-- a simple polygon has an ear on the side of its area's sign -/
theorem ge_orient {l : List GPt} (h3 : 3 ≤ l.length) (hs : ge_simple l) : ∃ σ : Int, ge_W l σ ∧ 0 < σ * ge_ar l ∧ ∃ (s r : List GPt) (a e c : GPt) (mid : List GPt), ge_ear l σ s r a e c mid := ge_turn_n l.length l (Nat.le_refl _) h3 hs
theorem ge_sgn {σ τ x : Int} (h1 : σ = 1 ∨ σ = -1) (h2 : τ = 1 ∨ τ = -1) (h3 : 0 < σ * x) (h4 : 0 < τ * x) : σ = τ := by
  rcases h1 with h1 | h1 <;> rcases h2 with h2 | h2 <;> subst h1 <;> subst h2 <;> omega
theorem ge_cut_pos {a b c : GPt} {mid : List GPt} (H : ge_C a b c mid) (ha : 0 < ge_ar (b :: c :: (mid ++ [a]))) : ge_simple (c :: (mid ++ [a])) ∧ 0 < ge_ar (c :: (mid ++ [a])) ∧ ge_good (b :: c :: (mid ++ [a])) a b c := by
  have hst := ge_cut_simple H.1 H.2.1 H.2.2.1
  have hm1 : 0 < mid.length := List.length_pos_iff.mpr H.2.2.2
  obtain ⟨σ, w1, w2, -⟩ := ge_orient (by simp) H.2.1
  have s1 := ge_sgn w1.1 (Or.inl rfl) w2 (by omega : (0 : Int) < 1 * ge_ar (b :: c :: (mid ++ [a])))
  subst s1
  obtain ⟨τ, v1, v2, -⟩ := ge_orient (l := c :: (mid ++ [a])) (by simp; omega) hst
  have Z := ge_C_turn H w1
  have t1 := ge_C_across H Z v1
  subst t1
  exact ⟨hst, by omega, ge_C_isgood H Z⟩
/-- cutting such an ear keeps the polygon simple and its side; and the ear is good -/
theorem ge_cut_ok {l s r mid : List GPt} {a e c : GPt} {σ : Int} (hs : ge_simple l) (hσ : σ = 1 ∨ σ = -1) (ha : 0 < σ * ge_ar l) (he : ge_ear l σ s r a e c mid) (hm : mid ≠ []) : ge_simple (s ++ r) ∧ 0 < σ * ge_ar (s ++ r) ∧ ge_good l a e c := by
  obtain ⟨rfl, ht, ho, hem⟩ := he
  have eq1 := ge_eqv_rot s (e :: r)
  have nd1 : (e :: r ++ s).Nodup := List.perm_append_comm.nodup_iff.mp hs.1
  have hs1 := ge_eqv_simple eq1 nd1 hs
  have eqt := ge_eqv_rot r s
  have ar1 : ge_ar (s ++ e :: r) = ge_ar (e :: c :: (mid ++ [a])) := by rw [ge_ar_rot, show e :: r ++ s = e :: (r ++ s) by simp, ht]
  have ar2 : ge_ar (s ++ r) = ge_ar (c :: (mid ++ [a])) := by rw [ge_ar_rot, ht]
  have ndt : (s ++ r).Nodup := List.perm_append_comm.nodup_iff.mp (List.nodup_cons.mp nd1).2
  have eq1' := eq1
  rw [show e :: r ++ s = e :: (r ++ s) by simp, ht] at hs1 nd1 eq1'
  rw [ht] at eqt
  have hb := (List.nodup_cons.mp nd1).1
  have hem1 : ∀ w ∈ e :: c :: (mid ++ [a]), w ≠ a → w ≠ e → w ≠ c → ¬ ge_tc a e c w := fun w hw => hem w ((eq1'.1 w).mpr hw)
  rw [ar1] at ha
  rw [ar2]
  rcases hσ with h | h <;> subst h
  · have H : ge_C a e c mid := ⟨by omega, hs1, fun w hw h1 h2 z => hem1 w (List.mem_cons_of_mem _ hw) h1 (fun q => hb (q ▸ hw)) h2 (Or.inl z), hm⟩
    obtain ⟨k1, k2, k3⟩ := ge_cut_pos H (by omega)
    exact ⟨ge_eqv_simple eqt ndt k1, by omega, ge_eqv_good (ge_eqv_symm eq1') k3⟩
  · have er : (c :: (mid ++ [a])).reverse = a :: (mid.reverse ++ [c]) := by simp
    have eq2 := ge_eqv_rev e (c :: (mid ++ [a]))
    have nd2 : (e :: (c :: (mid ++ [a])).reverse).Nodup := List.nodup_cons.mpr ⟨fun z => (List.nodup_cons.mp nd1).1 (List.mem_reverse.mp z), (List.reverse_perm _).nodup_iff.mpr (List.nodup_cons.mp nd1).2⟩
    have hs2 := ge_eqv_simple eq2 nd2 hs1
    have arr := ge_ar_rev e (c :: (mid ++ [a]))
    rw [er] at hs2 nd2 arr eq2
    have sw : ge_o c e a = -ge_o a e c := by unfold ge_o; grind
    have hb2 := (List.nodup_cons.mp nd2).1
    have H : ge_C c e a mid.reverse := ⟨by omega, hs2, fun w hw h1 h2 z => hem1 w ((eq2.1 w).mpr (List.mem_cons_of_mem _ hw)) h2 (fun q => hb2 (q ▸ hw)) h1 (Or.inr z), fun q => hm (List.reverse_eq_nil_iff.mp q)⟩
    obtain ⟨k1, k2, k3⟩ := ge_cut_pos H (by omega)
    have hmid : ge_ar (a :: (mid.reverse ++ [c])) = -ge_ar (c :: (mid ++ [a])) := by
      have e1 := ge_ar_ear a e c mid
      have e2 := ge_ar_ear c e a mid.reverse
      omega
    have eq3 : ge_eqv (c :: (mid ++ [a])) (a :: (mid.reverse ++ [c])) := by
      have q1 := ge_eqv_rev c (mid ++ [a])
      have q2 := ge_eqv_rot [c] (mid ++ [a]).reverse
      have e3 : [c] ++ (mid ++ [a]).reverse = c :: (mid ++ [a]).reverse := rfl
      have e4 : (mid ++ [a]).reverse ++ [c] = a :: (mid.reverse ++ [c]) := by simp
      rw [e3, e4] at q2
      exact ge_eqv_trans q1 q2
    refine ⟨ge_eqv_simple (ge_eqv_trans (ge_eqv_symm eq3) eqt) ndt k1, by omega, ge_eqv_good (ge_eqv_symm eq1') (ge_eqv_good (ge_eqv_symm eq2) (ge_good_symm k3))⟩
end
section
/-! the ears' triangles cover the closed polygon and lie in it; three colours -/
/-- the closed polygon, at scale k -/
def ge_cl (k : Int) (l : List GPt) (p : GPt) : Prop := ge_off (ge_S k l) p → ge_par (ge_S k l) p = true
def ge_cov (l : List GPt) (TS : List (GPt × GPt × GPt)) (col : GPt → Nat) : Prop :=
  (∀ T ∈ TS, T.1 ∈ l ∧ T.2.1 ∈ l ∧ T.2.2 ∈ l ∧ ge_o T.1 T.2.1 T.2.2 ≠ 0) ∧
  (∀ T ∈ TS, ∀ k : Int, 0 < k → ∀ p : GPt, ge_tc (ge_s k T.1) (ge_s k T.2.1) (ge_s k T.2.2) p → ge_cl k l p) ∧
  (∀ T ∈ TS, ∀ u v : GPt, ge_adj l u v → ∀ p q : GPt, ge_tc T.1 T.2.1 T.2.2 p → ge_tc T.1 T.2.1 T.2.2 q → ¬ ge_x u v p q) ∧
  (∀ k : Int, 0 < k → ∀ p : GPt, ge_cl k l p → ∃ T ∈ TS, ge_tc (ge_s k T.1) (ge_s k T.2.1) (ge_s k T.2.2) p) ∧
  (∀ v : GPt, col v < 3) ∧ (∀ u v : GPt, ge_adj l u v → col u ≠ col v) ∧ (∀ T ∈ TS, col T.1 ≠ col T.2.1 ∧ col T.2.1 ≠ col T.2.2 ∧ col T.2.2 ≠ col T.1)
theorem ge_eqv_cl {l l' : List GPt} (h : ge_eqv l l') {k : Int} {p : GPt} : ge_cl k l p ↔ ge_cl k l' p := by
  unfold ge_cl
  rw [ge_eqv_off h, h.2.2]
theorem ge_eqv_cov {l l' : List GPt} (h : ge_eqv l l') {TS : List (GPt × GPt × GPt)} {col : GPt → Nat} (g : ge_cov l TS col) : ge_cov l' TS col := by
  obtain ⟨g1, g2, g3, g4, g5, g6, g7⟩ := g
  refine ⟨fun T hT => ?_, fun T hT k hk p hp => (ge_eqv_cl h).mp (g2 T hT k hk p hp), fun T hT u v huv => g3 T hT u v ((h.2.1 u v).mpr huv), fun k hk p hp => g4 k hk p ((ge_eqv_cl h).mpr hp), g5, fun u v huv => g6 u v ((h.2.1 u v).mpr huv), g7⟩
  obtain ⟨a1, a2, a3, a4⟩ := g1 T hT
  exact ⟨(h.1 _).mp a1, (h.1 _).mp a2, (h.1 _).mp a3, a4⟩
section Cover
variable {a b c : GPt} {mid : List GPt}
/-- also on ab and bc the rest counts 0 -/
theorem ge_C_zero2 (H : ge_C a b c mid) (Z : ∃ k : Int, 0 < k ∧ ∃ q : GPt, ge_int (ge_s k a) (ge_s k b) (ge_s k c) q ∧ ge_wn (ge_S k (c :: (mid ++ [a]))) q = 0) {k : Int} (hk : 0 < k) {p : GPt} (hp : ge_in (ge_s k a) (ge_s k b) (ge_s k c) p) (hp3 : 0 < ge_o (ge_s k c) (ge_s k a) p) : ¬ ge_cl k (c :: (mid ++ [a])) p := by
  have HK := ge_C_s hk H
  have sd := ge_sides HK.2.1 HK.2.2.1
  have off : ge_off (ge_S k (c :: (mid ++ [a]))) p := by
    rw [ge_S_cut]
    exact ge_C_offt (fun z => by have := (ge_on_symm z).1; omega) (fun e he z => ge_side_K (sd e he) z hp hp3)
  intro hcl
  have par := hcl off
  have h3 : (0 : Int) < 3 := by decide
  have H3 := ge_C_s h3 HK
  obtain ⟨q, hq⟩ : ∃ q : GPt, q = ((ge_s k a).1 + (ge_s k b).1 + (ge_s k c).1, (ge_s k a).2 + (ge_s k b).2 + (ge_s k c).2) := ⟨_, rfl⟩
  have f : ∀ u v : GPt, ge_o (ge_s 3 u) (ge_s 3 v) q = 3 * (ge_o u v (ge_s k a) + ge_o u v (ge_s k b) + ge_o u v (ge_s k c)) := fun u v => by
    rw [hq]; generalize ge_s k a = A; generalize ge_s k b = B; generalize ge_s k c = C; unfold ge_s ge_o; grind
  have F := HK.1
  have qi : ge_int (ge_s 3 (ge_s k a)) (ge_s 3 (ge_s k b)) (ge_s 3 (ge_s k c)) q := by
    refine ⟨?_, ?_, ?_⟩
    · rw [f, (ge_C_zz _ _).1, (ge_C_zz _ _).2]; omega
    · rw [f, (ge_C_zz _ _).1, (ge_C_zz _ _).2, (ge_C_cyc (ge_s k a) (ge_s k b) (ge_s k c)).1]; omega
    · rw [f, (ge_C_zz _ _).1, (ge_C_zz _ _).2, (ge_C_cyc (ge_s k a) (ge_s k b) (ge_s k c)).2]; omega
  have hp' := (ge_in_s h3 (ge_s k a) (ge_s k b) (ge_s k c) p).mpr hp
  have hp3' : 0 < ge_o (ge_s 3 (ge_s k c)) (ge_s 3 (ge_s k a)) (ge_s 3 p) := by rw [ge_o_s]; omega
  have sd3 := ge_sides H3.2.1 H3.2.2.1
  have mv : ge_wn (ge_s 3 (ge_s k c) :: (ge_S 3 (ge_S k mid) ++ [ge_s 3 (ge_s k a)])) (ge_s 3 p) = ge_wn (ge_s 3 (ge_s k c) :: (ge_S 3 (ge_S k mid) ++ [ge_s 3 (ge_s k a)])) q := by
    refine ge_wn_mv (fun e he => ?_)
    rw [ge_E_cut] at he
    rcases List.mem_append.mp he with z | z
    · exact ge_free (sd3 e z) hp' hp3' (ge_int_in qi) qi.2.2
    · rw [List.mem_singleton.mp z]; exact ge_free3 hp3' qi.2.2
  have z0 : ge_wn (ge_S (3 * k) (c :: (mid ++ [a]))) q = 0 := ge_C_zero H Z (by omega) (by rw [← ge_s_s, ← ge_s_s, ← ge_s_s]; exact qi)
  rw [← ge_S_cut, ge_wn_s h3, ← ge_S_cut, ge_S_S, z0] at mv
  rw [ge_par_wn, mv] at par
  cases par
theorem ge_C_up (H : ge_C a b c mid) (Z : ∃ k : Int, 0 < k ∧ ∃ q : GPt, ge_int (ge_s k a) (ge_s k b) (ge_s k c) q ∧ ge_wn (ge_S k (c :: (mid ++ [a]))) q = 0) {k : Int} (hk : 0 < k) {p : GPt} (hp : ge_cl k (c :: (mid ++ [a])) p) : ge_cl k (b :: c :: (mid ++ [a])) p := by
  intro ho
  have HK := ge_C_s hk H
  have hac : ge_s k a ≠ ge_s k c := fun q => (List.nodup_cons.mp (List.nodup_cons.mp H.2.1.1).2).1 (by rw [← ge_s_inj hk q]; simp)
  by_cases hon : ge_on (ge_s k a) (ge_s k c) p
  · rw [ge_par_wn, ge_C_closed H Z hk (ge_ac_in HK.1 hon hac) ho]; rfl
  · have ho2 := ho
    rw [ge_S_ear] at ho2
    obtain ⟨o1, o2, o3⟩ := ge_C_of ho2
    have ot : ge_off (ge_S k (c :: (mid ++ [a]))) p := by rw [ge_S_cut]; exact ge_C_offt hon o3
    have par := hp ot
    have nint : ¬ ge_int (ge_s k a) (ge_s k b) (ge_s k c) p := fun z => ge_C_zero2 H Z hk (ge_int_in z) z.2.2 hp
    rw [ge_S_ear, ge_par_ear, ge_false_of (ge_tri HK.1 o1 o2 (fun z => hon (ge_on_symm z))) nint, ← ge_S_cut, par]
    rfl
theorem ge_C_dn (H : ge_C a b c mid) {k : Int} (hk : 0 < k) {p : GPt} (hp : ge_cl k (b :: c :: (mid ++ [a])) p) : ge_in (ge_s k a) (ge_s k b) (ge_s k c) p ∨ ge_cl k (c :: (mid ++ [a])) p := by
  have HK := ge_C_s hk H
  by_cases hin : ge_in (ge_s k a) (ge_s k b) (ge_s k c) p
  · exact Or.inl hin
  · refine Or.inr (fun ot => ?_)
    have ot2 := ot
    rw [ge_S_cut] at ot2
    unfold ge_off at ot2
    rw [ge_E_cut] at ot2
    have n3 : ¬ ge_on (ge_s k a) (ge_s k c) p := ot2 _ (List.mem_append_right _ List.mem_cons_self)
    have F := HK.1
    have va : ge_in (ge_s k a) (ge_s k b) (ge_s k c) (ge_s k a) := ⟨by rw [(ge_C_zz _ _).1]; omega, by rw [(ge_C_cyc (ge_s k a) (ge_s k b) (ge_s k c)).1]; omega, by rw [(ge_C_zz _ _).2]; omega⟩
    have vb : ge_in (ge_s k a) (ge_s k b) (ge_s k c) (ge_s k b) := ⟨by rw [(ge_C_zz _ _).2]; omega, by rw [(ge_C_zz _ _).1]; omega, by rw [(ge_C_cyc (ge_s k a) (ge_s k b) (ge_s k c)).2]; omega⟩
    have vc : ge_in (ge_s k a) (ge_s k b) (ge_s k c) (ge_s k c) := ⟨by omega, by rw [(ge_C_zz _ _).2]; omega, by rw [(ge_C_zz _ _).1]; omega⟩
    have n1 : ¬ ge_on (ge_s k a) (ge_s k b) p := fun z => hin (ge_on_in z va vb)
    have n2 : ¬ ge_on (ge_s k b) (ge_s k c) p := fun z => hin (ge_on_in z vb vc)
    have ol : ge_off (ge_S k (b :: c :: (mid ++ [a]))) p := by
      rw [ge_S_ear]; exact ge_C_off n1 n2 (fun e he => ot2 e (List.mem_append_left _ he))
    have par := hp ol
    rw [ge_S_ear, ge_par_ear, ge_false_of (ge_tri HK.1 n1 n2 (fun z => n3 (ge_on_symm z))) (fun z => hin (ge_int_in z)), ← ge_S_cut] at par
    revert par
    cases ge_par (ge_S k (c :: (mid ++ [a]))) p <;> simp
/-- a corner's triangle: no edge properly crosses a segment in it -/
theorem ge_C_x0 {p : GPt} (hF : 0 < ge_o a b c) (h1 : ge_o a b p = 0) (h3 : ge_o c a p = 0) : p = a := by
  have bx := ge_bx a b c p
  have by' := ge_by a b c p
  have b0 := ge_b0 a b c p
  rw [h1, h3] at bx by'
  have e : ge_o b c p = ge_o a b c := by omega
  rw [e] at bx by'
  have x := ge_zero (t := a.1 - p.1) hF (by omega)
  have y := ge_zero (t := a.2 - p.2) hF (by omega)
  exact Prod.ext (by omega) (by omega)
theorem ge_x_ne {u v p q : GPt} (h : ge_x u v p q) : p ≠ q := fun z => by
  subst z
  have h2 := h.2
  have : ge_o p p u = 0 := by unfold ge_o; grind
  rw [this, Int.zero_mul] at h2
  omega
theorem ge_C_xT (H : ge_C a b c mid) {e : GPt × GPt} (he : e ∈ ge_E (b :: c :: (mid ++ [a]))) {p q : GPt} (hp : ge_in a b c p) (hq : ge_in a b c q) : ¬ ge_x e.1 e.2 p q := by
  intro hx
  rw [ge_E_ear] at he
  rcases List.mem_cons.mp he with z | z
  · rw [z] at hx
    have h1 : ge_o b c p * ge_o b c q < 0 := hx.1
    have := Int.mul_nonneg hp.2.1 hq.2.1
    omega
  · rcases List.mem_append.mp z with z | z
    · have hpq := ge_x_ne hx
      obtain ⟨m, r, i, j, i', j', hm, w, w', hi, hj, -⟩ := ge_x_pt hx
      have HM := ge_C_s hm H
      have sd := ge_sides H.2.1 H.2.2.1
      have hp' := (ge_in_s hm a b c p).mpr hp
      have hq' := (ge_in_s hm a b c q).mpr hq
      have hr := ge_wt_in w hp' hq'
      have hne : ge_s m p ≠ ge_s m q := fun t => hpq (ge_s_inj hm t)
      have two : ∀ u v : GPt, 0 ≤ ge_o u v (ge_s m p) → 0 ≤ ge_o u v (ge_s m q) → ge_o u v r = 0 → ge_o u v (ge_s m p) = 0 ∧ ge_o u v (ge_s m q) = 0 := fun u v k1 k2 k3 => by
        have ee := ge_wt_o w u v
        rw [k3, Int.mul_zero] at ee
        have q1 := Int.mul_nonneg (Int.le_of_lt hi) k1
        have q2 := Int.mul_nonneg (Int.le_of_lt hj) k2
        exact ⟨ge_zero hi (by omega), ge_zero hj (by omega)⟩
      have on := ge_wt_on w'
      have r3 : ge_o (ge_s m c) (ge_s m a) r = 0 := by
        rcases Int.lt_or_eq_of_le hr.2.2 with t | t
        · exact (ge_side_K (ge_side_s hm (sd e z)) on hr t).elim
        · exact t.symm
      obtain ⟨p3, q3⟩ := two _ _ hp'.2.2 hq'.2.2 r3
      have r1 : 0 < ge_o (ge_s m a) (ge_s m b) r := by
        rcases Int.lt_or_eq_of_le hr.1 with t | t
        · exact t
        · obtain ⟨p1, q1⟩ := two _ _ hp'.1 hq'.1 t.symm
          exact absurd ((ge_C_x0 HM.1 p1 p3).trans (ge_C_x0 HM.1 q1 q3).symm) hne
      have r2 : 0 < ge_o (ge_s m b) (ge_s m c) r := by
        rcases Int.lt_or_eq_of_le hr.2.1 with t | t
        · exact t
        · obtain ⟨p2, q2⟩ := two _ _ hp'.2.1 hq'.2.1 t.symm
          have F1 : 0 < ge_o (ge_s m c) (ge_s m a) (ge_s m b) := by rw [(ge_C_cyc (ge_s m a) (ge_s m b) (ge_s m c)).2]; exact HM.1
          exact absurd ((ge_C_x0 F1 p3 p2).trans (ge_C_x0 F1 q3 q2).symm) hne
      have hca : ge_s m a ≠ ge_s m c := fun t => (List.nodup_cons.mp (List.nodup_cons.mp H.2.1.1).2).1 (by rw [← ge_s_inj hm t]; simp)
      have onac : ge_on (ge_s m a) (ge_s m c) r := ge_on_symm (ge_in_on (by rw [(ge_C_cyc (ge_s m a) (ge_s m b) (ge_s m c)).2]; exact HM.1) (ge_in_cyc (ge_in_cyc hr)) r3)
      obtain ⟨i2, j2, w2⟩ := ge_on_wt hca onac
      have hi2 : 0 < i2 := by
        rcases Int.lt_or_eq_of_le w2.1 with t | t
        · exact t
        · subst t
          have := ge_wt_0 (ge_wt_swap w2)
          rw [this, (ge_C_zz _ _).2] at r2
          omega
      have hj2 : 0 < j2 := by
        rcases Int.lt_or_eq_of_le w2.2.1 with t | t
        · exact t
        · subst t
          have := ge_wt_0 w2
          rw [this, (ge_C_zz _ _).1] at r1
          omega
      have off := (ge_C_mid HM w2 hi2 hj2).1
      rw [← ge_S_ear] at off
      refine off (ge_s m e.1, ge_s m e.2) ?_ on
      rw [ge_E_S, ge_E_ear]
      exact List.mem_map.mpr ⟨e, List.mem_cons_of_mem _ (List.mem_append_left _ z), rfl⟩
    · rw [List.mem_singleton.mp z] at hx
      have h1 : ge_o a b p * ge_o a b q < 0 := hx.1
      have := Int.mul_nonneg hp.1 hq.1
      omega
/-- the corner's two edges don't properly cross a segment in the closed rest -/
theorem ge_C_xR (H : ge_C a b c mid) (Z : ∃ k : Int, 0 < k ∧ ∃ q : GPt, ge_int (ge_s k a) (ge_s k b) (ge_s k c) q ∧ ge_wn (ge_S k (c :: (mid ++ [a]))) q = 0) {x y : GPt} (hxy : (x = a ∧ y = b) ∨ (x = b ∧ y = c)) {p q : GPt} (hpq : ∀ m : Int, 0 < m → ∀ r : GPt, ge_on (ge_s m p) (ge_s m q) r → ge_cl m (c :: (mid ++ [a])) r) : ¬ ge_x x y p q := by
  intro hx
  obtain ⟨m, r, i, j, i', j', hm, w, w', hi, hj, hi', hj'⟩ := ge_x_pt hx
  have HM := ge_C_s hm H
  have F := HM.1
  have hcl := hpq m hm r (ge_wt_on w)
  have va : ge_in (ge_s m a) (ge_s m b) (ge_s m c) (ge_s m a) := ⟨by rw [(ge_C_zz _ _).1]; omega, by rw [(ge_C_cyc (ge_s m a) (ge_s m b) (ge_s m c)).1]; omega, by rw [(ge_C_zz _ _).2]; omega⟩
  have vb : ge_in (ge_s m a) (ge_s m b) (ge_s m c) (ge_s m b) := ⟨by rw [(ge_C_zz _ _).2]; omega, by rw [(ge_C_zz _ _).1]; omega, by rw [(ge_C_cyc (ge_s m a) (ge_s m b) (ge_s m c)).2]; omega⟩
  have vc : ge_in (ge_s m a) (ge_s m b) (ge_s m c) (ge_s m c) := ⟨by omega, by rw [(ge_C_zz _ _).2]; omega, by rw [(ge_C_zz _ _).1]; omega⟩
  have b3 : ge_o (ge_s m c) (ge_s m a) (ge_s m b) = ge_o (ge_s m a) (ge_s m b) (ge_s m c) := (ge_C_cyc (ge_s m a) (ge_s m b) (ge_s m c)).2
  have e3 := ge_wt_o w' (ge_s m c) (ge_s m a)
  rcases hxy with ⟨rfl, rfl⟩ | ⟨rfl, rfl⟩
  · rw [(ge_C_zz _ _).2, b3, Int.mul_zero] at e3
    refine ge_C_zero2 H Z hm (ge_wt_in w' va vb) (ge_pos w'.2.2.1 ?_) hcl
    have := Int.mul_pos hj' F
    omega
  · rw [(ge_C_zz _ _).1, b3, Int.mul_zero] at e3
    refine ge_C_zero2 H Z hm (ge_wt_in w' vb vc) (ge_pos w'.2.2.1 ?_) hcl
    have := Int.mul_pos hi' F
    omega
end Cover
end
section
/-! the cover by ears' triangles, three colours, and who sees whom -/
theorem ge_tc_on {x e y p q r : GPt} {m : Int} (hm : 0 < m) (hF : ge_o x e y ≠ 0) (hp : ge_tc x e y p) (hq : ge_tc x e y q) (hr : ge_on (ge_s m p) (ge_s m q) r) : ge_tc (ge_s m x) (ge_s m e) (ge_s m y) r := by
  rcases Int.lt_or_lt_of_ne hF with z | z
  · have F' : 0 < ge_o y e x := by have : ge_o y e x = -ge_o x e y := by unfold ge_o; grind
                                   omega
    exact Or.inr (ge_on_in hr ((ge_in_s hm _ _ _ _).mpr (ge_tc_in F' (ge_tc_symm hp))) ((ge_in_s hm _ _ _ _).mpr (ge_tc_in F' (ge_tc_symm hq))))
  · exact Or.inl (ge_on_in hr ((ge_in_s hm _ _ _ _).mpr (ge_tc_in z hp)) ((ge_in_s hm _ _ _ _).mpr (ge_tc_in z hq)))
theorem ge_in_vs {a b c : GPt} (F : 0 < ge_o a b c) : ge_in a b c a ∧ ge_in a b c b ∧ ge_in a b c c :=
  ⟨⟨by rw [(ge_C_zz _ _).1]; omega, by rw [(ge_C_cyc a b c).1]; omega, by rw [(ge_C_zz _ _).2]; omega⟩, ⟨by rw [(ge_C_zz _ _).2]; omega, by rw [(ge_C_zz _ _).1]; omega, by rw [(ge_C_cyc a b c).2]; omega⟩, ⟨by omega, by rw [(ge_C_zz _ _).2]; omega, by rw [(ge_C_zz _ _).1]; omega⟩⟩
section Cover
variable {a b c : GPt} {mid : List GPt}
theorem ge_cov_step (H : ge_C a b c mid) (Z : ∃ k : Int, 0 < k ∧ ∃ q : GPt, ge_int (ge_s k a) (ge_s k b) (ge_s k c) q ∧ ge_wn (ge_S k (c :: (mid ++ [a]))) q = 0) {TS : List (GPt × GPt × GPt)} {col : GPt → Nat} (g : ge_cov (c :: (mid ++ [a])) TS col) : ge_cov (b :: c :: (mid ++ [a])) ((a, b, c) :: TS) (fun v => if v = b then 3 - col a - col c else col v) := by
  obtain ⟨g1, g2, g3, g4, g5, g6, g7⟩ := g
  have hb := (List.nodup_cons.mp H.2.1.1).1
  have nb : ∀ v ∈ c :: (mid ++ [a]), v ≠ b := fun v hv q => hb (q ▸ hv)
  have hac := g6 a c (Or.inl (by rw [ge_E_cut]; simp))
  have ca := g5 a
  have cc := g5 c
  have amem : a ∈ c :: (mid ++ [a]) := by simp
  have cmem : c ∈ c :: (mid ++ [a]) := List.mem_cons_self
  have edges : ∀ u v : GPt, (u, v) ∈ ge_E (b :: c :: (mid ++ [a])) → (u = b ∧ v = c) ∨ (u, v) ∈ ge_ed (c :: (mid ++ [a])) ∨ (u = a ∧ v = b) := fun u v h => by
    rw [ge_E_ear] at h
    rcases List.mem_cons.mp h with q | q
    · exact Or.inl (Prod.mk.inj q)
    · rcases List.mem_append.mp q with q | q
      · exact Or.inr (Or.inl q)
      · exact Or.inr (Or.inr (Prod.mk.inj (List.mem_singleton.mp q)))
  have up : ∀ {u v : GPt}, (u, v) ∈ ge_ed (c :: (mid ++ [a])) → ge_adj (c :: (mid ++ [a])) u v := fun {u v} h => Or.inl (by rw [ge_E_cut]; exact List.mem_append_left _ h)
  refine ⟨fun T hT => ?_, fun T hT k hk p hp => ?_, fun T hT => ?_, fun k hk p hp => ?_, fun v => ?_, ?_, fun T hT => ?_⟩
  · rcases List.mem_cons.mp hT with q | q
    · subst q; exact ⟨by simp, by simp, by simp, by have := H.1; show ge_o a b c ≠ 0; omega⟩
    · obtain ⟨h1, h2, h3, h4⟩ := g1 T q
      exact ⟨List.mem_cons_of_mem _ h1, List.mem_cons_of_mem _ h2, List.mem_cons_of_mem _ h3, h4⟩
  · rcases List.mem_cons.mp hT with q | q
    · subst q
      intro ho
      rw [ge_par_wn, ge_C_closed H Z hk (ge_tc_in (ge_C_s hk H).1 hp) ho]; rfl
    · exact ge_C_up H Z hk (g2 T q k hk p hp)
  · rcases List.mem_cons.mp hT with q | q
    · subst q
      intro u v huv p q hp hq hx
      have hp := ge_tc_in H.1 hp
      have hq := ge_tc_in H.1 hq
      rcases huv with z | z
      · exact ge_C_xT H z hp hq hx
      · exact ge_C_xT H z hp hq (ge_x_swap hx)
    · have key : ∀ u v : GPt, (u, v) ∈ ge_E (b :: c :: (mid ++ [a])) → ∀ p r : GPt, ge_tc T.1 T.2.1 T.2.2 p → ge_tc T.1 T.2.1 T.2.2 r → ¬ ge_x u v p r := fun u v huv p r hp hr => by
        have hpr : ∀ m : Int, 0 < m → ∀ w : GPt, ge_on (ge_s m p) (ge_s m r) w → ge_cl m (c :: (mid ++ [a])) w := fun m hm w hw => g2 T q m hm w (ge_tc_on hm (g1 T q).2.2.2 hp hr hw)
        rcases edges u v huv with z | z | z
        · exact ge_C_xR H Z (Or.inr z) hpr
        · exact g3 T q u v (up z) p r hp hr
        · exact ge_C_xR H Z (Or.inl z) hpr
      intro u v huv p r hp hr hx
      rcases huv with z | z
      · exact key u v z p r hp hr hx
      · exact key v u z p r hp hr (ge_x_swap hx)
  · rcases ge_C_dn H hk hp with z | z
    · exact ⟨(a, b, c), List.mem_cons_self, Or.inl z⟩
    · obtain ⟨T, hT, ht⟩ := g4 k hk p z
      exact ⟨T, List.mem_cons_of_mem _ hT, ht⟩
  · dsimp only
    split
    · omega
    · exact g5 v
  · have key : ∀ u v : GPt, (u, v) ∈ ge_E (b :: c :: (mid ++ [a])) → (fun v => if v = b then 3 - col a - col c else col v) u ≠ (fun v => if v = b then 3 - col a - col c else col v) v := fun u v huv => by
      dsimp only
      rcases edges u v huv with ⟨z1, z2⟩ | z | ⟨z1, z2⟩
      · rw [z1, z2, if_pos rfl, if_neg (nb c cmem)]; omega
      · have me := ge_ed_mem _ _ z
        rw [if_neg (nb u me.1), if_neg (nb v me.2)]
        exact g6 u v (up z)
      · rw [z1, z2, if_pos rfl, if_neg (nb a amem)]; omega
    intro u v huv
    rcases huv with z | z
    · exact key u v z
    · exact (key v u z).symm
  · rcases List.mem_cons.mp hT with q | q
    · subst q
      dsimp only
      rw [if_pos rfl, if_neg (nb a amem), if_neg (nb c cmem)]
      omega
    · obtain ⟨h1, h2, h3, h4⟩ := g1 T q
      dsimp only
      rw [if_neg (nb _ h1), if_neg (nb _ h2), if_neg (nb _ h3)]
      exact g7 T q
theorem ge_cov_3 (hF : 0 < ge_o a b c) (hn : (b :: c :: ([] ++ [a])).Nodup) : ge_cov (b :: c :: ([] ++ [a])) [(a, b, c)] (fun v => if v = b then 0 else if v = c then 1 else 2) := by
  have nbc : b ≠ c := by simp at hn; grind
  have nba : b ≠ a := by simp at hn; grind
  have nca : c ≠ a := by simp at hn; grind
  have hE : ∀ e : GPt × GPt, e ∈ ge_E (b :: c :: ([] ++ [a])) ↔ e = (b, c) ∨ e = (c, a) ∨ e = (a, b) := fun e => by
    rw [ge_E_ear]; simp [ge_ed]
  have z0 : ∀ (k : Int) (p : GPt), ge_par (ge_s k c :: (ge_S k [] ++ [ge_s k a])) p = false := fun k p => by
    show (ge_cs (ge_s k c) (ge_s k a) p != (ge_cs (ge_s k a) (ge_s k c) p != false)) = false
    rw [ge_cs_comm (ge_s k a) (ge_s k c)]
    cases ge_cs (ge_s k c) (ge_s k a) p <;> rfl
  refine ⟨fun T hT => ?_, fun T hT k hk p hp ho => ?_, fun T hT => ?_, fun k hk p hp => ⟨(a, b, c), List.mem_cons_self, Or.inl ?_⟩, fun v => ?_, ?_, fun T hT => ?_⟩
  · rw [List.mem_singleton.mp hT]; exact ⟨by simp, by simp, by simp, by show ge_o a b c ≠ 0; omega⟩
  · rw [List.mem_singleton.mp hT] at hp
    have F : 0 < ge_o (ge_s k a) (ge_s k b) (ge_s k c) := by rw [ge_o_s]; exact Int.mul_pos (ge_mm hk) hF
    have hp := ge_tc_in F hp
    rw [ge_S_ear] at ho ⊢
    obtain ⟨o1, o2, o3⟩ := ge_C_of ho
    have n3 := o3 (ge_s k c, ge_s k a) List.mem_cons_self
    have p1 : 0 < ge_o (ge_s k a) (ge_s k b) p := by
      rcases Int.lt_or_eq_of_le hp.1 with z | z
      · exact z
      · exact absurd (ge_in_on F hp z.symm) o1
    have p2 : 0 < ge_o (ge_s k b) (ge_s k c) p := by
      rcases Int.lt_or_eq_of_le hp.2.1 with z | z
      · exact z
      · exact absurd (ge_in_on (by rw [ge_o_cyc]; exact F) (ge_in_cyc hp) z.symm) o2
    have p3 : 0 < ge_o (ge_s k c) (ge_s k a) p := by
      rcases Int.lt_or_eq_of_le hp.2.2 with z | z
      · exact z
      · exact absurd (ge_in_on (by rw [(ge_C_cyc (ge_s k a) (ge_s k b) (ge_s k c)).2]; exact F) (ge_in_cyc (ge_in_cyc hp)) z.symm) n3
    rw [ge_par_ear, z0, (ge_tri F o1 o2 n3).mpr ⟨p1, p2, p3⟩]; rfl
  · rw [List.mem_singleton.mp hT]
    have key : ∀ e : GPt × GPt, e ∈ ge_E (b :: c :: ([] ++ [a])) → ∀ p q : GPt, ge_tc a b c p → ge_tc a b c q → ¬ ge_x e.1 e.2 p q := fun e he p q hp hq hx => by
      have hp := ge_tc_in hF hp
      have hq := ge_tc_in hF hq
      rcases (hE e).mp he with z | z | z
      · rw [z] at hx
        have h1 : ge_o b c p * ge_o b c q < 0 := hx.1
        have := Int.mul_nonneg hp.2.1 hq.2.1
        omega
      · rw [z] at hx
        have h1 : ge_o c a p * ge_o c a q < 0 := hx.1
        have := Int.mul_nonneg hp.2.2 hq.2.2
        omega
      · rw [z] at hx
        have h1 : ge_o a b p * ge_o a b q < 0 := hx.1
        have := Int.mul_nonneg hp.1 hq.1
        omega
    intro u v huv p q hp hq hx
    rcases huv with z | z
    · exact key _ z p q hp hq hx
    · exact key _ z p q hp hq (ge_x_swap hx)
  · have F : 0 < ge_o (ge_s k a) (ge_s k b) (ge_s k c) := by rw [ge_o_s]; exact Int.mul_pos (ge_mm hk) hF
    obtain ⟨va, vb, vc⟩ := ge_in_vs F
    refine Classical.byContradiction (fun hin => ?_)
    have n1 : ¬ ge_on (ge_s k a) (ge_s k b) p := fun z => hin (ge_on_in z va vb)
    have n2 : ¬ ge_on (ge_s k b) (ge_s k c) p := fun z => hin (ge_on_in z vb vc)
    have n3 : ¬ ge_on (ge_s k c) (ge_s k a) p := fun z => hin (ge_on_in z vc va)
    have ol : ge_off (ge_S k (b :: c :: ([] ++ [a]))) p := by
      rw [ge_S_ear]
      refine ge_C_off n1 n2 (fun e he => ?_)
      have he : e ∈ [(ge_s k c, ge_s k a)] := he
      rw [List.mem_singleton.mp he]; exact n3
    have par := hp ol
    rw [ge_S_ear, ge_par_ear, z0, ge_false_of (ge_tri F n1 n2 n3) (fun z => hin (ge_int_in z))] at par
    cases par
  · dsimp only
    split
    · omega
    · split <;> omega
  · have key : ∀ u v : GPt, (u, v) ∈ ge_E (b :: c :: ([] ++ [a])) → (fun v => if v = b then 0 else if v = c then 1 else 2) u ≠ (fun v => if v = b then 0 else if v = c then 1 else 2) v := fun u v h => by
      dsimp only
      rcases (hE _).mp h with z | z | z
      · obtain ⟨z1, z2⟩ := Prod.mk.inj z
        rw [z1, z2, if_pos rfl, if_neg nbc.symm, if_pos rfl]; omega
      · obtain ⟨z1, z2⟩ := Prod.mk.inj z
        rw [z1, z2, if_neg nbc.symm, if_pos rfl, if_neg nba.symm, if_neg nca.symm]; omega
      · obtain ⟨z1, z2⟩ := Prod.mk.inj z
        rw [z1, z2, if_pos rfl, if_neg nba.symm, if_neg nca.symm]; omega
    intro u v h
    rcases h with z | z
    · exact key u v z
    · exact (key v u z).symm
  · rw [List.mem_singleton.mp hT]
    dsimp only
    rw [if_pos rfl, if_neg nbc.symm, if_pos rfl, if_neg nba.symm, if_neg nca.symm]
    omega
end Cover
theorem ge_cov_pos {n : Nat} (ih : ∀ l : List GPt, l.length ≤ n → 3 ≤ l.length → ge_simple l → ∃ TS col, ge_cov l TS col ∧ TS ≠ []) {a b c : GPt} {mid : List GPt} (hlen : mid.length + 3 ≤ n + 1) (hF : 0 < ge_o a b c) (hs : ge_simple (b :: c :: (mid ++ [a]))) (hW : ge_W (b :: c :: (mid ++ [a])) 1) (hem : ∀ w ∈ b :: c :: (mid ++ [a]), w ≠ a → w ≠ b → w ≠ c → ¬ ge_tc a b c w) : ∃ TS col, ge_cov (b :: c :: (mid ++ [a])) TS col ∧ TS ≠ [] := by
  by_cases hm : mid = []
  · subst hm; exact ⟨_, _, ge_cov_3 hF hs.1, by simp⟩
  · have hm1 : 0 < mid.length := List.length_pos_iff.mpr hm
    have hb := (List.nodup_cons.mp hs.1).1
    have H : ge_C a b c mid := ⟨hF, hs, fun w hw h1 h2 z => hem w (List.mem_cons_of_mem _ hw) h1 (fun q => hb (q ▸ hw)) h2 (Or.inl z), hm⟩
    obtain ⟨TS, col, g, -⟩ := ih (c :: (mid ++ [a])) (by simp; omega) (by simp; omega) (ge_cut_simple H.1 H.2.1 H.2.2.1)
    exact ⟨_, _, ge_cov_step H (ge_C_turn H hW) g, by simp⟩
theorem ge_cov_n : ∀ (n : Nat) (l : List GPt), l.length ≤ n → 3 ≤ l.length → ge_simple l → ∃ TS col, ge_cov l TS col ∧ TS ≠ []
  | 0, l, h1, h2, _ => by omega
  | n + 1, l, h1, h2, hs => by
    obtain ⟨σ, W, -, s, r, a, e, c, mid, rfl, ht, ho, hem⟩ := ge_orient h2 hs
    have eq1 := ge_eqv_rot s (e :: r)
    have nd1 : (e :: r ++ s).Nodup := List.perm_append_comm.nodup_iff.mp hs.1
    have hs1 := ge_eqv_simple eq1 nd1 hs
    have W1 : ge_W (e :: r ++ s) σ := ge_W_rot W
    have hlen : (r ++ s).length = (s ++ e :: r).length - 1 := by simp; omega
    rw [show e :: r ++ s = e :: (r ++ s) by simp, ht] at hs1 nd1 eq1 W1
    rw [ht] at hlen
    have hl2 : mid.length + 3 ≤ n + 1 := by simp at hlen h1; omega
    have hem1 : ∀ w ∈ e :: c :: (mid ++ [a]), w ≠ a → w ≠ e → w ≠ c → ¬ ge_tc a e c w := fun w hw => hem w ((eq1.1 w).mpr hw)
    have back : (∃ TS col, ge_cov (e :: c :: (mid ++ [a])) TS col ∧ TS ≠ []) → ∃ TS col, ge_cov (s ++ e :: r) TS col ∧ TS ≠ [] := fun ⟨TS, col, g, hn⟩ => ⟨TS, col, ge_eqv_cov (ge_eqv_symm eq1) g, hn⟩
    apply back
    rcases W.1 with h | h <;> subst h
    · exact ge_cov_pos (ge_cov_n n) hl2 (by omega) hs1 W1 hem1
    · have er : (c :: (mid ++ [a])).reverse = a :: (mid.reverse ++ [c]) := by simp
      have eq2 := ge_eqv_rev e (c :: (mid ++ [a]))
      have nd2 : (e :: (c :: (mid ++ [a])).reverse).Nodup := List.nodup_cons.mpr ⟨fun z => (List.nodup_cons.mp nd1).1 (List.mem_reverse.mp z), (List.reverse_perm _).nodup_iff.mpr (List.nodup_cons.mp nd1).2⟩
      have hs2 := ge_eqv_simple eq2 nd2 hs1
      have W2 := ge_W_rev W1
      rw [er] at hs2 nd2 eq2 W2
      have sw : ge_o c e a = -ge_o a e c := by unfold ge_o; grind
      obtain ⟨TS, col, g, hn⟩ := ge_cov_pos (ge_cov_n n) (a := c) (b := e) (c := a) (mid := mid.reverse) (by simp; omega) (by omega) hs2 W2 (fun w hw w1 w2 w3 z => hem1 w ((eq2.1 w).mpr hw) w3 w2 w1 (ge_tc_symm z))
      exact ⟨TS, col, ge_eqv_cov (ge_eqv_symm eq2) g, hn⟩
theorem ge_cover {l : List GPt} (h3 : 3 ≤ l.length) (hs : ge_simple l) : ∃ TS col, ge_cov l TS col ∧ TS ≠ [] := ge_cov_n l.length l (Nat.le_refl _) h3 hs
end
section
/-! sight: the graph is connected, and of at most twelve vertices four see all -/
def ge_sees (l : List GPt) (p q : GPt) : Prop := (∀ u v : GPt, ge_adj l u v → ¬ ge_x u v p q) ∧ ∀ k : Int, 0 < k → ∀ r : GPt, ge_on (ge_s k p) (ge_s k q) r → ge_cl k l r
theorem ge_sees_symm {l : List GPt} {p q : GPt} (h : ge_sees l p q) : ge_sees l q p :=
  ⟨fun u v huv z => h.1 u v huv (ge_x_symm (ge_x_swap (ge_x_symm z))), fun k hk r hr => h.2 k hk r (ge_on_symm hr)⟩
theorem ge_sees_T {l : List GPt} {TS : List (GPt × GPt × GPt)} {col : GPt → Nat} (g : ge_cov l TS col) {T : GPt × GPt × GPt} (hT : T ∈ TS) {p q : GPt} (hp : ge_tc T.1 T.2.1 T.2.2 p) (hq : ge_tc T.1 T.2.1 T.2.2 q) : ge_sees l p q :=
  ⟨fun u v huv => g.2.2.1 T hT u v huv p q hp hq, fun k hk r hr => g.2.1 T hT k hk r (ge_tc_on hk (g.1 T hT).2.2.2 hp hq hr)⟩
theorem ge_sees_E {l : List GPt} (hs : ge_simple l) {u v : GPt} (h : ge_adj l u v) : ge_sees l u v := by
  refine ⟨fun x y hxy => ge_adj_X hs hxy h, fun k hk r hr ho => ?_⟩
  exact absurd hr (ge_off_iff.mp ho u v h)
theorem ge_tc_v {x e y : GPt} (hF : ge_o x e y ≠ 0) : ge_tc x e y x ∧ ge_tc x e y e ∧ ge_tc x e y y := by
  rcases Int.lt_or_lt_of_ne hF with z | z
  · have e1 : ge_o y e x = -ge_o x e y := by unfold ge_o; grind
    obtain ⟨h1, h2, h3⟩ := ge_in_vs (a := y) (b := e) (c := x) (by omega)
    exact ⟨Or.inr h3, Or.inr h2, Or.inr h1⟩
  · obtain ⟨h1, h2, h3⟩ := ge_in_vs z
    exact ⟨Or.inl h1, Or.inl h2, Or.inl h3⟩
theorem ge_chainP (f : GPt → Prop) : ∀ (m : List GPt) (c : GPt), (∀ e ∈ ge_ed (c :: m), f e.1 ↔ f e.2) → ∀ w ∈ c :: m, f w ↔ f c
  | [], c, _, w, hw => by rw [List.mem_singleton.mp hw]
  | y :: m, c, h, w, hw => by
    rcases List.mem_cons.mp hw with q | q
    · rw [q]
    · rw [ge_chainP f m y (fun e he => h e (List.mem_cons_of_mem _ he)) w q]
      exact (h (c, y) List.mem_cons_self).symm
/-- a vertex lies in the closed polygon -/
theorem ge_cl_v {l : List GPt} (h2 : 2 ≤ l.length) {v : GPt} (hv : v ∈ l) {k : Int} : ge_cl k l (ge_s k v) := by
  intro ho
  exfalso
  obtain ⟨s, r, rfl⟩ := List.append_of_mem hv
  have : ∃ w : GPt, (v, w) ∈ ge_E (s ++ v :: r) := by
    obtain ⟨w, hw⟩ : ∃ w : GPt, (v, w) ∈ ge_E (v :: r ++ s) := by
      obtain ⟨c, t, ht⟩ : ∃ c t, r ++ s = c :: t := by
        match h : r ++ s with
        | [] => simp at h h2; grind
        | c :: t => exact ⟨c, t, rfl⟩
      refine ⟨c, ?_⟩
      rw [show v :: r ++ s = v :: (r ++ s) by simp, ht]
      exact List.mem_cons_self
    exact ⟨w, (ge_E_rot s (v :: r) (v, w)).mpr hw⟩
  obtain ⟨w, hw⟩ := this
  exact ge_off_iff.mp ho v w (Or.inl hw) (ge_on_l _ _)
theorem ge_tc_1 {T : GPt × GPt × GPt} {p : GPt} (h : ge_tc (ge_s 1 T.1) (ge_s 1 T.2.1) (ge_s 1 T.2.2) p) : ge_tc T.1 T.2.1 T.2.2 p := by
  rw [ge_s_1, ge_s_1, ge_s_1] at h
  exact h
/-- what is closed under sight is all -/
theorem ge_conn {l : List GPt} (h3 : 3 ≤ l.length) (hs : ge_simple l) (M : GPt → Prop) (hM : ∀ p q : GPt, M p → ge_cl 1 l p → ge_cl 1 l q → ge_sees l p q → M q) {p : GPt} (hp : ge_cl 1 l p) (mp : M p) : ∀ q : GPt, ge_cl 1 l q → M q := by
  obtain ⟨TS, col, g, -⟩ := ge_cover h3 hs
  have vcl : ∀ v ∈ l, ge_cl 1 l v := fun v hv => by have := ge_cl_v (k := 1) (by omega) hv; rw [ge_s_1] at this; exact this
  obtain ⟨T, hT, tp⟩ := g.2.2.2.1 1 (by decide) p hp
  have tp := ge_tc_1 tp
  obtain ⟨m1, m2, m3, mF⟩ := g.1 T hT
  have M1 : M T.1 := hM p T.1 mp hp (vcl _ m1) (ge_sees_T g hT tp (ge_tc_v mF).1)
  have all : ∀ v ∈ l, M v := by
    cases l with
    | nil => intro v hv; cases hv
    | cons c m =>
      have step : ∀ e ∈ ge_ed (c :: m), M e.1 ↔ M e.2 := fun e he => by
        have hE : ge_adj (c :: m) e.1 e.2 := Or.inl (ge_ed_pre (l := c :: m) [c] he)
        have me := ge_adj_mem hE
        have see := ge_sees_E hs hE
        exact ⟨fun z => hM _ _ z (vcl _ me.1) (vcl _ me.2) see, fun z => hM _ _ z (vcl _ me.2) (vcl _ me.1) (ge_sees_symm see)⟩
      have ch := ge_chainP M m c step
      have hc := (ch T.1 m1).mp M1
      exact fun v hv => (ch v hv).mpr hc
  intro q hq
  obtain ⟨T', hT', tq⟩ := g.2.2.2.1 1 (by decide) q hq
  have tq := ge_tc_1 tq
  obtain ⟨n1, n2, n3, nF⟩ := g.1 T' hT'
  exact hM T'.1 q (all _ n1) (vcl _ n1) hq (ge_sees_T g hT' (ge_tc_v nF).1 tq)
theorem ge_cols (col : GPt → Nat) : ∀ l : List GPt, (∀ v : GPt, col v < 3) → (l.filter (fun v => col v = 0)).length + (l.filter (fun v => col v = 1)).length + (l.filter (fun v => col v = 2)).length = l.length
  | [], _ => rfl
  | x :: l, h => by
    have ih := ge_cols col l h
    have hx := h x
    have : col x = 0 ∨ col x = 1 ∨ col x = 2 := by omega
    rcases this with q | q | q <;> simp [List.filter_cons, q] <;> omega
/-- of at most twelve vertices, at most four see the whole closed polygon -/
theorem ge_four {l : List GPt} (h3 : 3 ≤ l.length) (h12 : l.length ≤ 12) (hs : ge_simple l) : ∃ G : List GPt, 1 ≤ G.length ∧ G.length ≤ 4 ∧ G.Nodup ∧ (∀ g ∈ G, g ∈ l) ∧ ∀ q : GPt, ge_cl 1 l q → ∃ g ∈ G, ge_sees l g q := by
  obtain ⟨TS, col, g, hn⟩ := ge_cover h3 hs
  have sum := ge_cols col l g.2.2.2.2.1
  have use : ∀ i : Nat, i < 3 → (l.filter (fun v => col v = i)).length ≤ 4 → ∃ G : List GPt, 1 ≤ G.length ∧ G.length ≤ 4 ∧ G.Nodup ∧ (∀ g ∈ G, g ∈ l) ∧ ∀ q : GPt, ge_cl 1 l q → ∃ g ∈ G, ge_sees l g q := fun i hi hl => by
    have pick : ∀ T ∈ TS, ∃ v ∈ l.filter (fun v => col v = i), ge_tc T.1 T.2.1 T.2.2 v := fun T hT => by
      obtain ⟨m1, m2, m3, mF⟩ := g.1 T hT
      obtain ⟨t1, t2, t3⟩ := ge_tc_v mF
      obtain ⟨c1, c2, c3⟩ := g.2.2.2.2.2.2 T hT
      have b1 := g.2.2.2.2.1 T.1
      have b2 := g.2.2.2.2.1 T.2.1
      have b3 := g.2.2.2.2.1 T.2.2
      have : col T.1 = i ∨ col T.2.1 = i ∨ col T.2.2 = i := by omega
      rcases this with q | q | q
      · exact ⟨T.1, List.mem_filter.mpr ⟨m1, by simpa using q⟩, t1⟩
      · exact ⟨T.2.1, List.mem_filter.mpr ⟨m2, by simpa using q⟩, t2⟩
      · exact ⟨T.2.2, List.mem_filter.mpr ⟨m3, by simpa using q⟩, t3⟩
    refine ⟨l.filter (fun v => col v = i), ?_, hl, List.Pairwise.filter _ hs.1, fun v hv => (List.mem_filter.mp hv).1, fun q hq => ?_⟩
    · cases TS with
      | nil => exact absurd rfl hn
      | cons T TS =>
        obtain ⟨v, hv, -⟩ := pick T List.mem_cons_self
        exact List.length_pos_of_mem hv
    · obtain ⟨T, hT, tq⟩ := g.2.2.2.1 1 (by decide) q hq
      obtain ⟨v, hv, tv⟩ := pick T hT
      exact ⟨v, hv, ge_sees_T g hT tv (ge_tc_1 tq)⟩
  by_cases q0 : (l.filter (fun v => col v = 0)).length ≤ 4
  · exact use 0 (by decide) q0
  · by_cases q1 : (l.filter (fun v => col v = 1)).length ≤ 4
    · exact use 1 (by decide) q1
    · exact use 2 (by decide) (by omega)
end
section
/-! polygons given by n places: edges by number; the reference's test of a simple polygon -/
def ge_aft (n i : Nat) : Nat := if i + 1 = n then 0 else i + 1
def ge_pl (n : Nat) (f : Nat → GPt) : List GPt := (List.range n).map f
theorem ge_aft_lt {n i : Nat} (h : i < n) : ge_aft n i < n := by unfold ge_aft; split <;> omega
theorem ge_ed_len : ∀ l : List GPt, (ge_ed l).length = l.length - 1
  | [] => rfl
  | [_] => rfl
  | a :: b :: r => by
    show (ge_ed (b :: r)).length + 1 = _
    rw [ge_ed_len (b :: r)]; simp
theorem ge_ed_get : ∀ (l : List GPt) (i : Nat) (h : i + 1 < l.length) (h' : i < (ge_ed l).length), (ge_ed l)[i] = (l[i]'(by omega), l[i + 1])
  | [], i, h, _ => by simp at h
  | [_], i, h, _ => by simp at h
  | a :: b :: r, 0, h, _ => rfl
  | a :: b :: r, i + 1, h, h' => by
    have h'' : i < (ge_ed (b :: r)).length := by simpa [ge_ed] using h'
    show (ge_ed (b :: r))[i]'h'' = _
    rw [ge_ed_get (b :: r) i (by simpa using h) h'']
    rfl
theorem ge_E_pl (n : Nat) (f : Nat → GPt) : ge_E (ge_pl n f) = (List.range n).map (fun i => (f i, f (ge_aft n i))) := by
  cases n with
  | zero => rfl
  | succ n =>
    have e : ge_cy (ge_pl (n + 1) f) = (List.range (n + 1)).map f ++ [f 0] := by
      unfold ge_pl
      rw [List.range_succ_eq_map]
      rfl
    unfold ge_E
    rw [e]
    refine List.ext_getElem ?_ (fun i h1 h2 => ?_)
    · rw [ge_ed_len]; simp
    · have hi : i < n + 1 := by simpa using h2
      rw [ge_ed_get _ i (by simp; omega) h1]
      simp only [List.getElem_map, List.getElem_range]
      refine Prod.ext ?_ ?_
      · dsimp only
        rw [List.getElem_append_left (by simp; omega)]
        simp
      · dsimp only
        unfold ge_aft
        by_cases q : i + 1 = n + 1
        · rw [if_pos q, List.getElem_append_right (by simp; omega)]
          simp
        · rw [if_neg q, List.getElem_append_left (by simp; omega)]
          simp
theorem ge_pl_mem {n : Nat} {f : Nat → GPt} {v : GPt} : v ∈ ge_pl n f ↔ ∃ i, i < n ∧ f i = v := by
  unfold ge_pl
  simp
theorem ge_E_mem_pl {n : Nat} {f : Nat → GPt} {e : GPt × GPt} : e ∈ ge_E (ge_pl n f) ↔ ∃ i, i < n ∧ e = (f i, f (ge_aft n i)) := by
  rw [ge_E_pl]
  simp only [List.mem_map, List.mem_range]
  exact ⟨fun ⟨i, h, q⟩ => ⟨i, h, q.symm⟩, fun ⟨i, h, q⟩ => ⟨i, h, q.symm⟩⟩
theorem ge_pl_len (n : Nat) (f : Nat → GPt) : (ge_pl n f).length = n := by unfold ge_pl; simp
/-- an edge and the next one have their vertex alone in common -/
def ge_bent (a b c : GPt) : Prop := a ≠ b ∧ c ≠ b ∧ ((a.1 - b.1) * (c.2 - b.2) ≠ (a.2 - b.2) * (c.1 - b.1) ∨ (a.1 - b.1) * (c.1 - b.1) + (a.2 - b.2) * (c.2 - b.2) < 0)
/-- the reference's test -/
def ge_simp (n : Nat) (f : Nat → GPt) : Prop := (∀ i, i < n → ge_bent (f i) (f (ge_aft n i)) (f (ge_aft n (ge_aft n i)))) ∧ ∀ i k, i + 2 ≤ k → k < n → ge_aft n k ≠ i → ¬ ge_meet (f i) (f (ge_aft n i)) (f k) (f (ge_aft n k))
theorem ge_bent_on {a b c : GPt} (h : ge_bent a b c) : ¬ ge_on b c a := by
  intro z
  obtain ⟨h1, h2, h3⟩ := h
  obtain ⟨i, j, w⟩ := ge_on_wt h2.symm z
  have z0 := z.1
  unfold ge_o at z0
  rcases h3 with q | q
  · exact q (by grind)
  · obtain ⟨e1, e2⟩ := ge_wt_eq w
    have hs := w.2.2.1
    have hj := w.2.1
    have k : (i + j) * ((a.1 - b.1) * (c.1 - b.1) + (a.2 - b.2) * (c.2 - b.2)) = j * ((c.1 - b.1) * (c.1 - b.1) + (c.2 - b.2) * (c.2 - b.2)) := by
      have k1 : (i + j) * ((a.1 - b.1) * (c.1 - b.1) + (a.2 - b.2) * (c.2 - b.2)) = (i + j) * (a.1 - b.1) * (c.1 - b.1) + (i + j) * (a.2 - b.2) * (c.2 - b.2) := by grind
      rw [k1, e1, e2]; grind
    have k2 := Int.mul_nonneg hj (show 0 ≤ (c.1 - b.1) * (c.1 - b.1) + (c.2 - b.2) * (c.2 - b.2) by have := ge_sq (c.1 - b.1); have := ge_sq (c.2 - b.2); omega)
    have := ge_nn hs (by rw [k]; exact k2)
    omega
/-- two edges of which neither follows the other don't meet -/
theorem ge_simp_far {n : Nat} {f : Nat → GPt} (h : ge_simp n f) {i j : Nat} (hi : i < n) (hj : j < n) (n1 : i ≠ j) (n2 : ge_aft n i ≠ j) (n3 : ge_aft n j ≠ i) : ¬ ge_meet (f i) (f (ge_aft n i)) (f j) (f (ge_aft n j)) := by
  rcases Nat.lt_or_gt_of_ne n1 with q | q
  · refine h.2 i j ?_ hj n3
    unfold ge_aft at n2
    split at n2 <;> omega
  · intro z
    refine h.2 j i ?_ hi n2 (ge_meet_symm z)
    unfold ge_aft at n3
    split at n3 <;> omega
theorem ge_simple_of {n : Nat} {f : Nat → GPt} (h3 : 3 ≤ n) (h : ge_simp n f) : ge_simple (ge_pl n f) := by
  have V : ∀ i j, i < n → j < n → ge_on (f i) (f (ge_aft n i)) (f j) → j = i ∨ j = ge_aft n i := fun i j hi hj z => by
    by_cases n1 : i = j
    · exact Or.inl n1.symm
    · by_cases n2 : ge_aft n i = j
      · exact Or.inr n2.symm
      · by_cases n3 : ge_aft n j = i
        · subst n3
          exact absurd z (ge_bent_on (h.1 j hj))
        · exact absurd (Or.inl z) (ge_simp_far h hi hj n1 n2 n3)
  have inj : ∀ i j, i < n → j < n → f i = f j → i = j := fun i j hi hj q => by
    have v1 := V i j hi hj (by rw [← q]; exact ge_on_l _ _)
    rcases v1 with r | r
    · exact r.symm
    · exact absurd (by rw [q, r]) (h.1 i hi).1
  refine ⟨?_, fun w hw e he z => ?_, fun e he g hg z => ?_⟩
  · unfold ge_pl
    rw [List.nodup_iff_pairwise_ne, List.pairwise_map]
    refine List.Pairwise.imp_of_mem (fun {i j} hi hj hij q => ?_) (List.pairwise_lt_range)
    have := inj i j (List.mem_range.mp hi) (List.mem_range.mp hj) q
    omega
  · obtain ⟨j, hj, rfl⟩ := ge_pl_mem.mp hw
    obtain ⟨i, hi, rfl⟩ := ge_E_mem_pl.mp he
    rcases V i j hi hj z with q | q
    · exact Or.inl (by rw [q])
    · exact Or.inr (by rw [q])
  · obtain ⟨i, hi, rfl⟩ := ge_E_mem_pl.mp he
    obtain ⟨j, hj, rfl⟩ := ge_E_mem_pl.mp hg
    have z1 : ge_o (f i) (f (ge_aft n i)) (f j) * ge_o (f i) (f (ge_aft n i)) (f (ge_aft n j)) < 0 := z.1
    by_cases n1 : i = j
    · subst n1
      rw [(ge_C_zz _ _).1, Int.zero_mul] at z1; omega
    · by_cases n2 : ge_aft n i = j
      · rw [← n2, (ge_C_zz _ _).2, Int.zero_mul] at z1; omega
      · by_cases n3 : ge_aft n j = i
        · rw [n3, (ge_C_zz _ _).1, Int.mul_zero] at z1; omega
        · exact ge_simp_far h hi hj n1 n2 n3 (Or.inr (Or.inr (Or.inr (Or.inr z))))
end
section
-- ===== PART A: goes FIRST, ahead of the names: the tables' words, and 'selects' of the private methods out of them =====
/-- a private method of a class that the tables say can be made, by its rows of tables_1 -/
def lw_okq (q : MethodName × Nat) : Prop := (q.1.cls ≠ "java/lang/invoke/MethodHandle" ∧ q.1.cls ≠ "java/lang/invoke/VarHandle") ∧ Cond.instantiable q.1.cls q.2 ∈ tables_1 ∧ Cond.privateMethod q.1 ∈ tables_1 ∧ Cond.instanceMethod q.1 ∈ tables_1
theorem lw_p0 : lw_okq (⟨"java/lang/Throwable", "fillInStackTrace", "(I)Ljava/lang/Throwable;"⟩, 6) := ⟨⟨by decide +kernel, by decide +kernel⟩, List.mem_of_getElem? (i := 460) (by decide +kernel), List.mem_of_getElem? (i := 458) (by decide +kernel), List.mem_of_getElem? (i := 459) (by decide +kernel)⟩
theorem lw_p1 : lw_okq (⟨"GalleryGuards$Input", "runEnd", "(III)I"⟩, 7) := ⟨⟨by decide +kernel, by decide +kernel⟩, List.mem_of_getElem? (i := 37) (by decide +kernel), List.mem_of_getElem? (i := 506) (by decide +kernel), List.mem_of_getElem? (i := 507) (by decide +kernel)⟩
theorem lw_p2 : lw_okq (⟨"GalleryGuards$Input", "digitsValue", "()I"⟩, 7) := ⟨⟨by decide +kernel, by decide +kernel⟩, List.mem_of_getElem? (i := 37) (by decide +kernel), List.mem_of_getElem? (i := 513) (by decide +kernel), List.mem_of_getElem? (i := 514) (by decide +kernel)⟩
theorem lw_p3 : lw_okq (⟨"GalleryGuards$Parser", "readVertices", "()I"⟩, 5) := ⟨⟨by decide +kernel, by decide +kernel⟩, List.mem_of_getElem? (i := 150) (by decide +kernel), List.mem_of_getElem? (i := 571) (by decide +kernel), List.mem_of_getElem? (i := 572) (by decide +kernel)⟩
theorem lw_p4 : lw_okq (⟨"GalleryGuards$Parser", "checkNumber", "(II)I"⟩, 5) := ⟨⟨by decide +kernel, by decide +kernel⟩, List.mem_of_getElem? (i := 150) (by decide +kernel), List.mem_of_getElem? (i := 622) (by decide +kernel), List.mem_of_getElem? (i := 623) (by decide +kernel)⟩
theorem lw_p5 : lw_okq (⟨"GalleryGuards$Parser", "readPlace", "(Z)I"⟩, 5) := ⟨⟨by decide +kernel, by decide +kernel⟩, List.mem_of_getElem? (i := 150) (by decide +kernel), List.mem_of_getElem? (i := 626) (by decide +kernel), List.mem_of_getElem? (i := 627) (by decide +kernel)⟩
theorem lw_p6 : lw_okq (⟨"GalleryGuards$Parser", "readLines", "()I"⟩, 5) := ⟨⟨by decide +kernel, by decide +kernel⟩, List.mem_of_getElem? (i := 150) (by decide +kernel), List.mem_of_getElem? (i := 638) (by decide +kernel), List.mem_of_getElem? (i := 639) (by decide +kernel)⟩
theorem lw_p7 : lw_okq (⟨"GalleryGuards$Parser", "readGuard", "()I"⟩, 5) := ⟨⟨by decide +kernel, by decide +kernel⟩, List.mem_of_getElem? (i := 150) (by decide +kernel), List.mem_of_getElem? (i := 643) (by decide +kernel), List.mem_of_getElem? (i := 644) (by decide +kernel)⟩
theorem lw_p8 : lw_okq (⟨"GalleryGuards$Parser", "readTreasure", "()I"⟩, 5) := ⟨⟨by decide +kernel, by decide +kernel⟩, List.mem_of_getElem? (i := 150) (by decide +kernel), List.mem_of_getElem? (i := 653) (by decide +kernel), List.mem_of_getElem? (i := 654) (by decide +kernel)⟩
theorem lw_p9 : lw_okq (⟨"GalleryGuards", "replacePlan", "(LGalleryGuards$Plan;)V"⟩, 18) := ⟨⟨by decide +kernel, by decide +kernel⟩, List.mem_of_getElem? (i := 29) (by decide +kernel), List.mem_of_getElem? (i := 682) (by decide +kernel), List.mem_of_getElem? (i := 683) (by decide +kernel)⟩
theorem lw_p10 : lw_okq (⟨"GalleryGuards", "needPolygon", "()V"⟩, 18) := ⟨⟨by decide +kernel, by decide +kernel⟩, List.mem_of_getElem? (i := 29) (by decide +kernel), List.mem_of_getElem? (i := 718) (by decide +kernel), List.mem_of_getElem? (i := 719) (by decide +kernel)⟩
theorem lw_p11 : lw_okq (⟨"GalleryGuards$Sight", "linkPairs", "(Z)V"⟩, 4) := ⟨⟨by decide +kernel, by decide +kernel⟩, List.mem_of_getElem? (i := 172) (by decide +kernel), List.mem_of_getElem? (i := 830) (by decide +kernel), List.mem_of_getElem? (i := 831) (by decide +kernel)⟩
theorem lw_p12 : lw_okq (⟨"GalleryGuards$Sight", "isChained", "(III)Z"⟩, 4) := ⟨⟨by decide +kernel, by decide +kernel⟩, List.mem_of_getElem? (i := 172) (by decide +kernel), List.mem_of_getElem? (i := 839) (by decide +kernel), List.mem_of_getElem? (i := 840) (by decide +kernel)⟩
theorem lw_p13 : lw_okq (⟨"GalleryGuards$Sight", "isClear", "(II)Z"⟩, 4) := ⟨⟨by decide +kernel, by decide +kernel⟩, List.mem_of_getElem? (i := 172) (by decide +kernel), List.mem_of_getElem? (i := 847) (by decide +kernel), List.mem_of_getElem? (i := 848) (by decide +kernel)⟩
theorem lw_p14 : lw_okq (⟨"GalleryGuards$Triangulation", "firstEar", "(Z)I"⟩, 9) := ⟨⟨by decide +kernel, by decide +kernel⟩, List.mem_of_getElem? (i := 192) (by decide +kernel), List.mem_of_getElem? (i := 968) (by decide +kernel), List.mem_of_getElem? (i := 969) (by decide +kernel)⟩
theorem lw_p15 : lw_okq (⟨"GalleryGuards$Triangulation", "ringAt", "(I)I"⟩, 9) := ⟨⟨by decide +kernel, by decide +kernel⟩, List.mem_of_getElem? (i := 192) (by decide +kernel), List.mem_of_getElem? (i := 972) (by decide +kernel), List.mem_of_getElem? (i := 973) (by decide +kernel)⟩
def lw_privs_1 : List (MethodName × Nat) := [(⟨"java/lang/Throwable", "fillInStackTrace", "(I)Ljava/lang/Throwable;"⟩, 6), (⟨"GalleryGuards$Input", "runEnd", "(III)I"⟩, 7), (⟨"GalleryGuards$Input", "digitsValue", "()I"⟩, 7), (⟨"GalleryGuards$Parser", "readVertices", "()I"⟩, 5), (⟨"GalleryGuards$Parser", "checkNumber", "(II)I"⟩, 5), (⟨"GalleryGuards$Parser", "readPlace", "(Z)I"⟩, 5), (⟨"GalleryGuards$Parser", "readLines", "()I"⟩, 5), (⟨"GalleryGuards$Parser", "readGuard", "()I"⟩, 5), (⟨"GalleryGuards$Parser", "readTreasure", "()I"⟩, 5), (⟨"GalleryGuards", "replacePlan", "(LGalleryGuards$Plan;)V"⟩, 18), (⟨"GalleryGuards", "needPolygon", "()V"⟩, 18), (⟨"GalleryGuards$Sight", "linkPairs", "(Z)V"⟩, 4), (⟨"GalleryGuards$Sight", "isChained", "(III)Z"⟩, 4), (⟨"GalleryGuards$Sight", "isClear", "(II)Z"⟩, 4), (⟨"GalleryGuards$Triangulation", "firstEar", "(Z)I"⟩, 9), (⟨"GalleryGuards$Triangulation", "ringAt", "(I)I"⟩, 9)]
theorem lw_r1 : ∀ q ∈ lw_privs_1, lw_okq q := List.forall_mem_cons.mpr ⟨lw_p0, List.forall_mem_cons.mpr ⟨lw_p1, List.forall_mem_cons.mpr ⟨lw_p2, List.forall_mem_cons.mpr ⟨lw_p3, List.forall_mem_cons.mpr ⟨lw_p4, List.forall_mem_cons.mpr ⟨lw_p5, List.forall_mem_cons.mpr ⟨lw_p6, List.forall_mem_cons.mpr ⟨lw_p7, List.forall_mem_cons.mpr ⟨lw_p8, List.forall_mem_cons.mpr ⟨lw_p9, List.forall_mem_cons.mpr ⟨lw_p10, List.forall_mem_cons.mpr ⟨lw_p11, List.forall_mem_cons.mpr ⟨lw_p12, List.forall_mem_cons.mpr ⟨lw_p13, List.forall_mem_cons.mpr ⟨lw_p14, List.forall_mem_cons.mpr ⟨lw_p15, fun _ h => absurd h List.not_mem_nil⟩⟩⟩⟩⟩⟩⟩⟩⟩⟩⟩⟩⟩⟩⟩⟩
theorem lw_p16 : lw_okq (⟨"GalleryGuards$Triangulation", "isFreeOfOthers", "(I)Z"⟩, 9) := ⟨⟨by decide +kernel, by decide +kernel⟩, List.mem_of_getElem? (i := 192) (by decide +kernel), List.mem_of_getElem? (i := 977) (by decide +kernel), List.mem_of_getElem? (i := 978) (by decide +kernel)⟩
theorem lw_p17 : lw_okq (⟨"GalleryGuards$Triangulation", "inTriangle", "(IIII)Z"⟩, 9) := ⟨⟨by decide +kernel, by decide +kernel⟩, List.mem_of_getElem? (i := 192) (by decide +kernel), List.mem_of_getElem? (i := 981) (by decide +kernel), List.mem_of_getElem? (i := 982) (by decide +kernel)⟩
theorem lw_p18 : lw_okq (⟨"GalleryGuards$Triangulation", "clip", "(II)V"⟩, 9) := ⟨⟨by decide +kernel, by decide +kernel⟩, List.mem_of_getElem? (i := 192) (by decide +kernel), List.mem_of_getElem? (i := 985) (by decide +kernel), List.mem_of_getElem? (i := 986) (by decide +kernel)⟩
theorem lw_p19 : lw_okq (⟨"GalleryGuards$Triangulation", "paint", "(I)V"⟩, 9) := ⟨⟨by decide +kernel, by decide +kernel⟩, List.mem_of_getElem? (i := 192) (by decide +kernel), List.mem_of_getElem? (i := 990) (by decide +kernel), List.mem_of_getElem? (i := 991) (by decide +kernel)⟩
theorem lw_p20 : lw_okq (⟨"GalleryGuards$Triangulation", "tint", "(II)V"⟩, 9) := ⟨⟨by decide +kernel, by decide +kernel⟩, List.mem_of_getElem? (i := 192) (by decide +kernel), List.mem_of_getElem? (i := 994) (by decide +kernel), List.mem_of_getElem? (i := 995) (by decide +kernel)⟩
theorem lw_p21 : lw_okq (⟨"GalleryGuards$Triangulation", "tintOf", "(I)I"⟩, 9) := ⟨⟨by decide +kernel, by decide +kernel⟩, List.mem_of_getElem? (i := 192) (by decide +kernel), List.mem_of_getElem? (i := 998) (by decide +kernel), List.mem_of_getElem? (i := 999) (by decide +kernel)⟩
theorem lw_p22 : lw_okq (⟨"GalleryGuards$Triangulation", "colourSet", "(I)I"⟩, 9) := ⟨⟨by decide +kernel, by decide +kernel⟩, List.mem_of_getElem? (i := 192) (by decide +kernel), List.mem_of_getElem? (i := 1041) (by decide +kernel), List.mem_of_getElem? (i := 1042) (by decide +kernel)⟩
theorem lw_p23 : lw_okq (⟨"GalleryGuards$CoverSearch", "fewestViews", "()I"⟩, 9) := ⟨⟨by decide +kernel, by decide +kernel⟩, List.mem_of_getElem? (i := 226) (by decide +kernel), List.mem_of_getElem? (i := 1067) (by decide +kernel), List.mem_of_getElem? (i := 1068) (by decide +kernel)⟩
theorem lw_p24 : lw_okq (⟨"GalleryGuards$CoverSearch", "viewOf", "(I)J"⟩, 9) := ⟨⟨by decide +kernel, by decide +kernel⟩, List.mem_of_getElem? (i := 226) (by decide +kernel), List.mem_of_getElem? (i := 1073) (by decide +kernel), List.mem_of_getElem? (i := 1074) (by decide +kernel)⟩
theorem lw_p25 : lw_okq (⟨"GalleryGuards$CoverSearch", "pick", "(JIII)Z"⟩, 9) := ⟨⟨by decide +kernel, by decide +kernel⟩, List.mem_of_getElem? (i := 226) (by decide +kernel), List.mem_of_getElem? (i := 1102) (by decide +kernel), List.mem_of_getElem? (i := 1103) (by decide +kernel)⟩
theorem lw_p26 : lw_okq (⟨"GalleryGuards$SpreadSearch", "pick", "(JII)Z"⟩, 5) := ⟨⟨by decide +kernel, by decide +kernel⟩, List.mem_of_getElem? (i := 260) (by decide +kernel), List.mem_of_getElem? (i := 1132) (by decide +kernel), List.mem_of_getElem? (i := 1133) (by decide +kernel)⟩
theorem lw_p27 : lw_okq (⟨"GalleryGuards$SpreadSearch", "largestHidden", "(JI)I"⟩, 5) := ⟨⟨by decide +kernel, by decide +kernel⟩, List.mem_of_getElem? (i := 260) (by decide +kernel), List.mem_of_getElem? (i := 1166) (by decide +kernel), List.mem_of_getElem? (i := 1167) (by decide +kernel)⟩
theorem lw_p28 : lw_okq (⟨"GalleryGuards$SpreadSearch", "withoutDominated", "(J)J"⟩, 5) := ⟨⟨by decide +kernel, by decide +kernel⟩, List.mem_of_getElem? (i := 260) (by decide +kernel), List.mem_of_getElem? (i := 1170) (by decide +kernel), List.mem_of_getElem? (i := 1171) (by decide +kernel)⟩
theorem lw_p29 : lw_okq (⟨"GalleryGuards$SpreadSearch", "isDominated", "(IJ)Z"⟩, 5) := ⟨⟨by decide +kernel, by decide +kernel⟩, List.mem_of_getElem? (i := 260) (by decide +kernel), List.mem_of_getElem? (i := 1174) (by decide +kernel), List.mem_of_getElem? (i := 1175) (by decide +kernel)⟩
theorem lw_p30 : lw_okq (⟨"GalleryGuards$SpreadSearch", "leastSeeing", "(J)I"⟩, 5) := ⟨⟨by decide +kernel, by decide +kernel⟩, List.mem_of_getElem? (i := 260) (by decide +kernel), List.mem_of_getElem? (i := 1178) (by decide +kernel), List.mem_of_getElem? (i := 1179) (by decide +kernel)⟩
theorem lw_p31 : lw_okq (⟨"GalleryGuards$Watch", "within", "(II)J"⟩, 3) := ⟨⟨by decide +kernel, by decide +kernel⟩, List.mem_of_getElem? (i := 282) (by decide +kernel), List.mem_of_getElem? (i := 1227) (by decide +kernel), List.mem_of_getElem? (i := 1228) (by decide +kernel)⟩
def lw_privs_2 : List (MethodName × Nat) := [(⟨"GalleryGuards$Triangulation", "isFreeOfOthers", "(I)Z"⟩, 9), (⟨"GalleryGuards$Triangulation", "inTriangle", "(IIII)Z"⟩, 9), (⟨"GalleryGuards$Triangulation", "clip", "(II)V"⟩, 9), (⟨"GalleryGuards$Triangulation", "paint", "(I)V"⟩, 9), (⟨"GalleryGuards$Triangulation", "tint", "(II)V"⟩, 9), (⟨"GalleryGuards$Triangulation", "tintOf", "(I)I"⟩, 9), (⟨"GalleryGuards$Triangulation", "colourSet", "(I)I"⟩, 9), (⟨"GalleryGuards$CoverSearch", "fewestViews", "()I"⟩, 9), (⟨"GalleryGuards$CoverSearch", "viewOf", "(I)J"⟩, 9), (⟨"GalleryGuards$CoverSearch", "pick", "(JIII)Z"⟩, 9), (⟨"GalleryGuards$SpreadSearch", "pick", "(JII)Z"⟩, 5), (⟨"GalleryGuards$SpreadSearch", "largestHidden", "(JI)I"⟩, 5), (⟨"GalleryGuards$SpreadSearch", "withoutDominated", "(J)J"⟩, 5), (⟨"GalleryGuards$SpreadSearch", "isDominated", "(IJ)Z"⟩, 5), (⟨"GalleryGuards$SpreadSearch", "leastSeeing", "(J)I"⟩, 5), (⟨"GalleryGuards$Watch", "within", "(II)J"⟩, 3)]
theorem lw_r2 : ∀ q ∈ lw_privs_2, lw_okq q := List.forall_mem_cons.mpr ⟨lw_p16, List.forall_mem_cons.mpr ⟨lw_p17, List.forall_mem_cons.mpr ⟨lw_p18, List.forall_mem_cons.mpr ⟨lw_p19, List.forall_mem_cons.mpr ⟨lw_p20, List.forall_mem_cons.mpr ⟨lw_p21, List.forall_mem_cons.mpr ⟨lw_p22, List.forall_mem_cons.mpr ⟨lw_p23, List.forall_mem_cons.mpr ⟨lw_p24, List.forall_mem_cons.mpr ⟨lw_p25, List.forall_mem_cons.mpr ⟨lw_p26, List.forall_mem_cons.mpr ⟨lw_p27, List.forall_mem_cons.mpr ⟨lw_p28, List.forall_mem_cons.mpr ⟨lw_p29, List.forall_mem_cons.mpr ⟨lw_p30, List.forall_mem_cons.mpr ⟨lw_p31, fun _ h => absurd h List.not_mem_nil⟩⟩⟩⟩⟩⟩⟩⟩⟩⟩⟩⟩⟩⟩⟩⟩
theorem lw_p32 : lw_okq (⟨"GalleryGuards", "signAt", "(IIJ)I"⟩, 18) := ⟨⟨by decide +kernel, by decide +kernel⟩, List.mem_of_getElem? (i := 29) (by decide +kernel), List.mem_of_getElem? (i := 1353) (by decide +kernel), List.mem_of_getElem? (i := 1354) (by decide +kernel)⟩
theorem lw_p33 : lw_okq (⟨"GalleryGuards", "adoptDraft", "()I"⟩, 18) := ⟨⟨by decide +kernel, by decide +kernel⟩, List.mem_of_getElem? (i := 29) (by decide +kernel), List.mem_of_getElem? (i := 1434) (by decide +kernel), List.mem_of_getElem? (i := 1435) (by decide +kernel)⟩
theorem lw_p34 : lw_okq (⟨"GalleryGuards", "savedIn", "(I)LGalleryGuards$Plan;"⟩, 18) := ⟨⟨by decide +kernel, by decide +kernel⟩, List.mem_of_getElem? (i := 29) (by decide +kernel), List.mem_of_getElem? (i := 1488) (by decide +kernel), List.mem_of_getElem? (i := 1489) (by decide +kernel)⟩
theorem lw_p35 : lw_okq (⟨"GalleryGuardsModel", "refuse", "(ZI)Z"⟩, 41) := ⟨⟨by decide +kernel, by decide +kernel⟩, List.mem_of_getElem? (i := 1500) (by decide +kernel), List.mem_of_getElem? (i := 1654) (by decide +kernel), List.mem_of_getElem? (i := 1655) (by decide +kernel)⟩
theorem lw_p36 : lw_okq (⟨"GalleryGuardsModel", "reads", "(I)V"⟩, 41) := ⟨⟨by decide +kernel, by decide +kernel⟩, List.mem_of_getElem? (i := 1500) (by decide +kernel), List.mem_of_getElem? (i := 1658) (by decide +kernel), List.mem_of_getElem? (i := 1659) (by decide +kernel)⟩
theorem lw_p37 : lw_okq (⟨"GalleryGuardsModel", "token", "()V"⟩, 41) := ⟨⟨by decide +kernel, by decide +kernel⟩, List.mem_of_getElem? (i := 1500) (by decide +kernel), List.mem_of_getElem? (i := 1662) (by decide +kernel), List.mem_of_getElem? (i := 1663) (by decide +kernel)⟩
theorem lw_p38 : lw_okq (⟨"GalleryGuardsModel", "seen", "(I)I"⟩, 41) := ⟨⟨by decide +kernel, by decide +kernel⟩, List.mem_of_getElem? (i := 1500) (by decide +kernel), List.mem_of_getElem? (i := 1666) (by decide +kernel), List.mem_of_getElem? (i := 1667) (by decide +kernel)⟩
theorem lw_p39 : lw_okq (⟨"GalleryGuardsModel", "polygonLine", "()V"⟩, 41) := ⟨⟨by decide +kernel, by decide +kernel⟩, List.mem_of_getElem? (i := 1500) (by decide +kernel), List.mem_of_getElem? (i := 1676) (by decide +kernel), List.mem_of_getElem? (i := 1677) (by decide +kernel)⟩
theorem lw_p40 : lw_okq (⟨"GalleryGuardsModel", "isWord", "(Ljava/lang/String;)Z"⟩, 41) := ⟨⟨by decide +kernel, by decide +kernel⟩, List.mem_of_getElem? (i := 1500) (by decide +kernel), List.mem_of_getElem? (i := 1681) (by decide +kernel), List.mem_of_getElem? (i := 1682) (by decide +kernel)⟩
theorem lw_p41 : lw_okq (⟨"GalleryGuardsModel", "fails", "(I)V"⟩, 41) := ⟨⟨by decide +kernel, by decide +kernel⟩, List.mem_of_getElem? (i := 1500) (by decide +kernel), List.mem_of_getElem? (i := 1687) (by decide +kernel), List.mem_of_getElem? (i := 1688) (by decide +kernel)⟩
theorem lw_p42 : lw_okq (⟨"GalleryGuardsModel", "goesOn", "()V"⟩, 41) := ⟨⟨by decide +kernel, by decide +kernel⟩, List.mem_of_getElem? (i := 1500) (by decide +kernel), List.mem_of_getElem? (i := 1691) (by decide +kernel), List.mem_of_getElem? (i := 1692) (by decide +kernel)⟩
theorem lw_p43 : lw_okq (⟨"GalleryGuardsModel", "numberHere", "(II)I"⟩, 41) := ⟨⟨by decide +kernel, by decide +kernel⟩, List.mem_of_getElem? (i := 1500) (by decide +kernel), List.mem_of_getElem? (i := 1695) (by decide +kernel), List.mem_of_getElem? (i := 1696) (by decide +kernel)⟩
theorem lw_p44 : lw_okq (⟨"GalleryGuardsModel", "takes", "(II)I"⟩, 41) := ⟨⟨by decide +kernel, by decide +kernel⟩, List.mem_of_getElem? (i := 1500) (by decide +kernel), List.mem_of_getElem? (i := 1699) (by decide +kernel), List.mem_of_getElem? (i := 1700) (by decide +kernel)⟩
theorem lw_p45 : lw_okq (⟨"GalleryGuardsModel", "thingLine", "(Z)V"⟩, 41) := ⟨⟨by decide +kernel, by decide +kernel⟩, List.mem_of_getElem? (i := 1500) (by decide +kernel), List.mem_of_getElem? (i := 1741) (by decide +kernel), List.mem_of_getElem? (i := 1742) (by decide +kernel)⟩
theorem lw_p46 : lw_okq (⟨"GalleryGuardsModel", "laysPoints", "()V"⟩, 41) := ⟨⟨by decide +kernel, by decide +kernel⟩, List.mem_of_getElem? (i := 1500) (by decide +kernel), List.mem_of_getElem? (i := 1746) (by decide +kernel), List.mem_of_getElem? (i := 1747) (by decide +kernel)⟩
theorem lw_p47 : lw_okq (⟨"GalleryGuardsModel", "told", "(I)I"⟩, 41) := ⟨⟨by decide +kernel, by decide +kernel⟩, List.mem_of_getElem? (i := 1500) (by decide +kernel), List.mem_of_getElem? (i := 1754) (by decide +kernel), List.mem_of_getElem? (i := 1755) (by decide +kernel)⟩
def lw_privs_3 : List (MethodName × Nat) := [(⟨"GalleryGuards", "signAt", "(IIJ)I"⟩, 18), (⟨"GalleryGuards", "adoptDraft", "()I"⟩, 18), (⟨"GalleryGuards", "savedIn", "(I)LGalleryGuards$Plan;"⟩, 18), (⟨"GalleryGuardsModel", "refuse", "(ZI)Z"⟩, 41), (⟨"GalleryGuardsModel", "reads", "(I)V"⟩, 41), (⟨"GalleryGuardsModel", "token", "()V"⟩, 41), (⟨"GalleryGuardsModel", "seen", "(I)I"⟩, 41), (⟨"GalleryGuardsModel", "polygonLine", "()V"⟩, 41), (⟨"GalleryGuardsModel", "isWord", "(Ljava/lang/String;)Z"⟩, 41), (⟨"GalleryGuardsModel", "fails", "(I)V"⟩, 41), (⟨"GalleryGuardsModel", "goesOn", "()V"⟩, 41), (⟨"GalleryGuardsModel", "numberHere", "(II)I"⟩, 41), (⟨"GalleryGuardsModel", "takes", "(II)I"⟩, 41), (⟨"GalleryGuardsModel", "thingLine", "(Z)V"⟩, 41), (⟨"GalleryGuardsModel", "laysPoints", "()V"⟩, 41), (⟨"GalleryGuardsModel", "told", "(I)I"⟩, 41)]
theorem lw_r3 : ∀ q ∈ lw_privs_3, lw_okq q := List.forall_mem_cons.mpr ⟨lw_p32, List.forall_mem_cons.mpr ⟨lw_p33, List.forall_mem_cons.mpr ⟨lw_p34, List.forall_mem_cons.mpr ⟨lw_p35, List.forall_mem_cons.mpr ⟨lw_p36, List.forall_mem_cons.mpr ⟨lw_p37, List.forall_mem_cons.mpr ⟨lw_p38, List.forall_mem_cons.mpr ⟨lw_p39, List.forall_mem_cons.mpr ⟨lw_p40, List.forall_mem_cons.mpr ⟨lw_p41, List.forall_mem_cons.mpr ⟨lw_p42, List.forall_mem_cons.mpr ⟨lw_p43, List.forall_mem_cons.mpr ⟨lw_p44, List.forall_mem_cons.mpr ⟨lw_p45, List.forall_mem_cons.mpr ⟨lw_p46, List.forall_mem_cons.mpr ⟨lw_p47, fun _ h => absurd h List.not_mem_nil⟩⟩⟩⟩⟩⟩⟩⟩⟩⟩⟩⟩⟩⟩⟩⟩
theorem lw_p48 : lw_okq (⟨"GalleryGuardsModel", "noVertex", "(I)Z"⟩, 41) := ⟨⟨by decide +kernel, by decide +kernel⟩, List.mem_of_getElem? (i := 1500) (by decide +kernel), List.mem_of_getElem? (i := 1778) (by decide +kernel), List.mem_of_getElem? (i := 1779) (by decide +kernel)⟩
theorem lw_p49 : lw_okq (⟨"GalleryGuardsModel", "noPolygon", "()Z"⟩, 41) := ⟨⟨by decide +kernel, by decide +kernel⟩, List.mem_of_getElem? (i := 1500) (by decide +kernel), List.mem_of_getElem? (i := 1782) (by decide +kernel), List.mem_of_getElem? (i := 1783) (by decide +kernel)⟩
theorem lw_p50 : lw_okq (⟨"GalleryGuardsModel", "noPoint", "(I)Z"⟩, 41) := ⟨⟨by decide +kernel, by decide +kernel⟩, List.mem_of_getElem? (i := 1500) (by decide +kernel), List.mem_of_getElem? (i := 1794) (by decide +kernel), List.mem_of_getElem? (i := 1795) (by decide +kernel)⟩
theorem lw_p51 : lw_okq (⟨"GalleryGuardsModel", "at", "(II)I"⟩, 41) := ⟨⟨by decide +kernel, by decide +kernel⟩, List.mem_of_getElem? (i := 1500) (by decide +kernel), List.mem_of_getElem? (i := 1806) (by decide +kernel), List.mem_of_getElem? (i := 1807) (by decide +kernel)⟩
theorem lw_p52 : lw_okq (⟨"GalleryGuardsModel", "turned", "()I"⟩, 41) := ⟨⟨by decide +kernel, by decide +kernel⟩, List.mem_of_getElem? (i := 1500) (by decide +kernel), List.mem_of_getElem? (i := 1814) (by decide +kernel), List.mem_of_getElem? (i := 1815) (by decide +kernel)⟩
theorem lw_p53 : lw_okq (⟨"GalleryGuardsModel", "turn", "(III)I"⟩, 41) := ⟨⟨by decide +kernel, by decide +kernel⟩, List.mem_of_getElem? (i := 1500) (by decide +kernel), List.mem_of_getElem? (i := 1822) (by decide +kernel), List.mem_of_getElem? (i := 1823) (by decide +kernel)⟩
theorem lw_p54 : lw_okq (⟨"GalleryGuardsModel", "laysSight", "()V"⟩, 41) := ⟨⟨by decide +kernel, by decide +kernel⟩, List.mem_of_getElem? (i := 1500) (by decide +kernel), List.mem_of_getElem? (i := 1834) (by decide +kernel), List.mem_of_getElem? (i := 1835) (by decide +kernel)⟩
theorem lw_p55 : lw_okq (⟨"GalleryGuardsModel", "isFree", "(JJJJJ)Z"⟩, 41) := ⟨⟨by decide +kernel, by decide +kernel⟩, List.mem_of_getElem? (i := 1500) (by decide +kernel), List.mem_of_getElem? (i := 1838) (by decide +kernel), List.mem_of_getElem? (i := 1839) (by decide +kernel)⟩
theorem lw_p56 : lw_okq (⟨"GalleryGuardsModel", "all", "()J"⟩, 41) := ⟨⟨by decide +kernel, by decide +kernel⟩, List.mem_of_getElem? (i := 1500) (by decide +kernel), List.mem_of_getElem? (i := 1854) (by decide +kernel), List.mem_of_getElem? (i := 1855) (by decide +kernel)⟩
theorem lw_p57 : lw_okq (⟨"GalleryGuardsModel", "laysLinks", "(I)I"⟩, 41) := ⟨⟨by decide +kernel, by decide +kernel⟩, List.mem_of_getElem? (i := 1500) (by decide +kernel), List.mem_of_getElem? (i := 1863) (by decide +kernel), List.mem_of_getElem? (i := 1864) (by decide +kernel)⟩
theorem lw_p58 : lw_okq (⟨"GalleryGuardsModel", "noTriangle", "(I)Z"⟩, 41) := ⟨⟨by decide +kernel, by decide +kernel⟩, List.mem_of_getElem? (i := 1500) (by decide +kernel), List.mem_of_getElem? (i := 1883) (by decide +kernel), List.mem_of_getElem? (i := 1884) (by decide +kernel)⟩
theorem lw_p59 : lw_okq (⟨"GalleryGuardsModel", "laysTriangles", "()V"⟩, 41) := ⟨⟨by decide +kernel, by decide +kernel⟩, List.mem_of_getElem? (i := 1500) (by decide +kernel), List.mem_of_getElem? (i := 1887) (by decide +kernel), List.mem_of_getElem? (i := 1888) (by decide +kernel)⟩
theorem lw_p60 : lw_okq (⟨"GalleryGuardsModel", "isEar", "(II)Z"⟩, 41) := ⟨⟨by decide +kernel, by decide +kernel⟩, List.mem_of_getElem? (i := 1500) (by decide +kernel), List.mem_of_getElem? (i := 1891) (by decide +kernel), List.mem_of_getElem? (i := 1892) (by decide +kernel)⟩
theorem lw_p61 : lw_okq (⟨"GalleryGuardsModel", "laysTriangle", "(IIII)V"⟩, 41) := ⟨⟨by decide +kernel, by decide +kernel⟩, List.mem_of_getElem? (i := 1500) (by decide +kernel), List.mem_of_getElem? (i := 1895) (by decide +kernel), List.mem_of_getElem? (i := 1896) (by decide +kernel)⟩
theorem lw_p62 : lw_okq (⟨"GalleryGuardsModel", "laysColours", "()V"⟩, 41) := ⟨⟨by decide +kernel, by decide +kernel⟩, List.mem_of_getElem? (i := 1500) (by decide +kernel), List.mem_of_getElem? (i := 1907) (by decide +kernel), List.mem_of_getElem? (i := 1908) (by decide +kernel)⟩
theorem lw_p63 : lw_okq (⟨"GalleryGuardsModel", "ofColour", "(I)I"⟩, 41) := ⟨⟨by decide +kernel, by decide +kernel⟩, List.mem_of_getElem? (i := 1500) (by decide +kernel), List.mem_of_getElem? (i := 1915) (by decide +kernel), List.mem_of_getElem? (i := 1916) (by decide +kernel)⟩
def lw_privs_4 : List (MethodName × Nat) := [(⟨"GalleryGuardsModel", "noVertex", "(I)Z"⟩, 41), (⟨"GalleryGuardsModel", "noPolygon", "()Z"⟩, 41), (⟨"GalleryGuardsModel", "noPoint", "(I)Z"⟩, 41), (⟨"GalleryGuardsModel", "at", "(II)I"⟩, 41), (⟨"GalleryGuardsModel", "turned", "()I"⟩, 41), (⟨"GalleryGuardsModel", "turn", "(III)I"⟩, 41), (⟨"GalleryGuardsModel", "laysSight", "()V"⟩, 41), (⟨"GalleryGuardsModel", "isFree", "(JJJJJ)Z"⟩, 41), (⟨"GalleryGuardsModel", "all", "()J"⟩, 41), (⟨"GalleryGuardsModel", "laysLinks", "(I)I"⟩, 41), (⟨"GalleryGuardsModel", "noTriangle", "(I)Z"⟩, 41), (⟨"GalleryGuardsModel", "laysTriangles", "()V"⟩, 41), (⟨"GalleryGuardsModel", "isEar", "(II)Z"⟩, 41), (⟨"GalleryGuardsModel", "laysTriangle", "(IIII)V"⟩, 41), (⟨"GalleryGuardsModel", "laysColours", "()V"⟩, 41), (⟨"GalleryGuardsModel", "ofColour", "(I)I"⟩, 41)]
theorem lw_r4 : ∀ q ∈ lw_privs_4, lw_okq q := List.forall_mem_cons.mpr ⟨lw_p48, List.forall_mem_cons.mpr ⟨lw_p49, List.forall_mem_cons.mpr ⟨lw_p50, List.forall_mem_cons.mpr ⟨lw_p51, List.forall_mem_cons.mpr ⟨lw_p52, List.forall_mem_cons.mpr ⟨lw_p53, List.forall_mem_cons.mpr ⟨lw_p54, List.forall_mem_cons.mpr ⟨lw_p55, List.forall_mem_cons.mpr ⟨lw_p56, List.forall_mem_cons.mpr ⟨lw_p57, List.forall_mem_cons.mpr ⟨lw_p58, List.forall_mem_cons.mpr ⟨lw_p59, List.forall_mem_cons.mpr ⟨lw_p60, List.forall_mem_cons.mpr ⟨lw_p61, List.forall_mem_cons.mpr ⟨lw_p62, List.forall_mem_cons.mpr ⟨lw_p63, fun _ h => absurd h List.not_mem_nil⟩⟩⟩⟩⟩⟩⟩⟩⟩⟩⟩⟩⟩⟩⟩⟩
theorem lw_p64 : lw_okq (⟨"GalleryGuardsModel", "fewest", "(Z)I"⟩, 41) := ⟨⟨by decide +kernel, by decide +kernel⟩, List.mem_of_getElem? (i := 1500) (by decide +kernel), List.mem_of_getElem? (i := 1926) (by decide +kernel), List.mem_of_getElem? (i := 1927) (by decide +kernel)⟩
theorem lw_p65 : lw_okq (⟨"GalleryGuardsModel", "pointOf", "(I)I"⟩, 41) := ⟨⟨by decide +kernel, by decide +kernel⟩, List.mem_of_getElem? (i := 1500) (by decide +kernel), List.mem_of_getElem? (i := 1930) (by decide +kernel), List.mem_of_getElem? (i := 1931) (by decide +kernel)⟩
theorem lw_p66 : lw_okq (⟨"GalleryGuardsModel", "laysGuards", "()V"⟩, 41) := ⟨⟨by decide +kernel, by decide +kernel⟩, List.mem_of_getElem? (i := 1500) (by decide +kernel), List.mem_of_getElem? (i := 1942) (by decide +kernel), List.mem_of_getElem? (i := 1943) (by decide +kernel)⟩
theorem lw_p67 : lw_okq (⟨"GalleryGuardsModel", "laysGuards", "(IIIJ)Z"⟩, 41) := ⟨⟨by decide +kernel, by decide +kernel⟩, List.mem_of_getElem? (i := 1500) (by decide +kernel), List.mem_of_getElem? (i := 1946) (by decide +kernel), List.mem_of_getElem? (i := 1947) (by decide +kernel)⟩
theorem lw_p68 : lw_okq (⟨"GalleryGuardsModel", "laysWitnesses", "()V"⟩, 41) := ⟨⟨by decide +kernel, by decide +kernel⟩, List.mem_of_getElem? (i := 1500) (by decide +kernel), List.mem_of_getElem? (i := 1958) (by decide +kernel), List.mem_of_getElem? (i := 1959) (by decide +kernel)⟩
theorem lw_p69 : lw_okq (⟨"GalleryGuardsModel", "laysWitnesses", "(IIIJ)Z"⟩, 41) := ⟨⟨by decide +kernel, by decide +kernel⟩, List.mem_of_getElem? (i := 1500) (by decide +kernel), List.mem_of_getElem? (i := 1962) (by decide +kernel), List.mem_of_getElem? (i := 1963) (by decide +kernel)⟩
theorem lw_p70 : lw_okq (⟨"GalleryGuardsModel", "hides", "(JI)V"⟩, 41) := ⟨⟨by decide +kernel, by decide +kernel⟩, List.mem_of_getElem? (i := 1500) (by decide +kernel), List.mem_of_getElem? (i := 1974) (by decide +kernel), List.mem_of_getElem? (i := 1975) (by decide +kernel)⟩
theorem lw_p71 : lw_okq (⟨"GalleryGuardsModel", "groups", "(J)I"⟩, 41) := ⟨⟨by decide +kernel, by decide +kernel⟩, List.mem_of_getElem? (i := 1500) (by decide +kernel), List.mem_of_getElem? (i := 1978) (by decide +kernel), List.mem_of_getElem? (i := 1979) (by decide +kernel)⟩
theorem lw_p72 : lw_okq (⟨"GalleryGuardsModel", "noGuard", "(I)Z"⟩, 41) := ⟨⟨by decide +kernel, by decide +kernel⟩, List.mem_of_getElem? (i := 1500) (by decide +kernel), List.mem_of_getElem? (i := 1989) (by decide +kernel), List.mem_of_getElem? (i := 1990) (by decide +kernel)⟩
theorem lw_p73 : lw_okq (⟨"GalleryGuardsModel", "guard", "(II)I"⟩, 41) := ⟨⟨by decide +kernel, by decide +kernel⟩, List.mem_of_getElem? (i := 1500) (by decide +kernel), List.mem_of_getElem? (i := 1993) (by decide +kernel), List.mem_of_getElem? (i := 1994) (by decide +kernel)⟩
theorem lw_p74 : lw_okq (⟨"GalleryGuardsModel", "watchOf", "(I)J"⟩, 41) := ⟨⟨by decide +kernel, by decide +kernel⟩, List.mem_of_getElem? (i := 1500) (by decide +kernel), List.mem_of_getElem? (i := 2005) (by decide +kernel), List.mem_of_getElem? (i := 2006) (by decide +kernel)⟩
theorem lw_p75 : lw_okq (⟨"GalleryGuardsModel", "watchOf", "(III)J"⟩, 41) := ⟨⟨by decide +kernel, by decide +kernel⟩, List.mem_of_getElem? (i := 1500) (by decide +kernel), List.mem_of_getElem? (i := 2009) (by decide +kernel), List.mem_of_getElem? (i := 2010) (by decide +kernel)⟩
theorem lw_p76 : lw_okq (⟨"GalleryGuardsModel", "watchBut", "(I)J"⟩, 41) := ⟨⟨by decide +kernel, by decide +kernel⟩, List.mem_of_getElem? (i := 1500) (by decide +kernel), List.mem_of_getElem? (i := 2017) (by decide +kernel), List.mem_of_getElem? (i := 2018) (by decide +kernel)⟩
theorem lw_p77 : lw_okq (⟨"GalleryGuardsModel", "bestFor", "(J)I"⟩, 41) := ⟨⟨by decide +kernel, by decide +kernel⟩, List.mem_of_getElem? (i := 1500) (by decide +kernel), List.mem_of_getElem? (i := 2033) (by decide +kernel), List.mem_of_getElem? (i := 2034) (by decide +kernel)⟩
theorem lw_p78 : lw_okq (⟨"GalleryGuardsModel", "treasure", "(II)I"⟩, 41) := ⟨⟨by decide +kernel, by decide +kernel⟩, List.mem_of_getElem? (i := 1500) (by decide +kernel), List.mem_of_getElem? (i := 2045) (by decide +kernel), List.mem_of_getElem? (i := 2046) (by decide +kernel)⟩
theorem lw_p79 : lw_okq (⟨"GalleryGuardsModel", "worthOf", "(J)I"⟩, 41) := ⟨⟨by decide +kernel, by decide +kernel⟩, List.mem_of_getElem? (i := 1500) (by decide +kernel), List.mem_of_getElem? (i := 2053) (by decide +kernel), List.mem_of_getElem? (i := 2054) (by decide +kernel)⟩
def lw_privs_5 : List (MethodName × Nat) := [(⟨"GalleryGuardsModel", "fewest", "(Z)I"⟩, 41), (⟨"GalleryGuardsModel", "pointOf", "(I)I"⟩, 41), (⟨"GalleryGuardsModel", "laysGuards", "()V"⟩, 41), (⟨"GalleryGuardsModel", "laysGuards", "(IIIJ)Z"⟩, 41), (⟨"GalleryGuardsModel", "laysWitnesses", "()V"⟩, 41), (⟨"GalleryGuardsModel", "laysWitnesses", "(IIIJ)Z"⟩, 41), (⟨"GalleryGuardsModel", "hides", "(JI)V"⟩, 41), (⟨"GalleryGuardsModel", "groups", "(J)I"⟩, 41), (⟨"GalleryGuardsModel", "noGuard", "(I)Z"⟩, 41), (⟨"GalleryGuardsModel", "guard", "(II)I"⟩, 41), (⟨"GalleryGuardsModel", "watchOf", "(I)J"⟩, 41), (⟨"GalleryGuardsModel", "watchOf", "(III)J"⟩, 41), (⟨"GalleryGuardsModel", "watchBut", "(I)J"⟩, 41), (⟨"GalleryGuardsModel", "bestFor", "(J)I"⟩, 41), (⟨"GalleryGuardsModel", "treasure", "(II)I"⟩, 41), (⟨"GalleryGuardsModel", "worthOf", "(J)I"⟩, 41)]
theorem lw_r5 : ∀ q ∈ lw_privs_5, lw_okq q := List.forall_mem_cons.mpr ⟨lw_p64, List.forall_mem_cons.mpr ⟨lw_p65, List.forall_mem_cons.mpr ⟨lw_p66, List.forall_mem_cons.mpr ⟨lw_p67, List.forall_mem_cons.mpr ⟨lw_p68, List.forall_mem_cons.mpr ⟨lw_p69, List.forall_mem_cons.mpr ⟨lw_p70, List.forall_mem_cons.mpr ⟨lw_p71, List.forall_mem_cons.mpr ⟨lw_p72, List.forall_mem_cons.mpr ⟨lw_p73, List.forall_mem_cons.mpr ⟨lw_p74, List.forall_mem_cons.mpr ⟨lw_p75, List.forall_mem_cons.mpr ⟨lw_p76, List.forall_mem_cons.mpr ⟨lw_p77, List.forall_mem_cons.mpr ⟨lw_p78, List.forall_mem_cons.mpr ⟨lw_p79, fun _ h => absurd h List.not_mem_nil⟩⟩⟩⟩⟩⟩⟩⟩⟩⟩⟩⟩⟩⟩⟩⟩
theorem lw_p80 : lw_okq (⟨"GalleryGuardsModel", "isGuardAt", "(II)Z"⟩, 41) := ⟨⟨by decide +kernel, by decide +kernel⟩, List.mem_of_getElem? (i := 1500) (by decide +kernel), List.mem_of_getElem? (i := 2065) (by decide +kernel), List.mem_of_getElem? (i := 2066) (by decide +kernel)⟩
theorem lw_p81 : lw_okq (⟨"GalleryGuardsModel", "isTreasureAt", "(II)Z"⟩, 41) := ⟨⟨by decide +kernel, by decide +kernel⟩, List.mem_of_getElem? (i := 1500) (by decide +kernel), List.mem_of_getElem? (i := 2069) (by decide +kernel), List.mem_of_getElem? (i := 2070) (by decide +kernel)⟩
theorem lw_p82 : lw_okq (⟨"GalleryGuardsModel", "isVertexAt", "(II)Z"⟩, 41) := ⟨⟨by decide +kernel, by decide +kernel⟩, List.mem_of_getElem? (i := 1500) (by decide +kernel), List.mem_of_getElem? (i := 2073) (by decide +kernel), List.mem_of_getElem? (i := 2074) (by decide +kernel)⟩
theorem lw_p83 : lw_okq (⟨"GalleryGuardsModel", "keeps", "()V"⟩, 41) := ⟨⟨by decide +kernel, by decide +kernel⟩, List.mem_of_getElem? (i := 1500) (by decide +kernel), List.mem_of_getElem? (i := 2085) (by decide +kernel), List.mem_of_getElem? (i := 2086) (by decide +kernel)⟩
theorem lw_p84 : lw_okq (⟨"GalleryGuardsModel", "lays", "(I)V"⟩, 41) := ⟨⟨by decide +kernel, by decide +kernel⟩, List.mem_of_getElem? (i := 1500) (by decide +kernel), List.mem_of_getElem? (i := 2089) (by decide +kernel), List.mem_of_getElem? (i := 2090) (by decide +kernel)⟩
theorem lw_p85 : lw_okq (⟨"GalleryGuardsModel", "isOff", "(II)Z"⟩, 41) := ⟨⟨by decide +kernel, by decide +kernel⟩, List.mem_of_getElem? (i := 1500) (by decide +kernel), List.mem_of_getElem? (i := 2109) (by decide +kernel), List.mem_of_getElem? (i := 2110) (by decide +kernel)⟩
theorem lw_p86 : lw_okq (⟨"GalleryGuardsModel", "laysAside", "()V"⟩, 41) := ⟨⟨by decide +kernel, by decide +kernel⟩, List.mem_of_getElem? (i := 1500) (by decide +kernel), List.mem_of_getElem? (i := 2113) (by decide +kernel), List.mem_of_getElem? (i := 2114) (by decide +kernel)⟩
theorem lw_p87 : lw_okq (⟨"GalleryGuardsModel", "becomes", "()I"⟩, 41) := ⟨⟨by decide +kernel, by decide +kernel⟩, List.mem_of_getElem? (i := 1500) (by decide +kernel), List.mem_of_getElem? (i := 2117) (by decide +kernel), List.mem_of_getElem? (i := 2118) (by decide +kernel)⟩
theorem lw_p88 : lw_okq (⟨"GalleryGuardsModel", "fetches", "(I)V"⟩, 41) := ⟨⟨by decide +kernel, by decide +kernel⟩, List.mem_of_getElem? (i := 1500) (by decide +kernel), List.mem_of_getElem? (i := 2133) (by decide +kernel), List.mem_of_getElem? (i := 2134) (by decide +kernel)⟩
def lw_privs_6 : List (MethodName × Nat) := [(⟨"GalleryGuardsModel", "isGuardAt", "(II)Z"⟩, 41), (⟨"GalleryGuardsModel", "isTreasureAt", "(II)Z"⟩, 41), (⟨"GalleryGuardsModel", "isVertexAt", "(II)Z"⟩, 41), (⟨"GalleryGuardsModel", "keeps", "()V"⟩, 41), (⟨"GalleryGuardsModel", "lays", "(I)V"⟩, 41), (⟨"GalleryGuardsModel", "isOff", "(II)Z"⟩, 41), (⟨"GalleryGuardsModel", "laysAside", "()V"⟩, 41), (⟨"GalleryGuardsModel", "becomes", "()I"⟩, 41), (⟨"GalleryGuardsModel", "fetches", "(I)V"⟩, 41)]
theorem lw_r6 : ∀ q ∈ lw_privs_6, lw_okq q := List.forall_mem_cons.mpr ⟨lw_p80, List.forall_mem_cons.mpr ⟨lw_p81, List.forall_mem_cons.mpr ⟨lw_p82, List.forall_mem_cons.mpr ⟨lw_p83, List.forall_mem_cons.mpr ⟨lw_p84, List.forall_mem_cons.mpr ⟨lw_p85, List.forall_mem_cons.mpr ⟨lw_p86, List.forall_mem_cons.mpr ⟨lw_p87, List.forall_mem_cons.mpr ⟨lw_p88, fun _ h => absurd h List.not_mem_nil⟩⟩⟩⟩⟩⟩⟩⟩⟩
def lw_privs : List (MethodName × Nat) := lw_privs_1 ++ (lw_privs_2 ++ (lw_privs_3 ++ (lw_privs_4 ++ (lw_privs_5 ++ (lw_privs_6)))))
def lw_tbl : List Cond := k2_sels lw_privs ++ tables_1
theorem lw_privs_ok : ∀ q ∈ lw_privs, lw_okq q := by
  show ∀ q ∈ lw_privs_1 ++ (lw_privs_2 ++ (lw_privs_3 ++ (lw_privs_4 ++ (lw_privs_5 ++ (lw_privs_6))))), lw_okq q
  exact List.forall_mem_append.mpr ⟨lw_r1, List.forall_mem_append.mpr ⟨lw_r2, List.forall_mem_append.mpr ⟨lw_r3, List.forall_mem_append.mpr ⟨lw_r4, List.forall_mem_append.mpr ⟨lw_r5, lw_r6⟩⟩⟩⟩⟩
end
section
/-! ===== BEGIN words of one list among another's, by their places ===== -/
theorem goodIn_r {big : List Cond} (ws : List Cond) (ps : List Nat) (hp : ws = ps.filterMap (fun i => big[i]?)) (h : ws.all goodWord = true) : GoodIn big ws := by
  intro w hw
  have h1 := List.all_eq_true.mp h w hw
  rw [hp] at hw
  obtain ⟨i, -, hi⟩ := List.mem_filterMap.mp hw
  have hm : w ∈ big := by first | exact List.mem_of_getElem? hi | exact List.getElem?_mem hi
  exact ⟨hm, good_of_word h1⟩
theorem goodIn_app {big a b : List Cond} (ha : GoodIn big a) (hb : GoodIn big b) : GoodIn big (a ++ b) := fun w h => (List.mem_append.mp h).elim (ha w) (hb w)
theorem goodIn_ca {big a b : List Cond} {c : Cond} (ha : GoodIn big (c :: a)) (hb : GoodIn big b) : GoodIn big (c :: (a ++ b)) := fun w h => (List.mem_cons.mp h).elim (fun e => ha w (List.mem_cons.mpr (Or.inl e))) (fun h => (List.mem_append.mp h).elim (fun h => ha w (List.mem_cons.mpr (Or.inr h))) (hb w))
theorem goodIn_sub {big ws : List Cond} (hm : ∀ w ∈ ws, w ∈ big) (h : ws.all goodWord = true) : GoodIn big ws := fun w hw => ⟨hm w hw, good_of_word (List.all_eq_true.mp h w hw)⟩
/-! ===== END ===== -/

/-! ===== BEGIN exceptions that leave a method, and their catching by the caller (launches without stack traces) ===== -/
section VXA
/-! The laws vx_back, vx_callV, vx_callS, vx_callSW, vx_throw0, vx_throwS follow proofs of the library, with one case more: JvmDerived/Free/Laws.lean (Back.of_free), Shelf42/LK1.lean (callV, callS), Shelf/KitTraced.lean (throwNew0V, throwNewS). -/
/-- where a method has thrown q: the class by its name, the cell, what was written, the world -/
def vx_T (XC : String → State → State → Prop) (st : State) (q : Addr) (t : State) (mc ms : Nat) (free : Addr → Prop) : Prop :=
  ∃ (E : String) (ce : Cell) (L : List Loc), XC E st t ∧ t.heap[q]? = some ce ∧ ce.vm = .none ∧ st.vm.findClass E = some ce.cls ∧ st.WarmedH t.vm ∧ st.sameButNew ({ t with vm := st.vm } : State) L mc ms ∧ ∀ z ∈ L, free z.base
def vx_Q (Qc : Array Value → State → Outcome → State → Prop) (XC : String → State → State → Prop) (mc ms : Nat) (free : Addr → Prop) : Array Value → State → Outcome → State → Prop := fun a st o t =>
  (Qc a st o t ∧ ∃ L, FrameEnd st o t L mc ms ∧ ∀ q ∈ L, free q.base) ∨ ∃ q, o = .threw q ∧ vx_T XC st q t mc ms free
/-- a callee that returns or throws -/
def vx_Met (l : Launch) (y : MethodName) (ws : List Cond) (rm : Room) (Pc : Array Value → State → Prop) (Qc : Array Value → State → Outcome → State → Prop) (XC : String → State → State → Prop) (mc ms : Nat) (free : Addr → Prop) : Prop :=
  MetFree l y (headSpec ws rm) Pc (fun _ _ _ _ _ => True) (vx_Q Qc XC mc ms free)
def vx_Post (XC : String → State → State → Prop) (mc ms : Nat) (free : Addr → Prop) : Pt → Array Value → Addr → Pt → Prop := fun A a q B =>
  ∃ (g : JFrame) (mk : MethodId) (t : State) (L : List Loc) (E : String) (ce : Cell), B.U.heap = t.heap ∧ B.U.vm = t.vm ∧ XC E (A.U.calling g mk a) t ∧ t.heap[q]? = some ce ∧ ce.vm = .none ∧ A.U.vm.findClass E = some ce.cls ∧ B.locs = A.locs ++ L ∧ (∀ z ∈ L, free z.base) ∧ B.cells = A.cells + mc ∧ B.slots = A.slots + ms
def vx_Back (l : Launch) (R : Room) (p : Program) (e : Env) (below : List Frame) (s : State) (sargs : Array Value) (y : MethodName) (len W9 : Nat)
    (Pre : Pt → Array Value → Prop) (Post : Pt → Array Value → Option Value → Pt → Prop) (PostX : Pt → Array Value → Addr → Pt → Prop) : Prop :=
  ∀ (m : MethodId) (meth : Method) (c : Code) (A : Pt) (g : JFrame) (ig : Instr) (mk : MethodId) (a : Array Value),
    Stand p l e R s m sargs below meth c A.U A.locs A.cells A.slots → g.method = m → g.locals.size = c.maxLocals → decode c.code g.pc = .ok (ig, len) →
    2 * g.monitorRoom + (g.stack.map fun v => v.category).sum ≤ W9 → A.U.methodNamed? y = some mk → Pre A a →
    (∃ (v : Option Value) (B : Pt), Stand p l e R s m sargs below meth c B.U B.locs B.cells B.slots ∧ Post A a v B ∧
      Steps p.tables e below (doInvoke e (A.U.setTop g) [] mk a).1 (B.U.setTop { g with pc := g.pc + len, stack := v.toList ++ g.stack })) ∨
    (∃ (q : Addr) (B : Pt), Stand p l e R s m sargs below meth c B.U B.locs B.cells B.slots ∧ PostX A a q B ∧
      Steps p.tables e below (doInvoke e (A.U.setTop g) [] mk a).1 ((B.U.setTop g).pushFrame (.throwing q)))
section Payer
variable {l : Launch} {R : Room} {p : Program} {e : Env} {below : List Frame} {s : State} {sargs : Array Value} {y : MethodName} {len W9 : Nat}
theorem vx_back {ws : List Cond} {rm : Room} {Pc : Array Value → State → Prop} {Qc : Array Value → State → Outcome → State → Prop} {XC : String → State → State → Prop} {mc ms : Nat} {free : Addr → Prop} {bytes : ByteArray} {maxL : Nat} {ret : Option FieldType}
    (hM : vx_Met l y ws rm Pc Qc XC mc ms free) (hblind : FrameBlind Pc) (hrc : rm.cells = mc) (hrs : rm.slots = ms)
    (hframes : rm.frames + 1 ≤ R.frames) (hlocals : W9 + (maxL + 11) + rm.locals ≤ R.locals)
    (hws : ∀ w ∈ ws, ∀ a' U, s.WarmedH U.vm → w.before a' U = true) (hcode : Cond.code y bytes maxL ret ∈ ws) (hinit : ∀ a' U, s.WarmedH U.vm → (Cond.initialized y.cls).before a' U = true) :
    vx_Back l R p e below s sargs y len W9 (PreOf R mc ms Pc) (PostOf Qc mc ms free) (vx_Post XC mc ms free) := by
  intro m meth c A g ig mk a X hg hsize hdg hW hn hp
  have h1 : (headSpec ws rm).pre.before a A.U = true := atoms_intro fun w hw => hws w hw _ _ X.warmed
  have h2 : (Cond.code y bytes maxL ret).before a A.U = true := hws _ hcode _ _ X.warmed
  have h3 : (Cond.initialized y.cls).before a A.U = true := hinit _ _ X.warmed
  have h4 : A.cells + (headSpec ws rm).room.cells ≤ R.cells := by rw [show (headSpec ws rm).room.cells = mc from hrc]; exact hp.1
  have h5 : A.slots + (headSpec ws rm).room.slots ≤ R.slots := by rw [show (headSpec ws rm).room.slots = ms from hrs]; exact hp.2.1
  have hPc : Pc a (A.U.calling g mk a) := hblind _ _ _ _ hp.2.2
  obtain ⟨U, Ls, c0, s0⟩ := A
  dsimp only [Pt.U, Pt.locs, Pt.cells, Pt.slots] at h1 h2 h3 h4 h5 X hn hPc ⊢
  obtain ⟨methY, cY, hmY, hcY, -, hlY, -, -, -, -⟩ := Cond.code_spec hn h2
  obtain ⟨kY, hkY, -⟩ := className_of_methodNamed hn
  have hinitY : kY.init = .initialized := Cond.initialized_spec (findClass_of_methodNamed hn) hkY h3
  have h : At U g.method c below := by rw [hg]; exact X.here
  have hlocals9 : W9 + (maxL + 11) + (headSpec ws rm).room.locals ≤ R.locals := hlocals
  have happ : (headSpec ws rm).appliesLoose y e.platform (U.calling g mk a) = true :=
    Spec.appliesLoose_calling (g := g) h hdg hn hkY hinitY
      (X.room_calling (g := g) (R' := (headSpec ws rm).room) hsize hmY hcY hframes (by rw [hlY]; omega) h4 h5) h1
  obtain ⟨mid, hmid⟩ := h.above
  have hfr : (U.setTop g).frames = (.java g :: mid) ++ below := by rw [State.frames_setTop' g h.top, hmid]; rfl
  obtain ⟨o, s₂, hsteps, -, hend, hq⟩ := Steps.callFree hM p X.admits X.cas X.clock (acts := []) hfr happ hPc trivial
  have hq' : vx_Q Qc XC mc ms free a (U.calling g mk a) o s₂ := hq
  rw [State.frames_setTop' g h.top] at hend
  obtain ⟨g₀, hg0⟩ := Option.isSome_iff_exists.mp h.top
  obtain ⟨r, hr⟩ := State.topJava?_eq_some.mp hg0
  have hr' : (({ U with heap := s₂.heap, slotsUsed := s₂.slotsUsed } : State).setVm s₂.vm).frames = .java g₀ :: r := hr
  rcases hq' with ⟨hqc, L, hfe, hL⟩ | ⟨q, rfl, E, ce, L, hx, hce, hcv, hcl, hW₂, hsm, hL⟩
  · obtain ⟨⟨v, rfl⟩, hW₂, e2, q2, q3, q4, q5, q6⟩ := id hfe
    have e3 : s₂ = ({ (U.calling g mk a).setFrames s₂.frames with heap := s₂.heap, slotsUsed := s₂.slotsUsed } : State).setVm s₂.vm := by
      have : s₂ = ({ s₂ with vm := (U.calling g mk a).vm } : State).setVm s₂.vm := rfl
      rw [e2] at this
      exact this
    obtain ⟨c₂, i₂, len₂, hc₂, hd₂, hf₂⟩ := hend
    have hW' : U.WarmedH s₂.vm := hW₂
    have hcc : c₂ = c := by
      have h1 : s₂.code? g.method = U.code? g.method := by
        rw [State.code?_eq, State.code?_eq, hW'.alike.method?]
      exact Option.some.inj (hc₂.symm.trans (h1.trans h.code))
    subst hcc
    have hlen : len₂ = len := by rw [hdg] at hd₂; cases hd₂; rfl
    subst hlen
    have hs₂ : s₂ = (({ U with heap := s₂.heap, slotsUsed := s₂.slotsUsed } : State).setVm s₂.vm).setTop { g with pc := g.pc + len₂, stack := v.toList ++ g.stack } := by
      refine e3.trans ?_
      rw [hf₂, State.calling_eq h.top, State.setFrames_setFrames, State.setTop_of_frames _ hr', hr]
      rfl
    have hsame : U.sameButNew ({ U with heap := s₂.heap, slotsUsed := s₂.slotsUsed } : State) L mc ms := by
      refine ⟨?_, q2, q3, q4, q5, q6⟩
      obtain ⟨t, ht, -⟩ := State.frames_cons hr
      show ({ U with heap := s₂.heap, slotsUsed := s₂.slotsUsed } : State) = { U.setFrames U.frames with heap := s₂.heap, slotsUsed := s₂.slotsUsed }
      rw [State.setFrames_self ht]
    subst hg
    refine Or.inl ⟨v, ⟨(({ U with heap := s₂.heap, slotsUsed := s₂.slotsUsed } : State).setVm s₂.vm), Ls ++ L, c0 + mc, s0 + ms⟩,
      ⟨X.admits, X.cas, X.clock, X.frames, X.room, X.hears, X.method, X.code, (X.here.setHeapUsed s₂.heap s₂.slotsUsed).setVm hW'.alike, X.tail, State.WarmedH.trans X.warmed hW', X.limits, X.bytes, X.same.trans (hsame.setVm s.vm)⟩,
      ⟨g, mk, s₂, L, rfl, rfl, hqc, rfl, hL, rfl, rfl⟩, ?_⟩
    show Steps p.tables e below _ ((({ U with heap := s₂.heap, slotsUsed := s₂.slotsUsed } : State).setVm s₂.vm).setTop { g with pc := g.pc + len₂, stack := v.toList ++ g.stack })
    rw [← hs₂]
    exact hsteps
  · obtain ⟨e2, q2, q3, q4, q5, q6⟩ := id hsm
    have e3 : s₂ = ({ (U.calling g mk a).setFrames s₂.frames with heap := s₂.heap, slotsUsed := s₂.slotsUsed } : State).setVm s₂.vm := by
      have : s₂ = ({ s₂ with vm := (U.calling g mk a).vm } : State).setVm s₂.vm := rfl
      rw [e2] at this
      exact this
    have hf₂ : s₂.frames = .throwing q :: .java g :: U.frames.tail := hend
    have hW' : U.WarmedH s₂.vm := hW₂
    have hs₂ : s₂ = ((({ U with heap := s₂.heap, slotsUsed := s₂.slotsUsed } : State).setVm s₂.vm).setTop g).pushFrame (.throwing q) := by
      refine e3.trans ?_
      rw [hf₂, State.calling_eq h.top, State.setFrames_setFrames, State.pushFrame, State.frames_setTop _ hr', State.setTop_of_frames _ hr', State.setFrames_setFrames, hr]
      rfl
    have hsame : U.sameButNew ({ U with heap := s₂.heap, slotsUsed := s₂.slotsUsed } : State) L mc ms := by
      refine ⟨?_, q2, q3, q4, q5, q6⟩
      obtain ⟨t, ht, -⟩ := State.frames_cons hr
      show ({ U with heap := s₂.heap, slotsUsed := s₂.slotsUsed } : State) = { U.setFrames U.frames with heap := s₂.heap, slotsUsed := s₂.slotsUsed }
      rw [State.setFrames_self ht]
    subst hg
    refine Or.inr ⟨q, ⟨(({ U with heap := s₂.heap, slotsUsed := s₂.slotsUsed } : State).setVm s₂.vm), Ls ++ L, c0 + mc, s0 + ms⟩,
      ⟨X.admits, X.cas, X.clock, X.frames, X.room, X.hears, X.method, X.code, (X.here.setHeapUsed s₂.heap s₂.slotsUsed).setVm hW'.alike, X.tail, State.WarmedH.trans X.warmed hW', X.limits, X.bytes, X.same.trans (hsame.setVm s.vm)⟩,
      ⟨g, mk, s₂, L, E, ce, rfl, rfl, hx, hce, hcv, hcl, rfl, hL, rfl, rfl⟩, ?_⟩
    show Steps p.tables e below _ (((({ U with heap := s₂.heap, slotsUsed := s₂.slotsUsed } : State).setVm s₂.vm).setTop g).pushFrame (.throwing q))
    rw [← hs₂]
    exact hsteps
end Payer
section Calls
variable {p : Program} {l : Launch} {e : Env} {R : Room} {s : State} {m : MethodId} {args : Array Value} {below : List Frame} {meth : Method} {c : Code} {T : State} {locs : List Loc} {cells slots : Nat}
theorem vx_callV (X : Stand p l e R s m args below meth c T locs cells slots) (hexec : p.tables.exec = Jvm.exec) {own C : String} {index : Nat} {y : MethodName} {bytes : ByteArray} {maxL : Nat} {ret : Option FieldType}
    (hown : s.vm.findClass own = some m.cls) (hlink : (Cond.methodLink own index y).before args s = true) (hinst : (Cond.instanceMethod y).before args s = true) (hsel : (Cond.selects C y y).before args s = true)
    (hcode : (Cond.code y bytes maxL ret).before args s = true) (hy : y.cls ≠ "java/lang/invoke/MethodHandle" ∧ y.cls ≠ "java/lang/invoke/VarHandle")
    {W9 : Nat} {Pre : Pt → Array Value → Prop} {Post : Pt → Array Value → Option Value → Pt → Prop} {PostX : Pt → Array Value → Addr → Pt → Prop} (hK : vx_Back l R p e below s args y 3 W9 Pre Post PostX)
    {b : Addr} {cellB : Cell} (hcell : T.heap[b]? = some cellB) (hobj : cellB.vm.isStatics = false) (hcls : s.vm.findClass C = some cellB.cls)
    {g : JFrame} (hg : g.method = m) (hsize : g.locals.size = c.maxLocals) {argsL rest : List Value} (hlen : ∀ sig, parseMethodDescriptor y.desc = some sig → argsL.length = sig.parameters.length)
    (hstack : g.stack = argsL.reverse ++ .ref b :: rest) (hW : 2 * g.monitorRoom + (rest.map fun v => v.category).sum ≤ W9) (hdg : decode c.code g.pc = .ok (.invokevirtual index, 3))
    (hpre : ∀ vm₁, s.WarmedH vm₁ → Pre ⟨T.setVm vm₁, locs, cells, slots⟩ (Value.ref b :: argsL).toArray) :
    (∃ (v : Option Value) (vm₁ : Vm) (B : Pt), s.WarmedH vm₁ ∧ Stand p l e R s m args below meth c B.U B.locs B.cells B.slots ∧ Post ⟨T.setVm vm₁, locs, cells, slots⟩ (Value.ref b :: argsL).toArray v B ∧
      ∀ target, Steps p.tables e below (B.U.setTop { g with pc := g.pc + 3, stack := v.toList ++ rest }) target → Steps p.tables e below (T.setTop g) target) ∨
    (∃ (q : Addr) (vm₁ : Vm) (B : Pt), s.WarmedH vm₁ ∧ Stand p l e R s m args below meth c B.U B.locs B.cells B.slots ∧ PostX ⟨T.setVm vm₁, locs, cells, slots⟩ (Value.ref b :: argsL).toArray q B ∧
      Steps p.tables e below (T.setTop g) ((B.U.setTop { g with stack := rest }).pushFrame (.throwing q))) := by
  obtain ⟨mk, methM, hnamed, hmethM, hstM, habM⟩ := Cond.instanceMethod_spec hinst
  obtain ⟨methM', cM, hmethM', -, -, -, -, -, -, hsigM⟩ := Cond.code_spec hnamed hcode
  cases hmethM.symm.trans hmethM'
  obtain ⟨c2, r2, m2, q1, q2, q3, q4, kP, hkP, hkPi⟩ := Cond.selects_spec hsel
  cases hcls.symm.trans q1
  cases (State.methodFound?_of_named hnamed hy).symm.trans q2
  cases hnamed.symm.trans q3
  have hselP : selectMethod e.platform s.vm cellB.cls mk = .method mk := by rw [Launch.admits_selectMethod X.admits]; exact q4
  obtain ⟨vm₁, X₁, hstep₁⟩ := X.invokevirtual hexec hown hlink hnamed hmethM hstM hkP hkPi hy (a := b) (cell := cellB) hcell
    (fun z h => by rw [h] at hobj; cases hobj) hselP hmethM habM hkP hkPi (g := g) hg (argsL := argsL) (rest := rest) (hlen _ hsigM) hstack hdg
  rcases hK m meth c ⟨T.setVm vm₁, locs, cells, slots⟩ { g with stack := rest } (.invokevirtual index) mk (Value.ref b :: argsL).toArray X₁ hg hsize hdg hW (X₁.named hnamed) (hpre vm₁ X₁.warmed) with ⟨v, B, X', hpost, hsteps⟩ | ⟨q, B, X', hpost, hsteps⟩
  · exact Or.inl ⟨v, vm₁, B, X₁.warmed, X', hpost, fun target h => hstep₁ _ fun acts => by rw [doInvoke_state]; exact hsteps.trans h⟩
  · exact Or.inr ⟨q, vm₁, B, X₁.warmed, X', hpost, hstep₁ _ fun acts => by rw [doInvoke_state]; exact hsteps⟩
theorem vx_callS (X : Stand p l e R s m args below meth c T locs cells slots) (hexec : p.tables.exec = Jvm.exec) {own : String} {index : Nat} {y : MethodName} {bytes : ByteArray} {maxL : Nat} {ret : Option FieldType}
    (hown : s.vm.findClass own = some m.cls) (hlink : (Cond.methodLink own index y).before args s = true) (hstat : (Cond.static y).before args s = true) (hinit : (Cond.initialized y.cls).before args s = true)
    (hcode : (Cond.code y bytes maxL ret).before args s = true) (hy : y.cls ≠ "java/lang/invoke/MethodHandle" ∧ y.cls ≠ "java/lang/invoke/VarHandle")
    {W9 : Nat} {Pre : Pt → Array Value → Prop} {Post : Pt → Array Value → Option Value → Pt → Prop} {PostX : Pt → Array Value → Addr → Pt → Prop} (hK : vx_Back l R p e below s args y 3 W9 Pre Post PostX)
    {g : JFrame} (hg : g.method = m) (hsize : g.locals.size = c.maxLocals) {argsL rest : List Value} (hlen : ∀ sig, parseMethodDescriptor y.desc = some sig → argsL.length = sig.parameters.length)
    (hstack : g.stack = argsL.reverse ++ rest) (hW : 2 * g.monitorRoom + (rest.map fun v => v.category).sum ≤ W9) (hdg : decode c.code g.pc = .ok (.invokestatic index, 3))
    (hpre : ∀ vm₁, s.WarmedH vm₁ → Pre ⟨T.setVm vm₁, locs, cells, slots⟩ argsL.toArray) :
    (∃ (v : Option Value) (vm₁ : Vm) (B : Pt), s.WarmedH vm₁ ∧ Stand p l e R s m args below meth c B.U B.locs B.cells B.slots ∧ Post ⟨T.setVm vm₁, locs, cells, slots⟩ argsL.toArray v B ∧
      ∀ target, Steps p.tables e below (B.U.setTop { g with pc := g.pc + 3, stack := v.toList ++ rest }) target → Steps p.tables e below (T.setTop g) target) ∨
    (∃ (q : Addr) (vm₁ : Vm) (B : Pt), s.WarmedH vm₁ ∧ Stand p l e R s m args below meth c B.U B.locs B.cells B.slots ∧ PostX ⟨T.setVm vm₁, locs, cells, slots⟩ argsL.toArray q B ∧
      Steps p.tables e below (T.setTop g) ((B.U.setTop { g with stack := rest }).pushFrame (.throwing q))) := by
  obtain ⟨mk, hnamed⟩ := Cond.code_named hcode
  obtain ⟨methM, cM, hmethM, -, -, -, -, -, -, hsigM⟩ := Cond.code_spec hnamed hcode
  have hstatic : methM.isStatic = true := Cond.static_spec hnamed hmethM hstat
  obtain ⟨kP, hkP, -⟩ := className_of_methodNamed hnamed
  have hinitP : kP.init = .initialized := Cond.initialized_spec (findClass_of_methodNamed hnamed) hkP hinit
  obtain ⟨vm₁, X₁, hstep₁⟩ := X.invokestatic hexec hown hlink hnamed hmethM hstatic hkP hinitP hy (g := g) hg (argsL := argsL) (rest := rest) (hlen _ hsigM) hstack hdg
  rcases hK m meth c ⟨T.setVm vm₁, locs, cells, slots⟩ { g with stack := rest } (.invokestatic index) mk argsL.toArray X₁ hg hsize hdg hW (X₁.named hnamed) (hpre vm₁ X₁.warmed) with ⟨v, B, X', hpost, hsteps⟩ | ⟨q, B, X', hpost, hsteps⟩
  · exact Or.inl ⟨v, vm₁, B, X₁.warmed, X', hpost, fun target h => hstep₁ _ fun acts => by rw [doInvoke_state]; exact hsteps.trans h⟩
  · exact Or.inr ⟨q, vm₁, B, X₁.warmed, X', hpost, hstep₁ _ fun acts => by rw [doInvoke_state]; exact hsteps⟩
end Calls
theorem vx_cls {s : State} {T : State} {vm₁ : Vm} {E : String} {k : ClassId} (hW : s.WarmedH vm₁) (h : (T.setVm vm₁).vm.findClass E = some k) : s.vm.findClass E = some k := by
  have h1 : vm₁.findClass E = some k := h
  rw [hW.alike.findClass] at h1
  exact h1
/-- the method's frame g, with q thrown over it -/
def vx_W (p : Program) (l : Launch) (e : Env) (R : Room) (s : State) (m : MethodId) (args : Array Value) (below : List Frame) (meth : Method) (c : Code) (H : Heap) (locs : List Loc) (cells slots : Nat) (Q : State → Prop) (g : JFrame) (q : Addr) : Prop :=
  ∀ T : State, T.heap = H → Stand p l e R s m args below meth c T locs cells slots → ∃ t, Steps p.tables e below ((T.setTop g).pushFrame (.throwing q)) t ∧ Q t
def vx_Run (p : Program) (l : Launch) (e : Env) (R : Room) (s : State) (m : MethodId) (args : Array Value) (below : List Frame) (meth : Method) (c : Code) (H : Heap) (locs : List Loc) (cells slots mc ms : Nat) (g : JFrame) (rest : List Value) (Qa : State → Outcome → State → Prop) (XC : String → State → State → Prop) (free : Addr → Prop) : Prop :=
  ∀ T : State, T.heap = H → Stand p l e R s m args below meth c T locs cells slots →
    (∃ (v : Option Value) (st₀ t T' : State) (L : List Loc), st₀.heap = H ∧ Stand p l e R s m args below meth c T' (locs ++ L) (cells + mc) (slots + ms) ∧ (∀ q ∈ L, free q.base) ∧ T'.heap = t.heap ∧ T'.vm = t.vm ∧ Qa st₀ (.returned v) t ∧
      Goes p e below T g T' { g with pc := g.pc + 3, stack := v.toList ++ rest }) ∨
    (∃ (q : Addr) (st₀ t T' : State) (L : List Loc) (E : String) (ce : Cell), st₀.heap = H ∧ Stand p l e R s m args below meth c T' (locs ++ L) (cells + mc) (slots + ms) ∧ (∀ z ∈ L, free z.base) ∧ T'.heap = t.heap ∧ T'.vm = t.vm ∧ XC E st₀ t ∧ t.heap[q]? = some ce ∧ ce.vm = .none ∧ s.vm.findClass E = some ce.cls ∧
      Steps p.tables e below (T.setTop g) ((T'.setTop { g with stack := rest }).pushFrame (.throwing q)))
def vx_X {S : Type} (px : S → Prop) (B : String → S → State → Prop) (A : Nat → Prop) : String → State → State → Prop := fun E st t => ∃ u : S, px u ∧ B E u t ∧ va_F A st t
section Runs
variable {p : Program} {l : Launch} {e : Env} {R : Room} {s : State} {m : MethodId} {args : Array Value} {below : List Frame} {meth : Method} {c : Code} {H : Heap} {locs : List Loc} {cells slots : Nat}
variable {y : MethodName} {bytes cc : ByteArray} {maxL nL mc ms n index : Nat} {ret : Option FieldType} {ws : List Cond} {rm : Room} {Pc : Array Value → State → Prop} {Qc : Array Value → State → Outcome → State → Prop} {XC : String → State → State → Prop} {free : Addr → Prop} {Ts : List Cond} {own C : String} {b : Addr} {As rest : List Value} {g : JFrame}
theorem vx_callBack (cb : CallB R s args own index y bytes maxL ret ws rm mc ms n) (hM : vx_Met l y ws rm Pc Qc XC mc ms free) (hbl : FrameBlind Pc) : vx_Back l R p e below s args y 3 8 (PreOf R mc ms Pc) (PostOf Qc mc ms free) (vx_Post XC mc ms free) := by
  obtain ⟨hrc, hrs, hfr, hlo, hws, hcw, -, hini, -⟩ := cb
  exact vx_back (bytes := bytes) (maxL := maxL) (ret := ret) hM hbl hrc hrs hfr hlo hws hcw (fun a' U hW => word_at hW (Or.inl (by first | rfl | simp [Cond.onTables, Cond.keeps, Cond.steady])) hini)
theorem vx_runV (S : CallFix p m c cc nL s args Ts own) (hM : vx_Met l y ws rm Pc Qc XC mc ms free) (cw : CallW R s args own C index y bytes maxL ret ws rm mc ms n) (hp : PreV s H C b Pc As)
    (hg : g.method = m) (hn : As.length = n) (hsize : g.locals.size = nL) (hstack : g.stack = As.reverse ++ .ref b :: rest) (hW : 2 * g.monitorRoom + (rest.map fun v => v.category).sum ≤ 8) (hdg : decode cc g.pc = .ok (.invokevirtual index, 3)) (hf : cells + mc ≤ R.cells ∧ slots + ms ≤ R.slots) :
    vx_Run p l e R s m args below meth c H locs cells slots mc ms g rest (Qc (Value.ref b :: As).toArray) XC free := by
  have hK : vx_Back l R p e below s args y 3 8 (PreOf R mc ms Pc) (PostOf Qc mc ms free) (vx_Post XC mc ms free) := vx_callBack cw.1 hM hp.1
  obtain ⟨⟨-, -, -, -, -, -, hcode, -, hy, hlen, hl⟩, hin, hse⟩ := cw
  obtain ⟨hx, hb, hml, ho, -⟩ := S
  obtain ⟨-, ⟨cellB, hcB, hoB, hclB⟩, hPc⟩ := hp
  intro T hT X
  rcases vx_callV X hx (C := C) (bytes := bytes) (maxL := maxL) (ret := ret) ho hl hin hse hcode hy hK (by rw [hT]; exact hcB) hoB hclB hg (hsize.trans hml.symm) (argsL := As) (rest := rest) (fun sig h => hn.trans (hlen sig h)) hstack hW (by rw [hb]; exact hdg)
    (fun vm₁ hW₁ => ⟨hf.1, hf.2, hPc (T.setVm vm₁) hT hW₁⟩) with ⟨v, vm₁, ⟨U', l2, c2, s2⟩, hW₁, X', ⟨g', mk, t, L, e1, e2, hq, h1, hL, h2, h3⟩, st⟩ | ⟨q, vm₁, ⟨U', l2, c2, s2⟩, hW₁, X', ⟨g', mk, t, L, E, ce, e1, e2, hq, hce, hcv, hcl, h1, hL, h2, h3⟩, st⟩
  · dsimp only [Pt.U, Pt.locs, Pt.cells, Pt.slots] at X' e1 e2 h1 h2 h3 st
    subst h1; subst h2; subst h3
    exact Or.inl ⟨v, (T.setVm vm₁).calling g' mk (Value.ref b :: As).toArray, t, U', L, hT, X', hL, e1, e2, hq, st⟩
  · dsimp only [Pt.U, Pt.locs, Pt.cells, Pt.slots] at X' e1 e2 h1 h2 h3 st hcl
    subst h1; subst h2; subst h3
    exact Or.inr ⟨q, (T.setVm vm₁).calling g' mk (Value.ref b :: As).toArray, t, U', L, E, ce, hT, X', hL, e1, e2, hq, hce, hcv, vx_cls hW₁ hcl, st⟩
theorem vx_runS (S : CallFix p m c cc nL s args Ts own) (hM : vx_Met l y ws rm Pc Qc XC mc ms free) (cw : CallB R s args own index y bytes maxL ret ws rm mc ms n ∧ (Cond.static y).before args s = true) (hp : PreS s H Pc As)
    (hg : g.method = m) (hn : As.length = n) (hsize : g.locals.size = nL) (hstack : g.stack = As.reverse ++ rest) (hW : 2 * g.monitorRoom + (rest.map fun v => v.category).sum ≤ 8) (hdg : decode cc g.pc = .ok (.invokestatic index, 3)) (hf : cells + mc ≤ R.cells ∧ slots + ms ≤ R.slots) :
    vx_Run p l e R s m args below meth c H locs cells slots mc ms g rest (Qc As.toArray) XC free := by
  have hK : vx_Back l R p e below s args y 3 8 (PreOf R mc ms Pc) (PostOf Qc mc ms free) (vx_Post XC mc ms free) := vx_callBack cw.1 hM hp.1
  obtain ⟨⟨-, -, -, -, -, -, hcode, hini, hy, hlen, hl⟩, hstt⟩ := cw
  obtain ⟨hx, hb, hml, ho, -⟩ := S
  intro T hT X
  rcases vx_callS X hx (bytes := bytes) (maxL := maxL) (ret := ret) ho hl hstt hini hcode hy hK hg (hsize.trans hml.symm) (argsL := As) (rest := rest) (fun sig h => hn.trans (hlen sig h)) hstack hW (by rw [hb]; exact hdg)
    (fun vm₁ hW₁ => ⟨hf.1, hf.2, hp.2 (T.setVm vm₁) hT hW₁⟩) with ⟨v, vm₁, ⟨U', l2, c2, s2⟩, hW₁, X', ⟨g', mk, t, L, e1, e2, hq, h1, hL, h2, h3⟩, st⟩ | ⟨q, vm₁, ⟨U', l2, c2, s2⟩, hW₁, X', ⟨g', mk, t, L, E, ce, e1, e2, hq, hce, hcv, hcl, h1, hL, h2, h3⟩, st⟩
  · dsimp only [Pt.U, Pt.locs, Pt.cells, Pt.slots] at X' e1 e2 h1 h2 h3 st
    subst h1; subst h2; subst h3
    exact Or.inl ⟨v, (T.setVm vm₁).calling g' mk As.toArray, t, U', L, hT, X', hL, e1, e2, hq, st⟩
  · dsimp only [Pt.U, Pt.locs, Pt.cells, Pt.slots] at X' e1 e2 h1 h2 h3 st hcl
    subst h1; subst h2; subst h3
    exact Or.inr ⟨q, (T.setVm vm₁).calling g' mk As.toArray, t, U', L, E, ce, hT, X', hL, e1, e2, hq, hce, hcv, vx_cls hW₁ hcl, st⟩
end Runs
section Rows
variable {p : Program} {l : Launch} {e : Env} {R : Room} {s : State} {m : MethodId} {args : Array Value} {below : List Frame} {meth : Method} {c : Code} {H : Heap} {locs : List Loc} {cells slots : Nat} {Q : State → Prop}
variable {mc ms : Nat} {free : Addr → Prop} {A0 A1 : Nat → Prop} {H0 : Heap} {a : Array Value} {pc : Nat} {ls : Array Slot} {st0 rest : List Value}
theorem vx_keep {st₀ t T' : State} {L : List Loc} (h0 : st₀.heap = H) (e1 : T'.heap = t.heap) (hS : va_S A0 H0 H locs) (hA : ∀ q, q < H.size → A1 q → A0 q) (hf : ∀ q, free q → A0 q) (hL : ∀ q ∈ L, free q.base) (hF : va_F A1 st₀ t) :
    H.size ≤ T'.heap.size ∧ (∀ q : Nat, q < H.size → ¬ A1 q → T'.heap[q]? = H[q]?) ∧ va_S A0 H0 T'.heap (locs ++ L) := by
  obtain ⟨hz, hk⟩ := hF
  rw [h0] at hz hk
  exact ⟨by rw [e1]; exact hz, fun q h1 h2 => by rw [e1]; exact hk q h1 h2,
    ⟨Nat.le_trans hS.1 (by rw [e1]; exact hz), fun q h1 h2 => by rw [e1, hk q (Nat.lt_of_lt_of_le h1 hS.1) (fun z => h2 (hA q (Nat.lt_of_lt_of_le h1 hS.1) z))]; exact hS.2.1 q h1 h2, fun q hq => by
      rcases List.mem_append.mp hq with h | h
      · exact hS.2.2 q h
      · exact hf _ (hL q h)⟩⟩
theorem vx_calli {S SX : Type} {post : Int32 → S → Prop} {px : SX → Prop} {B : S → State → Prop} {BX : String → SX → State → Prop} {AX : Nat → Prop} (hr : vx_Run p l e R s m args below meth c H locs cells slots mc ms (F0 m pc ls st0) rest (va_Qi post B A1 a) (vx_X px BX AX) free) (hS : va_S A0 H0 H locs) (hA : ∀ q, q < H.size → A1 q → A0 q) (hf : ∀ q, free q → A0 q) (hAX : ∀ q, q < H.size → AX q → A0 q)
    (kx : ∀ (E : String) (ce : Cell) (q9 : Addr) (u : SX) (t : State) (H1 : Heap) (locs1 : List Loc), t.heap = H1 → s.vm.Alike t.vm → px u → BX E u t → H.size ≤ H1.size → (∀ q : Nat, q < H.size → ¬ AX q → H1[q]? = H[q]?) → va_S A0 H0 H1 locs1 → H1[q9]? = some ce → ce.vm = .none → s.vm.findClass E = some ce.cls → vx_W p l e R s m args below meth c H1 locs1 (cells + mc) (slots + ms) Q (F0 m pc ls rest) q9)
    (kk : ∀ (r : Int32) (u : S) (t : State) (H1 : Heap) (locs1 : List Loc), t.heap = H1 → s.vm.Alike t.vm → post r u → B u t → H.size ≤ H1.size → (∀ q : Nat, q < H.size → ¬ A1 q → H1[q]? = H[q]?) → va_S A0 H0 H1 locs1 → W p l e R s m args below meth c H1 locs1 (cells + mc) (slots + ms) Q (F0 m (pc + 3) ls (.int r :: rest))) : W p l e R s m args below meth c H locs cells slots Q (F0 m pc ls st0) := by
  intro T hT X
  rcases hr T hT X with ⟨v, st₀, t, T', L, h0, X', hL, e1, e2, ⟨⟨r, u, hv, hp, hb⟩, hF⟩, st⟩ | ⟨q, st₀, t, T', L, E, ce, h0, X', hL, e1, e2, ⟨u, hp, hb, hF⟩, hce, hcv, hcl, st⟩
  · cases hv
    obtain ⟨k1, k2, k3⟩ := vx_keep h0 e1 hS hA hf hL hF
    obtain ⟨t2, a1, b1⟩ := kk r u t T'.heap (locs ++ L) e1.symm (by rw [← e2]; exact X'.warmed.alike) hp hb k1 k2 k3 T' rfl X'
    exact ⟨t2, st t2 a1, b1⟩
  · obtain ⟨k1, k2, k3⟩ := vx_keep h0 e1 hS hAX hf hL hF
    obtain ⟨t2, a1, b1⟩ := kx E ce q u t T'.heap (locs ++ L) e1.symm (by rw [← e2]; exact X'.warmed.alike) hp hb k1 k2 k3 (by rw [e1]; exact hce) hcv hcl T' rfl X'
    exact ⟨t2, st.trans a1, b1⟩
theorem vx_calll {S SX : Type} {post : Int64 → S → Prop} {px : SX → Prop} {B : S → State → Prop} {BX : String → SX → State → Prop} {AX : Nat → Prop} (hr : vx_Run p l e R s m args below meth c H locs cells slots mc ms (F0 m pc ls st0) rest (va_Ql post B A1 a) (vx_X px BX AX) free) (hS : va_S A0 H0 H locs) (hA : ∀ q, q < H.size → A1 q → A0 q) (hf : ∀ q, free q → A0 q) (hAX : ∀ q, q < H.size → AX q → A0 q)
    (kx : ∀ (E : String) (ce : Cell) (q9 : Addr) (u : SX) (t : State) (H1 : Heap) (locs1 : List Loc), t.heap = H1 → s.vm.Alike t.vm → px u → BX E u t → H.size ≤ H1.size → (∀ q : Nat, q < H.size → ¬ AX q → H1[q]? = H[q]?) → va_S A0 H0 H1 locs1 → H1[q9]? = some ce → ce.vm = .none → s.vm.findClass E = some ce.cls → vx_W p l e R s m args below meth c H1 locs1 (cells + mc) (slots + ms) Q (F0 m pc ls rest) q9)
    (kk : ∀ (r : Int64) (u : S) (t : State) (H1 : Heap) (locs1 : List Loc), t.heap = H1 → s.vm.Alike t.vm → post r u → B u t → H.size ≤ H1.size → (∀ q : Nat, q < H.size → ¬ A1 q → H1[q]? = H[q]?) → va_S A0 H0 H1 locs1 → W p l e R s m args below meth c H1 locs1 (cells + mc) (slots + ms) Q (F0 m (pc + 3) ls (.long r :: rest))) : W p l e R s m args below meth c H locs cells slots Q (F0 m pc ls st0) := by
  intro T hT X
  rcases hr T hT X with ⟨v, st₀, t, T', L, h0, X', hL, e1, e2, ⟨⟨r, u, hv, hp, hb⟩, hF⟩, st⟩ | ⟨q, st₀, t, T', L, E, ce, h0, X', hL, e1, e2, ⟨u, hp, hb, hF⟩, hce, hcv, hcl, st⟩
  · cases hv
    obtain ⟨k1, k2, k3⟩ := vx_keep h0 e1 hS hA hf hL hF
    obtain ⟨t2, a1, b1⟩ := kk r u t T'.heap (locs ++ L) e1.symm (by rw [← e2]; exact X'.warmed.alike) hp hb k1 k2 k3 T' rfl X'
    exact ⟨t2, st t2 a1, b1⟩
  · obtain ⟨k1, k2, k3⟩ := vx_keep h0 e1 hS hAX hf hL hF
    obtain ⟨t2, a1, b1⟩ := kx E ce q u t T'.heap (locs ++ L) e1.symm (by rw [← e2]; exact X'.warmed.alike) hp hb k1 k2 k3 (by rw [e1]; exact hce) hcv hcl T' rfl X'
    exact ⟨t2, st.trans a1, b1⟩
theorem vx_callf {S SX : Type} {post : UInt32 → S → Prop} {px : SX → Prop} {B : S → State → Prop} {BX : String → SX → State → Prop} {AX : Nat → Prop} (hr : vx_Run p l e R s m args below meth c H locs cells slots mc ms (F0 m pc ls st0) rest (va_Qf post B A1 a) (vx_X px BX AX) free) (hS : va_S A0 H0 H locs) (hA : ∀ q, q < H.size → A1 q → A0 q) (hf : ∀ q, free q → A0 q) (hAX : ∀ q, q < H.size → AX q → A0 q)
    (kx : ∀ (E : String) (ce : Cell) (q9 : Addr) (u : SX) (t : State) (H1 : Heap) (locs1 : List Loc), t.heap = H1 → s.vm.Alike t.vm → px u → BX E u t → H.size ≤ H1.size → (∀ q : Nat, q < H.size → ¬ AX q → H1[q]? = H[q]?) → va_S A0 H0 H1 locs1 → H1[q9]? = some ce → ce.vm = .none → s.vm.findClass E = some ce.cls → vx_W p l e R s m args below meth c H1 locs1 (cells + mc) (slots + ms) Q (F0 m pc ls rest) q9)
    (kk : ∀ (r : UInt32) (u : S) (t : State) (H1 : Heap) (locs1 : List Loc), t.heap = H1 → s.vm.Alike t.vm → post r u → B u t → H.size ≤ H1.size → (∀ q : Nat, q < H.size → ¬ A1 q → H1[q]? = H[q]?) → va_S A0 H0 H1 locs1 → W p l e R s m args below meth c H1 locs1 (cells + mc) (slots + ms) Q (F0 m (pc + 3) ls (.float r :: rest))) : W p l e R s m args below meth c H locs cells slots Q (F0 m pc ls st0) := by
  intro T hT X
  rcases hr T hT X with ⟨v, st₀, t, T', L, h0, X', hL, e1, e2, ⟨⟨r, u, hv, hp, hb⟩, hF⟩, st⟩ | ⟨q, st₀, t, T', L, E, ce, h0, X', hL, e1, e2, ⟨u, hp, hb, hF⟩, hce, hcv, hcl, st⟩
  · cases hv
    obtain ⟨k1, k2, k3⟩ := vx_keep h0 e1 hS hA hf hL hF
    obtain ⟨t2, a1, b1⟩ := kk r u t T'.heap (locs ++ L) e1.symm (by rw [← e2]; exact X'.warmed.alike) hp hb k1 k2 k3 T' rfl X'
    exact ⟨t2, st t2 a1, b1⟩
  · obtain ⟨k1, k2, k3⟩ := vx_keep h0 e1 hS hAX hf hL hF
    obtain ⟨t2, a1, b1⟩ := kx E ce q u t T'.heap (locs ++ L) e1.symm (by rw [← e2]; exact X'.warmed.alike) hp hb k1 k2 k3 (by rw [e1]; exact hce) hcv hcl T' rfl X'
    exact ⟨t2, st.trans a1, b1⟩
theorem vx_calld {S SX : Type} {post : UInt64 → S → Prop} {px : SX → Prop} {B : S → State → Prop} {BX : String → SX → State → Prop} {AX : Nat → Prop} (hr : vx_Run p l e R s m args below meth c H locs cells slots mc ms (F0 m pc ls st0) rest (va_Qd post B A1 a) (vx_X px BX AX) free) (hS : va_S A0 H0 H locs) (hA : ∀ q, q < H.size → A1 q → A0 q) (hf : ∀ q, free q → A0 q) (hAX : ∀ q, q < H.size → AX q → A0 q)
    (kx : ∀ (E : String) (ce : Cell) (q9 : Addr) (u : SX) (t : State) (H1 : Heap) (locs1 : List Loc), t.heap = H1 → s.vm.Alike t.vm → px u → BX E u t → H.size ≤ H1.size → (∀ q : Nat, q < H.size → ¬ AX q → H1[q]? = H[q]?) → va_S A0 H0 H1 locs1 → H1[q9]? = some ce → ce.vm = .none → s.vm.findClass E = some ce.cls → vx_W p l e R s m args below meth c H1 locs1 (cells + mc) (slots + ms) Q (F0 m pc ls rest) q9)
    (kk : ∀ (r : UInt64) (u : S) (t : State) (H1 : Heap) (locs1 : List Loc), t.heap = H1 → s.vm.Alike t.vm → post r u → B u t → H.size ≤ H1.size → (∀ q : Nat, q < H.size → ¬ A1 q → H1[q]? = H[q]?) → va_S A0 H0 H1 locs1 → W p l e R s m args below meth c H1 locs1 (cells + mc) (slots + ms) Q (F0 m (pc + 3) ls (.double r :: rest))) : W p l e R s m args below meth c H locs cells slots Q (F0 m pc ls st0) := by
  intro T hT X
  rcases hr T hT X with ⟨v, st₀, t, T', L, h0, X', hL, e1, e2, ⟨⟨r, u, hv, hp, hb⟩, hF⟩, st⟩ | ⟨q, st₀, t, T', L, E, ce, h0, X', hL, e1, e2, ⟨u, hp, hb, hF⟩, hce, hcv, hcl, st⟩
  · cases hv
    obtain ⟨k1, k2, k3⟩ := vx_keep h0 e1 hS hA hf hL hF
    obtain ⟨t2, a1, b1⟩ := kk r u t T'.heap (locs ++ L) e1.symm (by rw [← e2]; exact X'.warmed.alike) hp hb k1 k2 k3 T' rfl X'
    exact ⟨t2, st t2 a1, b1⟩
  · obtain ⟨k1, k2, k3⟩ := vx_keep h0 e1 hS hAX hf hL hF
    obtain ⟨t2, a1, b1⟩ := kx E ce q u t T'.heap (locs ++ L) e1.symm (by rw [← e2]; exact X'.warmed.alike) hp hb k1 k2 k3 (by rw [e1]; exact hce) hcv hcl T' rfl X'
    exact ⟨t2, st.trans a1, b1⟩
theorem vx_callv {S SX : Type} {post : S → Prop} {px : SX → Prop} {B : S → State → Prop} {BX : String → SX → State → Prop} {AX : Nat → Prop} (hr : vx_Run p l e R s m args below meth c H locs cells slots mc ms (F0 m pc ls st0) rest (va_Qv post B A1 a) (vx_X px BX AX) free) (hS : va_S A0 H0 H locs) (hA : ∀ q, q < H.size → A1 q → A0 q) (hf : ∀ q, free q → A0 q) (hAX : ∀ q, q < H.size → AX q → A0 q)
    (kx : ∀ (E : String) (ce : Cell) (q9 : Addr) (u : SX) (t : State) (H1 : Heap) (locs1 : List Loc), t.heap = H1 → s.vm.Alike t.vm → px u → BX E u t → H.size ≤ H1.size → (∀ q : Nat, q < H.size → ¬ AX q → H1[q]? = H[q]?) → va_S A0 H0 H1 locs1 → H1[q9]? = some ce → ce.vm = .none → s.vm.findClass E = some ce.cls → vx_W p l e R s m args below meth c H1 locs1 (cells + mc) (slots + ms) Q (F0 m pc ls rest) q9)
    (kk : ∀ (u : S) (t : State) (H1 : Heap) (locs1 : List Loc), t.heap = H1 → s.vm.Alike t.vm → post u → B u t → H.size ≤ H1.size → (∀ q : Nat, q < H.size → ¬ A1 q → H1[q]? = H[q]?) → va_S A0 H0 H1 locs1 → W p l e R s m args below meth c H1 locs1 (cells + mc) (slots + ms) Q (F0 m (pc + 3) ls (rest))) : W p l e R s m args below meth c H locs cells slots Q (F0 m pc ls st0) := by
  intro T hT X
  rcases hr T hT X with ⟨v, st₀, t, T', L, h0, X', hL, e1, e2, ⟨⟨u, hv, hp, hb⟩, hF⟩, st⟩ | ⟨q, st₀, t, T', L, E, ce, h0, X', hL, e1, e2, ⟨u, hp, hb, hF⟩, hce, hcv, hcl, st⟩
  · cases hv
    obtain ⟨k1, k2, k3⟩ := vx_keep h0 e1 hS hA hf hL hF
    obtain ⟨t2, a1, b1⟩ := kk u t T'.heap (locs ++ L) e1.symm (by rw [← e2]; exact X'.warmed.alike) hp hb k1 k2 k3 T' rfl X'
    exact ⟨t2, st t2 a1, b1⟩
  · obtain ⟨k1, k2, k3⟩ := vx_keep h0 e1 hS hAX hf hL hF
    obtain ⟨t2, a1, b1⟩ := kx E ce q u t T'.heap (locs ++ L) e1.symm (by rw [← e2]; exact X'.warmed.alike) hp hb k1 k2 k3 (by rw [e1]; exact hce) hcv hcl T' rfl X'
    exact ⟨t2, st.trans a1, b1⟩
/-- caught by the row x of this method's table; the rows ahead don't take it -/
theorem vx_catch {own name : String} {E : String} {ce : Cell} {q : Addr} (hown : s.vm.findClass own = some m.cls) (pre : List ExceptionTableEntry) (x : ExceptionTableEntry) (suf : List ExceptionTableEntry) (hsplit : c.exceptionTable.toList = pre ++ x :: suf)
    (hpass : ∀ z ∈ pre, covers z pc = false ∨ (z.catchType ≠ 0 ∧ ∃ nm : String, (Cond.classLink own z.catchType nm).before args s = true ∧ va_Nc E nm s)) (hx : covers x pc = true) (h0 : x.catchType ≠ 0)
    (hlink : (Cond.classLink own x.catchType name).before args s = true) (hcast : (Cond.castable E name).before args s = true) (hcell : H[q]? = some ce) (hv : ce.vm = .none) (hcl : s.vm.findClass E = some ce.cls)
    (kk : W p l e R s m args below meth c H locs cells slots Q (F0 m x.handlerPc ls [.ref q])) : vx_W p l e R s m args below meth c H locs cells slots Q (F0 m pc ls rest) q := by
  intro T hT X
  have hpl : e.platform.magicAccessors = ({} : Platform).magicAccessors := by rw [X.admits.platform]
  obtain ⟨c3, c4, hc3, hc4, hasg⟩ := Cond.castable_spec hcast
  cases Option.some.inj (hc3.symm.trans hcl)
  obtain ⟨c5, hc5, hcl5⟩ := Cond.classLink_spec hown hlink e.platform hpl
  cases Option.some.inj (hc4.symm.trans hc5)
  obtain ⟨vm', X', st⟩ := X.thenCaughtThrough q (g := F0 m pc ls rest) rfl (Steps.refl _) (by rw [hT]; exact hcell) (by rw [hv]; rfl) (by obtain ⟨k9, h9, -⟩ := Vm.findClass_spec hcl; exact ⟨k9, h9⟩) pre x suf hsplit
    (fun z hz => by
      rcases hpass z hz with h | ⟨hz0, nm, hl1, hn1⟩
      · exact Or.inl h
      · obtain ⟨c6, hc6, hcl6⟩ := Cond.classLink_spec hown hl1 e.platform hpl
        obtain ⟨a8, b8, h1, h2, h3⟩ := hn1
        cases Option.some.inj (h1.symm.trans hcl)
        cases Option.some.inj (h2.symm.trans hc6)
        exact Or.inr ⟨hz0, _, hcl6, h3⟩) hx (Or.inr ⟨h0, c4, hcl5, hasg⟩)
  obtain ⟨t, a1, b1⟩ := kk (T.setVm vm') hT X'
  exact ⟨t, st.trans a1, b1⟩
end Rows
section Ends
variable {p : Program} {l : Launch} {e : Env} {R : Room} {s : State} {m : MethodId} {args : Array Value} {below : List Frame} {meth : Method} {c : Code} {H : Heap} {locs : List Loc} {cells slots : Nat} {Q : State → Prop}
variable {mc ms : Nat} {free : Addr → Prop} {A0 A1 : Nat → Prop} {H0 : Heap} {a : Array Value} {ls : Array Slot} {st0 rest : List Value}
variable {Qc : Array Value → State → Outcome → State → Prop} {XC : String → State → State → Prop}
/-- what a body that may throw owes at its end -/
def vx_MQ (below : List Frame) (Qc : Array Value → State → Outcome → State → Prop) (XC : String → State → State → Prop) (a : Array Value) (s : State) (mc ms : Nat) (free : Addr → Prop) : State → Prop := fun t =>
  ∃ o, t.status = .running ∧ Ended t below o ∧ vx_Q Qc XC mc ms free a s o t
theorem vx_ret {g : JFrame} {mc ms : Nat} (k : W p l e R s m args below meth c H locs cells slots (MQ below Qc args s mc ms free) g) : W p l e R s m args below meth c H locs cells slots (vx_MQ below Qc XC args s mc ms free) g := by
  intro T hT X
  obtain ⟨t, a1, o, b1, b2, b3, b4⟩ := k T hT X
  exact ⟨t, a1, o, b1, b2, Or.inl ⟨b3, b4⟩⟩
/-- not caught here: it goes on to the caller -/
theorem vx_widen {g : JFrame} {q : Addr} {k n : Nat} (h1 : cells ≤ k) (h2 : slots ≤ n) (kk : vx_W p l e R s m args below meth c H locs k n Q g q) : vx_W p l e R s m args below meth c H locs cells slots Q g q := fun T hT X => kk T hT (stand_widen X h1 h2)
theorem vx_out {pc : Nat} {E : String} {ce : Cell} {q : Addr} {mc ms : Nat} (hout : ∀ x ∈ c.exceptionTable.toList, covers x pc = false) (hlocks : meth.locks = false) (hcell : H[q]? = some ce) (hv : ce.vm = .none) (hcl : s.vm.findClass E = some ce.cls)
    (hx : ∀ t : State, t.heap = H → s.vm.Alike t.vm → XC E s t) (hf : ∀ z ∈ locs, free z.base) (hc : cells ≤ mc) (hs : slots ≤ ms) :
    vx_W p l e R s m args below meth c H locs cells slots (vx_MQ below Qc XC args s mc ms free) (F0 m pc ls rest) q := by
  intro T hT X
  obtain ⟨st1, hrun, hend, hW, hsm⟩ := X.leaveThrown q (g := F0 m pc ls rest) rfl rfl rfl hout hlocks
  have hcell9 : (T.setFrames (.throwing q :: below)).heap[q]? = some ce := by
    show T.heap[q]? = some ce
    rw [hT]; exact hcell
  exact ⟨_, st1, .threw q, hrun, hend, Or.inr ⟨q, rfl, E, ce, locs, hx _ hT hW.alike, hcell9, hv, hcl, hW, hsm.mono hc hs, hf⟩⟩
theorem vx_frame {U : State} {k n : Nat} (h : s.sameButNew ({ U with vm := s.vm } : State) locs k n) : s.heap.size ≤ U.heap.size ∧ ∀ q : Nat, q < s.heap.size → (∀ z ∈ locs, z.base ≠ q) → U.heap[q]? = s.heap[q]? := by
  obtain ⟨-, h2, -, -, -, h6⟩ := h
  refine ⟨h2, fun q hq hz => ?_⟩
  obtain ⟨c9, e1, e2, e3, e4⟩ := h6 q _ (Array.getElem?_eq_getElem hq)
  have hs : c9.slots = (s.heap[q]).slots := Array.ext_getElem? fun i => e4 i fun hm => hz _ hm rfl
  have h9 : c9 = s.heap[q] := by
    rw [hs] at e2
    exact e2
  have e5 : U.heap[q]? = some c9 := e1
  rw [e5, h9, Array.getElem?_eq_getElem hq]
/-- the words of a throw but the four that speak of the heap -/
def vx_no (w : Cond) : Bool := decide (w ≠ .isRef (.static Bundle.tN "UNASSIGNED_STACK" Bundle.steD)) && decide (w ≠ .isRef (.static Bundle.tN "SUPPRESSED_SENTINEL" Bundle.listD)) && decide (w ≠ .laysStatic Bundle.tN "UNASSIGNED_STACK" Bundle.steD) && decide (w ≠ .laysStatic Bundle.tN "SUPPRESSED_SENTINEL" Bundle.listD)
def vx_at0 (own : String) (ic : Nat) (X : String) (names : List String) : List Cond := (Bundle.ownAtoms0 own ic X names).filter vx_no
def vx_atS (own : String) (ic : Nat) (X : String) (names : List String) : List Cond := (Bundle.ownAtoms own ic X names).filter vx_no
/-- a word that the tables alone decide, or a good one -/
def vx_ot (w : Cond) : Bool := w.onTables || goodWord w
theorem vx_ot_at {args a' : Array Value} {s U : State} {w : Cond} (hW : s.WarmedH U.vm) (hvm : s.vm = U.vm) (hg : vx_ot w = true) (h : w.before args s = true) : w.before a' U = true := by
  simp only [vx_ot, Bool.or_eq_true] at hg
  rcases hg with hg | hg
  · exact va_tabs hg hvm h
  · exact word_at hW (good_of_word hg) h
/-- a list's words: the good ones out of the method's own list, the others by premises of their own -/
theorem vx_hat {args : Array Value} {s : State} {L B : List Cond} (h1 : ∀ w ∈ L.filter goodWord, w.before args s = true) (h2 : ∀ w ∈ L.filter (fun w => !goodWord w), w ∈ B) (h3 : ∀ w ∈ B, w.before args s = true) : ∀ w ∈ L, w.before args s = true := by
  intro w hw
  by_cases g : goodWord w = true
  · exact h1 w (List.mem_filter.mpr ⟨hw, g⟩)
  · refine h3 w (h2 w (List.mem_filter.mpr ⟨hw, ?_⟩))
    show (!goodWord w) = true
    cases hgw : goodWord w
    · rfl
    · exact absurd hgw g
theorem vx_c {args : Array Value} {s : State} {w : Cond} {B : List Cond} (h : w.before args s = true) (t : ∀ w ∈ B, w.before args s = true) : ∀ w' ∈ w :: B, w'.before args s = true := fun w' h' => (List.mem_cons.mp h').elim (fun e => by rw [e]; exact h) (t w')
theorem vx_n {args : Array Value} {s : State} : ∀ w ∈ ([] : List Cond), w.before args s = true := fun _ h => nomatch h
theorem vx_own {args : Array Value} {s : State} {L : List Cond} (h1 : ∀ w ∈ L.filter vx_no, w.before args s = true)
    (hU : (Cond.isRef (.static Bundle.tN "UNASSIGNED_STACK" Bundle.steD)).before args s = true) (hN : (Cond.isRef (.static Bundle.tN "SUPPRESSED_SENTINEL" Bundle.listD)).before args s = true)
    (lU : (Cond.laysStatic Bundle.tN "UNASSIGNED_STACK" Bundle.steD).before args s = true) (lN : (Cond.laysStatic Bundle.tN "SUPPRESSED_SENTINEL" Bundle.listD).before args s = true) : ∀ w ∈ L, w.before args s = true := by
  intro w hw
  by_cases e1 : w = .isRef (.static Bundle.tN "UNASSIGNED_STACK" Bundle.steD)
  · rw [e1]; exact hU
  · by_cases e2 : w = .isRef (.static Bundle.tN "SUPPRESSED_SENTINEL" Bundle.listD)
    · rw [e2]; exact hN
    · by_cases e3 : w = .laysStatic Bundle.tN "UNASSIGNED_STACK" Bundle.steD
      · rw [e3]; exact lU
      · by_cases e4 : w = .laysStatic Bundle.tN "SUPPRESSED_SENTINEL" Bundle.listD
        · rw [e4]; exact lN
        · exact h1 w (List.mem_filter.mpr ⟨hw, by unfold vx_no; rw [decide_eq_true e1, decide_eq_true e2, decide_eq_true e3, decide_eq_true e4]; rfl⟩)
/-- where a static field lies, its class's statics cell in H -/
def vx_L (C n d : String) (A : Nat → Prop) (U : State) (H : Heap) : Prop := ∃ (c : ClassId) (k : Class) (i : Nat) (f : Field) (a : Nat) (cell : Cell), U.vm.findClass C = some c ∧ U.fieldFound? C n d = some (c, k, i, f) ∧ f.isStatic = true ∧ k.statics = some a ∧ H[a]? = some cell ∧ cell.vm.isStatics = true ∧ cell.cls = c ∧ f.slot < cell.slots.size ∧ k.staticTypes[f.slot]? = some f.type ∧ ¬ A a
theorem vx_L.moved {C n d : String} {A : Nat → Prop} {u U : State} {H : Heap} (hvm : u.vm.Alike U.vm) (h : vx_L C n d A u H) : vx_L C n d A U H := by
  obtain ⟨c, k, i, f, a, cell, h1, h2, h3, h4, h5, h6, h7, h8, h9, h10⟩ := h
  obtain ⟨k', hi', he⟩ := State.fieldFound?_setVm hvm h2
  exact ⟨c, k', i, f, a, cell, by rw [hvm.findClass]; exact h1, hi', h3, by rw [he]; exact h4, h5, h6, h7, h8, by rw [he]; exact h9, h10⟩
theorem vx_L.kept {C n d : String} {A : Nat → Prop} {U : State} {H H1 : Heap} (h : vx_L C n d A U H) (hq : ∀ a : Nat, a < H.size → ¬ A a → H1[a]? = H[a]?) : vx_L C n d A U H1 := by
  obtain ⟨c, k, i, f, a, cell, h1, h2, h3, h4, h5, h6, h7, h8, h9, h10⟩ := h
  exact ⟨c, k, i, f, a, cell, h1, h2, h3, h4, by rw [hq a (Array.getElem?_eq_some_iff.mp h5).1 h10]; exact h5, h6, h7, h8, h9, h10⟩
theorem vx_L.narrow {C n d : String} {A B : Nat → Prop} {U : State} {H : Heap} (h : vx_L C n d A U H) (hAB : ∀ q, B q → A q) : vx_L C n d B U H := by
  obtain ⟨c, k, i, f, a, cell, h1, h2, h3, h4, h5, h6, h7, h8, h9, h10⟩ := h
  exact ⟨c, k, i, f, a, cell, h1, h2, h3, h4, h5, h6, h7, h8, h9, fun z => h10 (hAB _ z)⟩
theorem vx_L.word {C n d : String} {A : Nat → Prop} {s : State} {args : Array Value} (h : vx_L C n d A s s.heap) : (Cond.laysStatic C n d).before args s = true := by
  obtain ⟨c, k, i, f, a, cell, h1, h2, h3, h4, h5, h6, h7, h8, h9, -⟩ := h
  show (Cond.laysStatic C n d).holds args s none s [] = true
  exact Cond.laysStatic_of h1 h2 h3 h4 h5 h6 h7 h8 h9
/-- .. and what it holds: null or some reference -/
def vx_Zq (C n d : String) (A : Nat → Prop) (U : State) (H : Heap) : Prop := va_Zq C n d A U H ∧ vx_L C n d A U H
theorem vx_Zq.moved {C n d : String} {A : Nat → Prop} {u U : State} {H : Heap} (hvm : u.vm.Alike U.vm) (h : vx_Zq C n d A u H) : vx_Zq C n d A U H := ⟨va_Zq.moved hvm h.1, vx_L.moved hvm h.2⟩
theorem vx_Zq.kept {C n d : String} {A : Nat → Prop} {U : State} {H H1 : Heap} (h : vx_Zq C n d A U H) (hq : ∀ a : Nat, a < H.size → ¬ A a → H1[a]? = H[a]?) : vx_Zq C n d A U H1 := ⟨va_Zq.kept h.1 hq, vx_L.kept h.2 hq⟩
theorem vx_Zq.narrow {C n d : String} {A B : Nat → Prop} {U : State} {H : Heap} (h : vx_Zq C n d A U H) (hAB : ∀ q, B q → A q) : vx_Zq C n d B U H := ⟨va_Zq.narrow h.1 hAB, vx_L.narrow h.2 hAB⟩
theorem vx_Zqof {args : Array Value} {s : State} {C n d : String} {A : Nat → Prop} (hl : (Cond.laysStatic C n d).before args s = true) (hini : (Cond.initialized C).before args s = true) (h : (Cond.isRef (.static C n d)).before args s = true) (hA : ∀ a : Nat, a < s.heap.size → ¬ A a) : vx_Zq C n d A s s.heap := by
  refine ⟨va_Zqof hl hini h hA, ?_⟩
  obtain ⟨c, k, i, f, a, cell, h1, h2, h3, h4, h5, h6, h7, h8, h9⟩ := Cond.laysStatic_spec hl
  exact ⟨c, k, i, f, a, cell, h1, h2, h3, h4, h5, h6, h7, h8, h9, hA a (Array.getElem?_eq_some_iff.mp h5).1⟩
theorem vx_isRef {C n d : String} {v : Value} {A : Nat → Prop} {s : State} {args : Array Value} (h : va_Z C n d v A s s.heap) (hv : v.isRef = true) : (Cond.isRef (.static C n d)).before args s = true := by
  obtain ⟨cf, kf, fi, f, a, cell, h1, h2, h3, h4, h5, h6, h7, -⟩ := h
  have he : (Term.static C n d).eval args s none [] s = some v := by
    simp [Term.eval, State.fieldNamed?, h1, h2, h4, h5, h6, h7]
  simp only [Cond.before, Cond.holds, Cond.value, he]
  cases v <;> simp_all [Value.isRef]
theorem vx_isRefq {C n d : String} {A : Nat → Prop} {s : State} {args : Array Value} (h : va_Zq C n d A s s.heap) : (Cond.isRef (.static C n d)).before args s = true := by
  rcases h with h | ⟨t, h⟩
  · exact vx_isRef h rfl
  · exact vx_isRef h rfl
/-- the same frame, seen from here: as if the method were called anew in this heap -/
theorem vx_rebase {T : State} (X : Stand p l e R s m args below meth c T locs cells slots) {R' : Room} (hf : R'.frames ≤ R.frames) (hl : R'.locals ≤ R.locals) (hc : cells + R'.cells ≤ R.cells) (hs : slots + R'.slots ≤ R.slots) :
    Stand p l e R' ((T.setVm s.vm).setFrames (.invoking m args :: below)) m args below meth c T [] 0 0 := by
  have htop : (T.setVm s.vm).topJava?.isSome := X.here.top
  have hF : ((T.setVm s.vm).setFrames (.invoking m args :: below)).frames = .invoking m args :: below := State.frames_setFrames _ (State.cur_lt_of_top htop)
  obtain ⟨g₀, hg0⟩ := Option.isSome_iff_exists.mp htop
  obtain ⟨r, hr⟩ := State.topJava?_eq_some.mp hg0
  have hl9 : e.platform.stackLimits (T.setVm s.vm).me = e.platform.stackLimits s.me := X.limits
  have hb9 : (T.setVm s.vm).me.stackBytes = s.me.stackBytes := X.bytes
  refine ⟨X.admits, X.cas, X.clock, hF, ?_, X.hears, X.method, X.code, X.here, X.tail, X.warmed, ?_, ?_, ?_⟩
  · have h := X.room
    have hU : ((T.setVm s.vm).setFrames (.invoking m args :: below)).localsInUse = s.localsInUse := by
      rw [State.localsInUse_invoking hF (meth := meth) (c := c) X.method X.code, State.localsInUse_invoking X.frames X.method X.code]
    simp only [State.hasRoom, Bool.and_eq_true, decide_eq_true_eq] at h ⊢
    obtain ⟨⟨⟨⟨h1, h2, h3, h4, h5, h6⟩, h7⟩, h8⟩, h9⟩ := h
    rw [X.frames, List.length_cons] at h2 h3
    have q1 := X.heapSize
    have q2 := X.used
    simp only [hF, hU, List.length_cons, State.stackLimits_setFrames, State.stackBytes_setFrames, hl9, hb9]
    refine ⟨⟨⟨⟨by omega, by omega, by omega, by omega, by omega, h6⟩, ?_⟩, ?_⟩, X.book⟩
    · show T.heap.size + R'.cells ≤ e.platform.maxCells
      omega
    · show T.slotsUsed + R'.slots ≤ e.platform.maxSlots
      omega
  · rw [State.stackLimits_setFrames]; rfl
  · rw [State.stackBytes_setFrames]; rfl
  · refine ⟨?_, Nat.le_refl _, Nat.le_refl _, ?_, ?_, fun a c9 h9 => ⟨c9, h9, rfl, rfl, fun _ _ => rfl⟩⟩
    · obtain ⟨t, ht, -⟩ := State.frames_cons hr
      show T.setVm s.vm = { ((T.setVm s.vm).setFrames (.invoking m args :: below)).setFrames (T.setVm s.vm).frames with heap := T.heap, slotsUsed := T.slotsUsed }
      rw [State.setFrames_setFrames, State.setFrames_self ht]
      rfl
    · show T.slotsUsed = T.slotsUsed + ((T.heap.toList.drop T.heap.size).map (·.slots.size)).sum
      rw [List.drop_eq_nil_of_le (Nat.le_of_eq Array.length_toList)]
      rfl
    · show ((T.heap.toList.drop T.heap.size).map (·.slots.size)).sum ≤ 0
      rw [List.drop_eq_nil_of_le (Nat.le_of_eq Array.length_toList)]
      exact Nat.le_refl _
/-- 'throw new E()': new; dup; invokespecial; athrow -/
theorem vx_throw0 {cc : ByteArray} {pc : Nat} (hexec : p.tables.exec = Jvm.exec) (hb : c.code = cc) (hl : l.stackTraces = false) {own cls : String} {names : List String} {ik ic mc ms : Nat} {A : Nat → Prop}
    (hown : s.vm.findClass own = some m.cls) (hcls : Bundle.fit cls = true) (hnames : ∀ n ∈ names, Bundle.fit n = true)
    (hk : (Cond.classLink own ik cls).before args s = true) (hini : (Cond.initialized cls).before args s = true) (hat : ∀ w ∈ vx_at0 own ic cls names, w.before args s = true)
    (hgood : ∀ w ∈ Cond.classLink own ik cls :: Cond.initialized cls :: vx_at0 own ic cls names, vx_ot w = true)
    (hU : vx_Zq Bundle.tN "UNASSIGNED_STACK" Bundle.steD A s s.heap) (hN : vx_Zq Bundle.tN "SUPPRESSED_SENTINEL" Bundle.listD A s s.heap) (hS : va_S A s.heap H locs) (hsize : ls.size = c.maxLocals)
    (d0 : decode cc pc = .ok (.new ik, 3)) (d3 : decode cc (pc + 3) = .ok (.dup, 1)) (d4 : decode cc (pc + 4) = .ok (.invokespecial ic, 3)) (d7 : decode cc (pc + 7) = .ok (.athrow, 1))
    (hout : ∀ x ∈ c.exceptionTable.toList, covers x (pc + 7) = false)
    (hRframes : names.length + 3 < R.frames) (hRlocals : (rest.map fun v => v.category).sum + (13 * (names.length + 1) + 42) ≤ R.locals) (hRcells : cells + 1 ≤ R.cells) (hRslots : slots + 6 ≤ R.slots) (hlocks : meth.locks = false)
    (hx : ∀ t : State, s.vm.Alike t.vm → H.size ≤ t.heap.size → (∀ q : Nat, q < H.size → t.heap[q]? = H[q]?) → XC cls s t)
    (hf : ∀ z ∈ locs, free z.base) (hc : cells + 1 ≤ mc) (hs : slots + 6 ≤ ms) :
    W p l e R s m args below meth c H locs cells slots (vx_MQ below Qc XC args s mc ms free) (F0 m pc ls rest) := by
  intro T hT X
  have htr : e.platform.stackTraces = false := (show e.platform.stackTraces = l.stackTraces by rw [X.admits.platform]).trans hl
  have Y := vx_rebase X (R' := { frames := R.frames, locals := R.locals, cells := 1, slots := 6 }) (Nat.le_refl _) (Nat.le_refl _) hRcells hRslots
  obtain ⟨s', hA⟩ : ∃ z, z = (T.setVm s.vm).setFrames (.invoking m args :: below) := ⟨_, rfl⟩
  rw [← hA] at Y
  have hvm : s'.vm = s.vm := by rw [hA]; rfl
  have hhp : s'.heap = H := by rw [hA]; exact hT
  have hW0 : s.WarmedH s'.vm := by rw [hvm]; exact State.WarmedH.refl s
  have hat' : ∀ w ∈ vx_at0 own ic cls names, w.before args s' = true := fun w hw => vx_ot_at hW0 hvm.symm (hgood w (List.mem_cons_of_mem _ (List.mem_cons_of_mem _ hw))) (hat w hw)
  have hk' : (Cond.classLink own ik cls).before args s' = true := vx_ot_at hW0 hvm.symm (hgood _ List.mem_cons_self) hk
  have hini' : (Cond.initialized cls).before args s' = true := vx_ot_at hW0 hvm.symm (hgood _ (List.mem_cons_of_mem _ List.mem_cons_self)) hini
  have hU' : vx_Zq Bundle.tN "UNASSIGNED_STACK" Bundle.steD A s' s'.heap := by rw [hhp]; exact vx_Zq.moved hW0.alike (hU.kept hS.2.1)
  have hN' : vx_Zq Bundle.tN "SUPPRESSED_SENTINEL" Bundle.listD A s' s'.heap := by rw [hhp]; exact vx_Zq.moved hW0.alike (hN.kept hS.2.1)
  have h : ∀ w ∈ Bundle.ownAtoms0 own ic cls names, w.before args s' = true := vx_own hat' (vx_isRefq hU'.1) (vx_isRefq hN'.1) hU'.2.word hN'.2.word
  have hown' : s'.vm.findClass own = some m.cls := by rw [hvm]; exact hown
  have hins : (Cond.instantiable cls 6).before args s' = true := h _ (by simp [Bundle.ownAtoms0])
  obtain ⟨vm₁, cX, kX, hfX, hkX, -, -, X₁, st1⟩ := Y.newCold hexec (own := own) (C := cls) (index := ik) (n := 6) hown' hk' hins hini'
    (g := F0 m pc ls rest) rfl (by rw [hb]; exact d0) (Nat.le_refl _) (Nat.le_refl _)
  generalize hT1 : (T.setVm vm₁).pushCell { cls := cX, slots := kX.instanceTypes.map defaultValue, vm := .none } = T1 at X₁ st1
  have hcat : (Value.ref T.heap.size).category = 1 := rfl
  have hcellA : T1.heap[T.heap.size]? = some (freshCell cX kX) := by rw [← hT1]; exact State.heap_pushCell_size _ _
  have d3' : decode c.code (pc + 3) = .ok (.dup, 1) := by rw [hb]; exact d3
  obtain ⟨U, hsteps, hrun, hend, hW, hsame, ce, hce, hO⟩ := X₁.ctorThrow0 hexec htr (own := own) (cls := cls) (names := names) (ic := ic) hown' hcls hnames h (fun x hx => nomatch hx) hfX hkX hcellA (by rw [hhp, hT]; exact Nat.le_refl _)
    (g := { method := m, pc := pc + 4, locals := ls, stack := .ref T.heap.size :: .ref T.heap.size :: rest, locked := none }) rfl hsize rfl rfl (rest := rest) rfl
    (by rw [hb]; exact d4) (by rw [hb]; exact d7) hout hRframes (by simp only [List.map_cons, List.sum_cons, hcat]; omega) hlocks
  obtain ⟨f1, f2⟩ := vx_frame hsame
  rw [hhp] at f1 f2
  have hWs : s.WarmedH U.vm := State.WarmedH.trans hW0 hW
  have hcl : s.vm.findClass cls = some ce.cls := by
    have h9 := hO.cls
    rw [hvm] at h9
    exact h9
  have hall : s.sameButNew ({ U with vm := s.vm } : State) locs mc ms := by
    subst hA
    obtain ⟨e1, e2⟩ := hsame
    rw [State.setFrames_setFrames] at e1
    have h2 : (T.setVm s.vm).sameButNew ({ U with vm := s.vm } : State) [] (0 + 1) (0 + 6) := ⟨e1, e2⟩
    have h3 := X.same.trans h2
    rw [List.append_nil] at h3
    exact h3.mono hc hs
  refine ⟨U, ?_, .threw T.heap.size, hrun, hend, Or.inr ⟨T.heap.size, rfl, cls, ce, locs, hx U hWs.alike f1 (fun q hq => f2 q hq (fun z hz => nomatch hz)), hce, hO.vm, hcl, hWs, hall, hf⟩⟩
  refine st1 _ ?_
  show Steps p.tables e below (T1.setTop { method := m, pc := pc + 3, locals := ls, stack := .ref T.heap.size :: rest, locked := none }) _
  jvm_step X₁.here [X₁.here.top, hexec, d3', Value.category]
  exact hsteps
/-- 'throw new E("text")': new; dup; ldc; invokespecial; athrow -/
theorem vx_throwS {cc : ByteArray} {pc : Nat} (hexec : p.tables.exec = Jvm.exec) (hb : c.code = cc) (hl : l.stackTraces = false) {own cls text : String} {names : List String} {ik is ic mc ms sa : Nat} {A : Nat → Prop}
    (hown : s.vm.findClass own = some m.cls) (hcls : Bundle.fit cls = true) (hnames : ∀ n ∈ names, Bundle.fit n = true)
    (hk : (Cond.classLink own ik cls).before args s = true) (hini : (Cond.initialized cls).before args s = true) (hstr : vk_R own is text sa s) (hat : ∀ w ∈ vx_atS own ic cls names, w.before args s = true)
    (hgood : ∀ w ∈ Cond.classLink own ik cls :: Cond.initialized cls :: vx_atS own ic cls names, vx_ot w = true)
    (hU : vx_Zq Bundle.tN "UNASSIGNED_STACK" Bundle.steD A s s.heap) (hN : vx_Zq Bundle.tN "SUPPRESSED_SENTINEL" Bundle.listD A s s.heap) (hS : va_S A s.heap H locs) (hsize : ls.size = c.maxLocals)
    (d0 : decode cc pc = .ok (.new ik, 3)) (d3 : decode cc (pc + 3) = .ok (.dup, 1)) (d4 : decode cc (pc + 4) = .ok (.ldc is, 2)) (d6 : decode cc (pc + 6) = .ok (.invokespecial ic, 3)) (d9 : decode cc (pc + 9) = .ok (.athrow, 1))
    (hout : ∀ x ∈ c.exceptionTable.toList, covers x (pc + 9) = false)
    (hRframes : names.length + 3 < R.frames) (hRlocals : (rest.map fun v => v.category).sum + (13 * (names.length + 1) + 43) ≤ R.locals) (hRcells : cells + 1 ≤ R.cells) (hRslots : slots + 6 ≤ R.slots) (hlocks : meth.locks = false)
    (hx : ∀ t : State, s.vm.Alike t.vm → H.size ≤ t.heap.size → (∀ q : Nat, q < H.size → t.heap[q]? = H[q]?) → XC cls s t)
    (hf : ∀ z ∈ locs, free z.base) (hc : cells + 1 ≤ mc) (hs : slots + 6 ≤ ms) :
    W p l e R s m args below meth c H locs cells slots (vx_MQ below Qc XC args s mc ms free) (F0 m pc ls rest) := by
  intro T hT X
  have htr : e.platform.stackTraces = false := (show e.platform.stackTraces = l.stackTraces by rw [X.admits.platform]).trans hl
  have Y := vx_rebase X (R' := { frames := R.frames, locals := R.locals, cells := 1, slots := 6 }) (Nat.le_refl _) (Nat.le_refl _) hRcells hRslots
  obtain ⟨s', hA⟩ : ∃ z, z = (T.setVm s.vm).setFrames (.invoking m args :: below) := ⟨_, rfl⟩
  rw [← hA] at Y
  have hvm : s'.vm = s.vm := by rw [hA]; rfl
  have hhp : s'.heap = H := by rw [hA]; exact hT
  have hW0 : s.WarmedH s'.vm := by rw [hvm]; exact State.WarmedH.refl s
  have hat' : ∀ w ∈ vx_atS own ic cls names, w.before args s' = true := fun w hw => vx_ot_at hW0 hvm.symm (hgood w (List.mem_cons_of_mem _ (List.mem_cons_of_mem _ hw))) (hat w hw)
  have hk' : (Cond.classLink own ik cls).before args s' = true := vx_ot_at hW0 hvm.symm (hgood _ List.mem_cons_self) hk
  have hini' : (Cond.initialized cls).before args s' = true := vx_ot_at hW0 hvm.symm (hgood _ (List.mem_cons_of_mem _ List.mem_cons_self)) hini
  have hU' : vx_Zq Bundle.tN "UNASSIGNED_STACK" Bundle.steD A s' s'.heap := by rw [hhp]; exact vx_Zq.moved hW0.alike (hU.kept hS.2.1)
  have hN' : vx_Zq Bundle.tN "SUPPRESSED_SENTINEL" Bundle.listD A s' s'.heap := by rw [hhp]; exact vx_Zq.moved hW0.alike (hN.kept hS.2.1)
  have h : ∀ w ∈ Bundle.ownAtoms own ic cls names, w.before args s' = true := vx_own hat' (vx_isRefq hU'.1) (vx_isRefq hN'.1) hU'.2.word hN'.2.word
  have hown' : s'.vm.findClass own = some m.cls := by rw [hvm]; exact hown
  have hins : (Cond.instantiable cls 6).before args s' = true := h _ (by simp [Bundle.ownAtoms])
  obtain ⟨vm₁, cX, kX, hfX, hkX, -, -, X₁, st1⟩ := Y.newCold hexec (own := own) (C := cls) (index := ik) (n := 6) hown' hk' hins hini'
    (g := F0 m pc ls rest) rfl (by rw [hb]; exact d0) (Nat.le_refl _) (Nat.le_refl _)
  generalize hT1 : (T.setVm vm₁).pushCell { cls := cX, slots := kX.instanceTypes.map defaultValue, vm := .none } = T1 at X₁ st1
  have hcat : (Value.ref T.heap.size).category = 1 := rfl
  have hcellA : T1.heap[T.heap.size]? = some (freshCell cX kX) := by rw [← hT1]; exact State.heap_pushCell_size _ _
  have d3' : decode c.code (pc + 3) = .ok (.dup, 1) := by rw [hb]; exact d3
  have d4' : decode c.code (pc + 4) = .ok (.ldc is, 2) := by rw [hb]; exact d4
  have hstr' : vk_R own is text sa s' := vk_R.warm hW0 hstr
  obtain ⟨U, hsteps, hrun, hend, hW, hsame, ce, hce, hO⟩ := X₁.ctorThrowS hexec htr (own := own) (cls := cls) (names := names) (ic := ic) hown' hcls hnames h (fun x hx => nomatch hx) hfX hkX hcellA (by rw [hhp, hT]; exact Nat.le_refl _) (msg := .ref sa) rfl
    (g := { method := m, pc := pc + 6, locals := ls, stack := .ref sa :: .ref T.heap.size :: .ref T.heap.size :: rest, locked := none }) rfl hsize rfl rfl (rest := rest) rfl
    (by rw [hb]; exact d6) (by rw [hb]; exact d9) hout hRframes (by simp only [List.map_cons, List.sum_cons, hcat]; omega) hlocks
  obtain ⟨f1, f2⟩ := vx_frame hsame
  rw [hhp] at f1 f2
  have hWs : s.WarmedH U.vm := State.WarmedH.trans hW0 hW
  have hcl : s.vm.findClass cls = some ce.cls := by
    have h9 := hO.cls
    rw [hvm] at h9
    exact h9
  have hall : s.sameButNew ({ U with vm := s.vm } : State) locs mc ms := by
    subst hA
    obtain ⟨e1, e2⟩ := hsame
    rw [State.setFrames_setFrames] at e1
    have h2 : (T.setVm s.vm).sameButNew ({ U with vm := s.vm } : State) [] (0 + 1) (0 + 6) := ⟨e1, e2⟩
    have h3 := X.same.trans h2
    rw [List.append_nil] at h3
    exact h3.mono hc hs
  refine ⟨U, ?_, .threw T.heap.size, hrun, hend, Or.inr ⟨T.heap.size, rfl, cls, ce, locs, hx U hWs.alike f1 (fun q hq => f2 q hq (fun z hz => nomatch hz)), hce, hO.vm, hcl, hWs, hall, hf⟩⟩
  refine st1 _ ?_
  show Steps p.tables e below (T1.setTop { method := m, pc := pc + 3, locals := ls, stack := .ref T.heap.size :: rest, locked := none }) _
  jvm_step X₁.here [X₁.here.top, hexec, d3', Value.category]
  exact X₁.ldcString hexec (own := own) (text := text) (index := is) (a := sa) hown' hstr'.1 hstr'.2
    (g := { method := m, pc := pc + 4, locals := ls, stack := .ref T.heap.size :: .ref T.heap.size :: rest, locked := none }) rfl d4' _ hsteps
/-- 'throw new E("text")', the text by a wide index -/
theorem vx_throwSW {cc : ByteArray} {pc : Nat} (hexec : p.tables.exec = Jvm.exec) (hb : c.code = cc) (hl : l.stackTraces = false) {own cls text : String} {names : List String} {ik is ic mc ms sa : Nat} {A : Nat → Prop}
    (hown : s.vm.findClass own = some m.cls) (hcls : Bundle.fit cls = true) (hnames : ∀ n ∈ names, Bundle.fit n = true)
    (hk : (Cond.classLink own ik cls).before args s = true) (hini : (Cond.initialized cls).before args s = true) (hstr : vk_R own is text sa s) (hat : ∀ w ∈ vx_atS own ic cls names, w.before args s = true)
    (hgood : ∀ w ∈ Cond.classLink own ik cls :: Cond.initialized cls :: vx_atS own ic cls names, vx_ot w = true)
    (hU : vx_Zq Bundle.tN "UNASSIGNED_STACK" Bundle.steD A s s.heap) (hN : vx_Zq Bundle.tN "SUPPRESSED_SENTINEL" Bundle.listD A s s.heap) (hS : va_S A s.heap H locs) (hsize : ls.size = c.maxLocals)
    (d0 : decode cc pc = .ok (.new ik, 3)) (d3 : decode cc (pc + 3) = .ok (.dup, 1)) (d4 : decode cc (pc + 4) = .ok (.ldc_w is, 3)) (d7 : decode cc (pc + 7) = .ok (.invokespecial ic, 3)) (d10 : decode cc (pc + 10) = .ok (.athrow, 1))
    (hout : ∀ x ∈ c.exceptionTable.toList, covers x (pc + 10) = false)
    (hRframes : names.length + 3 < R.frames) (hRlocals : (rest.map fun v => v.category).sum + (13 * (names.length + 1) + 43) ≤ R.locals) (hRcells : cells + 1 ≤ R.cells) (hRslots : slots + 6 ≤ R.slots) (hlocks : meth.locks = false)
    (hx : ∀ t : State, s.vm.Alike t.vm → H.size ≤ t.heap.size → (∀ q : Nat, q < H.size → t.heap[q]? = H[q]?) → XC cls s t)
    (hf : ∀ z ∈ locs, free z.base) (hc : cells + 1 ≤ mc) (hs : slots + 6 ≤ ms) :
    W p l e R s m args below meth c H locs cells slots (vx_MQ below Qc XC args s mc ms free) (F0 m pc ls rest) := by
  intro T hT X
  have htr : e.platform.stackTraces = false := (show e.platform.stackTraces = l.stackTraces by rw [X.admits.platform]).trans hl
  have Y := vx_rebase X (R' := { frames := R.frames, locals := R.locals, cells := 1, slots := 6 }) (Nat.le_refl _) (Nat.le_refl _) hRcells hRslots
  obtain ⟨s', hA⟩ : ∃ z, z = (T.setVm s.vm).setFrames (.invoking m args :: below) := ⟨_, rfl⟩
  rw [← hA] at Y
  have hvm : s'.vm = s.vm := by rw [hA]; rfl
  have hhp : s'.heap = H := by rw [hA]; exact hT
  have hW0 : s.WarmedH s'.vm := by rw [hvm]; exact State.WarmedH.refl s
  have hat' : ∀ w ∈ vx_atS own ic cls names, w.before args s' = true := fun w hw => vx_ot_at hW0 hvm.symm (hgood w (List.mem_cons_of_mem _ (List.mem_cons_of_mem _ hw))) (hat w hw)
  have hk' : (Cond.classLink own ik cls).before args s' = true := vx_ot_at hW0 hvm.symm (hgood _ List.mem_cons_self) hk
  have hini' : (Cond.initialized cls).before args s' = true := vx_ot_at hW0 hvm.symm (hgood _ (List.mem_cons_of_mem _ List.mem_cons_self)) hini
  have hU' : vx_Zq Bundle.tN "UNASSIGNED_STACK" Bundle.steD A s' s'.heap := by rw [hhp]; exact vx_Zq.moved hW0.alike (hU.kept hS.2.1)
  have hN' : vx_Zq Bundle.tN "SUPPRESSED_SENTINEL" Bundle.listD A s' s'.heap := by rw [hhp]; exact vx_Zq.moved hW0.alike (hN.kept hS.2.1)
  have h : ∀ w ∈ Bundle.ownAtoms own ic cls names, w.before args s' = true := vx_own hat' (vx_isRefq hU'.1) (vx_isRefq hN'.1) hU'.2.word hN'.2.word
  have hown' : s'.vm.findClass own = some m.cls := by rw [hvm]; exact hown
  have hins : (Cond.instantiable cls 6).before args s' = true := h _ (by simp [Bundle.ownAtoms])
  obtain ⟨vm₁, cX, kX, hfX, hkX, -, -, X₁, st1⟩ := Y.newCold hexec (own := own) (C := cls) (index := ik) (n := 6) hown' hk' hins hini'
    (g := F0 m pc ls rest) rfl (by rw [hb]; exact d0) (Nat.le_refl _) (Nat.le_refl _)
  generalize hT1 : (T.setVm vm₁).pushCell { cls := cX, slots := kX.instanceTypes.map defaultValue, vm := .none } = T1 at X₁ st1
  have hcat : (Value.ref T.heap.size).category = 1 := rfl
  have hcellA : T1.heap[T.heap.size]? = some (freshCell cX kX) := by rw [← hT1]; exact State.heap_pushCell_size _ _
  have d3' : decode c.code (pc + 3) = .ok (.dup, 1) := by rw [hb]; exact d3
  have d4' : decode c.code (pc + 4) = .ok (.ldc_w is, 3) := by rw [hb]; exact d4
  have hstr' : vk_R own is text sa s' := vk_R.warm hW0 hstr
  obtain ⟨U, hsteps, hrun, hend, hW, hsame, ce, hce, hO⟩ := X₁.ctorThrowS hexec htr (own := own) (cls := cls) (names := names) (ic := ic) hown' hcls hnames h (fun x hx => nomatch hx) hfX hkX hcellA (by rw [hhp, hT]; exact Nat.le_refl _) (msg := .ref sa) rfl
    (g := { method := m, pc := pc + 7, locals := ls, stack := .ref sa :: .ref T.heap.size :: .ref T.heap.size :: rest, locked := none }) rfl hsize rfl rfl (rest := rest) rfl
    (by rw [hb]; exact d7) (by rw [hb]; exact d10) hout hRframes (by simp only [List.map_cons, List.sum_cons, hcat]; omega) hlocks
  obtain ⟨f1, f2⟩ := vx_frame hsame
  rw [hhp] at f1 f2
  have hWs : s.WarmedH U.vm := State.WarmedH.trans hW0 hW
  have hcl : s.vm.findClass cls = some ce.cls := by
    have h9 := hO.cls
    rw [hvm] at h9
    exact h9
  have hall : s.sameButNew ({ U with vm := s.vm } : State) locs mc ms := by
    subst hA
    obtain ⟨e1, e2⟩ := hsame
    rw [State.setFrames_setFrames] at e1
    have h2 : (T.setVm s.vm).sameButNew ({ U with vm := s.vm } : State) [] (0 + 1) (0 + 6) := ⟨e1, e2⟩
    have h3 := X.same.trans h2
    rw [List.append_nil] at h3
    exact h3.mono hc hs
  refine ⟨U, ?_, .threw T.heap.size, hrun, hend, Or.inr ⟨T.heap.size, rfl, cls, ce, locs, hx U hWs.alike f1 (fun q hq => f2 q hq (fun z hz => nomatch hz)), hce, hO.vm, hcl, hWs, hall, hf⟩⟩
  refine st1 _ ?_
  show Steps p.tables e below (T1.setTop { method := m, pc := pc + 3, locals := ls, stack := .ref T.heap.size :: rest, locked := none }) _
  jvm_step X₁.here [X₁.here.top, hexec, d3', Value.category]
  exact X₁.ldcStringW hexec (own := own) (text := text) (index := is) (a := sa) hown' hstr'.1 hstr'.2
    (g := { method := m, pc := pc + 4, locals := ls, stack := .ref T.heap.size :: .ref T.heap.size :: rest, locked := none }) rfl d4' _ hsteps
end Ends
section Bodies
variable {l : Launch}
theorem vx_ofW {y : MethodName} {ws ws' : List Cond} {rm : Room} {Pc : Array Value → State → Prop} {Qc : Array Value → State → Outcome → State → Prop} {XC : String → State → State → Prop} {mc ms : Nat} {free : Addr → Prop} {cc : ByteArray} {maxL : Nat} {ret : Option FieldType}
    (hy : plainName y.cls = true) (hw : ws = Cond.code y cc maxL ret :: ws')
    (body : ∀ p e s m args below meth c s₁, BodyLoose p l y (headSpec ws rm) cc maxL ret e s m args below meth c s₁ → c.maxLocals = maxL → (∀ x ∈ c.exceptionTable.toList, False) → Pc args s →
      W p l e (headSpec ws rm).room s m args below meth c s.heap [] 0 0 (vx_MQ below Qc XC args s mc ms free) (entryFrame m args maxL)) : vx_Met l y ws rm Pc Qc XC mc ms free := by
  refine MetFree.of_bodyS (code := cc) (maxLocals := maxL) (ret := ret) hy ?_ ?_
  · intro args s m h hn
    obtain ⟨meth, c, h1, h2, h3, h4, h5, h6, -, -⟩ := Cond.code_spec hn (atoms_spec (ws := ws) h _ (by rw [hw]; exact List.mem_cons_self))
    exact ⟨meth, c, h1, h2, h3, h4, h5, h6⟩
  · intro p e s m args below meth c s₁ B hml hP _
    have hh0 : s₁.heap = s.heap := by rw [B.state]; rfl
    have ht : ∀ x ∈ c.exceptionTable.toList, False := by
      obtain ⟨meth9, c9, h1, h2, -, -, -, -, h7, -⟩ := Cond.code_spec B.named (atoms_spec (ws := ws) B.pre _ (by rw [hw]; exact List.mem_cons_self))
      cases Option.some.inj (h1.symm.trans B.method)
      cases Option.some.inj (h2.symm.trans (Stand.of_body B).code)
      intro x hx
      rw [Array.isEmpty_iff.mp h7] at hx
      cases hx
    obtain ⟨t, a1, o, b1, b2, b3⟩ := body p e s m args below meth c s₁ B hml ht hP s₁ hh0 (Stand.of_body B)
    exact ⟨t, o, a1, b1, b2, b3⟩
/-- the table of a body with handlers -/
theorem vx_table {p : Program} {x y : MethodName} {S : Spec} {cc bytes : ByteArray} {maxL maxL' : Nat} {ret ret' : Option FieldType} {e : Env} {s s₁ : State} {m : MethodId} {args : Array Value} {below : List Frame} {meth : Method} {c : Code} {hh : List (Nat × Nat × Nat × Nat)}
    (B : BodyLoose p l y S cc maxL ret e s m args below meth c s₁) (h : (Cond.codeWith y bytes maxL' ret' hh).before args s = true) : c.exceptionTable.toList = tableOf hh := by
  obtain ⟨m9, meth9, c9, hn9, h1, h2, -, -, h6, -⟩ := Cond.codeWith_spec h
  cases Option.some.inj (hn9.symm.trans B.named)
  cases Option.some.inj (h1.symm.trans B.method)
  cases Option.some.inj (h2.symm.trans (Stand.of_body B).code)
  rw [← h6, table_eq]
end Bodies
end VXA
/-! ===== END ===== -/
/-! ===== BEGIN a static call of a method with an exception table ===== -/
section VXS
variable {p : Program} {l : Launch} {e : Env} {R : Room} {s : State} {m : MethodId} {args : Array Value} {below : List Frame} {meth : Method} {c : Code} {T : State} {H : Heap} {locs : List Loc} {cells slots : Nat}
abbrev vx_CSW (R : Room) (s : State) (args : Array Value) (own : String) (index : Nat) (y : MethodName) (bytes : ByteArray) (maxL : Nat) (ret : Option FieldType) (hh : List (Nat × Nat × Nat × Nat)) (ws : List Cond) (rm : Room) (mc ms n : Nat) : Prop :=
  (rm.cells = mc ∧ rm.slots = ms ∧ rm.frames + 1 ≤ R.frames ∧ 8 + (maxL + 11) + rm.locals ≤ R.locals ∧ (∀ w ∈ ws, ∀ (a' : Array Value) (U : State), s.WarmedH U.vm → w.before a' U = true) ∧ Cond.codeWith y bytes maxL ret hh ∈ ws) ∧
  (Cond.codeWith y bytes maxL ret hh).before args s = true ∧ (Cond.initialized y.cls).before args s = true ∧ (y.cls ≠ "java/lang/invoke/MethodHandle" ∧ y.cls ≠ "java/lang/invoke/VarHandle") ∧
  (∀ sig, parseMethodDescriptor y.desc = some sig → n = sig.parameters.length) ∧ (Cond.methodLink own index y).before args s = true ∧ (Cond.static y).before args s = true
theorem vx_cwSW {own : String} {index maxL mc ms : Nat} {y : MethodName} {bytes : ByteArray} {ret : Option FieldType} {hh : List (Nat × Nat × Nat × Nat)} {Ts ws ws' : List Cond} {rm : Room} (n : Nat) (ht : ∀ w ∈ Ts, w.before args s = true) (hT : GoodIn Ts (va_wsS own index y ws)) (hw : ws = Cond.codeWith y bytes maxL ret hh :: ws') (hrc : rm.cells = mc) (hrs : rm.slots = ms)
    (hd : y.cls ≠ "java/lang/invoke/MethodHandle" ∧ y.cls ≠ "java/lang/invoke/VarHandle" ∧ (parseMethodDescriptor y.desc).map (fun d => d.parameters.length) = some n) (hR : rm.frames + 1 ≤ R.frames ∧ 8 + (maxL + 11) + rm.locals ≤ R.locals) :
    vx_CSW R s args own index y bytes maxL ret hh ws rm mc ms n := by
  have ok : ∀ w ∈ va_wsS own index y ws, w.before args s = true := fun w h => ht w (hT w h).1
  have hG : GoodIn Ts ws := fun w h => hT w (by unfold va_wsS; exact List.mem_append_right _ h)
  have hc : Cond.codeWith y bytes maxL ret hh ∈ ws := by rw [hw]; exact List.mem_cons_self
  refine ⟨⟨hrc, hrs, hR.1, hR.2, pay_in ht hG, hc⟩, ht _ (hG _ hc).1, ok _ (by simp [va_wsS]), ⟨hd.1, hd.2.1⟩, fun sig h => ?_, ok _ (by simp [va_wsS]), ok _ (by simp [va_wsS])⟩
  have h2 := hd.2.2
  rw [h] at h2
  exact (Option.some.inj h2).symm
theorem vx_callSW (X : Stand p l e R s m args below meth c T locs cells slots) (hexec : p.tables.exec = Jvm.exec) {own : String} {index : Nat} {y : MethodName} {bytes : ByteArray} {maxL : Nat} {ret : Option FieldType} {hh : List (Nat × Nat × Nat × Nat)}
    (hown : s.vm.findClass own = some m.cls) (hlink : (Cond.methodLink own index y).before args s = true) (hstat : (Cond.static y).before args s = true) (hinit : (Cond.initialized y.cls).before args s = true)
    (hcode : (Cond.codeWith y bytes maxL ret hh).before args s = true) (hy : y.cls ≠ "java/lang/invoke/MethodHandle" ∧ y.cls ≠ "java/lang/invoke/VarHandle")
    {W9 : Nat} {Pre : Pt → Array Value → Prop} {Post : Pt → Array Value → Option Value → Pt → Prop} (hK : Back l R p e below s args y 3 W9 Pre Post)
    {g : JFrame} (hg : g.method = m) (hsize : g.locals.size = c.maxLocals) {argsL rest : List Value} (hlen : ∀ sig, parseMethodDescriptor y.desc = some sig → argsL.length = sig.parameters.length)
    (hstack : g.stack = argsL.reverse ++ rest) (hW : 2 * g.monitorRoom + (rest.map fun v => v.category).sum ≤ W9) (hdg : decode c.code g.pc = .ok (.invokestatic index, 3))
    (hpre : ∀ vm₁, s.WarmedH vm₁ → Pre ⟨T.setVm vm₁, locs, cells, slots⟩ argsL.toArray) :
    ∃ (v : Option Value) (vm₁ : Vm) (B : Pt), s.WarmedH vm₁ ∧ Stand p l e R s m args below meth c B.U B.locs B.cells B.slots ∧ Post ⟨T.setVm vm₁, locs, cells, slots⟩ argsL.toArray v B ∧
      ∀ target, Steps p.tables e below (B.U.setTop { g with pc := g.pc + 3, stack := v.toList ++ rest }) target → Steps p.tables e below (T.setTop g) target := by
  obtain ⟨mk, methM, cM, hnamed, hmethM, -, -, -, -, -, -, hsigM⟩ := Cond.codeWith_spec hcode
  have hstatic : methM.isStatic = true := Cond.static_spec hnamed hmethM hstat
  obtain ⟨kP, hkP, -⟩ := className_of_methodNamed hnamed
  have hinitP : kP.init = .initialized := Cond.initialized_spec (findClass_of_methodNamed hnamed) hkP hinit
  obtain ⟨vm₁, X₁, hstep₁⟩ := X.invokestatic hexec hown hlink hnamed hmethM hstatic hkP hinitP hy (g := g) hg (argsL := argsL) (rest := rest) (hlen _ hsigM) hstack hdg
  obtain ⟨v, B, X', hpost, hsteps⟩ := hK m meth c ⟨T.setVm vm₁, locs, cells, slots⟩ { g with stack := rest } (.invokestatic index) mk argsL.toArray X₁ hg hsize hdg hW (X₁.named hnamed) (hpre vm₁ X₁.warmed)
  exact ⟨v, vm₁, B, X₁.warmed, X', hpost, fun target h => hstep₁ _ fun acts => by rw [doInvoke_state]; exact hsteps.trans h⟩
theorem vx_runSW {y : MethodName} {bytes cc : ByteArray} {maxL nL mc ms n index : Nat} {ret : Option FieldType} {hh : List (Nat × Nat × Nat × Nat)} {ws : List Cond} {rm : Room} {Pc : Array Value → State → Prop} {Qc : Array Value → State → Outcome → State → Prop} {free : Addr → Prop} {Ts : List Cond} {own : String} {As rest : List Value} {g : JFrame}
    (S : CallFix p m c cc nL s args Ts own) (hM : Met l y ws rm Pc Qc mc ms free) (cw : vx_CSW R s args own index y bytes maxL ret hh ws rm mc ms n) (hp : PreS s H Pc As)
    (hg : g.method = m) (hn : As.length = n) (hsize : g.locals.size = nL) (hstack : g.stack = As.reverse ++ rest) (hW : 2 * g.monitorRoom + (rest.map fun v => v.category).sum ≤ 8) (hdg : decode cc g.pc = .ok (.invokestatic index, 3)) (hf : cells + mc ≤ R.cells ∧ slots + ms ≤ R.slots) :
    va_Run p l e R s m args below meth c H locs cells slots mc ms g rest (Qc As.toArray) (free) := by
  obtain ⟨⟨hrc, hrs, hfr, hlo, hws, hcw⟩, hcode, hini, hy, hlen, hl, hstt⟩ := cw
  have hK : Back l R p e below s args y 3 8 (PreOf R mc ms Pc) (PostOf Qc mc ms free) := va_backW (hh := hh) (bytes := bytes) (maxL := maxL) (ret := ret) hM hp.1 hrc hrs hfr hlo hws hcw (fun a' U hW => word_at hW (Or.inl (by first | rfl | simp [Cond.onTables, Cond.keeps, Cond.steady])) hini)
  obtain ⟨hx, hb, hml, ho, -⟩ := S
  intro T hT X
  obtain ⟨v, vm₁, ⟨U', l2, c2, s2⟩, hW₁, X', ⟨g', mk, t, L, e1, e2, hq, h1, hL, h2, h3⟩, st⟩ := vx_callSW X hx (hh := hh) (bytes := bytes) (maxL := maxL) (ret := ret) ho hl hstt hini hcode hy hK hg (hsize.trans hml.symm) (argsL := As) (rest := rest) (fun sig h => hn.trans (hlen sig h)) hstack hW (by rw [hb]; exact hdg)
    (fun vm₁ hW₁ => ⟨hf.1, hf.2, hp.2 (T.setVm vm₁) hT hW₁⟩)
  dsimp only [Pt.U, Pt.locs, Pt.cells, Pt.slots] at X' e1 e2 h1 h2 h3 st
  subst h1; subst h2; subst h3
  exact ⟨v, (T.setVm vm₁).calling g' mk As.toArray, t, U', L, hT, X', hL, e1, e2, hq, st⟩
/-- not caught here, past rows that name other classes: it goes on to the caller -/
theorem vx_outP {p : Program} {l : Launch} {e : Env} {R : Room} {s : State} {m : MethodId} {args : Array Value} {below : List Frame} {meth : Method} {c : Code} {H : Heap} {locs : List Loc} {cells slots : Nat} {free : Addr → Prop} {ls : Array Slot} {rest : List Value} {Qc : Array Value → State → Outcome → State → Prop} {XC : String → State → State → Prop}
    {pc : Nat} {own E : String} {ce : Cell} {q : Addr} {mc ms : Nat} (hown : s.vm.findClass own = some m.cls) (hlocks : meth.locks = false)
    (hpass : ∀ z ∈ c.exceptionTable.toList, covers z pc = false ∨ (z.catchType ≠ 0 ∧ ∃ nm : String, (Cond.classLink own z.catchType nm).before args s = true ∧ va_Nc E nm s)) (hcell : H[q]? = some ce) (hv : ce.vm = .none) (hcl : s.vm.findClass E = some ce.cls)
    (hx : ∀ t : State, t.heap = H → s.vm.Alike t.vm → XC E s t) (hf : ∀ z ∈ locs, free z.base) (hc : cells ≤ mc) (hs : slots ≤ ms) :
    vx_W p l e R s m args below meth c H locs cells slots (vx_MQ below Qc XC args s mc ms free) (F0 m pc ls rest) q := by
  intro T hT X
  have hpl : e.platform.magicAccessors = ({} : Platform).magicAccessors := by rw [X.admits.platform]
  obtain ⟨vm', hW', X', st⟩ := X.outThrough hlocks q (g := F0 m pc ls rest) rfl rfl rfl (cell := ce) (by rw [hT]; exact hcell) (by rw [hv]; rfl)
    (by obtain ⟨k9, h9, -⟩ := Vm.findClass_spec hcl; exact ⟨k9, h9⟩) (fun z hz => by
      rcases hpass z hz with h | ⟨hz0, nm, hl1, hn1⟩
      · exact Or.inl h
      · obtain ⟨c6, hc6, hcl6⟩ := Cond.classLink_spec hown hl1 e.platform hpl
        obtain ⟨a8, b8, h1, h2, h3⟩ := hn1
        cases Option.some.inj (h1.symm.trans hcl)
        cases Option.some.inj (h2.symm.trans hc6)
        exact Or.inr ⟨hz0, _, hcl6, h3⟩)
  obtain ⟨g₀, hfr⟩ := X'.frames_eq
  have hcell9 : ((T.setVm vm').setFrames (.throwing q :: below)).heap[q]? = some ce := by
    show T.heap[q]? = some ce
    rw [hT]; exact hcell
  have hend : Ended ((T.setVm vm').setFrames (.throwing q :: below)) below (.threw q) := State.frames_setFrames _ (State.cur_lt_of_frames hfr)
  refine ⟨(T.setVm vm').setFrames (.throwing q :: below), ?_, .threw q, X'.here.running, hend, Or.inr ⟨q, rfl, E, ce, locs, hx _ hT (X'.ends _).1.alike, hcell9, hv, hcl, (X'.ends _).1, (X'.ends _).2.mono hc hs, hf⟩⟩
  rw [X.pushThrowing_eq]
  exact st
/-- a thing of a world lies in the heap -/
theorem vx_lt {D : va_G} {cl : List vw_C} {ws : va_W} {H1 : Heap} (h : va_P D cl ws H1) {k : Nat} {q : Nat × va_E} (hk : ws[k]? = some q) : q.1 < H1.size := (h k q hk).lt
end VXS
/-! ===== END ===== -/
/-! ===== BEGIN methods with a table of their own: called by a name, returning or throwing ===== -/
section VXH
/-! vx_backW, vx_callVX, vx_callSX, vx_callVW, vx_runVW, vx_runVX, vx_runSX, vx_ofWH follow the same proofs as their sisters above (Free/Laws.lean, Shelf42/LK1.lean); vx_outP calls Shelf42/NT130.lean (outThrough). -/
section
variable {l : Launch} {R : Room} {p : Program} {e : Env} {below : List Frame} {s : State} {sargs : Array Value} {y : MethodName} {len W9 : Nat}
theorem vx_backW {ws : List Cond} {rm : Room} {Pc : Array Value → State → Prop} {Qc : Array Value → State → Outcome → State → Prop} {XC : String → State → State → Prop} {mc ms : Nat} {free : Addr → Prop} {bytes : ByteArray} {maxL : Nat} {ret : Option FieldType} {hh : List (Nat × Nat × Nat × Nat)}
    (hM : vx_Met l y ws rm Pc Qc XC mc ms free) (hblind : FrameBlind Pc) (hrc : rm.cells = mc) (hrs : rm.slots = ms)
    (hframes : rm.frames + 1 ≤ R.frames) (hlocals : W9 + (maxL + 11) + rm.locals ≤ R.locals)
    (hws : ∀ w ∈ ws, ∀ a' U, s.WarmedH U.vm → w.before a' U = true) (hcode : Cond.codeWith y bytes maxL ret hh ∈ ws) (hinit : ∀ a' U, s.WarmedH U.vm → (Cond.initialized y.cls).before a' U = true) :
    vx_Back l R p e below s sargs y len W9 (PreOf R mc ms Pc) (PostOf Qc mc ms free) (vx_Post XC mc ms free) := by
  intro m meth c A g ig mk a X hg hsize hdg hW hn hp
  have h1 : (headSpec ws rm).pre.before a A.U = true := atoms_intro fun w hw => hws w hw _ _ X.warmed
  have h2 : (Cond.codeWith y bytes maxL ret hh).before a A.U = true := hws _ hcode _ _ X.warmed
  have h3 : (Cond.initialized y.cls).before a A.U = true := hinit _ _ X.warmed
  have h4 : A.cells + (headSpec ws rm).room.cells ≤ R.cells := by rw [show (headSpec ws rm).room.cells = mc from hrc]; exact hp.1
  have h5 : A.slots + (headSpec ws rm).room.slots ≤ R.slots := by rw [show (headSpec ws rm).room.slots = ms from hrs]; exact hp.2.1
  have hPc : Pc a (A.U.calling g mk a) := hblind _ _ _ _ hp.2.2
  obtain ⟨U, Ls, c0, s0⟩ := A
  dsimp only [Pt.U, Pt.locs, Pt.cells, Pt.slots] at h1 h2 h3 h4 h5 X hn hPc ⊢
  obtain ⟨m9, methY, cY, hn9, hmY, hcY, -, hlY, -⟩ := Cond.codeWith_spec h2
  cases Option.some.inj (hn9.symm.trans hn)
  obtain ⟨kY, hkY, -⟩ := className_of_methodNamed hn
  have hinitY : kY.init = .initialized := Cond.initialized_spec (findClass_of_methodNamed hn) hkY h3
  have h : At U g.method c below := by rw [hg]; exact X.here
  have hlocals9 : W9 + (maxL + 11) + (headSpec ws rm).room.locals ≤ R.locals := hlocals
  have happ : (headSpec ws rm).appliesLoose y e.platform (U.calling g mk a) = true :=
    Spec.appliesLoose_calling (g := g) h hdg hn hkY hinitY
      (X.room_calling (g := g) (R' := (headSpec ws rm).room) hsize hmY hcY hframes (by rw [hlY]; omega) h4 h5) h1
  obtain ⟨mid, hmid⟩ := h.above
  have hfr : (U.setTop g).frames = (.java g :: mid) ++ below := by rw [State.frames_setTop' g h.top, hmid]; rfl
  obtain ⟨o, s₂, hsteps, -, hend, hq⟩ := Steps.callFree hM p X.admits X.cas X.clock (acts := []) hfr happ hPc trivial
  have hq' : vx_Q Qc XC mc ms free a (U.calling g mk a) o s₂ := hq
  rw [State.frames_setTop' g h.top] at hend
  obtain ⟨g₀, hg0⟩ := Option.isSome_iff_exists.mp h.top
  obtain ⟨r, hr⟩ := State.topJava?_eq_some.mp hg0
  have hr' : (({ U with heap := s₂.heap, slotsUsed := s₂.slotsUsed } : State).setVm s₂.vm).frames = .java g₀ :: r := hr
  rcases hq' with ⟨hqc, L, hfe, hL⟩ | ⟨q, rfl, E, ce, L, hx, hce, hcv, hcl, hW₂, hsm, hL⟩
  · obtain ⟨⟨v, rfl⟩, hW₂, e2, q2, q3, q4, q5, q6⟩ := id hfe
    have e3 : s₂ = ({ (U.calling g mk a).setFrames s₂.frames with heap := s₂.heap, slotsUsed := s₂.slotsUsed } : State).setVm s₂.vm := by
      have : s₂ = ({ s₂ with vm := (U.calling g mk a).vm } : State).setVm s₂.vm := rfl
      rw [e2] at this
      exact this
    obtain ⟨c₂, i₂, len₂, hc₂, hd₂, hf₂⟩ := hend
    have hW' : U.WarmedH s₂.vm := hW₂
    have hcc : c₂ = c := by
      have h1 : s₂.code? g.method = U.code? g.method := by
        rw [State.code?_eq, State.code?_eq, hW'.alike.method?]
      exact Option.some.inj (hc₂.symm.trans (h1.trans h.code))
    subst hcc
    have hlen : len₂ = len := by rw [hdg] at hd₂; cases hd₂; rfl
    subst hlen
    have hs₂ : s₂ = (({ U with heap := s₂.heap, slotsUsed := s₂.slotsUsed } : State).setVm s₂.vm).setTop { g with pc := g.pc + len₂, stack := v.toList ++ g.stack } := by
      refine e3.trans ?_
      rw [hf₂, State.calling_eq h.top, State.setFrames_setFrames, State.setTop_of_frames _ hr', hr]
      rfl
    have hsame : U.sameButNew ({ U with heap := s₂.heap, slotsUsed := s₂.slotsUsed } : State) L mc ms := by
      refine ⟨?_, q2, q3, q4, q5, q6⟩
      obtain ⟨t, ht, -⟩ := State.frames_cons hr
      show ({ U with heap := s₂.heap, slotsUsed := s₂.slotsUsed } : State) = { U.setFrames U.frames with heap := s₂.heap, slotsUsed := s₂.slotsUsed }
      rw [State.setFrames_self ht]
    subst hg
    refine Or.inl ⟨v, ⟨(({ U with heap := s₂.heap, slotsUsed := s₂.slotsUsed } : State).setVm s₂.vm), Ls ++ L, c0 + mc, s0 + ms⟩,
      ⟨X.admits, X.cas, X.clock, X.frames, X.room, X.hears, X.method, X.code, (X.here.setHeapUsed s₂.heap s₂.slotsUsed).setVm hW'.alike, X.tail, State.WarmedH.trans X.warmed hW', X.limits, X.bytes, X.same.trans (hsame.setVm s.vm)⟩,
      ⟨g, mk, s₂, L, rfl, rfl, hqc, rfl, hL, rfl, rfl⟩, ?_⟩
    show Steps p.tables e below _ ((({ U with heap := s₂.heap, slotsUsed := s₂.slotsUsed } : State).setVm s₂.vm).setTop { g with pc := g.pc + len₂, stack := v.toList ++ g.stack })
    rw [← hs₂]
    exact hsteps
  · obtain ⟨e2, q2, q3, q4, q5, q6⟩ := id hsm
    have e3 : s₂ = ({ (U.calling g mk a).setFrames s₂.frames with heap := s₂.heap, slotsUsed := s₂.slotsUsed } : State).setVm s₂.vm := by
      have : s₂ = ({ s₂ with vm := (U.calling g mk a).vm } : State).setVm s₂.vm := rfl
      rw [e2] at this
      exact this
    have hf₂ : s₂.frames = .throwing q :: .java g :: U.frames.tail := hend
    have hW' : U.WarmedH s₂.vm := hW₂
    have hs₂ : s₂ = ((({ U with heap := s₂.heap, slotsUsed := s₂.slotsUsed } : State).setVm s₂.vm).setTop g).pushFrame (.throwing q) := by
      refine e3.trans ?_
      rw [hf₂, State.calling_eq h.top, State.setFrames_setFrames, State.pushFrame, State.frames_setTop _ hr', State.setTop_of_frames _ hr', State.setFrames_setFrames, hr]
      rfl
    have hsame : U.sameButNew ({ U with heap := s₂.heap, slotsUsed := s₂.slotsUsed } : State) L mc ms := by
      refine ⟨?_, q2, q3, q4, q5, q6⟩
      obtain ⟨t, ht, -⟩ := State.frames_cons hr
      show ({ U with heap := s₂.heap, slotsUsed := s₂.slotsUsed } : State) = { U.setFrames U.frames with heap := s₂.heap, slotsUsed := s₂.slotsUsed }
      rw [State.setFrames_self ht]
    subst hg
    refine Or.inr ⟨q, ⟨(({ U with heap := s₂.heap, slotsUsed := s₂.slotsUsed } : State).setVm s₂.vm), Ls ++ L, c0 + mc, s0 + ms⟩,
      ⟨X.admits, X.cas, X.clock, X.frames, X.room, X.hears, X.method, X.code, (X.here.setHeapUsed s₂.heap s₂.slotsUsed).setVm hW'.alike, X.tail, State.WarmedH.trans X.warmed hW', X.limits, X.bytes, X.same.trans (hsame.setVm s.vm)⟩,
      ⟨g, mk, s₂, L, E, ce, rfl, rfl, hx, hce, hcv, hcl, rfl, hL, rfl, rfl⟩, ?_⟩
    show Steps p.tables e below _ (((({ U with heap := s₂.heap, slotsUsed := s₂.slotsUsed } : State).setVm s₂.vm).setTop g).pushFrame (.throwing q))
    rw [← hs₂]
    exact hsteps
end
variable {p : Program} {l : Launch} {e : Env} {R : Room} {s : State} {m : MethodId} {args : Array Value} {below : List Frame} {meth : Method} {c : Code} {T : State} {H : Heap} {locs : List Loc} {cells slots : Nat}
theorem vx_callVX (X : Stand p l e R s m args below meth c T locs cells slots) (hexec : p.tables.exec = Jvm.exec) {own C : String} {index : Nat} {y : MethodName} {bytes : ByteArray} {maxL : Nat} {ret : Option FieldType} {hh : List (Nat × Nat × Nat × Nat)}
    (hown : s.vm.findClass own = some m.cls) (hlink : (Cond.methodLink own index y).before args s = true) (hinst : (Cond.instanceMethod y).before args s = true) (hsel : (Cond.selects C y y).before args s = true)
    (hcode : (Cond.codeWith y bytes maxL ret hh).before args s = true) (hy : y.cls ≠ "java/lang/invoke/MethodHandle" ∧ y.cls ≠ "java/lang/invoke/VarHandle")
    {W9 : Nat} {Pre : Pt → Array Value → Prop} {Post : Pt → Array Value → Option Value → Pt → Prop} {PostX : Pt → Array Value → Addr → Pt → Prop} (hK : vx_Back l R p e below s args y 3 W9 Pre Post PostX)
    {b : Addr} {cellB : Cell} (hcell : T.heap[b]? = some cellB) (hobj : cellB.vm.isStatics = false) (hcls : s.vm.findClass C = some cellB.cls)
    {g : JFrame} (hg : g.method = m) (hsize : g.locals.size = c.maxLocals) {argsL rest : List Value} (hlen : ∀ sig, parseMethodDescriptor y.desc = some sig → argsL.length = sig.parameters.length)
    (hstack : g.stack = argsL.reverse ++ .ref b :: rest) (hW : 2 * g.monitorRoom + (rest.map fun v => v.category).sum ≤ W9) (hdg : decode c.code g.pc = .ok (.invokevirtual index, 3))
    (hpre : ∀ vm₁, s.WarmedH vm₁ → Pre ⟨T.setVm vm₁, locs, cells, slots⟩ (Value.ref b :: argsL).toArray) :
    (∃ (v : Option Value) (vm₁ : Vm) (B : Pt), s.WarmedH vm₁ ∧ Stand p l e R s m args below meth c B.U B.locs B.cells B.slots ∧ Post ⟨T.setVm vm₁, locs, cells, slots⟩ (Value.ref b :: argsL).toArray v B ∧
      ∀ target, Steps p.tables e below (B.U.setTop { g with pc := g.pc + 3, stack := v.toList ++ rest }) target → Steps p.tables e below (T.setTop g) target) ∨
    (∃ (q : Addr) (vm₁ : Vm) (B : Pt), s.WarmedH vm₁ ∧ Stand p l e R s m args below meth c B.U B.locs B.cells B.slots ∧ PostX ⟨T.setVm vm₁, locs, cells, slots⟩ (Value.ref b :: argsL).toArray q B ∧
      Steps p.tables e below (T.setTop g) ((B.U.setTop { g with stack := rest }).pushFrame (.throwing q))) := by
  obtain ⟨mk, methM, hnamed, hmethM, hstM, habM⟩ := Cond.instanceMethod_spec hinst
  obtain ⟨m8, methM', cM, hn8, hmethM', -, -, -, -, -, -, hsigM⟩ := Cond.codeWith_spec hcode
  cases Option.some.inj (hn8.symm.trans hnamed)
  cases hmethM.symm.trans hmethM'
  obtain ⟨c2, r2, m2, q1, q2, q3, q4, kP, hkP, hkPi⟩ := Cond.selects_spec hsel
  cases hcls.symm.trans q1
  cases (State.methodFound?_of_named hnamed hy).symm.trans q2
  cases hnamed.symm.trans q3
  have hselP : selectMethod e.platform s.vm cellB.cls mk = .method mk := by rw [Launch.admits_selectMethod X.admits]; exact q4
  obtain ⟨vm₁, X₁, hstep₁⟩ := X.invokevirtual hexec hown hlink hnamed hmethM hstM hkP hkPi hy (a := b) (cell := cellB) hcell
    (fun z h => by rw [h] at hobj; cases hobj) hselP hmethM habM hkP hkPi (g := g) hg (argsL := argsL) (rest := rest) (hlen _ hsigM) hstack hdg
  rcases hK m meth c ⟨T.setVm vm₁, locs, cells, slots⟩ { g with stack := rest } (.invokevirtual index) mk (Value.ref b :: argsL).toArray X₁ hg hsize hdg hW (X₁.named hnamed) (hpre vm₁ X₁.warmed) with ⟨v, B, X', hpost, hsteps⟩ | ⟨q, B, X', hpost, hsteps⟩
  · exact Or.inl ⟨v, vm₁, B, X₁.warmed, X', hpost, fun target h => hstep₁ _ fun acts => by rw [doInvoke_state]; exact hsteps.trans h⟩
  · exact Or.inr ⟨q, vm₁, B, X₁.warmed, X', hpost, hstep₁ _ fun acts => by rw [doInvoke_state]; exact hsteps⟩
theorem vx_callSX (X : Stand p l e R s m args below meth c T locs cells slots) (hexec : p.tables.exec = Jvm.exec) {own : String} {index : Nat} {y : MethodName} {bytes : ByteArray} {maxL : Nat} {ret : Option FieldType} {hh : List (Nat × Nat × Nat × Nat)}
    (hown : s.vm.findClass own = some m.cls) (hlink : (Cond.methodLink own index y).before args s = true) (hstat : (Cond.static y).before args s = true) (hinit : (Cond.initialized y.cls).before args s = true)
    (hcode : (Cond.codeWith y bytes maxL ret hh).before args s = true) (hy : y.cls ≠ "java/lang/invoke/MethodHandle" ∧ y.cls ≠ "java/lang/invoke/VarHandle")
    {W9 : Nat} {Pre : Pt → Array Value → Prop} {Post : Pt → Array Value → Option Value → Pt → Prop} {PostX : Pt → Array Value → Addr → Pt → Prop} (hK : vx_Back l R p e below s args y 3 W9 Pre Post PostX)
    {g : JFrame} (hg : g.method = m) (hsize : g.locals.size = c.maxLocals) {argsL rest : List Value} (hlen : ∀ sig, parseMethodDescriptor y.desc = some sig → argsL.length = sig.parameters.length)
    (hstack : g.stack = argsL.reverse ++ rest) (hW : 2 * g.monitorRoom + (rest.map fun v => v.category).sum ≤ W9) (hdg : decode c.code g.pc = .ok (.invokestatic index, 3))
    (hpre : ∀ vm₁, s.WarmedH vm₁ → Pre ⟨T.setVm vm₁, locs, cells, slots⟩ argsL.toArray) :
    (∃ (v : Option Value) (vm₁ : Vm) (B : Pt), s.WarmedH vm₁ ∧ Stand p l e R s m args below meth c B.U B.locs B.cells B.slots ∧ Post ⟨T.setVm vm₁, locs, cells, slots⟩ argsL.toArray v B ∧
      ∀ target, Steps p.tables e below (B.U.setTop { g with pc := g.pc + 3, stack := v.toList ++ rest }) target → Steps p.tables e below (T.setTop g) target) ∨
    (∃ (q : Addr) (vm₁ : Vm) (B : Pt), s.WarmedH vm₁ ∧ Stand p l e R s m args below meth c B.U B.locs B.cells B.slots ∧ PostX ⟨T.setVm vm₁, locs, cells, slots⟩ argsL.toArray q B ∧
      Steps p.tables e below (T.setTop g) ((B.U.setTop { g with stack := rest }).pushFrame (.throwing q))) := by
  obtain ⟨mk, methM, cM, hnamed, hmethM, -, -, -, -, -, -, hsigM⟩ := Cond.codeWith_spec hcode
  have hstatic : methM.isStatic = true := Cond.static_spec hnamed hmethM hstat
  obtain ⟨kP, hkP, -⟩ := className_of_methodNamed hnamed
  have hinitP : kP.init = .initialized := Cond.initialized_spec (findClass_of_methodNamed hnamed) hkP hinit
  obtain ⟨vm₁, X₁, hstep₁⟩ := X.invokestatic hexec hown hlink hnamed hmethM hstatic hkP hinitP hy (g := g) hg (argsL := argsL) (rest := rest) (hlen _ hsigM) hstack hdg
  rcases hK m meth c ⟨T.setVm vm₁, locs, cells, slots⟩ { g with stack := rest } (.invokestatic index) mk argsL.toArray X₁ hg hsize hdg hW (X₁.named hnamed) (hpre vm₁ X₁.warmed) with ⟨v, B, X', hpost, hsteps⟩ | ⟨q, B, X', hpost, hsteps⟩
  · exact Or.inl ⟨v, vm₁, B, X₁.warmed, X', hpost, fun target h => hstep₁ _ fun acts => by rw [doInvoke_state]; exact hsteps.trans h⟩
  · exact Or.inr ⟨q, vm₁, B, X₁.warmed, X', hpost, hstep₁ _ fun acts => by rw [doInvoke_state]; exact hsteps⟩
theorem vx_callVW (X : Stand p l e R s m args below meth c T locs cells slots) (hexec : p.tables.exec = Jvm.exec) {own C : String} {index : Nat} {y : MethodName} {bytes : ByteArray} {maxL : Nat} {ret : Option FieldType} {hh : List (Nat × Nat × Nat × Nat)}
    (hown : s.vm.findClass own = some m.cls) (hlink : (Cond.methodLink own index y).before args s = true) (hinst : (Cond.instanceMethod y).before args s = true) (hsel : (Cond.selects C y y).before args s = true)
    (hcode : (Cond.codeWith y bytes maxL ret hh).before args s = true) (hy : y.cls ≠ "java/lang/invoke/MethodHandle" ∧ y.cls ≠ "java/lang/invoke/VarHandle")
    {W9 : Nat} {Pre : Pt → Array Value → Prop} {Post : Pt → Array Value → Option Value → Pt → Prop} (hK : Back l R p e below s args y 3 W9 Pre Post)
    {b : Addr} {cellB : Cell} (hcell : T.heap[b]? = some cellB) (hobj : cellB.vm.isStatics = false) (hcls : s.vm.findClass C = some cellB.cls)
    {g : JFrame} (hg : g.method = m) (hsize : g.locals.size = c.maxLocals) {argsL rest : List Value} (hlen : ∀ sig, parseMethodDescriptor y.desc = some sig → argsL.length = sig.parameters.length)
    (hstack : g.stack = argsL.reverse ++ .ref b :: rest) (hW : 2 * g.monitorRoom + (rest.map fun v => v.category).sum ≤ W9) (hdg : decode c.code g.pc = .ok (.invokevirtual index, 3))
    (hpre : ∀ vm₁, s.WarmedH vm₁ → Pre ⟨T.setVm vm₁, locs, cells, slots⟩ (Value.ref b :: argsL).toArray) :
    ∃ (v : Option Value) (vm₁ : Vm) (B : Pt), s.WarmedH vm₁ ∧ Stand p l e R s m args below meth c B.U B.locs B.cells B.slots ∧ Post ⟨T.setVm vm₁, locs, cells, slots⟩ (Value.ref b :: argsL).toArray v B ∧
      ∀ target, Steps p.tables e below (B.U.setTop { g with pc := g.pc + 3, stack := v.toList ++ rest }) target → Steps p.tables e below (T.setTop g) target := by
  obtain ⟨mk, methM, hnamed, hmethM, hstM, habM⟩ := Cond.instanceMethod_spec hinst
  obtain ⟨m8, methM', cM, hn8, hmethM', -, -, -, -, -, -, hsigM⟩ := Cond.codeWith_spec hcode
  cases Option.some.inj (hn8.symm.trans hnamed)
  cases hmethM.symm.trans hmethM'
  obtain ⟨c2, r2, m2, q1, q2, q3, q4, kP, hkP, hkPi⟩ := Cond.selects_spec hsel
  cases hcls.symm.trans q1
  cases (State.methodFound?_of_named hnamed hy).symm.trans q2
  cases hnamed.symm.trans q3
  have hselP : selectMethod e.platform s.vm cellB.cls mk = .method mk := by rw [Launch.admits_selectMethod X.admits]; exact q4
  obtain ⟨vm₁, X₁, hstep₁⟩ := X.invokevirtual hexec hown hlink hnamed hmethM hstM hkP hkPi hy (a := b) (cell := cellB) hcell
    (fun z h => by rw [h] at hobj; cases hobj) hselP hmethM habM hkP hkPi (g := g) hg (argsL := argsL) (rest := rest) (hlen _ hsigM) hstack hdg
  obtain ⟨v, B, X', hpost, hsteps⟩ := hK m meth c ⟨T.setVm vm₁, locs, cells, slots⟩ { g with stack := rest } (.invokevirtual index) mk (Value.ref b :: argsL).toArray X₁ hg hsize hdg hW (X₁.named hnamed) (hpre vm₁ X₁.warmed)
  exact ⟨v, vm₁, B, X₁.warmed, X', hpost, fun target h => hstep₁ _ fun acts => by rw [doInvoke_state]; exact hsteps.trans h⟩
abbrev vx_CVW (R : Room) (s : State) (args : Array Value) (own C : String) (index : Nat) (y : MethodName) (bytes : ByteArray) (maxL : Nat) (ret : Option FieldType) (hh : List (Nat × Nat × Nat × Nat)) (ws : List Cond) (rm : Room) (mc ms n : Nat) : Prop :=
  (rm.cells = mc ∧ rm.slots = ms ∧ rm.frames + 1 ≤ R.frames ∧ 8 + (maxL + 11) + rm.locals ≤ R.locals ∧ (∀ w ∈ ws, ∀ (a' : Array Value) (U : State), s.WarmedH U.vm → w.before a' U = true) ∧ Cond.codeWith y bytes maxL ret hh ∈ ws) ∧
  (Cond.codeWith y bytes maxL ret hh).before args s = true ∧ (Cond.initialized y.cls).before args s = true ∧ (y.cls ≠ "java/lang/invoke/MethodHandle" ∧ y.cls ≠ "java/lang/invoke/VarHandle") ∧
  (∀ sig, parseMethodDescriptor y.desc = some sig → n = sig.parameters.length) ∧ (Cond.methodLink own index y).before args s = true ∧ (Cond.instanceMethod y).before args s = true ∧ (Cond.selects C y y).before args s = true
theorem vx_cwVW {own C : String} {index maxL mc ms : Nat} {y : MethodName} {bytes : ByteArray} {ret : Option FieldType} {hh : List (Nat × Nat × Nat × Nat)} {Ts ws ws' : List Cond} {rm : Room} (n : Nat) (ht : ∀ w ∈ Ts, w.before args s = true) (hT : GoodIn Ts (wsV own index C y ws)) (hw : ws = Cond.codeWith y bytes maxL ret hh :: ws') (hrc : rm.cells = mc) (hrs : rm.slots = ms)
    (hd : y.cls = C ∧ y.cls ≠ "java/lang/invoke/MethodHandle" ∧ y.cls ≠ "java/lang/invoke/VarHandle" ∧ (parseMethodDescriptor y.desc).map (fun d => d.parameters.length) = some n) (hR : rm.frames + 1 ≤ R.frames ∧ 8 + (maxL + 11) + rm.locals ≤ R.locals) :
    vx_CVW R s args own C index y bytes maxL ret hh ws rm mc ms n := by
  obtain ⟨hC, hd⟩ := hd
  subst hC
  have ok : ∀ w ∈ wsV own index y.cls y ws, w.before args s = true := fun w h => ht w (hT w h).1
  have hG : GoodIn Ts ws := fun w h => hT w (by unfold wsV; exact List.mem_append_right _ h)
  have hc : Cond.codeWith y bytes maxL ret hh ∈ ws := by rw [hw]; exact List.mem_cons_self
  refine ⟨⟨hrc, hrs, hR.1, hR.2, pay_in ht hG, hc⟩, ht _ (hG _ hc).1, ok _ (by simp [wsV]), ⟨hd.1, hd.2.1⟩, fun sig h => ?_, ok _ (by simp [wsV]), ok _ (by simp [wsV]), ok _ (by simp [wsV])⟩
  have h2 := hd.2.2
  rw [h] at h2
  exact (Option.some.inj h2).symm
theorem vx_runVW {y : MethodName} {bytes cc : ByteArray} {maxL nL mc ms n index : Nat} {ret : Option FieldType} {hh : List (Nat × Nat × Nat × Nat)} {ws : List Cond} {rm : Room} {Pc : Array Value → State → Prop} {Qc : Array Value → State → Outcome → State → Prop} {free : Addr → Prop} {Ts : List Cond} {own C : String} {b : Addr} {As rest : List Value} {g : JFrame}
    (S : CallFix p m c cc nL s args Ts own) (hM : Met l y ws rm Pc Qc mc ms free) (cw : vx_CVW R s args own C index y bytes maxL ret hh ws rm mc ms n) (hp : PreV s H C b Pc As)
    (hg : g.method = m) (hn : As.length = n) (hsize : g.locals.size = nL) (hstack : g.stack = As.reverse ++ .ref b :: rest) (hW : 2 * g.monitorRoom + (rest.map fun v => v.category).sum ≤ 8) (hdg : decode cc g.pc = .ok (.invokevirtual index, 3)) (hf : cells + mc ≤ R.cells ∧ slots + ms ≤ R.slots) :
    va_Run p l e R s m args below meth c H locs cells slots mc ms g rest (Qc (Value.ref b :: As).toArray) free := by
  obtain ⟨⟨hrc, hrs, hfr, hlo, hws, hcw⟩, hcode, hini, hy, hlen, hl, hin, hse⟩ := cw
  have hK : Back l R p e below s args y 3 8 (PreOf R mc ms Pc) (PostOf Qc mc ms free) := va_backW (hh := hh) (bytes := bytes) (maxL := maxL) (ret := ret) hM hp.1 hrc hrs hfr hlo hws hcw (fun a' U hW => word_at hW (Or.inl (by first | rfl | simp [Cond.onTables, Cond.keeps, Cond.steady])) hini)
  obtain ⟨hx, hb, hml, ho, -⟩ := S
  obtain ⟨-, ⟨cellB, hcB, hoB, hclB⟩, hPc⟩ := hp
  intro T hT X
  obtain ⟨v, vm₁, ⟨U', l2, c2, s2⟩, hW₁, X', ⟨g', mk, t, L, e1, e2, hq, h1, hL, h2, h3⟩, st⟩ := vx_callVW X hx (C := C) (hh := hh) (bytes := bytes) (maxL := maxL) (ret := ret) ho hl hin hse hcode hy hK (by rw [hT]; exact hcB) hoB hclB hg (hsize.trans hml.symm) (argsL := As) (rest := rest) (fun sig h => hn.trans (hlen sig h)) hstack hW (by rw [hb]; exact hdg)
    (fun vm₁ hW₁ => ⟨hf.1, hf.2, hPc (T.setVm vm₁) hT hW₁⟩)
  dsimp only [Pt.U, Pt.locs, Pt.cells, Pt.slots] at X' e1 e2 h1 h2 h3 st
  subst h1; subst h2; subst h3
  exact ⟨v, (T.setVm vm₁).calling g' mk (Value.ref b :: As).toArray, t, U', L, hT, X', hL, e1, e2, hq, st⟩
section
variable {y : MethodName} {bytes cc : ByteArray} {maxL nL mc ms n index : Nat} {ret : Option FieldType} {ws : List Cond} {rm : Room} {Pc : Array Value → State → Prop} {Qc : Array Value → State → Outcome → State → Prop} {XC : String → State → State → Prop} {free : Addr → Prop} {Ts : List Cond} {own C : String} {b : Addr} {As rest : List Value} {g : JFrame}
theorem vx_runVX {hh : List (Nat × Nat × Nat × Nat)} (S : CallFix p m c cc nL s args Ts own) (hM : vx_Met l y ws rm Pc Qc XC mc ms free) (cw : vx_CVW R s args own C index y bytes maxL ret hh ws rm mc ms n) (hp : PreV s H C b Pc As)
    (hg : g.method = m) (hn : As.length = n) (hsize : g.locals.size = nL) (hstack : g.stack = As.reverse ++ .ref b :: rest) (hW : 2 * g.monitorRoom + (rest.map fun v => v.category).sum ≤ 8) (hdg : decode cc g.pc = .ok (.invokevirtual index, 3)) (hf : cells + mc ≤ R.cells ∧ slots + ms ≤ R.slots) :
    vx_Run p l e R s m args below meth c H locs cells slots mc ms g rest (Qc (Value.ref b :: As).toArray) XC free := by
  obtain ⟨⟨hrc, hrs, hfr, hlo, hws, hcw⟩, hcode, hini, hy, hlen, hl, hin, hse⟩ := cw
  have hK : vx_Back l R p e below s args y 3 8 (PreOf R mc ms Pc) (PostOf Qc mc ms free) (vx_Post XC mc ms free) := vx_backW (hh := hh) (bytes := bytes) (maxL := maxL) (ret := ret) hM hp.1 hrc hrs hfr hlo hws hcw (fun a' U hW => word_at hW (Or.inl (by first | rfl | simp [Cond.onTables, Cond.keeps, Cond.steady])) hini)
  obtain ⟨hx, hb, hml, ho, -⟩ := S
  obtain ⟨-, ⟨cellB, hcB, hoB, hclB⟩, hPc⟩ := hp
  intro T hT X
  rcases vx_callVX X hx (C := C) (hh := hh) (bytes := bytes) (maxL := maxL) (ret := ret) ho hl hin hse hcode hy hK (by rw [hT]; exact hcB) hoB hclB hg (hsize.trans hml.symm) (argsL := As) (rest := rest) (fun sig h => hn.trans (hlen sig h)) hstack hW (by rw [hb]; exact hdg)
    (fun vm₁ hW₁ => ⟨hf.1, hf.2, hPc (T.setVm vm₁) hT hW₁⟩) with ⟨v, vm₁, ⟨U', l2, c2, s2⟩, hW₁, X', ⟨g', mk, t, L, e1, e2, hq, h1, hL, h2, h3⟩, st⟩ | ⟨q, vm₁, ⟨U', l2, c2, s2⟩, hW₁, X', ⟨g', mk, t, L, E, ce, e1, e2, hq, hce, hcv, hcl, h1, hL, h2, h3⟩, st⟩
  · dsimp only [Pt.U, Pt.locs, Pt.cells, Pt.slots] at X' e1 e2 h1 h2 h3 st
    subst h1; subst h2; subst h3
    exact Or.inl ⟨v, (T.setVm vm₁).calling g' mk (Value.ref b :: As).toArray, t, U', L, hT, X', hL, e1, e2, hq, st⟩
  · dsimp only [Pt.U, Pt.locs, Pt.cells, Pt.slots] at X' e1 e2 h1 h2 h3 st hcl
    subst h1; subst h2; subst h3
    exact Or.inr ⟨q, (T.setVm vm₁).calling g' mk (Value.ref b :: As).toArray, t, U', L, E, ce, hT, X', hL, e1, e2, hq, hce, hcv, vx_cls hW₁ hcl, st⟩
theorem vx_runSX {hh : List (Nat × Nat × Nat × Nat)} (S : CallFix p m c cc nL s args Ts own) (hM : vx_Met l y ws rm Pc Qc XC mc ms free) (cw : vx_CSW R s args own index y bytes maxL ret hh ws rm mc ms n) (hp : PreS s H Pc As)
    (hg : g.method = m) (hn : As.length = n) (hsize : g.locals.size = nL) (hstack : g.stack = As.reverse ++ rest) (hW : 2 * g.monitorRoom + (rest.map fun v => v.category).sum ≤ 8) (hdg : decode cc g.pc = .ok (.invokestatic index, 3)) (hf : cells + mc ≤ R.cells ∧ slots + ms ≤ R.slots) :
    vx_Run p l e R s m args below meth c H locs cells slots mc ms g rest (Qc As.toArray) XC free := by
  obtain ⟨⟨hrc, hrs, hfr, hlo, hws, hcw⟩, hcode, hini, hy, hlen, hl, hstt⟩ := cw
  have hK : vx_Back l R p e below s args y 3 8 (PreOf R mc ms Pc) (PostOf Qc mc ms free) (vx_Post XC mc ms free) := vx_backW (hh := hh) (bytes := bytes) (maxL := maxL) (ret := ret) hM hp.1 hrc hrs hfr hlo hws hcw (fun a' U hW => word_at hW (Or.inl (by first | rfl | simp [Cond.onTables, Cond.keeps, Cond.steady])) hini)
  obtain ⟨hx, hb, hml, ho, -⟩ := S
  intro T hT X
  rcases vx_callSX X hx (hh := hh) (bytes := bytes) (maxL := maxL) (ret := ret) ho hl hstt hini hcode hy hK hg (hsize.trans hml.symm) (argsL := As) (rest := rest) (fun sig h => hn.trans (hlen sig h)) hstack hW (by rw [hb]; exact hdg)
    (fun vm₁ hW₁ => ⟨hf.1, hf.2, hp.2 (T.setVm vm₁) hT hW₁⟩) with ⟨v, vm₁, ⟨U', l2, c2, s2⟩, hW₁, X', ⟨g', mk, t, L, e1, e2, hq, h1, hL, h2, h3⟩, st⟩ | ⟨q, vm₁, ⟨U', l2, c2, s2⟩, hW₁, X', ⟨g', mk, t, L, E, ce, e1, e2, hq, hce, hcv, hcl, h1, hL, h2, h3⟩, st⟩
  · dsimp only [Pt.U, Pt.locs, Pt.cells, Pt.slots] at X' e1 e2 h1 h2 h3 st
    subst h1; subst h2; subst h3
    exact Or.inl ⟨v, (T.setVm vm₁).calling g' mk As.toArray, t, U', L, hT, X', hL, e1, e2, hq, st⟩
  · dsimp only [Pt.U, Pt.locs, Pt.cells, Pt.slots] at X' e1 e2 h1 h2 h3 st hcl
    subst h1; subst h2; subst h3
    exact Or.inr ⟨q, (T.setVm vm₁).calling g' mk As.toArray, t, U', L, E, ce, hT, X', hL, e1, e2, hq, hce, hcv, vx_cls hW₁ hcl, st⟩
end
end VXH
theorem vx_ofWH {l : Launch} {y : MethodName} {ws ws' : List Cond} {rm : Room} {Pc : Array Value → State → Prop} {Qc : Array Value → State → Outcome → State → Prop} {XC : String → State → State → Prop} {mc ms : Nat} {free : Addr → Prop} {cc : ByteArray} {maxL : Nat} {ret : Option FieldType} {hh : List (Nat × Nat × Nat × Nat)}
    (hy : plainName y.cls = true) (hw : ws = Cond.codeWith y cc maxL ret hh :: ws')
    (body : ∀ p e s m args below meth c s₁, BodyLoose p l y (headSpec ws rm) cc maxL ret e s m args below meth c s₁ → c.maxLocals = maxL → Pc args s →
      W p l e (headSpec ws rm).room s m args below meth c s.heap [] 0 0 (vx_MQ below Qc XC args s mc ms free) (entryFrame m args maxL)) : vx_Met l y ws rm Pc Qc XC mc ms free := by
  refine MetFree.of_bodyS (code := cc) (maxLocals := maxL) (ret := ret) hy ?_ ?_
  · intro args s m h hn
    obtain ⟨m9, meth, c, hn9, h1, h2, h3, h4, -, h5, h6, -⟩ := Cond.codeWith_spec (atoms_spec (ws := ws) h _ (by rw [hw]; exact List.mem_cons_self))
    cases hn.symm.trans hn9
    exact ⟨meth, c, h1, h2, h3, h4, h5, h6⟩
  · intro p e s m args below meth c s₁ B hml hP _
    have hh0 : s₁.heap = s.heap := by rw [B.state]; rfl
    obtain ⟨t, a1, o, b1, b2, b3⟩ := body p e s m args below meth c s₁ B hml hP s₁ hh0 (Stand.of_body B)
    exact ⟨t, o, a1, b1, b2, b3⟩
/-! ===== END ===== -/
end
section
def RX0 : String := "GalleryGuards$CoverSearch"
def TX0 : u_T := fun k => match k with
  | 0 => ("GalleryGuards$CoverSearch", "plan", "LGalleryGuards$Plan;", true)
  | 1 => ("GalleryGuards$CoverSearch", "lattice", "LGalleryGuards$Lattice;", true)
  | 2 => ("GalleryGuards$CoverSearch", "sight", "LGalleryGuards$Sight;", true)
  | 3 => ("GalleryGuards$CoverSearch", "views", "[J", true)
  | 4 => ("GalleryGuards$CoverSearch", "fromHereOn", "[J", true)
  | 5 => ("GalleryGuards$CoverSearch", "picked", "[I", true)
  | 6 => ("GalleryGuards$CoverSearch", "vertexSet", "I", false)
  | 7 => ("GalleryGuards$CoverSearch", "edgeSet", "I", false)
  | _ => ("GalleryGuards$CoverSearch", "pickedCount", "I", false)
def tyX0 : Nat → FieldType := fun k => match k with
  | 0 => .object "GalleryGuards$Plan"
  | 1 => .object "GalleryGuards$Lattice"
  | 2 => .object "GalleryGuards$Sight"
  | 3 => .array .long
  | 4 => .array .long
  | 5 => .array .int
  | 6 => .int
  | 7 => .int
  | _ => .int
abbrev wsX00 : List Cond := u_ws RX0 TX0 9
theorem nmX0 : ∀ a, a < 9 → ∀ b, b < 9 → a ≠ b → (TX0 a).2.1 ≠ (TX0 b).2.1 := by decide +kernel
theorem tyX0_ok : ∀ k, k < 9 → parseFieldDescriptor (TX0 k).2.2.1 = some (tyX0 k) := by decide +kernel
abbrev cX0_init : ByteArray := prog_2_method_1_code
def yX0_init : MethodName := ⟨RX0, "<init>", "(LGalleryGuards$Plan;LGalleryGuards$Lattice;LGalleryGuards$Sight;)V"⟩
abbrev cX0_forget : ByteArray := prog_2_method_2_code
def yX0_forget : MethodName := ⟨RX0, "forget", "()V"⟩
abbrev cX0_fewestVertices : ByteArray := prog_2_method_3_code
def yX0_fewestVertices : MethodName := ⟨RX0, "fewestVertices", "()I"⟩
abbrev cX0_fewestEdges : ByteArray := prog_2_method_4_code
def yX0_fewestEdges : MethodName := ⟨RX0, "fewestEdges", "()I"⟩
abbrev cX0_fewestViews : ByteArray := prog_2_method_5_code
def yX0_fewestViews : MethodName := ⟨RX0, "fewestViews", "()I"⟩
abbrev cX0_viewOf : ByteArray := prog_2_method_6_code
def yX0_viewOf : MethodName := ⟨RX0, "viewOf", "(I)J"⟩
abbrev cX0_pointsNeeded : ByteArray := prog_2_method_7_code
def yX0_pointsNeeded : MethodName := ⟨RX0, "pointsNeeded", "()I"⟩
abbrev cX0_pickedPoint : ByteArray := prog_2_method_8_code
def yX0_pickedPoint : MethodName := ⟨RX0, "pickedPoint", "(I)I"⟩
abbrev cX0_pick : ByteArray := prog_2_method_9_code
def yX0_pick : MethodName := ⟨RX0, "pick", "(JIII)Z"⟩
def RX1 : String := "GalleryGuards$History"
def TX1 : u_T := fun k => match k with
  | 0 => ("GalleryGuards$History", "size", "I", false)
  | 1 => ("GalleryGuards$History", "oldest", "I", false)
  | _ => ("GalleryGuards$History", "past", "[LGalleryGuards$Plan;", true)
def tyX1 : Nat → FieldType := fun k => match k with
  | 0 => .int
  | 1 => .int
  | _ => .array (.object "GalleryGuards$Plan")
abbrev wsX10 : List Cond := u_ws RX1 TX1 3
theorem nmX1 : ∀ a, a < 3 → ∀ b, b < 3 → a ≠ b → (TX1 a).2.1 ≠ (TX1 b).2.1 := by decide +kernel
theorem tyX1_ok : ∀ k, k < 3 → parseFieldDescriptor (TX1 k).2.2.1 = some (tyX1 k) := by decide +kernel
abbrev cX1_init : ByteArray := prog_3_method_1_code
def yX1_init : MethodName := ⟨RX1, "<init>", "()V"⟩
abbrev cX1_clear : ByteArray := prog_3_method_2_code
def yX1_clear : MethodName := ⟨RX1, "clea\x72", "()V"⟩
abbrev cX1_keep : ByteArray := prog_3_method_3_code
def yX1_keep : MethodName := ⟨RX1, "keep", "(LGalleryGuards$Plan;)V"⟩
abbrev cX1_takeInto : ByteArray := prog_3_method_4_code
def yX1_takeInto : MethodName := ⟨RX1, "takeInto", "(LGalleryGuards$Plan;)V"⟩
def RX2 : String := "GalleryGuards$Input"
def TX2 : u_T := fun k => match k with
  | 0 => ("GalleryGuards$Input", "size", "I", false)
  | 1 => ("GalleryGuards$Input", "tokenKind", "I", false)
  | 2 => ("GalleryGuards$Input", "tokenStart", "I", false)
  | 3 => ("GalleryGuards$Input", "numbe\x72", "I", false)
  | 4 => ("GalleryGuards$Input", "tokenEnd", "I", false)
  | 5 => ("GalleryGuards$Input", "textEnd", "I", false)
  | _ => ("GalleryGuards$Input", "bytes", "[I", true)
def tyX2 : Nat → FieldType := fun k => match k with
  | 0 => .int
  | 1 => .int
  | 2 => .int
  | 3 => .int
  | 4 => .int
  | 5 => .int
  | _ => .array .int
abbrev wsX20 : List Cond := u_ws RX2 TX2 7
theorem nmX2 : ∀ a, a < 7 → ∀ b, b < 7 → a ≠ b → (TX2 a).2.1 ≠ (TX2 b).2.1 := by decide +kernel
theorem tyX2_ok : ∀ k, k < 7 → parseFieldDescriptor (TX2 k).2.2.1 = some (tyX2 k) := by decide +kernel
abbrev cX2_init : ByteArray := prog_4_method_1_code
def yX2_init : MethodName := ⟨RX2, "<init>", "()V"⟩
abbrev cX2_addWord : ByteArray := prog_4_method_2_code
def yX2_addWord : MethodName := ⟨RX2, "addWord", "(I)V"⟩
abbrev cX2_startText : ByteArray := prog_4_method_3_code
def yX2_startText : MethodName := ⟨RX2, "startText", "(I)V"⟩
abbrev cX2_readToken : ByteArray := prog_4_method_4_code
def yX2_readToken : MethodName := ⟨RX2, "readToken", "()V"⟩
abbrev cX2_runEnd : ByteArray := prog_4_method_5_code
def yX2_runEnd : MethodName := ⟨RX2, "runEnd", "(III)I"⟩
abbrev cX2_digitsValue : ByteArray := prog_4_method_6_code
def yX2_digitsValue : MethodName := ⟨RX2, "digitsValue", "()I"⟩
abbrev cX2_isWord : ByteArray := prog_4_method_7_code
def yX2_isWord : MethodName := ⟨RX2, "isWord", "(Ljava/lang/String;)Z"⟩
def RX3 : String := "GalleryGuards$Lattice"
def TX3 : u_T := fun k => match k with
  | 0 => ("GalleryGuards$Lattice", "count", "I", false)
  | 1 => ("GalleryGuards$Lattice", "rim", "J", false)
  | 2 => ("GalleryGuards$Lattice", "xs", "[I", true)
  | 3 => ("GalleryGuards$Lattice", "ys", "[I", true)
  | _ => ("GalleryGuards$Lattice", "numbers", "[I", true)
def tyX3 : Nat → FieldType := fun k => match k with
  | 0 => .int
  | 1 => .long
  | 2 => .array .int
  | 3 => .array .int
  | _ => .array .int
abbrev wsX30 : List Cond := u_ws RX3 TX3 5
theorem nmX3 : ∀ a, a < 5 → ∀ b, b < 5 → a ≠ b → (TX3 a).2.1 ≠ (TX3 b).2.1 := by decide +kernel
theorem tyX3_ok : ∀ k, k < 5 → parseFieldDescriptor (TX3 k).2.2.1 = some (tyX3 k) := by decide +kernel
abbrev cX3_init : ByteArray := prog_5_method_1_code
def yX3_init : MethodName := ⟨RX3, "<init>", "()V"⟩
abbrev cX3_fill : ByteArray := prog_5_method_2_code
def yX3_fill : MethodName := ⟨RX3, "fill", "(LGalleryGuards$Plan;)Z"⟩
abbrev cX3_numberAt : ByteArray := prog_5_method_3_code
def yX3_numberAt : MethodName := ⟨RX3, "numberAt", "(II)I"⟩
abbrev cX3_xOf : ByteArray := prog_5_method_4_code
def yX3_xOf : MethodName := ⟨RX3, "xOf", "(I)I"⟩
abbrev cX3_yOf : ByteArray := prog_5_method_5_code
def yX3_yOf : MethodName := ⟨RX3, "yOf", "(I)I"⟩
abbrev cX3_everyPoint : ByteArray := prog_5_method_6_code
def yX3_everyPoint : MethodName := ⟨RX3, "everyPoint", "()J"⟩
abbrev cX3_holdsAllOf : ByteArray := prog_5_method_7_code
def yX3_holdsAllOf : MethodName := ⟨RX3, "holdsAllOf", "(LGalleryGuards$Plan;)Z"⟩
def RX4 : String := "GalleryGuards$Outline"
def TX4 : u_T := fun k => match k with
  | _ => ("", "", "", false)
def tyX4 : Nat → FieldType := fun k => match k with
  | _ => .int
abbrev wsX40 : List Cond := u_ws RX4 TX4 0
theorem nmX4 : ∀ a, a < 0 → ∀ b, b < 0 → a ≠ b → (TX4 a).2.1 ≠ (TX4 b).2.1 := by decide +kernel
theorem tyX4_ok : ∀ k, k < 0 → parseFieldDescriptor (TX4 k).2.2.1 = some (tyX4 k) := by decide +kernel
abbrev cX4_turn : ByteArray := prog_6_method_2_code
def yX4_turn : MethodName := ⟨RX4, "turn", "(IIIIII)I"⟩
abbrev cX4_turnOf : ByteArray := prog_6_method_3_code
def yX4_turnOf : MethodName := ⟨RX4, "turnOf", "(LGalleryGuards$Plan;III)I"⟩
abbrev cX4_signedArea : ByteArray := prog_6_method_4_code
def yX4_signedArea : MethodName := ⟨RX4, "signedArea", "(LGalleryGuards$Plan;)I"⟩
abbrev cX4_reflexSet : ByteArray := prog_6_method_5_code
def yX4_reflexSet : MethodName := ⟨RX4, "reflexSet", "(LGalleryGuards$Plan;)I"⟩
abbrev cX4_isSimple : ByteArray := prog_6_method_6_code
def yX4_isSimple : MethodName := ⟨RX4, "isSimple", "(LGalleryGuards$Plan;)Z"⟩
abbrev cX4_foldsBack : ByteArray := prog_6_method_7_code
def yX4_foldsBack : MethodName := ⟨RX4, "foldsBack", "(LGalleryGuards$Plan;I)Z"⟩
abbrev cX4_edgesMeet : ByteArray := prog_6_method_8_code
def yX4_edgesMeet : MethodName := ⟨RX4, "edgesMeet", "(LGalleryGuards$Plan;II)Z"⟩
abbrev cX4_crosses : ByteArray := prog_6_method_9_code
def yX4_crosses : MethodName := ⟨RX4, "crosses", "(LGalleryGuards$Plan;IIIII)Z"⟩
abbrev cX4_opposite : ByteArray := prog_6_method_10_code
def yX4_opposite : MethodName := ⟨RX4, "opposite", "(II)Z"⟩
abbrev cX4_liesOn : ByteArray := prog_6_method_11_code
def yX4_liesOn : MethodName := ⟨RX4, "liesOn", "(LGalleryGuards$Plan;IIII)Z"⟩
abbrev cX4_placeOf : ByteArray := prog_6_method_12_code
def yX4_placeOf : MethodName := ⟨RX4, "placeOf", "(LGalleryGuards$Plan;II)I"⟩
abbrev cX4_passesRightOf : ByteArray := prog_6_method_13_code
def yX4_passesRightOf : MethodName := ⟨RX4, "passesRightOf", "(LGalleryGuards$Plan;III)Z"⟩
def RX5 : String := "GalleryGuards$Parse\x72"
def TX5 : u_T := fun k => match k with
  | 0 => ("GalleryGuards$Parse\x72", "input", "LGalleryGuards$Input;", true)
  | 1 => ("GalleryGuards$Parse\x72", "draft", "LGalleryGuards$Plan;", true)
  | 2 => ("GalleryGuards$Parse\x72", "lattice", "LGalleryGuards$Lattice;", true)
  | 3 => ("GalleryGuards$Parse\x72", "readX", "I", false)
  | _ => ("GalleryGuards$Parse\x72", "readY", "I", false)
def tyX5 : Nat → FieldType := fun k => match k with
  | 0 => .object "GalleryGuards$Input"
  | 1 => .object "GalleryGuards$Plan"
  | 2 => .object "GalleryGuards$Lattice"
  | 3 => .int
  | _ => .int
abbrev wsX50 : List Cond := u_ws RX5 TX5 5
theorem nmX5 : ∀ a, a < 5 → ∀ b, b < 5 → a ≠ b → (TX5 a).2.1 ≠ (TX5 b).2.1 := by decide +kernel
theorem tyX5_ok : ∀ k, k < 5 → parseFieldDescriptor (TX5 k).2.2.1 = some (tyX5 k) := by decide +kernel
abbrev cX5_init : ByteArray := prog_7_method_1_code
def yX5_init : MethodName := ⟨RX5, "<init>", "(LGalleryGuards$Input;LGalleryGuards$Plan;LGalleryGuards$Lattice;)V"⟩
abbrev cX5_parse : ByteArray := prog_7_method_2_code
def yX5_parse : MethodName := ⟨RX5, "parse", "(I)I"⟩
abbrev cX5_readVertices : ByteArray := prog_7_method_3_code
def yX5_readVertices : MethodName := ⟨RX5, "readVertices", "()I"⟩
abbrev cX5_readLines : ByteArray := prog_7_method_4_code
def yX5_readLines : MethodName := ⟨RX5, "readLines", "()I"⟩
abbrev cX5_readGuard : ByteArray := prog_7_method_5_code
def yX5_readGuard : MethodName := ⟨RX5, "readGuard", "()I"⟩
abbrev cX5_readTreasure : ByteArray := prog_7_method_6_code
def yX5_readTreasure : MethodName := ⟨RX5, "readTreasure", "()I"⟩
abbrev cX5_readPlace : ByteArray := prog_7_method_7_code
def yX5_readPlace : MethodName := ⟨RX5, "readPlace", "(Z)I"⟩
abbrev cX5_checkNumber : ByteArray := prog_7_method_8_code
def yX5_checkNumber : MethodName := ⟨RX5, "checkNumbe\x72", "(II)I"⟩
def RX6 : String := "GalleryGuards$Plan"
def TX6 : u_T := fun k => match k with
  | 0 => ("GalleryGuards$Plan", "vertexCount", "I", false)
  | 1 => ("GalleryGuards$Plan", "guardCount", "I", false)
  | 2 => ("GalleryGuards$Plan", "treasureCount", "I", false)
  | 3 => ("GalleryGuards$Plan", "vertexXs", "[I", true)
  | 4 => ("GalleryGuards$Plan", "vertexYs", "[I", true)
  | 5 => ("GalleryGuards$Plan", "guardXs", "[I", true)
  | 6 => ("GalleryGuards$Plan", "guardYs", "[I", true)
  | 7 => ("GalleryGuards$Plan", "guardReaches", "[I", true)
  | 8 => ("GalleryGuards$Plan", "treasureXs", "[I", true)
  | 9 => ("GalleryGuards$Plan", "treasureYs", "[I", true)
  | _ => ("GalleryGuards$Plan", "treasureValues", "[I", true)
def tyX6 : Nat → FieldType := fun k => match k with
  | 0 => .int
  | 1 => .int
  | 2 => .int
  | 3 => .array .int
  | 4 => .array .int
  | 5 => .array .int
  | 6 => .array .int
  | 7 => .array .int
  | 8 => .array .int
  | 9 => .array .int
  | _ => .array .int
abbrev wsX60 : List Cond := u_ws RX6 TX6 11
theorem nmX6 : ∀ a, a < 11 → ∀ b, b < 11 → a ≠ b → (TX6 a).2.1 ≠ (TX6 b).2.1 := by decide +kernel
theorem tyX6_ok : ∀ k, k < 11 → parseFieldDescriptor (TX6 k).2.2.1 = some (tyX6 k) := by decide +kernel
abbrev cX6_init : ByteArray := prog_8_method_1_code
def yX6_init : MethodName := ⟨RX6, "<init>", "()V"⟩
abbrev cX6_clear : ByteArray := prog_8_method_2_code
def yX6_clear : MethodName := ⟨RX6, "clea\x72", "()V"⟩
abbrev cX6_copyFrom : ByteArray := prog_8_method_3_code
def yX6_copyFrom : MethodName := ⟨RX6, "copyFrom", "(LGalleryGuards$Plan;)V"⟩
abbrev cX6_cornerX : ByteArray := prog_8_method_4_code
def yX6_cornerX : MethodName := ⟨RX6, "cornerX", "(I)I"⟩
abbrev cX6_cornerY : ByteArray := prog_8_method_5_code
def yX6_cornerY : MethodName := ⟨RX6, "cornerY", "(I)I"⟩
abbrev cX6_after : ByteArray := prog_8_method_6_code
def yX6_after : MethodName := ⟨RX6, "afte\x72", "(I)I"⟩
abbrev cX6_before : ByteArray := prog_8_method_7_code
def yX6_before : MethodName := ⟨RX6, "before", "(I)I"⟩
abbrev cX6_putCorner : ByteArray := prog_8_method_8_code
def yX6_putCorner : MethodName := ⟨RX6, "putCorne\x72", "(III)V"⟩
abbrev cX6_shiftCorner : ByteArray := prog_8_method_9_code
def yX6_shiftCorner : MethodName := ⟨RX6, "shiftCorne\x72", "(III)V"⟩
abbrev cX6_dropCorner : ByteArray := prog_8_method_10_code
def yX6_dropCorner : MethodName := ⟨RX6, "dropCorne\x72", "(I)V"⟩
abbrev cX6_hasCornerAt : ByteArray := prog_8_method_11_code
def yX6_hasCornerAt : MethodName := ⟨RX6, "hasCornerAt", "(II)Z"⟩
abbrev cX6_guardX : ByteArray := prog_8_method_12_code
def yX6_guardX : MethodName := ⟨RX6, "guardX", "(I)I"⟩
abbrev cX6_guardY : ByteArray := prog_8_method_13_code
def yX6_guardY : MethodName := ⟨RX6, "guardY", "(I)I"⟩
abbrev cX6_reachOf : ByteArray := prog_8_method_14_code
def yX6_reachOf : MethodName := ⟨RX6, "reachOf", "(I)I"⟩
abbrev cX6_putGuard : ByteArray := prog_8_method_15_code
def yX6_putGuard : MethodName := ⟨RX6, "putGuard", "(III)V"⟩
abbrev cX6_postGuard : ByteArray := prog_8_method_16_code
def yX6_postGuard : MethodName := ⟨RX6, "postGuard", "(III)V"⟩
abbrev cX6_giveReach : ByteArray := prog_8_method_17_code
def yX6_giveReach : MethodName := ⟨RX6, "giveReach", "(II)V"⟩
abbrev cX6_dropGuard : ByteArray := prog_8_method_18_code
def yX6_dropGuard : MethodName := ⟨RX6, "dropGuard", "(I)V"⟩
abbrev cX6_hasGuardAt : ByteArray := prog_8_method_19_code
def yX6_hasGuardAt : MethodName := ⟨RX6, "hasGuardAt", "(II)Z"⟩
abbrev cX6_treasureX : ByteArray := prog_8_method_20_code
def yX6_treasureX : MethodName := ⟨RX6, "treasureX", "(I)I"⟩
abbrev cX6_treasureY : ByteArray := prog_8_method_21_code
def yX6_treasureY : MethodName := ⟨RX6, "treasureY", "(I)I"⟩
abbrev cX6_worthOf : ByteArray := prog_8_method_22_code
def yX6_worthOf : MethodName := ⟨RX6, "worthOf", "(I)I"⟩
abbrev cX6_putTreasure : ByteArray := prog_8_method_23_code
def yX6_putTreasure : MethodName := ⟨RX6, "putTreasure", "(III)V"⟩
abbrev cX6_hasTreasureAt : ByteArray := prog_8_method_24_code
def yX6_hasTreasureAt : MethodName := ⟨RX6, "hasTreasureAt", "(II)Z"⟩
def RX7 : String := "GalleryGuards$Sight"
def TX7 : u_T := fun k => match k with
  | 0 => ("GalleryGuards$Sight", "plan", "LGalleryGuards$Plan;", true)
  | 1 => ("GalleryGuards$Sight", "lattice", "LGalleryGuards$Lattice;", true)
  | 2 => ("GalleryGuards$Sight", "rows", "[J", true)
  | _ => ("GalleryGuards$Sight", "known", "Z", false)
def tyX7 : Nat → FieldType := fun k => match k with
  | 0 => .object "GalleryGuards$Plan"
  | 1 => .object "GalleryGuards$Lattice"
  | 2 => .array .long
  | _ => .boolean
abbrev wsX70 : List Cond := u_ws RX7 TX7 4
theorem nmX7 : ∀ a, a < 4 → ∀ b, b < 4 → a ≠ b → (TX7 a).2.1 ≠ (TX7 b).2.1 := by decide +kernel
theorem tyX7_ok : ∀ k, k < 4 → parseFieldDescriptor (TX7 k).2.2.1 = some (tyX7 k) := by decide +kernel
abbrev cX7_init : ByteArray := prog_9_method_1_code
def yX7_init : MethodName := ⟨RX7, "<init>", "(LGalleryGuards$Plan;LGalleryGuards$Lattice;)V"⟩
abbrev cX7_forget : ByteArray := prog_9_method_2_code
def yX7_forget : MethodName := ⟨RX7, "forget", "()V"⟩
abbrev cX7_learn : ByteArray := prog_9_method_3_code
def yX7_learn : MethodName := ⟨RX7, "learn", "()V"⟩
abbrev cX7_linkPairs : ByteArray := prog_9_method_4_code
def yX7_linkPairs : MethodName := ⟨RX7, "linkPairs", "(Z)V"⟩
abbrev cX7_isClear : ByteArray := prog_9_method_5_code
def yX7_isClear : MethodName := ⟨RX7, "isClea\x72", "(II)Z"⟩
abbrev cX7_isChained : ByteArray := prog_9_method_6_code
def yX7_isChained : MethodName := ⟨RX7, "isChained", "(III)Z"⟩
abbrev cX7_piecesOf : ByteArray := prog_9_method_7_code
def yX7_piecesOf : MethodName := ⟨RX7, "piecesOf", "(II)I"⟩
abbrev cX7_everyPoint : ByteArray := prog_9_method_8_code
def yX7_everyPoint : MethodName := ⟨RX7, "everyPoint", "()J"⟩
abbrev cX7_pointCount : ByteArray := prog_9_method_9_code
def yX7_pointCount : MethodName := ⟨RX7, "pointCount", "()I"⟩
abbrev cX7_from : ByteArray := prog_9_method_10_code
def yX7_from : MethodName := ⟨RX7, "from", "(I)J"⟩
abbrev cX7_fromAnyOf : ByteArray := prog_9_method_11_code
def yX7_fromAnyOf : MethodName := ⟨RX7, "fromAnyOf", "(J)J"⟩
abbrev cX7_fromEdge : ByteArray := prog_9_method_12_code
def yX7_fromEdge : MethodName := ⟨RX7, "fromEdge", "(I)J"⟩
abbrev cX7_seeingAll : ByteArray := prog_9_method_13_code
def yX7_seeingAll : MethodName := ⟨RX7, "seeingAll", "()J"⟩
abbrev cX7_links : ByteArray := prog_9_method_14_code
def yX7_links : MethodName := ⟨RX7, "links", "(II)I"⟩
abbrev cX7_lastReached : ByteArray := prog_9_method_15_code
def yX7_lastReached : MethodName := ⟨RX7, "lastReached", "(I)I"⟩
abbrev cX7_mostLinks : ByteArray := prog_9_method_16_code
def yX7_mostLinks : MethodName := ⟨RX7, "mostLinks", "()I"⟩
def RX8 : String := "GalleryGuards$SpreadSearch"
def TX8 : u_T := fun k => match k with
  | 0 => ("GalleryGuards$SpreadSearch", "sight", "LGalleryGuards$Sight;", true)
  | 1 => ("GalleryGuards$SpreadSearch", "sharing", "[J", true)
  | 2 => ("GalleryGuards$SpreadSearch", "picked", "[I", true)
  | 3 => ("GalleryGuards$SpreadSearch", "pickedCount", "I", false)
  | _ => ("GalleryGuards$SpreadSearch", "hiddenCount", "I", false)
def tyX8 : Nat → FieldType := fun k => match k with
  | 0 => .object "GalleryGuards$Sight"
  | 1 => .array .long
  | 2 => .array .int
  | 3 => .int
  | _ => .int
abbrev wsX80 : List Cond := u_ws RX8 TX8 5
theorem nmX8 : ∀ a, a < 5 → ∀ b, b < 5 → a ≠ b → (TX8 a).2.1 ≠ (TX8 b).2.1 := by decide +kernel
theorem tyX8_ok : ∀ k, k < 5 → parseFieldDescriptor (TX8 k).2.2.1 = some (tyX8 k) := by decide +kernel
abbrev cX8_init : ByteArray := prog_10_method_1_code
def yX8_init : MethodName := ⟨RX8, "<init>", "(LGalleryGuards$Sight;)V"⟩
abbrev cX8_forget : ByteArray := prog_10_method_2_code
def yX8_forget : MethodName := ⟨RX8, "forget", "()V"⟩
abbrev cX8_mostWitnesses : ByteArray := prog_10_method_3_code
def yX8_mostWitnesses : MethodName := ⟨RX8, "mostWitnesses", "()I"⟩
abbrev cX8_pickedWitness : ByteArray := prog_10_method_4_code
def yX8_pickedWitness : MethodName := ⟨RX8, "pickedWitness", "(I)I"⟩
abbrev cX8_pick : ByteArray := prog_10_method_5_code
def yX8_pick : MethodName := ⟨RX8, "pick", "(JII)Z"⟩
abbrev cX8_mostHidden : ByteArray := prog_10_method_6_code
def yX8_mostHidden : MethodName := ⟨RX8, "mostHidden", "()I"⟩
abbrev cX8_largestHidden : ByteArray := prog_10_method_7_code
def yX8_largestHidden : MethodName := ⟨RX8, "largestHidden", "(JI)I"⟩
abbrev cX8_withoutDominated : ByteArray := prog_10_method_8_code
def yX8_withoutDominated : MethodName := ⟨RX8, "withoutDominated", "(J)J"⟩
abbrev cX8_isDominated : ByteArray := prog_10_method_9_code
def yX8_isDominated : MethodName := ⟨RX8, "isDominated", "(IJ)Z"⟩
abbrev cX8_leastSeeing : ByteArray := prog_10_method_10_code
def yX8_leastSeeing : MethodName := ⟨RX8, "leastSeeing", "(J)I"⟩
def RX9 : String := "GalleryGuards$Triangulation"
def TX9 : u_T := fun k => match k with
  | 0 => ("GalleryGuards$Triangulation", "plan", "LGalleryGuards$Plan;", true)
  | 1 => ("GalleryGuards$Triangulation", "cut", "[I", true)
  | 2 => ("GalleryGuards$Triangulation", "low", "[I", true)
  | 3 => ("GalleryGuards$Triangulation", "middle", "[I", true)
  | 4 => ("GalleryGuards$Triangulation", "high", "[I", true)
  | 5 => ("GalleryGuards$Triangulation", "colours", "[I", true)
  | 6 => ("GalleryGuards$Triangulation", "ring", "[I", true)
  | 7 => ("GalleryGuards$Triangulation", "ringSize", "I", false)
  | _ => ("GalleryGuards$Triangulation", "known", "Z", false)
def tyX9 : Nat → FieldType := fun k => match k with
  | 0 => .object "GalleryGuards$Plan"
  | 1 => .array .int
  | 2 => .array .int
  | 3 => .array .int
  | 4 => .array .int
  | 5 => .array .int
  | 6 => .array .int
  | 7 => .int
  | _ => .boolean
abbrev wsX90 : List Cond := u_ws RX9 TX9 9
theorem nmX9 : ∀ a, a < 9 → ∀ b, b < 9 → a ≠ b → (TX9 a).2.1 ≠ (TX9 b).2.1 := by decide +kernel
theorem tyX9_ok : ∀ k, k < 9 → parseFieldDescriptor (TX9 k).2.2.1 = some (tyX9 k) := by decide +kernel
abbrev cX9_init : ByteArray := prog_11_method_1_code
def yX9_init : MethodName := ⟨RX9, "<init>", "(LGalleryGuards$Plan;)V"⟩
abbrev cX9_forget : ByteArray := prog_11_method_2_code
def yX9_forget : MethodName := ⟨RX9, "forget", "()V"⟩
abbrev cX9_cornerOf : ByteArray := prog_11_method_3_code
def yX9_cornerOf : MethodName := ⟨RX9, "cornerOf", "(II)I"⟩
abbrev cX9_areaOf : ByteArray := prog_11_method_4_code
def yX9_areaOf : MethodName := ⟨RX9, "areaOf", "(I)I"⟩
abbrev cX9_colourOf : ByteArray := prog_11_method_5_code
def yX9_colourOf : MethodName := ⟨RX9, "colourOf", "(I)I"⟩
abbrev cX9_rarestColourSet : ByteArray := prog_11_method_6_code
def yX9_rarestColourSet : MethodName := ⟨RX9, "rarestColourSet", "()I"⟩
abbrev cX9_colourSet : ByteArray := prog_11_method_7_code
def yX9_colourSet : MethodName := ⟨RX9, "colourSet", "(I)I"⟩
abbrev cX9_learn : ByteArray := prog_11_method_8_code
def yX9_learn : MethodName := ⟨RX9, "learn", "()V"⟩
abbrev cX9_firstEar : ByteArray := prog_11_method_9_code
def yX9_firstEar : MethodName := ⟨RX9, "firstEa\x72", "(Z)I"⟩
abbrev cX9_ringAt : ByteArray := prog_11_method_10_code
def yX9_ringAt : MethodName := ⟨RX9, "ringAt", "(I)I"⟩
abbrev cX9_isFreeOfOthers : ByteArray := prog_11_method_11_code
def yX9_isFreeOfOthers : MethodName := ⟨RX9, "isFreeOfOthers", "(I)Z"⟩
abbrev cX9_inTriangle : ByteArray := prog_11_method_12_code
def yX9_inTriangle : MethodName := ⟨RX9, "inTriangle", "(IIII)Z"⟩
abbrev cX9_clip : ByteArray := prog_11_method_13_code
def yX9_clip : MethodName := ⟨RX9, "clip", "(II)V"⟩
abbrev cX9_paint : ByteArray := prog_11_method_14_code
def yX9_paint : MethodName := ⟨RX9, "paint", "(I)V"⟩
abbrev cX9_tint : ByteArray := prog_11_method_15_code
def yX9_tint : MethodName := ⟨RX9, "tint", "(II)V"⟩
abbrev cX9_tintOf : ByteArray := prog_11_method_16_code
def yX9_tintOf : MethodName := ⟨RX9, "tintOf", "(I)I"⟩
def RX10 : String := "GalleryGuards$Watch"
def TX10 : u_T := fun k => match k with
  | 0 => ("GalleryGuards$Watch", "plan", "LGalleryGuards$Plan;", true)
  | 1 => ("GalleryGuards$Watch", "lattice", "LGalleryGuards$Lattice;", true)
  | _ => ("GalleryGuards$Watch", "sight", "LGalleryGuards$Sight;", true)
def tyX10 : Nat → FieldType := fun k => match k with
  | 0 => .object "GalleryGuards$Plan"
  | 1 => .object "GalleryGuards$Lattice"
  | _ => .object "GalleryGuards$Sight"
abbrev wsX100 : List Cond := u_ws RX10 TX10 3
theorem nmX10 : ∀ a, a < 3 → ∀ b, b < 3 → a ≠ b → (TX10 a).2.1 ≠ (TX10 b).2.1 := by decide +kernel
theorem tyX10_ok : ∀ k, k < 3 → parseFieldDescriptor (TX10 k).2.2.1 = some (tyX10 k) := by decide +kernel
abbrev cX10_init : ByteArray := prog_12_method_1_code
def yX10_init : MethodName := ⟨RX10, "<init>", "(LGalleryGuards$Plan;LGalleryGuards$Lattice;LGalleryGuards$Sight;)V"⟩
abbrev cX10_postOf : ByteArray := prog_12_method_2_code
def yX10_postOf : MethodName := ⟨RX10, "postOf", "(I)I"⟩
abbrev cX10_placeOfTreasure : ByteArray := prog_12_method_3_code
def yX10_placeOfTreasure : MethodName := ⟨RX10, "placeOfTreasure", "(I)I"⟩
abbrev cX10_within : ByteArray := prog_12_method_4_code
def yX10_within : MethodName := ⟨RX10, "within", "(II)J"⟩
abbrev cX10_byGuard : ByteArray := prog_12_method_5_code
def yX10_byGuard : MethodName := ⟨RX10, "byGuard", "(I)J"⟩
abbrev cX10_byAllBut : ByteArray := prog_12_method_6_code
def yX10_byAllBut : MethodName := ⟨RX10, "byAllBut", "(I)J"⟩
abbrev cX10_guardsOn : ByteArray := prog_12_method_7_code
def yX10_guardsOn : MethodName := ⟨RX10, "guardsOn", "(I)I"⟩
abbrev cX10_spareGuards : ByteArray := prog_12_method_8_code
def yX10_spareGuards : MethodName := ⟨RX10, "spareGuards", "()I"⟩
abbrev cX10_bestPostFor : ByteArray := prog_12_method_9_code
def yX10_bestPostFor : MethodName := ⟨RX10, "bestPostFo\x72", "(J)I"⟩
abbrev cX10_greedyCount : ByteArray := prog_12_method_10_code
def yX10_greedyCount : MethodName := ⟨RX10, "greedyCount", "()I"⟩
abbrev cX10_valueIn : ByteArray := prog_12_method_11_code
def yX10_valueIn : MethodName := ⟨RX10, "valueIn", "(J)I"⟩
abbrev cX10_valueAfterBestMove : ByteArray := prog_12_method_12_code
def yX10_valueAfterBestMove : MethodName := ⟨RX10, "valueAfterBestMove", "()I"⟩
def RX11 : String := "GalleryGuards"
def TX11 : u_T := fun k => match k with
  | 0 => ("GalleryGuards", "input", "LGalleryGuards$Input;", true)
  | 1 => ("GalleryGuards", "parse\x72", "LGalleryGuards$Parser;", true)
  | 2 => ("GalleryGuards", "plan", "LGalleryGuards$Plan;", true)
  | 3 => ("GalleryGuards", "draft", "LGalleryGuards$Plan;", true)
  | 4 => ("GalleryGuards", "lattice", "LGalleryGuards$Lattice;", true)
  | 5 => ("GalleryGuards", "draftLattice", "LGalleryGuards$Lattice;", true)
  | 6 => ("GalleryGuards", "sight", "LGalleryGuards$Sight;", true)
  | 7 => ("GalleryGuards", "triangulation", "LGalleryGuards$Triangulation;", true)
  | 8 => ("GalleryGuards", "covers", "LGalleryGuards$CoverSearch;", true)
  | 9 => ("GalleryGuards", "spreads", "LGalleryGuards$SpreadSearch;", true)
  | 10 => ("GalleryGuards", "watch", "LGalleryGuards$Watch;", true)
  | 11 => ("GalleryGuards", "history", "LGalleryGuards$History;", true)
  | 12 => ("GalleryGuards", "firstSaved", "LGalleryGuards$Plan;", true)
  | 13 => ("GalleryGuards", "secondSaved", "LGalleryGuards$Plan;", true)
  | 14 => ("GalleryGuards", "drawn", "[I", true)
  | 15 => ("GalleryGuards", "hasDrawn", "Z", false)
  | 16 => ("GalleryGuards", "errorCode", "I", false)
  | _ => ("GalleryGuards", "errorAt", "I", false)
def tyX11 : Nat → FieldType := fun k => match k with
  | 0 => .object "GalleryGuards$Input"
  | 1 => .object "GalleryGuards$Parse\x72"
  | 2 => .object "GalleryGuards$Plan"
  | 3 => .object "GalleryGuards$Plan"
  | 4 => .object "GalleryGuards$Lattice"
  | 5 => .object "GalleryGuards$Lattice"
  | 6 => .object "GalleryGuards$Sight"
  | 7 => .object "GalleryGuards$Triangulation"
  | 8 => .object "GalleryGuards$CoverSearch"
  | 9 => .object "GalleryGuards$SpreadSearch"
  | 10 => .object "GalleryGuards$Watch"
  | 11 => .object "GalleryGuards$History"
  | 12 => .object "GalleryGuards$Plan"
  | 13 => .object "GalleryGuards$Plan"
  | 14 => .array .int
  | 15 => .boolean
  | 16 => .int
  | _ => .int
abbrev wsX110 : List Cond := u_ws RX11 TX11 18
theorem nmX11 : ∀ a, a < 18 → ∀ b, b < 18 → a ≠ b → (TX11 a).2.1 ≠ (TX11 b).2.1 := by decide +kernel
theorem tyX11_ok : ∀ k, k < 18 → parseFieldDescriptor (TX11 k).2.2.1 = some (tyX11 k) := by decide +kernel
abbrev cX11_init : ByteArray := prog_1_method_1_code
def yX11_init : MethodName := ⟨RX11, "<init>", "()V"⟩
abbrev cX11_append : ByteArray := prog_1_method_2_code
def yX11_append : MethodName := ⟨RX11, "append", "(IIIII)I"⟩
abbrev cX11_load : ByteArray := prog_1_method_3_code
def yX11_load : MethodName := ⟨RX11, "load", "(I)I"⟩
abbrev cX11_parseError : ByteArray := prog_1_method_4_code
def yX11_parseError : MethodName := ⟨RX11, "parseErro\x72", "()I"⟩
abbrev cX11_errorPosition : ByteArray := prog_1_method_5_code
def yX11_errorPosition : MethodName := ⟨RX11, "errorPosition", "()I"⟩
abbrev cX11_buffered : ByteArray := prog_1_method_6_code
def yX11_buffered : MethodName := ⟨RX11, "buffered", "()I"⟩
abbrev cX11_vertices : ByteArray := prog_1_method_7_code
def yX11_vertices : MethodName := ⟨RX11, "vertices", "()I"⟩
abbrev cX11_vertexX : ByteArray := prog_1_method_8_code
def yX11_vertexX : MethodName := ⟨RX11, "vertexX", "(I)I"⟩
abbrev cX11_vertexY : ByteArray := prog_1_method_9_code
def yX11_vertexY : MethodName := ⟨RX11, "vertexY", "(I)I"⟩
abbrev cX11_doubleArea : ByteArray := prog_1_method_10_code
def yX11_doubleArea : MethodName := ⟨RX11, "doubleArea", "()I"⟩
abbrev cX11_reflexVertices : ByteArray := prog_1_method_11_code
def yX11_reflexVertices : MethodName := ⟨RX11, "reflexVertices", "()I"⟩
abbrev cX11_points : ByteArray := prog_1_method_12_code
def yX11_points : MethodName := ⟨RX11, "points", "()I"⟩
abbrev cX11_pointX : ByteArray := prog_1_method_13_code
def yX11_pointX : MethodName := ⟨RX11, "pointX", "(I)I"⟩
abbrev cX11_pointY : ByteArray := prog_1_method_14_code
def yX11_pointY : MethodName := ⟨RX11, "pointY", "(I)I"⟩
abbrev cX11_pointAt : ByteArray := prog_1_method_15_code
def yX11_pointAt : MethodName := ⟨RX11, "pointAt", "(II)I"⟩
abbrev cX11_boundary : ByteArray := prog_1_method_16_code
def yX11_boundary : MethodName := ⟨RX11, "boundary", "()J"⟩
abbrev cX11_sees : ByteArray := prog_1_method_17_code
def yX11_sees : MethodName := ⟨RX11, "sees", "(II)Z"⟩
abbrev cX11_visible : ByteArray := prog_1_method_18_code
def yX11_visible : MethodName := ⟨RX11, "visible", "(I)J"⟩
abbrev cX11_kernel : ByteArray := prog_1_method_19_code
def yX11_kernel : MethodName := ⟨RX11, "kernel", "()J"⟩
abbrev cX11_linkDistance : ByteArray := prog_1_method_20_code
def yX11_linkDistance : MethodName := ⟨RX11, "linkDistance", "(II)I"⟩
abbrev cX11_diameter : ByteArray := prog_1_method_21_code
def yX11_diameter : MethodName := ⟨RX11, "diamete\x72", "()I"⟩
abbrev cX11_farthest : ByteArray := prog_1_method_22_code
def yX11_farthest : MethodName := ⟨RX11, "farthest", "(I)I"⟩
abbrev cX11_seenFromEdge : ByteArray := prog_1_method_23_code
def yX11_seenFromEdge : MethodName := ⟨RX11, "seenFromEdge", "(I)J"⟩
abbrev cX11_triangleVertex : ByteArray := prog_1_method_24_code
def yX11_triangleVertex : MethodName := ⟨RX11, "triangleVertex", "(II)I"⟩
abbrev cX11_triangleArea : ByteArray := prog_1_method_25_code
def yX11_triangleArea : MethodName := ⟨RX11, "triangleArea", "(I)I"⟩
abbrev cX11_colour : ByteArray := prog_1_method_26_code
def yX11_colour : MethodName := ⟨RX11, "colou\x72", "(I)I"⟩
abbrev cX11_colourGuards : ByteArray := prog_1_method_27_code
def yX11_colourGuards : MethodName := ⟨RX11, "colourGuards", "()I"⟩
abbrev cX11_vertexGuards : ByteArray := prog_1_method_28_code
def yX11_vertexGuards : MethodName := ⟨RX11, "vertexGuards", "()I"⟩
abbrev cX11_edgeGuards : ByteArray := prog_1_method_29_code
def yX11_edgeGuards : MethodName := ⟨RX11, "edgeGuards", "()I"⟩
abbrev cX11_guardNumber : ByteArray := prog_1_method_30_code
def yX11_guardNumber : MethodName := ⟨RX11, "guardNumbe\x72", "()I"⟩
abbrev cX11_guardPoint : ByteArray := prog_1_method_31_code
def yX11_guardPoint : MethodName := ⟨RX11, "guardPoint", "(I)I"⟩
abbrev cX11_witnessNumber : ByteArray := prog_1_method_32_code
def yX11_witnessNumber : MethodName := ⟨RX11, "witnessNumbe\x72", "()I"⟩
abbrev cX11_witness : ByteArray := prog_1_method_33_code
def yX11_witness : MethodName := ⟨RX11, "witness", "(I)I"⟩
abbrev cX11_hiddenNumber : ByteArray := prog_1_method_34_code
def yX11_hiddenNumber : MethodName := ⟨RX11, "hiddenNumbe\x72", "()I"⟩
abbrev cX11_guards : ByteArray := prog_1_method_35_code
def yX11_guards : MethodName := ⟨RX11, "guards", "()I"⟩
abbrev cX11_guardAt : ByteArray := prog_1_method_36_code
def yX11_guardAt : MethodName := ⟨RX11, "guardAt", "(I)I"⟩
abbrev cX11_guardRange : ByteArray := prog_1_method_37_code
def yX11_guardRange : MethodName := ⟨RX11, "guardRange", "(I)I"⟩
abbrev cX11_watched : ByteArray := prog_1_method_38_code
def yX11_watched : MethodName := ⟨RX11, "watched", "(I)J"⟩
abbrev cX11_unwatched : ByteArray := prog_1_method_39_code
def yX11_unwatched : MethodName := ⟨RX11, "unwatched", "()J"⟩
abbrev cX11_watchers : ByteArray := prog_1_method_40_code
def yX11_watchers : MethodName := ⟨RX11, "watchers", "(I)I"⟩
abbrev cX11_redundantGuards : ByteArray := prog_1_method_41_code
def yX11_redundantGuards : MethodName := ⟨RX11, "redundantGuards", "()I"⟩
abbrev cX11_bestPoint : ByteArray := prog_1_method_42_code
def yX11_bestPoint : MethodName := ⟨RX11, "bestPoint", "()I"⟩
abbrev cX11_greedyGuards : ByteArray := prog_1_method_43_code
def yX11_greedyGuards : MethodName := ⟨RX11, "greedyGuards", "()I"⟩
abbrev cX11_treasures : ByteArray := prog_1_method_44_code
def yX11_treasures : MethodName := ⟨RX11, "treasures", "()I"⟩
abbrev cX11_treasureAt : ByteArray := prog_1_method_45_code
def yX11_treasureAt : MethodName := ⟨RX11, "treasureAt", "(I)I"⟩
abbrev cX11_watchedValue : ByteArray := prog_1_method_46_code
def yX11_watchedValue : MethodName := ⟨RX11, "watchedValue", "()I"⟩
abbrev cX11_bestValue : ByteArray := prog_1_method_47_code
def yX11_bestValue : MethodName := ⟨RX11, "bestValue", "()I"⟩
abbrev cX11_draw : ByteArray := prog_1_method_48_code
def yX11_draw : MethodName := ⟨RX11, "draw", "(I)I"⟩
abbrev cX11_drawnByte : ByteArray := prog_1_method_49_code
def yX11_drawnByte : MethodName := ⟨RX11, "drawnByte", "(I)I"⟩
abbrev cX11_addGuard : ByteArray := prog_1_method_50_code
def yX11_addGuard : MethodName := ⟨RX11, "addGuard", "(II)I"⟩
abbrev cX11_removeGuard : ByteArray := prog_1_method_51_code
def yX11_removeGuard : MethodName := ⟨RX11, "removeGuard", "(I)I"⟩
abbrev cX11_moveGuard : ByteArray := prog_1_method_52_code
def yX11_moveGuard : MethodName := ⟨RX11, "moveGuard", "(II)I"⟩
abbrev cX11_setRange : ByteArray := prog_1_method_53_code
def yX11_setRange : MethodName := ⟨RX11, "setRange", "(II)I"⟩
abbrev cX11_moveVertex : ByteArray := prog_1_method_54_code
def yX11_moveVertex : MethodName := ⟨RX11, "moveVertex", "(III)I"⟩
abbrev cX11_insertVertex : ByteArray := prog_1_method_55_code
def yX11_insertVertex : MethodName := ⟨RX11, "insertVertex", "(III)I"⟩
abbrev cX11_deleteVertex : ByteArray := prog_1_method_56_code
def yX11_deleteVertex : MethodName := ⟨RX11, "deleteVertex", "(I)I"⟩
abbrev cX11_undo : ByteArray := prog_1_method_57_code
def yX11_undo : MethodName := ⟨RX11, "undo", "()I"⟩
abbrev cX11_undoable : ByteArray := prog_1_method_58_code
def yX11_undoable : MethodName := ⟨RX11, "undoable", "()I"⟩
abbrev cX11_save : ByteArray := prog_1_method_59_code
def yX11_save : MethodName := ⟨RX11, "save", "(I)I"⟩
abbrev cX11_restore : ByteArray := prog_1_method_60_code
def yX11_restore : MethodName := ⟨RX11, "restore", "(I)I"⟩
abbrev cX11_needPolygon : ByteArray := prog_1_method_61_code
def yX11_needPolygon : MethodName := ⟨RX11, "needPolygon", "()V"⟩
abbrev cX11_needIndex : ByteArray := prog_1_method_62_code
def yX11_needIndex : MethodName := ⟨RX11, "needIndex", "(II)V"⟩
abbrev cX11_needRange : ByteArray := prog_1_method_63_code
def yX11_needRange : MethodName := ⟨RX11, "needRange", "(III)V"⟩
abbrev cX11_has : ByteArray := prog_1_method_64_code
def yX11_has : MethodName := ⟨RX11, "has", "(JI)Z"⟩
abbrev cX11_savedIn : ByteArray := prog_1_method_65_code
def yX11_savedIn : MethodName := ⟨RX11, "savedIn", "(I)LGalleryGuards$Plan;"⟩
abbrev cX11_adoptDraft : ByteArray := prog_1_method_66_code
def yX11_adoptDraft : MethodName := ⟨RX11, "adoptDraft", "()I"⟩
abbrev cX11_replacePlan : ByteArray := prog_1_method_67_code
def yX11_replacePlan : MethodName := ⟨RX11, "replacePlan", "(LGalleryGuards$Plan;)V"⟩
abbrev cX11_signAt : ByteArray := prog_1_method_68_code
def yX11_signAt : MethodName := ⟨RX11, "signAt", "(IIJ)I"⟩
def RX12 : String := "GalleryGuardsModel"
def TX12 : u_T := fun k => match k with
  | 0 => ("GalleryGuardsModel", "thrown", "I", false)
  | 1 => ("GalleryGuardsModel", "hasPolygon", "Z", false)
  | 2 => ("GalleryGuardsModel", "s", "[I", true)
  | 3 => ("GalleryGuardsModel", "stores", "[I", true)
  | 4 => ("GalleryGuardsModel", "changes", "I", false)
  | 5 => ("GalleryGuardsModel", "isKept", "[Z", true)
  | 6 => ("GalleryGuardsModel", "buffe\x72", "[I", true)
  | 7 => ("GalleryGuardsModel", "buffered", "I", false)
  | 8 => ("GalleryGuardsModel", "parseErro\x72", "I", false)
  | 9 => ("GalleryGuardsModel", "errorPosition", "I", false)
  | 10 => ("GalleryGuardsModel", "size", "I", false)
  | 11 => ("GalleryGuardsModel", "next", "I", false)
  | 12 => ("GalleryGuardsModel", "from", "I", false)
  | 13 => ("GalleryGuardsModel", "sort", "I", false)
  | 14 => ("GalleryGuardsModel", "word", "[I", true)
  | 15 => ("GalleryGuardsModel", "wordLong", "I", false)
  | 16 => ("GalleryGuardsModel", "numbe\x72", "I", false)
  | 17 => ("GalleryGuardsModel", "wrong", "I", false)
  | 18 => ("GalleryGuardsModel", "wrongAt", "I", false)
  | 19 => ("GalleryGuardsModel", "\x72", "[I", true)
  | 20 => ("GalleryGuardsModel", "points", "I", false)
  | 21 => ("GalleryGuardsModel", "px", "[I", true)
  | 22 => ("GalleryGuardsModel", "py", "[I", true)
  | 23 => ("GalleryGuardsModel", "numberAt", "[I", true)
  | 24 => ("GalleryGuardsModel", "wayX", "[J", true)
  | 25 => ("GalleryGuardsModel", "wayY", "[J", true)
  | 26 => ("GalleryGuardsModel", "wayFa\x72", "[J", true)
  | 27 => ("GalleryGuardsModel", "isLaid", "Z", false)
  | 28 => ("GalleryGuardsModel", "sight", "[J", true)
  | 29 => ("GalleryGuardsModel", "edgeSight", "[J", true)
  | 30 => ("GalleryGuardsModel", "links", "[I", true)
  | 31 => ("GalleryGuardsModel", "ring", "[I", true)
  | 32 => ("GalleryGuardsModel", "corners", "[I", true)
  | 33 => ("GalleryGuardsModel", "colours", "[I", true)
  | 34 => ("GalleryGuardsModel", "guardMany", "I", false)
  | 35 => ("GalleryGuardsModel", "guardSet", "[I", true)
  | 36 => ("GalleryGuardsModel", "witnessMany", "I", false)
  | 37 => ("GalleryGuardsModel", "witnessSet", "[I", true)
  | 38 => ("GalleryGuardsModel", "hidden", "I", false)
  | 39 => ("GalleryGuardsModel", "map", "[I", true)
  | _ => ("GalleryGuardsModel", "isDrawn", "Z", false)
def tyX12 : Nat → FieldType := fun k => match k with
  | 0 => .int
  | 1 => .boolean
  | 2 => .array .int
  | 3 => .array .int
  | 4 => .int
  | 5 => .array .boolean
  | 6 => .array .int
  | 7 => .int
  | 8 => .int
  | 9 => .int
  | 10 => .int
  | 11 => .int
  | 12 => .int
  | 13 => .int
  | 14 => .array .int
  | 15 => .int
  | 16 => .int
  | 17 => .int
  | 18 => .int
  | 19 => .array .int
  | 20 => .int
  | 21 => .array .int
  | 22 => .array .int
  | 23 => .array .int
  | 24 => .array .long
  | 25 => .array .long
  | 26 => .array .long
  | 27 => .boolean
  | 28 => .array .long
  | 29 => .array .long
  | 30 => .array .int
  | 31 => .array .int
  | 32 => .array .int
  | 33 => .array .int
  | 34 => .int
  | 35 => .array .int
  | 36 => .int
  | 37 => .array .int
  | 38 => .int
  | 39 => .array .int
  | _ => .boolean
abbrev wsX120 : List Cond := u_ws RX12 TX12 41
theorem nmX12 : ∀ a, a < 41 → ∀ b, b < 41 → a ≠ b → (TX12 a).2.1 ≠ (TX12 b).2.1 := by decide +kernel
theorem tyX12_ok : ∀ k, k < 41 → parseFieldDescriptor (TX12 k).2.2.1 = some (tyX12 k) := by decide +kernel
abbrev cX12_init : ByteArray := prog_14_method_1_code
def yX12_init : MethodName := ⟨RX12, "<init>", "()V"⟩
abbrev cX12_in : ByteArray := prog_14_method_3_code
def yX12_in : MethodName := ⟨RX12, "in", "(III)Z"⟩
abbrev cX12_refuse : ByteArray := prog_14_method_4_code
def yX12_refuse : MethodName := ⟨RX12, "refuse", "(ZI)Z"⟩
abbrev cX12_noPolygon : ByteArray := prog_14_method_5_code
def yX12_noPolygon : MethodName := ⟨RX12, "noPolygon", "()Z"⟩
abbrev cX12_append : ByteArray := prog_14_method_6_code
def yX12_append : MethodName := ⟨RX12, "append", "(IIIII)I"⟩
abbrev cX12_buffered : ByteArray := prog_14_method_7_code
def yX12_buffered : MethodName := ⟨RX12, "buffered", "()I"⟩
abbrev cX12_parseError : ByteArray := prog_14_method_8_code
def yX12_parseError : MethodName := ⟨RX12, "parseErro\x72", "()I"⟩
abbrev cX12_errorPosition : ByteArray := prog_14_method_9_code
def yX12_errorPosition : MethodName := ⟨RX12, "errorPosition", "()I"⟩
abbrev cX12_seen : ByteArray := prog_14_method_10_code
def yX12_seen : MethodName := ⟨RX12, "seen", "(I)I"⟩
abbrev cX12_isLetter : ByteArray := prog_14_method_11_code
def yX12_isLetter : MethodName := ⟨RX12, "isLette\x72", "(I)Z"⟩
abbrev cX12_isDigit : ByteArray := prog_14_method_12_code
def yX12_isDigit : MethodName := ⟨RX12, "isDigit", "(I)Z"⟩
abbrev cX12_token : ByteArray := prog_14_method_13_code
def yX12_token : MethodName := ⟨RX12, "token", "()V"⟩
abbrev cX12_fails : ByteArray := prog_14_method_14_code
def yX12_fails : MethodName := ⟨RX12, "fails", "(I)V"⟩
abbrev cX12_goesOn : ByteArray := prog_14_method_15_code
def yX12_goesOn : MethodName := ⟨RX12, "goesOn", "()V"⟩
abbrev cX12_isWord : ByteArray := prog_14_method_16_code
def yX12_isWord : MethodName := ⟨RX12, "isWord", "(Ljava/lang/String;)Z"⟩
abbrev cX12_numberHere : ByteArray := prog_14_method_17_code
def yX12_numberHere : MethodName := ⟨RX12, "numberHere", "(II)I"⟩
abbrev cX12_takes : ByteArray := prog_14_method_18_code
def yX12_takes : MethodName := ⟨RX12, "takes", "(II)I"⟩
abbrev cX12_polygonLine : ByteArray := prog_14_method_19_code
def yX12_polygonLine : MethodName := ⟨RX12, "polygonLine", "()V"⟩
abbrev cX12_thingLine : ByteArray := prog_14_method_20_code
def yX12_thingLine : MethodName := ⟨RX12, "thingLine", "(Z)V"⟩
abbrev cX12_reads : ByteArray := prog_14_method_21_code
def yX12_reads : MethodName := ⟨RX12, "reads", "(I)V"⟩
abbrev cX12_load : ByteArray := prog_14_method_22_code
def yX12_load : MethodName := ⟨RX12, "load", "(I)I"⟩
abbrev cX12_cross : ByteArray := prog_14_method_23_code
def yX12_cross : MethodName := ⟨RX12, "cross", "(JJJJJJ)J"⟩
abbrev cX12_sign : ByteArray := prog_14_method_24_code
def yX12_sign : MethodName := ⟨RX12, "sign", "(J)I"⟩
abbrev cX12_after : ByteArray := prog_14_method_25_code
def yX12_after : MethodName := ⟨RX12, "afte\x72", "([II)I"⟩
abbrev cX12_isOn : ByteArray := prog_14_method_26_code
def yX12_isOn : MethodName := ⟨RX12, "isOn", "(JJJJJJ)Z"⟩
abbrev cX12_isOnEdge : ByteArray := prog_14_method_27_code
def yX12_isOnEdge : MethodName := ⟨RX12, "isOnEdge", "([IIJJJ)Z"⟩
abbrev cX12_isOnBoundary : ByteArray := prog_14_method_28_code
def yX12_isOnBoundary : MethodName := ⟨RX12, "isOnBoundary", "([IJJJ)Z"⟩
abbrev cX12_isIn : ByteArray := prog_14_method_29_code
def yX12_isIn : MethodName := ⟨RX12, "isIn", "([IJJJ)Z"⟩
abbrev cX12_meet : ByteArray := prog_14_method_30_code
def yX12_meet : MethodName := ⟨RX12, "meet", "([III)Z"⟩
abbrev cX12_isBent : ByteArray := prog_14_method_31_code
def yX12_isBent : MethodName := ⟨RX12, "isBent", "([II)Z"⟩
abbrev cX12_isSimple : ByteArray := prog_14_method_32_code
def yX12_isSimple : MethodName := ⟨RX12, "isSimple", "([I)Z"⟩
abbrev cX12_pointsOf : ByteArray := prog_14_method_33_code
def yX12_pointsOf : MethodName := ⟨RX12, "pointsOf", "([I)I"⟩
abbrev cX12_isGood : ByteArray := prog_14_method_34_code
def yX12_isGood : MethodName := ⟨RX12, "isGood", "([I)Z"⟩
abbrev cX12_laysPoints : ByteArray := prog_14_method_35_code
def yX12_laysPoints : MethodName := ⟨RX12, "laysPoints", "()V"⟩
abbrev cX12_at : ByteArray := prog_14_method_36_code
def yX12_at : MethodName := ⟨RX12, "at", "(II)I"⟩
abbrev cX12_all : ByteArray := prog_14_method_37_code
def yX12_all : MethodName := ⟨RX12, "all", "()J"⟩
abbrev cX12_has : ByteArray := prog_14_method_38_code
def yX12_has : MethodName := ⟨RX12, "has", "(JI)Z"⟩
abbrev cX12_count : ByteArray := prog_14_method_39_code
def yX12_count : MethodName := ⟨RX12, "count", "(J)I"⟩
abbrev cX12_told : ByteArray := prog_14_method_40_code
def yX12_told : MethodName := ⟨RX12, "told", "(I)I"⟩
abbrev cX12_vertices : ByteArray := prog_14_method_41_code
def yX12_vertices : MethodName := ⟨RX12, "vertices", "()I"⟩
abbrev cX12_points : ByteArray := prog_14_method_42_code
def yX12_points : MethodName := ⟨RX12, "points", "()I"⟩
abbrev cX12_guards : ByteArray := prog_14_method_43_code
def yX12_guards : MethodName := ⟨RX12, "guards", "()I"⟩
abbrev cX12_treasures : ByteArray := prog_14_method_44_code
def yX12_treasures : MethodName := ⟨RX12, "treasures", "()I"⟩
abbrev cX12_undoable : ByteArray := prog_14_method_45_code
def yX12_undoable : MethodName := ⟨RX12, "undoable", "()I"⟩
abbrev cX12_noVertex : ByteArray := prog_14_method_46_code
def yX12_noVertex : MethodName := ⟨RX12, "noVertex", "(I)Z"⟩
abbrev cX12_noPoint : ByteArray := prog_14_method_47_code
def yX12_noPoint : MethodName := ⟨RX12, "noPoint", "(I)Z"⟩
abbrev cX12_noGuard : ByteArray := prog_14_method_48_code
def yX12_noGuard : MethodName := ⟨RX12, "noGuard", "(I)Z"⟩
abbrev cX12_vertexX : ByteArray := prog_14_method_49_code
def yX12_vertexX : MethodName := ⟨RX12, "vertexX", "(I)I"⟩
abbrev cX12_vertexY : ByteArray := prog_14_method_50_code
def yX12_vertexY : MethodName := ⟨RX12, "vertexY", "(I)I"⟩
abbrev cX12_pointX : ByteArray := prog_14_method_51_code
def yX12_pointX : MethodName := ⟨RX12, "pointX", "(I)I"⟩
abbrev cX12_pointY : ByteArray := prog_14_method_52_code
def yX12_pointY : MethodName := ⟨RX12, "pointY", "(I)I"⟩
abbrev cX12_pointAt : ByteArray := prog_14_method_53_code
def yX12_pointAt : MethodName := ⟨RX12, "pointAt", "(II)I"⟩
abbrev cX12_turned : ByteArray := prog_14_method_54_code
def yX12_turned : MethodName := ⟨RX12, "turned", "()I"⟩
abbrev cX12_doubleArea : ByteArray := prog_14_method_55_code
def yX12_doubleArea : MethodName := ⟨RX12, "doubleArea", "()I"⟩
abbrev cX12_turn : ByteArray := prog_14_method_56_code
def yX12_turn : MethodName := ⟨RX12, "turn", "(III)I"⟩
abbrev cX12_reflexVertices : ByteArray := prog_14_method_57_code
def yX12_reflexVertices : MethodName := ⟨RX12, "reflexVertices", "()I"⟩
abbrev cX12_boundary : ByteArray := prog_14_method_58_code
def yX12_boundary : MethodName := ⟨RX12, "boundary", "()J"⟩
abbrev cX12_isFree : ByteArray := prog_14_method_59_code
def yX12_isFree : MethodName := ⟨RX12, "isFree", "(JJJJJ)Z"⟩
abbrev cX12_laysSight : ByteArray := prog_14_method_60_code
def yX12_laysSight : MethodName := ⟨RX12, "laysSight", "()V"⟩
abbrev cX12_pointOf : ByteArray := prog_14_method_61_code
def yX12_pointOf : MethodName := ⟨RX12, "pointOf", "(I)I"⟩
abbrev cX12_sees : ByteArray := prog_14_method_62_code
def yX12_sees : MethodName := ⟨RX12, "sees", "(II)Z"⟩
abbrev cX12_visible : ByteArray := prog_14_method_63_code
def yX12_visible : MethodName := ⟨RX12, "visible", "(I)J"⟩
abbrev cX12_kernel : ByteArray := prog_14_method_64_code
def yX12_kernel : MethodName := ⟨RX12, "kernel", "()J"⟩
abbrev cX12_laysLinks : ByteArray := prog_14_method_65_code
def yX12_laysLinks : MethodName := ⟨RX12, "laysLinks", "(I)I"⟩
abbrev cX12_linkDistance : ByteArray := prog_14_method_66_code
def yX12_linkDistance : MethodName := ⟨RX12, "linkDistance", "(II)I"⟩
abbrev cX12_diameter : ByteArray := prog_14_method_67_code
def yX12_diameter : MethodName := ⟨RX12, "diamete\x72", "()I"⟩
abbrev cX12_farthest : ByteArray := prog_14_method_68_code
def yX12_farthest : MethodName := ⟨RX12, "farthest", "(I)I"⟩
abbrev cX12_seenFromEdge : ByteArray := prog_14_method_69_code
def yX12_seenFromEdge : MethodName := ⟨RX12, "seenFromEdge", "(I)J"⟩
abbrev cX12_isEar : ByteArray := prog_14_method_70_code
def yX12_isEar : MethodName := ⟨RX12, "isEa\x72", "(II)Z"⟩
abbrev cX12_laysTriangle : ByteArray := prog_14_method_71_code
def yX12_laysTriangle : MethodName := ⟨RX12, "laysTriangle", "(IIII)V"⟩
abbrev cX12_laysTriangles : ByteArray := prog_14_method_72_code
def yX12_laysTriangles : MethodName := ⟨RX12, "laysTriangles", "()V"⟩
abbrev cX12_noTriangle : ByteArray := prog_14_method_73_code
def yX12_noTriangle : MethodName := ⟨RX12, "noTriangle", "(I)Z"⟩
abbrev cX12_triangleVertex : ByteArray := prog_14_method_74_code
def yX12_triangleVertex : MethodName := ⟨RX12, "triangleVertex", "(II)I"⟩
abbrev cX12_triangleArea : ByteArray := prog_14_method_75_code
def yX12_triangleArea : MethodName := ⟨RX12, "triangleArea", "(I)I"⟩
abbrev cX12_laysColours : ByteArray := prog_14_method_76_code
def yX12_laysColours : MethodName := ⟨RX12, "laysColours", "()V"⟩
abbrev cX12_colour : ByteArray := prog_14_method_77_code
def yX12_colour : MethodName := ⟨RX12, "colou\x72", "(I)I"⟩
abbrev cX12_ofColour : ByteArray := prog_14_method_78_code
def yX12_ofColour : MethodName := ⟨RX12, "ofColou\x72", "(I)I"⟩
abbrev cX12_colourGuards : ByteArray := prog_14_method_79_code
def yX12_colourGuards : MethodName := ⟨RX12, "colourGuards", "()I"⟩
abbrev cX12_fewest : ByteArray := prog_14_method_80_code
def yX12_fewest : MethodName := ⟨RX12, "fewest", "(Z)I"⟩
abbrev cX12_vertexGuards : ByteArray := prog_14_method_81_code
def yX12_vertexGuards : MethodName := ⟨RX12, "vertexGuards", "()I"⟩
abbrev cX12_edgeGuards : ByteArray := prog_14_method_82_code
def yX12_edgeGuards : MethodName := ⟨RX12, "edgeGuards", "()I"⟩
abbrev cX12_laysGuards : ByteArray := prog_14_method_83_code
def yX12_laysGuards : MethodName := ⟨RX12, "laysGuards", "(IIIJ)Z"⟩
abbrev cX12_laysGuards_ : ByteArray := prog_14_method_84_code
def yX12_laysGuards_ : MethodName := ⟨RX12, "laysGuards", "()V"⟩
abbrev cX12_guardNumber : ByteArray := prog_14_method_85_code
def yX12_guardNumber : MethodName := ⟨RX12, "guardNumbe\x72", "()I"⟩
abbrev cX12_guardPoint : ByteArray := prog_14_method_86_code
def yX12_guardPoint : MethodName := ⟨RX12, "guardPoint", "(I)I"⟩
abbrev cX12_laysWitnesses : ByteArray := prog_14_method_87_code
def yX12_laysWitnesses : MethodName := ⟨RX12, "laysWitnesses", "(IIIJ)Z"⟩
abbrev cX12_laysWitnesses_ : ByteArray := prog_14_method_88_code
def yX12_laysWitnesses_ : MethodName := ⟨RX12, "laysWitnesses", "()V"⟩
abbrev cX12_witnessNumber : ByteArray := prog_14_method_89_code
def yX12_witnessNumber : MethodName := ⟨RX12, "witnessNumbe\x72", "()I"⟩
abbrev cX12_witness : ByteArray := prog_14_method_90_code
def yX12_witness : MethodName := ⟨RX12, "witness", "(I)I"⟩
abbrev cX12_lowest : ByteArray := prog_14_method_91_code
def yX12_lowest : MethodName := ⟨RX12, "lowest", "(J)I"⟩
abbrev cX12_groups : ByteArray := prog_14_method_92_code
def yX12_groups : MethodName := ⟨RX12, "groups", "(J)I"⟩
abbrev cX12_hides : ByteArray := prog_14_method_93_code
def yX12_hides : MethodName := ⟨RX12, "hides", "(JI)V"⟩
abbrev cX12_hiddenNumber : ByteArray := prog_14_method_94_code
def yX12_hiddenNumber : MethodName := ⟨RX12, "hiddenNumbe\x72", "()I"⟩
abbrev cX12_guard : ByteArray := prog_14_method_95_code
def yX12_guard : MethodName := ⟨RX12, "guard", "(II)I"⟩
abbrev cX12_watchOf : ByteArray := prog_14_method_96_code
def yX12_watchOf : MethodName := ⟨RX12, "watchOf", "(III)J"⟩
abbrev cX12_watchOf_ : ByteArray := prog_14_method_97_code
def yX12_watchOf_ : MethodName := ⟨RX12, "watchOf", "(I)J"⟩
abbrev cX12_watchBut : ByteArray := prog_14_method_98_code
def yX12_watchBut : MethodName := ⟨RX12, "watchBut", "(I)J"⟩
abbrev cX12_guardAt : ByteArray := prog_14_method_99_code
def yX12_guardAt : MethodName := ⟨RX12, "guardAt", "(I)I"⟩
abbrev cX12_guardRange : ByteArray := prog_14_method_100_code
def yX12_guardRange : MethodName := ⟨RX12, "guardRange", "(I)I"⟩
abbrev cX12_watched : ByteArray := prog_14_method_101_code
def yX12_watched : MethodName := ⟨RX12, "watched", "(I)J"⟩
abbrev cX12_unwatched : ByteArray := prog_14_method_102_code
def yX12_unwatched : MethodName := ⟨RX12, "unwatched", "()J"⟩
abbrev cX12_watchers : ByteArray := prog_14_method_103_code
def yX12_watchers : MethodName := ⟨RX12, "watchers", "(I)I"⟩
abbrev cX12_redundantGuards : ByteArray := prog_14_method_104_code
def yX12_redundantGuards : MethodName := ⟨RX12, "redundantGuards", "()I"⟩
abbrev cX12_bestFor : ByteArray := prog_14_method_105_code
def yX12_bestFor : MethodName := ⟨RX12, "bestFo\x72", "(J)I"⟩
abbrev cX12_bestPoint : ByteArray := prog_14_method_106_code
def yX12_bestPoint : MethodName := ⟨RX12, "bestPoint", "()I"⟩
abbrev cX12_greedyGuards : ByteArray := prog_14_method_107_code
def yX12_greedyGuards : MethodName := ⟨RX12, "greedyGuards", "()I"⟩
abbrev cX12_treasure : ByteArray := prog_14_method_108_code
def yX12_treasure : MethodName := ⟨RX12, "treasure", "(II)I"⟩
abbrev cX12_treasureAt : ByteArray := prog_14_method_109_code
def yX12_treasureAt : MethodName := ⟨RX12, "treasureAt", "(I)I"⟩
abbrev cX12_worthOf : ByteArray := prog_14_method_110_code
def yX12_worthOf : MethodName := ⟨RX12, "worthOf", "(J)I"⟩
abbrev cX12_watchedValue : ByteArray := prog_14_method_111_code
def yX12_watchedValue : MethodName := ⟨RX12, "watchedValue", "()I"⟩
abbrev cX12_bestValue : ByteArray := prog_14_method_112_code
def yX12_bestValue : MethodName := ⟨RX12, "bestValue", "()I"⟩
abbrev cX12_isGuardAt : ByteArray := prog_14_method_113_code
def yX12_isGuardAt : MethodName := ⟨RX12, "isGuardAt", "(II)Z"⟩
abbrev cX12_isTreasureAt : ByteArray := prog_14_method_114_code
def yX12_isTreasureAt : MethodName := ⟨RX12, "isTreasureAt", "(II)Z"⟩
abbrev cX12_isVertexAt : ByteArray := prog_14_method_115_code
def yX12_isVertexAt : MethodName := ⟨RX12, "isVertexAt", "(II)Z"⟩
abbrev cX12_draw : ByteArray := prog_14_method_116_code
def yX12_draw : MethodName := ⟨RX12, "draw", "(I)I"⟩
abbrev cX12_drawnByte : ByteArray := prog_14_method_117_code
def yX12_drawnByte : MethodName := ⟨RX12, "drawnByte", "(I)I"⟩
abbrev cX12_lays : ByteArray := prog_14_method_118_code
def yX12_lays : MethodName := ⟨RX12, "lays", "(I)V"⟩
abbrev cX12_fetches : ByteArray := prog_14_method_119_code
def yX12_fetches : MethodName := ⟨RX12, "fetches", "(I)V"⟩
abbrev cX12_keeps : ByteArray := prog_14_method_120_code
def yX12_keeps : MethodName := ⟨RX12, "keeps", "()V"⟩
abbrev cX12_addGuard : ByteArray := prog_14_method_121_code
def yX12_addGuard : MethodName := ⟨RX12, "addGuard", "(II)I"⟩
abbrev cX12_removeGuard : ByteArray := prog_14_method_122_code
def yX12_removeGuard : MethodName := ⟨RX12, "removeGuard", "(I)I"⟩
abbrev cX12_moveGuard : ByteArray := prog_14_method_123_code
def yX12_moveGuard : MethodName := ⟨RX12, "moveGuard", "(II)I"⟩
abbrev cX12_setRange : ByteArray := prog_14_method_124_code
def yX12_setRange : MethodName := ⟨RX12, "setRange", "(II)I"⟩
abbrev cX12_becomes : ByteArray := prog_14_method_125_code
def yX12_becomes : MethodName := ⟨RX12, "becomes", "()I"⟩
abbrev cX12_laysAside : ByteArray := prog_14_method_126_code
def yX12_laysAside : MethodName := ⟨RX12, "laysAside", "()V"⟩
abbrev cX12_isOff : ByteArray := prog_14_method_127_code
def yX12_isOff : MethodName := ⟨RX12, "isOff", "(II)Z"⟩
abbrev cX12_moveVertex : ByteArray := prog_14_method_128_code
def yX12_moveVertex : MethodName := ⟨RX12, "moveVertex", "(III)I"⟩
abbrev cX12_insertVertex : ByteArray := prog_14_method_129_code
def yX12_insertVertex : MethodName := ⟨RX12, "insertVertex", "(III)I"⟩
abbrev cX12_deleteVertex : ByteArray := prog_14_method_130_code
def yX12_deleteVertex : MethodName := ⟨RX12, "deleteVertex", "(I)I"⟩
abbrev cX12_undo : ByteArray := prog_14_method_131_code
def yX12_undo : MethodName := ⟨RX12, "undo", "()I"⟩
abbrev cX12_save : ByteArray := prog_14_method_132_code
def yX12_save : MethodName := ⟨RX12, "save", "(I)I"⟩
abbrev cX12_restore : ByteArray := prog_14_method_133_code
def yX12_restore : MethodName := ⟨RX12, "restore", "(I)I"⟩
def RJ6 : String := "java/lang/Intege\x72"
def TJ6 : u_T := fun k => match k with
  | _ => ("", "", "", false)
def tyJ6 : Nat → FieldType := fun k => match k with
  | _ => .int
abbrev wsJ60 : List Cond := u_ws RJ6 TJ6 0
theorem nmJ6 : ∀ a, a < 0 → ∀ b, b < 0 → a ≠ b → (TJ6 a).2.1 ≠ (TJ6 b).2.1 := by decide +kernel
theorem tyJ6_ok : ∀ k, k < 0 → parseFieldDescriptor (TJ6 k).2.2.1 = some (tyJ6 k) := by decide +kernel
abbrev cJ6_numberOfTrailingZeros_0f7a4 : ByteArray := prog_19_method_48_code
def yJ6_numberOfTrailingZeros_0f7a4 : MethodName := ⟨RJ6, "numberOfTrailingZeros", "(I)I"⟩
abbrev cJ6_bitCount_0f7a4 : ByteArray := prog_19_method_49_code
def yJ6_bitCount_0f7a4 : MethodName := ⟨RJ6, "bitCount", "(I)I"⟩
def RJ13 : String := "java/lang/Long"
def TJ13 : u_T := fun k => match k with
  | _ => ("", "", "", false)
def tyJ13 : Nat → FieldType := fun k => match k with
  | _ => .int
abbrev wsJ130 : List Cond := u_ws RJ13 TJ13 0
theorem nmJ13 : ∀ a, a < 0 → ∀ b, b < 0 → a ≠ b → (TJ13 a).2.1 ≠ (TJ13 b).2.1 := by decide +kernel
theorem tyJ13_ok : ∀ k, k < 0 → parseFieldDescriptor (TJ13 k).2.2.1 = some (tyJ13 k) := by decide +kernel
abbrev cJ13_numberOfTrailingZeros_95d88 : ByteArray := prog_20_method_49_code
def yJ13_numberOfTrailingZeros_95d88 : MethodName := ⟨RJ13, "numberOfTrailingZeros", "(J)I"⟩
abbrev cJ13_bitCount_95d88 : ByteArray := prog_20_method_50_code
def yJ13_bitCount_95d88 : MethodName := ⟨RJ13, "bitCount", "(J)I"⟩
def RJ9 : String := "java/lang/Math"
def TJ9 : u_T := fun k => match k with
  | _ => ("", "", "", false)
def tyJ9 : Nat → FieldType := fun k => match k with
  | _ => .int
abbrev wsJ90 : List Cond := u_ws RJ9 TJ9 0
theorem nmJ9 : ∀ a, a < 0 → ∀ b, b < 0 → a ≠ b → (TJ9 a).2.1 ≠ (TJ9 b).2.1 := by decide +kernel
theorem tyJ9_ok : ∀ k, k < 0 → parseFieldDescriptor (TJ9 k).2.2.1 = some (tyJ9 k) := by decide +kernel
abbrev cJ9_abs_0f7a4 : ByteArray := prog_21_method_59_code
def yJ9_abs_0f7a4 : MethodName := ⟨RJ9, "abs", "(I)I"⟩
abbrev cJ9_max_7cf53 : ByteArray := prog_21_method_65_code
def yJ9_max_7cf53 : MethodName := ⟨RJ9, "max", "(II)I"⟩
abbrev cJ9_min_7cf53 : ByteArray := prog_21_method_69_code
def yJ9_min_7cf53 : MethodName := ⟨RJ9, "min", "(II)I"⟩
def RJ0 : String := "java/lang/String"
def TJ0 : u_T := fun k => match k with
  | _ => ("", "", "", false)
def tyJ0 : Nat → FieldType := fun k => match k with
  | _ => .int
abbrev wsJ00 : List Cond := u_ws RJ0 TJ0 0
theorem nmJ0 : ∀ a, a < 0 → ∀ b, b < 0 → a ≠ b → (TJ0 a).2.1 ≠ (TJ0 b).2.1 := by decide +kernel
theorem tyJ0_ok : ∀ k, k < 0 → parseFieldDescriptor (TJ0 k).2.2.1 = some (tyJ0 k) := by decide +kernel
abbrev cJ0_length_8abf5 : ByteArray := prog_23_method_54_code
def yJ0_length_8abf5 : MethodName := ⟨RJ0, "length", "()I"⟩
abbrev cJ0_charAt_5068e : ByteArray := prog_23_method_56_code
def yJ0_charAt_5068e : MethodName := ⟨RJ0, "charAt", "(I)C"⟩
abbrev cJ0_coder_7d493 : ByteArray := prog_23_method_152_code
def yJ0_coder_7d493 : MethodName := ⟨RJ0, "code\x72", "()B"⟩
abbrev cJ0_isLatin1_aae02 : ByteArray := prog_23_method_154_code
def yJ0_isLatin1_aae02 : MethodName := ⟨RJ0, "isLatin1", "()Z"⟩
abbrev cJ0_checkIndex_df160 : ByteArray := prog_23_method_155_code
def yJ0_checkIndex_df160 : MethodName := ⟨RJ0, "checkIndex", "(II)V"⟩
def RJ1 : String := "java/lang/StringLatin1"
def TJ1 : u_T := fun k => match k with
  | _ => ("", "", "", false)
def tyJ1 : Nat → FieldType := fun k => match k with
  | _ => .int
abbrev wsJ10 : List Cond := u_ws RJ1 TJ1 0
theorem nmJ1 : ∀ a, a < 0 → ∀ b, b < 0 → a ≠ b → (TJ1 a).2.1 ≠ (TJ1 b).2.1 := by decide +kernel
theorem tyJ1_ok : ∀ k, k < 0 → parseFieldDescriptor (TJ1 k).2.2.1 = some (tyJ1 k) := by decide +kernel
abbrev cJ1_charAt_3b067 : ByteArray := prog_24_method_2_code
def yJ1_charAt_3b067 : MethodName := ⟨RJ1, "charAt", "([BI)C"⟩
def RJ2 : String := "java/lang/StringUTF16"
def TJ2 : u_T := fun k => match k with
  | _ => ("", "", "", false)
def tyJ2 : Nat → FieldType := fun k => match k with
  | _ => .int
abbrev wsJ20 : List Cond := u_ws RJ2 TJ2 0
theorem nmJ2 : ∀ a, a < 0 → ∀ b, b < 0 → a ≠ b → (TJ2 a).2.1 ≠ (TJ2 b).2.1 := by decide +kernel
theorem tyJ2_ok : ∀ k, k < 0 → parseFieldDescriptor (TJ2 k).2.2.1 = some (tyJ2 k) := by decide +kernel
abbrev cJ2_getChar_3b067 : ByteArray := prog_25_method_5_code
def yJ2_getChar_3b067 : MethodName := ⟨RJ2, "getCha\x72", "([BI)C"⟩
abbrev cJ2_length_9d52b : ByteArray := prog_25_method_6_code
def yJ2_length_9d52b : MethodName := ⟨RJ2, "length", "([B)I"⟩
abbrev cJ2_charAt_3b067 : ByteArray := prog_25_method_83_code
def yJ2_charAt_3b067 : MethodName := ⟨RJ2, "charAt", "([BI)C"⟩
abbrev cJ2_checkIndex_2214a : ByteArray := prog_25_method_91_code
def yJ2_checkIndex_2214a : MethodName := ⟨RJ2, "checkIndex", "(I[B)V"⟩
def RJ10 : String := "java/lang/System"
def TJ10 : u_T := fun k => match k with
  | _ => ("", "", "", false)
def tyJ10 : Nat → FieldType := fun k => match k with
  | _ => .int
abbrev wsJ100 : List Cond := u_ws RJ10 TJ10 0
theorem nmJ10 : ∀ a, a < 0 → ∀ b, b < 0 → a ≠ b → (TJ10 a).2.1 ≠ (TJ10 b).2.1 := by decide +kernel
theorem tyJ10_ok : ∀ k, k < 0 → parseFieldDescriptor (TJ10 k).2.2.1 = some (tyJ10 k) := by decide +kernel
def RJ3 : String := "jdk/internal/util/Preconditions"
def TJ3 : u_T := fun k => match k with
  | _ => ("", "", "", false)
def tyJ3 : Nat → FieldType := fun k => match k with
  | _ => .int
abbrev wsJ30 : List Cond := u_ws RJ3 TJ3 0
theorem nmJ3 : ∀ a, a < 0 → ∀ b, b < 0 → a ≠ b → (TJ3 a).2.1 ≠ (TJ3 b).2.1 := by decide +kernel
theorem tyJ3_ok : ∀ k, k < 0 → parseFieldDescriptor (TJ3 k).2.2.1 = some (tyJ3 k) := by decide +kernel
abbrev cJ3_checkIndex_8e157 : ByteArray := prog_28_method_11_code
def yJ3_checkIndex_8e157 : MethodName := ⟨RJ3, "checkIndex", "(IILjava/util/function/BiFunction;)I"⟩
def RL : String := "GalleryGuardsLaw"
abbrev cL_load : ByteArray := method_3_code
def yL_load : MethodName := ⟨RL, "load", "(LGalleryGuards;I[J)I"⟩
abbrev cL_vertexX : ByteArray := method_4_code
def yL_vertexX : MethodName := ⟨RL, "vertexX", "(LGalleryGuards;I[J)I"⟩
abbrev cL_vertexY : ByteArray := method_5_code
def yL_vertexY : MethodName := ⟨RL, "vertexY", "(LGalleryGuards;I[J)I"⟩
abbrev cL_doubleArea : ByteArray := method_6_code
def yL_doubleArea : MethodName := ⟨RL, "doubleArea", "(LGalleryGuards;[J)I"⟩
abbrev cL_reflexVertices : ByteArray := method_7_code
def yL_reflexVertices : MethodName := ⟨RL, "reflexVertices", "(LGalleryGuards;[J)I"⟩
abbrev cL_pointX : ByteArray := method_8_code
def yL_pointX : MethodName := ⟨RL, "pointX", "(LGalleryGuards;I[J)I"⟩
abbrev cL_pointY : ByteArray := method_9_code
def yL_pointY : MethodName := ⟨RL, "pointY", "(LGalleryGuards;I[J)I"⟩
abbrev cL_pointAt : ByteArray := method_10_code
def yL_pointAt : MethodName := ⟨RL, "pointAt", "(LGalleryGuards;II[J)I"⟩
abbrev cL_boundary : ByteArray := method_11_code
def yL_boundary : MethodName := ⟨RL, "boundary", "(LGalleryGuards;[J)I"⟩
abbrev cL_sees : ByteArray := method_12_code
def yL_sees : MethodName := ⟨RL, "sees", "(LGalleryGuards;II[J)I"⟩
abbrev cL_visible : ByteArray := method_13_code
def yL_visible : MethodName := ⟨RL, "visible", "(LGalleryGuards;I[J)I"⟩
abbrev cL_kernel : ByteArray := method_14_code
def yL_kernel : MethodName := ⟨RL, "kernel", "(LGalleryGuards;[J)I"⟩
abbrev cL_linkDistance : ByteArray := method_15_code
def yL_linkDistance : MethodName := ⟨RL, "linkDistance", "(LGalleryGuards;II[J)I"⟩
abbrev cL_diameter : ByteArray := method_16_code
def yL_diameter : MethodName := ⟨RL, "diamete\x72", "(LGalleryGuards;[J)I"⟩
abbrev cL_farthest : ByteArray := method_17_code
def yL_farthest : MethodName := ⟨RL, "farthest", "(LGalleryGuards;I[J)I"⟩
abbrev cL_seenFromEdge : ByteArray := method_18_code
def yL_seenFromEdge : MethodName := ⟨RL, "seenFromEdge", "(LGalleryGuards;I[J)I"⟩
abbrev cL_triangleVertex : ByteArray := method_19_code
def yL_triangleVertex : MethodName := ⟨RL, "triangleVertex", "(LGalleryGuards;II[J)I"⟩
abbrev cL_triangleArea : ByteArray := method_20_code
def yL_triangleArea : MethodName := ⟨RL, "triangleArea", "(LGalleryGuards;I[J)I"⟩
abbrev cL_colour : ByteArray := method_21_code
def yL_colour : MethodName := ⟨RL, "colou\x72", "(LGalleryGuards;I[J)I"⟩
abbrev cL_colourGuards : ByteArray := method_22_code
def yL_colourGuards : MethodName := ⟨RL, "colourGuards", "(LGalleryGuards;[J)I"⟩
abbrev cL_vertexGuards : ByteArray := method_23_code
def yL_vertexGuards : MethodName := ⟨RL, "vertexGuards", "(LGalleryGuards;[J)I"⟩
abbrev cL_edgeGuards : ByteArray := method_24_code
def yL_edgeGuards : MethodName := ⟨RL, "edgeGuards", "(LGalleryGuards;[J)I"⟩
abbrev cL_guardNumber : ByteArray := method_25_code
def yL_guardNumber : MethodName := ⟨RL, "guardNumbe\x72", "(LGalleryGuards;[J)I"⟩
abbrev cL_guardPoint : ByteArray := method_26_code
def yL_guardPoint : MethodName := ⟨RL, "guardPoint", "(LGalleryGuards;I[J)I"⟩
abbrev cL_witnessNumber : ByteArray := method_27_code
def yL_witnessNumber : MethodName := ⟨RL, "witnessNumbe\x72", "(LGalleryGuards;[J)I"⟩
abbrev cL_witness : ByteArray := method_28_code
def yL_witness : MethodName := ⟨RL, "witness", "(LGalleryGuards;I[J)I"⟩
abbrev cL_hiddenNumber : ByteArray := method_29_code
def yL_hiddenNumber : MethodName := ⟨RL, "hiddenNumbe\x72", "(LGalleryGuards;[J)I"⟩
abbrev cL_guardAt : ByteArray := method_30_code
def yL_guardAt : MethodName := ⟨RL, "guardAt", "(LGalleryGuards;I[J)I"⟩
abbrev cL_guardRange : ByteArray := method_31_code
def yL_guardRange : MethodName := ⟨RL, "guardRange", "(LGalleryGuards;I[J)I"⟩
abbrev cL_watched : ByteArray := method_32_code
def yL_watched : MethodName := ⟨RL, "watched", "(LGalleryGuards;I[J)I"⟩
abbrev cL_unwatched : ByteArray := method_33_code
def yL_unwatched : MethodName := ⟨RL, "unwatched", "(LGalleryGuards;[J)I"⟩
abbrev cL_watchers : ByteArray := method_34_code
def yL_watchers : MethodName := ⟨RL, "watchers", "(LGalleryGuards;I[J)I"⟩
abbrev cL_redundantGuards : ByteArray := method_35_code
def yL_redundantGuards : MethodName := ⟨RL, "redundantGuards", "(LGalleryGuards;[J)I"⟩
abbrev cL_bestPoint : ByteArray := method_36_code
def yL_bestPoint : MethodName := ⟨RL, "bestPoint", "(LGalleryGuards;[J)I"⟩
abbrev cL_greedyGuards : ByteArray := method_37_code
def yL_greedyGuards : MethodName := ⟨RL, "greedyGuards", "(LGalleryGuards;[J)I"⟩
abbrev cL_treasureAt : ByteArray := method_38_code
def yL_treasureAt : MethodName := ⟨RL, "treasureAt", "(LGalleryGuards;I[J)I"⟩
abbrev cL_watchedValue : ByteArray := method_39_code
def yL_watchedValue : MethodName := ⟨RL, "watchedValue", "(LGalleryGuards;[J)I"⟩
abbrev cL_bestValue : ByteArray := method_40_code
def yL_bestValue : MethodName := ⟨RL, "bestValue", "(LGalleryGuards;[J)I"⟩
abbrev cL_draw : ByteArray := method_41_code
def yL_draw : MethodName := ⟨RL, "draw", "(LGalleryGuards;I[J)I"⟩
abbrev cL_drawnByte : ByteArray := method_42_code
def yL_drawnByte : MethodName := ⟨RL, "drawnByte", "(LGalleryGuards;I[J)I"⟩
abbrev cL_addGuard : ByteArray := method_43_code
def yL_addGuard : MethodName := ⟨RL, "addGuard", "(LGalleryGuards;II[J)I"⟩
abbrev cL_removeGuard : ByteArray := method_44_code
def yL_removeGuard : MethodName := ⟨RL, "removeGuard", "(LGalleryGuards;I[J)I"⟩
abbrev cL_moveGuard : ByteArray := method_45_code
def yL_moveGuard : MethodName := ⟨RL, "moveGuard", "(LGalleryGuards;II[J)I"⟩
abbrev cL_setRange : ByteArray := method_46_code
def yL_setRange : MethodName := ⟨RL, "setRange", "(LGalleryGuards;II[J)I"⟩
abbrev cL_moveVertex : ByteArray := method_47_code
def yL_moveVertex : MethodName := ⟨RL, "moveVertex", "(LGalleryGuards;III[J)I"⟩
abbrev cL_insertVertex : ByteArray := method_48_code
def yL_insertVertex : MethodName := ⟨RL, "insertVertex", "(LGalleryGuards;III[J)I"⟩
abbrev cL_deleteVertex : ByteArray := method_49_code
def yL_deleteVertex : MethodName := ⟨RL, "deleteVertex", "(LGalleryGuards;I[J)I"⟩
abbrev cL_undo : ByteArray := method_50_code
def yL_undo : MethodName := ⟨RL, "undo", "(LGalleryGuards;[J)I"⟩
abbrev cL_save : ByteArray := method_51_code
def yL_save : MethodName := ⟨RL, "save", "(LGalleryGuards;I[J)I"⟩
abbrev cL_restore : ByteArray := method_52_code
def yL_restore : MethodName := ⟨RL, "restore", "(LGalleryGuards;I[J)I"⟩
abbrev cL_law : ByteArray := code
def yL_law : MethodName := ⟨RL, "law", "([I)Z"⟩
end
section
/-! the words that speak of the tables alone, one list for every method -/
def Big : List Cond := lw_tbl.filter goodWord
theorem big_in {w : Cond} (h : w ∈ lw_tbl) (g : goodWord w = true) : w ∈ Big := List.mem_filter.mpr ⟨h, g⟩
theorem big_t (i : Nat) {w : Cond} (h : tables_1[i]? = some w) (g : goodWord w = true) : w ∈ Big := big_in (List.mem_append_right _ (List.mem_of_getElem? h)) g
theorem big_s (i : Nat) {y : MethodName} {k : Nat} (h : lw_privs[i]? = some (y, k)) : Cond.selects y.cls y y ∈ Big :=
  big_in (List.mem_append_left _ (List.mem_map.mpr ⟨(y, k), List.mem_of_getElem? h, rfl⟩)) rfl
theorem big_g {w : Cond} (h : w ∈ Big) : (w.onTables && w.keeps) = true ∨ ∃ ty, w = .arrayClass ty := good_of_word (List.mem_filter.mp h).2
theorem big_sub {ws : List Cond} (h : ∀ w ∈ ws, w ∈ Big) : GoodIn Big ws := fun w hw => ⟨h w hw, big_g (h w hw)⟩
theorem big_ws {C : String} {T : u_T} {N : Nat} (h : ∀ k, k < N → u_lay C T k ∈ Big) : ∀ w ∈ u_ws C T N, w ∈ Big := by
  intro w hw
  obtain ⟨k, hk, rfl⟩ := List.mem_map.mp hw
  exact h k (List.mem_range.mp hk)
def CL : List vw_C := [(RX0, TX0, 9), (RX1, TX1, 3), (RX2, TX2, 7), (RX3, TX3, 5), (RX5, TX5, 5), (RX6, TX6, 11), (RX7, TX7, 4), (RX8, TX8, 5), (RX9, TX9, 9), (RX10, TX10, 3), (RX11, TX11, 18), (RX12, TX12, 41)]
/-- the texts that are loaded: class, place, text -/
def strs : List (String × Nat × String) := [(RX11, 125, "not so many bytes in the buffe\x72"), (RX11, 139, "the text has an erro\x72"), (RX11, 313, "there are 6 guards"), (RX11, 340, "there are 12 vertices"), (RX11, 349, "no change can be undone"), (RX11, 358, "nothing is saved there"), (RX11, 360, "no polygon"), (RX11, 362, "no such index"), (RX11, 364, "argument out of range"), (RX11, 376, "this change of the polygon is not possible"), (RX5, 41, "polygon"), (RX5, 83, "guard"), (RX5, 91, "treasure"), (RX5, 99, "range"), (RX12, 159, "polygon"), (RX12, 176, "range"), (RX12, 181, "guard"), (RX12, 183, "treasure")]
/-- the texts' letters, by the places of strs -/
def TXS : List (List Int32) := [[110, 111, 116, 32, 115, 111, 32, 109, 97, 110, 121, 32, 98, 121, 116, 101, 115, 32, 105, 110, 32, 116, 104, 101, 32, 98, 117, 102, 102, 101, 114], [116, 104, 101, 32, 116, 101, 120, 116, 32, 104, 97, 115, 32, 97, 110, 32, 101, 114, 114, 111, 114], [116, 104, 101, 114, 101, 32, 97, 114, 101, 32, 54, 32, 103, 117, 97, 114, 100, 115], [116, 104, 101, 114, 101, 32, 97, 114, 101, 32, 49, 50, 32, 118, 101, 114, 116, 105, 99, 101, 115], [110, 111, 32, 99, 104, 97, 110, 103, 101, 32, 99, 97, 110, 32, 98, 101, 32, 117, 110, 100, 111, 110, 101], [110, 111, 116, 104, 105, 110, 103, 32, 105, 115, 32, 115, 97, 118, 101, 100, 32, 116, 104, 101, 114, 101], [110, 111, 32, 112, 111, 108, 121, 103, 111, 110], [110, 111, 32, 115, 117, 99, 104, 32, 105, 110, 100, 101, 120], [97, 114, 103, 117, 109, 101, 110, 116, 32, 111, 117, 116, 32, 111, 102, 32, 114, 97, 110, 103, 101], [116, 104, 105, 115, 32, 99, 104, 97, 110, 103, 101, 32, 111, 102, 32, 116, 104, 101, 32, 112, 111, 108, 121, 103, 111, 110, 32, 105, 115, 32, 110, 111, 116, 32, 112, 111, 115, 115, 105, 98, 108, 101], [112, 111, 108, 121, 103, 111, 110], [103, 117, 97, 114, 100], [116, 114, 101, 97, 115, 117, 114, 101], [114, 97, 110, 103, 101], [112, 111, 108, 121, 103, 111, 110], [114, 97, 110, 103, 101], [103, 117, 97, 114, 100], [116, 114, 101, 97, 115, 117, 114, 101]]
/-- the texts' own cells, at D.2 1000, their letters at D.2 1001 -/
def Vs (D : va_G) (A : Nat → Prop) (U : State) (H : Heap) : Prop := (∀ (j : Nat) (t : List Int32), TXS[j]? = some t → va_O "java/lang/String" (D.2 1000 j) A U H ∧ va_OF "java/lang/String" "coder" "B" (.int 0) (D.2 1000 j) A U H ∧ va_OF "java/lang/String" "value" "[B" (.ref (D.2 1001 j)) (D.2 1000 j) A U H ∧ va_T .byte (D.2 1001 j) t.length (fun i => .int (t.getD i 0)) A U H) ∧ va_Z "java/lang/String" "COMPACT_STRINGS" "Z" (.int 1) A U H
theorem Vs.moved {D : va_G} {A : Nat → Prop} {u U : State} {H : Heap} (hvm : u.vm.Alike U.vm) (h : Vs D A u H) : Vs D A U H := ⟨fun j t ht => ⟨va_O.moved hvm (h.1 j t ht).1, va_OF.moved hvm (h.1 j t ht).2.1, va_OF.moved hvm (h.1 j t ht).2.2.1, va_T.moved hvm (h.1 j t ht).2.2.2⟩, va_Z.moved hvm h.2⟩
theorem Vs.kept {D : va_G} {A : Nat → Prop} {U : State} {H H1 : Heap} (h : Vs D A U H) (hq : ∀ a : Nat, a < H.size → ¬ A a → H1[a]? = H[a]?) : Vs D A U H1 := ⟨fun j t ht => ⟨(h.1 j t ht).1.kept hq, (h.1 j t ht).2.1.kept hq, (h.1 j t ht).2.2.1.kept hq, (h.1 j t ht).2.2.2.kept hq⟩, h.2.kept hq⟩
theorem Vs.narrow {D : va_G} {A B : Nat → Prop} {U : State} {H : Heap} (h : Vs D A U H) (hAB : ∀ q, B q → A q) : Vs D B U H := ⟨fun j t ht => ⟨(h.1 j t ht).1.narrow hAB, (h.1 j t ht).2.1.narrow hAB, (h.1 j t ht).2.2.1.narrow hAB, (h.1 j t ht).2.2.2.narrow hAB⟩, h.2.narrow hAB⟩
def Xw (D : va_G) (A : Nat → Prop) (U : State) (H : Heap) : Prop := vx_Zq Bundle.tN "UNASSIGNED_STACK" Bundle.steD A U H ∧ vx_Zq Bundle.tN "SUPPRESSED_SENTINEL" Bundle.listD A U H ∧ Vs D A U H
/-- the exceptions that are not one another -/
def ncs : List (String × String) := [("java/lang/IllegalStateException", "java/lang/IndexOutOfBoundsException"), ("java/lang/IllegalArgumentException", "java/lang/IndexOutOfBoundsException"), ("java/lang/IllegalStateException", "java/lang/IllegalArgumentException"), ("java/lang/IndexOutOfBoundsException", "java/lang/IllegalArgumentException"), ("java/lang/IndexOutOfBoundsException", "java/lang/IllegalStateException"), ("java/lang/IllegalArgumentException", "java/lang/IllegalStateException")]
def cas : List String := ["java/lang/IllegalStateException", "java/lang/IndexOutOfBoundsException", "java/lang/IllegalArgumentException"]
/-- words of the tables that are kept by themselves -/
def odd : List Cond := [.castable "java/lang/IllegalStateException" "java/lang/IllegalStateException", .castable "java/lang/IndexOutOfBoundsException" "java/lang/IndexOutOfBoundsException", .castable "java/lang/IllegalArgumentException" "java/lang/IllegalArgumentException", .declares ⟨"java/lang/RuntimeException", "<init>", "(Ljava/lang/String;)V"⟩, .declares ⟨"java/lang/Exception", "<init>", "(Ljava/lang/String;)V"⟩, .declares ⟨"java/lang/Throwable", "<init>", "(Ljava/lang/String;)V"⟩]
theorem odd_on {w : Cond} (h : w ∈ odd) : w.onTables = true := by
  simp only [odd, List.mem_cons, List.not_mem_nil, or_false] at h
  rcases h with rfl | rfl | rfl | rfl | rfl | rfl <;> rfl
theorem odd_warm {w : Cond} (h : w ∈ odd) {s U : State} (hW : s.WarmedH U.vm) (hz : va_Nw w s) : va_Nw w U := by
  simp only [odd, List.mem_cons, List.not_mem_nil, or_false] at h
  rcases h with rfl | rfl | rfl | rfl | rfl | rfl
  · exact va_tabs rfl (rfl : (s.setVm U.vm).vm = U.vm) ((Cond.castable_setVm hW.alike _ _).trans hz)
  · exact va_tabs rfl (rfl : (s.setVm U.vm).vm = U.vm) ((Cond.castable_setVm hW.alike _ _).trans hz)
  · exact va_tabs rfl (rfl : (s.setVm U.vm).vm = U.vm) ((Cond.castable_setVm hW.alike _ _).trans hz)
  · exact va_tabs rfl (rfl : (s.setVm U.vm).vm = U.vm) ((Cond.declares_setVm hW.alike _).trans hz)
  · exact va_tabs rfl (rfl : (s.setVm U.vm).vm = U.vm) ((Cond.declares_setVm hW.alike _).trans hz)
  · exact va_tabs rfl (rfl : (s.setVm U.vm).vm = U.vm) ((Cond.declares_setVm hW.alike _).trans hz)
theorem cas_odd {q : String} (h : q ∈ cas) : Cond.castable q q ∈ odd := by
  simp only [cas, List.mem_cons, List.not_mem_nil, or_false] at h
  rcases h with rfl | rfl | rfl
  · exact List.mem_of_getElem? (i := 0) rfl
  · exact List.mem_of_getElem? (i := 1) rfl
  · exact List.mem_of_getElem? (i := 2) rfl
/-- the private members that nest mates call -/
def nst : List (String × Nat × MethodName) := [(RX11, 11, yX2_init), (RX11, 18, yX6_init), (RX11, 28, yX3_init), (RX1, 24, yX6_init), (RX0, 92, yX11_has), (RX7, 74, yX11_has), (RX8, 48, yX11_has), (RX10, 60, yX11_has)]
def Sx (D : va_G) (U : State) : Prop := (∀ (j : Nat) (q : String × Nat × String), strs[j]? = some q → vk_R q.1 q.2.1 q.2.2 (D.2 1000 j) U) ∧ va_AO "GalleryGuards$Plan" U ∧ (∀ q ∈ ncs, va_Nc q.1 q.2 U) ∧ (∀ w ∈ odd, va_Nw w U) ∧ ∀ q ∈ nst, va_Nw (.methodLinkNest q.1 q.2.1 q.2.2 "GalleryGuards") U
theorem Sx.warm {D : va_G} {s U : State} (hW : s.WarmedH U.vm) (h : Sx D s) : Sx D U := ⟨fun j q hq => vk_R.warm hW (h.1 j q hq), h.2.1.moved hW.alike, fun q hq => (h.2.2.1 q hq).moved hW.alike, fun q hq => odd_warm hq hW (h.2.2.2.1 q hq), fun q hq => va_Nw.warmM hW (h.2.2.2.2 q hq)⟩
abbrev TT (cI cZ cJ : ClassId) : List (ClassId × FieldType) := [(cI, .int), (cZ, .boolean), (cJ, .long)]
theorem Xw.moved {D : va_G} {A : Nat → Prop} {u U : State} {H : Heap} (hvm : u.vm.Alike U.vm) (h : Xw D A u H) : Xw D A U H := ⟨h.1.moved hvm, h.2.1.moved hvm, h.2.2.moved hvm⟩
theorem Xw.kept {D : va_G} {A : Nat → Prop} {U : State} {H H1 : Heap} (h : Xw D A U H) (hq : ∀ a : Nat, a < H.size → ¬ A a → H1[a]? = H[a]?) : Xw D A U H1 := ⟨h.1.kept hq, h.2.1.kept hq, h.2.2.kept hq⟩
theorem Xw.narrow {D : va_G} {A B : Nat → Prop} {U : State} {H : Heap} (h : Xw D A U H) (hAB : ∀ q, B q → A q) : Xw D B U H := ⟨h.1.narrow hAB, h.2.1.narrow hAB, h.2.2.narrow hAB⟩
/-- the start of every method: the cells ws, apart, the tables, the statics of Throwable outside, the texts -/
def cPre (D : va_G) (T : List (ClassId × FieldType)) (av : List Value) (ws : va_W) (sz : Nat) : Array Value → State → Prop :=
  va_Pc av (fun U => U.heap.size = sz ∧ va_P D CL ws U.heap ∧ va_K D CL T U ∧ va_D (fun _ => True) ws ∧ Xw D (va_A ws sz) U U.heap ∧ Sx D U)
theorem cPre_blind {D : va_G} {T : List (ClassId × FieldType)} {av : List Value} {ws : va_W} {sz : Nat} : FrameBlind (cPre D T av ws sz) := by
  intro a U g mk h
  obtain ⟨h0, h1, h2, h3, h4, h5, h6⟩ := h
  exact ⟨h0, h1, h2, va_K.moved (u := U) (U := U.calling g mk a) (Vm.Alike.refl U.vm) h3, h4, Xw.moved (u := U) (U := U.calling g mk a) (Vm.Alike.refl U.vm) h5, Sx.warm (s := U) (U := U.calling g mk a) (State.WarmedH.refl U) h6⟩
def cEnd (D : va_G) (T : List (ClassId × FieldType)) (A : Nat → Prop) {S : Type} (w1 : S → va_W) (u : S) (t : State) : Prop := va_P D CL (w1 u) t.heap ∧ va_K D CL T t ∧ va_D A (w1 u)
def rmd (d mc ms : Nat) : Room := { frames := 20 * d + 20, cells := mc, slots := ms, locals := 200 * d + 200 }
def qV (D : va_G) (T : List (ClassId × FieldType)) {S : Type} (w1 : S → va_W) (A : Nat → Prop) : Array Value → State → Outcome → State → Prop := va_Qv (fun _ : S => True) (cEnd D T A w1) A
def qI (D : va_G) (T : List (ClassId × FieldType)) {S : Type} (f : S → Int32) (w1 : S → va_W) (A : Nat → Prop) : Array Value → State → Outcome → State → Prop := va_Qi (fun (r : Int32) (u : S) => r = f u) (cEnd D T A w1) A
def qL (D : va_G) (T : List (ClassId × FieldType)) {S : Type} (f : S → Int64) (w1 : S → va_W) (A : Nat → Prop) : Array Value → State → Outcome → State → Prop := va_Ql (fun (r : Int64) (u : S) => r = f u) (cEnd D T A w1) A
def qR (D : va_G) (T : List (ClassId × FieldType)) {S : Type} (f : S → Nat) (w1 : S → va_W) (A : Nat → Prop) : Array Value → State → Outcome → State → Prop := va_Qr (fun _ : S => True) (fun u a t => a = f u ∧ cEnd D T A w1 u t) A
def xX (D : va_G) (T : List (ClassId × FieldType)) (E : String) (wx : va_W) (A : Nat → Prop) : String → State → State → Prop := vx_X (fun _ : Unit => True) (fun E' _ t => E' = E ∧ cEnd D T A (fun _ : Unit => wx) () t) A
def cM (l : Launch) (y : MethodName) (cc : ByteArray) (n : Nat) (ret : Option FieldType) (D : va_G) (T : List (ClassId × FieldType)) (av : List Value) (ws : va_W) (Qf : (Nat → Prop) → Array Value → State → Outcome → State → Prop) (d mc ms : Nat) : Prop :=
  ∀ sz, Met l y (.code y cc n ret :: Big) (rmd d mc ms) (cPre D T av ws sz) (Qf (va_A ws sz)) mc ms (va_A ws sz)
def cMW (l : Launch) (y : MethodName) (cc : ByteArray) (n : Nat) (ret : Option FieldType) (hh : List (Nat × Nat × Nat × Nat)) (D : va_G) (T : List (ClassId × FieldType)) (av : List Value) (ws : va_W) (Qf : (Nat → Prop) → Array Value → State → Outcome → State → Prop) (d mc ms : Nat) : Prop :=
  ∀ sz, Met l y (.codeWith y cc n ret hh :: Big) (rmd d mc ms) (cPre D T av ws sz) (Qf (va_A ws sz)) mc ms (va_A ws sz)
def cX (l : Launch) (y : MethodName) (cc : ByteArray) (n : Nat) (ret : Option FieldType) (D : va_G) (T : List (ClassId × FieldType)) (av : List Value) (ws : va_W) (E : String) (wx : va_W) (d mc ms : Nat) : Prop :=
  ∀ sz, vx_Met l y (.code y cc n ret :: Big) (rmd d mc ms) (cPre D T av ws sz) (fun _ _ _ _ => False) (xX D T E wx (va_A ws sz)) mc ms (va_A ws sz)
/-- what holds in a method's body throughout -/
def Cx (p : Program) (s : State) (m : MethodId) (args : Array Value) (meth : Method) (c : Code) (cc : ByteArray) (n : Nat) (ret : Option FieldType) (y : MethodName) (D : va_G) (T : List (ClassId × FieldType)) (A : Nat → Prop) : Prop :=
  p.tables.exec = Jvm.exec ∧ c.code = cc ∧ c.maxLocals = n ∧ s.vm.findClass y.cls = some m.cls ∧ (∀ w ∈ Big, w.before args s = true) ∧ va_K D CL T s ∧ (∀ q, s.heap.size ≤ q → A q) ∧ Xw D A s s.heap ∧ Sx D s ∧ meth.locks = false ∧ meth.sig.returnType = ret ∧ (y.name = "<init>" → meth.name = "<init>")
section Enter
variable {l : Launch} {y : MethodName} {cc : ByteArray} {n : Nat} {ret : Option FieldType} {D : va_G} {T : List (ClassId × FieldType)} {av : List Value} {ws : va_W} {d mc ms : Nat}
theorem enterM {Qf : (Nat → Prop) → Array Value → State → Outcome → State → Prop} (hy : plainName y.cls = true) (hn : (lg_sl av).length ≤ n)
    (body : ∀ (p : Program) (e : Env) (s : State) (m : MethodId) (below : List Frame) (meth : Method) (c : Code) (ls : Array Slot) (A : Nat → Prop), Cx p s m av.toArray meth c cc n ret y D T A → va_P D CL ws s.heap → va_D A ws → va_S A s.heap s.heap [] → lv_has ls n (lv_args 0 av) →
      W p l e (rmd d mc ms) s m av.toArray below meth c s.heap [] 0 0 (MQ below (Qf A) av.toArray s mc ms A) (F0 m 0 ls [])) : cM l y cc n ret D T av ws Qf d mc ms := by
  intro sz
  refine Met.ofW (cc := cc) (maxL := n) (ret := ret) hy rfl ?_
  intro p e s m args below meth c s₁ B hml hv
  obtain ⟨rfl, hsz, hP, hK, hD0, hXw, hSx⟩ := hv
  subst hsz
  have hts := atoms_spec (ws := .code y cc n ret :: Big) B.pre
  have hl := lv_entry av (n := n) hn
  rw [lg_entry_eq]
  exact body p e s m below meth c _ _ ⟨B.exec, B.bytes, hml, findClass_of_methodNamed B.named, fun w h => hts w (List.mem_cons_of_mem _ h), hK, fun q h => Or.inr h, hXw, hSx, B.notSynchronized, B.returns, fun h => (name_of_methodNamed B.named B.method).1.trans h⟩ hP hD0.self va_S.rf hl
theorem enterW {hh : List (Nat × Nat × Nat × Nat)} {Qf : (Nat → Prop) → Array Value → State → Outcome → State → Prop} (hy : plainName y.cls = true) (hn : (lg_sl av).length ≤ n)
    (body : ∀ (p : Program) (e : Env) (s : State) (m : MethodId) (below : List Frame) (meth : Method) (c : Code) (ls : Array Slot) (A : Nat → Prop), Cx p s m av.toArray meth c cc n ret y D T A → c.exceptionTable.toList = tableOf hh → va_P D CL ws s.heap → va_D A ws → va_S A s.heap s.heap [] → lv_has ls n (lv_args 0 av) →
      W p l e (rmd d mc ms) s m av.toArray below meth c s.heap [] 0 0 (MQ below (Qf A) av.toArray s mc ms A) (F0 m 0 ls [])) : cMW l y cc n ret hh D T av ws Qf d mc ms := by
  intro sz
  refine MetFree.of_bodyS (code := cc) (maxLocals := n) (ret := ret) hy ?_ ?_
  · intro args s m h hnm
    obtain ⟨m9, meth, c, hn9, h1, h2, h3, h4, -, h5, h6, -⟩ := Cond.codeWith_spec (atoms_spec (ws := .codeWith y cc n ret hh :: Big) h _ List.mem_cons_self)
    cases hnm.symm.trans hn9
    exact ⟨meth, c, h1, h2, h3, h4, h5, h6⟩
  · intro p e s m args below meth c s₁ B hml hv _
    have hh0 : s₁.heap = s.heap := by rw [B.state]; rfl
    obtain ⟨rfl, hsz, hP, hK, hD0, hXw, hSx⟩ := hv
    subst hsz
    have hts := atoms_spec (ws := .codeWith y cc n ret hh :: Big) B.pre
    have hl := lv_entry av (n := n) hn
    have K := body p e s m below meth c _ (va_A ws s.heap.size) ⟨B.exec, B.bytes, hml, findClass_of_methodNamed B.named, fun w h => hts w (List.mem_cons_of_mem _ h), hK, fun q h => Or.inr h, hXw, hSx, B.notSynchronized, B.returns, fun h => (name_of_methodNamed B.named B.method).1.trans h⟩ (vx_table (x := y) B (hts _ List.mem_cons_self)) hP hD0.self va_S.rf hl
    rw [← lg_entry_eq] at K
    obtain ⟨t, a1, o, b1, b2, b3⟩ := K s₁ hh0 (Stand.of_body B)
    exact ⟨t, o, a1, b1, b2, ⟨b3.1, b3.2⟩⟩
theorem enterX {E : String} {wx : va_W} (hy : plainName y.cls = true) (hn : (lg_sl av).length ≤ n)
    (body : ∀ (p : Program) (e : Env) (s : State) (m : MethodId) (below : List Frame) (meth : Method) (c : Code) (ls : Array Slot) (A : Nat → Prop), Cx p s m av.toArray meth c cc n ret y D T A → (∀ x ∈ c.exceptionTable.toList, False) → va_P D CL ws s.heap → va_D A ws → va_S A s.heap s.heap [] → lv_has ls n (lv_args 0 av) →
      W p l e (rmd d mc ms) s m av.toArray below meth c s.heap [] 0 0 (vx_MQ below (fun _ _ _ _ => False) (xX D T E wx A) av.toArray s mc ms A) (F0 m 0 ls [])) : cX l y cc n ret D T av ws E wx d mc ms := by
  intro sz
  refine vx_ofW (cc := cc) (maxL := n) (ret := ret) hy rfl ?_
  intro p e s m args below meth c s₁ B hml ht hv
  obtain ⟨rfl, hsz, hP, hK, hD0, hXw, hSx⟩ := hv
  subst hsz
  have hts := atoms_spec (ws := .code y cc n ret :: Big) B.pre
  have hl := lv_entry av (n := n) hn
  rw [lg_entry_eq]
  exact body p e s m below meth c _ _ ⟨B.exec, B.bytes, hml, findClass_of_methodNamed B.named, fun w h => hts w (List.mem_cons_of_mem _ h), hK, fun q h => Or.inr h, hXw, hSx, B.notSynchronized, B.returns, fun h => (name_of_methodNamed B.named B.method).1.trans h⟩ ht hP hD0.self va_S.rf hl
end Enter
end
section
/-! rows in the packaging of part 05: a field, a new cell, an array, a return, a call, a throw -/
def Kc (ci : Nat) (C : String) (Tt : u_T) (N : Nat) (ty0 : Nat → FieldType) : Prop := CL[ci]? = some (C, Tt, N) ∧ (∀ w ∈ u_ws C Tt N, w ∈ Big) ∧ (∀ k, k < N → parseFieldDescriptor (Tt k).2.2.1 = some (ty0 k)) ∧ ∀ a, a < N → ∀ b, b < N → a ≠ b → (Tt a).2.1 ≠ (Tt b).2.1
/-- a field by its place in a class's pool: the field k of class ci, its type, whether it is final, whether the class itself declares it -/
def Fg (own : String) (idx ci k : Nat) (ty : FieldType) (fin dec : Bool) : Prop := ∃ (C : String) (Tt : u_T) (N : Nat) (ty0 : Nat → FieldType), Kc ci C Tt N ty0 ∧ k < N ∧ Cond.fieldLink own idx (Tt k).1 (Tt k).2.1 (Tt k).2.2.1 ∈ Big ∧ parseFieldDescriptor (Tt k).2.2.1 = some ty ∧ (Tt k).2.2.2 = fin ∧ (dec = true → (Tt k).1 = own)
def Nw (own : String) (idx ci N : Nat) (fs : List Value) : Prop := ∃ (C : String) (Tt : u_T) (ty0 : Nat → FieldType), Kc ci C Tt N ty0 ∧ Cond.classLink own idx C ∈ Big ∧ Cond.instantiable C N ∈ Big ∧ Cond.initialized C ∈ Big ∧ ∀ j, j < N → defaultValue (ty0 j) = vp_V fs j
def Cd (y : MethodName) (na : Nat) : Prop := y.cls ≠ "java/lang/invoke/MethodHandle" ∧ y.cls ≠ "java/lang/invoke/VarHandle" ∧ (parseMethodDescriptor y.desc).map (fun d => d.parameters.length) = some na
def CV (own : String) (idx : Nat) (y : MethodName) (bytes : ByteArray) (maxL : Nat) (ret : Option FieldType) (na : Nat) : Prop := Cond.methodLink own idx y ∈ Big ∧ Cond.instanceMethod y ∈ Big ∧ Cond.selects y.cls y y ∈ Big ∧ Cond.initialized y.cls ∈ Big ∧ Cond.code y bytes maxL ret ∈ Big ∧ Cd y na
def CI (own : String) (idx : Nat) (y : MethodName) (bytes : ByteArray) (maxL : Nat) (na : Nat) : Prop := Cond.methodLink own idx y ∈ Big ∧ Cond.instanceMethod y ∈ Big ∧ Cond.initialized y.cls ∈ Big ∧ Cond.code y bytes maxL none ∈ Big ∧ y.name = "<init>" ∧ Cd y na
def CIN (own : String) (idx : Nat) (y : MethodName) (bytes : ByteArray) (maxL : Nat) (na : Nat) : Prop := (own, idx, y) ∈ nst ∧ Cond.instanceMethod y ∈ Big ∧ Cond.initialized y.cls ∈ Big ∧ Cond.code y bytes maxL none ∈ Big ∧ y.name = "<init>" ∧ Cd y na
def CS (own : String) (idx : Nat) (y : MethodName) (bytes : ByteArray) (maxL : Nat) (ret : Option FieldType) (na : Nat) : Prop := Cond.methodLink own idx y ∈ Big ∧ Cond.static y ∈ Big ∧ Cond.initialized y.cls ∈ Big ∧ Cond.code y bytes maxL ret ∈ Big ∧ Cd y na
def CSW (own : String) (idx : Nat) (y : MethodName) (bytes : ByteArray) (maxL : Nat) (ret : Option FieldType) (hh : List (Nat × Nat × Nat × Nat)) (na : Nat) : Prop := Cond.methodLink own idx y ∈ Big ∧ Cond.static y ∈ Big ∧ Cond.initialized y.cls ∈ Big ∧ Cond.codeWith y bytes maxL ret hh ∈ Big ∧ Cd y na
/-- 'throw new cls(text)' by its places in the pool -/
def Tf (own : String) (ik is ic : Nat) (cls text : String) (names : List String) : Prop := Bundle.fit cls = true ∧ (∀ n ∈ names, Bundle.fit n = true) ∧ Cond.classLink own ik cls ∈ Big ∧ Cond.initialized cls ∈ Big ∧ (own, is, text) ∈ strs ∧ ∀ w ∈ vx_atS own ic cls names, w ∈ Big ∨ w ∈ odd
theorem sub_of {α β : Type} (f : α → Option β) (is : List α) (w : List β) (h : is.map f = w.map some) : is.filterMap f = w := by
  have h1 : is.filterMap f = (is.map f).filterMap id := by rw [List.filterMap_map]; rfl
  rw [h1, h, List.filterMap_map]
  show w.filterMap (fun x => some x) = w
  induction w with
  | nil => rfl
  | cons x r ih => simp
section Rows
variable {p : Program} {l : Launch} {e : Env} {R : Room} {s : State} {m : MethodId} {args : Array Value} {below : List Frame} {meth : Method} {c : Code} {H : Heap} {locs : List Loc} {cells slots : Nat} {Q : State → Prop}
variable {cc : ByteArray} {n : Nat} {ret : Option FieldType} {y0 : MethodName} {D : va_G} {T : List (ClassId × FieldType)} {A : Nat → Prop} {pc : Nat} {ls : Array Slot} {rest st : List Value} {ws wc wr : va_W} {a : Nat}
theorem r_get (C : Cx p s m args meth c cc n ret y0 D T A) (hP : va_P D CL ws H) (q0 : Nat) {idx ci k : Nat} {fs : List Value} (he : ws[q0]? = some (a, .inr (ci, fs))) {ty : FieldType} {fin dec : Bool} (F : Fg y0.cls idx ci k ty fin dec) {v : Value} (hv : fs[k]? = some v) (hdg : decode cc pc = .ok (.getfield idx, 3))
    (kk : W p l e R s m args below meth c H locs cells slots Q (F0 m (pc + 3) ls (v :: rest))) : W p l e R s m args below meth c H locs cells slots Q (F0 m pc ls (.ref a :: rest)) := by
  obtain ⟨hx, hb, -, hown, hts, hK, -⟩ := C
  obtain ⟨Cn, Tt, N, ty0, ⟨hc, hin, -, -⟩, hk, hl, -⟩ := F
  exact va_get hx hb hts hin hown hK hP q0 he hc k hk (hts _ hl) (fun _ h => h) hv hdg kk
theorem r_put (C : Cx p s m args meth c cc n ret y0 D T A) (hP : va_P D CL ws H) (hD : va_D A ws) (hS : va_S A s.heap H locs) (q0 : Nat) {idx ci k : Nat} {fs : List Value} (he : ws[q0]? = some (a, .inr (ci, fs))) {ty : FieldType} {dec : Bool} (F : Fg y0.cls idx ci k ty false dec) {v : Value} (hn : narrow ty v = v) (hf : fits ty v = true) (hl : k < fs.length) (hdg : decode cc pc = .ok (.putfield idx, 3)) (ws' : va_W) (hw : ws.set q0 (a, .inr (ci, fs.set k v)) = ws')
    (kk : ∀ (H1 : Heap) (locs1 : List Loc), va_P D CL ws' H1 → va_D A ws' → va_S A s.heap H1 locs1 → W p l e R s m args below meth c H1 locs1 cells slots Q (F0 m (pc + 3) ls rest)) : W p l e R s m args below meth c H locs cells slots Q (F0 m pc ls (v :: .ref a :: rest)) := by
  obtain ⟨hx, hb, -, hown, hts, hK, -⟩ := C
  obtain ⟨Cn, Tt, N, ty0, ⟨hc, hin, hty, hnm⟩, hk, hlk, hd, hfin, -⟩ := F
  subst hw
  exact va_put hx hb hts hin ty0 hty hnm hown hK hP hD hS q0 he hc k hk (hts _ hlk) (fun _ h => h) hfin hd hn hf hl hdg kk
theorem r_putF (C : Cx p s m args meth c cc n ret y0 D T A) (hi : y0.name = "<init>") (hP : va_P D CL ws H) (hD : va_D A ws) (hS : va_S A s.heap H locs) (q0 : Nat) {idx ci k : Nat} {fs : List Value} (he : ws[q0]? = some (a, .inr (ci, fs))) {ty : FieldType} (F : Fg y0.cls idx ci k ty true true) {v : Value} (hn : narrow ty v = v) (hf : fits ty v = true) (hl : k < fs.length) (hdg : decode cc pc = .ok (.putfield idx, 3)) (ws' : va_W) (hw : ws.set q0 (a, .inr (ci, fs.set k v)) = ws')
    (kk : ∀ (H1 : Heap) (locs1 : List Loc), va_P D CL ws' H1 → va_D A ws' → va_S A s.heap H1 locs1 → W p l e R s m args below meth c H1 locs1 cells slots Q (F0 m (pc + 3) ls rest)) : W p l e R s m args below meth c H locs cells slots Q (F0 m pc ls (v :: .ref a :: rest)) := by
  obtain ⟨hx, hb, -, hown, hts, hK, -, -, -, -, -, hnm0⟩ := C
  obtain ⟨Cn, Tt, N, ty0, ⟨hc, hin, hty, hnm⟩, hk, hlk, hd, hfin, hdec⟩ := F
  subst hw
  exact va_putF hx hb hts hin ty0 hty hnm hown hK hP hD hS q0 he hc k hk (hts _ hlk) (fun _ h => h) hfin (hnm0 hi) (hdec rfl) hd hn hf hl hdg kk
theorem r_new (C : Cx p s m args meth c cc n ret y0 D T A) (hP : va_P D CL ws H) (hD : va_D A ws) (hS : va_S A s.heap H locs) {idx ci N : Nat} {fs : List Value} (F : Nw y0.cls idx ci N fs) (hcells : cells + 1 ≤ R.cells) (hslots : slots + N ≤ R.slots) (hdg : decode cc pc = .ok (.new idx, 3))
    (kk : ∀ (q : Nat) (H1 : Heap), va_P D CL (ws ++ [(q, .inr (ci, fs))]) H1 → va_D A (ws ++ [(q, .inr (ci, fs))]) → va_S A s.heap H1 locs → W p l e R s m args below meth c H1 locs (cells + 1) (slots + N) Q (F0 m (pc + 3) ls (.ref q :: rest))) : W p l e R s m args below meth c H locs cells slots Q (F0 m pc ls rest) := by
  obtain ⟨hx, hb, -, hown, hts, hK, hA, -⟩ := C
  obtain ⟨Cn, Tt, ty0, ⟨hc, hin, hty, -⟩, hcl, hins, hini, hfs⟩ := F
  exact va_new hx hb hts hin ty0 hty hown (hts _ hcl) (hts _ hins) (hts _ hini) hK hP hD hS hA hc hfs hcells hslots hdg kk
theorem ra_inj {U : State} {c1 c2 : ClassId} {atype : ArrayType} (h1 : va_RA U c1 (newarray.typeOf atype)) (h2 : va_RA U c2 (newarray.typeOf atype)) : c1 = c2 := by
  cases atype <;> exact Option.some.inj (Eq.trans (Eq.symm h1) h2)
theorem r_newa (C : Cx p s m args meth c cc n ret y0 D T A) (hP : va_P D CL ws H) (hD : va_D A ws) (hS : va_S A s.heap H locs) {atype : ArrayType} {ty : FieldType} (hat : Cond.arrayClass (newarray.typeOf atype) ∈ Big) (hty : newarray.typeOf atype = ty) (t0 : Nat) {cA : ClassId} (ht : T[t0]? = some (cA, ty)) {k : Int32} {N' : Nat} {a0 : vp_A} (ha : ∀ cA : ClassId, vp_cell cA a0 = arrV cA N' (fun _ => defaultValue ty)) (hn : ¬ k < 0) (hN : k.toNatClampNeg = N') (hbytes : N' * componentBytes ty ≤ 536870912) (hcells : cells + 1 ≤ R.cells) (hslots : slots + N' ≤ R.slots) (hdg : decode cc pc = .ok (.newarray atype, 2))
    (kk : ∀ (q : Nat) (H1 : Heap), va_P D CL (ws ++ [(q, .inl (cA, a0))]) H1 → va_D A (ws ++ [(q, .inl (cA, a0))]) → va_S A s.heap H1 locs → W p l e R s m args below meth c H1 locs (cells + 1) (slots + N') Q (F0 m (pc + 2) ls (.ref q :: rest))) : W p l e R s m args below meth c H locs cells slots Q (F0 m pc ls (.int k :: rest)) := by
  obtain ⟨hx, hb, -, hown, hts, hK, hA, -⟩ := C
  refine va_newa hx hb (hts _ hat) hty hK hP hD hS hA ha hn hN hbytes hcells hslots hdg (fun q cB H1 hK1 hP1 hD1 hS1 => ?_)
  have e1 : va_RA s cB ty := (hK1.2 T.length (cB, ty) (by rw [List.getElem?_append_right (Nat.le_refl _), Nat.sub_self]; rfl)).2
  have e2 : va_RA s cA ty := (hK.2 t0 _ ht).2
  subst hty
  have e3 := ra_inj e1 e2
  subst e3
  exact kk q H1 hP1 hD1 hS1
theorem nd_range (k : Nat) : va_nd (List.range k) = true ∨ True := Or.inr trivial
/-- a new array that nobody will read -/
theorem r_newaF (C : Cx p s m args meth c cc n ret y0 D T A) (hP : va_P D CL ws H) (hD : va_D A ws) (hS : va_S A s.heap H locs) {atype : ArrayType} {ty : FieldType} (hat : Cond.arrayClass (newarray.typeOf atype) ∈ Big) (hty : newarray.typeOf atype = ty) {k : Int32} {N' : Nat} {a0 : vp_A} (ha : ∀ cA : ClassId, vp_cell cA a0 = arrV cA N' (fun _ => defaultValue ty)) (hn : ¬ k < 0) (hN : k.toNatClampNeg = N') (hbytes : N' * componentBytes ty ≤ 536870912) (hcells : cells + 1 ≤ R.cells) (hslots : slots + N' ≤ R.slots) (hdg : decode cc pc = .ok (.newarray atype, 2))
    (kk : ∀ (q : Nat) (H1 : Heap), va_P D CL ws H1 → va_S A s.heap H1 locs → W p l e R s m args below meth c H1 locs (cells + 1) (slots + N') Q (F0 m (pc + 2) ls (.ref q :: rest))) : W p l e R s m args below meth c H locs cells slots Q (F0 m pc ls (.int k :: rest)) := by
  obtain ⟨hx, hb, -, hown, hts, hK, hA, -⟩ := C
  refine va_newa hx hb (hts _ hat) hty hK hP hD hS hA ha hn hN hbytes hcells hslots hdg (fun q cB H1 hK1 hP1 hD1 hS1 => ?_)
  exact kk q H1 (fun i x hi => hP1 i x (by rw [List.getElem?_append_left (List.getElem?_eq_some_iff.mp hi).1]; exact hi)) hS1
theorem r_vret (C : Cx p s m args meth c cc n none y0 D T A) (hP : va_P D CL ws H) (hD : va_D A ws) (hS : va_S A s.heap H locs) {S : Type} {w1 : S → va_W} (u : S) (hw : ws = w1 u) {mc ms : Nat} (hc : cells ≤ mc) (hs : slots ≤ ms) (hdg : decode cc pc = .ok (.return_, 1)) : W p l e R s m args below meth c H locs cells slots (MQ below (qV D T w1 A) args s mc ms A) (F0 m pc ls []) := by
  obtain ⟨hx, hb, -, -, -, hK, -, -, -, hlocks, hr, -⟩ := C
  subst hw
  refine W.widen hc hs ?_
  exact W.vret hx hb hr (fun t ht hW => ⟨⟨u, rfl, trivial, by rw [ht]; exact hP, va_K.moved hW.alike hK, hD⟩, hS.F ht⟩) hS.2.2 hdg hlocks
theorem r_iret (C : Cx p s m args meth c cc n (some .int) y0 D T A) (hP : va_P D CL ws H) (hD : va_D A ws) (hS : va_S A s.heap H locs) {S : Type} {f : S → Int32} {w1 : S → va_W} (u : S) (hw : ws = w1 u) {v : Int32} (hv : v = f u) {mc ms : Nat} (hc : cells ≤ mc) (hs : slots ≤ ms) (hdg : decode cc pc = .ok (.ireturn, 1)) : W p l e R s m args below meth c H locs cells slots (MQ below (qI D T f w1 A) args s mc ms A) (F0 m pc ls [.int v]) := by
  obtain ⟨hx, hb, -, -, -, hK, -, -, -, hlocks, hr, -⟩ := C
  subst hw
  refine W.widen hc hs ?_
  exact W.iret hx hb hr (fun t ht hW => ⟨⟨v, u, rfl, hv, by rw [ht]; exact hP, va_K.moved hW.alike hK, hD⟩, hS.F ht⟩) hS.2.2 hdg hlocks
theorem r_zret (C : Cx p s m args meth c cc n (some .boolean) y0 D T A) (hP : va_P D CL ws H) (hD : va_D A ws) (hS : va_S A s.heap H locs) {S : Type} {f : S → Int32} {w1 : S → va_W} (u : S) (hw : ws = w1 u) {v : Int32} (hv : v = f u) (hn : narrow .boolean (.int v) = .int v) {mc ms : Nat} (hc : cells ≤ mc) (hs : slots ≤ ms) (hdg : decode cc pc = .ok (.ireturn, 1)) : W p l e R s m args below meth c H locs cells slots (MQ below (qI D T f w1 A) args s mc ms A) (F0 m pc ls [.int v]) := by
  obtain ⟨hx, hb, -, -, -, hK, -, -, -, hlocks, hr, -⟩ := C
  subst hw
  refine W.widen hc hs ?_
  exact W.zret hx hb hr hn (fun t ht hW => ⟨⟨v, u, rfl, hv, by rw [ht]; exact hP, va_K.moved hW.alike hK, hD⟩, hS.F ht⟩) hS.2.2 hdg hlocks
theorem r_lret (C : Cx p s m args meth c cc n (some .long) y0 D T A) (hP : va_P D CL ws H) (hD : va_D A ws) (hS : va_S A s.heap H locs) {S : Type} {f : S → Int64} {w1 : S → va_W} (u : S) (hw : ws = w1 u) {v : Int64} (hv : v = f u) {mc ms : Nat} (hc : cells ≤ mc) (hs : slots ≤ ms) (hdg : decode cc pc = .ok (.lreturn, 1)) : W p l e R s m args below meth c H locs cells slots (MQ below (qL D T f w1 A) args s mc ms A) (F0 m pc ls [.long v]) := by
  obtain ⟨hx, hb, -, -, -, hK, -, -, -, hlocks, hr, -⟩ := C
  subst hw
  refine W.widen hc hs ?_
  exact W.lret hx hb hr (fun t ht hW => ⟨⟨v, u, rfl, hv, by rw [ht]; exact hP, va_K.moved hW.alike hK, hD⟩, hS.F ht⟩) hS.2.2 hdg hlocks
theorem r_aret {rt : FieldType} (C : Cx p s m args meth c cc n (some rt) y0 D T A) (hrt : (∃ n, rt = .object n) ∨ ∃ t, rt = .array t) (hP : va_P D CL ws H) (hD : va_D A ws) (hS : va_S A s.heap H locs) {S : Type} {f : S → Nat} {w1 : S → va_W} (u : S) (hw : ws = w1 u) {v : Nat} (hv : v = f u) {mc ms : Nat} (hc : cells ≤ mc) (hs : slots ≤ ms) (hdg : decode cc pc = .ok (.areturn, 1)) : W p l e R s m args below meth c H locs cells slots (MQ below (qR D T f w1 A) args s mc ms A) (F0 m pc ls [.ref v]) := by
  obtain ⟨hx, hb, -, -, -, hK, -, -, -, hlocks, hr, -⟩ := C
  subst hw
  refine W.widen hc hs ?_
  exact W.aret hx hb hr hrt (Or.inr ⟨v, rfl⟩) (fun t ht hW => ⟨⟨u, v, rfl, trivial, hv, by rw [ht]; exact hP, va_K.moved hW.alike hK, hD⟩, hS.F ht⟩) hS.2.2 hdg hlocks
theorem pre_of (C : Cx p s m args meth c cc n ret y0 D T A) (hP : va_P D CL ws H) (hD : va_D A ws) (hS : va_S A s.heap H locs) {av : List Value} (isC : List Nat) (hC : isC.map (fun i => ws[i]?) = wc.map some) (hnC : va_nd isC = true) : ∀ U : State, U.heap = H → s.WarmedH U.vm → cPre D T av wc H.size av.toArray U := by
  intro U hU hW
  obtain ⟨-, -, -, -, -, hK, hA, hXw, hSx, -⟩ := C
  have hF := va_free hD hS hA isC hC
  refine ⟨rfl, by rw [hU], by rw [hU]; exact hP.sub isC (sub_of _ _ _ hC), va_K.moved hW.alike hK, (hD.sub isC hnC hC).weaken (fun _ _ _ _ => trivial), ?_, hSx.warm hW⟩
  rw [hU]
  exact Xw.moved hW.alike ((hXw.kept hS.2.1).narrow hF)
end Rows
end
section
/-! calls and throws in the packaging -/
section Calls
variable {p : Program} {l : Launch} {e : Env} {R : Room} {s : State} {m : MethodId} {args : Array Value} {below : List Frame} {meth : Method} {c : Code} {H : Heap} {locs : List Loc} {cells slots : Nat} {Q : State → Prop}
variable {cc : ByteArray} {n : Nat} {ret : Option FieldType} {y0 : MethodName} {D : va_G} {T : List (ClassId × FieldType)} {A : Nat → Prop} {pc : Nat} {ls : Array Slot} {rest st As : List Value} {ws wc wr wx : va_W} {b : Nat}
variable {y : MethodName} {bytes : ByteArray} {maxL na idx d mc ms : Nat} {rt : Option FieldType} {Qf : (Nat → Prop) → Array Value → State → Outcome → State → Prop} {E : String}
theorem cv_cw (h : CV y0.cls idx y bytes maxL rt na) (ht : ∀ w ∈ Big, w.before args s = true) (hR : (rmd d mc ms).frames + 1 ≤ R.frames ∧ 8 + (maxL + 11) + (rmd d mc ms).locals ≤ R.locals) : CallW R s args y0.cls y.cls idx y bytes maxL rt (.code y bytes maxL rt :: Big) (rmd d mc ms) mc ms na := by
  obtain ⟨h1, h2, h3, h4, h5, h6⟩ := h
  refine cwV na ht (big_sub (fun w hw => ?_)) rfl rfl rfl ⟨rfl, h6⟩ hR
  unfold wsV at hw
  rcases List.mem_append.mp hw with hw | hw
  · simp only [List.mem_cons, List.not_mem_nil, or_false] at hw
    rcases hw with rfl | rfl | rfl | rfl <;> assumption
  · rcases List.mem_cons.mp hw with rfl | hw
    · exact h5
    · exact hw
theorem ci_cw (h : CI y0.cls idx y bytes maxL na) (ht : ∀ w ∈ Big, w.before args s = true) (hR : (rmd d mc ms).frames + 1 ≤ R.frames ∧ 8 + (maxL + 11) + (rmd d mc ms).locals ≤ R.locals) : CallB R s args y0.cls idx y bytes maxL none (.code y bytes maxL none :: Big) (rmd d mc ms) mc ms na ∧ y.name = "<init>" ∧ (Cond.instanceMethod y).before args s = true := by
  obtain ⟨h1, h2, h4, h5, hn, h6⟩ := h
  refine cwI na ht (big_sub (fun w hw => ?_)) rfl rfl rfl (ht _ h4) (ht _ h1) (ht _ h2) hn h6 hR
  rcases List.mem_cons.mp hw with rfl | hw
  · exact h5
  · exact hw
theorem cs_cw (h : CS y0.cls idx y bytes maxL rt na) (ht : ∀ w ∈ Big, w.before args s = true) (hR : (rmd d mc ms).frames + 1 ≤ R.frames ∧ 8 + (maxL + 11) + (rmd d mc ms).locals ≤ R.locals) : CallB R s args y0.cls idx y bytes maxL rt (.code y bytes maxL rt :: Big) (rmd d mc ms) mc ms na ∧ (Cond.static y).before args s = true := by
  obtain ⟨h1, h2, h4, h5, h6⟩ := h
  refine va_cwS na ht (big_sub (fun w hw => ?_)) rfl rfl rfl h6 hR
  unfold va_wsS at hw
  rcases List.mem_append.mp hw with hw | hw
  · simp only [List.mem_cons, List.not_mem_nil, or_false] at hw
    rcases hw with rfl | rfl | rfl <;> assumption
  · rcases List.mem_cons.mp hw with rfl | hw
    · exact h5
    · exact hw
theorem csw_cw {hh : List (Nat × Nat × Nat × Nat)} (h : CSW y0.cls idx y bytes maxL rt hh na) (ht : ∀ w ∈ Big, w.before args s = true) (hR : (rmd d mc ms).frames + 1 ≤ R.frames ∧ 8 + (maxL + 11) + (rmd d mc ms).locals ≤ R.locals) : vx_CSW R s args y0.cls idx y bytes maxL rt hh (.codeWith y bytes maxL rt hh :: Big) (rmd d mc ms) mc ms na := by
  obtain ⟨h1, h2, h4, h5, h6⟩ := h
  refine vx_cwSW na ht (big_sub (fun w hw => ?_)) rfl rfl rfl h6 hR
  unfold va_wsS at hw
  rcases List.mem_append.mp hw with hw | hw
  · simp only [List.mem_cons, List.not_mem_nil, or_false] at hw
    rcases hw with rfl | rfl | rfl <;> assumption
  · rcases List.mem_cons.mp hw with rfl | hw
    · exact h5
    · exact hw
theorem run_V (C : Cx p s m args meth c cc n ret y0 D T A) (hM : cM l y bytes maxL rt D T (.ref b :: As) wc Qf d mc ms) (cv : CV y0.cls idx y bytes maxL rt na) (hP : va_P D CL ws H) (hD : va_D A ws) (hS : va_S A s.heap H locs) (isC : List Nat) (hC : isC.map (fun i => ws[i]?) = wc.map some) (hnC : va_nd isC = true) (q0 : Nat) {ci : Nat} {fs : List Value} (he : wc[q0]? = some (b, .inr (ci, fs))) {q : vw_C} (hc : CL[ci]? = some q) (hq : q.1 = y.cls) (hna : As.length = na) (hz : ls.size = n) (hst : st = As.reverse ++ .ref b :: rest) (hroom : (rest.map fun v => v.category).sum ≤ 8) (hdg : decode cc pc = .ok (.invokevirtual idx, 3))
    (hR : (rmd d mc ms).frames + 1 ≤ R.frames ∧ 8 + (maxL + 11) + (rmd d mc ms).locals ≤ R.locals) (hf : cells + mc ≤ R.cells ∧ slots + ms ≤ R.slots) : va_Run p l e R s m args below meth c H locs cells slots mc ms (F0 m pc ls st) rest (Qf (va_A wc H.size) (Value.ref b :: As).toArray) (va_A wc H.size) := by
  have hpre := pre_of (av := .ref b :: As) C hP hD hS isC hC hnC
  obtain ⟨hx, hb, hml, hown, hts, hK, -⟩ := C
  have hrec := va_recv hK (hP.sub isC (sub_of _ _ _ hC)) hc he
  rw [hq] at hrec
  exact va_runV (As := As) (rest := rest) ⟨hx, hb, hml, hown, hts⟩ (hM H.size) (cv_cw cv hts hR) ⟨cPre_blind, hrec, hpre⟩ rfl hna hz hst (lv_room hroom) hdg hf
theorem run_I (C : Cx p s m args meth c cc n ret y0 D T A) (hM : cM l y bytes maxL none D T (.ref b :: As) wc Qf d mc ms) (cv : CI y0.cls idx y bytes maxL na) (hP : va_P D CL ws H) (hD : va_D A ws) (hS : va_S A s.heap H locs) (isC : List Nat) (hC : isC.map (fun i => ws[i]?) = wc.map some) (hnC : va_nd isC = true) (hna : As.length = na) (hz : ls.size = n) (hst : st = As.reverse ++ .ref b :: rest) (hroom : (rest.map fun v => v.category).sum ≤ 8) (hdg : decode cc pc = .ok (.invokespecial idx, 3))
    (hR : (rmd d mc ms).frames + 1 ≤ R.frames ∧ 8 + (maxL + 11) + (rmd d mc ms).locals ≤ R.locals) (hf : cells + mc ≤ R.cells ∧ slots + ms ≤ R.slots) : va_Run p l e R s m args below meth c H locs cells slots mc ms (F0 m pc ls st) rest (Qf (va_A wc H.size) (Value.ref b :: As).toArray) (va_A wc H.size) := by
  have hpre := pre_of (av := .ref b :: As) C hP hD hS isC hC hnC
  obtain ⟨hx, hb, hml, hown, hts, hK, -⟩ := C
  exact va_runI (As := As) (rest := rest) ⟨hx, hb, hml, hown, hts⟩ (hM H.size) (ci_cw cv hts hR) ⟨cPre_blind, hpre⟩ rfl hna hz hst (lv_room hroom) hdg hf
theorem run_IN (C : Cx p s m args meth c cc n ret y0 D T A) (hM : cM l y bytes maxL none D T (.ref b :: As) wc Qf d mc ms) (cv : CIN y0.cls idx y bytes maxL na) (hP : va_P D CL ws H) (hD : va_D A ws) (hS : va_S A s.heap H locs) (isC : List Nat) (hC : isC.map (fun i => ws[i]?) = wc.map some) (hnC : va_nd isC = true) (hna : As.length = na) (hz : ls.size = n) (hst : st = As.reverse ++ .ref b :: rest) (hroom : (rest.map fun v => v.category).sum ≤ 8) (hdg : decode cc pc = .ok (.invokespecial idx, 3))
    (hR : (rmd d mc ms).frames + 1 ≤ R.frames ∧ 8 + (maxL + 11) + (rmd d mc ms).locals ≤ R.locals) (hf : cells + mc ≤ R.cells ∧ slots + ms ≤ R.slots) : va_Run p l e R s m args below meth c H locs cells slots mc ms (F0 m pc ls st) rest (Qf (va_A wc H.size) (Value.ref b :: As).toArray) (va_A wc H.size) := by
  have hpre := pre_of (av := .ref b :: As) C hP hD hS isC hC hnC
  obtain ⟨hx, hb, hml, hown, hts, hK, -, -, hSx, -⟩ := C
  obtain ⟨h1, h2, h4, h5, hn, h6⟩ := cv
  have hcw : va_CN R s args y0.cls idx y "GalleryGuards" bytes maxL none (.code y bytes maxL none :: Big) (rmd d mc ms) mc ms na := va_cnB na hts (big_sub (fun w hw => by
    rcases List.mem_cons.mp hw with rfl | hw
    · exact h5
    · exact hw)) rfl rfl rfl (hSx.2.2.2.2 _ h1) (hts _ h4) h6 hR
  exact va_runIN (As := As) (rest := rest) ⟨hx, hb, hml, hown, hts⟩ (hM H.size) ⟨hcw, hn, hts _ h2⟩ ⟨cPre_blind, hpre⟩ rfl hna hz hst (lv_room hroom) hdg hf
theorem run_S (C : Cx p s m args meth c cc n ret y0 D T A) (hM : cM l y bytes maxL rt D T As wc Qf d mc ms) (cv : CS y0.cls idx y bytes maxL rt na) (hP : va_P D CL ws H) (hD : va_D A ws) (hS : va_S A s.heap H locs) (isC : List Nat) (hC : isC.map (fun i => ws[i]?) = wc.map some) (hnC : va_nd isC = true) (hna : As.length = na) (hz : ls.size = n) (hst : st = As.reverse ++ rest) (hroom : (rest.map fun v => v.category).sum ≤ 8) (hdg : decode cc pc = .ok (.invokestatic idx, 3))
    (hR : (rmd d mc ms).frames + 1 ≤ R.frames ∧ 8 + (maxL + 11) + (rmd d mc ms).locals ≤ R.locals) (hf : cells + mc ≤ R.cells ∧ slots + ms ≤ R.slots) : va_Run p l e R s m args below meth c H locs cells slots mc ms (F0 m pc ls st) rest (Qf (va_A wc H.size) As.toArray) (va_A wc H.size) := by
  have hpre := pre_of (av := As) C hP hD hS isC hC hnC
  obtain ⟨hx, hb, hml, hown, hts, hK, -⟩ := C
  exact va_runS (As := As) (rest := rest) ⟨hx, hb, hml, hown, hts⟩ (hM H.size) (cs_cw cv hts hR) ⟨cPre_blind, hpre⟩ rfl hna hz hst (lv_room hroom) hdg hf
theorem run_SW {hh : List (Nat × Nat × Nat × Nat)} (C : Cx p s m args meth c cc n ret y0 D T A) (hM : cMW l y bytes maxL rt hh D T As wc Qf d mc ms) (cv : CSW y0.cls idx y bytes maxL rt hh na) (hP : va_P D CL ws H) (hD : va_D A ws) (hS : va_S A s.heap H locs) (isC : List Nat) (hC : isC.map (fun i => ws[i]?) = wc.map some) (hnC : va_nd isC = true) (hna : As.length = na) (hz : ls.size = n) (hst : st = As.reverse ++ rest) (hroom : (rest.map fun v => v.category).sum ≤ 8) (hdg : decode cc pc = .ok (.invokestatic idx, 3))
    (hR : (rmd d mc ms).frames + 1 ≤ R.frames ∧ 8 + (maxL + 11) + (rmd d mc ms).locals ≤ R.locals) (hf : cells + mc ≤ R.cells ∧ slots + ms ≤ R.slots) : va_Run p l e R s m args below meth c H locs cells slots mc ms (F0 m pc ls st) rest (Qf (va_A wc H.size) As.toArray) (va_A wc H.size) := by
  have hpre := pre_of (av := As) C hP hD hS isC hC hnC
  obtain ⟨hx, hb, hml, hown, hts, hK, -⟩ := C
  exact vx_runSW (As := As) (rest := rest) ⟨hx, hb, hml, hown, hts⟩ (hM H.size) (csw_cw cv hts hR) ⟨cPre_blind, hpre⟩ rfl hna hz hst (lv_room hroom) hdg hf
theorem run_VX (C : Cx p s m args meth c cc n ret y0 D T A) (hM : cX l y bytes maxL rt D T (.ref b :: As) wc E wx d mc ms) (cv : CV y0.cls idx y bytes maxL rt na) (hP : va_P D CL ws H) (hD : va_D A ws) (hS : va_S A s.heap H locs) (isC : List Nat) (hC : isC.map (fun i => ws[i]?) = wc.map some) (hnC : va_nd isC = true) (q0 : Nat) {ci : Nat} {fs : List Value} (he : wc[q0]? = some (b, .inr (ci, fs))) {q : vw_C} (hc : CL[ci]? = some q) (hq : q.1 = y.cls) (hna : As.length = na) (hz : ls.size = n) (hst : st = As.reverse ++ .ref b :: rest) (hroom : (rest.map fun v => v.category).sum ≤ 8) (hdg : decode cc pc = .ok (.invokevirtual idx, 3))
    (hR : (rmd d mc ms).frames + 1 ≤ R.frames ∧ 8 + (maxL + 11) + (rmd d mc ms).locals ≤ R.locals) (hf : cells + mc ≤ R.cells ∧ slots + ms ≤ R.slots) : vx_Run p l e R s m args below meth c H locs cells slots mc ms (F0 m pc ls st) rest (fun _ _ _ => False) (xX D T E wx (va_A wc H.size)) (va_A wc H.size) := by
  have hpre := pre_of (av := .ref b :: As) C hP hD hS isC hC hnC
  obtain ⟨hx, hb, hml, hown, hts, hK, -⟩ := C
  have hrec := va_recv hK (hP.sub isC (sub_of _ _ _ hC)) hc he
  rw [hq] at hrec
  exact vx_runV (As := As) (rest := rest) ⟨hx, hb, hml, hown, hts⟩ (hM H.size) (cv_cw cv hts hR) ⟨cPre_blind, hrec, hpre⟩ rfl hna hz hst (lv_room hroom) hdg hf
theorem run_SX (C : Cx p s m args meth c cc n ret y0 D T A) (hM : cX l y bytes maxL rt D T As wc E wx d mc ms) (cv : CS y0.cls idx y bytes maxL rt na) (hP : va_P D CL ws H) (hD : va_D A ws) (hS : va_S A s.heap H locs) (isC : List Nat) (hC : isC.map (fun i => ws[i]?) = wc.map some) (hnC : va_nd isC = true) (hna : As.length = na) (hz : ls.size = n) (hst : st = As.reverse ++ rest) (hroom : (rest.map fun v => v.category).sum ≤ 8) (hdg : decode cc pc = .ok (.invokestatic idx, 3))
    (hR : (rmd d mc ms).frames + 1 ≤ R.frames ∧ 8 + (maxL + 11) + (rmd d mc ms).locals ≤ R.locals) (hf : cells + mc ≤ R.cells ∧ slots + ms ≤ R.slots) : vx_Run p l e R s m args below meth c H locs cells slots mc ms (F0 m pc ls st) rest (fun _ _ _ => False) (xX D T E wx (va_A wc H.size)) (va_A wc H.size) := by
  have hpre := pre_of (av := As) C hP hD hS isC hC hnC
  obtain ⟨hx, hb, hml, hown, hts, hK, -⟩ := C
  exact vx_runS (As := As) (rest := rest) ⟨hx, hb, hml, hown, hts⟩ (hM H.size) (cs_cw cv hts hR) ⟨cPre_blind, hpre⟩ rfl hna hz hst (lv_room hroom) hdg hf
theorem call_v (C : Cx p s m args meth c cc n ret y0 D T A) {a : Array Value} {S : Type} {w1 : S → va_W} (hr : va_Run p l e R s m args below meth c H locs cells slots mc ms (F0 m pc ls st) rest (qV D T w1 (va_A wc H.size) a) (va_A wc H.size)) (hP : va_P D CL ws H) (hD : va_D A ws) (hS : va_S A s.heap H locs) (isC isR : List Nat) (hC : isC.map (fun i => ws[i]?) = wc.map some) (hR : isR.map (fun i => ws[i]?) = wr.map some) (hnR : va_nd isR = true) (hdis : ∀ i ∈ isR, i ∉ isC)
    (kk : ∀ (u : S) (H1 : Heap) (locs1 : List Loc), va_P D CL (wr ++ w1 u) H1 → va_D A (wr ++ w1 u) → va_S A s.heap H1 locs1 → W p l e R s m args below meth c H1 locs1 (cells + mc) (slots + ms) Q (F0 m (pc + 3) ls rest)) : W p l e R s m args below meth c H locs cells slots Q (F0 m pc ls st) := by
  obtain ⟨-, -, -, -, -, -, hA, -⟩ := C
  have hF := va_free hD hS hA isC hC
  refine va_callv hr hS (fun q _ h => hF q h) hF (fun u t H1 locs1 ht hvm _ hB hz1 hk1 hS1 => ?_)
  obtain ⟨hP1, -, hD1⟩ := hB
  rw [ht] at hP1
  obtain ⟨hP2, hD2⟩ := va_join hP hD isC isR hC hR hnR hdis hk1 hF hP1 hD1
  exact kk u H1 locs1 hP2 hD2 hS1
theorem call_i (C : Cx p s m args meth c cc n ret y0 D T A) {a : Array Value} {S : Type} {f : S → Int32} {w1 : S → va_W} (hr : va_Run p l e R s m args below meth c H locs cells slots mc ms (F0 m pc ls st) rest (qI D T f w1 (va_A wc H.size) a) (va_A wc H.size)) (hP : va_P D CL ws H) (hD : va_D A ws) (hS : va_S A s.heap H locs) (isC isR : List Nat) (hC : isC.map (fun i => ws[i]?) = wc.map some) (hR : isR.map (fun i => ws[i]?) = wr.map some) (hnR : va_nd isR = true) (hdis : ∀ i ∈ isR, i ∉ isC)
    (kk : ∀ (u : S) (H1 : Heap) (locs1 : List Loc), va_P D CL (wr ++ w1 u) H1 → va_D A (wr ++ w1 u) → va_S A s.heap H1 locs1 → W p l e R s m args below meth c H1 locs1 (cells + mc) (slots + ms) Q (F0 m (pc + 3) ls (.int (f u) :: rest))) : W p l e R s m args below meth c H locs cells slots Q (F0 m pc ls st) := by
  obtain ⟨-, -, -, -, -, -, hA, -⟩ := C
  have hF := va_free hD hS hA isC hC
  refine va_calli hr hS (fun q _ h => hF q h) hF (fun r u t H1 locs1 ht hvm hpr hB hz1 hk1 hS1 => ?_)
  obtain ⟨hP1, -, hD1⟩ := hB
  rw [ht] at hP1
  obtain ⟨hP2, hD2⟩ := va_join hP hD isC isR hC hR hnR hdis hk1 hF hP1 hD1
  subst hpr
  exact kk u H1 locs1 hP2 hD2 hS1
theorem call_l (C : Cx p s m args meth c cc n ret y0 D T A) {a : Array Value} {S : Type} {f : S → Int64} {w1 : S → va_W} (hr : va_Run p l e R s m args below meth c H locs cells slots mc ms (F0 m pc ls st) rest (qL D T f w1 (va_A wc H.size) a) (va_A wc H.size)) (hP : va_P D CL ws H) (hD : va_D A ws) (hS : va_S A s.heap H locs) (isC isR : List Nat) (hC : isC.map (fun i => ws[i]?) = wc.map some) (hR : isR.map (fun i => ws[i]?) = wr.map some) (hnR : va_nd isR = true) (hdis : ∀ i ∈ isR, i ∉ isC)
    (kk : ∀ (u : S) (H1 : Heap) (locs1 : List Loc), va_P D CL (wr ++ w1 u) H1 → va_D A (wr ++ w1 u) → va_S A s.heap H1 locs1 → W p l e R s m args below meth c H1 locs1 (cells + mc) (slots + ms) Q (F0 m (pc + 3) ls (.long (f u) :: rest))) : W p l e R s m args below meth c H locs cells slots Q (F0 m pc ls st) := by
  obtain ⟨-, -, -, -, -, -, hA, -⟩ := C
  have hF := va_free hD hS hA isC hC
  refine va_calll hr hS (fun q _ h => hF q h) hF (fun r u t H1 locs1 ht hvm hpr hB hz1 hk1 hS1 => ?_)
  obtain ⟨hP1, -, hD1⟩ := hB
  rw [ht] at hP1
  obtain ⟨hP2, hD2⟩ := va_join hP hD isC isR hC hR hnR hdis hk1 hF hP1 hD1
  subst hpr
  exact kk u H1 locs1 hP2 hD2 hS1
theorem call_r (C : Cx p s m args meth c cc n ret y0 D T A) {a : Array Value} {S : Type} {f : S → Nat} {w1 : S → va_W} (hr : va_Run p l e R s m args below meth c H locs cells slots mc ms (F0 m pc ls st) rest (qR D T f w1 (va_A wc H.size) a) (va_A wc H.size)) (hP : va_P D CL ws H) (hD : va_D A ws) (hS : va_S A s.heap H locs) (isC isR : List Nat) (hC : isC.map (fun i => ws[i]?) = wc.map some) (hR : isR.map (fun i => ws[i]?) = wr.map some) (hnR : va_nd isR = true) (hdis : ∀ i ∈ isR, i ∉ isC)
    (kk : ∀ (u : S) (H1 : Heap) (locs1 : List Loc), va_P D CL (wr ++ w1 u) H1 → va_D A (wr ++ w1 u) → va_S A s.heap H1 locs1 → W p l e R s m args below meth c H1 locs1 (cells + mc) (slots + ms) Q (F0 m (pc + 3) ls (.ref (f u) :: rest))) : W p l e R s m args below meth c H locs cells slots Q (F0 m pc ls st) := by
  obtain ⟨-, -, -, -, -, -, hA, -⟩ := C
  have hF := va_free hD hS hA isC hC
  refine va_callr hr hS (fun q _ h => hF q h) hF (fun u ra t H1 locs1 ht hvm _ hB hz1 hk1 hS1 => ?_)
  obtain ⟨hpr, hP1, -, hD1⟩ := hB
  rw [ht] at hP1
  obtain ⟨hP2, hD2⟩ := va_join hP hD isC isR hC hR hnR hdis hk1 hF hP1 hD1
  subst hpr
  exact kk u H1 locs1 hP2 hD2 hS1
/-- a call that throws: the frame with the exception over it -/
theorem call_X (C : Cx p s m args meth c cc n ret y0 D T A) (hr : vx_Run p l e R s m args below meth c H locs cells slots mc ms (F0 m pc ls st) rest (fun _ _ _ => False) (xX D T E wx (va_A wc H.size)) (va_A wc H.size)) (hP : va_P D CL ws H) (hD : va_D A ws) (hS : va_S A s.heap H locs) (isC isR : List Nat) (hC : isC.map (fun i => ws[i]?) = wc.map some) (hR : isR.map (fun i => ws[i]?) = wr.map some) (hnR : va_nd isR = true) (hdis : ∀ i ∈ isR, i ∉ isC)
    (kx : ∀ (ce : Cell) (q9 : Addr) (H1 : Heap) (locs1 : List Loc), H1[q9]? = some ce → ce.vm = .none → s.vm.findClass E = some ce.cls → va_P D CL (wr ++ wx) H1 → va_D A (wr ++ wx) → va_S A s.heap H1 locs1 → vx_W p l e R s m args below meth c H1 locs1 (cells + mc) (slots + ms) Q (F0 m pc ls rest) q9) : W p l e R s m args below meth c H locs cells slots Q (F0 m pc ls st) := by
  obtain ⟨-, -, -, -, -, -, hA, -⟩ := C
  have hF := va_free hD hS hA isC hC
  intro T0 hT X
  rcases hr T0 hT X with ⟨v, st₀, t, T', L, h0, X', hL, e1, e2, hfalse, st9⟩ | ⟨q, st₀, t, T', L, E9, ce, h0, X', hL, e1, e2, ⟨u, -, ⟨rfl, hB⟩, hF9⟩, hce, hcv, hcl, st9⟩
  · exact hfalse.elim
  · obtain ⟨k1, k2, k3⟩ := vx_keep h0 e1 hS (fun q _ h => hF q h) hF hL hF9
    obtain ⟨hP1, -, hD1⟩ := hB
    rw [← e1] at hP1
    obtain ⟨hP2, hD2⟩ := va_join hP hD isC isR hC hR hnR hdis k2 hF hP1 hD1
    obtain ⟨t2, a1, b1⟩ := kx ce q T'.heap (locs ++ L) (by rw [e1]; exact hce) hcv hcl hP2 hD2 k3 T' rfl X'
    exact ⟨t2, st9.trans a1, b1⟩
/-- not caught here -/
theorem r_out (C : Cx p s m args meth c cc n ret y0 D T A) (htab : ∀ x ∈ c.exceptionTable.toList, False) {ce : Cell} {q : Addr} (hcell : H[q]? = some ce) (hv : ce.vm = .none) (hcl : s.vm.findClass E = some ce.cls) (hP : va_P D CL ws H) (hD : va_D A ws) (hS : va_S A s.heap H locs) (hw : ws = wx) (hc : cells ≤ mc) (hs : slots ≤ ms) :
    vx_W p l e R s m args below meth c H locs cells slots (vx_MQ below (fun _ _ _ _ => False) (xX D T E wx A) args s mc ms A) (F0 m pc ls rest) q := by
  obtain ⟨-, -, -, -, -, hK, -, -, -, hlocks, -⟩ := C
  subst hw
  exact vx_out (fun x hx => (htab x hx).elim) hlocks hcell hv hcl (fun t ht hvm => ⟨(), trivial, ⟨rfl, by rw [ht]; exact hP, va_K.moved hvm hK, hD⟩, hS.F ht⟩) hS.2.2 hc hs
theorem r_throwS (C : Cx p s m args meth c cc n ret y0 D T A) (htab : ∀ x ∈ c.exceptionTable.toList, False) (hlt : l.stackTraces = false) (hP : va_P D CL ws H) (hD : va_D A ws) (hS : va_S A s.heap H locs) {ik is ic : Nat} {text : String} {names : List String} (F : Tf y0.cls ik is ic E text names) (hz : ls.size = n)
    (d0 : decode cc pc = .ok (.new ik, 3)) (d3 : decode cc (pc + 3) = .ok (.dup, 1)) (d4 : decode cc (pc + 4) = .ok (.ldc is, 2)) (d6 : decode cc (pc + 6) = .ok (.invokespecial ic, 3)) (d9 : decode cc (pc + 9) = .ok (.athrow, 1)) (hw : ws = wx)
    (hRf : names.length + 3 < R.frames) (hRl : (rest.map fun v => v.category).sum + (13 * (names.length + 1) + 43) ≤ R.locals) (hRc : cells + 1 ≤ R.cells) (hRs : slots + 6 ≤ R.slots) (hc : cells + 1 ≤ mc) (hs : slots + 6 ≤ ms) :
    W p l e R s m args below meth c H locs cells slots (vx_MQ below (fun _ _ _ _ => False) (xX D T E wx A) args s mc ms A) (F0 m pc ls rest) := by
  obtain ⟨hx, hb, hml, hown, hts, hK, hA, hXw, hSx, hlocks, -⟩ := C
  obtain ⟨f1, f2, f3, f4, f5, f6⟩ := F
  have f8 : ∀ w ∈ vx_atS y0.cls ic E names, w.before args s = true := fun w h => (f6 w h).elim (hts w) (fun e => va_Nw.use (odd_on e) (hSx.2.2.2.1 _ e))
  obtain ⟨sj, hsj⟩ := List.getElem?_of_mem f5
  have hstr := hSx.1 sj _ hsj
  subst hw
  refine vx_throwS hx hb hlt hown f1 f2 (hts _ f3) (hts _ f4) hstr f8 ?_ hXw.1 hXw.2.1 hS (hz.trans hml.symm) d0 d3 d4 d6 d9 (fun x hx => (htab x hx).elim) hRf hRl hRc hRs hlocks (fun t hvm hsz hkeep => ⟨(), trivial, ⟨rfl, hP.kept (fun k q hk => hkeep q.1 (hP k q hk).lt), va_K.moved hvm hK, hD⟩, ?_⟩) hS.2.2 hc hs
  · intro w hw
    have hb9 : w ∈ Big ∨ w ∈ odd := by
      rcases List.mem_cons.mp hw with rfl | hw
      · exact Or.inl f3
      · rcases List.mem_cons.mp hw with rfl | hw
        · exact Or.inl f4
        · exact f6 w hw
    rcases hb9 with hb9 | hb9
    · have := (List.mem_filter.mp hb9).2
      simp [vx_ot, this]
    · have := odd_on hb9
      simp [vx_ot, this]
  · exact ⟨Nat.le_trans hS.1 hsz, fun q h1 h2 => by rw [hkeep q (Nat.lt_of_lt_of_le h1 hS.1)]; exact hS.2.1 q h1 h2⟩
theorem r_throwW (C : Cx p s m args meth c cc n ret y0 D T A) (htab : ∀ x ∈ c.exceptionTable.toList, False) (hlt : l.stackTraces = false) (hP : va_P D CL ws H) (hD : va_D A ws) (hS : va_S A s.heap H locs) {ik is ic : Nat} {text : String} {names : List String} (F : Tf y0.cls ik is ic E text names) (hz : ls.size = n)
    (d0 : decode cc pc = .ok (.new ik, 3)) (d3 : decode cc (pc + 3) = .ok (.dup, 1)) (d4 : decode cc (pc + 4) = .ok (.ldc_w is, 3)) (d7 : decode cc (pc + 7) = .ok (.invokespecial ic, 3)) (d10 : decode cc (pc + 10) = .ok (.athrow, 1)) (hw : ws = wx)
    (hRf : names.length + 3 < R.frames) (hRl : (rest.map fun v => v.category).sum + (13 * (names.length + 1) + 43) ≤ R.locals) (hRc : cells + 1 ≤ R.cells) (hRs : slots + 6 ≤ R.slots) (hc : cells + 1 ≤ mc) (hs : slots + 6 ≤ ms) :
    W p l e R s m args below meth c H locs cells slots (vx_MQ below (fun _ _ _ _ => False) (xX D T E wx A) args s mc ms A) (F0 m pc ls rest) := by
  obtain ⟨hx, hb, hml, hown, hts, hK, hA, hXw, hSx, hlocks, -⟩ := C
  obtain ⟨f1, f2, f3, f4, f5, f6⟩ := F
  have f8 : ∀ w ∈ vx_atS y0.cls ic E names, w.before args s = true := fun w h => (f6 w h).elim (hts w) (fun e => va_Nw.use (odd_on e) (hSx.2.2.2.1 _ e))
  obtain ⟨sj, hsj⟩ := List.getElem?_of_mem f5
  have hstr := hSx.1 sj _ hsj
  subst hw
  refine vx_throwSW hx hb hlt hown f1 f2 (hts _ f3) (hts _ f4) hstr f8 ?_ hXw.1 hXw.2.1 hS (hz.trans hml.symm) d0 d3 d4 d7 d10 (fun x hx => (htab x hx).elim) hRf hRl hRc hRs hlocks (fun t hvm hsz hkeep => ⟨(), trivial, ⟨rfl, hP.kept (fun k q hk => hkeep q.1 (hP k q hk).lt), va_K.moved hvm hK, hD⟩, ?_⟩) hS.2.2 hc hs
  · intro w hw
    have hb9 : w ∈ Big ∨ w ∈ odd := by
      rcases List.mem_cons.mp hw with rfl | hw
      · exact Or.inl f3
      · rcases List.mem_cons.mp hw with rfl | hw
        · exact Or.inl f4
        · exact f6 w hw
    rcases hb9 with hb9 | hb9
    · have := (List.mem_filter.mp hb9).2
      simp [vx_ot, this]
    · have := odd_on hb9
      simp [vx_ot, this]
  · exact ⟨Nat.le_trans hS.1 hsz, fun q h1 h2 => by rw [hkeep q (Nat.lt_of_lt_of_le h1 hS.1)]; exact hS.2.1 q h1 h2⟩
/-- a text is loaded -/
theorem r_ldcS (C : Cx p s m args meth c cc n ret y0 D T A) {is j : Nat} {text : String} (F : strs[j]? = some (y0.cls, is, text)) (hdg : decode cc pc = .ok (.ldc is, 2)) (kk : W p l e R s m args below meth c H locs cells slots Q (F0 m (pc + 2) ls (.ref (D.2 1000 j) :: rest))) : W p l e R s m args below meth c H locs cells slots Q (F0 m pc ls rest) := by
  obtain ⟨hx, hb, hml, hown, hts, hK, hA, hXw, hSx, hlocks, -⟩ := C
  exact va_ldcS hx hb hown (hSx.1 j _ F) hdg kk
theorem r_obj (C : Cx p s m args meth c cc n ret y0 D T A) {a : Nat} (h1 : Cond.methodLink y0.cls idx objectInit ∈ Big) (h2 : Cond.instanceMethod objectInit ∈ Big) (h3 : Cond.code objectInit ⟨#[0xb1]⟩ 1 none ∈ Big) (hz : ls.size = n) (hdg : decode cc pc = .ok (.invokespecial idx, 3)) (hf : 1 ≤ R.frames) (hl : 2 * (F0 m pc ls (.ref a :: rest)).monitorRoom + (rest.map fun v => v.category).sum + 12 ≤ R.locals)
    (kk : W p l e R s m args below meth c H locs cells slots Q (F0 m (pc + 3) ls rest)) : W p l e R s m args below meth c H locs cells slots Q (F0 m pc ls (.ref a :: rest)) := by
  obtain ⟨hx, hb, hml, hown, hts, -⟩ := C
  exact W.objInit hx hb hown (hts _ h1) (hts _ h2) (hts _ h3) rfl (hz.trans hml.symm) rfl hdg hf hl kk
/-- caught by the handler at the place 'i' of the table -/
theorem r_catch (C : Cx p s m args meth c cc n ret y0 D T A) {ce : Cell} {q : Addr} (hE : E ∈ cas) (pre : List ExceptionTableEntry) (x : ExceptionTableEntry) (suf : List ExceptionTableEntry) (hsplit : c.exceptionTable.toList = pre ++ x :: suf)
    (hpass : ∀ z ∈ pre, covers z pc = false ∨ (z.catchType ≠ 0 ∧ ∃ nm : String, Cond.classLink y0.cls z.catchType nm ∈ Big ∧ va_Nc E nm s)) (hcov : covers x pc = true) (h0 : x.catchType ≠ 0) (hlink : Cond.classLink y0.cls x.catchType E ∈ Big)
    (hcell : H[q]? = some ce) (hv : ce.vm = .none) (hcl : s.vm.findClass E = some ce.cls) (kk : W p l e R s m args below meth c H locs cells slots Q (F0 m x.handlerPc ls [.ref q])) : vx_W p l e R s m args below meth c H locs cells slots Q (F0 m pc ls rest) q := by
  obtain ⟨hx, hb, hml, hown, hts, -, -, -, hSx, -⟩ := C
  exact vx_catch hown pre x suf hsplit (fun z hz => (hpass z hz).imp id (fun h => ⟨h.1, h.2.choose, hts _ h.2.choose_spec.1, h.2.choose_spec.2⟩)) hcov h0 (hts _ hlink) (va_Nw.use rfl (hSx.2.2.2.1 _ (cas_odd hE))) hcell hv hcl kk
end Calls
end
section
/-! an abstract heap: cells by their handles (places in a list), references are handles; 'ad' gives the addresses, 'cs' the classes of the arrays -/
abbrev LV : Type := List (Nat × Value)
abbrev SG : Type := List va_E
def T4 (cs : Nat → ClassId) : List (ClassId × FieldType) := [(cs 0, .int), (cs 1, .boolean), (cs 2, .long), (cs 3, .object RX6)]
def vM (ad : Nat → Nat) : Value → Value
  | .ref h => .ref (ad h)
  | v => v
def aM (ad : Nat → Nat) (a : vp_A) : vp_A := (a.1, match a.2 with
  | .inr (.inr (.inr (.inr f))) => .inr (.inr (.inr (.inr (fun j => (f j).map ad))))
  | x => x)
def eM (cs ad : Nat → Nat) : va_E → va_E
  | .inl a => .inl (cs a.1, aM ad a.2)
  | .inr o => .inr (o.1, o.2.map (vM ad))
def wM (cs ad : Nat → Nat) (σ : SG) : va_W := σ.mapIdx (fun i e => (ad i, eM cs ad e))
def lM (ad : Nat → Nat) (lv : LV) : LV := lv.map (fun q => (q.1, vM ad q.2))
theorem vM_cat (ad : Nat → Nat) (v : Value) : (vM ad v).category = v.category := by cases v <;> rfl
theorem wM_get {cs ad : Nat → Nat} {σ : SG} {h : Nat} {e : va_E} (hh : σ[h]? = some e) : (wM cs ad σ)[h]? = some (ad h, eM cs ad e) := by
  unfold wM
  rw [List.getElem?_mapIdx, hh]
  rfl
theorem wM_set (cs ad : Nat → Nat) (σ : SG) (h : Nat) (e : va_E) : wM cs ad (σ.set h e) = (wM cs ad σ).set h (ad h, eM cs ad e) := by
  unfold wM
  rw [List.mapIdx_set]
theorem vM_sum (ad : Nat → Nat) (st : List Value) : ((st.map (vM ad)).map fun v => v.category).sum = (st.map fun v => v.category).sum := by
  induction st with
  | nil => rfl
  | cons v r ih => simp only [List.map_cons, List.sum_cons, vM_cat, ih]
def lget (lv : LV) (i : Nat) : Option Value := (lv.find? (fun q => q.1 == i)).map (fun q => q.2)
def lS1 (i : Nat) (v : Value) (lv : LV) : LV := (i, v) :: lv.filter (fun q => !(q.1 == i) && !(q.1 + 1 == i && q.2.category == 2))
def lS2 (i : Nat) (v : Value) (lv : LV) : LV := (i, v) :: lv.filter (fun q => !(q.1 == i) && (!(q.1 == i + 1) && !(q.1 + 1 == i && q.2.category == 2)))
theorem lM_filter (ad : Nat → Nat) (P : Nat → Nat → Bool) (lv : LV) : lM ad (lv.filter (fun q => P q.1 q.2.category)) = (lM ad lv).filter (fun q => P q.1 q.2.category) := by
  induction lv with
  | nil => rfl
  | cons q r ih =>
    unfold lM at ih ⊢
    simp only [List.filter_cons, List.map_cons, vM_cat]
    cases P q.1 q.2.category
    · simpa using ih
    · simp only [if_true, List.map_cons, ih]
theorem lM_S1 (ad : Nat → Nat) (i : Nat) (v : Value) (lv : LV) : lM ad (lS1 i v lv) = (i, vM ad v) :: (lM ad lv).filter (fun q => !(q.1 == i) && !(q.1 + 1 == i && q.2.category == 2)) := by
  show (i, vM ad v) :: lM ad (lv.filter _) = _
  rw [lM_filter ad (fun a c => !(a == i) && !(a + 1 == i && c == 2)) lv]
theorem lM_S2 (ad : Nat → Nat) (i : Nat) (v : Value) (lv : LV) : lM ad (lS2 i v lv) = (i, vM ad v) :: (lM ad lv).filter (fun q => !(q.1 == i) && (!(q.1 == i + 1) && !(q.1 + 1 == i && q.2.category == 2))) := by
  show (i, vM ad v) :: lM ad (lv.filter _) = _
  rw [lM_filter ad (fun a c => !(a == i) && (!(a == i + 1) && !(a + 1 == i && c == 2))) lv]
theorem lget_mem {lv : LV} {i : Nat} {v : Value} (h : lget lv i = some v) : (i, v) ∈ lv := by
  unfold lget at h
  cases hf : lv.find? (fun q => q.1 == i) with
  | none => rw [hf] at h; cases h
  | some q =>
    rw [hf] at h
    have h1 := List.mem_of_find?_eq_some hf
    have h2 := List.find?_some hf
    simp at h2
    cases h
    subst h2
    exact h1
theorem lget_at {ad : Nat → Nat} {ls : Array Slot} {n : Nat} {lv : LV} (hl : lv_has ls n (lM ad lv)) {i : Nat} {v : Value} (h : lget lv i = some v) : ls[i]? = some (.val (vM ad v)) :=
  hl.2.2 (i, vM ad v) (List.mem_map.mpr ⟨(i, v), lget_mem h, rfl⟩)
theorem lget_ix {ad : Nat → Nat} {lv : LV} {i : Nat} {v : Value} (h : lget lv i = some v) : ∃ k : Nat, (lM ad lv)[k]? = some (i, vM ad v) :=
  List.getElem?_of_mem (List.mem_map.mpr ⟨(i, v), lget_mem h, rfl⟩)
theorem va_nd_range (n : Nat) : va_nd (List.range n) = true := by
  have key : ∀ l : List Nat, l.Nodup → va_nd l = true := by
    intro l hl
    induction l with
    | nil => rfl
    | cons a r ih =>
      have h := List.nodup_cons.mp hl
      simp only [va_nd, ih h.2, Bool.and_true]
      simpa using h.1
  exact key _ List.nodup_range
theorem range_get {α : Type} (ws : List α) : (List.range ws.length).map (fun i => ws[i]?) = ws.map some := by
  apply List.ext_getElem?
  intro i
  rw [List.getElem?_map, List.getElem?_map]
  rcases Nat.lt_or_ge i ws.length with h | h
  · rw [List.getElem?_range h]
    simp [List.getElem?_eq_getElem h]
  · rw [List.getElem?_eq_none (by simpa using h), List.getElem?_eq_none h]
    rfl
end
section
/-! the simple steps as a function on the abstract state; links: fields (class, place, type, final), int and long constants, by their places in the pool -/
abbrev LK : Type := (Nat → Option (Nat × Nat × FieldType × Bool)) × (Nat → Option Int32) × (Nat → Option Int64)
def lkOK (own : String) (K : LK) : Prop := (∀ idx ci k ty fin, K.1 idx = some (ci, k, ty, fin) → ∃ dec, Fg own idx ci k ty fin dec) ∧ (∀ idx v, K.2.1 idx = some v → Cond.constant own idx v ∈ Big) ∧ ∀ idx v, K.2.2 idx = some v → Cond.constantLong own idx v ∈ Big
def ilen : Instr → Nat
  | .bipush _ | .iload _ | .istore _ | .lload _ | .lstore _ | .aload _ | .astore _ | .ldc _ => 2
  | .sipush _ | .ldc2_w _ | .ldc_w _ | .iinc _ _ | .goto _ | .ifCond _ _ | .if_icmp _ _ | .ifnull _ | .getfield _ | .putfield _ | .invokestatic _ | .invokevirtual _ | .invokespecial _ | .new _ => 3
  | _ => 1
def cI (c : ClassFile.Cond) (x y : Int32) : Bool := match c with
  | .eq => decide (x = y)
  | .ne => decide (¬ x = y)
  | .lt => decide (x < y)
  | .ge => decide (y ≤ x)
  | .gt => decide (y < x)
  | .le => decide (x ≤ y)
def lcm3 (x y : Int64) : Int32 := if y < x then 1 else if x = y then 0 else -1
def inN (i : Int32) (n : Nat) : Bool := decide (¬ i < 0) && decide (i.toNatClampNeg < n)
theorem inN_in {i : Int32} {n : Nat} (h : inN i n = true) : vp_in i n := by
  simp only [inN, Bool.and_eq_true, decide_eq_true_eq] at h
  rintro (q | q)
  · exact h.1 q
  · omega
def bI : Instr → Int32 → Int32 → Option Int32
  | .iadd, x, y => some (x + y)
  | .isub, x, y => some (x - y)
  | .imul, x, y => some (x * y)
  | .iand, x, y => some (x &&& y)
  | .ior, x, y => some (x ||| y)
  | .ixor, x, y => some (x ^^^ y)
  | .idiv, x, y => if y = 0 then none else some (x / y)
  | .irem, x, y => if y = 0 then none else some (x - x / y * y)
  | .ishl, x, y => some (x <<< (y &&& 31))
  | .ishr, x, y => some (x >>> (y &&& 31))
  | .iushr, x, y => some (x.toUInt32 >>> (y.toUInt32 &&& Int32.toUInt32 31)).toInt32
  | _, _, _ => none
def bL : Instr → Int64 → Int64 → Option Int64
  | .ladd, x, y => some (x + y)
  | .lsub, x, y => some (x - y)
  | .lmul, x, y => some (x * y)
  | .land, x, y => some (x &&& y)
  | .lor, x, y => some (x ||| y)
  | .lxor, x, y => some (x ^^^ y)
  | _, _, _ => none
def sL : Instr → Int64 → Int32 → Option Int64
  | .lshl, x, y => some (x <<< (y.toInt64 &&& 63))
  | .lshr, x, y => some (x >>> (y.toInt64 &&& 63))
  | .lushr, x, y => some (x.toUInt64 >>> (y.toInt64.toUInt64 &&& Int64.toUInt64 63)).toInt64
  | _, _, _ => none
/-- the state between two steps: place, locals, stack, heap -/
abbrev S4 : Type := Nat × LV × List Value × SG

def simC (K : LK) (pc : Nat) (i : Instr) (lv : LV) (st : List Value) (σ : SG) : Option S4 := match i with
  | .iconst n => some (pc + 1, lv, .int (Int32.ofInt n) :: st, σ)
  | .bipush n => some (pc + 2, lv, .int (Int8.ofInt n).toInt32 :: st, σ)
  | .sipush n => some (pc + 3, lv, .int (Int16.ofInt n).toInt32 :: st, σ)
  | .lconst n => some (pc + 1, lv, .long (Int64.ofNat (n : Nat)) :: st, σ)
  | .ldc ix => match K.2.1 ix with
    | some v => some (pc + 2, lv, .int v :: st, σ)
    | none => none
  | .ldc_w ix => match K.2.1 ix with
    | some v => some (pc + 3, lv, .int v :: st, σ)
    | none => none
  | .ldc2_w ix => match K.2.2 ix with
    | some v => some (pc + 3, lv, .long v :: st, σ)
    | none => none
  | .iload_n n => match lget lv (n : Nat) with
    | some (.int x) => some (pc + 1, lv, .int x :: st, σ)
    | _ => none
  | .iload n => match lget lv n with
    | some (.int x) => some (pc + 2, lv, .int x :: st, σ)
    | _ => none
  | .lload_n n => match lget lv (n : Nat) with
    | some (.long x) => some (pc + 1, lv, .long x :: st, σ)
    | _ => none
  | .lload n => match lget lv n with
    | some (.long x) => some (pc + 2, lv, .long x :: st, σ)
    | _ => none
  | .aload_n n => match lget lv (n : Nat) with
    | some (.ref x) => some (pc + 1, lv, .ref x :: st, σ)
    | _ => none
  | .aload n => match lget lv n with
    | some (.ref x) => some (pc + 2, lv, .ref x :: st, σ)
    | _ => none
  | _ => none
def simD (pc : Nat) (i : Instr) (lv : LV) (st : List Value) (σ : SG) : Option S4 := match i with
  | .dup => match st with
    | v :: r => if v.category = 1 then some (pc + 1, lv, v :: v :: r, σ) else none
    | [] => none
  | .pop => match st with
    | v :: r => if v.category = 1 then some (pc + 1, lv, r, σ) else none
    | [] => none
  | .dup_x1 => match st with
    | v :: w :: r => if v.category = 1 ∧ w.category = 1 then some (pc + 1, lv, v :: w :: v :: r, σ) else none
    | _ => none
  | .dup2 => match st with
    | v :: w :: r => if v.category = 1 ∧ w.category = 1 then some (pc + 1, lv, v :: w :: v :: w :: r, σ) else none
    | _ => none
  | _ => none
def simS (nL pc : Nat) (i : Instr) (lv : LV) (st : List Value) (σ : SG) : Option S4 := match i with
  | .istore_n n => match st with
    | .int x :: r => if (n : Nat) < nL then some (pc + 1, lS1 (n : Nat) (.int x) lv, r, σ) else none
    | _ => none
  | .istore n => match st with
    | .int x :: r => if n < nL then some (pc + 2, lS1 n (.int x) lv, r, σ) else none
    | _ => none
  | .lstore_n n => match st with
    | .long x :: r => if (n : Nat) + 1 < nL then some (pc + 1, lS2 (n : Nat) (.long x) lv, r, σ) else none
    | _ => none
  | .lstore n => match st with
    | .long x :: r => if n + 1 < nL then some (pc + 2, lS2 n (.long x) lv, r, σ) else none
    | _ => none
  | .astore_n n => match st with
    | .ref x :: r => if (n : Nat) < nL then some (pc + 1, lS1 (n : Nat) (.ref x) lv, r, σ) else none
    | _ => none
  | .astore n => match st with
    | .ref x :: r => if n < nL then some (pc + 2, lS1 n (.ref x) lv, r, σ) else none
    | _ => none
  | .iinc n d => match lget lv n with
    | some (.int x) => if n < nL then some (pc + 3, lS1 n (.int (x + Int32.ofInt d)) lv, st, σ) else none
    | _ => none
  | _ => none
def simU (pc : Nat) (i : Instr) (lv : LV) (st : List Value) (σ : SG) : Option S4 := match i with
  | .ineg => match st with
    | .int x :: r => some (pc + 1, lv, .int (-x) :: r, σ)
    | _ => none
  | .i2l => match st with
    | .int x :: r => some (pc + 1, lv, .long x.toInt64 :: r, σ)
    | _ => none
  | .l2i => match st with
    | .long x :: r => some (pc + 1, lv, .int x.toInt32 :: r, σ)
    | _ => none
  | .i2c => match st with
    | .int x :: r => some (pc + 1, lv, .int (x.toUInt32 % 65536).toInt32 :: r, σ)
    | _ => none
  | .lcmp => match st with
    | .long y :: .long x :: r => some (pc + 1, lv, .int (lcm3 x y) :: r, σ)
    | _ => none
  | _ => none
def simA (pc : Nat) (i : Instr) (lv : LV) (st : List Value) (σ : SG) : Option S4 := match st with
  | .int y :: .int x :: r => match bI i x y with
    | some v => some (pc + 1, lv, .int v :: r, σ)
    | none => none
  | .long y :: .long x :: r => match bL i x y with
    | some v => some (pc + 1, lv, .long v :: r, σ)
    | none => none
  | .int y :: .long x :: r => match sL i x y with
    | some v => some (pc + 1, lv, .long v :: r, σ)
    | none => none
  | _ => none
def simB (pc : Nat) (i : Instr) (lv : LV) (st : List Value) (σ : SG) : Option S4 := match i with
  | .goto off => if 0 ≤ (pc : Int) + off then some (((pc : Int) + off).toNat, lv, st, σ) else none
  | .ifCond cd off => match st with
    | .int x :: r => if 0 ≤ (pc : Int) + off then some (if cI cd x 0 = true then ((pc : Int) + off).toNat else pc + 3, lv, r, σ) else none
    | _ => none
  | .if_icmp cd off => match st with
    | .int y :: .int x :: r => if 0 ≤ (pc : Int) + off then some (if cI cd x y = true then ((pc : Int) + off).toNat else pc + 3, lv, r, σ) else none
    | _ => none
  | .ifnull off => match st with
    | .ref _ :: r => some (pc + 3, lv, r, σ)
    | .null :: r => if 0 ≤ (pc : Int) + off then some (((pc : Int) + off).toNat, lv, r, σ) else none
    | _ => none
  | _ => none
def simH (K : LK) (pc : Nat) (i : Instr) (lv : LV) (st : List Value) (σ : SG) : Option S4 := match i with
  | .getfield ix => match K.1 ix, st with
    | some (ci, k, _, _), .ref h :: r => match σ[h]? with
      | some (.inr (c, fs)) => if c = ci then (match fs[k]? with
        | some v => some (pc + 3, lv, v :: r, σ)
        | none => none) else none
      | _ => none
    | _, _ => none
  | .putfield ix => match K.1 ix, st with
    | some (ci, k, ty, false), v :: .ref h :: r => match σ[h]? with
      | some (.inr (c, fs)) => if c = ci ∧ k < fs.length ∧ narrow ty v = v ∧ fits ty v = true then some (pc + 3, lv, r, σ.set h (.inr (c, fs.set k v))) else none
      | _ => none
    | _, _ => none
  | .iaload => match st with
    | .int j :: .ref h :: r => match σ[h]? with
      | some (.inl (0, n, .inl f)) => if inN j n = true then some (pc + 1, lv, .int (f j.toNatClampNeg) :: r, σ) else none
      | _ => none
    | _ => none
  | .baload => match st with
    | .int j :: .ref h :: r => match σ[h]? with
      | some (.inl (1, n, .inl f)) => if inN j n = true then some (pc + 1, lv, .int (f j.toNatClampNeg) :: r, σ) else none
      | _ => none
    | _ => none
  | .laload => match st with
    | .int j :: .ref h :: r => match σ[h]? with
      | some (.inl (2, n, .inr (.inl f))) => if inN j n = true then some (pc + 1, lv, .long (f j.toNatClampNeg) :: r, σ) else none
      | _ => none
    | _ => none
  | .aaload => match st with
    | .int j :: .ref h :: r => match σ[h]? with
      | some (.inl (3, n, .inr (.inr (.inr (.inr f))))) => if inN j n = true then some (pc + 1, lv, va_rf (f j.toNatClampNeg) :: r, σ) else none
      | _ => none
    | _ => none
  | .iastore => match st with
    | .int x :: .int j :: .ref h :: r => match σ[h]? with
      | some (.inl (0, n, .inl f)) => if inN j n = true then some (pc + 1, lv, r, σ.set h (.inl (0, n, .inl (upd f j.toNatClampNeg x)))) else none
      | _ => none
    | _ => none
  | .bastore => match st with
    | .int x :: .int j :: .ref h :: r => match σ[h]? with
      | some (.inl (1, n, .inl f)) => if inN j n = true then some (pc + 1, lv, r, σ.set h (.inl (1, n, .inl (upd f j.toNatClampNeg (vp_nar .boolean x))))) else none
      | _ => none
    | _ => none
  | .lastore => match st with
    | .long x :: .int j :: .ref h :: r => match σ[h]? with
      | some (.inl (2, n, .inr (.inl f))) => if inN j n = true then some (pc + 1, lv, r, σ.set h (.inl (2, n, .inr (.inl (vp_updL f j.toNatClampNeg x))))) else none
      | _ => none
    | _ => none
  | _ => none

theorem vM_rf (ad : Nat → Nat) (o : Option Nat) : vM ad (va_rf o) = va_rf (o.map ad) := by cases o <;> rfl
theorem vM_narrow {ad : Nat → Nat} {ty : FieldType} {v : Value} (h : narrow ty v = v) : narrow ty (vM ad v) = vM ad v := by
  cases v <;> first | exact h | (cases ty <;> rfl)
theorem vM_fits {ad : Nat → Nat} {ty : FieldType} {v : Value} (h : fits ty v = true) : fits ty (vM ad v) = true := by
  cases v <;> first | exact h | (cases ty <;> first | exact h | rfl)
section Sim
variable {p : Program} {l : Launch} {e : Env} {R : Room} {s : State} {m : MethodId} {args : Array Value} {below : List Frame} {meth : Method} {c : Code} {H : Heap} {locs : List Loc} {cells slots : Nat} {Q : State → Prop}
variable {cc : ByteArray} {n : Nat} {ret : Option FieldType} {y0 : MethodName} {D : va_G} {cs ad : Nat → Nat} {A : Nat → Prop} {pc : Nat} {ls : Array Slot} {lv : LV} {st : List Value} {σ : SG} {i : Instr} {K : LK} {r : S4}
/-- from the next state on, whatever heap and locals stand for it -/
def Nx (p : Program) (l : Launch) (e : Env) (R : Room) (s : State) (m : MethodId) (args : Array Value) (below : List Frame) (meth : Method) (c : Code) (cells slots : Nat) (Q : State → Prop) (n : Nat) (D : va_G) (cs ad : Nat → Nat) (A : Nat → Prop) (r : S4) : Prop :=
  ∀ (H : Heap) (locs : List Loc) (ls : Array Slot), va_P D CL (wM cs ad r.2.2.2) H → va_D A (wM cs ad r.2.2.2) → va_S A s.heap H locs → lv_has ls n (lM ad r.2.1) → W p l e R s m args below meth c H locs cells slots Q (F0 m r.1 ls (r.2.2.1.map (vM ad)))
theorem lv_lcmp (hexec : p.tables.exec = Jvm.exec) (hb : c.code = cc) {rest : List Value} {x y : Int64} (hdg : decode cc pc = .ok (.lcmp, 1)) (k : W p l e R s m args below meth c H locs cells slots Q (F0 m (pc + 1) ls (.int (lcm3 x y) :: rest))) : W p l e R s m args below meth c H locs cells slots Q (F0 m pc ls (.long y :: .long x :: rest)) := by
  intro T hT X
  obtain ⟨t, a, b⟩ := k T hT X
  refine ⟨t, ?_, b⟩
  have hdg' : decode c.code pc = .ok (.lcmp, 1) := by rw [hb]; exact hdg
  unfold lcm3 at a
  rcases Jvm.Stand.i64_tri x y with h | h | h
  · have h1 : ¬ y < x := by rw [Int64.lt_iff_toInt_lt] at h ⊢; omega
    have h2 : ¬ x = y := by intro e'; rw [e'] at h; rw [Int64.lt_iff_toInt_lt] at h; omega
    rw [if_neg h1, if_neg h2] at a
    exact X.lcmpLt hexec h hdg' t a
  · subst h
    have h1 : ¬ x < x := by rw [Int64.lt_iff_toInt_lt]; omega
    rw [if_neg h1, if_pos rfl] at a
    exact X.lcmpEq hexec hdg' t a
  · rw [if_pos h] at a
    exact X.lcmpGt hexec h hdg' t a

theorem simC_ok (C : Cx p s m args meth c cc n ret y0 D (T4 cs) A) (hP : va_P D CL (wM cs ad σ) H) (hD : va_D A (wM cs ad σ)) (hS : va_S A s.heap H locs) (hl : lv_has ls n (lM ad lv)) (hdg : decode cc pc = .ok (i, ilen i)) (hK : lkOK y0.cls K) (h : simC K pc i lv st σ = some r) (k : Nx p l e R s m args below meth c cells slots Q n D cs ad A r) : W p l e R s m args below meth c H locs cells slots Q (F0 m pc ls (st.map (vM ad))) := by
  have hC := C
  obtain ⟨hx, hb, -, hown, hts, -⟩ := C
  unfold simC at h
  split at h
  · cases h; exact lv_iconst hx hb hdg rfl (k H locs ls hP hD hS hl)
  · cases h; exact lv_bipush hx hb hdg rfl (k H locs ls hP hD hS hl)
  · cases h; exact lv_sipush hx hb hdg rfl (k H locs ls hP hD hS hl)
  · cases h; exact lv_lconst hx hb hdg rfl (k H locs ls hP hD hS hl)
  · split at h
    · next v hv => cases h; exact lv_ldc hx hb hown (hts _ (hK.2.1 _ _ hv)) hdg (k H locs ls hP hD hS hl)
    · cases h
  · split at h
    · next v hv => cases h; exact lv_ldcw hx hb hown (hts _ (hK.2.1 _ _ hv)) hdg (k H locs ls hP hD hS hl)
    · cases h
  · split at h
    · next v hv => cases h; exact lv_ldc2 hx hb hown (hts _ (hK.2.2 _ _ hv)) hdg (k H locs ls hP hD hS hl)
    · cases h
  · split at h
    · next x hv => cases h; exact lv_iload_n hx hb hdg rfl (lget_at hl hv) (k H locs ls hP hD hS hl)
    · cases h
  · split at h
    · next x hv => cases h; exact lv_iload hx hb hdg (lget_at hl hv) (k H locs ls hP hD hS hl)
    · cases h
  · split at h
    · next x hv => cases h; exact lv_lload_n hx hb hdg rfl (lget_at hl hv) (k H locs ls hP hD hS hl)
    · cases h
  · split at h
    · next x hv => cases h; exact lv_lload hx hb hdg (lget_at hl hv) (k H locs ls hP hD hS hl)
    · cases h
  · split at h
    · next x hv => cases h; exact lv_aload_n hx hb hdg rfl (lget_at hl hv) (k H locs ls hP hD hS hl)
    · cases h
  · split at h
    · next x hv => cases h; exact lv_aload hx hb hdg (lget_at hl hv) (k H locs ls hP hD hS hl)
    · cases h
  · cases h
theorem simD_ok (C : Cx p s m args meth c cc n ret y0 D (T4 cs) A) (hP : va_P D CL (wM cs ad σ) H) (hD : va_D A (wM cs ad σ)) (hS : va_S A s.heap H locs) (hl : lv_has ls n (lM ad lv)) (hdg : decode cc pc = .ok (i, ilen i)) (h : simD pc i lv st σ = some r) (k : Nx p l e R s m args below meth c cells slots Q n D cs ad A r) : W p l e R s m args below meth c H locs cells slots Q (F0 m pc ls (st.map (vM ad))) := by
  obtain ⟨hx, hb, -⟩ := C
  unfold simD at h
  split at h
  · split at h
    · split at h
      · next hc => cases h; exact lv_dup hx hb hdg ((vM_cat ad _).trans hc) (k H locs ls hP hD hS hl)
      · cases h
    · cases h
  · split at h
    · split at h
      · next hc => cases h; exact lv_pop hx hb hdg ((vM_cat ad _).trans hc) (k H locs ls hP hD hS hl)
      · cases h
    · cases h
  · split at h
    · split at h
      · next hc => cases h; exact lv_dup_x1 hx hb hdg ((vM_cat ad _).trans hc.1) ((vM_cat ad _).trans hc.2) (k H locs ls hP hD hS hl)
      · cases h
    · cases h
  · split at h
    · split at h
      · next hc => cases h; exact lv_dup2_11 hx hb hdg ((vM_cat ad _).trans hc.1) ((vM_cat ad _).trans hc.2) (k H locs ls hP hD hS hl)
      · cases h
    · cases h
  · cases h
theorem simS_ok (C : Cx p s m args meth c cc n ret y0 D (T4 cs) A) (hP : va_P D CL (wM cs ad σ) H) (hD : va_D A (wM cs ad σ)) (hS : va_S A s.heap H locs) (hl : lv_has ls n (lM ad lv)) (hdg : decode cc pc = .ok (i, ilen i)) (h : simS n pc i lv st σ = some r) (k : Nx p l e R s m args below meth c cells slots Q n D cs ad A r) : W p l e R s m args below meth c H locs cells slots Q (F0 m pc ls (st.map (vM ad))) := by
  obtain ⟨hx, hb, -⟩ := C
  unfold simS at h
  split at h
  · split at h
    · split at h
      · next hc => cases h; exact lv_istore_n hx hb hdg rfl hl hc (lM_S1 ad _ (.int _) lv).symm (fun ls' hl' => k H locs ls' hP hD hS hl')
      · cases h
    · cases h
  · split at h
    · split at h
      · next hc => cases h; exact lv_istore hx hb hdg hl hc (lM_S1 ad _ (.int _) lv).symm (fun ls' hl' => k H locs ls' hP hD hS hl')
      · cases h
    · cases h
  · split at h
    · split at h
      · next hc => cases h; exact lv_lstore_n hx hb hdg rfl hl hc (lM_S2 ad _ (.long _) lv).symm (fun ls' hl' => k H locs ls' hP hD hS hl')
      · cases h
    · cases h
  · split at h
    · split at h
      · next hc => cases h; exact lv_lstore hx hb hdg hl hc (lM_S2 ad _ (.long _) lv).symm (fun ls' hl' => k H locs ls' hP hD hS hl')
      · cases h
    · cases h
  · split at h
    · split at h
      · next hc => cases h; exact lv_astore_n hx hb hdg rfl hl hc (lM_S1 ad _ (.ref _) lv).symm (fun ls' hl' => k H locs ls' hP hD hS hl')
      · cases h
    · cases h
  · split at h
    · split at h
      · next hc => cases h; exact lv_astore hx hb hdg hl hc (lM_S1 ad _ (.ref _) lv).symm (fun ls' hl' => k H locs ls' hP hD hS hl')
      · cases h
    · cases h
  · split at h
    · next x hv =>
      split at h
      · next hc =>
        cases h
        obtain ⟨j, hj⟩ := lget_ix (ad := ad) hv
        exact lv_iinc hx hb hdg hl hj rfl hc (lM_S1 ad _ (.int _) lv).symm (fun ls' hl' => k H locs ls' hP hD hS hl')
      · cases h
    · cases h
  · cases h
theorem simU_ok (C : Cx p s m args meth c cc n ret y0 D (T4 cs) A) (hP : va_P D CL (wM cs ad σ) H) (hD : va_D A (wM cs ad σ)) (hS : va_S A s.heap H locs) (hl : lv_has ls n (lM ad lv)) (hdg : decode cc pc = .ok (i, ilen i)) (h : simU pc i lv st σ = some r) (k : Nx p l e R s m args below meth c cells slots Q n D cs ad A r) : W p l e R s m args below meth c H locs cells slots Q (F0 m pc ls (st.map (vM ad))) := by
  obtain ⟨hx, hb, -⟩ := C
  unfold simU at h
  split at h
  · split at h
    · cases h; exact lv_ineg hx hb hdg (k H locs ls hP hD hS hl)
    · cases h
  · split at h
    · cases h; exact lv_i2l hx hb hdg rfl (k H locs ls hP hD hS hl)
    · cases h
  · split at h
    · cases h; exact lv_l2i hx hb hdg rfl (k H locs ls hP hD hS hl)
    · cases h
  · split at h
    · cases h; exact lv_i2c hx hb hdg rfl (k H locs ls hP hD hS hl)
    · cases h
  · split at h
    · cases h; exact lv_lcmp hx hb hdg (k H locs ls hP hD hS hl)
    · cases h
  · cases h
theorem simA_ok (C : Cx p s m args meth c cc n ret y0 D (T4 cs) A) (hP : va_P D CL (wM cs ad σ) H) (hD : va_D A (wM cs ad σ)) (hS : va_S A s.heap H locs) (hl : lv_has ls n (lM ad lv)) (hdg : decode cc pc = .ok (i, ilen i)) (h : simA pc i lv st σ = some r) (k : Nx p l e R s m args below meth c cells slots Q n D cs ad A r) : W p l e R s m args below meth c H locs cells slots Q (F0 m pc ls (st.map (vM ad))) := by
  obtain ⟨hx, hb, -⟩ := C
  unfold simA at h
  split at h
  · split at h
    · next v hv =>
      cases h
      have k' := k H locs ls hP hD hS hl
      unfold bI at hv
      split at hv
      · cases hv; exact lv_iadd hx hb hdg k'
      · cases hv; exact lv_isub hx hb hdg k'
      · cases hv; exact lv_imul hx hb hdg k'
      · cases hv; exact lv_iand hx hb hdg k'
      · cases hv; exact lv_ior hx hb hdg k'
      · cases hv; exact lv_ixor hx hb hdg k'
      · split at hv
        · cases hv
        · next hz => cases hv; exact lv_idiv hx hb hdg hz k'
      · split at hv
        · cases hv
        · next hz => cases hv; exact lv_irem hx hb hdg hz k'
      · cases hv; exact lv_ishl hx hb hdg k'
      · cases hv; exact lv_ishr hx hb hdg k'
      · cases hv; exact lv_iushr hx hb hdg rfl k'
      · cases hv
    · cases h
  · split at h
    · next v hv =>
      cases h
      have k' := k H locs ls hP hD hS hl
      unfold bL at hv
      split at hv
      · cases hv; exact lv_ladd hx hb hdg k'
      · cases hv; exact lv_lsub hx hb hdg k'
      · cases hv; exact lv_lmul hx hb hdg k'
      · cases hv; exact lv_land hx hb hdg k'
      · cases hv; exact lv_lor hx hb hdg k'
      · cases hv; exact lv_lxor hx hb hdg k'
      · cases hv
    · cases h
  · split at h
    · next v hv =>
      cases h
      have k' := k H locs ls hP hD hS hl
      unfold sL at hv
      split at hv
      · cases hv; exact lv_lshl hx hb hdg rfl k'
      · cases hv; exact lv_lshr hx hb hdg rfl k'
      · cases hv; exact lv_lushr hx hb hdg rfl k'
      · cases hv
    · cases h
  · cases h
theorem simB_ok (C : Cx p s m args meth c cc n ret y0 D (T4 cs) A) (hP : va_P D CL (wM cs ad σ) H) (hD : va_D A (wM cs ad σ)) (hS : va_S A s.heap H locs) (hl : lv_has ls n (lM ad lv)) (hdg : decode cc pc = .ok (i, ilen i)) (h : simB pc i lv st σ = some r) (k : Nx p l e R s m args below meth c cells slots Q n D cs ad A r) : W p l e R s m args below meth c H locs cells slots Q (F0 m pc ls (st.map (vM ad))) := by
  obtain ⟨hx, hb, -⟩ := C
  unfold simB at h
  split at h
  · split at h
    · next hc => cases h; exact lv_goto hx hb hdg (Int.toNat_of_nonneg hc).symm (k H locs ls hP hD hS hl)
    · cases h
  · next cd off =>
    split at h
    · split at h
      · next hc =>
        cases h
        have k' := k H locs ls hP hD hS hl
        have ht := (Int.toNat_of_nonneg hc).symm
        cases cd
        · exact lv_if_eq hx hb hdg ht (fun q => by simp only [cI, decide_eq_true_eq] at k'; rw [if_pos q] at k'; exact k') (fun q => by simp only [cI, decide_eq_true_eq] at k'; rw [if_neg q] at k'; exact k')
        · exact lv_if_ne hx hb hdg ht (fun q => by simp only [cI, decide_eq_true_eq] at k'; rw [if_pos q] at k'; exact k') (fun q => by simp only [cI, decide_eq_true_eq] at k'; rw [if_neg (fun h0 => h0 q)] at k'; exact k')
        · exact lv_if_lt hx hb hdg ht (fun q => by simp only [cI, decide_eq_true_eq] at k'; rw [if_pos q] at k'; exact k') (fun q => by simp only [cI, decide_eq_true_eq] at k'; rw [if_neg q] at k'; exact k')
        · exact lv_if_ge hx hb hdg ht (fun q => by simp only [cI, decide_eq_true_eq] at k'; rw [if_pos q] at k'; exact k') (fun q => by simp only [cI, decide_eq_true_eq] at k'; rw [if_neg q] at k'; exact k')
        · exact lv_if_gt hx hb hdg ht (fun q => by simp only [cI, decide_eq_true_eq] at k'; rw [if_pos q] at k'; exact k') (fun q => by simp only [cI, decide_eq_true_eq] at k'; rw [if_neg q] at k'; exact k')
        · exact lv_if_le hx hb hdg ht (fun q => by simp only [cI, decide_eq_true_eq] at k'; rw [if_pos q] at k'; exact k') (fun q => by simp only [cI, decide_eq_true_eq] at k'; rw [if_neg q] at k'; exact k')
      · cases h
    · cases h
  · next cd off =>
    split at h
    · split at h
      · next hc =>
        cases h
        have k' := k H locs ls hP hD hS hl
        have ht := (Int.toNat_of_nonneg hc).symm
        cases cd
        · exact lv_icmp_eq hx hb hdg ht (fun q => by simp only [cI, decide_eq_true_eq] at k'; rw [if_pos q] at k'; exact k') (fun q => by simp only [cI, decide_eq_true_eq] at k'; rw [if_neg q] at k'; exact k')
        · exact lv_icmp_ne hx hb hdg ht (fun q => by simp only [cI, decide_eq_true_eq] at k'; rw [if_pos q] at k'; exact k') (fun q => by simp only [cI, decide_eq_true_eq] at k'; rw [if_neg (fun h0 => h0 q)] at k'; exact k')
        · exact lv_icmp_lt hx hb hdg ht (fun q => by simp only [cI, decide_eq_true_eq] at k'; rw [if_pos q] at k'; exact k') (fun q => by simp only [cI, decide_eq_true_eq] at k'; rw [if_neg q] at k'; exact k')
        · exact lv_icmp_ge hx hb hdg ht (fun q => by simp only [cI, decide_eq_true_eq] at k'; rw [if_pos q] at k'; exact k') (fun q => by simp only [cI, decide_eq_true_eq] at k'; rw [if_neg q] at k'; exact k')
        · exact lv_icmp_gt hx hb hdg ht (fun q => by simp only [cI, decide_eq_true_eq] at k'; rw [if_pos q] at k'; exact k') (fun q => by simp only [cI, decide_eq_true_eq] at k'; rw [if_neg q] at k'; exact k')
        · exact lv_icmp_le hx hb hdg ht (fun q => by simp only [cI, decide_eq_true_eq] at k'; rw [if_pos q] at k'; exact k') (fun q => by simp only [cI, decide_eq_true_eq] at k'; rw [if_neg q] at k'; exact k')
      · cases h
    · cases h
  · split at h
    · cases h; exact lv_ifnull hx hb hdg (k H locs ls hP hD hS hl)
    · split at h
      · next hc => cases h; exact lv_ifnullN hx hb hdg (Int.toNat_of_nonneg hc).symm (k H locs ls hP hD hS hl)
      · cases h
    · cases h
  · cases h
theorem simH_ok (C : Cx p s m args meth c cc n ret y0 D (T4 cs) A) (hP : va_P D CL (wM cs ad σ) H) (hD : va_D A (wM cs ad σ)) (hS : va_S A s.heap H locs) (hl : lv_has ls n (lM ad lv)) (hdg : decode cc pc = .ok (i, ilen i)) (hK : lkOK y0.cls K) (h : simH K pc i lv st σ = some r) (k : Nx p l e R s m args below meth c cells slots Q n D cs ad A r) : W p l e R s m args below meth c H locs cells slots Q (F0 m pc ls (st.map (vM ad))) := by
  have hC := C
  obtain ⟨hx, hb, -, hown, hts, hKK, -⟩ := C
  unfold simH at h
  split at h
  · split at h
    · next hf =>
      split at h
      · next hh =>
        split at h
        · next hci =>
          subst hci
          split at h
          · next hv =>
            cases h
            obtain ⟨dec, F⟩ := hK.1 _ _ _ _ _ hf
            exact r_get hC hP _ (wM_get hh) F (by rw [List.getElem?_map, hv]; rfl) hdg (k H locs ls hP hD hS hl)
          · cases h
        · cases h
      · cases h
    · cases h
  · split at h
    · next hf =>
      split at h
      · next hh =>
        split at h
        · next hci =>
          obtain ⟨rfl, hk, hn, hfit⟩ := hci
          cases h
          obtain ⟨dec, F⟩ := hK.1 _ _ _ _ _ hf
          exact r_put hC hP hD hS _ (wM_get hh) F (vM_narrow hn) (vM_fits hfit) (by rw [List.length_map]; exact hk) hdg _ (by rw [wM_set]; simp only [eM, List.map_set]) (fun H1 locs1 h1 h2 h3 => k H1 locs1 ls h1 h2 h3 hl)
        · cases h
      · cases h
    · cases h
  · split at h
    · split at h
      · next hh =>
        split at h
        · next hc => cases h; exact va_iald hx hb hKK hP _ 0 (wM_get hh) rfl (inN_in hc) hdg (k H locs ls hP hD hS hl)
        · cases h
      · cases h
    · cases h
  · split at h
    · split at h
      · next hh =>
        split at h
        · next hc => cases h; exact va_zald hx hb hKK hP _ 1 (wM_get hh) rfl (inN_in hc) hdg (k H locs ls hP hD hS hl)
        · cases h
      · cases h
    · cases h
  · split at h
    · split at h
      · next hh =>
        split at h
        · next hc => cases h; exact va_lald hx hb hKK hP _ 2 (wM_get hh) rfl (inN_in hc) hdg (k H locs ls hP hD hS hl)
        · cases h
      · cases h
    · cases h
  · split at h
    · split at h
      · next hh =>
        split at h
        · next hc =>
          cases h
          refine va_aldq hx hb hKK hP _ 3 (wM_get hh) rfl (inN_in hc) hdg ?_
          have k' := k H locs ls hP hD hS hl
          rw [List.map_cons, vM_rf] at k'
          exact k'
        · cases h
      · cases h
    · cases h
  · split at h
    · split at h
      · next hh =>
        split at h
        · next hc => cases h; exact va_iast hx hb hKK hP hD hS _ 0 (wM_get hh) rfl (inN_in hc) hdg (fun H1 locs1 h1 h2 h3 => k H1 locs1 ls (by rw [wM_set]; exact h1) (by rw [wM_set]; exact h2) h3 hl)
        · cases h
      · cases h
    · cases h
  · split at h
    · split at h
      · next hh =>
        split at h
        · next hc => cases h; exact va_zast hx hb hKK hP hD hS _ 1 (wM_get hh) rfl (inN_in hc) hdg (fun H1 locs1 h1 h2 h3 => k H1 locs1 ls (by rw [wM_set]; exact h1) (by rw [wM_set]; exact h2) h3 hl)
        · cases h
      · cases h
    · cases h
  · split at h
    · split at h
      · next hh =>
        split at h
        · next hc => cases h; exact va_last hx hb hKK hP hD hS _ 2 (wM_get hh) rfl (inN_in hc) hdg (fun H1 locs1 h1 h2 h3 => k H1 locs1 ls (by rw [wM_set]; exact h1) (by rw [wM_set]; exact h2) h3 hl)
        · cases h
      · cases h
    · cases h
  · cases h
end Sim
end
section
/-! the whole machine as a function: fuel, depth of calls, method, place, locals, stack, exceptions made so far, heap -/
abbrev MI : Type := MethodName × ByteArray × Nat × Option FieldType × List (Nat × Nat × Nat × Nat)
abbrev TB : Type := (Nat → Option MI) × (Nat → Nat → Option Instr) × (Nat → LK) × (Nat → Nat → Option (Nat × Nat × Nat × Nat)) × (Nat → Nat → Option String) × (Nat → Nat → String → Option (Nat × Nat)) × (Nat → Nat → Nat → LV → List Value → SG → Option S4)
def tbM (G : TB) : Nat → Option MI := G.1
def tbF (G : TB) : Nat → Nat → Option Instr := G.2.1
def tbK (G : TB) : Nat → LK := G.2.2.1
def tbC (G : TB) : Nat → Nat → Option (Nat × Nat × Nat × Nat) := G.2.2.2.1
def tbT (G : TB) : Nat → Nat → Option String := G.2.2.2.2.1
def tbH (G : TB) : Nat → Nat → String → Option (Nat × Nat) := G.2.2.2.2.2.1
def tbX (G : TB) : Nat → Nat → Nat → LV → List Value → SG → Option S4 := G.2.2.2.2.2.2
abbrev OC : Type := String ⊕ Option Value
def sim (G : TB) (k n pc : Nat) (i : Instr) (lv : LV) (st : List Value) (σ : SG) : Option S4 := match simC (tbK G k) pc i lv st σ with
  | some r => some r
  | none => match simS n pc i lv st σ with
    | some r => some r
    | none => match simA pc i lv st σ with
      | some r => some r
      | none => match simB pc i lv st σ with
        | some r => some r
        | none => match simH (tbK G k) pc i lv st σ with
          | some r => some r
          | none => match simU pc i lv st σ with
            | some r => some r
            | none => simD pc i lv st σ
def cats (st : List Value) : Nat := (st.map fun v => v.category).sum
def rtn (ret : Option FieldType) (i : Instr) (st : List Value) : Option (Option Value) := match ret, i, st with
  | none, .return_, [] => some none
  | some .int, .ireturn, [.int v] => some (some (.int v))
  | some .boolean, .ireturn, [.int v] => if v = 0 ∨ v = 1 then some (some (.int v)) else none
  | some .long, .lreturn, [.long v] => some (some (.long v))
  | some (.object _), .areturn, [.ref h] => some (some (.ref h))
  | _, _, _ => none
def cal (G : TB) (k : Nat) (i : Instr) (st : List Value) (σ : SG) : Option (Nat × Nat × List Value × List Value) := match i with
  | .invokevirtual ix => match tbC G k ix with
    | some (k', 0, na, ci) => match tbM G k', (st.take (na + 1)).reverse with
      | some M', .ref h :: As => match σ[h]? with
        | some (.inr (c, _)) => if c = ci ∧ As.length = na ∧ cats (st.drop (na + 1)) ≤ 8 ∧ cats (.ref h :: As) ≤ M'.2.2.1 then some (k', 0, .ref h :: As, st.drop (na + 1)) else none
        | _ => none
      | _, _ => none
    | _ => none
  | .invokestatic ix => match tbC G k ix with
    | some (k', kd + 1, na, _) => match tbM G k' with
      | some M' => if (st.take na).length = na ∧ cats (st.drop na) ≤ 8 ∧ cats (st.take na).reverse ≤ M'.2.2.1 then some (k', kd + 1, (st.take na).reverse, st.drop na) else none
      | none => none
    | _ => none
  | _ => none
def lD (j : Nat) (lv : LV) : LV := lv.filter (fun q => !(q.1 == j) && !(q.1 + 1 == j && q.2.category == 2))
def ev (G : TB) : Nat → Nat → Nat → Nat → LV → List Value → Nat → SG → Option (Nat × OC × SG)
  | 0, _, _, _, _, _, _, _ => none
  | f + 1, d, k, pc, lv, st, c, σ => match tbX G d k pc lv st σ with
    | some r => ev G f d k r.1 r.2.1 r.2.2.1 c r.2.2.2
    | none => match tbM G k, tbF G k pc with
      | some M, some i => match sim G k M.2.2.1 pc i lv st σ with
        | some r => ev G f d k r.1 r.2.1 r.2.2.1 c r.2.2.2
        | none => match rtn M.2.2.2.1 i st with
          | some v => some (c, .inr v, σ)
          | none => match tbT G k pc with
            | some E => if M.2.2.2.2 = [] ∧ cats st ≤ 8 then some (c + 1, .inl E, σ) else none
            | none => match cal G k i st σ with
              | none => none
              | some (k', kd, av, rest) => match d with
                | 0 => none
                | d' + 1 => match ev G f d' k' 0 (lv_args 0 av) [] 0 σ with
                  | none => none
                  | some (c2, .inr none, σ2) => ev G f (d' + 1) k (pc + 3) lv rest (c + c2) σ2
                  | some (c2, .inr (some v), σ2) => ev G f (d' + 1) k (pc + 3) lv (v :: rest) (c + c2) σ2
                  | some (c2, .inl E, σ2) => if 2 ≤ kd then none else match M.2.2.2.2 with
                    | [] => some (c + c2, .inl E, σ2)
                    | _ :: _ => match tbH G k pc E with
                      | some (h, j) => ev G f (d' + 1) k h (lD j lv) [] (c + c2) σ2
                      | none => none
      | _, _ => none
theorem ev_mono (G : TB) : ∀ (f d k pc : Nat) (lv : LV) (st : List Value) (c : Nat) (σ : SG) (c' : Nat) (o : OC) (σ' : SG), ev G f d k pc lv st c σ = some (c', o, σ') → c ≤ c' := by
  intro f
  induction f with
  | zero => intro d k pc lv st c σ c' o σ' h; cases h
  | succ f ih =>
    intro d k pc lv st c σ c' o σ' h
    unfold ev at h
    split at h
    · exact ih _ _ _ _ _ _ _ _ _ _ h
    · split at h
      · split at h
        · exact ih _ _ _ _ _ _ _ _ _ _ h
        · split at h
          · cases h; exact Nat.le_refl _
          · split at h
            · split at h
              · cases h; exact Nat.le_succ _
              · cases h
            · split at h
              · cases h
              · split at h
                · cases h
                · split at h
                  · cases h
                  · exact Nat.le_trans (Nat.le_add_right _ _) (ih _ _ _ _ _ _ _ _ _ _ h)
                  · exact Nat.le_trans (Nat.le_add_right _ _) (ih _ _ _ _ _ _ _ _ _ _ h)
                  · split at h
                    · cases h
                    · split at h
                      · cases h; exact Nat.le_add_right _ _
                      · split at h
                        · exact Nat.le_trans (Nat.le_add_right _ _) (ih _ _ _ _ _ _ _ _ _ _ h)
                        · cases h
      · cases h
theorem lM_args (ad : Nat → Nat) : ∀ (av : List Value) (i : Nat), lv_args i (av.map (vM ad)) = lM ad (lv_args i av) := by
  intro av
  induction av with
  | nil => intro i; rfl
  | cons v r ih =>
    intro i
    show (i, vM ad v) :: lv_args (if (vM ad v).category = 2 then i + 2 else i + 1) (r.map (vM ad)) = (i, vM ad v) :: lM ad (lv_args (if v.category = 2 then i + 2 else i + 1) r)
    rw [vM_cat, ih]
theorem lM_D (ad : Nat → Nat) (j : Nat) (lv : LV) : lM ad (lD j lv) = (lM ad lv).filter (fun q => !(q.1 == j) && !(q.1 + 1 == j && q.2.category == 2)) := lM_filter ad (fun a c => !(a == j) && !(a + 1 == j && c == 2)) lv
theorem lv_tail {ls : Array Slot} {n : Nat} {q : Nat × Value} {l : List (Nat × Value)} (h : lv_has ls n (q :: l)) : lv_has ls n l := ⟨h.1, h.2.1, fun x hx => h.2.2 x (List.mem_cons_of_mem _ hx)⟩
theorem lg_sl_len : ∀ av : List Value, (lg_sl av).length = cats av := by
  intro av
  induction av with
  | nil => rfl
  | cons v r ih =>
    cases v <;> simp_all [lg_sl, cats, Value.category] <;> omega
end
section
/-! what the function 'ev' says holds of the machine -/
def CSN (own : String) (idx : Nat) (y : MethodName) (bytes : ByteArray) (maxL : Nat) (ret : Option FieldType) (na : Nat) : Prop := (own, idx, y) ∈ nst ∧ Cond.static y ∈ Big ∧ Cond.initialized y.cls ∈ Big ∧ Cond.code y bytes maxL ret ∈ Big ∧ Cd y na
theorem run_SN {p : Program} {l : Launch} {e : Env} {R : Room} {s : State} {m : MethodId} {args : Array Value} {below : List Frame} {meth : Method} {c : Code} {H : Heap} {locs : List Loc} {cells slots : Nat} {cc : ByteArray} {n : Nat} {ret : Option FieldType} {y0 : MethodName} {D : va_G} {T : List (ClassId × FieldType)} {A : Nat → Prop} {pc : Nat} {ls : Array Slot} {rest st As : List Value} {ws wc : va_W} {y : MethodName} {bytes : ByteArray} {maxL na idx d mc ms : Nat} {rt : Option FieldType} {Qf : (Nat → Prop) → Array Value → State → Outcome → State → Prop}
    (C : Cx p s m args meth c cc n ret y0 D T A) (hM : cM l y bytes maxL rt D T As wc Qf d mc ms) (cv : CSN y0.cls idx y bytes maxL rt na) (hP : va_P D CL ws H) (hD : va_D A ws) (hS : va_S A s.heap H locs) (isC : List Nat) (hC : isC.map (fun i => ws[i]?) = wc.map some) (hnC : va_nd isC = true) (hna : As.length = na) (hz : ls.size = n) (hst : st = As.reverse ++ rest) (hroom : (rest.map fun v => v.category).sum ≤ 8) (hdg : decode cc pc = .ok (.invokestatic idx, 3))
    (hR : (rmd d mc ms).frames + 1 ≤ R.frames ∧ 8 + (maxL + 11) + (rmd d mc ms).locals ≤ R.locals) (hf : cells + mc ≤ R.cells ∧ slots + ms ≤ R.slots) : va_Run p l e R s m args below meth c H locs cells slots mc ms (F0 m pc ls st) rest (Qf (va_A wc H.size) As.toArray) (va_A wc H.size) := by
  have hpre := pre_of (av := As) C hP hD hS isC hC hnC
  obtain ⟨hx, hb, hml, hown, hts, hK, -, -, hSx, -⟩ := C
  obtain ⟨h1, h2, h4, h5, h6⟩ := cv
  have hcw : va_CN R s args y0.cls idx y "GalleryGuards" bytes maxL rt (.code y bytes maxL rt :: Big) (rmd d mc ms) mc ms na := va_cnB na hts (big_sub (fun w hw => by
    rcases List.mem_cons.mp hw with rfl | hw
    · exact h5
    · exact hw)) rfl rfl rfl (hSx.2.2.2.2 _ h1) (hts _ h4) h6 hR
  exact va_runSN (As := As) (rest := rest) ⟨hx, hb, hml, hown, hts⟩ (hM H.size) ⟨hcw, hts _ h2, trivial⟩ ⟨cPre_blind, hpre⟩ rfl hna hz hst (lv_room hroom) hdg hf
def qq (D : va_G) (cs ad : Nat → Nat) (r : Option Value) (σ' : SG) (A : Nat → Prop) : Array Value → State → Outcome → State → Prop := match r with
  | none => qV D (T4 cs) (fun _ : Unit => wM cs ad σ') A
  | some (.int v) => qI D (T4 cs) (fun _ : Unit => v) (fun _ : Unit => wM cs ad σ') A
  | some (.long v) => qL D (T4 cs) (fun _ : Unit => v) (fun _ : Unit => wM cs ad σ') A
  | some (.ref h) => qR D (T4 cs) (fun _ : Unit => ad h) (fun _ : Unit => wM cs ad σ') A
  | some _ => fun _ _ _ _ => False
def QF (D : va_G) (cs ad : Nat → Nat) (below : List Frame) (args : Array Value) (s : State) (A : Nat → Prop) (c' : Nat) (o : OC) (σ' : SG) : State → Prop := match o with
  | .inr r => MQ below (qq D cs ad r σ' A) args s c' (6 * c') A
  | .inl E => vx_MQ below (fun _ _ _ _ => False) (xX D (T4 cs) E (wM cs ad σ') A) args s c' (6 * c') A
/-! what the tables must say -/
def gM (G : TB) : Prop := ∀ k M, tbM G k = some M → plainName M.1.cls = true ∧ M.2.2.1 ≤ 150 ∧ lkOK M.1.cls (tbK G k) ∧ ∀ pc i, tbF G k pc = some i → decode M.2.1 pc = .ok (i, ilen i)
def gC (G : TB) : Prop := ∀ k M ix k' kd na ci M', tbM G k = some M → tbC G k ix = some (k', kd, na, ci) → tbM G k' = some M' →
  (kd = 0 → M'.2.2.2.2 = [] ∧ CV M.1.cls ix M'.1 M'.2.1 M'.2.2.1 M'.2.2.2.1 na ∧ ∃ q, CL[ci]? = some q ∧ q.1 = M'.1.cls) ∧
  (kd = 1 → M'.2.2.2.2 = [] ∧ CS M.1.cls ix M'.1 M'.2.1 M'.2.2.1 M'.2.2.2.1 na) ∧
  (kd = 2 → M'.2.2.2.2 = [] ∧ CSN M.1.cls ix M'.1 M'.2.1 M'.2.2.1 M'.2.2.2.1 na) ∧
  (3 ≤ kd → M'.2.2.2.2 ≠ [] ∧ CSW M.1.cls ix M'.1 M'.2.1 M'.2.2.1 M'.2.2.2.1 M'.2.2.2.2 na)
def gT (G : TB) : Prop := ∀ k M pc E, tbM G k = some M → tbT G k pc = some E → ∃ (ik is ic : Nat) (text : String) (names : List String), Tf M.1.cls ik is ic E text names ∧ names.length ≤ 5 ∧ decode M.2.1 pc = .ok (.new ik, 3) ∧ decode M.2.1 (pc + 3) = .ok (.dup, 1) ∧
  ((decode M.2.1 (pc + 4) = .ok (.ldc is, 2) ∧ decode M.2.1 (pc + 6) = .ok (.invokespecial ic, 3) ∧ decode M.2.1 (pc + 9) = .ok (.athrow, 1)) ∨
   (decode M.2.1 (pc + 4) = .ok (.ldc_w is, 3) ∧ decode M.2.1 (pc + 7) = .ok (.invokespecial ic, 3) ∧ decode M.2.1 (pc + 10) = .ok (.athrow, 1)))
def gH (G : TB) : Prop := ∀ k M pc E h j, tbM G k = some M → tbH G k pc E = some (h, j) → E ∈ cas ∧ ∃ (pre : List ExceptionTableEntry) (x : ExceptionTableEntry) (suf : List ExceptionTableEntry), tableOf M.2.2.2.2 = pre ++ x :: suf ∧ (∀ z ∈ pre, covers z pc = false ∨ (z.catchType ≠ 0 ∧ ∃ nm : String, Cond.classLink M.1.cls z.catchType nm ∈ Big ∧ (E, nm) ∈ ncs)) ∧ covers x pc = true ∧ x.catchType ≠ 0 ∧ Cond.classLink M.1.cls x.catchType E ∈ Big ∧ j < M.2.2.1 ∧ ((∃ j4 : Fin 4, (j4 : Nat) = j ∧ h = x.handlerPc + 1 ∧ decode M.2.1 x.handlerPc = .ok (.astore_n j4, 1)) ∨ (h = x.handlerPc + 2 ∧ decode M.2.1 x.handlerPc = .ok (.astore j, 2)))
def gX (l : Launch) (G : TB) (D : va_G) (cs ad : Nat → Nat) : Prop := ∀ d k M pc lv st σ r, tbM G k = some M → tbX G d k pc lv st σ = some r → ∀ (p : Program) (e : Env) (s : State) (m : MethodId) (args : Array Value) (below : List Frame) (meth : Method) (c : Code) (H : Heap) (locs : List Loc) (ls : Array Slot) (A : Nat → Prop) (mc ms cells slots : Nat) (Q : State → Prop),
  Cx p s m args meth c M.2.1 M.2.2.1 M.2.2.2.1 M.1 D (T4 cs) A → va_P D CL (wM cs ad σ) H → va_D A (wM cs ad σ) → va_S A s.heap H locs → lv_has ls M.2.2.1 (lM ad lv) → cells ≤ mc → slots ≤ ms → Nx p l e (rmd d mc ms) s m args below meth c cells slots Q M.2.2.1 D cs ad A r → W p l e (rmd d mc ms) s m args below meth c H locs cells slots Q (F0 m pc ls (st.map (vM ad)))
section Snd
variable {l : Launch} {G : TB} {D : va_G} {cs ad : Nat → Nat}
theorem sim_ok {p : Program} {e : Env} {R : Room} {s : State} {m : MethodId} {args : Array Value} {below : List Frame} {meth : Method} {c : Code} {H : Heap} {locs : List Loc} {cells slots : Nat} {Q : State → Prop} {cc : ByteArray} {n : Nat} {ret : Option FieldType} {y0 : MethodName} {A : Nat → Prop} {k pc : Nat} {ls : Array Slot} {lv : LV} {st : List Value} {σ : SG} {i : Instr} {r : S4}
    (C : Cx p s m args meth c cc n ret y0 D (T4 cs) A) (hP : va_P D CL (wM cs ad σ) H) (hD : va_D A (wM cs ad σ)) (hS : va_S A s.heap H locs) (hl : lv_has ls n (lM ad lv)) (hdg : decode cc pc = .ok (i, ilen i)) (hK : lkOK y0.cls (tbK G k)) (h : sim G k n pc i lv st σ = some r) (kk : Nx p l e R s m args below meth c cells slots Q n D cs ad A r) : W p l e R s m args below meth c H locs cells slots Q (F0 m pc ls (st.map (vM ad))) := by
  unfold sim at h
  split at h
  · next h1 => cases h; exact simC_ok C hP hD hS hl hdg hK h1 kk
  · split at h
    · next h1 => cases h; exact simS_ok C hP hD hS hl hdg h1 kk
    · split at h
      · next h1 => cases h; exact simA_ok C hP hD hS hl hdg h1 kk
      · split at h
        · next h1 => cases h; exact simB_ok C hP hD hS hl hdg h1 kk
        · split at h
          · next h1 => cases h; exact simH_ok C hP hD hS hl hdg hK h1 kk
          · split at h
            · next h1 => cases h; exact simU_ok C hP hD hS hl hdg h1 kk
            · exact simD_ok C hP hD hS hl hdg h kk
/-- of a body from any place on -/
def BD (l : Launch) (G : TB) (D : va_G) (cs ad : Nat → Nat) (f : Nat) : Prop := ∀ (d k pc : Nat) (lv : LV) (st : List Value) (c : Nat) (σ : SG) (c' : Nat) (o : OC) (σ' : SG) (M : MI), ev G f d k pc lv st c σ = some (c', o, σ') → tbM G k = some M →
  ∀ (p : Program) (e : Env) (s : State) (m : MethodId) (args : Array Value) (below : List Frame) (meth : Method) (code : Code) (H : Heap) (locs : List Loc) (ls : Array Slot) (A : Nat → Prop),
    Cx p s m args meth code M.2.1 M.2.2.1 M.2.2.2.1 M.1 D (T4 cs) A → (∀ E, o = .inl E → ∀ x ∈ code.exceptionTable.toList, False) → (M.2.2.2.2 ≠ [] → code.exceptionTable.toList = tableOf M.2.2.2.2) → va_P D CL (wM cs ad σ) H → va_D A (wM cs ad σ) → va_S A s.heap H locs → lv_has ls M.2.2.1 (lM ad lv) →
    W p l e (rmd d c' (6 * c')) s m args below meth code H locs c (6 * c) (QF D cs ad below args s A c' o σ') (F0 m pc ls (st.map (vM ad)))
/-- of a method -/
theorem kt_ret {f : Nat} (B : BD l G D cs ad f) (hg : gM G) {d k : Nat} {av : List Value} {σ σ' : SG} {c' : Nat} {r : Option Value} {M : MI} (h : ev G f d k 0 (lv_args 0 av) [] 0 σ = some (c', .inr r, σ')) (hM : tbM G k = some M) (hh : M.2.2.2.2 = []) (hn : cats av ≤ M.2.2.1) :
    cM l M.1 M.2.1 M.2.2.1 M.2.2.2.1 D (T4 cs) (av.map (vM ad)) (wM cs ad σ) (qq D cs ad r σ') d c' (6 * c') := by
  refine enterM (hg k M hM).1 (by rw [lg_sl_len]; unfold cats at hn ⊢; rw [vM_sum]; exact hn) (fun p e s m below meth c ls A C hP hD hS hl => ?_)
  rw [lM_args] at hl
  exact B d k 0 _ [] 0 σ c' (.inr r) σ' M h hM p e s m _ below meth c _ [] ls A C (fun E hE => nomatch hE) (fun h0 => absurd hh h0) hP hD hS hl
theorem kt_retW {f : Nat} (B : BD l G D cs ad f) (hg : gM G) {d k : Nat} {av : List Value} {σ σ' : SG} {c' : Nat} {r : Option Value} {M : MI} (h : ev G f d k 0 (lv_args 0 av) [] 0 σ = some (c', .inr r, σ')) (hM : tbM G k = some M) (hn : cats av ≤ M.2.2.1) :
    cMW l M.1 M.2.1 M.2.2.1 M.2.2.2.1 M.2.2.2.2 D (T4 cs) (av.map (vM ad)) (wM cs ad σ) (qq D cs ad r σ') d c' (6 * c') := by
  refine enterW (hg k M hM).1 (by rw [lg_sl_len]; unfold cats at hn ⊢; rw [vM_sum]; exact hn) (fun p e s m below meth c ls A C htab hP hD hS hl => ?_)
  rw [lM_args] at hl
  exact B d k 0 _ [] 0 σ c' (.inr r) σ' M h hM p e s m _ below meth c _ [] ls A C (fun E hE => nomatch hE) (fun _ => htab) hP hD hS hl
theorem kt_thr {f : Nat} (B : BD l G D cs ad f) (hg : gM G) {d k : Nat} {av : List Value} {σ σ' : SG} {c' : Nat} {E : String} {M : MI} (h : ev G f d k 0 (lv_args 0 av) [] 0 σ = some (c', .inl E, σ')) (hM : tbM G k = some M) (hh : M.2.2.2.2 = []) (hn : cats av ≤ M.2.2.1) :
    cX l M.1 M.2.1 M.2.2.1 M.2.2.2.1 D (T4 cs) (av.map (vM ad)) (wM cs ad σ) E (wM cs ad σ') d c' (6 * c') := by
  refine enterX (hg k M hM).1 (by rw [lg_sl_len]; unfold cats at hn ⊢; rw [vM_sum]; exact hn) (fun p e s m below meth c ls A C htab hP hD hS hl => ?_)
  rw [lM_args] at hl
  exact B d k 0 _ [] 0 σ c' (.inl E) σ' M h hM p e s m _ below meth c _ [] ls A C (fun _ _ => htab) (fun h0 => absurd hh h0) hP hD hS hl
/-- the end of a method -/
theorem ret_ok {p : Program} {e : Env} {R : Room} {s : State} {m : MethodId} {args : Array Value} {below : List Frame} {meth : Method} {c : Code} {H : Heap} {locs : List Loc} {cells slots : Nat} {cc : ByteArray} {n : Nat} {ret : Option FieldType} {y0 : MethodName} {A : Nat → Prop} {pc : Nat} {ls : Array Slot} {st : List Value} {σ : SG} {i : Instr} {v : Option Value} {mc ms : Nat}
    (C : Cx p s m args meth c cc n ret y0 D (T4 cs) A) (hP : va_P D CL (wM cs ad σ) H) (hD : va_D A (wM cs ad σ)) (hS : va_S A s.heap H locs) (hdg : decode cc pc = .ok (i, ilen i)) (h : rtn ret i st = some v) (hc : cells ≤ mc) (hs : slots ≤ ms) : W p l e R s m args below meth c H locs cells slots (MQ below (qq D cs ad v σ A) args s mc ms A) (F0 m pc ls (st.map (vM ad))) := by
  unfold rtn at h
  split at h
  · cases h; exact r_vret C hP hD hS () rfl hc hs hdg
  · cases h; exact r_iret C hP hD hS () rfl rfl hc hs hdg
  · split at h
    · next hv =>
      cases h
      refine r_zret C hP hD hS () rfl rfl ?_ hc hs hdg
      rcases hv with rfl | rfl <;> rfl
    · cases h
  · cases h; exact r_lret C hP hD hS () rfl rfl hc hs hdg
  · cases h; exact r_aret C (Or.inl ⟨_, rfl⟩) hP hD hS () rfl rfl hc hs hdg
  · cases h
end Snd
end
section
section Snd2
variable {l : Launch} {G : TB} {D : va_G} {cs ad : Nat → Nat}
theorem cal_spec {k : Nat} {i : Instr} {st : List Value} {σ : SG} {k' kd : Nat} {av rest : List Value} (h : cal G k i st σ = some (k', kd, av, rest)) : ∃ M', tbM G k' = some M' ∧ cats rest ≤ 8 ∧ cats av ≤ M'.2.2.1 ∧ st = av.reverse ++ rest ∧
    ((∃ (ix na ci hd : Nat) (As : List Value) (fs : List Value), i = .invokevirtual ix ∧ kd = 0 ∧ tbC G k ix = some (k', 0, na, ci) ∧ av = .ref hd :: As ∧ As.length = na ∧ σ[hd]? = some (.inr (ci, fs))) ∨
     (∃ (ix na ci kd0 : Nat), i = .invokestatic ix ∧ kd = kd0 + 1 ∧ tbC G k ix = some (k', kd0 + 1, na, ci) ∧ av.length = na)) := by
  unfold cal at h
  split at h
  · next ix =>
    split at h
    · next k1 na ci hC =>
      split at h
      · next M' hd As hM hav =>
        split at h
        · next c fs hσ =>
          split at h
          · next hc =>
            obtain ⟨rfl, h1, h2, h3⟩ := hc
            cases h
            refine ⟨M', hM, h2, h3, ?_, Or.inl ⟨ix, na, _, hd, As, fs, rfl, rfl, hC, rfl, h1, hσ⟩⟩
            rw [← hav, List.reverse_reverse, List.take_append_drop]
          · cases h
        · cases h
      · cases h
    · cases h
  · next ix =>
    split at h
    · next k1 kd0 na ci hC =>
      split at h
      · next M' hM =>
        split at h
        · next hc =>
          obtain ⟨h1, h2, h3⟩ := hc
          cases h
          refine ⟨M', hM, h2, h3, ?_, Or.inr ⟨ix, na, ci, kd0, rfl, rfl, hC, by rw [List.length_reverse]; exact h1⟩⟩
          rw [List.reverse_reverse, List.take_append_drop]
        · cases h
      · cases h
    · cases h
  · cases h
theorem rm_le {d c2 c' n : Nat} (hn : n ≤ 150) : (rmd d c2 (6 * c2)).frames + 1 ≤ (rmd (d + 1) c' (6 * c')).frames ∧ 8 + (n + 11) + (rmd d c2 (6 * c2)).locals ≤ (rmd (d + 1) c' (6 * c')).locals := by
  simp only [rmd]
  omega
variable {p : Program} {e : Env} {s : State} {m : MethodId} {args : Array Value} {below : List Frame} {meth : Method} {c : Code} {H : Heap} {locs : List Loc} {cells slots : Nat} {Q : State → Prop} {A : Nat → Prop} {k pc : Nat} {ls : Array Slot} {st : List Value} {σ σ2 : SG} {i : Instr} {M : MI}
theorem run_ok {f : Nat} (B : BD l G D cs ad f) (hg : gM G) (hc : gC G) (hM : tbM G k = some M) (C : Cx p s m args meth c M.2.1 M.2.2.1 M.2.2.2.1 M.1 D (T4 cs) A) (hP : va_P D CL (wM cs ad σ) H) (hD : va_D A (wM cs ad σ)) (hS : va_S A s.heap H locs) (hz : ls.size = M.2.2.1) (hdg : decode M.2.1 pc = .ok (i, ilen i)) {k' kd : Nat} {av rest : List Value} (h : cal G k i st σ = some (k', kd, av, rest)) {d c2 c' : Nat} {r : Option Value} (hev : ev G f d k' 0 (lv_args 0 av) [] 0 σ = some (c2, .inr r, σ2)) (hcc : cells + c2 ≤ c') (hss : slots + 6 * c2 ≤ 6 * c') :
    va_Run p l e (rmd (d + 1) c' (6 * c')) s m args below meth c H locs cells slots c2 (6 * c2) (F0 m pc ls (st.map (vM ad))) (rest.map (vM ad)) (qq D cs ad r σ2 (va_A (wM cs ad σ) H.size) (av.map (vM ad)).toArray) (va_A (wM cs ad σ) H.size) := by
  obtain ⟨M', hM', h8, hn, hst, hk⟩ := cal_spec h
  have hroom : ((rest.map (vM ad)).map fun v => v.category).sum ≤ 8 := by rw [vM_sum]; exact h8
  have hn' := (hg k' M' hM').2.1
  rcases hk with ⟨ix, na, ci, hd, As, fs, rfl, rfl, hC, rfl, hna, hσ⟩ | ⟨ix, na, ci, kd0, rfl, rfl, hC, hna⟩
  · obtain ⟨hh, hcv, q, hq1, hq2⟩ := (hc k M ix k' 0 na ci M' hM hC hM').1 rfl
    refine run_V C (kt_ret B hg hev hM' hh hn) hcv hP hD hS (List.range (wM cs ad σ).length) (range_get _) (va_nd_range _) hd (wM_get hσ) hq1 hq2 (by rw [List.length_map]; exact hna) hz ?_ hroom hdg (rm_le hn') ⟨hcc, hss⟩
    rw [hst, List.reverse_cons, List.append_assoc, List.map_append, List.map_reverse]
    rfl
  · have hst' : st.map (vM ad) = (av.map (vM ad)).reverse ++ rest.map (vM ad) := by rw [hst, List.map_append, List.map_reverse]
    have hna' : (av.map (vM ad)).length = na := by rw [List.length_map]; exact hna
    obtain ⟨-, c1, c2', c3⟩ := hc k M ix k' (kd0 + 1) na ci M' hM hC hM'
    match kd0 with
    | 0 =>
      obtain ⟨hh, hcv⟩ := c1 rfl
      exact run_S C (kt_ret B hg hev hM' hh hn) hcv hP hD hS (List.range (wM cs ad σ).length) (range_get _) (va_nd_range _) hna' hz hst' hroom hdg (rm_le hn') ⟨hcc, hss⟩
    | 1 =>
      obtain ⟨hh, hcv⟩ := c2' rfl
      exact run_SN C (kt_ret B hg hev hM' hh hn) hcv hP hD hS (List.range (wM cs ad σ).length) (range_get _) (va_nd_range _) hna' hz hst' hroom hdg (rm_le hn') ⟨hcc, hss⟩
    | kd1 + 2 =>
      obtain ⟨hh, hcv⟩ := c3 (by omega)
      exact run_SW C (kt_retW B hg hev hM' hn) hcv hP hD hS (List.range (wM cs ad σ).length) (range_get _) (va_nd_range _) hna' hz hst' hroom hdg (rm_le hn') ⟨hcc, hss⟩
theorem runx_ok {f : Nat} (B : BD l G D cs ad f) (hg : gM G) (hc : gC G) (hM : tbM G k = some M) (C : Cx p s m args meth c M.2.1 M.2.2.1 M.2.2.2.1 M.1 D (T4 cs) A) (hP : va_P D CL (wM cs ad σ) H) (hD : va_D A (wM cs ad σ)) (hS : va_S A s.heap H locs) (hz : ls.size = M.2.2.1) (hdg : decode M.2.1 pc = .ok (i, ilen i)) {k' kd : Nat} {av rest : List Value} (h : cal G k i st σ = some (k', kd, av, rest)) (hkd : ¬ 2 ≤ kd) {d c2 c' : Nat} {E : String} (hev : ev G f d k' 0 (lv_args 0 av) [] 0 σ = some (c2, .inl E, σ2)) (hcc : cells + c2 ≤ c') (hss : slots + 6 * c2 ≤ 6 * c') :
    vx_Run p l e (rmd (d + 1) c' (6 * c')) s m args below meth c H locs cells slots c2 (6 * c2) (F0 m pc ls (st.map (vM ad))) (rest.map (vM ad)) (fun _ _ _ => False) (xX D (T4 cs) E (wM cs ad σ2) (va_A (wM cs ad σ) H.size)) (va_A (wM cs ad σ) H.size) := by
  obtain ⟨M', hM', h8, hn, hst, hk⟩ := cal_spec h
  have hroom : ((rest.map (vM ad)).map fun v => v.category).sum ≤ 8 := by rw [vM_sum]; exact h8
  have hn' := (hg k' M' hM').2.1
  rcases hk with ⟨ix, na, ci, hd, As, fs, rfl, rfl, hC, rfl, hna, hσ⟩ | ⟨ix, na, ci, kd0, rfl, rfl, hC, hna⟩
  · obtain ⟨hh, hcv, q, hq1, hq2⟩ := (hc k M ix k' 0 na ci M' hM hC hM').1 rfl
    refine run_VX C (kt_thr B hg hev hM' hh hn) hcv hP hD hS (List.range (wM cs ad σ).length) (range_get _) (va_nd_range _) hd (wM_get hσ) hq1 hq2 (by rw [List.length_map]; exact hna) hz ?_ hroom hdg (rm_le hn') ⟨hcc, hss⟩
    rw [hst, List.reverse_cons, List.append_assoc, List.map_append, List.map_reverse]
    rfl
  · have hst' : st.map (vM ad) = (av.map (vM ad)).reverse ++ rest.map (vM ad) := by rw [hst, List.map_append, List.map_reverse]
    have hna' : (av.map (vM ad)).length = na := by rw [List.length_map]; exact hna
    obtain ⟨-, c1, -⟩ := hc k M ix k' (kd0 + 1) na ci M' hM hC hM'
    have h0 : kd0 = 0 := by omega
    subst h0
    obtain ⟨hh, hcv⟩ := c1 rfl
    exact run_SX C (kt_thr B hg hev hM' hh hn) hcv hP hD hS (List.range (wM cs ad σ).length) (range_get _) (va_nd_range _) hna' hz hst' hroom hdg (rm_le hn') ⟨hcc, hss⟩
/-- back from a call: the answer over the rest -/
def psh : Option Value → List Value → List Value
  | none, st => st
  | some v, st => v :: st
theorem back_ok {R : Room} {cc : ByteArray} {n : Nat} {ret : Option FieldType} {y0 : MethodName} {a : Array Value} {st0 : List Value} {mc ms : Nat} {r : Option Value} {rest : List Value} (C : Cx p s m args meth c cc n ret y0 D (T4 cs) A) (hP : va_P D CL (wM cs ad σ) H) (hD : va_D A (wM cs ad σ)) (hS : va_S A s.heap H locs)
    (hr : va_Run p l e R s m args below meth c H locs cells slots mc ms (F0 m pc ls st0) (rest.map (vM ad)) (qq D cs ad r σ2 (va_A (wM cs ad σ) H.size) a) (va_A (wM cs ad σ) H.size))
    (kk : ∀ (H1 : Heap) (locs1 : List Loc), va_P D CL (wM cs ad σ2) H1 → va_D A (wM cs ad σ2) → va_S A s.heap H1 locs1 → W p l e R s m args below meth c H1 locs1 (cells + mc) (slots + ms) Q (F0 m (pc + 3) ls ((psh r rest).map (vM ad)))) : W p l e R s m args below meth c H locs cells slots Q (F0 m pc ls st0) := by
  have hno : ∀ i ∈ ([] : List Nat), i ∉ List.range (wM cs ad σ).length := fun i h => nomatch h
  cases r with
  | none => exact call_v (w1 := fun _ : Unit => wM cs ad σ2) (wr := []) C hr hP hD hS (List.range (wM cs ad σ).length) [] (range_get _) rfl rfl hno (fun _ H1 locs1 h1 h2 h3 => kk H1 locs1 h1 h2 h3)
  | some v =>
    cases v with
    | int v => exact call_i (f := fun _ : Unit => v) (w1 := fun _ : Unit => wM cs ad σ2) (wr := []) C hr hP hD hS (List.range (wM cs ad σ).length) [] (range_get _) rfl rfl hno (fun _ H1 locs1 h1 h2 h3 => kk H1 locs1 h1 h2 h3)
    | long v => exact call_l (f := fun _ : Unit => v) (w1 := fun _ : Unit => wM cs ad σ2) (wr := []) C hr hP hD hS (List.range (wM cs ad σ).length) [] (range_get _) rfl rfl hno (fun _ H1 locs1 h1 h2 h3 => kk H1 locs1 h1 h2 h3)
    | ref v => exact call_r (f := fun _ : Unit => ad v) (w1 := fun _ : Unit => wM cs ad σ2) (wr := []) C hr hP hD hS (List.range (wM cs ad σ).length) [] (range_get _) rfl rfl hno (fun _ H1 locs1 h1 h2 h3 => kk H1 locs1 h1 h2 h3)
    | _ =>
      intro T0 hT X
      obtain ⟨v, st₀, t, T', L, h0, X', hL, e1, e2, hfalse, st9⟩ := hr T0 hT X
      exact hfalse.elim
end Snd2
theorem ev_ok {l : Launch} {G : TB} {D : va_G} {cs ad : Nat → Nat} (hg : gM G) (hc : gC G) (ht : gT G) (hh : gH G) (hX : gX l G D cs ad) (hlt : l.stackTraces = false) : ∀ f, BD l G D cs ad f := by
  intro f
  induction f with
  | zero => intro d k pc lv st c σ c' o σ' M h; cases h
  | succ f ih =>
    intro d k pc lv st c σ c' o σ' M h hM p e s m args below meth code H locs ls A C hE htab hP hD hS hl
    have hmono := ev_mono G (f + 1) d k pc lv st c σ c' o σ' h
    unfold ev at h
    split at h
    · next r hx =>
      exact hX d k M pc lv st σ r hM hx p e s m args below meth code H locs ls A c' (6 * c') c (6 * c) _ C hP hD hS hl hmono (by omega) (fun H1 locs1 ls1 h1 h2 h3 h4 => ih _ _ _ _ _ _ _ _ _ _ M h hM p e s m args below meth code H1 locs1 ls1 A C hE htab h1 h2 h3 h4)
    · split at h
      · next M1 i hM1 hF =>
        have : M1 = M := Option.some.inj (hM1.symm.trans hM)
        subst this
        obtain ⟨g1, g2, g3, g4⟩ := hg k M1 hM
        have hdg := g4 pc i hF
        split at h
        · next r hs =>
          exact sim_ok C hP hD hS hl hdg g3 hs (fun H1 locs1 ls1 h1 h2 h3 h4 => ih _ _ _ _ _ _ _ _ _ _ M1 h hM p e s m args below meth code H1 locs1 ls1 A C hE htab h1 h2 h3 h4)
        · split at h
          · next v hr =>
            cases h
            exact ret_ok C hP hD hS hdg hr (Nat.le_refl _) (Nat.le_refl _)
          · split at h
            · next E hT =>
              split at h
              · next h8 =>
                cases h
                obtain ⟨ik, is, ic, text, names, tf, hnm, d0, d3, hsw⟩ := ht k M1 pc E hM hT
                have hst : ((st.map (vM ad)).map fun v => v.category).sum ≤ 8 := by rw [vM_sum]; exact h8.2
                have r1 : names.length + 3 < (rmd d (c + 1) (6 * (c + 1))).frames := by simp only [rmd]; omega
                have r2 : ((st.map (vM ad)).map fun v => v.category).sum + (13 * (names.length + 1) + 43) ≤ (rmd d (c + 1) (6 * (c + 1))).locals := by simp only [rmd]; omega
                rcases hsw with ⟨d4, d6, d9⟩ | ⟨d4, d7, d10⟩
                · exact r_throwS C (hE E rfl) hlt hP hD hS tf hl.1 d0 d3 d4 d6 d9 rfl r1 r2 (Nat.le_refl _) (by simp only [rmd]; omega) (Nat.le_refl _) (by omega)
                · exact r_throwW C (hE E rfl) hlt hP hD hS tf hl.1 d0 d3 d4 d7 d10 rfl r1 r2 (Nat.le_refl _) (by simp only [rmd]; omega) (Nat.le_refl _) (by omega)
              · cases h
            · split at h
              · cases h
              · next k' kd av rest hcal =>
                split at h
                · cases h
                · next d' =>
                  split at h
                  · cases h
                  · next c2 σ2 hev =>
                    have hm2 := ev_mono G f _ _ _ _ _ _ _ _ _ _ h
                    have hr := run_ok (p := p) (e := e) (s := s) (m := m) (args := args) (below := below) (meth := meth) (c := code) (A := A) ih hg hc hM C hP hD hS hl.1 hdg hcal hev (cells := c) (slots := 6 * c) (c' := c') (by omega) (by omega)
                    refine back_ok C hP hD hS hr (fun H1 locs1 h1 h2 h3 => ?_)
                    have := ih _ _ _ _ _ _ _ _ _ _ M1 h hM p e s m args below meth code H1 locs1 ls A C hE htab h1 h2 h3 hl
                    rw [Nat.mul_add] at this
                    exact this
                  · next c2 v σ2 hev =>
                    have hm2 := ev_mono G f _ _ _ _ _ _ _ _ _ _ h
                    have hr := run_ok (p := p) (e := e) (s := s) (m := m) (args := args) (below := below) (meth := meth) (c := code) (A := A) ih hg hc hM C hP hD hS hl.1 hdg hcal hev (cells := c) (slots := 6 * c) (c' := c') (by omega) (by omega)
                    refine back_ok C hP hD hS hr (fun H1 locs1 h1 h2 h3 => ?_)
                    have := ih _ _ _ _ _ _ _ _ _ _ M1 h hM p e s m args below meth code H1 locs1 ls A C hE htab h1 h2 h3 hl
                    rw [Nat.mul_add] at this
                    exact this
                  · next c2 E σ2 hev =>
                    split at h
                    · cases h
                    · next hkd =>
                      have hno : ∀ i ∈ ([] : List Nat), i ∉ List.range (wM cs ad σ).length := fun i h => nomatch h
                      split at h
                      · next hnil =>
                        cases h
                        have hr := runx_ok (p := p) (e := e) (s := s) (m := m) (args := args) (below := below) (meth := meth) (c := code) (A := A) ih hg hc hM C hP hD hS hl.1 hdg hcal hkd hev (cells := c) (slots := 6 * c) (c' := c + c2) (Nat.le_refl _) (by omega)
                        refine call_X (wr := []) C hr hP hD hS (List.range (wM cs ad σ).length) [] (range_get _) rfl rfl hno (fun ce q9 H1 locs1 hce hcv hcl h1 h2 h3 => ?_)
                        exact r_out C (hE E rfl) hce hcv hcl h1 h2 h3 rfl (Nat.le_refl _) (by omega)
                      · next q0 qs hcons =>
                        split at h
                        · next hp j hH =>
                          have hm2 := ev_mono G f _ _ _ _ _ _ _ _ _ _ h
                          have hr := runx_ok (p := p) (e := e) (s := s) (m := m) (args := args) (below := below) (meth := meth) (c := code) (A := A) ih hg hc hM C hP hD hS hl.1 hdg hcal hkd hev (cells := c) (slots := 6 * c) (c' := c') (by omega) (by omega)
                          refine call_X (wr := []) C hr hP hD hS (List.range (wM cs ad σ).length) [] (range_get _) rfl rfl hno (fun ce q9 H1 locs1 hce hcv hcl h1 h2 h3 => ?_)
                          obtain ⟨hcas, pre, x, suf, hsp, hpre, hcov, hx0, hlink, hjn, hdj⟩ := hh k M1 pc E hp j hM hH
                          have htab' := htab (by rw [hcons]; exact List.cons_ne_nil _ _)
                          have C' := C
                          obtain ⟨hxx, hb, -, -, -, -, -, -, hSx, -⟩ := C
                          refine r_catch C' hcas pre x suf (htab'.trans hsp) (fun z hz => (hpre z hz).imp id (fun q => ⟨q.1, q.2.choose, q.2.choose_spec.1, hSx.2.2.1 _ q.2.choose_spec.2⟩)) hcov hx0 hlink hce hcv hcl ?_
                          rcases hdj with ⟨j4, rfl, rfl, hdj⟩ | ⟨rfl, hdj⟩
                          · refine lv_astore_n hxx hb hdj rfl hl hjn rfl (fun ls' hl' => ?_)
                            have hl2 := lv_tail hl'
                            rw [← lM_D] at hl2
                            have := ih _ _ _ _ _ _ _ _ _ _ M1 h hM p e s m args below meth code H1 locs1 ls' A C' hE htab h1 h2 h3 hl2
                            rw [Nat.mul_add] at this
                            exact this
                          · refine lv_astore hxx hb hdj hl hjn rfl (fun ls' hl' => ?_)
                            have hl2 := lv_tail hl'
                            rw [← lM_D] at hl2
                            have := ih _ _ _ _ _ _ _ _ _ _ M1 h hM p e s m args below meth code H1 locs1 ls' A C' hE htab h1 h2 h3 hl2
                            rw [Nat.mul_add] at this
                            exact this
                        · cases h
      · cases h
end
