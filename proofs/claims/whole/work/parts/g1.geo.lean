/-! plane geometry over whole numbers: sides, segments, the even-odd rule of the reference (a ray to the right, lower ends count) -/
abbrev GPt : Type := Int × Int
/-- twice the signed area of a, b, c -/
def ge_o (a b c : GPt) : Int := (b.1 - a.1) * (c.2 - a.2) - (b.2 - a.2) * (c.1 - a.1)
def ge_on (a b p : GPt) : Prop := ge_o a b p = 0 ∧ (p.1 - a.1) * (p.1 - b.1) ≤ 0 ∧ (p.2 - a.2) * (p.2 - b.2) ≤ 0
/-- the segments uv and pq have a point in common, by signs -/
def ge_meet (u v p q : GPt) : Prop := ge_on u v p ∨ ge_on u v q ∨ ge_on p q u ∨ ge_on p q v ∨ (ge_o u v p * ge_o u v q < 0 ∧ ge_o p q u * ge_o p q v < 0)
/-- the ray from p to the right crosses uv -/
def ge_cr (u v p : GPt) : Bool := (decide (p.2 < u.2) != decide (p.2 < v.2)) && (decide (u.2 < v.2) == decide (0 < ge_o u v p))
theorem ge_pos {k t : Int} (hk : 0 < k) (h : 0 < k * t) : 0 < t := by
  rcases Int.lt_or_le 0 t with q | q
  · exact q
  · have := Int.mul_nonneg (Int.le_of_lt hk) (show 0 ≤ -t by omega)
    rw [Int.mul_neg] at this
    omega
theorem ge_nn {k t : Int} (hk : 0 < k) (h : 0 ≤ k * t) : 0 ≤ t := by
  rcases Int.lt_or_le t 0 with q | q
  · have := Int.mul_pos hk (show 0 < -t by omega)
    rw [Int.mul_neg] at this
    omega
  · exact q
theorem ge_zero {k t : Int} (hk : 0 < k) (h : k * t = 0) : t = 0 := by
  rcases Int.mul_eq_zero.mp h with q | q
  · omega
  · exact q
theorem ge_sum0 {x y : Int} (h1 : 0 ≤ x) (h2 : 0 ≤ y) (h : x + y = 0) : x = 0 := by omega
theorem ge_sq (x : Int) : 0 ≤ x * x := by
  rcases Int.le_total 0 x with z | z
  · exact Int.mul_nonneg z z
  · have := Int.mul_nonneg (show 0 ≤ -x by omega) (show 0 ≤ -x by omega)
    grind
theorem ge_o_cyc (a b c : GPt) : ge_o b c a = ge_o a b c := by unfold ge_o; grind
theorem ge_o_swap (a b c : GPt) : ge_o b a c = -ge_o a b c := by unfold ge_o; grind
theorem ge_o_sub (u v p q : GPt) : ge_o u v p - ge_o u v q = ge_o p q v - ge_o p q u := by unfold ge_o; grind
theorem ge_o_y1 (u v p q : GPt) : (q.2 - p.2) * ge_o u v p = (u.2 - p.2) * ge_o p q v - (v.2 - p.2) * ge_o p q u := by unfold ge_o; grind
theorem ge_o_y2 (u v p q : GPt) : (q.2 - p.2) * ge_o u v q = (u.2 - q.2) * ge_o p q v - (v.2 - q.2) * ge_o p q u := by unfold ge_o; grind
theorem ge_on_symm {a b p : GPt} (h : ge_on a b p) : ge_on b a p := by
  obtain ⟨h1, h2, h3⟩ := h
  refine ⟨by rw [ge_o_swap, h1]; rfl, ?_, ?_⟩
  · rw [Int.mul_comm]; exact h2
  · rw [Int.mul_comm]; exact h3
theorem ge_meet_symm {u v p q : GPt} (h : ge_meet u v p q) : ge_meet p q u v := by
  unfold ge_meet at *
  grind
theorem ge_meet_swap {u v p q : GPt} (h : ge_meet u v p q) : ge_meet u v q p := by
  rcases h with h | h | h | h | ⟨h1, h2⟩
  · exact Or.inr (Or.inl h)
  · exact Or.inl h
  · exact Or.inr (Or.inr (Or.inl (ge_on_symm h)))
  · exact Or.inr (Or.inr (Or.inr (Or.inl (ge_on_symm h))))
  · refine Or.inr (Or.inr (Or.inr (Or.inr ⟨by rw [Int.mul_comm]; exact h1, ?_⟩)))
    rw [ge_o_swap p q u, ge_o_swap p q v]
    grind
/-- on the line, and between the heights: on the segment -/
theorem ge_on_y {p q v : GPt} (h0 : ge_o p q v = 0) (hy : p.2 < q.2) (h1 : p.2 ≤ v.2) (h2 : v.2 ≤ q.2) : ge_on p q v := by
  have e : (v.1 - p.1) * (q.2 - p.2) = (v.2 - p.2) * (q.1 - p.1) := by unfold ge_o at h0; grind
  refine ⟨h0, ?_, ?_⟩
  · have hd : 0 < (q.2 - p.2) * (q.2 - p.2) := Int.mul_pos (by omega) (by omega)
    have k1 : (q.2 - p.2) * (q.2 - p.2) * -((v.1 - p.1) * (v.1 - q.1)) = ((q.1 - p.1) * (q.1 - p.1)) * ((v.2 - p.2) * (q.2 - v.2)) := by grind
    have k2 : 0 ≤ ((q.1 - p.1) * (q.1 - p.1)) * ((v.2 - p.2) * (q.2 - v.2)) := Int.mul_nonneg (ge_sq _) (Int.mul_nonneg (by omega) (by omega))
    have := ge_nn hd (by rw [k1]; exact k2)
    omega
  · have := Int.mul_nonneg (show 0 ≤ v.2 - p.2 by omega) (show 0 ≤ q.2 - v.2 by omega)
    grind

theorem ge_on_x {p q v : GPt} (hy : p.2 = q.2) (hv : v.2 = p.2) (h1 : p.1 ≤ v.1) (h2 : v.1 ≤ q.1) : ge_on p q v := by
  refine ⟨by unfold ge_o; grind, ?_, ?_⟩
  · have := Int.mul_nonneg (show 0 ≤ v.1 - p.1 by omega) (show 0 ≤ q.1 - v.1 by omega)
    grind
  · have : v.2 - p.2 = 0 := by omega
    rw [this, Int.zero_mul]
    exact Int.le_refl _
/-- the direction doesn't matter off the segment -/
theorem ge_cr_symm {u v p : GPt} (h : ¬ ge_on u v p) : ge_cr u v p = ge_cr v u p := by
  unfold ge_cr
  rw [ge_o_swap u v p]
  rcases Int.lt_trichotomy u.2 v.2 with hy | hy | hy
  · by_cases h0 : ge_o u v p = 0
    · have : ¬ (u.2 ≤ p.2 ∧ p.2 ≤ v.2) := fun z => h (ge_on_y h0 hy z.1 z.2)
      grind
    · grind
  · grind
  · by_cases h0 : ge_o u v p = 0
    · have : ¬ (v.2 ≤ p.2 ∧ p.2 ≤ u.2) := fun z => h (ge_on_symm (ge_on_y (by rw [ge_o_swap, h0]; rfl) hy z.1 z.2))
      grind
    · grind
/-- right of the way from p up to q, between the heights -/
def ge_F (p q u : GPt) : Bool := decide (p.2 < u.2) && !decide (q.2 < u.2) && decide (ge_o p q u < 0)
/-- both ends between the heights, on the two sides: they meet -/
theorem ge_mv_in {u v p q : GPt} (a1 : p.2 < u.2) (a2 : u.2 ≤ q.2) (b1 : p.2 < v.2) (b2 : v.2 ≤ q.2) (hu : ge_o p q u < 0) (hv : 0 ≤ ge_o p q v) : ge_meet u v p q := by
  have hpq : p.2 < q.2 := by omega
  have e1 := ge_o_y1 u v p q
  have e2 := ge_o_y2 u v p q
  rcases Int.lt_or_eq_of_le hv with hv' | hv'
  · have k1 : 0 < (u.2 - p.2) * ge_o p q v := Int.mul_pos (by omega) hv'
    have k2 : 0 < (v.2 - p.2) * -ge_o p q u := Int.mul_pos (by omega) (by omega)
    have tp : 0 < ge_o u v p := ge_pos (show 0 < q.2 - p.2 by omega) (by grind)
    have k3 : 0 ≤ (q.2 - u.2) * ge_o p q v := Int.mul_nonneg (by omega) (by omega)
    have k4 : 0 ≤ (q.2 - v.2) * -ge_o p q u := Int.mul_nonneg (by omega) (by omega)
    have tq : 0 ≤ -ge_o u v q := ge_nn (show 0 < q.2 - p.2 by omega) (by grind)
    rcases Int.lt_or_eq_of_le tq with tq' | tq'
    · refine Or.inr (Or.inr (Or.inr (Or.inr ⟨?_, ?_⟩)))
      · have := Int.mul_pos tp tq'
        grind
      · have := Int.mul_pos hv' (show 0 < -ge_o p q u by omega)
        grind
    · have tq0 : ge_o u v q = 0 := by omega
      have e3 : (q.2 - u.2) * ge_o p q v + (q.2 - v.2) * -ge_o p q u = 0 := by rw [tq0] at e2; grind
      have z3 : (q.2 - u.2) * ge_o p q v = 0 := ge_sum0 k3 k4 e3
      have z4 : (q.2 - v.2) * -ge_o p q u = 0 := ge_sum0 k4 k3 (by rw [Int.add_comm]; exact e3)
      have uq : u.2 = q.2 := by
        rcases Int.mul_eq_zero.mp z3 with z | z <;> omega
      have vq : v.2 = q.2 := by
        rcases Int.mul_eq_zero.mp z4 with z | z <;> omega
      have su : ge_o p q u = (q.2 - p.2) * (q.1 - u.1) := by unfold ge_o; grind
      have sv : ge_o p q v = (q.2 - p.2) * (q.1 - v.1) := by unfold ge_o; grind
      have x1 : 0 < u.1 - q.1 := ge_pos (show 0 < q.2 - p.2 by omega) (by grind)
      have x2 : 0 < q.1 - v.1 := ge_pos (show 0 < q.2 - p.2 by omega) (by grind)
      exact Or.inr (Or.inl (ge_on_symm (ge_on_x (by omega) (by omega) (by omega) (by omega))))
  · exact Or.inr (Or.inr (Or.inr (Or.inl (ge_on_y hv'.symm hpq (by omega) b2))))

/-- one end below, one between -/
theorem ge_mv_low {u v p q : GPt} (a1 : u.2 ≤ p.2) (b1 : p.2 < v.2) (b2 : v.2 ≤ q.2) (hm : ¬ ge_meet u v p q) : (0 < ge_o u v p) ↔ ge_o p q v < 0 := by
  have hpq : p.2 < q.2 := by omega
  have e2 := ge_o_y2 u v p q
  have e1 := ge_o_y1 u v p q
  have np : ¬ ge_on u v p := fun z => hm (Or.inl z)
  have nv : ¬ ge_on p q v := fun z => hm (Or.inr (Or.inr (Or.inr (Or.inl z))))
  have tp0 : ge_o u v p ≠ 0 := fun z => np (ge_on_y z (by omega) a1 (by omega))
  have sv0 : ge_o p q v ≠ 0 := fun z => nv (ge_on_y z hpq (by omega) b2)
  have hx : ¬ (ge_o u v p * ge_o u v q < 0 ∧ ge_o p q u * ge_o p q v < 0) := fun z => hm (Or.inr (Or.inr (Or.inr (Or.inr z))))
  have sb := ge_o_sub u v p q
  constructor
  · intro tp
    rcases Int.lt_or_lt_of_ne sv0 with h | h
    · exact h
    · exfalso
      have k1 : 0 ≤ (p.2 - u.2) * ge_o p q v := Int.mul_nonneg (by omega) (by omega)
      have k2 : 0 < (q.2 - p.2) * ge_o u v p := Int.mul_pos (by omega) tp
      have su : 0 < -ge_o p q u := ge_pos (show 0 < v.2 - p.2 by omega) (by grind)
      have k3 : 0 < (q.2 - u.2) * ge_o p q v := Int.mul_pos (by omega) h
      have k4 : 0 ≤ (q.2 - v.2) * -ge_o p q u := Int.mul_nonneg (by omega) (by omega)
      have tq : 0 < -ge_o u v q := ge_pos (show 0 < q.2 - p.2 by omega) (by grind)
      have m1 := Int.mul_pos tp tq
      have m2 := Int.mul_pos h su
      exact hx ⟨by grind, by grind⟩
  · intro sv
    rcases Int.lt_or_lt_of_ne tp0 with h | h
    · exfalso
      have k1 : 0 ≤ (p.2 - u.2) * -ge_o p q v := Int.mul_nonneg (by omega) (by omega)
      have k2 : 0 < (q.2 - p.2) * -ge_o u v p := Int.mul_pos (by omega) (by omega)
      have su : 0 < ge_o p q u := ge_pos (show 0 < v.2 - p.2 by omega) (by grind)
      have k3 : 0 < (q.2 - u.2) * -ge_o p q v := Int.mul_pos (by omega) (by omega)
      have k4 : 0 ≤ (q.2 - v.2) * ge_o p q u := Int.mul_nonneg (by omega) (by omega)
      have tq : 0 < ge_o u v q := ge_pos (show 0 < q.2 - p.2 by omega) (by grind)
      have m1 := Int.mul_pos (show 0 < -ge_o u v p by omega) tq
      have m2 := Int.mul_pos (show 0 < -ge_o p q v by omega) su
      exact hx ⟨by grind, by grind⟩
    · exact h

/-- one end between, one above -/
theorem ge_mv_high {u v p q : GPt} (a1 : p.2 < u.2) (a2 : u.2 ≤ q.2) (b2 : q.2 < v.2) (hm : ¬ ge_meet u v p q) : (0 < ge_o u v q) ↔ ge_o p q u < 0 := by
  have hpq : p.2 < q.2 := by omega
  have e2 := ge_o_y2 u v p q
  have e1 := ge_o_y1 u v p q
  have nq : ¬ ge_on u v q := fun z => hm (Or.inr (Or.inl z))
  have nu : ¬ ge_on p q u := fun z => hm (Or.inr (Or.inr (Or.inl z)))
  have tq0 : ge_o u v q ≠ 0 := fun z => nq (ge_on_y z (by omega) a2 (by omega))
  have su0 : ge_o p q u ≠ 0 := fun z => nu (ge_on_y z hpq (by omega) a2)
  have hx : ¬ (ge_o u v p * ge_o u v q < 0 ∧ ge_o p q u * ge_o p q v < 0) := fun z => hm (Or.inr (Or.inr (Or.inr (Or.inr z))))
  constructor
  · intro tq
    rcases Int.lt_or_lt_of_ne su0 with h | h
    · exact h
    · exfalso
      have k1 : 0 < (q.2 - p.2) * ge_o u v q := Int.mul_pos (by omega) tq
      have k2 : 0 < (v.2 - q.2) * ge_o p q u := Int.mul_pos (by omega) h
      have k3 : 0 < (q.2 - p.2) * ge_o u v q + (v.2 - q.2) * ge_o p q u := by omega
      have sv : ge_o p q v < 0 := by
        rcases Int.lt_or_le (ge_o p q v) 0 with z | z
        · exact z
        · have := Int.mul_nonneg (show 0 ≤ q.2 - u.2 by omega) z
          grind
      have k4 : 0 < (u.2 - p.2) * -ge_o p q v := Int.mul_pos (by omega) (by omega)
      have k5 : 0 < (v.2 - p.2) * ge_o p q u := Int.mul_pos (by omega) h
      have tp : 0 < -ge_o u v p := ge_pos (show 0 < q.2 - p.2 by omega) (by grind)
      have m1 := Int.mul_pos tp tq
      have m2 := Int.mul_pos h (show 0 < -ge_o p q v by omega)
      exact hx ⟨by grind, by grind⟩
  · intro su
    rcases Int.lt_or_lt_of_ne tq0 with h | h
    · exfalso
      have k1 : 0 < (q.2 - p.2) * -ge_o u v q := Int.mul_pos (by omega) (by omega)
      have k2 : 0 < (v.2 - q.2) * -ge_o p q u := Int.mul_pos (by omega) (by omega)
      have sv : 0 < ge_o p q v := by
        rcases Int.lt_or_le 0 (ge_o p q v) with z | z
        · exact z
        · have := Int.mul_nonneg (show 0 ≤ q.2 - u.2 by omega) (show 0 ≤ -ge_o p q v by omega)
          grind
      have k4 : 0 < (u.2 - p.2) * ge_o p q v := Int.mul_pos (by omega) sv
      have k5 : 0 < (v.2 - p.2) * -ge_o p q u := Int.mul_pos (by omega) (by omega)
      have tp : 0 < ge_o u v p := ge_pos (show 0 < q.2 - p.2 by omega) (by grind)
      have m1 := Int.mul_pos tp (show 0 < -ge_o u v q by omega)
      have m2 := Int.mul_pos sv (show 0 < -ge_o p q u by omega)
      exact hx ⟨by grind, by grind⟩
    · exact h
theorem ge_mv_b1 {u v p q : GPt} (a1 : u.2 ≤ p.2) (a2 : p.2 ≤ q.2) (b2 : q.2 < v.2) (tp : 0 < ge_o u v p) (tq : ge_o u v q < 0) : ge_meet u v p q := by
  have e1 := ge_o_y1 p q u v
  have e2 := ge_o_y2 p q u v
  have k1 : 0 ≤ (p.2 - u.2) * -ge_o u v q := Int.mul_nonneg (by omega) (by omega)
  have k2 : 0 ≤ (q.2 - u.2) * ge_o u v p := Int.mul_nonneg (by omega) (by omega)
  have k3 : 0 < (v.2 - p.2) * -ge_o u v q := Int.mul_pos (by omega) (by omega)
  have k4 : 0 < (v.2 - q.2) * ge_o u v p := Int.mul_pos (by omega) tp
  have sv : 0 < ge_o p q v := ge_pos (show 0 < v.2 - u.2 by omega) (by grind)
  have su : 0 ≤ -ge_o p q u := ge_nn (show 0 < v.2 - u.2 by omega) (by grind)
  rcases Int.lt_or_eq_of_le su with su' | su'
  · have m1 := Int.mul_pos tp (show 0 < -ge_o u v q by omega)
    have m2 := Int.mul_pos sv su'
    exact Or.inr (Or.inr (Or.inr (Or.inr ⟨by grind, by grind⟩)))
  · have su0 : ge_o p q u = 0 := by omega
    have e3 : (p.2 - u.2) * -ge_o u v q + (q.2 - u.2) * ge_o u v p = 0 := by rw [su0] at e1; grind
    have z1 := ge_sum0 k1 k2 e3
    have z2 := ge_sum0 k2 k1 (by rw [Int.add_comm]; exact e3)
    have y1 : p.2 = u.2 := by rcases Int.mul_eq_zero.mp z1 with z | z <;> omega
    have y2 : q.2 = u.2 := by rcases Int.mul_eq_zero.mp z2 with z | z <;> omega
    have f1 : ge_o u v p = (v.2 - u.2) * (u.1 - p.1) := by unfold ge_o; grind
    have f2 : ge_o u v q = (v.2 - u.2) * (u.1 - q.1) := by unfold ge_o; grind
    have x1 : 0 < u.1 - p.1 := ge_pos (show 0 < v.2 - u.2 by omega) (by omega)
    have x2 : 0 < q.1 - u.1 := ge_pos (show 0 < v.2 - u.2 by omega) (by grind)
    exact Or.inr (Or.inr (Or.inl (ge_on_x (by omega) (by omega) (by omega) (by omega))))
theorem ge_mv_both {u v p q : GPt} (a1 : u.2 ≤ p.2) (a2 : p.2 ≤ q.2) (b2 : q.2 < v.2) (hm : ¬ ge_meet u v p q) : (0 < ge_o u v p) ↔ (0 < ge_o u v q) := by
  have tp0 : ge_o u v p ≠ 0 := fun z => hm (Or.inl (ge_on_y z (by omega) a1 (by omega)))
  have tq0 : ge_o u v q ≠ 0 := fun z => hm (Or.inr (Or.inl (ge_on_y z (by omega) (by omega) (by omega))))
  constructor
  · intro tp
    rcases Int.lt_or_lt_of_ne tq0 with h | h
    · exact absurd (ge_mv_b1 a1 a2 b2 tp h) hm
    · exact h
  · intro tq
    rcases Int.lt_or_lt_of_ne tp0 with h | h
    · exfalso
      -- the mirrored case
      have e1 := ge_o_y1 p q u v
      have e2 := ge_o_y2 p q u v
      have k1 : 0 ≤ (p.2 - u.2) * ge_o u v q := Int.mul_nonneg (by omega) (by omega)
      have k2 : 0 ≤ (q.2 - u.2) * -ge_o u v p := Int.mul_nonneg (by omega) (by omega)
      have k3 : 0 < (v.2 - p.2) * ge_o u v q := Int.mul_pos (by omega) tq
      have k4 : 0 < (v.2 - q.2) * -ge_o u v p := Int.mul_pos (by omega) (by omega)
      have sv : 0 < -ge_o p q v := ge_pos (show 0 < v.2 - u.2 by omega) (by grind)
      have su : 0 ≤ ge_o p q u := ge_nn (show 0 < v.2 - u.2 by omega) (by grind)
      rcases Int.lt_or_eq_of_le su with su' | su'
      · have m1 := Int.mul_pos tq (show 0 < -ge_o u v p by omega)
        have m2 := Int.mul_pos sv su'
        exact hm (Or.inr (Or.inr (Or.inr (Or.inr ⟨by grind, by grind⟩))))
      · have su0 : ge_o p q u = 0 := by omega
        have e3 : (p.2 - u.2) * ge_o u v q + (q.2 - u.2) * -ge_o u v p = 0 := by rw [su0] at e1; grind
        have z1 := ge_sum0 k1 k2 e3
        have z2 := ge_sum0 k2 k1 (by rw [Int.add_comm]; exact e3)
        have y1 : p.2 = u.2 := by rcases Int.mul_eq_zero.mp z1 with z | z <;> omega
        have y2 : q.2 = u.2 := by rcases Int.mul_eq_zero.mp z2 with z | z <;> omega
        have f1 : ge_o u v p = (v.2 - u.2) * (u.1 - p.1) := by unfold ge_o; grind
        have f2 : ge_o u v q = (v.2 - u.2) * (u.1 - q.1) := by unfold ge_o; grind
        have x1 : 0 < p.1 - u.1 := ge_pos (show 0 < v.2 - u.2 by omega) (by grind)
        have x2 : 0 < u.1 - q.1 := ge_pos (show 0 < v.2 - u.2 by omega) (by omega)
        exact hm (Or.inr (Or.inr (Or.inl (ge_on_symm (ge_on_x (by omega) (by omega) (by omega) (by omega))))))
    · exact h
theorem ge_cr_mv1 {u v p q : GPt} (hpq : p.2 ≤ q.2) (huv : u.2 ≤ v.2) (hm : ¬ ge_meet u v p q) : (ge_cr u v p != ge_cr u v q) = (ge_F p q u != ge_F p q v) := by
  unfold ge_cr ge_F
  rcases Int.lt_or_le p.2 u.2 with h1 | h1
  · rcases Int.lt_or_le q.2 u.2 with h2 | h2
    · grind
    · rcases Int.lt_or_le q.2 v.2 with h3 | h3
      · have := ge_mv_high h1 h2 h3 hm
        grind
      · have i1 : ge_o p q u < 0 → ge_o p q v < 0 := fun a => by
          rcases Int.lt_or_le (ge_o p q v) 0 with z | z
          · exact z
          · exact absurd (ge_mv_in h1 h2 (by omega) h3 a z) hm
        have i2 : ge_o p q v < 0 → ge_o p q u < 0 := fun a => by
          rcases Int.lt_or_le (ge_o p q u) 0 with z | z
          · exact z
          · exact absurd (ge_meet_symm (ge_meet_swap (ge_meet_symm (ge_mv_in (by omega) h3 h1 h2 a z)))) hm
        grind
  · rcases Int.lt_or_le p.2 v.2 with h3 | h3
    · rcases Int.lt_or_le q.2 v.2 with h4 | h4
      · have := ge_mv_both h1 hpq h4 hm
        grind
      · have := ge_mv_low h1 h3 h4 hm
        grind
    · grind
theorem ge_meet_flip {u v p q : GPt} (h : ge_meet v u p q) : ge_meet u v p q := ge_meet_symm (ge_meet_swap (ge_meet_symm h))
/-- what an edge that the way from p to q doesn't meet adds to the two counts -/
theorem ge_cr_mv {u v p q : GPt} (hpq : p.2 ≤ q.2) (hm : ¬ ge_meet u v p q) : (ge_cr u v p != ge_cr u v q) = (ge_F p q u != ge_F p q v) := by
  rcases Int.le_total u.2 v.2 with h | h
  · exact ge_cr_mv1 hpq h hm
  · rw [ge_cr_symm (fun z => hm (Or.inl z)), ge_cr_symm (u := u) (v := v) (p := q) (fun z => hm (Or.inr (Or.inl z)))]
    rw [ge_cr_mv1 hpq h (fun z => hm (ge_meet_flip z))]
    cases ge_F p q u <;> cases ge_F p q v <;> rfl
