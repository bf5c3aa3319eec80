/-! points of a segment by weights; an edge that doesn't cross two sides of a triangle stays out of it, but for the third side -/
def ge_x (u v p q : GPt) : Prop := ge_o u v p * ge_o u v q < 0 ∧ ge_o p q u * ge_o p q v < 0
def ge_wt (x y r : GPt) (i j : Int) : Prop := 0 ≤ i ∧ 0 ≤ j ∧ 0 < i + j ∧ (i + j) * r.1 = i * x.1 + j * y.1 ∧ (i + j) * r.2 = i * x.2 + j * y.2
theorem ge_wt_o {x y r : GPt} {i j : Int} (h : ge_wt x y r i j) (u v : GPt) : (i + j) * ge_o u v r = i * ge_o u v x + j * ge_o u v y := by
  obtain ⟨-, -, -, h1, h2⟩ := h
  unfold ge_o
  grind
theorem ge_wt_swap {x y r : GPt} {i j : Int} (h : ge_wt x y r i j) : ge_wt y x r j i := by
  obtain ⟨h1, h2, h3, h4, h5⟩ := h
  exact ⟨h2, h1, by omega, by rw [Int.add_comm j i, h4]; omega, by rw [Int.add_comm j i, h5]; omega⟩
theorem ge_mul_le {k a b : Int} (hk : 0 < k) (h : k * a ≤ k * b) : a ≤ b := by
  have := ge_nn (t := b - a) hk (by grind)
  omega
theorem ge_wt_on {x y r : GPt} {i j : Int} (h : ge_wt x y r i j) : ge_on x y r := by
  have ho := ge_wt_o h x y
  obtain ⟨hi, hj, hs, h1, h2⟩ := h
  have z1 : ge_o x y x = 0 := by unfold ge_o; grind
  have z2 : ge_o x y y = 0 := by unfold ge_o; grind
  rw [z1, z2] at ho
  have hss : 0 < (i + j) * (i + j) := Int.mul_pos hs hs
  have hij := Int.mul_nonneg hi hj
  refine ⟨ge_zero hs (by omega), ?_, ?_⟩
  · have e1 : (i + j) * (r.1 - x.1) = j * (y.1 - x.1) := by grind
    have e2 : (i + j) * (r.1 - y.1) = i * (x.1 - y.1) := by grind
    have q1 : 0 ≤ i * j * ((y.1 - x.1) * (y.1 - x.1)) := Int.mul_nonneg hij (ge_sq _)
    have q2 : (i + j) * (i + j) * -((r.1 - x.1) * (r.1 - y.1)) = i * j * ((y.1 - x.1) * (y.1 - x.1)) := by
      have : (i + j) * (i + j) * -((r.1 - x.1) * (r.1 - y.1)) = -(((i + j) * (r.1 - x.1)) * ((i + j) * (r.1 - y.1))) := by grind
      rw [this, e1, e2]; grind
    have := ge_nn hss (by rw [q2]; exact q1)
    omega
  · have e1 : (i + j) * (r.2 - x.2) = j * (y.2 - x.2) := by grind
    have e2 : (i + j) * (r.2 - y.2) = i * (x.2 - y.2) := by grind
    have q1 : 0 ≤ i * j * ((y.2 - x.2) * (y.2 - x.2)) := Int.mul_nonneg hij (ge_sq _)
    have q2 : (i + j) * (i + j) * -((r.2 - x.2) * (r.2 - y.2)) = i * j * ((y.2 - x.2) * (y.2 - x.2)) := by
      have : (i + j) * (i + j) * -((r.2 - x.2) * (r.2 - y.2)) = -(((i + j) * (r.2 - x.2)) * ((i + j) * (r.2 - y.2))) := by grind
      rw [this, e1, e2]; grind
    have := ge_nn hss (by rw [q2]; exact q1)
    omega
theorem ge_btw {a b r : Int} (h : (r - a) * (r - b) ≤ 0) : (a ≤ r ∧ r ≤ b) ∨ (b ≤ r ∧ r ≤ a) := by
  rcases Int.lt_or_le r a with z | z
  · rcases Int.lt_or_le r b with w | w
    · have := Int.mul_pos (show 0 < a - r by omega) (show 0 < b - r by omega)
      exfalso
      grind
    · exact Or.inr ⟨w, by omega⟩
  · rcases Int.lt_or_le b r with w | w
    · rcases Int.lt_or_eq_of_le z with z' | z'
      · have := Int.mul_pos (show 0 < r - a by omega) (show 0 < r - b by omega)
        omega
      · exact Or.inr ⟨by omega, by omega⟩
    · exact Or.inl ⟨z, w⟩
theorem ge_on_wt {x y r : GPt} (hxy : x ≠ y) (h : ge_on x y r) : ∃ i j : Int, ge_wt x y r i j := by
  obtain ⟨h0, h1, h2⟩ := h
  unfold ge_o at h0
  have b1 := ge_btw h1
  have b2 := ge_btw h2
  by_cases hx : x.1 = y.1
  · have hy : x.2 ≠ y.2 := fun z => hxy (Prod.ext hx z)
    have hr : r.1 = x.1 := by omega
    rcases b2 with ⟨u, v⟩ | ⟨u, v⟩
    · exact ⟨y.2 - r.2, r.2 - x.2, by omega, by omega, by omega, by rw [hr, ← hx]; grind, by grind⟩
    · exact ⟨r.2 - y.2, x.2 - r.2, by omega, by omega, by omega, by rw [hr, ← hx]; grind, by grind⟩
  · rcases b1 with ⟨u, v⟩ | ⟨u, v⟩
    · exact ⟨y.1 - r.1, r.1 - x.1, by omega, by omega, by omega, by grind, by grind⟩
    · exact ⟨r.1 - y.1, x.1 - r.1, by omega, by omega, by omega, by grind, by grind⟩
/-- the point where the line xy meets the line ab, if it is a -/
theorem ge_at {a b x y : GPt} (h0 : ge_o x y a = 0) (hx : 0 < ge_o a b x) (hy : ge_o a b y < 0) : ge_on x y a := by
  refine ge_wt_on (i := -ge_o a b y) (j := ge_o a b x) ⟨by omega, by omega, by omega, ?_, ?_⟩
  · have : (-ge_o a b y + ge_o a b x) * a.1 - (-ge_o a b y * x.1 + ge_o a b x * y.1) = ge_o x y a * (b.1 - a.1) := by unfold ge_o; grind
    rw [h0] at this
    omega
  · have : (-ge_o a b y + ge_o a b x) * a.2 - (-ge_o a b y * x.2 + ge_o a b x * y.2) = ge_o x y a * (b.2 - a.2) := by unfold ge_o; grind
    rw [h0] at this
    omega
theorem ge_neg_of {k f : Int} (hk : 0 ≤ k) (h : 0 < k * f) : 0 < f := by
  rcases Int.lt_or_le 0 f with z | z
  · exact z
  · have := Int.mul_nonneg hk (show 0 ≤ -f by omega)
    rw [Int.mul_neg] at this
    omega
theorem ge_lt_of {k f : Int} (hk : 0 < k) (h : k * f < 0) : f < 0 := by
  have := ge_pos (t := -f) hk (by rw [Int.mul_neg]; omega)
  omega
theorem ge_ngt_of {k f : Int} (hk : k < 0) (h : k * f < 0) : 0 < f := ge_pos (k := -k) (by omega) (by rw [Int.neg_mul]; omega)
theorem ge_nlt_of {k f : Int} (hk : k < 0) (h : 0 < k * f) : f < 0 := by
  have := ge_pos (k := -k) (t := -f) (by omega) (by rw [Int.neg_mul_neg]; exact h)
  omega
/-- a side is passed strictly -/
theorem ge_pass {x y r : GPt} {i j : Int} (w : ge_wt x y r i j) {u v : GPt} (hr : 0 ≤ ge_o u v r) (hy : ge_o u v y < 0) (hj : 0 < j) : 0 < ge_o u v x := by
  have e := ge_wt_o w u v
  obtain ⟨hi, _, hs, _⟩ := w
  have k1 : 0 ≤ (i + j) * ge_o u v r := Int.mul_nonneg (by omega) hr
  have k2 : 0 < j * -ge_o u v y := Int.mul_pos hj (by omega)
  rw [Int.mul_neg] at k2
  exact ge_neg_of hi (by omega)
theorem ge_K1 {a b c x y r : GPt} {i j : Int} (w : ge_wt x y r i j) (hj : 0 < j) (rT : ge_in a b c r) (r3 : 0 < ge_o c a r) (y3 : 0 < ge_o c a y) (y1 : ge_o a b y < 0)
    (c1 : ¬ ge_x x y a b) (c2 : ¬ ge_x x y b c) (na : ge_on x y a → ¬ ge_o a b x * ge_o a b y < 0) (nb : ¬ ge_on x y b) : False := by
  have x1 : 0 < ge_o a b x := ge_pass w rT.1 y1 hj
  have hr0 : ge_o x y r = 0 := (ge_wt_on w).1
  have br := ge_b1 a b c r x y
  have byy := ge_b1 a b c y x y
  have hyy : ge_o x y y = 0 := by unfold ge_o; grind
  rw [hr0, Int.mul_zero] at br
  rw [hyy, Int.mul_zero] at byy
  have pxy : ge_o a b x * ge_o a b y < 0 := by have := Int.mul_pos x1 (show 0 < -ge_o a b y by omega); rw [Int.mul_neg] at this; omega
  have oa : ge_o x y a ≠ 0 := fun z => na (ge_at z x1 y1) pxy
  have ob : ge_o x y b ≠ 0 := fun z => nb (by
    have e1 : ge_o b a x = -ge_o a b x := ge_o_swap a b x
    have e2 : ge_o b a y = -ge_o a b y := ge_o_swap a b y
    exact ge_on_symm (ge_at (a := b) (b := a) (x := y) (y := x) (by rw [ge_o_swap, z]; rfl) (by omega) (by omega)))
  have same : ¬ ge_o x y a * ge_o x y b < 0 := fun z => c1 ⟨z, pxy⟩
  obtain ⟨r1, r2, -⟩ := rT
  rcases Int.lt_or_lt_of_ne oa with ha | ha
  · have hb : ge_o x y b < 0 := by
      rcases Int.lt_or_lt_of_ne ob with q | q
      · exact q
      · have := Int.mul_pos (show 0 < -ge_o x y a by omega) q
        rw [Int.neg_mul] at this
        exact absurd (by omega) same
    have k1 : 0 ≤ ge_o b c r * -ge_o x y a := Int.mul_nonneg r2 (by omega)
    have k2 : 0 < ge_o c a r * -ge_o x y b := Int.mul_pos r3 (by omega)
    rw [Int.mul_neg] at k1 k2
    have k3 : 0 < ge_o a b r * ge_o x y c := by omega
    have oc : 0 < ge_o x y c := ge_neg_of r1 k3
    have m1 : 0 < ge_o c a y * -ge_o x y b := Int.mul_pos y3 (by omega)
    have m2 : 0 < -ge_o a b y * ge_o x y c := Int.mul_pos (by omega) oc
    rw [Int.mul_neg] at m1
    rw [Int.neg_mul] at m2
    have m3 : ge_o x y a * ge_o b c y > 0 := by rw [Int.mul_comm]; omega
    have y2 : ge_o b c y < 0 := ge_nlt_of ha m3
    have x2 : 0 < ge_o b c x := ge_pass w r2 y2 hj
    refine c2 ⟨?_, ?_⟩
    · have := Int.mul_pos (show 0 < -ge_o x y b by omega) oc
      rw [Int.neg_mul] at this
      omega
    · have := Int.mul_pos x2 (show 0 < -ge_o b c y by omega)
      rw [Int.mul_neg] at this
      omega
  · have hb : 0 < ge_o x y b := by
      rcases Int.lt_or_lt_of_ne ob with q | q
      · have := Int.mul_pos ha (show 0 < -ge_o x y b by omega)
        rw [Int.mul_neg] at this
        exact absurd (by omega) same
      · exact q
    have k1 : 0 ≤ ge_o b c r * ge_o x y a := Int.mul_nonneg r2 (by omega)
    have k2 : 0 < ge_o c a r * ge_o x y b := Int.mul_pos r3 hb
    have k3 : 0 < ge_o a b r * -ge_o x y c := by rw [Int.mul_neg]; omega
    have oc : 0 < -ge_o x y c := ge_neg_of r1 k3
    have m1 : 0 < ge_o c a y * ge_o x y b := Int.mul_pos y3 hb
    have m2 : 0 < -ge_o a b y * -ge_o x y c := Int.mul_pos (by omega) oc
    rw [Int.neg_mul_neg] at m2
    have m3 : ge_o x y a * ge_o b c y < 0 := by rw [Int.mul_comm]; omega
    have y2 : ge_o b c y < 0 := ge_lt_of ha m3
    have x2 : 0 < ge_o b c x := ge_pass w r2 y2 hj
    refine c2 ⟨?_, ?_⟩
    · have := Int.mul_pos hb oc
      rw [Int.mul_neg] at this
      omega
    · have := Int.mul_pos x2 (show 0 < -ge_o b c y by omega)
      rw [Int.mul_neg] at this
      omega
theorem ge_K2 {a b c x y r : GPt} {i j : Int} (w : ge_wt x y r i j) (hj : 0 < j) (rT : ge_in a b c r) (r3 : 0 < ge_o c a r) (y3 : 0 < ge_o c a y) (y2 : ge_o b c y < 0)
    (c1 : ¬ ge_x x y a b) (c2 : ¬ ge_x x y b c) (na : ge_on x y a → ¬ ge_o a b x * ge_o a b y < 0) (nb : ¬ ge_on x y b) (nc : ge_on x y c → ¬ ge_o b c x * ge_o b c y < 0) : False := by
  have x2 : 0 < ge_o b c x := ge_pass w rT.2.1 y2 hj
  have hr0 : ge_o x y r = 0 := (ge_wt_on w).1
  have br := ge_b1 a b c r x y
  have byy := ge_b1 a b c y x y
  have hyy : ge_o x y y = 0 := by unfold ge_o; grind
  rw [hr0, Int.mul_zero] at br
  rw [hyy, Int.mul_zero] at byy
  have pxy : ge_o b c x * ge_o b c y < 0 := by have := Int.mul_pos x2 (show 0 < -ge_o b c y by omega); rw [Int.mul_neg] at this; omega
  have ob : ge_o x y b ≠ 0 := fun z => nb (ge_at z x2 y2)
  have oc : ge_o x y c ≠ 0 := fun z => by
    have e1 : ge_o c b x = -ge_o b c x := ge_o_swap b c x
    have e2 : ge_o c b y = -ge_o b c y := ge_o_swap b c y
    exact nc (ge_on_symm (ge_at (a := c) (b := b) (x := y) (y := x) (by rw [ge_o_swap, z]; rfl) (by omega) (by omega))) pxy
  have same : ¬ ge_o x y b * ge_o x y c < 0 := fun z => c2 ⟨z, pxy⟩
  refine ge_K1 w hj rT r3 y3 ?_ c1 c2 na nb
  obtain ⟨r1, r2, -⟩ := rT
  rcases Int.lt_or_lt_of_ne ob with hb | hb
  · have hc : ge_o x y c < 0 := by
      rcases Int.lt_or_lt_of_ne oc with q | q
      · exact q
      · have := Int.mul_pos (show 0 < -ge_o x y b by omega) q
        rw [Int.neg_mul] at this
        exact absurd (by omega) same
    have k1 : 0 ≤ ge_o a b r * -ge_o x y c := Int.mul_nonneg r1 (by omega)
    have k2 : 0 < ge_o c a r * -ge_o x y b := Int.mul_pos r3 (by omega)
    rw [Int.mul_neg] at k1 k2
    have oa : 0 < ge_o x y a := ge_neg_of r2 (by omega)
    have m1 : 0 < ge_o c a y * -ge_o x y b := Int.mul_pos y3 (by omega)
    have m2 : 0 < -ge_o b c y * ge_o x y a := Int.mul_pos (by omega) oa
    rw [Int.mul_neg] at m1
    rw [Int.neg_mul] at m2
    exact ge_nlt_of hc (by rw [Int.mul_comm]; omega)
  · have hc : 0 < ge_o x y c := by
      rcases Int.lt_or_lt_of_ne oc with q | q
      · have := Int.mul_pos hb (show 0 < -ge_o x y c by omega)
        rw [Int.mul_neg] at this
        exact absurd (by omega) same
      · exact q
    have k1 : 0 ≤ ge_o a b r * ge_o x y c := Int.mul_nonneg r1 (by omega)
    have k2 : 0 < ge_o c a r * ge_o x y b := Int.mul_pos r3 hb
    have oa : 0 < -ge_o x y a := ge_neg_of r2 (by rw [Int.mul_neg]; omega)
    have m1 : 0 < ge_o c a y * ge_o x y b := Int.mul_pos y3 hb
    have m2 : 0 < -ge_o b c y * -ge_o x y a := Int.mul_pos (by omega) oa
    rw [Int.neg_mul_neg] at m2
    exact ge_lt_of hc (by rw [Int.mul_comm]; omega)
theorem ge_x_swap {x y p q : GPt} (h : ge_x y x p q) : ge_x x y p q := by
  obtain ⟨h1, h2⟩ := h
  rw [ge_o_swap x y p, ge_o_swap x y q, Int.neg_mul_neg] at h1
  exact ⟨h1, by rw [Int.mul_comm]; exact h2⟩
theorem ge_x_symm {x y p q : GPt} (h : ge_x x y p q) : ge_x p q x y := ⟨h.2, h.1⟩
theorem ge_wt_0 {x y r : GPt} {i : Int} (w : ge_wt x y r i 0) : r = x := by
  obtain ⟨h1, h2, h3, h4, h5⟩ := w
  have e1 := ge_zero (t := r.1 - x.1) (show 0 < i by omega) (by grind)
  have e2 := ge_zero (t := r.2 - x.2) (show 0 < i by omega) (by grind)
  exact Prod.ext (by omega) (by omega)
/-- the edge xy has no point in the triangle off its side ca -/
theorem ge_K {a b c x y r : GPt} (hxy : x ≠ y) (hr : ge_on x y r) (rT : ge_in a b c r) (r3 : 0 < ge_o c a r) (hx : ¬ (ge_in a b c x ∧ 0 < ge_o c a x)) (hy : ¬ (ge_in a b c y ∧ 0 < ge_o c a y))
    (c1 : ¬ ge_x x y a b) (c2 : ¬ ge_x x y b c) (na : ge_on x y a → ¬ ge_o a b x * ge_o a b y < 0) (nb : ¬ ge_on x y b) (nc : ge_on x y c → ¬ ge_o b c x * ge_o b c y < 0) : False := by
  obtain ⟨i, j, w⟩ := ge_on_wt hxy hr
  have e3 := ge_wt_o w c a
  have k3 : 0 < (i + j) * ge_o c a r := Int.mul_pos w.2.2.1 r3
  have hi0 : i ≠ 0 := fun z => by
    subst z
    have := ge_wt_0 (ge_wt_swap w)
    subst this
    exact hy ⟨rT, r3⟩
  have hj0 : j ≠ 0 := fun z => by
    subst z
    have := ge_wt_0 w
    subst this
    exact hx ⟨rT, r3⟩
  have hi : 0 < i := by have := w.1; omega
  have hj : 0 < j := by have := w.2.1; omega
  rcases Int.lt_or_le 0 (ge_o c a y) with y3 | y3
  · rcases Int.lt_or_le (ge_o a b y) 0 with y1 | y1
    · exact ge_K1 w hj rT r3 y3 y1 c1 c2 na nb
    · rcases Int.lt_or_le (ge_o b c y) 0 with y2 | y2
      · exact ge_K2 w hj rT r3 y3 y2 c1 c2 na nb nc
      · exact hy ⟨⟨y1, y2, by omega⟩, y3⟩
  · have x3 : 0 < ge_o c a x := by
      have := Int.mul_nonneg (show 0 ≤ j by omega) (show 0 ≤ -ge_o c a y by omega)
      rw [Int.mul_neg] at this
      exact ge_pos hi (by omega)
    have c1' : ¬ ge_x y x a b := fun z => c1 (ge_x_swap z)
    have c2' : ¬ ge_x y x b c := fun z => c2 (ge_x_swap z)
    have na' : ge_on y x a → ¬ ge_o a b y * ge_o a b x < 0 := fun z => by rw [Int.mul_comm]; exact na (ge_on_symm z)
    have nc' : ge_on y x c → ¬ ge_o b c y * ge_o b c x < 0 := fun z => by rw [Int.mul_comm]; exact nc (ge_on_symm z)
    have nb' : ¬ ge_on y x b := fun z => nb (ge_on_symm z)
    rcases Int.lt_or_le (ge_o a b x) 0 with y1 | y1
    · exact ge_K1 (ge_wt_swap w) hi rT r3 x3 y1 c1' c2' na' nb'
    · rcases Int.lt_or_le (ge_o b c x) 0 with y2 | y2
      · exact ge_K2 (ge_wt_swap w) hi rT r3 x3 y2 c1' c2' na' nb' nc'
      · exact hx ⟨⟨y1, y2, by omega⟩, x3⟩
