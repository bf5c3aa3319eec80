/-! triangles: weights, the count of a triangle, and that an edge that meets neither of two sides doesn't enter from the third -/
theorem ge_b0 (a b c p : GPt) : ge_o a b p + ge_o b c p + ge_o c a p = ge_o a b c := by unfold ge_o; grind
/-- a point's three sides weigh the corners -/
theorem ge_b1 (a b c p x y : GPt) : ge_o b c p * ge_o x y a + ge_o c a p * ge_o x y b + ge_o a b p * ge_o x y c = ge_o a b c * ge_o x y p := by unfold ge_o; grind
theorem ge_by (a b c p : GPt) : ge_o b c p * (a.2 - p.2) + ge_o c a p * (b.2 - p.2) + ge_o a b p * (c.2 - p.2) = 0 := by unfold ge_o; grind
theorem ge_bx (a b c p : GPt) : ge_o b c p * (a.1 - p.1) + ge_o c a p * (b.1 - p.1) + ge_o a b p * (c.1 - p.1) = 0 := by unfold ge_o; grind
/-- closed, and open, triangle to the left of a, b, c -/
def ge_in (a b c p : GPt) : Prop := 0 ≤ ge_o a b p ∧ 0 ≤ ge_o b c p ∧ 0 ≤ ge_o c a p
def ge_int (a b c p : GPt) : Prop := 0 < ge_o a b p ∧ 0 < ge_o b c p ∧ 0 < ge_o c a p
theorem ge_in_cyc {a b c p : GPt} (h : ge_in a b c p) : ge_in b c a p := ⟨h.2.1, h.2.2, h.1⟩
theorem ge_int_cyc {a b c p : GPt} (h : ge_int a b c p) : ge_int b c a p := ⟨h.2.1, h.2.2, h.1⟩
theorem ge_int_in {a b c p : GPt} (h : ge_int a b c p) : ge_in a b c p := ⟨by have := h.1; omega, by have := h.2.1; omega, by have := h.2.2; omega⟩
/-- on a side's line and in the triangle: on the side -/
theorem ge_in_on {a b c p : GPt} (hF : 0 < ge_o a b c) (h : ge_in a b c p) (h0 : ge_o a b p = 0) : ge_on a b p := by
  obtain ⟨h1, h2, h3⟩ := h
  have b0 := ge_b0 a b c p
  have bx := ge_bx a b c p
  have by' := ge_by a b c p
  rw [h0] at bx by' b0
  have hs : ge_o b c p + ge_o c a p = ge_o a b c := by omega
  have ex : ge_o a b c * (p.1 - a.1) = ge_o c a p * (b.1 - a.1) := by rw [← hs]; grind
  have ex2 : ge_o a b c * (p.1 - b.1) = ge_o b c p * (a.1 - b.1) := by rw [← hs]; grind
  have ey : ge_o a b c * (p.2 - a.2) = ge_o c a p * (b.2 - a.2) := by rw [← hs]; grind
  have ey2 : ge_o a b c * (p.2 - b.2) = ge_o b c p * (a.2 - b.2) := by rw [← hs]; grind
  have hFF : 0 < ge_o a b c * ge_o a b c := Int.mul_pos hF hF
  have kk : 0 ≤ ge_o c a p * ge_o b c p := Int.mul_nonneg h3 h2
  refine ⟨h0, ?_, ?_⟩
  · have q1 : 0 ≤ ge_o c a p * ge_o b c p * ((b.1 - a.1) * (b.1 - a.1)) := Int.mul_nonneg kk (ge_sq _)
    have q2 : ge_o a b c * ge_o a b c * -((p.1 - a.1) * (p.1 - b.1)) = ge_o c a p * ge_o b c p * ((b.1 - a.1) * (b.1 - a.1)) := by
      have : ge_o a b c * ge_o a b c * -((p.1 - a.1) * (p.1 - b.1)) = -((ge_o a b c * (p.1 - a.1)) * (ge_o a b c * (p.1 - b.1))) := by grind
      rw [this, ex, ex2]; grind
    have := ge_nn hFF (by rw [q2]; exact q1)
    omega
  · have q1 : 0 ≤ ge_o c a p * ge_o b c p * ((b.2 - a.2) * (b.2 - a.2)) := Int.mul_nonneg kk (ge_sq _)
    have q2 : ge_o a b c * ge_o a b c * -((p.2 - a.2) * (p.2 - b.2)) = ge_o c a p * ge_o b c p * ((b.2 - a.2) * (b.2 - a.2)) := by
      have : ge_o a b c * ge_o a b c * -((p.2 - a.2) * (p.2 - b.2)) = -((ge_o a b c * (p.2 - a.2)) * (ge_o a b c * (p.2 - b.2))) := by grind
      rw [this, ey, ey2]; grind
    have := ge_nn hFF (by rw [q2]; exact q1)
    omega
/-- one corner above, two not: the count of a triangle -/
theorem ge_tri1 {a b c p : GPt} (hF : 0 < ge_o a b c) (ha : a.2 ≤ p.2) (hb : b.2 ≤ p.2) (hc : p.2 < c.2) (n1 : ¬ ge_on a b p) : (0 < ge_o b c p ∧ 0 < ge_o c a p) ↔ ge_int a b c p := by
  have by' := ge_by a b c p
  have b0 := ge_b0 a b c p
  constructor
  · rintro ⟨h1, h2⟩
    refine ⟨?_, h1, h2⟩
    have k1 : 0 ≤ ge_o b c p * (p.2 - a.2) := Int.mul_nonneg (by omega) (by omega)
    have k2 : 0 ≤ ge_o c a p * (p.2 - b.2) := Int.mul_nonneg (by omega) (by omega)
    have k3 : 0 ≤ ge_o a b p := ge_nn (show 0 < c.2 - p.2 by omega) (by grind)
    rcases Int.lt_or_eq_of_le k3 with z | z
    · exact z
    · exact absurd (ge_in_on hF ⟨k3, by omega, by omega⟩ z.symm) n1
  · rintro ⟨_, h2, h3⟩
    exact ⟨h2, h3⟩
theorem ge_cs_up {u v p : GPt} (h1 : u.2 ≤ p.2) (h2 : p.2 < v.2) : ge_cs u v p = decide (0 < ge_o u v p) := by
  unfold ge_cs ge_cr
  rw [if_pos (by omega)]
  grind
theorem ge_cs_lo {u v p : GPt} (h1 : u.2 ≤ p.2) (h2 : v.2 ≤ p.2) : ge_cs u v p = false := by
  unfold ge_cs ge_cr
  split <;> grind
theorem ge_cs_hi {u v p : GPt} (h1 : p.2 < u.2) (h2 : p.2 < v.2) : ge_cs u v p = false := by
  unfold ge_cs ge_cr
  split <;> grind
def ge_tp (a b c p : GPt) : Bool := (ge_cs a b p != ge_cs b c p) != ge_cs c a p
theorem ge_tp_cyc (a b c p : GPt) : ge_tp b c a p = ge_tp a b c p := by unfold ge_tp; cases ge_cs a b p <;> cases ge_cs b c p <;> cases ge_cs c a p <;> rfl
theorem ge_tri_1 {a b c p : GPt} (hF : 0 < ge_o a b c) (ha : a.2 ≤ p.2) (hb : b.2 ≤ p.2) (hc : p.2 < c.2) (n1 : ¬ ge_on a b p) (n2 : ¬ ge_on b c p) (n3 : ¬ ge_on c a p) : ge_tp a b c p = true ↔ ge_int a b c p := by
  rw [← ge_tri1 hF ha hb hc n1]
  unfold ge_tp
  rw [ge_cs_lo ha hb, ge_cs_up hb hc, ge_cs_comm c a, ge_cs_up ha hc, ge_o_swap c a p]
  have by' := ge_by a b c p
  have b0 := ge_b0 a b c p
  have z3 : ge_o c a p ≠ 0 := fun z => n3 (ge_on_symm (ge_on_y (by rw [ge_o_swap, z]; rfl) (by omega) ha (by omega)))
  have z2 : ge_o b c p ≠ 0 := fun z => n2 (ge_on_y z (by omega) hb (by omega))
  have imp : ¬ (ge_o b c p < 0 ∧ ge_o c a p < 0) := fun z => by
    have k1 : 0 ≤ -ge_o b c p * (p.2 - a.2) := Int.mul_nonneg (by omega) (by omega)
    have k2 : 0 ≤ -ge_o c a p * (p.2 - b.2) := Int.mul_nonneg (by omega) (by omega)
    have k3 : 0 ≤ -ge_o a b p := ge_nn (show 0 < c.2 - p.2 by omega) (by grind)
    omega
  grind
theorem ge_tri_2 {a b c p : GPt} (hF : 0 < ge_o a b c) (ha : p.2 < a.2) (hb : p.2 < b.2) (hc : c.2 ≤ p.2) (n1 : ¬ ge_on a b p) (n2 : ¬ ge_on b c p) (n3 : ¬ ge_on c a p) : ge_tp a b c p = true ↔ ge_int a b c p := by
  unfold ge_tp ge_int
  rw [ge_cs_hi ha hb, ge_cs_comm b c, ge_cs_up hc hb, ge_cs_up hc ha, ge_o_swap b c p]
  have by' := ge_by a b c p
  have b0 := ge_b0 a b c p
  have z2 : ge_o b c p ≠ 0 := fun z => n2 (ge_on_symm (ge_on_y (by rw [ge_o_swap, z]; rfl) (by omega) hc (by omega)))
  have z3 : ge_o c a p ≠ 0 := fun z => n3 (ge_on_y z (by omega) hc (by omega))
  have pos : 0 < ge_o b c p → 0 < ge_o c a p → 0 < ge_o a b p := fun h1 h2 => by
    have k1 : 0 < ge_o b c p * (a.2 - p.2) := Int.mul_pos h1 (by omega)
    have k2 : 0 < ge_o c a p * (b.2 - p.2) := Int.mul_pos h2 (by omega)
    rcases Int.lt_or_le 0 (ge_o a b p) with z | z
    · exact z
    · have := Int.mul_nonneg (show 0 ≤ -ge_o a b p by omega) (show 0 ≤ p.2 - c.2 by omega)
      grind
  have imp : ¬ (ge_o b c p < 0 ∧ ge_o c a p < 0) := fun z => by
    have k1 : 0 < -ge_o b c p * (a.2 - p.2) := Int.mul_pos (by omega) (by omega)
    have k2 : 0 < -ge_o c a p * (b.2 - p.2) := Int.mul_pos (by omega) (by omega)
    rcases Int.lt_or_le (ge_o a b p) 0 with q | q
    · omega
    · have := Int.mul_nonneg q (show 0 ≤ p.2 - c.2 by omega)
      grind
  grind
/-- the count of a triangle, off its sides -/
theorem ge_tri {a b c p : GPt} (hF : 0 < ge_o a b c) (n1 : ¬ ge_on a b p) (n2 : ¬ ge_on b c p) (n3 : ¬ ge_on c a p) : ge_tp a b c p = true ↔ ge_int a b c p := by
  have cy1 : ge_int b c a p ↔ ge_int a b c p := ⟨fun h => ge_int_cyc (ge_int_cyc h), ge_int_cyc⟩
  have cy2 : ge_int c a b p ↔ ge_int a b c p := ⟨ge_int_cyc, fun h => ge_int_cyc (ge_int_cyc h)⟩
  have hF1 : 0 < ge_o b c a := by rw [ge_o_cyc]; exact hF
  have hF2 : 0 < ge_o c a b := by rw [ge_o_cyc]; exact hF1
  have tpc : ge_tp c a b p = ge_tp a b c p := (ge_tp_cyc b c a p).trans (ge_tp_cyc a b c p)
  have by' := ge_by a b c p
  rcases Int.lt_or_le p.2 a.2 with ha | ha <;> rcases Int.lt_or_le p.2 b.2 with hb | hb <;> rcases Int.lt_or_le p.2 c.2 with hc | hc
  · unfold ge_tp ge_int
    rw [ge_cs_hi ha hb, ge_cs_hi hb hc, ge_cs_hi hc ha]
    constructor
    · intro h; cases h
    · rintro ⟨h1, h2, h3⟩
      have k1 : 0 < ge_o b c p * (a.2 - p.2) := Int.mul_pos h2 (by omega)
      have k2 : 0 < ge_o c a p * (b.2 - p.2) := Int.mul_pos h3 (by omega)
      have k3 : 0 < ge_o a b p * (c.2 - p.2) := Int.mul_pos h1 (by omega)
      omega
  · exact ge_tri_2 hF ha hb hc n1 n2 n3
  · rw [← tpc, ← cy2]
    exact ge_tri_2 hF2 hc ha hb n3 n1 n2
  · rw [← cy1, ← ge_tp_cyc a b c p]
    exact ge_tri_1 hF1 hb hc ha n2 n3 n1
  · rw [← cy1, ← ge_tp_cyc a b c p]
    exact ge_tri_2 hF1 hb hc ha n2 n3 n1
  · rw [← tpc, ← cy2]
    exact ge_tri_1 hF2 hc ha hb n3 n1 n2
  · exact ge_tri_1 hF ha hb hc n1 n2 n3
  · unfold ge_tp ge_int
    rw [ge_cs_lo ha hb, ge_cs_lo hb hc, ge_cs_lo hc ha]
    constructor
    · intro h; cases h
    · rintro ⟨h1, h2, h3⟩
      exfalso
      have k1 : 0 ≤ ge_o b c p * (p.2 - a.2) := Int.mul_nonneg (by omega) (by omega)
      have k2 : 0 ≤ ge_o c a p * (p.2 - b.2) := Int.mul_nonneg (by omega) (by omega)
      have k3 : 0 ≤ ge_o a b p * (p.2 - c.2) := Int.mul_nonneg (by omega) (by omega)
      have es : ge_o b c p * (p.2 - a.2) + ge_o c a p * (p.2 - b.2) + ge_o a b p * (p.2 - c.2) = 0 := by
        have q : ge_o b c p * (p.2 - a.2) + ge_o c a p * (p.2 - b.2) + ge_o a b p * (p.2 - c.2) = -(ge_o b c p * (a.2 - p.2) + ge_o c a p * (b.2 - p.2) + ge_o a b p * (c.2 - p.2)) := by clear by' k1 k2 k3; grind
        rw [q, by']; rfl
      have e1 : ge_o b c p * (p.2 - a.2) = 0 := by omega
      have e2 : ge_o c a p * (p.2 - b.2) = 0 := by omega
      have e3 : ge_o a b p * (p.2 - c.2) = 0 := by omega
      have y1 : p.2 - a.2 = 0 := by rcases Int.mul_eq_zero.mp e1 with z | z <;> omega
      have y2 : p.2 - b.2 = 0 := by rcases Int.mul_eq_zero.mp e2 with z | z <;> omega
      have y3 : p.2 - c.2 = 0 := by rcases Int.mul_eq_zero.mp e3 with z | z <;> omega
      have : ge_o a b c = 0 := by unfold ge_o; grind
      omega
