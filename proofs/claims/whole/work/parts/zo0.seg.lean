/-! sight along a segment: positions on a line, pieces between way points, steps of a chain -/
/-- the position along uv -/
def sgp (u v z : GPt) : Int := (z.1 - u.1) * (v.1 - u.1) + (z.2 - u.2) * (v.2 - u.2)
theorem sg_E {u v : GPt} (h : u ≠ v) : 0 < sgp u v v := by
  unfold sgp
  have h1 := ge_sq (v.1 - u.1)
  have h2 := ge_sq (v.2 - u.2)
  rcases Int.lt_or_eq_of_le h1 with q | q
  · omega
  · rcases Int.lt_or_eq_of_le h2 with q2 | q2
    · omega
    · exfalso
      apply h
      have a := Int.mul_eq_zero.mp q.symm
      have b := Int.mul_eq_zero.mp q2.symm
      exact Prod.ext (by omega) (by omega)
theorem sg_u (u v : GPt) : sgp u v u = 0 := by unfold sgp; grind
theorem sg_ou (u v : GPt) : ge_o u v u = 0 ∧ ge_o u v v = 0 := by unfold ge_o; exact ⟨by grind, by grind⟩
theorem sg_x {u v z : GPt} (h : ge_o u v z = 0) : sgp u v v * (z.1 - u.1) = sgp u v z * (v.1 - u.1) := by
  unfold ge_o at h; unfold sgp; grind
theorem sg_y {u v z : GPt} (h : ge_o u v z = 0) : sgp u v v * (z.2 - u.2) = sgp u v z * (v.2 - u.2) := by
  unfold ge_o at h; unfold sgp; grind
theorem sg_inj {u v a b : GPt} (hne : u ≠ v) (ha : ge_o u v a = 0) (hb : ge_o u v b = 0) (h : sgp u v a = sgp u v b) : a = b := by
  have E := sg_E hne
  have x1 := sg_x ha
  have x2 := sg_x hb
  have y1 := sg_y ha
  have y2 := sg_y hb
  rw [h] at x1 y1
  have p := Int.eq_of_mul_eq_mul_left (by omega) (x1.trans x2.symm)
  have q := Int.eq_of_mul_eq_mul_left (by omega) (y1.trans y2.symm)
  exact Prod.ext (by omega) (by omega)
theorem sg_lk {e a b u s t d : Int} (h1 : e * (a - u) = s * d) (h2 : e * (b - u) = t * d) : e * (b - a) = (t - s) * d := by
  rw [show b - a = (b - u) - (a - u) by omega, Int.mul_sub, h1, h2, Int.sub_mul]
theorem sg_col {u v a b z : GPt} (hne : u ≠ v) (ha : ge_o u v a = 0) (hb : ge_o u v b = 0) (hz : ge_o u v z = 0) : ge_o a b z = 0 := by
  have E := sg_E hne
  have x1 := sg_x ha
  have x2 := sg_x hb
  have x3 := sg_x hz
  have y1 := sg_y ha
  have y2 := sg_y hb
  have y3 := sg_y hz
  generalize sgp u v v = e at *
  generalize sgp u v a = sa at *
  generalize sgp u v b = sb at *
  generalize sgp u v z = sz at *
  have k : e * (e * ge_o a b z) = 0 := by
    have p1 := sg_lk x1 x2
    have p2 := sg_lk y1 y2
    have p3 := sg_lk x1 x3
    have p4 := sg_lk y1 y3
    have q : e * (e * ge_o a b z) = (e * (b.1 - a.1)) * (e * (z.2 - a.2)) - (e * (b.2 - a.2)) * (e * (z.1 - a.1)) := by unfold ge_o; grind
    rw [q, p1, p2, p3, p4]
    grind
  exact ge_zero E (ge_zero E k)
/-- on a line, 'on the segment' is 'between the positions' -/
theorem sg_on {u v a b z : GPt} (hne : u ≠ v) (ha : ge_o u v a = 0) (hb : ge_o u v b = 0) (hz : ge_o u v z = 0) : ge_on a b z ↔ (sgp u v z - sgp u v a) * (sgp u v z - sgp u v b) ≤ 0 := by
  have E := sg_E hne
  have hc := sg_col hne ha hb hz
  have x1 := sg_x ha
  have x2 := sg_x hb
  have x3 := sg_x hz
  have y1 := sg_y ha
  have y2 := sg_y hb
  have y3 := sg_y hz
  have e0 : sgp u v v = (v.1 - u.1) * (v.1 - u.1) + (v.2 - u.2) * (v.2 - u.2) := rfl
  have s1 := ge_sq (v.1 - u.1)
  have s2 := ge_sq (v.2 - u.2)
  generalize sgp u v v = e at *
  generalize sgp u v a = sa at *
  generalize sgp u v b = sb at *
  generalize sgp u v z = sz at *
  generalize v.1 - u.1 = d1 at *
  generalize v.2 - u.2 = d2 at *
  have P1 : e * (e * ((z.1 - a.1) * (z.1 - b.1))) = ((sz - sa) * (sz - sb)) * (d1 * d1) := by
    have p1 := sg_lk x1 x3
    have p2 := sg_lk x2 x3
    have q : e * (e * ((z.1 - a.1) * (z.1 - b.1))) = (e * (z.1 - a.1)) * (e * (z.1 - b.1)) := by grind
    rw [q, p1, p2]; grind
  have P2 : e * (e * ((z.2 - a.2) * (z.2 - b.2))) = ((sz - sa) * (sz - sb)) * (d2 * d2) := by
    have p1 := sg_lk y1 y3
    have p2 := sg_lk y2 y3
    have q : e * (e * ((z.2 - a.2) * (z.2 - b.2))) = (e * (z.2 - a.2)) * (e * (z.2 - b.2)) := by grind
    rw [q, p1, p2]; grind
  generalize (sz - sa) * (sz - sb) = T at *
  constructor
  · rintro ⟨-, q1, q2⟩
    generalize (z.1 - a.1) * (z.1 - b.1) = A at *
    generalize (z.2 - a.2) * (z.2 - b.2) = B at *
    have r1 : e * (e * A) ≤ 0 := (ge_sg_np E).mpr ((ge_sg_np E).mpr q1)
    have r2 : e * (e * B) ≤ 0 := (ge_sg_np E).mpr ((ge_sg_np E).mpr q2)
    have r3 : e * T ≤ 0 := by
      have : e * T = T * (d1 * d1) + T * (d2 * d2) := by rw [e0]; grind
      omega
    exact (ge_sg_np E).mp r3
  · intro hT
    have t1 : T * (d1 * d1) ≤ 0 := Int.mul_nonpos_of_nonpos_of_nonneg hT s1
    have t2 : T * (d2 * d2) ≤ 0 := Int.mul_nonpos_of_nonpos_of_nonneg hT s2
    refine ⟨hc, (ge_sg_np E).mp ((ge_sg_np E).mp ?_), (ge_sg_np E).mp ((ge_sg_np E).mp ?_)⟩
    · rw [P1]; exact t1
    · rw [P2]; exact t2
theorem sg_oz {a b y z x : GPt} (hy : ge_o a b y = 0) (hz : ge_o a b z = 0) (h : ge_on y z x) : ge_o a b x = 0 := by
  by_cases e : y = z
  · subst e; rw [ge_on_pp h]; exact hy
  · obtain ⟨i, j, w⟩ := ge_on_wt e h
    have q := ge_wt_o w a b
    rw [hy, hz, Int.mul_zero, Int.mul_zero] at q
    have := w.2.2.1
    exact ge_zero this (by omega)
theorem sg_in {a b z : GPt} (hab : a ≠ b) (h : ge_on a b z) : 0 ≤ sgp a b z ∧ sgp a b z ≤ sgp a b b := by
  have E := sg_E hab
  have q := (sg_on hab (sg_ou a b).1 (sg_ou a b).2 h.1).mp h
  rw [sg_u] at q
  rcases ge_btw q with w | w <;> omega
theorem sg_ino {a b z : GPt} (hab : a ≠ b) (h0 : ge_o a b z = 0) (h1 : 0 ≤ sgp a b z) (h2 : sgp a b z ≤ sgp a b b) : ge_on a b z :=
  (sg_on hab (sg_ou a b).1 (sg_ou a b).2 h0).mpr (by rw [sg_u]; exact btw_nn h1 h2)
/-- between two places of a segment -/
theorem sg_tr {a b y z x : GPt} (hab : a ≠ b) (hy : ge_on a b y) (hz : ge_on a b z) (h : ge_on y z x) : ge_on a b x := by
  have ox := sg_oz hy.1 hz.1 h
  have q := (sg_on hab hy.1 hz.1 ox).mp h
  have i1 := sg_in hab hy
  have i2 := sg_in hab hz
  rcases ge_btw q with w | w
  · exact sg_ino hab ox (by omega) (by omega)
  · exact sg_ino hab ox (by omega) (by omega)
/-- an edge that has an inner place of ww', no end between them and no crossing: it holds both -/
theorem sg_1 {u v w w' x : GPt} (hww : w ≠ w') (huv : u ≠ v) (hx1 : ge_on u v x) (hx2 : ge_on w w' x) (n1 : x ≠ w) (n2 : x ≠ w') (hu : ge_on w w' u → u = w ∨ u = w') (hv : ge_on w w' v → v = w ∨ v = w') (hX : ¬ ge_x u v w w') : ge_on u v w ∧ ge_on u v w' := by
  obtain ⟨i, j, w1⟩ := ge_on_wt hww hx2
  obtain ⟨i', j', w2⟩ := ge_on_wt huv hx1
  have a1 := ge_wt_o w1 u v
  have a2 := ge_wt_o w2 w w'
  rw [hx1.1, Int.mul_zero] at a1
  rw [hx2.1, Int.mul_zero] at a2
  have pi : 0 < i := by
    have := w1.1
    have := w1.2.1
    rcases Int.lt_or_eq_of_le w1.1 with q | q
    · exact q
    · rw [← q] at w1; exact absurd (ge_wt_0 (ge_wt_swap w1)) n2
  have pj : 0 < j := by
    rcases Int.lt_or_eq_of_le w1.2.1 with q | q
    · exact q
    · rw [← q] at w1; exact absurd (ge_wt_0 w1) n1
  have nu : x ≠ u := fun e => by
    rw [e] at hx2 n1 n2
    rcases hu hx2 with q | q
    · exact n1 q
    · exact n2 q
  have nv : x ≠ v := fun e => by
    rw [e] at hx2 n1 n2
    rcases hv hx2 with q | q
    · exact n1 q
    · exact n2 q
  have pi' : 0 < i' := by
    rcases Int.lt_or_eq_of_le w2.1 with q | q
    · exact q
    · rw [← q] at w2; exact absurd (ge_wt_0 (ge_wt_swap w2)) nv
  have pj' : 0 < j' := by
    rcases Int.lt_or_eq_of_le w2.2.1 with q | q
    · exact q
    · rw [← q] at w2; exact absurd (ge_wt_0 w2) nu
  -- signs of two numbers whose weighed sum is 0
  have opp : ∀ {i j a b : Int}, 0 < i → 0 < j → 0 = i * a + j * b → (a = 0 ∧ b = 0) ∨ a * b < 0 := by
    intro i j a b hi hj h
    rcases Int.lt_trichotomy a 0 with q | q | q
    · have : i * a < 0 := (ge_sg_neg hi).mpr q
      have hb : 0 < j * b := by omega
      exact Or.inr (Int.mul_neg_of_neg_of_pos q ((ge_sg_pos hj).mp hb))
    · subst q
      rw [Int.mul_zero, Int.zero_add] at h
      exact Or.inl ⟨rfl, ge_zero hj h.symm⟩
    · have : 0 < i * a := (ge_sg_pos hi).mpr q
      have hb : j * b < 0 := by omega
      exact Or.inr (Int.mul_neg_of_pos_of_neg q ((ge_sg_neg hj).mp hb))
  rcases opp pi pj a1 with ⟨z1, z2⟩ | z
  · -- one line
    have E := sg_E huv
    have sx := sg_in huv hx1
    have ox := hx1.1
    have q1 := (sg_on huv z1 z2 ox).mp hx2
    have m1 : sgp u v x ≠ sgp u v w := fun e => n1 (sg_inj huv ox z1 e)
    have m2 : sgp u v x ≠ sgp u v w' := fun e => n2 (sg_inj huv ox z2 e)
    have k1 : ¬ (sgp u v u - sgp u v w) * (sgp u v u - sgp u v w') ≤ 0 ∨ sgp u v w = 0 ∨ sgp u v w' = 0 := by
      by_cases q : (sgp u v u - sgp u v w) * (sgp u v u - sgp u v w') ≤ 0
      · rcases hu ((sg_on huv z1 z2 (sg_ou u v).1).mpr q) with e | e
        · exact Or.inr (Or.inl (by rw [← e, sg_u]))
        · exact Or.inr (Or.inr (by rw [← e, sg_u]))
      · exact Or.inl q
    have k2 : ¬ (sgp u v v - sgp u v w) * (sgp u v v - sgp u v w') ≤ 0 ∨ sgp u v w = sgp u v v ∨ sgp u v w' = sgp u v v := by
      by_cases q : (sgp u v v - sgp u v w) * (sgp u v v - sgp u v w') ≤ 0
      · rcases hv ((sg_on huv z1 z2 (sg_ou u v).2).mpr q) with e | e
        · exact Or.inr (Or.inl (by rw [← e]))
        · exact Or.inr (Or.inr (by rw [← e]))
      · exact Or.inl q
    have u0 := sg_u u v
    have fin : ∀ {A B : Int}, ¬ (A ≤ B) → False ∨ B < A := fun h => Or.inr (by omega)
    rcases ge_btw q1 with ⟨t1, t2⟩ | ⟨t1, t2⟩
    · have g1 : 0 ≤ sgp u v w := by
        rcases k1 with k | k | k
        · apply Classical.byContradiction
          intro h
          exact k (btw_nn (by omega) (by omega))
        · omega
        · omega
      have g2 : sgp u v w' ≤ sgp u v v := by
        rcases k2 with k | k | k
        · apply Classical.byContradiction
          intro h
          exact k (btw_nn (by omega) (by omega))
        · omega
        · omega
      exact ⟨sg_ino huv z1 (by omega) (by omega), sg_ino huv z2 (by omega) (by omega)⟩
    · have g1 : 0 ≤ sgp u v w' := by
        rcases k1 with k | k | k
        · apply Classical.byContradiction
          intro h
          exact k (by rw [Int.mul_comm]; exact btw_nn (by omega) (by omega))
        · omega
        · omega
      have g2 : sgp u v w ≤ sgp u v v := by
        rcases k2 with k | k | k
        · apply Classical.byContradiction
          intro h
          exact k (by rw [Int.mul_comm]; exact btw_nn (by omega) (by omega))
        · omega
        · omega
      exact ⟨sg_ino huv z1 (by omega) (by omega), sg_ino huv z2 (by omega) (by omega)⟩
  · rcases opp pi' pj' a2 with ⟨y1, y2⟩ | y
    · exfalso
      have c1 := sg_col hww y1 y2 (sg_ou w w').1
      rw [c1, Int.zero_mul] at z
      omega
    · exact absurd ⟨z, y⟩ hX
/-- a crossing of a piece is a crossing of the whole -/
theorem sg_xp {u v p q w w' : GPt} (hpq : p ≠ q) (hw : ge_on p q w) (hw' : ge_on p q w') (h : ge_x u v w w') : ge_x u v p q := by
  have hww : w ≠ w' := fun e => by
    have h1 := h.1
    rw [e] at h1
    have := ge_sq (ge_o u v w')
    omega
  have E := sg_E hpq
  have i1 := sg_in hpq hw
  have i2 := sg_in hpq hw'
  -- the values of a side along pq
  have val : ∀ z, ge_o p q z = 0 → sgp p q q * ge_o u v z = (sgp p q q - sgp p q z) * ge_o u v p + sgp p q z * ge_o u v q := fun z hz => by
    have x1 := sg_x hz
    have y1 := sg_y hz
    generalize sgp p q q = e at *
    generalize sgp p q z = s at *
    have r1 : e * z.1 = e * p.1 + s * (q.1 - p.1) := by grind
    have r2 : e * z.2 = e * p.2 + s * (q.2 - p.2) := by grind
    have : e * ge_o u v z = (v.1 - u.1) * (e * z.2 - e * u.2) - (v.2 - u.2) * (e * z.1 - e * u.1) := by unfold ge_o; grind
    rw [this, r1, r2]
    unfold ge_o
    grind
  have v1 := val w hw.1
  have v2 := val w' hw'.1
  have par : ∀ z, ∃ t : Int, t ≠ 0 ∧ sgp p q q * ge_o w w' z = t * ge_o p q z ∨ True := fun z => ⟨1, Or.inr trivial⟩
  have dif : sgp p q w' - sgp p q w ≠ 0 := fun e => hww (sg_inj hpq hw.1 hw'.1 (by omega))
  have oo : ∀ z, sgp p q q * ge_o w w' z = (sgp p q w' - sgp p q w) * ge_o p q z := fun z => by
    have x1 := sg_x hw.1
    have y1 := sg_y hw.1
    have x2 := sg_x hw'.1
    have y2 := sg_y hw'.1
    have o1 := hw.1
    have e0 : sgp p q q = (q.1 - p.1) * (q.1 - p.1) + (q.2 - p.2) * (q.2 - p.2) := rfl
    generalize sgp p q q = e at *
    generalize sgp p q w = s at *
    generalize sgp p q w' = s' at *
    have r1 := sg_lk x1 x2
    have r2 := sg_lk y1 y2
    clear val v1 v2 par
    have : e * ge_o w w' z = (e * (w'.1 - w.1)) * (z.2 - w.2) - (e * (w'.2 - w.2)) * (z.1 - w.1) := by unfold ge_o; grind
    rw [this, r1, r2]
    have o2 : (q.1 - p.1) * (z.2 - w.2) - (q.2 - p.2) * (z.1 - w.1) = ge_o p q z := by
      have : (q.1 - p.1) * (z.2 - w.2) - (q.2 - p.2) * (z.1 - w.1) = ge_o p q z - ge_o p q w := by unfold ge_o; grind
      rw [this, o1, Int.sub_zero]
    rw [← o2, Int.mul_assoc, Int.mul_assoc]
    exact (Int.mul_sub _ _ _).symm
  constructor
  · have h1 := h.1
    have hA : (sgp p q q * ge_o u v w) * (sgp p q q * ge_o u v w') < 0 := by
      have e : (sgp p q q * ge_o u v w) * (sgp p q q * ge_o u v w') = sgp p q q * (sgp p q q * (ge_o u v w * ge_o u v w')) := by grind
      rw [e]
      exact (ge_sg_neg E).mpr ((ge_sg_neg E).mpr h1)
    rw [v1, v2] at hA
    generalize ge_o u v p = A at *
    generalize ge_o u v q = B at *
    apply Classical.byContradiction
    intro hn
    have hnn : 0 ≤ A * B := by omega
    have a1 : 0 ≤ sgp p q q - sgp p q w := by omega
    have a2 : 0 ≤ sgp p q q - sgp p q w' := by omega
    generalize sgp p q q - sgp p q w = i at *
    generalize sgp p q q - sgp p q w' = j at *
    generalize sgp p q w = k at *
    generalize sgp p q w' = m at *
    have e : (i * A + k * B) * (j * A + m * B) = (i * j) * (A * A) + (i * m + k * j) * (A * B) + (k * m) * (B * B) := by grind
    have b1 := Int.mul_nonneg (Int.mul_nonneg a1 a2) (ge_sq A)
    have b2 := Int.mul_nonneg (Int.mul_nonneg i1.1 i2.1) (ge_sq B)
    have b3 := Int.mul_nonneg (Int.add_nonneg (Int.mul_nonneg a1 i2.1) (Int.mul_nonneg i1.1 a2)) hnn
    rw [e] at hA
    omega
  · have h2 := h.2
    have hA : (sgp p q q * ge_o w w' u) * (sgp p q q * ge_o w w' v) < 0 := by
      have e : (sgp p q q * ge_o w w' u) * (sgp p q q * ge_o w w' v) = sgp p q q * (sgp p q q * (ge_o w w' u * ge_o w w' v)) := by grind
      rw [e]
      exact (ge_sg_neg E).mpr ((ge_sg_neg E).mpr h2)
    rw [oo, oo] at hA
    have e : (sgp p q w' - sgp p q w) * ge_o p q u * ((sgp p q w' - sgp p q w) * ge_o p q v) = ((sgp p q w' - sgp p q w) * (sgp p q w' - sgp p q w)) * (ge_o p q u * ge_o p q v) := by grind
    rw [e] at hA
    have pd : 0 < (sgp p q w' - sgp p q w) * (sgp p q w' - sgp p q w) := by
      rcases Int.lt_or_eq_of_le (ge_sq (sgp p q w' - sgp p q w)) with z | z
      · exact z
      · rcases Int.mul_eq_zero.mp z.symm with y | y <;> exact absurd y dif
    exact (ge_sg_neg pd).mp hA
theorem sg_ss {m k : Int} (a : GPt) : ge_s m (ge_s k a) = ge_s (m * k) a := ge_s_s m k a
theorem sg_pp_s (k : Int) (u v z : GPt) : sgp (ge_s k u) (ge_s k v) (ge_s k z) = k * (k * sgp u v z) := by unfold sgp ge_s; grind
theorem sg_ne_s {k : Int} (hk : 0 < k) {u v : GPt} (h : u ≠ v) : ge_s k u ≠ ge_s k v := fun e => h (ge_s_inj hk e)
/-- a piece of a segment that no edge crosses, without a vertex inside, whose middle lies in the polygon, lies in it -/
theorem sg_free {l : List GPt} {p q w w' : GPt} (hpq : p ≠ q) (hww : w ≠ w') (hw : ge_on p q w) (hw' : ge_on p q w') (hne : ∀ u v : GPt, ge_adj l u v → u ≠ v) (hx : ∀ u v : GPt, ge_adj l u v → ¬ ge_x u v p q) (hv : ∀ v ∈ l, ge_on w w' v → v = w ∨ v = w') (hm : ge_cl 2 l (w.1 + w'.1, w.2 + w'.2)) {k : Int} (hk : 0 < k) {r : GPt} (hr : ge_on (ge_s k w) (ge_s k w') r) (r1 : r ≠ ge_s k w) (r2 : r ≠ ge_s k w') : ge_cl k l r := by
  intro ho
  have hK : 0 < 2 * k := by omega
  -- an edge with a place between w and w' holds r
  have key : ∀ u v : GPt, ge_adj l u v → ∀ K : Int, 0 < K → ∀ x : GPt, ge_on (ge_s K u) (ge_s K v) x → ge_on (ge_s K w) (ge_s K w') x → x ≠ ge_s K w → x ≠ ge_s K w' → False := by
    intro u v huv K hK x x1 x2 n1 n2
    have mu := ge_adj_mem huv
    have nn := hne u v huv
    obtain ⟨g1, g2⟩ := sg_1 (sg_ne_s hK hww) (sg_ne_s hK nn) x1 x2 n1 n2 (fun h => by
      rcases hv u mu.1 ((ge_on_s hK _ _ _).mp h) with e | e
      · exact Or.inl (by rw [e])
      · exact Or.inr (by rw [e])) (fun h => by
      rcases hv v mu.2 ((ge_on_s hK _ _ _).mp h) with e | e
      · exact Or.inl (by rw [e])
      · exact Or.inr (by rw [e])) (fun h => hx u v huv (sg_xp hpq hw hw' ((ge_x_s hK _ _ _ _).mp h)))
    have g1 := (ge_on_s hK _ _ _).mp g1
    have g2 := (ge_on_s hK _ _ _).mp g2
    exact ge_off_iff.mp ho u v huv (sg_tr (sg_ne_s hk nn) ((ge_on_s hk _ _ _).mpr g1) ((ge_on_s hk _ _ _).mpr g2) hr)
  -- positions along w w'
  have E := sg_E hww
  have sr := sg_in (sg_ne_s hk hww) hr
  have sr1 : sgp (ge_s k w) (ge_s k w') r ≠ 0 := fun e => r1 (sg_inj (sg_ne_s hk hww) hr.1 (sg_ou _ _).1 (by rw [e, sg_u]))
  have sr2 : sgp (ge_s k w) (ge_s k w') r ≠ sgp (ge_s k w) (ge_s k w') (ge_s k w') := fun e => r2 (sg_inj (sg_ne_s hk hww) hr.1 (sg_ou _ _).2 e)
  have M : ∀ u v : GPt, ge_adj l u v → ¬ ge_meet (ge_s (2 * k) u) (ge_s (2 * k) v) (ge_s k (w.1 + w'.1, w.2 + w'.2)) (ge_s 2 r) := by
    intro u v huv hmt
    obtain ⟨m, x, hm0, x1, x2⟩ := ge_meet_pt hmt
    rw [ge_s_s, ge_s_s] at x1 x2
    have hK : 0 < m * (2 * k) := Int.mul_pos hm0 hK
    have hm2 : 0 < m * 2 := by omega
    have nW := sg_ne_s hK hww
    -- the middle and r, at this scale
    have em : ∀ z : GPt, ge_s (m * 2) (ge_s k z) = ge_s (m * (2 * k)) z := fun z => by rw [ge_s_s]; congr 1; grind
    have o2 : ge_o (ge_s (m * (2 * k)) w) (ge_s (m * (2 * k)) w') (ge_s (m * 2) r) = 0 := by rw [← em w, ← em w', ge_o_s, hr.1, Int.mul_zero]
    have p2 : sgp (ge_s (m * (2 * k)) w) (ge_s (m * (2 * k)) w') (ge_s (m * 2) r) = (m * 2) * ((m * 2) * sgp (ge_s k w) (ge_s k w') r) := by rw [← em w, ← em w', sg_pp_s]
    have pE : sgp (ge_s (m * (2 * k)) w) (ge_s (m * (2 * k)) w') (ge_s (m * (2 * k)) w') = (m * 2) * ((m * 2) * sgp (ge_s k w) (ge_s k w') (ge_s k w')) := by rw [← em w, ← em w', sg_pp_s]
    have o1 : ge_o (ge_s (m * (2 * k)) w) (ge_s (m * (2 * k)) w') (ge_s (m * k) (w.1 + w'.1, w.2 + w'.2)) = 0 := by unfold ge_o ge_s; grind
    have p1 : 2 * sgp (ge_s (m * (2 * k)) w) (ge_s (m * (2 * k)) w') (ge_s (m * k) (w.1 + w'.1, w.2 + w'.2)) = sgp (ge_s (m * (2 * k)) w) (ge_s (m * (2 * k)) w') (ge_s (m * (2 * k)) w') := by unfold sgp ge_s; grind
    have EE := sg_E nW
    have ox := sg_oz o1 o2 x2
    have qx := (sg_on nW o1 o2 ox).mp x2
    have b1 : 0 < (m * 2) * ((m * 2) * sgp (ge_s k w) (ge_s k w') r) := Int.mul_pos hm2 (Int.mul_pos hm2 (by omega))
    have b2 : (m * 2) * ((m * 2) * sgp (ge_s k w) (ge_s k w') r) < (m * 2) * ((m * 2) * sgp (ge_s k w) (ge_s k w') (ge_s k w')) := (ge_sg_lt hm2).mpr ((ge_sg_lt hm2).mpr (by omega))
    rw [p2] at qx
    rw [← pE] at b2
    have bx : 0 < sgp (ge_s (m * (2 * k)) w) (ge_s (m * (2 * k)) w') x ∧ sgp (ge_s (m * (2 * k)) w) (ge_s (m * (2 * k)) w') x < sgp (ge_s (m * (2 * k)) w) (ge_s (m * (2 * k)) w') (ge_s (m * (2 * k)) w') := by
      rcases ge_btw qx with z | z <;> omega
    refine key u v huv (m * (2 * k)) hK x x1 (sg_ino nW ox (by omega) (by omega)) (fun e => ?_) (fun e => ?_)
    · rw [e, sg_u] at bx; omega
    · rw [e] at bx; omega
  have par : ge_par (ge_S (2 * k) l) (ge_s k (w.1 + w'.1, w.2 + w'.2)) = ge_par (ge_S (2 * k) l) (ge_s 2 r) := by
    refine ge_par_mv (fun e he => ?_)
    rw [ge_E_S] at he
    obtain ⟨f, hf, rfl⟩ := List.mem_map.mp he
    exact M f.1 f.2 (Or.inl hf)
  have off2 : ge_off (ge_S 2 l) (w.1 + w'.1, w.2 + w'.2) := ge_off_iff.mpr (fun u v huv h => M u v huv (by
    have h' := (ge_on_s hk _ _ _).mpr h
    rw [ge_s_s, ge_s_s, Int.mul_comm k 2] at h'
    exact Or.inl h'))
  have pm := hm off2
  have e1 : ge_par (ge_S (2 * k) l) (ge_s k (w.1 + w'.1, w.2 + w'.2)) = true := by
    rw [show (2 : Int) * k = k * 2 from Int.mul_comm _ _, ← ge_S_S, ge_par_s hk]; exact pm
  rw [par, ← ge_S_S, ge_par_s (by decide)] at e1
  exact e1
