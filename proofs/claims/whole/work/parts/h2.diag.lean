/-! the lowest corner's triangle holds vertices: the one farthest from the far side is joined to the corner; that diagonal meets no edge -/
/-- the triangle above the height h of z -/
def ge_up (h G : Int) (b a : GPt) : GPt := (h * b.1 + G * a.1, h * b.2 + G * a.2)
theorem ge_up1 (h G : Int) (a b p : GPt) : ge_o (ge_up h G b a) (ge_s (h + G) b) (ge_s (h + G) p) = G * (h + G) * ge_o a b p := by unfold ge_up ge_s ge_o; grind
theorem ge_up2 (h G : Int) (b c p : GPt) : ge_o (ge_s (h + G) b) (ge_up h G b c) (ge_s (h + G) p) = G * (h + G) * ge_o b c p := by unfold ge_up ge_s ge_o; grind
theorem ge_up3 (h G : Int) (a b c p : GPt) : ge_o (ge_up h G b c) (ge_up h G b a) (ge_s (h + G) p) = G * ((h + G) * ge_o c a p - h * ge_o c a b) := by unfold ge_up ge_s ge_o; grind
theorem ge_up_o (h G : Int) (b a x y : GPt) : ge_o (ge_s (h + G) x) (ge_s (h + G) y) (ge_up h G b a) = (h + G) * (h * ge_o x y b + G * ge_o x y a) := by unfold ge_up ge_s ge_o; grind
theorem ge_up_s (m h G : Int) (b a : GPt) : ge_s m (ge_up h G b a) = ge_up h G (ge_s m b) (ge_s m a) := by unfold ge_up ge_s; simp; constructor <;> grind
theorem ge_opp {p q : Int} (h : p * q < 0) : (p < 0 ∧ 0 < q) ∨ (0 < p ∧ q < 0) := by
  rcases Int.lt_trichotomy p 0 with z | z | z
  · exact Or.inl ⟨z, ge_ngt_of z h⟩
  · rw [z, Int.zero_mul] at h; omega
  · exact Or.inr ⟨z, ge_lt_of z h⟩
theorem ge_opp_mk1 {p q : Int} (h1 : p < 0) (h2 : 0 < q) : p * q < 0 := by
  have := Int.mul_pos (show 0 < -p by omega) h2
  rw [Int.neg_mul] at this
  omega
theorem ge_opp_mk2 {p q : Int} (h1 : 0 < p) (h2 : q < 0) : p * q < 0 := by rw [Int.mul_comm]; exact ge_opp_mk1 h2 h1
/-- if the line through x, y parts b from a point between a and b, it parts b from a -/
theorem ge_part_up {h G ob oa : Int} (hh : 0 ≤ h) (hG : 0 < G) (H : (h * ob + G * oa) * ob < 0) : oa * ob < 0 := by
  rcases ge_opp H with ⟨q1, q2⟩ | ⟨q1, q2⟩
  · have k := Int.mul_nonneg hh (Int.le_of_lt q2)
    have : 0 < -oa := ge_pos hG (by rw [Int.mul_neg]; omega)
    exact ge_opp_mk1 (by omega) q2
  · have k := Int.mul_nonneg hh (show 0 ≤ -ob by omega)
    rw [Int.mul_neg] at k
    have : 0 < oa := ge_pos hG (by omega)
    exact ge_opp_mk2 this q2
section Diag
variable {a b c x y : GPt} {h G : Int}
/-- beside the upper triangle an edge keeps what it keeps beside the whole, where its ends aren't higher than h -/
theorem ge_side_up (hh : 0 ≤ h) (hG : 0 < G) (hF : ge_o c a b = h + G) (hxy : x ≠ y) (hx : ge_in a b c x → ge_o c a x ≤ h) (hy : ge_in a b c y → ge_o c a y ≤ h) (c1 : ¬ ge_x x y a b) (c2 : ¬ ge_x x y b c)
    (na : ge_on x y a → a = x ∨ a = y) (nb : ¬ ge_on x y b) (nc : ge_on x y c → c = x ∨ c = y) : ge_side (ge_up h G b a) (ge_s (h + G) b) (ge_up h G b c) (ge_s (h + G) x) (ge_s (h + G) y) := by
  have hFp : 0 < h + G := by omega
  have hGF : 0 < G * (h + G) := Int.mul_pos hG hFp
  have low : ∀ w : GPt, (ge_in a b c w → ge_o c a w ≤ h) → ¬ (ge_in (ge_up h G b a) (ge_s (h + G) b) (ge_up h G b c) (ge_s (h + G) w) ∧ 0 < ge_o (ge_up h G b c) (ge_up h G b a) (ge_s (h + G) w)) := fun w hw z => by
    obtain ⟨⟨z1, z2, -⟩, z3⟩ := z
    rw [ge_up1] at z1
    rw [ge_up2] at z2
    rw [ge_up3, hF] at z3
    have q1 := ge_nn hGF z1
    have q2 := ge_nn hGF z2
    have e : (h + G) * ge_o c a w - h * (h + G) = (h + G) * (ge_o c a w - h) := by grind
    rw [e] at z3
    have q3 : 0 < ge_o c a w - h := ge_pos hFp (ge_pos hG z3)
    have := hw ⟨q1, q2, by omega⟩
    omega
  have sg : ∀ p q : Int, G * (h + G) * p * (G * (h + G) * q) < 0 → p * q < 0 := fun p q z => by
    have e : G * (h + G) * p * (G * (h + G) * q) = (G * (h + G)) * (G * (h + G)) * (p * q) := by grind
    rw [e] at z
    exact ge_lt_of (Int.mul_pos hGF hGF) z
  have sb : ∀ w : GPt, ge_o (ge_s (h + G) x) (ge_s (h + G) y) (ge_s (h + G) w) = (h + G) * (h + G) * ge_o x y w := fun w => ge_o_s _ _ _ _
  have FF : 0 < (h + G) * ((h + G) * (h + G)) := Int.mul_pos hFp (ge_mm hFp)
  -- a corner of the upper triangle on the edge
  have corner : ∀ w : GPt, (ge_on x y w → w = x ∨ w = y) → ge_o x y b ≠ 0 ∨ True → (ge_o x y w * ge_o x y b < 0 → False) → ge_on (ge_s (h + G) x) (ge_s (h + G) y) (ge_up h G b w) → ge_o w b x * ge_o w b y < 0 → False := fun w hw _ hc z q => by
    have e := z.1
    rw [ge_up_o] at e
    have e' : h * ge_o x y b + G * ge_o x y w = 0 := ge_zero hFp e
    by_cases hb0 : ge_o x y b = 0
    · rw [hb0, Int.mul_zero] at e'
      have hw0 : ge_o x y w = 0 := ge_zero hG (by omega)
      rcases ge_opp q with ⟨q1, q2⟩ | ⟨q1, q2⟩
      · have := ge_at (a := w) (b := b) (x := y) (y := x) (by rw [ge_o_swap, hw0]; rfl) q2 q1
        exact ge_end1 (hw (ge_on_symm this)) q
      · exact ge_end1 (hw (ge_at hw0 q1 q2)) q
    · by_cases hw0 : ge_o x y w = 0
      · rcases ge_opp q with ⟨q1, q2⟩ | ⟨q1, q2⟩
        · have := ge_at (a := w) (b := b) (x := y) (y := x) (by rw [ge_o_swap, hw0]; rfl) q2 q1
          exact ge_end1 (hw (ge_on_symm this)) q
        · exact ge_end1 (hw (ge_at hw0 q1 q2)) q
      · rcases Int.lt_or_lt_of_ne hb0 with r | r
        · have k := Int.mul_nonneg hh (show 0 ≤ -ge_o x y b by omega)
          rw [Int.mul_neg] at k
          have : 0 ≤ ge_o x y w := ge_nn hG (by omega)
          exact hc (ge_opp_mk2 (by omega) r)
        · have k := Int.mul_nonneg hh (Int.le_of_lt r)
          have : 0 ≤ -ge_o x y w := ge_nn hG (by rw [Int.mul_neg]; omega)
          exact hc (ge_opp_mk1 (by omega) r)
  have crossA : ge_o a b x * ge_o a b y < 0 → ge_o x y a * ge_o x y b < 0 → False := fun q r => c1 ⟨r, q⟩
  have crossC : ge_o b c x * ge_o b c y < 0 → ge_o x y c * ge_o x y b < 0 → False := fun q r => c2 ⟨by rw [Int.mul_comm]; exact r, q⟩
  have flip : ge_o c b x * ge_o c b y = ge_o b c x * ge_o b c y := by rw [ge_o_swap b c x, ge_o_swap b c y, Int.neg_mul_neg]
  refine ⟨fun z => hxy (ge_s_inj hFp z), low x hx, low y hy, fun z => ?_, fun z => ?_, fun z q => ?_, ?_, fun z q => ?_⟩
  · obtain ⟨z1, z2⟩ := z
    rw [ge_up1, ge_up1] at z2
    rw [ge_up_o, sb] at z1
    have e : (h + G) * (h * ge_o x y b + G * ge_o x y a) * ((h + G) * (h + G) * ge_o x y b) = (h + G) * ((h + G) * (h + G)) * ((h * ge_o x y b + G * ge_o x y a) * ge_o x y b) := by grind
    rw [e] at z1
    exact crossA (sg _ _ z2) (ge_part_up hh hG (ge_lt_of FF z1))
  · obtain ⟨z1, z2⟩ := z
    rw [ge_up2, ge_up2] at z2
    rw [ge_up_o, sb] at z1
    have e : (h + G) * (h + G) * ge_o x y b * ((h + G) * (h * ge_o x y b + G * ge_o x y c)) = (h + G) * ((h + G) * (h + G)) * ((h * ge_o x y b + G * ge_o x y c) * ge_o x y b) := by grind
    rw [e] at z1
    exact crossC (sg _ _ z2) (ge_part_up hh hG (ge_lt_of FF z1))
  · rw [ge_up1, ge_up1] at q
    have q' := sg _ _ q
    exact corner a na (Or.inr trivial) (crossA q') z q'
  · rw [ge_on_s hFp]; exact nb
  · rw [ge_up2, ge_up2] at q
    have q' := sg _ _ q
    exact corner c nc (Or.inr trivial) (crossC q') z (by rw [flip]; exact q')
/-- so it has no point higher than h in the triangle -/
theorem ge_U (hh : 0 ≤ h) (hG : 0 < G) (hF : ge_o c a b = h + G) (sd : ge_side (ge_up h G b a) (ge_s (h + G) b) (ge_up h G b c) (ge_s (h + G) x) (ge_s (h + G) y)) {m : Int} (hm : 0 < m) {r : GPt} (hr : ge_on (ge_s m x) (ge_s m y) r) (rT : ge_in (ge_s m a) (ge_s m b) (ge_s m c) r) : ge_o (ge_s m c) (ge_s m a) r ≤ m * m * h := by
  rcases Int.lt_or_le (m * m * h) (ge_o (ge_s m c) (ge_s m a) r) with z | z
  · exfalso
    have hFp : 0 < h + G := by omega
    have hGF : 0 < G * (h + G) := Int.mul_pos hG hFp
    have sd' := ge_side_s hm sd
    rw [ge_up_s, ge_up_s] at sd'
    have comm : ∀ w : GPt, ge_s m (ge_s (h + G) w) = ge_s (h + G) (ge_s m w) := fun w => by rw [ge_s_s, ge_s_s, Int.mul_comm]
    rw [comm, comm, comm] at sd'
    have e3 : ge_o (ge_s m c) (ge_s m a) (ge_s m b) = m * m * (h + G) := by rw [ge_o_s, hF]
    refine ge_side_K (r := ge_s (h + G) r) sd' ((ge_on_s hFp _ _ _).mpr hr) ⟨?_, ?_, ?_⟩ ?_
    · rw [ge_up1]; exact Int.mul_nonneg (Int.le_of_lt hGF) rT.1
    · rw [ge_up2]; exact Int.mul_nonneg (Int.le_of_lt hGF) rT.2.1
    · rw [ge_up3, e3]
      have e : (h + G) * ge_o (ge_s m c) (ge_s m a) r - h * (m * m * (h + G)) = (h + G) * (ge_o (ge_s m c) (ge_s m a) r - m * m * h) := by grind
      rw [e]
      exact Int.mul_nonneg (Int.le_of_lt hG) (Int.mul_nonneg (Int.le_of_lt hFp) (by omega))
    · rw [ge_up3, e3]
      have e : (h + G) * ge_o (ge_s m c) (ge_s m a) r - h * (m * m * (h + G)) = (h + G) * (ge_o (ge_s m c) (ge_s m a) r - m * m * h) := by grind
      rw [e]
      exact Int.mul_pos hG (Int.mul_pos hFp (by omega))
  · exact z
end Diag
