/-! scaling, and the common point of two segments that meet -/
def ge_s (m : Int) (v : GPt) : GPt := (m * v.1, m * v.2)
theorem ge_o_s (m : Int) (a b c : GPt) : ge_o (ge_s m a) (ge_s m b) (ge_s m c) = m * m * ge_o a b c := by unfold ge_o ge_s; grind
theorem ge_s_s (m k : Int) (a : GPt) : ge_s m (ge_s k a) = ge_s (m * k) a := by unfold ge_s; simp [Int.mul_assoc]
theorem ge_s_1 (a : GPt) : ge_s 1 a = a := by unfold ge_s; simp
theorem ge_s_inj {m : Int} (hm : 0 < m) {a b : GPt} (h : ge_s m a = ge_s m b) : a = b := by
  have h1 : m * a.1 = m * b.1 := congrArg Prod.fst h
  have h2 : m * a.2 = m * b.2 := congrArg Prod.snd h
  exact Prod.ext (Int.eq_of_mul_eq_mul_left (by omega) h1) (Int.eq_of_mul_eq_mul_left (by omega) h2)
theorem ge_mm {m : Int} (hm : 0 < m) : 0 < m * m := Int.mul_pos hm hm
theorem ge_sg_pos {k t : Int} (hk : 0 < k) : 0 < k * t ↔ 0 < t := ⟨ge_pos hk, Int.mul_pos hk⟩
theorem ge_sg_nn {k t : Int} (hk : 0 < k) : 0 ≤ k * t ↔ 0 ≤ t := ⟨ge_nn hk, Int.mul_nonneg (Int.le_of_lt hk)⟩
theorem ge_sg_neg {k t : Int} (hk : 0 < k) : k * t < 0 ↔ t < 0 := by
  constructor
  · exact ge_lt_of hk
  · intro h
    have := Int.mul_pos hk (show 0 < -t by omega)
    rw [Int.mul_neg] at this
    omega
theorem ge_sg_np {k t : Int} (hk : 0 < k) : k * t ≤ 0 ↔ t ≤ 0 := by
  have := ge_sg_pos (t := t) hk
  constructor
  · intro h
    rcases Int.lt_or_le 0 t with z | z
    · have := this.mpr z; omega
    · exact z
  · intro h
    rcases Int.lt_or_le 0 (k * t) with z | z
    · have := this.mp z; omega
    · exact z
theorem ge_sg_0 {k t : Int} (hk : 0 < k) : k * t = 0 ↔ t = 0 := ⟨ge_zero hk, fun h => by rw [h, Int.mul_zero]⟩
theorem ge_on_s {m : Int} (hm : 0 < m) (a b p : GPt) : ge_on (ge_s m a) (ge_s m b) (ge_s m p) ↔ ge_on a b p := by
  unfold ge_on
  rw [ge_o_s, ge_sg_0 (ge_mm hm)]
  have e1 : ((ge_s m p).1 - (ge_s m a).1) * ((ge_s m p).1 - (ge_s m b).1) = m * m * ((p.1 - a.1) * (p.1 - b.1)) := by unfold ge_s; grind
  have e2 : ((ge_s m p).2 - (ge_s m a).2) * ((ge_s m p).2 - (ge_s m b).2) = m * m * ((p.2 - a.2) * (p.2 - b.2)) := by unfold ge_s; grind
  rw [e1, e2, ge_sg_np (ge_mm hm), ge_sg_np (ge_mm hm)]
theorem ge_x_s {m : Int} (hm : 0 < m) (a b p q : GPt) : ge_x (ge_s m a) (ge_s m b) (ge_s m p) (ge_s m q) ↔ ge_x a b p q := by
  unfold ge_x
  rw [ge_o_s, ge_o_s, ge_o_s, ge_o_s]
  have e1 : m * m * ge_o a b p * (m * m * ge_o a b q) = (m * m) * (m * m) * (ge_o a b p * ge_o a b q) := by grind
  have e2 : m * m * ge_o p q a * (m * m * ge_o p q b) = (m * m) * (m * m) * (ge_o p q a * ge_o p q b) := by grind
  rw [e1, e2, ge_sg_neg (Int.mul_pos (ge_mm hm) (ge_mm hm)), ge_sg_neg (Int.mul_pos (ge_mm hm) (ge_mm hm))]
theorem ge_in_s {m : Int} (hm : 0 < m) (a b c p : GPt) : ge_in (ge_s m a) (ge_s m b) (ge_s m c) (ge_s m p) ↔ ge_in a b c p := by
  unfold ge_in
  rw [ge_o_s, ge_o_s, ge_o_s, ge_sg_nn (ge_mm hm), ge_sg_nn (ge_mm hm), ge_sg_nn (ge_mm hm)]
theorem ge_int_s {m : Int} (hm : 0 < m) (a b c p : GPt) : ge_int (ge_s m a) (ge_s m b) (ge_s m c) (ge_s m p) ↔ ge_int a b c p := by
  unfold ge_int
  rw [ge_o_s, ge_o_s, ge_o_s, ge_sg_pos (ge_mm hm), ge_sg_pos (ge_mm hm), ge_sg_pos (ge_mm hm)]
theorem ge_sg_lt {m a b : Int} (hm : 0 < m) : m * a < m * b ↔ a < b := by
  have := ge_sg_pos (t := b - a) hm
  rw [Int.mul_sub] at this
  omega
theorem ge_sg_le {m a b : Int} (hm : 0 < m) : m * a ≤ m * b ↔ a ≤ b := by
  have := ge_sg_nn (t := b - a) hm
  rw [Int.mul_sub] at this
  omega
theorem ge_cr_s {m : Int} (hm : 0 < m) (u v p : GPt) : ge_cr (ge_s m u) (ge_s m v) (ge_s m p) = ge_cr u v p := by
  unfold ge_cr
  have h1 : ((ge_s m p).2 < (ge_s m u).2) ↔ p.2 < u.2 := ge_sg_lt hm
  have h2 : ((ge_s m p).2 < (ge_s m v).2) ↔ p.2 < v.2 := ge_sg_lt hm
  have h3 : ((ge_s m u).2 < (ge_s m v).2) ↔ u.2 < v.2 := ge_sg_lt hm
  have h4 : (0 < ge_o (ge_s m u) (ge_s m v) (ge_s m p)) ↔ 0 < ge_o u v p := by rw [ge_o_s, ge_sg_pos (ge_mm hm)]
  simp only [h1, h2, h3, h4]
theorem ge_cs_s {m : Int} (hm : 0 < m) (u v p : GPt) : ge_cs (ge_s m u) (ge_s m v) (ge_s m p) = ge_cs u v p := by
  unfold ge_cs
  have h3 : ((ge_s m u).2 ≤ (ge_s m v).2) ↔ u.2 ≤ v.2 := ge_sg_le hm
  simp only [h3, ge_cr_s hm]
def ge_S (m : Int) (l : List GPt) : List GPt := l.map (ge_s m)
theorem ge_pp_s {m : Int} (hm : 0 < m) (l : List GPt) (p : GPt) : ge_pp (ge_S m l) (ge_s m p) = ge_pp l p := by
  induction l with
  | nil => rfl
  | cons a r ih =>
    cases r with
    | nil => rfl
    | cons b r =>
      show (ge_cs (ge_s m a) (ge_s m b) (ge_s m p) != ge_pp (ge_S m (b :: r)) (ge_s m p)) = (ge_cs a b p != ge_pp (b :: r) p)
      rw [ih, ge_cs_s hm]
theorem ge_cy_S (m : Int) (l : List GPt) : ge_cy (ge_S m l) = ge_S m (ge_cy l) := by
  cases l with
  | nil => rfl
  | cons a r => simp [ge_cy, ge_S]
theorem ge_par_s {m : Int} (hm : 0 < m) (l : List GPt) (p : GPt) : ge_par (ge_S m l) (ge_s m p) = ge_par l p := by
  unfold ge_par
  rw [ge_cy_S, ge_pp_s hm]
theorem ge_S_S (m k : Int) (l : List GPt) : ge_S m (ge_S k l) = ge_S (m * k) l := by
  unfold ge_S
  rw [List.map_map]
  congr 1
  funext v
  exact ge_s_s m k v
theorem ge_S_1 (l : List GPt) : ge_S 1 l = l := by
  unfold ge_S
  rw [show ge_s 1 = id from funext ge_s_1, List.map_id]
theorem ge_ed_S (m : Int) (l : List GPt) : ge_ed (ge_S m l) = (ge_ed l).map (fun e => (ge_s m e.1, ge_s m e.2)) := by
  induction l with
  | nil => rfl
  | cons a r ih =>
    cases r with
    | nil => rfl
    | cons b r =>
      show (ge_s m a, ge_s m b) :: ge_ed (ge_S m (b :: r)) = _
      rw [ih]
      rfl
theorem ge_E_S (m : Int) (l : List GPt) : ge_E (ge_S m l) = (ge_E l).map (fun e => (ge_s m e.1, ge_s m e.2)) := by
  unfold ge_E
  rw [ge_cy_S, ge_ed_S]
/-- where two segments cross -/
theorem ge_x_pt {x y p q : GPt} (h : ge_x x y p q) : ∃ (m : Int) (r : GPt) (i j i' j' : Int), 0 < m ∧ ge_wt (ge_s m p) (ge_s m q) r i j ∧ ge_wt (ge_s m x) (ge_s m y) r i' j' ∧ 0 < i ∧ 0 < j ∧ 0 < i' ∧ 0 < j' := by
  obtain ⟨h1, h2⟩ := h
  have hs := ge_o_sub x y p q
  rcases Int.lt_trichotomy (ge_o x y p) 0 with hp | hp | hp
  · have hq : 0 < ge_o x y q := ge_ngt_of hp h1
    have hy : ge_o p q y < 0 := by
      rcases Int.lt_or_le (ge_o p q y) 0 with z | z
      · exact z
      · have : 0 < ge_o p q x := by omega
        have := Int.mul_nonneg (show 0 ≤ ge_o p q x by omega) z
        omega
    have hx : 0 < ge_o p q x := by
      have := ge_ngt_of hy (by rw [Int.mul_comm]; exact h2)
      exact this
    refine ⟨ge_o x y q - ge_o x y p, (ge_o x y q * p.1 - ge_o x y p * q.1, ge_o x y q * p.2 - ge_o x y p * q.2), ge_o x y q, -ge_o x y p, -ge_o p q y, ge_o p q x, by omega, ⟨by omega, by omega, by omega, ?_, ?_⟩, ⟨by omega, by omega, by omega, ?_, ?_⟩, by omega, by omega, by omega, by omega⟩
    · unfold ge_s; grind
    · unfold ge_s; grind
    · have : -ge_o p q y + ge_o p q x = ge_o x y q - ge_o x y p := by omega
      rw [this]
      unfold ge_s ge_o; grind
    · have : -ge_o p q y + ge_o p q x = ge_o x y q - ge_o x y p := by omega
      rw [this]
      unfold ge_s ge_o; grind
  · rw [hp, Int.zero_mul] at h1; omega
  · have hq : ge_o x y q < 0 := ge_lt_of hp h1
    have hy : 0 < ge_o p q y := by
      rcases Int.lt_or_le 0 (ge_o p q y) with z | z
      · exact z
      · have : ge_o p q x < 0 := by omega
        have := Int.mul_nonneg (show 0 ≤ -ge_o p q x by omega) (show 0 ≤ -ge_o p q y by omega)
        rw [Int.neg_mul_neg] at this
        omega
    have hx : ge_o p q x < 0 := ge_lt_of hy (by rw [Int.mul_comm]; exact h2)
    refine ⟨ge_o x y p - ge_o x y q, (-ge_o x y q * p.1 + ge_o x y p * q.1, -ge_o x y q * p.2 + ge_o x y p * q.2), -ge_o x y q, ge_o x y p, ge_o p q y, -ge_o p q x, by omega, ⟨by omega, by omega, by omega, ?_, ?_⟩, ⟨by omega, by omega, by omega, ?_, ?_⟩, by omega, by omega, by omega, by omega⟩
    · unfold ge_s; grind
    · unfold ge_s; grind
    · have : ge_o p q y + -ge_o p q x = ge_o x y p - ge_o x y q := by omega
      rw [this]
      unfold ge_s ge_o; grind
    · have : ge_o p q y + -ge_o p q x = ge_o x y p - ge_o x y q := by omega
      rw [this]
      unfold ge_s ge_o; grind
