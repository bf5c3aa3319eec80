/-! what the reference's geometry means: the words of g1 to j1 -/
def bd (B : Int) (x : Int64) : Prop := -B ≤ x.toInt ∧ x.toInt ≤ B
def lP (x y : Int64) : GPt := (x.toInt, y.toInt)
theorem cross_t {v0 v2 v4 v6 v8 v10 : Int64} (h0 : bd 1000000 v0) (h2 : bd 1000000 v2) (h4 : bd 1000000 v4) (h6 : bd 1000000 v6) (h8 : bd 1000000 v8) (h10 : bd 1000000 v10) : (f_202 v0 v2 v4 v6 v8 v10).toInt = ge_o (lP v0 v2) (lP v4 v6) (lP v8 v10) := by
  unfold bd at *
  have d1 : (v4 - v0).toInt = v4.toInt - v0.toInt := lsub_t (by omega) (by omega)
  have d2 : (v10 - v2).toInt = v10.toInt - v2.toInt := lsub_t (by omega) (by omega)
  have d3 : (v6 - v2).toInt = v6.toInt - v2.toInt := lsub_t (by omega) (by omega)
  have d4 : (v8 - v0).toInt = v8.toInt - v0.toInt := lsub_t (by omega) (by omega)
  have m1 := mul_bd (a := (v4 - v0).toInt) (b := (v10 - v2).toInt) (A := 2000000) (B := 2000000) (by omega) (by omega) (by omega) (by omega)
  have m2 := mul_bd (a := (v6 - v2).toInt) (b := (v8 - v0).toInt) (A := 2000000) (B := 2000000) (by omega) (by omega) (by omega) (by omega)
  have e1 : ((v4 - v0) * (v10 - v2)).toInt = (v4 - v0).toInt * (v10 - v2).toInt := lmul_t (by omega) (by omega)
  have e2 : ((v6 - v2) * (v8 - v0)).toInt = (v6 - v2).toInt * (v8 - v0).toInt := lmul_t (by omega) (by omega)
  unfold f_202 ge_o lP
  rw [lsub_t (by omega) (by omega), e1, e2, d1, d2, d3, d4]
theorem i64_0 (x : Int64) : x = 0 ↔ x.toInt = 0 := ⟨fun h => by rw [h]; rfl, fun h => Int64.toInt_inj.mp h⟩
theorem i64_p (x : Int64) : (0 : Int64) < x ↔ 0 < x.toInt := Int64.lt_iff_toInt_lt
theorem i64_n (x : Int64) : x < 0 ↔ x.toInt < 0 := Int64.lt_iff_toInt_lt
theorem isOn_t {v0 v2 v4 v6 v8 v10 : Int64} (h0 : bd 1000000 v0) (h2 : bd 1000000 v2) (h4 : bd 1000000 v4) (h6 : bd 1000000 v6) (h8 : bd 1000000 v8) (h10 : bd 1000000 v10) : f_205 v0 v2 v4 v6 v8 v10 = true ↔ ge_on (lP v0 v2) (lP v4 v6) (lP v8 v10) := by
  have hc := cross_t h0 h2 h4 h6 h8 h10
  unfold bd at *
  have d1 : (v8 - v0).toInt = v8.toInt - v0.toInt := lsub_t (by omega) (by omega)
  have d2 : (v8 - v4).toInt = v8.toInt - v4.toInt := lsub_t (by omega) (by omega)
  have d3 : (v10 - v2).toInt = v10.toInt - v2.toInt := lsub_t (by omega) (by omega)
  have d4 : (v10 - v6).toInt = v10.toInt - v6.toInt := lsub_t (by omega) (by omega)
  have m1 := mul_bd (a := (v8 - v0).toInt) (b := (v8 - v4).toInt) (A := 2000000) (B := 2000000) (by omega) (by omega) (by omega) (by omega)
  have m2 := mul_bd (a := (v10 - v2).toInt) (b := (v10 - v6).toInt) (A := 2000000) (B := 2000000) (by omega) (by omega) (by omega) (by omega)
  have e1 : ((v8 - v0) * (v8 - v4)).toInt = (v8.toInt - v0.toInt) * (v8.toInt - v4.toInt) := by rw [lmul_t (by omega) (by omega), d1, d2]
  have e2 : ((v10 - v2) * (v10 - v6)).toInt = (v10.toInt - v2.toInt) * (v10.toInt - v6.toInt) := by rw [lmul_t (by omega) (by omega), d3, d4]
  unfold f_205 ge_on
  simp only [Bool.and_eq_true, Bool.not_eq_true', decide_eq_true_eq, decide_eq_false_iff_not, i64_0, i64_p, hc, e1, e2]
  show (¬ 0 < (v8.toInt - v0.toInt) * (v8.toInt - v4.toInt) ∧ ¬ 0 < (v10.toInt - v2.toInt) * (v10.toInt - v6.toInt)) ∧ ge_o (lP v0 v2) (lP v4 v6) (lP v8 v10) = 0 ↔ ge_o (lP v0 v2) (lP v4 v6) (lP v8 v10) = 0 ∧ (v8.toInt - v0.toInt) * (v8.toInt - v4.toInt) ≤ 0 ∧ (v10.toInt - v2.toInt) * (v10.toInt - v6.toInt) ≤ 0
  constructor
  · rintro ⟨⟨a, b⟩, c⟩; exact ⟨c, by omega, by omega⟩
  · rintro ⟨c, a, b⟩; exact ⟨⟨by omega, by omega⟩, c⟩
theorem f203_3 (x : Int64) : (0 < x.toInt ∧ f_203 x = 1) ∨ (x.toInt < 0 ∧ f_203 x = -1) ∨ (x.toInt = 0 ∧ f_203 x = 0) := by
  unfold f_203
  by_cases h1 : (0 : Int64) < x
  · rw [if_pos h1]; exact Or.inl ⟨(i64_p x).mp h1, rfl⟩
  · rw [if_neg h1]
    have g1 : ¬ 0 < x.toInt := fun q => h1 ((i64_p x).mpr q)
    by_cases h2 : x < 0
    · rw [if_pos h2]; exact Or.inr (Or.inl ⟨(i64_n x).mp h2, rfl⟩)
    · rw [if_neg h2]
      have g2 : ¬ x.toInt < 0 := fun q => h2 ((i64_n x).mpr q)
      exact Or.inr (Or.inr ⟨by omega, rfl⟩)
theorem sg_mul (a b : Int64) : f_203 a * f_203 b < 0 ↔ a.toInt * b.toInt < 0 := by
  rcases f203_3 a with ⟨ha, ea⟩ | ⟨ha, ea⟩ | ⟨ha, ea⟩ <;> rcases f203_3 b with ⟨hb, eb⟩ | ⟨hb, eb⟩ | ⟨hb, eb⟩ <;> rw [ea, eb]
  · have := Int.mul_pos ha hb
    exact ⟨fun q => absurd q (by decide), fun q => by omega⟩
  · have := Int.mul_neg_of_pos_of_neg ha hb
    exact ⟨fun _ => this, fun _ => by decide⟩
  · rw [hb, Int.mul_zero]
    exact ⟨fun q => absurd q (by decide), fun q => by omega⟩
  · have := Int.mul_neg_of_neg_of_pos ha hb
    exact ⟨fun _ => this, fun _ => by decide⟩
  · have := Int.mul_pos_of_neg_of_neg ha hb
    exact ⟨fun q => absurd q (by decide), fun q => by omega⟩
  · rw [hb, Int.mul_zero]
    exact ⟨fun q => absurd q (by decide), fun q => by omega⟩
  · rw [ha, Int.zero_mul]
    exact ⟨fun q => absurd q (by decide), fun q => by omega⟩
  · rw [ha, Int.zero_mul]
    exact ⟨fun q => absurd q (by decide), fun q => by omega⟩
  · rw [ha, Int.zero_mul]
    exact ⟨fun q => absurd q (by decide), fun q => by omega⟩
/-- the i-th vertex of a row; the polygon; coordinates in the square -/
def rP (S : ST) (h i : Nat) : GPt := ((S.1 h (3 + i)).toInt, (S.1 h (15 + i)).toInt)
def rL (S : ST) (h : Nat) : List GPt := ge_pl (rN S h) (rP S h)
def RB (S : ST) (h : Nat) : Prop := ∀ j, 3 ≤ j → j < 27 → 0 ≤ (S.1 h j).toInt ∧ (S.1 h j).toInt ≤ 15
section Row
variable {S : ST} {h i : Nat}
theorem RB_x (hB : RB S h) (hi : i < 12) : 0 ≤ (rP S h i).1 ∧ (rP S h i).1 ≤ 15 := hB (3 + i) (by omega) (by omega)
theorem RB_y (hB : RB S h) (hi : i < 12) : 0 ≤ (rP S h i).2 ∧ (rP S h i).2 ≤ 15 := hB (15 + i) (by omega) (by omega)
/-- a coordinate times the scale -/
theorem sx_t (hB : RB S h) (hi : i < 12) {m : Int64} (h0 : 0 < m.toInt) (h1 : m.toInt ≤ 1000) : (Int32.toInt64 (ra S h (3 + nJ i)) * m).toInt = (ge_s m.toInt (rP S h i)).1 ∧ bd 1000000 (Int32.toInt64 (ra S h (3 + nJ i)) * m) := by
  have b := RB_x hB hi
  have e : (Int32.toInt64 (ra S h (3 + nJ i))).toInt = (rP S h i).1 := by rw [Int32.toInt_toInt64, ra_3 S h (by omega)]; rfl
  have q := mul_bd (a := (rP S h i).1) (b := m.toInt) (A := 15) (B := 1000) (by omega) (by omega) (by omega) (by omega)
  have e2 : (Int32.toInt64 (ra S h (3 + nJ i)) * m).toInt = (rP S h i).1 * m.toInt := by rw [lmul_t (by rw [e]; omega) (by rw [e]; omega), e]
  exact ⟨by rw [e2]; exact Int.mul_comm _ _, by unfold bd; rw [e2]; omega⟩
theorem sy_t (hB : RB S h) (hi : i < 12) {m : Int64} (h0 : 0 < m.toInt) (h1 : m.toInt ≤ 1000) : (Int32.toInt64 (ra S h (15 + nJ i)) * m).toInt = (ge_s m.toInt (rP S h i)).2 ∧ bd 1000000 (Int32.toInt64 (ra S h (15 + nJ i)) * m) := by
  have b := RB_y hB hi
  have e : (Int32.toInt64 (ra S h (15 + nJ i))).toInt = (rP S h i).2 := by rw [Int32.toInt_toInt64, ra_15 S h (by omega)]; rfl
  have q := mul_bd (a := (rP S h i).2) (b := m.toInt) (A := 15) (B := 1000) (by omega) (by omega) (by omega) (by omega)
  have e2 : (Int32.toInt64 (ra S h (15 + nJ i)) * m).toInt = (rP S h i).2 * m.toInt := by rw [lmul_t (by rw [e]; omega) (by rw [e]; omega), e]
  exact ⟨by rw [e2]; exact Int.mul_comm _ _, by unfold bd; rw [e2]; omega⟩
theorem sP_t (hB : RB S h) (hi : i < 12) {m : Int64} (h0 : 0 < m.toInt) (h1 : m.toInt ≤ 1000) : lP (Int32.toInt64 (ra S h (3 + nJ i)) * m) (Int32.toInt64 (ra S h (15 + nJ i)) * m) = ge_s m.toInt (rP S h i) := Prod.ext (sx_t hB hi h0 h1).1 (sy_t hB hi h0 h1).1
theorem rx_t (hB : RB S h) (hi : i < 12) : (Int32.toInt64 (ra S h (3 + nJ i))).toInt = (rP S h i).1 ∧ bd 1000000 (Int32.toInt64 (ra S h (3 + nJ i))) := by
  have b := RB_x hB hi
  have e : (Int32.toInt64 (ra S h (3 + nJ i))).toInt = (rP S h i).1 := by rw [Int32.toInt_toInt64, ra_3 S h (by omega)]; rfl
  exact ⟨e, by unfold bd; rw [e]; omega⟩
theorem ry_t (hB : RB S h) (hi : i < 12) : (Int32.toInt64 (ra S h (15 + nJ i))).toInt = (rP S h i).2 ∧ bd 1000000 (Int32.toInt64 (ra S h (15 + nJ i))) := by
  have b := RB_y hB hi
  have e : (Int32.toInt64 (ra S h (15 + nJ i))).toInt = (rP S h i).2 := by rw [Int32.toInt_toInt64, ra_15 S h (by omega)]; rfl
  exact ⟨e, by unfold bd; rw [e]; omega⟩
theorem rP_t (hB : RB S h) (hi : i < 12) : lP (Int32.toInt64 (ra S h (3 + nJ i))) (Int32.toInt64 (ra S h (15 + nJ i))) = rP S h i := Prod.ext (rx_t hB hi).1 (ry_t hB hi).1
theorem onEdge_t (hW : RW S h) (hB : RB S h) (hi : i < rN S h) {x y m : Int64} (h0 : 0 < m.toInt) (h1 : m.toInt ≤ 1000) (hx : bd 1000000 x) (hy : bd 1000000 y) : f_206 S h (nJ i) x y m = true ↔ ge_on (ge_s m.toInt (rP S h i)) (ge_s m.toInt (rP S h (ge_aft (rN S h) i))) (lP x y) := by
  have h12 := hW.2
  have hj := ge_aft_lt hi
  unfold f_206
  rw [f204_eq hW hi, isOn_t (sx_t hB (by omega) h0 h1).2 (sy_t hB (by omega) h0 h1).2 (sx_t hB (by omega) h0 h1).2 (sy_t hB (by omega) h0 h1).2 hx hy, sP_t hB (by omega) h0 h1, sP_t hB (by omega) h0 h1]
theorem S_E {m : Int} {n : Nat} {f : Nat → GPt} {e : GPt × GPt} : e ∈ ge_E (ge_S m (ge_pl n f)) ↔ ∃ i, i < n ∧ e = (ge_s m (f i), ge_s m (f (ge_aft n i))) := by
  rw [ge_E_S, ge_E_pl]
  simp only [List.mem_map, List.mem_range]
  constructor
  · rintro ⟨q, ⟨i, hi, rfl⟩, rfl⟩; exact ⟨i, hi, rfl⟩
  · rintro ⟨i, hi, rfl⟩; exact ⟨_, ⟨i, hi, rfl⟩, rfl⟩
theorem onB_t (hW : RW S h) (hB : RB S h) {x y m : Int64} (h0 : 0 < m.toInt) (h1 : m.toInt ≤ 1000) (hx : bd 1000000 x) (hy : bd 1000000 y) : f_207 S h x y m = true ↔ ¬ ge_off (ge_S m.toInt (rL S h)) (lP x y) := by
  unfold f_207
  rw [ay_iff]
  constructor
  · rintro ⟨j, -, hj, hp⟩ q
    exact q _ (S_E.mpr ⟨j, by omega, rfl⟩) ((onEdge_t hW hB (by omega) h0 h1 hx hy).mp hp)
  · intro hn
    apply Classical.byContradiction
    intro hz
    apply hn
    intro e he z
    obtain ⟨i, hi, rfl⟩ := S_E.mp he
    exact hz ⟨i, by omega, by omega, (onEdge_t hW hB hi h0 h1 hx hy).mpr z⟩
theorem pp_xor (p : GPt) : ∀ l : List GPt, ge_pp l p = (ge_ed l).foldr (fun e b => ge_cs e.1 e.2 p != b) false
  | [] => rfl
  | [_] => rfl
  | a :: b :: r => by
    show (ge_cs a b p != ge_pp (b :: r) p) = (ge_cs a b p != (ge_ed (b :: r)).foldr (fun e b => ge_cs e.1 e.2 p != b) false)
    rw [pp_xor p (b :: r)]
theorem fr_xor (g : Nat → Bool) : ∀ (m i : Nat) (a : Bool), fr (fun i a => (a != g i)) i m a = (a != ((List.range' i m).map g).foldr (fun e b => (e != b)) false) := by
  intro m
  induction m with
  | zero => intro i a; show a = _; simp
  | succ m ih =>
    intro i a
    show fr (fun i a => (a != g i)) (i + 1) m (a != g i) = _
    rw [ih, List.range'_succ, List.map_cons, List.foldr_cons]
    cases a <;> cases g i <;> simp
theorem fr_cong {α : Type} {f g : Nat → α → α} {n : Nat} (h : ∀ i a, i < n → f i a = g i a) : ∀ (m i : Nat) (a : α), i + m = n → fr f i m a = fr g i m a := by
  intro m
  induction m with
  | zero => intro i a _; rfl
  | succ m ih =>
    intro i a hi
    show fr f (i + 1) m (f i a) = fr g (i + 1) m (g i a)
    rw [h i a (by omega), ih _ _ (by omega)]
theorem foldr_cong {α : Type} (l : List α) (f g : α → Bool) (h : ∀ x ∈ l, f x = g x) : (l.map f).foldr (fun e b => (e != b)) false = (l.map g).foldr (fun e b => (e != b)) false := by
  rw [List.map_congr_left h]
theorem isIn_t (hW : RW S h) (hB : RB S h) {x y m : Int64} (h0 : 0 < m.toInt) (h1 : m.toInt ≤ 1000) (hx : bd 1000000 x) (hy : bd 1000000 y) : f_208 S h x y m = true ↔ ge_cl m.toInt (rL S h) (lP x y) := by
  have h12 := hW.2
  have hO := onB_t hW hB h0 h1 hx hy
  unfold f_208 ge_cl
  by_cases hq : f_207 S h x y m = true
  · rw [if_pos hq]
    exact ⟨fun _ z => absurd z (hO.mp hq), fun _ => rfl⟩
  · rw [if_neg hq]
    have off : ge_off (ge_S m.toInt (rL S h)) (lP x y) := Classical.byContradiction fun z => hq (hO.mpr z)
    have hst : ∀ i a, i < rN S h → st8 S h x y m i a = (a != ge_cs (ge_s m.toInt (rP S h i)) (ge_s m.toInt (rP S h (ge_aft (rN S h) i))) (lP x y)) := by
      intro i a hi
      have hj := ge_aft_lt hi
      have n1 : ¬ ge_on (ge_s m.toInt (rP S h i)) (ge_s m.toInt (rP S h (ge_aft (rN S h) i))) (lP x y) := off _ (S_E.mpr ⟨i, hi, rfl⟩)
      rw [ge_cs_cr n1]
      have xi := sx_t hB (i := i) (by omega) h0 h1
      have yi := sy_t hB (i := i) (by omega) h0 h1
      have xj := sx_t hB (i := ge_aft (rN S h) i) (by omega) h0 h1
      have yj := sy_t hB (i := ge_aft (rN S h) i) (by omega) h0 h1
      have hcr := cross_t xi.2 yi.2 xj.2 yj.2 hx hy
      rw [sP_t hB (by omega) h0 h1, sP_t hB (by omega) h0 h1] at hcr
      unfold st8 ge_cr
      rw [f204_eq hW hi]
      simp only [Int64.lt_iff_toInt_lt, yi.1, yj.1, hcr]
      show (if decide (y.toInt < _) = decide (y.toInt < _) then a else if decide (_ < _) = decide ((0 : Int) < _) then !a else a) = (a != ((decide (y.toInt < _) != decide (y.toInt < _)) && (decide (_ < _) == decide ((0 : Int) < _))))
      generalize decide (y.toInt < (ge_s m.toInt (rP S h i)).2) = b1
      generalize decide (y.toInt < (ge_s m.toInt (rP S h (ge_aft (rN S h) i))).2) = b2
      generalize decide ((ge_s m.toInt (rP S h i)).2 < (ge_s m.toInt (rP S h (ge_aft (rN S h) i))).2) = b3
      generalize decide ((0 : Int) < ge_o (ge_s m.toInt (rP S h i)) (ge_s m.toInt (rP S h (ge_aft (rN S h) i))) (lP x y)) = b4
      cases a <;> cases b1 <;> cases b2 <;> cases b3 <;> cases b4 <;> rfl
    have hpar : fr (st8 S h x y m) 0 (rN S h) false = ge_par (ge_S m.toInt (rL S h)) (lP x y) := by
      rw [fr_cong hst (rN S h) 0 false (by omega), fr_xor]
      unfold ge_par
      rw [pp_xor]
      show _ = (ge_E (ge_S m.toInt (rL S h))).foldr _ false
      unfold rL
      rw [ge_E_S, ge_E_pl, List.foldr_map, List.foldr_map, ← List.range_eq_range', List.foldr_map]
      simp
    rw [hpar]
    exact ⟨fun q _ => q, fun q => q off⟩
theorem meet_t (hW : RW S h) (hB : RB S h) {k : Nat} (hi : i < rN S h) (hk : k < rN S h) : f_209 S h (nJ i) (nJ k) = true ↔ ge_meet (rP S h i) (rP S h (ge_aft (rN S h) i)) (rP S h k) (rP S h (ge_aft (rN S h) k)) := by
  have h12 := hW.2
  have hj := ge_aft_lt hi
  have hl := ge_aft_lt hk
  have X : ∀ {i : Nat}, i < rN S h → bd 1000000 (Int32.toInt64 (ra S h (3 + nJ i))) := fun q => (rx_t hB (by omega)).2
  have Y : ∀ {i : Nat}, i < rN S h → bd 1000000 (Int32.toInt64 (ra S h (15 + nJ i))) := fun q => (ry_t hB (by omega)).2
  have P : ∀ {i : Nat}, i < rN S h → lP (Int32.toInt64 (ra S h (3 + nJ i))) (Int32.toInt64 (ra S h (15 + nJ i))) = rP S h i := fun q => rP_t hB (by omega)
  unfold f_209 ge_meet
  rw [f204_eq hW hi, f204_eq hW hk]
  simp only [Bool.or_eq_true, Bool.and_eq_true, decide_eq_true_eq, sg_mul]
  rw [isOn_t (X hi) (Y hi) (X hj) (Y hj) (X hk) (Y hk), isOn_t (X hi) (Y hi) (X hj) (Y hj) (X hl) (Y hl), isOn_t (X hk) (Y hk) (X hl) (Y hl) (X hi) (Y hi), isOn_t (X hk) (Y hk) (X hl) (Y hl) (X hj) (Y hj), cross_t (X hi) (Y hi) (X hj) (Y hj) (X hk) (Y hk), cross_t (X hi) (Y hi) (X hj) (Y hj) (X hl) (Y hl), cross_t (X hk) (Y hk) (X hl) (Y hl) (X hi) (Y hi), cross_t (X hk) (Y hk) (X hl) (Y hl) (X hj) (Y hj), P hi, P hj, P hk, P hl]
theorem i32_0 (x : Int32) : x = 0 ↔ x.toInt = 0 := ⟨fun h => by rw [h]; rfl, fun h => Int32.toInt_inj.mp h⟩
theorem bent_t (hW : RW S h) (hB : RB S h) (hi : i < rN S h) : f_210 S h (nJ i) = true ↔ ge_bent (rP S h i) (rP S h (ge_aft (rN S h) i)) (rP S h (ge_aft (rN S h) (ge_aft (rN S h) i))) := by
  have h12 := hW.2
  have hj := ge_aft_lt hi
  have hk := ge_aft_lt hj
  unfold f_210
  rw [f204_eq hW hi, f204_eq hW hj, ra_3 S h (by omega), ra_3 S h (by omega), ra_3 S h (by omega), ra_15 S h (by omega), ra_15 S h (by omega), ra_15 S h (by omega)]
  generalize hj' : ge_aft (rN S h) i = j at *
  generalize hk' : ge_aft (rN S h) j = k at *
  have xi := hB (3 + i) (by omega) (by omega)
  have yi := hB (15 + i) (by omega) (by omega)
  have xj := hB (3 + j) (by omega) (by omega)
  have yj := hB (15 + j) (by omega) (by omega)
  have xk := hB (3 + k) (by omega) (by omega)
  have yk := hB (15 + k) (by omega) (by omega)
  have A : (S.1 h (3 + i) - S.1 h (3 + j)).toInt = (rP S h i).1 - (rP S h j).1 := isub_t (by omega) (by omega)
  have B : (S.1 h (15 + i) - S.1 h (15 + j)).toInt = (rP S h i).2 - (rP S h j).2 := isub_t (by omega) (by omega)
  have C : (S.1 h (3 + k) - S.1 h (3 + j)).toInt = (rP S h k).1 - (rP S h j).1 := isub_t (by omega) (by omega)
  have D : (S.1 h (15 + k) - S.1 h (15 + j)).toInt = (rP S h k).2 - (rP S h j).2 := isub_t (by omega) (by omega)
  have a1 := RB_x hB (i := i) (by omega)
  have a2 := RB_y hB (i := i) (by omega)
  have a3 := RB_x hB (i := j) (by omega)
  have a4 := RB_y hB (i := j) (by omega)
  have a5 := RB_x hB (i := k) (by omega)
  have a6 := RB_y hB (i := k) (by omega)
  generalize S.1 h (3 + i) - S.1 h (3 + j) = a at *
  generalize S.1 h (15 + i) - S.1 h (15 + j) = b at *
  generalize S.1 h (3 + k) - S.1 h (3 + j) = c at *
  generalize S.1 h (15 + k) - S.1 h (15 + j) = e at *
  have q1 := mul_bd (a := a.toInt) (b := e.toInt) (A := 15) (B := 15) (by omega) (by omega) (by omega) (by omega)
  have q2 := mul_bd (a := b.toInt) (b := c.toInt) (A := 15) (B := 15) (by omega) (by omega) (by omega) (by omega)
  have q3 := mul_bd (a := a.toInt) (b := c.toInt) (A := 15) (B := 15) (by omega) (by omega) (by omega) (by omega)
  have q4 := mul_bd (a := b.toInt) (b := e.toInt) (A := 15) (B := 15) (by omega) (by omega) (by omega) (by omega)
  have m1 : (a * e).toInt = a.toInt * e.toInt := imul_t (by omega) (by omega)
  have m2 : (b * c).toInt = b.toInt * c.toInt := imul_t (by omega) (by omega)
  have m3 : (a * c).toInt = a.toInt * c.toInt := imul_t (by omega) (by omega)
  have m4 : (b * e).toInt = b.toInt * e.toInt := imul_t (by omega) (by omega)
  have m5 : (a * c + b * e).toInt = a.toInt * c.toInt + b.toInt * e.toInt := by rw [iadd_t (by omega) (by omega), m3, m4]
  have c1 : a * e = b * c ↔ a.toInt * e.toInt = b.toInt * c.toInt := by rw [← Int32.toInt_inj, m1, m2]
  have c2 : a * c + b * e < 0 ↔ a.toInt * c.toInt + b.toInt * e.toInt < 0 := by rw [Int32.lt_iff_toInt_lt, m5]; rfl
  have n1 : (rP S h i ≠ rP S h j) ↔ ¬ (a = 0 ∧ b = 0) := by
    rw [i32_0, i32_0, A, B]
    constructor
    · intro q z; exact q (Prod.ext (by omega) (by omega))
    · intro q z; rw [z] at q; exact q ⟨by omega, by omega⟩
  have n2 : (rP S h k ≠ rP S h j) ↔ ¬ (c = 0 ∧ e = 0) := by
    rw [i32_0, i32_0, C, D]
    constructor
    · intro q z; exact q (Prod.ext (by omega) (by omega))
    · intro q z; rw [z] at q; exact q ⟨by omega, by omega⟩
  unfold ge_bent
  rw [n1, n2, ← A, ← B, ← C, ← D]
  rcases Classical.propComplete (a = 0) with z1 | z1 <;> rcases Classical.propComplete (b = 0) with z2 | z2 <;> rcases Classical.propComplete (c = 0) with z3 | z3 <;> rcases Classical.propComplete (e = 0) with z4 | z4 <;> simp only [z1, z2, z3, z4, c1, c2, if_true, if_false, decide_true, decide_false, Bool.not_true, Bool.not_false, Bool.true_and, Bool.false_and, Bool.false_eq_true, Bool.or_eq_true, Bool.not_eq_true', decide_eq_true_eq, decide_eq_false_iff_not, and_true, true_and, and_false, false_and, not_true_eq_false, not_false_eq_true, ne_eq]
theorem simp_t (hW : RW S h) (hB : RB S h) : f_211 S h = true ↔ ge_simp (rN S h) (rP S h) := by
  have h12 := hW.2
  unfold f_211 ge_simp
  rw [Bool.not_eq_true', ← Bool.not_eq_true, ay_iff]
  constructor
  · intro q
    refine ⟨fun i hi => ?_, fun i k h1 h2 h3 z => ?_⟩
    · apply (bent_t hW hB hi).mp
      apply Classical.byContradiction
      intro z
      refine q ⟨i, by omega, by omega, ?_⟩
      rw [Bool.or_eq_true, Bool.not_eq_true']
      exact Or.inl (by simpa using z)
    · refine q ⟨i, by omega, by omega, ?_⟩
      rw [Bool.or_eq_true]
      refine Or.inr ((ay_iff _ _ _).mpr ⟨k, h1, by omega, ?_⟩)
      unfold p_211
      rw [(meet_t hW hB (by omega) h2).mpr z, f204_eq hW h2, decide_eq_false (fun e => h3 ((nJ_eq (by have := ge_aft_lt h2; omega) (by omega)).mp e))]
      rfl
  · rintro ⟨q1, q2⟩ ⟨i, -, hi, hp⟩
    rw [Bool.or_eq_true] at hp
    rcases hp with hp | hp
    · rw [(bent_t hW hB (by omega)).mpr (q1 i (by omega))] at hp
      cases hp
    · obtain ⟨k, k1, k2, k3⟩ := (ay_iff _ _ _).mp hp
      unfold p_211 at k3
      rw [Bool.and_eq_true, f204_eq hW (by omega)] at k3
      refine q2 i k k1 (by omega) (fun e => ?_) ((meet_t hW hB (by omega) (by omega)).mp k3.2)
      rw [e] at k3
      simp at k3
end Row
