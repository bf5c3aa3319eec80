/-! the class's geometry: what its words mean -/
def clN (S : ST) (h : Nat) : Nat := (S.1 h 0).toNatClampNeg
def iP (x y : Int32) : GPt := (x.toInt, y.toInt)
def clP (S : ST) (h i : Nat) : GPt := iP (S.1 (h + 1) i) (S.1 (h + 2) i)
def clW (S : ST) (h : Nat) : Prop := S.1 h 0 = nJ (clN S h) ∧ clN S h ≤ 12
def clB (S : ST) (h : Nat) : Prop := ∀ i, i < clN S h → (0 ≤ (clP S h i).1 ∧ (clP S h i).1 ≤ 15) ∧ 0 ≤ (clP S h i).2 ∧ (clP S h i).2 ≤ 15
def bi (x : Int32) : Prop := -1000 ≤ x.toInt ∧ x.toInt ≤ 1000
theorem i32_lt (x y : Int32) : x < y ↔ x.toInt < y.toInt := Int32.lt_iff_toInt_lt
section CG
variable {S : ST} {h : Nat}
theorem F44_eq (hW : clW S h) {i : Nat} (hi : i < clN S h) : F_44 h (nJ i) S = some (S.1 (h + 1) i) := by
  have h12 := hW.2
  unfold F_44
  rw [if_neg (nJ_nn (by omega)), hW.1, if_pos ((nJ_lt (by omega) (by omega)).mpr hi), ck_t (ibd_n (by omega) (by omega)), nJ_ix (by omega)]
theorem F45_eq (hW : clW S h) {i : Nat} (hi : i < clN S h) : F_45 h (nJ i) S = some (S.1 (h + 2) i) := by
  have h12 := hW.2
  unfold F_45
  rw [if_neg (nJ_nn (by omega)), hW.1, if_pos ((nJ_lt (by omega) (by omega)).mpr hi), ck_t (ibd_n (by omega) (by omega)), nJ_ix (by omega)]
theorem F46_eq (hW : clW S h) {i : Nat} (hi : i < clN S h) : F_46 h (nJ i) S = nJ (ge_aft (clN S h) i) := by
  have h12 := hW.2
  unfold F_46 ge_aft
  rw [nJ_succ, hW.1]
  by_cases q : i + 1 = clN S h
  · rw [if_pos q, if_neg (fun z => by have := (nJ_lt (by omega) (by omega)).mp z; omega)]; rfl
  · rw [if_neg q, if_pos ((nJ_lt (by omega) (by omega)).mpr (by omega))]
theorem F23_t {a b c d e f : Int32} (ha : bi a) (hb : bi b) (hc : bi c) (hd : bi d) (he : bi e) (hf : bi f) : (F_23 a b c d e f).toInt = ge_o (iP a b) (iP c d) (iP e f) := by
  unfold bi at *
  have d1 : (c - a).toInt = c.toInt - a.toInt := isub_t (by omega) (by omega)
  have d2 : (f - b).toInt = f.toInt - b.toInt := isub_t (by omega) (by omega)
  have d3 : (d - b).toInt = d.toInt - b.toInt := isub_t (by omega) (by omega)
  have d4 : (e - a).toInt = e.toInt - a.toInt := isub_t (by omega) (by omega)
  have m1 := mul_bd (a := (c - a).toInt) (b := (f - b).toInt) (A := 2000) (B := 2000) (by omega) (by omega) (by omega) (by omega)
  have m2 := mul_bd (a := (d - b).toInt) (b := (e - a).toInt) (A := 2000) (B := 2000) (by omega) (by omega) (by omega) (by omega)
  have e1 : ((c - a) * (f - b)).toInt = (c - a).toInt * (f - b).toInt := imul_t (by omega) (by omega)
  have e2 : ((d - b) * (e - a)).toInt = (d - b).toInt * (e - a).toInt := imul_t (by omega) (by omega)
  unfold F_23 ge_o iP
  rw [isub_t (by omega) (by omega), e1, e2, d1, d2, d3, d4]
/-- between two numbers -/
theorem btw (a b p : Int) : (p - a) * (p - b) ≤ 0 ↔ (if b < a then b else a) ≤ p ∧ p ≤ (if a < b then b else a) := by
  constructor
  · intro h
    by_cases h1 : p < a
    · by_cases h2 : p < b
      · have := Int.mul_pos_of_neg_of_neg (a := p - a) (b := p - b) (by omega) (by omega)
        omega
      · split <;> split <;> omega
    · by_cases h2 : b < p
      · by_cases h3 : a < p
        · have := Int.mul_pos (a := p - a) (b := p - b) (by omega) (by omega)
          omega
        · split <;> split <;> omega
      · split <;> split <;> omega
  · rintro ⟨h1, h2⟩
    by_cases q : a ≤ b
    · have := Int.mul_nonneg (a := p - a) (b := b - p) (by split at h1 <;> omega) (by split at h2 <;> omega)
      have e : (p - a) * (p - b) = -((p - a) * (b - p)) := by rw [← Int.mul_neg]; congr 1; omega
      omega
    · have := Int.mul_nonneg (a := a - p) (b := p - b) (by split at h2 <;> omega) (by split at h1 <;> omega)
      have e : (p - a) * (p - b) = -((a - p) * (p - b)) := by rw [← Int.neg_mul]; congr 1; omega
      omega
theorem mn_t (x y : Int32) : (if y < x then y else x).toInt = if y.toInt < x.toInt then y.toInt else x.toInt := by
  by_cases q : y < x
  · rw [if_pos q, if_pos ((i32_lt _ _).mp q)]
  · rw [if_neg q, if_neg (fun z => q ((i32_lt _ _).mpr z))]
theorem mx_t (x y : Int32) : (if x < y then y else x).toInt = if x.toInt < y.toInt then y.toInt else x.toInt := by
  by_cases q : x < y
  · rw [if_pos q, if_pos ((i32_lt _ _).mp q)]
  · rw [if_neg q, if_neg (fun z => q ((i32_lt _ _).mpr z))]
/-- a coordinate times a scale of 1 or 2 -/
theorem sc_t {x m : Int32} (hx : 0 ≤ x.toInt ∧ x.toInt ≤ 15) (hm : 1 ≤ m.toInt ∧ m.toInt ≤ 2) : (x * m).toInt = m.toInt * x.toInt ∧ bi (x * m) := by
  have q := mul_bd (a := x.toInt) (b := m.toInt) (A := 15) (B := 2) (by omega) (by omega) (by omega) (by omega)
  have e : (x * m).toInt = x.toInt * m.toInt := imul_t (by omega) (by omega)
  exact ⟨by rw [e, Int.mul_comm], by unfold bi; rw [e]; omega⟩
theorem clB_x (hB : clB S h) {i : Nat} (hi : i < clN S h) : 0 ≤ (S.1 (h + 1) i).toInt ∧ (S.1 (h + 1) i).toInt ≤ 15 := (hB i hi).1
theorem clB_y (hB : clB S h) {i : Nat} (hi : i < clN S h) : 0 ≤ (S.1 (h + 2) i).toInt ∧ (S.1 (h + 2) i).toInt ≤ 15 := (hB i hi).2
theorem bi_c {x : Int32} (hx : 0 ≤ x.toInt ∧ x.toInt ≤ 15) : bi x := ⟨by omega, by omega⟩
theorem F32_eq (hW : clW S h) (hB : clB S h) {i : Nat} (hi : i < clN S h) {m x y : Int32} (hm : 1 ≤ m.toInt ∧ m.toInt ≤ 2) (hx : bi x) (hy : bi y) : ∃ b, F_32 h (nJ i) m x y S = some b ∧ (b = true ↔ ge_on (ge_s m.toInt (clP S h i)) (ge_s m.toInt (clP S h (ge_aft (clN S h) i))) (iP x y)) := by
  have hj := ge_aft_lt hi
  unfold F_32
  rw [F46_eq hW hi, F44_eq hW hi, F45_eq hW hi, F44_eq hW hj, F45_eq hW hj]
  generalize hj' : ge_aft (clN S h) i = j at *
  simp only [ob_s]
  refine ⟨_, rfl, ?_⟩
  have xi := sc_t (clB_x hB hi) hm
  have yi := sc_t (clB_y hB hi) hm
  have xj := sc_t (clB_x hB hj) hm
  have yj := sc_t (clB_y hB hj) hm
  have ho := F23_t xi.2 yi.2 xj.2 yj.2 hx hy
  have e1 : iP (S.1 (h + 1) i * m) (S.1 (h + 2) i * m) = ge_s m.toInt (clP S h i) := Prod.ext xi.1 yi.1
  have e2 : iP (S.1 (h + 1) j * m) (S.1 (h + 2) j * m) = ge_s m.toInt (clP S h j) := Prod.ext xj.1 yj.1
  rw [e1, e2] at ho
  simp only [Bool.and_eq_true, Bool.not_eq_true', decide_eq_true_eq, decide_eq_false_iff_not, i32_0, ho, i32_lt, mn_t, mx_t]
  unfold ge_on
  rw [btw, btw]
  show _ ↔ _ ∧ ((if (ge_s m.toInt (clP S h j)).1 < (ge_s m.toInt (clP S h i)).1 then _ else _) ≤ x.toInt ∧ _) ∧ _
  rw [← e1, ← e2]
  show _ ↔ _ ∧ ((if (S.1 (h + 1) j * m).toInt < (S.1 (h + 1) i * m).toInt then (S.1 (h + 1) j * m).toInt else (S.1 (h + 1) i * m).toInt) ≤ x.toInt ∧ x.toInt ≤ (if (S.1 (h + 1) i * m).toInt < (S.1 (h + 1) j * m).toInt then (S.1 (h + 1) j * m).toInt else (S.1 (h + 1) i * m).toInt)) ∧ ((if (S.1 (h + 2) j * m).toInt < (S.1 (h + 2) i * m).toInt then (S.1 (h + 2) j * m).toInt else (S.1 (h + 2) i * m).toInt) ≤ y.toInt ∧ y.toInt ≤ (if (S.1 (h + 2) i * m).toInt < (S.1 (h + 2) j * m).toInt then (S.1 (h + 2) j * m).toInt else (S.1 (h + 2) i * m).toInt))
  simp only [Int.not_lt, and_assoc, apply_ite Int32.toInt]
theorem F31_t (a b : Int32) : F_31 a b = true ↔ a.toInt * b.toInt < 0 := by
  have h1 : (0 : Int32).toInt = 0 := rfl
  unfold F_31
  simp only [i32_lt, h1]
  rcases Int.lt_trichotomy a.toInt 0 with ha | ha | ha <;> rcases Int.lt_trichotomy b.toInt 0 with hb | hb | hb
  · have := Int.mul_pos_of_neg_of_neg ha hb
    simp [ha, Int.not_lt.mpr (Int.le_of_lt ha), Int.not_lt.mpr (Int.le_of_lt hb), Int.not_lt.mpr (Int.le_of_lt this)]
  · rw [hb, Int.mul_zero]
    simp [ha, Int.not_lt.mpr (Int.le_of_lt ha)]
  · have := Int.mul_neg_of_neg_of_pos ha hb
    simp [ha, hb, this]
  · rw [ha, Int.zero_mul]; simp
  · rw [ha, Int.zero_mul]; simp
  · rw [ha, Int.zero_mul]; simp
  · have := Int.mul_neg_of_pos_of_neg ha hb
    simp [ha, hb, this, Int.not_lt.mpr (Int.le_of_lt ha)]
  · rw [hb, Int.mul_zero]
    simp [ha, Int.not_lt.mpr (Int.le_of_lt ha)]
  · have := Int.mul_pos ha hb
    simp [ha, Int.not_lt.mpr (Int.le_of_lt ha), Int.not_lt.mpr (Int.le_of_lt hb), Int.not_lt.mpr (Int.le_of_lt this)]
theorem F30_eq (hW : clW S h) (hB : clB S h) {i : Nat} (hi : i < clN S h) {a b c d : Int32} (ha : bi a) (hb : bi b) (hc : bi c) (hd : bi d) : ∃ r, F_30 h (nJ i) a b c d S = some r ∧ (r = true ↔ ge_x (clP S h i) (clP S h (ge_aft (clN S h) i)) (iP a b) (iP c d)) := by
  have hj := ge_aft_lt hi
  unfold F_30
  rw [F46_eq hW hi, F44_eq hW hi, F45_eq hW hi, F44_eq hW hj, F45_eq hW hj]
  generalize hj' : ge_aft (clN S h) i = j at *
  simp only [ob_s]
  refine ⟨_, rfl, ?_⟩
  have xi := bi_c (clB_x hB hi)
  have yi := bi_c (clB_y hB hi)
  have xj := bi_c (clB_x hB hj)
  have yj := bi_c (clB_y hB hj)
  simp only [Bool.and_eq_true, F31_t, F23_t xi yi xj yj ha hb, F23_t xi yi xj yj hc hd, F23_t ha hb hc hd xi yi, F23_t ha hb hc hd xj yj]
  rfl
theorem ge_s1 (p : GPt) : ge_s 1 p = p := Prod.ext (Int.one_mul _) (Int.one_mul _)
theorem F32_1 (hW : clW S h) (hB : clB S h) {i : Nat} (hi : i < clN S h) {x y : Int32} (hx : bi x) (hy : bi y) : ∃ b, F_32 h (nJ i) 1 x y S = some b ∧ (b = true ↔ ge_on (clP S h i) (clP S h (ge_aft (clN S h) i)) (iP x y)) := by
  obtain ⟨b, h1, h2⟩ := F32_eq hW hB hi (m := 1) (by decide) hx hy
  refine ⟨b, h1, ?_⟩
  rw [h2]
  show ge_on (ge_s 1 _) (ge_s 1 _) _ ↔ _
  rw [ge_s1, ge_s1]
theorem F29_eq (hW : clW S h) (hB : clB S h) {i k : Nat} (hi : i < clN S h) (hk : k < clN S h) : ∃ b, F_29 h (nJ i) (nJ k) S = some b ∧ (b = true ↔ ge_meet (clP S h i) (clP S h (ge_aft (clN S h) i)) (clP S h k) (clP S h (ge_aft (clN S h) k))) := by
  have hj := ge_aft_lt hi
  have hl := ge_aft_lt hk
  obtain ⟨b0, g0, q0⟩ := F30_eq hW hB hi (bi_c (clB_x hB hk)) (bi_c (clB_y hB hk)) (bi_c (clB_x hB hl)) (bi_c (clB_y hB hl))
  obtain ⟨b1, g1, q1⟩ := F32_1 hW hB hi (bi_c (clB_x hB hk)) (bi_c (clB_y hB hk))
  obtain ⟨b2, g2, q2⟩ := F32_1 hW hB hi (bi_c (clB_x hB hl)) (bi_c (clB_y hB hl))
  obtain ⟨b3, g3, q3⟩ := F32_1 hW hB hk (bi_c (clB_x hB hi)) (bi_c (clB_y hB hi))
  obtain ⟨b4, g4, q4⟩ := F32_1 hW hB hk (bi_c (clB_x hB hj)) (bi_c (clB_y hB hj))
  refine ⟨b0 || (b1 || (b2 || (b3 || b4))), ?_, ?_⟩
  · unfold F_29
    rw [F46_eq hW hi, F46_eq hW hk, F44_eq hW hi, F45_eq hW hi, F44_eq hW hj, F45_eq hW hj, F44_eq hW hk, F45_eq hW hk, F44_eq hW hl, F45_eq hW hl]
    simp only [ob_s, g0, g1, g2, g3, g4]
    cases b0 <;> cases b1 <;> cases b2 <;> cases b3 <;> cases b4 <;> rfl
  · simp only [Bool.or_eq_true, q0, q1, q2, q3, q4]
    unfold ge_meet
    show ge_x _ _ (clP S h k) (clP S h (ge_aft (clN S h) k)) ∨ ge_on _ _ (clP S h k) ∨ ge_on _ _ (clP S h (ge_aft (clN S h) k)) ∨ ge_on _ _ (clP S h i) ∨ ge_on _ _ (clP S h (ge_aft (clN S h) i)) ↔ _
    unfold ge_x
    constructor
    · rintro (q | q | q | q | q)
      · exact Or.inr (Or.inr (Or.inr (Or.inr q)))
      · exact Or.inl q
      · exact Or.inr (Or.inl q)
      · exact Or.inr (Or.inr (Or.inl q))
      · exact Or.inr (Or.inr (Or.inr (Or.inl q)))
    · rintro (q | q | q | q | q)
      · exact Or.inr (Or.inl q)
      · exact Or.inr (Or.inr (Or.inl q))
      · exact Or.inr (Or.inr (Or.inr (Or.inl q)))
      · exact Or.inr (Or.inr (Or.inr (Or.inr q)))
      · exact Or.inl q
theorem F28_eq (hW : clW S h) (hB : clB S h) {i : Nat} (hi : i < clN S h) : ∃ b, F_28 h (nJ i) S = some b ∧ (b = true ↔ ¬ ge_bent (clP S h i) (clP S h (ge_aft (clN S h) i)) (clP S h (ge_aft (clN S h) (ge_aft (clN S h) i)))) := by
  have hj := ge_aft_lt hi
  have hk := ge_aft_lt hj
  unfold F_28
  rw [F46_eq hW hi, F46_eq hW hj, F44_eq hW hi, F45_eq hW hi, F44_eq hW hj, F45_eq hW hj, F44_eq hW hk, F45_eq hW hk]
  generalize hj' : ge_aft (clN S h) i = j at *
  generalize hk' : ge_aft (clN S h) j = k at *
  simp only [ob_s]
  refine ⟨_, rfl, ?_⟩
  have xi := clB_x hB hi
  have yi := clB_y hB hi
  have xj := clB_x hB hj
  have yj := clB_y hB hj
  have xk := clB_x hB hk
  have yk := clB_y hB hk
  have A : (S.1 (h + 1) i - S.1 (h + 1) j).toInt = (clP S h i).1 - (clP S h j).1 := isub_t (by omega) (by omega)
  have B : (S.1 (h + 2) i - S.1 (h + 2) j).toInt = (clP S h i).2 - (clP S h j).2 := isub_t (by omega) (by omega)
  have C : (S.1 (h + 1) k - S.1 (h + 1) j).toInt = (clP S h k).1 - (clP S h j).1 := isub_t (by omega) (by omega)
  have D : (S.1 (h + 2) k - S.1 (h + 2) j).toInt = (clP S h k).2 - (clP S h j).2 := isub_t (by omega) (by omega)
  have a1 := (hB i hi).1
  have a2 := (hB i hi).2
  have a3 := (hB j hj).1
  have a4 := (hB j hj).2
  have a5 := (hB k hk).1
  have a6 := (hB k hk).2
  generalize S.1 (h + 1) i - S.1 (h + 1) j = a at *
  generalize S.1 (h + 2) i - S.1 (h + 2) j = b at *
  generalize S.1 (h + 1) k - S.1 (h + 1) j = c at *
  generalize S.1 (h + 2) k - S.1 (h + 2) j = e at *
  have q1 := mul_bd (a := a.toInt) (b := e.toInt) (A := 15) (B := 15) (by omega) (by omega) (by omega) (by omega)
  have q2 := mul_bd (a := b.toInt) (b := c.toInt) (A := 15) (B := 15) (by omega) (by omega) (by omega) (by omega)
  have q3 := mul_bd (a := a.toInt) (b := c.toInt) (A := 15) (B := 15) (by omega) (by omega) (by omega) (by omega)
  have q4 := mul_bd (a := b.toInt) (b := e.toInt) (A := 15) (B := 15) (by omega) (by omega) (by omega) (by omega)
  have m1 : (a * e).toInt = a.toInt * e.toInt := imul_t (by omega) (by omega)
  have m2 : (b * c).toInt = b.toInt * c.toInt := imul_t (by omega) (by omega)
  have m3 : (a * c).toInt = a.toInt * c.toInt := imul_t (by omega) (by omega)
  have m4 : (b * e).toInt = b.toInt * e.toInt := imul_t (by omega) (by omega)
  have m5 : (a * c + b * e).toInt = a.toInt * c.toInt + b.toInt * e.toInt := by rw [iadd_t (by omega) (by omega), m3, m4]
  have m6 : (a * e - b * c).toInt = a.toInt * e.toInt - b.toInt * c.toInt := by rw [isub_t (by omega) (by omega), m1, m2]
  have n1 : clP S h i ≠ clP S h j ↔ ¬ (a.toInt = 0 ∧ b.toInt = 0) := by
    rw [A, B]
    constructor
    · intro q z; exact q (Prod.ext (by omega) (by omega))
    · intro q z; rw [z] at q; exact q ⟨by omega, by omega⟩
  have n2 : clP S h k ≠ clP S h j ↔ ¬ (c.toInt = 0 ∧ e.toInt = 0) := by
    rw [C, D]
    constructor
    · intro q z; exact q (Prod.ext (by omega) (by omega))
    · intro q z; rw [z] at q; exact q ⟨by omega, by omega⟩
  have z0 : (0 : Int32).toInt = 0 := rfl
  unfold ge_bent
  rw [n1, n2, ← A, ← B, ← C, ← D]
  simp only [Bool.and_eq_true, Bool.not_eq_true', decide_eq_true_eq, decide_eq_false_iff_not, i32_0, i32_lt, m5, m6, z0]
  constructor
  · rintro ⟨w1, w2⟩ ⟨-, -, w | w⟩
    · exact w (by omega)
    · exact w2 w
  · intro w
    by_cases za : a.toInt = 0 ∧ b.toInt = 0
    · simp only [za.1, za.2, Int.zero_mul]; exact ⟨rfl, by decide⟩
    · by_cases zc : c.toInt = 0 ∧ e.toInt = 0
      · simp only [zc.1, zc.2, Int.mul_zero]; exact ⟨rfl, by decide⟩
      · refine ⟨?_, fun q => w ⟨za, zc, Or.inr q⟩⟩
        apply Classical.byContradiction
        intro q
        exact w ⟨za, zc, Or.inl (by omega)⟩
theorem F27_eq (hW : clW S h) (hB : clB S h) : ∃ b, F_27 h S = some b ∧ (b = true ↔ 3 ≤ clN S h ∧ ge_simp (clN S h) (clP S h)) := by
  have h12 := hW.2
  unfold F_27
  rw [hW.1]
  by_cases h3 : clN S h < 3
  · rw [if_pos (show nJ (clN S h) < 3 from (nJ_lt (j := 3) (by omega) (by omega)).mpr h3)]
    exact ⟨_, rfl, fun q => absurd q (by decide), fun q => by omega⟩
  · rw [if_neg (show ¬ nJ (clN S h) < 3 from fun z => h3 ((nJ_lt (j := 3) (by omega) (by omega)).mp z)), if_neg (show ¬ 12 < nJ (clN S h) from fun z => by have := (nJ_lt (i := 12) (by omega) (by omega)).mp z; omega)]
    refine wh_seK (f := L_27_21 h S) nJ (fun i => ¬ ge_bent (clP S h i) (clP S h (ge_aft (clN S h) i)) (clP S h (ge_aft (clN S h) (ge_aft (clN S h) i))) ∨ ∃ k, i + 2 ≤ k ∧ k < clN S h ∧ ge_aft (clN S h) k ≠ i ∧ ge_meet (clP S h i) (clP S h (ge_aft (clN S h) i)) (clP S h k) (clP S h (ge_aft (clN S h) k))) (clN S h) (fun _ => .inr false) (fun r => ∃ z, r = .inl z) 0 (fun i _ hi => ?_) (fun i hi => ?_) (FU_lt (by omega)) (fun r g w => ?_)
    · obtain ⟨b, g, w⟩ := F28_eq hW hB hi
      unfold L_27_21
      rw [hW.1, if_pos ((nJ_lt (by omega) (by omega)).mpr hi), g, ob_s]
      by_cases hb : b = true
      · rw [if_pos hb]
        exact Or.inl ⟨Or.inl (w.mp hb), rfl⟩
      · rw [if_neg hb, show nJ i + 2 = nJ (i + 2) from nJ_add i 2]
        have wb : ge_bent (clP S h i) (clP S h (ge_aft (clN S h) i)) (clP S h (ge_aft (clN S h) (ge_aft (clN S h) i))) := Classical.byContradiction fun q => hb (w.mpr q)
        refine wh_seK (f := L_27_43 h (nJ i) S) nJ (fun k => ge_aft (clN S h) k ≠ i ∧ ge_meet (clP S h i) (clP S h (ge_aft (clN S h) i)) (clP S h k) (clP S h (ge_aft (clN S h) k))) (clN S h) (fun _ => .inr false) (fun r => ∃ z, r = .inl z) (i + 2) (fun k _ hk => ?_) (fun k hk => ?_) (FU_lt (by omega)) (fun r g w => ?_)
        · have hl := ge_aft_lt hk
          unfold L_27_43
          rw [hW.1, if_pos ((nJ_lt (by omega) (by omega)).mpr hk), F46_eq hW hk, nJ_succ]
          by_cases q : ge_aft (clN S h) k = i
          · rw [if_pos (by rw [q])]
            exact Or.inr ⟨fun z => z.1 q, rfl⟩
          · rw [if_neg (fun z => q ((nJ_eq (by omega) (by omega)).mp z))]
            obtain ⟨b, g, w⟩ := F29_eq hW hB hi hk
            rw [g, ob_s]
            by_cases hb : b = true
            · rw [if_pos hb]; exact Or.inl ⟨⟨q, w.mp hb⟩, rfl⟩
            · rw [if_neg hb]; exact Or.inr ⟨fun z => hb (w.mpr z.2), rfl⟩
        · unfold L_27_43
          rw [hW.1, if_neg (fun z => by have := (nJ_lt (by omega) (by omega)).mp z; omega)]
          exact ⟨_, rfl, _, rfl⟩
        · rw [g, ob_s]
          rcases w with ⟨k, k0, k1, k2, -, rfl⟩ | ⟨⟨z, rfl⟩, w⟩
          · exact Or.inl ⟨Or.inr ⟨k, k0, k1, k2⟩, rfl⟩
          · refine Or.inr ⟨?_, by rw [nJ_succ]; rfl⟩
            rintro (q | ⟨k, k1, k2, k3⟩)
            · exact q wb
            · exact w k k1 k2 k3
    · unfold L_27_21
      rw [hW.1, if_neg (fun z => by have := (nJ_lt (by omega) (by omega)).mp z; omega)]
      exact ⟨_, rfl, _, rfl⟩
    · show ∃ b, ob (wh FU (L_27_21 h S) (nJ 0)) _ = some b ∧ _
      rw [g, ob_s]
      rcases w with ⟨k, -, k1, k2, -, rfl⟩ | ⟨⟨z, rfl⟩, w⟩
      · refine ⟨false, rfl, fun q => absurd q (by decide), fun q => ?_⟩
        rcases k2 with k2 | ⟨j, j1, j2, j3, j4⟩
        · exact absurd (q.2.1 k k1) k2
        · exact absurd j4 (q.2.2 k j j1 j2 j3)
      · refine ⟨true, rfl, fun _ => ⟨by omega, fun i hi => ?_, fun i k k1 k2 k3 k4 => ?_⟩, fun _ => rfl⟩
        · apply Classical.byContradiction
          intro q
          exact w i (Nat.zero_le _) hi (Or.inl q)
        · exact w i (Nat.zero_le _) (by omega) (Or.inr ⟨k, k1, k2, k3, k4⟩)
end CG
