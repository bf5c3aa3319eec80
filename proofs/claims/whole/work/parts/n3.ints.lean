/-! sums, products and remainders of ints within bounds -/
theorem i32_lo (x : Int32) : -2147483648 ≤ x.toInt := Int32.minValue_le_toInt x
theorem i32_hi (x : Int32) : x.toInt ≤ 2147483647 := Int32.toInt_le x
theorem bm32 {n : Int} (h1 : -2147483648 ≤ n) (h2 : n ≤ 2147483647) : n.bmod 4294967296 = n := by
  rw [Int.bmod_eq_of_le]
  · omega
  · omega
theorem i32_add {x y : Int32} (h1 : -2147483648 ≤ x.toInt + y.toInt) (h2 : x.toInt + y.toInt ≤ 2147483647) : (x + y).toInt = x.toInt + y.toInt := by
  rw [Int32.toInt_add]
  exact bm32 h1 h2
theorem i32_sub {x y : Int32} (h1 : -2147483648 ≤ x.toInt - y.toInt) (h2 : x.toInt - y.toInt ≤ 2147483647) : (x - y).toInt = x.toInt - y.toInt := by
  rw [Int32.toInt_sub]
  exact bm32 h1 h2
theorem i32_mul {x y : Int32} (h1 : -2147483648 ≤ x.toInt * y.toInt) (h2 : x.toInt * y.toInt ≤ 2147483647) : (x * y).toInt = x.toInt * y.toInt := by
  rw [Int32.toInt_mul]
  exact bm32 h1 h2
theorem i32_neg {x : Int32} (h1 : -2147483647 ≤ x.toInt) : (-x).toInt = -x.toInt := by
  rw [Int32.toInt_neg]
  have := i32_hi x
  exact bm32 (by omega) (by omega)
theorem tdiv_le {x y : Int} (hy : 1 ≤ y) : (0 ≤ x → 0 ≤ x.tdiv y ∧ x.tdiv y ≤ x) ∧ (x ≤ 0 → x ≤ x.tdiv y ∧ x.tdiv y ≤ 0) := by
  constructor
  · intro h
    exact ⟨Int.tdiv_nonneg h (by omega), Int.tdiv_le_self y h⟩
  · intro h
    have e : x.tdiv y = -((-x).tdiv y) := by rw [Int.neg_tdiv, Int.neg_neg]
    have h1 := Int.tdiv_nonneg (show 0 ≤ -x by omega) (show 0 ≤ y by omega)
    have h2 := Int.tdiv_le_self y (show 0 ≤ -x by omega)
    omega
theorem i32_div {x y : Int32} (hy : 1 ≤ y.toInt) : (x / y).toInt = x.toInt.tdiv y.toInt := by
  rw [Int32.toInt_div]
  have h1 := i32_lo x
  have h2 := i32_hi x
  have h3 := tdiv_le (x := x.toInt) hy
  refine bm32 ?_ ?_
  · rcases Int.le_total 0 x.toInt with h | h
    · have := (h3.1 h).1; omega
    · have := (h3.2 h).1; omega
  · rcases Int.le_total 0 x.toInt with h | h
    · have := (h3.1 h).2; omega
    · have := (h3.2 h).2; omega
theorem i32_rem {x y : Int32} (hy : 1 ≤ y.toInt) : (x - x / y * y).toInt = x.toInt.tmod y.toInt := by
  have h1 := i32_lo x
  have h2 := i32_hi x
  have hd := i32_div (x := x) hy
  have hm := Int.tmod_add_mul_tdiv x.toInt y.toInt
  have hc : y.toInt * x.toInt.tdiv y.toInt = x.toInt.tdiv y.toInt * y.toInt := Int.mul_comm _ _
  have hb : (0 ≤ x.toInt → 0 ≤ x.toInt.tmod y.toInt ∧ x.toInt.tmod y.toInt ≤ x.toInt) ∧ (x.toInt ≤ 0 → x.toInt ≤ x.toInt.tmod y.toInt ∧ x.toInt.tmod y.toInt ≤ 0) := by
    constructor
    · intro h
      refine ⟨Int.tmod_nonneg _ h, ?_⟩
      have := Int.mul_nonneg ((tdiv_le hy).1 h).1 (show 0 ≤ y.toInt by omega)
      omega
    · intro h
      have := Int.mul_nonneg (show 0 ≤ -(x.toInt.tdiv y.toInt) by have := ((tdiv_le hy).2 h).2; omega) (show 0 ≤ y.toInt by omega)
      rw [Int.neg_mul] at this
      refine ⟨by omega, ?_⟩
      have h5 := Int.tmod_nonneg y.toInt (show 0 ≤ -x.toInt by omega)
      rw [Int.neg_tmod] at h5
      omega
  have hmul : (x / y * y).toInt = x.toInt.tdiv y.toInt * y.toInt := by
    have : (x / y * y).toInt = (x / y).toInt * y.toInt := by
      refine i32_mul ?_ ?_ <;> rw [hd] <;> rcases Int.le_total 0 x.toInt with h | h
      · have := (hb.1 h).1; have := (hb.1 h).2; omega
      · have := (hb.2 h).1; have := (hb.2 h).2; omega
      · have := (hb.1 h).1; have := (hb.1 h).2; omega
      · have := (hb.2 h).1; have := (hb.2 h).2; omega
    rw [this, hd]
  have : (x - x / y * y).toInt = x.toInt - (x / y * y).toInt := by
    refine i32_sub ?_ ?_ <;> rw [hmul] <;> rcases Int.le_total 0 x.toInt with h | h
    · have := (hb.1 h).1; have := (hb.1 h).2; omega
    · have := (hb.2 h).1; have := (hb.2 h).2; omega
    · have := (hb.1 h).1; have := (hb.1 h).2; omega
    · have := (hb.2 h).1; have := (hb.2 h).2; omega
  rw [this, hmul]
  omega
theorem tmod_b {x y : Int} (hy : 1 ≤ y) : (0 ≤ x → 0 ≤ x.tmod y) ∧ x.tmod y ≤ y - 1 ∧ -(y - 1) ≤ x.tmod y := by
  have h1 := Int.tmod_lt_of_pos x (show 0 < y by omega)
  refine ⟨fun h => Int.tmod_nonneg _ h, by omega, ?_⟩
  rcases Int.le_total 0 x with h | h
  · have := Int.tmod_nonneg y h; omega
  · have h5 := Int.tmod_lt_of_pos (-x) (show 0 < y by omega)
    rw [Int.neg_tmod] at h5
    omega
theorem i32_ne0 {y : Int32} (h : 1 ≤ y.toInt) : ¬ y = 0 := by
  intro e
  subst e
  exact absurd h (by decide)
def iabs (x : Int) : Int := if 0 ≤ x then x else -x
def mag (q : IV) : Int := if iabs q.1 ≤ iabs q.2 then iabs q.2 else iabs q.1
theorem mag_ok {q : IV} {x : Int} (h1 : q.1 ≤ x) (h2 : x ≤ q.2) : 0 ≤ mag q ∧ -mag q ≤ x ∧ x ≤ mag q := by
  unfold mag iabs
  split <;> split <;> (try split) <;> omega
theorem mul_mag {x y a b : Int} (ha : 0 ≤ a) (hb : 0 ≤ b) (h1 : -a ≤ x) (h2 : x ≤ a) (h3 : -b ≤ y) (h4 : y ≤ b) : -(a * b) ≤ x * y ∧ x * y ≤ a * b := by
  have key : ∀ x y : Int, 0 ≤ x → x ≤ a → 0 ≤ y → y ≤ b → 0 ≤ x * y ∧ x * y ≤ a * b := fun x y h1 h2 h3 h4 => ⟨Int.mul_nonneg h1 h3, Int.mul_le_mul h2 h4 h3 ha⟩
  rcases Int.le_total 0 x with hx | hx <;> rcases Int.le_total 0 y with hy | hy
  · have := key x y hx h2 hy h4; omega
  · have := key x (-y) hx h2 (by omega) (by omega); rw [Int.mul_neg] at this; omega
  · have := key (-x) y (by omega) (by omega) hy h4; rw [Int.neg_mul] at this; omega
  · have := key (-x) (-y) (by omega) (by omega) (by omega) (by omega); rw [Int.neg_mul, Int.mul_neg, Int.neg_neg] at this; omega
/-! the abstract answer of an int operation: a known form, or an interval -/
def inR (q : IV) : Bool := decide (-2147483648 ≤ q.1) && decide (q.2 ≤ 2147483647)
def ivR (q : IV) : IV := if inR q = true then q else ivT
def addC (sy : List IV) (a : AS) (d : Int) : AS ⊕ IV := match a with
  | .inl (o, c) => if inR ((ivS sy a).1 + d, (ivS sy a).2 + d) = true then .inl (.inl (o, c + d)) else .inr ivT
  | .inr _ => .inr ivT
def opI (sy : List IV) (i : Instr) (a b : AS) : Option (AS ⊕ IV) := match i with
  | .iadd => match a, b with
    | _, .inl (none, d) => some (addC sy a d)
    | .inl (none, d), _ => some (addC sy b d)
    | _, _ => some (.inr (ivR ((ivS sy a).1 + (ivS sy b).1, (ivS sy a).2 + (ivS sy b).2)))
  | .isub => match b with
    | .inl (none, d) => some (addC sy a (-d))
    | _ => some (.inr (ivR ((ivS sy a).1 - (ivS sy b).2, (ivS sy a).2 - (ivS sy b).1)))
  | .imul => if 0 ≤ (ivS sy a).1 ∧ 0 ≤ (ivS sy b).1 then some (.inr (ivR (0, (ivS sy a).2 * (ivS sy b).2))) else some (.inr (ivR (-(mag (ivS sy a) * mag (ivS sy b)), mag (ivS sy a) * mag (ivS sy b))))
  | .idiv => if 1 ≤ (ivS sy b).1 then some (.inr (if 0 ≤ (ivS sy a).1 then 0 else (ivS sy a).1, if 0 ≤ (ivS sy a).2 then (ivS sy a).2 else 0)) else none
  | .irem => if 1 ≤ (ivS sy b).1 then some (.inr (if 0 ≤ (ivS sy a).1 then 0 else -((ivS sy b).2 - 1), (ivS sy b).2 - 1)) else none
  | .iand | .ior | .ixor | .ishl | .ishr | .iushr => some (.inr ivT)
  | _ => none
def gR (KO : List Nat) (ν : List Int) (ρs : List Nat) (x : Int32) : AS ⊕ IV → Prop
  | .inl a => gS KO ν ρs a (.int x)
  | .inr q => q.1 ≤ x.toInt ∧ x.toInt ≤ q.2
theorem ivT_ok (x : Int32) : ivT.1 ≤ x.toInt ∧ x.toInt ≤ ivT.2 := ⟨i32_lo x, i32_hi x⟩
theorem inR_ok {q : IV} (h : inR q = true) : -2147483648 ≤ q.1 ∧ q.2 ≤ 2147483647 := by
  simpa [inR] using h
theorem addC_ok {KO : List Nat} {sy : List IV} {ν : List Int} {ρs : List Nat} (hν : ∀ (j : Nat) (iv : IV), sy[j]? = some iv → ∃ n, ν[j]? = some n ∧ iv.1 ≤ n ∧ n ≤ iv.2) {a : AS} {x y : Int32} {d : Int} (ha : gS KO ν ρs a (.int x)) (hy : y.toInt = d) : gR KO ν ρs (x + y) (addC sy a d) := by
  have hb := ivS_ok hν ha
  unfold addC
  split
  · next o c =>
    split
    · next hr =>
      have hr := inR_ok hr
      dsimp only at hr
      have e : (x + y).toInt = x.toInt + y.toInt := i32_add (by omega) (by omega)
      match o, ha with
      | none, ha =>
        obtain ⟨z, e1, e2⟩ := ha
        cases e1
        exact ⟨_, rfl, by rw [e]; omega⟩
      | some j, ha =>
        obtain ⟨z, n, e1, e2, e3⟩ := ha
        cases e1
        exact ⟨_, n, rfl, e2, by rw [e]; omega⟩
    · exact ivT_ok _
  · exact ivT_ok _
theorem ivR_ok {q : IV} {x : Int32} (h : inR q = true → q.1 ≤ x.toInt ∧ x.toInt ≤ q.2) : (ivR q).1 ≤ x.toInt ∧ x.toInt ≤ (ivR q).2 := by
  unfold ivR
  split
  · next hq => exact h hq
  · exact ivT_ok x
theorem opI_ok {KO : List Nat} {sy : List IV} {ν : List Int} {ρs : List Nat} (hν : ∀ (j : Nat) (iv : IV), sy[j]? = some iv → ∃ n, ν[j]? = some n ∧ iv.1 ≤ n ∧ n ≤ iv.2) {i : Instr} {a b : AS} {x y : Int32} {q : AS ⊕ IV} (ha : gS KO ν ρs a (.int x)) (hb : gS KO ν ρs b (.int y)) (h : opI sy i a b = some q) : ∃ v, bI i x y = some v ∧ gR KO ν ρs v q := by
  have qa := ivS_ok hν ha
  have qb := ivS_ok hν hb
  unfold opI at h
  split at h
  · refine ⟨x + y, rfl, ?_⟩
    split at h
    · cases h
      obtain ⟨z, e1, e2⟩ := hb
      cases e1
      exact addC_ok hν ha e2
    · cases h
      obtain ⟨z, e1, e2⟩ := ha
      cases e1
      rw [Int32.add_comm]
      exact addC_ok hν hb e2
    · cases h
      refine ivR_ok (fun hr => ?_)
      have hr := inR_ok hr
      dsimp only at hr ⊢
      rw [i32_add (by omega) (by omega)]
      omega
  · refine ⟨x - y, rfl, ?_⟩
    split at h
    · next d =>
      cases h
      obtain ⟨z, e1, e2⟩ := hb
      cases e1
      by_cases hm : -2147483647 ≤ y.toInt
      · have : x - y = x + (-y) := Int32.sub_eq_add_neg x y
        rw [this]
        exact addC_ok hν ha (by rw [i32_neg hm, e2])
      · have hy : d = -2147483648 := by have := i32_lo y; omega
        subst hy
        unfold addC
        split
        · split
          · next hr =>
            have hr := inR_ok hr
            dsimp only at hr
            have e : (x - y).toInt = x.toInt - y.toInt := i32_sub (by omega) (by omega)
            next o c _ =>
            match o, ha with
            | none, ha =>
              obtain ⟨z, e1, e2⟩ := ha
              cases e1
              exact ⟨_, rfl, by rw [e]; omega⟩
            | some j, ha =>
              obtain ⟨z, n, e1, e2, e3⟩ := ha
              cases e1
              exact ⟨_, n, rfl, e2, by rw [e]; omega⟩
          · exact ivT_ok _
        · exact ivT_ok _
    · cases h
      refine ivR_ok (fun hr => ?_)
      have hr := inR_ok hr
      dsimp only at hr ⊢
      rw [i32_sub (by omega) (by omega)]
      omega
  · refine ⟨x * y, rfl, ?_⟩
    split at h
    · next h0 =>
      cases h
      refine ivR_ok (fun hr => ?_)
      have hr := inR_ok hr
      dsimp only at hr ⊢
      have h1 := Int.mul_nonneg (show 0 ≤ x.toInt by omega) (show 0 ≤ y.toInt by omega)
      have h2 := Int.mul_le_mul qa.2 qb.2 (show 0 ≤ y.toInt by omega) (show 0 ≤ (ivS sy a).2 by omega)
      rw [i32_mul (by omega) (by omega)]
      omega
    · cases h
      refine ivR_ok (fun hr => ?_)
      have hr := inR_ok hr
      dsimp only at hr ⊢
      have m1 := mag_ok qa.1 qa.2
      have m2 := mag_ok qb.1 qb.2
      have h1 := mul_mag m1.1 m2.1 m1.2.1 m1.2.2 m2.2.1 m2.2.2
      rw [i32_mul (by omega) (by omega)]
      omega
  · split at h
    · next h1 =>
      cases h
      have hy : 1 ≤ y.toInt := by omega
      refine ⟨x / y, by show (if y = 0 then none else some (x / y)) = _; rw [if_neg (i32_ne0 hy)], ?_⟩
      show _ ≤ _ ∧ _ ≤ _
      rw [i32_div hy]
      have := tdiv_le (x := x.toInt) hy
      dsimp only
      rcases Int.le_total 0 x.toInt with hx | hx
      · have := this.1 hx; split <;> split <;> omega
      · have := this.2 hx; split <;> split <;> omega
    · cases h
  · split at h
    · next h1 =>
      cases h
      have hy : 1 ≤ y.toInt := by omega
      refine ⟨x - x / y * y, by show (if y = 0 then none else some (x - x / y * y)) = _; rw [if_neg (i32_ne0 hy)], ?_⟩
      show _ ≤ _ ∧ _ ≤ _
      rw [i32_rem hy]
      have := tmod_b (x := x.toInt) hy
      dsimp only
      split
      · have := this.1 (by omega); omega
      · omega
    · cases h
  · cases h; exact ⟨_, rfl, ivT_ok _⟩
  · cases h; exact ⟨_, rfl, ivT_ok _⟩
  · cases h; exact ⟨_, rfl, ivT_ok _⟩
  · cases h; exact ⟨_, rfl, ivT_ok _⟩
  · cases h; exact ⟨_, rfl, ivT_ok _⟩
  · cases h; exact ⟨_, rfl, ivT_ok _⟩
  · cases h
