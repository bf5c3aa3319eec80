/-! numbers: naturals as ints, sums and products that stay in bounds; loops as folds -/
def nJ (i : Nat) : Int32 := Int32.ofNat i
theorem nJ_lit (n : Nat) : (OfNat.ofNat n : Int32) = nJ n := rfl
theorem nJ_toInt {i : Nat} (h : i < 2147483648) : (nJ i).toInt = i := Int32.toInt_ofNat_of_lt h
theorem nJ_ix {i : Nat} (h : i < 2147483648) : (nJ i).toNatClampNeg = i := Int32.toNatClampNeg_ofNat_of_lt h
theorem nJ_add (i j : Nat) : nJ i + nJ j = nJ (i + j) := (Int32.ofNat_add i j).symm
theorem nJ_mul (i j : Nat) : nJ i * nJ j = nJ (i * j) := (Int32.ofNat_mul i j).symm
theorem nJ_sub {i j : Nat} (h : j ≤ i) : nJ i - nJ j = nJ (i - j) := (Int32.ofNat_sub i j h).symm
theorem nJ_lt {i j : Nat} (hi : i < 2147483648) (hj : j < 2147483648) : nJ i < nJ j ↔ i < j := Int32.ofNat_lt_iff_lt hi hj
theorem nJ_eq {i j : Nat} (hi : i < 2147483648) (hj : j < 2147483648) : nJ i = nJ j ↔ i = j := by
  constructor
  · intro h
    have := congrArg Int32.toInt h
    rw [nJ_toInt hi, nJ_toInt hj] at this
    omega
  · intro h; rw [h]
theorem nJ_of {x : Int32} (h : 0 ≤ x.toInt) : x = nJ x.toNatClampNeg := by
  apply Int32.toInt_inj.mp
  have h1 : x.toNatClampNeg = x.toInt.toNat := rfl
  have h2 := Int32.toInt_le x
  have h2 : x.toInt ≤ 2147483647 := h2
  rw [nJ_toInt (by omega), h1]
  omega
theorem nJ_inB {i n : Nat} (h : i < n) (hn : n < 2147483648) : inB (nJ i) n := by
  unfold inB
  rw [nJ_toInt (by omega)]
  omega
theorem bm {n : Int} {m : Nat} (h1 : -(m / 2 : Int) ≤ n) (h2 : n < (m / 2 : Int)) : n.bmod m = n := Int.bmod_eq_of_le (by omega) (by omega)
theorem iadd_t {x y : Int32} (h1 : -2147483648 ≤ x.toInt + y.toInt) (h2 : x.toInt + y.toInt ≤ 2147483647) : (x + y).toInt = x.toInt + y.toInt := by
  rw [Int32.toInt_add]
  exact bm (m := 2 ^ 32) (by omega) (by omega)
theorem isub_t {x y : Int32} (h1 : -2147483648 ≤ x.toInt - y.toInt) (h2 : x.toInt - y.toInt ≤ 2147483647) : (x - y).toInt = x.toInt - y.toInt := by
  rw [Int32.toInt_sub]
  exact bm (m := 2 ^ 32) (by omega) (by omega)
theorem imul_t {x y : Int32} (h1 : -2147483648 ≤ x.toInt * y.toInt) (h2 : x.toInt * y.toInt ≤ 2147483647) : (x * y).toInt = x.toInt * y.toInt := by
  rw [Int32.toInt_mul]
  exact bm (m := 2 ^ 32) (by omega) (by omega)
theorem ladd_t {x y : Int64} (h1 : -9223372036854775808 ≤ x.toInt + y.toInt) (h2 : x.toInt + y.toInt ≤ 9223372036854775807) : (x + y).toInt = x.toInt + y.toInt := by
  rw [Int64.toInt_add]
  exact bm (m := 2 ^ 64) (by omega) (by omega)
theorem lsub_t {x y : Int64} (h1 : -9223372036854775808 ≤ x.toInt - y.toInt) (h2 : x.toInt - y.toInt ≤ 9223372036854775807) : (x - y).toInt = x.toInt - y.toInt := by
  rw [Int64.toInt_sub]
  exact bm (m := 2 ^ 64) (by omega) (by omega)
theorem lmul_t {x y : Int64} (h1 : -9223372036854775808 ≤ x.toInt * y.toInt) (h2 : x.toInt * y.toInt ≤ 9223372036854775807) : (x * y).toInt = x.toInt * y.toInt := by
  rw [Int64.toInt_mul]
  exact bm (m := 2 ^ 64) (by omega) (by omega)
/-- a bound on a product -/
theorem mul_bd {a b A B : Int} (h1 : -A ≤ a) (h2 : a ≤ A) (h3 : -B ≤ b) (h4 : b ≤ B) : -(A * B) ≤ a * b ∧ a * b ≤ A * B := by
  have hA : 0 ≤ A := by omega
  have hB : 0 ≤ B := by omega
  have k1 : 0 ≤ (A - a) * (B + b) := Int.mul_nonneg (by omega) (by omega)
  have k2 : 0 ≤ (A + a) * (B - b) := Int.mul_nonneg (by omega) (by omega)
  have k3 : 0 ≤ (A - a) * (B - b) := Int.mul_nonneg (by omega) (by omega)
  have k4 : 0 ≤ (A + a) * (B + b) := Int.mul_nonneg (by omega) (by omega)
  have e1 : (A - a) * (B + b) = A * B + A * b - a * B - a * b := by rw [Int.sub_mul, Int.mul_add, Int.mul_add]; omega
  have e2 : (A + a) * (B - b) = A * B - A * b + a * B - a * b := by rw [Int.add_mul, Int.mul_sub, Int.mul_sub]; omega
  have e3 : (A - a) * (B - b) = A * B - A * b - a * B + a * b := by rw [Int.sub_mul, Int.mul_sub, Int.mul_sub]; omega
  have e4 : (A + a) * (B + b) = A * B + A * b + a * B + a * b := by rw [Int.add_mul, Int.mul_add, Int.mul_add]; omega
  omega
/-- a counted loop as a fold -/
def fr {α : Type} (f : Nat → α → α) : Nat → Nat → α → α
  | _, 0, a => a
  | i, m + 1, a => fr f (i + 1) m (f i a)
theorem fr_loop {α : Type} {f : Nat → α → α} {H : Nat → α → Prop} {J : Nat → α → Prop} {n : Nat} (hs : ∀ i a, i < n → J i a → J (i + 1) (f i a) ∧ (H (i + 1) (f i a) → H i a)) : ∀ (m i : Nat) (a : α), i + m = n → J i a → (J n (fr f i m a) → H n (fr f i m a)) → H i a := by
  intro m
  induction m with
  | zero =>
    intro i a hi hJ hf
    have : i = n := by omega
    subst this
    exact hf hJ
  | succ m ih =>
    intro i a hi hJ hf
    obtain ⟨h1, h2⟩ := hs i a (by omega) hJ
    exact h2 (ih (i + 1) (f i a) (by omega) h1 hf)
theorem fr_inv {α : Type} {f : Nat → α → α} {J : Nat → α → Prop} {n : Nat} (hs : ∀ i a, i < n → J i a → J (i + 1) (f i a)) : ∀ (m i : Nat) (a : α), i + m = n → J i a → J n (fr f i m a) := by
  intro m
  induction m with
  | zero =>
    intro i a hi hJ
    have : i = n := by omega
    subst this
    exact hJ
  | succ m ih =>
    intro i a hi hJ
    exact ih (i + 1) (f i a) (by omega) (hs i a (by omega) hJ)
theorem fr_snoc {α : Type} (f : Nat → α → α) : ∀ (m i : Nat) (a : α), fr f i (m + 1) a = f (i + m) (fr f i m a) := by
  intro m
  induction m with
  | zero => intro i a; rfl
  | succ m ih =>
    intro i a
    show fr f (i + 1) (m + 1) (f i a) = _
    rw [ih]
    show f (i + 1 + m) (fr f (i + 1) m (f i a)) = f (i + (m + 1)) (fr f (i + 1) m (f i a))
    rw [show i + 1 + m = i + (m + 1) by omega]
/-- a counted search -/
def ay (p : Nat → Bool) : Nat → Nat → Bool
  | _, 0 => false
  | i, m + 1 => p i || ay p (i + 1) m
theorem ay_iff (p : Nat → Bool) : ∀ (m i : Nat), ay p i m = true ↔ ∃ j, i ≤ j ∧ j < i + m ∧ p j = true := by
  intro m
  induction m with
  | zero =>
    intro i
    constructor
    · intro h; cases h
    · rintro ⟨j, h1, h2, -⟩; omega
  | succ m ih =>
    intro i
    show (p i || ay p (i + 1) m) = true ↔ _
    rw [Bool.or_eq_true, ih]
    constructor
    · rintro (h | ⟨j, h1, h2, h3⟩)
      · exact ⟨i, Nat.le_refl _, by omega, h⟩
      · exact ⟨j, by omega, by omega, h3⟩
    · rintro ⟨j, h1, h2, h3⟩
      by_cases hj : j = i
      · subst hj; exact Or.inl h3
      · exact Or.inr ⟨j, by omega, by omega, h3⟩
