/-! sets of points as bits of a long; counting them -/
def bz (x : Int64) (i : Nat) : Bool := x.toBitVec.getLsbD i
theorem bz_ext {x y : Int64} (h : ∀ i, i < 64 → bz x i = bz y i) : x = y := Int64.toBitVec_inj.mp (BitVec.eq_of_getLsbD_eq (fun i hi => h i hi))
theorem bz_or (x y : Int64) (i : Nat) : bz (x ||| y) i = (bz x i || bz y i) := by unfold bz; rw [Int64.toBitVec_or, BitVec.getLsbD_or]
theorem bz_and (x y : Int64) (i : Nat) : bz (x &&& y) i = (bz x i && bz y i) := by unfold bz; rw [Int64.toBitVec_and, BitVec.getLsbD_and]
theorem bz_xor (x y : Int64) (i : Nat) : bz (x ^^^ y) i = (bz x i ^^ bz y i) := by unfold bz; rw [Int64.toBitVec_xor, BitVec.getLsbD_xor]
theorem bz_big {x : Int64} {i : Nat} (h : 64 ≤ i) : bz x i = false := BitVec.getLsbD_of_ge _ _ h
theorem bz_m1 : ∀ i, i < 64 → bz (-1) i = true := by decide +kernel
theorem bz_0 (i : Nat) : bz 0 i = false := BitVec.getLsbD_zero
theorem bz_1 : ∀ i, i < 64 → bz 1 i = decide (i = 0) := by decide +kernel
theorem bz_not (x : Int64) {i : Nat} (hi : i < 64) : bz (x ^^^ (-1)) i = !(bz x i) := by rw [bz_xor, bz_m1 i hi]; cases bz x i <;> rfl
theorem shl_1 : ∀ k, k < 64 → ((1 : Int64) <<< ((nJ k).toInt64 &&& 63)).toBitVec = BitVec.twoPow 64 k := by decide +kernel
theorem bz_shl {k : Nat} (hk : k < 64) (i : Nat) : bz ((1 : Int64) <<< (Int32.toInt64 (nJ k) &&& 63)) i = decide (i = k) := by
  unfold bz
  rw [shl_1 k hk, BitVec.getLsbD_twoPow]
  by_cases h : i = k
  · subst h; simp [hk]
  · simp [h]
    exact fun _ e => h e.symm
theorem shr_c : ∀ k, k < 64 → (((nJ k).toInt64 &&& 63).toBitVec.smod 64).toNat = k := by decide +kernel
theorem and_1 (y : Int64) : (y &&& 1) = 1 ↔ bz y 0 = true := by
  constructor
  · intro h
    have := congrArg (fun z => bz z 0) h
    simp only [bz_and, bz_1 0 (by decide)] at this
    simpa using this
  · intro h
    apply bz_ext
    intro i hi
    rw [bz_and, bz_1 i hi]
    by_cases hz : i = 0
    · subst hz; simp [h]
    · simp [hz]
theorem has_t (x : Int64) {k : Nat} (hk : k < 64) : f_217 x (nJ k) = bz x k := by
  unfold f_217
  have e : bz (x >>> (Int32.toInt64 (nJ k) &&& 63)) 0 = bz x k := by
    unfold bz
    rw [Int64.toBitVec_shiftRight]
    show (BitVec.sshiftRight x.toBitVec (((nJ k).toInt64 &&& 63).toBitVec.smod 64).toNat).getLsbD 0 = _
    rw [shr_c k hk, BitVec.getLsbD_sshiftRight]
    simp [hk]
  cases h : bz x k with
  | true => rw [decide_eq_true ((and_1 _).mpr (e.trans h))]
  | false => rw [decide_eq_false (fun q => by rw [(and_1 _).mp q, h] at e; cases e)]
theorem all_c : ∀ P, P < 64 → ∀ i, i < 64 → bz (((1 : Int64) <<< ((nJ P).toInt64 &&& 63)) - 1) i = decide (i < P) := by decide +kernel
theorem all_t {S : ST} {P : Nat} (h : S.1 140 20 = nJ P) (hP : P ≤ 64) {i : Nat} (hi : i < 64) : bz (f_216 S) i = decide (i < P) := by
  unfold f_216
  rw [h]
  by_cases q : P = 64
  · subst q
    rw [if_pos (show nJ 64 = 64 from rfl), bz_m1 i hi, decide_eq_true hi]
  · rw [if_neg (show ¬ nJ P = 64 from fun z => q ((nJ_eq (j := 64) (by omega) (by omega)).mp z))]
    exact all_c P (by omega) i hi
/-- the number of ones -/
def pop : Nat → Nat → Nat
  | 0, _ => 0
  | f + 1, n => n % 2 + pop f (n / 2)
theorem pop_0 : ∀ f, pop f 0 = 0
  | 0 => rfl
  | f + 1 => by
    show 0 % 2 + pop f (0 / 2) = 0
    rw [show 0 / 2 = 0 from rfl, pop_0 f]
theorem pop_le : ∀ f n, pop f n ≤ f
  | 0, _ => Nat.le_refl _
  | f + 1, n => by
    have := pop_le f (n / 2)
    show n % 2 + pop f (n / 2) ≤ f + 1
    omega
theorem pop_pos : ∀ f n, n < 2 ^ f → 0 < n → 0 < pop f n
  | 0, n, h, h' => by simp at h; omega
  | f + 1, n, h, h' => by
    show 0 < n % 2 + pop f (n / 2)
    by_cases q : n % 2 = 0
    · have := pop_pos f (n / 2) (by rw [Nat.pow_succ] at h; omega) (by omega)
      omega
    · omega
theorem pop_dec : ∀ f n, n < 2 ^ f → 0 < n → pop f (n &&& (n - 1)) + 1 = pop f n
  | 0, n, h, h' => by simp at h; omega
  | f + 1, n, h, h' => by
    show (n &&& (n - 1)) % 2 + pop f ((n &&& (n - 1)) / 2) + 1 = n % 2 + pop f (n / 2)
    have hb : (n &&& (n - 1)) % 2 = 0 := by
      have tb : (n &&& (n - 1)).testBit 0 = false := by
        rw [Nat.testBit_and, Nat.testBit_zero, Nat.testBit_zero]
        by_cases q : n % 2 = 1
        · rw [decide_eq_false (show ¬ (n - 1) % 2 = 1 by omega), Bool.and_false]
        · rw [decide_eq_false q, Bool.false_and]
      rw [Nat.testBit_zero] at tb
      have := of_decide_eq_false tb
      omega
    rw [hb, Nat.and_div_two]
    by_cases q : n % 2 = 1
    · have : (n - 1) / 2 = n / 2 := by omega
      rw [this, Nat.and_self]
      omega
    · have : (n - 1) / 2 = n / 2 - 1 := by omega
      rw [this]
      have := pop_dec f (n / 2) (by rw [Nat.pow_succ] at h; omega) (by omega)
      omega
def un (x : Int64) : Nat := x.toBitVec.toNat
theorem un_lt (x : Int64) : un x < 2 ^ 64 := x.toBitVec.isLt
theorem un_0 {x : Int64} : un x = 0 ↔ x = 0 := by
  constructor
  · intro h
    apply Int64.toBitVec_inj.mp
    apply BitVec.eq_of_toNat_eq
    rw [show x.toBitVec.toNat = 0 from h]
    rfl
  · intro h; rw [h]; rfl
theorem un_dec {x : Int64} (h : ¬ x = 0) : un (x &&& (x - 1)) = un x &&& (un x - 1) := by
  have h0 : 0 < un x := Nat.pos_of_ne_zero (fun q => h (un_0.mp q))
  have hl := un_lt x
  unfold un at *
  rw [Int64.toBitVec_and, BitVec.toNat_and]
  congr 1
  rw [Int64.toBitVec_sub, BitVec.toNat_sub]
  show (2 ^ 64 - 1 + x.toBitVec.toNat) % 2 ^ 64 = _
  omega
theorem un_bz (x : Int64) (i : Nat) : (un x).testBit i = bz x i := rfl
theorem ne_bz {x : Int64} (h : ¬ x = 0) : ∃ i, i < 64 ∧ bz x i = true := by
  apply Classical.byContradiction
  intro q
  apply h
  apply bz_ext
  intro i hi
  rw [bz_0]
  cases hb : bz x i with
  | false => rfl
  | true => exact absurd ⟨i, hi, hb⟩ q
def pn (x : Int64) : Nat := pop 64 (un x)
theorem pn_le (x : Int64) : pn x ≤ 64 := pop_le 64 (un x)
theorem pn_0 : pn 0 = 0 := pop_0 64
theorem pn_pos {x : Int64} (h : ¬ x = 0) : 0 < pn x := pop_pos 64 (un x) (un_lt x) (Nat.pos_of_ne_zero (fun z => h (un_0.mp z)))
theorem pn_dec {x : Int64} (h : ¬ x = 0) : pn (x &&& (x - 1)) + 1 = pn x := by
  unfold pn
  rw [un_dec h]
  exact pop_dec 64 (un x) (un_lt x) (Nat.pos_of_ne_zero (fun z => h (un_0.mp z)))
