/-! the JDK's counts of bits and of trailing zeros -/
theorem and_sp {u c : Nat} (hu : u < 256) (hc : c < 256) (v d : Nat) : (u + 256 * v) &&& (c + 256 * d) = (u &&& c) + 256 * (v &&& d) := by
  apply Nat.eq_of_testBit_eq
  intro j
  have hx : (u &&& c) < 2 ^ 8 := Nat.and_lt_two_pow u hc
  rw [Nat.testBit_and, show u + 256 * v = 2 ^ 8 * v + u by omega, show c + 256 * d = 2 ^ 8 * d + c by omega, show (u &&& c) + 256 * (v &&& d) = 2 ^ 8 * (v &&& d) + (u &&& c) by omega, Nat.testBit_two_pow_mul_add v hu, Nat.testBit_two_pow_mul_add d hc, Nat.testBit_two_pow_mul_add (v &&& d) hx]
  by_cases h : j < 8
  · rw [if_pos h, if_pos h, if_pos h, Nat.testBit_and]
  · rw [if_neg h, if_neg h, if_neg h, Nat.testBit_and]
def mk (c : Nat) : Nat → Nat
  | 0 => 0
  | n + 1 => c + 256 * mk c n
def g1 (b : Nat) : Nat := b - ((b / 2) &&& 85)
def g2 (c : Nat) : Nat := (c &&& 51) + ((c / 4) &&& 51)
def g3 (c : Nat) : Nat := (c + c / 16) &&& 15
def st1 (n X : Nat) : Nat := X - ((X / 2) &&& mk 85 n)
def st2 (n X : Nat) : Nat := (X &&& mk 51 n) + ((X / 4) &&& mk 51 n)
def st3 (n X : Nat) : Nat := (X + X / 16) &&& mk 15 n
theorem d1 : ∀ b : Nat, b < 256 → ∀ e : Nat, e < 2 → (b / 2 + 128 * e) &&& 85 = (b / 2) &&& 85 := by decide +kernel
theorem d2 : ∀ c : Nat, c < 256 → ∀ e : Nat, e < 4 → (c / 4 + 64 * e) &&& 51 = (c / 4) &&& 51 := by decide +kernel
theorem d3 : ∀ c : Nat, c < 69 → ∀ e : Nat, e < 5 → (c + c / 16 + 16 * e) &&& 15 = (c + c / 16) &&& 15 := by decide +kernel
theorem dg : ∀ b : Nat, b < 256 → g1 b < 256 ∧ g2 (g1 b) < 69 ∧ g2 (g1 b) % 16 < 5 ∧ g3 (g2 (g1 b)) = pop 8 b := by decide +kernel
theorem st1_s {n b y : Nat} (hb : b < 256) : st1 (n + 1) (b + 256 * y) = g1 b + 256 * st1 n y := by
  unfold st1 g1
  have e : (b + 256 * y) / 2 = (b / 2 + 128 * (y % 2)) + 256 * (y / 2) := by omega
  rw [e, show mk 85 (n + 1) = 85 + 256 * mk 85 n from rfl, and_sp (by omega) (by omega), d1 b hb _ (by omega)]
  have h1 : (b / 2) &&& 85 ≤ b / 2 := Nat.and_le_left
  have h2 : (y / 2) &&& mk 85 n ≤ y / 2 := Nat.and_le_left
  omega
theorem st2_s {n c y : Nat} (hc : c < 256) : st2 (n + 1) (c + 256 * y) = g2 c + 256 * st2 n y := by
  unfold st2 g2
  have e : (c + 256 * y) / 4 = (c / 4 + 64 * (y % 4)) + 256 * (y / 4) := by omega
  rw [e, show mk 51 (n + 1) = 51 + 256 * mk 51 n from rfl, and_sp hc (by omega), and_sp (by omega) (by omega), d2 c hc _ (by omega)]
  omega
theorem st3_s {n c y : Nat} (hc : c < 69) (hy : y % 16 < 5) : st3 (n + 1) (c + 256 * y) = g3 c + 256 * st3 n y := by
  unfold st3 g3
  have e : (c + 256 * y) + (c + 256 * y) / 16 = (c + c / 16 + 16 * (y % 16)) + 256 * (y + y / 16) := by omega
  rw [e, show mk 15 (n + 1) = 15 + 256 * mk 15 n from rfl, and_sp (by omega) (by omega), d3 c hc _ hy]
def st (n X : Nat) : Nat := st3 n (st2 n (st1 n X))
theorem st_lo : ∀ n X : Nat, X < 256 ^ n → st2 n (st1 n X) % 16 < 5
  | 0, X, h => by
    have : X = 0 := by simpa using h
    subst this
    show st2 0 (st1 0 0) % 16 < 5
    decide
  | n + 1, X, h => by
    have e : X = X % 256 + 256 * (X / 256) := by omega
    have hb : X % 256 < 256 := Nat.mod_lt _ (by omega)
    rw [e, st1_s hb, st2_s (dg _ hb).1]
    have := (dg _ hb).2.2.1
    omega
theorem st_s {n X : Nat} (h : X < 256 ^ (n + 1)) : st (n + 1) X = pop 8 (X % 256) + 256 * st n (X / 256) := by
  have e : X = X % 256 + 256 * (X / 256) := by omega
  have hb : X % 256 < 256 := Nat.mod_lt _ (by omega)
  have hy : X / 256 < 256 ^ n := by
    rw [Nat.pow_succ] at h
    exact Nat.div_lt_of_lt_mul (by rw [Nat.mul_comm]; exact h)
  obtain ⟨a1, a2, a3, a4⟩ := dg _ hb
  unfold st
  rw [show st1 (n + 1) X = st1 (n + 1) (X % 256 + 256 * (X / 256)) by rw [← e], st1_s hb, st2_s a1, st3_s a2 (st_lo n _ hy), a4]
theorem pop_sp : ∀ (k f b y : Nat), b < 2 ^ k → pop (k + f) (b + 2 ^ k * y) = pop k b + pop f y
  | 0, f, b, y, h => by
    have : b = 0 := by simpa using h
    subst this
    show pop (0 + f) (0 + 2 ^ 0 * y) = 0 + pop f y
    simp
  | k + 1, f, b, y, h => by
    rw [show k + 1 + f = (k + f) + 1 by omega]
    show (b + 2 ^ (k + 1) * y) % 2 + pop (k + f) ((b + 2 ^ (k + 1) * y) / 2) = (b % 2 + pop k (b / 2)) + pop f y
    have e : 2 ^ (k + 1) * y = 2 * (2 ^ k * y) := by rw [Nat.pow_succ, Nat.mul_comm (2 ^ k) 2, Nat.mul_assoc]
    rw [e, show (b + 2 * (2 ^ k * y)) % 2 = b % 2 by omega, show (b + 2 * (2 ^ k * y)) / 2 = b / 2 + 2 ^ k * y by omega, pop_sp k f (b / 2) y (by rw [Nat.pow_succ] at h; omega)]
    omega
theorem pop8_le (b : Nat) : pop 8 b ≤ 8 := pop_le 8 b
/-- eight bytes' counts, and their sum -/
theorem st_8 {X : Nat} (h : X < 2 ^ 64) : ∃ t0 t1 t2 t3 t4 t5 t6 t7 : Nat, (t0 ≤ 8 ∧ t1 ≤ 8 ∧ t2 ≤ 8 ∧ t3 ≤ 8 ∧ t4 ≤ 8 ∧ t5 ≤ 8 ∧ t6 ≤ 8 ∧ t7 ≤ 8) ∧ st 8 X = t0 + 256 * (t1 + 256 * (t2 + 256 * (t3 + 256 * (t4 + 256 * (t5 + 256 * (t6 + 256 * t7)))))) ∧ pop 64 X = t0 + t1 + t2 + t3 + t4 + t5 + t6 + t7 := by
  have step : ∀ n Y : Nat, Y < 256 ^ (n + 1) → Y / 256 < 256 ^ n := fun n Y hY => by
    rw [Nat.pow_succ] at hY
    exact Nat.div_lt_of_lt_mul (by rw [Nat.mul_comm]; exact hY)
  have pp : ∀ f Y : Nat, pop (8 + f) Y = pop 8 (Y % 256) + pop f (Y / 256) := fun f Y => by
    have := pop_sp 8 f (Y % 256) (Y / 256) (Nat.mod_lt _ (by decide))
    rw [show Y % 256 + 2 ^ 8 * (Y / 256) = Y by omega] at this
    exact this
  have h8 : X < 256 ^ 8 := h
  have h7 := step 7 X h8
  have h6 := step 6 _ h7
  have h5 := step 5 _ h6
  have h4 := step 4 _ h5
  have h3 := step 3 _ h4
  have h2 := step 2 _ h3
  have h1 := step 1 _ h2
  have h0 := step 0 _ h1
  refine ⟨pop 8 (X % 256), pop 8 (X / 256 % 256), pop 8 (X / 256 / 256 % 256), pop 8 (X / 256 / 256 / 256 % 256), pop 8 (X / 256 / 256 / 256 / 256 % 256), pop 8 (X / 256 / 256 / 256 / 256 / 256 % 256), pop 8 (X / 256 / 256 / 256 / 256 / 256 / 256 % 256), pop 8 (X / 256 / 256 / 256 / 256 / 256 / 256 / 256 % 256), ⟨pop8_le _, pop8_le _, pop8_le _, pop8_le _, pop8_le _, pop8_le _, pop8_le _, pop8_le _⟩, ?_, ?_⟩
  · rw [st_s h8, st_s h7, st_s h6, st_s h5, st_s h4, st_s h3, st_s h2, st_s h1]
    have : X / 256 / 256 / 256 / 256 / 256 / 256 / 256 / 256 = 0 := by
      have : 256 ^ 0 = 1 := rfl
      omega
    rw [this]
    show _ + 256 * (_ + 256 * (_ + 256 * (_ + 256 * (_ + 256 * (_ + 256 * (_ + 256 * (_ + 256 * st 0 0))))))) = _
    have : st 0 0 = 0 := by decide
    rw [this]
    omega
  · have z0 : ∀ y, pop 0 y = 0 := fun _ => rfl
    have p0 : pop 64 (X) = pop 8 (X % 256) + pop 56 (X / 256) := pp 56 _
    have p1 : pop 56 (X / 256) = pop 8 (X / 256 % 256) + pop 48 (X / 256 / 256) := pp 48 _
    have p2 : pop 48 (X / 256 / 256) = pop 8 (X / 256 / 256 % 256) + pop 40 (X / 256 / 256 / 256) := pp 40 _
    have p3 : pop 40 (X / 256 / 256 / 256) = pop 8 (X / 256 / 256 / 256 % 256) + pop 32 (X / 256 / 256 / 256 / 256) := pp 32 _
    have p4 : pop 32 (X / 256 / 256 / 256 / 256) = pop 8 (X / 256 / 256 / 256 / 256 % 256) + pop 24 (X / 256 / 256 / 256 / 256 / 256) := pp 24 _
    have p5 : pop 24 (X / 256 / 256 / 256 / 256 / 256) = pop 8 (X / 256 / 256 / 256 / 256 / 256 % 256) + pop 16 (X / 256 / 256 / 256 / 256 / 256 / 256) := pp 16 _
    have p6 : pop 16 (X / 256 / 256 / 256 / 256 / 256 / 256) = pop 8 (X / 256 / 256 / 256 / 256 / 256 / 256 % 256) + pop 8 (X / 256 / 256 / 256 / 256 / 256 / 256 / 256) := pp 8 _
    have p7 : pop 8 (X / 256 / 256 / 256 / 256 / 256 / 256 / 256) = pop 8 (X / 256 / 256 / 256 / 256 / 256 / 256 / 256 % 256) + pop 0 (X / 256 / 256 / 256 / 256 / 256 / 256 / 256 / 256) := pp 0 _
    rw [z0] at p7
    omega
/-- the steps on 64 bits -/
def sh (x : Int64) (k : Int32) : Int64 := ((Int64.toUInt64 x) >>> ((Int64.toUInt64 (Int32.toInt64 k)) &&& Int64.toUInt64 63)).toInt64
theorem un_sh (x : Int64) {k : Nat} (hk : k < 64) : un (sh x (nJ k)) = un x / 2 ^ k := by
  unfold un sh
  show (x.toBitVec >>> (UInt64.mod ((Int64.toUInt64 (Int32.toInt64 (nJ k))) &&& Int64.toUInt64 63) 64).toBitVec).toNat = _
  rw [BitVec.ushiftRight_eq', shr_u k hk, BitVec.toNat_ushiftRight, Nat.shiftRight_eq_div_pow]
theorem un_and (x y : Int64) : un (x &&& y) = un x &&& un y := by unfold un; rw [Int64.toBitVec_and, BitVec.toNat_and]
theorem un_add (x y : Int64) : un (x + y) = (un x + un y) % 2 ^ 64 := by unfold un; rw [Int64.toBitVec_add, BitVec.toNat_add]
theorem un_sub {x y : Int64} (h : un y ≤ un x) : un (x - y) = un x - un y := by unfold un at *; rw [Int64.toBitVec_sub, BitVec.toNat_sub_of_le h]
def bc1 (x : Int64) : Int64 := x - (sh x 1 &&& 6148914691236517205)
def bc2 (x : Int64) : Int64 := (x &&& 3689348814741910323) + (sh x 2 &&& 3689348814741910323)
def bc3 (x : Int64) : Int64 := (x + sh x 4) &&& 1085102592571150095
def bc4 (x : Int64) (k : Int32) : Int64 := x + sh x k
theorem F366_e (x : Int64) : F_366 x = (Int64.toInt32 (bc4 (bc4 (bc4 (bc3 (bc2 (bc1 x))) 8) 16) 32)) &&& 127 := rfl
theorem un_m1 : un 6148914691236517205 = mk 85 8 := by decide +kernel
theorem un_m2 : un 3689348814741910323 = mk 51 8 := by decide +kernel
theorem un_m3 : un 1085102592571150095 = mk 15 8 := by decide +kernel
theorem bc1_t (x : Int64) : un (bc1 x) = st1 8 (un x) := by
  unfold bc1 st1
  have e : un (sh x 1 &&& 6148914691236517205) = (un x / 2) &&& mk 85 8 := by rw [un_and, un_m1, show (1 : Int32) = nJ 1 from rfl, un_sh x (by decide)]
  have l : (un x / 2) &&& mk 85 8 ≤ un x / 2 := Nat.and_le_left
  rw [un_sub (by rw [e]; omega), e]
theorem bc2_t (x : Int64) : un (bc2 x) = st2 8 (un x) := by
  unfold bc2 st2
  rw [un_add, un_and, un_and, un_m2, show (2 : Int32) = nJ 2 from rfl, un_sh x (by decide)]
  have l1 : (un x) &&& mk 51 8 ≤ mk 51 8 := Nat.and_le_right
  have l2 : (un x / 2 ^ 2) &&& mk 51 8 ≤ mk 51 8 := Nat.and_le_right
  have m : mk 51 8 = 3689348814741910323 := by decide +kernel
  rw [Nat.mod_eq_of_lt (by omega)]
theorem bc3_t (x : Int64) (h : un x ≤ 4919131752989213764) : un (bc3 x) = st3 8 (un x) := by
  unfold bc3 st3
  rw [un_and, un_add, un_m3, show (4 : Int32) = nJ 4 from rfl, un_sh x (by decide), Nat.mod_eq_of_lt (by omega)]
theorem st2_le : ∀ n X : Nat, X < 256 ^ n → st2 n (st1 n X) ≤ mk 68 n
  | 0, X, h => by
    have : X = 0 := by simpa using h
    subst this
    decide
  | n + 1, X, h => by
    have e : X = X % 256 + 256 * (X / 256) := by omega
    have hb : X % 256 < 256 := Nat.mod_lt _ (by omega)
    have hy : X / 256 < 256 ^ n := by
      rw [Nat.pow_succ] at h
      exact Nat.div_lt_of_lt_mul (by rw [Nat.mul_comm]; exact h)
    rw [e, st1_s hb, st2_s (dg _ hb).1]
    have := (dg _ hb).2.1
    have := st2_le n _ hy
    show _ ≤ 68 + 256 * mk 68 n
    omega
theorem low7 : ∀ i : Nat, i < 32 → (127#32).getLsbD i = decide (i < 7) := by decide +kernel
theorem i32_low7 (x : Int64) : (Int64.toInt32 x) &&& 127 = nJ (un x % 128) := by
  apply Int32.toBitVec_inj.mp
  apply BitVec.eq_of_getLsbD_eq
  intro i hi
  rw [Int32.toBitVec_and, BitVec.getLsbD_and]
  show ((Int64.toInt32 x).toBitVec.getLsbD i && (127#32).getLsbD i) = (BitVec.ofNat 32 (un x % 128)).getLsbD i
  rw [low7 i hi, BitVec.getLsbD_ofNat, decide_eq_true hi, Bool.true_and, show (128 : Nat) = 2 ^ 7 from rfl, Nat.testBit_mod_two_pow, un_bz]
  have e : (Int64.toInt32 x).toBitVec.getLsbD i = bz x i := by
    show (x.toBitVec.signExtend 32).getLsbD i = _
    rw [BitVec.getLsbD_signExtend, decide_eq_true hi, Bool.true_and, if_pos (by omega)]
    rfl
  rw [e, Bool.and_comm]
theorem F366_t (x : Int64) : F_366 x = nJ (pn x) := by
  rw [F366_e, i32_low7]
  refine congrArg nJ ?_
  have hx : un x < 2 ^ 64 := un_lt x
  obtain ⟨t0, t1, t2, t3, t4, t5, t6, t7, hb, e1, e2⟩ := st_8 hx
  have s3 : un (bc3 (bc2 (bc1 x))) = st 8 (un x) := by
    have h2 : un (bc2 (bc1 x)) = st2 8 (st1 8 (un x)) := by rw [bc2_t, bc1_t]
    have le := st2_le 8 (un x) hx
    have m : mk 68 8 = 4919131752989213764 := by decide +kernel
    rw [bc3_t _ (by rw [h2]; omega), h2]
    rfl
  rw [e1] at s3
  show _ = pop 64 (un x)
  rw [e2]
  generalize bc3 (bc2 (bc1 x)) = y at *
  obtain ⟨b0, b1, b2, b3, b4, b5, b6, b7⟩ := hb
  have s4 : un (bc4 y 8) = (t0 + t1) + 256 * ((t1 + t2) + 256 * ((t2 + t3) + 256 * ((t3 + t4) + 256 * ((t4 + t5) + 256 * ((t5 + t6) + 256 * ((t6 + t7) + 256 * t7)))))) := by
    unfold bc4
    rw [un_add, show (8 : Int32) = nJ 8 from rfl, un_sh y (by decide), s3]
    omega
  generalize bc4 y 8 = z at *
  have s5 : un (bc4 z 16) = (t0 + t1 + t2 + t3) + 256 * ((t1 + t2 + t3 + t4) + 256 * ((t2 + t3 + t4 + t5) + 256 * ((t3 + t4 + t5 + t6) + 256 * ((t4 + t5 + t6 + t7) + 256 * ((t5 + t6 + t7) + 256 * ((t6 + t7) + 256 * t7)))))) := by
    unfold bc4
    rw [un_add, show (16 : Int32) = nJ 16 from rfl, un_sh z (by decide), s4, show (2 : Nat) ^ 16 = 65536 from rfl]
    have dv : ∀ L R : Nat, L < 65536 → (L + 65536 * R) / 65536 = R := fun L R h => by omega
    have e := dv ((t0 + t1) + 256 * (t1 + t2)) ((t2 + t3) + 256 * ((t3 + t4) + 256 * ((t4 + t5) + 256 * ((t5 + t6) + 256 * ((t6 + t7) + 256 * t7))))) (by omega)
    rw [show (t0 + t1) + 256 * ((t1 + t2) + 256 * ((t2 + t3) + 256 * ((t3 + t4) + 256 * ((t4 + t5) + 256 * ((t5 + t6) + 256 * ((t6 + t7) + 256 * t7)))))) = (t0 + t1) + 256 * (t1 + t2) + 65536 * ((t2 + t3) + 256 * ((t3 + t4) + 256 * ((t4 + t5) + 256 * ((t5 + t6) + 256 * ((t6 + t7) + 256 * t7))))) by omega, e, Nat.mod_eq_of_lt (by omega)]
    omega
  generalize bc4 z 16 = w at *
  have s6 : un (bc4 w 32) % 128 = t0 + t1 + t2 + t3 + t4 + t5 + t6 + t7 := by
    unfold bc4
    rw [un_add, show (32 : Int32) = nJ 32 from rfl, un_sh w (by decide), s5, show (2 : Nat) ^ 32 = 4294967296 from rfl]
    have dv : ∀ L R : Nat, L < 4294967296 → (L + 4294967296 * R) / 4294967296 = R := fun L R h => by omega
    have e := dv ((t0 + t1 + t2 + t3) + 256 * ((t1 + t2 + t3 + t4) + 256 * ((t2 + t3 + t4 + t5) + 256 * (t3 + t4 + t5 + t6)))) ((t4 + t5 + t6 + t7) + 256 * ((t5 + t6 + t7) + 256 * ((t6 + t7) + 256 * t7))) (by omega)
    rw [show (t0 + t1 + t2 + t3) + 256 * ((t1 + t2 + t3 + t4) + 256 * ((t2 + t3 + t4 + t5) + 256 * ((t3 + t4 + t5 + t6) + 256 * ((t4 + t5 + t6 + t7) + 256 * ((t5 + t6 + t7) + 256 * ((t6 + t7) + 256 * t7)))))) = (t0 + t1 + t2 + t3) + 256 * ((t1 + t2 + t3 + t4) + 256 * ((t2 + t3 + t4 + t5) + 256 * (t3 + t4 + t5 + t6))) + 4294967296 * ((t4 + t5 + t6 + t7) + 256 * ((t5 + t6 + t7) + 256 * ((t6 + t7) + 256 * t7))) by omega, e, Nat.mod_mod_of_dvd _ (show 128 ∣ 2 ^ 64 from ⟨144115188075855872, rfl⟩)]
    have md : ∀ L Z X : Nat, L < 128 → X = L + 256 * Z → X % 128 = L := fun L Z X h e => by omega
    refine md _ (((t1 + t2 + t3 + t4) + 256 * ((t2 + t3 + t4 + t5) + 256 * (t3 + t4 + t5 + t6))) + 16777216 * ((t4 + t5 + t6 + t7) + 256 * ((t5 + t6 + t7) + 256 * ((t6 + t7) + 256 * t7))) + ((t5 + t6 + t7) + 256 * ((t6 + t7) + 256 * t7))) _ (by omega) ?_
    omega
  exact s6
theorem F364_d : ∀ a : Nat, a < 64 → ∀ b : Nat, b < 64 → F_364 (nJ (64 * a + b)) = nJ (pop 12 (64 * a + b)) := by decide +kernel
theorem F364_t (a : Nat) (h : a < 4096) : F_364 (nJ a) = nJ (pop 12 a) := by
  have := F364_d (a / 64) (by omega) (a % 64) (by omega)
  rw [show 64 * (a / 64) + a % 64 = a by omega] at this
  exact this
theorem ic_t {a : Nat} (h : a < 4096) : F_364 (nJ a) = F_218 (Int32.toInt64 (nJ a)) := by
  rw [F364_t a h]
  show nJ (pop 12 a) = nJ (pop 64 (un (Int32.toInt64 (nJ a))))
  refine congrArg nJ ?_
  have e : un (Int32.toInt64 (nJ a)) = a := by
    have z : (Int32.toInt64 (nJ a)).toInt = a := by rw [Int32.toInt_toInt64, nJ_toInt (by omega)]
    unfold un
    have z2 : ((Int32.toInt64 (nJ a)).toBitVec).toInt = a := z
    rw [BitVec.toInt_eq_toNat_cond] at z2
    have := un_lt (Int32.toInt64 (nJ a))
    unfold un at this
    split at z2 <;> omega
  rw [e]
  have := pop_sp 12 52 a 0 h
  have ea : a + 2 ^ 12 * 0 = a := by omega
  rw [ea] at this
  have z : pop 52 0 = 0 := pop_0 52
  rw [show (64 : Nat) = 12 + 52 from rfl, this, z]
  rfl
/-- trailing zeros -/
theorem dz : ∀ k : Nat, k < 32 → F_363 (nJ (2 ^ k)) = nJ k := by decide +kernel
theorem low_i {B : BitVec 32} {k : Nat} (hk : k < 32) (h1 : B.getLsbD k = true) (h0 : ∀ j, j < k → B.getLsbD j = false) : ∀ j, j < 32 → ((B ^^^ (-1#32)) &&& (B - 1#32)).getLsbD j = decide (j < k) := by
  intro j hj
  have N1 : B.toNat / 2 ^ k % 2 = 1 := by
    have : B.toNat.testBit k = true := h1
    rw [Nat.testBit_eq_decide_div_mod_eq] at this
    exact of_decide_eq_true this
  have N0 : B.toNat % 2 ^ k = 0 := by
    apply Nat.eq_of_testBit_eq
    intro i
    rw [Nat.testBit_mod_two_pow, Nat.zero_testBit]
    by_cases c : i < k
    · have : B.toNat.testBit i = false := h0 i c
      rw [this, Bool.and_false]
    · rw [decide_eq_false c, Bool.false_and]
  obtain ⟨c, hc⟩ : ∃ c, B.toNat / 2 ^ k = 2 * c + 1 := ⟨B.toNat / 2 ^ k / 2, by omega⟩
  have eN : B.toNat = 2 ^ (k + 1) * c + 2 ^ k := by
    have := Nat.div_add_mod B.toNat (2 ^ k)
    rw [N0, hc, Nat.add_zero, Nat.mul_add, Nat.mul_one, ← Nat.mul_assoc, ← Nat.pow_succ] at this
    exact this.symm
  have pk : 0 < 2 ^ k := Nat.two_pow_pos k
  have lt1 : 2 ^ k < 2 ^ (k + 1) := by rw [Nat.pow_succ]; omega
  have e1 : (B - 1#32).toNat = 2 ^ (k + 1) * c + (2 ^ k - 1) := by
    rw [BitVec.toNat_sub_of_le (by show 1 ≤ B.toNat; omega)]
    show B.toNat - 1 = _
    omega
  have b1 : B.getLsbD j = if j < k + 1 then decide (j = k) else c.testBit (j - (k + 1)) := by
    show B.toNat.testBit j = _
    rw [eN, Nat.testBit_two_pow_mul_add c lt1]
    by_cases q : j < k + 1
    · rw [if_pos q, if_pos q, Nat.testBit_two_pow]
      by_cases e : j = k
      · subst e; simp
      · rw [decide_eq_false e, decide_eq_false (fun z => e z.symm)]
    · rw [if_neg q, if_neg q]
  have b2 : (B - 1#32).getLsbD j = if j < k + 1 then decide (j < k) else c.testBit (j - (k + 1)) := by
    show (B - 1#32).toNat.testBit j = _
    rw [e1, Nat.testBit_two_pow_mul_add c (by omega)]
    by_cases q : j < k + 1
    · rw [if_pos q, if_pos q, Nat.testBit_two_pow_sub_one]
    · rw [if_neg q, if_neg q]
  rw [BitVec.getLsbD_and, BitVec.getLsbD_xor, b1, b2]
  have m1 : (-1#32).getLsbD j = true := by
    have : ∀ j : Nat, j < 32 → (-1#32).getLsbD j = true := by decide +kernel
    exact this j hj
  rw [m1]
  by_cases q : j < k + 1
  · rw [if_pos q, if_pos q]
    by_cases e : j = k
    · subst e; simp
    · simp [e]
  · rw [if_neg q, if_neg q, decide_eq_false (show ¬ j < k by omega)]
    cases c.testBit (j - (k + 1)) <;> rfl
theorem F363_lo {w : Int32} {k : Nat} (hk : k < 32) (h1 : w.toBitVec.getLsbD k = true) (h0 : ∀ j, j < k → w.toBitVec.getLsbD j = false) : F_363 w = nJ k := by
  have e : (w ^^^ (-1)) &&& (w - 1) = (nJ (2 ^ k) ^^^ (-1)) &&& (nJ (2 ^ k) - 1) := by
    apply Int32.toBitVec_inj.mp
    apply BitVec.eq_of_getLsbD_eq
    intro j hj
    have a := low_i hk h1 h0 j hj
    have b := low_i (B := (nJ (2 ^ k)).toBitVec) hk (by
      have : ∀ k : Nat, k < 32 → (nJ (2 ^ k)).toBitVec.getLsbD k = true := by decide +kernel
      exact this k hk) (by
      have : ∀ k : Nat, k < 32 → ∀ j : Nat, j < k → (nJ (2 ^ k)).toBitVec.getLsbD j = false := by decide +kernel
      exact this k hk) j hj
    exact a.trans b.symm
  rw [← dz k hk]
  unfold F_363
  rw [e]
theorem i32_bit (x : Int64) {i : Nat} (hi : i < 32) : (Int64.toInt32 x).toBitVec.getLsbD i = bz x i := by
  show (x.toBitVec.signExtend 32).getLsbD i = _
  rw [BitVec.getLsbD_signExtend, decide_eq_true hi, Bool.true_and, if_pos (by omega)]
  rfl
theorem F365_lo {x : Int64} {k : Nat} (hk : k < 64) (h1 : bz x k = true) (h0 : ∀ j, j < k → bz x j = false) : F_365 x = nJ k := by
  unfold F_365
  by_cases c : k < 32
  · have nz : ¬ Int64.toInt32 x = 0 := fun z => by
      have := i32_bit x c
      rw [z, h1] at this
      have z0 : ∀ k : Nat, k < 32 → (0 : Int32).toBitVec.getLsbD k = false := by decide +kernel
      rw [z0 k c] at this
      cases this
    rw [if_neg nz]
    exact F363_lo c (by rw [i32_bit x c]; exact h1) (fun j hj => by rw [i32_bit x (by omega)]; exact h0 j hj)
  · have z : Int64.toInt32 x = 0 := by
      apply Int32.toBitVec_inj.mp
      apply BitVec.eq_of_getLsbD_eq
      intro j hj
      rw [i32_bit x hj, h0 j (by omega)]
      have z0 : ∀ k : Nat, k < 32 → (0 : Int32).toBitVec.getLsbD k = false := by decide +kernel
      exact (z0 j hj).symm
    rw [if_pos z]
    have eb : ∀ j, j < 32 → (Int64.toInt32 (sh x (nJ 32))).toBitVec.getLsbD j = bz x (32 + j) := fun j hj => by
      rw [i32_bit _ hj]
      unfold bz sh
      show (x.toBitVec >>> (UInt64.mod ((Int64.toUInt64 (Int32.toInt64 (nJ 32))) &&& Int64.toUInt64 63) 64).toBitVec).getLsbD j = _
      rw [BitVec.ushiftRight_eq', shr_u 32 (by decide), BitVec.getLsbD_ushiftRight]
    have : F_363 (Int64.toInt32 (sh x (nJ 32))) = nJ (k - 32) := F363_lo (by omega) (by rw [eb _ (by omega), show 32 + (k - 32) = k by omega]; exact h1) (fun j hj => by rw [eb _ (by omega)]; exact h0 _ (by omega))
    show 32 + F_363 (Int64.toInt32 (sh x (nJ 32))) = nJ k
    rw [this, show (32 : Int32) = nJ 32 from rfl, nJ_add]
    congr 1
    omega
