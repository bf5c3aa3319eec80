/-! the class's state and the reference's: what they have in common; refusals -/
def okR (Sc Sm : ST) : Prop :=
  (∃ b, Sc.1 1 0 = nJ b ∧ Sm.1 140 7 = nJ b ∧ b ≤ 600 ∧ ∀ i, i < b → Sc.1 2 i = Sm.1 144 i ∧ 0 ≤ (Sm.1 144 i).toInt ∧ (Sm.1 144 i).toInt ≤ 255) ∧
  (Sc.1 0 16 = Sm.1 140 8 ∧ Sc.1 0 17 = Sm.1 140 9) ∧
  ((Sm.1 140 1 = 0 ∧ Sc.1 3 0 = 0 ∧ Sc.1 3 1 = 0 ∧ Sc.1 3 2 = 0 ∧ Sc.1 21 0 = 0) ∨ (¬ Sm.1 140 1 = 0 ∧ PR Sc 3 (Sm.1 141) ∧ LC Sc 21 (rL Sm 141) 256)) ∧
  (∃ c o, Sm.1 140 4 = nJ c ∧ Sc.1 47 0 = nJ c ∧ c ≤ 8 ∧ Sc.1 47 1 = nJ o ∧ o < 8 ∧ HR Sc o c (fun k => (sto Sm (1 + k)).1 0) ∧ (Sm.1 140 1 = 0 → c = 0)) ∧
  (∀ j, j < 2 → (Sm.1 143 j = 0 ∧ Sc.1 (121 + 9 * j) 0 = 0) ∨ (¬ Sm.1 143 j = 0 ∧ PR Sc (121 + 9 * j) ((sto Sm (9 + j)).1 0) ∧ ¬ Sm.1 140 1 = 0)) ∧
  ((Sc.1 0 15 = 0 ∧ Sm.1 140 40 = 0) ∨ (¬ Sc.1 0 15 = 0 ∧ ¬ Sm.1 140 40 = 0 ∧ ∀ x, x < 16 → Sc.1 139 x = Sm.1 161 x))
def isE : String := "java/lang/IllegalStateException"
def ixE : String := "java/lang/IndexOutOfBoundsException"
def iaE : String := "java/lang/IllegalArgumentException"
/-- the reference's answer behind a refusal, without one -/
def t0 (S : ST) : ST := wI S 140 0 0
def tt (S : ST) (t : Int32) : ST := wI (wI S 140 0 0) 140 0 t
section Ref
variable {S : ST}
theorem M183_t {v : Int32} (h : S.1 140 0 = 0) (hv : ¬ v = 0) : F_183 true v S = some (true, wI S 140 0 v) := by
  unfold F_183
  rw [if_pos h, if_pos rfl, decide_eq_false hv]
  rfl
theorem M183_f {v : Int32} (h : S.1 140 0 = 0) : F_183 false v S = some (false, S) := by
  unfold F_183
  rw [if_pos h, if_neg (by decide), decide_eq_true h]
  rfl
theorem t0_0 : (t0 S).1 140 0 = 0 := by unfold t0; rw [wI_1, if_pos ⟨rfl, rfl⟩]
theorem t0_o {h k : Nat} (hn : ¬ (h = 140 ∧ k = 0)) : (t0 S).1 h k = S.1 h k := by unfold t0; rw [wI_1, if_neg hn]
theorem t0_r {h : Nat} (hn : ¬ h = 140) : (t0 S).1 h = S.1 h := funext fun k => t0_o (fun z => hn z.1)
theorem t0_2 : (t0 S).2 = S.2 := rfl
theorem tt_2 {t : Int32} : (tt S t).2 = S.2 := rfl
theorem tt_0 {t : Int32} : (tt S t).1 140 0 = t := by unfold tt; rw [wI_1, if_pos ⟨rfl, rfl⟩]
theorem tt_o {t : Int32} {h k : Nat} (hn : ¬ (h = 140 ∧ k = 0)) : (tt S t).1 h k = S.1 h k := by unfold tt; rw [wI_1, if_neg hn, wI_1, if_neg hn]
theorem tt_r {t : Int32} {h : Nat} (hn : ¬ h = 140) : (tt S t).1 h = S.1 h := funext fun k => tt_o (fun z => hn z.1)
theorem M184_n (h : S.1 140 1 = 0) : F_184 S = some (true, tt S 1) := by
  unfold F_184
  rw [decide_eq_true h, M183_t (S := wI S 140 0 0) (t0_0) (by decide), ob_s]
  rfl
theorem M184_y (h : ¬ S.1 140 1 = 0) : F_184 S = some (false, t0 S) := by
  unfold F_184
  rw [decide_eq_false h, M183_f (S := wI S 140 0 0) (t0_0), ob_s]
  rfl
theorem F182_t {v a b : Int32} : F_182 v a b = true ↔ a.toInt ≤ v.toInt ∧ v.toInt ≤ b.toInt := f182_t
/-- an index below a count -/
theorem idx_t {v : Int32} {n : Nat} (hn : n ≤ 100000) : F_182 v 0 (nJ n - 1) = true ↔ ∃ i, i < n ∧ v = nJ i := by
  rw [F182_t]
  have z0 : (0 : Int32).toInt = 0 := rfl
  have z1 : (1 : Int32).toInt = 1 := rfl
  rw [isub_t (by rw [nJ_toInt (by omega), z1]; omega) (by rw [nJ_toInt (by omega), z1]; omega), nJ_toInt (by omega), z0, z1]
  constructor
  · rintro ⟨h1, h2⟩
    refine ⟨v.toNatClampNeg, ?_, nJ_of h1⟩
    have : (v.toNatClampNeg : Int) = v.toInt := by show ((v.toInt.toNat : Nat) : Int) = _; omega
    omega
  · rintro ⟨i, h1, rfl⟩
    rw [nJ_toInt (by omega)]
    omega
theorem rng_t {v : Int32} {m : Nat} (hm : m ≤ 100000) : F_182 v 0 (nJ m) = true ↔ ∃ i, i ≤ m ∧ v = nJ i := by
  rw [F182_t, nJ_toInt (by omega)]
  have z0 : (0 : Int32).toInt = 0 := rfl
  rw [z0]
  constructor
  · rintro ⟨h1, h2⟩
    refine ⟨v.toNatClampNeg, ?_, nJ_of h1⟩
    have : (v.toNatClampNeg : Int) = v.toInt := by show ((v.toInt.toNat : Nat) : Int) = _; omega
    omega
  · rintro ⟨i, h1, rfl⟩
    rw [nJ_toInt (by omega)]
    omega
/-- refusals by an index -/
theorem M225_n {v : Int32} (h : S.1 140 1 = 0) : F_225 v S = some (true, tt S 1) := by
  unfold F_225
  rw [M184_n h, ob_s]
  rfl
theorem M225_i {v : Int32} {n : Nat} (h : ¬ S.1 140 1 = 0) (e : S.1 141 0 = nJ n) (hn : n ≤ 100000) (hv : ¬ ∃ i, i < n ∧ v = nJ i) : F_225 v S = some (true, tt S 2) := by
  have q : F_182 v 0 (nJ n - 1) = false := by rw [← Bool.not_eq_true, idx_t hn]; exact hv
  unfold F_225
  rw [M184_y h, ob_s]
  dsimp only
  rw [if_neg (by decide), t0_r (by decide), e, q, Bool.not_false, M183_t t0_0 (by decide), ob_s]
  rfl
theorem M225_y {n i : Nat} (h : ¬ S.1 140 1 = 0) (e : S.1 141 0 = nJ n) (hn : n ≤ 100000) (hi : i < n) : F_225 (nJ i) S = some (false, t0 S) := by
  have q : F_182 (nJ i) 0 (nJ n - 1) = true := (idx_t hn).mpr ⟨i, hi, rfl⟩
  unfold F_225
  rw [M184_y h, ob_s]
  dsimp only
  rw [if_neg (by decide), t0_r (by decide), e, q, Bool.not_true, M183_f t0_0, ob_s]
theorem M226_n {v : Int32} (h : S.1 140 1 = 0) : F_226 v S = some (true, tt S 1) := by
  unfold F_226
  rw [M184_n h, ob_s]
  rfl
theorem M226_i {v : Int32} {n : Nat} (h : ¬ S.1 140 1 = 0) (e : S.1 140 20 = nJ n) (hn : n ≤ 100000) (hv : ¬ ∃ i, i < n ∧ v = nJ i) : F_226 v S = some (true, tt S 2) := by
  have q : F_182 v 0 (nJ n - 1) = false := by rw [← Bool.not_eq_true, idx_t hn]; exact hv
  unfold F_226
  rw [M184_y h, ob_s]
  dsimp only
  rw [if_neg (by decide), t0_o (by decide), e, q, Bool.not_false, M183_t t0_0 (by decide), ob_s]
  rfl
theorem M226_y {n i : Nat} (h : ¬ S.1 140 1 = 0) (e : S.1 140 20 = nJ n) (hn : n ≤ 100000) (hi : i < n) : F_226 (nJ i) S = some (false, t0 S) := by
  have q : F_182 (nJ i) 0 (nJ n - 1) = true := (idx_t hn).mpr ⟨i, hi, rfl⟩
  unfold F_226
  rw [M184_y h, ob_s]
  dsimp only
  rw [if_neg (by decide), t0_o (by decide), e, q, Bool.not_true, M183_f t0_0, ob_s]
theorem M227_n {v : Int32} (h : S.1 140 1 = 0) : F_227 v S = some (true, tt S 1) := by
  unfold F_227
  rw [M184_n h, ob_s]
  rfl
theorem M227_i {v : Int32} {n : Nat} (h : ¬ S.1 140 1 = 0) (e : S.1 141 1 = nJ n) (hn : n ≤ 100000) (hv : ¬ ∃ i, i < n ∧ v = nJ i) : F_227 v S = some (true, tt S 2) := by
  have q : F_182 v 0 (nJ n - 1) = false := by rw [← Bool.not_eq_true, idx_t hn]; exact hv
  unfold F_227
  rw [M184_y h, ob_s]
  dsimp only
  rw [if_neg (by decide), t0_r (by decide), e, q, Bool.not_false, M183_t t0_0 (by decide), ob_s]
  rfl
theorem M227_y {n i : Nat} (h : ¬ S.1 140 1 = 0) (e : S.1 141 1 = nJ n) (hn : n ≤ 100000) (hi : i < n) : F_227 (nJ i) S = some (false, t0 S) := by
  have q : F_182 (nJ i) 0 (nJ n - 1) = true := (idx_t hn).mpr ⟨i, hi, rfl⟩
  unfold F_227
  rw [M184_y h, ob_s]
  dsimp only
  rw [if_neg (by decide), t0_r (by decide), e, q, Bool.not_true, M183_f t0_0, ob_s]
/-- the class's refusals -/
theorem C174_n (h : S.1 3 0 = 0) : F_174 S = some (.inl isE, S) := by unfold F_174; rw [if_pos h]; rfl
theorem C174_y (h : ¬ S.1 3 0 = 0) : F_174 S = some (.inr (), S) := by unfold F_174; rw [if_neg h]
theorem C175_y {n i : Nat} (hn : n ≤ 100000) (hi : i < n) : F_175 (nJ i) (nJ n) S = some (.inr (), S) := by
  unfold F_175
  rw [if_neg (nJ_nn (by omega)), if_pos ((nJ_lt (by omega) (by omega)).mpr hi)]
theorem C175_i {v : Int32} {n : Nat} (hn : n ≤ 100000) (hv : ¬ ∃ i, i < n ∧ v = nJ i) : F_175 v (nJ n) S = some (.inl ixE, S) := by
  unfold F_175
  by_cases h : v < 0
  · rw [if_pos h]; rfl
  · rw [if_neg h]
    by_cases h2 : v < nJ n
    · exfalso
      have a : 0 ≤ v.toInt := Int.not_lt.mp (fun z => h (i32_lt0.mpr z))
      have b := (i32_lt _ _).mp h2
      rw [nJ_toInt (by omega)] at b
      refine hv ⟨v.toNatClampNeg, ?_, nJ_of a⟩
      have : (v.toNatClampNeg : Int) = v.toInt := by show ((v.toInt.toNat : Nat) : Int) = _; omega
      omega
    · rw [if_neg h2]; rfl
theorem C176_y {m i : Nat} (hm : m ≤ 100000) (hi : i ≤ m) : F_176 (nJ i) 0 (nJ m) S = some (.inr (), S) := by
  unfold F_176
  rw [if_neg (nJ_nn (by omega)), if_neg (fun z => by have := (nJ_lt (by omega) (by omega)).mp z; omega)]
theorem C176_i {v : Int32} {m : Nat} (hm : m ≤ 100000) (hv : ¬ ∃ i, i ≤ m ∧ v = nJ i) : F_176 v 0 (nJ m) S = some (.inl iaE, S) := by
  unfold F_176
  by_cases h : v < 0
  · rw [if_pos h]; rfl
  · rw [if_neg h]
    by_cases h2 : nJ m < v
    · rw [if_pos h2]; rfl
    · exfalso
      have a : 0 ≤ v.toInt := Int.not_lt.mp (fun z => h (i32_lt0.mpr z))
      have b : ¬ (nJ m).toInt < v.toInt := fun z => h2 ((i32_lt _ _).mpr z)
      rw [nJ_toInt (by omega)] at b
      refine hv ⟨v.toNatClampNeg, ?_, nJ_of a⟩
      have : (v.toNatClampNeg : Int) = v.toInt := by show ((v.toInt.toNat : Nat) : Int) = _; omega
      omega
theorem ox_l {α β : Type} {E : String} {f : α → ST → Option ((String ⊕ β) × ST)} : ox (some (.inl E, S)) f = some (.inl E, S) := rfl
theorem ox_r {α β : Type} {a : α} {f : α → ST → Option ((String ⊕ β) × ST)} : ox (some (.inr a, S)) f = f a S := rfl
end Ref
/-- good rows' counts -/
theorem GTh_cb {S : ST} {h : Nat} (g : GTh S h) : cb (S.1 h) := by
  obtain ⟨⟨w, -⟩, ⟨G, g1, g2, -⟩, T, t1, t2, -⟩ := g
  exact ⟨⟨_, w.1, w.2⟩, ⟨G, g1, g2⟩, T, t1, t2⟩
theorem pb_inp {S : ST} {h : Nat} (hW : RW S h) (hB : RB S h) {t : Nat} (ht : t < 256) : pb (rL S h) t = inp S h t := by
  have a := inp_t2 hW hB ht
  cases e : inp S h t with
  | true => exact chB_t.mpr (a.mp e)
  | false => exact chB_f.mpr (fun z => by rw [a.mpr z] at e; cases e)
theorem pb_rk {S : ST} {h : Nat} (hW : RW S h) (hB : RB S h) {T : Nat} (hT : T ≤ 256) : rk (pb (rL S h)) T = rk (inp S h) T := rk_cong (fun s hs => pb_inp hW hB (by omega))
theorem GR_boxL {S : ST} {h : Nat} (g : GR S h) : boxL (rL S h) := fun q hq => by
  obtain ⟨s1, s2, s3⟩ := GR_simple g
  have := cl_box s2 s1 (t := 15) (fun v hv => by have := GR_box g v hv; omega) hq
  omega
/-- the points of both sides -/
theorem lat_eq {Sc Sm : ST} (l : LC Sc 21 (rL Sm 141) 256) (hL : Ld Sm) : Sc.1 21 0 = Sm.1 140 20 ∧ Sm.1 140 20 = nJ (nP Sm) ∧ nP Sm ≤ 64 ∧ (∀ p, p < nP Sm → Sc.1 22 p = Sm.1 147 p ∧ Sc.1 23 p = Sm.1 148 p) ∧ ∀ t, t < 256 → Sc.1 24 t = Sm.1 149 t := by
  obtain ⟨g, l1, l2, -⟩ := hL
  have w := g.1
  have b := g.2.2.1
  have e256 := pb_rk w b (Nat.le_refl 256)
  refine ⟨by rw [l.1, l1, e256], l1, g.2.2.2.2, fun p hp => ?_, fun t ht => ?_⟩
  · obtain ⟨t, t1, t2, t3⟩ := rk_ex (inp Sm 141) hp
    have q : pb (rL Sm 141) t = true := by rw [pb_inp w b t1]; exact t2
    obtain ⟨u1, u2, -⟩ := (l.2.1 t t1).1 q
    obtain ⟨v1, v2, -⟩ := (l2 t t1).1 t2
    rw [pb_rk w b (by omega), t3] at u1 u2
    rw [t3] at v1 v2
    exact ⟨u1.trans v1.symm, u2.trans v2.symm⟩
  · cases e : inp Sm 141 t with
    | true =>
      have q : pb (rL Sm 141) t = true := by rw [pb_inp w b ht]; exact e
      rw [show (24 : Nat) = 21 + 3 from rfl, ((l.2.1 t ht).1 q).2.2, ((l2 t ht).1 e).2.2, pb_rk w b (by omega)]
    | false =>
      have q : pb (rL Sm 141) t = false := by rw [pb_inp w b ht]; exact e
      rw [show (24 : Nat) = 21 + 3 from rfl, (l.2.1 t ht).2 q, (l2 t ht).2 e]
