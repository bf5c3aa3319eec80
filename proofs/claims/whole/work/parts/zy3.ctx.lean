/-! what holds with a polygon; what is refused -/
def E1 : List (String × Int32) := [(isE, 1)]
def E12 : List (String × Int32) := [(isE, 1), (ixE, 2)]
def E123 : List (String × Int32) := [(isE, 1), (ixE, 2), (iaE, 3)]
def EDr : List (String × Int32) := [(isE, 1), (iaE, 2)]
def EDb : List (String × Int32) := [(ixE, 1)]
def ERe : List (String × Int32) := [(ixE, 1), (isE, 2)]
def Agr {α : Type} (ce : List (String × Int32)) (fc : ST → Option ((String ⊕ α) × ST)) (fm : ST → Option (α × ST)) (Sc Sm : ST) : Prop := ∃ rc rm Sc' Sm', fc Sc = some (rc, Sc') ∧ fm Sm = some (rm, Sm') ∧ Ro Sc' Sm' ∧ Pub ce rc rm Sm'
def AgP (fc : ST → Int32) (fm : ST → Option (Int32 × ST)) (Sc Sm : ST) : Prop := ∃ Sm', fm Sm = some (fc Sc, Sm') ∧ Ro Sc Sm'
/-- a polygon on both sides -/
def PY (Sc Sm : ST) : Prop := ¬ Sm.1 140 1 = 0 ∧ CX Sc Sm ∧ PR Sc 3 (Sm.1 141) ∧ GTh Sm 141
/-- with a polygon, nothing refused as yet -/
def GO (Sc T : ST) : Prop := Ro Sc T ∧ MOK T ∧ PY Sc T ∧ T.1 140 0 = 0
section Px
variable {Sc Sm Sm' Sc' T : ST} {α : Type} {ce : List (String × Int32)} {fc : ST → Option ((String ⊕ α) × ST)} {fm : ST → Option (α × ST)}
theorem t0_F : Fm [] [0] Sm (t0 Sm) := Fm_f (by decide)
theorem tt_F {t : Int32} : Fm [] [0] Sm (tt Sm t) := (Fm_f (by decide)).tr (Fm_f (by decide))
theorem PY_of (R : Ro Sc Sm) (M : MOK Sm) (h : ¬ Sm.1 140 1 = 0) : PY Sc Sm := by
  obtain ⟨hL, hT⟩ := M.2.1 h
  have g : GTh Sm 141 := ⟨hL.1, hT⟩
  rcases R.2.2.1 with ⟨a, -⟩ | ⟨-, b, c⟩
  · exact absurd a h
  · exact ⟨h, CX_of b (GTh_cb g) c hL, b, g⟩
theorem PY_n (Y : PY Sc Sm) : (Sc.1 3 0 = nJ (rN Sm 141) ∧ Sm.1 141 0 = nJ (rN Sm 141) ∧ 3 ≤ rN Sm 141 ∧ rN Sm 141 ≤ 12) ∧ Sc.1 21 0 = nJ (nP Sm) ∧ Sm.1 140 20 = nJ (nP Sm) ∧ 3 ≤ nP Sm ∧ nP Sm ≤ 64 ∧ Ld Sm := by
  obtain ⟨-, hx, hp, g⟩ := Y
  have hL := hx.2.2.1
  exact ⟨⟨hp.1.1.trans g.1.1.1, g.1.1.1, g.1.2.1, g.1.1.2⟩, hx.2.2.2.1, (Ld_P hL).1, nP_3 hL, (Ld_P hL).2, hL⟩
theorem PY_3 (Y : PY Sc Sm) : ¬ Sc.1 3 0 = 0 := fun z => by
  obtain ⟨⟨a, _, b, c⟩, _⟩ := PY_n Y
  rw [a] at z
  have := (nJ_eq (j := 0) (by omega) (by omega)).mp z
  omega
theorem PY_g (Y : PY Sc Sm) : Sc.1 3 1 = nJ (cG Sm) ∧ Sm.1 141 1 = nJ (cG Sm) ∧ cG Sm ≤ 6 ∧ Sc.1 3 2 = nJ (cTz Sm) ∧ Sm.1 141 2 = nJ (cTz Sm) ∧ cTz Sm ≤ 6 := by
  obtain ⟨-, -, hp, g⟩ := Y
  obtain ⟨a1, a2, -⟩ := GTh_g g
  obtain ⟨b1, b2, -⟩ := GTh_t g
  exact ⟨hp.1.2.1.trans a1, a1, a2, hp.1.2.2.trans b1, b1, b2⟩
theorem Agr_x {z : α} (R : Ro Sc Sm) (M : MOK Sm) {e : String} {k : Int32} (hq : (e, k) ∈ ce) (ec : fc Sc = some (.inl e, Sc)) (em : fm Sm = some (z, Sm')) (h0 : Sm'.1 140 0 = k) (hF : Fm [] [0] Sm Sm') : Agr ce fc fm Sc Sm := ⟨_, _, _, _, ec, em, Ro_t R M hF, Or.inl ⟨(e, k), hq, rfl, h0⟩⟩
theorem Agr_r {a : α} (ec : fc Sc = some (.inr a, Sc')) (em : fm Sm = some (a, Sm')) (R' : Ro Sc' Sm') (h0 : Sm'.1 140 0 = 0) : Agr ce fc fm Sc Sm := ⟨_, _, _, _, ec, em, R', Or.inr ⟨rfl, h0⟩⟩
theorem GO_t (R : Ro Sc Sm) (M : MOK Sm) (h : ¬ Sm.1 140 1 = 0) : GO Sc (t0 Sm) := by
  have R' := Ro_t R M t0_F
  have M' : MOK (t0 Sm) := (Qq_t M 0).1
  exact ⟨R', M', PY_of R' M' (by rw [t0_o (by decide)]; exact h), t0_0⟩
theorem zkP (R : Ro Sc Sm) (M : MOK Sm) : (F_174 Sc = some (.inl isE, Sc) ∧ F_184 Sm = some (true, tt Sm 1) ∧ Sm.1 140 1 = 0) ∨ (GO Sc (t0 Sm) ∧ F_174 Sc = some (.inr (), Sc) ∧ F_184 Sm = some (false, t0 Sm) ∧ ¬ Sm.1 140 1 = 0) := by
  by_cases h : Sm.1 140 1 = 0
  · rcases R.2.2.1 with ⟨_, b, _⟩ | ⟨a, _⟩
    · exact Or.inl ⟨C174_n b.1, M184_n h, h⟩
    · exact absurd h a
  · have G := GO_t R M h
    exact Or.inr ⟨G, C174_y (PY_3 G.2.2.1), M184_y h, h⟩
/-- a point's number, a vertex's, a guard's -/
theorem kPt (R : Ro Sc Sm) (M : MOK Sm) (v : Int32) : (F_174 Sc = some (.inl isE, Sc) ∧ F_226 v Sm = some (true, tt Sm 1)) ∨ (F_174 Sc = some (.inr (), Sc) ∧ F_175 v (Sc.1 21 0) Sc = some (.inl ixE, Sc) ∧ F_226 v Sm = some (true, tt Sm 2)) ∨ (∃ i T, v = nJ i ∧ i < nP T ∧ GO Sc T ∧ F_174 Sc = some (.inr (), Sc) ∧ F_175 v (Sc.1 21 0) Sc = some (.inr (), Sc) ∧ F_226 v Sm = some (false, T) ∧ Fm [] [0] Sm T) := by
  rcases zkP R M with ⟨a, _, c⟩ | ⟨G, a, _, c⟩
  · exact Or.inl ⟨a, M226_n c⟩
  · obtain ⟨_, n1, n2, n3, n4, _⟩ := PY_n G.2.2.1
    have n2' : Sm.1 140 20 = nJ (nP (t0 Sm)) := by rw [← n2, t0_o (by decide)]
    by_cases h : ∃ i, i < nP (t0 Sm) ∧ v = nJ i
    · obtain ⟨i, hi, rfl⟩ := h
      exact Or.inr (Or.inr ⟨i, t0 Sm, rfl, hi, G, a, by rw [n1]; exact C175_y (by omega) hi, M226_y c n2' (by omega) hi, t0_F⟩)
    · exact Or.inr (Or.inl ⟨a, by rw [n1]; exact C175_i (by omega) h, M226_i c n2' (by omega) h⟩)
theorem kVt (R : Ro Sc Sm) (M : MOK Sm) (v : Int32) : (F_174 Sc = some (.inl isE, Sc) ∧ F_225 v Sm = some (true, tt Sm 1)) ∨ (F_174 Sc = some (.inr (), Sc) ∧ F_175 v (Sc.1 3 0) Sc = some (.inl ixE, Sc) ∧ F_225 v Sm = some (true, tt Sm 2)) ∨ (∃ i T, v = nJ i ∧ i < rN T 141 ∧ GO Sc T ∧ F_174 Sc = some (.inr (), Sc) ∧ F_175 v (Sc.1 3 0) Sc = some (.inr (), Sc) ∧ F_225 v Sm = some (false, T) ∧ Fm [] [0] Sm T) := by
  rcases zkP R M with ⟨a, _, c⟩ | ⟨G, a, _, c⟩
  · exact Or.inl ⟨a, M225_n c⟩
  · obtain ⟨⟨n1, n2, n3, n4⟩, _⟩ := PY_n G.2.2.1
    have n2' : Sm.1 141 0 = nJ (rN (t0 Sm) 141) := by rw [← n2, t0_o (by decide)]
    by_cases h : ∃ i, i < rN (t0 Sm) 141 ∧ v = nJ i
    · obtain ⟨i, hi, rfl⟩ := h
      exact Or.inr (Or.inr ⟨i, t0 Sm, rfl, hi, G, a, by rw [n1]; exact C175_y (by omega) hi, M225_y c n2' (by omega) hi, t0_F⟩)
    · exact Or.inr (Or.inl ⟨a, by rw [n1]; exact C175_i (by omega) h, M225_i c n2' (by omega) h⟩)
theorem kGt (R : Ro Sc Sm) (M : MOK Sm) (v : Int32) : (F_174 Sc = some (.inl isE, Sc) ∧ F_227 v Sm = some (true, tt Sm 1)) ∨ (F_174 Sc = some (.inr (), Sc) ∧ F_175 v (Sc.1 3 1) Sc = some (.inl ixE, Sc) ∧ F_227 v Sm = some (true, tt Sm 2)) ∨ (∃ i T, v = nJ i ∧ i < cG T ∧ GO Sc T ∧ F_174 Sc = some (.inr (), Sc) ∧ F_175 v (Sc.1 3 1) Sc = some (.inr (), Sc) ∧ F_227 v Sm = some (false, T) ∧ Fm [] [0] Sm T) := by
  rcases zkP R M with ⟨a, _, c⟩ | ⟨G, a, _, c⟩
  · exact Or.inl ⟨a, M227_n c⟩
  · obtain ⟨n1, n2, n3, _⟩ := PY_g G.2.2.1
    have n2' : Sm.1 141 1 = nJ (cG (t0 Sm)) := by rw [← n2, t0_o (by decide)]
    by_cases h : ∃ i, i < cG (t0 Sm) ∧ v = nJ i
    · obtain ⟨i, hi, rfl⟩ := h
      exact Or.inr (Or.inr ⟨i, t0 Sm, rfl, hi, G, a, by rw [n1]; exact C175_y (by omega) hi, M227_y c n2' (by omega) hi, t0_F⟩)
    · exact Or.inr (Or.inl ⟨a, by rw [n1]; exact C175_i (by omega) h, M227_i c n2' (by omega) h⟩)
/-- a further index, a further range -/
theorem k2 (h0 : T.1 140 0 = 0) {n : Nat} (hn : n ≤ 100000) (v k : Int32) (hk : ¬ k = 0) : (F_175 v (nJ n) Sc = some (.inl ixE, Sc) ∧ F_183 (!(F_182 v 0 (nJ n - 1))) k T = some (true, wI T 140 0 k)) ∨ (∃ i, i < n ∧ v = nJ i ∧ F_175 v (nJ n) Sc = some (.inr (), Sc) ∧ F_183 (!(F_182 v 0 (nJ n - 1))) k T = some (false, T)) := by
  by_cases h : ∃ i, i < n ∧ v = nJ i
  · have q : F_182 v 0 (nJ n - 1) = true := (idx_t hn).mpr h
    obtain ⟨i, hi, rfl⟩ := h
    exact Or.inr ⟨i, hi, rfl, C175_y hn hi, by rw [q, Bool.not_true, M183_f h0]⟩
  · have q : F_182 v 0 (nJ n - 1) = false := by rw [← Bool.not_eq_true, idx_t hn]; exact h
    exact Or.inl ⟨C175_i hn h, by rw [q, Bool.not_false, M183_t h0 hk]⟩
theorem k3 (h0 : T.1 140 0 = 0) {n : Nat} (hn : n ≤ 100000) (v k : Int32) (hk : ¬ k = 0) : (F_176 v 0 (nJ n) Sc = some (.inl iaE, Sc) ∧ F_183 (!(F_182 v 0 (nJ n))) k T = some (true, wI T 140 0 k)) ∨ (∃ i, i ≤ n ∧ v = nJ i ∧ F_176 v 0 (nJ n) Sc = some (.inr (), Sc) ∧ F_183 (!(F_182 v 0 (nJ n))) k T = some (false, T)) := by
  by_cases h : ∃ i, i ≤ n ∧ v = nJ i
  · have q : F_182 v 0 (nJ n) = true := (rng_t hn).mpr h
    obtain ⟨i, hi, rfl⟩ := h
    exact Or.inr ⟨i, hi, rfl, C176_y hn hi, by rw [q, Bool.not_true, M183_f h0]⟩
  · have q : F_182 v 0 (nJ n) = false := by rw [← Bool.not_eq_true, rng_t hn]; exact h
    exact Or.inl ⟨C176_i hn h, by rw [q, Bool.not_false, M183_t h0 hk]⟩
/-- calls without a refusal -/
theorem a117 (R : Ro Sc Sm) (M : MOK Sm) : AgP F_117 F_187 Sc Sm := ⟨t0 Sm, by
  unfold F_187 F_117
  rw [R.2.1.1]
  rfl, Ro_t R M t0_F⟩
theorem a118 (R : Ro Sc Sm) (M : MOK Sm) : AgP F_118 F_188 Sc Sm := ⟨t0 Sm, by
  unfold F_188 F_118
  rw [R.2.1.2]
  rfl, Ro_t R M t0_F⟩
theorem a119 (R : Ro Sc Sm) (M : MOK Sm) : AgP F_119 F_186 Sc Sm := ⟨t0 Sm, by
  obtain ⟨b, b1, b2, _⟩ := R.1
  unfold F_186 F_119
  rw [b1, b2]
  rfl, Ro_t R M t0_F⟩
theorem told (R : Ro Sc Sm) (M : MOK Sm) {x y : Int32} (hn : Sm.1 140 1 = 0 → x = 0) (hy : ¬ Sm.1 140 1 = 0 → x = y) : ob (F_219 y Sm) (fun w1 => some (w1.1, w1.2)) = some (x, t0 Sm) := by
  unfold F_219
  rw [ob_s]
  by_cases h : Sm.1 140 1 = 0
  · rw [if_pos h, hn h]; rfl
  · rw [if_neg h, hy h]; rfl
theorem pn0 (R : Ro Sc Sm) (h : Sm.1 140 1 = 0) : Sc.1 3 0 = 0 ∧ Sc.1 3 1 = 0 ∧ Sc.1 3 2 = 0 ∧ Sc.1 21 0 = 0 := by
  rcases R.2.2.1 with ⟨_, b, c⟩ | ⟨a, _⟩
  · exact ⟨b.1, b.2.1, b.2.2, c⟩
  · exact absurd h a
theorem a120 (R : Ro Sc Sm) (M : MOK Sm) : AgP F_120 F_220 Sc Sm := ⟨t0 Sm, told R M (fun h => (pn0 R h).1) (fun h => (PY_of R M h).2.2.1.1.1), Ro_t R M t0_F⟩
theorem a148 (R : Ro Sc Sm) (M : MOK Sm) : AgP F_148 F_222 Sc Sm := ⟨t0 Sm, told R M (fun h => (pn0 R h).2.1) (fun h => (PY_of R M h).2.2.1.1.2.1), Ro_t R M t0_F⟩
theorem a157 (R : Ro Sc Sm) (M : MOK Sm) : AgP F_157 F_223 Sc Sm := ⟨t0 Sm, told R M (fun h => (pn0 R h).2.2.1) (fun h => (PY_of R M h).2.2.1.1.2.2), Ro_t R M t0_F⟩
theorem a125 (R : Ro Sc Sm) (M : MOK Sm) : AgP F_125 F_221 Sc Sm := ⟨t0 Sm, told R M (fun h => (pn0 R h).2.2.2) (fun h => by
  obtain ⟨_, n1, n2, _⟩ := PY_n (PY_of R M h)
  exact n1.trans n2.symm), Ro_t R M t0_F⟩
theorem a171 (R : Ro Sc Sm) (M : MOK Sm) : AgP F_171 F_224 Sc Sm := ⟨t0 Sm, told R M (fun h => by
  obtain ⟨c, o, a1, a2, _, _, _, _, a7⟩ := R.2.2.2.1
  have c0 := a7 h
  subst c0
  exact a2) (fun h => by
  obtain ⟨c, o, a1, a2, _⟩ := R.2.2.2.1
  exact a2.trans a1.symm), Ro_t R M t0_F⟩
end Px
