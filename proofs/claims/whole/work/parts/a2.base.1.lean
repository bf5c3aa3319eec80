/-! cut out of the base by slice.py: a2.base -/
-- t5.guard
/-! guards, witnesses, hidden points: the searches end -/
/-- the number of a place of the polygon -/
theorem at_pt {S : ST} (h : Ld S) {x y : Int32} (hc : ge_cl 1 (rL S 141) (x.toInt, y.toInt)) : ∃ p, p < nP S ∧ f_215 S x y = nJ p ∧ pt S p = (x.toInt, y.toInt) := by
  obtain ⟨g1, g2, g3⟩ := GR_simple h.1
  have b := cl_box g2 g1 (GR_box h.1) hc
  have b1 : 0 ≤ x.toInt := b.1
  have b2 : x.toInt ≤ 15 := b.2.1
  have b3 : 0 ≤ y.toInt := b.2.2.1
  have b4 : y.toInt ≤ 15 := b.2.2.2
  have ex : x = nJ x.toInt.toNat := nJ_of b1
  have ey : y = nJ y.toInt.toNat := nJ_of b3
  generalize hxn : x.toInt.toNat = X at *
  generalize hyn : y.toInt.toNat = Y at *
  have ht : 16 * Y + X < 256 := by omega
  have el : lxy (16 * Y + X) = (x.toInt, y.toInt) := by
    unfold lxy
    refine Prod.ext ?_ ?_
    · show (((16 * Y + X) % 16 : Nat) : Int) = x.toInt
      omega
    · show (((16 * Y + X) / 16 : Nat) : Int) = y.toInt
      omega
  have hin : inp S 141 (16 * Y + X) = true := (inp_t h.1 ht).mpr (by rw [el]; exact hc)
  obtain ⟨a1, a2, a3⟩ := (h.2.2.1 _ ht).1 hin
  refine ⟨rk (inp S 141) (16 * Y + X), rk_lt ht hin, ?_, ?_⟩
  · unfold f_215
    have q1 : f_182 x 0 15 = true := f182_t.mpr ⟨b1, b2⟩
    have q2 : f_182 y 0 15 = true := f182_t.mpr ⟨b3, b4⟩
    rw [if_pos q1, if_pos q2, ex, ey]
    show S.1 149 (Int32.toNatClampNeg ((nJ 16 * nJ Y) + nJ X)) = _
    rw [nJ_mul, nJ_add, nJ_ix (by omega), a3]
  · unfold pt
    rw [a1, a2, nJ_toInt (by omega), nJ_toInt (by omega)]
    exact el
theorem vx_cl {S : ST} {h i : Nat} (g : GR S h) (hi : i < rN S h) : ge_cl 1 (rL S h) (rP S h i) := by
  have := ge_cl_v (k := 1) (by have := (GR_simple g).2.1; omega) (show rP S h i ∈ rL S h from ge_pl_mem.mpr ⟨i, hi, rfl⟩)
  rw [ge_s_1] at this
  exact this
def f_240 (S : ST) (v1 : Int32) : Int32 := f_215 S (ra S 141 (3 + v1)) (ra S 141 (15 + v1))
theorem f240_t {S : ST} (h : Ld S) {i : Nat} (hi : i < rN S 141) : ∃ p, p < nP S ∧ f_240 S (nJ i) = nJ p := by
  have h12 := h.1.1.2
  obtain ⟨p, p1, p2, -⟩ := at_pt h (x := S.1 141 (3 + i)) (y := S.1 141 (15 + i)) (vx_cl h.1 hi)
  refine ⟨p, p1, ?_⟩
  unfold f_240
  rw [ra_3 S 141 (by omega), ra_15 S 141 (by omega)]
  exact p2
theorem shl_N : ∀ N, N < 13 → (1 : Int32) <<< (nJ N &&& 31) = nJ (2 ^ N) := by decide +kernel
/-- q points from one on that see the rest -/
def Cov (S : ST) : Nat → Nat → Int64 → Prop
  | 0, _, u => u = 0
  | q + 1, f, u => ∃ p, f ≤ p ∧ p < nP S ∧ Cov S q (p + 1) (u &&& (S.2 153 p ^^^ (-1)))
theorem min_ex : ∀ (P : List Nat), P ≠ [] → ∃ m, m ∈ P ∧ ∀ x ∈ P, m ≤ x
  | [], h => absurd rfl h
  | [a], _ => ⟨a, by simp, fun x hx => by simp at hx; omega⟩
  | a :: b :: r, _ => by
    obtain ⟨m, h1, h2⟩ := min_ex (b :: r) (by simp)
    by_cases q : a ≤ m
    · exact ⟨a, by simp, fun x hx => by
        rcases List.mem_cons.mp hx with rfl | hx
        · exact Nat.le_refl _
        · exact Nat.le_trans q (h2 x hx)⟩
    · exact ⟨m, List.mem_cons_of_mem _ h1, fun x hx => by
        rcases List.mem_cons.mp hx with rfl | hx
        · omega
        · exact h2 x hx⟩
theorem Cov_of {S : ST} : ∀ (q f : Nat) (u : Int64) (P : List Nat), P.length = q → P.Nodup → (∀ x ∈ P, f ≤ x ∧ x < nP S) → (∀ i, i < 64 → bz u i = true → ∃ p ∈ P, bz (S.2 153 p) i = true) → Cov S q f u := by
  intro q
  induction q with
  | zero =>
    intro f u P hl hn hb hc
    have : P = [] := List.length_eq_zero_iff.mp hl
    subst this
    apply bz_ext
    intro i hi
    rw [bz_0]
    cases hz : bz u i with
    | false => rfl
    | true =>
      obtain ⟨p, hp, -⟩ := hc i hi hz
      cases hp
  | succ q ih =>
    intro f u P hl hn hb hc
    obtain ⟨m, h1, h2⟩ := min_ex P (fun z => by rw [z] at hl; cases hl)
    refine ⟨m, (hb m h1).1, (hb m h1).2, ih (m + 1) _ (P.erase m) ?_ (hn.erase m) (fun x hx => ?_) (fun i hi hz => ?_)⟩
    · rw [List.length_erase_of_mem h1, hl]; rfl
    · have hx' := (hn.mem_erase_iff).mp hx
      have := h2 x hx'.2
      exact ⟨by have := hx'.1; omega, (hb x hx'.2).2⟩
    · rw [bz_and, bz_not _ hi, Bool.and_eq_true, Bool.not_eq_true'] at hz
      obtain ⟨p, hp, hpi⟩ := hc i hi hz.1
      refine ⟨p, (hn.mem_erase_iff).mpr ⟨fun e => ?_, hp⟩, hpi⟩
      rw [e, hz.2] at hpi
      cases hpi
/-- at most four points see all -/
theorem Cov_4 {S : ST} (hL : Ld S) (hS : Sv S) : ∃ g, 1 ≤ g ∧ g ≤ 4 ∧ Cov S g 0 (f_216 S) := by
  obtain ⟨g1, g2, g3⟩ := GR_simple hL.1
  obtain ⟨hP, h64⟩ := Ld_P hL
  obtain ⟨G, c1, c2, c3, c4, c5⟩ := ge_four g2 g3 g1
  -- numbers of the points of G
  have num : ∀ G : List GPt, (∀ v ∈ G, v ∈ rL S 141) → G.Nodup → ∃ P : List Nat, P.length = G.length ∧ P.Nodup ∧ (∀ p ∈ P, p < nP S ∧ pt S p ∈ G) ∧ ∀ v ∈ G, ∃ p ∈ P, pt S p = v := by
    intro G
    induction G with
    | nil => intro _ _; exact ⟨[], rfl, List.nodup_nil, fun _ h => (by cases h), fun _ h => (by cases h)⟩
    | cons v G ih =>
      intro hm hn
      obtain ⟨P, p1, p2, p3, p4⟩ := ih (fun w hw => hm w (List.mem_cons_of_mem _ hw)) (List.nodup_cons.mp hn).2
      obtain ⟨i, hi, rfl⟩ := ge_pl_mem.mp (hm v (List.mem_cons_self ..))
      obtain ⟨p, q1, q2⟩ := Ld_of hL (vx_cl hL.1 hi)
      refine ⟨p :: P, by simp [p1], List.nodup_cons.mpr ⟨fun hp => ?_, p2⟩, fun x hx => ?_, fun w hw => ?_⟩
      · have := (p3 p hp).2
        rw [q2] at this
        exact (List.nodup_cons.mp hn).1 this
      · rcases List.mem_cons.mp hx with rfl | hx
        · exact ⟨q1, by rw [q2]; exact List.mem_cons_self ..⟩
        · exact ⟨(p3 x hx).1, List.mem_cons_of_mem _ (p3 x hx).2⟩
      · rcases List.mem_cons.mp hw with rfl | hw
        · exact ⟨p, List.mem_cons_self .., q2⟩
        · obtain ⟨x, x1, x2⟩ := p4 w hw
          exact ⟨x, List.mem_cons_of_mem _ x1, x2⟩
  obtain ⟨P, p1, p2, p3, p4⟩ := num G c4 c3
  refine ⟨G.length, c1, c2, Cov_of G.length 0 _ P p1 p2 (fun x hx => ⟨by omega, (p3 x hx).1⟩) (fun i hi hz => ?_)⟩
  rw [all_t hP h64 hi] at hz
  have hi' : i < nP S := of_decide_eq_true hz
  have hcl := (Ld_pt hL hi').choose_spec.2.2.2.2.2.2
  obtain ⟨g, h1, h2⟩ := c5 _ hcl
  obtain ⟨p, q1, q2⟩ := p4 g h1
  exact ⟨p, q1, (hS p (p3 p q1).1).2.2 i hi' (by rw [q2]; exact h2)⟩
section Gd
variable {d : Nat}
theorem Cov_fm {S S' : ST} (hF : Fm [159] [] S S') : ∀ q f u, Cov S q f u → Cov S' q f u := by
  have e3 := hF.rowL (a := 153) (by decide)
  have en : nP S' = nP S := by unfold nP; rw [inp_r2 (hF.row (a := 141) (by decide) (by decide))]
  intro q
  induction q with
  | zero => intro f u h; exact h
  | succ q ih =>
    rintro f u ⟨p, h1, h2, h3⟩
    exact ⟨p, h1, by rw [en]; exact h2, by rw [e3]; exact ih _ _ h3⟩
end Gd
-- t6.hide
section G2
variable {d : Nat} {S : ST}
theorem ix4 {S : ST} {v : Int32} {g : Nat} (hg : g ≤ 4) (h0 : 0 ≤ v.toInt) (h1 : v.toInt ≤ (nJ g - 1).toInt) : inB v 4 := by
  obtain ⟨i, rfl, hi⟩ := ix_of (c := 1) (by omega) (by omega) (by omega) h0 h1
  exact nJ_inB (by omega) (by omega)
end G2
/-- the lowest bit -/
def lwf (x : Int64) : Nat → Nat → Nat
  | 0, i => i
  | f + 1, i => if bz x i = true then i else lwf x f (i + 1)
def lowN (x : Int64) : Nat := lwf x 64 0
def f_270 (x : Int64) : Int32 := nJ (lowN x)
theorem lwf_ok {x : Int64} : ∀ (f i : Nat), (∃ j, i ≤ j ∧ j < i + f ∧ bz x j = true) → lwf x f i < i + f ∧ bz x (lwf x f i) = true
  | 0, i, ⟨j, h1, h2, _⟩ => by omega
  | f + 1, i, ⟨j, h1, h2, h3⟩ => by
    unfold lwf
    by_cases q : bz x i = true
    · rw [if_pos q]; exact ⟨by omega, q⟩
    · rw [if_neg q]
      have hj : j ≠ i := fun e => q (by rw [← e]; exact h3)
      have := lwf_ok f (i + 1) ⟨j, by omega, by omega, h3⟩
      exact ⟨by omega, this.2⟩
theorem low_ok {x : Int64} (h : ¬ x = 0) : lowN x < 64 ∧ bz x (lowN x) = true := by
  obtain ⟨i, h1, h2⟩ := ne_bz h
  have := lwf_ok (x := x) 64 0 ⟨i, by omega, by omega, h2⟩
  exact ⟨by have := this.1; unfold lowN; omega, this.2⟩
def pc64 (x : Int64) : Nat := rk (bz x) 64
theorem pc64_0 {x : Int64} (h : ¬ x = 0) : 0 < pc64 x := by
  obtain ⟨i, h1, h2⟩ := ne_bz h
  have := rk_lt (p := bz x) h1 h2
  unfold pc64
  omega
/-- a bit less -/
theorem pc64_lt {x y : Int64} {p : Nat} (hp : p < 64) (h1 : bz x p = true) (h2 : bz y p = false) (h3 : ∀ i, i < 64 → bz y i = true → bz x i = true) : pc64 y < pc64 x := rk_up1 h3 ⟨p, hp, h1, h2⟩
theorem bz_clr {x : Int64} {p i : Nat} (hp : p < 64) (hi : i < 64) : bz (x &&& ((1 <<< (Int32.toInt64 (nJ p) &&& 63)) ^^^ (-1))) i = (bz x i && !decide (i = p)) := by rw [bz_and, bz_not _ hi, bz_shl hp]
section Hd
variable {d : Nat} {S : ST}
theorem Qq_38 (M : MOK S) (v : Int32) : Qq S (wI S 140 38 v) := Qq_0 M (hs := []) (fs := [38]) (Fm_f (by decide)) (by decide) (by decide) (by decide) (by decide) (by decide) (by decide)
end Hd
-- t7.watch
def f_274 (S : ST) (v1 : Int32) (v2 : Int32) : Int32 := ra S 141 ((27 + (3 * v1)) + v2)
def f_287 (S : ST) (v1 : Int32) (v2 : Int32) : Int32 := ra S 141 ((45 + (3 * v1)) + v2)
theorem ix27 {b g k : Nat} (hb : b < 1000) (hg : g < 1000) (hk : k < 1000) : (nJ b + (3 * nJ g)) + nJ k = nJ (b + 3 * g + k) := by
  show (nJ b + (nJ 3 * nJ g)) + nJ k = _
  rw [nJ_mul, nJ_add, nJ_add]
theorem f274_t {S : ST} {g k : Nat} (hg : g < 6) (hk : k < 3) : f_274 S (nJ g) (nJ k) = S.1 141 (27 + 3 * g + k) := by
  unfold f_274
  rw [show ((27 + (3 * nJ g)) + nJ k : Int32) = nJ (27 + 3 * g + k) from ix27 (b := 27) (by omega) (by omega) (by omega), ra_n S 141 (by omega)]
theorem in274 {g k : Nat} (hg : g < 6) (hk : k < 3) : inB ((27 + (3 * nJ g)) + nJ k) 63 := by
  rw [show ((27 + (3 * nJ g)) + nJ k : Int32) = nJ (27 + 3 * g + k) from ix27 (b := 27) (by omega) (by omega) (by omega)]
  exact nJ_inB (by omega) (by omega)
theorem in287 {g k : Nat} (hg : g < 6) (hk : k < 3) : inB ((45 + (3 * nJ g)) + nJ k) 63 := by
  rw [show ((45 + (3 * nJ g)) + nJ k : Int32) = nJ (45 + 3 * g + k) from ix27 (b := 45) (by omega) (by omega) (by omega)]
  exact nJ_inB (by omega) (by omega)
def st75 (S : ST) (v1 v2 v3 : Int32) (i : Nat) (a : Int64) : Int64 := a &&& (if (v3 * v3) < ((((ra S 147 (nJ i)) - v1) * ((ra S 147 (nJ i)) - v1)) + (((ra S 148 (nJ i)) - v2) * ((ra S 148 (nJ i)) - v2))) then (1 <<< (Int32.toInt64 (nJ i) &&& 63)) ^^^ (-1) else (-1))
def f_275 (S : ST) (v1 v2 v3 : Int32) : Int64 := fr (st75 S v1 v2 v3) 0 (nP S) (rl S 153 (f_215 S v1 v2))
/-- a guard's number -/
def GI (S : ST) (v : Int32) : Prop := Ld S ∧ ∃ g, g < 6 ∧ v = nJ g ∧ ge_cl 1 (rL S 141) ((S.1 141 (27 + 3 * g)).toInt, (S.1 141 (28 + 3 * g)).toInt)
def f_276 (S : ST) (v1 : Int32) : Int64 := f_275 S (f_274 S v1 0) (f_274 S v1 1) (f_274 S v1 2)
/-- guards of a state with a polygon -/
theorem gd_all {S : ST} (h : Qp S) : ∃ G, S.1 141 1 = nJ G ∧ G ≤ 6 ∧ ∀ g, g < G → GI S (nJ g) := by
  obtain ⟨⟨G, g1, g2, g3⟩, -⟩ := h.ld.2
  exact ⟨G, g1, g2, fun g hg => ⟨h.ld.1, g, by omega, rfl, g3 g hg⟩⟩
theorem gd_GI {S : ST} (h : Qp S) {v : Int32} (h0 : 0 ≤ v.toInt) (h1 : v.toInt ≤ (S.1 141 1 - 1).toInt) : GI S v := by
  obtain ⟨G, g, a1, a2, rfl, a3, a4⟩ := gd_ix h.ld.2 h0 h1
  exact ⟨h.ld.1, g, by omega, rfl, a4 g a3⟩
theorem GI_lt {S : ST} {v : Int32} (h : GI S v) : ∃ g, g < 6 ∧ v = nJ g := by
  obtain ⟨-, g, a, b, -⟩ := h
  exact ⟨g, a, b⟩
def f_278 (S : ST) (v1 : Int32) : Int32 := (if (nb S v1 (S.1 141 1 - 1)) = true then 0 else f_215 (wI S 140 0 (tb S v1 (S.1 141 1 - 1))) (f_274 (wI S 140 0 (tb S v1 (S.1 141 1 - 1))) v1 0) (f_274 (wI S 140 0 (tb S v1 (S.1 141 1 - 1))) v1 1))
def g_278 (S : ST) (v1 : Int32) : ST := (wI S 140 0 (tb S v1 (S.1 141 1 - 1)))
def f_279 (S : ST) (v1 : Int32) : Int32 := (if (nb S v1 (S.1 141 1 - 1)) = true then 0 else f_274 (wI S 140 0 (tb S v1 (S.1 141 1 - 1))) v1 2)
def g_279 (S : ST) (v1 : Int32) : ST := (wI S 140 0 (tb S v1 (S.1 141 1 - 1)))
def f_288 (S : ST) (v1 : Int32) : Int32 := (if (decide (S.1 140 1 = 0)) = true then 0 else (if (!(decide (rf (tz (decide (S.1 140 1 = 0)) 1) (!(f_182 v1 0 ((S.1 141 2) - 1))) 2 = 0))) = true then 0 else f_215 (wI (wI S 140 0 (tz (decide (S.1 140 1 = 0)) 1)) 140 0 (rf (tz (decide (S.1 140 1 = 0)) 1) (!(f_182 v1 0 ((S.1 141 2) - 1))) 2)) (f_287 (wI (wI S 140 0 (tz (decide (S.1 140 1 = 0)) 1)) 140 0 (rf (tz (decide (S.1 140 1 = 0)) 1) (!(f_182 v1 0 ((S.1 141 2) - 1))) 2)) v1 0) (f_287 (wI (wI S 140 0 (tz (decide (S.1 140 1 = 0)) 1)) 140 0 (rf (tz (decide (S.1 140 1 = 0)) 1) (!(f_182 v1 0 ((S.1 141 2) - 1))) 2)) v1 1)))
def g_288 (S : ST) (v1 : Int32) : ST := (if (decide (S.1 140 1 = 0)) = true then (wI S 140 0 (tz (decide (S.1 140 1 = 0)) 1)) else (wI (wI S 140 0 (tz (decide (S.1 140 1 = 0)) 1)) 140 0 (rf (tz (decide (S.1 140 1 = 0)) 1) (!(f_182 v1 0 ((S.1 141 2) - 1))) 2)))
section W1
variable {d : Nat} {S : ST}
theorem tr_ix {S : ST} (h : Th S 141) {v : Int32} (h0 : 0 ≤ v.toInt) (h1 : v.toInt ≤ (S.1 141 2 - 1).toInt) : ∃ t, v = nJ t ∧ t < 6 := by
  obtain ⟨-, T, t1, t2, -⟩ := h
  rw [t1] at h1
  obtain ⟨i, a, b⟩ := ix_of (c := 1) (by omega) (by omega) (by omega) h0 h1
  exact ⟨i, a, by omega⟩
theorem GI_q {S S' : ST} (q : Qq S S') {v : Int32} (h : GI S v) : GI S' v := by
  obtain ⟨hL, g, a, b, c⟩ := h
  have e := q.2.row (a := 141) (by decide) (by decide)
  refine ⟨(Ld_fm hL q.2 (by decide) (by decide) (by decide) (by decide) (by decide) (by decide)).1, g, a, b, ?_⟩
  rw [rL_r2 e, e]
  exact c
theorem f218_lt {x y : Int64} : f_218 x < f_218 y ↔ pn x < pn y := by
  unfold f_218
  have := pn_le x
  have := pn_le y
  exact nJ_lt (by omega) (by omega)
end W1
-- t8.map
def st89 (S : ST) (u : Int64) (t : Nat) (a : Int32) : Int32 := a + (if (f_217 u (f_215 S (f_287 S (nJ t) 0) (f_287 S (nJ t) 1))) = true then f_287 S (nJ t) 2 else 0)
def f_289 (S : ST) (u : Int64) : Int32 := fr (st89 S u) 0 (Int32.toNatClampNeg (S.1 141 2)) 0
theorem tr_all {S : ST} (h : Qp S) : S.1 141 2 = nJ (Int32.toNatClampNeg (S.1 141 2)) ∧ Int32.toNatClampNeg (S.1 141 2) ≤ 6 := by
  obtain ⟨-, T, t1, t2, -⟩ := h.ld.2
  rw [t1, nJ_ix (by omega)]
  exact ⟨rfl, t2⟩
theorem gd_n {S : ST} (h : Qp S) : S.1 141 1 = nJ (Int32.toNatClampNeg (S.1 141 1)) ∧ Int32.toNatClampNeg (S.1 141 1) ≤ 6 := by
  obtain ⟨⟨T, t1, t2, -⟩, -⟩ := h.ld.2
  rw [t1, nJ_ix (by omega)]
  exact ⟨rfl, t2⟩
def f_292 (S : ST) (x y : Int32) : Bool := ay (fun g => decide (f_274 S (nJ g) 0 = x) && decide (f_274 S (nJ g) 1 = y)) 0 (Int32.toNatClampNeg (S.1 141 1))
def f_293 (S : ST) (x y : Int32) : Bool := ay (fun g => decide (f_287 S (nJ g) 0 = x) && decide (f_287 S (nJ g) 1 = y)) 0 (Int32.toNatClampNeg (S.1 141 2))
def f_294 (S : ST) (x y : Int32) : Bool := ay (fun g => decide (ra S 141 (3 + nJ g) = x) && decide (ra S 141 (15 + nJ g) = y)) 0 (rN S 141)
def f_296 (S : ST) (v1 : Int32) : Int32 := (if (!(decide (rf 0 (decide ((S.1 140 40) = 0) || (!(f_182 v1 0 15))) 1 = 0))) = true then 0 else ra S 161 v1)
def g_296 (S : ST) (v1 : Int32) : ST := (wI (wI S 140 0 0) 140 0 (rf 0 (decide ((S.1 140 40) = 0) || (!(f_182 v1 0 15))) 1))
-- u1.rows
/-! rows that agree in the polygon; rows stored and fetched -/
/-- two rows have the same polygon -/
def Pe (ρ ρ' : Nat → Int32) : Prop := ∀ j, j < 27 → j ≠ 1 → j ≠ 2 → ρ' j = ρ j
section Pe
variable {S S' : ST} {h h' : Nat}
theorem Pe_N (e : Pe (S.1 h) (S'.1 h')) : rN S' h' = rN S h := by unfold rN; rw [e 0 (by omega) (by omega) (by omega)]
theorem Pe_W (e : Pe (S.1 h) (S'.1 h')) (hW : RW S h) : RW S' h' := by
  unfold RW
  rw [Pe_N e, e 0 (by omega) (by omega) (by omega)]
  exact hW
theorem Pe_B (e : Pe (S.1 h) (S'.1 h')) (hB : RB S h) : RB S' h' := fun j h1 h2 => by
  rw [e j h2 (by omega) (by omega)]
  exact hB j h1 h2
theorem Pe_P (e : Pe (S.1 h) (S'.1 h')) {i : Nat} (hi : i < 12) : rP S' h' i = rP S h i := by
  unfold rP
  rw [e (3 + i) (by omega) (by omega) (by omega), e (15 + i) (by omega) (by omega) (by omega)]
theorem Pe_L (e : Pe (S.1 h) (S'.1 h')) (hW : RW S h) : rL S' h' = rL S h := by
  have h12 := hW.2
  unfold rL ge_pl
  rw [Pe_N e]
  apply List.map_congr_left
  intro i hi
  exact Pe_P e (by have := List.mem_range.mp hi; omega)
theorem inp_t2 {t : Nat} (hW : RW S h) (hB : RB S h) (ht : t < 256) : inp S h t = true ↔ ge_cl 1 (rL S h) (lxy t) := by
  have a := li_t (x := t % 16) (by omega)
  have b := li_t (x := t / 16) (by omega)
  have := isIn_t (S := S) (h := h) (m := 1) (x := li (t % 16)) (y := li (t / 16)) hW hB (by decide) (by decide) (by unfold bd; rw [a]; omega) (by unfold bd; rw [b]; omega)
  unfold inp
  rw [this, one_t]
  unfold lP
  rw [a, b]
  rfl
theorem Pe_I (e : Pe (S.1 h) (S'.1 h')) (hW : RW S h) (hB : RB S h) {t : Nat} (ht : t < 256) : inp S' h' t = inp S h t := by
  have a := inp_t2 hW hB ht
  have b := inp_t2 (Pe_W e hW) (Pe_B e hB) ht
  rw [Pe_L e hW, ← a] at b
  cases h1 : inp S' h' t <;> cases h2 : inp S h t <;> simp_all
theorem Pe_G (e : Pe (S.1 h) (S'.1 h')) (g : GR S h) : GR S' h' := by
  have h12 := g.1.2
  refine ⟨Pe_W e g.1, by rw [Pe_N e]; exact g.2.1, Pe_B e g.2.2.1, ?_, ?_⟩
  · rw [Pe_N e]
    have P : ∀ {i}, i < rN S h → rP S' h' i = rP S h i := fun hi => Pe_P e (by omega)
    refine ⟨fun i hi => ?_, fun i k h1 h2 h3 => ?_⟩
    · rw [P hi, P (ge_aft_lt hi), P (ge_aft_lt (ge_aft_lt hi))]
      exact g.2.2.2.1.1 i hi
    · rw [P (show i < rN S h by omega), P (ge_aft_lt (show i < rN S h by omega)), P h2, P (ge_aft_lt h2)]
      exact g.2.2.2.1.2 i k h1 h2 h3
  · rw [rk_cong (fun s hs => Pe_I e g.1 g.2.2.1 hs)]
    exact g.2.2.2.2
theorem Pe_rk (e : Pe (S.1 h) (S'.1 h')) (g : GR S h) {t : Nat} (ht : t ≤ 256) : rk (inp S' h') t = rk (inp S h) t := rk_cong (fun s hs => Pe_I e g.1 g.2.2.1 (by omega))
end Pe
/-- the same points and the same sight -/
def Ge (S S' : ST) : Prop := Pe (S.1 141) (S'.1 141) ∧ S'.1 147 = S.1 147 ∧ S'.1 148 = S.1 148 ∧ S'.1 149 = S.1 149 ∧ S'.1 140 20 = S.1 140 20 ∧ S'.2 153 = S.2 153
theorem Ge_L {S S' : ST} (h : Ge S S') (hL : Ld S) : Ld S' ∧ rL S' 141 = rL S 141 ∧ nP S' = nP S ∧ (∀ p, pt S' p = pt S p) ∧ (Sv S → Sv S') := by
  obtain ⟨e, e7, e8, e9, e20, e3⟩ := h
  have g := hL.1
  have eL := Pe_L e g.1
  have en : nP S' = nP S := Pe_rk e g (Nat.le_refl _)
  have ep : ∀ p, pt S' p = pt S p := fun p => by unfold pt; rw [e7, e8]
  refine ⟨⟨Pe_G e g, ?_, fun t ht => ?_, Fm.rf⟩, eL, en, ep, fun hS p hp => ?_⟩
  · rw [e20, Pe_rk e g (Nat.le_refl _)]
    exact hL.2.1
  · rw [Pe_I e g.1 g.2.2.1 ht, Pe_rk e g (by omega), e7, e8, e9]
    exact hL.2.2.1 t ht
  · rw [en] at hp
    obtain ⟨a, b, c⟩ := hS p hp
    rw [e3, en, eL]
    exact ⟨a, b, fun q hq => by rw [ep, ep]; exact c q hq⟩
/-- rows equal in their 63 places -/
theorem Th_c {S S' : ST} {h h' : Nat} (e : ∀ j, j < 63 → S'.1 h' j = S.1 h j) (hW : RW S h) (g : Th S h) : Th S' h' := by
  have eL := Pe_L (S := S) (S' := S') (h := h) (h' := h') (fun j hj _ _ => e j (by omega)) hW
  obtain ⟨⟨G, g1, g2, g3⟩, T, t1, t2, t3⟩ := g
  refine ⟨⟨G, by rw [e 1 (by omega)]; exact g1, g2, fun k hk => ?_⟩, T, by rw [e 2 (by omega)]; exact t1, t2, fun k hk => ?_⟩
  · rw [eL, e _ (by omega), e _ (by omega)]; exact g3 k hk
  · rw [eL, e _ (by omega), e _ (by omega)]; exact t3 k hk
theorem GTh_c {S S' : ST} {h h' : Nat} (e : ∀ j, j < 63 → S'.1 h' j = S.1 h j) (g : GTh S h) : GTh S' h' := ⟨Pe_G (fun j hj _ _ => e j (by omega)) g.1, Th_c e g.1.1 g.2⟩
theorem ix63 {k j : Nat} (hk : k < 1000) (hj : j < 1000) : (63 * nJ k) + nJ j = nJ (63 * k + j) := by
  show (nJ 63 * nJ k) + nJ j = _
  rw [nJ_mul, nJ_add]
theorem sto_0 (S : ST) (k j : Nat) : (sto S k).1 0 j = S.1 142 (63 * k + j) := rfl
/-- what keeps leaves: one more stored row; the kept rows stay -/
def PK (S S' : ST) : Prop := Fm [142] [4] S S' ∧ (∃ c, S'.1 140 4 = nJ c ∧ c ≤ 8 ∧ ∀ k, k < c → GTh (sto S' (1 + k)) 0) ∧ ∀ j, 567 ≤ j → S'.1 142 j = S.1 142 j
/-- the invariant behind keeps -/
theorem MOK_K {S S' : ST} (M : MOK S) (h : PK S S') : MOK S' := by
  obtain ⟨hF, hc, hk⟩ := h
  obtain ⟨a1, a2, -, a4, a5, a6, a7⟩ := M
  refine ⟨by rw [hF.fld (by decide) (by decide)]; exact a1, fun h1 => ?_, hc, fun j hj h1 => ?_, fun h1 => ?_, by rw [hF.fld (by decide) (by decide)]; exact a6, by rw [hF.fld (by decide) (by decide)]; exact a7⟩
  · rw [hF.fld (by decide) (by decide)] at h1
    exact ⟨(Ld_fm (a2 h1).1 hF (by decide) (by decide) (by decide) (by decide) (by decide) (by decide)).1, Th_r2 (hF.row (by decide) (by decide)) (a2 h1).2⟩
  · rw [hF.row (a := 143) (by decide) (by decide)] at h1
    refine GTh_c (S := sto S (9 + j)) (h := 0) (fun i hi => ?_) (a4 j hj h1)
    show S'.1 142 (63 * (9 + j) + i) = S.1 142 (63 * (9 + j) + i)
    exact hk _ (by omega)
  · rw [hF.fld (by decide) (by decide)] at h1
    exact Sv_fm (a5 h1) hF (by decide) (by decide) (by decide) (by decide)
/-- a change: the invariant holds behind it, the buffer stays -/
def RC (S : ST) : RT := RP (fun v S' => (∃ x : Int32, v = some (.int x)) ∧ MOK S' ∧ S'.1 140 7 = S.1 140 7)
theorem RC_q {S S' : ST} (q : Qq S S') {x : Int32} : RC S 0 (.inr (some (.int x))) S' := ⟨rfl, _, rfl, ⟨_, rfl⟩, q.1, q.2.fld (by decide) (by decide)⟩
-- u2.edit
theorem MOK_T {S S' : ST} (M : MOK S) (hp : ¬ S.1 140 1 = 0) (hF : Fm [141] [] S S') (e : Pe (S.1 141) (S'.1 141)) (ht : Th S' 141) : MOK S' := by
  obtain ⟨a1, a2, a3, a4, a5, a6, a7⟩ := M
  have ge : Ge S S' := ⟨e, hF.row (by decide) (by decide), hF.row (by decide) (by decide), hF.row (by decide) (by decide), hF.fld (by decide) (by decide), hF.rowL (by decide)⟩
  obtain ⟨b1, b2, b3, b4, b5⟩ := Ge_L ge (a2 hp).1
  refine ⟨by rw [hF.fld (by decide) (by decide)]; exact a1, fun _ => ⟨b1, ht⟩, ?_, fun j hj h1 => ?_, fun h1 => ?_, by rw [hF.fld (by decide) (by decide)]; exact a6, by rw [hF.fld (by decide) (by decide)]; exact a7⟩
  · obtain ⟨c, c1, c2, c3⟩ := a3
    exact ⟨c, by rw [hF.fld (by decide) (by decide)]; exact c1, c2, fun k hk => by rw [sto_fm hF (by decide)]; exact c3 k hk⟩
  · rw [hF.row (a := 143) (by decide) (by decide)] at h1
    rw [sto_fm hF (by decide)]
    exact a4 j hj h1
  · rw [hF.fld (by decide) (by decide)] at h1
    exact b5 (a5 h1)
theorem PK_row {S S' : ST} (h : PK S S') {a : Nat} (h1 : a ∉ [142]) (h2 : a ≠ 140) : S'.1 a = S.1 a := h.1.row h1 h2
section Ed
variable {d : Nat} {S : ST}
theorem Th_gs {S S' : ST} {h : Nat} (eL : rL S' h = rL S h) (ht : Th S h) {G : Nat} (g1 : S'.1 h 1 = nJ G) (g2 : G ≤ 6) (g3 : ∀ g, g < G → ge_cl 1 (rL S h) ((S'.1 h (27 + 3 * g)).toInt, (S'.1 h (28 + 3 * g)).toInt)) (e2 : S'.1 h 2 = S.1 h 2) (e3 : ∀ j, 45 ≤ j → S'.1 h j = S.1 h j) : Th S' h := by
  obtain ⟨-, T, t1, t2, t3⟩ := ht
  refine ⟨⟨G, g1, g2, fun g hg => by rw [eL]; exact g3 g hg⟩, T, by rw [e2]; exact t1, t2, fun t ht => ?_⟩
  rw [eL, e3 _ (by omega), e3 _ (by omega)]
  exact t3 t ht
end Ed
-- u3.become
theorem f213_t {S : ST} {h : Nat} (hB : RB S h) (q : f_213 S h = true) : GR S h := by
  unfold f_213 at q
  simp only [Bool.and_eq_true, Bool.not_eq_true', decide_eq_false_iff_not] at q
  have hW := RW_in q.1
  have h3 := f182_t.mp q.1
  have h3' : (3 : Int) ≤ (S.1 h 0).toInt := h3.1
  refine ⟨hW, ?_, hB, (simp_t hW hB).mp q.2.1, ?_⟩
  · show 3 ≤ (S.1 h 0).toInt.toNat
    omega
  · have := q.2.2
    unfold f_212 at this
    apply Classical.byContradiction
    intro z
    apply this
    have := rk_le (inp S h) 256
    exact (nJ_lt (i := 64) (by omega) (by omega)).mpr (by omega)
/-- guards' and treasures' places are in the square -/
def TBq (S : ST) (h : Nat) : Prop := (∃ G, S.1 h 1 = nJ G ∧ G ≤ 6 ∧ ∀ g, g < G → (0 ≤ (S.1 h (27 + 3 * g)).toInt ∧ (S.1 h (27 + 3 * g)).toInt ≤ 15) ∧ 0 ≤ (S.1 h (28 + 3 * g)).toInt ∧ (S.1 h (28 + 3 * g)).toInt ≤ 15) ∧ ∃ T, S.1 h 2 = nJ T ∧ T ≤ 6 ∧ ∀ t, t < T → (0 ≤ (S.1 h (45 + 3 * t)).toInt ∧ (S.1 h (45 + 3 * t)).toInt ≤ 15) ∧ 0 ≤ (S.1 h (46 + 3 * t)).toInt ∧ (S.1 h (46 + 3 * t)).toInt ≤ 15
theorem TBq_of {S : ST} {h : Nat} (g : GR S h) (ht : Th S h) : TBq S h := by
  obtain ⟨g1, g2, g3⟩ := GR_simple g
  have bx := fun {q : GPt} (hq : ge_cl 1 (rL S h) q) => cl_box g2 g1 (GR_box g) hq
  obtain ⟨⟨G, a1, a2, a3⟩, T, b1, b2, b3⟩ := ht
  refine ⟨⟨G, a1, a2, fun g hg => ?_⟩, T, b1, b2, fun t ht => ?_⟩
  · have := bx (a3 g hg)
    exact ⟨⟨this.1, this.2.1⟩, this.2.2.1, this.2.2.2⟩
  · have := bx (b3 t ht)
    exact ⟨⟨this.1, this.2.1⟩, this.2.2.1, this.2.2.2⟩
theorem TBq_e {S S' : ST} {h h' : Nat} (e : ∀ j, j = 1 ∨ j = 2 ∨ (27 ≤ j ∧ j < 63) → S'.1 h' j = S.1 h j) (ht : TBq S h) : TBq S' h' := by
  obtain ⟨⟨G, a1, a2, a3⟩, T, b1, b2, b3⟩ := ht
  refine ⟨⟨G, by rw [e 1 (by omega)]; exact a1, a2, fun g hg => ?_⟩, T, by rw [e 2 (by omega)]; exact b1, b2, fun t ht => ?_⟩
  · rw [e _ (by omega), e _ (by omega)]; exact a3 g hg
  · rw [e _ (by omega), e _ (by omega)]; exact b3 t ht
/-- isIn at a place of the row -/
theorem in_cl {S : ST} {h : Nat} (g : GR S h) {x y : Int32} (hx : 0 ≤ x.toInt ∧ x.toInt ≤ 15) (hy : 0 ≤ y.toInt ∧ y.toInt ≤ 15) : f_208 S h (Int32.toInt64 x) (Int32.toInt64 y) 1 = true ↔ ge_cl 1 (rL S h) (x.toInt, y.toInt) := by
  have a : (Int32.toInt64 x).toInt = x.toInt := Int32.toInt_toInt64 x
  have b : (Int32.toInt64 y).toInt = y.toInt := Int32.toInt_toInt64 y
  have := isIn_t (S := S) (h := h) (m := 1) (x := Int32.toInt64 x) (y := Int32.toInt64 y) g.1 g.2.2.1 (by decide) (by decide) (by unfold bd; rw [a]; omega) (by unfold bd; rw [b]; omega)
  rw [this, one_t]
  unfold lP
  rw [a, b]
/-- the invariant when a new row has become the state -/
theorem MOK_N {S S' : ST} (M : MOK S) (hF : Fm [141, 147, 148, 149] [20, 27] S S') (h0 : S'.1 140 27 = 0) (hL : Ld S') (ht : Th S' 141) : MOK S' := by
  obtain ⟨a1, a2, a3, a4, a5, a6, a7⟩ := M
  refine ⟨by rw [hF.fld (by decide) (by decide)]; exact a1, fun _ => ⟨hL, ht⟩, ?_, fun j hj h1 => ?_, fun h1 => absurd h0 h1, by rw [hF.fld (by decide) (by decide)]; exact a6, by rw [hF.fld (by decide) (by decide)]; exact a7⟩
  · obtain ⟨c, c1, c2, c3⟩ := a3
    exact ⟨c, by rw [hF.fld (by decide) (by decide)]; exact c1, c2, fun k hk => by rw [sto_fm hF (by decide)]; exact c3 k hk⟩
  · rw [hF.row (a := 143) (by decide) (by decide)] at h1
    rw [sto_fm hF (by decide)]
    exact a4 j hj h1
/-- rows aside don't matter -/
theorem MOK_r {S S' : ST} (M : MOK S) (hF : Fm [146] [0] S S') : MOK S' := by
  obtain ⟨a1, a2, a3, a4, a5, a6, a7⟩ := M
  refine ⟨by rw [hF.fld (by decide) (by decide)]; exact a1, fun h1 => ?_, ?_, fun j hj h1 => ?_, fun h1 => ?_, by rw [hF.fld (by decide) (by decide)]; exact a6, by rw [hF.fld (by decide) (by decide)]; exact a7⟩
  · rw [hF.fld (by decide) (by decide)] at h1
    exact ⟨(Ld_fm (a2 h1).1 hF (by decide) (by decide) (by decide) (by decide) (by decide) (by decide)).1, Th_r2 (hF.row (by decide) (by decide)) (a2 h1).2⟩
  · obtain ⟨c, c1, c2, c3⟩ := a3
    exact ⟨c, by rw [hF.fld (by decide) (by decide)]; exact c1, c2, fun k hk => by rw [sto_fm hF (by decide)]; exact c3 k hk⟩
  · rw [hF.row (a := 143) (by decide) (by decide)] at h1
    rw [sto_fm hF (by decide)]
    exact a4 j hj h1
  · rw [hF.fld (by decide) (by decide)] at h1
    exact Sv_fm (a5 h1) hF (by decide) (by decide) (by decide) (by decide)
section Be
variable {d : Nat} {S : ST}
theorem ixb {b t : Nat} (hb : b < 1000) (ht : t < 1000) : (nJ b + (3 * nJ t) : Int32) = nJ (b + 3 * t) := by
  show nJ b + (nJ 3 * nJ t) = _
  rw [nJ_mul, nJ_add]
end Be
-- u4.vertex
section Vx
variable {d : Nat} {S : ST}
/-- the row aside, made out of the state's row: coordinates in the square, the things as they were -/
def Ra (S S1 : ST) : Prop := Fm [146] [] S S1 ∧ RB S1 146 ∧ ∀ j, j = 1 ∨ j = 2 ∨ (27 ≤ j ∧ j < 63) → S1.1 146 j = S.1 141 j
theorem Ra_w {S1 : ST} (h : Ra S S1) {q : Nat} (hq : 3 ≤ q ∧ q < 27) {v : Int32} (hv : 0 ≤ v.toInt ∧ v.toInt ≤ 15) : Ra S (wI S1 146 q v) := by
  refine ⟨h.1.tr (Fm_a (by decide)), fun j h1 h2 => ?_, fun j hj => ?_⟩
  · rw [wI_1]
    split
    · exact hv
    · exact h.2.1 j h1 h2
  · rw [wI_1, if_neg (fun z => by omega)]
    exact h.2.2 j hj
theorem Ra_0 {S1 : ST} (h : Ra S S1) {v : Int32} : Ra S (wI S1 146 0 v) := by
  refine ⟨h.1.tr (Fm_a (by decide)), fun j h1 h2 => ?_, fun j hj => ?_⟩
  · rw [wI_1, if_neg (fun z => by omega)]
    exact h.2.1 j h1 h2
  · rw [wI_1, if_neg (fun z => by omega)]
    exact h.2.2 j hj
theorem Ra_of (h : Qp S) {S1 : ST} (hF : Fm [146] [] S S1) (he : ∀ j, j < 63 → S1.1 146 j = S.1 141 j) : Ra S S1 := ⟨hF, fun j h1 h2 => by rw [he j (by omega)]; exact h.ld.1.1.2.2.1 j h1 h2, fun j hj => he j (by omega)⟩
theorem f306_t {x y : Int32} (h : f_306 x y = false) : (0 ≤ x.toInt ∧ x.toInt ≤ 15) ∧ 0 ≤ y.toInt ∧ y.toInt ≤ 15 := by
  unfold f_306 at h
  simp only [Bool.or_eq_false_iff, Bool.not_eq_false'] at h
  exact ⟨f182_t.mp h.1, f182_t.mp h.2⟩
theorem MOK_4 {S : ST} (M : MOK S) {c c' : Nat} (hc : S.1 140 4 = nJ c) (hc' : c' ≤ c) (h8 : c ≤ 8) : MOK (wI S 140 4 (nJ c')) := by
  have hF : Fm [] [4] S (wI S 140 4 (nJ c')) := Fm_f (by decide)
  obtain ⟨a1, a2, ⟨c0, c1, c2, c3⟩, a4, a5, a6, a7⟩ := M
  have e : c0 = c := (nJ_eq (by omega) (by omega)).mp (c1.symm.trans hc)
  subst e
  exact ⟨a1, fun h1 => ⟨(Ld_fm (a2 h1).1 hF (by decide) (by decide) (by decide) (by decide) (by decide) (by decide)).1, (a2 h1).2⟩, ⟨c', rfl, by omega, fun k hk => c3 k (by omega)⟩, a4, fun h1 => Sv_fm (a5 h1) hF (by decide) (by decide) (by decide) (by decide), a6, a7⟩
end Vx
-- u5.token
section Tok
variable {d : Nat} {S : ST}
theorem MOK_7 {S : ST} (M : MOK S) {S' : ST} (hF : Fm [144] [0, 7] S S') (h7 : 0 ≤ (S'.1 140 7).toInt ∧ (S'.1 140 7).toInt ≤ 600) : MOK S' := by
  obtain ⟨a1, a2, a3, a4, a5, a6, a7⟩ := M
  refine ⟨h7, fun h1 => ?_, ?_, fun j hj h1 => ?_, fun h1 => ?_, by rw [hF.fld (by decide) (by decide)]; exact a6, by rw [hF.fld (by decide) (by decide)]; exact a7⟩
  · rw [hF.fld (by decide) (by decide)] at h1
    exact ⟨(Ld_fm (a2 h1).1 hF (by decide) (by decide) (by decide) (by decide) (by decide) (by decide)).1, Th_r2 (hF.row (by decide) (by decide)) (a2 h1).2⟩
  · obtain ⟨c, c1, c2, c3⟩ := a3
    exact ⟨c, by rw [hF.fld (by decide) (by decide)]; exact c1, c2, fun k hk => by rw [sto_fm hF (by decide)]; exact c3 k hk⟩
  · rw [hF.row (a := 143) (by decide) (by decide)] at h1
    rw [sto_fm hF (by decide)]
    exact a4 j hj h1
  · rw [hF.fld (by decide) (by decide)] at h1
    exact Sv_fm (a5 h1) hF (by decide) (by decide) (by decide) (by decide)
theorem MOK_bf (M : MOK S) : ∃ b, S.1 140 7 = nJ b ∧ b ≤ 600 := by
  refine ⟨(S.1 140 7).toNatClampNeg, nJ_of M.1.1, ?_⟩
  have := M.1.2
  show (S.1 140 7).toInt.toNat ≤ 600
  omega
/-- append: the buffer takes 20 more, or none -/
def Rap (S : ST) (b : Nat) : RT := RP (fun v S' => MOK S' ∧ (if 600 < b + 20 then v = some (.int (-1)) ∧ S'.1 140 7 = nJ b else v = some (.int (nJ (b + 20))) ∧ S'.1 140 7 = nJ (b + 20)))
/-- the reader's place: next is at most size -/
def PB (S : ST) : Prop := ∃ n k, S.1 140 10 = nJ n ∧ n ≤ 600 ∧ S.1 140 11 = nJ k ∧ k ≤ n
def sv (S : ST) (n k : Nat) : Int32 := if k < n then S.1 144 k else -1
theorem sv_lt {n k : Nat} {x : Int32} (h : sv S n k = x) (hx : ¬ x = -1) : k < n := by
  apply Classical.byContradiction
  intro q
  unfold sv at h
  rw [if_neg q] at h
  exact hx h.symm
def TKf : List Nat := [11, 12, 13, 15, 16]
def TKQ (S : ST) (n : Nat) (S1 : ST) (k : Nat) : Prop := Fm [145] TKf S S1 ∧ S1.1 140 11 = nJ k ∧ k ≤ n
theorem TKQ_w {n k q : Nat} {S1 : ST} {v : Int32} (h : TKQ S n S1 k) (hq : q ∈ TKf ∧ ¬ 11 = q) : TKQ S n (wI S1 140 q v) k := ⟨h.1.tr (Fm_f hq.1), by rw [wI_1, if_neg (fun z => hq.2 z.2)]; exact h.2.1, h.2.2⟩
theorem TKQ_n {n k : Nat} {S1 : ST} {v : Int32} (h : TKQ S n S1 k) (hk : k + 1 ≤ n) (hv : v = nJ (k + 1)) : TKQ S n (wI S1 140 11 v) (k + 1) := ⟨h.1.tr (Fm_f (by decide)), by rw [wI_1, if_pos ⟨rfl, rfl⟩]; exact hv, hk⟩
theorem TKQ_a {n k q : Nat} {S1 : ST} {v : Int32} (h : TKQ S n S1 k) : TKQ S n (wI S1 145 q v) k := ⟨h.1.tr (Fm_a (by decide)), by rw [wI_1, if_neg (fun z => by have := z.1; omega)]; exact h.2.1, h.2.2⟩
theorem TKQ_10 {n k : Nat} {S1 : ST} (h : TKQ S n S1 k) (hn : S.1 140 10 = nJ n) : S1.1 140 10 = nJ n := by rw [h.1.fld (by decide) (by decide)]; exact hn
def Rt (S : ST) (n : Nat) : RT := RP (fun v S' => v = none ∧ ∃ k, TKQ S n S' k)
/-- a step of the reader: nothing but its own fields has moved, an error stays -/
def PSf : List Nat := [11, 12, 13, 15, 16, 17, 18]
def PSt (S S' : ST) : Prop := Fm [145] PSf S S' ∧ PB S' ∧ (S'.1 140 17 = 0 → S.1 140 17 = 0)
theorem PSt.tr {S1 S2 : ST} (h : PSt S S1) (h' : PSt S1 S2) : PSt S S2 := ⟨h.1.tr h'.1, h'.2.1, fun q => h.2.2 (h'.2.2 q)⟩
theorem PSt.rf (h : PB S) : PSt S S := ⟨Fm.rf, h, id⟩
theorem g193_w {v : Int32} (hv : ¬ v = 0) : ¬ (g_193 S v).1 140 17 = 0 := by
  unfold g_193
  split
  · rw [wI_1, if_neg (by decide), wI_1, if_pos ⟨rfl, rfl⟩]
    exact hv
  · assumption
theorem g193_F {v : Int32} : Fm [] [17, 18] S (g_193 S v) := by
  unfold g_193
  split
  · exact (Fm_f (by decide)).tr (Fm_f (by decide))
  · exact Fm.rf
theorem PB_F {S' : ST} {hs fs : List Nat} (h : PB S) (hF : Fm hs fs S S') (h0 : 140 ∉ hs) (h1 : 10 ∉ fs) (h2 : 11 ∉ fs) : PB S' := by
  obtain ⟨n, k, a1, a2, a3, a4⟩ := h
  exact ⟨n, k, by rw [hF.fld h0 h1]; exact a1, a2, by rw [hF.fld h0 h2]; exact a3, a4⟩
theorem PSt_193 (h : PB S) {v : Int32} (hv : ¬ v = 0) : PSt S (g_193 S v) := ⟨g193_F.wk (by decide) (by decide), PB_F h g193_F (by decide) (by decide) (by decide), fun q => absurd q (g193_w hv)⟩
theorem PSt_196 (h : PB S) {a b : Int32} : PSt S (g_196 S a b) := by
  unfold g_196
  split
  · split
    · exact PSt.rf h
    · exact PSt_193 h (by decide)
  · exact PSt_193 h (by decide)
theorem f196_in {a b : Int32} (hab : a.toInt ≤ b.toInt) : a.toInt ≤ (f_196 S a b).toInt ∧ (f_196 S a b).toInt ≤ b.toInt := by
  have hA : a.toInt ≤ a.toInt ∧ a.toInt ≤ b.toInt := ⟨Int.le_refl _, hab⟩
  unfold f_196
  split
  · split
    · next h1 =>
      split
      · exact f182_t.mp h1
      · exact hA
    · rw [if_neg (g193_w (by decide))]; exact hA
  · rw [if_neg (g193_w (by decide))]; exact hA
end Tok
-- u6.lines
section Ply
variable {d : Nat} {S S1 : ST} {m : Nat}
theorem tx_314 : ∃ tx, txt 314 = some tx ∧ tx.length ≤ 8 := ⟨_, rfl, by decide⟩
theorem tx_315 : ∃ tx, txt 315 = some tx ∧ tx.length ≤ 8 := ⟨_, rfl, by decide⟩
theorem tx_316 : ∃ tx, txt 316 = some tx ∧ tx.length ≤ 8 := ⟨_, rfl, by decide⟩
theorem tx_317 : ∃ tx, txt 317 = some tx ∧ tx.length ≤ 8 := ⟨_, rfl, by decide⟩
def LI (S S1 : ST) (m : Nat) : Prop := Fm [145, 146] PSf S S1 ∧ PB S1 ∧ RB S1 146 ∧ (S1.1 146 0 = nJ m ∧ m ≤ 12) ∧ S1.1 146 1 = 0 ∧ S1.1 146 2 = 0
theorem LI_p {S2 : ST} (h : LI S S1 m) (q : PSt S1 S2) : LI S S2 m := by
  have e := q.1.row (a := 146) (by decide) (by decide)
  refine ⟨h.1.tr (q.1.wk (by decide) (by decide)), q.2.1, ?_, ?_, ?_, ?_⟩
  · unfold RB; rw [e]; exact h.2.2.1
  · rw [e]; exact h.2.2.2.1
  · rw [e]; exact h.2.2.2.2.1
  · rw [e]; exact h.2.2.2.2.2
def Rpl (S : ST) : RT := RP (fun v S' => v = none ∧ ∃ m, LI S S' m ∧ (S'.1 140 17 = 0 → GR S' 146))
end Ply
section Thg
variable {d : Nat} {S S1 : ST}
def cnt (S : ST) : Nat := (S.1 146 1).toNatClampNeg + (S.1 146 2).toNatClampNeg
def Kb (b : Bool) : Nat := if b = true then 1 else 2
def Bb (b : Bool) : Nat := if b = true then 27 else 45
theorem Kb_i (b : Bool) : (if b = true then (1 : Int32) else 2) = nJ (Kb b) := by cases b <;> rfl
theorem Bb_i (b : Bool) : (if b = true then (27 : Int32) else 45) = nJ (Bb b) := by cases b <;> rfl
theorem Kb_b (b : Bool) : (1 ≤ Kb b ∧ Kb b ≤ 2) ∧ 27 ≤ Bb b ∧ Bb b ≤ 45 := by cases b <;> decide
theorem Th_add (g : GTh S1 146) (b : Bool) {q : Nat} (hq : S1.1 146 (Kb b) = nJ q) (h6 : q < 6) {x y : Int32} (hcl : ge_cl 1 (rL S1 146) (x.toInt, y.toInt)) {S2 : ST} (ex : S2.1 146 (Bb b + 3 * q) = x) (ey : S2.1 146 (Bb b + 3 * q + 1) = y) (ek : S2.1 146 (Kb b) = nJ (q + 1)) (eo : ∀ j, ¬ j = Kb b → (j < Bb b + 3 * q ∨ Bb b + 3 * q + 2 < j) → S2.1 146 j = S1.1 146 j) : GTh S2 146 ∧ cnt S2 = cnt S1 + 1 := by
  have hK := Kb_b b
  have hPe : Pe (S1.1 146) (S2.1 146) := fun j hj h1 h2 => eo j (by omega) (by omega)
  have eL := Pe_L hPe g.1.1
  obtain ⟨gR, ⟨G, a1, a2, a3⟩, T, b1, b2, b3⟩ := g
  cases b with
  | true =>
    have hq : S1.1 146 1 = nJ q := hq
    have eG : G = q := (nJ_eq (by omega) (by omega)).mp (a1.symm.trans hq)
    subst eG
    have ek : S2.1 146 1 = nJ (G + 1) := ek
    have e2 : S2.1 146 2 = S1.1 146 2 := eo 2 (by decide) (by show 2 < 27 + 3 * G ∨ _; omega)
    have ex : S2.1 146 (27 + 3 * G) = x := ex
    have ey : S2.1 146 (27 + 3 * G + 1) = y := ey
    have eo : ∀ j, ¬ j = 1 → (j < 27 + 3 * G ∨ 27 + 3 * G + 2 < j) → S2.1 146 j = S1.1 146 j := eo
    refine ⟨⟨Pe_G hPe gR, ⟨G + 1, ek, by omega, fun i hi => ?_⟩, T, by rw [e2]; exact b1, b2, fun t ht => ?_⟩, ?_⟩
    · rw [eL]
      by_cases e : i = G
      · subst e
        rw [ex, show 28 + 3 * i = 27 + 3 * i + 1 by omega, ey]
        exact hcl
      · rw [eo _ (by omega) (by omega), eo _ (by omega) (by omega)]
        exact a3 i (by omega)
    · rw [eL, eo _ (by omega) (by omega), eo _ (by omega) (by omega)]
      exact b3 t ht
    · unfold cnt
      rw [ek, e2, hq, nJ_ix (by omega), nJ_ix (by omega)]
      omega
  | false =>
    have hq : S1.1 146 2 = nJ q := hq
    have eG : T = q := (nJ_eq (by omega) (by omega)).mp (b1.symm.trans hq)
    subst eG
    have ek : S2.1 146 2 = nJ (T + 1) := ek
    have e2 : S2.1 146 1 = S1.1 146 1 := eo 1 (by decide) (by show 1 < 45 + 3 * T ∨ _; omega)
    have ex : S2.1 146 (45 + 3 * T) = x := ex
    have ey : S2.1 146 (45 + 3 * T + 1) = y := ey
    have eo : ∀ j, ¬ j = 2 → (j < 45 + 3 * T ∨ 45 + 3 * T + 2 < j) → S2.1 146 j = S1.1 146 j := eo
    refine ⟨⟨Pe_G hPe gR, ⟨G, by rw [e2]; exact a1, a2, fun i hi => ?_⟩, T + 1, ek, by omega, fun t ht => ?_⟩, ?_⟩
    · rw [eL, eo _ (by omega) (by omega), eo _ (by omega) (by omega)]
      exact a3 i hi
    · rw [eL]
      by_cases e : t = T
      · subst e
        rw [ex, show 46 + 3 * t = 45 + 3 * t + 1 by omega, ey]
        exact hcl
      · rw [eo _ (by omega) (by omega), eo _ (by omega) (by omega)]
        exact b3 t (by omega)
    · unfold cnt
      rw [ek, e2, hq, nJ_ix (by omega), nJ_ix (by omega)]
      omega
theorem Th_q (g : GTh S 146) (b : Bool) : ∃ q, S.1 146 (Kb b) = nJ q ∧ q ≤ 6 := by
  obtain ⟨-, ⟨G, a1, a2, a3⟩, T, b1, b2, b3⟩ := g
  cases b with
  | true => exact ⟨G, a1, a2⟩
  | false => exact ⟨T, b1, b2⟩
def Rth (S : ST) : RT := RP (fun v S' => v = none ∧ Fm [145, 146] PSf S S' ∧ PB S' ∧ (S'.1 140 17 = 0 → GTh S' 146 ∧ cnt S' = cnt S + 1))
end Thg
-- u7.load
section Rds
variable {d : Nat} {S S1 : ST}
def PSr : List Nat := [10, 11, 12, 13, 15, 16, 17, 18]
def Rrd (S : ST) : RT := RP (fun v S' => v = none ∧ Fm [145, 146] PSr S S' ∧ (S'.1 140 17 = 0 → GTh S' 146))
theorem cnt_le (g : GTh S 146) : cnt S ≤ 12 := by
  obtain ⟨-, ⟨G, a1, a2, a3⟩, T, b1, b2, b3⟩ := g
  unfold cnt
  rw [a1, b1, nJ_ix (by omega), nJ_ix (by omega)]
  omega
theorem MOK_i {S : ST} (M : MOK S) {S' : ST} (hF : Fm [144, 145, 146] [0, 7, 8, 9, 10, 11, 12, 13, 15, 16, 17, 18] S S') (h7 : 0 ≤ (S'.1 140 7).toInt ∧ (S'.1 140 7).toInt ≤ 600) : MOK S' := by
  obtain ⟨a1, a2, a3, a4, a5, a6, a7⟩ := M
  refine ⟨h7, fun h1 => ?_, ?_, fun j hj h1 => ?_, fun h1 => ?_, by rw [hF.fld (by decide) (by decide)]; exact a6, by rw [hF.fld (by decide) (by decide)]; exact a7⟩
  · rw [hF.fld (by decide) (by decide)] at h1
    exact ⟨(Ld_fm (a2 h1).1 hF (by decide) (by decide) (by decide) (by decide) (by decide) (by decide)).1, Th_r2 (hF.row (by decide) (by decide)) (a2 h1).2⟩
  · obtain ⟨c, c1, c2, c3⟩ := a3
    exact ⟨c, by rw [hF.fld (by decide) (by decide)]; exact c1, c2, fun k hk => by rw [sto_fm hF (by decide)]; exact c3 k hk⟩
  · rw [hF.row (a := 143) (by decide) (by decide)] at h1
    rw [sto_fm hF (by decide)]
    exact a4 j hj h1
  · rw [hF.fld (by decide) (by decide)] at h1
    exact Sv_fm (a5 h1) hF (by decide) (by decide) (by decide) (by decide)
/-- the invariant behind a good load -/
theorem MOK_L {S : ST} (M : MOK S) {S' : ST} (hF : Fm [141, 143, 144, 145, 146, 147, 148, 149] [0, 1, 4, 7, 8, 9, 10, 11, 12, 13, 15, 16, 17, 18, 20, 27] S S') (h7 : S'.1 140 7 = 0) (h4 : S'.1 140 4 = 0) (h30 : S'.1 143 0 = 0) (h31 : S'.1 143 1 = 0) (h27 : S'.1 140 27 = 0) (hL : Ld S') (ht : Th S' 141) : MOK S' := by
  obtain ⟨a1, a2, a3, a4, a5, a6, a7⟩ := M
  refine ⟨by rw [h7]; decide, fun _ => ⟨hL, ht⟩, ⟨0, h4, by omega, fun k hk => by omega⟩, fun j hj h1 => ?_, fun h1 => absurd h27 h1, by rw [hF.fld (by decide) (by decide)]; exact a6, by rw [hF.fld (by decide) (by decide)]; exact a7⟩
  have : j = 0 ∨ j = 1 := by omega
  rcases this with rfl | rfl
  · exact absurd h30 h1
  · exact absurd h31 h1
/-- load: the buffer is empty behind it, or it is as it was where n is not in it -/
def Rld (b : Nat) (v1 : Int32) : RT := RP (fun v S' => (∃ x : Int32, v = some (.int x)) ∧ MOK S' ∧ S'.1 140 7 = if 0 ≤ v1.toInt ∧ v1.toInt ≤ b then 0 else nJ b)
theorem rf_t {t : Int32} {b : Bool} {v : Int32} (h : (!(decide (rf t b v = 0))) = true) (h0 : t = 0) : b = true := by
  cases b with
  | true => rfl
  | false =>
    unfold rf at h
    rw [if_pos h0, if_neg (by decide), h0] at h
    exact absurd h (by decide)
end Rds
-- y0.pic
/-! the class's cells as a picture; plans and lattices at handles that are variables -/
def XCl : List SHP := [.inl (10, [.inr 1, .inr 29, .inr 3, .inr 12, .inr 21, .inr 25, .inr 30, .inr 32, .inr 39, .inr 43, .inr 46, .inr 47, .inr 121, .inr 130, .inr 139, .inl false, .inl false, .inl false]), .inl (2, [.inl false, .inl false, .inl false, .inl false, .inl false, .inl false, .inr 2]), .inr (0, 600), .inl (5, [.inl false, .inl false, .inl false, .inr 4, .inr 5, .inr 6, .inr 7, .inr 8, .inr 9, .inr 10, .inr 11]), .inr (0, 12), .inr (0, 12), .inr (0, 6), .inr (0, 6), .inr (0, 6), .inr (0, 6), .inr (0, 6), .inr (0, 6), .inl (5, [.inl false, .inl false, .inl false, .inr 13, .inr 14, .inr 15, .inr 16, .inr 17, .inr 18, .inr 19, .inr 20]), .inr (0, 12), .inr (0, 12), .inr (0, 6), .inr (0, 6), .inr (0, 6), .inr (0, 6), .inr (0, 6), .inr (0, 6), .inl (3, [.inl false, .inl true, .inr 22, .inr 23, .inr 24]), .inr (0, 64), .inr (0, 64), .inr (0, 256), .inl (3, [.inl false, .inl true, .inr 26, .inr 27, .inr 28]), .inr (0, 64), .inr (0, 64), .inr (0, 256), .inl (4, [.inr 1, .inr 12, .inr 25, .inl false, .inl false]), .inl (6, [.inr 3, .inr 21, .inr 31, .inl false]), .inr (2, 64), .inl (8, [.inr 3, .inr 33, .inr 34, .inr 35, .inr 36, .inr 37, .inr 38, .inl false, .inl false]), .inr (0, 10), .inr (0, 10), .inr (0, 10), .inr (0, 10), .inr (0, 12), .inr (0, 12), .inl (0, [.inr 3, .inr 21, .inr 30, .inr 40, .inr 41, .inr 42, .inl false, .inl false, .inl false]), .inr (2, 12), .inr (2, 65), .inr (0, 4), .inl (7, [.inr 30, .inr 44, .inr 45, .inl false, .inl false]), .inr (2, 64), .inr (0, 4), .inl (9, [.inr 3, .inr 21, .inr 30]), .inl (1, [.inl false, .inl false, .inr 48]), .inr (52, 8), .inl (5, [.inl false, .inl false, .inl false, .inr 50, .inr 51, .inr 52, .inr 53, .inr 54, .inr 55, .inr 56, .inr 57]), .inr (0, 12), .inr (0, 12), .inr (0, 6), .inr (0, 6), .inr (0, 6), .inr (0, 6), .inr (0, 6), .inr (0, 6), .inl (5, [.inl false, .inl false, .inl false, .inr 59, .inr 60, .inr 61, .inr 62, .inr 63, .inr 64, .inr 65, .inr 66]), .inr (0, 12), .inr (0, 12), .inr (0, 6), .inr (0, 6), .inr (0, 6), .inr (0, 6), .inr (0, 6), .inr (0, 6), .inl (5, [.inl false, .inl false, .inl false, .inr 68, .inr 69, .inr 70, .inr 71, .inr 72, .inr 73, .inr 74, .inr 75]), .inr (0, 12), .inr (0, 12), .inr (0, 6), .inr (0, 6), .inr (0, 6), .inr (0, 6), .inr (0, 6), .inr (0, 6), .inl (5, [.inl false, .inl false, .inl false, .inr 77, .inr 78, .inr 79, .inr 80, .inr 81, .inr 82, .inr 83, .inr 84]), .inr (0, 12), .inr (0, 12), .inr (0, 6), .inr (0, 6), .inr (0, 6), .inr (0, 6), .inr (0, 6), .inr (0, 6), .inl (5, [.inl false, .inl false, .inl false, .inr 86, .inr 87, .inr 88, .inr 89, .inr 90, .inr 91, .inr 92, .inr 93]), .inr (0, 12), .inr (0, 12), .inr (0, 6), .inr (0, 6), .inr (0, 6), .inr (0, 6), .inr (0, 6), .inr (0, 6), .inl (5, [.inl false, .inl false, .inl false, .inr 95, .inr 96, .inr 97, .inr 98, .inr 99, .inr 100, .inr 101, .inr 102]), .inr (0, 12), .inr (0, 12), .inr (0, 6), .inr (0, 6), .inr (0, 6), .inr (0, 6), .inr (0, 6), .inr (0, 6), .inl (5, [.inl false, .inl false, .inl false, .inr 104, .inr 105, .inr 106, .inr 107, .inr 108, .inr 109, .inr 110, .inr 111]), .inr (0, 12), .inr (0, 12), .inr (0, 6), .inr (0, 6), .inr (0, 6), .inr (0, 6), .inr (0, 6), .inr (0, 6), .inl (5, [.inl false, .inl false, .inl false, .inr 113, .inr 114, .inr 115, .inr 116, .inr 117, .inr 118, .inr 119, .inr 120]), .inr (0, 12), .inr (0, 12), .inr (0, 6), .inr (0, 6), .inr (0, 6), .inr (0, 6), .inr (0, 6), .inr (0, 6), .inl (5, [.inl false, .inl false, .inl false, .inr 122, .inr 123, .inr 124, .inr 125, .inr 126, .inr 127, .inr 128, .inr 129]), .inr (0, 12), .inr (0, 12), .inr (0, 6), .inr (0, 6), .inr (0, 6), .inr (0, 6), .inr (0, 6), .inr (0, 6), .inl (5, [.inl false, .inl false, .inl false, .inr 131, .inr 132, .inr 133, .inr 134, .inr 135, .inr 136, .inr 137, .inr 138]), .inr (0, 12), .inr (0, 12), .inr (0, 6), .inr (0, 6), .inr (0, 6), .inr (0, 6), .inr (0, 6), .inr (0, 6), .inr (0, 16)]
def XC : XT := fun h => if h < 140 then XCl[h]? else if h = 162 then some (.inr (2, 1)) else none
def oPl (h : Nat) : Nat × List FT := (5, [.inl false, .inl false, .inl false, .inr (h + 1), .inr (h + 2), .inr (h + 3), .inr (h + 4), .inr (h + 5), .inr (h + 6), .inr (h + 7), .inr (h + 8)])
def PLH (h : Nat) : Prop := XC h = some (.inl (oPl h)) ∧ XC (h + 1) = some (.inr (0, 12)) ∧ XC (h + 2) = some (.inr (0, 12)) ∧ XC (h + 3) = some (.inr (0, 6)) ∧ XC (h + 4) = some (.inr (0, 6)) ∧ XC (h + 5) = some (.inr (0, 6)) ∧ XC (h + 6) = some (.inr (0, 6)) ∧ XC (h + 7) = some (.inr (0, 6)) ∧ XC (h + 8) = some (.inr (0, 6))
def plL : List Nat := [3, 12, 49, 58, 67, 76, 85, 94, 103, 112, 121, 130]
def plB (h : Nat) : Bool := plL.contains h
theorem plB_ok {h : Nat} (hb : plB h = true) : PLH h := by
  have hm : h ∈ plL := by simpa [plB] using hb
  simp only [plL, List.mem_cons, List.not_mem_nil, or_false] at hm
  rcases hm with rfl | rfl | rfl | rfl | rfl | rfl | rfl | rfl | rfl | rfl | rfl | rfl <;> exact ⟨rfl, rfl, rfl, rfl, rfl, rfl, rfl, rfl, rfl⟩
def oLt (h : Nat) : Nat × List FT := (3, [.inl false, .inl true, .inr (h + 1), .inr (h + 2), .inr (h + 3)])
def LTH (h : Nat) : Prop := XC h = some (.inl (oLt h)) ∧ XC (h + 1) = some (.inr (0, 64)) ∧ XC (h + 2) = some (.inr (0, 64)) ∧ XC (h + 3) = some (.inr (0, 256))
def ltB (h : Nat) : Bool := h == 21 || h == 25
theorem ltB_ok {h : Nat} (hb : ltB h = true) : LTH h := by
  have hm : h = 21 ∨ h = 25 := by simpa [ltB] using hb
  rcases hm with rfl | rfl <;> exact ⟨rfl, rfl, rfl, rfl⟩
theorem plh_past {j : Int32} (hj : inB j 8) : PLH (49 + 9 * j.toNatClampNeg) := by
  have h1 := inB_ok hj
  have h2 : j.toNatClampNeg < 8 := by
    simp only [inN, Bool.and_eq_true, decide_eq_true_eq] at h1
    exact h1.2
  generalize j.toNatClampNeg = q at h2
  match q, h2 with
  | 0, _ => exact plB_ok rfl
  | 1, _ => exact plB_ok rfl
  | 2, _ => exact plB_ok rfl
  | 3, _ => exact plB_ok rfl
  | 4, _ => exact plB_ok rfl
  | 5, _ => exact plB_ok rfl
  | 6, _ => exact plB_ok rfl
  | 7, _ => exact plB_ok rfl
  | n + 8, h => exact absurd h (by omega)
-- y1.rules
/-! the class in the exact picture: rules for handles that are variables, for throws, Math, copies; loops as functions -/
section Rules
variable {X : XT} {d d' k c pc pc' : Nat} {ls ls' : LSt} {st r : List Value} {S S' S1 : ST} {R R' : RT} {M : MI} {o : Nat} {cd : List (Nat × Instr)} {i : Instr}
/-- the first n cells of h0 into h1 -/
def wC (S : ST) (h0 h1 n : Nat) : ST := (fun h k => if h = h1 ∧ k < n then S.1 h0 k else S.1 h k, S.2)
theorem wC_2 (S : ST) (h0 h1 n : Nat) : (wC S h0 h1 n).2 = S.2 := rfl
theorem wC_1 (S : ST) (h0 h1 n h k : Nat) : (wC S h0 h1 n).1 h k = if h = h1 ∧ k < n then S.1 h0 k else S.1 h k := rfl
end Rules
/-! functions of methods: fuel for loops, checks, calls -/
def wh {A B : Type} : Nat → (A → Option (A ⊕ B)) → A → Option B
  | 0, _, _ => none
  | n + 1, f, a => match f a with
    | none => none
    | some (.inl a') => wh n f a'
    | some (.inr b) => some b
theorem wh_go {A B : Type} {f : A → Option (A ⊕ B)} {P : A → Prop} {K : B → Prop} (hs : ∀ a r, f a = some r → (∀ a', r = .inl a' → P a') → (∀ b, r = .inr b → K b) → P a) : ∀ (n : Nat) (a : A) (b : B), wh n f a = some b → K b → P a := by
  intro n
  induction n with
  | zero => intro a b h; cases h
  | succ n ih =>
    intro a b h hk
    unfold wh at h
    split at h
    · cases h
    · next a' ha => exact hs a _ ha (fun a2 e => by cases e; exact ih _ _ h hk) (fun b2 e => by cases e)
    · next b' hb => cases h; exact hs a _ hb (fun a2 e => by cases e) (fun b2 e => by cases e; exact hk)
def ck {α : Type} (b : Bool) (x : Option α) : Option α := match b with
  | true => x
  | false => none
theorem ck_some {α : Type} {b : Bool} {x : Option α} {r : α} (h : ck b x = some r) : b = true ∧ x = some r := by
  cases b with
  | true => exact ⟨rfl, h⟩
  | false => cases h
def ob {α β : Type} (x : Option α) (f : α → Option β) : Option β := match x with
  | some a => f a
  | none => none
theorem ob_some {α β : Type} {x : Option α} {f : α → Option β} {r : β} (h : ob x f = some r) : ∃ a, x = some a ∧ f a = some r := by
  cases x with
  | some a => exact ⟨a, rfl, h⟩
  | none => cases h
/-- of a method that may throw -/
def ox {α β : Type} (x : Option ((String ⊕ α) × ST)) (f : α → ST → Option ((String ⊕ β) × ST)) : Option ((String ⊕ β) × ST) := match x with
  | some (.inl E, S) => some (.inl E, S)
  | some (.inr a, S) => f a S
  | none => none
theorem ox_some {α β : Type} {x : Option ((String ⊕ α) × ST)} {f : α → ST → Option ((String ⊕ β) × ST)} {r : (String ⊕ β) × ST} (h : ox x f = some r) : (∃ E S, x = some (.inl E, S) ∧ r = (.inl E, S)) ∨ ∃ a S, x = some (.inr a, S) ∧ f a S = some r := by
  match x, h with
  | some (.inl E, S), h => exact Or.inl ⟨E, S, rfl, (Option.some.inj h).symm⟩
  | some (.inr a, S), h => exact Or.inr ⟨a, S, rfl, h⟩
/-- a proposition as a check -/
noncomputable def chB (p : Prop) : Bool := @decide p (Classical.propDecidable p)
theorem chB_t {p : Prop} : chB p = true ↔ p := by unfold chB; exact @decide_eq_true_iff p (Classical.propDecidable p)
theorem chB_f {p : Prop} : chB p = false ↔ ¬ p := by
  constructor
  · intro h q; rw [chB_t.mpr q] at h; cases h
  · intro h
    cases e : chB p with
    | false => rfl
    | true => exact absurd (chB_t.mp e) h
theorem ck_tt {α : Type} {x : Option α} : ck true x = x := rfl
theorem ck_P {α : Type} {p : Prop} {x : Option α} (h : p) : ck (chB p) x = x := by rw [chB_t.mpr h]; rfl
/-- a state by name -/
def sbn {α : Type} (S : ST) (f : ST → Option α) : Option α := f S
theorem sbn_some {α : Type} {S : ST} {f : ST → Option α} {r : α} (h : sbn S f = some r) : ∃ s, s = S ∧ f s = some r := ⟨S, rfl, h⟩
def ibd (j : Int32) (n : Nat) : Bool := decide (0 ≤ j.toInt) && decide (j.toInt < n)
theorem ibd_ok {j : Int32} {n : Nat} (h : ibd j n = true) : inB j n := by
  simp only [ibd, Bool.and_eq_true, decide_eq_true_eq] at h
  exact h
theorem bf {b : Bool} (h : b = false) : ¬ b = true := by rw [h]; exact Bool.false_ne_true
def zb (x : Int32) : Bool := decide (x = 0) || decide (x = 1)
theorem zb_ok {x : Int32} (h : zb x = true) : x = 0 ∨ x = 1 := by
  simp only [zb, Bool.or_eq_true, decide_eq_true_eq] at h
  exact h
theorem zb_b {x : Int32} (h : zb x = true) : x = b2i (decide (x = 1)) := by
  rcases zb_ok h with rfl | rfl <;> rfl
/-- the end of a method that may throw -/
def RXx {α : Type} (val : α → Option Value) (r : (String ⊕ α) × ST) : RT := fun c o S' => match r.1 with
  | .inl E => c = 1 ∧ o = .inl E ∧ S' = r.2
  | .inr v => c = 0 ∧ o = .inr (val v) ∧ S' = r.2
def vI (x : Int32) : Option Value := some (.int x)
def vZ (x : Bool) : Option Value := some (.int (b2i x))
def vJ (x : Int64) : Option Value := some (.long x)
def vU (_ : Unit) : Option Value := none
def vR (h : Nat) : Option Value := some (.ref h)
def FU : Nat := 1000000
