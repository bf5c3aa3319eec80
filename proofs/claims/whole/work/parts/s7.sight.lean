/-! the points are laid; who sees whom -/
theorem in_lo {a b c p : GPt} {t : Int} (hF : 0 < ge_o a b c) (h : ge_in a b c p) (ha : t ≤ a.1) (hb : t ≤ b.1) (hc : t ≤ c.1) : t ≤ p.1 := by
  apply Classical.byContradiction
  intro q
  have e := ge_bx a b c p
  have s := ge_b0 a b c p
  have k1 := Int.mul_nonneg h.2.1 (show 0 ≤ a.1 - p.1 - 1 by omega)
  have k2 := Int.mul_nonneg h.2.2 (show 0 ≤ b.1 - p.1 - 1 by omega)
  have k3 := Int.mul_nonneg h.1 (show 0 ≤ c.1 - p.1 - 1 by omega)
  rw [Int.mul_sub] at k1 k2 k3
  omega
theorem in_hi {a b c p : GPt} {t : Int} (hF : 0 < ge_o a b c) (h : ge_in a b c p) (ha : a.1 ≤ t) (hb : b.1 ≤ t) (hc : c.1 ≤ t) : p.1 ≤ t := by
  apply Classical.byContradiction
  intro q
  have e := ge_bx a b c p
  have s := ge_b0 a b c p
  have k1 := Int.mul_nonneg h.2.1 (show 0 ≤ p.1 - a.1 - 1 by omega)
  have k2 := Int.mul_nonneg h.2.2 (show 0 ≤ p.1 - b.1 - 1 by omega)
  have k3 := Int.mul_nonneg h.1 (show 0 ≤ p.1 - c.1 - 1 by omega)
  have f1 : ge_o b c p * (p.1 - a.1 - 1) = -(ge_o b c p * (a.1 - p.1)) - ge_o b c p := by grind
  have f2 : ge_o c a p * (p.1 - b.1 - 1) = -(ge_o c a p * (b.1 - p.1)) - ge_o c a p := by grind
  have f3 : ge_o a b p * (p.1 - c.1 - 1) = -(ge_o a b p * (c.1 - p.1)) - ge_o a b p := by grind
  omega
theorem in_lo2 {a b c p : GPt} {t : Int} (hF : 0 < ge_o a b c) (h : ge_in a b c p) (ha : t ≤ a.2) (hb : t ≤ b.2) (hc : t ≤ c.2) : t ≤ p.2 := by
  apply Classical.byContradiction
  intro q
  have e := ge_by a b c p
  have s := ge_b0 a b c p
  have k1 := Int.mul_nonneg h.2.1 (show 0 ≤ a.2 - p.2 - 1 by omega)
  have k2 := Int.mul_nonneg h.2.2 (show 0 ≤ b.2 - p.2 - 1 by omega)
  have k3 := Int.mul_nonneg h.1 (show 0 ≤ c.2 - p.2 - 1 by omega)
  rw [Int.mul_sub] at k1 k2 k3
  omega
theorem in_hi2 {a b c p : GPt} {t : Int} (hF : 0 < ge_o a b c) (h : ge_in a b c p) (ha : a.2 ≤ t) (hb : b.2 ≤ t) (hc : c.2 ≤ t) : p.2 ≤ t := by
  apply Classical.byContradiction
  intro q
  have e := ge_by a b c p
  have s := ge_b0 a b c p
  have k1 := Int.mul_nonneg h.2.1 (show 0 ≤ p.2 - a.2 - 1 by omega)
  have k2 := Int.mul_nonneg h.2.2 (show 0 ≤ p.2 - b.2 - 1 by omega)
  have k3 := Int.mul_nonneg h.1 (show 0 ≤ p.2 - c.2 - 1 by omega)
  have f1 : ge_o b c p * (p.2 - a.2 - 1) = -(ge_o b c p * (a.2 - p.2)) - ge_o b c p := by grind
  have f2 : ge_o c a p * (p.2 - b.2 - 1) = -(ge_o c a p * (b.2 - p.2)) - ge_o c a p := by grind
  have f3 : ge_o a b p * (p.2 - c.2 - 1) = -(ge_o a b p * (c.2 - p.2)) - ge_o a b p := by grind
  omega
theorem in_box {a b c p : GPt} {t : Int} (hF : 0 < ge_o a b c) (h : ge_in a b c p) (B : ∀ v, v = a ∨ v = b ∨ v = c → 0 ≤ v.1 ∧ v.1 ≤ t ∧ 0 ≤ v.2 ∧ v.2 ≤ t) : 0 ≤ p.1 ∧ p.1 ≤ t ∧ 0 ≤ p.2 ∧ p.2 ≤ t := by
  have A := B a (Or.inl rfl)
  have A2 := B b (Or.inr (Or.inl rfl))
  have A3 := B c (Or.inr (Or.inr rfl))
  exact ⟨in_lo hF h A.1 A2.1 A3.1, in_hi hF h A.2.1 A2.2.1 A3.2.1, in_lo2 hF h A.2.2.1 A2.2.2.1 A3.2.2.1, in_hi2 hF h A.2.2.2 A2.2.2.2 A3.2.2.2⟩
/-- a place of the closed polygon lies in the square of its vertices -/
theorem cl_box {l : List GPt} (h3 : 3 ≤ l.length) (hs : ge_simple l) {t : Int} (B : ∀ v ∈ l, 0 ≤ v.1 ∧ v.1 ≤ t ∧ 0 ≤ v.2 ∧ v.2 ≤ t) {q : GPt} (hq : ge_cl 1 l q) : 0 ≤ q.1 ∧ q.1 ≤ t ∧ 0 ≤ q.2 ∧ q.2 ≤ t := by
  obtain ⟨TS, col, g, -⟩ := ge_cover h3 hs
  obtain ⟨T, hT, tq⟩ := g.2.2.2.1 1 (by decide) q hq
  have tq := ge_tc_1 tq
  obtain ⟨m1, m2, m3, mF⟩ := g.1 T hT
  have s1 := ge_o_swap T.1 T.2.1 T.2.2
  have c1 := ge_o_cyc T.2.1 T.1 T.2.2
  rcases tq with z | z
  · have s := ge_b0 T.1 T.2.1 T.2.2 q
    refine in_box (by have := z.1; have := z.2.1; have := z.2.2; omega) z ?_
    rintro v (rfl | rfl | rfl)
    · exact B _ m1
    · exact B _ m2
    · exact B _ m3
  · have s := ge_b0 T.2.2 T.2.1 T.1 q
    have e : ge_o T.2.2 T.2.1 T.1 ≠ 0 := by
      have : ge_o T.2.2 T.2.1 T.1 = - ge_o T.1 T.2.1 T.2.2 := by unfold ge_o; grind
      omega
    refine in_box (by have := z.1; have := z.2.1; have := z.2.2; omega) z ?_
    rintro v (rfl | rfl | rfl)
    · exact B _ m3
    · exact B _ m2
    · exact B _ m1
/-- a good row: a simple polygon of 3 to 12 vertices in the square, with at most 64 points -/
def GR (S : ST) (h : Nat) : Prop := RW S h ∧ 3 ≤ rN S h ∧ RB S h ∧ ge_simp (rN S h) (rP S h) ∧ rk (inp S h) 256 ≤ 64
def nP (S : ST) : Nat := rk (inp S 141) 256
def pt (S : ST) (p : Nat) : GPt := ((S.1 147 p).toInt, (S.1 148 p).toInt)
/-- the state's points are laid -/
def Ld (S : ST) : Prop := GR S 141 ∧ LdT S S 256
theorem GR_simple {S : ST} {h : Nat} (g : GR S h) : ge_simple (rL S h) ∧ 3 ≤ (rL S h).length ∧ (rL S h).length ≤ 12 := by
  have l : (rL S h).length = rN S h := ge_pl_len _ _
  exact ⟨ge_simple_of g.2.1 g.2.2.2.1, by rw [l]; exact g.2.1, by rw [l]; exact g.1.2⟩
theorem GR_box {S : ST} {h : Nat} (g : GR S h) : ∀ v ∈ rL S h, 0 ≤ v.1 ∧ v.1 ≤ 15 ∧ 0 ≤ v.2 ∧ v.2 ≤ 15 := by
  intro v hv
  obtain ⟨i, hi, rfl⟩ := ge_pl_mem.mp hv
  have h12 := g.1.2
  have a := RB_x g.2.2.1 (i := i) (by omega)
  have b := RB_y g.2.2.1 (i := i) (by omega)
  exact ⟨a.1, a.2, b.1, b.2⟩
def lxy (t : Nat) : GPt := (((t % 16 : Nat) : Int), ((t / 16 : Nat) : Int))
theorem inp_t {S : ST} {h t : Nat} (g : GR S h) (ht : t < 256) : inp S h t = true ↔ ge_cl 1 (rL S h) (lxy t) := by
  have a := li_t (x := t % 16) (by omega)
  have b := li_t (x := t / 16) (by omega)
  have := isIn_t (S := S) (h := h) (m := 1) (x := li (t % 16)) (y := li (t / 16)) g.1 g.2.2.1 (by decide) (by decide) (by unfold bd; rw [a]; omega) (by unfold bd; rw [b]; omega)
  unfold inp
  rw [this, one_t]
  unfold lP
  rw [a, b]
  rfl
theorem Ld_P {S : ST} (h : Ld S) : S.1 140 20 = nJ (nP S) ∧ nP S ≤ 64 := ⟨h.2.1, h.1.2.2.2.2⟩
/-- a point's place -/
theorem Ld_pt {S : ST} (h : Ld S) {p : Nat} (hp : p < nP S) : ∃ t, t < 256 ∧ inp S 141 t = true ∧ rk (inp S 141) t = p ∧ S.1 147 p = nJ (t % 16) ∧ S.1 148 p = nJ (t / 16) ∧ pt S p = lxy t ∧ ge_cl 1 (rL S 141) (pt S p) := by
  obtain ⟨t, h1, h2, h3⟩ := rk_ex _ hp
  obtain ⟨a1, a2, a3⟩ := (h.2.2.1 t h1).1 h2
  rw [h3] at a1 a2
  have e : pt S p = lxy t := by
    unfold pt
    rw [a1, a2, nJ_toInt (by omega), nJ_toInt (by omega)]
    rfl
  exact ⟨t, h1, h2, h3, a1, a2, e, by rw [e]; exact (inp_t h.1 h1).mp h2⟩
/-- each lattice place of the polygon is a point -/
theorem Ld_of {S : ST} (h : Ld S) {q : GPt} (hq : ge_cl 1 (rL S 141) q) : ∃ p, p < nP S ∧ pt S p = q := by
  obtain ⟨g1, g2, g3⟩ := GR_simple h.1
  have b := cl_box g2 g1 (GR_box h.1) hq
  have e : lxy (16 * q.2 + q.1).toNat = q := by
    refine Prod.ext ?_ ?_
    · show (((16 * q.2 + q.1).toNat % 16 : Nat) : Int) = q.1
      omega
    · show (((16 * q.2 + q.1).toNat / 16 : Nat) : Int) = q.2
      omega
  have ht : (16 * q.2 + q.1).toNat < 256 := by omega
  have hin : inp S 141 (16 * q.2 + q.1).toNat = true := (inp_t h.1 ht).mpr (by rw [e]; exact hq)
  refine ⟨rk (inp S 141) (16 * q.2 + q.1).toNat, rk_lt ht hin, ?_⟩
  obtain ⟨a1, a2, a3⟩ := (h.2.2.1 _ ht).1 hin
  unfold pt
  rw [a1, a2, nJ_toInt (by omega), nJ_toInt (by omega)]
  exact e
/-- frames that leave the laid points alone -/
theorem Ld_fm {S S' : ST} {hs fs : List Nat} (h : Ld S) (hF : Fm hs fs S S') (h0 : 140 ∉ hs) (h1 : 141 ∉ hs) (h7 : 147 ∉ hs) (h8 : 148 ∉ hs) (h9 : 149 ∉ hs) (h20 : 20 ∉ fs) : Ld S' ∧ rL S' 141 = rL S 141 ∧ nP S' = nP S ∧ ∀ p, pt S' p = pt S p := by
  have e1 := hF.row h1 (by decide)
  have e7 := hF.row h7 (by decide)
  have e8 := hF.row h8 (by decide)
  have e9 := hF.row h9 (by decide)
  have e20 := hF.fld h0 h20
  have ei := inp_row e1
  have eP : rP S' 141 = rP S 141 := by funext i; unfold rP; rw [e1]
  have eL : rL S' 141 = rL S 141 := by unfold rL; rw [rN_row e1, eP]
  have en : nP S' = nP S := by unfold nP; rw [ei]
  refine ⟨⟨⟨RW_row e1 h.1.1, by rw [rN_row e1]; exact h.1.2.1, RB_row e1 h.1.2.2.1, by rw [rN_row e1, eP]; exact h.1.2.2.2.1, by rw [ei]; exact h.1.2.2.2.2⟩, ?_⟩, eL, en, fun p => by unfold pt; rw [e7, e8]⟩
  refine ⟨by rw [e20, ei]; exact h.2.1, ?_, Fm.rf⟩
  rw [ei, e7, e8, e9]
  exact h.2.2.1
/-- sight: bits below the points' number alone; each point sees itself and all that it must see -/
def Sv (S : ST) : Prop := ∀ p, p < nP S → (∀ q, bz (S.2 153 p) q = true → q < nP S) ∧ bz (S.2 153 p) p = true ∧ ∀ q, q < nP S → ge_sees (rL S 141) (pt S p) (pt S q) → bz (S.2 153 p) q = true
theorem mm_239 : mtG 239 = some (mi_239, 12, ft_239) := rfl
set_option maxRecDepth 20000 in
theorem b_239_0 {d c : Nat} {R : RT} {S : ST} (e1 : (S.1 140 27) = 0 → Go XM (d + 6) 239 c 25 [some (.ref 140), some (.int 0), none] [] (wI (wI (wI S 140 27 1) 140 34 0) 140 36 0) R) (e2 : ¬ (S.1 140 27) = 0 → R c (.inr none) S) : Go XM (d + 6) 239 c 0 [some (.ref 140), none, none] [] S R := by
  refine go_run mm_239 2 (pc' := 4) (ls' := [some (.ref 140), none, none]) (st' := [.int (S.1 140 27)]) (S' := S) rfl ?_
  refine go_if0 mm_239 rfl (p1 := 8) (p2 := 7) rfl (fun (hc1 : (S.1 140 27) = 0) => ?_) (fun (hc1 : ¬ (S.1 140 27) = 0) => ?_)
  · refine go_run mm_239 11 (pc' := 25) (ls' := [some (.ref 140), some (.int 0), none]) (st' := []) (S' := (wI (wI (wI S 140 27 1) 140 34 0) 140 36 0)) rfl ?_
    exact e1 hc1
  · exact go_vreturn mm_239 rfl rfl (e2 hc1)
set_option maxRecDepth 20000 in
theorem b_239_25 {d c : Nat} {R : RT} {S : ST} {v1 : Int32} (o1 : v1 < (S.1 140 20) → inB v1 64) (e1 : v1 < (S.1 140 20) → Go XM (d + 6) 239 c 25 [some (.ref 140), some (.int (v1 + 1)), none] [] (wL S 153 (Int32.toNatClampNeg v1) (1 <<< (Int32.toInt64 v1 &&& 63))) R) (e2 : ¬ v1 < (S.1 140 20) → Go XM (d + 6) 239 c 50 [some (.ref 140), some (.int 0), none] [] S R) : Go XM (d + 6) 239 c 25 [some (.ref 140), some (.int v1), none] [] S R := by
  refine go_run mm_239 3 (pc' := 30) (ls' := [some (.ref 140), some (.int v1), none]) (st' := [.int (S.1 140 20), .int v1]) (S' := S) rfl ?_
  refine go_if2 mm_239 rfl (p1 := 33) (p2 := 48) rfl (fun (hc1 : v1 < (S.1 140 20)) => ?_) (fun (hc1 : ¬ v1 < (S.1 140 20)) => ?_)
  · refine go_run mm_239 6 (pc' := 41) (ls' := [some (.ref 140), some (.int v1), none]) (st' := [.long (1 <<< (Int32.toInt64 v1 &&& 63)), .int v1, .ref 153]) (S' := S) rfl ?_
    refine go_lastore mm_239 (q := (Int32.toNatClampNeg v1)) rfl rfl rfl (o1 hc1) ?_
    refine go_run mm_239 2 (pc' := 25) (ls' := [some (.ref 140), some (.int (v1 + 1)), none]) (st' := []) (S' := (wL S 153 (Int32.toNatClampNeg v1) (1 <<< (Int32.toInt64 v1 &&& 63)))) rfl ?_
    exact e1 hc1
  · refine go_run mm_239 2 (pc' := 50) (ls' := [some (.ref 140), some (.int 0), none]) (st' := []) (S' := S) rfl ?_
    exact e2 hc1
set_option maxRecDepth 20000 in
theorem b_239_50 {d c : Nat} {R : RT} {S : ST} {v1 : Int32} (e1 : v1 < (S.1 140 20) → Go XM (d + 6) 239 c 60 [some (.ref 140), some (.int v1), some (.int 0)] [] S R) (e2 : ¬ v1 < (S.1 140 20) → Go XM (d + 6) 239 c 139 [some (.ref 140), some (.int 0), none] [] S R) : Go XM (d + 6) 239 c 50 [some (.ref 140), some (.int v1), none] [] S R := by
  refine go_run mm_239 3 (pc' := 55) (ls' := [some (.ref 140), some (.int v1), none]) (st' := [.int (S.1 140 20), .int v1]) (S' := S) rfl ?_
  refine go_if2 mm_239 rfl (p1 := 58) (p2 := 137) rfl (fun (hc1 : v1 < (S.1 140 20)) => ?_) (fun (hc1 : ¬ v1 < (S.1 140 20)) => ?_)
  · refine go_run mm_239 2 (pc' := 60) (ls' := [some (.ref 140), some (.int v1), some (.int 0)]) (st' := []) (S' := S) rfl ?_
    exact e1 hc1
  · refine go_run mm_239 2 (pc' := 139) (ls' := [some (.ref 140), some (.int 0), none]) (st' := []) (S' := S) rfl ?_
    exact e2 hc1
set_option maxRecDepth 20000 in
theorem b_239_60 {d c : Nat} {R : RT} {S : ST} {v1 : Int32} {v2 : Int32} (o1 : v2 < v1 → inB v1 64) (o2 : v2 < v1 → inB v2 64) (e1 : v2 < v1 → Go XM (d + 6) 239 c 95 [some (.ref 140), some (.int v1), some (.int v2)] [.long 1, .long (Int32.toInt64 (ra S 148 v2)), .long (Int32.toInt64 (ra S 147 v2)), .long (Int32.toInt64 (ra S 148 v1)), .long (Int32.toInt64 (ra S 147 v1)), .ref 140] S R) (e2 : ¬ v2 < v1 → Go XM (d + 6) 239 c 50 [some (.ref 140), some (.int (v1 + 1)), some (.int v2)] [] S R) : Go XM (d + 6) 239 c 60 [some (.ref 140), some (.int v1), some (.int v2)] [] S R := by
  refine go_run mm_239 2 (pc' := 62) (ls' := [some (.ref 140), some (.int v1), some (.int v2)]) (st' := [.int v1, .int v2]) (S' := S) rfl ?_
  refine go_if2 mm_239 rfl (p1 := 65) (p2 := 131) rfl (fun (hc1 : v2 < v1) => ?_) (fun (hc1 : ¬ v2 < v1) => ?_)
  · refine go_run mm_239 4 (pc' := 71) (ls' := [some (.ref 140), some (.int v1), some (.int v2)]) (st' := [.int v1, .ref 147, .ref 140]) (S' := S) rfl ?_
    refine go_iaload mm_239 (q := (Int32.toNatClampNeg v1)) rfl rfl rfl (o1 hc1) ?_
    refine go_run mm_239 4 (pc' := 78) (ls' := [some (.ref 140), some (.int v1), some (.int v2)]) (st' := [.int v1, .ref 148, .long (Int32.toInt64 (ra S 147 v1)), .ref 140]) (S' := S) rfl ?_
    refine go_iaload mm_239 (q := (Int32.toNatClampNeg v1)) rfl rfl rfl (o1 hc1) ?_
    refine go_run mm_239 4 (pc' := 85) (ls' := [some (.ref 140), some (.int v1), some (.int v2)]) (st' := [.int v2, .ref 147, .long (Int32.toInt64 (ra S 148 v1)), .long (Int32.toInt64 (ra S 147 v1)), .ref 140]) (S' := S) rfl ?_
    refine go_iaload mm_239 (q := (Int32.toNatClampNeg v2)) rfl rfl rfl (o2 hc1) ?_
    refine go_run mm_239 4 (pc' := 92) (ls' := [some (.ref 140), some (.int v1), some (.int v2)]) (st' := [.int v2, .ref 148, .long (Int32.toInt64 (ra S 147 v2)), .long (Int32.toInt64 (ra S 148 v1)), .long (Int32.toInt64 (ra S 147 v1)), .ref 140]) (S' := S) rfl ?_
    refine go_iaload mm_239 (q := (Int32.toNatClampNeg v2)) rfl rfl rfl (o2 hc1) ?_
    refine go_run mm_239 2 (pc' := 95) (ls' := [some (.ref 140), some (.int v1), some (.int v2)]) (st' := [.long 1, .long (Int32.toInt64 (ra S 148 v2)), .long (Int32.toInt64 (ra S 147 v2)), .long (Int32.toInt64 (ra S 148 v1)), .long (Int32.toInt64 (ra S 147 v1)), .ref 140]) (S' := S) rfl ?_
    exact e1 hc1
  · refine go_run mm_239 2 (pc' := 50) (ls' := [some (.ref 140), some (.int (v1 + 1)), some (.int v2)]) (st' := []) (S' := S) rfl ?_
    exact e2 hc1
set_option maxRecDepth 20000 in
theorem b_239_98 {d c : Nat} {R : RT} {S : ST} {v1 : Int32} {v2 : Int32} {w0 : Bool} (o1 : w0 = true → inB v1 64) (o2 : w0 = true → inB v2 64) (e1 : w0 = true → Go XM (d + 6) 239 c 60 [some (.ref 140), some (.int v1), some (.int (v2 + 1))] [] (wL (wL S 153 (Int32.toNatClampNeg v1) ((rl S 153 v1) ||| (1 <<< (Int32.toInt64 v2 &&& 63)))) 153 (Int32.toNatClampNeg v2) ((rl (wL S 153 (Int32.toNatClampNeg v1) ((rl S 153 v1) ||| (1 <<< (Int32.toInt64 v2 &&& 63)))) 153 v2) ||| (1 <<< (Int32.toInt64 v1 &&& 63)))) R) (e2 : w0 = false → Go XM (d + 6) 239 c 60 [some (.ref 140), some (.int v1), some (.int (v2 + 1))] [] S R) : Go XM (d + 6) 239 c 98 [some (.ref 140), some (.int v1), some (.int v2)] [.int (b2i w0)] S R := by
  refine go_ifb mm_239 rfl (p1 := 101) (p2 := 125) rfl (fun (hc1 : w0 = true) => ?_) (fun (hc1 : w0 = false) => ?_)
  · refine go_run mm_239 4 (pc' := 107) (ls' := [some (.ref 140), some (.int v1), some (.int v2)]) (st' := [.int v1, .ref 153, .int v1, .ref 153]) (S' := S) rfl ?_
    refine go_laload mm_239 (q := (Int32.toNatClampNeg v1)) rfl rfl rfl (o1 hc1) ?_
    refine go_run mm_239 4 (pc' := 112) (ls' := [some (.ref 140), some (.int v1), some (.int v2)]) (st' := [.long ((rl S 153 v1) ||| (1 <<< (Int32.toInt64 v2 &&& 63))), .int v1, .ref 153]) (S' := S) rfl ?_
    refine go_lastore mm_239 (q := (Int32.toNatClampNeg v1)) rfl rfl rfl (o1 hc1) ?_
    refine go_run mm_239 4 (pc' := 119) (ls' := [some (.ref 140), some (.int v1), some (.int v2)]) (st' := [.int v2, .ref 153, .int v2, .ref 153]) (S' := (wL S 153 (Int32.toNatClampNeg v1) ((rl S 153 v1) ||| (1 <<< (Int32.toInt64 v2 &&& 63))))) rfl ?_
    refine go_laload mm_239 (q := (Int32.toNatClampNeg v2)) rfl rfl rfl (o2 hc1) ?_
    refine go_run mm_239 4 (pc' := 124) (ls' := [some (.ref 140), some (.int v1), some (.int v2)]) (st' := [.long ((rl (wL S 153 (Int32.toNatClampNeg v1) ((rl S 153 v1) ||| (1 <<< (Int32.toInt64 v2 &&& 63)))) 153 v2) ||| (1 <<< (Int32.toInt64 v1 &&& 63))), .int v2, .ref 153]) (S' := (wL S 153 (Int32.toNatClampNeg v1) ((rl S 153 v1) ||| (1 <<< (Int32.toInt64 v2 &&& 63))))) rfl ?_
    refine go_lastore mm_239 (q := (Int32.toNatClampNeg v2)) rfl rfl rfl (o2 hc1) ?_
    refine go_run mm_239 2 (pc' := 60) (ls' := [some (.ref 140), some (.int v1), some (.int (v2 + 1))]) (st' := []) (S' := (wL (wL S 153 (Int32.toNatClampNeg v1) ((rl S 153 v1) ||| (1 <<< (Int32.toInt64 v2 &&& 63)))) 153 (Int32.toNatClampNeg v2) ((rl (wL S 153 (Int32.toNatClampNeg v1) ((rl S 153 v1) ||| (1 <<< (Int32.toInt64 v2 &&& 63)))) 153 v2) ||| (1 <<< (Int32.toInt64 v1 &&& 63))))) rfl ?_
    exact e1 hc1
  · refine go_run mm_239 2 (pc' := 60) (ls' := [some (.ref 140), some (.int v1), some (.int (v2 + 1))]) (st' := []) (S' := S) rfl ?_
    exact e2 hc1
set_option maxRecDepth 20000 in
theorem b_239_139 {d c : Nat} {R : RT} {S : ST} {v1 : Int32} (o1 : v1 < (S.1 141 0) → inB v1 12) (e1 : v1 < (S.1 141 0) → Go XM (d + 6) 239 c 158 [some (.ref 140), some (.int v1), some (.int 0)] [] (wL S 154 (Int32.toNatClampNeg v1) 0) R) (e2 : ¬ v1 < (S.1 141 0) → R c (.inr none) S) : Go XM (d + 6) 239 c 139 [some (.ref 140), some (.int v1), none] [] S R := by
  refine go_run mm_239 4 (pc' := 145) (ls' := [some (.ref 140), some (.int v1), none]) (st' := [.int 0, .ref 141, .int v1]) (S' := S) rfl ?_
  refine go_iaload mm_239 (q := 0) rfl rfl rfl (inB_lit rfl) ?_
  refine go_if2 mm_239 rfl (p1 := 149) (p2 := 223) rfl (fun (hc1 : v1 < (S.1 141 0)) => ?_) (fun (hc1 : ¬ v1 < (S.1 141 0)) => ?_)
  · refine go_run mm_239 4 (pc' := 155) (ls' := [some (.ref 140), some (.int v1), none]) (st' := [.long 0, .int v1, .ref 154]) (S' := S) rfl ?_
    refine go_lastore mm_239 (q := (Int32.toNatClampNeg v1)) rfl rfl rfl (o1 hc1) ?_
    refine go_run mm_239 2 (pc' := 158) (ls' := [some (.ref 140), some (.int v1), some (.int 0)]) (st' := []) (S' := (wL S 154 (Int32.toNatClampNeg v1) 0)) rfl ?_
    exact e1 hc1
  · exact go_vreturn mm_239 rfl rfl (e2 hc1)
set_option maxRecDepth 20000 in
theorem b_239_158 {d c : Nat} {R : RT} {S : ST} {v1 : Int32} {v2 : Int32} (o1 : v2 < (S.1 140 20) → inB v1 12) (o2 : v2 < (S.1 140 20) → inB v2 64) (o3 : v2 < (S.1 140 20) → RI S 141 v1) (o4 : v2 < (S.1 140 20) → (f_206 S 141 v1 (Int32.toInt64 (ra S 147 v2)) (Int32.toInt64 (ra S 148 v2)) 1) = true → inB v2 64) (e1 : v2 < (S.1 140 20) → Go XM (d + 6) 239 c 158 [some (.ref 140), some (.int v1), some (.int (v2 + 1))] [] (wL S 154 (Int32.toNatClampNeg v1) ((rl S 154 v1) ||| (if (f_206 S 141 v1 (Int32.toInt64 (ra S 147 v2)) (Int32.toInt64 (ra S 148 v2)) 1) = true then rl S 153 v2 else 0))) R) (e2 : ¬ v2 < (S.1 140 20) → Go XM (d + 6) 239 c 139 [some (.ref 140), some (.int (v1 + 1)), some (.int v2)] [] S R) : Go XM (d + 6) 239 c 158 [some (.ref 140), some (.int v1), some (.int v2)] [] S R := by
  refine go_run mm_239 3 (pc' := 163) (ls' := [some (.ref 140), some (.int v1), some (.int v2)]) (st' := [.int (S.1 140 20), .int v2]) (S' := S) rfl ?_
  refine go_if2 mm_239 rfl (p1 := 166) (p2 := 217) rfl (fun (hc1 : v2 < (S.1 140 20)) => ?_) (fun (hc1 : ¬ v2 < (S.1 140 20)) => ?_)
  · refine go_run mm_239 4 (pc' := 172) (ls' := [some (.ref 140), some (.int v1), some (.int v2)]) (st' := [.int v1, .ref 154, .int v1, .ref 154]) (S' := S) rfl ?_
    refine go_laload mm_239 (q := (Int32.toNatClampNeg v1)) rfl rfl rfl (o1 hc1) ?_
    refine go_run mm_239 6 (pc' := 183) (ls' := [some (.ref 140), some (.int v1), some (.int v2)]) (st' := [.int v2, .ref 147, .int v1, .ref 141, .long (rl S 154 v1), .int v1, .ref 154]) (S' := S) rfl ?_
    refine go_iaload mm_239 (q := (Int32.toNatClampNeg v2)) rfl rfl rfl (o2 hc1) ?_
    refine go_run mm_239 4 (pc' := 190) (ls' := [some (.ref 140), some (.int v1), some (.int v2)]) (st' := [.int v2, .ref 148, .long (Int32.toInt64 (ra S 147 v2)), .int v1, .ref 141, .long (rl S 154 v1), .int v1, .ref 154]) (S' := S) rfl ?_
    refine go_iaload mm_239 (q := (Int32.toNatClampNeg v2)) rfl rfl rfl (o2 hc1) ?_
    refine go_run mm_239 2 (pc' := 193) (ls' := [some (.ref 140), some (.int v1), some (.int v2)]) (st' := [.long 1, .long (Int32.toInt64 (ra S 148 v2)), .long (Int32.toInt64 (ra S 147 v2)), .int v1, .ref 141, .long (rl S 154 v1), .int v1, .ref 154]) (S' := S) rfl ?_
    refine go_cs mm_239 (av := [.ref 141, .int v1, .long (Int32.toInt64 (ra S 147 v2)), .long (Int32.toInt64 (ra S 148 v2)), .long 1]) (rest := [.long (rl S 154 v1), .int v1, .ref 154]) (nl := 9) rfl (show csOK 239 193 216 206 5 9 = true by decide +kernel) rfl rfl rfl (sq_206 rfl (o3 hc1)) (KP_V ?_)
    have j1 : Go XM (d + 6) 239 c 209 [some (.ref 140), some (.int v1), some (.int v2)] [.long (if (f_206 S 141 v1 (Int32.toInt64 (ra S 147 v2)) (Int32.toInt64 (ra S 148 v2)) 1) = true then rl S 153 v2 else 0), .long (rl S 154 v1), .int v1, .ref 154] S R := by
      refine go_run mm_239 1 (pc' := 210) (ls' := [some (.ref 140), some (.int v1), some (.int v2)]) (st' := [.long ((rl S 154 v1) ||| (if (f_206 S 141 v1 (Int32.toInt64 (ra S 147 v2)) (Int32.toInt64 (ra S 148 v2)) 1) = true then rl S 153 v2 else 0)), .int v1, .ref 154]) (S' := S) rfl ?_
      refine go_lastore mm_239 (q := (Int32.toNatClampNeg v1)) rfl rfl rfl (o1 hc1) ?_
      refine go_run mm_239 2 (pc' := 158) (ls' := [some (.ref 140), some (.int v1), some (.int (v2 + 1))]) (st' := []) (S' := (wL S 154 (Int32.toNatClampNeg v1) ((rl S 154 v1) ||| (if (f_206 S 141 v1 (Int32.toInt64 (ra S 147 v2)) (Int32.toInt64 (ra S 148 v2)) 1) = true then rl S 153 v2 else 0)))) rfl ?_
      exact e1 hc1
    refine go_ifb mm_239 rfl (p1 := 199) (p2 := 208) rfl (fun (hc2 : (f_206 S 141 v1 (Int32.toInt64 (ra S 147 v2)) (Int32.toInt64 (ra S 148 v2)) 1) = true) => ?_) (fun (hc2 : (f_206 S 141 v1 (Int32.toInt64 (ra S 147 v2)) (Int32.toInt64 (ra S 148 v2)) 1) = false) => ?_)
    · refine go_run mm_239 3 (pc' := 204) (ls' := [some (.ref 140), some (.int v1), some (.int v2)]) (st' := [.int v2, .ref 153, .long (rl S 154 v1), .int v1, .ref 154]) (S' := S) rfl ?_
      refine go_laload mm_239 (q := (Int32.toNatClampNeg v2)) rfl rfl rfl (o4 hc1 hc2) ?_
      refine go_run mm_239 1 (pc' := 209) (ls' := [some (.ref 140), some (.int v1), some (.int v2)]) (st' := [.long (rl S 153 v2), .long (rl S 154 v1), .int v1, .ref 154]) (S' := S) rfl ?_
      have e : ((if (f_206 S 141 v1 (Int32.toInt64 (ra S 147 v2)) (Int32.toInt64 (ra S 148 v2)) 1) = true then rl S 153 v2 else 0) : Int64) = rl S 153 v2 := by simp [hc2]
      rw [e] at j1
      exact j1
    · refine go_run mm_239 1 (pc' := 209) (ls' := [some (.ref 140), some (.int v1), some (.int v2)]) (st' := [.long 0, .long (rl S 154 v1), .int v1, .ref 154]) (S' := S) rfl ?_
      have e : ((if (f_206 S 141 v1 (Int32.toInt64 (ra S 147 v2)) (Int32.toInt64 (ra S 148 v2)) 1) = true then rl S 153 v2 else 0) : Int64) = 0 := by simp [hc2]
      rw [e] at j1
      exact j1
  · refine go_run mm_239 2 (pc' := 139) (ls' := [some (.ref 140), some (.int (v1 + 1)), some (.int v2)]) (st' := []) (S' := S) rfl ?_
    exact e2 hc1
def PS (S : ST) (v : Option Value) (S' : ST) : Prop := v = none ∧ Fm [150, 151, 152, 153, 154] [27, 34, 36] S S' ∧ ((¬ S.1 140 27 = 0 ∧ S' = S) ∨ (S.1 140 27 = 0 ∧ S'.1 140 27 = 1 ∧ S'.1 140 34 = 0 ∧ S'.1 140 36 = 0 ∧ Sv S'))
section Sight
variable {d : Nat} {S : ST}
/-- what holds while the rows of the sight are laid: the pairs (a, b), b < a, a < p or (a = p and b < q), are done -/
def Sj (S S' : ST) (p q : Nat) : Prop := Fm [150, 151, 152, 153, 154] [27, 34, 36] S S' ∧ (S'.1 140 27 = 1 ∧ S'.1 140 34 = 0 ∧ S'.1 140 36 = 0) ∧ (∀ a, a < nP S → (∀ b, bz (S'.2 153 a) b = true → b < nP S) ∧ bz (S'.2 153 a) a = true) ∧ ∀ a b, a < nP S → b < a → (a < p ∨ (a = p ∧ b < q)) → ge_sees (rL S 141) (pt S a) (pt S b) → bz (S'.2 153 a) b = true ∧ bz (S'.2 153 b) a = true
theorem Sj_nx {S' : ST} {p : Nat} (h : Sj S S' p p) : Sj S S' (p + 1) 0 := ⟨h.1, h.2.1, h.2.2.1, fun a b ha hb hc => h.2.2.2 a b ha hb (by omega)⟩
theorem Sj_no {S' : ST} {p q : Nat} (h : Sj S S' p q) (hn : ¬ ge_sees (rL S 141) (pt S p) (pt S q)) : Sj S S' p (q + 1) := ⟨h.1, h.2.1, h.2.2.1, fun a b ha hb hc hs => by
  by_cases z : a = p ∧ b = q
  · obtain ⟨rfl, rfl⟩ := z; exact absurd hs hn
  · exact h.2.2.2 a b ha hb (by omega) hs⟩
theorem bz_orl {x y : Int64} {i : Nat} (h : bz x i = true) : bz (x ||| y) i = true := by rw [bz_or, h, Bool.true_or]
theorem Sj_yes {S' : ST} {p q : Nat} (h : Sj S S' p q) (hp : p < nP S) (hq : q < p) (h64 : nP S ≤ 64) : Sj S (wL (wL S' 153 p (S'.2 153 p ||| (1 <<< (Int32.toInt64 (nJ q) &&& 63)))) 153 q ((wL S' 153 p (S'.2 153 p ||| (1 <<< (Int32.toInt64 (nJ q) &&& 63)))).2 153 q ||| (1 <<< (Int32.toInt64 (nJ p) &&& 63)))) p (q + 1) := by
  have hne : ¬ q = p := by omega
  have e1 : (wL S' 153 p (S'.2 153 p ||| (1 <<< (Int32.toInt64 (nJ q) &&& 63)))).2 153 q = S'.2 153 q := by simp [wL_2, hne]
  rw [e1]
  have val : ∀ a, (wL (wL S' 153 p (S'.2 153 p ||| (1 <<< (Int32.toInt64 (nJ q) &&& 63)))) 153 q (S'.2 153 q ||| (1 <<< (Int32.toInt64 (nJ p) &&& 63)))).2 153 a = if a = q then S'.2 153 q ||| (1 <<< (Int32.toInt64 (nJ p) &&& 63)) else if a = p then S'.2 153 p ||| (1 <<< (Int32.toInt64 (nJ q) &&& 63)) else S'.2 153 a := by
    intro a
    simp [wL_2]
  have up : ∀ a b, bz (S'.2 153 a) b = true → bz ((wL (wL S' 153 p (S'.2 153 p ||| (1 <<< (Int32.toInt64 (nJ q) &&& 63)))) 153 q (S'.2 153 q ||| (1 <<< (Int32.toInt64 (nJ p) &&& 63)))).2 153 a) b = true := by
    intro a b hb
    rw [val]
    split
    · next z => subst z; exact bz_orl hb
    · split
      · next z => subst z; exact bz_orl hb
      · exact hb
  refine ⟨h.1.tr ((Fm_l (by decide)).tr (Fm_l (by decide))), h.2.1, fun a ha => ⟨fun b hb => ?_, up a a (h.2.2.1 a ha).2⟩, fun a b ha hb hc hs => ?_⟩
  · rw [val] at hb
    split at hb
    · rw [bz_or, Bool.or_eq_true] at hb
      rcases hb with hb | hb
      · exact (h.2.2.1 q (by omega)).1 b hb
      · rw [bz_shl (by omega)] at hb
        have : b = p := by simpa using hb
        omega
    · split at hb
      · rw [bz_or, Bool.or_eq_true] at hb
        rcases hb with hb | hb
        · exact (h.2.2.1 p hp).1 b hb
        · rw [bz_shl (by omega)] at hb
          have : b = q := by simpa using hb
          omega
      · exact (h.2.2.1 a ha).1 b hb
  · by_cases z : a = p ∧ b = q
    · obtain ⟨rfl, rfl⟩ := z
      refine ⟨?_, ?_⟩
      · rw [val, if_neg (by omega), if_pos rfl, bz_or, bz_shl (by omega)]
        simp
      · rw [val, if_pos rfl, bz_or, bz_shl (by omega)]
        simp
    · have := h.2.2.2 a b ha hb (by omega) hs
      exact ⟨up a b this.1, up b a this.2⟩
theorem sight3 (hL : Ld S) : ∀ m e S', e + m = rN S 141 → Sj S S' (nP S) 0 → Go XM (d + 6) 239 0 139 [some (.ref 140), some (.int (nJ e)), none] [] S' (RP (fun v S2 => v = none ∧ Sj S S2 (nP S) 0)) := by
  have hW := hL.1.1
  have h12 := hW.2
  obtain ⟨hP, h64⟩ := Ld_P hL
  intro m
  induction m with
  | zero =>
    intro e S' he hJ
    have e1 := hJ.1.row (a := 141) (by decide) (by decide)
    have hc : ¬ nJ e < S'.1 141 0 := by rw [e1, hW.1, nJ_lt (by omega) (by omega)]; omega
    exact b_239_139 (fun q => absurd q hc) (fun q => absurd q hc) (fun _ => ⟨rfl, _, rfl, rfl, hJ⟩)
  | succ m ih =>
    intro e S' he hJ
    have e1 := hJ.1.row (a := 141) (by decide) (by decide)
    have hlt : nJ e < S'.1 141 0 := by rw [e1, hW.1, nJ_lt (by omega) (by omega)]; omega
    refine b_239_139 (fun _ => nJ_inB (by omega) (by omega)) (fun _ => ?_) (fun q => absurd hlt q)
    have keep : ∀ {S2 : ST} {k : Nat} {x : Int64}, Sj S S2 (nP S) 0 → Sj S (wL S2 154 k x) (nP S) 0 := by
      intro S2 k x h
      have ev : ∀ a, (wL S2 154 k x).2 153 a = S2.2 153 a := fun a => by simp [wL_2]
      refine ⟨h.1.tr (Fm_l (by decide)), h.2.1, fun a ha => ?_, fun a b ha hb hc hs => ?_⟩
      · rw [ev]; exact h.2.2.1 a ha
      · rw [ev, ev]; exact h.2.2.2 a b ha hb hc hs
    have inner : ∀ m' p S2, p + m' = nP S → Sj S S2 (nP S) 0 → Go XM (d + 6) 239 0 158 [some (.ref 140), some (.int (nJ e)), some (.int (nJ p))] [] S2 (RP (fun v S2 => v = none ∧ Sj S S2 (nP S) 0)) := by
      intro m'
      induction m' with
      | zero =>
        intro p S2 hp hJ2
        have e20 := hJ2.1.fld (by decide) (k := 20) (by decide)
        have hc : ¬ nJ p < S2.1 140 20 := by rw [e20, hP, nJ_lt (by omega) (by omega)]; omega
        refine b_239_158 (fun q => absurd q hc) (fun q => absurd q hc) (fun q => absurd q hc) (fun q => absurd q hc) (fun q => absurd q hc) (fun _ => ?_)
        rw [nJ_succ]
        exact Go.le (ih (e + 1) S2 (by omega) hJ2) (by repeat first | exact True.intro | refine And.intro rfl ?_)
      | succ m' ih' =>
        intro p S2 hp hJ2
        have e20 := hJ2.1.fld (by decide) (k := 20) (by decide)
        have e2 := hJ2.1.row (a := 141) (by decide) (by decide)
        have hl : nJ p < S2.1 140 20 := by rw [e20, hP, nJ_lt (by omega) (by omega)]; omega
        refine b_239_158 (fun _ => nJ_inB (by omega) (by omega)) (fun _ => nJ_inB (by omega) (by omega)) (fun _ => ⟨RW_row e2 hW, e, rfl, by rw [rN_row e2]; omega⟩) (fun _ _ => nJ_inB (by omega) (by omega)) (fun _ => ?_) (fun q => absurd hl q)
        rw [nJ_succ]
        exact ih' (p + 1) _ (by omega) (keep hJ2)
    exact inner (nP S) 0 _ (by omega) (keep hJ)
theorem sight2 (hL : Ld S) : ∀ m p S', p + m = nP S → Sj S S' p 0 → Go XM (d + 6) 239 0 50 [some (.ref 140), some (.int (nJ p)), none] [] S' (RP (fun v S2 => v = none ∧ Sj S S2 (nP S) 0)) := by
  have hW := hL.1.1
  obtain ⟨hP, h64⟩ := Ld_P hL
  intro m
  induction m with
  | zero =>
    intro p S' hp hJ
    have e20 := hJ.1.fld (by decide) (k := 20) (by decide)
    have hc : ¬ nJ p < S'.1 140 20 := by rw [e20, hP, nJ_lt (by omega) (by omega)]; omega
    refine b_239_50 (fun q => absurd q hc) (fun _ => ?_)
    have : p = nP S := by omega
    subst this
    exact sight3 hL (rN S 141) 0 S' (by omega) hJ
  | succ m ih =>
    intro p S' hp hJ
    have e20 := hJ.1.fld (by decide) (k := 20) (by decide)
    have hl : nJ p < S'.1 140 20 := by rw [e20, hP, nJ_lt (by omega) (by omega)]; omega
    refine b_239_50 (fun _ => ?_) (fun q => absurd hl q)
    have inner : ∀ m' q S2, q + m' = p → Sj S S2 p q → Go XM (d + 6) 239 0 60 [some (.ref 140), some (.int (nJ p)), some (.int (nJ q))] [] S2 (RP (fun v S2 => v = none ∧ Sj S S2 (nP S) 0)) := by
      intro m'
      induction m' with
      | zero =>
        intro q S2 hq hJ2
        have hc : ¬ nJ q < nJ p := by rw [nJ_lt (by omega) (by omega)]; omega
        refine b_239_60 (fun z => absurd z hc) (fun z => absurd z hc) (fun z => absurd z hc) (fun _ => ?_)
        have : q = p := by omega
        subst this
        rw [nJ_succ]
        exact Go.le (ih (q + 1) S2 (by omega) (Sj_nx hJ2)) (by repeat first | exact True.intro | refine And.intro rfl ?_)
      | succ m' ih' =>
        intro q S2 hq hJ2
        have hlq : nJ q < nJ p := by rw [nJ_lt (by omega) (by omega)]; omega
        refine b_239_60 (fun _ => nJ_inB (by omega) (by omega)) (fun _ => nJ_inB (by omega) (by omega)) (fun _ => ?_) (fun z => absurd hlq z)
        rw [ra_n S2 147 (by omega), ra_n S2 148 (by omega), ra_n S2 147 (by omega), ra_n S2 148 (by omega)]
        obtain ⟨hL2, eL, en, ept⟩ := Ld_fm hL hJ2.1 (by decide) (by decide) (by decide) (by decide) (by decide) (by decide)
        obtain ⟨tp, tp1, -, -, xp, yp, ep, -⟩ := Ld_pt hL2 (p := p) (by omega)
        obtain ⟨tq, tq1, -, -, xq, yq, eq, -⟩ := Ld_pt hL2 (p := q) (by omega)
        have bb : ∀ t : Nat, t < 16 → bd 400000 (Int32.toInt64 (nJ t)) := fun t ht => by
          unfold bd
          rw [Int32.toInt_toInt64, nJ_toInt (by omega)]
          omega
        have lpt : ∀ r, lP (Int32.toInt64 (S2.1 147 r)) (Int32.toInt64 (S2.1 148 r)) = pt S r := fun r => by
          rw [← ept r]
          unfold lP pt
          rw [Int32.toInt_toInt64, Int32.toInt_toInt64]
        have sp := sq_238 (d := d) (S := S2) (v1 := Int32.toInt64 (S2.1 147 p)) (v3 := Int32.toInt64 (S2.1 148 p)) (v5 := Int32.toInt64 (S2.1 147 q)) (v7 := Int32.toInt64 (S2.1 148 q)) hL2.1.1 hL2.1.2.2.1 (by rw [xp]; exact bb _ (by omega)) (by rw [yp]; exact bb _ (by omega)) (by rw [xq]; exact bb _ (by omega)) (by rw [yq]; exact bb _ (by omega))
        rw [lpt, lpt] at sp
        refine go_cv mm_239 (h := 140) (As := [.long (Int32.toInt64 (S2.1 147 p)), .long (Int32.toInt64 (S2.1 148 p)), .long (Int32.toInt64 (S2.1 147 q)), .long (Int32.toInt64 (S2.1 148 q)), .long 1]) (rest := []) (nl := 22) rfl XM_140 (show cvOK 239 95 275 238 5 22 11 = true by decide +kernel) rfl rfl rfl sp (KP_P (fun v S3 h3 => ?_))
        obtain ⟨b, rfl, hF3, hb⟩ := h3
        rw [eL] at hb
        have hJ3 : Sj S S3 p q := by
          have e3 := hF3.rowL (a := 153) (by decide)
          refine ⟨hJ2.1.tr (hF3.wk (by decide) (by decide)), ?_, ?_, ?_⟩
          · rw [hF3.fld (by decide) (by decide), hF3.fld (by decide) (by decide), hF3.fld (by decide) (by decide)]; exact hJ2.2.1
          · rw [e3]; exact hJ2.2.2.1
          · rw [e3]; exact hJ2.2.2.2
        refine b_239_98 (w0 := b) (fun _ => nJ_inB (by omega) (by omega)) (fun _ => nJ_inB (by omega) (by omega)) (fun _ => ?_) (fun hbf => ?_)
        · rw [nJ_succ, nJ_ix (by omega), nJ_ix (by omega)]
          have r1 : ∀ S4 : ST, rl S4 153 (nJ p) = S4.2 153 p := fun S4 => rl_n S4 153 (by omega)
          have r2 : ∀ S4 : ST, rl S4 153 (nJ q) = S4.2 153 q := fun S4 => rl_n S4 153 (by omega)
          rw [r1, r2]
          exact ih' (q + 1) _ (by omega) (Sj_yes hJ3 (by omega) (by omega) h64)
        · rw [nJ_succ]
          refine ih' (q + 1) S3 (by omega) (Sj_no hJ3 (fun hs => ?_))
          rw [hb hs] at hbf
          cases hbf
    exact inner p 0 S' (by omega) hJ
theorem sq_239 (hL : Ld S) : Cal XM (d + 6) 239 [.ref 140] S (RP (PS S)) := by
  obtain ⟨hP, h64⟩ := Ld_P hL
  refine cal_go 2 rfl (b_239_0 (fun h0 => ?_) (fun h0 => ⟨rfl, _, rfl, rfl, Fm.rf, Or.inl ⟨h0, rfl⟩⟩))
  refine Go.im (R := RP (fun v S2 => v = none ∧ Sj S S2 (nP S) 0)) ?_ ?_
  · have key : ∀ m i S', i + m = nP S → Fm [150, 151, 152, 153, 154] [27, 34, 36] S S' → (S'.1 140 27 = 1 ∧ S'.1 140 34 = 0 ∧ S'.1 140 36 = 0) → (∀ j, j < i → S'.2 153 j = 1 <<< (Int32.toInt64 (nJ j) &&& 63)) → Go XM (d + 6) 239 0 25 [some (.ref 140), some (.int (nJ i)), none] [] S' (RP (fun v S2 => v = none ∧ Sj S S2 (nP S) 0)) := by
      intro m
      induction m with
      | zero =>
        intro i S' hi hF hz hv
        have e20 := hF.fld (by decide) (k := 20) (by decide)
        have hc : ¬ nJ i < S'.1 140 20 := by rw [e20, hP, nJ_lt (by omega) (by omega)]; omega
        refine b_239_25 (fun q => absurd q hc) (fun q => absurd q hc) (fun _ => ?_)
        refine sight2 hL (nP S) 0 S' (by omega) ⟨hF, hz, fun a ha => ?_, fun a b ha hb hc => by omega⟩
        rw [hv a (by omega)]
        refine ⟨fun b hb => ?_, ?_⟩
        · rw [bz_shl (by omega)] at hb
          have : b = a := by simpa using hb
          omega
        · rw [bz_shl (by omega)]
          simp
      | succ m ih =>
        intro i S' hi hF hz hv
        have e20 := hF.fld (by decide) (k := 20) (by decide)
        have hl : nJ i < S'.1 140 20 := by rw [e20, hP, nJ_lt (by omega) (by omega)]; omega
        refine b_239_25 (fun _ => nJ_inB (by omega) (by omega)) (fun _ => ?_) (fun q => absurd hl q)
        rw [nJ_succ, nJ_ix (by omega)]
        refine ih (i + 1) _ (by omega) (hF.tr (Fm_l (by decide))) hz (fun j hj => ?_)
        by_cases hji : j = i
        · subst hji; simp [wL_2]
        · rw [wL_2, if_neg (fun z => hji z.2)]
          exact hv j (by omega)
    refine key (nP S) 0 _ (by omega) (((Fm_f (by decide)).tr (Fm_f (by decide))).tr (Fm_f (by decide))) ⟨rfl, rfl, rfl⟩ (fun j hj => by omega)
  · rintro c o S' ⟨rfl, v, rfl, rfl, hJ⟩
    obtain ⟨hL2, eL, en, ept⟩ := Ld_fm hL hJ.1 (by decide) (by decide) (by decide) (by decide) (by decide) (by decide)
    refine ⟨rfl, _, rfl, rfl, hJ.1, Or.inr ⟨h0, hJ.2.1.1, hJ.2.1.2.1, hJ.2.1.2.2, fun p hp => ?_⟩⟩
    rw [en] at hp ⊢
    refine ⟨(hJ.2.2.1 p hp).1, (hJ.2.2.1 p hp).2, fun q hq hs => ?_⟩
    rw [eL, ept, ept] at hs
    rcases Nat.lt_trichotomy q p with z | z | z
    · exact (hJ.2.2.2 p q hp z (Or.inl hp) hs).1
    · subst z; exact (hJ.2.2.1 q hq).2
    · exact (hJ.2.2.2 q p hq z (Or.inl hq) (ge_sees_symm hs)).2
end Sight
