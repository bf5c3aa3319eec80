/-! the class's sight: near pairs, what holds of the class's cells -/
theorem shr_u : ∀ k, k < 64 → ((UInt64.mod ((Int64.toUInt64 (Int32.toInt64 (nJ k))) &&& Int64.toUInt64 63) 64).toBitVec).toNat = k := by decide +kernel
theorem and_1n (y : Int64) : (y &&& 1) = 0 ↔ bz y 0 = false := by
  constructor
  · intro h
    have := congrArg (fun z => bz z 0) h
    simp only [bz_and, bz_1 0 (by decide), bz_0] at this
    simpa using this
  · intro h
    apply bz_ext
    intro i hi
    rw [bz_and, bz_1 i hi, bz_0]
    by_cases hz : i = 0
    · subst hz; simp [h]
    · simp [hz]
theorem has177 (x : Int64) {k : Nat} (hk : k < 64) : F_177 x (nJ k) = bz x k := by
  unfold F_177
  have e : bz (((Int64.toUInt64 x) >>> ((Int64.toUInt64 (Int32.toInt64 (nJ k))) &&& Int64.toUInt64 63)).toInt64) 0 = bz x k := by
    unfold bz
    show (x.toBitVec >>> (UInt64.mod ((Int64.toUInt64 (Int32.toInt64 (nJ k))) &&& Int64.toUInt64 63) 64).toBitVec).getLsbD 0 = x.toBitVec.getLsbD k
    rw [BitVec.ushiftRight_eq', shr_u k hk, BitVec.getLsbD_ushiftRight]
    simp
  cases h : bz x k with
  | true => rw [decide_eq_false (fun q => by rw [(and_1n _).mp q, h] at e; cases e)]; rfl
  | false => rw [decide_eq_true ((and_1n _).mpr (e.trans h))]; rfl
/-- the greatest common divisor up to 15 -/
theorem rem15 : ∀ a : Nat, a < 31 → ∀ d : Nat, d < 16 → 1 < d → (((nJ a - nJ 15) - (nJ a - nJ 15) / nJ d * nJ d = 0) ↔ ((a : Int) - 15) % (d : Int) = 0) := by decide +kernel
theorem quo15 : ∀ a : Nat, a < 31 → ∀ d : Nat, d < 16 → 0 < d → ((a : Int) - 15) % (d : Int) = 0 → ((nJ a - nJ 15) / nJ d).toInt * (d : Int) = (a : Int) - 15 := by decide +kernel
def b15 (x : Int32) : Prop := -15 ≤ x.toInt ∧ x.toInt ≤ 15
theorem b15_e {x : Int32} (h : b15 x) : ∃ a : Nat, a < 31 ∧ x = nJ a - nJ 15 ∧ x.toInt = (a : Int) - 15 := by
  unfold b15 at h
  refine ⟨(x.toInt + 15).toNat, by omega, ?_, by omega⟩
  apply Int32.toInt_inj.mp
  rw [isub_t (by rw [nJ_toInt (by omega), nJ_toInt (by omega)]; omega) (by rw [nJ_toInt (by omega), nJ_toInt (by omega)]; omega), nJ_toInt (by omega), nJ_toInt (by omega)]
  omega
theorem rem_t {x : Int32} (h : b15 x) {d : Nat} (h1 : 1 < d) (h2 : d < 16) : x - x / nJ d * nJ d = 0 ↔ (d : Int) ∣ x.toInt := by
  obtain ⟨a, a1, a2, a3⟩ := b15_e h
  rw [a3, a2, rem15 a a1 d h2 h1]
  exact ⟨Int.dvd_of_emod_eq_zero, Int.emod_eq_zero_of_dvd⟩
theorem quo_t {x : Int32} (h : b15 x) {d : Nat} (h1 : 0 < d) (h2 : d < 16) (hd : (d : Int) ∣ x.toInt) : (x / nJ d).toInt * (d : Int) = x.toInt := by
  obtain ⟨a, a1, a2, a3⟩ := b15_e h
  rw [a3] at hd ⊢
  rw [a2]
  exact quo15 a a1 d h2 h1 (Int.emod_eq_zero_of_dvd hd)
/-- how many pieces a way has -/
def pcs (x y : Int) (g : Nat) : Prop := 1 ≤ g ∧ g ≤ 15 ∧ (g : Int) ∣ x ∧ (g : Int) ∣ y ∧ ∀ d : Nat, 2 ≤ d → d ≤ 15 → (d : Int) ∣ x → (d : Int) ∣ y → d ≤ g
theorem pcs_u {x y : Int} {g g' : Nat} (h : pcs x y g) (h' : pcs x y g') : g = g' := by
  obtain ⟨a1, a2, a3, a4, a5⟩ := h
  obtain ⟨b1, b2, b3, b4, b5⟩ := h'
  by_cases c1 : 2 ≤ g
  · have := b5 g c1 a2 a3 a4
    by_cases c2 : 2 ≤ g'
    · have := a5 g' c2 b2 b3 b4; omega
    · omega
  · by_cases c2 : 2 ≤ g'
    · have := a5 g' c2 b2 b3 b4; omega
    · omega
theorem pcs_neg {x y : Int} {g : Nat} (h : pcs x y g) : pcs (-x) (-y) g := by
  obtain ⟨a1, a2, a3, a4, a5⟩ := h
  exact ⟨a1, a2, Int.dvd_neg.mpr a3, Int.dvd_neg.mpr a4, fun d d1 d2 d3 d4 => a5 d d1 d2 (Int.dvd_neg.mp d3) (Int.dvd_neg.mp d4)⟩
theorem F70_eq (S : ST) {x y : Int32} (hx : b15 x) (hy : b15 y) : ∃ g, F_70 x y S = some (nJ g) ∧ pcs x.toInt y.toInt g := by
  have key : ∃ r, wh FU (L_70_3 x y S) (nJ 15) = some r ∧ ((∃ g, r = .inr (nJ g) ∧ pcs x.toInt y.toInt g) ∨ (∃ z, r = .inl z) ∧ pcs x.toInt y.toInt 1) := by
    refine wh_inv (I := fun m a => ∃ d, m = d ∧ a = nJ d ∧ 1 ≤ d ∧ d ≤ 15 ∧ ∀ e : Nat, d < e → e ≤ 15 → ¬ ((e : Int) ∣ x.toInt ∧ (e : Int) ∣ y.toInt)) ?_ FU 15 _ (FU_lt (by omega)) ⟨15, rfl, rfl, by omega, by omega, fun e h1 h2 => by omega⟩
    rintro m a ⟨d, hm, rfl, d1, d2, w⟩
    unfold L_70_3
    by_cases c : 1 < d
    · have nz : (!(decide (nJ d = 0))) = true := by
        rw [decide_eq_false (fun z => by have := (nJ_eq (i := d) (j := 0) (by omega) (by omega)).mp z; omega)]; rfl
      rw [if_pos (show (1 : Int32) < nJ d from (nJ_lt (i := 1) (by omega) (by omega)).mpr c), ck_t nz, ck_t nz, nJ_dec (by omega)]
      by_cases z1 : (d : Int) ∣ x.toInt
      · rw [if_pos ((rem_t hx c (by omega)).mpr z1)]
        by_cases z2 : (d : Int) ∣ y.toInt
        · rw [if_pos ((rem_t hy c (by omega)).mpr z2)]
          refine Or.inr ⟨_, rfl, Or.inl ⟨d, rfl, d1, d2, z1, z2, fun e e1 e2 e3 e4 => ?_⟩⟩
          apply Classical.byContradiction
          intro h
          exact w e (by omega) e2 ⟨e3, e4⟩
        · rw [if_neg (fun z => z2 ((rem_t hy c (by omega)).mp z))]
          refine Or.inl ⟨_, m - 1, by omega, rfl, d - 1, by omega, rfl, by omega, by omega, fun e e1 e2 => ?_⟩
          by_cases q : e = d
          · rw [q]; exact fun z => z2 z.2
          · exact w e (by omega) e2
      · rw [if_neg (fun z => z1 ((rem_t hx c (by omega)).mp z))]
        refine Or.inl ⟨_, m - 1, by omega, rfl, d - 1, by omega, rfl, by omega, by omega, fun e e1 e2 => ?_⟩
        by_cases q : e = d
        · rw [q]; exact fun z => z1 z.1
        · exact w e (by omega) e2
    · rw [if_neg (show ¬ (1 : Int32) < nJ d from fun z => c ((nJ_lt (i := 1) (by omega) (by omega)).mp z))]
      refine Or.inr ⟨_, rfl, Or.inr ⟨⟨_, rfl⟩, by omega, by omega, Int.one_dvd _, Int.one_dvd _, fun e e1 e2 e3 e4 => ?_⟩⟩
      exact absurd ⟨e3, e4⟩ (w e (by omega) e2)
  obtain ⟨r, e, w⟩ := key
  unfold F_70
  rw [show (15 : Int32) = nJ 15 from rfl, e, ob_s]
  rcases w with ⟨g, rfl, h⟩ | ⟨⟨z, rfl⟩, h⟩
  · exact ⟨g, rfl, h⟩
  · exact ⟨1, rfl, h⟩
/-- a way of one piece has no lattice place inside -/
theorem near_v {p q v : GPt} (hne : p ≠ q) (b1 : -15 ≤ q.1 - p.1 ∧ q.1 - p.1 ≤ 15) (b2 : -15 ≤ q.2 - p.2 ∧ q.2 - p.2 ≤ 15) (h : pcs (q.1 - p.1) (q.2 - p.2) 1) (hv : ge_on p q v) : v = p ∨ v = q := by
  obtain ⟨o, i1, i2⟩ := hv
  have o' : (q.1 - p.1) * (v.2 - p.2) = (q.2 - p.2) * (v.1 - p.1) := by unfold ge_o at o; omega
  obtain ⟨dx, hdx⟩ : ∃ dx, dx = q.1 - p.1 := ⟨_, rfl⟩
  obtain ⟨dy, hdy⟩ : ∃ dy, dy = q.2 - p.2 := ⟨_, rfl⟩
  obtain ⟨a, ha⟩ : ∃ a, a = v.1 - p.1 := ⟨_, rfl⟩
  obtain ⟨b, hb⟩ : ∃ b, b = v.2 - p.2 := ⟨_, rfl⟩
  rw [← hdx, ← hdy, ← ha, ← hb] at o'
  rw [← hdx, ← hdy] at h
  have nz : dx ≠ 0 ∨ dy ≠ 0 := by
    by_cases z : dx = 0
    · refine Or.inr (fun z2 => hne (Prod.ext (by omega) (by omega)))
    · exact Or.inl z
  have gpos : 0 < Int.gcd dx dy := Int.gcd_pos_iff.mpr nz
  have g1 := Int.gcd_dvd_left dx dy
  have g2 := Int.gcd_dvd_right dx dy
  have gle : Int.gcd dx dy ≤ 15 := by
    rcases nz with z | z
    · have := Int.gcd_le_natAbs_left dy z; omega
    · have := Int.gcd_le_natAbs_right dx z; omega
  have cop : Int.gcd dx dy = 1 := by
    by_cases c : 2 ≤ Int.gcd dx dy
    · have := h.2.2.2.2 _ c gle g1 g2; omega
    · omega
  have cn : Nat.Coprime dx.natAbs dy.natAbs := cop
  have m1 : dx.natAbs * b.natAbs = dy.natAbs * a.natAbs := by rw [← Int.natAbs_mul, ← Int.natAbs_mul, o']
  have da : dx.natAbs ∣ a.natAbs := cn.dvd_of_dvd_mul_left ⟨b.natAbs, m1.symm⟩
  have db : dy.natAbs ∣ b.natAbs := cn.symm.dvd_of_dvd_mul_left ⟨a.natAbs, m1⟩
  have ra : (0 ≤ a ∧ a ≤ dx) ∨ (dx ≤ a ∧ a ≤ 0) := by
    rcases ge_btw i1 with z | z <;> omega
  have rb : (0 ≤ b ∧ b ≤ dy) ∨ (dy ≤ b ∧ b ≤ 0) := by
    rcases ge_btw i2 with z | z <;> omega
  have ca : a = 0 ∨ a = dx := by
    by_cases z : a = 0
    · exact Or.inl z
    · have := Nat.le_of_dvd (by omega) da
      omega
  have cb' : b = 0 ∨ b = dy := by
    by_cases z : b = 0
    · exact Or.inl z
    · have := Nat.le_of_dvd (by omega) db
      omega
  rcases ca with z1 | z1 <;> rcases cb' with z2 | z2
  · exact Or.inl (Prod.ext (by omega) (by omega))
  · rw [z1, z2, Int.mul_zero] at o'
    rcases Int.mul_eq_zero.mp o' with y | y
    · exact Or.inr (Prod.ext (by omega) (by omega))
    · exact Or.inl (Prod.ext (by omega) (by omega))
  · rw [z1, z2, Int.mul_zero] at o'
    rcases Int.mul_eq_zero.mp o'.symm with y | y
    · exact Or.inr (Prod.ext (by omega) (by omega))
    · exact Or.inl (Prod.ext (by omega) (by omega))
  · exact Or.inr (Prod.ext (by omega) (by omega))
/-- the class's polygon and points are those of M -/
def CX (S M : ST) : Prop := (clW S 3 ∧ clB S 3 ∧ clLz S 3 = rL M 141 ∧ clN S 3 = rN M 141 ∧ ∀ i, i < rN M 141 → clP S 3 i = rP M 141 i) ∧ LC S 21 (rL M 141) 256 ∧ Ld M ∧ S.1 21 0 = nJ (nP M) ∧ nP M ≤ 64 ∧ (∀ p, p < nP M → S.1 22 p = M.1 147 p ∧ S.1 23 p = M.1 148 p) ∧ ∀ t, t < 256 → S.1 24 t = M.1 149 t
theorem CX_of {S M : ST} (hp : PR S 3 (M.1 141)) (hc : cb (M.1 141)) (l : LC S 21 (rL M 141) 256) (hL : Ld M) : CX S M := by
  obtain ⟨w, e⟩ := PR_N hp hc
  have le := lat_eq l hL
  have eN : clN S 3 = rN M 141 := by
    have := PR_rN hp hc
    rw [← this]; rfl
  have eP : ∀ i, i < rN M 141 → clP S 3 i = rP M 141 i := fun i hi => PR_clP hp hc (by rw [eN]; exact hi)
  have eB : clB S 3 := fun i hi => by
    rw [eP i (by rw [← eN]; exact hi)]
    have := w.2
    exact ⟨RB_x hL.1.2.2.1 (by omega), RB_y hL.1.2.2.1 (by omega)⟩
  refine ⟨⟨w, eB, ?_, eN, eP⟩, l, hL, by rw [le.1]; exact le.2.1, le.2.2.1, le.2.2.2.1, le.2.2.2.2⟩
  exact (PR_L hp hc).trans rfl
/-- what CX looks at -/
def cxC (a : Nat) : Prop := a = 3 ∨ a = 4 ∨ a = 5 ∨ (21 ≤ a ∧ a < 25)
theorem CX_fp {S S' M : ST} (h : CX S M) {P : Nat → Prop} (hF : Fp P S S') (hd : ∀ a, cxC a → ¬ P a) : CX S' M := by
  obtain ⟨⟨w, b, l, n, p⟩, c, r1, r2, r3, r4, r5⟩ := h
  have e3 := (hF 3 (hd 3 (by unfold cxC; omega))).1
  have e4 := (hF 4 (hd 4 (by unfold cxC; omega))).1
  have e5 := (hF 5 (hd 5 (by unfold cxC; omega))).1
  have e1 := (hF 21 (hd 21 (by unfold cxC; omega))).1
  have e2 := (hF 22 (hd 22 (by unfold cxC; omega))).1
  have e6 := (hF 23 (hd 23 (by unfold cxC; omega))).1
  have e7 := (hF 24 (hd 24 (by unfold cxC; omega))).1
  refine ⟨⟨clW_r e3 w, clB_r e3 e4 e5 b, (clL_r e3 e4 e5).trans l, (clN_r e3).trans n, fun i hi => (clP_r e4 e5 i).trans (p i hi)⟩, LC_fp c hF (fun a ha => hd a (by unfold cxC; omega)), r1, by rw [e1]; exact r2, r3, fun p hp => by rw [e2, e6]; exact r4 p hp, fun t ht => by rw [e7]; exact r5 t ht⟩
section Cs
variable {S M : ST}
theorem cx_pt (h : CX S M) {p : Nat} (hp : p < nP M) : iP (S.1 22 p) (S.1 23 p) = pt M p ∧ F_19 21 (nJ p) S = some (S.1 22 p) ∧ F_20 21 (nJ p) S = some (S.1 23 p) ∧ (0 ≤ (S.1 22 p).toInt ∧ (S.1 22 p).toInt ≤ 15) ∧ 0 ≤ (S.1 23 p).toInt ∧ (S.1 23 p).toInt ≤ 15 := by
  obtain ⟨-, -, hL, r2, r3, r4, -⟩ := h
  obtain ⟨a, b⟩ := r4 p hp
  have bb := pt_bd hL hp
  have e : iP (S.1 22 p) (S.1 23 p) = pt M p := by rw [a, b]; rfl
  have e1 : (S.1 22 p).toInt = (pt M p).1 := congrArg Prod.fst e
  have e2 : (S.1 23 p).toInt = (pt M p).2 := congrArg Prod.snd e
  exact ⟨e, F19_eq r2 r3 hp, F20_eq r2 r3 hp, by rw [e1]; exact bb.1, by rw [e2]; exact bb.2⟩
/-- isClear -/
theorem F68_eq (h : CX S M) {p q : Nat} (hp : p < nP M) (hq : q < nP M) : ∃ b, F_68 (nJ p) (nJ q) S = some b ∧ (b = true ↔ (∀ u v : GPt, ge_adj (rL M 141) u v → ¬ ge_x u v (pt M p) (pt M q)) ∧ ge_cl 2 (rL M 141) ((pt M p).1 + (pt M q).1, (pt M p).2 + (pt M q).2)) := by
  obtain ⟨ep, x1, y1, bx1, by1⟩ := cx_pt h hp
  obtain ⟨eq, x2, y2, bx2, by2⟩ := cx_pt h hq
  obtain ⟨⟨w, bb, l, n, pp⟩, -, hL, -⟩ := h
  have h12 := w.2
  unfold F_68
  rw [x1, ob_s, y1, ob_s, x2, ob_s, y2, ob_s]
  refine wh_seK (f := L_68_42 (nJ p) (nJ q) (S.1 22 p) (S.1 23 p) (S.1 22 q) (S.1 23 q) S) nJ (fun i => ge_x (clP S 3 i) (clP S 3 (ge_aft (clN S 3) i)) (pt M p) (pt M q)) (clN S 3) (fun _ => .inr false) (fun r => ∃ z, r = .inl z) 0 (fun i _ hi => ?_) (fun i hi => ?_) (FU_lt (by omega)) (fun r g w2 => ?_)
  · obtain ⟨b, g, iff⟩ := F30_eq w bb hi (bi_c bx1) (bi_c by1) (bi_c bx2) (bi_c by2)
    rw [ep, eq] at iff
    unfold L_68_42
    rw [w.1, if_pos ((nJ_lt (by omega) (by omega)).mpr hi), g, ob_s]
    cases b with
    | true => exact Or.inl ⟨iff.mp rfl, rfl⟩
    | false => rw [if_neg (by decide), nJ_succ]; exact Or.inr ⟨fun z => absurd (iff.mpr z) (by decide), rfl⟩
  · unfold L_68_42
    rw [w.1, if_neg (fun z => by have := (nJ_lt (by omega) (by omega)).mp z; omega)]
    exact ⟨_, rfl, _, rfl⟩
  · show ∃ b, ob (wh FU (L_68_42 (nJ p) (nJ q) (S.1 22 p) (S.1 23 p) (S.1 22 q) (S.1 23 q) S) (nJ 0)) _ = some b ∧ _
    rw [g, ob_s]
    have adjX : (∀ i, i < clN S 3 → ¬ ge_x (clP S 3 i) (clP S 3 (ge_aft (clN S 3) i)) (pt M p) (pt M q)) ↔ ∀ u v : GPt, ge_adj (rL M 141) u v → ¬ ge_x u v (pt M p) (pt M q) := by
      rw [← l]
      constructor
      · intro hh u v huv z
        rcases huv with m | m
        · obtain ⟨i, i1, i2⟩ := ge_E_mem_pl.mp m
          cases i2
          exact hh i i1 z
        · obtain ⟨i, i1, i2⟩ := ge_E_mem_pl.mp m
          cases i2
          exact hh i i1 (ge_x_swap z)
      · intro hh i hi
        exact hh _ _ (Or.inl (ge_E_mem_pl.mpr ⟨i, hi, rfl⟩))
    rcases w2 with ⟨i, -, i1, i2, -, rfl⟩ | ⟨⟨z, rfl⟩, w2⟩
    · exact ⟨false, rfl, fun q => absurd q (by decide), fun q => absurd i2 (adjX.mpr q.1 i i1)⟩
    · rw [Sum.elim_inl]
      have cl := adjX.mp (fun i hi => w2 i (Nat.zero_le _) hi)
      have s1 : (S.1 22 p + S.1 22 q).toInt = (S.1 22 p).toInt + (S.1 22 q).toInt := iadd_t (by omega) (by omega)
      have s2 : (S.1 23 p + S.1 23 q).toInt = (S.1 23 p).toInt + (S.1 23 q).toInt := iadd_t (by omega) (by omega)
      obtain ⟨r, g, rr⟩ := F33_eq w bb (x := S.1 22 p + S.1 22 q) (y := S.1 23 p + S.1 23 q) (by unfold bi; omega) (by unfold bi; omega)
      rw [g, ob_s]
      have e : iP (S.1 22 p + S.1 22 q) (S.1 23 p + S.1 23 q) = ((pt M p).1 + (pt M q).1, (pt M p).2 + (pt M q).2) := by
        rw [← ep, ← eq]; exact Prod.ext s1 s2
      rw [e, l] at rr
      refine ⟨_, rfl, ?_⟩
      have main : (!(decide (r = 0))) = true ↔ ge_cl 2 (rL M 141) ((pt M p).1 + (pt M q).1, (pt M p).2 + (pt M q).2) := by
        rw [Bool.not_eq_true', decide_eq_false_iff_not]
        unfold ge_cl
        rcases rr with ⟨r1, r2⟩ | ⟨r1, r2⟩
        · subst r1
          exact ⟨fun _ z => absurd z r2, fun _ => by decide⟩
        · cases z : ge_par (ge_S 2 (rL M 141)) ((pt M p).1 + (pt M q).1, (pt M p).2 + (pt M q).2) with
          | true => rw [r2, z]; exact ⟨fun _ _ => rfl, fun _ => by decide⟩
          | false => rw [r2, z]; exact ⟨fun y => absurd rfl y, fun y => absurd (y r1) (by decide)⟩
      rw [main]
      exact ⟨fun z => ⟨cl, z⟩, fun z => z.2⟩
/-- a near pair: isClear tells whether they see each other -/
theorem near_sees (hL : Ld M) {p q : Nat} (hp : p < nP M) (hq : q < nP M) (hne : p ≠ q) (hg : pcs ((pt M q).1 - (pt M p).1) ((pt M q).2 - (pt M p).2) 1) : ((∀ u v : GPt, ge_adj (rL M 141) u v → ¬ ge_x u v (pt M p) (pt M q)) ∧ ge_cl 2 (rL M 141) ((pt M p).1 + (pt M q).1, (pt M p).2 + (pt M q).2)) ↔ ge_sees (rL M 141) (pt M p) (pt M q) := by
  have hpq : pt M p ≠ pt M q := fun e => hne (pt_inj hL hp hq e)
  have b1 := pt_bd hL hp
  have b2 := pt_bd hL hq
  obtain ⟨hs, h3, -⟩ := GR_simple hL.1
  have hN := ge_adj_ne hs.1 (show 2 ≤ (rL M 141).length by omega)
  constructor
  · rintro ⟨x, m⟩
    refine sg_ways hpq hN (by omega) x (pt_cl hL hp) (pt_cl hL hq) 1 (fun j => if j = 0 then pt M p else pt M q) (by omega) (if_pos rfl) (if_neg (by decide)) (fun j hj => ?_) (fun j hj => ?_) (fun j h0 hj => by omega) (fun v hv ho => ?_) (fun j hj => ?_)
    · show ge_on _ _ (if j = 0 then pt M p else pt M q)
      by_cases c : j = 0
      · rw [if_pos c]; exact ge_on_l _ _
      · rw [if_neg c]; exact ge_on_r _ _
    · have e : j = 0 := by omega
      subst e
      show sgp (pt M p) (pt M q) (pt M p) ≤ sgp (pt M p) (pt M q) (pt M q)
      rw [sg_u]
      exact Int.le_of_lt (sg_E hpq)
    · rcases near_v hpq (by omega) (by omega) hg ho with e | e
      · exact ⟨0, by omega, by rw [e]; rfl⟩
      · exact ⟨1, by omega, by rw [e]; rfl⟩
    · have e : j = 0 := by omega
      subst e
      exact m
  · intro z
    exact ⟨z.1, z.2 2 (by decide) _ (on_mid (ge_on_l _ _) (ge_on_r _ _))⟩
end Cs
