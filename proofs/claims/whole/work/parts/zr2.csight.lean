/-! the class's sight: far pairs by chains, the rows learned -/
section Cs
variable {S M : ST}
theorem F18_cx (h : CX S M) (x y : Int32) : F_18 21 x y S = some (f_215 M x y) := by
  obtain ⟨-, l, hL, -, -, -, h24⟩ := h
  obtain ⟨w, e, -, w2, -⟩ := F18_eq l (GR_boxL hL.1) x y
  rw [e]
  congr 1
  have z0 : (0 : Int32).toInt = 0 := rfl
  have z15 : (15 : Int32).toInt = 15 := rfl
  unfold f_215
  rcases w2 with ⟨x0, x1, y0, y1, rfl⟩ | ⟨rfl, hn⟩
  · rw [if_pos (f182_t.mpr (by rw [z0, z15]; omega)), if_pos (f182_t.mpr (by rw [z0, z15]; omega))]
    rw [nJ_of x0, nJ_of y0]
    have b1 : x.toNatClampNeg < 16 := by
      have : (x.toNatClampNeg : Int) = x.toInt := by show ((x.toInt.toNat : Nat) : Int) = _; omega
      omega
    have b2 : y.toNatClampNeg < 16 := by
      have : (y.toNatClampNeg : Int) = y.toInt := by show ((y.toInt.toNat : Nat) : Int) = _; omega
      omega
    rw [nJ_ix (by omega), nJ_ix (by omega), show ((16 : Int32) * nJ y.toNatClampNeg) + nJ x.toNatClampNeg = nJ (16 * y.toNatClampNeg + x.toNatClampNeg) by rw [show (16 : Int32) = nJ 16 from rfl, nJ_mul, nJ_add], ra_n M 149 (by omega)]
    exact h24 _ (by omega)
  · by_cases q : f_182 x 0 15 = true
    · by_cases q2 : f_182 y 0 15 = true
      · have a := f182_t.mp q
        have b := f182_t.mp q2
        rw [z0, z15] at a b
        exact absurd ⟨by omega, by omega, by omega, by omega⟩ hn
      · rw [if_pos q, if_neg q2]
    · rw [if_neg q]
theorem at_no (hL : Ld M) {x y : Int32} (h : ¬ ge_cl 1 (rL M 141) (iP x y)) : f_215 M x y = -1 := by
  have z0 : (0 : Int32).toInt = 0 := rfl
  have z15 : (15 : Int32).toInt = 15 := rfl
  unfold f_215
  by_cases q : f_182 x 0 15 = true
  · by_cases q2 : f_182 y 0 15 = true
    · rw [if_pos q, if_pos q2]
      have a := f182_t.mp q
      have b := f182_t.mp q2
      rw [z0, z15] at a b
      have b1 : (x.toNatClampNeg : Int) = x.toInt := by show ((x.toInt.toNat : Nat) : Int) = _; omega
      have b2 : (y.toNatClampNeg : Int) = y.toInt := by show ((y.toInt.toNat : Nat) : Int) = _; omega
      rw [nJ_of a.1, nJ_of b.1, show ((16 : Int32) * nJ y.toNatClampNeg) + nJ x.toNatClampNeg = nJ (16 * y.toNatClampNeg + x.toNatClampNeg) by rw [show (16 : Int32) = nJ 16 from rfl, nJ_mul, nJ_add], ra_n M 149 (by omega)]
      refine (hL.2.2.1 _ (by omega)).2 ?_
      rw [← Bool.not_eq_true, inp_t hL.1 (by omega)]
      intro z
      apply h
      have e : lxy (16 * y.toNatClampNeg + x.toNatClampNeg) = iP x y := by
        unfold lxy iP
        rw [show (16 * y.toNatClampNeg + x.toNatClampNeg) % 16 = x.toNatClampNeg by omega, show (16 * y.toNatClampNeg + x.toNatClampNeg) / 16 = y.toNatClampNeg by omega, b1, b2]
      rw [← e]
      exact z
    · rw [if_pos q, if_neg q2]
  · rw [if_neg q]
theorem at_2 (hL : Ld M) (x y : Int32) : (f_215 M x y = -1 ∧ ¬ ge_cl 1 (rL M 141) (iP x y)) ∨ ∃ p, p < nP M ∧ f_215 M x y = nJ p ∧ pt M p = iP x y := by
  by_cases h : ge_cl 1 (rL M 141) (iP x y)
  · exact Or.inr (at_pt hL h)
  · exact Or.inl ⟨at_no hL h, h⟩
theorem wy_on (p s : GPt) {i g : Nat} (h : i ≤ g) : ge_on p (wy p s g) (wy p s i) := by
  have hn : (0 : Int) ≤ (i : Int) * ((g : Int) - i) := Int.mul_nonneg (by omega) (by omega)
  refine ⟨by unfold ge_o wy; grind, ?_, ?_⟩
  · have e : ((wy p s i).1 - p.1) * ((wy p s i).1 - (wy p s g).1) = -(((i : Int) * ((g : Int) - i)) * (s.1 * s.1)) := by unfold wy; grind
    rw [e]
    have := Int.mul_nonneg hn (ge_sq s.1)
    omega
  · have e : ((wy p s i).2 - p.2) * ((wy p s i).2 - (wy p s g).2) = -(((i : Int) * ((g : Int) - i)) * (s.2 * s.2)) := by unfold wy; grind
    rw [e]
    have := Int.mul_nonneg hn (ge_sq s.2)
    omega
theorem abs_le15 {a : Int} {b : Int} (h : b ∣ a) (ha : a ≠ 0) (h1 : -15 ≤ a) (h2 : a ≤ 15) : b ≤ 15 := by
  have := Int.natAbs_dvd_natAbs.mpr h
  have := Nat.le_of_dvd (by omega) this
  omega
/-- the steps of a way in its pieces have one piece -/
theorem pcs_step {x y s t : Int} {g : Nat} (h : pcs x y g) (bx : -15 ≤ x ∧ x ≤ 15) (by' : -15 ≤ y ∧ y ≤ 15) (hnz : x ≠ 0 ∨ y ≠ 0) (e1 : s * (g : Int) = x) (e2 : t * (g : Int) = y) : pcs s t 1 := by
  refine ⟨by omega, by omega, Int.one_dvd _, Int.one_dvd _, fun d d1 d2 h1 h2 => ?_⟩
  obtain ⟨g1, g2, g3, g4, g5⟩ := h
  have k1 : ((d * g : Nat) : Int) ∣ x := by
    obtain ⟨c, hc⟩ := h1
    exact ⟨c, by rw [← e1, hc, Int.natCast_mul]; grind⟩
  have k2 : ((d * g : Nat) : Int) ∣ y := by
    obtain ⟨c, hc⟩ := h2
    exact ⟨c, by rw [← e2, hc, Int.natCast_mul]; grind⟩
  have k3 : d * g ≤ 15 := by
    rcases hnz with z | z
    · have := abs_le15 k1 z bx.1 bx.2; omega
    · have := abs_le15 k2 z by'.1 by'.2; omega
  have k4 : 2 * g ≤ d * g := Nat.mul_le_mul_right g d1
  have := g5 (d * g) (by omega) k3 k1 k2
  omega
theorem le15 {a b c : Int} (h : a * b = c) (hb : 1 ≤ b) (h1 : -15 ≤ c) (h2 : c ≤ 15) : -15 ≤ a ∧ a ≤ 15 := by
  constructor
  · apply Classical.byContradiction
    intro z
    have := Int.mul_nonneg (show 0 ≤ -16 - a by omega) (show 0 ≤ b by omega)
    rw [Int.sub_mul] at this
    omega
  · apply Classical.byContradiction
    intro z
    have := Int.mul_nonneg (show 0 ≤ a - 16 by omega) (show 0 ≤ b by omega)
    rw [Int.sub_mul] at this
    omega
/-- isChained -/
theorem F69_eq (h : CX S M) {p q g : Nat} (hp : p < nP M) (hq : q < nP M) (hne : p ≠ q) (hg : pcs ((pt M q).1 - (pt M p).1) ((pt M q).2 - (pt M p).2) g) (hn : ∀ a b, a < nP M → b < nP M → a ≠ b → pcs ((pt M b).1 - (pt M a).1) ((pt M b).2 - (pt M a).2) 1 → (bz (S.2 31 a) b = true ↔ ge_sees (rL M 141) (pt M a) (pt M b))) : ∃ b, F_69 (nJ p) (nJ q) (nJ g) S = some b ∧ (b = true ↔ ge_sees (rL M 141) (pt M p) (pt M q)) := by
  obtain ⟨ep, x1, y1, bx1, by1⟩ := cx_pt h hp
  obtain ⟨eq, x2, y2, bx2, by2⟩ := cx_pt h hq
  have hL := h.2.2.1
  have h64 := (Ld_P hL).2
  obtain ⟨hs, h3, -⟩ := GR_simple hL.1
  have hpq : pt M p ≠ pt M q := fun e => hne (pt_inj hL hp hq e)
  have g1 := hg.1
  have g15 := hg.2.1
  have u1 : (S.1 22 p).toInt = (pt M p).1 := congrArg Prod.fst ep
  have u2 : (S.1 23 p).toInt = (pt M p).2 := congrArg Prod.snd ep
  have u3 : (S.1 22 q).toInt = (pt M q).1 := congrArg Prod.fst eq
  have u4 : (S.1 23 q).toInt = (pt M q).2 := congrArg Prod.snd eq
  have dx : (S.1 22 q - S.1 22 p).toInt = (pt M q).1 - (pt M p).1 := by rw [isub_t (by omega) (by omega), u3, u1]
  have dy : (S.1 23 q - S.1 23 p).toInt = (pt M q).2 - (pt M p).2 := by rw [isub_t (by omega) (by omega), u4, u2]
  have q1 := quo_t (x := S.1 22 q - S.1 22 p) (by unfold b15; omega) (d := g) (by omega) (by omega) (by rw [dx]; exact hg.2.2.1)
  have q2 := quo_t (x := S.1 23 q - S.1 23 p) (by unfold b15; omega) (d := g) (by omega) (by omega) (by rw [dy]; exact hg.2.2.2.1)
  rw [dx] at q1
  rw [dy] at q2
  have nz : (!(decide (nJ g = 0))) = true := by
    rw [decide_eq_false (fun z => by have := (nJ_eq (i := g) (j := 0) (by omega) (by omega)).mp z; omega)]; rfl
  unfold F_69
  rw [if_neg (show ¬ nJ g < 1 from fun z => by have := (nJ_lt (j := 1) (by omega) (by omega)).mp z; omega), x2, ob_s, x1, ob_s, ck_t nz, y2, ob_s, y1, ob_s, ck_t nz]
  obtain ⟨X, hX⟩ : ∃ X, X = (S.1 22 q - S.1 22 p) / nJ g := ⟨_, rfl⟩
  obtain ⟨Y, hY⟩ : ∃ Y, Y = (S.1 23 q - S.1 23 p) / nJ g := ⟨_, rfl⟩
  rw [← hX] at q1 ⊢
  rw [← hY] at q2 ⊢
  obtain ⟨s, hs1⟩ : ∃ s : GPt, s = (X.toInt, Y.toInt) := ⟨_, rfl⟩
  have s1 : s.1 = X.toInt := by rw [hs1]
  have s2 : s.2 = Y.toInt := by rw [hs1]
  have hq' : pt M q = wy (pt M p) s g := by
    unfold wy
    exact Prod.ext (by show (pt M q).1 = (pt M p).1 + (g : Int) * s.1; rw [s1, Int.mul_comm]; omega) (by show (pt M q).2 = (pt M p).2 + (g : Int) * s.2; rw [s2, Int.mul_comm]; omega)
  have hs0 : ¬ (s.1 = 0 ∧ s.2 = 0) := by
    rintro ⟨z1, z2⟩
    rw [← s1, z1, Int.zero_mul] at q1
    rw [← s2, z2, Int.zero_mul] at q2
    exact hpq (Prod.ext (by omega) (by omega))
  have stp : pcs s.1 s.2 1 := by
    refine pcs_step hg (by omega) (by omega) ?_ (by rw [s1]; exact q1) (by rw [s2]; exact q2)
    by_cases z : (pt M q).1 - (pt M p).1 = 0
    · refine Or.inr (fun z2 => hpq (Prod.ext (by omega) (by omega)))
    · exact Or.inl z
  have bX : -15 ≤ X.toInt ∧ X.toInt ≤ 15 := le15 q1 (by omega) (by omega) (by omega)
  have bY : -15 ≤ Y.toInt ∧ Y.toInt ≤ 15 := le15 q2 (by omega) (by omega) (by omega)
  have key : ∃ r, wh FU (L_69_55 (nJ p) (nJ q) (nJ g) X Y S) (nJ p, nJ 1) = some r ∧ (((∃ z, r = .inl z) ∧ ge_sees (rL M 141) (pt M p) (pt M q)) ∨ (r = .inr false ∧ ¬ ge_sees (rL M 141) (pt M p) (pt M q))) := by
    refine wh_inv (I := fun m a => ∃ k e, k + m = g + 1 ∧ a = (nJ e, nJ k) ∧ 1 ≤ k ∧ e < nP M ∧ pt M e = wy (pt M p) s (k - 1) ∧ ∀ i, i < k - 1 → ge_sees (rL M 141) (wy (pt M p) s i) (wy (pt M p) s (i + 1))) ?_ FU g _ (FU_lt (by omega)) ⟨1, p, by omega, rfl, by omega, hp, (wy_0 _ _).symm, fun i hi => by omega⟩
    rintro m a ⟨k, e, hk, rfl, k1, he, hpe, w⟩
    unfold L_69_55
    dsimp only
    by_cases c : g < k
    · rw [if_pos ((nJ_lt (by omega) (by omega)).mpr c)]
      refine Or.inr ⟨_, rfl, Or.inl ⟨⟨_, rfl⟩, ?_⟩⟩
      rw [hq']
      exact sg_chain hs h3 hs0 (by omega) (fun i hi => w i (by omega))
    · rw [if_neg (fun z => c ((nJ_lt (by omega) (by omega)).mp z)), x1, ob_s, y1, ob_s, F18_cx h, ob_s]
      have m1 := mul_bd (a := (nJ k).toInt) (b := X.toInt) (A := 15) (B := 15) (by rw [nJ_toInt (by omega)]; omega) (by rw [nJ_toInt (by omega)]; omega) (by omega) (by omega)
      have m2 := mul_bd (a := (nJ k).toInt) (b := Y.toInt) (A := 15) (B := 15) (by rw [nJ_toInt (by omega)]; omega) (by rw [nJ_toInt (by omega)]; omega) (by omega) (by omega)
      have e1 : (nJ k * X).toInt = (nJ k).toInt * X.toInt := imul_t (by omega) (by omega)
      have e2 : (nJ k * Y).toInt = (nJ k).toInt * Y.toInt := imul_t (by omega) (by omega)
      have e3 : (S.1 22 p + nJ k * X).toInt = (S.1 22 p).toInt + (nJ k * X).toInt := iadd_t (by omega) (by omega)
      have e4 : (S.1 23 p + nJ k * Y).toInt = (S.1 23 p).toInt + (nJ k * Y).toInt := iadd_t (by omega) (by omega)
      have ei : iP (S.1 22 p + nJ k * X) (S.1 23 p + nJ k * Y) = wy (pt M p) s k := by
        unfold wy iP
        rw [e3, e4, e1, e2, nJ_toInt (by omega), u1, u2, s1, s2]
      have onk : ge_on (pt M p) (pt M q) (wy (pt M p) s k) := by rw [hq']; exact wy_on _ _ (by omega)
      have onk1 : ge_on (pt M p) (pt M q) (wy (pt M p) s (k - 1)) := by rw [hq']; exact wy_on _ _ (by omega)
      rcases at_2 hL (S.1 22 p + nJ k * X) (S.1 23 p + nJ k * Y) with ⟨f1, f2⟩ | ⟨e', f0, f1, f2⟩
      · rw [f1, if_pos rfl]
        refine Or.inr ⟨_, rfl, Or.inr ⟨rfl, fun z => f2 ?_⟩⟩
        rw [ei]
        exact z.2 1 (by decide) _ (by rw [ge_s_1, ge_s_1]; exact onk)
      · rw [ei] at f2
        have estep : wy (pt M p) s (k - 1 + 1) = wy (pt M p) s k := by rw [show k - 1 + 1 = k by omega]
        have dif := wy_s (pt M p) s (k - 1)
        rw [estep] at dif
        have d1 : (pt M e').1 - (pt M e).1 = s.1 := by rw [f2, hpe, dif]; show _ + s.1 - _ = s.1; omega
        have d2 : (pt M e').2 - (pt M e).2 = s.2 := by rw [f2, hpe, dif]; show _ + s.2 - _ = s.2; omega
        have hee : e ≠ e' := fun z => hs0 ⟨by rw [← d1, z]; omega, by rw [← d2, z]; omega⟩
        have near := hn e e' he f0 hee (by rw [d1, d2]; exact stp)
        rw [f1, if_neg (fun z => by have := nJ_ne1 (k := e') (by omega) z; exact this), if_neg (nJ_nn (by omega)), if_pos (show nJ e < 64 from (nJ_lt (j := 64) (by omega) (by omega)).mpr (by omega)), ck_t (ibd_n (by omega) (by omega)), nJ_ix (by omega), has177 _ (by omega)]
        rw [hpe, f2] at near
        cases z : bz (S.2 31 e) e' with
        | true =>
          rw [if_pos rfl, nJ_succ]
          refine Or.inl ⟨_, m - 1, by omega, rfl, k + 1, e', by omega, rfl, by omega, f0, by rw [f2]; rfl, fun i hi => ?_⟩
          by_cases ci : i = k - 1
          · rw [ci, estep]; exact near.mp z
          · exact w i (by omega)
        | false =>
          rw [if_neg (by decide)]
          refine Or.inr ⟨_, rfl, Or.inr ⟨rfl, fun zz => ?_⟩⟩
          have := near.mpr (sg_sub hpq zz onk1 onk)
          rw [z] at this
          cases this
  obtain ⟨r, e, w⟩ := key
  rw [show ((nJ p : Int32), (1 : Int32)) = (nJ p, nJ 1) from rfl, e, ob_s]
  rcases w with ⟨⟨z, rfl⟩, w⟩ | ⟨rfl, w⟩
  · exact ⟨true, rfl, fun _ => w, fun _ => rfl⟩
  · exact ⟨false, rfl, fun z => absurd z (by decide), fun z => absurd z w⟩
end Cs
/-- rows while pairs are looked at -/
def RJ (n : Nat) (r : Nat → Int64) (Bs Q : Nat → Nat → Prop) (p q : Nat) : Prop := ∀ a, a < n → ∀ b, b < 64 → (bz (r a) b = true ↔ b < n ∧ (Bs a b ∨ (dnp p q a b ∧ Q a b)))
theorem RJ_step {n : Nat} {Bs Q : Nat → Nat → Prop} {r r' : Nat → Int64} {p q : Nat} (hp : p < n) (hq : q < p) (h64 : n ≤ 64) (sym : ∀ a b, Q a b → Q b a) (h : RJ n r Bs Q p q) (hb : (Q p q ∧ ∀ a, a < 64 → r' a = if a = q then r q ||| (1 <<< (Int32.toInt64 (nJ p) &&& 63)) else if a = p then r p ||| (1 <<< (Int32.toInt64 (nJ q) &&& 63)) else r a) ∨ (¬ Q p q ∧ ∀ a, a < 64 → r' a = r a)) : RJ n r' Bs Q p (q + 1) := by
  intro a ha b hb64
  have h0 := h a ha b hb64
  rcases hb with ⟨s, e⟩ | ⟨s, e⟩
  · rw [e a (by omega)]
    by_cases c1 : a = q
    · subst c1
      rw [if_pos rfl, bz_or, Bool.or_eq_true, h0, bz_shl (by omega), decide_eq_true_eq]
      constructor
      · rintro (⟨x1, x2⟩ | x)
        · refine ⟨x1, x2.imp id (fun y => ⟨?_, y.2⟩)⟩
          have := y.1; unfold dnp at *; omega
        · subst x
          exact ⟨hp, Or.inr ⟨by unfold dnp; omega, sym _ _ s⟩⟩
      · rintro ⟨x1, x2 | ⟨x2, x3⟩⟩
        · exact Or.inl ⟨x1, Or.inl x2⟩
        · by_cases c : b = p
          · exact Or.inr c
          · refine Or.inl ⟨x1, Or.inr ⟨?_, x3⟩⟩
            unfold dnp at *; omega
    · rw [if_neg c1]
      by_cases c2 : a = p
      · subst c2
        rw [if_pos rfl, bz_or, Bool.or_eq_true, h0, bz_shl (by omega), decide_eq_true_eq]
        constructor
        · rintro (⟨x1, x2⟩ | x)
          · refine ⟨x1, x2.imp id (fun y => ⟨?_, y.2⟩)⟩
            have := y.1; unfold dnp at *; omega
          · subst x
            exact ⟨by omega, Or.inr ⟨by unfold dnp; omega, s⟩⟩
        · rintro ⟨x1, x2 | ⟨x2, x3⟩⟩
          · exact Or.inl ⟨x1, Or.inl x2⟩
          · by_cases c : b = q
            · exact Or.inr c
            · refine Or.inl ⟨x1, Or.inr ⟨?_, x3⟩⟩
              unfold dnp at *; omega
      · rw [if_neg c2, h0]
        constructor
        · rintro ⟨x1, x2⟩
          refine ⟨x1, x2.imp id (fun y => ⟨?_, y.2⟩)⟩
          have := y.1; unfold dnp at *; omega
        · rintro ⟨x1, x2⟩
          refine ⟨x1, x2.imp id (fun y => ⟨?_, y.2⟩)⟩
          have := y.1; unfold dnp at *; omega
  · rw [e a (by omega), h0]
    constructor
    · rintro ⟨x1, x2⟩
      refine ⟨x1, x2.imp id (fun y => ⟨?_, y.2⟩)⟩
      have := y.1; unfold dnp at *; omega
    · rintro ⟨x1, x2 | ⟨x2, x3⟩⟩
      · exact ⟨x1, Or.inl x2⟩
      · refine ⟨x1, Or.inr ⟨?_, x3⟩⟩
        by_cases c : (a = p ∧ b = q)
        · rw [c.1, c.2] at x3; exact absurd x3 s
        · by_cases c' : (a = q ∧ b = p)
          · rw [c'.1, c'.2] at x3; exact absurd (sym _ _ x3) s
          · unfold dnp at *; omega
/-- near pairs; far ones -/
def nrp (M : ST) (a b : Nat) : Prop := pcs ((pt M b).1 - (pt M a).1) ((pt M b).2 - (pt M a).2) 1
def sep (M : ST) (a b : Nat) : Prop := ge_sees (rL M 141) (pt M a) (pt M b)
theorem nrp_symm {M : ST} {a b : Nat} (h : nrp M a b) : nrp M b a := by
  have := pcs_neg h
  rw [show -((pt M b).1 - (pt M a).1) = (pt M a).1 - (pt M b).1 by omega, show -((pt M b).2 - (pt M a).2) = (pt M a).2 - (pt M b).2 by omega] at this
  exact this
def Qst (M : ST) (far : Bool) (a b : Nat) : Prop := if far = true then ¬ nrp M a b ∧ sep M a b else nrp M a b ∧ sep M a b
def Bst (M : ST) (far : Bool) (p : Nat) (a b : Nat) : Prop := if far = true then b = a ∨ (nrp M a b ∧ sep M a b) else b = a ∧ a < p
theorem Qst_symm {M : ST} {far : Bool} (a b : Nat) (h : Qst M far a b) : Qst M far b a := by
  unfold Qst at *
  cases far with
  | true => rw [if_pos rfl] at *; exact ⟨fun z => h.1 (nrp_symm z), ge_sees_symm h.2⟩
  | false => rw [if_neg (by decide)] at *; exact ⟨nrp_symm h.1, ge_sees_symm h.2⟩
section Lp
variable {S M : ST}
theorem CX_31 (h : CX S M) {S' : ST} (hF : Fp (fun a => a = 31) S S') : CX S' M := CX_fp h hF (fun a ha => by unfold cxC at ha; omega)
theorem C67_33 (h : CX S M) {far : Bool} {p : Nat} (hp : p < nP M) {Bs : Nat → Nat → Prop} (hBs : far = true → ∀ a b, Bs a b ↔ (b = a ∨ (nrp M a b ∧ sep M a b))) (h0 : RJ (nP M) (S.2 31) Bs (Qst M far) p 0) : ∃ z S', wh FU (L_67_33 far (nJ p)) (0, S) = some (z, S') ∧ Fp (fun a => a = 31) S S' ∧ RJ (nP M) (S'.2 31) Bs (Qst M far) p p ∧ ∀ a, nP M ≤ a → S'.2 31 a = S.2 31 a := by
  have hL := h.2.2.1
  have h64 := (Ld_P hL).2
  have key : ∃ r, wh FU (L_67_33 far (nJ p)) (0, S) = some r ∧ ∃ z S', r = (z, S') ∧ Fp (fun a => a = 31) S S' ∧ RJ (nP M) (S'.2 31) Bs (Qst M far) p p ∧ ∀ a, nP M ≤ a → S'.2 31 a = S.2 31 a := by
    refine wh_inv (I := fun m x => ∃ q S', q + m = p ∧ x = (nJ q, S') ∧ Fp (fun a => a = 31) S S' ∧ RJ (nP M) (S'.2 31) Bs (Qst M far) p q ∧ ∀ a, nP M ≤ a → S'.2 31 a = S.2 31 a) ?_ FU p _ (FU_lt (by omega)) ⟨0, S, by omega, rfl, Fp.rf, h0, fun _ _ => rfl⟩
    rintro m x ⟨q, S1, hq, rfl, f1, w, w0⟩
    unfold L_67_33
    dsimp only
    by_cases c : q < p
    · have h1 := CX_31 h f1
      obtain ⟨ep, x1, y1, bx1, by1⟩ := cx_pt h1 hp
      obtain ⟨eq, x2, y2, bx2, by2⟩ := cx_pt h1 (p := q) (by omega)
      have dx : (S1.1 22 q - S1.1 22 p).toInt = (pt M q).1 - (pt M p).1 := by
        have u1 : (S1.1 22 p).toInt = (pt M p).1 := congrArg Prod.fst ep
        have u2 : (S1.1 22 q).toInt = (pt M q).1 := congrArg Prod.fst eq
        rw [isub_t (by omega) (by omega), u1, u2]
      have dy : (S1.1 23 q - S1.1 23 p).toInt = (pt M q).2 - (pt M p).2 := by
        have u1 : (S1.1 23 p).toInt = (pt M p).2 := congrArg Prod.snd ep
        have u2 : (S1.1 23 q).toInt = (pt M q).2 := congrArg Prod.snd eq
        rw [isub_t (by omega) (by omega), u1, u2]
      have bp := pt_bd hL hp
      have bq := pt_bd hL (p := q) (by omega)
      obtain ⟨g, eg, hg⟩ := F70_eq S1 (x := S1.1 22 q - S1.1 22 p) (y := S1.1 23 q - S1.1 23 p) (by unfold b15; omega) (by unfold b15; omega)
      rw [dx, dy] at hg
      have g15 := hg.2.1
      have g1 := hg.1
      have nr : nrp M p q ↔ g = 1 := ⟨fun z => pcs_u hg z, fun z => by rw [z] at hg; exact hg⟩
      rw [if_pos ((nJ_lt (by omega) (by omega)).mpr c), x2, ob_s, x1, ob_s, y2, ob_s, y1, ob_s, eg, ob_s]
      have yes : Qst M far p q → ∀ F : ST → Option ((Int32 × ST) ⊕ (Int32 × ST)), (∀ s, F s = some (.inl (nJ q + 1, s))) → (∃ a' m', m' < m ∧ ck (ibd (nJ p) 64) (ck (ibd (nJ p) 64) (sbn ((wL S1 31 (Int32.toNatClampNeg (nJ p)) ((S1.2 31 (Int32.toNatClampNeg (nJ p))) ||| (1 <<< (Int32.toInt64 (nJ q) &&& 63))))) (fun s12 => ck (ibd (nJ q) 64) (ck (ibd (nJ q) 64) (sbn ((wL s12 31 (Int32.toNatClampNeg (nJ q)) ((s12.2 31 (Int32.toNatClampNeg (nJ q))) ||| (1 <<< (Int32.toInt64 (nJ p) &&& 63))))) F))))) = some (.inl a') ∧ ∃ q S', q + m' = p ∧ a' = (nJ q, S') ∧ Fp (fun a => a = 31) S S' ∧ RJ (nP M) (S'.2 31) Bs (Qst M far) p q ∧ ∀ a, nP M ≤ a → S'.2 31 a = S.2 31 a) := by
        intro hQ F hF
        rw [ck_t (ibd_n (by omega) (by omega)), ck_t (ibd_n (by omega) (by omega)), sbn_e, ck_t (ibd_n (by omega) (by omega)), ck_t (ibd_n (by omega) (by omega)), sbn_e, hF, nJ_succ, nJ_ix (by omega), nJ_ix (by omega)]
        refine ⟨_, m - 1, by omega, rfl, q + 1, _, by omega, rfl, f1.tr ((Fp_L (P := fun a => a = 31) rfl).tr (Fp_L (P := fun a => a = 31) rfl)), RJ_step hp c h64 Qst_symm w (Or.inl ⟨hQ, fun a ha => ?_⟩), fun a ha => ?_⟩
        · by_cases c1 : a = q
          · subst c1
            rw [if_pos rfl, wL_2, if_pos ⟨rfl, rfl⟩, wL_2, if_neg (by omega)]
          · rw [if_neg c1, wL_2, if_neg (fun z => c1 z.2), wL_2]
            by_cases c2 : a = p
            · rw [if_pos ⟨rfl, c2⟩, if_pos c2]
            · rw [if_neg (fun z => c2 z.2), if_neg c2]
        · rw [wL_2, if_neg (by omega), wL_2, if_neg (by omega)]
          exact w0 a ha
      have no : ¬ Qst M far p q → ∃ a' m', m' < m ∧ (some (.inl (nJ q + 1, S1)) : Option ((Int32 × ST) ⊕ (Int32 × ST))) = some (.inl a') ∧ ∃ q S', q + m' = p ∧ a' = (nJ q, S') ∧ Fp (fun a => a = 31) S S' ∧ RJ (nP M) (S'.2 31) Bs (Qst M far) p q ∧ ∀ a, nP M ≤ a → S'.2 31 a = S.2 31 a := by
        intro hQ
        rw [nJ_succ]
        exact ⟨_, m - 1, by omega, rfl, q + 1, S1, by omega, rfl, f1, RJ_step hp c h64 Qst_symm w (Or.inr ⟨hQ, fun a _ => rfl⟩), w0⟩
      refine Or.inl ?_
      cases far with
      | true =>
        rw [if_pos rfl]
        by_cases cg : 1 < g
        · rw [if_pos (show (1 : Int32) < nJ g from (nJ_lt (i := 1) (by omega) (by omega)).mpr cg)]
          have hB := hBs rfl
          obtain ⟨b, eb, iff⟩ := F69_eq h1 hp (q := q) (by omega) (by omega) hg (fun a b ha hb hab hn => by
            have := w a ha b (by omega)
            rw [this, hB]
            unfold Qst
            rw [if_pos rfl]
            constructor
            · rintro ⟨-, (z | z) | z⟩
              · exact absurd z.symm hab
              · exact z.2
              · exact z.2.2
            · intro z
              exact ⟨hb, Or.inl (Or.inr ⟨hn, z⟩)⟩)
          rw [eb, ob_s]
          cases b with
          | true =>
            rw [if_pos rfl]
            refine yes ?_ _ (fun s => rfl)
            unfold Qst
            rw [if_pos rfl]
            exact ⟨fun z => by have := nr.mp z; omega, iff.mp rfl⟩
          | false =>
            rw [if_neg (by decide)]
            refine no ?_
            unfold Qst
            rw [if_pos rfl]
            exact fun z => absurd (iff.mpr z.2) (by decide)
        · rw [if_neg (show ¬ (1 : Int32) < nJ g from fun z => cg ((nJ_lt (i := 1) (by omega) (by omega)).mp z))]
          refine no ?_
          unfold Qst
          rw [if_pos rfl]
          exact fun z => z.1 (nr.mpr (by omega))
      | false =>
        rw [if_neg (by decide)]
        by_cases cg : g = 1
        · rw [if_pos (show nJ g = 1 by rw [cg]; rfl)]
          have hne : p ≠ q := by omega
          obtain ⟨b, eb, iff⟩ := F68_eq h1 hp (q := q) (by omega)
          rw [near_sees hL hp (by omega) hne (nr.mpr cg)] at iff
          rw [eb, ob_s]
          cases b with
          | true =>
            rw [if_pos rfl]
            refine yes ?_ _ (fun s => rfl)
            unfold Qst
            rw [if_neg (by decide)]
            exact ⟨nr.mpr cg, iff.mp rfl⟩
          | false =>
            rw [if_neg (by decide)]
            refine no ?_
            unfold Qst
            rw [if_neg (by decide)]
            exact fun z => absurd (iff.mpr z.2) (by decide)
        · rw [if_neg (show ¬ nJ g = 1 from fun z => cg ((nJ_eq (j := 1) (by omega) (by omega)).mp z))]
          refine no ?_
          unfold Qst
          rw [if_neg (by decide)]
          exact fun z => cg (nr.mp z.1)
    · rw [if_neg (fun z => c ((nJ_lt (by omega) (by omega)).mp z))]
      have eq : q = p := by omega
      rw [eq] at w
      exact Or.inr ⟨_, rfl, _, S1, rfl, f1, w, w0⟩
  obtain ⟨r, e, z, S', rfl, w⟩ := key
  exact ⟨z, S', e, w⟩
theorem F67_eq (h : CX S M) {far : Bool} (h0 : RJ (nP M) (S.2 31) (Bst M far 0) (Qst M far) 0 0) : ∃ S', F_67 far S = some ((), S') ∧ Fp (fun a => a = 31) S S' ∧ RJ (nP M) (S'.2 31) (Bst M far (nP M)) (Qst M far) (nP M) 0 ∧ ∀ a, nP M ≤ a → S'.2 31 a = S.2 31 a := by
  have hL := h.2.2.1
  have h64 := (Ld_P hL).2
  have key : ∃ r, wh FU (L_67_2 far) (0, S) = some r ∧ ∃ z S', r = (z, S') ∧ Fp (fun a => a = 31) S S' ∧ RJ (nP M) (S'.2 31) (Bst M far (nP M)) (Qst M far) (nP M) 0 ∧ ∀ a, nP M ≤ a → S'.2 31 a = S.2 31 a := by
    refine wh_inv (I := fun m x => ∃ p S', p + m = nP M ∧ x = (nJ p, S') ∧ Fp (fun a => a = 31) S S' ∧ RJ (nP M) (S'.2 31) (Bst M far p) (Qst M far) p 0 ∧ ∀ a, nP M ≤ a → S'.2 31 a = S.2 31 a) ?_ FU (nP M) _ (FU_lt (by omega)) ⟨0, S, by omega, rfl, Fp.rf, h0, fun _ _ => rfl⟩
    rintro m x ⟨p, S1, hp, rfl, f1, w, w0⟩
    have h1 := CX_31 h f1
    unfold L_67_2
    dsimp only
    rw [h1.2.2.2.1]
    by_cases c : p < nP M
    · rw [if_pos ((nJ_lt (by omega) (by omega)).mpr c), if_pos (show nJ p < 64 from (nJ_lt (j := 64) (by omega) (by omega)).mpr (by omega)), ck_t (ibd_n (by omega) (by omega)), ck_t (ibd_n (by omega) (by omega)), sbn_e, nJ_ix (by omega)]
      have f2 : Fp (fun a => a = 31) S1 (wL S1 31 p (S1.2 31 p ||| (1 <<< (Int32.toInt64 (nJ p) &&& 63)))) := Fp_L rfl
      have h2 := CX_31 h1 f2
      obtain ⟨z, S3, e3, f3, w3, w30⟩ := C67_33 h2 (far := far) c (Bs := Bst M far (p + 1)) (fun hf a b => by unfold Bst; rw [if_pos hf]) (by
        intro a ha b hb
        rw [wL_2]
        by_cases ca : a = p
        · subst ca
          rw [if_pos ⟨rfl, rfl⟩, bz_or, Bool.or_eq_true, w a ha b hb, bz_shl (by omega), decide_eq_true_eq]
          unfold Bst
          cases far with
          | true =>
            rw [if_pos rfl, if_pos rfl]
            constructor
            · rintro (y | y)
              · exact y
              · rw [y]; exact ⟨ha, Or.inl (Or.inl rfl)⟩
            · intro y; exact Or.inl y
          | false =>
            rw [if_neg (by decide), if_neg (by decide)]
            constructor
            · rintro (⟨y1, y2 | y2⟩ | y)
              · exact ⟨y1, Or.inl ⟨y2.1, by omega⟩⟩
              · exact ⟨y1, Or.inr y2⟩
              · rw [y]; exact ⟨ha, Or.inl ⟨rfl, by omega⟩⟩
            · rintro ⟨y1, y2 | y2⟩
              · exact Or.inr y2.1
              · exact Or.inl ⟨y1, Or.inr y2⟩
        · rw [if_neg (fun y => ca y.2), w a ha b hb]
          unfold Bst
          cases far with
          | true => exact Iff.rfl
          | false =>
            rw [if_neg (by decide), if_neg (by decide)]
            constructor
            · rintro ⟨y1, y2 | y2⟩
              · exact ⟨y1, Or.inl ⟨y2.1, by omega⟩⟩
              · exact ⟨y1, Or.inr y2⟩
            · rintro ⟨y1, y2 | y2⟩
              · exact ⟨y1, Or.inl ⟨y2.1, by omega⟩⟩
              · exact ⟨y1, Or.inr y2⟩)
      rw [e3, ob_s, nJ_succ]
      refine Or.inl ⟨_, m - 1, by omega, rfl, p + 1, S3, by omega, rfl, f1.tr (f2.tr f3), fun a ha b hb => ?_, fun a ha => ?_⟩
      · rw [w3 a ha b hb]
        constructor
        · rintro ⟨y1, y2⟩
          refine ⟨y1, y2.imp id (fun y => ⟨?_, y.2⟩)⟩
          have := y.1; unfold dnp at *; omega
        · rintro ⟨y1, y2 | ⟨y2, y3⟩⟩
          · exact ⟨y1, Or.inl y2⟩
          · by_cases cc : b = a
            · refine ⟨y1, Or.inl ?_⟩
              unfold Bst
              cases far with
              | true => rw [if_pos rfl]; exact Or.inl cc
              | false =>
                rw [if_neg (by decide)]
                unfold dnp at y2
                exact ⟨cc, by omega⟩
            · refine ⟨y1, Or.inr ⟨?_, y3⟩⟩
              unfold dnp at *; omega
      · rw [w30 a ha, wL_2, if_neg (by omega)]
        exact w0 a ha
    · rw [if_neg (fun z => c ((nJ_lt (by omega) (by omega)).mp z))]
      have ep : p = nP M := by omega
      rw [ep] at w
      exact Or.inr ⟨_, rfl, _, S1, rfl, f1, w, w0⟩
  obtain ⟨r, e, z, S', rfl, w⟩ := key
  unfold F_67
  rw [e, ob_s]
  exact ⟨S', rfl, w⟩
theorem C66_15 (S : ST) : ∃ z S', wh FU L_66_15 (0, S) = some (z, S') ∧ Fp (fun a => a = 31) S S' ∧ ∀ a, a < 64 → S'.2 31 a = 0 := by
  have key : ∃ r, wh FU L_66_15 (0, S) = some r ∧ ∃ z S', r = (z, S') ∧ Fp (fun a => a = 31) S S' ∧ ∀ a, a < 64 → S'.2 31 a = 0 := by
    refine wh_inv (I := fun m x => ∃ p S', p + m = 64 ∧ x = (nJ p, S') ∧ Fp (fun a => a = 31) S S' ∧ ∀ a, a < p → S'.2 31 a = 0) ?_ FU 64 _ (FU_lt (by omega)) ⟨0, S, by omega, rfl, Fp.rf, fun a ha => by omega⟩
    rintro m x ⟨p, S1, hp, rfl, f1, w⟩
    unfold L_66_15
    dsimp only
    by_cases c : p < 64
    · rw [if_pos (show nJ p < 64 from (nJ_lt (j := 64) (by omega) (by omega)).mpr c), ck_t (ibd_n (by omega) (by omega)), sbn_e, nJ_ix (by omega), nJ_succ]
      refine Or.inl ⟨_, m - 1, by omega, rfl, p + 1, _, by omega, rfl, f1.tr (Fp_L rfl), fun a ha => ?_⟩
      rw [wL_2]
      by_cases d : a = p
      · rw [if_pos ⟨rfl, d⟩]
      · rw [if_neg (fun y => d y.2)]; exact w a (by omega)
    · rw [if_neg (show ¬ nJ p < 64 from fun z => c ((nJ_lt (j := 64) (by omega) (by omega)).mp z))]
      exact Or.inr ⟨_, rfl, _, S1, rfl, f1, fun a ha => w a (by omega)⟩
  obtain ⟨r, e, z, S', rfl, w⟩ := key
  exact ⟨z, S', e, w⟩
/-- learn -/
theorem F66_eq (h : CX S M) (hk : S.1 30 3 = 0) : ∃ S', F_66 S = some ((), S') ∧ Fp (fun a => a = 30 ∨ a = 31) S S' ∧ (∀ k, k ≠ 3 → S'.1 30 k = S.1 30 k) ∧ S'.1 30 3 = 1 ∧ SR M (S'.2 31) ∧ ∀ a, nP M ≤ a → a < 64 → S'.2 31 a = 0 := by
  have hL := h.2.2.1
  have h64 := (Ld_P hL).2
  unfold F_66
  rw [if_pos hk]
  have f0 : Fp (fun a => a = 30) S (wI S 30 3 1) := Fp_I rfl
  obtain ⟨z, S1, e1, f1, w1⟩ := C66_15 (wI S 30 3 1)
  rw [e1, ob_s]
  have h1 : CX S1 M := CX_31 (CX_fp h f0 (fun a ha => by unfold cxC at ha; omega)) f1
  obtain ⟨S2, e2, f2, w2, z2⟩ := F67_eq h1 (far := false) (fun a ha b hb => by
    rw [w1 a (by omega), bz_0]
    constructor
    · intro y; cases y
    · rintro ⟨-, y | y⟩
      · unfold Bst at y; rw [if_neg (by decide)] at y; omega
      · have := y.1; unfold dnp at this; omega)
  dsimp only
  rw [e2, ob_s]
  have h2 := CX_31 h1 f2
  obtain ⟨S3, e3, f3, w3, z3⟩ := F67_eq h2 (far := true) (fun a ha b hb => by
    rw [w2 a ha b hb]
    unfold Bst Qst
    rw [if_neg (by decide), if_neg (by decide), if_pos rfl, if_pos rfl]
    constructor
    · rintro ⟨y1, y2 | y2⟩
      · exact ⟨y1, Or.inl (Or.inl y2.1)⟩
      · exact ⟨y1, Or.inl (Or.inr y2.2)⟩
    · rintro ⟨y1, (y2 | y2) | y2⟩
      · exact ⟨y1, Or.inl ⟨y2, ha⟩⟩
      · exact ⟨y1, Or.inr ⟨Or.inl ⟨ha, y1⟩, y2⟩⟩
      · have := y2.1; unfold dnp at this; omega)
  dsimp only
  rw [e3, ob_s]
  have F : Fp (fun a => a = 31) (wI S 30 3 1) S3 := f1.tr (f2.tr f3)
  refine ⟨S3, rfl, (f0.wk (fun x hx => Or.inl hx)).tr (F.wk (fun x hx => Or.inr hx)), fun k hk => ?_, ?_, fun a ha b hb => ?_, fun a ha hb => ?_⟩
  · rw [(F 30 (by decide)).1, wI_1, if_neg (fun y => hk y.2)]
  · rw [(F 30 (by decide)).1, wI_1, if_pos ⟨rfl, rfl⟩]
  · rw [w3 a ha b hb]
    unfold Bst Qst
    rw [if_pos rfl, if_pos rfl]
    constructor
    · rintro ⟨y1, (y2 | y2) | y2⟩
      · rw [y2]; exact ⟨ha, sees_refl (pt_cl hL ha)⟩
      · exact ⟨y1, y2.2⟩
      · exact ⟨y1, y2.2.2⟩
    · rintro ⟨y1, y2⟩
      by_cases c : nrp M a b
      · exact ⟨y1, Or.inl (Or.inr ⟨c, y2⟩)⟩
      · exact ⟨y1, Or.inr ⟨Or.inl ⟨ha, y1⟩, c, y2⟩⟩
  · rw [z3 a ha, z2 a ha, w1 a hb]
end Lp
