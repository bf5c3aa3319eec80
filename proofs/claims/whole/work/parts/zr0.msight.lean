/-! the reference's sight: exactly the pairs that see each other -/
theorem sees_refl {l : List GPt} {p : GPt} (hp : ge_cl 1 l p) : ge_sees l p p := by
  refine ⟨fun u v _ z => ?_, fun k hk r hr => ?_⟩
  · have := z.2
    have := z.1
    have := ge_sq (ge_o u v p)
    omega
  · rw [ge_on_pp hr]; exact (cl_s hk).mpr hp
theorem pt_inj {S : ST} (h : Ld S) {p q : Nat} (hp : p < nP S) (hq : q < nP S) (e : pt S p = pt S q) : p = q := by
  obtain ⟨t, t1, -, t3, -, -, t4, -⟩ := Ld_pt h hp
  obtain ⟨s, s1, -, s3, -, -, s4, -⟩ := Ld_pt h hq
  rw [t4, s4] at e
  have e1 : ((t % 16 : Nat) : Int) = ((s % 16 : Nat) : Int) := congrArg Prod.fst e
  have e2 : ((t / 16 : Nat) : Int) = ((s / 16 : Nat) : Int) := congrArg Prod.snd e
  have : t = s := by omega
  rw [← t3, ← s3, this]
theorem pt_cl {S : ST} (h : Ld S) {p : Nat} (hp : p < nP S) : ge_cl 1 (rL S 141) (pt S p) := by
  obtain ⟨t, -, -, -, -, -, -, w⟩ := Ld_pt h hp
  exact w
theorem pt_bd {S : ST} (h : Ld S) {p : Nat} (hp : p < nP S) : (0 ≤ (pt S p).1 ∧ (pt S p).1 ≤ 15) ∧ 0 ≤ (pt S p).2 ∧ (pt S p).2 ≤ 15 := by
  obtain ⟨t, t1, -, -, -, -, e, -⟩ := Ld_pt h hp
  rw [e]
  show (0 ≤ ((t % 16 : Nat) : Int) ∧ ((t % 16 : Nat) : Int) ≤ 15) ∧ 0 ≤ ((t / 16 : Nat) : Int) ∧ ((t / 16 : Nat) : Int) ≤ 15
  omega
/-- rows of sight -/
def SR (S : ST) (r : Nat → Int64) : Prop := ∀ p, p < nP S → ∀ q, q < 64 → (bz (r p) q = true ↔ q < nP S ∧ ge_sees (rL S 141) (pt S p) (pt S q))
/-- what the edges see, by the rows -/
def ER (S : ST) (r e : Nat → Int64) : Prop := ∀ i, i < rN S 141 → ∀ q, q < 64 → (bz (e i) q = true ↔ ∃ p, p < nP S ∧ ge_on (rP S 141 i) (rP S 141 (ge_aft (rN S 141) i)) (pt S p) ∧ bz (r p) q = true)
/-- the pairs before (p, q) -/
def dnp (p q a b : Nat) : Prop := (a < p ∧ b < p) ∨ (a = p ∧ b < q) ∨ (b = p ∧ a < q)
def PJ (S : ST) (r : Nat → Int64) (p q : Nat) : Prop := ∀ a, a < nP S → ∀ b, b < 64 → (bz (r a) b = true ↔ b < nP S ∧ (b = a ∨ (dnp p q a b ∧ ge_sees (rL S 141) (pt S a) (pt S b))))
section Ms
variable {S : ST}
theorem pt_co (hL : Ld S) {p : Nat} (hp : p < nP S) : lP (Int32.toInt64 (S.1 147 p)) (Int32.toInt64 (S.1 148 p)) = pt S p ∧ bd 100 (Int32.toInt64 (S.1 147 p)) ∧ bd 100 (Int32.toInt64 (S.1 148 p)) := by
  have b := pt_bd hL hp
  have e1 : (Int32.toInt64 (S.1 147 p)).toInt = (pt S p).1 := Int32.toInt_toInt64 _
  have e2 : (Int32.toInt64 (S.1 148 p)).toInt = (pt S p).2 := Int32.toInt_toInt64 _
  exact ⟨Prod.ext e1 e2, by unfold bd; rw [e1]; omega, by unfold bd; rw [e2]; omega⟩
theorem M239_25 (S0 : ST) {n : Nat} (e : S0.1 140 20 = nJ n) (hn : n ≤ 64) : ∃ S1, wh FU Lm_239_25 (0, S0) = some (nJ n, S1) ∧ Fm [153] [] S0 S1 ∧ ∀ a, a < n → ∀ b, b < 64 → bz (S1.2 153 a) b = decide (b = a) := by
  have key : ∃ r, wh FU Lm_239_25 (0, S0) = some r ∧ ∃ S1, r = (nJ n, S1) ∧ Fm [153] [] S0 S1 ∧ ∀ a, a < n → ∀ b, b < 64 → bz (S1.2 153 a) b = decide (b = a) := by
    refine wh_inv (I := fun m x => ∃ i S1, i + m = n ∧ x = (nJ i, S1) ∧ Fm [153] [] S0 S1 ∧ ∀ a, a < i → ∀ b, b < 64 → bz (S1.2 153 a) b = decide (b = a)) ?_ FU n _ (FU_lt (by omega)) ⟨0, S0, by omega, rfl, Fm.rf, fun a ha => by omega⟩
    rintro m x ⟨i, S1, hi, rfl, f1, w⟩
    unfold Lm_239_25
    dsimp only
    rw [f1.fld (by decide) (by decide), e]
    by_cases q : i < n
    · rw [if_pos ((nJ_lt (by omega) (by omega)).mpr q), ck_t (ibd_n (by omega) (by omega)), sbn_e, nJ_ix (by omega), nJ_succ]
      refine Or.inl ⟨_, m - 1, by omega, rfl, i + 1, _, by omega, rfl, f1.tr (Fm_l (by simp)), fun a ha b hb => ?_⟩
      rw [wL_2]
      by_cases c : a = i
      · rw [if_pos ⟨rfl, c⟩, bz_shl (by omega), c]
      · rw [if_neg (fun z => c z.2)]; exact w a (by omega) b hb
    · rw [if_neg (fun z => q ((nJ_lt (by omega) (by omega)).mp z))]
      have ei : i = n := by omega
      rw [ei] at w ⊢
      exact Or.inr ⟨_, rfl, S1, rfl, f1, w⟩
  obtain ⟨r, e1, S1, rfl, w⟩ := key
  exact ⟨S1, e1, w⟩
theorem PJ_step {r r' : Nat → Int64} {p q : Nat} (hp : p < nP S) (hq : q < p) (h64 : nP S ≤ 64) (h : PJ S r p q) (hb : (ge_sees (rL S 141) (pt S p) (pt S q) ∧ ∀ a, a < 64 → r' a = if a = q then r q ||| (1 <<< (Int32.toInt64 (nJ p) &&& 63)) else if a = p then r p ||| (1 <<< (Int32.toInt64 (nJ q) &&& 63)) else r a) ∨ (¬ ge_sees (rL S 141) (pt S p) (pt S q) ∧ ∀ a, a < 64 → r' a = r a)) : PJ S r' p (q + 1) := by
  intro a ha b hb64
  have h0 := h a ha b hb64
  rcases hb with ⟨s, e⟩ | ⟨s, e⟩
  · rw [e a (by omega)]
    by_cases c1 : a = q
    · subst c1
      rw [if_pos rfl, bz_or, Bool.or_eq_true, h0, bz_shl (by omega), decide_eq_true_eq]
      constructor
      · rintro (⟨x1, x2⟩ | x)
        · refine ⟨x1, x2.imp id (fun y => ⟨?_, y.2⟩)⟩
          have := y.1; unfold dnp at *; omega
        · subst x
          exact ⟨hp, Or.inr ⟨by unfold dnp; omega, ge_sees_symm s⟩⟩
      · rintro ⟨x1, x2 | ⟨x2, x3⟩⟩
        · exact Or.inl ⟨x1, Or.inl x2⟩
        · by_cases c : b = p
          · exact Or.inr c
          · refine Or.inl ⟨x1, Or.inr ⟨?_, x3⟩⟩
            unfold dnp at *; omega
    · rw [if_neg c1]
      by_cases c2 : a = p
      · subst c2
        rw [if_pos rfl, bz_or, Bool.or_eq_true, h0, bz_shl (by omega), decide_eq_true_eq]
        constructor
        · rintro (⟨x1, x2⟩ | x)
          · refine ⟨x1, x2.imp id (fun y => ⟨?_, y.2⟩)⟩
            have := y.1; unfold dnp at *; omega
          · subst x
            exact ⟨by omega, Or.inr ⟨by unfold dnp; omega, s⟩⟩
        · rintro ⟨x1, x2 | ⟨x2, x3⟩⟩
          · exact Or.inl ⟨x1, Or.inl x2⟩
          · by_cases c : b = q
            · exact Or.inr c
            · refine Or.inl ⟨x1, Or.inr ⟨?_, x3⟩⟩
              unfold dnp at *; omega
      · rw [if_neg c2, h0]
        constructor
        · rintro ⟨x1, x2⟩
          refine ⟨x1, x2.imp id (fun y => ⟨?_, y.2⟩)⟩
          have := y.1; unfold dnp at *; omega
        · rintro ⟨x1, x2⟩
          refine ⟨x1, x2.imp id (fun y => ⟨?_, y.2⟩)⟩
          have := y.1; unfold dnp at *; omega
  · rw [e a (by omega), h0]
    constructor
    · rintro ⟨x1, x2⟩
      refine ⟨x1, x2.imp id (fun y => ⟨?_, y.2⟩)⟩
      have := y.1; unfold dnp at *; omega
    · rintro ⟨x1, x2 | ⟨x2, x3⟩⟩
      · exact ⟨x1, Or.inl x2⟩
      · refine ⟨x1, Or.inr ⟨?_, x3⟩⟩
        by_cases c : (a = p ∧ b = q)
        · rw [c.1, c.2] at x3; exact absurd x3 s
        · by_cases c' : (a = q ∧ b = p)
          · rw [c'.1, c'.2] at x3; exact absurd (ge_sees_symm x3) s
          · unfold dnp at *; omega
theorem PJ_next {r : Nat → Int64} {p : Nat} (h : PJ S r p p) : PJ S r (p + 1) 0 := by
  intro a ha b hb
  rw [h a ha b hb]
  constructor
  · rintro ⟨x1, x2⟩
    refine ⟨x1, x2.imp id (fun y => ⟨?_, y.2⟩)⟩
    have := y.1; unfold dnp at *; omega
  · rintro ⟨x1, x2 | ⟨x2, x3⟩⟩
    · exact ⟨x1, Or.inl x2⟩
    · by_cases c : b = a
      · exact ⟨x1, Or.inl c⟩
      · refine ⟨x1, Or.inr ⟨?_, x3⟩⟩
        unfold dnp at *; omega
theorem M239_60 (hL : Ld S) {p : Nat} (hp : p < nP S) {S1 : ST} (f1 : Fm [150, 151, 152, 153, 154] [27, 34, 36] S S1) (h1 : PJ S (S1.2 153) p 0) : ∃ r S2, wh FU (Lm_239_60 (nJ p)) (0, S1) = some (r, S2) ∧ Fm [150, 151, 152, 153] [] S1 S2 ∧ PJ S (S2.2 153) (p + 1) 0 := by
  have hP := Ld_P hL
  have key : ∃ r, wh FU (Lm_239_60 (nJ p)) (0, S1) = some r ∧ ∃ z S2, r = (z, S2) ∧ Fm [150, 151, 152, 153] [] S1 S2 ∧ PJ S (S2.2 153) (p + 1) 0 := by
    refine wh_inv (I := fun m x => ∃ q S2, q + m = p ∧ x = (nJ q, S2) ∧ Fm [150, 151, 152, 153] [] S1 S2 ∧ PJ S (S2.2 153) p q) ?_ FU p _ (FU_lt (by omega)) ⟨0, S1, by omega, rfl, Fm.rf, h1⟩
    rintro m x ⟨q, S2, hq, rfl, f2, w⟩
    unfold Lm_239_60
    dsimp only
    by_cases c : q < p
    · have F : Fm [150, 151, 152, 153, 154] [27, 34, 36] S S2 := f1.tr (f2.wk (by simp) (by simp))
      obtain ⟨L2, eL, eP, ept⟩ := Ld_fm hL F (by decide) (by decide) (by decide) (by decide) (by decide) (by decide)
      have co := pt_co L2 (p := p) (by omega)
      have cq := pt_co L2 (p := q) (by omega)
      obtain ⟨b, S3, g, f3, iff⟩ := F238_eq (S := S2) L2.1 (A := pt S2 p) (B := pt S2 q) (fun z => by have := pt_inj L2 (by omega) (by omega) z; omega) co.1 cq.1 co.2.1 co.2.2 cq.2.1 cq.2.2 (pt_cl L2 (by omega)) (pt_cl L2 (by omega))
      have f3' : Fm [150, 151, 152, 153] [] S2 S3 := f3.wk (by simp) (by simp)
      have e3 : S3.2 153 = S2.2 153 := f3.rowL (by decide)
      rw [eL, ept, ept] at iff
      rw [if_pos ((nJ_lt (by omega) (by omega)).mpr c), ck_t (ibd_n (by omega) (by omega)), ck_t (ibd_n (by omega) (by omega)), ck_t (ibd_n (by omega) (by omega)), ck_t (ibd_n (by omega) (by omega)), nJ_ix (by omega), nJ_ix (by omega), g, ob_s]
      dsimp only
      cases b with
      | true =>
        rw [if_pos rfl, ck_t (ibd_n (by omega) (by omega)), ck_t (ibd_n (by omega) (by omega)), sbn_e, ck_t (ibd_n (by omega) (by omega)), ck_t (ibd_n (by omega) (by omega)), sbn_e, nJ_succ]
        refine Or.inl ⟨_, m - 1, by omega, rfl, q + 1, _, by omega, rfl, f2.tr (f3'.tr ((Fm_l (by simp)).tr (Fm_l (by simp)))), PJ_step hp c hP.2 w (Or.inl ⟨iff.mp rfl, fun a ha => ?_⟩)⟩
        rw [e3]
        by_cases c1 : a = q
        · subst c1
          rw [if_pos rfl, wL_2, if_pos ⟨rfl, rfl⟩, wL_2, if_neg (by omega), e3]
        · rw [if_neg c1, wL_2, if_neg (fun z => c1 z.2), wL_2]
          by_cases c2 : a = p
          · rw [if_pos ⟨rfl, c2⟩, if_pos c2]
          · rw [if_neg (fun z => c2 z.2), if_neg c2, e3]
      | false =>
        rw [if_neg (by decide), nJ_succ]
        exact Or.inl ⟨_, m - 1, by omega, rfl, q + 1, _, by omega, rfl, f2.tr f3', PJ_step hp c hP.2 w (Or.inr ⟨fun z => absurd (iff.mpr z) (by decide), fun a ha => by rw [e3]⟩)⟩
    · rw [if_neg (fun z => c ((nJ_lt (by omega) (by omega)).mp z))]
      have eq : q = p := by omega
      rw [eq] at w
      exact Or.inr ⟨_, rfl, _, S2, rfl, f2, PJ_next w⟩
  obtain ⟨r, e, z, S2, rfl, w⟩ := key
  exact ⟨z, S2, e, w⟩
theorem M239_50 (hL : Ld S) {S1 : ST} (f1 : Fm [150, 151, 152, 153, 154] [27, 34, 36] S S1) (h1 : ∀ a, a < nP S → ∀ b, b < 64 → bz (S1.2 153 a) b = decide (b = a)) : ∃ r S2, wh FU Lm_239_50 (0, S1) = some (r, S2) ∧ Fm [150, 151, 152, 153] [] S1 S2 ∧ SR S (S2.2 153) := by
  have hP := Ld_P hL
  have key : ∃ r, wh FU Lm_239_50 (0, S1) = some r ∧ ∃ z S2, r = (z, S2) ∧ Fm [150, 151, 152, 153] [] S1 S2 ∧ SR S (S2.2 153) := by
    refine wh_inv (I := fun m x => ∃ p S2, p + m = nP S ∧ x = (nJ p, S2) ∧ Fm [150, 151, 152, 153] [] S1 S2 ∧ PJ S (S2.2 153) p 0) ?_ FU (nP S) _ (FU_lt (by omega)) ⟨0, S1, by omega, rfl, Fm.rf, fun a ha b hb => ?_⟩
    · rintro m x ⟨p, S2, hp, rfl, f2, w⟩
      have F : Fm [150, 151, 152, 153, 154] [27, 34, 36] S S2 := f1.tr (f2.wk (by simp) (by simp))
      unfold Lm_239_50
      dsimp only
      rw [F.fld (by decide) (by decide), hP.1]
      by_cases c : p < nP S
      · rw [if_pos ((nJ_lt (by omega) (by omega)).mpr c)]
        obtain ⟨r, S3, e, f3, w3⟩ := M239_60 hL c F w
        rw [e, ob_s, nJ_succ]
        exact Or.inl ⟨_, m - 1, by omega, rfl, p + 1, S3, by omega, rfl, f2.tr f3, w3⟩
      · rw [if_neg (fun z => c ((nJ_lt (by omega) (by omega)).mp z))]
        have ep : p = nP S := by omega
        rw [ep] at w
        refine Or.inr ⟨_, rfl, _, S2, rfl, f2, fun a ha b hb => ?_⟩
        rw [w a ha b hb]
        constructor
        · rintro ⟨x1, x2 | x2⟩
          · rw [x2]; exact ⟨ha, sees_refl (pt_cl hL ha)⟩
          · exact ⟨x1, x2.2⟩
        · rintro ⟨x1, x2⟩
          exact ⟨x1, Or.inr ⟨Or.inl ⟨ha, x1⟩, x2⟩⟩
    · rw [h1 a ha b hb, decide_eq_true_eq]
      constructor
      · intro z; rw [z]; exact ⟨ha, Or.inl rfl⟩
      · rintro ⟨-, z | z⟩
        · exact z
        · have := z.1; unfold dnp at this; omega
  obtain ⟨r, e, z, S2, rfl, w⟩ := key
  exact ⟨z, S2, e, w⟩
theorem M239_158 (hL : Ld S) {i : Nat} (hi : i < rN S 141) {S1 : ST} (f1 : Fm [150, 151, 152, 153, 154] [27, 34, 36] S S1) (h0 : S1.2 154 i = 0) : ∃ r S2, wh FU (Lm_239_158 (nJ i)) (0, S1) = some (r, S2) ∧ Fm [154] [] S1 S2 ∧ (∀ k, k ≠ i → S2.2 154 k = S1.2 154 k) ∧ ∀ q, q < 64 → (bz (S2.2 154 i) q = true ↔ ∃ p, p < nP S ∧ ge_on (rP S 141 i) (rP S 141 (ge_aft (rN S 141) i)) (pt S p) ∧ bz (S1.2 153 p) q = true) := by
  have hP := Ld_P hL
  have h12 := hL.1.1.2
  have key : ∃ r, wh FU (Lm_239_158 (nJ i)) (0, S1) = some r ∧ ∃ z S2, r = (z, S2) ∧ Fm [154] [] S1 S2 ∧ (∀ k, k ≠ i → S2.2 154 k = S1.2 154 k) ∧ ∀ q, q < 64 → (bz (S2.2 154 i) q = true ↔ ∃ p, p < nP S ∧ ge_on (rP S 141 i) (rP S 141 (ge_aft (rN S 141) i)) (pt S p) ∧ bz (S1.2 153 p) q = true) := by
    refine wh_inv (I := fun m x => ∃ p S2, p + m = nP S ∧ x = (nJ p, S2) ∧ Fm [154] [] S1 S2 ∧ (∀ k, k ≠ i → S2.2 154 k = S1.2 154 k) ∧ ∀ q, q < 64 → (bz (S2.2 154 i) q = true ↔ ∃ p', p' < p ∧ ge_on (rP S 141 i) (rP S 141 (ge_aft (rN S 141) i)) (pt S p') ∧ bz (S1.2 153 p') q = true)) ?_ FU (nP S) _ (FU_lt (by omega)) ⟨0, S1, by omega, rfl, Fm.rf, fun _ _ => rfl, fun q hq => ?_⟩
    · rintro m x ⟨p, S2, hp, rfl, f2, o2, w⟩
      have F : Fm [150, 151, 152, 153, 154] [27, 34, 36] S S2 := f1.tr (f2.wk (by simp) (by simp))
      obtain ⟨L2, eL, eP, ept⟩ := Ld_fm hL F (by decide) (by decide) (by decide) (by decide) (by decide) (by decide)
      have e141 : S2.1 141 = S.1 141 := F.row (by decide) (by decide)
      have eN : rN S2 141 = rN S 141 := rN_row e141
      have eR : ∀ k, rP S2 141 k = rP S 141 k := fun k => by unfold rP; rw [e141]
      have e153 : S2.2 153 = S1.2 153 := f2.rowL (by decide)
      unfold Lm_239_158
      dsimp only
      rw [F.fld (by decide) (by decide), hP.1]
      by_cases c : p < nP S
      · have co := pt_co L2 (p := p) (by omega)
        have hI : RI S2 141 (nJ i) := ⟨L2.1.1, i, rfl, by rw [eN]; exact hi⟩
        have on := onEdge_t L2.1.1 L2.1.2.2.1 (i := i) (by rw [eN]; exact hi) (m := 1) (by decide) (by decide) (bd_m co.2.1) (bd_m co.2.2)
        rw [one_t, ge_s_1, ge_s_1, co.1, eR, eN, eR, ept] at on
        rw [if_pos ((nJ_lt (by omega) (by omega)).mpr c), ck_t (ibd_n (by omega) (by omega)), ck_t (ibd_n (by omega) (by omega)), ck_t (ibd_n (by omega) (by omega)), nJ_ix (by omega), nJ_ix (by omega)]
        unfold F_206
        rw [ck_P hI, ob_s]
        by_cases z : ge_on (rP S 141 i) (rP S 141 (ge_aft (rN S 141) i)) (pt S p)
        · rw [if_pos (on.mpr z), ck_t (ibd_n (by omega) (by omega)), ck_t (ibd_n (by omega) (by omega)), sbn_e, nJ_succ]
          refine Or.inl ⟨_, m - 1, by omega, rfl, p + 1, _, by omega, rfl, f2.tr (Fm_l (by simp)), fun k hk => ?_, fun q hq => ?_⟩
          · rw [wL_2, if_neg (fun y => hk y.2)]; exact o2 k hk
          · rw [wL_2, if_pos ⟨rfl, rfl⟩, bz_or, Bool.or_eq_true, w q hq, e153]
            constructor
            · rintro (⟨p', a1, a2⟩ | y)
              · exact ⟨p', by omega, a2⟩
              · exact ⟨p, by omega, z, y⟩
            · rintro ⟨p', a1, a2, a3⟩
              by_cases d : p' = p
              · rw [d] at a3; exact Or.inr a3
              · exact Or.inl ⟨p', by omega, a2, a3⟩
        · rw [if_neg (fun y => z (on.mp y)), ck_t (ibd_n (by omega) (by omega)), sbn_e, nJ_succ]
          refine Or.inl ⟨_, m - 1, by omega, rfl, p + 1, _, by omega, rfl, f2.tr (Fm_l (by simp)), fun k hk => ?_, fun q hq => ?_⟩
          · rw [wL_2, if_neg (fun y => hk y.2)]; exact o2 k hk
          · rw [wL_2, if_pos ⟨rfl, rfl⟩, or_0, w q hq]
            constructor
            · rintro ⟨p', a1, a2⟩; exact ⟨p', by omega, a2⟩
            · rintro ⟨p', a1, a2, a3⟩
              by_cases d : p' = p
              · rw [d] at a2; exact absurd a2 z
              · exact ⟨p', by omega, a2, a3⟩
      · rw [if_neg (fun z => c ((nJ_lt (by omega) (by omega)).mp z))]
        have ep : p = nP S := by omega
        rw [ep] at w
        exact Or.inr ⟨_, rfl, _, S2, rfl, f2, o2, w⟩
    · rw [h0, bz_0]
      constructor
      · intro z; cases z
      · rintro ⟨p, a, -⟩; omega
  obtain ⟨r, e, z, S2, rfl, w⟩ := key
  exact ⟨z, S2, e, w⟩
theorem M239_139 (hL : Ld S) {S1 : ST} (f1 : Fm [150, 151, 152, 153, 154] [27, 34, 36] S S1) : ∃ r S2, wh FU Lm_239_139 (0, S1) = some (r, S2) ∧ Fm [154] [] S1 S2 ∧ ER S (S1.2 153) (S2.2 154) := by
  have h12 := hL.1.1.2
  have key : ∃ r, wh FU Lm_239_139 (0, S1) = some r ∧ ∃ z S2, r = (z, S2) ∧ Fm [154] [] S1 S2 ∧ ER S (S1.2 153) (S2.2 154) := by
    refine wh_inv (I := fun m x => ∃ i S2, i + m = rN S 141 ∧ x = (nJ i, S2) ∧ Fm [154] [] S1 S2 ∧ ∀ k, k < i → ∀ q, q < 64 → (bz (S2.2 154 k) q = true ↔ ∃ p, p < nP S ∧ ge_on (rP S 141 k) (rP S 141 (ge_aft (rN S 141) k)) (pt S p) ∧ bz (S1.2 153 p) q = true)) ?_ FU (rN S 141) _ (FU_lt (by omega)) ⟨0, S1, by omega, rfl, Fm.rf, fun k hk => by omega⟩
    rintro m x ⟨i, S2, hi, rfl, f2, w⟩
    have F : Fm [150, 151, 152, 153, 154] [27, 34, 36] S S2 := f1.tr (f2.wk (by simp) (by simp))
    have e141 : S2.1 141 = S.1 141 := F.row (by decide) (by decide)
    unfold Lm_239_139
    dsimp only
    rw [e141, hL.1.1.1]
    by_cases c : i < rN S 141
    · rw [if_pos ((nJ_lt (by omega) (by omega)).mpr c), ck_t (ibd_n (by omega) (by omega)), sbn_e, nJ_ix (by omega)]
      have f3 : Fm [154] [] S2 (wL S2 154 i 0) := Fm_l (by simp)
      obtain ⟨r, S3, e, f4, o4, w4⟩ := M239_158 hL c (S1 := wL S2 154 i 0) (F.tr (f3.wk (by simp) (by simp))) (by rw [wL_2, if_pos ⟨rfl, rfl⟩])
      rw [e, ob_s, nJ_succ]
      refine Or.inl ⟨_, m - 1, by omega, rfl, i + 1, S3, by omega, rfl, f2.tr (f3.tr f4), fun k hk q hq => ?_⟩
      have e153 : (wL S2 154 i 0).2 153 = S1.2 153 := (f2.tr f3).rowL (by decide)
      rw [e153] at w4
      by_cases d : k = i
      · rw [d]; exact w4 q hq
      · rw [o4 k d, wL_2, if_neg (fun y => d y.2)]
        exact w k (by omega) q hq
    · rw [if_neg (fun z => c ((nJ_lt (by omega) (by omega)).mp z))]
      have ei : i = rN S 141 := by omega
      rw [ei] at w
      exact Or.inr ⟨_, rfl, _, S2, rfl, f2, w⟩
  obtain ⟨r, e, z, S2, rfl, w⟩ := key
  exact ⟨z, S2, e, w⟩
/-- laysSight -/
theorem F239_eq (hL : Ld S) (h0 : S.1 140 27 = 0) : ∃ S', F_239 S = some ((), S') ∧ Fm [150, 151, 152, 153, 154] [27, 34, 36] S S' ∧ S'.1 140 27 = 1 ∧ S'.1 140 34 = 0 ∧ S'.1 140 36 = 0 ∧ SR S (S'.2 153) ∧ ER S (S'.2 153) (S'.2 154) := by
  have hP := Ld_P hL
  unfold F_239
  rw [if_pos h0]
  obtain ⟨S0, hS0⟩ : ∃ S0, S0 = wI (wI (wI S 140 27 1) 140 34 0) 140 36 0 := ⟨_, rfl⟩
  have f0 : Fm [150, 151, 152, 153, 154] [27, 34, 36] S S0 := by rw [hS0]; exact ((Fm_f (by simp)).tr (Fm_f (by simp))).tr (Fm_f (by simp))
  rw [← hS0]
  obtain ⟨S1, e1, f1, w1⟩ := M239_25 S0 (n := nP S) (by rw [f0.fld (by decide) (by decide)]; exact hP.1) hP.2
  rw [e1, ob_s]
  dsimp only
  have F1 := f0.tr (f1.wk (hs' := [150, 151, 152, 153, 154]) (fs' := [27, 34, 36]) (by simp) (by simp))
  obtain ⟨r2, S2, e2, f2, w2⟩ := M239_50 hL F1 w1
  rw [e2, ob_s]
  dsimp only
  have F2 := F1.tr (f2.wk (hs' := [150, 151, 152, 153, 154]) (fs' := [27, 34, 36]) (by simp) (by simp))
  obtain ⟨r3, S3, e3, f3, w3⟩ := M239_139 hL F2
  rw [e3, ob_s]
  have G : Fm [150, 151, 152, 153, 154] [] S0 S3 := (f1.wk (by simp) (by simp)).tr ((f2.wk (by simp) (by simp)).tr (f3.wk (by simp) (by simp)))
  have e153 : S3.2 153 = S2.2 153 := f3.rowL (by decide)
  refine ⟨S3, rfl, F2.tr (f3.wk (by simp) (by simp)), ?_, ?_, ?_, by rw [e153]; exact w2, by rw [e153]; exact w3⟩
  · rw [G.fld (by decide) (by decide), hS0]; simp [wI_1]
  · rw [G.fld (by decide) (by decide), hS0]; simp [wI_1]
  · rw [G.fld (by decide) (by decide), hS0]; simp [wI_1]
end Ms
