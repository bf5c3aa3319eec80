/-! witnesses on both sides: the first set in order -/
def wpk (n : Nat) (r : Nat → Int64) : Nat → Nat → Int64 → Option (List Nat)
  | 0, _, _ => some []
  | q + 1, f, t => gps (fun p => if r p &&& t = 0 then wpk n r q (p + 1) (t ||| r p) else none) f (n - f)
theorem wpk_cg {n : Nat} {r r' : Nat → Int64} (h : ∀ p, p < n → r p = r' p) : ∀ (q f : Nat) (t : Int64), wpk n r q f t = wpk n r' q f t
  | 0, f, t => rfl
  | q + 1, f, t => by
    show gps _ f (n - f) = gps _ f (n - f)
    exact gps_cg (fun p h1 h2 => by rw [h p (by omega), wpk_cg h q])
theorem and0_or {a t s : Int64} : a &&& (t ||| s) = 0 ↔ a &&& t = 0 ∧ a &&& s = 0 := by
  constructor
  · intro h
    constructor
    · apply bz_ext
      intro i hi
      have := congrArg (fun x => bz x i) h
      simp only [bz_and, bz_or, bz_0] at this
      rw [bz_and, bz_0]
      cases e : bz a i <;> cases e2 : bz t i <;> simp_all
    · apply bz_ext
      intro i hi
      have := congrArg (fun x => bz x i) h
      simp only [bz_and, bz_or, bz_0] at this
      rw [bz_and, bz_0]
      cases e : bz a i <;> cases e2 : bz s i <;> simp_all
  · rintro ⟨h1, h2⟩
    apply bz_ext
    intro i hi
    have a1 := congrArg (fun x => bz x i) h1
    have a2 := congrArg (fun x => bz x i) h2
    simp only [bz_and, bz_0] at a1 a2
    rw [bz_and, bz_or, bz_0]
    cases e : bz a i <;> cases e2 : bz t i <;> cases e3 : bz s i <;> simp_all
theorem and0_bz {a b : Int64} : a &&& b = 0 ↔ ∀ i, i < 64 → ¬ (bz a i = true ∧ bz b i = true) := by
  constructor
  · intro h i hi z
    have := congrArg (fun x => bz x i) h
    simp only [bz_and, bz_0, z.1, z.2] at this
    cases this
  · intro h
    apply bz_ext
    intro i hi
    rw [bz_and, bz_0]
    cases e : bz a i with
    | false => rfl
    | true =>
      cases e2 : bz b i with
      | false => rfl
      | true => exact absurd ⟨e, e2⟩ (h i hi)
/-- a set has as many members as places are put -/
theorem wpk_cnt {n : Nat} (h64 : n ≤ 64) {r : Nat → Int64} (x : Int64) : ∀ {q f : Nat} {t : Int64} {l : List Nat}, wpk n r q f t = some l → f ≤ n → (∀ i, f ≤ i → i < n → r i &&& t = 0 → bz x i = true) → q + rk (bz x) f ≤ rk (bz x) 64
  | 0, f, t, l, h, hf, hx => by
    have := rk_mono (bz x) (s := f) (t := 64) (by omega)
    omega
  | q + 1, f, t, l, h, hf, hx => by
    obtain ⟨p, l', -, p1, p2, p3⟩ := gps_some h
    have p3' : (if r p &&& t = 0 then wpk n r q (p + 1) (t ||| r p) else none) = some l' := p3
    by_cases z : r p &&& t = 0
    · rw [if_pos z] at p3'
      have ih := wpk_cnt h64 x p3' (by omega) (fun i i1 i2 i3 => hx i (by omega) i2 (and0_or.mp i3).1)
      have hp := hx p p1 (by omega) z
      rw [rk_s, if_pos hp] at ih
      have := rk_mono (bz x) p1
      omega
    · rw [if_neg z] at p3'; cases p3'
theorem pop_rk : ∀ (f n : Nat), pop f n = rk (fun i => n.testBit i) f
  | 0, n => rfl
  | f + 1, n => by
    have e : n = n % 2 ^ f + 2 ^ f * (n / 2 ^ f) := by rw [Nat.add_comm, Nat.div_add_mod]
    have h := pop_sp f 1 (n % 2 ^ f) (n / 2 ^ f) (Nat.mod_lt _ (Nat.two_pow_pos f))
    rw [← e] at h
    rw [h, pop_rk f (n % 2 ^ f), rk_s]
    have c : rk (fun i => (n % 2 ^ f).testBit i) f = rk (fun i => n.testBit i) f := rk_cong (fun s hs => by
      show (n % 2 ^ f).testBit s = n.testBit s
      rw [Nat.testBit_mod_two_pow, decide_eq_true hs, Bool.true_and])
    rw [c]
    show _ + ((n / 2 ^ f) % 2 + pop 0 (n / 2 ^ f / 2)) = _
    have z : pop 0 (n / 2 ^ f / 2) = 0 := rfl
    rw [z, Nat.testBit_eq_decide_div_mod_eq]
    by_cases q : n / 2 ^ f % 2 = 1
    · rw [if_pos (decide_eq_true q), q]
    · rw [if_neg (fun y => q (of_decide_eq_true y))]
      omega
theorem pn_rk (x : Int64) : pn x = rk (bz x) 64 := by
  unfold pn
  rw [pop_rk]
  exact rk_cong (fun s _ => un_bz x s)
theorem gps_skip {g : Nat → Option (List Nat)} : ∀ {k i m : Nat}, (∀ p, i ≤ p → p < i + k → g p = none) → gps g i (k + m) = gps g (i + k) m := by
  intro k
  induction k with
  | zero => intro i m _; rw [Nat.zero_add]; rfl
  | succ k ih =>
    intro i m h
    rw [show k + 1 + m = (k + m) + 1 by omega]
    show (match g i with | some l => some (i :: l) | none => gps g (i + 1) (k + m)) = _
    rw [h i (Nat.le_refl _) (by omega)]
    show gps g (i + 1) (k + m) = _
    rw [ih (fun p h1 h2 => h p (by omega) (by omega)), show i + 1 + k = i + (k + 1) by omega]
theorem gps_tail {g : Nat → Option (List Nat)} {k : Nat} : ∀ {m i : Nat}, (∀ p, i + m ≤ p → p < i + m + k → g p = none) → gps g i (m + k) = gps g i m := by
  intro m
  induction m with
  | zero =>
    intro i h
    rw [Nat.zero_add]
    exact gps_no (fun p h1 h2 => h p (by omega) (by omega))
  | succ m ih =>
    intro i h
    rw [show m + 1 + k = (m + k) + 1 by omega]
    show (match g i with | some l => some (i :: l) | none => gps g (i + 1) (m + k)) = (match g i with | some l => some (i :: l) | none => gps g (i + 1) m)
    rw [ih (fun p h1 h2 => h p (by omega) (by omega))]
section Mw
variable {S : ST}
/-- the reference's search -/
theorem F266_eq (h : MS S) : ∀ (fl q place many f : Nat) (t : Int64) (S1 : ST), place + q = many → many ≤ 4 → q < fl → f ≤ nP S → Fm [160] [] S S1 → ∃ S2, F_266 fl (nJ place) (nJ many) (nJ f) t S1 = some ((wpk (nP S) (S.2 153) q f t).isSome, S2) ∧ Fm [160] [] S1 S2 ∧ pk S1 S2 160 place (wpk (nP S) (S.2 153) q f t) := by
  have hP := Ld_P h.1
  intro fl
  induction fl with
  | zero => intro q place many f t S1 h1 h2 h3; omega
  | succ fl ih =>
    intro q place many f t S1 h1 h2 h3 hf f1
    show ∃ S2, B_266 (F_266 fl) (nJ place) (nJ many) (nJ f) t S1 = _ ∧ _
    unfold B_266
    match q with
    | 0 =>
      rw [if_pos (show nJ place = nJ many by rw [show place = many by omega])]
      refine ⟨S1, rfl, Fm.rf, fun j hj => rfl, fun l hl j x hx => ?_⟩
      have hl' : (some [] : Option (List Nat)) = some l := hl
      cases hl'
      cases hx
    | q + 1 =>
      rw [if_neg (fun z => by have := (nJ_eq (by omega) (by omega)).mp z; omega)]
      have gen : ∀ (fu m p : Nat) (S2 : ST), m < fu → p + m = nP S → Fm [160] [] S1 S2 → (∀ j, j < place → S2.1 160 j = S1.1 160 j) → ∃ z, wh fu (Lm_266_10 (F_266 fl) (nJ place) (nJ many) (nJ f) t) (nJ p, S2) = some z ∧ ∃ S3, Fm [160] [] S1 S3 ∧ pk S1 S3 160 place (gps (fun p => if S.2 153 p &&& t = 0 then wpk (nP S) (S.2 153) q (p + 1) (t ||| S.2 153 p) else none) p m) ∧ ((gps (fun p => if S.2 153 p &&& t = 0 then wpk (nP S) (S.2 153) q (p + 1) (t ||| S.2 153 p) else none) p m = none ∧ ∃ y, z = .inl (y, S3)) ∨ ((gps (fun p => if S.2 153 p &&& t = 0 then wpk (nP S) (S.2 153) q (p + 1) (t ||| S.2 153 p) else none) p m).isSome = true ∧ z = .inr (true, S3))) := by
        intro fu
        induction fu with
        | zero => intro m p S2 h; omega
        | succ fu ihf =>
          intro m p S2 hm hp f2 w
          have F := f1.tr f2
          unfold wh
          match m with
          | 0 =>
            have e : Lm_266_10 (F_266 fl) (nJ place) (nJ many) (nJ f) t (nJ p, S2) = some (.inr (.inl (nJ p, S2))) := by
              unfold Lm_266_10
              dsimp only
              rw [F.fld (by decide) (by decide), hP.1, if_neg (fun z => by have := (nJ_lt (by omega) (by omega)).mp z; omega)]
            rw [e]
            exact ⟨_, rfl, S2, f2, ⟨w, fun l hl => by cases hl⟩, Or.inl ⟨rfl, _, rfl⟩⟩
          | m + 1 =>
            have e153 : S2.2 153 = S.2 153 := F.rowL (by decide)
            have nx : ∀ (a : Option (List Nat)), a = none → gps (fun p => if S.2 153 p &&& t = 0 then wpk (nP S) (S.2 153) q (p + 1) (t ||| S.2 153 p) else none) p (m + 1) = (match (if S.2 153 p &&& t = 0 then wpk (nP S) (S.2 153) q (p + 1) (t ||| S.2 153 p) else none : Option (List Nat)) with | some l => some (p :: l) | none => gps (fun p => if S.2 153 p &&& t = 0 then wpk (nP S) (S.2 153) q (p + 1) (t ||| S.2 153 p) else none) (p + 1) m) := fun _ _ => rfl
            by_cases fr : S.2 153 p &&& t = 0
            · obtain ⟨S3, e3, f3, p3⟩ := ih q (place + 1) many (p + 1) (t ||| S.2 153 p) (wI S2 160 place (nJ p)) (by omega) h2 (by omega) (by omega) (F.tr (Fm_a (by simp)))
              have e : Lm_266_10 (F_266 fl) (nJ place) (nJ many) (nJ f) t (nJ p, S2) = if (wpk (nP S) (S.2 153) q (p + 1) (t ||| S.2 153 p)).isSome = true then some (.inr (.inr (true, S3))) else some (.inl (nJ (p + 1), S3)) := by
                unfold Lm_266_10
                dsimp only
                rw [F.fld (by decide) (by decide), hP.1, if_pos ((nJ_lt (by omega) (by omega)).mpr (by omega)), ck_t (ibd_n (by omega) (by omega)), nJ_ix (by omega), e153, if_pos fr, ck_t (ibd_n (by omega) (by omega)), sbn_e, ck_t (ibd_n (by omega) (by omega)), nJ_ix (by omega), nJ_succ, nJ_succ]
                rw [show (wI S2 160 place (nJ p)).2 153 p = S.2 153 p by rw [wI_2, e153], e3, ob_s]
              rw [e]
              have pk3 : ∀ j, j < place → S3.1 160 j = S1.1 160 j := fun j hj => by
                rw [p3.1 j (by omega), wI_1, if_neg (by omega)]; exact w j hj
              have F3 : Fm [160] [] S1 S3 := f2.tr ((Fm_a (by simp)).tr f3)
              cases eg : wpk (nP S) (S.2 153) q (p + 1) (t ||| S.2 153 p) with
              | some l' =>
                rw [if_pos (show (some l').isSome = true from rfl)]
                have eg2 := nx none rfl
                rw [if_pos fr, eg] at eg2
                refine ⟨_, rfl, S3, F3, ⟨pk3, fun l hl j x hx => ?_⟩, Or.inr ⟨by rw [eg2]; rfl, rfl⟩⟩
                rw [eg2] at hl
                cases hl
                match j, hx with
                | 0, hx =>
                  have : p = x := by simpa using hx
                  rw [← this, p3.1 (place + 0) (by omega), wI_1, if_pos ⟨rfl, rfl⟩]
                | j + 1, hx =>
                  have := p3.2 l' eg j x (by simpa using hx)
                  rw [show place + (j + 1) = place + 1 + j by omega]
                  exact this
              | none =>
                rw [if_neg (by decide)]
                have eg2 := nx none rfl
                rw [if_pos fr, eg] at eg2
                rw [eg2]
                exact ihf m (p + 1) S3 (by omega) (by omega) F3 pk3
            · have e : Lm_266_10 (F_266 fl) (nJ place) (nJ many) (nJ f) t (nJ p, S2) = some (.inl (nJ (p + 1), S2)) := by
                unfold Lm_266_10
                dsimp only
                rw [F.fld (by decide) (by decide), hP.1, if_pos ((nJ_lt (by omega) (by omega)).mpr (by omega)), ck_t (ibd_n (by omega) (by omega)), nJ_ix (by omega), e153, if_neg fr, nJ_succ]
              rw [e]
              have eg2 := nx none rfl
              rw [if_neg fr] at eg2
              rw [eg2]
              exact ihf m (p + 1) S2 (by omega) (by omega) f2 w
      obtain ⟨z, ez, S3, f3, p3, w3⟩ := gen FU (nP S - f) f S1 (FU_lt (by omega)) (by omega) Fm.rf (fun _ _ => rfl)
      rw [ez, ob_s]
      rcases w3 with ⟨a, y, rfl⟩ | ⟨a, rfl⟩
      · refine ⟨S3, ?_, f3, p3⟩
        show some (false, S3) = some ((gps _ f (nP S - f)).isSome, S3)
        rw [a]; rfl
      · refine ⟨S3, ?_, f3, p3⟩
        show some (true, S3) = some ((gps _ f (nP S - f)).isSome, S3)
        rw [a]
/-- the number and the set -/
def wN (n : Nat) (r : Nat → Int64) (g : Nat) (l : List Nat) : Prop := 1 ≤ g ∧ g ≤ 4 ∧ wpk n r g 0 0 = some l ∧ ∀ j, g < j → j ≤ 4 → wpk n r j 0 0 = none
theorem wN_u {n : Nat} {r : Nat → Int64} {g g' : Nat} {l l' : List Nat} (h : wN n r g l) (h' : wN n r g' l') : g = g' ∧ l = l' := by
  have e : g = g' := by
    rcases Nat.lt_trichotomy g g' with z | z | z
    · have := h.2.2.2 g' z h'.2.1; rw [h'.2.2.1] at this; cases this
    · exact z
    · have := h'.2.2.2 g z h.2.1; rw [h.2.2.1] at this; cases this
  subst e
  have := h.2.2.1
  rw [h'.2.2.1] at this
  cases this
  exact ⟨rfl, rfl⟩
theorem wN_ex {n : Nat} (hn : 1 ≤ n) (r : Nat → Int64) : ∃ g l, wN n r g l := by
  have h1 : (wpk n r 1 0 0).isSome = true := by
    show (gps (fun p => if r p &&& 0 = 0 then wpk n r 0 (p + 1) (0 ||| r p) else none) 0 (n - 0)).isSome = true
    rw [show n - 0 = (n - 1) + 1 by omega]
    show (match (if r 0 &&& 0 = 0 then some [] else none : Option (List Nat)) with | some l => some (0 :: l) | none => _).isSome = true
    rw [if_pos (and0_bz.mpr (fun i _ z => by rw [bz_0] at z; cases z.2))]
    rfl
  obtain ⟨k, k1, k2, k3⟩ := least_ex (P := fun k => k ≤ 3 ∧ (wpk n r (4 - k) 0 0).isSome = true) 3 ⟨by omega, h1⟩
  obtain ⟨l, el⟩ := Option.isSome_iff_exists.mp k2.2
  refine ⟨4 - k, l, by omega, by omega, el, fun j h1 h2 => ?_⟩
  cases e : wpk n r j 0 0 with
  | none => rfl
  | some l' => exact absurd ⟨by omega, by rw [show 4 - (4 - j) = j by omega, e]; rfl⟩ (k3 (4 - j) (by omega))
theorem M267_14 (h : MS S) {g : Nat} {l : List Nat} (hg : wN (nP S) (S.2 153) g l) : ∃ S', wh FU Lm_267_14 (4, S) = some (nJ g, S') ∧ Fm [160] [] S S' ∧ ∀ j x, l[j]? = some x → S'.1 160 j = nJ x := by
  have hP := Ld_P h.1
  have g1 := hg.1
  have g4 := hg.2.1
  have key : ∃ r, wh FU Lm_267_14 (nJ 4, S) = some r ∧ ∃ S', r = (nJ g, S') ∧ Fm [160] [] S S' ∧ ∀ j x, l[j]? = some x → S'.1 160 j = nJ x := by
    refine wh_inv (I := fun m x => ∃ i S', i = g + m ∧ i ≤ 4 ∧ x = (nJ i, S') ∧ Fm [160] [] S S') ?_ FU (4 - g) _ (FU_lt (by omega)) ⟨4, S, by omega, by omega, rfl, Fm.rf⟩
    rintro m x ⟨i, S1, hi, i4, rfl, f1⟩
    unfold Lm_267_14
    dsimp only
    obtain ⟨S2, e2, f2, p2⟩ := F266_eq h 6 i 0 i 0 0 S1 (by omega) (by omega) (by omega) (by omega) f1
    rw [show ((0 : Int32)) = nJ 0 from rfl, e2, ob_s]
    by_cases c : i = g
    · rw [c, hg.2.2.1] at p2 ⊢
      rw [if_pos (show ((some l).isSome, S2).1 = true from rfl)]
      refine Or.inr ⟨_, rfl, S2, rfl, f1.tr f2, fun j x hx => ?_⟩
      have := p2.2 l rfl j x hx
      rw [Nat.zero_add] at this
      exact this
    · rw [hg.2.2.2 i (by omega) i4, if_neg (show ¬ ((none : Option (List Nat)).isSome, S2).1 = true from Bool.false_ne_true), nJ_dec (by omega)]
      exact Or.inl ⟨_, m - 1, by omega, rfl, i - 1, S2, by omega, by omega, rfl, f1.tr f2⟩
  obtain ⟨r, e, S', rfl, w⟩ := key
  exact ⟨S', e, w⟩
end Mw
section Cw
variable {S M : ST}
/-- points that share a viewer -/
theorem C81_14 (h : CSz S M) : ∃ z S', wh FU L_81_14 (0, S) = some (z, S') ∧ Fp (fun a => a = 44) S S' ∧ ∀ p, p < 64 → S'.2 44 p = uni (nP M) (S.2 31) (S.2 31 p) := by
  have key : ∃ r, wh FU L_81_14 (nJ 0, S) = some r ∧ ∃ z S', r = (z, S') ∧ Fp (fun a => a = 44) S S' ∧ ∀ p, p < 64 → S'.2 44 p = uni (nP M) (S.2 31) (S.2 31 p) := by
    refine wh_inv (I := fun m x => ∃ i S', i + m = 64 ∧ x = (nJ i, S') ∧ Fp (fun a => a = 44) S S' ∧ ∀ p, p < i → S'.2 44 p = uni (nP M) (S.2 31) (S.2 31 p)) ?_ FU 64 _ (FU_lt (by omega)) ⟨0, S, by omega, rfl, Fp.rf, fun p hp => by omega⟩
    rintro m x ⟨i, S1, hi, rfl, f1, w⟩
    have h1 := CS_fp h f1 (fun a ha => by unfold cxC at ha; omega)
    have e31 : S1.2 31 = S.2 31 := (f1 31 (by decide)).2
    unfold L_81_14
    dsimp only
    by_cases c : i < 64
    · rw [if_pos (show nJ i < 64 from (nJ_lt (j := 64) (by omega) (by omega)).mpr c), F73_eq S1 c, ob_s, F74_cs h1, ob_s, ck_t (ibd_n (by omega) (by omega)), sbn_e, nJ_ix (by omega), nJ_succ, e31]
      refine Or.inl ⟨_, m - 1, by omega, rfl, i + 1, _, by omega, rfl, f1.tr (Fp_L rfl), fun p hp => ?_⟩
      rw [wL_2]
      by_cases d : p = i
      · rw [if_pos ⟨rfl, d⟩, d]
      · rw [if_neg (fun y => d y.2)]; exact w p (by omega)
    · rw [if_neg (show ¬ nJ i < 64 from fun z => c ((nJ_lt (j := 64) (by omega) (by omega)).mp z))]
      exact Or.inr ⟨_, rfl, _, S1, rfl, f1, fun p hp => w p (by omega)⟩
  obtain ⟨r, e, z, S', rfl, w⟩ := key
  exact ⟨z, S', e, w⟩
theorem SR_symm {r : Nat → Int64} (h64 : nP M ≤ 64) (h : SR M r) {p q : Nat} (hp : p < nP M) (hq : q < nP M) : bz (r p) q = bz (r q) p := by
  rw [Bool.eq_iff_iff, h p hp q (by omega), h q hq p (by omega)]
  exact ⟨fun z => ⟨hp, ge_sees_symm z.2⟩, fun z => ⟨hq, ge_sees_symm z.2⟩⟩
theorem share_iff {r : Nat → Int64} (h64 : nP M ≤ 64) (h : SR M r) {p i : Nat} (hp : p < nP M) (hi : i < nP M) : bz (uni (nP M) r (r p)) i = true ↔ ¬ r i &&& r p = 0 := by
  rw [uni_bz, and0_bz]
  constructor
  · rintro ⟨x, x1, x2, x3⟩ z
    exact z x (by omega) ⟨by rw [SR_symm h64 h hi x1]; exact x3, x2⟩
  · intro z
    apply Classical.byContradiction
    intro hn
    refine z (fun x hx y => hn ⟨x, ?_, y.2, ?_⟩)
    · exact ((h p hp x hx).mp y.2).1
    · have x1 := ((h p hp x hx).mp y.2).1
      rw [SR_symm h64 h x1 hi]; exact y.1
theorem C83_eq (h : CSz S M) (h44 : ∀ p, p < 64 → S.2 44 p = uni (nP M) (S.2 31) (S.2 31 p)) : ∀ (fl q d size f : Nat) (t op : Int64) (S1 : ST), 1 ≤ q → d + q = size → size ≤ 4 → q ≤ fl → f ≤ nP M → (∀ i, i < 64 → (bz op i = true ↔ f ≤ i ∧ i < nP M ∧ S.2 31 i &&& t = 0)) → Fp (fun a => a = 45) S S1 → ∃ S2, F_83 fl op (nJ size) (nJ d) S1 = some ((wpk (nP M) (S.2 31) q f t).isSome, S2) ∧ Fp (fun a => a = 45) S1 S2 ∧ pk S1 S2 45 d (wpk (nP M) (S.2 31) q f t) := by
  have h64 := h.1.2.2.2.2.1
  intro fl
  induction fl with
  | zero => intro q d size f t op S1 h0 h1 h2 h3; omega
  | succ fl ih =>
    intro q d size f t op S1 h0 h1 h2 h3 hf ho f1
    show ∃ S2, B_83 (F_83 fl) op (nJ size) (nJ d) S1 = _ ∧ _
    unfold B_83
    rw [if_pos ((nJ_lt (by omega) (by omega)).mpr (show d < size by omega)), if_pos (show nJ d < 4 from (nJ_lt (j := 4) (by omega) (by omega)).mpr (by omega))]
    obtain ⟨q', hq'⟩ : ∃ q', q = q' + 1 := ⟨q - 1, by omega⟩
    subst hq'
    obtain ⟨G, hG⟩ : ∃ G : Nat → Option (List Nat), G = fun p => if S.2 31 p &&& t = 0 then wpk (nP M) (S.2 31) q' (p + 1) (t ||| S.2 31 p) else none := ⟨_, rfl⟩
    obtain ⟨g, hg⟩ : ∃ g : Nat → Option (List Nat), g = fun p => if bz op p = true then wpk (nP M) (S.2 31) q' (p + 1) (t ||| S.2 31 p) else none := ⟨_, rfl⟩
    have egG : gps g 0 64 = wpk (nP M) (S.2 31) (q' + 1) f t := by
      show _ = gps (fun p => if S.2 31 p &&& t = 0 then wpk (nP M) (S.2 31) q' (p + 1) (t ||| S.2 31 p) else none) f (nP M - f)
      rw [← hG, show (64 : Nat) = f + (64 - f) by omega, gps_skip (fun p h1 h2 => ?_), Nat.zero_add, show 64 - f = (nP M - f) + (64 - nP M) by omega, gps_tail (fun p h1 h2 => ?_)]
      · refine gps_cg (fun p h1 h2 => ?_)
        rw [hg, hG]
        show (if bz op p = true then _ else _) = (if S.2 31 p &&& t = 0 then _ else _)
        by_cases z : S.2 31 p &&& t = 0
        · rw [if_pos z, if_pos ((ho p (by omega)).mpr ⟨h1, by omega, z⟩)]
        · rw [if_neg z, if_neg (fun y => z ((ho p (by omega)).mp y).2.2)]
      · rw [hg]
        show (if bz op p = true then _ else _) = none
        rw [if_neg (fun y => by have := ((ho p (by omega)).mp y).2.1; omega)]
      · rw [hg]
        show (if bz op p = true then _ else _) = none
        rw [if_neg (fun y => by have := ((ho p (by omega)).mp y).1; omega)]
    have gen : ∀ (fu m p : Nat) (rest : Int64) (S2 : ST), m < fu → p + m = 64 → (∀ i, i < 64 → (bz rest i = true ↔ p ≤ i ∧ bz op i = true)) → Fp (fun a => a = 45) S1 S2 → (∀ j, j < d → S2.1 45 j = S1.1 45 j) → ∃ z, wh fu (L_83_20 (F_83 fl) op (nJ size) (nJ d)) (rest, nJ p, S2) = some z ∧ ∃ S3, Fp (fun a => a = 45) S1 S3 ∧ pk S1 S3 45 d (gps g p m) ∧ ((gps g p m = none ∧ ((∃ y y2, z = .inl (y, y2, S3)) ∨ z = .inr (false, S3))) ∨ ((gps g p m).isSome = true ∧ z = .inr (true, S3))) := by
      intro fu
      induction fu with
      | zero => intro m p rest S2 h; omega
      | succ fu ihf =>
        intro m p rest S2 hm hp hr f2 w
        have F := f1.tr f2
        unfold wh
        match m with
        | 0 =>
          have e : L_83_20 (F_83 fl) op (nJ size) (nJ d) (rest, nJ p, S2) = some (.inr (.inl (rest, nJ p, S2))) := by
            unfold L_83_20
            dsimp only
            rw [if_neg (show ¬ nJ p < 64 from fun z => by have := (nJ_lt (j := 64) (by omega) (by omega)).mp z; omega)]
          rw [e]
          exact ⟨_, rfl, S2, f2, ⟨w, fun l hl => by cases hl⟩, Or.inl ⟨rfl, Or.inl ⟨_, _, rfl⟩⟩⟩
        | m + 1 =>
          have nx : gps g p (m + 1) = (match g p with | some l => some (p :: l) | none => gps g (p + 1) m) := rfl
          by_cases hb : bz op p = true
          · have hrp : bz rest p = true := (hr p (by omega)).mpr ⟨Nat.le_refl _, hb⟩
            obtain ⟨o1, o2, o3⟩ := (ho p (by omega)).mp hb
            have egp : g p = wpk (nP M) (S.2 31) q' (p + 1) (t ||| S.2 31 p) := by rw [hg]; show (if bz op p = true then _ else _) = _; rw [if_pos hb]
            by_cases few : F_366 rest < nJ size - nJ d
            · -- too few are left
              have e : L_83_20 (F_83 fl) op (nJ size) (nJ d) (rest, nJ p, S2) = some (.inr (.inr (false, S2))) := by
                unfold L_83_20
                dsimp only
                rw [if_pos (show nJ p < 64 from (nJ_lt (j := 64) (by omega) (by omega)).mpr (by omega)), has177 _ (by omega), if_pos hrp, if_pos few]
              rw [e]
              have no : gps g p (m + 1) = none := by
                cases eg : gps g p (m + 1) with
                | none => rfl
                | some l =>
                  exfalso
                  obtain ⟨p', l', -, a1, a2, a3⟩ := gps_some eg
                  rw [hg] at a3
                  have a3' : (if bz op p' = true then wpk (nP M) (S.2 31) q' (p' + 1) (t ||| S.2 31 p') else none) = some l' := a3
                  by_cases y : bz op p' = true
                  · rw [if_pos y] at a3'
                    obtain ⟨y1, y2, y3⟩ := (ho p' (by omega)).mp y
                    have cnt := wpk_cnt h64 rest a3' (by omega) (fun i i1 i2 i3 => (hr i (by omega)).mpr ⟨by omega, (ho i (by omega)).mpr ⟨by omega, i2, (and0_or.mp i3).1⟩⟩)
                    rw [rk_s, if_pos ((hr p' (by omega)).mpr ⟨a1, y⟩)] at cnt
                    rw [F366_t, pn_rk, nJ_sub (by omega)] at few
                    have := (nJ_lt (by have := rk_le (bz rest) 64; omega) (by omega)).mp few
                    omega
                  · rw [if_neg y] at a3'; cases a3'
              rw [no]
              exact ⟨_, rfl, S2, f2, ⟨w, fun l hl => by cases hl⟩, Or.inl ⟨rfl, Or.inr rfl⟩⟩
            · have f4 : Fp (fun a => a = 45) S1 (wI S2 45 d (nJ p)) := f2.tr (Fp_I rfl)
              have w4 : ∀ j, j < d → (wI S2 45 d (nJ p)).1 45 j = S1.1 45 j := fun j hj => by rw [wI_1, if_neg (by omega)]; exact w j hj
              have hr' : ∀ i, i < 64 → (bz (rest &&& (bt p ^^^ (-1))) i = true ↔ p + 1 ≤ i ∧ bz op i = true) := fun i hi => by
                rw [bz_and, bz_not _ hi, bt_bz (by omega), Bool.and_eq_true, hr i hi, Bool.not_eq_true', decide_eq_false_iff_not]
                constructor
                · rintro ⟨⟨y1, y2⟩, y3⟩; exact ⟨by omega, y2⟩
                · rintro ⟨y1, y2⟩; exact ⟨⟨by omega, y2⟩, by omega⟩
              have pre : L_83_20 (F_83 fl) op (nJ size) (nJ d) (rest, nJ p, S2) = if nJ (d + 1) = nJ size then some (.inr (.inr (true, wI S2 45 d (nJ p)))) else ob (F_83 fl ((rest &&& (bt p ^^^ (-1))) &&& (S.2 44 p ^^^ (-1))) (nJ size) (nJ (d + 1)) (wI S2 45 d (nJ p))) (fun w1 => if w1.1 = true then some (.inr (.inr (true, w1.2))) else some (.inl (rest &&& (bt p ^^^ (-1)), nJ (p + 1), w1.2))) := by
                have e44 : S2.2 44 = S.2 44 := (F 44 (by decide)).2
                unfold L_83_20
                dsimp only
                rw [if_pos (show nJ p < 64 from (nJ_lt (j := 64) (by omega) (by omega)).mpr (by omega)), has177 _ (by omega), if_pos hrp, if_neg few, ck_t (ibd_n (by omega) (by omega)), sbn_e, nJ_ix (by omega), nJ_succ, nJ_succ, ck_t (ibd_n (by omega) (by omega)), nJ_ix (by omega), wI_2, e44]
                rfl
              rw [pre]
              by_cases last : d + 1 = size
              · have q0 : q' = 0 := by omega
                subst q0
                rw [if_pos (by rw [last])]
                have eg2 : gps g p (m + 1) = some [p] := by rw [nx, egp]; rfl
                refine ⟨_, rfl, _, f4, ⟨w4, fun l hl j x hx => ?_⟩, Or.inr ⟨by rw [eg2]; rfl, rfl⟩⟩
                rw [eg2] at hl
                cases hl
                match j, hx with
                | 0, hx =>
                  have : p = x := by simpa using hx
                  rw [← this, wI_1, if_pos ⟨rfl, rfl⟩]
                | j + 1, hx => simp at hx
              · rw [if_neg (fun z => last ((nJ_eq (by omega) (by omega)).mp z))]
                obtain ⟨S3, e3, f3, p3⟩ := ih q' (d + 1) size (p + 1) (t ||| S.2 31 p) ((rest &&& (bt p ^^^ (-1))) &&& (S.2 44 p ^^^ (-1))) (wI S2 45 d (nJ p)) (by omega) (by omega) h2 (by omega) (by omega) (fun i hi => by
                  rw [bz_and, Bool.and_eq_true, hr' i hi, bz_not _ hi, h44 p (by omega), Bool.not_eq_true', ho i hi]
                  constructor
                  · rintro ⟨⟨y1, y2, y3, y4⟩, y5⟩
                    refine ⟨y1, y3, and0_or.mpr ⟨y4, ?_⟩⟩
                    apply Classical.byContradiction
                    intro hn
                    rw [(share_iff h64 h.2.1 o2 y3).mpr hn] at y5
                    cases y5
                  · rintro ⟨y1, y2, y3⟩
                    obtain ⟨y4, y5⟩ := and0_or.mp y3
                    refine ⟨⟨y1, by omega, y2, y4⟩, ?_⟩
                    cases e5 : bz (uni (nP M) (S.2 31) (S.2 31 p)) i with
                    | false => rfl
                    | true => exact absurd y5 ((share_iff h64 h.2.1 o2 y2).mp e5)) (f1.tr f4)
                rw [e3, ob_s]
                have w5 : ∀ j, j < d → S3.1 45 j = S1.1 45 j := fun j hj => by rw [p3.1 j (by omega)]; exact w4 j hj
                cases eg : wpk (nP M) (S.2 31) q' (p + 1) (t ||| S.2 31 p) with
                | some l' =>
                  have eg2 : gps g p (m + 1) = some (p :: l') := by rw [nx, egp, eg]
                  refine ⟨_, rfl, S3, f4.tr f3, ⟨w5, fun l hl j x hx => ?_⟩, Or.inr ⟨by rw [eg2]; rfl, rfl⟩⟩
                  rw [eg2] at hl
                  cases hl
                  match j, hx with
                  | 0, hx =>
                    have : p = x := by simpa using hx
                    rw [← this, p3.1 (d + 0) (by omega), wI_1, if_pos ⟨rfl, rfl⟩]
                  | j + 1, hx =>
                    have := p3.2 l' eg j x (by simpa using hx)
                    rw [show d + (j + 1) = d + 1 + j by omega]
                    exact this
                | none =>
                  have eg2 : gps g p (m + 1) = gps g (p + 1) m := by rw [nx, egp, eg]
                  rw [eg2]
                  exact ihf m (p + 1) _ S3 (by omega) (by omega) hr' (f4.tr f3) w5
          · have hrp : bz rest p = false := by
              cases e : bz rest p with
              | false => rfl
              | true => exact absurd ((hr p (by omega)).mp e).2 hb
            have e : L_83_20 (F_83 fl) op (nJ size) (nJ d) (rest, nJ p, S2) = some (.inl (rest, nJ (p + 1), S2)) := by
              unfold L_83_20
              dsimp only
              rw [if_pos (show nJ p < 64 from (nJ_lt (j := 64) (by omega) (by omega)).mpr (by omega)), has177 _ (by omega), hrp, if_neg (by decide), nJ_succ]
            rw [e]
            have eg2 : gps g p (m + 1) = gps g (p + 1) m := by
              rw [nx, hg]
              show (match (if bz op p = true then _ else none) with | some l => some (p :: l) | none => _) = _
              rw [if_neg hb]
            rw [eg2]
            refine ihf m (p + 1) rest S2 (by omega) (by omega) (fun i hi => ?_) f2 w
            rw [hr i hi]
            constructor
            · rintro ⟨y1, y2⟩
              refine ⟨?_, y2⟩
              by_cases y : i = p
              · rw [y] at y2; exact absurd y2 hb
              · omega
            · rintro ⟨y1, y2⟩; exact ⟨by omega, y2⟩
    obtain ⟨z, ez, S3, f3, p3, w3⟩ := gen FU 64 0 op S1 (FU_lt (by omega)) (by omega) (fun i hi => ⟨fun y => ⟨Nat.zero_le _, y⟩, fun y => y.2⟩) Fp.rf (fun _ _ => rfl)
    rw [egG] at p3 w3
    rw [show (op, (0 : Int32), S1) = (op, nJ 0, S1) from rfl, ez, ob_s]
    rcases w3 with ⟨a, ⟨y, y2, rfl⟩ | rfl⟩ | ⟨a, rfl⟩
    · exact ⟨S3, by rw [a]; rfl, f3, p3⟩
    · exact ⟨S3, by rw [a]; rfl, f3, p3⟩
    · exact ⟨S3, by rw [a]; rfl, f3, p3⟩
/-- mostWitnesses, not known yet -/
theorem F81_eq (h : CSz S M) (h0 : S.1 43 3 = 0) {g : Nat} {l : List Nat} (hg : wN (nP M) (S.2 31) g l) : ∃ S', F_81 S = some (nJ g, S') ∧ Fp (fun a => a = 43 ∨ a = 44 ∨ a = 45) S S' ∧ (∀ k, k ≠ 3 → S'.1 43 k = S.1 43 k) ∧ S'.1 43 3 = nJ g ∧ ∀ j x, l[j]? = some x → S'.1 45 j = nJ x := by
  have h64 := h.1.2.2.2.2.1
  have g1 := hg.1
  have g4 := hg.2.1
  unfold F_81
  rw [if_pos h0]
  obtain ⟨z, S1, e1, f1, w1⟩ := C81_14 h
  rw [e1, ob_s]
  dsimp only
  have h1 := CS_fp h f1 (fun a ha => by unfold cxC at ha; omega)
  have e31 : S1.2 31 = S.2 31 := (f1 31 (by decide)).2
  have e43 : S1.1 43 = S.1 43 := (f1 43 (by decide)).1
  rw [← e31] at w1
  have key : ∃ r, wh FU L_81_49 (nJ 4, S1) = some r ∧ ∃ z S', r = (z, S') ∧ Fp (fun a => a = 43 ∨ a = 45) S1 S' ∧ (∀ k, k ≠ 3 → S'.1 43 k = S1.1 43 k) ∧ S'.1 43 3 = nJ g ∧ ∀ j x, l[j]? = some x → S'.1 45 j = nJ x := by
    refine wh_inv (I := fun m x => ∃ i S', m = i ∧ i ≤ 4 ∧ x = (nJ i, S') ∧ Fp (fun a => a = 43 ∨ a = 45) S1 S' ∧ (∀ k, k ≠ 3 → S'.1 43 k = S1.1 43 k) ∧ ((g ≤ i ∧ S'.1 43 3 = 0 ∧ Fp (fun a => a = 45) S1 S') ∨ (i + 1 = g ∧ S'.1 43 3 = nJ g ∧ ∀ j x, l[j]? = some x → S'.1 45 j = nJ x))) ?_ FU 4 _ (FU_lt (by omega)) ⟨4, S1, rfl, by omega, rfl, Fp.rf, fun _ _ => rfl, Or.inl ⟨g4, by rw [e43]; exact h0, Fp.rf⟩⟩
    rintro m x ⟨i, S2, hi, i4, rfl, f2, k2, w⟩
    unfold L_81_49
    dsimp only
    rcases w with ⟨a1, a2, a3⟩ | ⟨a1, a2, a3⟩
    · have h2 := CS_fp h1 a3 (fun a ha => by unfold cxC at ha; omega)
      rw [if_neg (show ¬ nJ i < 1 from fun z => by have := (nJ_lt (j := 1) (by omega) (by omega)).mp z; omega), if_pos a2, show F_71 S2 = aL (nP M) from F21_eq h2.1]
      obtain ⟨S3, e3, f3, p3⟩ := C83_eq h1 w1 6 i 0 i 0 0 (aL (nP M)) S2 (by omega) (by omega) (by omega) (by omega) (by omega) (fun j hj => by
        rw [aL_bz h64 hj, decide_eq_true_eq]
        exact ⟨fun y => ⟨Nat.zero_le _, y, and0_bz.mpr (fun i _ z => by rw [bz_0] at z; cases z.2)⟩, fun y => y.2.1⟩) a3
      rw [e31] at e3 p3
      rw [show ((0 : Int32)) = nJ 0 from rfl, e3, ob_s]
      by_cases c : i = g
      · rw [c, hg.2.2.1] at p3 ⊢
        rw [if_pos (show ((some l).isSome, S3).1 = true from rfl), nJ_dec g1]
        refine Or.inl ⟨_, m - 1, by omega, rfl, g - 1, _, by omega, by omega, rfl, f2.tr ((f3.wk (fun x hx => Or.inr hx)).tr (Fp_I (Or.inl rfl))), fun k hk => ?_, Or.inr ⟨by omega, by rw [wI_1, if_pos ⟨rfl, rfl⟩], fun j x hx => ?_⟩⟩
        · rw [wI_1, if_neg (fun y => hk y.2), (f3 43 (by decide)).1]; exact k2 k hk
        · have := p3.2 l rfl j x hx
          rw [Nat.zero_add] at this
          rw [wI_1, if_neg (by omega)]
          exact this
      · rw [hg.2.2.2 i (by omega) i4, if_neg (show ¬ ((none : Option (List Nat)).isSome, S3).1 = true from Bool.false_ne_true), nJ_dec (by omega)]
        exact Or.inl ⟨_, m - 1, by omega, rfl, i - 1, S3, by omega, by omega, rfl, f2.tr (f3.wk (fun x hx => Or.inr hx)), fun k hk => by rw [(f3 43 (by decide)).1]; exact k2 k hk, Or.inl ⟨by omega, by rw [(f3 43 (by decide)).1]; exact a2, a3.tr f3⟩⟩
    · by_cases c : i < 1
      · rw [if_pos (show nJ i < 1 from (nJ_lt (j := 1) (by omega) (by omega)).mpr c)]
        exact Or.inr ⟨_, rfl, _, S2, rfl, f2, k2, a2, a3⟩
      · rw [if_neg (show ¬ nJ i < 1 from fun z => c ((nJ_lt (j := 1) (by omega) (by omega)).mp z)), a2, if_neg (fun z => by have := (nJ_eq (i := g) (j := 0) (by omega) (by omega)).mp z; omega)]
        exact Or.inr ⟨_, rfl, _, S2, rfl, f2, k2, a2, a3⟩
  obtain ⟨r, e2, z2, S2, rfl, f2, k2, a2, a3⟩ := key
  rw [show ((4 : Int32), S1) = (nJ 4, S1) from rfl, e2, ob_s]
  dsimp only
  refine ⟨S2, by rw [a2], (f1.wk (fun x hx => Or.inr (Or.inl hx))).tr (f2.wk (fun x hx => by omega)), fun k hk => by rw [k2 k hk, e43], a2, a3⟩
end Cw
