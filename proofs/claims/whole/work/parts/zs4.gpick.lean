/-! the fewest points that see all, on both sides: the first set in order -/
/-- the first place from i on, m long, that has a rest -/
def gps (g : Nat → Option (List Nat)) : Nat → Nat → Option (List Nat)
  | _, 0 => none
  | i, m + 1 => match g i with
    | some l => some (i :: l)
    | none => gps g (i + 1) m
theorem gps_some {g : Nat → Option (List Nat)} : ∀ {m i : Nat} {l : List Nat}, gps g i m = some l → ∃ p l', l = p :: l' ∧ i ≤ p ∧ p < i + m ∧ g p = some l' := by
  intro m
  induction m with
  | zero => intro i l h; cases h
  | succ m ih =>
    intro i l h
    unfold gps at h
    cases e : g i with
    | some l' => rw [e] at h; cases h; exact ⟨i, l', rfl, Nat.le_refl _, by omega, e⟩
    | none =>
      rw [e] at h
      obtain ⟨p, l', h1, h2, h3, h4⟩ := ih h
      exact ⟨p, l', h1, by omega, by omega, h4⟩
theorem gps_none {g : Nat → Option (List Nat)} : ∀ {m i : Nat}, gps g i m = none → ∀ p, i ≤ p → p < i + m → g p = none := by
  intro m
  induction m with
  | zero => intro i _ p h1 h2; omega
  | succ m ih =>
    intro i h p h1 h2
    unfold gps at h
    cases e : g i with
    | some l' => rw [e] at h; cases h
    | none =>
      rw [e] at h
      by_cases c : p = i
      · rw [c]; exact e
      · exact ih h p (by omega) (by omega)
theorem gps_no {g : Nat → Option (List Nat)} : ∀ {m i : Nat}, (∀ p, i ≤ p → p < i + m → g p = none) → gps g i m = none := by
  intro m
  induction m with
  | zero => intro i _; rfl
  | succ m ih =>
    intro i h
    unfold gps
    rw [h i (Nat.le_refl _) (by omega)]
    exact ih (fun p h1 h2 => h p (by omega) (by omega))
theorem gps_cg {g g' : Nat → Option (List Nat)} : ∀ {m i : Nat}, (∀ p, i ≤ p → p < i + m → g p = g' p) → gps g i m = gps g' i m := by
  intro m
  induction m with
  | zero => intro i _; rfl
  | succ m ih =>
    intro i h
    unfold gps
    rw [h i (Nat.le_refl _) (by omega), ih (fun p h1 h2 => h p (by omega) (by omega))]
def gpk (n : Nat) (r : Nat → Int64) : Nat → Nat → Int64 → Option (List Nat)
  | 0, _, u => if u = 0 then some [] else none
  | q + 1, f, u => gps (fun p => gpk n r q (p + 1) (u &&& (r p ^^^ (-1)))) f (n - f)
theorem gpk_cg {n : Nat} {r r' : Nat → Int64} (h : ∀ p, p < n → r p = r' p) : ∀ (q f : Nat) (u : Int64), gpk n r q f u = gpk n r' q f u
  | 0, f, u => rfl
  | q + 1, f, u => by
    show gps _ f (n - f) = gps _ f (n - f)
    exact gps_cg (fun p h1 h2 => by rw [h p (by omega)]; exact gpk_cg h q _ _)
/-- what is seen by a set from f on -/
theorem gpk_cov {n : Nat} {r : Nat → Int64} : ∀ {q f : Nat} {u : Int64} {l : List Nat}, gpk n r q f u = some l → ∀ i, i < 64 → bz u i = true → ∃ p, f ≤ p ∧ p < n ∧ bz (r p) i = true
  | 0, f, u, l, h, i, hi, hb => by
    unfold gpk at h
    by_cases z : u = 0
    · rw [z, bz_0] at hb; cases hb
    · rw [if_neg z] at h; cases h
  | q + 1, f, u, l, h, i, hi, hb => by
    obtain ⟨p, l', -, h2, h3, h4⟩ := gps_some h
    cases e : bz (r p) i with
    | true => exact ⟨p, h2, by omega, e⟩
    | false =>
      obtain ⟨p', a, b, c⟩ := gpk_cov h4 i hi (by rw [bz_and, hb, bz_not _ hi, e]; rfl)
      exact ⟨p', by omega, b, c⟩
theorem gpk_len {n : Nat} {r : Nat → Int64} : ∀ {q f : Nat} {u : Int64} {l : List Nat}, gpk n r q f u = some l → l.length = q
  | 0, f, u, l, h => by
    unfold gpk at h
    by_cases z : u = 0
    · rw [if_pos z] at h; cases h; rfl
    · rw [if_neg z] at h; cases h
  | q + 1, f, u, l, h => by
    obtain ⟨p, l', rfl, -, -, h4⟩ := gps_some h
    show l'.length + 1 = q + 1
    rw [gpk_len h4]
theorem Cov_gpk {S : ST} : ∀ {q f : Nat} {u : Int64}, Cov S q f u → (gpk (nP S) (S.2 153) q f u).isSome = true
  | 0, f, u, h => by
    have h' : u = 0 := h
    show (if u = 0 then some [] else none : Option (List Nat)).isSome = true
    rw [if_pos h']; rfl
  | q + 1, f, u, h => by
    obtain ⟨p, h1, h2, h3⟩ := h
    have ih := Cov_gpk h3
    cases e : gpk (nP S) (S.2 153) (q + 1) f u with
    | some l => rfl
    | none =>
      have e' : gps (fun p => gpk (nP S) (S.2 153) q (p + 1) (u &&& (S.2 153 p ^^^ (-1)))) f (nP S - f) = none := e
      have := gps_none e' p h1 (by omega)
      have this' : gpk (nP S) (S.2 153) q (p + 1) (u &&& (S.2 153 p ^^^ (-1))) = none := this
      rw [this'] at ih
      cases ih
/-- the cells of a pick -/
def pk (S S' : ST) (h d : Nat) (o : Option (List Nat)) : Prop := (∀ j, j < d → S'.1 h j = S.1 h j) ∧ ∀ l, o = some l → ∀ j x, l[j]? = some x → S'.1 h (d + j) = nJ x
section Mg
variable {S : ST}
/-- the reference's search -/
theorem F262_eq (h : MS S) : ∀ (fl q place many f : Nat) (u : Int64) (S1 : ST), place + q = many → many ≤ 4 → q < fl → f ≤ nP S → Fm [159] [] S S1 → ∃ S2, F_262 fl (nJ place) (nJ many) (nJ f) u S1 = some ((gpk (nP S) (S.2 153) q f u).isSome, S2) ∧ Fm [159] [] S1 S2 ∧ pk S1 S2 159 place (gpk (nP S) (S.2 153) q f u) := by
  have hP := Ld_P h.1
  intro fl
  induction fl with
  | zero => intro q place many f u S1 h1 h2 h3; omega
  | succ fl ih =>
    intro q place many f u S1 h1 h2 h3 hf f1
    show ∃ S2, B_262 (F_262 fl) (nJ place) (nJ many) (nJ f) u S1 = _ ∧ _
    unfold B_262
    match q with
    | 0 =>
      have e : nJ place = nJ many := by rw [show place = many by omega]
      by_cases z : u = 0
      · rw [if_pos z, if_pos e]
        refine ⟨S1, ?_, Fm.rf, fun j hj => rfl, fun l hl j x hx => ?_⟩
        · show some (true, S1) = some ((if u = 0 then some [] else none : Option (List Nat)).isSome, S1)
          rw [if_pos z]; rfl
        · have hl' : (if u = 0 then some [] else none : Option (List Nat)) = some l := hl
          rw [if_pos z] at hl'
          cases hl'
          cases hx
      · rw [if_neg z, if_pos e]
        refine ⟨S1, ?_, Fm.rf, fun j hj => rfl, fun l hl j x hx => ?_⟩
        · show some (false, S1) = some ((if u = 0 then some [] else none : Option (List Nat)).isSome, S1)
          rw [if_neg z]; rfl
        · have hl' : (if u = 0 then some [] else none : Option (List Nat)) = some l := hl
          rw [if_neg z] at hl'
          cases hl'
    | q + 1 =>
      have ne : ¬ nJ place = nJ many := fun z => by have := (nJ_eq (by omega) (by omega)).mp z; omega
      -- the loop from p on
      have loop : ∀ (m p : Nat) (S2 : ST), p + m = nP S → Fm [159] [] S1 S2 → (∀ j, j < place → S2.1 159 j = S1.1 159 j) → ∃ z, wh FU (Lm_262_24 (F_262 fl) (nJ place) (nJ many) (nJ f) u) (nJ p, S2) = some z ∧ ∃ S3, Fm [159] [] S1 S3 ∧ pk S1 S3 159 place (gps (fun p => gpk (nP S) (S.2 153) q (p + 1) (u &&& (S.2 153 p ^^^ (-1)))) p m) ∧ ((gps (fun p => gpk (nP S) (S.2 153) q (p + 1) (u &&& (S.2 153 p ^^^ (-1)))) p m = none ∧ ∃ y, z = .inl (y, S3)) ∨ ((gps (fun p => gpk (nP S) (S.2 153) q (p + 1) (u &&& (S.2 153 p ^^^ (-1)))) p m).isSome = true ∧ z = .inr (true, S3))) := by
        have gen : ∀ (fu m p : Nat) (S2 : ST), m < fu → p + m = nP S → Fm [159] [] S1 S2 → (∀ j, j < place → S2.1 159 j = S1.1 159 j) → ∃ z, wh fu (Lm_262_24 (F_262 fl) (nJ place) (nJ many) (nJ f) u) (nJ p, S2) = some z ∧ ∃ S3, Fm [159] [] S1 S3 ∧ pk S1 S3 159 place (gps (fun p => gpk (nP S) (S.2 153) q (p + 1) (u &&& (S.2 153 p ^^^ (-1)))) p m) ∧ ((gps (fun p => gpk (nP S) (S.2 153) q (p + 1) (u &&& (S.2 153 p ^^^ (-1)))) p m = none ∧ ∃ y, z = .inl (y, S3)) ∨ ((gps (fun p => gpk (nP S) (S.2 153) q (p + 1) (u &&& (S.2 153 p ^^^ (-1)))) p m).isSome = true ∧ z = .inr (true, S3))) := by
          intro fu
          induction fu with
          | zero => intro m p S2 h; omega
          | succ fu ihf =>
            intro m p S2 hm hp f2 w
            have F := f1.tr f2
            unfold wh
            match m with
            | 0 =>
              have e : Lm_262_24 (F_262 fl) (nJ place) (nJ many) (nJ f) u (nJ p, S2) = some (.inr (.inl (nJ p, S2))) := by
                unfold Lm_262_24
                dsimp only
                rw [F.fld (by decide) (by decide), hP.1, if_neg (fun z => by have := (nJ_lt (by omega) (by omega)).mp z; omega)]
              rw [e]
              exact ⟨_, rfl, S2, f2, ⟨w, fun l hl => by cases hl⟩, Or.inl ⟨rfl, _, rfl⟩⟩
            | m + 1 =>
              have e153 : S2.2 153 = S.2 153 := F.rowL (by decide)
              obtain ⟨S3, e3, f3, p3⟩ := ih q (place + 1) many (p + 1) (u &&& (S.2 153 p ^^^ (-1))) (wI S2 159 place (nJ p)) (by omega) h2 (by omega) (by omega) (F.tr (Fm_a (by simp)))
              have e : Lm_262_24 (F_262 fl) (nJ place) (nJ many) (nJ f) u (nJ p, S2) = if (gpk (nP S) (S.2 153) q (p + 1) (u &&& (S.2 153 p ^^^ (-1)))).isSome = true then some (.inr (.inr (true, S3))) else some (.inl (nJ (p + 1), S3)) := by
                unfold Lm_262_24
                dsimp only
                rw [F.fld (by decide) (by decide), hP.1, if_pos ((nJ_lt (by omega) (by omega)).mpr (by omega)), ck_t (ibd_n (by omega) (by omega)), sbn_e, ck_t (ibd_n (by omega) (by omega)), nJ_ix (by omega), nJ_ix (by omega), nJ_succ, nJ_succ]
                rw [show (wI S2 159 place (nJ p)).2 153 p = S.2 153 p by rw [wI_2, e153], e3, ob_s]
              rw [e]
              have pk3 : ∀ j, j < place → S3.1 159 j = S1.1 159 j := fun j hj => by
                rw [p3.1 j (by omega), wI_1, if_neg (by omega)]; exact w j hj
              have F3 : Fm [159] [] S1 S3 := f2.tr ((Fm_a (by simp)).tr f3)
              cases eg : gpk (nP S) (S.2 153) q (p + 1) (u &&& (S.2 153 p ^^^ (-1))) with
              | some l' =>
                rw [if_pos (show (some l').isSome = true from rfl)]
                have eg2 : gps (fun p => gpk (nP S) (S.2 153) q (p + 1) (u &&& (S.2 153 p ^^^ (-1)))) p (m + 1) = some (p :: l') := by
                  show (match gpk (nP S) (S.2 153) q (p + 1) (u &&& (S.2 153 p ^^^ (-1))) with | some l => some (p :: l) | none => _) = _
                  rw [eg]
                refine ⟨_, rfl, S3, F3, ⟨pk3, fun l hl j x hx => ?_⟩, Or.inr ⟨by rw [eg2]; rfl, rfl⟩⟩
                rw [eg2] at hl
                cases hl
                match j, hx with
                | 0, hx =>
                  have : p = x := by simpa using hx
                  rw [← this, p3.1 (place + 0) (by omega), wI_1, if_pos ⟨rfl, rfl⟩]
                | j + 1, hx =>
                  have := p3.2 l' eg j x (by simpa using hx)
                  rw [show place + (j + 1) = place + 1 + j by omega]
                  exact this
              | none =>
                rw [if_neg (by decide)]
                have eg2 : gps (fun p => gpk (nP S) (S.2 153) q (p + 1) (u &&& (S.2 153 p ^^^ (-1)))) p (m + 1) = gps (fun p => gpk (nP S) (S.2 153) q (p + 1) (u &&& (S.2 153 p ^^^ (-1)))) (p + 1) m := by
                  show (match gpk (nP S) (S.2 153) q (p + 1) (u &&& (S.2 153 p ^^^ (-1))) with | some l => some (p :: l) | none => _) = _
                  rw [eg]
                rw [eg2]
                exact ihf m (p + 1) S3 (by omega) (by omega) F3 pk3
        intro m p S2 a b c
        exact gen FU m p S2 (FU_lt (by omega)) a b c
      obtain ⟨z, ez, S3, f3, p3, w3⟩ := loop (nP S - f) f S1 (by omega) Fm.rf (fun _ _ => rfl)
      have goal : ∃ S2, ob (wh FU (Lm_262_24 (F_262 fl) (nJ place) (nJ many) (nJ f) u) (nJ f, S1)) (fun z => Sum.elim (fun e24 => some (false, e24.2)) (fun o => some o) z) = some ((gpk (nP S) (S.2 153) (q + 1) f u).isSome, S2) ∧ Fm [159] [] S1 S2 ∧ pk S1 S2 159 place (gpk (nP S) (S.2 153) (q + 1) f u) := by
        rw [ez, ob_s]
        rcases w3 with ⟨a, y, rfl⟩ | ⟨a, rfl⟩
        · refine ⟨S3, ?_, f3, p3⟩
          show some (false, S3) = some ((gps _ f (nP S - f)).isSome, S3)
          rw [a]; rfl
        · refine ⟨S3, ?_, f3, p3⟩
          show some (true, S3) = some ((gps _ f (nP S - f)).isSome, S3)
          rw [a]
      by_cases z0 : u = 0
      · rw [if_pos z0, if_neg ne, if_neg ne]; exact goal
      · rw [if_neg z0, if_neg ne]; exact goal
/-- the number and the set -/
def gN (n : Nat) (r : Nat → Int64) (g : Nat) (l : List Nat) : Prop := 1 ≤ g ∧ g ≤ 4 ∧ gpk n r g 0 (aL n) = some l ∧ ∀ j, 1 ≤ j → j < g → gpk n r j 0 (aL n) = none
theorem gN_u {n : Nat} {r : Nat → Int64} {g g' : Nat} {l l' : List Nat} (h : gN n r g l) (h' : gN n r g' l') : g = g' ∧ l = l' := by
  have e : g = g' := by
    rcases Nat.lt_trichotomy g g' with z | z | z
    · have := h'.2.2.2 g h.1 z; rw [h.2.2.1] at this; cases this
    · exact z
    · have := h.2.2.2 g' h'.1 z; rw [h'.2.2.1] at this; cases this
  subst e
  have := h.2.2.1
  rw [h'.2.2.1] at this
  cases this
  exact ⟨rfl, rfl⟩
theorem gN_ex (hL : Ld S) (hS : SR S (S.2 153)) : ∃ g l, gN (nP S) (S.2 153) g l := by
  have hP := Ld_P hL
  have sv : Sv S := fun p hp => ⟨fun q hq => by
    have : q < 64 := by
      rcases Nat.lt_or_ge q 64 with z | z
      · exact z
      · rw [bz_big z] at hq; cases hq
    exact ((hS p hp q this).mp hq).1, (hS p hp p (by omega)).mpr ⟨hp, sees_refl (pt_cl hL hp)⟩, fun q hq hs => (hS p hp q (by omega)).mpr ⟨hq, hs⟩⟩
  obtain ⟨g, g1, g4, gc⟩ := Cov_4 hL sv
  have e : f_216 S = aL (nP S) := F216_eq hL
  rw [e] at gc
  obtain ⟨k, k1, k2, k3⟩ := least_ex (P := fun k => 1 ≤ k ∧ (gpk (nP S) (S.2 153) k 0 (aL (nP S))).isSome = true) g ⟨g1, Cov_gpk gc⟩
  obtain ⟨l, el⟩ := Option.isSome_iff_exists.mp k2.2
  refine ⟨k, l, k2.1, by omega, el, fun j h1 h2 => ?_⟩
  cases e : gpk (nP S) (S.2 153) j 0 (aL (nP S)) with
  | none => rfl
  | some l' => exact absurd ⟨h1, by rw [e]; rfl⟩ (k3 j h2)
theorem M263_14 (h : MS S) {g : Nat} {l : List Nat} (hg : gN (nP S) (S.2 153) g l) : ∃ S', wh FU Lm_263_14 (1, S) = some (nJ g, S') ∧ Fm [159] [] S S' ∧ ∀ j x, l[j]? = some x → S'.1 159 j = nJ x := by
  have hP := Ld_P h.1
  have key : ∃ r, wh FU Lm_263_14 (nJ 1, S) = some r ∧ ∃ S', r = (nJ g, S') ∧ Fm [159] [] S S' ∧ ∀ j x, l[j]? = some x → S'.1 159 j = nJ x := by
    refine wh_inv (I := fun m x => ∃ i S', i + m = g ∧ 1 ≤ i ∧ x = (nJ i, S') ∧ Fm [159] [] S S') ?_ FU (g - 1) _ (FU_lt (by have := hg.2.1; omega)) ⟨1, S, by have := hg.1; omega, by omega, rfl, Fm.rf⟩
    rintro m x ⟨i, S1, hi, i1, rfl, f1⟩
    have g4 := hg.2.1
    obtain ⟨h1, eP, -, -⟩ := MS_fm h f1 (by decide) (by decide) (by decide) (by decide) (by decide) (by decide) (by decide) (by decide)
    unfold Lm_263_14
    dsimp only
    obtain ⟨S2, e2, f2, p2⟩ := F262_eq h 6 i 0 i 0 (aL (nP S)) S1 (by omega) (by omega) (by omega) (by omega) f1
    have e216 : F_216 S1 = aL (nP S) := by rw [F216_eq h1.1, eP]
    rw [e216, show ((0 : Int32)) = nJ 0 from rfl, e2, ob_s]
    by_cases c : i = g
    · rw [c, hg.2.2.1] at p2 ⊢
      rw [if_pos (show ((some l).isSome, S2).1 = true from rfl)]
      refine Or.inr ⟨_, rfl, S2, rfl, f1.tr f2, fun j x hx => ?_⟩
      have := p2.2 l rfl j x hx
      rw [Nat.zero_add] at this
      exact this
    · rw [hg.2.2.2 i i1 (by omega), if_neg (show ¬ ((none : Option (List Nat)).isSome, S2).1 = true from Bool.false_ne_true), nJ_succ]
      exact Or.inl ⟨_, m - 1, by omega, rfl, i + 1, S2, by omega, by omega, rfl, f1.tr f2⟩
  obtain ⟨r, e, S', rfl, w⟩ := key
  exact ⟨S', e, w⟩
end Mg
