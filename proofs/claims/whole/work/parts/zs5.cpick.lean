/-! the class's search for the fewest points -/
section Cg
variable {S M : ST}
theorem CS_fp (h : CSz S M) {P : Nat → Prop} {S' : ST} (hF : Fp P S S') (hd : ∀ a, cxC a ∨ a = 31 → ¬ P a) : CSz S' M := by
  have e := (hF 31 (hd 31 (Or.inr rfl))).2
  exact ⟨CX_fp h.1 hF (fun a ha => hd a (Or.inl ha)), by rw [e]; exact h.2.1, by rw [e]; exact h.2.2⟩
/-- the unions from p on -/
def fhO (S : ST) : Prop := ∀ p, p ≤ 64 → ∀ i, (bz (S.2 41 p) i = true ↔ ∃ p', p ≤ p' ∧ p' < 64 ∧ bz (S.2 31 p') i = true)
theorem C5_23 (S : ST) : ∃ z S', wh FU L_5_23 (63, wL S 41 64 0) = some (z, S') ∧ Fp (fun a => a = 41) S S' ∧ fhO S' := by
  have key : ∃ r, wh FU L_5_23 (63, wL S 41 64 0) = some r ∧ ∃ z S', r = (z, S') ∧ Fp (fun a => a = 41) S S' ∧ fhO S' := by
    refine wh_inv (I := fun m x => ∃ S', x = (nJ m - 1, S') ∧ m ≤ 64 ∧ Fp (fun a => a = 41) S S' ∧ ∀ p, m ≤ p → p ≤ 64 → ∀ i, (bz (S'.2 41 p) i = true ↔ ∃ p', p ≤ p' ∧ p' < 64 ∧ bz (S'.2 31 p') i = true)) ?_ FU 64 _ (FU_lt (by omega)) ⟨_, rfl, by omega, Fp_L rfl, fun p h1 h2 i => ?_⟩
    · rintro m x ⟨S1, rfl, hm, f1, w⟩
      unfold L_5_23
      dsimp only
      by_cases c : m = 0
      · subst c
        rw [if_pos (show nJ 0 - 1 < 0 by decide)]
        exact Or.inr ⟨_, rfl, _, S1, rfl, f1, fun p hp i => w p (Nat.zero_le _) hp i⟩
      · have e1 : nJ m - 1 = nJ (m - 1) := nJ_sub (j := 1) (by omega)
        rw [e1, if_neg (nJ_nn (by omega)), nJ_succ, show m - 1 + 1 = m by omega, ck_t (ibd_n (by omega) (by omega)), F73_eq S1 (by omega), ob_s, ck_t (ibd_n (by omega) (by omega)), sbn_e, nJ_ix (by omega), nJ_ix (by omega)]
        refine Or.inl ⟨_, m - 1, by omega, rfl, wL S1 41 (m - 1) (S1.2 41 m ||| S1.2 31 (m - 1)), ?_, by omega, f1.tr (Fp_L rfl), fun p h1 h2 i => ?_⟩
        · rw [Int32.sub_eq_add_neg]
        · have e31 : (wL S1 41 (m - 1) (S1.2 41 m ||| S1.2 31 (m - 1))).2 31 = S1.2 31 := (Fp_L (P := fun a => a = 41) (S := S1) (q := m - 1) (v := S1.2 41 m ||| S1.2 31 (m - 1)) rfl 31 (by decide)).2
          rw [e31, wL_2]
          by_cases d : p = m - 1
          · rw [if_pos ⟨rfl, d⟩, bz_or, Bool.or_eq_true, w m (Nat.le_refl _) (by omega) i]
            constructor
            · rintro (⟨p', a1, a2, a3⟩ | a)
              · exact ⟨p', by omega, a2, a3⟩
              · exact ⟨m - 1, by omega, by omega, a⟩
            · rintro ⟨p', a1, a2, a3⟩
              by_cases y : p' = m - 1
              · rw [y] at a3; exact Or.inr a3
              · exact Or.inl ⟨p', by omega, a2, a3⟩
          · rw [if_neg (fun y => d y.2)]
            exact w p (by omega) h2 i
    · rw [wL_2, if_pos ⟨rfl, by omega⟩, bz_0]
      constructor
      · intro z; cases z
      · rintro ⟨p', a1, a2, -⟩; omega
  obtain ⟨r, e, z, S', rfl, w⟩ := key
  exact ⟨z, S', e, w⟩
theorem and_not0 {u v : Int64} : u &&& (v ^^^ (-1)) = 0 ↔ ∀ i, i < 64 → bz u i = true → bz v i = true := by
  constructor
  · intro h i hi hb
    have := congrArg (fun x => bz x i) h
    simp only [bz_and, bz_not v hi, hb, bz_0, Bool.true_and] at this
    cases e : bz v i with
    | true => rfl
    | false => rw [e] at this; cases this
  · intro h
    apply bz_ext
    intro i hi
    rw [bz_and, bz_not v hi, bz_0]
    cases e : bz u i with
    | false => rfl
    | true => rw [h i hi e]; rfl
theorem C7_eq (h : CSz S M) (hf0 : fhO S) : ∀ (fl q d size f : Nat) (u : Int64) (S1 : ST), 1 ≤ q → d + q = size → size ≤ 4 → q ≤ fl → f ≤ nP M → Fp (fun a => a = 42) S S1 → ∃ S2, F_7 fl u (nJ f) (nJ size) (nJ d) S1 = some ((gpk (nP M) (S.2 31) q f u).isSome, S2) ∧ Fp (fun a => a = 42) S1 S2 ∧ pk S1 S2 42 d (gpk (nP M) (S.2 31) q f u) := by
  have h64 := h.1.2.2.2.2.1
  intro fl
  induction fl with
  | zero => intro q d size f u S1 h0 h1 h2 h3; omega
  | succ fl ih =>
    intro q d size f u S1 h0 h1 h2 h3 hf f1
    show ∃ S2, B_7 (F_7 fl) u (nJ f) (nJ size) (nJ d) S1 = _ ∧ _
    unfold B_7
    rw [if_pos ((nJ_lt (by omega) (by omega)).mpr (show d < size by omega)), if_pos (show nJ d < 4 from (nJ_lt (j := 4) (by omega) (by omega)).mpr (by omega)), if_neg (nJ_nn (by omega))]
    obtain ⟨q', hq'⟩ : ∃ q', q = q' + 1 := ⟨q - 1, by omega⟩
    subst hq'
    have gen : ∀ (fu m p : Nat) (S2 : ST), m < fu → p + m = nP M → Fp (fun a => a = 42) S1 S2 → (∀ j, j < d → S2.1 42 j = S1.1 42 j) → ∃ z, wh fu (L_7_22 (F_7 fl) u (nJ f) (nJ size) (nJ d)) (nJ p, S2) = some z ∧ ∃ S3, Fp (fun a => a = 42) S1 S3 ∧ pk S1 S3 42 d (gps (fun p => gpk (nP M) (S.2 31) q' (p + 1) (u &&& (S.2 31 p ^^^ (-1)))) p m) ∧ ((gps (fun p => gpk (nP M) (S.2 31) q' (p + 1) (u &&& (S.2 31 p ^^^ (-1)))) p m = none ∧ ((∃ y, z = .inl (y, S3)) ∨ z = .inr (false, S3))) ∨ ((gps (fun p => gpk (nP M) (S.2 31) q' (p + 1) (u &&& (S.2 31 p ^^^ (-1)))) p m).isSome = true ∧ z = .inr (true, S3))) := by
      intro fu
      induction fu with
      | zero => intro m p S2 h; omega
      | succ fu ihf =>
        intro m p S2 hm hp f2 w
        have F := f1.tr f2
        have h2' := CS_fp h F (fun a ha => by unfold cxC at ha; omega)
        unfold wh
        match m with
        | 0 =>
          have e : L_7_22 (F_7 fl) u (nJ f) (nJ size) (nJ d) (nJ p, S2) = some (.inr (.inl (nJ p, S2))) := by
            unfold L_7_22
            dsimp only
            rw [h2'.1.2.2.2.1, if_neg (fun z => by have := (nJ_lt (by omega) (by omega)).mp z; omega)]
          rw [e]
          exact ⟨_, rfl, S2, f2, ⟨w, fun l hl => by cases hl⟩, Or.inl ⟨rfl, Or.inl ⟨_, rfl⟩⟩⟩
        | m + 1 =>
          have e31 : S2.2 31 = S.2 31 := (F 31 (by decide)).2
          have e41 : S2.2 41 = S.2 41 := (F 41 (by decide)).2
          by_cases cov : u &&& (S.2 41 p ^^^ (-1)) = 0
          · -- the rest, after p is put
            have w4 : ∀ j, j < d → (wI S2 42 d (nJ p)).1 42 j = S1.1 42 j := fun j hj => by rw [wI_1, if_neg (by omega)]; exact w j hj
            have f4 : Fp (fun a => a = 42) S1 (wI S2 42 d (nJ p)) := f2.tr (Fp_I rfl)
            have step : ∃ S3, L_7_22 (F_7 fl) u (nJ f) (nJ size) (nJ d) (nJ p, S2) = (if (gpk (nP M) (S.2 31) q' (p + 1) (u &&& (S.2 31 p ^^^ (-1)))).isSome = true then some (.inr (.inr (true, S3))) else some (.inl (nJ (p + 1), S3))) ∧ Fp (fun a => a = 42) S1 S3 ∧ (∀ j, j < d → S3.1 42 j = S1.1 42 j) ∧ ∀ l', gpk (nP M) (S.2 31) q' (p + 1) (u &&& (S.2 31 p ^^^ (-1))) = some l' → ∀ j x, (p :: l')[j]? = some x → S3.1 42 (d + j) = nJ x := by
              have pre : L_7_22 (F_7 fl) u (nJ f) (nJ size) (nJ d) (nJ p, S2) = if nJ (d + 1) = nJ size then (if u &&& (S.2 31 p ^^^ (-1)) = 0 then some (.inr (.inr (true, wI S2 42 d (nJ p)))) else some (.inl (nJ (p + 1), wI S2 42 d (nJ p)))) else ob (F_7 fl (u &&& (S.2 31 p ^^^ (-1))) (nJ (p + 1)) (nJ size) (nJ (d + 1)) (wI S2 42 d (nJ p))) (fun w2 => if w2.1 = true then some (.inr (.inr (true, w2.2))) else some (.inl (nJ (p + 1), w2.2))) := by
                unfold L_7_22
                dsimp only
                rw [h2'.1.2.2.2.1, if_pos ((nJ_lt (by omega) (by omega)).mpr (by omega)), if_pos (show nJ p < 64 from (nJ_lt (j := 64) (by omega) (by omega)).mpr (by omega)), ck_t (ibd_n (by omega) (by omega)), nJ_ix (by omega), e41, if_pos cov, ck_t (ibd_n (by omega) (by omega)), sbn_e, nJ_ix (by omega), F73_eq _ (by omega), ob_s, nJ_succ, nJ_succ, wI_2, e31]
              rw [pre]
              by_cases last : d + 1 = size
              · have q0 : q' = 0 := by omega
                subst q0
                rw [if_pos (by rw [last])]
                refine ⟨wI S2 42 d (nJ p), ?_, f4, w4, fun l' hl j x hx => ?_⟩
                · show _ = if (if u &&& (S.2 31 p ^^^ (-1)) = 0 then some [] else none : Option (List Nat)).isSome = true then _ else _
                  by_cases z : u &&& (S.2 31 p ^^^ (-1)) = 0
                  · rw [if_pos z, if_pos z]; rfl
                  · rw [if_neg z, if_neg z]; rfl
                · have hl' : (if u &&& (S.2 31 p ^^^ (-1)) = 0 then some [] else none : Option (List Nat)) = some l' := hl
                  by_cases z : u &&& (S.2 31 p ^^^ (-1)) = 0
                  · rw [if_pos z] at hl'
                    cases hl'
                    match j, hx with
                    | 0, hx =>
                      have : p = x := by simpa using hx
                      rw [← this, wI_1, if_pos ⟨rfl, rfl⟩]
                    | j + 1, hx => simp at hx
                  · rw [if_neg z] at hl'; cases hl'
              · rw [if_neg (fun z => last ((nJ_eq (by omega) (by omega)).mp z))]
                obtain ⟨S3, e3, f3, p3⟩ := ih q' (d + 1) size (p + 1) (u &&& (S.2 31 p ^^^ (-1))) (wI S2 42 d (nJ p)) (by omega) (by omega) h2 (by omega) (by omega) (f1.tr f4)
                rw [e3, ob_s]
                refine ⟨S3, rfl, f4.tr f3, fun j hj => by rw [p3.1 j (by omega)]; exact w4 j hj, fun l' hl j x hx => ?_⟩
                match j, hx with
                | 0, hx =>
                  have : p = x := by simpa using hx
                  rw [← this, p3.1 (d + 0) (by omega), wI_1, if_pos ⟨rfl, rfl⟩]
                | j + 1, hx =>
                  have := p3.2 l' hl j x (by simpa using hx)
                  rw [show d + (j + 1) = d + 1 + j by omega]
                  exact this
            obtain ⟨S3, es, f3, w3, p3⟩ := step
            rw [es]
            cases eg : gpk (nP M) (S.2 31) q' (p + 1) (u &&& (S.2 31 p ^^^ (-1))) with
            | some l' =>
              rw [if_pos (show (some l').isSome = true from rfl)]
              have eg2 : gps (fun p => gpk (nP M) (S.2 31) q' (p + 1) (u &&& (S.2 31 p ^^^ (-1)))) p (m + 1) = some (p :: l') := by
                show (match gpk (nP M) (S.2 31) q' (p + 1) (u &&& (S.2 31 p ^^^ (-1))) with | some l => some (p :: l) | none => _) = _
                rw [eg]
              refine ⟨_, rfl, S3, f3, ⟨w3, fun l hl j x hx => ?_⟩, Or.inr ⟨by rw [eg2]; rfl, rfl⟩⟩
              rw [eg2] at hl
              cases hl
              exact p3 l' eg j x hx
            | none =>
              rw [if_neg (by decide)]
              have eg2 : gps (fun p => gpk (nP M) (S.2 31) q' (p + 1) (u &&& (S.2 31 p ^^^ (-1)))) p (m + 1) = gps (fun p => gpk (nP M) (S.2 31) q' (p + 1) (u &&& (S.2 31 p ^^^ (-1)))) (p + 1) m := by
                show (match gpk (nP M) (S.2 31) q' (p + 1) (u &&& (S.2 31 p ^^^ (-1))) with | some l => some (p :: l) | none => _) = _
                rw [eg]
              rw [eg2]
              exact ihf m (p + 1) S3 (by omega) (by omega) f3 w3
          · -- not to be covered from p on
            have e : L_7_22 (F_7 fl) u (nJ f) (nJ size) (nJ d) (nJ p, S2) = some (.inr (.inr (false, S2))) := by
              unfold L_7_22
              dsimp only
              rw [h2'.1.2.2.2.1, if_pos ((nJ_lt (by omega) (by omega)).mpr (by omega)), if_pos (show nJ p < 64 from (nJ_lt (j := 64) (by omega) (by omega)).mpr (by omega)), ck_t (ibd_n (by omega) (by omega)), nJ_ix (by omega), e41, if_neg cov]
            rw [e]
            have none' : gps (fun p => gpk (nP M) (S.2 31) q' (p + 1) (u &&& (S.2 31 p ^^^ (-1)))) p (m + 1) = none := by
              apply gps_no
              intro p' p1 p2
              cases eg : gpk (nP M) (S.2 31) q' (p' + 1) (u &&& (S.2 31 p' ^^^ (-1))) with
              | none => rfl
              | some l' =>
                exfalso
                apply cov
                rw [and_not0]
                intro i hi hb
                rw [hf0 p (by omega) i]
                cases e5 : bz (S.2 31 p') i with
                | true => exact ⟨p', p1, by omega, e5⟩
                | false =>
                  obtain ⟨p2', a, b, c⟩ := gpk_cov eg i hi (by rw [bz_and, hb, bz_not _ hi, e5]; rfl)
                  exact ⟨p2', by omega, by omega, c⟩
            rw [none']
            exact ⟨_, rfl, S2, f2, ⟨w, fun l hl => by cases hl⟩, Or.inl ⟨rfl, Or.inr rfl⟩⟩
    obtain ⟨z, ez, S3, f3, p3, w3⟩ := gen FU (nP M - f) f S1 (FU_lt (by omega)) (by omega) Fp.rf (fun _ _ => rfl)
    rw [ez, ob_s]
    rcases w3 with ⟨a, ⟨y, rfl⟩ | rfl⟩ | ⟨a, rfl⟩
    · refine ⟨S3, ?_, f3, p3⟩
      show some (false, S3) = some ((gps _ f (nP M - f)).isSome, S3)
      rw [a]; rfl
    · refine ⟨S3, ?_, f3, p3⟩
      show some (false, S3) = some ((gps _ f (nP M - f)).isSome, S3)
      rw [a]; rfl
    · refine ⟨S3, ?_, f3, p3⟩
      show some (true, S3) = some ((gps _ f (nP M - f)).isSome, S3)
      rw [a]
/-- pointsNeeded, not known yet -/
theorem F5_eq (h : CSz S M) (h0 : S.1 39 8 = 0) {g : Nat} {l : List Nat} (hg : gN (nP M) (S.2 31) g l) : ∃ S', F_5 S = some (nJ g, S') ∧ Fp (fun a => a = 39 ∨ a = 41 ∨ a = 42) S S' ∧ (∀ k, k ≠ 8 → S'.1 39 k = S.1 39 k) ∧ S'.1 39 8 = nJ g ∧ ∀ j x, l[j]? = some x → S'.1 42 j = nJ x := by
  have h64 := h.1.2.2.2.2.1
  have g1 := hg.1
  have g4 := hg.2.1
  unfold F_5
  rw [if_pos h0]
  obtain ⟨z, S1, e1, f1, w1⟩ := C5_23 S
  rw [e1, ob_s]
  dsimp only
  have h1 := CS_fp h f1 (fun a ha => by unfold cxC at ha; omega)
  have e31 : S1.2 31 = S.2 31 := (f1 31 (by decide)).2
  have e39 : S1.1 39 = S.1 39 := (f1 39 (by decide)).1
  have key : ∃ r, wh FU L_5_58 (nJ 1, S1) = some r ∧ ∃ z S', r = (z, S') ∧ Fp (fun a => a = 39 ∨ a = 42) S1 S' ∧ (∀ k, k ≠ 8 → S'.1 39 k = S1.1 39 k) ∧ S'.1 39 8 = nJ g ∧ ∀ j x, l[j]? = some x → S'.1 42 j = nJ x := by
    refine wh_inv (I := fun m x => ∃ i S', i + m = 5 ∧ 1 ≤ i ∧ x = (nJ i, S') ∧ Fp (fun a => a = 39 ∨ a = 42) S1 S' ∧ (∀ k, k ≠ 8 → S'.1 39 k = S1.1 39 k) ∧ ((i ≤ g ∧ S'.1 39 8 = 0 ∧ Fp (fun a => a = 42) S1 S') ∨ (i = g + 1 ∧ S'.1 39 8 = nJ g ∧ ∀ j x, l[j]? = some x → S'.1 42 j = nJ x))) ?_ FU 4 _ (FU_lt (by omega)) ⟨1, S1, by omega, by omega, rfl, Fp.rf, fun _ _ => rfl, Or.inl ⟨g1, by rw [e39]; exact h0, Fp.rf⟩⟩
    rintro m x ⟨i, S2, hi, i1, rfl, f2, k2, w⟩
    unfold L_5_58
    dsimp only
    rcases w with ⟨a1, a2, a3⟩ | ⟨a1, a2, a3⟩
    · have h2 := CS_fp h1 a3 (fun a ha => by unfold cxC at ha; omega)
      rw [if_neg (show ¬ (4 : Int32) < nJ i from fun z => by have := (nJ_lt (i := 4) (by omega) (by omega)).mp z; omega), if_pos a2, F21_eq h2.1]
      obtain ⟨S3, e3, f3, p3⟩ := C7_eq h1 w1 6 i 0 i 0 (aL (nP M)) S2 i1 (by omega) (by omega) (by omega) (by omega) a3
      rw [e31] at e3 p3
      rw [show ((0 : Int32)) = nJ 0 from rfl, e3, ob_s]
      by_cases c : i = g
      · rw [c, hg.2.2.1] at p3 ⊢
        rw [if_pos (show ((some l).isSome, S3).1 = true from rfl), nJ_succ]
        refine Or.inl ⟨_, m - 1, by omega, rfl, g + 1, _, by omega, by omega, rfl, f2.tr ((f3.wk (fun x hx => Or.inr hx)).tr (Fp_I (Or.inl rfl))), fun k hk => ?_, Or.inr ⟨rfl, by rw [wI_1, if_pos ⟨rfl, rfl⟩], fun j x hx => ?_⟩⟩
        · rw [wI_1, if_neg (fun y => hk y.2), (f3 39 (by decide)).1]; exact k2 k hk
        · have := p3.2 l rfl j x hx
          rw [Nat.zero_add] at this
          rw [wI_1, if_neg (by omega)]
          exact this
      · rw [hg.2.2.2 i i1 (by omega), if_neg (show ¬ ((none : Option (List Nat)).isSome, S3).1 = true from Bool.false_ne_true), nJ_succ]
        exact Or.inl ⟨_, m - 1, by omega, rfl, i + 1, S3, by omega, by omega, rfl, f2.tr (f3.wk (fun x hx => Or.inr hx)), fun k hk => by rw [(f3 39 (by decide)).1]; exact k2 k hk, Or.inl ⟨by omega, by rw [(f3 39 (by decide)).1]; exact a2, a3.tr f3⟩⟩
    · by_cases c : 4 < i
      · rw [if_pos (show (4 : Int32) < nJ i from (nJ_lt (i := 4) (by omega) (by omega)).mpr c)]
        exact Or.inr ⟨_, rfl, _, S2, rfl, f2, k2, a2, a3⟩
      · rw [if_neg (show ¬ (4 : Int32) < nJ i from fun z => c ((nJ_lt (i := 4) (by omega) (by omega)).mp z)), a2, if_neg (fun z => by have := (nJ_eq (i := g) (j := 0) (by omega) (by omega)).mp z; omega)]
        exact Or.inr ⟨_, rfl, _, S2, rfl, f2, k2, a2, a3⟩
  obtain ⟨r, e2, z2, S2, rfl, f2, k2, a2, a3⟩ := key
  rw [show ((1 : Int32), S1) = (nJ 1, S1) from rfl, e2, ob_s]
  dsimp only
  refine ⟨S2, by rw [a2], (f1.wk (fun x hx => Or.inr (Or.inl hx))).tr (f2.wk (fun x hx => by omega)), fun k hk => by rw [k2 k hk, e39], a2, a3⟩
end Cg
