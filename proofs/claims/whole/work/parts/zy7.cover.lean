/-! questions of guards' numbers, witnesses, hidden points -/
theorem gN_cg {n : Nat} {r r' : Nat → Int64} (h : ∀ p, p < n → r p = r' p) {g : Nat} {l : List Nat} (q : gN n r g l) : gN n r' g l := by
  obtain ⟨a, b, c, d⟩ := q
  exact ⟨a, b, by rw [← gpk_cg h]; exact c, fun j h1 h2 => by rw [← gpk_cg h]; exact d j h1 h2⟩
theorem wN_cg {n : Nat} {r r' : Nat → Int64} (h : ∀ p, p < n → r p = r' p) {g : Nat} {l : List Nat} (q : wN n r g l) : wN n r' g l := by
  obtain ⟨a, b, c, d⟩ := q
  exact ⟨a, b, by rw [← wpk_cg h]; exact c, fun j h1 h2 => by rw [← wpk_cg h]; exact d j h1 h2⟩
theorem wpk_len {n : Nat} {r : Nat → Int64} : ∀ {q f : Nat} {u : Int64} {l : List Nat}, wpk n r q f u = some l → l.length = q
  | 0, f, u, l, h => by
    cases h; rfl
  | q + 1, f, u, l, h => by
    obtain ⟨p, l', rfl, -, -, h4⟩ := gps_some h
    show l'.length + 1 = q + 1
    by_cases z : r p &&& u = 0
    · rw [if_pos z] at h4
      rw [wpk_len h4]
    · rw [if_neg z] at h4; cases h4
section Cv
variable {Sc T T' Sc' Sm : ST}
theorem ER_cg {r r' e : Nat → Int64} (h : ∀ p, p < nP T → r p = r' p) (q : ER T r e) : ER T r' e := by
  intro i hi z hz
  rw [q i hi z hz]
  constructor
  · rintro ⟨p, p1, p2, p3⟩; exact ⟨p, p1, p2, by rw [← h p p1]; exact p3⟩
  · rintro ⟨p, p1, p2, p3⟩; exact ⟨p, p1, p2, by rw [h p p1]; exact p3⟩
theorem ER_u {r e e' : Nat → Int64} (q : ER T r e) (q' : ER T r e') {i : Nat} (hi : i < rN T 141) : e i = e' i := bz_ext (fun z hz => by
  have a := q i hi z hz
  have b := q' i hi z hz
  have ab : bz (e i) z = true ↔ bz (e' i) z = true := by rw [a, b]
  cases h1 : bz (e i) z <;> cases h2 : bz (e' i) z <;> simp_all)
theorem LQ_64 (q : LQ Sc T) : nP T ≤ 64 := (Ld_P q.2.2.1.1).2
theorem LQ_g (q : LQ Sc T) : GR T 141 := q.2.2.1.1.1
/-- the scratch of both, without the invariant -/
theorem Ro_g (R : Ro Sc T) (g : GR T 141) (hF : Fm [155, 156, 157, 158] [0, 38] T T') : Ro Sc T' := by
  refine Ro_q R Fp.rf (hF.wk (by decide) (by decide)) (fun q => ?_)
  have gs : gSa T T' := gSa_fm hF (by decide) (by decide) (by decide) (by decide) (by decide) (by decide)
  obtain ⟨c1, c2⟩ := R.2.2.2.2.2.2 q
  exact ⟨Ca_mv (P := fun _ => False) gs g Fp.rf (fun _ _ _ z => z) c1, Cm_mv gs g hF (by decide) (by decide) (by decide) (by decide) (by decide) (by decide) (by decide) (by decide) c2⟩
theorem few_v (q : LQ Sc T) : ∃ Sc2, F_1 Sc = some (nJ (fwS (rN T 141) (nP T) (fun i => T.2 153 (vp T i))), Sc2) ∧ Ro Sc2 T := by
  obtain ⟨⟨⟨c1, c2⟩, ⟨c3, c4, c5⟩, c6, c7⟩, cm⟩ := q.1.1.2.2.2.2.2.2 q.1.2.2.1.1
  have g := LQ_g q
  have vl : ∀ i, i < rN T 141 → vp T i < nP T := fun i hi => (vp_ok q.2.2.1.1 hi).1
  by_cases h : Sc.1 39 6 = 0
  · obtain ⟨S2, e, f, o, k⟩ := F1_eq q.2.1 h
    have ev : fwS (rN T 141) (nP T) (fun i => Sc.2 31 (vp T i)) = fwS (rN T 141) (nP T) (fun i => T.2 153 (vp T i)) := fwS_cg (fun i hi => LQ_r q _ (vl i hi))
    rw [ev] at e k
    have gr : gSa T T := gSa_rf
    have n : ∀ a, ¬ (a = 39 ∨ a = 40) → S2.1 a = Sc.1 a := fun a ha => (f a ha).1
    exact ⟨S2, e, Ro_q q.1.1 (f.wk (fun a ha => by unfold clq; omega)) Fm.rf (fun _ => ⟨⟨⟨sgC_mv gr g (by rw [n 30 (by omega)]) (f 31 (by omega)).2 c1, trK_mv gr g (by rw [n 32 (by omega)]) (fun a h1 h2 => n a (by omega)) c2⟩, ⟨Or.inr ⟨_, q.2.2.1.2.1, k⟩, esK_mv gr g (o 7 (by omega)) c4, pkK_mv gr g (o 8 (by omega)) (n 42 (by omega)) c5⟩, wtK_mv gr g (by rw [n 43 (by omega)]) (n 45 (by omega)) c6, hdK_mv gr g (by rw [n 43 (by omega)]) c7⟩, cm⟩)⟩
  · obtain ⟨r, r1, r2⟩ := c3.resolve_left h
    refine ⟨Sc, ?_, q.1.1⟩
    unfold F_1
    rw [if_neg h, r2, fwS_cg (r := fun i => r (vp T i)) (r' := fun i => T.2 153 (vp T i)) (fun i hi => SR_u (LQ_64 q) r1 q.2.2.1.2.1 (vl i hi))]
theorem few_e (q : LQ Sc T) : ∃ Sc2, F_2 Sc = some (nJ (fwS (rN T 141) (nP T) (T.2 154)), Sc2) ∧ Ro Sc2 T := by
  obtain ⟨⟨⟨c1, c2⟩, ⟨c3, c4, c5⟩, c6, c7⟩, cm⟩ := q.1.1.2.2.2.2.2.2 q.1.2.2.1.1
  have g := LQ_g q
  by_cases h : Sc.1 39 7 = 0
  · obtain ⟨S2, e, f, o, k⟩ := F2_eq q.2.1 h (ER_cg (fun p hp => (LQ_r q p hp).symm) q.2.2.1.2.2)
    have gr : gSa T T := gSa_rf
    have n : ∀ a, ¬ (a = 39 ∨ a = 40) → S2.1 a = Sc.1 a := fun a ha => (f a ha).1
    exact ⟨S2, e, Ro_q q.1.1 (f.wk (fun a ha => by unfold clq; omega)) Fm.rf (fun _ => ⟨⟨⟨sgC_mv gr g (by rw [n 30 (by omega)]) (f 31 (by omega)).2 c1, trK_mv gr g (by rw [n 32 (by omega)]) (fun a h1 h2 => n a (by omega)) c2⟩, ⟨vsK_mv gr g (o 6 (by omega)) c3, Or.inr ⟨_, _, q.2.2.1.2.1, q.2.2.1.2.2, k⟩, pkK_mv gr g (o 8 (by omega)) (n 42 (by omega)) c5⟩, wtK_mv gr g (by rw [n 43 (by omega)]) (n 45 (by omega)) c6, hdK_mv gr g (by rw [n 43 (by omega)]) c7⟩, cm⟩)⟩
  · obtain ⟨r, er, r1, r2, r3⟩ := c4.resolve_left h
    refine ⟨Sc, ?_, q.1.1⟩
    have r2' : ER T (T.2 153) er := ER_cg (fun p hp => SR_u (LQ_64 q) r1 q.2.2.1.2.1 hp) r2
    unfold F_2
    rw [if_neg h, r3, fwS_cg (r := er) (r' := T.2 154) (fun i hi => ER_u r2' q.2.2.1.2.2 hi)]
theorem a141 (R : Ro Sc Sm) (M : MOK Sm) : Agr E1 F_141 F_260 Sc Sm := by
  rcases zkP R M with ⟨ec, em, _⟩ | ⟨G, ec, em, _⟩
  · exact Agr_x R M (e := isE) (k := 1) (by simp [E1]) (by unfold F_141; rw [ec]; rfl) (by unfold F_260; rw [em]; rfl) tt_0 tt_F
  · obtain ⟨Sc', T', e1, e2, q, f1, f2⟩ := learn G
    obtain ⟨S2, ef, R2⟩ := few_v q
    obtain ⟨z, ez⟩ := M259_8 q.2.2.1 false
    have ev : fwS (rN T' 141) (nP T') (fun i => if false = true then T'.2 154 i else T'.2 153 (vp T' i)) = fwS (rN T' 141) (nP T') (fun i => T'.2 153 (vp T' i)) := fwS_cg (fun i hi => if_neg (by decide))
    rw [ev] at ez
    refine Agr_r (a := nJ (fwS (rN T' 141) (nP T') (fun i => T'.2 153 (vp T' i)))) (Sc' := S2) (Sm' := T') ?_ ?_ R2 q.1.2.2.2
    · unfold F_141
      rw [ec, ox_r, e1, ob_s]
      dsimp only
      rw [ef, ob_s]
    · unfold F_260 F_259
      rw [em, ob_s]
      dsimp only
      rw [if_neg (by decide), e2, ob_s]
      dsimp only
      rw [ez, ob_s, ob_s]
theorem a142 (R : Ro Sc Sm) (M : MOK Sm) : Agr E1 F_142 F_261 Sc Sm := by
  rcases zkP R M with ⟨ec, em, _⟩ | ⟨G, ec, em, _⟩
  · exact Agr_x R M (e := isE) (k := 1) (by simp [E1]) (by unfold F_142; rw [ec]; rfl) (by unfold F_261; rw [em]; rfl) tt_0 tt_F
  · obtain ⟨Sc', T', e1, e2, q, f1, f2⟩ := learn G
    obtain ⟨S2, ef, R2⟩ := few_e q
    obtain ⟨z, ez⟩ := M259_8 q.2.2.1 true
    have ev : fwS (rN T' 141) (nP T') (fun i => if true = true then T'.2 154 i else T'.2 153 (vp T' i)) = fwS (rN T' 141) (nP T') (T'.2 154) := fwS_cg (fun i hi => if_pos rfl)
    rw [ev] at ez
    refine Agr_r (a := nJ (fwS (rN T' 141) (nP T') (T'.2 154))) (Sc' := S2) (Sm' := T') ?_ ?_ R2 q.1.2.2.2
    · unfold F_142
      rw [ec, ox_r, e1, ob_s]
      dsimp only
      rw [ef, ob_s]
    · unfold F_261 F_259
      rw [em, ob_s]
      dsimp only
      rw [if_neg (by decide), e2, ob_s]
      dsimp only
      rw [ez, ob_s, ob_s]
/-- the points picked, on both sides -/
theorem pick (q : LQ Sc T') (e2 : F_239 T = some ((), T')) : ∃ Sc2 T2 g l, gN (nP T') (T'.2 153) g l ∧ F_5 Sc = some (nJ g, Sc2) ∧ F_263 T = some ((), T2) ∧ Ro Sc2 T2 ∧ GR T2 141 ∧ T2.1 140 34 = nJ g ∧ T2.1 140 0 = 0 ∧ (∀ j x, l[j]? = some x → Sc2.1 42 j = nJ x ∧ T2.1 159 j = nJ x) := by
  obtain ⟨⟨⟨c1, c2⟩, ⟨c3, c4, c5⟩, c6, c7⟩, m1, m2, m3⟩ := q.1.1.2.2.2.2.2.2 q.1.2.2.1.1
  have gg := LQ_g q
  obtain ⟨g, l, hg⟩ := gN_ex q.2.2.1.1 q.2.2.1.2.1
  have hgc : gN (nP T') (Sc.2 31) g l := gN_cg (fun p hp => (LQ_r q p hp).symm) hg
  have uni : ∀ {r g' l'}, SR T' r → gN (nP T') r g' l' → g' = g ∧ l' = l := fun r1 r2 => gN_u (gN_cg (fun p hp => SR_u (LQ_64 q) r1 q.2.2.1.2.1 hp) r2) hg
  have gr : gSa T' T' := gSa_rf
  -- the class
  have C : ∃ Sc2, F_5 Sc = some (nJ g, Sc2) ∧ Fp (fun a => a = 39 ∨ a = 41 ∨ a = 42) Sc Sc2 ∧ Ca Sc2 T' ∧ ∀ j x, l[j]? = some x → Sc2.1 42 j = nJ x := by
    by_cases h : Sc.1 39 8 = 0
    · obtain ⟨S2, e, f, o, k, w⟩ := F5_eq q.2.1 h hgc
      have n : ∀ a, ¬ (a = 39 ∨ a = 41 ∨ a = 42) → S2.1 a = Sc.1 a := fun a ha => (f a ha).1
      exact ⟨S2, e, f, ⟨⟨sgC_mv gr gg (by rw [n 30 (by omega)]) (f 31 (by omega)).2 c1, trK_mv gr gg (by rw [n 32 (by omega)]) (fun a h1 h2 => n a (by omega)) c2⟩, ⟨vsK_mv gr gg (o 6 (by omega)) c3, esK_mv gr gg (o 7 (by omega)) c4, Or.inr ⟨_, g, l, q.2.2.1.2.1, hg, k, w⟩⟩, wtK_mv gr gg (by rw [n 43 (by omega)]) (n 45 (by omega)) c6, hdK_mv gr gg (by rw [n 43 (by omega)]) c7⟩, w⟩
    · obtain ⟨r, g', l', r1, r2, r3, r4⟩ := c5.resolve_left h
      obtain ⟨rfl, rfl⟩ := uni r1 r2
      exact ⟨Sc, by unfold F_5; rw [if_neg h, r3], Fp.rf, ⟨⟨c1, c2⟩, ⟨c3, c4, c5⟩, c6, c7⟩, r4⟩
  -- the reference
  have D : ∃ T2, F_263 T = some ((), T2) ∧ Fm [159] [34] T' T2 ∧ T2.1 140 34 = nJ g ∧ Cm T2 ∧ ∀ j x, l[j]? = some x → T2.1 159 j = nJ x := by
    by_cases h : T'.1 140 34 = 0
    · obtain ⟨S2, e, f, w⟩ := M263_14 q.2.2.1 hg
      have fF : Fm [159] [34] T' (wI S2 140 34 (nJ g)) := (f.wk (by decide) (by decide)).tr (Fm_f (by decide))
      have gs : gSa T' (wI S2 140 34 (nJ g)) := gSa_fm fF (by decide) (by decide) (by decide) (by decide) (by decide) (by decide)
      have k34 : (wI S2 140 34 (nJ g)).1 140 34 = nJ g := by rw [wI_1, if_pos ⟨rfl, rfl⟩]
      have w' : ∀ j x, l[j]? = some x → (wI S2 140 34 (nJ g)).1 159 j = nJ x := fun j x hj => by rw [wI_1, if_neg (by omega)]; exact w j x hj
      refine ⟨_, ?_, fF, k34, ⟨KR_mv gs gg (fF.fld (by decide) (by decide)) (fF.rowL (by decide)) (fF.rowL (by decide)) m1, Or.inr (Or.inr ⟨T'.2 153, g, l, (gSa_SR gs gg).mpr q.2.2.1.2.1, by rw [gSa_nP gs gg]; exact hg, k34, w'⟩), mWK_mv gs gg (fF.fld (by decide) (by decide)) (fF.fld (by decide) (by decide)) (fF.row (by decide) (by decide)) m3⟩, w'⟩
      unfold F_263
      rw [e2, ob_s]
      dsimp only
      rw [h, if_neg (by decide), e, ob_s]
    · obtain ⟨r, g', l', r1, r2, r3, r4⟩ := (m2.resolve_left q.2.2.2.1).resolve_left h
      obtain ⟨rfl, rfl⟩ := uni r1 r2
      refine ⟨T', ?_, Fm.rf, r3, ⟨m1, m2, m3⟩, r4⟩
      unfold F_263
      rw [e2, ob_s]
      dsimp only
      rw [r3, if_pos (show (0 : Int32) < nJ _ from (nJ_lt (i := 0) (by omega) (by have := hg.2.1; omega)).mpr hg.1)]
  obtain ⟨Sc2, e5, f5, ca, w5⟩ := C
  obtain ⟨T2, e263, f263, k34, cm, w263⟩ := D
  have gs : gSa T' T2 := gSa_fm f263 (by decide) (by decide) (by decide) (by decide) (by decide) (by decide)
  refine ⟨Sc2, T2, g, l, hg, e5, e263, Ro_q q.1.1 (f5.wk (fun a ha => by unfold clq; omega)) (f263.wk (by decide) (by decide)) (fun _ => ⟨Ca_mv (P := fun _ => False) gs gg Fp.rf (fun _ _ _ z => z) ca, cm⟩), GR_r2 (f263.row (by decide) (by decide)) gg, k34, by rw [f263.fld (by decide) (by decide)]; exact q.1.2.2.2, fun j x hj => ⟨w5 j x hj, w263 j x hj⟩⟩
theorem a143 (R : Ro Sc Sm) (M : MOK Sm) : Agr E1 F_143 F_264 Sc Sm := by
  rcases zkP R M with ⟨ec, em, _⟩ | ⟨G, ec, em, _⟩
  · exact Agr_x R M (e := isE) (k := 1) (by simp [E1]) (by unfold F_143; rw [ec]; rfl) (by unfold F_264; rw [em]; rfl) tt_0 tt_F
  · obtain ⟨Sc', T', e1, e2, q, f1, f2⟩ := learn G
    obtain ⟨S2, T2, g, l, hg, e5, e263, R2, g2, k34, k0, w⟩ := pick q e2
    refine Agr_r (a := nJ g) (Sc' := S2) (Sm' := T2) ?_ ?_ R2 k0
    · unfold F_143
      rw [ec, ox_r, e1, ob_s]
      dsimp only
      rw [e5, ob_s]
    · unfold F_264
      rw [em, ob_s]
      dsimp only
      rw [if_neg (by decide), e263, ob_s, k34]
theorem a144 (R : Ro Sc Sm) (M : MOK Sm) (v : Int32) : Agr E12 (F_144 v) (F_265 v) Sc Sm := by
  rcases zkP R M with ⟨ec, em, _⟩ | ⟨G, ec, em, _⟩
  · exact Agr_x R M (e := isE) (k := 1) (by simp [E12]) (by unfold F_144; rw [ec]; rfl) (by unfold F_265; rw [em]; rfl) tt_0 tt_F
  · obtain ⟨Sc', T', e1, e2, q, f1, f2⟩ := learn G
    obtain ⟨S2, T2, g, l, hg, e5, e263, R2, g2, k34, k0, w⟩ := pick q e2
    have g4 := hg.2.1
    have C0 : F_144 v Sc = ox (F_175 v (nJ g) S2) (fun w4 w4s => ob (F_6 v w4s) (fun w5 => some (.inr w5, w4s))) := by
      unfold F_144
      rw [ec, ox_r, e1, ob_s]
      dsimp only
      rw [e5, ob_s]
    have M0 : F_265 v Sm = ob (F_183 (!(F_182 v 0 (nJ g - 1))) 2 T2) (fun w3 => if w3.1 = true then (some (0, w3.2)) else (ck (ibd v 4) (some (w3.2.1 159 (Int32.toNatClampNeg v), w3.2)))) := by
      unfold F_265
      rw [em, ob_s]
      dsimp only
      rw [if_neg (by decide), e263, ob_s, k34]
    rcases k2 (Sc := S2) k0 (n := g) (by omega) v 2 (by decide) with ⟨ei, ej⟩ | ⟨i, hi, rfl, ei, ej⟩
    · exact ⟨.inl ixE, 0, S2, wI T2 140 0 2, by rw [C0, ei]; rfl, by rw [M0, ej]; rfl, Ro_g R2 g2 (Fm_f (by decide)), Or.inl ⟨(ixE, 2), by simp [E12], rfl, by rw [wI_1, if_pos ⟨rfl, rfl⟩]⟩⟩
    · have hl := gpk_len hg.2.2.1
      have hx : l[i]? = some l[i] := List.getElem?_eq_getElem (by omega)
      obtain ⟨w1, w2⟩ := w i _ hx
      refine Agr_r (a := nJ l[i]) (Sc' := S2) (Sm' := T2) ?_ ?_ R2 k0
      · rw [C0, ei, ox_r]
        unfold F_6
        rw [if_neg (nJ_nn (by omega)), if_pos (show nJ i < 4 from (nJ_lt (j := 4) (by omega) (by omega)).mpr (by omega)), ck_t (ibd_n (by omega) (by omega)), nJ_ix (by omega), w1]
        rfl
      · rw [M0, ej, ob_s]
        dsimp only
        rw [if_neg (by decide), ck_t (ibd_n (by omega) (by omega)), nJ_ix (by omega), w2]
/-- the witnesses, on both sides -/
theorem wits (q : LQ Sc T') (e2 : F_239 T = some ((), T')) : ∃ Sc2 T2 g l, wN (nP T') (T'.2 153) g l ∧ F_81 Sc = some (nJ g, Sc2) ∧ F_267 T = some ((), T2) ∧ Ro Sc2 T2 ∧ GR T2 141 ∧ T2.1 140 36 = nJ g ∧ T2.1 140 0 = 0 ∧ (∀ j x, l[j]? = some x → Sc2.1 45 j = nJ x ∧ T2.1 160 j = nJ x) := by
  obtain ⟨⟨⟨c1, c2⟩, ⟨c3, c4, c5⟩, c6, c7⟩, m1, m2, m3⟩ := q.1.1.2.2.2.2.2.2 q.1.2.2.1.1
  have gg := LQ_g q
  have hp1 : 1 ≤ nP T' := by have := nP_3 q.2.2.1.1; omega
  obtain ⟨g, l, hg⟩ := wN_ex hp1 (T'.2 153)
  have hgc : wN (nP T') (Sc.2 31) g l := wN_cg (fun p hp => (LQ_r q p hp).symm) hg
  have uni : ∀ {r g' l'}, SR T' r → wN (nP T') r g' l' → g' = g ∧ l' = l := fun r1 r2 => wN_u (wN_cg (fun p hp => SR_u (LQ_64 q) r1 q.2.2.1.2.1 hp) r2) hg
  have gr : gSa T' T' := gSa_rf
  have C : ∃ Sc2, F_81 Sc = some (nJ g, Sc2) ∧ Fp (fun a => a = 43 ∨ a = 44 ∨ a = 45) Sc Sc2 ∧ Ca Sc2 T' ∧ ∀ j x, l[j]? = some x → Sc2.1 45 j = nJ x := by
    by_cases h : Sc.1 43 3 = 0
    · obtain ⟨S2, e, f, o, k, w⟩ := F81_eq q.2.1 h hgc
      have n : ∀ a, ¬ (a = 43 ∨ a = 44 ∨ a = 45) → S2.1 a = Sc.1 a := fun a ha => (f a ha).1
      exact ⟨S2, e, f, ⟨⟨sgC_mv gr gg (by rw [n 30 (by omega)]) (f 31 (by omega)).2 c1, trK_mv gr gg (by rw [n 32 (by omega)]) (fun a h1 h2 => n a (by omega)) c2⟩, ⟨vsK_mv gr gg (by rw [n 39 (by omega)]) c3, esK_mv gr gg (by rw [n 39 (by omega)]) c4, pkK_mv gr gg (by rw [n 39 (by omega)]) (n 42 (by omega)) c5⟩, Or.inr ⟨_, g, l, q.2.2.1.2.1, hg, k, w⟩, hdK_mv gr gg (o 4 (by omega)) c7⟩, w⟩
    · obtain ⟨r, g', l', r1, r2, r3, r4⟩ := c6.resolve_left h
      obtain ⟨rfl, rfl⟩ := uni r1 r2
      exact ⟨Sc, by unfold F_81; rw [if_neg h, r3], Fp.rf, ⟨⟨c1, c2⟩, ⟨c3, c4, c5⟩, c6, c7⟩, r4⟩
  have D : ∃ T2, F_267 T = some ((), T2) ∧ Fm [160] [36] T' T2 ∧ T2.1 140 36 = nJ g ∧ Cm T2 ∧ ∀ j x, l[j]? = some x → T2.1 160 j = nJ x := by
    by_cases h : T'.1 140 36 = 0
    · obtain ⟨S2, e, f, w⟩ := M267_14 q.2.2.1 hg
      have fF : Fm [160] [36] T' (wI S2 140 36 (nJ g)) := (f.wk (by decide) (by decide)).tr (Fm_f (by decide))
      have gs : gSa T' (wI S2 140 36 (nJ g)) := gSa_fm fF (by decide) (by decide) (by decide) (by decide) (by decide) (by decide)
      have k36 : (wI S2 140 36 (nJ g)).1 140 36 = nJ g := by rw [wI_1, if_pos ⟨rfl, rfl⟩]
      have w' : ∀ j x, l[j]? = some x → (wI S2 140 36 (nJ g)).1 160 j = nJ x := fun j x hj => by rw [wI_1, if_neg (by omega)]; exact w j x hj
      refine ⟨_, ?_, fF, k36, ⟨KR_mv gs gg (fF.fld (by decide) (by decide)) (fF.rowL (by decide)) (fF.rowL (by decide)) m1, mGK_mv gs gg (fF.fld (by decide) (by decide)) (fF.fld (by decide) (by decide)) (fF.row (by decide) (by decide)) m2, Or.inr (Or.inr ⟨T'.2 153, g, l, (gSa_SR gs gg).mpr q.2.2.1.2.1, by rw [gSa_nP gs gg]; exact hg, k36, w'⟩)⟩, w'⟩
      unfold F_267
      rw [e2, ob_s]
      dsimp only
      rw [h, if_neg (by decide), e, ob_s]
    · obtain ⟨r, g', l', r1, r2, r3, r4⟩ := (m3.resolve_left q.2.2.2.1).resolve_left h
      obtain ⟨rfl, rfl⟩ := uni r1 r2
      refine ⟨T', ?_, Fm.rf, r3, ⟨m1, m2, m3⟩, r4⟩
      unfold F_267
      rw [e2, ob_s]
      dsimp only
      rw [r3, if_pos (show (0 : Int32) < nJ _ from (nJ_lt (i := 0) (by omega) (by have := hg.2.1; omega)).mpr hg.1)]
  obtain ⟨Sc2, e5, f5, ca, w5⟩ := C
  obtain ⟨T2, e263, f263, k34, cm, w263⟩ := D
  have gs : gSa T' T2 := gSa_fm f263 (by decide) (by decide) (by decide) (by decide) (by decide) (by decide)
  refine ⟨Sc2, T2, g, l, hg, e5, e263, Ro_q q.1.1 (f5.wk (fun a ha => by unfold clq; omega)) (f263.wk (by decide) (by decide)) (fun _ => ⟨Ca_mv (P := fun _ => False) gs gg Fp.rf (fun _ _ _ z => z) ca, cm⟩), GR_r2 (f263.row (by decide) (by decide)) gg, k34, by rw [f263.fld (by decide) (by decide)]; exact q.1.2.2.2, fun j x hj => ⟨w5 j x hj, w263 j x hj⟩⟩
theorem a145 (R : Ro Sc Sm) (M : MOK Sm) : Agr E1 F_145 F_268 Sc Sm := by
  rcases zkP R M with ⟨ec, em, _⟩ | ⟨G, ec, em, _⟩
  · exact Agr_x R M (e := isE) (k := 1) (by simp [E1]) (by unfold F_145; rw [ec]; rfl) (by unfold F_268; rw [em]; rfl) tt_0 tt_F
  · obtain ⟨Sc', T', e1, e2, q, f1, f2⟩ := learn G
    obtain ⟨S2, T2, g, l, hg, e5, e263, R2, g2, k34, k0, w⟩ := wits q e2
    refine Agr_r (a := nJ g) (Sc' := S2) (Sm' := T2) ?_ ?_ R2 k0
    · unfold F_145
      rw [ec, ox_r, e1, ob_s]
      dsimp only
      rw [e5, ob_s]
    · unfold F_268
      rw [em, ob_s]
      dsimp only
      rw [if_neg (by decide), e263, ob_s, k34]
theorem a146 (R : Ro Sc Sm) (M : MOK Sm) (v : Int32) : Agr E12 (F_146 v) (F_269 v) Sc Sm := by
  rcases zkP R M with ⟨ec, em, _⟩ | ⟨G, ec, em, _⟩
  · exact Agr_x R M (e := isE) (k := 1) (by simp [E12]) (by unfold F_146; rw [ec]; rfl) (by unfold F_269; rw [em]; rfl) tt_0 tt_F
  · obtain ⟨Sc', T', e1, e2, q, f1, f2⟩ := learn G
    obtain ⟨S2, T2, g, l, hg, e5, e263, R2, g2, k34, k0, w⟩ := wits q e2
    have g4 := hg.2.1
    have C0 : F_146 v Sc = ox (F_175 v (nJ g) S2) (fun w4 w4s => ob (F_82 v w4s) (fun w5 => some (.inr w5, w4s))) := by
      unfold F_146
      rw [ec, ox_r, e1, ob_s]
      dsimp only
      rw [e5, ob_s]
    have M0 : F_269 v Sm = ob (F_183 (!(F_182 v 0 (nJ g - 1))) 2 T2) (fun w3 => if w3.1 = true then (some (0, w3.2)) else (ck (ibd v 4) (some (w3.2.1 160 (Int32.toNatClampNeg v), w3.2)))) := by
      unfold F_269
      rw [em, ob_s]
      dsimp only
      rw [if_neg (by decide), e263, ob_s, k34]
    rcases k2 (Sc := S2) k0 (n := g) (by omega) v 2 (by decide) with ⟨ei, ej⟩ | ⟨i, hi, rfl, ei, ej⟩
    · exact ⟨.inl ixE, 0, S2, wI T2 140 0 2, by rw [C0, ei]; rfl, by rw [M0, ej]; rfl, Ro_g R2 g2 (Fm_f (by decide)), Or.inl ⟨(ixE, 2), by simp [E12], rfl, by rw [wI_1, if_pos ⟨rfl, rfl⟩]⟩⟩
    · have hl := wpk_len hg.2.2.1
      have hx : l[i]? = some l[i] := List.getElem?_eq_getElem (by omega)
      obtain ⟨w1, w2⟩ := w i _ hx
      refine Agr_r (a := nJ l[i]) (Sc' := S2) (Sm' := T2) ?_ ?_ R2 k0
      · rw [C0, ei, ox_r]
        unfold F_82
        rw [if_neg (nJ_nn (by omega)), if_pos (show nJ i < 4 from (nJ_lt (j := 4) (by omega) (by omega)).mpr (by omega)), ck_t (ibd_n (by omega) (by omega)), nJ_ix (by omega), w1]
        rfl
      · rw [M0, ej, ob_s]
        dsimp only
        rw [if_neg (by decide), ck_t (ibd_n (by omega) (by omega)), nJ_ix (by omega), w2]
theorem hids (q : LQ Sc T) : ∃ k Sc2, hmx (T.2 153) (aL (nP T)) k ∧ F_84 Sc = some (nJ k, Sc2) ∧ Ro Sc2 T := by
  obtain ⟨⟨⟨c1, c2⟩, ⟨c3, c4, c5⟩, c6, c7⟩, cm⟩ := q.1.1.2.2.2.2.2.2 q.1.2.2.1.1
  have gg := LQ_g q
  have h64 := LQ_64 q
  obtain ⟨k, hk⟩ := hmx_ex (T.2 153) (aL (nP T))
  have hkc : hmx (Sc.2 31) (aL (nP T)) k := hmx_cg (aL_of h64) (fun p hp => (LQ_r q p hp).symm) hk
  by_cases h : Sc.1 43 4 = 0
  · have e := F84_eq q.2.1 h hkc
    have gr : gSa T T := gSa_rf
    have f : Fp (fun a => a = 43) Sc (wI Sc 43 4 (nJ k)) := Fp_I rfl
    have n : ∀ a, ¬ a = 43 → (wI Sc 43 4 (nJ k)).1 a = Sc.1 a := fun a ha => (f a ha).1
    refine ⟨k, _, hk, e, Ro_q q.1.1 (f.wk (fun a ha => by unfold clq; omega)) Fm.rf (fun _ => ⟨⟨⟨sgC_mv gr gg (by rw [n 30 (by omega)]) (f 31 (by omega)).2 c1, trK_mv gr gg (by rw [n 32 (by omega)]) (fun a h1 h2 => n a (by omega)) c2⟩, ⟨vsK_mv gr gg (by rw [n 39 (by omega)]) c3, esK_mv gr gg (by rw [n 39 (by omega)]) c4, pkK_mv gr gg (by rw [n 39 (by omega)]) (n 42 (by omega)) c5⟩, wtK_mv gr gg (by rw [wI_1, if_neg (by decide)]) (n 45 (by omega)) c6, Or.inr ⟨_, k, q.2.2.1.2.1, hk, by rw [wI_1, if_pos ⟨rfl, rfl⟩]⟩⟩, cm⟩)⟩
  · obtain ⟨r, k', r1, r2, r3⟩ := c7.resolve_left h
    have kk : k' = k := hmx_u (hmx_cg (aL_of h64) (fun p hp => SR_u h64 r1 q.2.2.1.2.1 hp) r2) hk
    subst kk
    exact ⟨k', Sc, hk, by unfold F_84; rw [if_neg h, r3], q.1.1⟩
theorem a147 (R : Ro Sc Sm) (M : MOK Sm) : Agr E1 F_147 F_273 Sc Sm := by
  rcases zkP R M with ⟨ec, em, _⟩ | ⟨G, ec, em, _⟩
  · exact Agr_x R M (e := isE) (k := 1) (by simp [E1]) (by unfold F_147; rw [ec]; rfl) (by unfold F_273; rw [em]; rfl) tt_0 tt_F
  · obtain ⟨Sc', T', e1, e2, q, f1, f2⟩ := learn G
    obtain ⟨k, S2, hk, e84, R2⟩ := hids q
    obtain ⟨T2, e272, f272, k38⟩ := M272_eq q.2.2.1 hk
    refine Agr_r (a := nJ k) (Sc' := S2) (Sm' := T2) ?_ ?_ (Ro_g R2 (LQ_g q) (f272.wk (by decide) (by decide))) (by rw [f272.fld (by decide) (by decide)]; exact q.1.2.2.2)
    · unfold F_147
      rw [ec, ox_r, e1, ob_s]
      dsimp only
      rw [e84, ob_s]
    · unfold F_273
      rw [em, ob_s]
      dsimp only
      rw [if_neg (by decide), e2, ob_s]
      dsimp only
      rw [e272, ob_s, k38]
end Cv
