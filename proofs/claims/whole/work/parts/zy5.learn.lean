/-! both learn sight; questions of sight -/
/-- both have learned sight -/
def LQ (Sc T : ST) : Prop := GO Sc T ∧ CSz Sc T ∧ MS T ∧ ¬ T.1 140 27 = 0 ∧ F_239 T = some ((), T)
section Ln
variable {Sc T T' Sc' Sm : ST}
theorem Sv_SR (hL : Ld T) (h : SR T (T.2 153)) : Sv T := by
  intro p hp
  have h64 := (Ld_P hL).2
  refine ⟨fun q hq => ?_, (h p hp p (by omega)).mpr ⟨hp, sees_refl (pt_cl hL hp)⟩, fun q hq z => (h p hp q (by omega)).mpr ⟨hq, z⟩⟩
  rcases Nat.lt_or_ge q 64 with w | w
  · exact ((h p hp q w).mp hq).1
  · rw [bz_big w] at hq; cases hq
theorem learn_c (G : GO Sc T) : ∃ Sc', F_66 Sc = some ((), Sc') ∧ Fp (fun a => a = 30 ∨ a = 31) Sc Sc' ∧ Ca Sc' T ∧ SR T (Sc'.2 31) ∧ (∀ a, nP T ≤ a → a < 64 → Sc'.2 31 a = 0) ∧ ¬ Sc'.1 30 3 = 0 := by
  obtain ⟨R, M, Y, -⟩ := G
  have hx := Y.2.1
  obtain ⟨⟨c1, c2⟩, ⟨c3, c4, c5⟩, c6, c7⟩ := (R.2.2.2.2.2.2 Y.1).1
  by_cases h : Sc.1 30 3 = 0
  · obtain ⟨S', e, f, f3, k1, s1, s2⟩ := F66_eq hx h
    have g := Y.2.2.2.1
    have o : ∀ a, 32 ≤ a → S'.1 a = Sc.1 a := fun a ha => (f a (by omega)).1
    have gr : gSa T T := gSa_rf
    refine ⟨S', e, f, ⟨⟨Or.inr ⟨s1, s2⟩, trK_mv gr g (by rw [o 32 (by omega)]) (fun a h1 h2 => o a (by omega)) c2⟩, ⟨vsK_mv gr g (by rw [o 39 (by omega)]) c3, esK_mv gr g (by rw [o 39 (by omega)]) c4, pkK_mv gr g (by rw [o 39 (by omega)]) (o 42 (by omega)) c5⟩, wtK_mv gr g (by rw [o 43 (by omega)]) (o 45 (by omega)) c6, hdK_mv gr g (by rw [o 43 (by omega)]) c7⟩, s1, s2, by rw [k1]; decide⟩
  · obtain ⟨s1, s2⟩ := c1.resolve_left h
    exact ⟨Sc, by unfold F_66; rw [if_neg h], Fp.rf, ⟨⟨c1, c2⟩, ⟨c3, c4, c5⟩, c6, c7⟩, s1, s2, h⟩
theorem learn (G : GO Sc T) : ∃ Sc' T', F_66 Sc = some ((), Sc') ∧ F_239 T = some ((), T') ∧ LQ Sc' T' ∧ Fp (fun a => a = 30 ∨ a = 31) Sc Sc' ∧ Fm [150, 151, 152, 153, 154] [27, 34, 36] T T' := by
  obtain ⟨Sc', e, f, ca, s1, s2, n3⟩ := learn_c G
  obtain ⟨R, M, Y, h0⟩ := G
  have hL := Y.2.1.2.2.1
  have g := Y.2.2.2.1
  obtain ⟨k1, k2, k3⟩ := (R.2.2.2.2.2.2 Y.1).2
  obtain ⟨T', e', f', ms, n27, id', alt⟩ := lay hL k1
  have gs : gSa T T' := gSa_fm f' (by decide) (by decide) (by decide) (by decide) (by decide) (by decide)
  have hLT := ms.1
  have M' : MOK T' := by
    rcases alt with ⟨_, a, b⟩ | ⟨_, rfl⟩
    · exact MOK_Q M (f'.wk (by decide) (by decide)) (fun _ => Sv_SR hLT ms.2.1) ⟨0, a, by omega⟩ ⟨0, b, by omega⟩
    · exact M
  have cm : Cm T' := by
    refine ⟨Or.inr ms.2, ?_, ?_⟩
    · rcases alt with ⟨_, a, b⟩ | ⟨_, rfl⟩
      · exact Or.inr (Or.inl a)
      · exact k2
    · rcases alt with ⟨_, a, b⟩ | ⟨_, rfl⟩
      · exact Or.inr (Or.inl b)
      · exact k3
  have ca' : Ca Sc' T' := Ca_mv (P := fun _ => False) gs g Fp.rf (fun _ _ _ z => z) ca
  have R' : Ro Sc' T' := Ro_q R (f.wk (fun a ha => by unfold clq; omega)) (f'.wk (by decide) (by decide)) (fun _ => ⟨ca', cm⟩)
  have Y' : PY Sc' T' := PY_of R' M' (by rw [f'.fld (by decide) (by decide)]; exact Y.1)
  exact ⟨Sc', T', e, e', ⟨⟨R', M', Y', by rw [f'.fld (by decide) (by decide)]; exact h0⟩, ⟨Y'.2.1, (gSa_SR gs g).mpr s1, by rw [gSa_nP gs g]; exact s2⟩, ms, n27, id'⟩, f, f'⟩
theorem LQ_r (q : LQ Sc T) : ∀ p, p < nP T → Sc.2 31 p = T.2 153 p := fun p hp => SR_u (Ld_P q.2.2.1.1).2 q.2.1.2.1 q.2.2.1.2.1 hp
/-- the reference's scratch has moved -/
theorem Ro_m (R : Ro Sc T) (M : MOK T) (hF : Fm [155, 156, 157, 158] [0, 38] T T') : Ro Sc T' := by
  refine Ro_q R Fp.rf (hF.wk (by decide) (by decide)) (fun q => ?_)
  have hL := (M.2.1 q).1
  have g : gSa T T' := gSa_fm hF (by decide) (by decide) (by decide) (by decide) (by decide) (by decide)
  obtain ⟨c1, c2⟩ := R.2.2.2.2.2.2 q
  exact ⟨Ca_mv (P := fun _ => False) g hL.1 Fp.rf (fun _ _ _ z => z) c1, Cm_mv g hL.1 hF (by decide) (by decide) (by decide) (by decide) (by decide) (by decide) (by decide) (by decide) c2⟩
theorem wh_cg {A B : Type} {f : A → Option (A ⊕ B)} {a a' : A} (h : f a = f a') : ∀ n, wh n f a = wh n f a'
  | 0 => rfl
  | n + 1 => by unfold wh; rw [h]
theorem dst_cg {r r' : Nat → Int64} (h : ∀ p, p < nP T → r p = r' p) {p q k : Nat} (d : dst T r p q k) : dst T r' p q k := ⟨by rw [← rch_cong h]; exact d.1, fun j hj => by rw [← rch_cong h]; exact d.2 j hj⟩
theorem a131 (R : Ro Sc Sm) (M : MOK Sm) (v : Int32) : Agr E12 (F_131 v) (F_242 v) Sc Sm := by
  rcases kPt R M v with ⟨ec, em⟩ | ⟨ec, ei, em⟩ | ⟨i, T, rfl, hi, G, ec, ei, em, f⟩
  · exact Agr_x R M (e := isE) (k := 1) (by simp [E12]) (by unfold F_131; rw [ec]; rfl) (by unfold F_242; rw [em]; rfl) tt_0 tt_F
  · exact Agr_x R M (e := ixE) (k := 2) (by simp [E12]) (by unfold F_131; rw [ec, ox_r, ei]; rfl) (by unfold F_242; rw [em]; rfl) tt_0 tt_F
  · obtain ⟨Sc', T', e1, e2, q, f1, f2⟩ := learn G
    have h64 := (PY_n G.2.2.1).2.2.2.2.1
    have hi' : i < nP T' := by
      rw [gSa_nP (gSa_fm f2 (by decide) (by decide) (by decide) (by decide) (by decide) (by decide)) G.2.2.1.2.2.2.1]; exact hi
    refine Agr_r (a := T'.2 153 i) (Sc' := Sc') (Sm' := T') ?_ ?_ q.1.1 q.1.2.2.2
    · unfold F_131
      rw [ec, ox_r, ei, ox_r, e1, ob_s]
      dsimp only
      rw [F73_eq Sc' (by omega), ob_s, LQ_r q i hi']
    · unfold F_242
      rw [em, ob_s]
      dsimp only
      rw [if_neg (by decide), e2, ob_s]
      dsimp only
      rw [ck_t (ibd_n (by omega) (by omega)), nJ_ix (by omega)]
theorem a130 (R : Ro Sc Sm) (M : MOK Sm) (v w : Int32) : Agr E12 (F_130 v w) (F_241 v w) Sc Sm := by
  rcases kPt R M v with ⟨ec, em⟩ | ⟨ec, ei, em⟩ | ⟨i, T, rfl, hi, G, ec, ei, em, f⟩
  · exact Agr_x R M (e := isE) (k := 1) (by simp [E12]) (by unfold F_130; rw [ec]; rfl) (by unfold F_241; rw [em]; rfl) tt_0 tt_F
  · exact Agr_x R M (e := ixE) (k := 2) (by simp [E12]) (by unfold F_130; rw [ec, ox_r, ei]; rfl) (by unfold F_241; rw [em]; rfl) tt_0 tt_F
  · obtain ⟨_, n1, n2, n3, n4, hL⟩ := PY_n G.2.2.1
    rcases k2 (Sc := Sc) G.2.2.2 (n := nP T) (by omega) w 2 (by decide) with ⟨ej, em2⟩ | ⟨j, hj, rfl, ej, em2⟩
    · refine Agr_x (Sm' := wI T 140 0 2) R M (e := ixE) (k := 2) (by simp [E12]) (by unfold F_130; rw [ec, ox_r, ei, ox_r, n1, ej]; rfl) (z := false) ?_ (by rw [wI_1, if_pos ⟨rfl, rfl⟩]) (f.tr (Fm_f (by decide)))
      unfold F_241
      rw [em, ob_s]
      dsimp only
      rw [if_neg (by decide), n2, em2]
      rfl
    · obtain ⟨Sc', T', e1, e2, q, f1, f2⟩ := learn G
      have hi' : i < nP T' := by
        rw [gSa_nP (gSa_fm f2 (by decide) (by decide) (by decide) (by decide) (by decide) (by decide)) G.2.2.1.2.2.2.1]; exact hi
      refine Agr_r (a := bz (T'.2 153 i) j) (Sc' := Sc') (Sm' := T') ?_ ?_ q.1.1 q.1.2.2.2
      · unfold F_130
        rw [ec, ox_r, ei, ox_r, n1, ej, ox_r, e1, ob_s]
        dsimp only
        rw [F73_eq Sc' (by omega), ob_s, LQ_r q i hi', has177 _ (by omega)]
      · unfold F_241
        rw [em, ob_s]
        dsimp only
        rw [if_neg (by decide), n2, em2, ob_s]
        dsimp only
        rw [if_neg (by decide), e2, ob_s]
        dsimp only
        rw [ck_t (ibd_n (by omega) (by omega)), nJ_ix (by omega), show F_217 (T'.2 153 i) (nJ j) = bz (T'.2 153 i) j from has_t _ (by omega)]
theorem a132 (R : Ro Sc Sm) (M : MOK Sm) : Agr E1 F_132 F_243 Sc Sm := by
  rcases zkP R M with ⟨ec, em, _⟩ | ⟨G, ec, em, _⟩
  · exact Agr_x R M (e := isE) (k := 1) (by simp [E1]) (by unfold F_132; rw [ec]; rfl) (by unfold F_243; rw [em]; rfl) tt_0 tt_F
  · obtain ⟨Sc', T', e1, e2, q, f1, f2⟩ := learn G
    refine Agr_r (a := sSz (nP T') (fun p => decide (T'.2 153 p = aL (nP T')))) (Sc' := Sc') (Sm' := T') ?_ ?_ q.1.1 q.1.2.2.2
    · unfold F_132
      rw [ec, ox_r, e1, ob_s]
      dsimp only
      rw [F76_eq q.2.1, ob_s, sS_cong (c := fun p => decide (Sc'.2 31 p = aL (nP T'))) (c' := fun p => decide (T'.2 153 p = aL (nP T'))) (fun p hp => by rw [LQ_r q p hp])]
    · unfold F_243
      rw [em, ob_s]
      dsimp only
      rw [if_neg (by decide), e2, ob_s]
      dsimp only
      rw [M243_eq q.2.2.1, ob_s]
theorem a133 (R : Ro Sc Sm) (M : MOK Sm) (v w : Int32) : Agr E12 (F_133 v w) (F_245 v w) Sc Sm := by
  rcases kPt R M v with ⟨ec, em⟩ | ⟨ec, ei, em⟩ | ⟨i, T, rfl, hi, G, ec, ei, em, f⟩
  · exact Agr_x R M (e := isE) (k := 1) (by simp [E12]) (by unfold F_133; rw [ec]; rfl) (by unfold F_245; rw [em]; rfl) tt_0 tt_F
  · exact Agr_x R M (e := ixE) (k := 2) (by simp [E12]) (by unfold F_133; rw [ec, ox_r, ei]; rfl) (by unfold F_245; rw [em]; rfl) tt_0 tt_F
  · obtain ⟨_, n1, n2, n3, n4, hL⟩ := PY_n G.2.2.1
    rcases k2 (Sc := Sc) G.2.2.2 (n := nP T) (by omega) w 2 (by decide) with ⟨ej, em2⟩ | ⟨j, hj, rfl, ej, em2⟩
    · refine Agr_x (Sm' := wI T 140 0 2) R M (e := ixE) (k := 2) (by simp [E12]) (by unfold F_133; rw [ec, ox_r, ei, ox_r, n1, ej]; rfl) (z := 0) ?_ (by rw [wI_1, if_pos ⟨rfl, rfl⟩]) (f.tr (Fm_f (by decide)))
      unfold F_245
      rw [em, ob_s]
      dsimp only
      rw [if_neg (by decide), n2, em2]
      rfl
    · obtain ⟨Sc', T', e1, e2, q, f1, f2⟩ := learn G
      have eP := gSa_nP (gSa_fm f2 (by decide) (by decide) (by decide) (by decide) (by decide) (by decide)) G.2.2.1.2.2.2.1
      have hi' : i < nP T' := by rw [eP]; exact hi
      have hj' : j < nP T' := by rw [eP]; exact hj
      obtain ⟨k, k64, dk, e77⟩ := F77_eq q.2.1 hi' hj'
      obtain ⟨T2, e244, f244, w244⟩ := F244_D q.2.2.1 q.2.2.2.1 hi'
      obtain ⟨k', k64', ek', dk'⟩ := w244 j hj'
      have kk : k = k' := dst_u (dst_cg (LQ_r q) dk) dk'
      subst kk
      have hD := dpt_ok q.2.2.1.1 q.2.2.1.2.1 hi'
      have nz : ¬ nJ (dpt T' (T'.2 153) i) = 0 := fun z => by
        have := (nJ_eq (j := 0) (by have := hD.2.1; omega) (by omega)).mp z
        have := hD.1
        omega
      refine Agr_r (a := nJ k) (Sc' := Sc') (Sm' := T2) ?_ ?_ (Ro_m q.1.1 q.1.2.1 (f244.wk (by decide) (by decide))) (by rw [f244.fld (by decide) (by decide)]; exact q.1.2.2.2)
      · unfold F_133
        rw [ec, ox_r, ei, ox_r, n1, ej, ox_r, e1, ob_s]
        dsimp only
        rw [e77, ob_s]
      · unfold F_245
        rw [em, ob_s]
        dsimp only
        rw [if_neg (by decide), n2, em2, ob_s]
        dsimp only
        rw [if_neg (by decide), F244_lay e2 q.2.2.2.2, e244, ob_s]
        dsimp only
        rw [if_neg nz, ck_t (ibd_n (by omega) (by omega)), nJ_ix (by omega), ek']
theorem a134 (R : Ro Sc Sm) (M : MOK Sm) : Agr E1 F_134 F_246 Sc Sm := by
  rcases zkP R M with ⟨ec, em, _⟩ | ⟨G, ec, em, _⟩
  · exact Agr_x R M (e := isE) (k := 1) (by simp [E1]) (by unfold F_134; rw [ec]; rfl) (by unfold F_246; rw [em]; rfl) tt_0 tt_F
  · obtain ⟨Sc', T', e1, e2, q, f1, f2⟩ := learn G
    obtain ⟨T2, e246, f246⟩ := M246_13 q.2.2.1 q.2.2.2.1
    obtain ⟨_, n1, n2, n3, n4, hL⟩ := PY_n G.2.2.1
    have st : Lm_246_13 (0, 0, t0 Sm) = Lm_246_13 (0, 0, T') := by
      unfold Lm_246_13
      dsimp only
      rw [F244_lay e2 q.2.2.2.2, f2.fld (k := 20) (by decide) (by decide)]
      by_cases c : (0 : Int32) < (t0 Sm).1 140 20
      · rw [if_pos c, if_pos c]
      · exact absurd (by rw [n2]; exact (nJ_lt (i := 0) (by omega) (by omega)).mpr (by omega)) c
    refine Agr_r (a := fr (mxF (dpt T' (T'.2 153))) 0 (nP T') 0) (Sc' := Sc') (Sm' := T2) ?_ ?_ (Ro_m q.1.1 q.1.2.1 (f246.wk (by decide) (by decide))) (by rw [f246.fld (by decide) (by decide)]; exact q.1.2.2.2)
    · unfold F_134
      rw [ec, ox_r, e1, ob_s]
      dsimp only
      rw [F79_eq q.2.1, ob_s, fr_eq (f := mxF (dpt T' (Sc'.2 31))) (g := mxF (dpt T' (T'.2 153))) (fun i a hi => by unfold mxF; rw [dpt_cg rfl (fun p hp => (LQ_r q p hp).symm) i])]
    · unfold F_246
      rw [em, ob_s]
      dsimp only
      rw [if_neg (by decide), wh_cg st, e246, ob_s]
theorem a135 (R : Ro Sc Sm) (M : MOK Sm) (v : Int32) : Agr E12 (F_135 v) (F_247 v) Sc Sm := by
  rcases kPt R M v with ⟨ec, em⟩ | ⟨ec, ei, em⟩ | ⟨i, T, rfl, hi, G, ec, ei, em, f⟩
  · exact Agr_x R M (e := isE) (k := 1) (by simp [E12]) (by unfold F_135; rw [ec]; rfl) (by unfold F_247; rw [em]; rfl) tt_0 tt_F
  · exact Agr_x R M (e := ixE) (k := 2) (by simp [E12]) (by unfold F_135; rw [ec, ox_r, ei]; rfl) (by unfold F_247; rw [em]; rfl) tt_0 tt_F
  · obtain ⟨Sc', T', e1, e2, q, f1, f2⟩ := learn G
    have eP := gSa_nP (gSa_fm f2 (by decide) (by decide) (by decide) (by decide) (by decide) (by decide)) G.2.2.1.2.2.2.1
    have hi' : i < nP T' := by rw [eP]; exact hi
    obtain ⟨u, u1, u2, u3, e78⟩ := F78_eq q.2.1 hi'
    obtain ⟨T2, e244, f244, w244⟩ := F244_D q.2.2.1 q.2.2.2.1 hi'
    have eD : dpt T' (Sc'.2 31) i = dpt T' (T'.2 153) i := dpt_cg rfl (LQ_r q) i
    obtain ⟨u', u1', u2', u3', e247⟩ := M247_18 q.2.2.1 (S1 := T2) hi' (dpt_ok q.2.2.1.1 q.2.2.1.2.1 hi') w244 (nJ i)
    rw [eD] at u2 u3
    have uu : u = u' := by
      rcases Nat.lt_trichotomy u u' with z | z | z
      · exact absurd (dst_cg (LQ_r q) u2) (u3' u z)
      · exact z
      · exact absurd (dst_cg (fun p hp => (LQ_r q p hp).symm) u2') (u3 u' z)
    subst uu
    refine Agr_r (a := nJ u) (Sc' := Sc') (Sm' := T2) ?_ ?_ (Ro_m q.1.1 q.1.2.1 (f244.wk (by decide) (by decide))) (by rw [f244.fld (by decide) (by decide)]; exact q.1.2.2.2)
    · unfold F_135
      rw [ec, ox_r, ei, ox_r, e1, ob_s]
      dsimp only
      rw [e78, ob_s]
    · unfold F_247
      rw [em, ob_s]
      dsimp only
      rw [if_neg (by decide), F244_lay e2 q.2.2.2.2, e244, ob_s]
      dsimp only
      rw [e247, ob_s]
theorem a136 (R : Ro Sc Sm) (M : MOK Sm) (v : Int32) : Agr E12 (F_136 v) (F_248 v) Sc Sm := by
  rcases kVt R M v with ⟨ec, em⟩ | ⟨ec, ei, em⟩ | ⟨i, T, rfl, hi, G, ec, ei, em, f⟩
  · exact Agr_x R M (e := isE) (k := 1) (by simp [E12]) (by unfold F_136; rw [ec]; rfl) (by unfold F_248; rw [em]; rfl) tt_0 tt_F
  · exact Agr_x R M (e := ixE) (k := 2) (by simp [E12]) (by unfold F_136; rw [ec, ox_r, ei]; rfl) (by unfold F_248; rw [em]; rfl) tt_0 tt_F
  · obtain ⟨Sc', T', e1, e2, q, f1, f2⟩ := learn G
    have h12 := (PY_n G.2.2.1).1.2.2.2
    have eN := gSa_N (gSa_fm f2 (by decide) (by decide) (by decide) (by decide) (by decide) (by decide))
    have hi' : i < rN T' 141 := by rw [eN]; exact hi
    obtain ⟨u, e75, w⟩ := F75_eq q.2.1 hi'
    have uu : u = T'.2 154 i := bz_ext (fun z hz => by
      have a := w z hz
      have b := q.2.2.1.2.2 i hi' z hz
      have ab : bz u z = true ↔ bz (T'.2 154 i) z = true := by
        rw [a, b]
        constructor
        · rintro ⟨p, p1, p2, p3⟩; exact ⟨p, p1, p2, by rw [← LQ_r q p p1]; exact p3⟩
        · rintro ⟨p, p1, p2, p3⟩; exact ⟨p, p1, p2, by rw [LQ_r q p p1]; exact p3⟩
      cases h1 : bz u z <;> cases h2 : bz (T'.2 154 i) z <;> simp_all)
    refine Agr_r (a := T'.2 154 i) (Sc' := Sc') (Sm' := T') ?_ ?_ q.1.1 q.1.2.2.2
    · unfold F_136
      rw [ec, ox_r, ei, ox_r, e1, ob_s]
      dsimp only
      rw [e75, ob_s, uu]
    · unfold F_248
      rw [em, ob_s]
      dsimp only
      rw [if_neg (by decide), e2, ob_s]
      dsimp only
      rw [ck_t (ibd_n (by omega) (by omega)), nJ_ix (by omega)]
end Ln
