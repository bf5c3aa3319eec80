/-! questions of the present guards; a row is drawn -/
section Wq
variable {Sc T T' Sc' Sm : ST}
theorem LQ_w (q : LQ Sc T) : CSG Sc T ∧ GTh T 141 ∧ Qp T ∧ Ld T ∧ (1 ≤ nP T) ∧ ∀ p, p < nP T → Sc.2 31 p = T.2 153 p := by
  have Y := q.1.2.2.1
  exact ⟨⟨q.2.1, Y.2.2.1, Y.2.2.2⟩, Y.2.2.2, ⟨q.1.2.1, Y.1⟩, q.2.2.1.1, by have := nP_3 q.2.2.1.1; omega, LQ_r q⟩
theorem F277_lay {v : Int32} (e : F_239 T = some ((), T')) (e' : F_239 T' = some ((), T')) : F_277 v T = F_277 v T' := by
  unfold F_277
  rw [e, e']
theorem cG_f (f : Fm [150, 151, 152, 153, 154] [27, 34, 36] T T') : cG T' = cG T := by unfold cG; rw [f.row (by decide) (by decide)]
theorem nP_f (f : Fm [150, 151, 152, 153, 154] [27, 34, 36] T T') (g : GR T 141) : nP T' = nP T := gSa_nP (gSa_fm f (by decide) (by decide) (by decide) (by decide) (by decide) (by decide)) g
theorem a151 (R : Ro Sc Sm) (M : MOK Sm) (v : Int32) : Agr E12 (F_151 v) (F_280 v) Sc Sm := by
  rcases kGt R M v with ⟨ec, em⟩ | ⟨ec, ei, em⟩ | ⟨i, T, rfl, hi, G, ec, ei, em, f⟩
  · exact Agr_x R M (e := isE) (k := 1) (by simp [E12]) (by unfold F_151; rw [ec]; rfl) (by unfold F_280; rw [em]; rfl) tt_0 tt_F
  · exact Agr_x R M (e := ixE) (k := 2) (by simp [E12]) (by unfold F_151; rw [ec, ox_r, ei]; rfl) (by unfold F_280; rw [em]; rfl) tt_0 tt_F
  · obtain ⟨Sc', T', e1, e2, q, f1, f2⟩ := learn G
    obtain ⟨w1, w2, w3, w4, w5, w6⟩ := LQ_w q
    have hi' : i < cG T' := by rw [cG_f f2]; exact hi
    refine Agr_r (a := wG T' (T'.2 153) i) (Sc' := Sc') (Sm' := T') ?_ ?_ q.1.1 q.1.2.2.2
    · unfold F_151
      rw [ec, ox_r, ei, ox_r, e1, ob_s]
      dsimp only
      rw [F107_eq w1 hi', ob_s, wG_cg w4 w2 w6 hi']
    · unfold F_280
      rw [em, ob_s]
      dsimp only
      rw [if_neg (by decide), e2, ob_s]
      dsimp only
      rw [F276_eq q.2.2.1 w2 hi', ob_s]
theorem a152 (R : Ro Sc Sm) (M : MOK Sm) : Agr E1 F_152 F_281 Sc Sm := by
  rcases zkP R M with ⟨ec, em, _⟩ | ⟨G, ec, em, _⟩
  · exact Agr_x R M (e := isE) (k := 1) (by simp [E1]) (by unfold F_152; rw [ec]; rfl) (by unfold F_281; rw [em]; rfl) tt_0 tt_F
  · obtain ⟨Sc', T', e1, e2, q, f1, f2⟩ := learn G
    obtain ⟨w1, w2, w3, w4, w5, w6⟩ := LQ_w q
    have eP := nP_f f2 G.2.2.1.2.2.2.1
    refine Agr_r (a := aL (nP T') &&& (uW T' (T'.2 153) (-1) ^^^ (-1))) (Sc' := Sc') (Sm' := T') ?_ ?_ q.1.1 q.1.2.2.2
    · unfold F_152
      rw [ec, ox_r, e1, ob_s]
      dsimp only
      rw [F108_eq w1, ob_s, F21_eq w1.1.1, uW_cg w4 w2 w6]
    · unfold F_281
      rw [em, ob_s]
      dsimp only
      rw [if_neg (by decide), F277_lay e2 q.2.2.2.2, F277_eq q.2.2.1 w2 q.2.2.2.1, ob_s, F216_eq G.2.2.1.2.1.2.2.1, eP]
theorem a153 (R : Ro Sc Sm) (M : MOK Sm) (v : Int32) : Agr E12 (F_153 v) (F_282 v) Sc Sm := by
  rcases kPt R M v with ⟨ec, em⟩ | ⟨ec, ei, em⟩ | ⟨i, T, rfl, hi, G, ec, ei, em, f⟩
  · exact Agr_x R M (e := isE) (k := 1) (by simp [E12]) (by unfold F_153; rw [ec]; rfl) (by unfold F_282; rw [em]; rfl) tt_0 tt_F
  · exact Agr_x R M (e := ixE) (k := 2) (by simp [E12]) (by unfold F_153; rw [ec, ox_r, ei]; rfl) (by unfold F_282; rw [em]; rfl) tt_0 tt_F
  · obtain ⟨Sc', T', e1, e2, q, f1, f2⟩ := learn G
    obtain ⟨w1, w2, w3, w4, w5, w6⟩ := LQ_w q
    have h64 := (PY_n G.2.2.1).2.2.2.2.1
    refine Agr_r (a := nJ (kW T' (T'.2 153) i)) (Sc' := Sc') (Sm' := T') ?_ ?_ q.1.1 q.1.2.2.2
    · unfold F_153
      rw [ec, ox_r, ei, ox_r, e1, ob_s]
      dsimp only
      rw [F109_eq w1 (by omega), ob_s, kW_cg w4 w2 w6]
    · unfold F_282
      rw [em, ob_s]
      dsimp only
      rw [if_neg (by decide), e2, ob_s]
      dsimp only
      rw [M282_18 q.2.2.1 w2 (by omega), ob_s]
/-- the class has learned, the reference hasn't -/
theorem learn_R (G : GO Sc T) : ∃ Sc', F_66 Sc = some ((), Sc') ∧ Ro Sc' T ∧ PY Sc' T := by
  obtain ⟨Sc', e, f, ca, -⟩ := learn_c G
  have R' : Ro Sc' T := Ro_q G.1 (f.wk (fun a ha => by unfold clq; omega)) Fm.rf (fun q => ⟨ca, (G.1.2.2.2.2.2.2 q).2⟩)
  exact ⟨Sc', e, R', PY_of R' G.2.1 G.2.2.1.1⟩
theorem a154 (R : Ro Sc Sm) (M : MOK Sm) : Agr E1 F_154 F_283 Sc Sm := by
  rcases zkP R M with ⟨ec, em, _⟩ | ⟨G, ec, em, _⟩
  · exact Agr_x R M (e := isE) (k := 1) (by simp [E1]) (by unfold F_154; rw [ec]; rfl) (by unfold F_283; rw [em]; rfl) tt_0 tt_F
  · obtain ⟨Sc', T', e1, e2, q, f1, f2⟩ := learn G
    obtain ⟨w1, w2, w3, w4, w5, w6⟩ := LQ_w q
    obtain ⟨_, g2, g3, _⟩ := PY_g G.2.2.1
    have C0 : F_154 Sc = some (.inr (nJ (dN T' (T'.2 153))), Sc') := by
      unfold F_154
      rw [ec, ox_r, e1, ob_s]
      dsimp only
      rw [F110_eq w1, ob_s, dN_cg w4 w2 w6]
    by_cases c : cG (t0 Sm) = 0
    · obtain ⟨Sc2, e1', R2, _⟩ := learn_R G
      have ee : Sc2 = Sc' := by rw [e1'] at e1; cases e1; rfl
      subst ee
      have d0 : dN T' (T'.2 153) = 0 := by unfold dN; rw [cG_f f2, c]; rfl
      rw [d0] at C0
      refine Agr_r (a := nJ 0) (Sm' := t0 Sm) C0 ?_ R2 t0_0
      unfold F_283
      rw [em, ob_s]
      dsimp only
      rw [if_neg (by decide), wh_oF (b := (0, 0, t0 Sm)) (by
        unfold Lm_283_13
        dsimp only
        rw [g2, c, if_neg (by decide)]), ob_s]
      rfl
    · have st : Lm_283_13 (0, 0, t0 Sm) = Lm_283_13 (0, 0, T') := by
        unfold Lm_283_13
        dsimp only
        rw [F277_lay e2 q.2.2.2.2, f2.row (a := 141) (by decide) (by decide)]
        by_cases z : (0 : Int32) < (t0 Sm).1 141 1
        · rw [if_pos z, if_pos z]
        · exact absurd (by rw [g2]; exact (nJ_lt (i := 0) (by omega) (by omega)).mpr (by omega)) z
      refine Agr_r (a := nJ (dN T' (T'.2 153))) (Sc' := Sc') (Sm' := T') C0 ?_ q.1.1 q.1.2.2.2
      unfold F_283
      rw [em, ob_s]
      dsimp only
      rw [if_neg (by decide), wh_cg st, M283_13 q.2.2.1 w2 q.2.2.2.1, ob_s]
theorem a155 (R : Ro Sc Sm) (M : MOK Sm) : Agr E1 F_155 F_285 Sc Sm := by
  rcases zkP R M with ⟨ec, em, _⟩ | ⟨G, ec, em, _⟩
  · exact Agr_x R M (e := isE) (k := 1) (by simp [E1]) (by unfold F_155; rw [ec]; rfl) (by unfold F_285; rw [em]; rfl) tt_0 tt_F
  · obtain ⟨Sc', T', e1, e2, q, f1, f2⟩ := learn G
    obtain ⟨w1, w2, w3, w4, w5, w6⟩ := LQ_w q
    have eP := nP_f f2 G.2.2.1.2.2.2.1
    refine Agr_r (a := nJ (bP (T'.2 153) (aL (nP T') &&& (uW T' (T'.2 153) (-1) ^^^ (-1))) (nP T'))) (Sc' := Sc') (Sm' := T') ?_ ?_ q.1.1 q.1.2.2.2
    · unfold F_155
      rw [ec, ox_r, e1, ob_s]
      dsimp only
      rw [F108_eq w1, ob_s, F21_eq w1.1.1, uW_cg w4 w2 w6, (F111_eq q.2.1 w5 _).1, ob_s, (bP_cg w5 w6 _).1]
    · unfold F_285
      rw [em, ob_s]
      dsimp only
      rw [if_neg (by decide), F277_lay e2 q.2.2.2.2, F277_eq q.2.2.1 w2 q.2.2.2.1, ob_s, F216_eq G.2.2.1.2.1.2.2.1, ← eP]
      dsimp only
      rw [(F284_eq q.2.2.1 w5 _).1, ob_s]
theorem ofP_and {n : Nat} {x y : Int64} (h : ofP n x) : ofP n (x &&& y) := fun q hq => h q (by
  rw [bz_and, Bool.and_eq_true] at hq
  exact hq.1)
theorem a156 (R : Ro Sc Sm) (M : MOK Sm) : Agr E1 F_156 F_286 Sc Sm := by
  rcases zkP R M with ⟨ec, em, _⟩ | ⟨G, ec, em, _⟩
  · exact Agr_x R M (e := isE) (k := 1) (by simp [E1]) (by unfold F_156; rw [ec]; rfl) (by unfold F_286; rw [em]; rfl) tt_0 tt_F
  · obtain ⟨Sc', T', e1, e2, q, f1, f2⟩ := learn G
    obtain ⟨w1, w2, w3, w4, w5, w6⟩ := LQ_w q
    have eP := nP_f f2 G.2.2.1.2.2.2.1
    have hV : ofP (nP T') (aL (nP T') &&& (uW T' (T'.2 153) (-1) ^^^ (-1))) := ofP_and (aL_of (LQ_64 q))
    obtain ⟨z, y, ec2⟩ := C112_23 q.2.1 w5 (aL (nP T') &&& (uW T' (T'.2 153) (-1) ^^^ (-1)))
    obtain ⟨z2, em2⟩ := M286_26 q.2.2.1 w5 hV
    refine Agr_r (a := nJ (gI (T'.2 153) (nP T') 64 (aL (nP T') &&& (uW T' (T'.2 153) (-1) ^^^ (-1))))) (Sc' := Sc') (Sm' := T') ?_ ?_ q.1.1 q.1.2.2.2
    · unfold F_156 F_112
      rw [ec, ox_r, e1, ob_s]
      dsimp only
      rw [F108_eq w1, ob_s, F21_eq w1.1.1, uW_cg w4 w2 w6, ec2, ob_s]
      dsimp only
      rw [ob_s, gI_cg w5 w6]
    · unfold F_286
      rw [em, ob_s]
      dsimp only
      rw [if_neg (by decide), F277_lay e2 q.2.2.2.2, F277_eq q.2.2.1 w2 q.2.2.2.1, ob_s, F216_eq G.2.2.1.2.1.2.2.1, ← eP]
      dsimp only
      rw [em2, ob_s]
theorem a159 (R : Ro Sc Sm) (M : MOK Sm) : Agr E1 F_159 F_290 Sc Sm := by
  rcases zkP R M with ⟨ec, em, _⟩ | ⟨G, ec, em, _⟩
  · exact Agr_x R M (e := isE) (k := 1) (by simp [E1]) (by unfold F_159; rw [ec]; rfl) (by unfold F_290; rw [em]; rfl) tt_0 tt_F
  · obtain ⟨Sc', T', e1, e2, q, f1, f2⟩ := learn G
    obtain ⟨w1, w2, w3, w4, w5, w6⟩ := LQ_w q
    refine Agr_r (a := tV T' (uW T' (T'.2 153) (-1))) (Sc' := Sc') (Sm' := T') ?_ ?_ q.1.1 q.1.2.2.2
    · unfold F_159
      rw [ec, ox_r, e1, ob_s]
      dsimp only
      rw [F108_eq w1, ob_s, uW_cg w4 w2 w6, F113_eq w1, ob_s]
    · unfold F_290
      rw [em, ob_s]
      dsimp only
      rw [if_neg (by decide), F277_lay e2 q.2.2.2.2, F277_eq q.2.2.1 w2 q.2.2.2.1, ob_s]
      dsimp only
      rw [F289_eq q.2.2.1 w2 w3, ob_s]
theorem a160 (R : Ro Sc Sm) (M : MOK Sm) : Agr E1 F_160 F_291 Sc Sm := by
  rcases zkP R M with ⟨ec, em, _⟩ | ⟨G, ec, em, _⟩
  · exact Agr_x R M (e := isE) (k := 1) (by simp [E1]) (by unfold F_160; rw [ec]; rfl) (by unfold F_291; rw [em]; rfl) tt_0 tt_F
  · obtain ⟨Sc', T', e1, e2, q, f1, f2⟩ := learn G
    obtain ⟨w1, w2, w3, w4, w5, w6⟩ := LQ_w q
    refine Agr_r (a := bV T' (T'.2 153)) (Sc' := Sc') (Sm' := T') ?_ ?_ q.1.1 q.1.2.2.2
    · unfold F_160
      rw [ec, ox_r, e1, ob_s]
      dsimp only
      rw [F114_eq w1, ob_s, bV_cg w4 w2 w6]
    · unfold F_291
      rw [em, ob_s]
      dsimp only
      rw [if_neg (by decide), F277_lay e2 q.2.2.2.2, F277_eq q.2.2.1 w2 q.2.2.2.1, ob_s]
      dsimp only
      rw [F289_eq q.2.2.1 w2 w3, ob_s, M291_21 q.2.2.1 w2 w3 q.2.2.2.1, ob_s]
theorem oneR_Fp {a : Nat} {S S' : ST} (h : oneR a S S') : Fp (fun x => x = a) S S' := fun b hb => ⟨funext fun j => h.1 b j hb, by rw [h.2]⟩
theorem a161 (R : Ro Sc Sm) (M : MOK Sm) (v : Int32) : Agr EDr (F_161 v) (F_295 v) Sc Sm := by
  rcases zkP R M with ⟨ec, em, _⟩ | ⟨G, ec, em, _⟩
  · exact Agr_x R M (e := isE) (k := 1) (by simp [EDr]) (by unfold F_161; rw [ec]; rfl) (by unfold F_295; rw [em]; rfl) tt_0 tt_F
  · rcases k3 (Sc := Sc) G.2.2.2 (n := 15) (by omega) v 2 (by decide) with ⟨ej, em2⟩ | ⟨j, hj, rfl, ej, em2⟩
    · have ej' : F_176 v 0 15 Sc = some (.inl iaE, Sc) := ej
      have em2' : F_183 (!(F_182 v 0 15)) 2 (t0 Sm) = some (true, wI (t0 Sm) 140 0 2) := em2
      refine Agr_x (Sm' := wI (t0 Sm) 140 0 2) R M (e := iaE) (k := 2) (by simp [EDr]) (by unfold F_161; rw [ec, ox_r, ej']; rfl) (z := 0) ?_ (by rw [wI_1, if_pos ⟨rfl, rfl⟩]) (t0_F.tr (Fm_f (by decide)))
      unfold F_295
      rw [em, ob_s]
      dsimp only
      rw [if_neg (by decide), em2']
      rfl
    · have ej' : F_176 (nJ j) 0 15 Sc = some (.inr (), Sc) := ej
      have em2' : F_183 (!(F_182 (nJ j) 0 15)) 2 (t0 Sm) = some (false, t0 Sm) := em2
      obtain ⟨Sc', e1, f1, ca, s1, s2, _⟩ := learn_c G
      obtain ⟨R0, M0, Y, z0⟩ := G
      have g := Y.2.2.2
      have hL := Y.2.1.2.2.1
      obtain ⟨k1, k2', k3'⟩ := (R0.2.2.2.2.2.2 Y.1).2
      -- the reference, with its flag up
      have fU : Fm [] [40] (t0 Sm) (wI (t0 Sm) 140 40 1) := Fm_f (by decide)
      have hu : (wI (t0 Sm) 140 40 1).1 140 40 = 1 := by rw [wI_1, if_pos ⟨rfl, rfl⟩]
      obtain ⟨U, hU⟩ : ∃ U, wI (t0 Sm) 140 40 1 = U := ⟨_, rfl⟩
      rw [hU] at fU hu
      have gU : gSa (t0 Sm) U := gSa_fm fU (by decide) (by decide) (by decide) (by decide) (by decide) (by decide)
      have hLU := (Ld_fm hL fU (by decide) (by decide) (by decide) (by decide) (by decide) (by decide)).1
      have MU : MOK U := (Qq_0 M0 fU (by decide) (by decide) (by decide) (by decide) (by decide) (by decide)).1
      have kU : KR U := KR_mv gU g.1 (fU.fld (by decide) (by decide)) (fU.rowL (by decide)) (fU.rowL (by decide)) k1
      obtain ⟨V, e239, fV, ms, n27, idV, alt⟩ := lay hLU kU
      have fT : Fm [150, 151, 152, 153, 154] [27, 34, 36, 40] (t0 Sm) V := (fU.wk (by decide) (by decide)).tr (fV.wk (by decide) (by decide))
      have gVz : gSa (t0 Sm) V := gSa_fm fT (by decide) (by decide) (by decide) (by decide) (by decide) (by decide)
      have gUV : gSa U V := gSa_fm fV (by decide) (by decide) (by decide) (by decide) (by decide) (by decide)
      have r141 : V.1 141 = (t0 Sm).1 141 := fT.row (by decide) (by decide)
      have gTV : GTh V 141 := GTh_r2 r141 g
      have MV : MOK V := by
        rcases alt with ⟨_, a, b⟩ | ⟨_, rfl⟩
        · exact MOK_Q MU (fV.wk (by decide) (by decide)) (fun _ => Sv_SR ms.1 ms.2.1) ⟨0, a, by omega⟩ ⟨0, b, by omega⟩
        · exact MU
      have cm : Cm V := by
        refine ⟨Or.inr ms.2, ?_, ?_⟩
        · rcases alt with ⟨_, a, b⟩ | ⟨_, rfl⟩
          · exact Or.inr (Or.inl a)
          · exact mGK_mv gU g.1 (fU.fld (by decide) (by decide)) (fU.fld (by decide) (by decide)) (fU.row (by decide) (by decide)) k2'
        · rcases alt with ⟨_, a, b⟩ | ⟨_, rfl⟩
          · exact Or.inr (Or.inl b)
          · exact mWK_mv gU g.1 (fU.fld (by decide) (by decide)) (fU.fld (by decide) (by decide)) (fU.row (by decide) (by decide)) k3'
      have caV : Ca Sc' V := Ca_mv (P := fun _ => False) gVz g.1 Fp.rf (fun _ _ _ z => z) ca
      have ny : ¬ V.1 140 1 = 0 := by rw [fT.fld (by decide) (by decide)]; exact Y.1
      have pr : PR Sc' 3 (V.1 141) := by rw [r141]; exact PR_fp Y.2.2.1 f1 (fun a ha => by unfold pl9 at ha; omega)
      have lc : LC Sc' 21 (rL V 141) 256 := by rw [rL_r2 r141]; exact LC_fp Y.2.1.2.1 f1 (fun a ha => by omega)
      have hxV : CX Sc' V := CX_of pr (GTh_cb gTV) lc ms.1
      have csV : CSz Sc' V := ⟨hxV, (gSa_SR gVz g.1).mpr s1, by rw [gSa_nP gVz g.1]; exact s2⟩
      have csg : CSG Sc' V := ⟨csV, pr, gTV⟩
      have rows : ∀ p, p < nP V → Sc'.2 31 p = V.2 153 p := fun p hp => SR_u (Ld_P ms.1).2 csV.2.1 ms.2.1 hp
      obtain ⟨zc, S2, ec33, oc, wc⟩ := C161_33 csg (nJ j) (uW V (V.2 153) (-1))
      obtain ⟨zm, V2, em49, om, wm⟩ := M295_49 ms.1 gTV ⟨MV, ny⟩ (nJ j) (uW V (V.2 153) (-1))
      have fC : Fp (fun a => a = 30 ∨ a = 31 ∨ a = 139 ∨ a = 0) Sc (wI S2 0 15 1) := (f1.wk (fun a ha => by omega)).tr (((oneR_Fp oc).wk (fun a ha => by omega)).tr (Fp_I (by omega)))
      have fM : Fm [150, 151, 152, 153, 154, 161] [27, 34, 36, 40] (t0 Sm) V2 := (fT.wk (by decide) (by decide)).tr ((oneR_Fm om).wk (by decide) (by decide))
      have x0 : S2.1 0 = Sc.1 0 := ((oneR_Fp oc) 0 (by omega)).1.trans (f1 0 (by omega)).1
      obtain ⟨r1, r2, r3, r4, r5, r6, r7⟩ := R0
      have fO : Fm [161] [] V V2 := oneR_Fm om
      have gO : gSa V V2 := gSa_fm fO (by decide) (by decide) (by decide) (by decide) (by decide) (by decide)
      have fD : Fp (fun a => a = 139 ∨ a = 0) Sc' (wI S2 0 15 1) := ((oneR_Fp oc).wk (fun a ha => by omega)).tr (Fp_I (by omega))
      refine Agr_r (a := nJ (fr (ctM V (nJ j)) 0 16 0)) (Sc' := wI S2 0 15 1) (Sm' := V2) ?_ ?_ ⟨oB_f r1 fC (by omega) (by omega) fM (by decide) (by decide) (by decide), ⟨?_, ?_⟩, oP_f r3 fC (fun a _ _ => by omega) (fun a _ _ => by omega) fM (by decide) (by decide) (by decide), oH_f r4 fC (fun a _ _ => by omega) fM (by decide) (by decide) (by decide) (by decide), oK_f r5 fC (fun a _ _ => by omega) fM (by decide) (by decide) (by decide) (by decide), Or.inr ⟨?_, ?_, fun x hx => ?_⟩, fun _ => ⟨Ca_mv gO gTV.1 fD (fun a _ _ => by omega) caV, Cm_mv gO gTV.1 fO (by decide) (by decide) (by decide) (by decide) (by decide) (by decide) (by decide) (by decide) cm⟩⟩ ?_
      · unfold F_161
        rw [ec, ox_r, ej', ox_r, e1, ob_s]
        dsimp only
        rw [F108_eq csg, ob_s, uW_cg ms.1 gTV rows, ec33, ob_s]
      · unfold F_295
        rw [em, ob_s]
        dsimp only
        rw [if_neg (by decide), em2', ob_s]
        dsimp only
        rw [if_neg (by decide), hU, F277_lay e239 idV, F277_eq ms gTV n27, ob_s]
        dsimp only
        rw [em49, ob_s]
      · rw [wI_1, if_neg (by decide), x0, fM.fld (by decide) (by decide)]; exact r2.1
      · rw [wI_1, if_neg (by decide), x0, fM.fld (by decide) (by decide)]; exact r2.2
      · rw [wI_1, if_pos ⟨rfl, rfl⟩]; decide
      · rw [fO.fld (by decide) (by decide), fV.fld (by decide) (by decide), hu]; decide
      · rw [wI_1, if_neg (by omega), wc x hx, wm x hx]
      · rw [fM.fld (by decide) (by decide)]; exact z0
end Wq
