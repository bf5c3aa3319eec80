/-! questions of triangles and colours -/
section Tq
variable {Sc T T' Sc' Sm : ST}
theorem learnT (G : GO Sc T) : ∃ Sc', F_95 Sc = some ((), Sc') ∧ Ro Sc' T ∧ CT Sc' T ∧ CX Sc' T ∧ Sc'.1 3 0 = Sc.1 3 0 := by
  obtain ⟨R, M, Y, -⟩ := G
  have hx := Y.2.1
  obtain ⟨⟨⟨c1, c2⟩, ⟨c3, c4, c5⟩, c6, c7⟩, cm⟩ := R.2.2.2.2.2.2 Y.1
  by_cases h : Sc.1 32 8 = 0
  · obtain ⟨S', e, f, k1, ct⟩ := F95_all hx h
    have g := Y.2.2.2.1
    have gr : gSa T T := gSa_rf
    have o : ∀ a, ¬ (32 ≤ a ∧ a ≤ 38) → S'.1 a = Sc.1 a := fun a ha => (f.1 a ha).1
    have ca : Ca S' T := ⟨⟨sgC_mv gr g (by rw [o 30 (by omega)]) (f.1 31 (by omega)).2 c1, Or.inr ct⟩, ⟨vsK_mv gr g (by rw [o 39 (by omega)]) c3, esK_mv gr g (by rw [o 39 (by omega)]) c4, pkK_mv gr g (by rw [o 39 (by omega)]) (o 42 (by omega)) c5⟩, wtK_mv gr g (by rw [o 43 (by omega)]) (o 45 (by omega)) c6, hdK_mv gr g (by rw [o 43 (by omega)]) c7⟩
    exact ⟨S', e, Ro_q R (f.1.wk (fun a ha => by unfold clq; omega)) Fm.rf (fun _ => ⟨ca, cm⟩), ct, CX_trF hx f, by rw [o 3 (by omega)]⟩
  · exact ⟨Sc, F95_1 h, R, c2.resolve_left h, hx, rfl⟩
theorem kTt (R : Ro Sc Sm) (M : MOK Sm) (v : Int32) : (F_174 Sc = some (.inl isE, Sc) ∧ F_252 v Sm = some (true, tt Sm 1)) ∨ (F_174 Sc = some (.inr (), Sc) ∧ F_175 v (Sc.1 3 0 - 2) Sc = some (.inl ixE, Sc) ∧ F_252 v Sm = some (true, wI (t0 Sm) 140 0 2)) ∨ (∃ i T, v = nJ i ∧ i + 3 ≤ rN T 141 ∧ GO Sc T ∧ F_174 Sc = some (.inr (), Sc) ∧ F_175 v (Sc.1 3 0 - 2) Sc = some (.inr (), Sc) ∧ F_252 v Sm = some (false, T) ∧ Fm [] [0] Sm T) := by
  rcases zkP R M with ⟨ec, em, _⟩ | ⟨G, ec, em, _⟩
  · exact Or.inl ⟨ec, by unfold F_252; rw [em]; rfl⟩
  · obtain ⟨⟨n1, n2, n3, n4⟩, _⟩ := PY_n G.2.2.1
    have ea : Sc.1 3 0 - 2 = nJ (rN (t0 Sm) 141 - 2) := by rw [n1]; exact nJ_sub (j := 2) (by omega)
    have eb : (t0 Sm).1 141 0 - 3 = nJ (rN (t0 Sm) 141 - 2) - 1 := by
      rw [n2, show nJ (rN (t0 Sm) 141) - 3 = nJ (rN (t0 Sm) 141 - 3) from nJ_sub (j := 3) (by omega), show nJ (rN (t0 Sm) 141 - 2) - 1 = nJ (rN (t0 Sm) 141 - 2 - 1) from nJ_sub (j := 1) (by omega)]
      congr 1
    rcases k2 (Sc := Sc) G.2.2.2 (n := rN (t0 Sm) 141 - 2) (by omega) v 2 (by decide) with ⟨ei, ej⟩ | ⟨i, hi, rfl, ei, ej⟩
    · refine Or.inr (Or.inl ⟨ec, by rw [ea]; exact ei, ?_⟩)
      unfold F_252
      rw [em, ob_s]
      dsimp only
      rw [if_neg (by decide), eb, ej]
      rfl
    · refine Or.inr (Or.inr ⟨i, t0 Sm, rfl, by omega, G, ec, by rw [ea]; exact ei, ?_, t0_F⟩)
      unfold F_252
      rw [em, ob_s]
      dsimp only
      rw [if_neg (by decide), eb, ej]
      rfl
theorem a137 (R : Ro Sc Sm) (M : MOK Sm) (v w : Int32) : Agr E123 (F_137 v w) (F_253 v w) Sc Sm := by
  rcases kTt R M v with ⟨ec, em⟩ | ⟨ec, ei, em⟩ | ⟨i, T, rfl, hi, G, ec, ei, em, f⟩
  · exact Agr_x R M (e := isE) (k := 1) (by simp [E123]) (by unfold F_137; rw [ec]; rfl) (by unfold F_253; rw [em]; rfl) tt_0 tt_F
  · exact Agr_x R M (e := ixE) (k := 2) (by simp [E123]) (by unfold F_137; rw [ec, ox_r, ei]; rfl) (by unfold F_253; rw [em]; rfl) (by rw [wI_1, if_pos ⟨rfl, rfl⟩]) (t0_F.tr (Fm_f (by decide)))
  · have h12 := (PY_n G.2.2.1).1.2.2.2
    rcases k3 (Sc := Sc) G.2.2.2 (n := 2) (by omega) w 3 (by decide) with ⟨ej, em2⟩ | ⟨j, hj, rfl, ej, em2⟩
    · have ej' : F_176 w 0 2 Sc = some (.inl iaE, Sc) := ej
      have em2' : F_183 (!(F_182 w 0 2)) 3 T = some (true, wI T 140 0 3) := em2
      refine Agr_x (Sm' := wI T 140 0 3) R M (e := iaE) (k := 3) (by simp [E123]) (by unfold F_137; rw [ec, ox_r, ei, ox_r, ej']; rfl) (z := 0) ?_ (by rw [wI_1, if_pos ⟨rfl, rfl⟩]) (f.tr (Fm_f (by decide)))
      unfold F_253
      rw [em, ob_s]
      dsimp only
      rw [if_neg (by decide), em2']
      rfl
    · have ej' : F_176 (nJ j) 0 2 Sc = some (.inr (), Sc) := ej
      have em2' : F_183 (!(F_182 (nJ j) 0 2)) 3 T = some (false, T) := em2
      obtain ⟨Sc', e95, R', ct, hx, -⟩ := learnT G
      obtain ⟨K, Rr, c, hT, hc, ht, hcol⟩ := ct
      obtain ⟨T2, e251, f251, w251⟩ := F251_eq G.2.2.1.2.2.2.1 hT
      refine Agr_r (a := T2.1 157 (3 * i + j)) (Sc' := Sc') (Sm' := T2) ?_ ?_ (Ro_m R' G.2.1 (f251.wk (by decide) (by decide))) (by rw [f251.fld (by decide) (by decide)]; exact G.2.2.2)
      · unfold F_137
        rw [ec, ox_r, ei, ox_r, ej', ox_r, e95, ob_s]
        dsimp only
        rw [F90_eq (by omega) (ht i hi) (by omega), ob_s, tr_at (w251 i hi) (by omega)]
      · unfold F_253
        rw [em, ob_s]
        dsimp only
        rw [if_neg (by decide), em2', ob_s]
        dsimp only
        rw [if_neg (by decide), e251, ob_s]
        dsimp only
        rw [show (3 : Int32) * nJ i = nJ (3 * i) from nJ_mul 3 i, nJ_add, ck_t (ibd_n (by omega) (by omega)), nJ_ix (by omega)]
theorem a138 (R : Ro Sc Sm) (M : MOK Sm) (v : Int32) : Agr E12 (F_138 v) (F_254 v) Sc Sm := by
  rcases kTt R M v with ⟨ec, em⟩ | ⟨ec, ei, em⟩ | ⟨i, T, rfl, hi, G, ec, ei, em, f⟩
  · exact Agr_x R M (e := isE) (k := 1) (by simp [E12]) (by unfold F_138; rw [ec]; rfl) (by unfold F_254; rw [em]; rfl) tt_0 tt_F
  · exact Agr_x R M (e := ixE) (k := 2) (by simp [E12]) (by unfold F_138; rw [ec, ox_r, ei]; rfl) (by unfold F_254; rw [em]; rfl) (by rw [wI_1, if_pos ⟨rfl, rfl⟩]) (t0_F.tr (Fm_f (by decide)))
  · have h12 := (PY_n G.2.2.1).1.2.2.2
    have g := G.2.2.1.2.2.2.1
    obtain ⟨Sc', e95, R', ct, hx, -⟩ := learnT G
    obtain ⟨K, Rr, c, hT, hc, ht, hcol⟩ := ct
    obtain ⟨T2, e251, f251, w251⟩ := F251_eq g hT
    obtain ⟨u, e91, hu⟩ := F91_eq hx (show i < 10 by omega) hT (ht i hi) hi
    have b := cnr_lt (sgA_1 T) hT hi
    have r141 : T2.1 141 = T.1 141 := f251.row (by decide) (by decide)
    have g2 : GR T2 141 := GR_r2 r141 g
    have eN : rN T2 141 = rN T 141 := by unfold rN; rw [r141]
    have eP : rP T2 141 = rP T 141 := by funext z; unfold rP; rw [r141]
    obtain ⟨x0, x1, x2⟩ := w251 i hi
    have l0 : lo3 (kx (rN T 141) K Rr i) (ky K Rr i) (kz (rN T 141) K Rr i) < rN T 141 := by unfold lo3; omega
    have l1 : hi3 (kx (rN T 141) K Rr i) (ky K Rr i) (kz (rN T 141) K Rr i) < rN T 141 := by unfold hi3; omega
    have l2 : md3 (kx (rN T 141) K Rr i) (ky K Rr i) (kz (rN T 141) K Rr i) < rN T 141 := by unfold md3 hi3 lo3; omega
    generalize lo3 (kx (rN T 141) K Rr i) (ky K Rr i) (kz (rN T 141) K Rr i) = a0 at *
    generalize md3 (kx (rN T 141) K Rr i) (ky K Rr i) (kz (rN T 141) K Rr i) = a1 at *
    generalize hi3 (kx (rN T 141) K Rr i) (ky K Rr i) (kz (rN T 141) K Rr i) = a2 at *
    have hA := A254 g2 (a := a0) (b := a1) (c := a2) (by omega) (by omega) (by omega)
    rw [eP, ← hu] at hA
    have hA' := Int32.toInt_inj.mp hA
    refine Agr_r (a := if u < 0 then -u else u) (Sc' := Sc') (Sm' := T2) ?_ ?_ (Ro_m R' G.2.1 (f251.wk (by decide) (by decide))) (by rw [f251.fld (by decide) (by decide)]; exact G.2.2.2)
    · unfold F_138
      rw [ec, ox_r, ei, ox_r, e95, ob_s]
      dsimp only
      rw [e91, ob_s, i32_abs]
    · have m3 : (3 : Int32) * nJ i = nJ (3 * i) := nJ_mul 3 i
      have m1 : nJ (3 * i) + 1 = nJ (3 * i + 1) := nJ_succ _
      have m2 : nJ (3 * i) + 2 = nJ (3 * i + 2) := nJ_add _ 2
      have ix : ∀ k, k < 100 → Int32.toNatClampNeg (nJ k) = k := fun k hk => nJ_ix (by omega)
      have s3 : ∀ k, (3 : Int32) + nJ k = nJ (3 + k) := fun k => nJ_add 3 k
      have s15 : ∀ k, (15 : Int32) + nJ k = nJ (15 + k) := fun k => nJ_add 15 k
      unfold F_254
      rw [em, ob_s]
      dsimp only
      rw [if_neg (by decide), e251, ob_s]
      dsimp only
      rw [m3, m1, m2, ck_t (ibd_n (i := 3 * i) (by omega) (by omega)), ck_t (ibd_n (i := 3 * i + 1) (by omega) (by omega)), ck_t (ibd_n (i := 3 * i + 2) (by omega) (by omega)), ix (3 * i) (by omega), ix (3 * i + 1) (by omega), ix (3 * i + 2) (by omega), x0, x1, x2, s3 a0, s3 a1, s3 a2, s15 a0, s15 a1, s15 a2, ck_t (ibd_n (i := 3 + a0) (by omega) (by omega)), ck_t (ibd_n (i := 15 + a0) (by omega) (by omega)), ck_t (ibd_n (i := 3 + a1) (by omega) (by omega)), ck_t (ibd_n (i := 15 + a1) (by omega) (by omega)), ck_t (ibd_n (i := 3 + a2) (by omega) (by omega)), ck_t (ibd_n (i := 15 + a2) (by omega) (by omega)), ix (3 + a0) (by omega), ix (15 + a0) (by omega), ix (3 + a1) (by omega), ix (15 + a1) (by omega), ix (3 + a2) (by omega), ix (15 + a2) (by omega), hA']
theorem a139 (R : Ro Sc Sm) (M : MOK Sm) (v : Int32) : Agr E12 (F_139 v) (F_256 v) Sc Sm := by
  rcases kVt R M v with ⟨ec, em⟩ | ⟨ec, ei, em⟩ | ⟨i, T, rfl, hi, G, ec, ei, em, f⟩
  · exact Agr_x R M (e := isE) (k := 1) (by simp [E12]) (by unfold F_139; rw [ec]; rfl) (by unfold F_256; rw [em]; rfl) tt_0 tt_F
  · exact Agr_x R M (e := ixE) (k := 2) (by simp [E12]) (by unfold F_139; rw [ec, ox_r, ei]; rfl) (by unfold F_256; rw [em]; rfl) tt_0 tt_F
  · have h12 := (PY_n G.2.2.1).1.2.2.2
    obtain ⟨Sc', e95, R', ct, hx, -⟩ := learnT G
    obtain ⟨K, Rr, c, hT, hc, ht, hcol⟩ := ct
    obtain ⟨T2, e255, f255, -, w255⟩ := F255_eq G.2.2.1.2.2.2.1 hT hc
    refine Agr_r (a := nJ (c i)) (Sc' := Sc') (Sm' := T2) ?_ ?_ (Ro_m R' G.2.1 (f255.wk (by decide) (by decide))) (by rw [f255.fld (by decide) (by decide)]; exact G.2.2.2)
    · unfold F_139
      rw [ec, ox_r, ei, ox_r, e95, ob_s]
      dsimp only
      rw [F92_eq (by omega), ob_s, hcol i hi]
    · unfold F_256
      rw [em, ob_s]
      dsimp only
      rw [if_neg (by decide), e255, ob_s]
      dsimp only
      rw [ck_t (ibd_n (by omega) (by omega)), nJ_ix (by omega), w255 i hi]
theorem a140 (R : Ro Sc Sm) (M : MOK Sm) : Agr E1 F_140 F_258 Sc Sm := by
  rcases zkP R M with ⟨ec, em, _⟩ | ⟨G, ec, em, _⟩
  · exact Agr_x R M (e := isE) (k := 1) (by simp [E1]) (by unfold F_140; rw [ec]; rfl) (by unfold F_258; rw [em]; rfl) tt_0 tt_F
  · obtain ⟨⟨n1, n2, n3, n4⟩, _⟩ := PY_n G.2.2.1
    have g := G.2.2.1.2.2.2.1
    obtain ⟨Sc', e95, R', ct, hx, k3'⟩ := learnT G
    obtain ⟨K, Rr, c, hT, hc, ht, hcol⟩ := ct
    obtain ⟨T2, e255, f255, -, w255⟩ := F255_eq g hT hc
    have r141 : T2.1 141 = (t0 Sm).1 141 := f255.row (by decide) (by decide)
    have eN : rN T2 141 = rN (t0 Sm) 141 := by unfold rN; rw [r141]
    have e258 := M258_eq (S := T2) (c := c) (GR_r2 r141 g) hc.1 (by rw [eN]; exact w255)
    rw [eN] at e258
    refine Agr_r (a := nJ (bsc (rN (t0 Sm) 141) c 2 (bsc (rN (t0 Sm) 141) c 1 (cmN c 0 (rN (t0 Sm) 141))))) (Sc' := Sc') (Sm' := T2) ?_ ?_ (Ro_m R' G.2.1 (f255.wk (by decide) (by decide))) (by rw [f255.fld (by decide) (by decide)]; exact G.2.2.2)
    · unfold F_140
      rw [ec, ox_r, e95, ob_s]
      dsimp only
      rw [F93_eq n4 (k3'.trans n1) hc.1 hcol, ob_s]
    · unfold F_258
      rw [em, ob_s]
      dsimp only
      rw [if_neg (by decide), e255, ob_s]
      dsimp only
      rw [e258]
end Tq
