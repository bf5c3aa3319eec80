/-! undo, save, restore -/
section Un
variable {S Sc T T' Sc' Sm : ST}
theorem M298_eq {k : Nat} (hk : k ≤ 10) (g : GTh (sto S k) 0) : ∃ S', F_298 (nJ k) S = some ((), S') ∧ Fm [141, 147, 148, 149] [20, 27] S S' ∧ S'.1 140 27 = 0 ∧ Ld S' ∧ GTh S' 141 ∧ ∀ j, j < 63 → S'.1 141 j = S.1 142 (63 * k + j) := by
  obtain ⟨S1, e1, f1, w1⟩ := M298_2 hk S
  have g1 : GTh (wI S1 140 27 0) 141 := GTh_63 (S := sto S k) (h := 0) (fun j hj => by
    rw [wI_1, if_neg (by omega)]
    exact w1 j hj) g
  obtain ⟨S2, e2, f2, hL, g2⟩ := fill_m g1
  refine ⟨S2, ?_, ((f1.wk (by decide) (by decide)).tr (Fm_f (by decide))).tr (f2.wk (by decide) (by decide)), by rw [f2.fld (by decide) (by decide), wI_1, if_pos ⟨rfl, rfl⟩], hL, g2, fun j hj => ?_⟩
  · unfold F_298
    rw [e1, ob_s]
    dsimp only
    rw [e2, ob_s]
  · rw [f2.row (by decide) (by decide), wI_1, if_neg (by omega)]
    exact w1 j hj
theorem a170 (R : Ro Sc Sm) (M : MOK Sm) : Agr E1 F_170 F_310 Sc Sm := by
  have R' := Ro_t R M t0_F
  have M' : MOK (t0 Sm) := (Qq_t M 0).1
  have z0 : (t0 Sm).1 140 0 = 0 := t0_0
  obtain ⟨c, o, a1, a2, a3, a4, a5, a6, a7⟩ := R'.2.2.2.1
  have a1' : Sm.1 140 4 = nJ c := by rw [← a1, t0_o (by decide)]
  by_cases c0 : c = 0
  · subst c0
    refine Agr_x (Sm' := tt Sm 1) R M (e := isE) (k := 1) (by simp [E1]) ?_ (z := 0) ?_ tt_0 tt_F
    · unfold F_170
      rw [a2, if_pos (show nJ 0 = 0 from rfl)]
      rfl
    · unfold F_310
      rw [a1', show decide (nJ 0 = 0) = true from rfl, show F_183 true 1 (wI Sm 140 0 0) = some (true, tt Sm 1) from M183_t t0_0 (by decide)]
      rfl
  · obtain ⟨d, rfl⟩ : ∃ d, c = d + 1 := ⟨c - 1, by omega⟩
    have ne : ¬ nJ (d + 1) = 0 := fun z => by have := (nJ_eq (j := 0) (by omega) (by omega)).mp z; omega
    have hy : ¬ (t0 Sm).1 140 1 = 0 := fun z => by have := a7 z; omega
    obtain ⟨cc, m1, m2, m3⟩ := M'.2.2.1
    have ecc : cc = d + 1 := (nJ_eq (by omega) (by omega)).mp (m1.symm.trans a1)
    subst ecc
    have gs := m3 d (by omega)
    obtain ⟨S1, e10, f10, b1, b2, b3, b4⟩ := F10_eq (h1 := 12) a2 (by omega) a4 a5 a6 (GTh_cb gs) (by omega)
    have g0 : GTh (rowS ((sto (t0 Sm) (1 + d)).1 0)) 0 := GTh_row gs
    obtain ⟨S2, e180, f180, p4, l4, z4⟩ := fill_c b4 g0 (Nat.le_refl _)
    have gs' : GTh (sto (wI (t0 Sm) 140 4 (nJ d)) (1 + d)) 0 := by
      have e : sto (wI (t0 Sm) 140 4 (nJ d)) (1 + d) = sto (t0 Sm) (1 + d) := sto_fm (hs := []) (fs := [4]) (Fm_f (by decide)) (by decide) _
      rw [e]; exact gs
    obtain ⟨T2, e298, f298, n27, hL, g2, w2⟩ := M298_eq (k := 1 + d) (by omega) gs'
    have fT : Fm [141, 147, 148, 149] [4, 20, 27] (t0 Sm) T2 := (Fm_f (by decide)).tr (f298.wk (by decide) (by decide))
    have row : ∀ j, j < 63 → T2.1 141 j = (sto (t0 Sm) (1 + d)).1 0 j := fun j hj => by
      rw [w2 j hj, wI_1, if_neg (by omega)]
      rfl
    have fC : Fp (fun a => a = 47 ∨ pl9 12 a ∨ rpl a) Sc S2 := (f10.wk (fun a ha => by rcases ha with h | h; exact Or.inl h; exact Or.inr (Or.inl h))).tr (f180.wk (fun a ha => Or.inr (Or.inr ha)))
    have eLL : rL T2 141 = rL (rowS ((sto (t0 Sm) (1 + d)).1 0)) 0 := rL_63 (S := rowS ((sto (t0 Sm) (1 + d)).1 0)) (h := 0) row g0.1
    have l4' : LC S2 21 (rL T2 141) 256 := by rw [eLL]; exact l4
    have k4 : T2.1 140 4 = nJ d := by rw [f298.fld (by decide) (by decide), wI_1, if_pos ⟨rfl, rfl⟩]
    have k47 : S2.1 47 = S1.1 47 := (f180 47 (by unfold rpl pl9; omega)).1
    obtain ⟨r1, r2, r3, r4, r5, r6, r7⟩ := R'
    have est : ∀ k, sto T2 k = sto (t0 Sm) k := fun k => sto_fm fT (by decide) k
    refine Agr_r (a := nJ d) (Sc' := S2) (Sm' := T2) ?_ ?_ ⟨oB_f r1 fC (by unfold rpl pl9; omega) (by unfold rpl pl9; omega) fT (by decide) (by decide) (by decide), oE_f r2 fC (by unfold rpl pl9; omega) fT (by decide) (by decide) (by decide), Or.inr ⟨by rw [fT.fld (by decide) (by decide)]; exact hy, PR_row p4 (GTh_cb gs) row, l4'⟩, ⟨d, o, k4, by rw [k47]; exact b2, by omega, by rw [k47]; exact b1, a5, ?_, fun z => by rw [fT.fld (by decide) (by decide)] at z; exact absurd z hy⟩, oK_f r5 fC (fun a _ _ => by unfold rpl pl9; omega) fT (by decide) (by decide) (by decide) (by decide), oD_f r6 fC (by unfold rpl pl9; omega) (by unfold rpl pl9; omega) fT (by decide) (by decide) (by decide), fun _ => ⟨Ca_z z4, Cm_z n27⟩⟩ (by rw [fT.fld (by decide) (by decide)]; exact z0)
    · unfold F_170
      rw [a2, if_neg ne, e10, ob_s]
      dsimp only
      rw [e180, ob_s]
      dsimp only
      rw [k47, b2]
    · unfold F_310
      rw [a1', decide_eq_false ne, show F_183 false 1 (wI Sm 140 0 0) = some (false, t0 Sm) from M183_f t0_0, ob_s]
      dsimp only
      rw [if_neg (by decide), a1, show nJ (d + 1) - 1 = nJ d from nJ_sub (j := 1) (by omega), show (1 : Int32) + nJ d = nJ (1 + d) from nJ_add 1 d, e298, ob_s]
      dsimp only
      rw [k4]
    · simp only [est]
      exact HR_fp b3 f180 (fun a ha => by unfold rpl pl9; omega)
theorem F178_eq {i : Nat} (hi : i < 2) : F_178 (nJ i) = 121 + 9 * i := by
  have : i = 0 ∨ i = 1 := by omega
  rcases this with rfl | rfl <;> rfl
theorem a172 (R : Ro Sc Sm) (M : MOK Sm) (v : Int32) : Agr E12 (F_172 v) (F_311 v) Sc Sm := by
  rcases zkP R M with ⟨ec, em, _⟩ | ⟨G, ec, em, _⟩
  · exact Agr_x R M (e := isE) (k := 1) (by simp [E12]) (by unfold F_172; rw [ec]; rfl) (by unfold F_311; rw [em]; rfl) tt_0 tt_F
  · obtain ⟨R0, M0, Y, z0⟩ := G
    rcases k2 (Sc := Sc) z0 (n := 2) (by omega) v 2 (by decide) with ⟨ei, ej⟩ | ⟨i, hi, rfl, ei, ej⟩
    · have ei' : F_175 v 2 Sc = some (.inl ixE, Sc) := ei
      have ej' : F_183 (!(F_182 v 0 1)) 2 (t0 Sm) = some (true, wI (t0 Sm) 140 0 2) := ej
      refine Agr_x (Sm' := wI (t0 Sm) 140 0 2) R M (e := ixE) (k := 2) (by simp [E12]) (by unfold F_172; rw [ec, ox_r, ei']; rfl) (z := 0) ?_ (by rw [wI_1, if_pos ⟨rfl, rfl⟩]) (t0_F.tr (Fm_f (by decide)))
      unfold F_311
      rw [em, ob_s]
      dsimp only
      rw [if_neg (by decide), ej']
      rfl
    · have ei' : F_175 (nJ i) 2 Sc = some (.inr (), Sc) := ei
      have ej' : F_183 (!(F_182 (nJ i) 0 1)) 2 (t0 Sm) = some (false, t0 Sm) := ej
      obtain ⟨_, n1, n2, n3, n4, hL⟩ := PY_n Y
      have g := Y.2.2.2
      obtain ⟨S1, e43, f43, w43⟩ := F43_eq Sc (h0 := 121 + 9 * i) (h1 := 3) (by omega)
      have p1 := w43 _ Y.2.2.1 (GTh_cb g)
      obtain ⟨T1, e297, f297, w297⟩ := M297_eq (k := 9 + i) (by omega) (t0 Sm)
      have fT : Fm [142, 143] [] (t0 Sm) (wI T1 143 i 1) := (f297.wk (by decide) (by decide)).tr (Fm_a (by decide))
      have fC : Fp (fun a => 121 ≤ a ∧ a < 139) Sc S1 := f43.wk (fun a ha => by unfold pl9 at ha; omega)
      obtain ⟨r1, r2, r3, r4, r5, r6, r7⟩ := R0
      have gs : gSa (t0 Sm) (wI T1 143 i 1) := gSa_fm fT (by decide) (by decide) (by decide) (by decide) (by decide) (by decide)
      have r142 : ∀ j, (wI T1 143 i 1).1 142 j = T1.1 142 j := fun j => by rw [wI_1, if_neg (by omega)]
      refine Agr_r (a := nJ (nP (t0 Sm))) (Sc' := S1) (Sm' := wI T1 143 i 1) ?_ ?_ ⟨oB_f r1 fC (by omega) (by omega) fT (by decide) (by decide) (by decide), oE_f r2 fC (by omega) fT (by decide) (by decide) (by decide), oP_f r3 fC (fun a _ _ => by omega) (fun a _ _ => by omega) fT (by decide) (by decide) (by decide), ?_, ?_, oD_f r6 fC (by omega) (by omega) fT (by decide) (by decide) (by decide), fun _ => ?_⟩ (by rw [fT.fld (by decide) (by decide)]; exact z0)
      · unfold F_172
        rw [ec, ox_r, ei', ox_r, F178_eq hi, e43, ob_s]
        dsimp only
        rw [(fC 21 (by omega)).1, n1]
      · have k20 : (wI T1 143 i 1).1 140 20 = nJ (nP (t0 Sm)) := by rw [fT.fld (by decide) (by decide)]; exact n2
        unfold F_311
        rw [em, ob_s]
        dsimp only
        rw [if_neg (by decide), ej', ob_s]
        dsimp only
        rw [if_neg (by decide), show (9 : Int32) + nJ i = nJ (9 + i) from nJ_add 9 i, e297, ob_s]
        dsimp only
        rw [ck_t (ibd_n (by omega) (by omega)), sbn_e, nJ_ix (by omega), k20]
      · obtain ⟨c, o, a1, a2, a3, a4, a5, a6, a7⟩ := r4
        obtain ⟨cc, m1, m2, m3⟩ := M0.2.2.1
        have ecc : cc = c := (nJ_eq (by omega) (by omega)).mp (m1.symm.trans a1)
        subst ecc
        refine ⟨cc, o, by rw [fT.fld (by decide) (by decide)]; exact a1, by rw [(fC 47 (by omega)).1]; exact a2, a3, by rw [(fC 47 (by omega)).1]; exact a4, a5, fun k hk => ?_, by rw [fT.fld (by decide) (by decide)]; exact a7⟩
        refine PR_row (HR_fp a6 fC (fun x hx => by omega) k hk) (GTh_cb (m3 k hk)) (fun j hj => ?_)
        show (wI T1 143 i 1).1 142 (63 * (1 + k) + j) = (t0 Sm).1 142 (63 * (1 + k) + j)
        rw [r142, w297, if_neg (by omega)]
      · intro j hj
        by_cases c : j = i
        · subst c
          refine Or.inr ⟨by rw [wI_1, if_pos ⟨rfl, rfl⟩]; decide, PR_row p1 (GTh_cb g) (fun x hx => ?_), by rw [fT.fld (by decide) (by decide)]; exact Y.1⟩
          show (wI T1 143 j 1).1 142 (63 * (9 + j) + x) = (t0 Sm).1 141 x
          rw [r142, w297, if_pos (by omega), show 63 * (9 + j) + x - 63 * (9 + j) = x by omega]
        · have f43' : Fp (pl9 (121 + 9 * i)) Sc S1 := f43
          have k143 : (wI T1 143 i 1).1 143 j = (t0 Sm).1 143 j := by rw [wI_1, if_neg (fun z => c z.2), f297.row (by decide) (by decide)]
          rw [k143, fT.fld (k := 1) (by decide) (by decide), (f43' (121 + 9 * j) (by unfold pl9; omega)).1]
          rcases r5 j hj with q | ⟨q1, q2, q3⟩
          · exact Or.inl q
          · refine Or.inr ⟨q1, PR_row (PR_fp q2 f43' (fun x hx => by unfold pl9 at hx ⊢; omega)) (GTh_cb (M0.2.2.2.1 j hj q1)) (fun x hx => ?_), q3⟩
            show (wI T1 143 i 1).1 142 (63 * (9 + j) + x) = (t0 Sm).1 142 (63 * (9 + j) + x)
            rw [r142, w297, if_neg (by omega)]
      · obtain ⟨c1, c2⟩ := r7 Y.1
        exact ⟨Ca_mv gs g.1 fC (fun a _ _ => by omega) c1, Cm_mv gs g.1 fT (by decide) (by decide) (by decide) (by decide) (by decide) (by decide) (by decide) (by decide) c2⟩
theorem a173 (R : Ro Sc Sm) (M : MOK Sm) (v : Int32) : Agr ERe (F_173 v) (F_312 v) Sc Sm := by
  have R' := Ro_t R M t0_F
  have M' : MOK (t0 Sm) := (Qq_t M 0).1
  have z0 : (t0 Sm).1 140 0 = 0 := t0_0
  rcases k2 (Sc := Sc) z0 (n := 2) (by omega) v 1 (by decide) with ⟨ei, ej⟩ | ⟨i, hi, rfl, ei, ej⟩
  · have ei' : F_175 v 2 Sc = some (.inl ixE, Sc) := ei
    have ej' : F_183 (!(F_182 v 0 1)) 1 (wI Sm 140 0 0) = some (true, wI (t0 Sm) 140 0 1) := ej
    refine Agr_x (Sm' := wI (t0 Sm) 140 0 1) R M (e := ixE) (k := 1) (by simp [ERe]) (by unfold F_173; rw [ei']; rfl) (z := 0) ?_ (by rw [wI_1, if_pos ⟨rfl, rfl⟩]) (t0_F.tr (Fm_f (by decide)))
    unfold F_312
    rw [ej']
    rfl
  · have ei' : F_175 (nJ i) 2 Sc = some (.inr (), Sc) := ei
    have ej' : F_183 (!(F_182 (nJ i) 0 1)) 1 (wI Sm 140 0 0) = some (false, t0 Sm) := ej
    rcases R'.2.2.2.2.1 i hi with ⟨q1, q2⟩ | ⟨q1, q2, q3⟩
    · refine Agr_x (Sm' := wI (t0 Sm) 140 0 2) R M (e := isE) (k := 2) (by simp [ERe]) ?_ (z := 0) ?_ (by rw [wI_1, if_pos ⟨rfl, rfl⟩]) (t0_F.tr (Fm_f (by decide)))
      · unfold F_173
        rw [ei', ox_r, F178_eq hi, q2, if_pos rfl]
        rfl
      · unfold F_312
        rw [ej', ob_s]
        dsimp only
        rw [if_neg (by decide), ck_t (ibd_n (by omega) (by omega)), nJ_ix (by omega), q1, decide_eq_true rfl, M183_t z0 (by decide)]
        rfl
    · have gs := M'.2.2.2.1 i hi q1
      have n0 : ¬ Sc.1 (121 + 9 * i) 0 = 0 := fun z => by
        have h := q2.1.1
        rw [z] at h
        have h3 := gs.1.2.1
        have hw : (sto (t0 Sm) (9 + i)).1 0 0 = nJ (rN (sto (t0 Sm) (9 + i)) 0) := gs.1.1.1
        have h12 := gs.1.1.2
        rw [hw] at h
        have := (nJ_eq (i := 0) (by omega) (by omega)).mp h
        omega
      have p0 : PR (wI Sc 47 0 0) (121 + 9 * i) ((sto (t0 Sm) (9 + i)).1 0) := PR_fp (P := fun a => a = 47) q2 (Fp_I rfl) (fun a ha => by unfold pl9 at ha; omega)
      have g0 : GTh (rowS ((sto (t0 Sm) (9 + i)).1 0)) 0 := GTh_row gs
      obtain ⟨S2, e180, f180, p4, l4, z4⟩ := fill_c p0 g0 (by omega)
      obtain ⟨T1, e298, f298, n27, hL, g2, w2⟩ := M298_eq (k := 9 + i) (by omega) gs
      have row1 : ∀ j, j < 63 → T1.1 141 j = (sto (t0 Sm) (9 + i)).1 0 j := fun j hj => w2 j hj
      obtain ⟨T2, hT2⟩ : ∃ T2, wI T1 140 4 0 = T2 := ⟨_, rfl⟩
      have f2 : Fm [] [4] T1 T2 := by rw [← hT2]; exact Fm_f (by decide)
      have r141 : T2.1 141 = T1.1 141 := f2.row (by decide) (by decide)
      have row : ∀ j, j < 63 → T2.1 141 j = (sto (t0 Sm) (9 + i)).1 0 j := fun j hj => by rw [r141]; exact row1 j hj
      have fT : Fm [141, 147, 148, 149] [4, 20, 27] (t0 Sm) T2 := (f298.wk (by decide) (by decide)).tr (f2.wk (by decide) (by decide))
      have hL2 : Ld T2 := (Ld_fm hL f2 (by decide) (by decide) (by decide) (by decide) (by decide) (by decide)).1
      have fC : Fp (fun a => a = 47 ∨ rpl a) Sc S2 := (Fp_I (Or.inl rfl)).tr (f180.wk (fun a ha => Or.inr ha))
      have eLL : rL T2 141 = rL (rowS ((sto (t0 Sm) (9 + i)).1 0)) 0 := rL_63 (S := rowS ((sto (t0 Sm) (9 + i)).1 0)) (h := 0) row g0.1
      have l4' : LC S2 21 (rL T2 141) 256 := by rw [eLL]; exact l4
      have k4 : T2.1 140 4 = 0 := by rw [← hT2, wI_1, if_pos ⟨rfl, rfl⟩]
      have k47 : S2.1 47 = (wI Sc 47 0 0).1 47 := (f180 47 (by unfold rpl pl9; omega)).1
      obtain ⟨r1, r2, r3, r4, r5, r6, r7⟩ := R'
      refine Agr_r (a := T1.1 140 20) (Sc' := S2) (Sm' := T2) ?_ ?_ ⟨oB_f r1 fC (by unfold rpl pl9; omega) (by unfold rpl pl9; omega) fT (by decide) (by decide) (by decide), oE_f r2 fC (by unfold rpl pl9; omega) fT (by decide) (by decide) (by decide), Or.inr ⟨by rw [fT.fld (by decide) (by decide)]; exact q3, PR_row p4 (GTh_cb gs) row, l4'⟩, ?_, oK_f r5 fC (fun a _ _ => by unfold rpl pl9; omega) fT (by decide) (by decide) (by decide) (by decide), oD_f r6 fC (by unfold rpl pl9; omega) (by unfold rpl pl9; omega) fT (by decide) (by decide) (by decide), fun _ => ⟨Ca_z z4, Cm_z (by rw [f2.fld (by decide) (by decide)]; exact n27)⟩⟩ (by rw [fT.fld (by decide) (by decide)]; exact z0)
      · unfold F_173
        rw [ei', ox_r, F178_eq hi, if_neg n0]
        unfold F_8
        rw [ob_s]
        dsimp only
        rw [e180, ob_s]
        dsimp only
        rw [cnt_eq l4' hL2, f2.fld (by decide) (by decide)]
      · unfold F_312
        rw [ej', ob_s]
        dsimp only
        rw [if_neg (by decide), ck_t (ibd_n (by omega) (by omega)), nJ_ix (by omega), decide_eq_false q1, M183_f z0, ob_s]
        dsimp only
        rw [if_neg (by decide), show (9 : Int32) + nJ i = nJ (9 + i) from nJ_add 9 i, e298, ob_s]
        dsimp only
        rw [hT2]
      · obtain ⟨c, o, a1, a2, a3, a4, a5, a6, a7⟩ := r4
        exact ⟨0, o, k4, by rw [k47, wI_1, if_pos ⟨rfl, rfl⟩]; rfl, by omega, by rw [k47, wI_1, if_neg (by decide)]; exact a4, a5, fun k hk => absurd hk (Nat.not_lt_zero _), fun _ => rfl⟩
end Un
