/-! changes of vertices -/
theorem ox_id {α : Type} (rc : String ⊕ α) (S : ST) : ox (some (rc, S)) (fun a s => (some (.inr a, s) : Option ((String ⊕ α) × ST))) = some (rc, S) := by cases rc <;> rfl
theorem Pub_up {α : Type} {rc : String ⊕ α} {rm : α} {S : ST} (h : Pub [(iaE, 3)] rc rm S) : Pub E123 rc rm S := by
  rcases h with ⟨q, hq, a, b⟩ | h
  · have hq : q = (iaE, 3) := by simpa using hq
    subst hq
    exact Or.inl ⟨_, by simp [E123], a, b⟩
  · exact Or.inr h
section Vx
variable {S Sc T T' Sc' Sm : ST}
theorem kXY (x y : Int32) : (F_306 x y = true ∧ (F_176 x 0 15 Sc = some (.inl iaE, Sc) ∨ (F_176 x 0 15 Sc = some (.inr (), Sc) ∧ F_176 y 0 15 Sc = some (.inl iaE, Sc)))) ∨ (∃ a b, x = nJ a ∧ y = nJ b ∧ a ≤ 15 ∧ b ≤ 15 ∧ F_306 x y = false ∧ F_176 x 0 15 Sc = some (.inr (), Sc) ∧ F_176 y 0 15 Sc = some (.inr (), Sc)) := by
  have t : ∀ {v : Int32}, F_182 v 0 15 = true ↔ ∃ i, i ≤ 15 ∧ v = nJ i := fun {v} => rng_t (v := v) (m := 15) (by omega)
  by_cases hx : ∃ i, i ≤ 15 ∧ x = nJ i
  · have cx : F_176 x 0 15 Sc = some (.inr (), Sc) := by
      obtain ⟨a, ha, rfl⟩ := hx
      exact C176_y (m := 15) (by omega) ha
    have tx := t.mpr hx
    by_cases hy : ∃ i, i ≤ 15 ∧ y = nJ i
    · have cy : F_176 y 0 15 Sc = some (.inr (), Sc) := by
        obtain ⟨a, ha, rfl⟩ := hy
        exact C176_y (m := 15) (by omega) ha
      have ty := t.mpr hy
      obtain ⟨a, ha, ea⟩ := hx
      obtain ⟨b, hb, eb⟩ := hy
      exact Or.inr ⟨a, b, ea, eb, ha, hb, by unfold F_306; rw [tx, ty]; rfl, cx, cy⟩
    · have ty : F_182 y 0 15 = false := by rw [← Bool.not_eq_true]; exact fun z => hy (t.mp z)
      exact Or.inl ⟨by unfold F_306; rw [tx, ty]; rfl, Or.inr ⟨cx, C176_i (m := 15) (by omega) hy⟩⟩
  · have tx : F_182 x 0 15 = false := by rw [← Bool.not_eq_true]; exact fun z => hx (t.mp z)
    exact Or.inl ⟨by unfold F_306; rw [tx]; rfl, Or.inl (C176_i (m := 15) (by omega) hx)⟩
theorem nJ15 {a : Nat} (h : a ≤ 15) : 0 ≤ (nJ a).toInt ∧ (nJ a).toInt ≤ 15 := by rw [nJ_toInt (by omega)]; omega
theorem a167 (R : Ro Sc Sm) (M : MOK Sm) (v x y : Int32) : Agr E123 (F_167 v x y) (F_307 v x y) Sc Sm := by
  rcases kVt R M v with ⟨ec, em⟩ | ⟨ec, ei, em⟩ | ⟨i, T, rfl, hi, G, ec, ei, em, f⟩
  · exact Agr_x R M (e := isE) (k := 1) (by simp [E123]) (by unfold F_167; rw [ec]; rfl) (by unfold F_307; rw [em]; rfl) tt_0 tt_F
  · exact Agr_x R M (e := ixE) (k := 2) (by simp [E123]) (by unfold F_167; rw [ec, ox_r, ei]; rfl) (by unfold F_307; rw [em]; rfl) tt_0 tt_F
  · obtain ⟨R0, M0, Y, z0⟩ := G
    rcases kXY (Sc := Sc) x y with ⟨q, alt⟩ | ⟨a, b, rfl, rfl, ha, hb, q, c1, c2⟩
    · refine Agr_x (Sm' := wI T 140 0 3) R M (e := iaE) (k := 3) (by simp [E123]) ?_ (z := 0) ?_ (by rw [wI_1, if_pos ⟨rfl, rfl⟩]) (f.tr (Fm_f (by decide)))
      · unfold F_167
        rw [ec, ox_r, ei, ox_r]
        rcases alt with c1 | ⟨c1, c2⟩
        · rw [c1]; rfl
        · rw [c1, ox_r, c2]; rfl
      · unfold F_307
        rw [em, ob_s]
        dsimp only
        rw [if_neg (by decide), q, M183_t z0 (by decide)]
        rfl
    · obtain ⟨⟨n1, n2, n3, n4⟩, _⟩ := PY_n Y
      have g := Y.2.2.2
      obtain ⟨S1, e43, f43, w43⟩ := F43_eq Sc (h0 := 12) (h1 := 3) (by omega)
      have p1 := w43 _ Y.2.2.1 (GTh_cb g)
      obtain ⟨S2, e49, f49, w49⟩ := F49_eq p1 (GTh_cb g) n2 n4 hi (nJ a) (nJ b)
      obtain ⟨T1, e305, f305, w305⟩ := M305_eq T
      obtain ⟨T2, hT2⟩ : ∃ T2, wI (wI T1 146 (3 + i) (nJ a)) 146 (15 + i) (nJ b) = T2 := ⟨_, rfl⟩
      have fT : Fm [146] [] T T2 := by rw [← hT2]; exact (f305.tr (Fm_a (by decide))).tr (Fm_a (by decide))
      have row : ∀ j, j < 63 → T2.1 146 j = if j = 15 + i then nJ b else if j = 3 + i then nJ a else T.1 141 j := fun j hj => by
        rw [← hT2, wI_1, wI_1]
        by_cases c1 : j = 15 + i
        · rw [if_pos ⟨rfl, c1⟩, if_pos c1]
        · rw [if_neg (fun z => c1 z.2), if_neg c1]
          by_cases c2 : j = 3 + i
          · rw [if_pos ⟨rfl, c2⟩, if_pos c2]
          · rw [if_neg (fun z => c2 z.2), if_neg c2]
            exact w305 j hj
      have h146 : T2.1 146 0 = nJ (rN T 141) := by rw [row 0 (by omega), if_neg (by omega), if_neg (by omega)]; exact n2
      have eN : rN T2 146 = rN T 141 := rN_v h146 n4
      have p2 : PR S2 12 (T2.1 146) := w49 _ (fun j hj hz => by rw [row j hj, if_neg (by omega), if_neg (by omega)]) (fun k hk => by
        constructor
        · rw [row _ (by omega), if_neg (by omega)]
          by_cases c : k = i
          · rw [if_pos (by omega), if_pos c]
          · rw [if_neg (by omega), if_neg c]
        · rw [row _ (by omega)]
          by_cases c : k = i
          · rw [if_pos (by omega), if_pos c]
          · rw [if_neg (by omega), if_neg (by omega), if_neg c])
      obtain ⟨rc, rm, S', T', eC, eM, R', P⟩ := adopt_eq R0 M0 Y (f43.tr f49) fT p2 ⟨by rw [eN]; exact h146, by omega⟩ (by omega) (fun j j1 j2 => by
        rw [row j (by omega)]
        by_cases c1 : j = 15 + i
        · rw [if_pos c1]; exact nJ15 hb
        · rw [if_neg c1]
          by_cases c2 : j = 3 + i
          · rw [if_pos c2]; exact nJ15 ha
          · rw [if_neg c2]; exact g.1.2.2.1 j j1 j2) (fun j j1 j2 => by rw [row j j2, if_neg (by omega), if_neg (by omega)]) (by rw [row 1 (by omega), if_neg (by omega), if_neg (by omega)]) (by rw [row 2 (by omega), if_neg (by omega), if_neg (by omega)]) z0
      refine ⟨rc, rm, S', T', ?_, ?_, R', Pub_up P⟩
      · unfold F_167
        rw [ec, ox_r, ei, ox_r, c1, ox_r, c2, ox_r, e43, ob_s]
        dsimp only
        rw [e49, ob_s]
        dsimp only
        rw [eC]
        exact ox_id rc S'
      · unfold F_307
        rw [em, ob_s]
        dsimp only
        rw [if_neg (by decide), q, M183_f z0, ob_s]
        dsimp only
        rw [if_neg (by decide), e305, ob_s]
        dsimp only
        rw [show (3 : Int32) + nJ i = nJ (3 + i) from nJ_add 3 i, show (15 : Int32) + nJ i = nJ (15 + i) from nJ_add 15 i, ck_t (ibd_n (by omega) (by omega)), sbn_e, ck_t (ibd_n (by omega) (by omega)), sbn_e, nJ_ix (by omega), nJ_ix (by omega), hT2, eM, ob_s]
theorem M308_55 {v1 x y : Int32} {N i : Nat} {T1 : ST} (hv : v1 = nJ i) (hN : N < 12) (hi : i < N) : ∃ T2, wh FU (Lm_308_55 v1 x y) (nJ N, T1) = some (nJ (i + 1), T2) ∧ Fm [146] [] T1 T2 ∧ ∀ j, T2.1 146 j = if 4 + i < j ∧ j ≤ 3 + N then T1.1 141 (j - 1) else if 16 + i < j ∧ j ≤ 15 + N then T1.1 141 (j - 1) else T1.1 146 j := by
  subst hv
  have key : ∃ r, wh FU (Lm_308_55 (nJ i) x y) (nJ N, T1) = some r ∧ r.1 = nJ (i + 1) ∧ Fm [146] [] T1 r.2 ∧ ∀ j, r.2.1 146 j = if 4 + i < j ∧ j ≤ 3 + N then T1.1 141 (j - 1) else if 16 + i < j ∧ j ≤ 15 + N then T1.1 141 (j - 1) else T1.1 146 j := by
    refine wh_inv (I := fun m z => ∃ a, i + 1 + m = a ∧ a ≤ N ∧ z.1 = nJ a ∧ Fm [146] [] T1 z.2 ∧ ∀ j, z.2.1 146 j = if 3 + a < j ∧ j ≤ 3 + N then T1.1 141 (j - 1) else if 15 + a < j ∧ j ≤ 15 + N then T1.1 141 (j - 1) else T1.1 146 j) ?_ FU (N - (i + 1)) _ (FU_lt (by omega)) ⟨N, by omega, Nat.le_refl _, rfl, Fm.rf, fun j => by rw [if_neg (by omega), if_neg (by omega)]⟩
    rintro m ⟨z, S1⟩ ⟨a, ha, haN, hz, f1, w⟩
    have hz : z = nJ a := hz
    subst hz
    dsimp only at f1 w ⊢
    unfold Lm_308_55
    dsimp only
    rw [nJ_succ]
    by_cases c : i + 1 < a
    · have r141 : S1.1 141 = T1.1 141 := f1.row (by decide) (by decide)
      have a3 : (3 : Int32) + nJ a = nJ (3 + a) := nJ_add 3 a
      have a15 : (15 : Int32) + nJ a = nJ (15 + a) := nJ_add 15 a
      have b3 : nJ (3 + a) - 1 = nJ (3 + a - 1) := nJ_sub (j := 1) (by omega)
      have b15 : nJ (15 + a) - 1 = nJ (15 + a - 1) := nJ_sub (j := 1) (by omega)
      have bm : nJ a + (-1) = nJ (a - 1) := by
        rw [show nJ (a - 1) = nJ a - 1 from (nJ_sub (j := 1) (by omega)).symm]
        exact (Int32.sub_eq_add_neg ..).symm
      rw [if_pos ((nJ_lt (by omega) (by omega)).mpr c), a3, a15, b3, b15, bm, ck_t (ibd_n (by omega) (by omega)), ck_t (ibd_n (by omega) (by omega)), sbn_e, ck_t (ibd_n (by omega) (by omega)), ck_t (ibd_n (by omega) (by omega)), sbn_e, show Int32.toNatClampNeg (nJ (3 + a)) = 3 + a from nJ_ix (by omega), show Int32.toNatClampNeg (nJ (15 + a)) = 15 + a from nJ_ix (by omega), show Int32.toNatClampNeg (nJ (3 + a - 1)) = 3 + a - 1 from nJ_ix (by omega), show Int32.toNatClampNeg (nJ (15 + a - 1)) = 15 + a - 1 from nJ_ix (by omega), r141, show (wI S1 146 (3 + a) (T1.1 141 (3 + a - 1))).1 141 (15 + a - 1) = T1.1 141 (15 + a - 1) from by rw [wI_1, if_neg (by omega), r141]]
      refine Or.inl ⟨_, m - 1, by omega, rfl, a - 1, by omega, by omega, rfl, (f1.tr (Fm_a (by decide))).tr (Fm_a (by decide)), fun j => ?_⟩
      show (wI (wI S1 146 (3 + a) _) 146 (15 + a) _).1 146 j = _
      rw [wI_1, wI_1]
      by_cases c1 : j = 15 + a
      · rw [if_pos ⟨rfl, c1⟩, if_neg (by omega), if_pos (by omega), c1]
      · rw [if_neg (fun q => c1 q.2)]
        by_cases c2 : j = 3 + a
        · rw [if_pos ⟨rfl, c2⟩, if_pos (by omega), c2]
        · rw [if_neg (fun q => c2 q.2), w j]
          by_cases d1 : 3 + a < j ∧ j ≤ 3 + N
          · rw [if_pos d1, if_pos (by omega)]
          · rw [if_neg d1]
            by_cases d2 : 15 + a < j ∧ j ≤ 15 + N
            · rw [if_pos d2, if_neg (by omega), if_pos (by omega)]
            · rw [if_neg d2, if_neg (by omega), if_neg (by omega)]
    · have ea : a = i + 1 := by omega
      subst ea
      rw [if_neg (fun q => c ((nJ_lt (by omega) (by omega)).mp q))]
      refine Or.inr ⟨_, rfl, rfl, f1, fun j => ?_⟩
      show S1.1 146 j = _
      rw [w j, show 3 + (i + 1) = 4 + i by omega, show 15 + (i + 1) = 16 + i by omega]
  obtain ⟨⟨z, T2⟩, e, e1, w⟩ := key
  have e1 : z = nJ (i + 1) := e1
  subst e1
  exact ⟨T2, e, w⟩
theorem a168 (R : Ro Sc Sm) (M : MOK Sm) (v x y : Int32) : Agr E123 (F_168 v x y) (F_308 v x y) Sc Sm := by
  rcases kVt R M v with ⟨ec, em⟩ | ⟨ec, ei, em⟩ | ⟨i, T, rfl, hi, G, ec, ei, em, f⟩
  · exact Agr_x R M (e := isE) (k := 1) (by simp [E123]) (by unfold F_168; rw [ec]; rfl) (by unfold F_308; rw [em]; rfl) tt_0 tt_F
  · exact Agr_x R M (e := ixE) (k := 2) (by simp [E123]) (by unfold F_168; rw [ec, ox_r, ei]; rfl) (by unfold F_308; rw [em]; rfl) tt_0 tt_F
  · obtain ⟨R0, M0, Y, z0⟩ := G
    obtain ⟨⟨n1, n2, n3, n4⟩, _⟩ := PY_n Y
    rcases kXY (Sc := Sc) x y with ⟨q, alt⟩ | ⟨a, b, rfl, rfl, ha, hb, q, c1, c2⟩
    · refine Agr_x (Sm' := wI T 140 0 3) R M (e := iaE) (k := 3) (by simp [E123]) ?_ (z := 0) ?_ (by rw [wI_1, if_pos ⟨rfl, rfl⟩]) (f.tr (Fm_f (by decide)))
      · unfold F_168
        rw [ec, ox_r, ei, ox_r]
        rcases alt with c1 | ⟨c1, c2⟩
        · rw [c1]; rfl
        · rw [c1, ox_r, c2]; rfl
      · unfold F_308
        rw [em, ob_s]
        dsimp only
        rw [if_neg (by decide), q, Bool.true_or, M183_t z0 (by decide)]
        rfl
    · by_cases cN : rN T 141 = 12
      · refine Agr_x (Sm' := wI T 140 0 3) R M (e := iaE) (k := 3) (by simp [E123]) ?_ (z := 0) ?_ (by rw [wI_1, if_pos ⟨rfl, rfl⟩]) (f.tr (Fm_f (by decide)))
        · unfold F_168
          rw [ec, ox_r, ei, ox_r, c1, ox_r, c2, ox_r, n1, cN, if_neg (by decide)]
          rfl
        · unfold F_308
          rw [em, ob_s]
          dsimp only
          rw [if_neg (by decide), n2, cN, show decide (nJ 12 = 12) = true from rfl, Bool.or_true, M183_t z0 (by decide)]
          rfl
      · have l12 : rN T 141 < 12 := by omega
        have g := Y.2.2.2
        obtain ⟨S1, e43, f43, w43⟩ := F43_eq Sc (h0 := 12) (h1 := 3) (by omega)
        have p1 := w43 _ Y.2.2.1 (GTh_cb g)
        obtain ⟨S2, e48, f48, w48⟩ := F48_eq p1 (GTh_cb g) n2 l12 (show i + 1 ≤ rN T 141 by omega) (nJ a) (nJ b)
        obtain ⟨T1, e305, f305, w305⟩ := M305_eq T
        have r141 : T1.1 141 = T.1 141 := f305.row (by decide) (by decide)
        obtain ⟨T3, e308, f308, w308⟩ := M308_55 (v1 := nJ i) (x := nJ a) (y := nJ b) (N := rN T 141) (T1 := T1) rfl l12 hi
        obtain ⟨T2, hT2⟩ : ∃ T2, wI (wI (wI T3 146 (3 + i + 1) (nJ a)) 146 (15 + i + 1) (nJ b)) 146 0 (nJ (rN T 141 + 1)) = T2 := ⟨_, rfl⟩
        have fT : Fm [146] [] T T2 := by rw [← hT2]; exact (((f305.tr f308).tr (Fm_a (by decide))).tr (Fm_a (by decide))).tr (Fm_a (by decide))
        have row : ∀ j, j < 63 → T2.1 146 j = if j = 0 then nJ (rN T 141 + 1) else if j = 16 + i then nJ b else if j = 4 + i then nJ a else if 4 + i < j ∧ j ≤ 3 + rN T 141 then T.1 141 (j - 1) else if 16 + i < j ∧ j ≤ 15 + rN T 141 then T.1 141 (j - 1) else T.1 141 j := fun j hj => by
          rw [← hT2, wI_1, wI_1, wI_1]
          by_cases c0 : j = 0
          · rw [if_pos ⟨rfl, c0⟩, if_pos c0]
          · rw [if_neg (fun z => c0 z.2), if_neg c0]
            by_cases c1 : j = 16 + i
            · rw [if_pos ⟨rfl, by omega⟩, if_pos c1]
            · rw [if_neg (fun z => c1 (by omega)), if_neg c1]
              by_cases c2 : j = 4 + i
              · rw [if_pos ⟨rfl, by omega⟩, if_pos c2]
              · rw [if_neg (fun z => c2 (by omega)), if_neg c2, w308 j, r141, w305 j hj]
        have h146 : T2.1 146 0 = nJ (rN T 141 + 1) := by rw [row 0 (by omega), if_pos rfl]
        have eN : rN T2 146 = rN T 141 + 1 := rN_v h146 (by omega)
        have p2 : PR S2 12 (T2.1 146) := w48 _ (fun j hj hz => by rw [row j hj, if_neg (by omega), if_neg (by omega), if_neg (by omega), if_neg (by omega), if_neg (by omega)]) h146 (fun k hk => by
          constructor
          · rw [row _ (by omega), if_neg (by omega), if_neg (by omega)]
            by_cases d1 : k < i + 1
            · rw [if_neg (by omega), if_neg (by omega), if_neg (by omega), if_pos d1]
            · by_cases d2 : k = i + 1
              · rw [if_pos (by omega), if_neg d1, if_pos d2]
              · rw [if_neg (by omega), if_pos (by omega), if_neg d1, if_neg d2, show 3 + k - 1 = 3 + (k - 1) by omega]
          · rw [row _ (by omega), if_neg (by omega)]
            by_cases d1 : k < i + 1
            · rw [if_neg (by omega), if_neg (by omega), if_neg (by omega), if_neg (by omega), if_pos d1]
            · by_cases d2 : k = i + 1
              · rw [if_pos (by omega), if_neg d1, if_pos d2]
              · rw [if_neg (by omega), if_neg (by omega), if_neg (by omega), if_pos (by omega), if_neg d1, if_neg d2, show 15 + k - 1 = 15 + (k - 1) by omega])
        obtain ⟨rc, rm, S', T', eC, eM, R', P⟩ := adopt_eq R0 M0 Y (f43.tr f48) fT p2 ⟨by rw [eN]; exact h146, by omega⟩ (by omega) (fun j j1 j2 => by
          rw [row j (by omega), if_neg (by omega)]
          by_cases d1 : j = 16 + i
          · rw [if_pos d1]; exact nJ15 hb
          · rw [if_neg d1]
            by_cases d2 : j = 4 + i
            · rw [if_pos d2]; exact nJ15 ha
            · rw [if_neg d2]
              by_cases d3 : 4 + i < j ∧ j ≤ 3 + rN T 141
              · rw [if_pos d3]; exact g.1.2.2.1 _ (by omega) (by omega)
              · rw [if_neg d3]
                by_cases d4 : 16 + i < j ∧ j ≤ 15 + rN T 141
                · rw [if_pos d4]; exact g.1.2.2.1 _ (by omega) (by omega)
                · rw [if_neg d4]; exact g.1.2.2.1 j j1 j2) (fun j j1 j2 => by rw [row j j2, if_neg (by omega), if_neg (by omega), if_neg (by omega), if_neg (by omega), if_neg (by omega)]) (by rw [row 1 (by omega), if_neg (by omega), if_neg (by omega), if_neg (by omega), if_neg (by omega), if_neg (by omega)]) (by rw [row 2 (by omega), if_neg (by omega), if_neg (by omega), if_neg (by omega), if_neg (by omega), if_neg (by omega)]) z0
        refine ⟨rc, rm, S', T', ?_, ?_, R', Pub_up P⟩
        · unfold F_168
          rw [ec, ox_r, ei, ox_r, c1, ox_r, c2, ox_r, n1, if_pos (show nJ (rN T 141) < 12 from (nJ_lt (j := 12) (by omega) (by omega)).mpr l12), e43, ob_s]
          dsimp only
          rw [nJ_succ, e48, ob_s]
          dsimp only
          rw [eC]
          exact ox_id rc S'
        · have k0 : (wI (wI T3 146 (3 + i + 1) (nJ a)) 146 (15 + i + 1) (nJ b)).1 146 0 = nJ (rN T 141) := by
            rw [wI_1, if_neg (by omega), wI_1, if_neg (by omega), w308 0, if_neg (by omega), if_neg (by omega), w305 0 (by omega)]
            exact n2
          unfold F_308
          rw [em, ob_s]
          dsimp only
          rw [if_neg (by decide), n2, q, decide_eq_false (show ¬ nJ (rN T 141) = 12 from fun z => cN ((nJ_eq (j := 12) (by omega) (by omega)).mp z)), Bool.or_false, M183_f z0, ob_s]
          dsimp only
          rw [if_neg (by decide), e305, ob_s]
          dsimp only
          rw [r141, n2, e308, ob_s]
          dsimp only
          rw [show (3 : Int32) + nJ i = nJ (3 + i) from nJ_add 3 i, show (15 : Int32) + nJ i = nJ (15 + i) from nJ_add 15 i, nJ_succ (3 + i), nJ_succ (15 + i), ck_t (ibd_n (by omega) (by omega)), sbn_e, ck_t (ibd_n (by omega) (by omega)), sbn_e, show Int32.toNatClampNeg (nJ (3 + i + 1)) = 3 + i + 1 from nJ_ix (by omega), show Int32.toNatClampNeg (nJ (15 + i + 1)) = 15 + i + 1 from nJ_ix (by omega), k0, nJ_succ (rN T 141), hT2, eM, ob_s]
theorem M309_49 {v1 : Int32} {N i : Nat} {T1 : ST} (hv : v1 = nJ i) (hN : N < 12) (hi : i ≤ N) (h0 : T1.1 146 0 = nJ N) : ∃ T2, wh FU (Lm_309_49 v1) (nJ i, T1) = some (nJ N, T2) ∧ Fm [146] [] T1 T2 ∧ ∀ j, T2.1 146 j = if 3 + i ≤ j ∧ j < 3 + N then T1.1 141 (j + 1) else if 15 + i ≤ j ∧ j < 15 + N then T1.1 141 (j + 1) else T1.1 146 j := by
  subst hv
  have key : ∃ r, wh FU (Lm_309_49 (nJ i)) (nJ i, T1) = some r ∧ r.1 = nJ N ∧ Fm [146] [] T1 r.2 ∧ ∀ j, r.2.1 146 j = if 3 + i ≤ j ∧ j < 3 + N then T1.1 141 (j + 1) else if 15 + i ≤ j ∧ j < 15 + N then T1.1 141 (j + 1) else T1.1 146 j := by
    refine wh_inv (I := fun m z => ∃ a, a + m = N ∧ i ≤ a ∧ z.1 = nJ a ∧ Fm [146] [] T1 z.2 ∧ ∀ j, z.2.1 146 j = if 3 + i ≤ j ∧ j < 3 + a then T1.1 141 (j + 1) else if 15 + i ≤ j ∧ j < 15 + a then T1.1 141 (j + 1) else T1.1 146 j) ?_ FU (N - i) _ (FU_lt (by omega)) ⟨i, by omega, Nat.le_refl _, rfl, Fm.rf, fun j => by rw [if_neg (by omega), if_neg (by omega)]⟩
    rintro m ⟨z, S1⟩ ⟨a, ha, haN, hz, f1, w⟩
    have hz : z = nJ a := hz
    subst hz
    dsimp only at f1 w ⊢
    have k0 : S1.1 146 0 = nJ N := by rw [w 0, if_neg (by omega), if_neg (by omega)]; exact h0
    unfold Lm_309_49
    dsimp only
    rw [k0]
    by_cases c : a < N
    · have r141 : S1.1 141 = T1.1 141 := f1.row (by decide) (by decide)
      have a3 : (3 : Int32) + nJ a = nJ (3 + a) := nJ_add 3 a
      have a15 : (15 : Int32) + nJ a = nJ (15 + a) := nJ_add 15 a
      rw [if_pos ((nJ_lt (by omega) (by omega)).mpr c), a3, a15, nJ_succ (3 + a), nJ_succ (15 + a), nJ_succ a, ck_t (ibd_n (by omega) (by omega)), ck_t (ibd_n (by omega) (by omega)), sbn_e, ck_t (ibd_n (by omega) (by omega)), ck_t (ibd_n (by omega) (by omega)), sbn_e, show Int32.toNatClampNeg (nJ (3 + a)) = 3 + a from nJ_ix (by omega), show Int32.toNatClampNeg (nJ (15 + a)) = 15 + a from nJ_ix (by omega), show Int32.toNatClampNeg (nJ (3 + a + 1)) = 3 + a + 1 from nJ_ix (by omega), show Int32.toNatClampNeg (nJ (15 + a + 1)) = 15 + a + 1 from nJ_ix (by omega), r141, show (wI S1 146 (3 + a) (T1.1 141 (3 + a + 1))).1 141 (15 + a + 1) = T1.1 141 (15 + a + 1) from by rw [wI_1, if_neg (by omega), r141]]
      refine Or.inl ⟨_, m - 1, by omega, rfl, a + 1, by omega, by omega, rfl, (f1.tr (Fm_a (by decide))).tr (Fm_a (by decide)), fun j => ?_⟩
      show (wI (wI S1 146 (3 + a) _) 146 (15 + a) _).1 146 j = _
      rw [wI_1, wI_1]
      by_cases c1 : j = 15 + a
      · rw [if_pos ⟨rfl, c1⟩, if_neg (by omega), if_pos (by omega), c1]
      · rw [if_neg (fun q => c1 q.2)]
        by_cases c2 : j = 3 + a
        · rw [if_pos ⟨rfl, c2⟩, if_pos (by omega), c2]
        · rw [if_neg (fun q => c2 q.2), w j]
          by_cases d1 : 3 + i ≤ j ∧ j < 3 + a
          · rw [if_pos d1, if_pos (by omega)]
          · rw [if_neg d1]
            by_cases d2 : 15 + i ≤ j ∧ j < 15 + a
            · rw [if_pos d2, if_neg (by omega), if_pos (by omega)]
            · rw [if_neg d2, if_neg (by omega), if_neg (by omega)]
    · have ea : a = N := by omega
      subst ea
      rw [if_neg (fun q => c ((nJ_lt (by omega) (by omega)).mp q))]
      exact Or.inr ⟨_, rfl, rfl, f1, w⟩
  obtain ⟨⟨z, T2⟩, e, e1, w⟩ := key
  have e1 : z = nJ N := e1
  subst e1
  exact ⟨T2, e, w⟩
theorem a169 (R : Ro Sc Sm) (M : MOK Sm) (v : Int32) : Agr E123 (F_169 v) (F_309 v) Sc Sm := by
  rcases kVt R M v with ⟨ec, em⟩ | ⟨ec, ei, em⟩ | ⟨i, T, rfl, hi, G, ec, ei, em, f⟩
  · exact Agr_x R M (e := isE) (k := 1) (by simp [E123]) (by unfold F_169; rw [ec]; rfl) (by unfold F_309; rw [em]; rfl) tt_0 tt_F
  · exact Agr_x R M (e := ixE) (k := 2) (by simp [E123]) (by unfold F_169; rw [ec, ox_r, ei]; rfl) (by unfold F_309; rw [em]; rfl) tt_0 tt_F
  · obtain ⟨R0, M0, Y, z0⟩ := G
    obtain ⟨⟨n1, n2, n3, n4⟩, _⟩ := PY_n Y
    have g := Y.2.2.2
    obtain ⟨S1, e43, f43, w43⟩ := F43_eq Sc (h0 := 12) (h1 := 3) (by omega)
    have p1 := w43 _ Y.2.2.1 (GTh_cb g)
    obtain ⟨S2, e50, f50, w50⟩ := F50_eq p1 (GTh_cb g) n2 n4 hi
    have C0 : F_169 (nJ i) Sc = ox (F_179 S2) (fun w5 w5s => some (.inr w5, w5s)) := by
      unfold F_169
      rw [ec, ox_r, ei, ox_r, e43, ob_s]
      dsimp only
      rw [e50, ob_s]
    obtain ⟨T1, e305, f305, w305⟩ := M305_eq T
    have r141 : T1.1 141 = T.1 141 := f305.row (by decide) (by decide)
    have u0 : (wI T1 146 0 (nJ (rN T 141 - 1))).1 146 0 = nJ (rN T 141 - 1) := by rw [wI_1, if_pos ⟨rfl, rfl⟩]
    obtain ⟨T2, e309, f309, w309⟩ := M309_49 (v1 := nJ i) (N := rN T 141 - 1) (i := i) (T1 := wI T1 146 0 (nJ (rN T 141 - 1))) rfl (by omega) (by omega) u0
    have fT : Fm [146] [] T T2 := (f305.tr (Fm_a (by decide))).tr f309
    have row : ∀ j, j < 63 → T2.1 146 j = if 3 + i ≤ j ∧ j < 3 + (rN T 141 - 1) then T.1 141 (j + 1) else if 15 + i ≤ j ∧ j < 15 + (rN T 141 - 1) then T.1 141 (j + 1) else if j = 0 then nJ (rN T 141 - 1) else T.1 141 j := fun j hj => by
      have vA : (wI T1 146 0 (nJ (rN T 141 - 1))).1 141 (j + 1) = T.1 141 (j + 1) := by rw [wI_1, if_neg (by omega), r141]
      have vB : (wI T1 146 0 (nJ (rN T 141 - 1))).1 146 j = if j = 0 then nJ (rN T 141 - 1) else T.1 141 j := by
        rw [wI_1]
        by_cases c0 : j = 0
        · rw [if_pos ⟨rfl, c0⟩, if_pos c0]
        · rw [if_neg (fun z => c0 z.2), if_neg c0, w305 j hj]
      rw [w309 j, vA, vB]
    have h146 : T2.1 146 0 = nJ (rN T 141 - 1) := by rw [row 0 (by omega), if_neg (by omega), if_neg (by omega), if_pos rfl]
    have eN : rN T2 146 = rN T 141 - 1 := rN_v h146 (by omega)
    have p2 : PR S2 12 (T2.1 146) := w50 _ (fun j hj hz => by rw [row j hj, if_neg (by omega), if_neg (by omega), if_neg (by omega)]) h146 (fun k hk => by
      constructor
      · rw [row _ (by omega)]
        by_cases d1 : k < i
        · rw [if_neg (by omega), if_neg (by omega), if_neg (by omega), if_pos d1]
        · rw [if_pos (by omega), if_neg d1, show 3 + k + 1 = 3 + (k + 1) by omega]
      · rw [row _ (by omega), if_neg (by omega)]
        by_cases d1 : k < i
        · rw [if_neg (by omega), if_neg (by omega), if_pos d1]
        · rw [if_pos (by omega), if_neg d1, show 15 + k + 1 = 15 + (k + 1) by omega])
    have hB : RB T2 146 := fun j j1 j2 => by
      rw [row j (by omega)]
      by_cases d3 : 3 + i ≤ j ∧ j < 3 + (rN T 141 - 1)
      · rw [if_pos d3]; exact g.1.2.2.1 _ (by omega) (by omega)
      · rw [if_neg d3]
        by_cases d4 : 15 + i ≤ j ∧ j < 15 + (rN T 141 - 1)
        · rw [if_pos d4]; exact g.1.2.2.1 _ (by omega) (by omega)
        · rw [if_neg d4, if_neg (by omega)]; exact g.1.2.2.1 j j1 j2
    have hW : RW T2 146 := ⟨by rw [eN]; exact h146, by omega⟩
    have k1 : T2.1 146 1 = T.1 141 1 := by rw [row 1 (by omega), if_neg (by omega), if_neg (by omega), if_neg (by omega)]
    have k2' : T2.1 146 2 = T.1 141 2 := by rw [row 2 (by omega), if_neg (by omega), if_neg (by omega), if_neg (by omega)]
    by_cases cN : rN T 141 = 3
    · obtain ⟨g1, g2, g3, t1, t2, t3⟩ := PY_g Y
      have hcb : cb (T2.1 146) := ⟨⟨_, hW.1, hW.2⟩, ⟨_, k1.trans g2, g3⟩, _, k2'.trans t2, t3⟩
      obtain ⟨b1, e27, i27⟩ := F27_eq (PR_N p2 hcb).1 (PR_B p2 hcb (show RB (rowS (T2.1 146)) 0 from hB))
      have cN2 : clN S2 12 = rN T2 146 := (PR_rN p2 hcb).symm
      have b0 : b1 = false := by
        cases hb : b1 with
        | false => rfl
        | true => have := (i27.mp hb).1; omega
      subst b0
      refine ⟨.inl iaE, 0, S2, wI T 140 0 3, ?_, ?_, Ro_d R0 g.1 ((f43.tr f50).wk (fun a ha => Or.inl ha)) (Fm_f (by decide)), Or.inl ⟨(iaE, 3), by simp [E123], rfl, by rw [wI_1, if_pos ⟨rfl, rfl⟩]⟩⟩
      · rw [C0]
        unfold F_179
        rw [e27, ob_s, if_neg (by decide)]
        rfl
      · unfold F_309
        rw [em, ob_s]
        dsimp only
        rw [if_neg (by decide), n2, cN, show decide (nJ 3 = 3) = true from rfl, M183_t z0 (by decide)]
        rfl
    · obtain ⟨rc, rm, S', T', eC, eM, R', P⟩ := adopt_eq R0 M0 Y (f43.tr f50) fT p2 hW (by omega) hB (fun j j1 j2 => by rw [row j j2, if_neg (by omega), if_neg (by omega), if_neg (by omega)]) k1 k2' z0
      refine ⟨rc, rm, S', T', ?_, ?_, R', Pub_up P⟩
      · rw [C0, eC]
        exact ox_id rc S'
      · have k0 : T1.1 146 0 = nJ (rN T 141) := (w305 0 (by omega)).trans n2
        unfold F_309
        rw [em, ob_s]
        dsimp only
        rw [if_neg (by decide), n2, decide_eq_false (show ¬ nJ (rN T 141) = 3 from fun z => cN ((nJ_eq (j := 3) (by omega) (by omega)).mp z)), M183_f z0, ob_s]
        dsimp only
        rw [if_neg (by decide), e305, ob_s]
        dsimp only
        rw [k0, show nJ (rN T 141) - 1 = nJ (rN T 141 - 1) from nJ_sub (j := 1) (by omega), e309, ob_s]
        dsimp only
        rw [eM, ob_s]
end Vx
