/-! a changed polygon becomes the state, or not -/
section Ad
variable {S Sc T T' Sc' Sm S1 T1 : ST}
/-- things of a row that all lie in its polygon -/
def thIn (S : ST) (o G : Nat) : Prop := ∀ g, g < G → ge_cl 1 (rL S 146) ((S.1 146 (o + 3 * g)).toInt, (S.1 146 (o + 3 * g + 1)).toInt)
theorem thloop {f : Int32 × Int32 → Option ((Int32 × Int32) ⊕ (Int32 × Int32))} {o G : Nat} (hG : G ≤ 6) {b0 : Bool} (h0 : ∀ i, f (0, nJ i) = some (.inr (0, nJ i))) (hE : ∀ a, f (a, nJ G) = some (.inr (a, nJ G))) (h1 : b0 = true → ∀ i, i < G → ∃ b, f (1, nJ i) = some (.inl (b2i b, nJ (i + 1))) ∧ (b = true ↔ ge_cl 1 (rL S 146) ((S.1 146 (o + 3 * i)).toInt, (S.1 146 (o + 3 * i + 1)).toInt))) : ∃ b z, wh FU f (b2i b0, 0) = some (b2i b, z) ∧ (b = true ↔ b0 = true ∧ thIn S o G) := by
  cases b0 with
  | false => exact ⟨false, _, wh_oF (h0 0), fun z => (by cases z), fun z => (by cases z.1)⟩
  | true =>
    have key : ∃ r, wh FU f (1, nJ 0) = some r ∧ ((r.1 = 1 ∧ thIn S o G) ∨ (r.1 = 0 ∧ ¬ thIn S o G)) := by
      refine wh_inv (I := fun m x => ∃ i, i + m = G ∧ x.2 = nJ i ∧ ((x.1 = 1 ∧ thIn S o i) ∨ (x.1 = 0 ∧ ¬ thIn S o G))) ?_ FU G _ (FU_lt (by omega)) ⟨0, by omega, rfl, Or.inl ⟨rfl, fun g hg => absurd hg (by omega)⟩⟩
      rintro m ⟨a, y⟩ ⟨i, hi, hy, alt⟩
      have hy : y = nJ i := hy
      subst hy
      rcases alt with ⟨ha, w⟩ | ⟨ha, w⟩
      · have ha : a = 1 := ha
        subst ha
        by_cases c : i < G
        · obtain ⟨b, e, hb⟩ := h1 rfl i c
          rw [e]
          refine Or.inl ⟨_, m - 1, by omega, rfl, i + 1, by omega, rfl, ?_⟩
          cases b with
          | true =>
            refine Or.inl ⟨rfl, fun g hg => ?_⟩
            by_cases d : g = i
            · rw [d]; exact hb.mp rfl
            · exact w g (by omega)
          | false => exact Or.inr ⟨rfl, fun z => absurd (hb.mpr (z i c)) (by decide)⟩
        · have : i = G := by omega
          subst this
          rw [hE]
          exact Or.inr ⟨_, rfl, Or.inl ⟨rfl, w⟩⟩
      · have ha : a = 0 := ha
        subst ha
        rw [h0]
        exact Or.inr ⟨_, rfl, Or.inr ⟨rfl, w⟩⟩
    obtain ⟨⟨a, z⟩, e, alt⟩ := key
    rcases alt with ⟨ha, w⟩ | ⟨ha, w⟩
    · have ha : a = 1 := ha
      subst ha
      exact ⟨true, z, e, fun _ => ⟨rfl, w⟩, fun _ => rfl⟩
    · have ha : a = 0 := ha
      subst ha
      exact ⟨false, z, e, fun q => (by cases q), fun q => absurd q.2 w⟩
theorem M304_10 {G : Nat} (e1 : T.1 146 1 = nJ G) (hG : G ≤ 6) {b0 : Bool} (hg : b0 = true → GR T 146) (hb : ∀ i, i < G → (0 ≤ (T.1 146 (27 + 3 * i)).toInt ∧ (T.1 146 (27 + 3 * i)).toInt ≤ 15) ∧ 0 ≤ (T.1 146 (27 + 3 * i + 1)).toInt ∧ (T.1 146 (27 + 3 * i + 1)).toInt ≤ 15) : ∃ b z, wh FU (Lm_304_10 T) (b2i b0, 0) = some (b2i b, z) ∧ (b = true ↔ b0 = true ∧ thIn T 27 G) := by
  refine thloop hG (fun i => ?_) (fun a => ?_) (fun hb0 i hi => ?_)
  · unfold Lm_304_10
    dsimp only
    split <;> rfl
  · unfold Lm_304_10
    dsimp only
    rw [e1, if_neg (fun z => by have := (nJ_lt (by omega) (by omega)).mp z; omega)]
  · have g := hg hb0
    refine ⟨f_208 T 146 (Int32.toInt64 (T.1 146 (27 + 3 * i))) (Int32.toInt64 (T.1 146 (27 + 3 * i + 1))) 1, ?_, in_cl g (hb i hi).1 (hb i hi).2⟩
    unfold Lm_304_10
    dsimp only
    rw [e1, if_pos ((nJ_lt (by omega) (by omega)).mpr hi), if_neg (by decide), show (3 : Int32) * nJ i = nJ (3 * i) from nJ_mul 3 i, show (27 : Int32) + nJ (3 * i) = nJ (27 + 3 * i) from nJ_add 27 _, show nJ (27 + 3 * i) + 1 = nJ (27 + 3 * i + 1) from nJ_succ _, ck_t (ibd_n (by omega) (by omega)), ck_t (ibd_n (by omega) (by omega)), nJ_ix (by omega), nJ_ix (by omega), nJ_succ]
    unfold F_208
    rw [ck_P g.1, ob_s]
theorem M304_67 {G : Nat} (e1 : T.1 146 2 = nJ G) (hG : G ≤ 6) {b0 : Bool} (hg : b0 = true → GR T 146) (hb : ∀ i, i < G → (0 ≤ (T.1 146 (45 + 3 * i)).toInt ∧ (T.1 146 (45 + 3 * i)).toInt ≤ 15) ∧ 0 ≤ (T.1 146 (45 + 3 * i + 1)).toInt ∧ (T.1 146 (45 + 3 * i + 1)).toInt ≤ 15) : ∃ b z, wh FU (Lm_304_67 T) (b2i b0, 0) = some (b2i b, z) ∧ (b = true ↔ b0 = true ∧ thIn T 45 G) := by
  refine thloop hG (fun i => ?_) (fun a => ?_) (fun hb0 i hi => ?_)
  · unfold Lm_304_67
    dsimp only
    split <;> rfl
  · unfold Lm_304_67
    dsimp only
    rw [e1, if_neg (fun z => by have := (nJ_lt (by omega) (by omega)).mp z; omega)]
  · have g := hg hb0
    refine ⟨f_208 T 146 (Int32.toInt64 (T.1 146 (45 + 3 * i))) (Int32.toInt64 (T.1 146 (45 + 3 * i + 1))) 1, ?_, in_cl g (hb i hi).1 (hb i hi).2⟩
    unfold Lm_304_67
    dsimp only
    rw [e1, if_pos ((nJ_lt (by omega) (by omega)).mpr hi), if_neg (by decide), show (3 : Int32) * nJ i = nJ (3 * i) from nJ_mul 3 i, show (45 : Int32) + nJ (3 * i) = nJ (45 + 3 * i) from nJ_add 45 _, show nJ (45 + 3 * i) + 1 = nJ (45 + 3 * i + 1) from nJ_succ _, ck_t (ibd_n (by omega) (by omega)), ck_t (ibd_n (by omega) (by omega)), nJ_ix (by omega), nJ_ix (by omega), nJ_succ]
    unfold F_208
    rw [ck_P g.1, ob_s]
/-- the class's draft -/
def drf (a : Nat) : Prop := pl9 12 a ∨ (25 ≤ a ∧ a < 29)
theorem Ro_d (R : Ro Sc T) (g : GR T 141) (hC : Fp drf Sc Sc') (hM : Fm [146] [0] T T') : Ro Sc' T' := by
  obtain ⟨r1, r2, r3, r4, r5, r6, r7⟩ := R
  have gs : gSa T T' := gSa_fm hM (by decide) (by decide) (by decide) (by decide) (by decide) (by decide)
  refine ⟨oB_f r1 hC (by unfold drf pl9; omega) (by unfold drf pl9; omega) hM (by decide) (by decide) (by decide), oE_f r2 hC (by unfold drf pl9; omega) hM (by decide) (by decide) (by decide), oP_f r3 hC (fun a _ _ => by unfold drf pl9; omega) (fun a _ _ => by unfold drf pl9; omega) hM (by decide) (by decide) (by decide), oH_f r4 hC (fun a _ _ => by unfold drf pl9; omega) hM (by decide) (by decide) (by decide) (by decide), oK_f r5 hC (fun a _ _ => by unfold drf pl9; omega) hM (by decide) (by decide) (by decide) (by decide), oD_f r6 hC (by unfold drf pl9; omega) (by unfold drf pl9; omega) hM (by decide) (by decide) (by decide), fun q => ?_⟩
  rw [hM.fld (by decide) (by decide)] at q
  obtain ⟨c1, c2⟩ := r7 q
  exact ⟨Ca_mv gs g hC (fun a _ _ => by unfold drf pl9; omega) c1, Cm_mv gs g hM (by decide) (by decide) (by decide) (by decide) (by decide) (by decide) (by decide) (by decide) c2⟩
theorem adopt_eq (R : Ro Sc T) (M : MOK T) (Y : PY Sc T) (fC : Fp (pl9 12) Sc S1) (fM : Fm [146] [] T T1) (hp : PR S1 12 (T1.1 146)) (hW : RW T1 146) (h3 : 3 ≤ rN T1 146) (hB : RB T1 146) (hg : ∀ j, 27 ≤ j → j < 63 → T1.1 146 j = T.1 141 j) (k1 : T1.1 146 1 = T.1 141 1) (k2 : T1.1 146 2 = T.1 141 2) (z0 : T.1 140 0 = 0) : ∃ rc rm S' T', F_179 S1 = some (rc, S') ∧ F_304 T1 = some (rm, T') ∧ Ro S' T' ∧ Pub [(iaE, 3)] rc rm T' := by
  obtain ⟨g1, g2, g3, t1, t2, t3⟩ := PY_g Y
  have gT := Y.2.2.2
  have k1' : T1.1 146 1 = nJ (cG T) := k1.trans g2
  have k2' : T1.1 146 2 = nJ (cTz T) := k2.trans t2
  have hcb : cb (T1.1 146) := ⟨⟨_, hW.1, hW.2⟩, ⟨_, k1', g3⟩, _, k2', t3⟩
  have cW := (PR_N hp hcb).1
  have cB := PR_B hp hcb (show RB (rowS (T1.1 146)) 0 from hB)
  have cN : clN S1 12 = rN T1 146 := (PR_rN hp hcb).symm
  have hs : ge_simp (clN S1 12) (clP S1 12) ↔ ge_simp (rN T1 146) (rP T1 146) := PR_simp hp hcb
  have hi := f213_i hW hB h3
  have z1 : T1.1 140 0 = 0 := by rw [fM.fld (by decide) (by decide)]; exact z0
  have bx := GR_boxL gT.1
  have bg : ∀ i, i < cG T → (0 ≤ (T1.1 146 (27 + 3 * i)).toInt ∧ (T1.1 146 (27 + 3 * i)).toInt ≤ 15) ∧ 0 ≤ (T1.1 146 (27 + 3 * i + 1)).toInt ∧ (T1.1 146 (27 + 3 * i + 1)).toInt ≤ 15 := fun i hi => by
    rw [hg _ (by omega) (by omega), hg _ (by omega) (by omega), show 27 + 3 * i + 1 = 28 + 3 * i by omega]
    exact bx _ ((GTh_g gT).2.2 i hi)
  have bt : ∀ i, i < cTz T → (0 ≤ (T1.1 146 (45 + 3 * i)).toInt ∧ (T1.1 146 (45 + 3 * i)).toInt ≤ 15) ∧ 0 ≤ (T1.1 146 (45 + 3 * i + 1)).toInt ∧ (T1.1 146 (45 + 3 * i + 1)).toInt ≤ 15 := fun i hi => by
    rw [hg _ (by omega) (by omega), hg _ (by omega) (by omega), show 45 + 3 * i + 1 = 46 + 3 * i by omega]
    exact bx _ ((GTh_t gT).2.2 i hi)
  have gr1 : f_213 T1 146 = true → GR T1 146 := fun q => ⟨hW, h3, hB, (hi.mp q).1, (hi.mp q).2⟩
  obtain ⟨b1, y1, ew1, hb1⟩ := M304_10 k1' g3 gr1 bg
  obtain ⟨b2, y2, ew2, hb2⟩ := M304_67 k2' t3 (b0 := b1) (fun q => gr1 (hb1.mp q).1) bt
  have M0 : F_304 T1 = ob (F_183 (decide (b2i b2 = 0)) 3 T1) (fun w3 => if w3.1 = true then (some (0, w3.2)) else (ob (F_299 w3.2) (fun w4 => ob (wh FU (Lm_304_147 (b2i b2)) (0, w4.2)) (fun e147 => ob (F_214 (wI e147.2 140 27 0)) (fun w5 => some (w5.2.1 140 20, w5.2)))))) := by
    unfold F_304
    rw [show F_213 146 T1 = f_213 T1 146 from rfl, ew1, ob_s]
    dsimp only
    rw [ew2, ob_s]
  have bad : b2 = false → ∀ S', Fp drf Sc S' → F_179 S1 = some (.inl iaE, S') → ∃ rc rm S' T', F_179 S1 = some (rc, S') ∧ F_304 T1 = some (rm, T') ∧ Ro S' T' ∧ Pub [(iaE, 3)] rc rm T' := by
    intro q S' fS eS
    subst q
    refine ⟨_, 0, S', wI T1 140 0 3, eS, ?_, Ro_d R gT.1 fS ((fM.wk (by decide) (by decide)).tr (Fm_f (by decide))), Or.inl ⟨(iaE, 3), by simp, rfl, by rw [wI_1, if_pos ⟨rfl, rfl⟩]⟩⟩
    rw [M0, show decide (b2i false = 0) = true from rfl, M183_t z1 (by decide)]
    rfl
  have fC' : Fp drf Sc S1 := fC.wk (fun a ha => Or.inl ha)
  obtain ⟨c1, e27, i27⟩ := F27_eq cW cB
  cases c1 with
  | false =>
    have q0 : b2 = false := by
      cases hb : b2 with
      | false => rfl
      | true =>
        have := (hi.mp (hb1.mp (hb2.mp hb).1).1).1
        exact absurd (i27.mpr ⟨by omega, hs.mpr this⟩) (by decide)
    refine bad q0 S1 fC' ?_
    unfold F_179
    rw [e27, ob_s, if_neg (by decide)]
    rfl
  | true =>
    have hsi := hs.mp (i27.mp rfl).2
    obtain ⟨c2, S2, e17, f17, i17, l17⟩ := F17_eq (S := S1) (h0 := 25) (h1 := 12) (L := rL T1 146) cW cB (PR_L hp hcb) (by decide) (by decide) (by decide)
    rw [pb_rk hW hB (Nat.le_refl _)] at i17
    have f17' : Fp (fun a => 25 ≤ a ∧ a < 29) S1 S2 := Fc_p f17 (fun x hx => by
      have : x = 25 ∨ x = 26 ∨ x = 27 ∨ x = 28 := by simpa [lc4] using hx
      show 25 ≤ x ∧ x < 29
      omega)
    have fC2 : Fp drf Sc S2 := fC'.tr (f17'.wk (fun a ha => Or.inr ha))
    cases c2 with
    | false =>
      have q0 : b2 = false := by
        cases hb : b2 with
        | false => rfl
        | true => exact absurd (i17.mpr (hi.mp (hb1.mp (hb2.mp hb).1).1).2) (by decide)
      refine bad q0 S2 fC2 ?_
      unfold F_179
      rw [e27, ob_s, if_pos rfl, e17, ob_s]
      rfl
    | true =>
      have gR : GR T1 146 := ⟨hW, h3, hB, hsi, i17.mp rfl⟩
      have f213 : f_213 T1 146 = true := hi.mpr ⟨hsi, i17.mp rfl⟩
      have p2 : PR S2 12 (T1.1 146) := PR_fp hp f17' (fun a ha => by unfold pl9 at ha; omega)
      obtain ⟨c3, e22, i22⟩ := F22_eq (l17 rfl) (GR_boxL gR) (p2.1.2.1.trans k1') g3 (p2.1.2.2.trans k2') t3
      have tg : (∀ g, g < cG T → ge_cl 1 (rL T1 146) (iP (S2.1 (12 + 3) g) (S2.1 (12 + 4) g))) ↔ thIn T1 27 (cG T) := by
        constructor
        · intro w g hgG
          obtain ⟨a, b, -⟩ := PR_G p2 k1' g3 hgG
          have := w g hgG
          rw [a, b] at this
          rw [show 27 + 3 * g + 1 = 28 + 3 * g by omega]
          exact this
        · intro w g hgG
          obtain ⟨a, b, -⟩ := PR_G p2 k1' g3 hgG
          have := w g hgG
          rw [show 27 + 3 * g + 1 = 28 + 3 * g by omega] at this
          rw [a, b]
          exact this
      have tt' : (∀ t, t < cTz T → ge_cl 1 (rL T1 146) (iP (S2.1 (12 + 6) t) (S2.1 (12 + 7) t))) ↔ thIn T1 45 (cTz T) := by
        constructor
        · intro w g hgG
          obtain ⟨a, b, -⟩ := PR_T p2 k2' t3 hgG
          have := w g hgG
          rw [a, b] at this
          rw [show 45 + 3 * g + 1 = 46 + 3 * g by omega]
          exact this
        · intro w g hgG
          obtain ⟨a, b, -⟩ := PR_T p2 k2' t3 hgG
          have := w g hgG
          rw [show 45 + 3 * g + 1 = 46 + 3 * g by omega] at this
          rw [a, b]
          exact this
      rw [tg, tt'] at i22
      cases c3 with
      | false =>
        have q0 : b2 = false := by
          cases hb : b2 with
          | false => rfl
          | true => exact absurd (i22.mpr ⟨(hb1.mp (hb2.mp hb).1).2, (hb2.mp hb).2⟩) (by decide)
        refine bad q0 S2 fC2 ?_
        unfold F_179
        rw [e27, ob_s, if_pos rfl, e17, ob_s]
        dsimp only
        rw [if_pos rfl, e22, ob_s]
        rfl
      | true =>
        have all := i22.mp rfl
        have q0 : b2 = true := hb2.mpr ⟨hb1.mpr ⟨f213, all.1⟩, all.2⟩
        have gTh : GTh T1 146 := by
          refine ⟨gR, ⟨_, k1', g3, fun g hgG => ?_⟩, _, k2', t3, fun g hgG => ?_⟩
          · have := all.1 g hgG
            rw [show 27 + 3 * g + 1 = 28 + 3 * g by omega] at this
            exact this
          · have := all.2 g hgG
            rw [show 45 + 3 * g + 1 = 46 + 3 * g by omega] at this
            exact this
        -- both keep
        have M1 : MOK T1 := MOK_i M (fM.wk (by decide) (by decide)) (by rw [fM.fld (by decide) (by decide)]; exact M.1)
        obtain ⟨r1, r2, r3, r4, r5, r6, r7⟩ := R
        have H1 : oH S2 T1 := oH_f r4 fC2 (fun a _ _ => by unfold drf pl9; omega) fM (by decide) (by decide) (by decide) (by decide)
        have y1' : ¬ T1.1 140 1 = 0 := by rw [fM.fld (by decide) (by decide)]; exact Y.1
        have p3 : PR S2 3 (T1.1 141) := by
          rw [fM.row (by decide) (by decide)]
          exact PR_fp Y.2.2.1 fC2 (fun a ha => by unfold pl9 at ha; unfold drf pl9; omega)
        obtain ⟨S3, T2, e9, e299, f9, f299, H2, w2⟩ := keep_eq H1 M1 y1' p3
        -- the new state
        have p12 : PR S3 12 (T1.1 146) := PR_fp p2 f9 (fun a ha => by unfold pl9 at ha; omega)
        obtain ⟨S4, e180, f180, p4, l4, z4⟩ := fill_c p12 (GTh_row gTh) (Nat.le_refl _)
        obtain ⟨T3, e147, f147, w147⟩ := M304_147 (v := b2i true) T2
        have r146 : T2.1 146 = T1.1 146 := f299.row (by decide) (by decide)
        have w3 : ∀ j, j < 63 → T3.1 141 j = T1.1 146 j := fun j hj => by rw [w147 j hj, r146]
        have g3' : GTh (wI T3 140 27 0) 141 := GTh_63 (S := T1) (h := 146) (fun j hj => by rw [wI_1, if_neg (by omega)]; exact w3 j hj) gTh
        obtain ⟨T4, e214, f214, hL, g4⟩ := fill_m g3'
        have w4 : ∀ j, j < 63 → T4.1 141 j = T1.1 146 j := fun j hj => by rw [f214.row (by decide) (by decide), wI_1, if_neg (by omega)]; exact w3 j hj
        have fB : Fp (fun a => drf a ∨ a = 47 ∨ (49 ≤ a ∧ a < 121) ∨ rpl a) Sc S4 := (fC2.wk (fun a ha => Or.inl ha)).tr ((f9.wk (fun a ha => by omega)).tr (f180.wk (fun a ha => Or.inr (Or.inr (Or.inr ha)))))
        have fT : Fm [141, 142, 146, 147, 148, 149] [4, 20, 27] T T4 := (fM.wk (by decide) (by decide)).tr ((f299.wk (by decide) (by decide)).tr ((f147.wk (by decide) (by decide)).tr ((Fm_f (by decide)).tr (f214.wk (by decide) (by decide)))))
        have fT4 : Fm [141, 147, 148, 149] [20, 27] T2 T4 := (f147.wk (by decide) (by decide)).tr ((Fm_f (by decide)).tr (f214.wk (by decide) (by decide)))
        have n27 : T4.1 140 27 = 0 := by rw [f214.fld (by decide) (by decide), wI_1, if_pos ⟨rfl, rfl⟩]
        have eLL : rL T4 141 = rL (rowS (T1.1 146)) 0 := rL_63 (S := rowS (T1.1 146)) (h := 0) (fun j hj => w4 j hj) (GTh_row gTh).1
        have l4' : LC S4 21 (rL T4 141) 256 := by rw [eLL]; exact l4
        refine ⟨.inr (T4.1 140 20), T4.1 140 20, S4, T4, ?_, ?_, ⟨oB_f r1 fB (by unfold drf rpl pl9; omega) (by unfold drf rpl pl9; omega) fT (by decide) (by decide) (by decide), oE_f r2 fB (by unfold drf rpl pl9; omega) fT (by decide) (by decide) (by decide), Or.inr ⟨by rw [fT.fld (by decide) (by decide)]; exact Y.1, PR_row p4 (GTh_cb gTh) w4, l4'⟩, oH_f H2 f180 (fun a _ _ => by unfold rpl pl9; omega) fT4 (by decide) (by decide) (by decide) (by decide), oK_s r5 M fB (fun a _ _ => by unfold drf rpl pl9; omega) fT (by decide) (by decide) (by decide) (fun j hj => by rw [fT4.row (by decide) (by decide), w2 j hj, fM.row (by decide) (by decide)]), oD_f r6 fB (by unfold drf rpl pl9; omega) (by unfold drf rpl pl9; omega) fT (by decide) (by decide) (by decide), fun _ => ⟨Ca_z z4, Cm_z n27⟩⟩, Or.inr ⟨rfl, by rw [fT.fld (by decide) (by decide)]; exact z0⟩⟩
        · unfold F_179
          rw [e27, ob_s, if_pos rfl, e17, ob_s]
          dsimp only
          rw [if_pos rfl, e22, ob_s, if_pos rfl, e9, ob_s]
          dsimp only
          rw [e180, ob_s]
          dsimp only
          rw [cnt_eq l4' hL]
        · rw [M0, q0, show decide (b2i true = 0) = false from rfl, M183_f z1, ob_s]
          dsimp only
          rw [if_neg (by decide), e299, ob_s]
          dsimp only
          rw [e147, ob_s]
          dsimp only
          rw [e214, ob_s]
end Ad
