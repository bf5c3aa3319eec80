/-! changes of guards -/
section Gd
variable {Sc T T' Sc' Sm : ST}
theorem f215_r {T T1 : ST} (e : T1.1 149 = T.1 149) (x y : Int32) : f_215 T1 x y = f_215 T x y := by unfold f_215 ra; rw [e]
theorem a163 (R : Ro Sc Sm) (M : MOK Sm) (v w : Int32) : Agr E123 (F_163 v w) (F_300 v w) Sc Sm := by
  rcases kPt R M v with ⟨ec, em⟩ | ⟨ec, ei, em⟩ | ⟨i, T, rfl, hi, G, ec, ei, em, f⟩
  · exact Agr_x R M (e := isE) (k := 1) (by simp [E123]) (by unfold F_163; rw [ec]; rfl) (by unfold F_300; rw [em]; rfl) tt_0 tt_F
  · exact Agr_x R M (e := ixE) (k := 2) (by simp [E123]) (by unfold F_163; rw [ec, ox_r, ei]; rfl) (by unfold F_300; rw [em]; rfl) tt_0 tt_F
  · obtain ⟨_, n1, n2, n3, n4, hL⟩ := PY_n G.2.2.1
    obtain ⟨g1, g2, g3, _⟩ := PY_g G.2.2.1
    rcases k3 (Sc := Sc) G.2.2.2 (n := 99) (by omega) w 3 (by decide) with ⟨ej, em2⟩ | ⟨r, hr, rfl, ej, em2⟩
    · have ej' : F_176 w 0 99 Sc = some (.inl iaE, Sc) := ej
      have em2' : F_183 (!(F_182 w 0 99)) 3 T = some (true, wI T 140 0 3) := em2
      refine Agr_x (Sm' := wI T 140 0 3) R M (e := iaE) (k := 3) (by simp [E123]) (by unfold F_163; rw [ec, ox_r, ei, ox_r, ej']; rfl) (z := 0) ?_ (by rw [wI_1, if_pos ⟨rfl, rfl⟩]) (f.tr (Fm_f (by decide)))
      unfold F_300
      rw [em, ob_s]
      dsimp only
      rw [if_neg (by decide), em2']
      rfl
    · have ej' : F_176 (nJ r) 0 99 Sc = some (.inr (), Sc) := ej
      have em2' : F_183 (!(F_182 (nJ r) 0 99)) 3 T = some (false, T) := em2
      by_cases c6 : cG T = 6
      · refine Agr_x (Sm' := wI T 140 0 1) R M (e := isE) (k := 1) (by simp [E123]) ?_ (z := 0) ?_ (by rw [wI_1, if_pos ⟨rfl, rfl⟩]) (f.tr (Fm_f (by decide)))
        · unfold F_163
          rw [ec, ox_r, ei, ox_r, ej', ox_r, g1, c6, if_neg (by decide)]
          rfl
        · unfold F_300
          rw [em, ob_s]
          dsimp only
          rw [if_neg (by decide), em2', ob_s]
          dsimp only
          rw [if_neg (by decide), g2, c6, decide_eq_true (show nJ 6 = 6 from rfl), M183_t G.2.2.2 (by decide)]
          rfl
      · have l6 : cG T < 6 := by omega
        obtain ⟨R0, M0, Y, z0⟩ := G
        obtain ⟨S1, T1, e9, e299, f1, h1, H, w1⟩ := keep_eq R0.2.2.2.1 M0 Y.1 Y.2.2.1
        have e141 : T1.1 141 = T.1 141 := h1.row (by decide) (by decide)
        have p1 : PR S1 3 (T1.1 141) := by rw [e141]; exact PR_fp Y.2.2.1 f1 (fun a ha => by unfold pl9 at ha; omega)
        have cb1 : cb (T1.1 141) := by rw [e141]; exact GTh_cb Y.2.2.2
        have k1 : T1.1 141 1 = nJ (cG T) := by rw [e141]; exact g2
        have x1 : S1.1 22 i = T1.1 147 i := by rw [(f1 22 (by omega)).1, h1.row (by decide) (by decide)]; exact (Y.2.1.2.2.2.2.2.1 i hi).1
        have y1 : S1.1 23 i = T1.1 148 i := by rw [(f1 23 (by omega)).1, h1.row (by decide) (by decide)]; exact (Y.2.1.2.2.2.2.2.1 i hi).2
        have n1' : S1.1 21 0 = nJ (nP T) := by rw [(f1 21 (by omega)).1]; exact n1
        obtain ⟨S3, e55, f3, w3⟩ := F55_eq p1 cb1 k1 l6 (T1.1 147 i) (T1.1 148 i) (nJ r)
        have row : ∀ j, (wI (wI (wI (wI T1 141 (27 + 3 * cG T) (T1.1 147 i)) 141 (27 + 3 * cG T + 1) (T1.1 148 i)) 141 (27 + 3 * cG T + 2) (nJ r)) 141 1 (nJ (cG T + 1))).1 141 j = if j = 1 then nJ (cG T + 1) else if j = 27 + 3 * cG T + 2 then nJ r else if j = 27 + 3 * cG T + 1 then T1.1 148 i else if j = 27 + 3 * cG T then T1.1 147 i else T1.1 141 j := fun j => by
          rw [wI_1, wI_1, wI_1, wI_1]
          by_cases c1 : j = 1
          · rw [if_pos ⟨rfl, c1⟩, if_pos c1]
          · rw [if_neg (fun z => c1 z.2), if_neg c1]
            by_cases c2 : j = 27 + 3 * cG T + 2
            · rw [if_pos ⟨rfl, c2⟩, if_pos c2]
            · rw [if_neg (fun z => c2 z.2), if_neg c2]
              by_cases c3 : j = 27 + 3 * cG T + 1
              · rw [if_pos ⟨rfl, c3⟩, if_pos c3]
              · rw [if_neg (fun z => c3 z.2), if_neg c3]
                by_cases c4 : j = 27 + 3 * cG T
                · rw [if_pos ⟨rfl, c4⟩, if_pos c4]
                · rw [if_neg (fun z => c4 z.2), if_neg c4]
        have fT : Fm [141] [] T1 (wI (wI (wI (wI T1 141 (27 + 3 * cG T) (T1.1 147 i)) 141 (27 + 3 * cG T + 1) (T1.1 148 i)) 141 (27 + 3 * cG T + 2) (nJ r)) 141 1 (nJ (cG T + 1))) := (((Fm_a (by decide)).tr (Fm_a (by decide))).tr (Fm_a (by decide))).tr (Fm_a (by decide))
        have p3 := w3 ((wI (wI (wI (wI T1 141 (27 + 3 * cG T) (T1.1 147 i)) 141 (27 + 3 * cG T + 1) (T1.1 148 i)) 141 (27 + 3 * cG T + 2) (nJ r)) 141 1 (nJ (cG T + 1))).1 141) (fun j _ => by
          rw [row j]
          by_cases c1 : j = 1
          · rw [if_pos c1, if_pos c1]
          · rw [if_neg c1, if_neg c1]
            by_cases c4 : j = 27 + 3 * cG T
            · rw [if_neg (by omega), if_neg (by omega), if_pos c4, if_pos c4]
            · rw [if_neg (show ¬ j = 27 + 3 * cG T from c4)]
              by_cases c3 : j = 28 + 3 * cG T
              · rw [if_neg (by omega), if_pos (by omega), if_neg c4, if_pos c3]
              · by_cases c2 : j = 29 + 3 * cG T
                · rw [if_pos (by omega), if_neg c4, if_neg c3, if_pos c2]
                · rw [if_neg (by omega), if_neg (by omega), if_neg c4, if_neg c3, if_neg c2])
        have R3 := Ro_edit R0 M0 Y f1 h1 H w1 f3 fT (fun j a b c => by rw [row j, if_neg b, if_neg (by omega), if_neg (by omega), if_neg (by omega)]) p3
        have z3 : (wI (wI (wI (wI T1 141 (27 + 3 * cG T) (T1.1 147 i)) 141 (27 + 3 * cG T + 1) (T1.1 148 i)) 141 (27 + 3 * cG T + 2) (nJ r)) 141 1 (nJ (cG T + 1))).1 140 0 = 0 := by rw [fT.fld (by decide) (by decide), h1.fld (by decide) (by decide)]; exact z0
        have q1 : S3.1 3 1 = nJ (cG T + 1) := by rw [p3.1.2.1, row 1, if_pos rfl]
        refine Agr_r (a := nJ (cG T + 1) - 1) ?_ ?_ R3 z3
        · unfold F_163
          rw [ec, ox_r, ei, ox_r, ej', ox_r, g1, if_pos (show nJ (cG T) < 6 from (nJ_lt (j := 6) (by omega) (by omega)).mpr l6), e9, ob_s]
          dsimp only
          rw [F19_eq n1' n4 hi, ob_s, F20_eq n1' n4 hi, ob_s, show (21 + 1 : Nat) = 22 from rfl, show (21 + 2 : Nat) = 23 from rfl, x1, y1, e55, ob_s]
          dsimp only
          rw [q1]
        · have m3 : (3 : Int32) * nJ (cG T) = nJ (3 * cG T) := nJ_mul 3 _
          have m27 : (27 : Int32) + nJ (3 * cG T) = nJ (27 + 3 * cG T) := nJ_add 27 _
          have m1 : nJ (27 + 3 * cG T) + 1 = nJ (27 + 3 * cG T + 1) := nJ_succ _
          have m2 : nJ (27 + 3 * cG T) + 2 = nJ (27 + 3 * cG T + 2) := nJ_add _ 2
          unfold F_300
          rw [em, ob_s]
          dsimp only
          rw [if_neg (by decide), em2', ob_s]
          dsimp only
          rw [if_neg (by decide), g2, decide_eq_false (show ¬ nJ (cG T) = 6 from fun z => c6 ((nJ_eq (j := 6) (by omega) (by omega)).mp z)), M183_f z0, ob_s]
          dsimp only
          rw [if_neg (by decide), e299, ob_s]
          dsimp only
          rw [k1, m3, m27, m1, m2, ck_t (ibd_n (i := i) (by omega) (by omega)), ck_t (ibd_n (i := 27 + 3 * cG T) (by omega) (by omega)), sbn_e, ck_t (ibd_n (i := i) (by omega) (by omega)), ck_t (ibd_n (i := 27 + 3 * cG T + 1) (by omega) (by omega)), sbn_e, ck_t (ibd_n (i := 27 + 3 * cG T + 2) (by omega) (by omega)), sbn_e, show Int32.toNatClampNeg (nJ i) = i from nJ_ix (by omega), show Int32.toNatClampNeg (nJ (27 + 3 * cG T)) = 27 + 3 * cG T from nJ_ix (by omega), show Int32.toNatClampNeg (nJ (27 + 3 * cG T + 1)) = 27 + 3 * cG T + 1 from nJ_ix (by omega), show Int32.toNatClampNeg (nJ (27 + 3 * cG T + 2)) = 27 + 3 * cG T + 2 from nJ_ix (by omega)]
          have v1 : (wI T1 141 (27 + 3 * cG T) (T1.1 147 i)).1 148 i = T1.1 148 i := by rw [wI_1, if_neg (by omega)]
          have v2 : (wI (wI (wI T1 141 (27 + 3 * cG T) (T1.1 147 i)) 141 (27 + 3 * cG T + 1) (T1.1 148 i)) 141 (27 + 3 * cG T + 2) (nJ r)).1 141 1 = nJ (cG T) := by rw [wI_1, if_neg (by omega), wI_1, if_neg (by omega), wI_1, if_neg (by omega)]; exact k1
          rw [v1, v2, nJ_succ]
theorem a164 (R : Ro Sc Sm) (M : MOK Sm) (v : Int32) : Agr E12 (F_164 v) (F_301 v) Sc Sm := by
  rcases kGt R M v with ⟨ec, em⟩ | ⟨ec, ei, em⟩ | ⟨i, T, rfl, hi, G, ec, ei, em, f⟩
  · exact Agr_x R M (e := isE) (k := 1) (by simp [E12]) (by unfold F_164; rw [ec]; rfl) (by unfold F_301; rw [em]; rfl) tt_0 tt_F
  · exact Agr_x R M (e := ixE) (k := 2) (by simp [E12]) (by unfold F_164; rw [ec, ox_r, ei]; rfl) (by unfold F_301; rw [em]; rfl) tt_0 tt_F
  · obtain ⟨g1, g2, g3, _⟩ := PY_g G.2.2.1
    obtain ⟨R0, M0, Y, z0⟩ := G
    obtain ⟨S1, T1, e9, e299, f1, h1, H, w1⟩ := keep_eq R0.2.2.2.1 M0 Y.1 Y.2.2.1
    have e141 : T1.1 141 = T.1 141 := h1.row (by decide) (by decide)
    have p1 : PR S1 3 (T1.1 141) := by rw [e141]; exact PR_fp Y.2.2.1 f1 (fun a ha => by unfold pl9 at ha; omega)
    have cb1 : cb (T1.1 141) := by rw [e141]; exact GTh_cb Y.2.2.2
    have k1 : T1.1 141 1 = nJ (cG T) := by rw [e141]; exact g2
    obtain ⟨S3, e58, f3, q1, w3⟩ := F58_eq p1 cb1 k1 g3 hi
    have u1 : (wI T1 141 1 (nJ (cG T - 1))).1 141 1 = nJ (cG T - 1) := by rw [wI_1, if_pos ⟨rfl, rfl⟩]
    have u2 : ∀ j, j ≠ 1 → (wI T1 141 1 (nJ (cG T - 1))).1 141 j = T1.1 141 j := fun j hj => by rw [wI_1, if_neg (fun z => hj z.2)]
    obtain ⟨T3, e31, h3, w31⟩ := csh (f := Lm_301_31 (nJ i)) (h := 141) (o := 27 + 3 * i) (E := 27 + 3 * (cG T - 1)) (d := 3) (S := wI T1 141 1 (nJ (cG T - 1))) (by omega) (by omega) (by omega) (fun S2 j _ same ho he => by
      have k : S2.1 141 1 = nJ (cG T - 1) := (same 1 (by omega)).trans u1
      unfold Lm_301_31
      dsimp only
      rw [k, show (3 : Int32) * nJ (cG T - 1) = nJ (3 * (cG T - 1)) from nJ_mul 3 _, show (27 : Int32) + nJ (3 * (cG T - 1)) = nJ (27 + 3 * (cG T - 1)) from nJ_add 27 _, if_pos ((nJ_lt (by omega) (by omega)).mpr he), show nJ j + 3 = nJ (j + 3) from nJ_add j 3, ck_t (ibd_n (by omega) (by omega)), ck_t (ibd_n (by omega) (by omega)), sbn_e, nJ_ix (by omega), nJ_ix (by omega), nJ_succ]) (fun S2 _ same => by
      have k : S2.1 141 1 = nJ (cG T - 1) := (same 1 (by omega)).trans u1
      unfold Lm_301_31
      dsimp only
      rw [k, show (3 : Int32) * nJ (cG T - 1) = nJ (3 * (cG T - 1)) from nJ_mul 3 _, show (27 : Int32) + nJ (3 * (cG T - 1)) = nJ (27 + 3 * (cG T - 1)) from nJ_add 27 _, if_neg (fun z => by have := (nJ_lt (by omega) (by omega)).mp z; omega)])
    have fT : Fm [141] [] T1 T3 := (Fm_a (by decide)).tr h3
    have o1 : T3.1 141 1 = nJ (cG T - 1) := by rw [w31 1, if_neg (by omega)]; exact u1
    have p3 := w3 (T3.1 141) (fun j hj a b => by rw [w31 j, if_neg (by omega)]; exact u2 j b) o1 (fun j a b => by
      rw [w31 j]
      by_cases c : j < 27 + 3 * i
      · rw [if_neg (by omega), if_pos c]; exact u2 j (by omega)
      · rw [if_pos (by omega), if_neg c]; exact u2 _ (by omega))
    have R3 := Ro_edit R0 M0 Y f1 h1 H w1 f3 fT (fun j a b c => by rw [w31 j, if_neg (by omega)]; exact u2 j b) p3
    refine Agr_r (a := nJ (cG T - 1)) (Sc' := S3) (Sm' := T3) ?_ ?_ R3 (by rw [fT.fld (by decide) (by decide), h1.fld (by decide) (by decide)]; exact z0)
    · unfold F_164
      rw [ec, ox_r, ei, ox_r, e9, ob_s]
      dsimp only
      rw [e58, ob_s]
      dsimp only
      rw [q1]
    · unfold F_301
      rw [em, ob_s]
      dsimp only
      rw [if_neg (by decide), e299, ob_s]
      dsimp only
      rw [k1, show nJ (cG T) - 1 = nJ (cG T - 1) from nJ_sub (j := 1) (by omega), show (3 : Int32) * nJ i = nJ (3 * i) from nJ_mul 3 i, show (27 : Int32) + nJ (3 * i) = nJ (27 + 3 * i) from nJ_add 27 _, e31, ob_s]
      dsimp only
      rw [o1]
theorem a165 (R : Ro Sc Sm) (M : MOK Sm) (v w : Int32) : Agr E12 (F_165 v w) (F_302 v w) Sc Sm := by
  rcases kGt R M v with ⟨ec, em⟩ | ⟨ec, ei, em⟩ | ⟨i, T, rfl, hi, G, ec, ei, em, f⟩
  · exact Agr_x R M (e := isE) (k := 1) (by simp [E12]) (by unfold F_165; rw [ec]; rfl) (by unfold F_302; rw [em]; rfl) tt_0 tt_F
  · exact Agr_x R M (e := ixE) (k := 2) (by simp [E12]) (by unfold F_165; rw [ec, ox_r, ei]; rfl) (by unfold F_302; rw [em]; rfl) tt_0 tt_F
  · obtain ⟨_, n1, n2, n3, n4, hL⟩ := PY_n G.2.2.1
    obtain ⟨g1, g2, g3, _⟩ := PY_g G.2.2.1
    rcases k2 (Sc := Sc) G.2.2.2 (n := nP T) (by omega) w 2 (by decide) with ⟨ej, em2⟩ | ⟨r, hr, rfl, ej, em2⟩
    · refine Agr_x (Sm' := wI T 140 0 2) R M (e := ixE) (k := 2) (by simp [E12]) (by unfold F_165; rw [ec, ox_r, ei, ox_r, n1, ej]; rfl) (z := 0) ?_ (by rw [wI_1, if_pos ⟨rfl, rfl⟩]) (f.tr (Fm_f (by decide)))
      unfold F_302
      rw [em, ob_s]
      dsimp only
      rw [if_neg (by decide), n2, em2]
      rfl
    · obtain ⟨R0, M0, Y, z0⟩ := G
      have po := (post_eq Y hi).1
      obtain ⟨S1, T1, e9, e299, f1, h1, H, w1⟩ := keep_eq R0.2.2.2.1 M0 Y.1 Y.2.2.1
      have e141 : T1.1 141 = T.1 141 := h1.row (by decide) (by decide)
      have p1 : PR S1 3 (T1.1 141) := by rw [e141]; exact PR_fp Y.2.2.1 f1 (fun a ha => by unfold pl9 at ha; omega)
      have cb1 : cb (T1.1 141) := by rw [e141]; exact GTh_cb Y.2.2.2
      have k1 : T1.1 141 1 = nJ (cG T) := by rw [e141]; exact g2
      have x1 : S1.1 22 r = T1.1 147 r := by rw [(f1 22 (by omega)).1, h1.row (by decide) (by decide)]; exact (Y.2.1.2.2.2.2.2.1 r hr).1
      have y1 : S1.1 23 r = T1.1 148 r := by rw [(f1 23 (by omega)).1, h1.row (by decide) (by decide)]; exact (Y.2.1.2.2.2.2.2.1 r hr).2
      have n1' : S1.1 21 0 = nJ (nP T) := by rw [(f1 21 (by omega)).1]; exact n1
      obtain ⟨S3, e56, f3, w3⟩ := F56_eq p1 cb1 k1 g3 hi (T1.1 147 r) (T1.1 148 r)
      have row : ∀ j, (wI (wI T1 141 (27 + 3 * i) (T1.1 147 r)) 141 (27 + 3 * i + 1) (T1.1 148 r)).1 141 j = if j = 27 + 3 * i + 1 then T1.1 148 r else if j = 27 + 3 * i then T1.1 147 r else T1.1 141 j := fun j => by
        rw [wI_1, wI_1]
        by_cases c3 : j = 27 + 3 * i + 1
        · rw [if_pos ⟨rfl, c3⟩, if_pos c3]
        · rw [if_neg (fun z => c3 z.2), if_neg c3]
          by_cases c4 : j = 27 + 3 * i
          · rw [if_pos ⟨rfl, c4⟩, if_pos c4]
          · rw [if_neg (fun z => c4 z.2), if_neg c4]
      have fT : Fm [141] [] T1 (wI (wI T1 141 (27 + 3 * i) (T1.1 147 r)) 141 (27 + 3 * i + 1) (T1.1 148 r)) := (Fm_a (by decide)).tr (Fm_a (by decide))
      have p3 := w3 ((wI (wI T1 141 (27 + 3 * i) (T1.1 147 r)) 141 (27 + 3 * i + 1) (T1.1 148 r)).1 141) (fun j _ => by
        rw [row j]
        by_cases c4 : j = 27 + 3 * i
        · rw [if_neg (by omega), if_pos c4, if_pos c4]
        · by_cases c3 : j = 28 + 3 * i
          · rw [if_pos (by omega), if_neg c4, if_pos c3]
          · rw [if_neg (by omega), if_neg c4, if_neg c4, if_neg c3])
      have R3 := Ro_edit R0 M0 Y f1 h1 H w1 f3 fT (fun j a b c => by rw [row j, if_neg (by omega), if_neg (by omega)]) p3
      refine Agr_r (a := f_215 T (T.1 141 (27 + 3 * i)) (T.1 141 (28 + 3 * i))) ?_ ?_ R3 (by rw [fT.fld (by decide) (by decide), h1.fld (by decide) (by decide)]; exact z0)
      · unfold F_165
        rw [ec, ox_r, ei, ox_r, n1, ej, ox_r, po, ob_s, e9, ob_s]
        dsimp only
        rw [F19_eq n1' n4 hr, ob_s, F20_eq n1' n4 hr, ob_s, show (21 + 1 : Nat) = 22 from rfl, show (21 + 2 : Nat) = 23 from rfl, x1, y1, e56, ob_s]
      · have m3 : (3 : Int32) * nJ i = nJ (3 * i) := nJ_mul 3 _
        have m27 : (27 : Int32) + nJ (3 * i) = nJ (27 + 3 * i) := nJ_add 27 _
        have m1 : nJ (27 + 3 * i) + 1 = nJ (27 + 3 * i + 1) := nJ_succ _
        unfold F_302
        rw [em, ob_s]
        dsimp only
        rw [if_neg (by decide), n2, em2, ob_s]
        dsimp only
        rw [if_neg (by decide), e299, ob_s]
        dsimp only
        rw [F274_0 (by omega), ob_s, F274_1 (by omega), ob_s, m3, m27, m1, ck_t (ibd_n (i := r) (by omega) (by omega)), ck_t (ibd_n (i := 27 + 3 * i) (by omega) (by omega)), sbn_e, ck_t (ibd_n (i := r) (by omega) (by omega)), ck_t (ibd_n (i := 27 + 3 * i + 1) (by omega) (by omega)), sbn_e, show Int32.toNatClampNeg (nJ r) = r from nJ_ix (by omega), show Int32.toNatClampNeg (nJ (27 + 3 * i)) = 27 + 3 * i from nJ_ix (by omega), show Int32.toNatClampNeg (nJ (27 + 3 * i + 1)) = 27 + 3 * i + 1 from nJ_ix (by omega)]
        have v1 : (wI T1 141 (27 + 3 * i) (T1.1 147 r)).1 148 r = T1.1 148 r := by rw [wI_1, if_neg (by omega)]
        rw [v1, e141, show F_215 (T.1 141 (27 + 3 * i)) (T.1 141 (28 + 3 * i)) T1 = f_215 T (T.1 141 (27 + 3 * i)) (T.1 141 (28 + 3 * i)) from f215_r (h1.row (by decide) (by decide)) _ _]
theorem a166 (R : Ro Sc Sm) (M : MOK Sm) (v w : Int32) : Agr E123 (F_166 v w) (F_303 v w) Sc Sm := by
  rcases kGt R M v with ⟨ec, em⟩ | ⟨ec, ei, em⟩ | ⟨i, T, rfl, hi, G, ec, ei, em, f⟩
  · exact Agr_x R M (e := isE) (k := 1) (by simp [E123]) (by unfold F_166; rw [ec]; rfl) (by unfold F_303; rw [em]; rfl) tt_0 tt_F
  · exact Agr_x R M (e := ixE) (k := 2) (by simp [E123]) (by unfold F_166; rw [ec, ox_r, ei]; rfl) (by unfold F_303; rw [em]; rfl) tt_0 tt_F
  · obtain ⟨g1, g2, g3, _⟩ := PY_g G.2.2.1
    rcases k3 (Sc := Sc) G.2.2.2 (n := 99) (by omega) w 3 (by decide) with ⟨ej, em2⟩ | ⟨r, hr, rfl, ej, em2⟩
    · have ej' : F_176 w 0 99 Sc = some (.inl iaE, Sc) := ej
      have em2' : F_183 (!(F_182 w 0 99)) 3 T = some (true, wI T 140 0 3) := em2
      refine Agr_x (Sm' := wI T 140 0 3) R M (e := iaE) (k := 3) (by simp [E123]) (by unfold F_166; rw [ec, ox_r, ei, ox_r, ej']; rfl) (z := 0) ?_ (by rw [wI_1, if_pos ⟨rfl, rfl⟩]) (f.tr (Fm_f (by decide)))
      unfold F_303
      rw [em, ob_s]
      dsimp only
      rw [if_neg (by decide), em2']
      rfl
    · have ej' : F_176 (nJ r) 0 99 Sc = some (.inr (), Sc) := ej
      have em2' : F_183 (!(F_182 (nJ r) 0 99)) 3 T = some (false, T) := em2
      obtain ⟨R0, M0, Y, z0⟩ := G
      have po := (post_eq Y hi).2
      obtain ⟨S1, T1, e9, e299, f1, h1, H, w1⟩ := keep_eq R0.2.2.2.1 M0 Y.1 Y.2.2.1
      have e141 : T1.1 141 = T.1 141 := h1.row (by decide) (by decide)
      have p1 : PR S1 3 (T1.1 141) := by rw [e141]; exact PR_fp Y.2.2.1 f1 (fun a ha => by unfold pl9 at ha; omega)
      have cb1 : cb (T1.1 141) := by rw [e141]; exact GTh_cb Y.2.2.2
      have k1 : T1.1 141 1 = nJ (cG T) := by rw [e141]; exact g2
      obtain ⟨S3, e57, f3, w3⟩ := F57_eq p1 cb1 k1 g3 hi (nJ r)
      have row : ∀ j, (wI T1 141 (27 + 3 * i + 2) (nJ r)).1 141 j = if j = 27 + 3 * i + 2 then nJ r else T1.1 141 j := fun j => by
        rw [wI_1]
        by_cases c3 : j = 27 + 3 * i + 2
        · rw [if_pos ⟨rfl, c3⟩, if_pos c3]
        · rw [if_neg (fun z => c3 z.2), if_neg c3]
      have fT : Fm [141] [] T1 (wI T1 141 (27 + 3 * i + 2) (nJ r)) := Fm_a (by decide)
      have p3 := w3 ((wI T1 141 (27 + 3 * i + 2) (nJ r)).1 141) (fun j _ => by
        rw [row j]
        by_cases c4 : j = 29 + 3 * i
        · rw [if_pos (by omega), if_pos c4]
        · rw [if_neg (by omega), if_neg c4])
      have R3 := Ro_edit R0 M0 Y f1 h1 H w1 f3 fT (fun j a b c => by rw [row j, if_neg (by omega)]) p3
      refine Agr_r (a := T.1 141 (29 + 3 * i)) ?_ ?_ R3 (by rw [fT.fld (by decide) (by decide), h1.fld (by decide) (by decide)]; exact z0)
      · unfold F_166
        rw [ec, ox_r, ei, ox_r, ej', ox_r, po, ob_s, e9, ob_s]
        dsimp only
        rw [e57, ob_s]
      · have m3 : (3 : Int32) * nJ i = nJ (3 * i) := nJ_mul 3 _
        have m27 : (27 : Int32) + nJ (3 * i) = nJ (27 + 3 * i) := nJ_add 27 _
        have m2 : nJ (27 + 3 * i) + 2 = nJ (27 + 3 * i + 2) := nJ_add _ 2
        unfold F_303
        rw [em, ob_s]
        dsimp only
        rw [if_neg (by decide), em2', ob_s]
        dsimp only
        rw [if_neg (by decide), e299, ob_s]
        dsimp only
        rw [F274_2 (by omega), ob_s, m3, m27, m2, ck_t (ibd_n (i := 27 + 3 * i + 2) (by omega) (by omega)), sbn_e, show Int32.toNatClampNeg (nJ (27 + 3 * i + 2)) = 27 + 3 * i + 2 from nJ_ix (by omega), e141]
end Gd
