/-! questions that learn nothing -/
section Lk
variable {Sc Sm T : ST}
theorem PY_c (Y : PY Sc T) {i : Nat} (hi : i < rN T 141) : Sc.1 4 i = T.1 141 (3 + i) ∧ Sc.1 5 i = T.1 141 (15 + i) ∧ i < clN Sc 3 := by
  obtain ⟨_, hx, hp, g⟩ := Y
  have hc : i < clN Sc 3 := by rw [hx.1.2.2.2.1]; exact hi
  obtain ⟨a, b⟩ := PR_P hp (GTh_cb g) hc
  exact ⟨a, b, hc⟩
theorem a121 (R : Ro Sc Sm) (M : MOK Sm) (v : Int32) : Agr E12 (F_121 v) (F_228 v) Sc Sm := by
  rcases kVt R M v with ⟨ec, em⟩ | ⟨ec, ei, em⟩ | ⟨i, T, rfl, hi, G, ec, ei, em, f⟩
  · exact Agr_x R M (e := isE) (k := 1) (by simp [E12]) (by unfold F_121; rw [ec]; rfl) (by unfold F_228; rw [em]; rfl) tt_0 tt_F
  · exact Agr_x R M (e := ixE) (k := 2) (by simp [E12]) (by unfold F_121; rw [ec, ox_r, ei]; rfl) (by unfold F_228; rw [em]; rfl) tt_0 tt_F
  · obtain ⟨a, b, hc⟩ := PY_c G.2.2.1 hi
    have h12 := (PY_n G.2.2.1).1.2.2.2
    refine Agr_r (a := T.1 141 (3 + i)) (Sm' := T) ?_ ?_ G.1 G.2.2.2
    · unfold F_121
      rw [ec, ox_r, ei, ox_r, F44_eq G.2.2.1.2.1.1.1 hc, ob_s, a]
    · unfold F_228
      rw [em, ob_s]
      dsimp only
      rw [if_neg (by decide), show (3 : Int32) + nJ i = nJ (3 + i) from nJ_add 3 i, ck_t (ibd_n (by omega) (by omega)), nJ_ix (by omega)]
theorem a122 (R : Ro Sc Sm) (M : MOK Sm) (v : Int32) : Agr E12 (F_122 v) (F_229 v) Sc Sm := by
  rcases kVt R M v with ⟨ec, em⟩ | ⟨ec, ei, em⟩ | ⟨i, T, rfl, hi, G, ec, ei, em, f⟩
  · exact Agr_x R M (e := isE) (k := 1) (by simp [E12]) (by unfold F_122; rw [ec]; rfl) (by unfold F_229; rw [em]; rfl) tt_0 tt_F
  · exact Agr_x R M (e := ixE) (k := 2) (by simp [E12]) (by unfold F_122; rw [ec, ox_r, ei]; rfl) (by unfold F_229; rw [em]; rfl) tt_0 tt_F
  · obtain ⟨a, b, hc⟩ := PY_c G.2.2.1 hi
    have h12 := (PY_n G.2.2.1).1.2.2.2
    refine Agr_r (a := T.1 141 (15 + i)) (Sm' := T) ?_ ?_ G.1 G.2.2.2
    · unfold F_122
      rw [ec, ox_r, ei, ox_r, F45_eq G.2.2.1.2.1.1.1 hc, ob_s, b]
    · unfold F_229
      rw [em, ob_s]
      dsimp only
      rw [if_neg (by decide), show (15 : Int32) + nJ i = nJ (15 + i) from nJ_add 15 i, ck_t (ibd_n (by omega) (by omega)), nJ_ix (by omega)]
theorem a123 (R : Ro Sc Sm) (M : MOK Sm) : Agr E1 F_123 F_234 Sc Sm := by
  rcases zkP R M with ⟨ec, em, _⟩ | ⟨G, ec, em, _⟩
  · exact Agr_x R M (e := isE) (k := 1) (by simp [E1]) (by unfold F_123; rw [ec]; rfl) (by unfold F_234; rw [em]; rfl) tt_0 tt_F
  · have g := G.2.2.1.2.2.2.1
    refine Agr_r (a := if f_233 (t0 Sm) < 0 then -(f_233 (t0 Sm)) else f_233 (t0 Sm)) (Sm' := t0 Sm) ?_ ?_ G.1 G.2.2.2
    · unfold F_123
      rw [ec, ox_r, F25_M G.2.2.1.2.1, ob_s, i32_abs]
    · unfold F_234
      rw [em, ob_s]
      dsimp only
      rw [if_neg (by decide), F233_eq g, ob_s, ob_s, ob_s]
      split <;> rfl
theorem a124 (R : Ro Sc Sm) (M : MOK Sm) : Agr E1 F_124 F_236 Sc Sm := by
  rcases zkP R M with ⟨ec, em, _⟩ | ⟨G, ec, em, _⟩
  · exact Agr_x R M (e := isE) (k := 1) (by simp [E1]) (by unfold F_124; rw [ec]; rfl) (by unfold F_236; rw [em]; rfl) tt_0 tt_F
  · obtain ⟨z, ez⟩ := M236_22 G.2.2.1.2.2.2.1
    refine Agr_r (a := nJ (rfN (t0 Sm))) (Sm' := t0 Sm) ?_ ?_ G.1 G.2.2.2
    · unfold F_124
      rw [ec, ox_r, F26_eq G.2.2.1.2.1, ob_s]
    · unfold F_236
      rw [em, ob_s]
      dsimp only
      rw [if_neg (by decide), ez, ob_s]
theorem a126 (R : Ro Sc Sm) (M : MOK Sm) (v : Int32) : Agr E12 (F_126 v) (F_230 v) Sc Sm := by
  rcases kPt R M v with ⟨ec, em⟩ | ⟨ec, ei, em⟩ | ⟨i, T, rfl, hi, G, ec, ei, em, f⟩
  · exact Agr_x R M (e := isE) (k := 1) (by simp [E12]) (by unfold F_126; rw [ec]; rfl) (by unfold F_230; rw [em]; rfl) tt_0 tt_F
  · exact Agr_x R M (e := ixE) (k := 2) (by simp [E12]) (by unfold F_126; rw [ec, ox_r, ei]; rfl) (by unfold F_230; rw [em]; rfl) tt_0 tt_F
  · obtain ⟨_, n1, n2, n3, n4, hL⟩ := PY_n G.2.2.1
    refine Agr_r (a := T.1 147 i) (Sm' := T) ?_ ?_ G.1 G.2.2.2
    · unfold F_126
      rw [ec, ox_r, ei, ox_r, F19_eq n1 n4 hi, ob_s, show (21 + 1 : Nat) = 22 from rfl, (G.2.2.1.2.1.2.2.2.2.2.1 i hi).1]
    · unfold F_230
      rw [em, ob_s]
      dsimp only
      rw [if_neg (by decide), ck_t (ibd_n (by omega) (by omega)), nJ_ix (by omega)]
theorem a127 (R : Ro Sc Sm) (M : MOK Sm) (v : Int32) : Agr E12 (F_127 v) (F_231 v) Sc Sm := by
  rcases kPt R M v with ⟨ec, em⟩ | ⟨ec, ei, em⟩ | ⟨i, T, rfl, hi, G, ec, ei, em, f⟩
  · exact Agr_x R M (e := isE) (k := 1) (by simp [E12]) (by unfold F_127; rw [ec]; rfl) (by unfold F_231; rw [em]; rfl) tt_0 tt_F
  · exact Agr_x R M (e := ixE) (k := 2) (by simp [E12]) (by unfold F_127; rw [ec, ox_r, ei]; rfl) (by unfold F_231; rw [em]; rfl) tt_0 tt_F
  · obtain ⟨_, n1, n2, n3, n4, hL⟩ := PY_n G.2.2.1
    refine Agr_r (a := T.1 148 i) (Sm' := T) ?_ ?_ G.1 G.2.2.2
    · unfold F_127
      rw [ec, ox_r, ei, ox_r, F20_eq n1 n4 hi, ob_s, show (21 + 2 : Nat) = 23 from rfl, (G.2.2.1.2.1.2.2.2.2.2.1 i hi).2]
    · unfold F_231
      rw [em, ob_s]
      dsimp only
      rw [if_neg (by decide), ck_t (ibd_n (by omega) (by omega)), nJ_ix (by omega)]
theorem a128 (R : Ro Sc Sm) (M : MOK Sm) (x y : Int32) : Agr E1 (F_128 x y) (F_232 x y) Sc Sm := by
  rcases zkP R M with ⟨ec, em, _⟩ | ⟨G, ec, em, _⟩
  · exact Agr_x R M (e := isE) (k := 1) (by simp [E1]) (by unfold F_128; rw [ec]; rfl) (by unfold F_232; rw [em]; rfl) tt_0 tt_F
  · refine Agr_r (a := f_215 (t0 Sm) x y) (Sm' := t0 Sm) ?_ ?_ G.1 G.2.2.2
    · unfold F_128
      rw [ec, ox_r, F18_cx G.2.2.1.2.1, ob_s]
    · unfold F_232
      rw [em, ob_s]
      dsimp only
      rw [if_neg (by decide)]
      rfl
theorem a129 (R : Ro Sc Sm) (M : MOK Sm) : Agr E1 F_129 F_237 Sc Sm := by
  rcases zkP R M with ⟨ec, em, _⟩ | ⟨G, ec, em, _⟩
  · exact Agr_x R M (e := isE) (k := 1) (by simp [E1]) (by unfold F_129; rw [ec]; rfl) (by unfold F_237; rw [em]; rfl) tt_0 tt_F
  · refine Agr_r (a := sSz (nP (t0 Sm)) (bdS (t0 Sm))) (Sm' := t0 Sm) ?_ ?_ G.1 G.2.2.2
    · unfold F_129
      rw [ec, ox_r, rim_eq G.2.2.1.2.1]
    · unfold F_237
      rw [em, ob_s]
      dsimp only
      rw [if_neg (by decide), M237_13 (PY_n G.2.2.1).2.2.2.2.2, ob_s]
/-- a guard's post, a treasure's place, without sight -/
theorem post_eq (Y : PY Sc T) {g : Nat} (hg : g < cG T) : F_104 (nJ g) Sc = some (f_215 T (T.1 141 (27 + 3 * g)) (T.1 141 (28 + 3 * g))) ∧ F_54 3 (nJ g) Sc = some (T.1 141 (29 + 3 * g)) := by
  obtain ⟨a1, a2, a3, _⟩ := PY_g Y
  obtain ⟨_, hx, hp, gt⟩ := Y
  obtain ⟨e1, e2, e3⟩ := PR_G hp a2 a3 hg
  constructor
  · unfold F_104
    rw [F52_eq a1 a3 hg, ob_s, F53_eq a1 a3 hg, ob_s, F18_cx hx, ob_s, e1, e2]
  · rw [F54_eq a1 a3 hg, e3]
theorem trea_eq (Y : PY Sc T) {g : Nat} (hg : g < cTz T) : F_105 (nJ g) Sc = some (f_215 T (T.1 141 (45 + 3 * g)) (T.1 141 (46 + 3 * g))) := by
  obtain ⟨_, _, _, a1, a2, a3⟩ := PY_g Y
  obtain ⟨_, hx, hp, gt⟩ := Y
  obtain ⟨e1, e2, e3⟩ := PR_T hp a2 a3 hg
  unfold F_105
  rw [F60_eq a1 a3 hg, ob_s, F61_eq a1 a3 hg, ob_s, F18_cx hx, ob_s, e1, e2]
theorem F274_0 {g : Nat} (hg : g < 6) : F_274 (nJ g) 0 T = some (T.1 141 (27 + 3 * g)) := F274_eq (j := 0) hg (by omega)
theorem F274_1 {g : Nat} (hg : g < 6) : F_274 (nJ g) 1 T = some (T.1 141 (28 + 3 * g)) := by
  rw [show (28 + 3 * g) = 27 + 3 * g + 1 by omega]
  exact F274_eq (j := 1) hg (by omega)
theorem F274_2 {g : Nat} (hg : g < 6) : F_274 (nJ g) 2 T = some (T.1 141 (29 + 3 * g)) := by
  rw [show (29 + 3 * g) = 27 + 3 * g + 2 by omega]
  exact F274_eq (j := 2) hg (by omega)
theorem F287_eq {g j : Nat} (hg : g < 6) (hj : j < 3) : F_287 (nJ g) (nJ j) T = some (T.1 141 (45 + 3 * g + j)) := by
  unfold F_287
  rw [show (3 : Int32) * nJ g = nJ (3 * g) from nJ_mul 3 g, show (45 : Int32) + nJ (3 * g) = nJ (45 + 3 * g) from nJ_add 45 (3 * g), nJ_add, ck_t (ibd_n (by omega) (by omega)), nJ_ix (by omega)]
theorem a149 (R : Ro Sc Sm) (M : MOK Sm) (v : Int32) : Agr E12 (F_149 v) (F_278 v) Sc Sm := by
  rcases kGt R M v with ⟨ec, em⟩ | ⟨ec, ei, em⟩ | ⟨i, T, rfl, hi, G, ec, ei, em, f⟩
  · exact Agr_x R M (e := isE) (k := 1) (by simp [E12]) (by unfold F_149; rw [ec]; rfl) (by unfold F_278; rw [em]; rfl) tt_0 tt_F
  · exact Agr_x R M (e := ixE) (k := 2) (by simp [E12]) (by unfold F_149; rw [ec, ox_r, ei]; rfl) (by unfold F_278; rw [em]; rfl) tt_0 tt_F
  · have h6 := (PY_g G.2.2.1).2.2.1
    refine Agr_r (a := f_215 T (T.1 141 (27 + 3 * i)) (T.1 141 (28 + 3 * i))) (Sm' := T) ?_ ?_ G.1 G.2.2.2
    · unfold F_149
      rw [ec, ox_r, ei, ox_r, (post_eq G.2.2.1 hi).1, ob_s]
    · unfold F_278
      rw [em, ob_s]
      dsimp only
      rw [if_neg (by decide), F274_0 (by omega), ob_s, F274_1 (by omega), ob_s]
      rfl
theorem a150 (R : Ro Sc Sm) (M : MOK Sm) (v : Int32) : Agr E12 (F_150 v) (F_279 v) Sc Sm := by
  rcases kGt R M v with ⟨ec, em⟩ | ⟨ec, ei, em⟩ | ⟨i, T, rfl, hi, G, ec, ei, em, f⟩
  · exact Agr_x R M (e := isE) (k := 1) (by simp [E12]) (by unfold F_150; rw [ec]; rfl) (by unfold F_279; rw [em]; rfl) tt_0 tt_F
  · exact Agr_x R M (e := ixE) (k := 2) (by simp [E12]) (by unfold F_150; rw [ec, ox_r, ei]; rfl) (by unfold F_279; rw [em]; rfl) tt_0 tt_F
  · have h6 := (PY_g G.2.2.1).2.2.1
    refine Agr_r (a := T.1 141 (29 + 3 * i)) (Sm' := T) ?_ ?_ G.1 G.2.2.2
    · unfold F_150
      rw [ec, ox_r, ei, ox_r, (post_eq G.2.2.1 hi).2, ob_s]
    · unfold F_279
      rw [em, ob_s]
      dsimp only
      rw [if_neg (by decide), F274_2 (by omega), ob_s]
theorem a158 (R : Ro Sc Sm) (M : MOK Sm) (v : Int32) : Agr E12 (F_158 v) (F_288 v) Sc Sm := by
  rcases zkP R M with ⟨ec, em, _⟩ | ⟨G, ec, em, _⟩
  · exact Agr_x R M (e := isE) (k := 1) (by simp [E12]) (by unfold F_158; rw [ec]; rfl) (by unfold F_288; rw [em]; rfl) tt_0 tt_F
  · obtain ⟨_, _, _, a1, a2, a3⟩ := PY_g G.2.2.1
    rcases k2 (Sc := Sc) G.2.2.2 (n := cTz (t0 Sm)) (by omega) v 2 (by decide) with ⟨ei, ej⟩ | ⟨i, hi, rfl, ei, ej⟩
    · refine Agr_x (Sm' := wI (t0 Sm) 140 0 2) R M (e := ixE) (k := 2) (by simp [E12]) (by unfold F_158; rw [ec, ox_r, a1, ei]; rfl) (z := 0) ?_ (by rw [wI_1, if_pos ⟨rfl, rfl⟩]) (t0_F.tr (Fm_f (by decide)))
      unfold F_288
      rw [em, ob_s]
      dsimp only
      rw [if_neg (by decide), a2, ej]
      rfl
    · refine Agr_r (a := f_215 (t0 Sm) ((t0 Sm).1 141 (45 + 3 * i)) ((t0 Sm).1 141 (46 + 3 * i))) (Sm' := t0 Sm) ?_ ?_ G.1 G.2.2.2
      · unfold F_158
        rw [ec, ox_r, a1, ei, ox_r, trea_eq G.2.2.1 hi, ob_s]
      · unfold F_288
        rw [em, ob_s]
        dsimp only
        rw [if_neg (by decide), a2, ej, ob_s]
        dsimp only
        rw [if_neg (by decide), show F_287 (nJ i) 0 (t0 Sm) = some ((t0 Sm).1 141 (45 + 3 * i)) from F287_eq (j := 0) (by omega) (by omega), ob_s, show F_287 (nJ i) 1 (t0 Sm) = some ((t0 Sm).1 141 (46 + 3 * i)) from by
          rw [show (46 + 3 * i) = 45 + 3 * i + 1 by omega]
          exact F287_eq (j := 1) (by omega) (by omega), ob_s]
        rfl
theorem a162 (R : Ro Sc Sm) (M : MOK Sm) (v : Int32) : Agr EDb (F_162 v) (F_296 v) Sc Sm := by
  have h0 : (t0 Sm).1 140 0 = 0 := t0_0
  rcases R.2.2.2.2.2.1 with ⟨d1, d2⟩ | ⟨d1, d2, d3⟩
  · have ei : F_175 v (nJ 0) Sc = some (.inl ixE, Sc) := C175_i (by omega) (fun z => by obtain ⟨i, hi, _⟩ := z; omega)
    refine Agr_x (Sm' := tt Sm 1) R M (e := ixE) (k := 1) (by simp [EDb]) (by unfold F_162; rw [d1, if_pos rfl, show (0 : Int32) = nJ 0 from rfl, ei]; rfl) (z := 0) ?_ tt_0 tt_F
    unfold F_296
    rw [d2, decide_eq_true rfl, Bool.true_or, show F_183 true 1 (wI Sm 140 0 0) = some (true, tt Sm 1) from M183_t t0_0 (by decide)]
    rfl
  · rcases k3 (Sc := Sc) h0 (n := 15) (by omega) v 1 (by decide) with ⟨_, ej⟩ | ⟨i, hi, rfl, _, ej⟩
    · have ne : ¬ ∃ i, i < 16 ∧ v = nJ i := fun z => by
        obtain ⟨i, hi, rfl⟩ := z
        have q : F_182 (nJ i) 0 (nJ 15) = true := (rng_t (by omega)).mpr ⟨i, by omega, rfl⟩
        rw [q, Bool.not_true, M183_f h0] at ej
        cases ej
      have ei : F_175 v (nJ 16) Sc = some (.inl ixE, Sc) := C175_i (by omega) ne
      refine Agr_x (Sm' := wI (t0 Sm) 140 0 1) R M (e := ixE) (k := 1) (by simp [EDb]) (by unfold F_162; rw [if_neg d1, show (16 : Int32) = nJ 16 from rfl, ei]; rfl) (z := 0) ?_ (by rw [wI_1, if_pos ⟨rfl, rfl⟩]) (t0_F.tr (Fm_f (by decide)))
      unfold F_296
      rw [decide_eq_false d2, Bool.false_or, show (15 : Int32) = nJ 15 from rfl, show wI Sm 140 0 0 = t0 Sm from rfl, ej]
      rfl
    · have ei : F_175 (nJ i) (nJ 16) Sc = some (.inr (), Sc) := C175_y (by omega) (by omega)
      refine Agr_r (a := Sm.1 161 i) (Sm' := t0 Sm) ?_ ?_ (Ro_t R M t0_F) h0
      · unfold F_162
        rw [if_neg d1, show (16 : Int32) = nJ 16 from rfl, ei, ox_r, ck_t (ibd_n (by omega) (by omega)), nJ_ix (by omega), d3 i (by omega)]
      · unfold F_296
        rw [decide_eq_false d2, Bool.false_or, show (15 : Int32) = nJ 15 from rfl, show wI Sm 140 0 0 = t0 Sm from rfl, ej, ob_s]
        dsimp only
        rw [if_neg (by decide), ck_t (ibd_n (by omega) (by omega)), nJ_ix (by omega), t0_o (by omega)]
end Lk
