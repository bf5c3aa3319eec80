/-! a guard's and a treasure's line on both sides -/
theorem TR_r {n p : Nat} {b : Nat → Int32} {Sc Sm Sc' Sm' : ST} (T : zTR n b p Sc Sm) (h1 : Sc'.1 1 = Sc.1 1) (h2 : Sc'.1 2 = Sc.1 2) (h3 : Sm'.1 140 = Sm.1 140) (h4 : Sm'.1 144 = Sm.1 144) (h5 : Sm'.1 145 = Sm.1 145) : zTR n b p Sc' Sm' := by
  obtain ⟨a, b1, c, d, e⟩ := T
  exact ⟨CK_r h1 a, fun k hk => by rw [h2]; exact b1 k hk, MK_r (fun k _ _ => by rw [h3]) h5 c, fun k hk => by rw [h4]; exact d k hk, by rw [h3]; exact e⟩
section Th
variable {Sc Sm S : ST} {n p i q : Nat} {b : Nat → Int32} {v : Bool} {x y k : Int32}
theorem zstore (h17 : S.1 140 17 = 0) (hq : S.1 146 (Kb v) = nJ q) (h6 : q < 6) : ∃ S', J_199_122 v (nJ (Kb v)) x y k S = some ((), S') ∧ Fm [146] [] S S' ∧ ∀ j, S'.1 146 j = if j = Kb v then nJ (q + 1) else if j = Bb v + 3 * q + 2 then k else if j = Bb v + 3 * q + 1 then y else if j = Bb v + 3 * q then x else S.1 146 j := by
  have hK := Kb_b v
  have iK : (nJ (Kb v)).toNatClampNeg = Kb v := nJ_ix (by omega)
  have e0 : (if v = true then (27 : Int32) else 45) + 3 * nJ q = nJ (Bb v + 3 * q) := by rw [Bb_i, show (3 : Int32) * nJ q = nJ (3 * q) from nJ_mul 3 q, nJ_add]
  have e1 : nJ (Bb v + 3 * q) + 1 = nJ (Bb v + 3 * q + 1) := nJ_succ _
  have e2 : nJ (Bb v + 3 * q) + 2 = nJ (Bb v + 3 * q + 2) := nJ_add _ 2
  have ib0 : ibd (nJ (Kb v)) 63 = true := ibd_n (by omega) (by omega)
  have ib1 : ibd (nJ (Bb v + 3 * q)) 63 = true := ibd_n (by omega) (by omega)
  have ib2 : ibd (nJ (Bb v + 3 * q + 1)) 63 = true := ibd_n (by omega) (by omega)
  have ib3 : ibd (nJ (Bb v + 3 * q + 2)) 63 = true := ibd_n (by omega) (by omega)
  have a0 : (wI (wI (wI S 146 (Bb v + 3 * q) x) 146 (Bb v + 3 * q + 1) y) 146 (Bb v + 3 * q + 2) k).1 146 (Kb v) = nJ q := by rw [wI_1, if_neg (by omega), wI_1, if_neg (by omega), wI_1, if_neg (by omega)]; exact hq
  refine ⟨wI (wI (wI (wI S 146 (Bb v + 3 * q) x) 146 (Bb v + 3 * q + 1) y) 146 (Bb v + 3 * q + 2) k) 146 (Kb v) (nJ (q + 1)), ?_, (((Fm_a (by decide)).tr (Fm_a (by decide))).tr (Fm_a (by decide))).tr (Fm_a (by decide)), fun j => ?_⟩
  · unfold J_199_122
    rw [if_pos h17, iK, hq, e0, e1, e2, ck_t ib0, ck_t ib1, nJ_ix (by omega), sbn_e, ck_t ib2, nJ_ix (by omega), sbn_e, ck_t ib3, nJ_ix (by omega), sbn_e, ck_t ib0, ck_t ib0, a0, sbn_e, nJ_succ]
  · rw [wI_1]
    by_cases c1 : j = Kb v
    · rw [if_pos ⟨rfl, c1⟩, if_pos c1]
    · rw [if_neg (fun z => c1 z.2), if_neg c1, wI_1]
      by_cases c2 : j = Bb v + 3 * q + 2
      · rw [if_pos ⟨rfl, c2⟩, if_pos c2]
      · rw [if_neg (fun z => c2 z.2), if_neg c2, wI_1]
        by_cases c3 : j = Bb v + 3 * q + 1
        · rw [if_pos ⟨rfl, c3⟩, if_pos c3]
        · rw [if_neg (fun z => c3 z.2), if_neg c3, wI_1]
          by_cases c4 : j = Bb v + 3 * q
          · rw [if_pos ⟨rfl, c4⟩, if_pos c4]
          · rw [if_neg (fun z => c4 z.2), if_neg c4]
def zEr (c : Int32) (Sc Sm Sc' Sm' : ST) : Prop := ¬ c = 0 ∧ zTE c Sc' Sm' ∧ Fp pcl Sc Sc' ∧ Fm [145, 146] PSr Sm Sm'
/-- the place behind the word -/
theorem zplace (L : zLR n b i p Sc Sm) (hn : n ≤ 600) (hv : ∀ j, j < n → ¬ b j = -1) (v : Bool) (j2 : Int32) : ∃ Sca, F_13 Sc = some ((), Sca) ∧ ((∃ c Sc' Sm', F_40 true Sca = some (c, Sc') ∧ J_199_26 v j2 Sm = some ((), Sm') ∧ zEr c Sc Sm Sc' Sm') ∨ ∃ x y r Sc' Sm', F_40 true Sca = some (0, Sc') ∧ J_199_26 v j2 Sm = J_199_75 v j2 x y Sm' ∧ CK Sc' n b (tkS b n r) ∧ MK Sm' n b r ∧ Sc'.1 29 3 = x ∧ Sc'.1 29 4 = y ∧ Fc [1, 29] Sc Sc' ∧ Fm [145] TKf Sm Sm' ∧ ge_cl 1 (rL Sm 146) (x.toInt, y.toInt)) := by
  obtain ⟨⟨tc, tb, tm, tbm, t17⟩, hp, g, lc, hi⟩ := L
  obtain ⟨Sca, ea, fa, ca⟩ := F13_c tc hn tb
  obtain ⟨S1, e1, f1, m1⟩ := M194_n t17 tm hn tbm hv
  have ba : BF Sca 2 b := BF_fc tb fa (by decide)
  have b1 : BF S1 144 b := BF_fm tbm f1 (by decide)
  have h1 := fm17 t17 f1 (by decide) (by decide)
  refine ⟨Sca, ea, ?_⟩
  have J0 : J_199_26 v j2 Sm = ob (F_197 0 15 S1) (fun w3 => ob (F_196 0 15 w3.2) (fun w4 => if (w4.2.1 140 17) = 0 then (ob (F_208 146 (Int32.toInt64 w3.1) (Int32.toInt64 w4.1) 1 w4.2) (fun w5 => if w5 = true then (J_199_75 v j2 w3.1 w4.1 w4.2) else (ob (F_193 4 w4.2) (fun w11 => J_199_75 v j2 w3.1 w4.1 w11.2)))) else (J_199_75 v j2 w3.1 w4.1 w4.2))) := by
    unfold J_199_26
    rw [e1, ob_s]
  by_cases c0 : ckN b n (tkS b n p) 0 15 = 0
  · obtain ⟨S2, e2, f2, m2⟩ := M197_0 h1 m1 hn b1 hv c0
    have h2 := fm17 h1 f2 (by decide) (by decide)
    have f12 : Fm [145] TKf Sm S2 := f1.tr f2
    have b2 : BF S2 144 b := BF_fm b1 f2 (by decide)
    rw [e2, ob_s] at J0
    by_cases c1 : ckN b n (tkS b n (tkS b n p)) 0 15 = 0
    · obtain ⟨Sb, Sc', fb, cb1, x1, y1, fc', cc', e40⟩ := C40_eq ca hn ba c0 c1
      have e40 := e40 true
      rw [if_pos rfl] at e40
      have fS : Fc [1, 29] Sc Sc' := ((fa.wk (by decide)).tr fb).tr (fc'.wk (by decide))
      have lcb : LC Sb 25 (rL Sm 146) 256 := LC_fp lc (pc29' ((fa.wk (by decide)).tr fb)) (fun a ha => by omega)
      obtain ⟨w, ew, iw, _⟩ := F18_eq lcb (GR_boxL g.1) (tkV b n (tkS b n p)) (tkV b n (tkS b n (tkS b n p)))
      rw [ew, ob_s] at e40
      have r2 : S2.1 146 = Sm.1 146 := f12.row (by decide) (by decide)
      have g2 : GR S2 146 := GR_r2 r2 g.1
      have k0 := (ckN_in c0).2
      have k1 := (ckN_in c1).2
      have i208 := in_cl g2 k0 k1
      rw [rL_r2 r2] at i208
      have J1 : J_199_26 v j2 Sm = if f_208 S2 146 (Int32.toInt64 (tkV b n (tkS b n p))) (Int32.toInt64 (tkV b n (tkS b n (tkS b n p)))) 1 = true then (J_199_75 v j2 (tkV b n (tkS b n p)) (tkV b n (tkS b n (tkS b n p))) S2) else (ob (F_193 4 S2) (fun w11 => J_199_75 v j2 (tkV b n (tkS b n p)) (tkV b n (tkS b n (tkS b n p))) w11.2)) := by
        rw [J0]
        show ob (F_196 0 15 S2) _ = _
        rw [M196_0 h2 m2 c1, ob_s]
        show (if S2.1 140 17 = 0 then ob (F_208 146 (Int32.toInt64 (tkV b n (tkS b n p))) (Int32.toInt64 (tkV b n (tkS b n (tkS b n p)))) 1 S2) _ else _) = _
        rw [if_pos h2]
        unfold F_208
        rw [ck_P g2.1, ob_s]
      by_cases cl : ge_cl 1 (rL Sm 146) ((tkV b n (tkS b n p)).toInt, (tkV b n (tkS b n (tkS b n p))).toInt)
      · rw [if_neg (fun z => (iw.mp z) cl)] at e40
        rw [if_pos (i208.mpr cl)] at J1
        exact Or.inr ⟨_, _, _, Sc', S2, e40, J1, cc', m2, by rw [(fc' 29 (by decide)).1]; exact x1, by rw [(fc' 29 (by decide)).1]; exact y1, fS, f12, cl⟩
      · rw [if_pos (iw.mpr cl)] at e40
        rw [if_neg (fun z => cl (i208.mp z)), M193_n h2, ob_s] at J1
        refine Or.inl ⟨4, Sb, er S2 4, e40, J1.trans (J199_75_y (by rw [er_17]; decide)), by decide, ⟨_, cb1.2.2.1, er_17, er_18.trans m2.2.2.1⟩, pc29 ((fa.wk (by decide)).tr fb), (f12.wk (by decide) (by decide)).tr er_PS⟩
    · obtain ⟨Sc', e40, f40, p40⟩ := C40_e2 ca hn ba c0 c1 true
      refine Or.inl ⟨_, Sc', er S2 (ckN b n (tkS b n (tkS b n p)) 0 15), e40, ?_, c1, ⟨_, p40, er_17, er_18.trans m2.2.2.1⟩, (pc1' fa).tr (pc29 f40), (f12.wk (by decide) (by decide)).tr er_PS⟩
      rw [J0]
      show ob (F_196 0 15 S2) _ = _
      rw [M196_e h2 m2 c1, ob_s]
      show (if (er S2 (ckN b n (tkS b n (tkS b n p)) 0 15)).1 140 17 = 0 then _ else J_199_75 v j2 (tkV b n (tkS b n p)) 0 (er S2 (ckN b n (tkS b n (tkS b n p)) 0 15))) = _
      rw [er_17, if_neg c1]
      exact J199_75_y (by rw [er_17]; exact c1)
  · refine Or.inl ⟨_, Sca, er S1 (ckN b n (tkS b n p) 0 15), C40_e1 ca c0 true, ?_, c0, ⟨_, ca.2.2.1, er_17, er_18.trans m1.2.2.1⟩, pc1' fa, (f1.wk (by decide) (by decide)).tr er_PS⟩
    have w0 : ¬ (er S1 (ckN b n (tkS b n p) 0 15)).1 140 17 = 0 := by rw [er_17]; exact c0
    rw [J0, M197_e h1 m1 c0, ob_s]
    show ob (F_196 0 15 (er S1 (ckN b n (tkS b n p) 0 15))) _ = _
    rw [M196_y w0, ob_s]
    show (if (er S1 (ckN b n (tkS b n p) 0 15)).1 140 17 = 0 then _ else J_199_75 v j2 0 0 (er S1 (ckN b n (tkS b n p) 0 15))) = _
    rw [if_neg w0]
    exact J199_75_y w0
theorem F199_o (hq : S.1 146 (Kb v) = nJ q) (h6 : q ≤ 6) : F_199 v S = if q = 6 then (ob (F_193 5 S) (fun w1 => J_199_26 v (nJ (Kb v)) w1.2)) else J_199_26 v (nJ (Kb v)) S := by
  have hK := Kb_b v
  unfold F_199
  rw [Kb_i, ck_t (ibd_n (by omega) (by omega)), nJ_ix (by omega), hq]
  by_cases c : q = 6
  · rw [if_pos c, if_pos (show nJ q = 6 by rw [c]; rfl)]
  · rw [if_neg c, if_neg (show ¬ nJ q = 6 from fun z => c ((nJ_eq (j := 6) (by omega) (by omega)).mp z))]
theorem F199_6 (h17 : S.1 140 17 = 0) (hq : S.1 146 (Kb v) = nJ 6) : F_199 v S = some ((), er S 5) := by
  rw [F199_o hq (Nat.le_refl 6), if_pos rfl, M193_n h17, ob_s]
  exact J199_26_y (by rw [er_17]; decide)
/-- what was read is stored -/
theorem zput {S1 S2 S' : ST} {p' : Nat} (L : zLR n b i p Sc Sm) (hq : Sm.1 146 (Kb v) = nJ q) (h6 : q < 6) (hcl : ge_cl 1 (rL Sm 146) (x.toInt, y.toInt)) (hr : S1.1 146 = Sm.1 146) (row : ∀ j, S'.1 146 j = if j = Kb v then nJ (q + 1) else if j = Bb v + 3 * q + 2 then k else if j = Bb v + 3 * q + 1 then y else if j = Bb v + 3 * q then x else S1.1 146 j) (hF : Fm [146] [] S1 S') (T : zTR n b p' S2 S1) (l25 : LC S2 25 (rL Sm 146) 256) (pr : (∀ j, j < 63 → S'.1 146 j = if j = Kb v then nJ (q + 1) else if j = Bb v + 3 * q then x else if j = Bb v + 3 * q + 1 then y else if j = Bb v + 3 * q + 2 then k else Sm.1 146 j) → PR S2 12 (S'.1 146)) : zLR n b (i + 1) p' S2 S' := by
  obtain ⟨_, hp, g, lc, hi⟩ := L
  have hK := Kb_b v
  have row' : ∀ j, j < 63 → S'.1 146 j = if j = Kb v then nJ (q + 1) else if j = Bb v + 3 * q then x else if j = Bb v + 3 * q + 1 then y else if j = Bb v + 3 * q + 2 then k else Sm.1 146 j := fun j _ => by
    rw [row, hr]
    by_cases c1 : j = Kb v
    · rw [if_pos c1, if_pos c1]
    · rw [if_neg c1, if_neg c1]
      by_cases c2 : j = Bb v + 3 * q
      · rw [if_neg (by omega), if_neg (by omega), if_pos c2, if_pos c2]
      · by_cases c3 : j = Bb v + 3 * q + 1
        · rw [if_neg (by omega), if_pos c3, if_neg c2, if_pos c3]
        · by_cases c4 : j = Bb v + 3 * q + 2
          · rw [if_pos c4, if_neg c2, if_neg c3, if_pos c4]
          · rw [if_neg c4, if_neg c3, if_neg c2, if_neg c2, if_neg c3, if_neg c4]
  obtain ⟨g', hc⟩ := Th_add g v hq h6 hcl (S2 := S') (by rw [row' _ (by omega), if_neg (by omega), if_pos rfl]) (by rw [row' _ (by omega), if_neg (by omega), if_neg (by omega), if_pos rfl]) (by rw [row' _ (by omega), if_pos rfl]) (fun j h1 h2 => by
    rw [row, hr, if_neg h1, if_neg (by omega), if_neg (by omega), if_neg (by omega)])
  have eL : rL S' 146 = rL Sm 146 := Pe_L (fun j hj h1 h2 => by rw [row' j (by omega), if_neg (by omega), if_neg (by omega), if_neg (by omega), if_neg (by omega)]) g.1.1
  exact ⟨TR_r T rfl rfl (funext fun k => hF.fld (by decide) (List.not_mem_nil)) (hF.row (a := 144) (by decide) (by decide)) (hF.row (a := 145) (by decide) (by decide)), pr row', g', by rw [eL]; exact l25, by rw [hc, hi]⟩
theorem bt1 {q : Nat} : Bb true + 3 * q + 1 = 28 + 3 * q := by show 27 + 3 * q + 1 = _; omega
theorem bt2 {q : Nat} : Bb true + 3 * q + 2 = 29 + 3 * q := by show 27 + 3 * q + 2 = _; omega
theorem bf1 {q : Nat} : Bb false + 3 * q + 1 = 46 + 3 * q := by show 45 + 3 * q + 1 = _; omega
theorem bf2 {q : Nat} : Bb false + 3 * q + 2 = 47 + 3 * q := by show 45 + 3 * q + 2 = _; omega
theorem TX_r : TXS.getD 15 [] = TXS.getD 13 [] := rfl
theorem zguard (L : zLR n b i p Sc Sm) (hn : n ≤ 600) (hv : ∀ j, j < n → ¬ b j = -1) (hq : Sm.1 146 1 = nJ q) (h6 : q < 6) : ∃ c Sc' Sm', F_38 Sc = some (c, Sc') ∧ F_199 true Sm = some ((), Sm') ∧ Fp pcl Sc Sc' ∧ Fm [145, 146] PSr Sm Sm' ∧ ((c = 0 ∧ ∃ p', zLR n b (i + 1) p' Sc' Sm') ∨ (¬ c = 0 ∧ zTE c Sc' Sm')) := by
  obtain ⟨Sca, ea, alt⟩ := zplace L hn hv true (nJ (Kb true))
  obtain ⟨⟨tc, tb, tm, tbm, t17⟩, hp, g, lc, hi⟩ := id L
  have hq' : Sm.1 146 (Kb true) = nJ q := hq
  have F0 : F_199 true Sm = J_199_26 true (nJ (Kb true)) Sm := by rw [F199_o hq' (by omega), if_neg (by omega)]
  have F1 : F_38 Sc = ob (F_40 true Sca) (fun w2 => if w2.1 = 0 then (ob (F_16 (TXS.getD 13 []) w2.2) (fun w3 => if w3 = true then (ob (F_13 w2.2) (fun w4 => if (F_41 0 99 w4.2) = 0 then (ob (F_13 w4.2) (fun w5 => ob (F_55 12 (w5.2.1 29 3) (w5.2.1 29 4) (w4.2.1 1 3) w5.2) (fun w6 => some (0, w6.2)))) else (some ((F_41 0 99 w4.2), w4.2)))) else (ob (F_55 12 (w2.2.1 29 3) (w2.2.1 29 4) 99 w2.2) (fun w7 => some (0, w7.2))))) else (some (w2.1, w2.2))) := by
    unfold F_38
    rw [ea, ob_s]
  rcases alt with ⟨c, Sc', Sm', e40, eJ, c0, te, fc1, fm1⟩ | ⟨x, y, r, Sb, S2, e40, eJ, cb1, m2, hx, hy, fb, f2, cl⟩
  · refine ⟨c, Sc', Sm', ?_, F0.trans eJ, fc1, fm1, Or.inr ⟨c0, te⟩⟩
    rw [F1, e40, ob_s]
    show (if c = 0 then _ else some (c, Sc')) = _
    rw [if_neg c0]
  · have bb : BF Sb 2 b := BF_fc tb fb (by decide)
    have h2 := fm17 t17 f2 (by decide) (by decide)
    have b2 : BF S2 144 b := BF_fm tbm f2 (by decide)
    obtain ⟨S3, e3, f3, m3⟩ := M194_n h2 m2 hn b2 hv
    have h3 := fm17 h2 f3 (by decide) (by decide)
    have b3 : BF S3 144 b := BF_fm b2 f3 (by decide)
    have f03 : Fm [145] TKf Sm S3 := f2.tr f3
    have l13 : (TXS.getD 13 []).length ≤ 8 := by decide
    have cbr : cb (Sm.1 146) := GTh_cb g
    have F2 : F_38 Sc = if tkW b n (tkS b n r) (TXS.getD 13 []) = true then (ob (F_13 Sb) (fun w4 => if (F_41 0 99 w4.2) = 0 then (ob (F_13 w4.2) (fun w5 => ob (F_55 12 (w5.2.1 29 3) (w5.2.1 29 4) (w4.2.1 1 3) w5.2) (fun w6 => some (0, w6.2)))) else (some ((F_41 0 99 w4.2), w4.2)))) else (ob (F_55 12 x y 99 Sb) (fun w7 => some (0, w7.2))) := by
      rw [F1, e40, ob_s]
      show (if (0 : Int32) = 0 then ob (F_16 (TXS.getD 13 []) Sb) _ else _) = _
      rw [if_pos rfl, F16_eq cb1 hn bb l13, ob_s, hx, hy]
    have J2 : J_199_75 true (nJ (Kb true)) x y S2 = if tkW b n (tkS b n r) (TXS.getD 13 []) = true then (ob (F_194 S3) (fun w8 => ob (F_197 0 99 w8.2) (fun w9 => J_199_122 true (nJ (Kb true)) x y w9.1 w9.2))) else (J_199_122 true (nJ (Kb true)) x y 99 S3) := by
      unfold J_199_75
      rw [e3, ob_s, if_pos rfl]
      show ob (F_195 (TXS.getD 15 []) S3) _ = _
      rw [TX_r, M195_eq h3 m3 hn l13, ob_s]
    by_cases cw : tkW b n (tkS b n r) (TXS.getD 13 []) = true
    · rw [if_pos cw] at F2 J2
      obtain ⟨Sd, ed, fd, cd⟩ := F13_c cb1 hn bb
      have bd' : BF Sd 2 b := BF_fc bb fd (by decide)
      obtain ⟨S4, e4, f4, m4⟩ := M194_n h3 m3 hn b3 hv
      have h4 := fm17 h3 f4 (by decide) (by decide)
      have b4 : BF S4 144 b := BF_fm b3 f4 (by decide)
      by_cases c2 : ckN b n (tkS b n (tkS b n r)) 0 99 = 0
      · obtain ⟨Se, ee, fe, ce⟩ := F13_c cd hn bd'
        have be : BF Se 2 b := BF_fc bd' fe (by decide)
        obtain ⟨S5, e5, f5, m5⟩ := M197_0 h4 m4 hn b4 hv c2
        have h5 := fm17 h4 f5 (by decide) (by decide)
        have f05 : Fm [145] TKf Sm S5 := (f03.tr f4).tr f5
        have r5 : S5.1 146 = Sm.1 146 := f05.row (by decide) (by decide)
        have fS : Fc [1, 29] Sc Se := (fb.tr (fd.wk (by decide))).tr (fe.wk (by decide))
        have hpe : PR Se 12 (Sm.1 146) := PR_fp hp (pc29' fS) (fun a ha => by unfold pl9 at ha; omega)
        obtain ⟨Sf, ef, ff, prf⟩ := F55_eq hpe cbr hq h6 x y (tkV b n (tkS b n (tkS b n r)))
        obtain ⟨S6, e6, f6, row⟩ := zstore (v := true) (x := x) (y := y) (k := tkV b n (tkS b n (tkS b n r))) h5 (by rw [r5]; exact hq') h6
        have hxe : Se.1 29 3 = x := by rw [(fe 29 (by decide)).1, (fd 29 (by decide)).1]; exact hx
        have hye : Se.1 29 4 = y := by rw [(fe 29 (by decide)).1, (fd 29 (by decide)).1]; exact hy
        have hvd : Sd.1 1 3 = tkV b n (tkS b n (tkS b n r)) := cd.2.2.2.2.2 (ckN_in c2).1
        have Tf : zTR n b (tkS b n (tkS b n (tkS b n r))) Sf S5 := ⟨CK_r (ff 1 (by unfold pl9; omega)).1 ce, fun k hk => by rw [(ff 2 (by unfold pl9; omega)).1]; exact be k hk, m5, BF_fm tbm f05 (by decide), h5⟩
        refine ⟨0, Sf, S6, ?_, ?_, (pc29 fS).tr (ff.wk (fun x hx => Or.inr (Or.inl hx))), (f05.wk (by decide) (by decide)).tr (f6.wk (by decide) (by decide)), Or.inl ⟨rfl, _, zput L hq' h6 cl r5 row f6 Tf (LC_fp (LC_fp lc (pc29' fS) (fun a ha => by omega)) ff (fun a ha => by unfold pl9; omega)) (fun hh => prf _ (fun j hj => by rw [hh j hj, bt1, bt2]; rfl))⟩⟩
        · rw [F2, ed, ob_s]
          show (if F_41 0 99 Sd = 0 then ob (F_13 Sd) (fun w5 => ob (F_55 12 (w5.2.1 29 3) (w5.2.1 29 4) (Sd.1 1 3) w5.2) (fun w6 => some (0, w6.2))) else _) = _
          rw [C41_eq cd, if_pos c2, ee, ob_s, hvd]
          show ob (F_55 12 (Se.1 29 3) (Se.1 29 4) _ Se) _ = _
          rw [hxe, hye, ef]
          rfl
        · rw [F0, eJ, J2, e4, ob_s]
          show ob (F_197 0 99 S4) _ = _
          rw [e5, ob_s]
          exact e6
      · refine ⟨ckN b n (tkS b n (tkS b n r)) 0 99, Sd, er S4 (ckN b n (tkS b n (tkS b n r)) 0 99), ?_, ?_, pc29 (fb.tr (fd.wk (by decide))), ((f03.tr f4).wk (by decide) (by decide)).tr er_PS, Or.inr ⟨c2, _, cd.2.2.1, er_17, er_18.trans m4.2.2.1⟩⟩
        · rw [F2, ed, ob_s]
          show (if F_41 0 99 Sd = 0 then _ else some (F_41 0 99 Sd, Sd)) = _
          rw [C41_eq cd, if_neg c2]
        · rw [F0, eJ, J2, e4, ob_s]
          show ob (F_197 0 99 S4) _ = _
          rw [M197_e h4 m4 c2, ob_s]
          exact J199_122_y (by rw [er_17]; exact c2)
    · rw [if_neg cw] at F2 J2
      have r3 : S3.1 146 = Sm.1 146 := f03.row (by decide) (by decide)
      have hpe : PR Sb 12 (Sm.1 146) := PR_fp hp (pc29' fb) (fun a ha => by unfold pl9 at ha; omega)
      obtain ⟨Sf, ef, ff, prf⟩ := F55_eq hpe cbr hq h6 x y 99
      obtain ⟨S6, e6, f6, row⟩ := zstore (v := true) (x := x) (y := y) (k := 99) h3 (by rw [r3]; exact hq') h6
      have Tf : zTR n b (tkS b n r) Sf S3 := ⟨CK_r (ff 1 (by unfold pl9; omega)).1 cb1, fun k hk => by rw [(ff 2 (by unfold pl9; omega)).1]; exact bb k hk, m3, b3, h3⟩
      refine ⟨0, Sf, S6, ?_, ?_, (pc29 fb).tr (ff.wk (fun x hx => Or.inr (Or.inl hx))), (f03.wk (by decide) (by decide)).tr (f6.wk (by decide) (by decide)), Or.inl ⟨rfl, _, zput L hq' h6 cl r3 row f6 Tf (LC_fp (LC_fp lc (pc29' fb) (fun a ha => by omega)) ff (fun a ha => by unfold pl9; omega)) (fun hh => prf _ (fun j hj => by rw [hh j hj, bt1, bt2]; rfl))⟩⟩
      · rw [F2, ef]
        rfl
      · rw [F0, eJ, J2]
        exact e6
theorem ztreas (L : zLR n b i p Sc Sm) (hn : n ≤ 600) (hv : ∀ j, j < n → ¬ b j = -1) (hq : Sm.1 146 2 = nJ q) (h6 : q < 6) : ∃ c Sc' Sm', F_39 Sc = some (c, Sc') ∧ F_199 false Sm = some ((), Sm') ∧ Fp pcl Sc Sc' ∧ Fm [145, 146] PSr Sm Sm' ∧ ((c = 0 ∧ ∃ p', zLR n b (i + 1) p' Sc' Sm') ∨ (¬ c = 0 ∧ zTE c Sc' Sm')) := by
  obtain ⟨Sca, ea, alt⟩ := zplace L hn hv false (nJ (Kb false))
  obtain ⟨⟨tc, tb, tm, tbm, t17⟩, hp, g, lc, hi⟩ := id L
  have hq' : Sm.1 146 (Kb false) = nJ q := hq
  have F0 : F_199 false Sm = J_199_26 false (nJ (Kb false)) Sm := by rw [F199_o hq' (by omega), if_neg (by omega)]
  have F1 : F_39 Sc = ob (F_40 true Sca) (fun w2 => if w2.1 = 0 then (if (F_41 1 999 w2.2) = 0 then (ob (F_63 12 (w2.2.1 29 3) (w2.2.1 29 4) (w2.2.1 1 3) w2.2) (fun w3 => ob (F_13 w3.2) (fun w4 => some (0, w4.2)))) else (some ((F_41 1 999 w2.2), w2.2))) else (if w2.1 = 0 then (ob (F_63 12 (w2.2.1 29 3) (w2.2.1 29 4) (w2.2.1 1 3) w2.2) (fun w5 => ob (F_13 w5.2) (fun w6 => some (0, w6.2)))) else (some (w2.1, w2.2)))) := by
    unfold F_39
    rw [ea, ob_s]
  rcases alt with ⟨c, Sc', Sm', e40, eJ, c0, te, fc1, fm1⟩ | ⟨x, y, r, Sb, S2, e40, eJ, cb1, m2, hx, hy, fb, f2, cl⟩
  · refine ⟨c, Sc', Sm', ?_, F0.trans eJ, fc1, fm1, Or.inr ⟨c0, te⟩⟩
    rw [F1, e40, ob_s]
    show (if c = 0 then _ else if c = 0 then _ else some (c, Sc')) = _
    rw [if_neg c0, if_neg c0]
  · have bb : BF Sb 2 b := BF_fc tb fb (by decide)
    have h2 := fm17 t17 f2 (by decide) (by decide)
    have b2 : BF S2 144 b := BF_fm tbm f2 (by decide)
    obtain ⟨S3, e3, f3, m3⟩ := M194_n h2 m2 hn b2 hv
    have h3 := fm17 h2 f3 (by decide) (by decide)
    have b3 : BF S3 144 b := BF_fm b2 f3 (by decide)
    have f03 : Fm [145] TKf Sm S3 := f2.tr f3
    have cbr : cb (Sm.1 146) := GTh_cb g
    have F2 : F_39 Sc = if ckN b n (tkS b n r) 1 999 = 0 then (ob (F_63 12 x y (Sb.1 1 3) Sb) (fun w3 => ob (F_13 w3.2) (fun w4 => some (0, w4.2)))) else (some (ckN b n (tkS b n r) 1 999, Sb)) := by
      rw [F1, e40, ob_s]
      show (if (0 : Int32) = 0 then (if (F_41 1 999 Sb) = 0 then (ob (F_63 12 (Sb.1 29 3) (Sb.1 29 4) (Sb.1 1 3) Sb) (fun w3 => ob (F_13 w3.2) (fun w4 => some (0, w4.2)))) else (some ((F_41 1 999 Sb), Sb))) else _) = _
      rw [if_pos rfl, C41_eq cb1, hx, hy]
    have J2 : J_199_75 false (nJ (Kb false)) x y S2 = ob (F_197 1 999 S3) (fun w10 => J_199_122 false (nJ (Kb false)) x y w10.1 w10.2) := by
      unfold J_199_75
      rw [e3, ob_s, if_neg (by decide)]
    by_cases c2 : ckN b n (tkS b n r) 1 999 = 0
    · rw [if_pos c2] at F2
      obtain ⟨S5, e5, f5, m5⟩ := M197_0 h3 m3 hn b3 hv c2
      have h5 := fm17 h3 f5 (by decide) (by decide)
      have f05 : Fm [145] TKf Sm S5 := f03.tr f5
      have r5 : S5.1 146 = Sm.1 146 := f05.row (by decide) (by decide)
      have hpe : PR Sb 12 (Sm.1 146) := PR_fp hp (pc29' fb) (fun a ha => by unfold pl9 at ha; omega)
      have hvd : Sb.1 1 3 = tkV b n (tkS b n r) := cb1.2.2.2.2.2 (ckN_in c2).1
      obtain ⟨Sf, ef, ff, prf⟩ := F63_eq hpe cbr hq h6 x y (tkV b n (tkS b n r))
      have ckf : CK Sf n b (tkS b n r) := CK_r (ff 1 (by unfold pl9; omega)).1 cb1
      have bf : BF Sf 2 b := fun k hk => by rw [(ff 2 (by unfold pl9; omega)).1]; exact bb k hk
      obtain ⟨Se, ee, fe, ce⟩ := F13_c ckf hn bf
      obtain ⟨S6, e6, f6, row⟩ := zstore (v := false) (x := x) (y := y) (k := tkV b n (tkS b n r)) h5 (by rw [r5]; exact hq') h6
      have Te : zTR n b (tkS b n (tkS b n r)) Se S5 := ⟨ce, BF_fc bf fe (by decide), m5, BF_fm tbm f05 (by decide), h5⟩
      have lf : LC Se 25 (rL Sm 146) 256 := LC_fp (LC_fp (LC_fp lc (pc29' fb) (fun a ha => by omega)) ff (fun a ha => by unfold pl9; omega)) (pc29' (fe.wk (by decide))) (fun a ha => by omega)
      refine ⟨0, Se, S6, ?_, ?_, ((pc29 fb).tr (ff.wk (fun x hx => Or.inr (Or.inl hx)))).tr (pc1' fe), (f05.wk (by decide) (by decide)).tr (f6.wk (by decide) (by decide)), Or.inl ⟨rfl, _, zput L hq' h6 cl r5 row f6 Te lf (fun hh => PR_fp (prf _ (fun j hj => by rw [hh j hj, bf1, bf2]; rfl)) (pc29' (fe.wk (by decide))) (fun a ha => by unfold pl9 at ha; omega))⟩⟩
      · rw [F2, hvd, ef, ob_s]
        show ob (F_13 Sf) _ = _
        rw [ee]
        rfl
      · rw [F0, eJ, J2, e5, ob_s]
        exact e6
    · rw [if_neg c2] at F2
      refine ⟨_, Sb, er S3 (ckN b n (tkS b n r) 1 999), F2, ?_, pc29 fb, (f03.wk (by decide) (by decide)).tr er_PS, Or.inr ⟨c2, _, cb1.2.2.1, er_17, er_18.trans m3.2.2.1⟩⟩
      rw [F0, eJ, J2, M197_e h3 m3 c2, ob_s]
      exact J199_122_y (by rw [er_17]; exact c2)
end Th
