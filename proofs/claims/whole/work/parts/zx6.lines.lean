/-! the lines behind the polygon's, on both sides -/
theorem TX_p : TXS.getD 14 [] = TXS.getD 10 [] := rfl
theorem TX_g : TXS.getD 16 [] = TXS.getD 11 [] := rfl
theorem TX_t : TXS.getD 17 [] = TXS.getD 12 [] := rfl
noncomputable def zls (e : ST) : Option (Unit × ST) := if (e.1 140 13) = 0 then (some ((), e)) else (ob (F_193 1 e) (fun w11 => some ((), w11.2)))
def zLe (n : Nat) (b : Nat → Int32) (v1 p2 : Int32) (N M i : Nat) (Sc Sm : ST) : Prop := ∃ c Sc' Sm' z e, wh N L_37_2 (nJ i, Sc) = some z ∧ Sum.elim (fun e2 => some (5, e2.2)) (fun o => some o) z = some (c, Sc') ∧ wh M (Lm_200_49 v1 p2) Sm = some e ∧ zls e = some ((), Sm') ∧ Fp pcl Sc Sc' ∧ Fm [145, 146] PSr Sm Sm' ∧ ((c = 0 ∧ ∃ j p', zLR n b j p' Sc' Sm') ∨ (¬ c = 0 ∧ zTE c Sc' Sm'))
section Ln
variable {Sc Sm S : ST} {n p i : Nat} {b : Nat → Int32} {v1 p2 : Int32}
theorem zls_y (h : ¬ S.1 140 17 = 0) : zls S = some ((), S) := by
  unfold zls
  rw [M193_y h, ob_s]
  split <;> rfl
theorem lm200_y (h : ¬ S.1 140 17 = 0) : Lm_200_49 v1 p2 S = some (.inr S) := by unfold Lm_200_49; rw [if_neg h]
theorem zLR_mv (L : zLR n b i p Sc Sm) (hn : n ≤ 600) (hv : ∀ j, j < n → ¬ b j = -1) : ∃ Sc' Sm', F_13 Sc = some ((), Sc') ∧ F_192 Sm = some ((), Sm') ∧ zLR n b i (tkS b n p) Sc' Sm' ∧ Fc [1] Sc Sc' ∧ Fm [145] TKf Sm Sm' := by
  obtain ⟨⟨tc, tb, tm, tbm, t17⟩, hp, g, lc, hi⟩ := L
  obtain ⟨Sca, ea, fa, ca⟩ := F13_c tc hn tb
  obtain ⟨S1, e1, f1, m1⟩ := M192_c tm hn tbm hv
  have r1 : S1.1 146 = Sm.1 146 := f1.row (by decide) (by decide)
  refine ⟨Sca, S1, ea, e1, ⟨⟨ca, BF_fc tb fa (by decide), m1, BF_fm tbm f1 (by decide), fm17 t17 f1 (by decide) (by decide)⟩, ?_, GTh_r2 r1 g, ?_, ?_⟩, fa, f1⟩
  · rw [r1]
    exact PR_fp hp (pc29' (fa.wk (by decide))) (fun a ha => by unfold pl9 at ha; omega)
  · rw [rL_r2 r1]
    exact LC_fp lc (pc29' (fa.wk (by decide))) (fun a ha => by omega)
  · unfold cnt
    rw [r1]
    exact hi
theorem zl_fin {N M : Nat} {c : Int32} {Sc' S1 : ST} (hM : 2 ≤ M) (a1 : L_37_2 (nJ i, Sc) = some (.inr (.inr (c, Sc')))) (a2 : Lm_200_49 v1 p2 Sm = some (.inl S1)) (a3 : ¬ c = 0) (a5 : Fp pcl Sc Sc') (a6 : Fm [145, 146] PSr Sm S1) (a7 : zTE c Sc' S1) : zLe n b v1 p2 (N + 1) M i Sc Sm := by
  obtain ⟨k, rfl⟩ : ∃ k, M = k + 1 + 1 := ⟨M - 2, by omega⟩
  have h17 : ¬ S1.1 140 17 = 0 := by
    obtain ⟨_, _, q, _⟩ := a7
    rw [q]; exact a3
  exact ⟨c, Sc', S1, _, S1, wh_out a1, rfl, by rw [wh_in a2, wh_out (lm200_y h17)], zls_y h17, a5, a6, Or.inr ⟨a3, a7⟩⟩
theorem zlines (hn : n ≤ 600) (hv : ∀ j, j < n → ¬ b j = -1) : ∀ (t i p : Nat) (Sc Sm : ST) (N M : Nat), i + t = 12 → t + 2 < N → t + 2 < M → zLR n b i p Sc Sm → zLe n b v1 p2 N M i Sc Sm := by
  intro t
  induction t using Nat.strongRecOn with
  | _ t ih =>
    intro i p Sc Sm N M hit hN hM L
    obtain ⟨⟨tc, tb, tm, tbm, t17⟩, hp, g, lc, hi⟩ := id L
    have k1 : Sc.1 1 1 = tkK b n p := tc.2.2.2.2.1
    have km : Sm.1 140 13 = tkK b n p := tm.2.2.2.2.1
    have l13 : ¬ (13 : Int32) < nJ i := fun z => by have := (nJ_lt (i := 13) (by omega) (by omega)).mp z; omega
    obtain ⟨N', rfl⟩ : ∃ k, N = k + 1 := ⟨N - 1, by omega⟩
    by_cases c0 : tkK b n p = 0
    · obtain ⟨M', rfl⟩ : ∃ k, M = k + 1 := ⟨M - 1, by omega⟩
      have hc : L_37_2 (nJ i, Sc) = some (.inr (.inr (0, Sc))) := by
        unfold L_37_2
        dsimp only
        rw [if_neg l13, k1, if_pos c0]
      have hm : Lm_200_49 v1 p2 Sm = some (.inr Sm) := by
        unfold Lm_200_49
        rw [if_pos t17, km, c0, if_neg (by decide)]
      refine ⟨0, Sc, Sm, _, Sm, wh_out hc, rfl, wh_out hm, ?_, Fp.rf, Fm.rf, Or.inl ⟨rfl, i, p, L⟩⟩
      unfold zls
      rw [km, if_pos c0]
    · by_cases c3 : tkK b n p = 3
      · obtain ⟨Sca, Sma, ea, em, L1, fa, fm⟩ := zLR_mv L hn hv
        obtain ⟨⟨tc1, tb1, tm1, tbm1, t171⟩, hp1, g1, lc1, hi1⟩ := id L1
        have l11 : (TXS.getD 11 []).length ≤ 8 := by decide
        have l12 : (TXS.getD 12 []).length ≤ 8 := by decide
        have go : ∀ {c : Int32} {Sc' Sm' : ST}, L_37_2 (nJ i, Sc) = (if c = 0 then some (.inl (nJ (i + 1), Sc')) else some (.inr (.inr (c, Sc')))) → Lm_200_49 v1 p2 Sm = some (.inl Sm') → Fp pcl Sca Sc' → Fm [145, 146] PSr Sma Sm' → ((c = 0 ∧ ∃ p', zLR n b (i + 1) p' Sc' Sm') ∨ (¬ c = 0 ∧ zTE c Sc' Sm')) → zLe n b v1 p2 (N' + 1) M i Sc Sm := by
          intro c Sc' Sm' stepc stepm f1 f2 alt
          have fC : Fp pcl Sc Sc' := (pc1' fa).tr f1
          have fM : Fm [145, 146] PSr Sm Sm' := (fm.wk (by decide) (by decide)).tr f2
          rcases alt with ⟨cz, p', L'⟩ | ⟨cz, te⟩
          · rw [if_pos cz] at stepc
            have c12 := cnt_le L'.2.2.1
            rw [L'.2.2.2.2] at c12
            obtain ⟨M', rfl⟩ : ∃ k, M = k + 1 := ⟨M - 1, by omega⟩
            obtain ⟨c2, Sc2, Sm2, z, e, r1, r2, r3, r4, r5, r6, r7⟩ := ih (t - 1) (by omega) (i + 1) p' Sc' Sm' N' M' (by omega) (by omega) (by omega) L'
            exact ⟨c2, Sc2, Sm2, z, e, by rw [wh_in stepc]; exact r1, r2, by rw [wh_in stepm]; exact r3, r4, fC.tr r5, fM.tr r6, r7⟩
          · rw [if_neg cz] at stepc
            exact zl_fin (by omega) stepc stepm cz fC fM te
        have z5 : ¬ (5 : Int32) = 0 := by decide
        have z1 : ¬ (1 : Int32) = 0 := by decide
        have lt6 : ∀ q, q ≤ 6 → (nJ q < 6 ↔ q < 6) := fun q hq => nJ_lt (j := 6) (by omega) (by omega)
        have te5 : zTE 5 Sca (er Sma 5) := ⟨_, tc1.2.2.1, er_17, er_18.trans tm1.2.2.1⟩
        have te1 : zTE 1 Sca (er Sma 1) := ⟨_, tc1.2.2.1, er_17, er_18.trans tm1.2.2.1⟩
        by_cases cg : tkW b n (tkS b n p) (TXS.getD 11 []) = true
        · obtain ⟨q, hq, q6⟩ := Th_q g1 true
          have hq' : Sma.1 146 1 = nJ q := hq
          have h12 : Sca.1 12 1 = nJ q := hp1.1.2.1.trans hq'
          have stepc0 : L_37_2 (nJ i, Sc) = if nJ q < 6 then (ob (F_38 Sca) (fun w3 => if w3.1 = 0 then (some (.inl (nJ i + 1, w3.2))) else (some (.inr (.inr (w3.1, w3.2)))))) else (some (.inr (.inr (5, Sca)))) := by
            unfold L_37_2
            dsimp only
            rw [if_neg l13, k1, if_neg c0, if_pos c3, ea, ob_s]
            dsimp only
            rw [F16_eq tc1 hn tb1 l11, ob_s, if_pos cg, h12, if_neg z5]
          have stepm0 : Lm_200_49 v1 p2 Sm = ob (F_199 true Sma) (fun w6 => some (.inl (w6.2))) := by
            unfold Lm_200_49
            rw [if_pos t17, km, if_pos c3, em, ob_s]
            dsimp only
            rw [TX_g, M195_eq t171 tm1 hn l11, cg, ob_s, if_pos rfl, ob_s]
          by_cases cq : q < 6
          · obtain ⟨c, Sc', Sm', e38, e199, f1, f2, alt⟩ := zguard L1 hn hv hq' cq
            refine go (c := c) (Sc' := Sc') (Sm' := Sm') ?_ ?_ f1 f2 alt
            · rw [stepc0, if_pos ((lt6 q q6).mpr cq), e38, ob_s, nJ_succ]
            · rw [stepm0, e199, ob_s]
          · have q66 : q = 6 := by omega
            subst q66
            refine go (c := 5) (Sc' := Sca) (Sm' := er Sma 5) ?_ ?_ Fp.rf er_PS (Or.inr ⟨z5, te5⟩)
            · rw [stepc0, if_neg (fun z => cq ((lt6 6 q6).mp z)), if_neg z5]
            · rw [stepm0, F199_6 t171 hq, ob_s]
        · have cg' : tkW b n (tkS b n p) (TXS.getD 11 []) = false := by simpa using cg
          have stepc0 : L_37_2 (nJ i, Sc) = if tkW b n (tkS b n p) (TXS.getD 12 []) = true then (if (Sca.1 12 2) < 6 then (ob (F_39 Sca) (fun w5 => if w5.1 = 0 then (some (.inl (nJ i + 1, w5.2))) else (some (.inr (.inr (w5.1, w5.2)))))) else (some (.inr (.inr (5, Sca))))) else (some (.inr (.inr (1, Sca)))) := by
            unfold L_37_2
            dsimp only
            rw [if_neg l13, k1, if_neg c0, if_pos c3, ea, ob_s]
            dsimp only
            rw [F16_eq tc1 hn tb1 l11, ob_s, if_neg cg, F16_eq tc1 hn tb1 l12, ob_s, if_neg z5, if_neg z1]
          have stepm0 : Lm_200_49 v1 p2 Sm = if tkW b n (tkS b n p) (TXS.getD 12 []) = true then (ob (F_199 false Sma) (fun w6 => some (.inl (w6.2)))) else (ob (F_193 1 Sma) (fun w10 => some (.inl (w10.2)))) := by
            unfold Lm_200_49
            rw [if_pos t17, km, if_pos c3, em, ob_s]
            dsimp only
            rw [TX_g, TX_t, M195_eq t171 tm1 hn l11, cg', ob_s, if_neg (by decide), M195_eq t171 tm1 hn l12, ob_s, ob_s]
          by_cases ct : tkW b n (tkS b n p) (TXS.getD 12 []) = true
          · rw [if_pos ct] at stepc0 stepm0
            obtain ⟨q, hq, q6⟩ := Th_q g1 false
            have hq' : Sma.1 146 2 = nJ q := hq
            have h12 : Sca.1 12 2 = nJ q := hp1.1.2.2.trans hq'
            rw [h12] at stepc0
            by_cases cq : q < 6
            · obtain ⟨c, Sc', Sm', e38, e199, f1, f2, alt⟩ := ztreas L1 hn hv hq' cq
              refine go (c := c) (Sc' := Sc') (Sm' := Sm') ?_ ?_ f1 f2 alt
              · rw [stepc0, if_pos ((lt6 q q6).mpr cq), e38, ob_s, nJ_succ]
              · rw [stepm0, e199, ob_s]
            · have q66 : q = 6 := by omega
              subst q66
              refine go (c := 5) (Sc' := Sca) (Sm' := er Sma 5) ?_ ?_ Fp.rf er_PS (Or.inr ⟨z5, te5⟩)
              · rw [stepc0, if_neg (fun z => cq ((lt6 6 q6).mp z)), if_neg z5]
              · rw [stepm0, F199_6 t171 hq, ob_s]
          · rw [if_neg ct] at stepc0 stepm0
            refine go (c := 1) (Sc' := Sca) (Sm' := er Sma 1) ?_ ?_ Fp.rf er_PS (Or.inr ⟨z1, te1⟩)
            · rw [stepc0, if_neg z1]
            · rw [stepm0, M193_n t171, ob_s]
      · obtain ⟨M', rfl⟩ : ∃ k, M = k + 1 := ⟨M - 1, by omega⟩
        have hc : L_37_2 (nJ i, Sc) = some (.inr (.inr (1, Sc))) := by
          unfold L_37_2
          dsimp only
          rw [if_neg l13, k1, if_neg c0, if_neg c3]
        have hm : Lm_200_49 v1 p2 Sm = some (.inr Sm) := by
          unfold Lm_200_49
          rw [if_pos t17, km, if_neg c3]
        refine ⟨1, Sc, er Sm 1, _, Sm, wh_out hc, rfl, wh_out hm, ?_, Fp.rf, er_PS, Or.inr ⟨by decide, p, tc.2.2.1, er_17, er_18.trans tm.2.2.1⟩⟩
        unfold zls
        rw [km, if_neg c0, M193_n t17]
        rfl
end Ln
