/-! the picture's row: the reference -/
section Dm
variable {S : ST}
theorem Qp_161 (h : Qp S) {S' : ST} (f : oneR 161 S S') : Qp S' := by
  refine ⟨(Qq_0 h.1 (hs := [161]) (fs := []) (oneR_Fm f) (by decide) (by decide) (by decide) (by decide) (by decide) (by decide)).1, ?_⟩
  rw [f.1 140 1 (by decide)]
  exact h.2
theorem M295_49 (hL : Ld S) (hg : GTh S 141) (hQ : Qp S) (y : Int32) (V : Int64) : ∃ z S', wh FU (Lm_295_49 y V) (0, 0, S) = some (nJ (fr (ctM S y) 0 16 0), z, S') ∧ oneR 161 S S' ∧ ∀ i, i < 16 → S'.1 161 i = chM S V (nJ i) y := by
  have h64 := (Ld_P hL).2
  have key : ∃ r, wh FU (Lm_295_49 y V) (nJ 0, nJ 0, S) = some r ∧ r.1 = nJ (fr (ctM S y) 0 16 0) ∧ oneR 161 S r.2.2 ∧ ∀ i, i < 16 → r.2.2.1 161 i = chM S V (nJ i) y := by
    refine wh_inv (I := fun m x => ∃ i, i + m = 16 ∧ x.2.1 = nJ i ∧ x.1 = nJ (fr (ctM S y) 0 i 0) ∧ oneR 161 S x.2.2 ∧ ∀ j, j < i → x.2.2.1 161 j = chM S V (nJ j) y) ?_ FU 16 _ (FU_lt (by omega)) ⟨0, rfl, rfl, rfl, oneR.rf, fun j hj => by omega⟩
    rintro m ⟨a, b, S1⟩ ⟨i, hi, rfl, rfl, f1, w⟩
    dsimp only at f1 w
    unfold Lm_295_49
    dsimp only
    by_cases c : i < 16
    · have e141 : S1.1 141 = S.1 141 := funext fun j => f1.1 141 j (by decide)
      have e149 : S1.1 149 = S.1 149 := funext fun j => f1.1 149 j (by decide)
      have e215 : F_215 (nJ i) y S1 = f_215 S (nJ i) y := by
        show f_215 S1 (nJ i) y = _
        unfold f_215 ra
        rw [e149]
      have hQ1 := Qp_161 hQ f1
      have hg1 : GTh S1 141 := GTh_r2 e141 hg
      have e292 : F_292 (nJ i) y S1 = some (thG S (nJ i) y) := by
        unfold F_292
        rw [ck_t (chB_t.mpr hQ1), f292_eq hg1]
        unfold thG cG
        rw [e141]
      have e293 : F_293 (nJ i) y S1 = some (thT S (nJ i) y) := by
        unfold F_293
        rw [ck_t (chB_t.mpr hQ1), f293_eq hg1]
        unfold thT cTz
        rw [e141]
      have e294 : F_294 (nJ i) y S1 = some (thV S (nJ i) y) := by
        unfold F_294
        rw [ck_t (chB_t.mpr hQ1), f294_eq hg1.1]
        unfold thV
        rw [rN_r2 e141, e141]
      have fin : ∀ x : Int32, x = chM S V (nJ i) y → oneR 161 S (wI S1 161 i x) ∧ ∀ j, j < i + 1 → (wI S1 161 i x).1 161 j = chM S V (nJ j) y := fun x hx => by
        refine ⟨f1.tr oneR_I, fun j hj => ?_⟩
        rw [wI_1]
        by_cases d : j = i
        · rw [if_pos ⟨rfl, d⟩, d, hx]
        · rw [if_neg (fun q => d q.2)]; exact w j (by omega)
      have cnt : fr (ctM S y) 0 (i + 1) 0 = if f_215 S (nJ i) y = -1 then fr (ctM S y) 0 i 0 else fr (ctM S y) 0 i 0 + 1 := by
        rw [fr_snoc, Nat.zero_add]; rfl
      have ib : ibd (nJ i) 16 = true := ibd_n (by omega) (by omega)
      have ix : Int32.toNatClampNeg (nJ i) = i := nJ_ix (by omega)
      rw [if_pos (show nJ i < 16 from (nJ_lt (j := 16) (by omega) (by omega)).mpr c), e215, ix, nJ_succ i]
      by_cases d : f_215 S (nJ i) y = -1
      · have add : nJ (fr (ctM S y) 0 i 0) + b2i (!(decide (f_215 S (nJ i) y = -1))) = nJ (fr (ctM S y) 0 (i + 1) 0) := by
          rw [cnt, if_pos d, decide_eq_true d]
          exact nJ_add _ 0
        rw [if_pos d, ck_t ib, sbn_e, add]
        exact Or.inl ⟨_, m - 1, by omega, rfl, i + 1, by omega, rfl, rfl, fin _ (by unfold chM; rw [if_pos d])⟩
      · have add : nJ (fr (ctM S y) 0 i 0) + b2i (!(decide (f_215 S (nJ i) y = -1))) = nJ (fr (ctM S y) 0 (i + 1) 0) := by
          rw [cnt, if_neg d, decide_eq_false d]
          exact nJ_add _ 1
        rw [if_neg d, e292, ob_s]
        by_cases c1 : thG S (nJ i) y = true
        · rw [if_pos c1, ck_t ib, sbn_e, add]
          exact Or.inl ⟨_, m - 1, by omega, rfl, i + 1, by omega, rfl, rfl, fin _ (by unfold chM; rw [if_neg d, if_pos c1])⟩
        · rw [if_neg c1, e293, ob_s]
          by_cases c2 : thT S (nJ i) y = true
          · rw [if_pos c2, ck_t ib, sbn_e, add]
            exact Or.inl ⟨_, m - 1, by omega, rfl, i + 1, by omega, rfl, rfl, fin _ (by unfold chM; rw [if_neg d, if_neg c1, if_pos c2])⟩
          · rw [if_neg c2, e294, ob_s]
            by_cases c3 : thV S (nJ i) y = true
            · rw [if_pos c3, ck_t ib, sbn_e, add]
              exact Or.inl ⟨_, m - 1, by omega, rfl, i + 1, by omega, rfl, rfl, fin _ (by unfold chM; rw [if_neg d, if_neg c1, if_neg c2, if_pos c3])⟩
            · rw [if_neg c3, ck_t ib, sbn_e, add]
              refine Or.inl ⟨_, m - 1, by omega, rfl, i + 1, by omega, rfl, rfl, fin _ ?_⟩
              unfold chM
              rw [if_neg d, if_neg c1, if_neg c2, if_neg c3]
              rcases at_2 hL (nJ i) y with ⟨e, -⟩ | ⟨p, p1, p2, -⟩
              · exact absurd e d
              · rw [p2, nJ_ix (by omega)]
                have ee : F_217 V (nJ p) = bz V p := has_t _ (by omega)
                rw [ee]
    · have : i = 16 := by omega
      subst this
      rw [if_neg (show ¬ nJ 16 < 16 by decide)]
      exact Or.inr ⟨_, rfl, rfl, f1, w⟩
  obtain ⟨⟨a, z, S'⟩, e, rfl, f, w⟩ := key
  exact ⟨z, S', e, f, w⟩
end Dm
