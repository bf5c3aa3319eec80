/-! rows that agree in the polygon; rows stored and fetched -/
/-- two rows have the same polygon -/
def Pe (ρ ρ' : Nat → Int32) : Prop := ∀ j, j < 27 → j ≠ 1 → j ≠ 2 → ρ' j = ρ j
section Pe
variable {S S' : ST} {h h' : Nat}
theorem Pe_N (e : Pe (S.1 h) (S'.1 h')) : rN S' h' = rN S h := by unfold rN; rw [e 0 (by omega) (by omega) (by omega)]
theorem Pe_W (e : Pe (S.1 h) (S'.1 h')) (hW : RW S h) : RW S' h' := by
  unfold RW
  rw [Pe_N e, e 0 (by omega) (by omega) (by omega)]
  exact hW
theorem Pe_B (e : Pe (S.1 h) (S'.1 h')) (hB : RB S h) : RB S' h' := fun j h1 h2 => by
  rw [e j h2 (by omega) (by omega)]
  exact hB j h1 h2
theorem Pe_P (e : Pe (S.1 h) (S'.1 h')) {i : Nat} (hi : i < 12) : rP S' h' i = rP S h i := by
  unfold rP
  rw [e (3 + i) (by omega) (by omega) (by omega), e (15 + i) (by omega) (by omega) (by omega)]
theorem Pe_L (e : Pe (S.1 h) (S'.1 h')) (hW : RW S h) : rL S' h' = rL S h := by
  have h12 := hW.2
  unfold rL ge_pl
  rw [Pe_N e]
  apply List.map_congr_left
  intro i hi
  exact Pe_P e (by have := List.mem_range.mp hi; omega)
theorem inp_t2 {t : Nat} (hW : RW S h) (hB : RB S h) (ht : t < 256) : inp S h t = true ↔ ge_cl 1 (rL S h) (lxy t) := by
  have a := li_t (x := t % 16) (by omega)
  have b := li_t (x := t / 16) (by omega)
  have := isIn_t (S := S) (h := h) (m := 1) (x := li (t % 16)) (y := li (t / 16)) hW hB (by decide) (by decide) (by unfold bd; rw [a]; omega) (by unfold bd; rw [b]; omega)
  unfold inp
  rw [this, one_t]
  unfold lP
  rw [a, b]
  rfl
theorem Pe_I (e : Pe (S.1 h) (S'.1 h')) (hW : RW S h) (hB : RB S h) {t : Nat} (ht : t < 256) : inp S' h' t = inp S h t := by
  have a := inp_t2 hW hB ht
  have b := inp_t2 (Pe_W e hW) (Pe_B e hB) ht
  rw [Pe_L e hW, ← a] at b
  cases h1 : inp S' h' t <;> cases h2 : inp S h t <;> simp_all
theorem Pe_G (e : Pe (S.1 h) (S'.1 h')) (g : GR S h) : GR S' h' := by
  have h12 := g.1.2
  refine ⟨Pe_W e g.1, by rw [Pe_N e]; exact g.2.1, Pe_B e g.2.2.1, ?_, ?_⟩
  · rw [Pe_N e]
    have P : ∀ {i}, i < rN S h → rP S' h' i = rP S h i := fun hi => Pe_P e (by omega)
    refine ⟨fun i hi => ?_, fun i k h1 h2 h3 => ?_⟩
    · rw [P hi, P (ge_aft_lt hi), P (ge_aft_lt (ge_aft_lt hi))]
      exact g.2.2.2.1.1 i hi
    · rw [P (show i < rN S h by omega), P (ge_aft_lt (show i < rN S h by omega)), P h2, P (ge_aft_lt h2)]
      exact g.2.2.2.1.2 i k h1 h2 h3
  · rw [rk_cong (fun s hs => Pe_I e g.1 g.2.2.1 hs)]
    exact g.2.2.2.2
theorem Pe_rk (e : Pe (S.1 h) (S'.1 h')) (g : GR S h) {t : Nat} (ht : t ≤ 256) : rk (inp S' h') t = rk (inp S h) t := rk_cong (fun s hs => Pe_I e g.1 g.2.2.1 (by omega))
end Pe
/-- the same points and the same sight -/
def Ge (S S' : ST) : Prop := Pe (S.1 141) (S'.1 141) ∧ S'.1 147 = S.1 147 ∧ S'.1 148 = S.1 148 ∧ S'.1 149 = S.1 149 ∧ S'.1 140 20 = S.1 140 20 ∧ S'.2 153 = S.2 153
theorem Ge_L {S S' : ST} (h : Ge S S') (hL : Ld S) : Ld S' ∧ rL S' 141 = rL S 141 ∧ nP S' = nP S ∧ (∀ p, pt S' p = pt S p) ∧ (Sv S → Sv S') := by
  obtain ⟨e, e7, e8, e9, e20, e3⟩ := h
  have g := hL.1
  have eL := Pe_L e g.1
  have en : nP S' = nP S := Pe_rk e g (Nat.le_refl _)
  have ep : ∀ p, pt S' p = pt S p := fun p => by unfold pt; rw [e7, e8]
  refine ⟨⟨Pe_G e g, ?_, fun t ht => ?_, Fm.rf⟩, eL, en, ep, fun hS p hp => ?_⟩
  · rw [e20, Pe_rk e g (Nat.le_refl _)]
    exact hL.2.1
  · rw [Pe_I e g.1 g.2.2.1 ht, Pe_rk e g (by omega), e7, e8, e9]
    exact hL.2.2.1 t ht
  · rw [en] at hp
    obtain ⟨a, b, c⟩ := hS p hp
    rw [e3, en, eL]
    exact ⟨a, b, fun q hq => by rw [ep, ep]; exact c q hq⟩
/-- rows equal in their 63 places -/
theorem Th_c {S S' : ST} {h h' : Nat} (e : ∀ j, j < 63 → S'.1 h' j = S.1 h j) (hW : RW S h) (g : Th S h) : Th S' h' := by
  have eL := Pe_L (S := S) (S' := S') (h := h) (h' := h') (fun j hj _ _ => e j (by omega)) hW
  obtain ⟨⟨G, g1, g2, g3⟩, T, t1, t2, t3⟩ := g
  refine ⟨⟨G, by rw [e 1 (by omega)]; exact g1, g2, fun k hk => ?_⟩, T, by rw [e 2 (by omega)]; exact t1, t2, fun k hk => ?_⟩
  · rw [eL, e _ (by omega), e _ (by omega)]; exact g3 k hk
  · rw [eL, e _ (by omega), e _ (by omega)]; exact t3 k hk
theorem GTh_c {S S' : ST} {h h' : Nat} (e : ∀ j, j < 63 → S'.1 h' j = S.1 h j) (g : GTh S h) : GTh S' h' := ⟨Pe_G (fun j hj _ _ => e j (by omega)) g.1, Th_c e g.1.1 g.2⟩
theorem ix63 {k j : Nat} (hk : k < 1000) (hj : j < 1000) : (63 * nJ k) + nJ j = nJ (63 * k + j) := by
  show (nJ 63 * nJ k) + nJ j = _
  rw [nJ_mul, nJ_add]
theorem mm_297 : mtG 297 = some (mi_297, 12, ft_297) := rfl
theorem b_297_0 {d c : Nat} {R : RT} {S : ST} {v1 : Int32} (e1 : Go XM d 297 c 2 [some (.ref 140), some (.int v1), some (.int 0)] [] S R) : Go XM d 297 c 0 [some (.ref 140), some (.int v1), none] [] S R := by
  refine go_run mm_297 2 (pc' := 2) (ls' := [some (.ref 140), some (.int v1), some (.int 0)]) (st' := []) (S' := S) rfl ?_
  exact e1
theorem b_297_2 {d c : Nat} {R : RT} {S : ST} {v1 : Int32} {v2 : Int32} (o1 : v2 < 63 → inB v2 63) (o2 : v2 < 63 → inB ((63 * v1) + v2) 693) (e1 : v2 < 63 → Go XM d 297 c 2 [some (.ref 140), some (.int v1), some (.int (v2 + 1))] [] (wI S 142 (Int32.toNatClampNeg ((63 * v1) + v2)) (ra S 141 v2)) R) (e2 : ¬ v2 < 63 → R c (.inr none) S) : Go XM d 297 c 2 [some (.ref 140), some (.int v1), some (.int v2)] [] S R := by
  refine go_run mm_297 2 (pc' := 5) (ls' := [some (.ref 140), some (.int v1), some (.int v2)]) (st' := [.int 63, .int v2]) (S' := S) rfl ?_
  refine go_if2 mm_297 rfl (p1 := 8) (p2 := 31) rfl (fun (hc1 : v2 < 63) => ?_) (fun (hc1 : ¬ v2 < 63) => ?_)
  · refine go_run mm_297 10 (pc' := 23) (ls' := [some (.ref 140), some (.int v1), some (.int v2)]) (st' := [.int v2, .ref 141, .int ((63 * v1) + v2), .ref 142]) (S' := S) rfl ?_
    refine go_iaload mm_297 (q := (Int32.toNatClampNeg v2)) rfl rfl rfl (o1 hc1) ?_
    refine go_iastore mm_297 (q := (Int32.toNatClampNeg ((63 * v1) + v2))) rfl rfl rfl (o2 hc1) ?_
    refine go_run mm_297 2 (pc' := 2) (ls' := [some (.ref 140), some (.int v1), some (.int (v2 + 1))]) (st' := []) (S' := (wI S 142 (Int32.toNatClampNeg ((63 * v1) + v2)) (ra S 141 v2))) rfl ?_
    exact e1 hc1
  · exact go_vreturn mm_297 rfl rfl (e2 hc1)
theorem sq_297 {d : Nat} {S : ST} {k : Nat} (hk : k ≤ 10) : Cal XM d 297 [.ref 140, .int (nJ k)] S (RP (fun v S' => v = none ∧ Fm [142] [] S S' ∧ ∀ j, S'.1 142 j = if 63 * k ≤ j ∧ j < 63 * k + 63 then S.1 141 (j - 63 * k) else S.1 142 j)) := by
  refine cal_go 1 rfl (b_297_0 ?_)
  have key : ∀ m i S1, i + m = 63 → Fm [142] [] S S1 → (∀ j, S1.1 142 j = if 63 * k ≤ j ∧ j < 63 * k + i then S.1 141 (j - 63 * k) else S.1 142 j) → Go XM d 297 0 2 [some (.ref 140), some (.int (nJ k)), some (.int (nJ i))] [] S1 (RP (fun v S' => v = none ∧ Fm [142] [] S S' ∧ ∀ j, S'.1 142 j = if 63 * k ≤ j ∧ j < 63 * k + 63 then S.1 141 (j - 63 * k) else S.1 142 j)) := by
    intro m
    induction m with
    | zero =>
      intro i S1 hi hF hv
      have hi : i = 63 := by omega
      subst hi
      exact b_297_2 (fun q => absurd q (by decide)) (fun q => absurd q (by decide)) (fun q => absurd q (by decide)) (fun _ => ⟨rfl, _, rfl, rfl, hF, hv⟩)
    | succ m ih =>
      intro i S1 hi hF hv
      have hlt : nJ i < 63 := (nJ_lt (j := 63) (by omega) (by omega)).mpr (by omega)
      refine b_297_2 (fun _ => nJ_inB (by omega) (by omega)) (fun _ => ?_) (fun _ => ?_) (fun q => absurd hlt q)
      · rw [ix63 (by omega) (by omega)]; exact nJ_inB (by omega) (by omega)
      · rw [nJ_succ, ix63 (by omega) (by omega), nJ_ix (by omega), ra_n S1 141 (by omega)]
        have e1 := hF.row (a := 141) (by decide) (by decide)
        refine ih (i + 1) _ (by omega) (hF.tr (Fm_a (by decide))) (fun j => ?_)
        rw [wI_1, e1]
        by_cases q : j = 63 * k + i
        · subst q
          rw [if_pos ⟨rfl, rfl⟩, if_pos (by omega), show 63 * k + i - 63 * k = i by omega]
        · rw [if_neg (fun z => q z.2), hv j]
          by_cases q2 : 63 * k ≤ j ∧ j < 63 * k + i
          · rw [if_pos q2, if_pos (by omega)]
          · rw [if_neg q2, if_neg (by omega)]
  exact key 63 0 S (by omega) Fm.rf (fun j => by rw [if_neg (by omega)])
theorem sto_0 (S : ST) (k j : Nat) : (sto S k).1 0 j = S.1 142 (63 * k + j) := rfl
theorem mm_298 : mtG 298 = some (mi_298, 12, ft_298) := rfl
theorem b_298_0 {d c : Nat} {R : RT} {S : ST} {v1 : Int32} (e1 : Go XM (d + 6) 298 c 2 [some (.ref 140), some (.int v1), some (.int 0)] [] S R) : Go XM (d + 6) 298 c 0 [some (.ref 140), some (.int v1), none] [] S R := by
  refine go_run mm_298 2 (pc' := 2) (ls' := [some (.ref 140), some (.int v1), some (.int 0)]) (st' := []) (S' := S) rfl ?_
  exact e1
theorem b_298_2 {d c : Nat} {R : RT} {S : ST} {v1 : Int32} {v2 : Int32} (o1 : v2 < 63 → inB ((63 * v1) + v2) 693) (o2 : v2 < 63 → inB v2 63) (o3 : ¬ v2 < 63 → RW (wI S 140 27 0) 141) (o4 : ¬ v2 < 63 → rk (inp (wI S 140 27 0) 141) 256 ≤ 64) (e1 : v2 < 63 → Go XM (d + 6) 298 c 2 [some (.ref 140), some (.int v1), some (.int (v2 + 1))] [] (wI S 141 (Int32.toNatClampNeg v2) (ra S 142 ((63 * v1) + v2))) R) (e2 : ¬ v2 < 63 → R c (.inr none) (g_214 (wI S 140 27 0))) : Go XM (d + 6) 298 c 2 [some (.ref 140), some (.int v1), some (.int v2)] [] S R := by
  refine go_run mm_298 2 (pc' := 5) (ls' := [some (.ref 140), some (.int v1), some (.int v2)]) (st' := [.int 63, .int v2]) (S' := S) rfl ?_
  refine go_if2 mm_298 rfl (p1 := 8) (p2 := 31) rfl (fun (hc1 : v2 < 63) => ?_) (fun (hc1 : ¬ v2 < 63) => ?_)
  · refine go_run mm_298 10 (pc' := 23) (ls' := [some (.ref 140), some (.int v1), some (.int v2)]) (st' := [.int ((63 * v1) + v2), .ref 142, .int v2, .ref 141]) (S' := S) rfl ?_
    refine go_iaload mm_298 (q := (Int32.toNatClampNeg ((63 * v1) + v2))) rfl rfl rfl (o1 hc1) ?_
    refine go_iastore mm_298 (q := (Int32.toNatClampNeg v2)) rfl rfl rfl (o2 hc1) ?_
    refine go_run mm_298 2 (pc' := 2) (ls' := [some (.ref 140), some (.int v1), some (.int (v2 + 1))]) (st' := []) (S' := (wI S 141 (Int32.toNatClampNeg v2) (ra S 142 ((63 * v1) + v2)))) rfl ?_
    exact e1 hc1
  · refine go_run mm_298 4 (pc' := 37) (ls' := [some (.ref 140), some (.int v1), some (.int v2)]) (st' := [.ref 140]) (S' := (wI S 140 27 0)) rfl ?_
    refine go_cv mm_298 (h := 140) (As := []) (rest := []) (nl := 4) rfl XM_140 (show cvOK 298 37 198 214 0 4 11 = true by decide +kernel) rfl rfl rfl (sq_214 (o3 hc1) (o4 hc1)) (KP_V ?_)
    exact go_vreturn mm_298 rfl rfl (e2 hc1)
theorem mm_299 : mtG 299 = some (mi_299, 12, ft_299) := rfl
theorem b_299_0 {d c : Nat} {R : RT} {S : ST} (e1 : (S.1 140 4) = 8 → Go XM (d + 1) 299 c 12 [some (.ref 140), some (.int 63)] [] S R) (e2 : ¬ (S.1 140 4) = 8 → Go XM (d + 1) 299 c 57 [some (.ref 140), none] [.int (1 + (S.1 140 4)), .ref 140] S R) : Go XM (d + 1) 299 c 0 [some (.ref 140), none] [] S R := by
  refine go_run mm_299 3 (pc' := 6) (ls' := [some (.ref 140), none]) (st' := [.int 8, .int (S.1 140 4)]) (S' := S) rfl ?_
  refine go_if2 mm_299 rfl (p1 := 9) (p2 := 50) rfl (fun (hc1 : (S.1 140 4) = 8) => ?_) (fun (hc1 : ¬ (S.1 140 4) = 8) => ?_)
  · refine go_run mm_299 2 (pc' := 12) (ls' := [some (.ref 140), some (.int 63)]) (st' := []) (S' := S) rfl ?_
    exact e1 hc1
  · refine go_run mm_299 5 (pc' := 57) (ls' := [some (.ref 140), none]) (st' := [.int (1 + (S.1 140 4)), .ref 140]) (S' := S) rfl ?_
    exact e2 hc1
theorem b_299_12 {d c : Nat} {R : RT} {S : ST} {v1 : Int32} (o1 : v1 < 504 → inB (v1 + 63) 693) (o2 : v1 < 504 → inB v1 693) (e1 : v1 < 504 → Go XM (d + 1) 299 c 12 [some (.ref 140), some (.int (v1 + 1))] [] (wI S 142 (Int32.toNatClampNeg v1) (ra S 142 (v1 + 63))) R) (e2 : ¬ v1 < 504 → Go XM (d + 1) 299 c 57 [some (.ref 140), some (.int v1)] [.int (1 + ((S.1 140 4) - 1)), .ref 140] (wI S 140 4 ((S.1 140 4) - 1)) R) : Go XM (d + 1) 299 c 12 [some (.ref 140), some (.int v1)] [] S R := by
  refine go_run mm_299 2 (pc' := 16) (ls' := [some (.ref 140), some (.int v1)]) (st' := [.int 504, .int v1]) (S' := S) rfl ?_
  refine go_if2 mm_299 rfl (p1 := 19) (p2 := 40) rfl (fun (hc1 : v1 < 504) => ?_) (fun (hc1 : ¬ v1 < 504) => ?_)
  · refine go_run mm_299 8 (pc' := 32) (ls' := [some (.ref 140), some (.int v1)]) (st' := [.int (v1 + 63), .ref 142, .int v1, .ref 142]) (S' := S) rfl ?_
    refine go_iaload mm_299 (q := (Int32.toNatClampNeg (v1 + 63))) rfl rfl rfl (o1 hc1) ?_
    refine go_iastore mm_299 (q := (Int32.toNatClampNeg v1)) rfl rfl rfl (o2 hc1) ?_
    refine go_run mm_299 2 (pc' := 12) (ls' := [some (.ref 140), some (.int (v1 + 1))]) (st' := []) (S' := (wI S 142 (Int32.toNatClampNeg v1) (ra S 142 (v1 + 63)))) rfl ?_
    exact e1 hc1
  · refine go_run mm_299 11 (pc' := 57) (ls' := [some (.ref 140), some (.int v1)]) (st' := [.int (1 + ((S.1 140 4) - 1)), .ref 140]) (S' := (wI S 140 4 ((S.1 140 4) - 1))) rfl ?_
    exact e2 hc1
theorem b_299_60 {d c : Nat} {R : RT} {S : ST} (e1 : R c (.inr none) (wI S 140 4 ((S.1 140 4) + 1))) : Go XM (d + 1) 299 c 60 [some (.ref 140), none] [] S R := by
  refine go_run mm_299 6 (pc' := 70) (ls' := [some (.ref 140), none]) (st' := []) (S' := (wI S 140 4 ((S.1 140 4) + 1))) rfl ?_
  exact go_vreturn mm_299 rfl rfl (e1)
theorem mm_305 : mtG 305 = some (mi_305, 12, ft_305) := rfl
theorem b_305_0 {d c : Nat} {R : RT} {S : ST} (e1 : Go XM d 305 c 2 [some (.ref 140), some (.int 0)] [] S R) : Go XM d 305 c 0 [some (.ref 140), none] [] S R := by
  refine go_run mm_305 2 (pc' := 2) (ls' := [some (.ref 140), some (.int 0)]) (st' := []) (S' := S) rfl ?_
  exact e1
theorem b_305_2 {d c : Nat} {R : RT} {S : ST} {v1 : Int32} (o1 : v1 < 63 → inB v1 63) (e1 : v1 < 63 → Go XM d 305 c 2 [some (.ref 140), some (.int (v1 + 1))] [] (wI S 146 (Int32.toNatClampNeg v1) (ra S 141 v1)) R) (e2 : ¬ v1 < 63 → R c (.inr none) S) : Go XM d 305 c 2 [some (.ref 140), some (.int v1)] [] S R := by
  refine go_run mm_305 2 (pc' := 5) (ls' := [some (.ref 140), some (.int v1)]) (st' := [.int 63, .int v1]) (S' := S) rfl ?_
  refine go_if2 mm_305 rfl (p1 := 8) (p2 := 26) rfl (fun (hc1 : v1 < 63) => ?_) (fun (hc1 : ¬ v1 < 63) => ?_)
  · refine go_run mm_305 6 (pc' := 18) (ls' := [some (.ref 140), some (.int v1)]) (st' := [.int v1, .ref 141, .int v1, .ref 146]) (S' := S) rfl ?_
    refine go_iaload mm_305 (q := (Int32.toNatClampNeg v1)) rfl rfl rfl (o1 hc1) ?_
    refine go_iastore mm_305 (q := (Int32.toNatClampNeg v1)) rfl rfl rfl (o1 hc1) ?_
    refine go_run mm_305 2 (pc' := 2) (ls' := [some (.ref 140), some (.int (v1 + 1))]) (st' := []) (S' := (wI S 146 (Int32.toNatClampNeg v1) (ra S 141 v1))) rfl ?_
    exact e1 hc1
  · exact go_vreturn mm_305 rfl rfl (e2 hc1)
theorem sq_298 {d : Nat} {S : ST} {k : Nat} (hk : k ≤ 10) (g : GTh (sto S k) 0) : Cal XM (d + 6) 298 [.ref 140, .int (nJ k)] S (RP (fun v S' => v = none ∧ Fm [141, 147, 148, 149] [20, 27] S S' ∧ S'.1 140 27 = 0 ∧ Ld S' ∧ Th S' 141)) := by
  refine cal_go 1 rfl (b_298_0 ?_)
  have key : ∀ m i S1, i + m = 63 → Fm [141] [] S S1 → (∀ j, j < i → S1.1 141 j = S.1 142 (63 * k + j)) → Go XM (d + 6) 298 0 2 [some (.ref 140), some (.int (nJ k)), some (.int (nJ i))] [] S1 (RP (fun v S' => v = none ∧ Fm [141, 147, 148, 149] [20, 27] S S' ∧ S'.1 140 27 = 0 ∧ Ld S' ∧ Th S' 141)) := by
    intro m
    induction m with
    | zero =>
      intro i S1 hi hF hv
      have hi : i = 63 := by omega
      subst hi
      have g1 : GTh (wI S1 140 27 0) 141 := GTh_c (S := sto S k) (h := 0) (fun j hj => hv j hj) g
      refine b_298_2 (fun q => absurd q (by decide)) (fun q => absurd q (by decide)) (fun _ => g1.1.1) (fun _ => g1.1.2.2.2.2) (fun q => absurd q (by decide)) (fun _ => ⟨rfl, _, rfl, rfl, ?_⟩)
      have hl := g214_ld (S := wI S1 140 27 0) g1.1.2.2.2.2
      generalize g_214 (wI S1 140 27 0) = S2 at *
      have hF2 := hl.2.2
      have e1 := hF2.row (a := 141) (by decide) (by decide)
      have hF3 : Fm [141, 147, 148, 149] [20, 27] S S2 := ((hF.wk (by decide) (by decide)).tr (Fm_f (by decide))).tr (hF2.wk (by decide) (by decide))
      refine ⟨hF3, ?_, ⟨GR_r2 e1 g1.1, ?_, ?_, Fm.rf⟩, Th_r2 e1 g1.2⟩
      · rw [hF2.fld (by decide) (by decide)]; rfl
      · rw [inp_r2 e1]; exact hl.1
      · rw [inp_r2 e1]; exact hl.2.1
    | succ m ih =>
      intro i S1 hi hF hv
      have hlt : nJ i < 63 := (nJ_lt (j := 63) (by omega) (by omega)).mpr (by omega)
      refine b_298_2 (fun _ => ?_) (fun _ => nJ_inB (by omega) (by omega)) (fun q => absurd hlt q) (fun q => absurd hlt q) (fun _ => ?_) (fun q => absurd hlt q)
      · rw [ix63 (by omega) (by omega)]; exact nJ_inB (by omega) (by omega)
      · rw [nJ_succ, ix63 (by omega) (by omega), nJ_ix (by omega), ra_n S1 142 (by omega), hF.row (a := 142) (by decide) (by decide)]
        refine ih (i + 1) _ (by omega) (hF.tr (Fm_a (by decide))) (fun j hj => ?_)
        by_cases q : j = i
        · subst q; rw [wI_1, if_pos ⟨rfl, rfl⟩]
        · rw [wI_1, if_neg (fun z => q z.2)]; exact hv j (by omega)
  exact key 63 0 S (by omega) Fm.rf (fun j hj => by omega)
/-- what keeps leaves: one more stored row; the kept rows stay -/
def PK (S S' : ST) : Prop := Fm [142] [4] S S' ∧ (∃ c, S'.1 140 4 = nJ c ∧ c ≤ 8 ∧ ∀ k, k < c → GTh (sto S' (1 + k)) 0) ∧ ∀ j, 567 ≤ j → S'.1 142 j = S.1 142 j
theorem sq_299 {d : Nat} {S : ST} (hc : ∃ c, S.1 140 4 = nJ c ∧ c ≤ 8 ∧ ∀ k, k < c → GTh (sto S (1 + k)) 0) (g : GTh S 141) : Cal XM (d + 1) 299 [.ref 140] S (RP (fun v S' => v = none ∧ PK S S')) := by
  obtain ⟨c, c1, c2, c3⟩ := hc
  -- the last part: the row is stored at 1 + c' and counted
  have fin : ∀ {S1 : ST} {c' : Nat}, c' ≤ 7 → S1.1 140 4 = nJ c' → Fm [142] [4] S S1 → (∀ k, k < c' → GTh (sto S1 (1 + k)) 0) → (∀ j, 567 ≤ j → S1.1 142 j = S.1 142 j) → ∀ ls : LSt, Go XM (d + 1) 299 0 57 (some (.ref 140) :: ls) [.int (1 + nJ c'), .ref 140] S1 (RP (fun v S' => v = none ∧ PK S S')) := by
    intro S1 c' hc' hf hF hst hk ls
    rw [show (1 : Int32) + nJ c' = nJ (1 + c') from nJ_add 1 c']
    refine go_cv mm_299 (h := 140) (As := [.int (nJ (1 + c'))]) (rest := []) (nl := 3) rfl XM_140 (show cvOK 299 57 382 297 1 3 11 = true by decide +kernel) rfl rfl rfl (sq_297 (d := d) (k := 1 + c') (by omega)) (KP_P (fun v S2 k2 => ?_))
    obtain ⟨rfl, hF2, hv⟩ := k2
    refine Go.le (ls' := [some (.ref 140), none]) (b_299_60 ?_) ?_
    · have e4 : S2.1 140 4 = nJ c' := by rw [hF2.fld (by decide) (by decide)]; exact hf
      rw [e4, nJ_succ]
      refine ⟨rfl, _, rfl, rfl, (hF.tr (hF2.wk (by decide) (by decide))).tr (Fm_f (by decide)), ⟨c' + 1, rfl, by omega, fun k hk' => ?_⟩, fun j hj => ?_⟩
      · have es : ∀ j, (sto (wI S2 140 4 (nJ (c' + 1))) (1 + k)).1 0 j = S2.1 142 (63 * (1 + k) + j) := fun j => rfl
        by_cases q : k = c'
        · subst q
          refine GTh_c (S := S) (h := 141) (fun j hj => ?_) g
          rw [es, hv, if_pos (by omega), hF.row (a := 141) (by decide) (by decide), show 63 * (1 + k) + j - 63 * (1 + k) = j by omega]
        · refine GTh_c (S := sto S1 (1 + k)) (h := 0) (fun j hj => ?_) (hst k (by omega))
          rw [es, hv, if_neg (by omega)]
          rfl
      · show S2.1 142 j = _
        rw [hv, if_neg (by omega)]
        exact hk j hj
    · cases ls with
      | nil => exact And.intro rfl True.intro
      | cons x ls => exact And.intro rfl True.intro
  refine cal_go 1 rfl (b_299_0 (fun h8 => ?_) (fun h8 => ?_))
  · have hc8 : c = 8 := by
      rw [c1] at h8
      exact (nJ_eq (j := 8) (by omega) (by omega)).mp h8
    subst hc8
    have key : ∀ m i S1, i + m = 504 → 63 ≤ i → Fm [142] [] S S1 → (∀ j, S1.1 142 j = if 63 ≤ j ∧ j < i then S.1 142 (j + 63) else S.1 142 j) → Go XM (d + 1) 299 0 12 [some (.ref 140), some (.int (nJ i))] [] S1 (RP (fun v S' => v = none ∧ PK S S')) := by
      intro m
      induction m with
      | zero =>
        intro i S1 hi h63 hF hv
        have hi : i = 504 := by omega
        subst hi
        refine b_299_12 (fun q => absurd q (by decide)) (fun q => absurd q (by decide)) (fun q => absurd q (by decide)) (fun _ => ?_)
        have e4 : S1.1 140 4 - 1 = nJ 7 := by rw [hF.fld (by decide) (by decide), c1]; rfl
        rw [e4]
        refine fin (S1 := wI S1 140 4 (nJ 7)) (c' := 7) (by omega) rfl ((hF.wk (by decide) (by decide)).tr (Fm_f (by decide))) (fun k hk => ?_) (fun j hj => ?_) _
        · refine GTh_c (S := sto S (1 + (k + 1))) (h := 0) (fun j hj => ?_) (c3 (k + 1) (by omega))
          show S1.1 142 (63 * (1 + k) + j) = S.1 142 (63 * (1 + (k + 1)) + j)
          rw [hv, if_pos (by omega), show 63 * (1 + k) + j + 63 = 63 * (1 + (k + 1)) + j by omega]
        · show S1.1 142 j = _
          rw [hv, if_neg (by omega)]
      | succ m ih =>
        intro i S1 hi h63 hF hv
        have hlt : nJ i < 504 := (nJ_lt (j := 504) (by omega) (by omega)).mpr (by omega)
        have ea : nJ i + 63 = nJ (i + 63) := nJ_add i 63
        refine b_299_12 (fun _ => by rw [ea]; exact nJ_inB (by omega) (by omega)) (fun _ => nJ_inB (by omega) (by omega)) (fun _ => ?_) (fun q => absurd hlt q)
        have e0 : S1.1 142 (i + 63) = S.1 142 (i + 63) := by rw [hv, if_neg (by omega)]
        rw [nJ_succ, ea, nJ_ix (by omega), ra_n S1 142 (by omega), e0]
        refine ih (i + 1) _ (by omega) (by omega) (hF.tr (Fm_a (by decide))) (fun j => ?_)
        rw [wI_1]
        by_cases q : j = i
        · subst q
          rw [if_pos ⟨rfl, rfl⟩, if_pos (by omega)]
        · rw [if_neg (fun z => q z.2), hv j]
          by_cases q2 : 63 ≤ j ∧ j < i
          · rw [if_pos q2, if_pos (by omega)]
          · rw [if_neg q2, if_neg (by omega)]
    exact key 441 63 S (by omega) (by omega) Fm.rf (fun j => by rw [if_neg (by omega)])
  · have hc8 : ¬ c = 8 := fun q => h8 (by rw [c1, q]; rfl)
    rw [c1]
    exact fin (S1 := S) (c' := c) (by omega) c1 Fm.rf c3 (fun j _ => rfl) _
/-- the invariant behind keeps -/
theorem MOK_K {S S' : ST} (M : MOK S) (h : PK S S') : MOK S' := by
  obtain ⟨hF, hc, hk⟩ := h
  obtain ⟨a1, a2, -, a4, a5, a6, a7⟩ := M
  refine ⟨by rw [hF.fld (by decide) (by decide)]; exact a1, fun h1 => ?_, hc, fun j hj h1 => ?_, fun h1 => ?_, by rw [hF.fld (by decide) (by decide)]; exact a6, by rw [hF.fld (by decide) (by decide)]; exact a7⟩
  · rw [hF.fld (by decide) (by decide)] at h1
    exact ⟨(Ld_fm (a2 h1).1 hF (by decide) (by decide) (by decide) (by decide) (by decide) (by decide)).1, Th_r2 (hF.row (by decide) (by decide)) (a2 h1).2⟩
  · rw [hF.row (a := 143) (by decide) (by decide)] at h1
    refine GTh_c (S := sto S (9 + j)) (h := 0) (fun i hi => ?_) (a4 j hj h1)
    show S'.1 142 (63 * (9 + j) + i) = S.1 142 (63 * (9 + j) + i)
    exact hk _ (by omega)
  · rw [hF.fld (by decide) (by decide)] at h1
    exact Sv_fm (a5 h1) hF (by decide) (by decide) (by decide) (by decide)
/-- a change: the invariant holds behind it, the buffer stays -/
def RC (S : ST) : RT := RP (fun v S' => (∃ x : Int32, v = some (.int x)) ∧ MOK S' ∧ S'.1 140 7 = S.1 140 7)
theorem RC_q {S S' : ST} (q : Qq S S') {x : Int32} : RC S 0 (.inr (some (.int x))) S' := ⟨rfl, _, rfl, ⟨_, rfl⟩, q.1, q.2.fld (by decide) (by decide)⟩
theorem sq_305 {d : Nat} {S : ST} : Cal XM d 305 [.ref 140] S (RP (fun v S' => v = none ∧ Fm [146] [] S S' ∧ ∀ j, j < 63 → S'.1 146 j = S.1 141 j)) := by
  refine cal_go 1 rfl (b_305_0 ?_)
  have key : ∀ m i S1, i + m = 63 → Fm [146] [] S S1 → (∀ j, j < i → S1.1 146 j = S.1 141 j) → Go XM d 305 0 2 [some (.ref 140), some (.int (nJ i))] [] S1 (RP (fun v S' => v = none ∧ Fm [146] [] S S' ∧ ∀ j, j < 63 → S'.1 146 j = S.1 141 j)) := by
    intro m
    induction m with
    | zero =>
      intro i S1 hi hF hv
      have hi : i = 63 := by omega
      subst hi
      exact b_305_2 (fun q => absurd q (by decide)) (fun q => absurd q (by decide)) (fun _ => ⟨rfl, _, rfl, rfl, hF, hv⟩)
    | succ m ih =>
      intro i S1 hi hF hv
      have hlt : nJ i < 63 := (nJ_lt (j := 63) (by omega) (by omega)).mpr (by omega)
      refine b_305_2 (fun _ => nJ_inB (by omega) (by omega)) (fun _ => ?_) (fun q => absurd hlt q)
      rw [nJ_succ, nJ_ix (by omega), ra_n S1 141 (by omega), hF.row (a := 141) (by decide) (by decide)]
      refine ih (i + 1) _ (by omega) (hF.tr (Fm_a (by decide))) (fun j hj => ?_)
      by_cases q : j = i
      · subst q; rw [wI_1, if_pos ⟨rfl, rfl⟩]
      · rw [wI_1, if_neg (fun z => q z.2)]; exact hv j (by omega)
  exact key 63 0 S (by omega) Fm.rf (fun j hj => by omega)
