/-! calls that are caught, what a call of the law's own methods answers; two contracts of one call; steps of the law's body -/
section Hd
variable {X : XT} {d k c pc : Nat} {ls : LSt} {st : List Value} {S : ST} {R R' : RT} {M : MI} {o : Nat} {cd : List (Nat × Instr)} {i : Instr}
/-- what a called method's end leaves to do, where what it throws is caught -/
def KH (X : XT) (d k c pc : Nat) (ls : LSt) (rest : List Value) (R' R : RT) : Prop := ∀ c2 o S', R' c2 o S' → (∃ v, o = .inr v ∧ Go X d k (c + c2) (pc + 3) ls (psh v rest) S' R) ∨ ∃ E hp j, o = .inl E ∧ tbH G0 k pc E = some (hp, j) ∧ Go X d k (c + c2) hp [] [] S' R
theorem go_evH {k' kd : Nat} {av rest : List Value} (hm : mtG k = some (M, o, cd)) (hh : M.2.2.2.2 ≠ []) (hkd : ¬ 2 ≤ kd) (hi : lkp cd pc = some i) (hv : (∃ ix, i = .invokestatic ix) ∨ ∃ ix, i = .invokevirtual ix) (hn : nX k pc = true) (ht : tbT G0 k pc = none) (hc : ∀ σ, HV X S σ → cal G0 k i st σ = some (k', kd, av, rest)) (hcal : Cal X d k' av S R') (hk : KH X (d + 1) k c pc ls rest R' R) : Go X (d + 1) k c pc ls st S R := by
  intro lv σ hl hV
  obtain ⟨f1, c1, o1, S1, σ1, e1, q1, q2, q3⟩ := hcal σ hV
  rcases hk _ _ _ q3 with ⟨v, rfl, hg⟩ | ⟨E, hp, j, rfl, hH, hg⟩
  · obtain ⟨f2, c2, o2, S2, σ2, e2, p1, p2, p3⟩ := hg lv σ1 hl q1
    refine ⟨max f1 f2 + 1, c2, o2, S2, σ2, ?_, p1, q2.tr p2, p3⟩
    rw [ev_cal (nX_G hn _) (mt_M hm) (mt_F hm hi) (sim_inv hv) (rtn_inv hv _) ht (hc σ hV) (G0_up f1 (max f1 f2) d d _ _ _ _ _ _ _ (Nat.le_max_left _ _) (Nat.le_refl _) e1)]
    exact G0_up f2 (max f1 f2) _ _ _ _ _ _ _ _ _ (Nat.le_max_right _ _) (Nat.le_refl _) e2
  · obtain ⟨f2, c2, o2, S2, σ2, e2, p1, p2, p3⟩ := hg (lD j lv) σ1 (fun i v h => by cases h) q1
    refine ⟨max f1 f2 + 1, c2, o2, S2, σ2, ?_, p1, q2.tr p2, p3⟩
    rw [ev_calH (nX_G hn _) (mt_M hm) (mt_F hm hi) (sim_inv hv) (rtn_inv hv _) ht (hc σ hV) hkd hh (G0_up f1 (max f1 f2) d d _ _ _ _ _ _ _ (Nat.le_max_left _ _) (Nat.le_refl _) e1) hH]
    exact G0_up f2 (max f1 f2) _ _ _ _ _ _ _ _ _ (Nat.le_max_right _ _) (Nat.le_refl _) e2
theorem go_cvH {ix k' nl h : Nat} {oo : Nat × List FT} {As rest : List Value} (hm : mtG k = some (M, o, cd)) (hh : M.2.2.2.2 ≠ []) (hi : lkp cd pc = some (.invokevirtual ix)) (hX : X h = some (.inl oo)) (hc : cvOK k pc ix k' As.length nl oo.1 = true) (hst : st = (Value.ref h :: As).reverse ++ rest) (h8 : Nat.ble (cats rest) 8 = true) (hnl : Nat.ble (cats (.ref h :: As)) nl = true) (hcal : Cal X d k' (.ref h :: As) S R') (hk : KH X (d + 1) k c pc ls rest R' R) : Go X (d + 1) k c pc ls st S R := by
  simp only [cvOK, Bool.and_eq_true] at hc
  obtain ⟨h1, h2, h3, h4⟩ := hc
  split at h1
  · next k1 na1 ci1 hC =>
    simp only [Bool.and_eq_true, beq_iff_eq] at h1
    obtain ⟨rfl, rfl, rfl⟩ := h1
    split at h2
    · next M' hM =>
      refine go_evH hm hh (kd := 0) (by omega) hi (Or.inr ⟨ix, rfl⟩) h3 (isNone_eq h4) (fun σ hV => ?_) hcal hk
      have hC' : tbC G0 k ix = some (k1, 0, As.length, oo.1) := hC
      have hM' : tbM G0 k1 = some M' := hM
      obtain ⟨t1, t2⟩ := rev_take hst
      have t1 : st.take (As.length + 1) = (Value.ref h :: As).reverse := t1
      have t2 : st.drop (As.length + 1) = rest := t2
      simp only [cal, hC', hM']
      rw [t1, t2, List.reverse_reverse]
      simp only [hV _ _ hX, cellS]
      rw [if_pos ⟨trivial, trivial, Nat.le_of_ble_eq_true h8, Nat.le_trans (Nat.le_of_ble_eq_true hnl) (Nat.le_of_ble_eq_true h2)⟩]
    · cases h2
  · cases h1
/-- what the law's own methods answer: 0 and the answer at out's place, or the number of what is thrown -/
def RWr {α : Type} (f : α → Int64) (rm : α) (t : Int32) (S1 : ST) : RT := fun c o S' => c ≤ 1 ∧ o = .inr (some (.int t)) ∧ ((t = 0 ∧ S' = wL S1 162 0 (f rm)) ∨ (¬ t = 0 ∧ S' = S1))
def bLo (b : Bool) : Int64 := match b with
  | true => 1
  | false => 0
theorem XC_out : XC 162 = some (.inr (2, 1)) := rfl
theorem XC_0 : XC 0 = some (.inl (10, [.inr 1, .inr 29, .inr 3, .inr 12, .inr 21, .inr 25, .inr 30, .inr 32, .inr 39, .inr 43, .inr 46, .inr 47, .inr 121, .inr 130, .inr 139, .inl false, .inl false, .inl false])) := rfl
theorem in01 : inB 0 1 := by unfold inB; decide
/-- two contracts of one call -/
theorem cal_det {d' : Nat} {av : List Value} {R1 R2 : RT} {σ : SG} (h1 : Cal X d k av S R1) (h2 : Cal X d' k av S R2) (hV : HV X S σ) : ∃ f c o S1 S2 σ', ev G0 f (max d d') k 0 (lv_args 0 av) [] 0 σ = some (c, o, σ') ∧ HV X S1 σ' ∧ HV X S2 σ' ∧ Out X σ σ' ∧ R1 c o S1 ∧ R2 c o S2 := by
  obtain ⟨f1, c1, o1, S1, σ1, e1, q1, q2, q3⟩ := h1 σ hV
  obtain ⟨f2, c2, o2, S2, σ2, e2, p1, p2, p3⟩ := h2 σ hV
  have a := G0_up f1 (max f1 f2) d (max d d') _ _ _ _ _ _ _ (Nat.le_max_left _ _) (Nat.le_max_left _ _) e1
  have b := G0_up f2 (max f1 f2) d' (max d d') _ _ _ _ _ _ _ (Nat.le_max_right _ _) (Nat.le_max_right _ _) e2
  cases a.symm.trans b
  exact ⟨_, _, _, S1, S2, _, a, q1, p1, q2, q3, p3⟩
end Hd
/-! what a heap says of its picture -/
section Ag
variable {X : XT} {S S' : ST} {σ : SG} {a k n : Nat}
theorem HV_i0 (h : HV X S σ) (h' : HV X S' σ) (hX : X a = some (.inr (0, n))) : S'.1 a = S.1 a := by
  have e := (h a _ hX).symm.trans (h' a _ hX)
  simp only [cellS, Option.some.injEq, Sum.inl.injEq, Prod.mk.injEq, true_and] at e
  exact e.symm
theorem HV_i1 (h : HV X S σ) (h' : HV X S' σ) (hX : X a = some (.inr (1, n))) : S'.1 a = S.1 a := by
  have e := (h a _ hX).symm.trans (h' a _ hX)
  simp only [cellS, Option.some.injEq, Sum.inl.injEq, Prod.mk.injEq, true_and] at e
  exact e.symm
theorem HV_l (h : HV X S σ) (h' : HV X S' σ) (hX : X a = some (.inr (2, n))) : S'.2 a = S.2 a := by
  have e := (h a _ hX).symm.trans (h' a _ hX)
  simp only [cellS, Option.some.injEq, Sum.inl.injEq, Sum.inr.injEq, Prod.mk.injEq, true_and] at e
  exact e.symm
theorem HV_f {o : Nat × List FT} (h : HV X S σ) (h' : HV X S' σ) (hX : X a = some (.inl o)) (hk : o.2[k]? = some (.inl false)) : S'.1 a k = S.1 a k := by
  have e := (h a _ hX).symm.trans (h' a _ hX)
  simp only [cellS, Option.some.injEq, Sum.inr.injEq, Prod.mk.injEq, true_and] at e
  have e2 := congrArg (fun l : List Value => l[k]?) e
  simp only [List.getElem?_mapIdx, hk, Option.map_some, fV, Option.some.injEq, Value.int.injEq] at e2
  exact e2.symm
theorem Ld_cg (h : Ld S) (e1 : S'.1 141 = S.1 141) (e20 : S'.1 140 20 = S.1 140 20) (e7 : S'.1 147 = S.1 147) (e8 : S'.1 148 = S.1 148) (e9 : S'.1 149 = S.1 149) : Ld S' := by
  obtain ⟨g, a, b, -⟩ := h
  refine ⟨GR_r2 e1 g, ?_, ?_, Fm.rf⟩
  · show S'.1 140 20 = nJ (rk (inp S' 141) 256)
    rw [e20, inp_r2 e1]
    exact a
  · intro t ht
    rw [inp_r2 e1, e7, e8, e9]
    exact b t ht
theorem Sv_cg (h : Sv S) (e1 : S'.1 141 = S.1 141) (e7 : S'.1 147 = S.1 147) (e8 : S'.1 148 = S.1 148) (e3 : S'.2 153 = S.2 153) : Sv S' := by
  have eN : nP S' = nP S := by unfold nP; rw [inp_r2 e1]
  have eL : rL S' 141 = rL S 141 := rL_r2 e1
  have ept : ∀ p, pt S' p = pt S p := fun p => by unfold pt; rw [e7, e8]
  intro p hp
  rw [eN] at hp
  rw [e3, eN, eL, ept]
  obtain ⟨a, b, c⟩ := h p hp
  exact ⟨a, b, fun q hq => by rw [ept]; exact c q hq⟩
theorem MOK_cg (m : MOK S) (h : HV XM S σ) (h' : HV XM S' σ) : MOK S' := by
  have e1 : S'.1 141 = S.1 141 := HV_i0 h h' (n := 63) rfl
  have e2 : S'.1 142 = S.1 142 := HV_i0 h h' (n := 693) rfl
  have e7 : S'.1 147 = S.1 147 := HV_i0 h h' (n := 64) rfl
  have e8 : S'.1 148 = S.1 148 := HV_i0 h h' (n := 64) rfl
  have e9 : S'.1 149 = S.1 149 := HV_i0 h h' (n := 256) rfl
  have e43 : S'.1 143 = S.1 143 := HV_i1 h h' (n := 2) rfl
  have e53 : S'.2 153 = S.2 153 := HV_l h h' (n := 64) rfl
  have fl : ∀ k, oM.2[k]? = some (.inl false) → S'.1 140 k = S.1 140 k := fun k hk => HV_f h h' XM_140 hk
  have k1 := fl 1 rfl
  have k4 := fl 4 rfl
  have k7 := fl 7 rfl
  have k20 := fl 20 rfl
  have k27 := fl 27 rfl
  have k34 := fl 34 rfl
  have k36 := fl 36 rfl
  have est : ∀ k, sto S' k = sto S k := fun k => by unfold sto; rw [e2]
  obtain ⟨a, b, c, d, e, f, g⟩ := m
  refine ⟨by rw [k7]; exact a, fun h => ?_, ?_, fun j hj h => ?_, fun h => ?_, by rw [k34]; exact f, by rw [k36]; exact g⟩
  · obtain ⟨l, t⟩ := b (by rw [← k1]; exact h)
    exact ⟨Ld_cg l e1 k20 e7 e8 e9, Th_r2 e1 t⟩
  · obtain ⟨n, n1, n2, n3⟩ := c
    exact ⟨n, k4.trans n1, n2, fun k hk => by rw [est]; exact n3 k hk⟩
  · rw [est]
    exact d j hj (by rw [← e43]; exact h)
  · exact Sv_cg (e (by rw [← k27]; exact h)) e1 e7 e8 e53
theorem HV_out {Y : XT} {σ' : SG} (hd : ∀ h sh, X h = some sh → Y h = none) (hV : HV X S σ) (hO : Out Y σ σ') : HV X S σ' := fun h sh hx => by rw [hO.2 h (hd h sh hx)]; exact hV h sh hx
theorem XM_lt {h : Nat} {sh : SHP} (hx : XM h = some sh) : 140 ≤ h ∧ h < 162 := by
  unfold XM at hx
  split at hx
  · cases hx
  · next h1 =>
    have hl : h - 140 < 22 := (List.getElem?_eq_some_iff.mp hx).1
    omega
theorem XC_lt {h : Nat} {sh : SHP} (hx : XC h = some sh) : h < 140 ∨ h = 162 := by
  unfold XC at hx
  split at hx
  · next h1 => exact Or.inl h1
  · split at hx
    · next h2 => exact Or.inr h2
    · cases hx
theorem XM_C (h : Nat) (sh : SHP) (hx : XM h = some sh) : XC h = none := by
  cases e : XC h with
  | none => rfl
  | some sh' =>
    have := XM_lt hx
    have := XC_lt e
    omega
theorem XC_M (h : Nat) (sh : SHP) (hx : XC h = some sh) : XM h = none := by
  cases e : XM h with
  | none => rfl
  | some sh' =>
    have := XM_lt e
    have := XC_lt hx
    omega
/-- a call of the reference: what is known of it by both its contracts -/
theorem mod_2 {d d' k : Nat} {av : List Value} {v : Option Value} {R2 : RT} (h1 : Cal XM d k av S (RV v S')) (h2 : Cal XM d' k av S R2) (hR : ∀ c o T, R2 c o T → MOK T) (hV : HV XM S σ) : ∃ f σ', ev G0 f (max d d') k 0 (lv_args 0 av) [] 0 σ = some (0, .inr v, σ') ∧ HV XM S' σ' ∧ Out XM σ σ' ∧ MOK S' := by
  obtain ⟨f, c, o, S1, S2, σ', e, q1, q2, q3, ⟨rfl, rfl, rfl⟩, q5⟩ := cal_det h1 h2 hV
  exact ⟨f, σ', e, q1, q3, MOK_cg (hR _ _ _ q5) q2 q1⟩
theorem mm_367 : mtG 367 = some (mi_367, 12, ft_367) := rfl
theorem thr_ok {d : Nat} : Cal XM d 367 [.ref 140] S (RV (vI (S.1 140 0)) S) := by
  refine cal_go 0 rfl ?_
  refine go_run mm_367 2 (pc' := 4) (ls' := [some (.ref 140)]) (st' := [.int (S.1 140 0)]) (S' := S) rfl ?_
  exact go_ireturn mm_367 rfl rfl ⟨rfl, rfl, rfl⟩
theorem thr_ev {d : Nat} (hV : HV XM S σ) : ∃ f σ', ev G0 f d 367 0 (lv_args 0 [.ref 140]) [] 0 σ = some (0, .inr (some (.int (S.1 140 0))), σ') ∧ HV XM S σ' ∧ Out XM σ σ' := by
  obtain ⟨f, c, o, S1, σ', e, q1, q2, rfl, rfl, rfl⟩ := thr_ok (d := d) (S := S) σ hV
  exact ⟨f, σ', e, q1, q2⟩
theorem out_at (hV : HV XC S σ) : σ[162]? = some (.inl (2, 1, .inr (.inl (S.2 162)))) := hV 162 _ XC_out
theorem obj_c (hV : HV XC S σ) : ∃ fs, σ[0]? = some (.inr (10, fs)) := ⟨_, hV 0 _ XC_0⟩
theorem obj_m (hV : HV XM S σ) : ∃ fs, σ[140]? = some (.inr (11, fs)) := ⟨_, hV 140 _ XM_140⟩
end Ag
/-! steps of the law's body -/
section Lb
variable {p : Program} {l : Launch} {e : Env} {s : State} {m : MethodId} {below : List Frame} {meth : Method} {c : Code} {b L : Nat} {xs : Nat → Int32} {D : va_G} {cs : Nat → ClassId} {ad : Nat → Nat} {A : Nat → Prop} {σ : SG} {cells slots pc tgt : Nat} {lv : LV} {rest : List Value} {off : Int}
theorem gl_sim (K : LX p l s m meth c b L xs D cs ad A) {st : List Value} {i : Instr} {r : S4} (hdg : decode code pc = .ok (i, ilen i)) (h : sim GZ 0 8 pc i lv st σ = some r) (kk : GL p l e s m below meth c b D cs ad A r.2.2.2 cells slots r.1 r.2.1 r.2.2.1) : GL p l e s m below meth c b D cs ad A σ cells slots pc lv st := fun H locs ls hP hD hS hl => sim_ok (G := GZ) (k := 0) K.1 hP hD hS hl hdg lkz h (fun H1 locs1 ls1 h1 h2 h3 h4 => kk H1 locs1 ls1 h1 h2 h3 h4)
/-- a branch on a word, taken -/
theorem gl_y (K : LX p l s m meth c b L xs D cs ad A) {cn : ClassFile.Cond} {v : Int32} (hdg : decode code pc = .ok (.ifCond cn off, 3)) (ht : (pc : Int) + off = (tgt : Int)) (hv : cI cn v 0 = true) (kk : GL p l e s m below meth c b D cs ad A σ cells slots tgt lv rest) : GL p l e s m below meth c b D cs ad A σ cells slots pc lv (.int v :: rest) := by
  refine gl_sim K (i := .ifCond cn off) (r := (tgt, lv, rest, σ)) hdg (sim_B rfl rfl (simA_none rfl _ _ _) ?_) kk
  simp only [simB]
  rw [if_pos (by omega), if_pos hv, ht]
  rfl
/-- not taken -/
theorem gl_n (K : LX p l s m meth c b L xs D cs ad A) {cn : ClassFile.Cond} {v : Int32} (hdg : decode code pc = .ok (.ifCond cn off, 3)) (ht : (pc : Int) + off = (tgt : Int)) (hv : cI cn v 0 = false) (kk : GL p l e s m below meth c b D cs ad A σ cells slots (pc + 3) lv rest) : GL p l e s m below meth c b D cs ad A σ cells slots pc lv (.int v :: rest) := by
  refine gl_sim K (i := .ifCond cn off) (r := (pc + 3, lv, rest, σ)) hdg (sim_B rfl rfl (simA_none rfl _ _ _) ?_) kk
  simp only [simB]
  rw [if_pos (by omega), if_neg (by rw [hv]; exact Bool.false_ne_true)]
theorem gl_laload (K : LX p l s m meth c b L xs D cs ad A) {g : Nat → Int64} (hdg : decode code pc = .ok (.laload, 1)) (hσ : σ[162]? = some (.inl (2, 1, .inr (.inl g)))) (kk : GL p l e s m below meth c b D cs ad A σ cells slots (pc + 1) lv (.long (g 0) :: rest)) : GL p l e s m below meth c b D cs ad A σ cells slots pc lv (.int (Int32.ofInt 0) :: .ref 162 :: rest) := by
  refine gl_sim K (i := .laload) (r := (pc + 1, lv, .long (g 0) :: rest, σ)) hdg (sim_H rfl rfl (simA_none rfl _ _ _) rfl ?_) kk
  simp only [simH, hσ]
  rfl
theorem gl_lcmp (K : LX p l s m meth c b L xs D cs ad A) {x y : Int64} (hdg : decode code pc = .ok (.lcmp, 1)) (kk : GL p l e s m below meth c b D cs ad A σ cells slots (pc + 1) lv (.int (lcm3 x y) :: rest)) : GL p l e s m below meth c b D cs ad A σ cells slots pc lv (.long y :: .long x :: rest) := by
  intro H locs ls hP hD hS hl
  exact lv_lcmp K.1.1 K.1.2.1 hdg (kk H locs ls hP hD hS hl)
theorem lcm3_0 (x : Int64) : lcm3 x x = 0 := by
  unfold lcm3
  rw [if_neg Int64.lt_irrefl, if_pos rfl]
theorem cI_ne0 {t : Int32} (h : ¬ t = 0) : cI .ne t 0 = true := by simp [cI, h]
theorem cI_ne1 {t : Int32} (h : t = 0) : cI .ne t 0 = false := by simp [cI, h]
theorem cI_eq0 {t : Int32} (h : t = 0) : cI .eq t 0 = true := by simp [cI, h]
theorem cI_eq1 {t : Int32} (h : ¬ t = 0) : cI .eq t 0 = false := by simp [cI, h]
end Lb
