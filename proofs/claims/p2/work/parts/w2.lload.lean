/-! the law's load of what the buffer holds, and buffered -/
theorem ev1 {k o pc : Nat} {M : MI} {cd : List (Nat × Instr)} {i : Instr} {lv : LV} {st : List Value} {σ : SG} {r : S4} (hm : mtG k = some (M, o, cd)) (hi : lkp cd pc = some i) (hp : plI i = true) (hs : sim G0 k M.2.2.1 pc i lv st σ = some r) (f d c : Nat) : ev G0 (f + 1) d k pc lv st c σ = ev G0 f d k r.1 r.2.1 r.2.2.1 c r.2.2.2 := ev_sim (pl_nX hm hi hp d lv st σ) (mt_M hm) (mt_F hm hi) hs
theorem mm_313 : mtG 313 = some (mi_313, 13, ft_313) := rfl
section L313
variable {h36 ho : Nat} {x : Int32} {σ : SG}
theorem l313_a (lv : LV) (hl : lv = [(0, .ref h36), (1, .int x), (2, .ref ho)]) (f c : Nat) : ev G0 (f + 4) 8 313 0 lv [] c σ = ev G0 f 8 313 4 lv [.int x, .ref h36, .int 0, .ref ho] c σ := by
  subst hl
  refine (ev1 mm_313 (pc := 0) (i := .aload_n 2) rfl rfl (r := (1, _, [.ref ho], σ)) (sim_C rfl) (f + 3) 8 c).trans ?_
  refine (ev1 mm_313 (pc := 1) (i := .iconst 0) rfl rfl (r := (2, _, [.int 0, .ref ho], σ)) (sim_C rfl) (f + 2) 8 c).trans ?_
  refine (ev1 mm_313 (pc := 2) (i := .aload_n 0) rfl rfl (r := (3, _, [.ref h36, .int 0, .ref ho], σ)) (sim_C rfl) (f + 1) 8 c).trans ?_
  exact ev1 mm_313 (pc := 3) (i := .iload_n 1) rfl rfl (r := (4, _, [.int x, .ref h36, .int 0, .ref ho], σ)) (sim_C rfl) f 8 c
theorem l313_cal {fs : List Value} (hσ : σ[h36]? = some (.inr (10, fs))) : cal G0 313 (.invokevirtual 7) [.int x, .ref h36, .int 0, .ref ho] σ = some (116, 0, [.ref h36, .int x], [.int 0, .ref ho]) := by
  have hC : tbC G0 313 7 = some (116, 0, 1, 10) := rfl
  have hM' : tbM G0 116 = some mi_116 := rfl
  unfold cal
  simp only [hC, hM']
  have : (List.take (1 + 1) [Value.int x, .ref h36, .int 0, .ref ho]).reverse = [.ref h36, .int x] := rfl
  simp only [this, hσ]
  rfl
theorem l313_b {lv : LV} {y : Int32} {g : Nat → Int64} (hσ : σ[ho]? = some (.inl (2, 1, .inr (.inl g)))) (f c : Nat) : ev G0 (f + 5) 8 313 7 lv [.int y, .int 0, .ref ho] c σ = some (c, .inr (some (.int 0)), σ.set ho (.inl (2, 1, .inr (.inl (vp_updL g 0 y.toInt64))))) := by
  refine (ev1 mm_313 (pc := 7) (i := .i2l) rfl rfl (r := (8, lv, [.long y.toInt64, .int 0, .ref ho], σ)) (sim_U rfl rfl rfl rfl rfl rfl) (f + 4) 8 c).trans ?_
  refine (ev1 mm_313 (pc := 8) (i := .lastore) rfl rfl (r := (9, lv, [], σ.set ho (.inl (2, 1, .inr (.inl (vp_updL g 0 y.toInt64)))))) (sim_H rfl rfl rfl rfl ?_) (f + 3) 8 c).trans ?_
  · simp only [simH, hσ]
    rfl
  refine (ev1 mm_313 (pc := 9) (i := .goto 9) rfl rfl (r := (18, lv, [], _)) (sim_B rfl rfl rfl rfl) (f + 2) 8 c).trans ?_
  refine (ev1 mm_313 (pc := 18) (i := .iconst 0) rfl rfl (r := (19, lv, [.int 0], _)) (sim_C rfl) (f + 1) 8 c).trans ?_
  exact ev_ret (pl_nX mm_313 (i := .ireturn) rfl rfl _ _ _ _) (mt_M mm_313) (mt_F mm_313 rfl) (sim_ret (Or.inl rfl)) rfl
theorem l313_c {lv : LV} (f c : Nat) : ev G0 (f + 2) 8 313 16 lv [] c σ = some (c, .inr (some (.int 2)), σ) := by
  refine (ev1 mm_313 (pc := 16) (i := .iconst 2) rfl rfl (r := (17, lv, [.int 2], σ)) (sim_C rfl) (f + 1) 8 c).trans ?_
  exact ev_ret (pl_nX mm_313 (i := .ireturn) rfl rfl _ _ _ _) (mt_M mm_313) (mt_F mm_313 rfl) (sim_ret (Or.inl rfl)) rfl
end L313
theorem kM_Lr (b : Int) : ∀ q ∈ kM (cLr b), q ∈ kM ctr_383 := by
  show ∀ q ∈ kM (cLr 0), q ∈ kM ctr_383
  decide
/-- the law's load, n in the buffer: the buffer is empty behind it -/
theorem l313_ok {KO : List Nat} (hK : KOK KO) {i : Nat} (hi : i < 31) {h36 ho : Nat} (k1 : KO[h36]? = some 36) (k2 : KO[ho]? = some 57) {x : Int32} (hx : 0 ≤ x.toInt ∧ x.toInt ≤ 20 * (i : Int)) {σ : SG} (hI : Inv KD0 KO σ) (hF : FK KO [(27, 0, (20 * (i : Int), 20 * (i : Int)))] σ) :
    ∃ f c' v σ', ev G0 f 8 313 0 (lv_args 0 [.ref h36, .int x, .ref ho]) [] 0 σ = some (c', .inr (some (.int v)), σ') ∧ Inv KD0 KO σ' ∧ Fr KO (kM ctr_383) σ σ' ∧ c' ≤ 1 ∧ FK KO [(27, 0, (0, 0))] σ' := by
  obtain ⟨f, c1, o, σ1, e1, I1, F1, hc1, hoc⟩ := cokR hK hi [.ref h36, .int x] σ hI ⟨⟨h36, rfl, k1⟩, ⟨x, rfl, hx.1, hx.2⟩, trivial⟩ hF
  have e1 : ev G0 f 7 116 0 (lv_args 0 [.ref h36, .int x]) [] 0 σ = some (c1, o, σ1) := e1
  have F1 := F1.wk (kM_Lr _)
  obtain ⟨e36, s36, fs, rfl, -⟩ := hI h36 36 _ k1 rfl
  have hcal := l313_cal (x := x) (ho := ho) s36
  have hn : nX 313 4 = true := by decide +kernel
  have hta : tbT G0 313 4 = none := by decide +kernel
  cases o with
  | inr r =>
    obtain ⟨⟨-, hr⟩, hq⟩ := hoc
    cases r with
    | none => exact hr.elim
    | some v =>
      obtain ⟨y, rfl, -, -⟩ := hr
      obtain ⟨eo, so, ⟨n1, g1⟩, rfl, hn1, g, hg⟩ := I1 ho 57 _ k2 rfl
      have hn1 : n1 = 1 := hn1
      have hg : g1 = .inr (.inl g) := hg
      subst hn1
      subst hg
      refine ⟨max f 5 + 5, c1, 0, σ1.set ho (.inl (2, 1, .inr (.inl (vp_updL g 0 y.toInt64)))), ?_, ?_, F1.tr (Fr_arr k2 so (by decide)), hc1, ?_⟩
      · refine (l313_a _ rfl (max f 5 + 1) 0).trans ?_
        rw [ev_cal (nX_G hn _) (mt_M mm_313) (mt_F mm_313 (i := .invokevirtual 7) rfl) (sim_inv (Or.inr ⟨7, rfl⟩)) (rtn_inv (Or.inr ⟨7, rfl⟩) _) hta hcal (G0_up f (max f 5) 7 7 _ _ _ _ _ _ _ (Nat.le_max_left _ _) (Nat.le_refl _) e1), Nat.zero_add]
        refine G0_up 5 _ 8 8 _ _ _ _ _ _ _ (Nat.le_max_right f 5) (Nat.le_refl _) ?_
        exact l313_b so 0 c1
      · exact Inv_set I1 k2 rfl so ⟨_, rfl, rfl, _, rfl⟩
      · intro q hq1 h hh
        obtain ⟨z, z1, z2⟩ := hq q hq1 h hh
        exact ⟨z, by rw [fld_arr so]; exact z1, z2⟩
  | inl e =>
    obtain ⟨he, hq⟩ := hoc
    have he : e = "java/lang/IllegalArgumentException" := List.mem_singleton.mp he
    subst he
    refine ⟨max f 2 + 5, c1, 2, σ1, ?_, I1, F1, hc1, hq⟩
    refine (l313_a _ rfl (max f 2 + 1) 0).trans ?_
    rw [ev_calH (nX_G hn _) (mt_M mm_313) (mt_F mm_313 (i := .invokevirtual 7) rfl) (sim_inv (Or.inr ⟨7, rfl⟩)) (rtn_inv (Or.inr ⟨7, rfl⟩) _) hta hcal (by decide) (by decide) (G0_up f (max f 2) 7 7 _ _ _ _ _ _ _ (Nat.le_max_left _ _) (Nat.le_refl _) e1) (hp := 16) (j := 3) (by decide +kernel), Nat.zero_add]
    refine G0_up 2 _ 8 8 _ _ _ _ _ _ _ (Nat.le_max_right f 2) (Nat.le_refl _) ?_
    exact l313_c 0 c1
def cBu (b : Int) : CTR := (119, [.inr (some 36)], some (.inl (b, b)), [], [], 1, 0, [], [(27, 0, (b, b))], [])
def chkBu (i : Nat) : Bool := chkB 2000 [] (cBu (20 * i)) (20 * i, 20 * i)
set_option maxRecDepth 100000 in
theorem chkBu_all : (List.range 31).all chkBu = true := by decide +kernel
/-- buffered: the buffer's size -/
theorem cokBu {KO : List Nat} (hK : KOK KO) {i : Nat} (hi : i < 31) : cOk KD0 KO G0 (cBu (20 * i)) := chkB_ok hK rfl rfl fm_n (List.all_eq_true.mp chkBu_all i (List.mem_range.mpr hi))
