/-! load of what the buffer holds: it is empty behind it -/
def cOkC (KO : List Nat) (E : CTR) : Prop := ∀ av σ, Inv KD0 KO σ → gVs KO (kA E) av → FK KO (kP E) σ → FinC KD0 KO G0 E σ 0 (lv_args 0 av) [] 0 σ
def chkC (fu : Nat) (Cs : List CTR) (E : CTR) (iv : IV) : Bool := match tbM G0 (kK E) with
  | some M => (ac0 (cuB E)).2.2.1.any isB && (chkS sgl0 Cs E && runC KD0 G0 (aX KD0) nX E M Cs fu 0 (acB (ac0 (cuB E)) iv) 0 ([], 0) false)
  | none => false
theorem chkC_ok {KO : List Nat} (hK : KOK KO) {E : CTR} {Cs : List CTR} {iv : IV} {fu : Nat} (hP : kP E = [(27, 0, iv)]) (hU : kU E = []) (hCs : ∀ E' ∈ Cs, cOk KD0 KO G0 E') (h : chkC fu Cs E iv = true) : cOkC KO E := by
  unfold chkC at h
  split at h
  · next M hM =>
    simp only [Bool.and_eq_true] at h
    obtain ⟨hm, hS, hr⟩ := h
    intro av σ hI hav hF
    have hg : gC' KO (cuB E) (lv_args 0 av) [] σ := ⟨locA_ok 0 _ _ hav, trivial, (fun q hq => by cases hq), fun q hq => by cases hq⟩
    obtain ⟨ν, ρs, hA⟩ := ac0_ok hg
    obtain ⟨a, ha, hb⟩ := List.any_eq_true.mp hm
    have hb' : a = (0, .inr (some (36, 0))) := by
      unfold isB at hb
      split at hb
      · rfl
      · cases hb
    subst hb'
    obtain ⟨v, -, h36, -, e3, e4⟩ := hA.2.2.1 _ ha
    have e4 : KO[h36]? = some 36 := e4
    have e3 : ρs[0]? = some h36 := e3
    obtain ⟨e, c1, fs, rfl, c3⟩ := hI h36 36 _ e4 rfl
    obtain ⟨v0, d1, h27, rfl, d3⟩ := c3 0 _ rfl
    have f0 : fld σ h36 0 = some (.ref h27) := by unfold fld; rw [c1]; exact d1
    obtain ⟨x, x1, x2, x3⟩ := hF (27, 0, iv) (by rw [hP]; exact List.mem_singleton.mpr rfl) h27 d3
    have hB := gA_I (gA_R hA h27) (q := iv) (n := x.toInt) x2 x3
    have r1 : (ρs ++ [h27])[(ac0 (cuB E)).2.1]? = some h27 := by rw [← hA.2.1]; exact app_last ρs h27
    have r2 : (ν ++ [x.toInt])[(ac0 (cuB E)).1.length]? = some x.toInt := by rw [← hA.1.1]; exact app_last ν _
    have hB2 : gA KO (acB (ac0 (cuB E)) iv) (ν ++ [x.toInt]) (ρs ++ [h27]) (lv_args 0 av) [] σ := by
      refine gA_F hB (fun q hq => ?_)
      rcases List.mem_cons.mp hq with rfl | hq
      · exact ⟨h36, .ref h27, ext.app _ _ 0 _ e3, e4, f0, h27, rfl, r1, d3⟩
      rcases List.mem_cons.mp hq with rfl | hq
      · exact ⟨h27, .int x, r1, d3, x1, x, x.toInt, rfl, r2, by omega⟩
      · exact hB.2.2.2.2.1 q hq
    refine runC_ok (σ0 := σ) (G0_xOK hK.1) hM (chkS_ok hS hK.2) hCs (m := 0) (fun u hu => by rw [hU] at hu; cases hu) fu 0 _ 0 ([], 0) false hr _ _ _ [] σ 0 hB2 hI Fr.rf (Nat.le_refl _) ⟨(fun q hq => by cases hq), ?_⟩
    show 0 + 0 = (0 : Int)
    rfl
  · cases h
def cLr (b : Int) : CTR := (116, [.inr (some 36), .inl (0, b)], some (.inl (0, 64)), ["java/lang/IllegalArgumentException"], [(1, 0), (2, 0), (3, 0), (4, 0), (5, 0), (6, 0), (7, 0), (8, 0), (9, 0), (10, 0), (11, 0), (25, 0), (25, 1), (25, 2), (27, 0), (27, 1), (27, 2), (27, 3), (27, 4), (27, 5), (28, 0), (28, 1), (29, 3), (29, 4), (30, 3), (31, 8), (32, 6), (32, 7), (32, 8), (33, 3), (33, 4), (35, 0), (36, 16), (36, 17)], 7, 0, [], [(27, 0, (b, b))], [(27, 0, (0, 0))])
def chkR (i : Nat) : Bool := chkC 2000 [ctr_2, ctr_33, ctr_34, ctr_40] (cLr (20 * i)) (20 * i, 20 * i)
set_option maxRecDepth 100000 in
theorem chkR_0 : chkR 0 = true := by decide +kernel
set_option maxRecDepth 100000 in
theorem chkR_1 : (List.range 10).all (fun i => chkR (1 + i)) = true := by decide +kernel
set_option maxRecDepth 100000 in
theorem chkR_2 : (List.range 10).all (fun i => chkR (11 + i)) = true := by decide +kernel
set_option maxRecDepth 100000 in
theorem chkR_3 : (List.range 10).all (fun i => chkR (21 + i)) = true := by decide +kernel
theorem chkR_i {i a : Nat} (h : (List.range 10).all (fun j => chkR (a + j)) = true) (h1 : a ≤ i) (h2 : i < a + 10) : chkR i = true := by
  have := List.all_eq_true.mp h (i - a) (List.mem_range.mpr (by omega))
  rw [show a + (i - a) = i by omega] at this
  exact this
theorem cokR {KO : List Nat} (hK : KOK KO) {i : Nat} (hi : i < 31) : cOkC KO (cLr (20 * i)) := by
  have h : chkR i = true := by
    by_cases h0 : i < 1
    · have : i = 0 := by omega
      subst this
      exact chkR_0
    by_cases h1 : i < 11
    · exact chkR_i chkR_1 (by omega) (by omega)
    by_cases h2 : i < 21
    · exact chkR_i chkR_2 (by omega) (by omega)
    · exact chkR_i chkR_3 (by omega) (by omega)
  exact chkC_ok hK rfl rfl (fm_c (cok_2 hK) (fm_c (cok_33 hK) (fm_c (cok_34 hK) (fm_c (cok_40 hK) fm_n)))) h
