/-! contracts for each size of the class's buffer -/
def acB (A : AC) (iv : IV) : AC := sF (fI (fR A) iv) ((0, 0, 36, .inr (some (27, A.2.1))) :: (A.2.1, 0, 27, .inl (some A.1.length, 0)) :: A.2.2.2.2.1)
def cuB (E : CTR) : CUT := (0, cut0.locA 0 (kA E), [], [], 0, [], [])
def isB (a : Nat × AS) : Bool := match a with
  | (0, .inr (some (36, 0))) => true
  | _ => false
def chkB (fu : Nat) (Cs : List CTR) (E : CTR) (iv : IV) : Bool := match tbM G0 (kK E) with
  | some M => (ac0 (cuB E)).2.2.1.any isB && (chkS sgl0 Cs E && runA KD0 G0 (aX KD0) nX E M Cs fu 0 (acB (ac0 (cuB E)) iv) 0 ([], 0) false)
  | none => false
theorem chkB_ok {KO : List Nat} (hK : KOK KO) {E : CTR} {Cs : List CTR} {iv : IV} {fu : Nat} (hP : kP E = [(27, 0, iv)]) (hU : kU E = []) (hCs : ∀ E' ∈ Cs, cOk KD0 KO G0 E') (h : chkB fu Cs E iv = true) : cOk KD0 KO G0 E := by
  unfold chkB at h
  split at h
  · next M hM =>
    simp only [Bool.and_eq_true] at h
    obtain ⟨hm, hS, hr⟩ := h
    intro av σ hI hav hF
    have hg : gC' KO (cuB E) (lv_args 0 av) [] σ := ⟨locA_ok 0 _ _ hav, trivial, (fun q hq => by cases hq), fun q hq => by cases hq⟩
    obtain ⟨ν, ρs, hA⟩ := ac0_ok hg
    obtain ⟨a, ha, hb⟩ := List.any_eq_true.mp hm
    have hb' : a = (0, .inr (some (36, 0))) := by
      unfold isB at hb
      split at hb
      · rfl
      · cases hb
    subst hb'
    obtain ⟨v, -, h36, -, e3, e4⟩ := hA.2.2.1 _ ha
    have e4 : KO[h36]? = some 36 := e4
    have e3 : ρs[0]? = some h36 := e3
    obtain ⟨e, c1, fs, rfl, c3⟩ := hI h36 36 _ e4 rfl
    obtain ⟨v0, d1, h27, rfl, d3⟩ := c3 0 _ rfl
    have f0 : fld σ h36 0 = some (.ref h27) := by unfold fld; rw [c1]; exact d1
    obtain ⟨x, x1, x2, x3⟩ := hF (27, 0, iv) (by rw [hP]; exact List.mem_singleton.mpr rfl) h27 d3
    have hB := gA_I (gA_R hA h27) (q := iv) (n := x.toInt) x2 x3
    have r1 : (ρs ++ [h27])[(ac0 (cuB E)).2.1]? = some h27 := by rw [← hA.2.1]; exact app_last ρs h27
    have r2 : (ν ++ [x.toInt])[(ac0 (cuB E)).1.length]? = some x.toInt := by rw [← hA.1.1]; exact app_last ν _
    have hB2 : gA KO (acB (ac0 (cuB E)) iv) (ν ++ [x.toInt]) (ρs ++ [h27]) (lv_args 0 av) [] σ := by
      refine gA_F hB (fun q hq => ?_)
      rcases List.mem_cons.mp hq with rfl | hq
      · exact ⟨h36, .ref h27, ext.app _ _ 0 _ e3, e4, f0, h27, rfl, r1, d3⟩
      rcases List.mem_cons.mp hq with rfl | hq
      · exact ⟨h27, .int x, r1, d3, x1, x, x.toInt, rfl, r2, by omega⟩
      · exact hB.2.2.2.2.1 q hq
    refine runA_ok (σ0 := σ) (G0_xOK hK.1) hM (chkS_ok hS hK.2) hCs (m := 0) (fun u hu => by rw [hU] at hu; cases hu) fu 0 _ 0 ([], 0) false hr _ _ _ [] σ 0 hB2 hI Fr.rf (Nat.le_refl _) ⟨(fun q hq => by cases hq), ?_⟩
    show 0 + 0 = (0 : Int)
    rfl
  · cases h
def cW (s : Int) : CTR := (11, [.inr (some 27), .inl (-2147483648, 2147483647)], none, [], [(0, 0), (27, 0)], 1, 0, [], [(27, 0, (s, s))], [(27, 0, (s + 4, s + 4))])
def chkW (i : Nat) : Bool := chkS sgl0 [] (cW (4 * i)) && chk KD0 G0 (aX KD0) nX 2000 2 [] (cW (4 * i))
set_option maxRecDepth 100000 in
theorem chkW_0 : (List.range 5).all (fun j => chkW (0 + j)) = true := by decide +kernel
set_option maxRecDepth 100000 in
theorem chkW_1 : (List.range 5).all (fun j => chkW (5 + j)) = true := by decide +kernel
set_option maxRecDepth 100000 in
theorem chkW_2 : (List.range 5).all (fun j => chkW (10 + j)) = true := by decide +kernel
set_option maxRecDepth 100000 in
theorem chkW_3 : (List.range 5).all (fun j => chkW (15 + j)) = true := by decide +kernel
set_option maxRecDepth 100000 in
theorem chkW_4 : (List.range 5).all (fun j => chkW (20 + j)) = true := by decide +kernel
set_option maxRecDepth 100000 in
theorem chkW_5 : (List.range 5).all (fun j => chkW (25 + j)) = true := by decide +kernel
set_option maxRecDepth 100000 in
theorem chkW_6 : (List.range 5).all (fun j => chkW (30 + j)) = true := by decide +kernel
set_option maxRecDepth 100000 in
theorem chkW_7 : (List.range 5).all (fun j => chkW (35 + j)) = true := by decide +kernel
set_option maxRecDepth 100000 in
theorem chkW_8 : (List.range 5).all (fun j => chkW (40 + j)) = true := by decide +kernel
set_option maxRecDepth 100000 in
theorem chkW_9 : (List.range 5).all (fun j => chkW (45 + j)) = true := by decide +kernel
set_option maxRecDepth 100000 in
theorem chkW_10 : (List.range 5).all (fun j => chkW (50 + j)) = true := by decide +kernel
set_option maxRecDepth 100000 in
theorem chkW_11 : (List.range 5).all (fun j => chkW (55 + j)) = true := by decide +kernel
set_option maxRecDepth 100000 in
theorem chkW_12 : (List.range 5).all (fun j => chkW (60 + j)) = true := by decide +kernel
set_option maxRecDepth 100000 in
theorem chkW_13 : (List.range 5).all (fun j => chkW (65 + j)) = true := by decide +kernel
set_option maxRecDepth 100000 in
theorem chkW_14 : (List.range 5).all (fun j => chkW (70 + j)) = true := by decide +kernel
set_option maxRecDepth 100000 in
theorem chkW_15 : (List.range 5).all (fun j => chkW (75 + j)) = true := by decide +kernel
set_option maxRecDepth 100000 in
theorem chkW_16 : (List.range 5).all (fun j => chkW (80 + j)) = true := by decide +kernel
set_option maxRecDepth 100000 in
theorem chkW_17 : (List.range 5).all (fun j => chkW (85 + j)) = true := by decide +kernel
set_option maxRecDepth 100000 in
theorem chkW_18 : (List.range 5).all (fun j => chkW (90 + j)) = true := by decide +kernel
set_option maxRecDepth 100000 in
theorem chkW_19 : (List.range 5).all (fun j => chkW (95 + j)) = true := by decide +kernel
set_option maxRecDepth 100000 in
theorem chkW_20 : (List.range 5).all (fun j => chkW (100 + j)) = true := by decide +kernel
set_option maxRecDepth 100000 in
theorem chkW_21 : (List.range 5).all (fun j => chkW (105 + j)) = true := by decide +kernel
set_option maxRecDepth 100000 in
theorem chkW_22 : (List.range 5).all (fun j => chkW (110 + j)) = true := by decide +kernel
set_option maxRecDepth 100000 in
theorem chkW_23 : (List.range 5).all (fun j => chkW (115 + j)) = true := by decide +kernel
set_option maxRecDepth 100000 in
theorem chkW_24 : (List.range 5).all (fun j => chkW (120 + j)) = true := by decide +kernel
set_option maxRecDepth 100000 in
theorem chkW_25 : (List.range 5).all (fun j => chkW (125 + j)) = true := by decide +kernel
set_option maxRecDepth 100000 in
theorem chkW_26 : (List.range 5).all (fun j => chkW (130 + j)) = true := by decide +kernel
set_option maxRecDepth 100000 in
theorem chkW_27 : (List.range 5).all (fun j => chkW (135 + j)) = true := by decide +kernel
set_option maxRecDepth 100000 in
theorem chkW_28 : (List.range 5).all (fun j => chkW (140 + j)) = true := by decide +kernel
set_option maxRecDepth 100000 in
theorem chkW_29 : (List.range 5).all (fun j => chkW (145 + j)) = true := by decide +kernel
theorem chkW_i {i a : Nat} (h : (List.range 5).all (fun j => chkW (a + j)) = true) (h1 : a ≤ i) (h2 : i < a + 5) : chkW i = true := by
  have := List.all_eq_true.mp h (i - a) (List.mem_range.mpr (by omega))
  rw [show a + (i - a) = i by omega] at this
  exact this
theorem chkW_all {i : Nat} (hi : i < 150) : chkW i = true := by
  by_cases h0 : i < 5
  · exact chkW_i chkW_0 (by omega) (by omega)
  by_cases h1 : i < 10
  · exact chkW_i chkW_1 (by omega) (by omega)
  by_cases h2 : i < 15
  · exact chkW_i chkW_2 (by omega) (by omega)
  by_cases h3 : i < 20
  · exact chkW_i chkW_3 (by omega) (by omega)
  by_cases h4 : i < 25
  · exact chkW_i chkW_4 (by omega) (by omega)
  by_cases h5 : i < 30
  · exact chkW_i chkW_5 (by omega) (by omega)
  by_cases h6 : i < 35
  · exact chkW_i chkW_6 (by omega) (by omega)
  by_cases h7 : i < 40
  · exact chkW_i chkW_7 (by omega) (by omega)
  by_cases h8 : i < 45
  · exact chkW_i chkW_8 (by omega) (by omega)
  by_cases h9 : i < 50
  · exact chkW_i chkW_9 (by omega) (by omega)
  by_cases h10 : i < 55
  · exact chkW_i chkW_10 (by omega) (by omega)
  by_cases h11 : i < 60
  · exact chkW_i chkW_11 (by omega) (by omega)
  by_cases h12 : i < 65
  · exact chkW_i chkW_12 (by omega) (by omega)
  by_cases h13 : i < 70
  · exact chkW_i chkW_13 (by omega) (by omega)
  by_cases h14 : i < 75
  · exact chkW_i chkW_14 (by omega) (by omega)
  by_cases h15 : i < 80
  · exact chkW_i chkW_15 (by omega) (by omega)
  by_cases h16 : i < 85
  · exact chkW_i chkW_16 (by omega) (by omega)
  by_cases h17 : i < 90
  · exact chkW_i chkW_17 (by omega) (by omega)
  by_cases h18 : i < 95
  · exact chkW_i chkW_18 (by omega) (by omega)
  by_cases h19 : i < 100
  · exact chkW_i chkW_19 (by omega) (by omega)
  by_cases h20 : i < 105
  · exact chkW_i chkW_20 (by omega) (by omega)
  by_cases h21 : i < 110
  · exact chkW_i chkW_21 (by omega) (by omega)
  by_cases h22 : i < 115
  · exact chkW_i chkW_22 (by omega) (by omega)
  by_cases h23 : i < 120
  · exact chkW_i chkW_23 (by omega) (by omega)
  by_cases h24 : i < 125
  · exact chkW_i chkW_24 (by omega) (by omega)
  by_cases h25 : i < 130
  · exact chkW_i chkW_25 (by omega) (by omega)
  by_cases h26 : i < 135
  · exact chkW_i chkW_26 (by omega) (by omega)
  by_cases h27 : i < 140
  · exact chkW_i chkW_27 (by omega) (by omega)
  by_cases h28 : i < 145
  · exact chkW_i chkW_28 (by omega) (by omega)
  by_cases h29 : i < 150
  · exact chkW_i chkW_29 (by omega) (by omega)
  omega
theorem cokW {KO : List Nat} (hK : KOK KO) {i : Nat} (hi : i < 150) : cOk KD0 KO G0 (cW (4 * i)) := by
  have := chkW_all hi
  unfold chkW at this
  rw [Bool.and_eq_true] at this
  exact chk_ok (G0_xOK hK.1) (chkS_ok this.1 hK.2) fm_n this.2
def cAp (b : Int) : CTR := (115, [.inr (some 36), .inl (-2147483648, 2147483647), .inl (-2147483648, 2147483647), .inl (-2147483648, 2147483647), .inl (-2147483648, 2147483647), .inl (-2147483648, 2147483647)], some (.inl (b + 20, b + 20)), [], [(0, 0), (27, 0)], 2, 0, [], [(27, 0, (b, b))], [(27, 0, (b + 20, b + 20))])
def csA (i : Nat) : List CTR := [cW (4 * (5 * i : Nat)), cW (4 * (5 * i + 1 : Nat)), cW (4 * (5 * i + 2 : Nat)), cW (4 * (5 * i + 3 : Nat)), cW (4 * (5 * i + 4 : Nat))]
def chkA (i : Nat) : Bool := chkB 2000 (csA i) (cAp (20 * i)) (20 * i, 20 * i)
set_option maxRecDepth 100000 in
theorem chkA_all : (List.range 30).all chkA = true := by decide +kernel
/-- append where there is room: 20 more -/
theorem cokA {KO : List Nat} (hK : KOK KO) {i : Nat} (hi : i < 30) : cOk KD0 KO G0 (cAp (20 * i)) := by
  have := List.all_eq_true.mp chkA_all i (List.mem_range.mpr hi)
  exact chkB_ok hK rfl rfl (fm_c (cokW hK (by omega)) (fm_c (cokW hK (by omega)) (fm_c (cokW hK (by omega)) (fm_c (cokW hK (by omega)) (fm_c (cokW hK (by omega)) fm_n))))) this
def cAf : CTR := (115, [.inr (some 36), .inl (-2147483648, 2147483647), .inl (-2147483648, 2147483647), .inl (-2147483648, 2147483647), .inl (-2147483648, 2147483647), .inl (-2147483648, 2147483647)], some (.inl (-1, -1)), [], [], 2, 0, [], [(27, 0, (600, 600))], [(27, 0, (600, 600))])
set_option maxRecDepth 100000 in
theorem chkAf : chkB 2000 [] cAf (600, 600) = true := by decide +kernel
/-- append where there is none -/
theorem cokAf {KO : List Nat} (hK : KOK KO) : cOk KD0 KO G0 cAf := chkB_ok hK rfl rfl fm_n chkAf
