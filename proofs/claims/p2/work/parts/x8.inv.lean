/-! the invariant of the law's loop: both buffers hold as many bytes -/
theorem ko_r {h : Nat} (hh : 140 ≤ h ∧ h < 162) : KO0[h]? = some 200 := by
  have : (List.range 162).all (fun h => Nat.blt h 140 || KO0[h]? == some 200) = true := by decide +kernel
  have := List.all_eq_true.mp this h (List.mem_range.mpr hh.2)
  rw [Bool.or_eq_true] at this
  rcases this with q | q
  · have : h < 140 := Nat.ble_eq.mp q
    omega
  · simpa using q
theorem ko_0 : KO0[0]? = some 36 := by decide +kernel
theorem ko_1 : KO0[1]? = some 27 := by decide +kernel
theorem ko_o : KO0[162]? = some 57 := by decide +kernel
theorem XM_lt {h : Nat} {sh : SHP} (hx : XM h = some sh) : 140 ≤ h ∧ h < 162 := by
  unfold XM at hx
  split at hx
  · cases hx
  · next h1 =>
    have hl : h - 140 < 22 := (List.getElem?_eq_some_iff.mp hx).1
    omega
theorem arr_k {σ σ' : SG} {h : Nat} {a : Nat × vp_A} (he : arr σ' h = arr σ h) (hc : σ[h]? = some (.inl a)) : σ'[h]? = some (.inl a) := by
  unfold arr at he
  rw [hc] at he
  dsimp only at he
  split at he
  · next a' ha => rw [ha, Option.some.inj he]
  · cases he
/-- the class's methods leave the reference's cells -/
theorem HV_Fr {σ σ' : SG} {S : ST} {ms : List (Nat × Nat)} (hF : Fr KO0 ms σ σ') (hm : ms.all (fun q => Nat.blt q.1 100) = true) (hk : Kp σ σ') (hV : HV XM S σ) : HV XM S σ' := by
  intro h sh hx
  have h1 := XM_lt hx
  have hc := hV h sh hx
  have hno : ∀ k, ((200 : Nat), k) ∉ ms := fun k hq => by
    have := List.all_eq_true.mp hm _ hq
    cases this
  obtain ⟨f1, f2⟩ := hF.2 h 200 (ko_r h1)
  match hsh : sh, hc with
  | .inl o, hc =>
    have hc : σ[h]? = some (.inr (o.1, o.2.mapIdx (fV (S.1 h) (S.2 h)))) := hc
    obtain ⟨fs', e1⟩ := hk h _ _ hc
    rw [e1]
    show some (Sum.inr (o.1, fs')) = some (Sum.inr (o.1, o.2.mapIdx (fV (S.1 h) (S.2 h))))
    congr 3
    apply List.ext_getElem?
    intro k
    have := f1 k (hno k)
    unfold fld at this
    rw [e1, hc] at this
    exact this
  | .inr (0, n), hc => exact arr_k (f2 (hno 0)) hc
  | .inr (1, n), hc => exact arr_k (f2 (hno 0)) hc
  | .inr (_ + 2, n), hc => exact arr_k (f2 (hno 0)) hc
/-- the reference's methods leave the class's cells -/
theorem XM_n {h κ : Nat} (hh : KO0[h]? = some κ) (hk : κ < 200) : XM h = none := by
  cases hx : XM h with
  | none => rfl
  | some sh =>
    have := ko_r (XM_lt hx)
    rw [hh] at this
    have : κ = 200 := Option.some.inj this
    omega
theorem Inv_out {σ σ' : SG} (hI : Inv KD0 KO0 σ) (hO : Out XM σ σ') : Inv KD0 KO0 σ' := by
  intro h κ kd h1 h2
  obtain ⟨e, e1, e2⟩ := hI h κ kd h1 h2
  have hl : κ < 59 := (List.getElem?_eq_some_iff.mp h2).1
  exact ⟨e, by rw [hO.2 h (XM_n h1 (by omega))]; exact e1, e2⟩
theorem FK_out {σ σ' : SG} {P : List KF} (hP : P.all (fun q => Nat.blt q.1 200) = true) (hI : FK KO0 P σ) (hO : Out XM σ σ') : FK KO0 P σ' := by
  intro q hq h hh
  obtain ⟨x, x1, x2⟩ := hI q hq h hh
  have hl : q.1 < 200 := Nat.ble_eq.mp (List.all_eq_true.mp hP q hq)
  refine ⟨x, ?_, x2⟩
  unfold fld at x1 ⊢
  rw [hO.2 h (XM_n hh hl)]
  exact x1
theorem FK_Fr {σ σ' : SG} {P : List KF} {ms : List (Nat × Nat)} (hP : P.all (fun q => !(ms.contains (q.1, q.2.1))) = true) (hI : FK KO0 P σ) (hF : Fr KO0 ms σ σ') : FK KO0 P σ' := by
  intro q hq h hh
  obtain ⟨x, x1, x2⟩ := hI q hq h hh
  refine ⟨x, ?_, x2⟩
  rw [(hF.2 h q.1 hh).1 q.2.1 (fun hm => ?_)]
  · exact x1
  · have := List.all_eq_true.mp hP q hq
    simp [hm] at this
def szI (i : Nat) : List KF := [(27, 0, ((20 * i : Nat) : Int), ((20 * i : Nat) : Int))]
/-- the state between two calls: the reference's, the size i of both buffers in twenties -/
def Jn (i : Nat) (S : ST) (σ : SG) : Prop := MOK S ∧ S.1 140 7 = nJ (20 * i) ∧ HV XM S σ ∧ Inv KD0 KO0 σ ∧ FK KO0 (szI i) σ
def J6 (σ : SG) : Prop := ∃ i S, i < 31 ∧ Jn i S σ
theorem sg0_J : J6 sg0 := by
  refine ⟨0, S0, by omega, S0_M, S0_0.2.2.1, sg0_HV, sg0_inv, fun q hq h hh => ?_⟩
  rw [List.mem_singleton.mp hq] at hh ⊢
  have hh : KO0[h]? = some 27 := hh
  have e := KO0_ok.2 27 (by decide) h 1 hh ko_1
  subst e
  exact ⟨0, sg0_27, by decide, by decide⟩
theorem nil_FK {KO : List Nat} {σ : SG} : FK KO [] σ := fun q hq => nomatch hq
/-- a call of the class that keeps the buffer's size -/
theorem cls_keep {E : CTR} {i : Nat} {S : ST} {σ : SG} {av : List Value} (hok : cOk KD0 KO0 G0 E) (hkm : (kM E).all (fun q => Nat.blt q.1 100 && !(q == (27, 0))) = true) (hT : kT E = []) (hP : kP E = []) (hav : gVs KO0 (kA E) av) (hJ : Jn i S σ) : ∃ f c2 r σ2, ev G0 f (kD E) (kK E) 0 (lv_args 0 av) [] 0 σ = some (c2, .inr r, σ2) ∧ c2 ≤ 1 ∧ rOK KO0 (kR E) r ∧ Jn i S σ2 := by
  obtain ⟨j1, j2, j3, j4, j5⟩ := hJ
  obtain ⟨f, c', o, σ', e, I, F, hc, ho⟩ := hok av σ j4 hav (by rw [hP]; exact nil_FK)
  have hm1 : (kM E).all (fun q => Nat.blt q.1 100) = true := List.all_eq_true.mpr (fun q hq => by
    have := List.all_eq_true.mp hkm q hq
    rw [Bool.and_eq_true] at this
    exact this.1)
  have hm2 : ((27 : Nat), 0) ∉ kM E := fun hq => by
    have := List.all_eq_true.mp hkm _ hq
    rw [Bool.and_eq_true] at this
    simp at this
  cases o with
  | inl x =>
    have hx : x ∈ kT E := ho
    rw [hT] at hx
    cases hx
  | inr r =>
    refine ⟨f, c', r, σ', e, hc, ho.1.2, j1, j2, HV_Fr F hm1 (ev_kp _ _ _ _ _ _ _ _ _ _ _ e) j3, I, FK_Fr (ms := kM E) ?_ j5 F⟩
    unfold szI
    simp [hm2]
/-- a call of the reference -/
theorem mod_any {k d i i' : Nat} {S : ST} {σ : SG} {av : List Value} {R : RT} {P : Value → Prop} (hC : Cal XM d k av S R) (hJ : Jn i S σ) (hR : ∀ c o S', R c o S' → c = 0 ∧ ∃ v, o = .inr (some v) ∧ P v ∧ MOK S' ∧ S'.1 140 7 = nJ (20 * i')) (hi : i' = i) : ∃ f v S' σ2, ev G0 f d k 0 (lv_args 0 av) [] 0 σ = some (0, .inr (some v), σ2) ∧ P v ∧ Jn i S' σ2 := by
  subst hi
  obtain ⟨j1, j2, j3, j4, j5⟩ := hJ
  obtain ⟨f, c', o, S', σ', e, V, O, hr⟩ := hC σ j3
  obtain ⟨rfl, v, rfl, hp, m1, m2⟩ := hR _ _ _ hr
  exact ⟨f, v, S', σ', e, hp, m1, m2, V, Inv_out j4 O, FK_out (by rfl) j5 O⟩
def isI (v : Value) : Prop := ∃ x : Int32, v = .int x
def isJ (v : Value) : Prop := ∃ x : Int64, v = .long x
theorem mod_i {k d i : Nat} {S : ST} {σ : SG} {av : List Value} (hC : MOK S → Cal XM d k av S (RQi S)) (hJ : Jn i S σ) : ∃ f x S' σ2, ev G0 f d k 0 (lv_args 0 av) [] 0 σ = some (0, .inr (some (.int x)), σ2) ∧ Jn i S' σ2 := by
  obtain ⟨f, v, S', σ2, e, ⟨x, rfl⟩, h⟩ := mod_any (P := isI) (hC hJ.1) hJ (i' := i) (fun c o S' h => by
    obtain ⟨rfl, v, rfl, ⟨x, rfl⟩, q⟩ := h
    exact ⟨rfl, _, rfl, ⟨x, rfl⟩, q.1, (q.2.fld (by decide) (by decide)).trans hJ.2.1⟩) rfl
  exact ⟨f, x, S', σ2, e, h⟩
theorem mod_l {k d i : Nat} {S : ST} {σ : SG} {av : List Value} (hC : MOK S → Cal XM d k av S (RQl S)) (hJ : Jn i S σ) : ∃ f x S' σ2, ev G0 f d k 0 (lv_args 0 av) [] 0 σ = some (0, .inr (some (.long x)), σ2) ∧ Jn i S' σ2 := by
  obtain ⟨f, v, S', σ2, e, ⟨x, rfl⟩, h⟩ := mod_any (P := isJ) (hC hJ.1) hJ (i' := i) (fun c o S' h => by
    obtain ⟨rfl, v, rfl, ⟨x, rfl⟩, q⟩ := h
    exact ⟨rfl, _, rfl, ⟨x, rfl⟩, q.1, (q.2.fld (by decide) (by decide)).trans hJ.2.1⟩) rfl
  exact ⟨f, x, S', σ2, e, h⟩
theorem mod_c {k d i : Nat} {S : ST} {σ : SG} {av : List Value} (hC : MOK S → Cal XM d k av S (RC S)) (hJ : Jn i S σ) : ∃ f x S' σ2, ev G0 f d k 0 (lv_args 0 av) [] 0 σ = some (0, .inr (some (.int x)), σ2) ∧ Jn i S' σ2 := by
  obtain ⟨f, v, S', σ2, e, ⟨x, rfl⟩, h⟩ := mod_any (P := isI) (hC hJ.1) hJ (i' := i) (fun c o S' h => by
    obtain ⟨rfl, v, rfl, ⟨x, rfl⟩, q, q7⟩ := h
    exact ⟨rfl, _, rfl, ⟨x, rfl⟩, q, q7.trans hJ.2.1⟩) rfl
  exact ⟨f, x, S', σ2, e, h⟩
theorem gv_i {KO : List Nat} (x : Int32) : gV KO (.inl (-2147483648, 2147483647)) (.int x) := by
  refine ⟨x, rfl, ?_, ?_⟩
  · have := Int32.le_toInt x
    exact this
  · have := Int32.toInt_le x
    exact this
theorem gv_0 : gV KO0 (.inr (some 36)) (.ref 0) := ⟨0, rfl, ko_0⟩
theorem gv_o : gV KO0 (.inr (some 57)) (.ref 162) := ⟨162, rfl, ko_o⟩
theorem r_int {KO : List Nat} {iv : IV} {r : Option Value} (h : rOK KO (some (.inl iv)) r) : ∃ x : Int32, r = some (.int x) := by
  match r, h with
  | some v, h =>
    obtain ⟨x, rfl, -⟩ := h
    exact ⟨x, rfl⟩
theorem cls_x {i : Nat} {S : ST} {σ : SG} (hJ : Jn i S σ) : ∃ fs, σ[0]? = some (.inr (10, fs)) := by
  obtain ⟨e, e1, fs, rfl, -⟩ := hJ.2.2.2.1 0 36 _ ko_0 rfl
  exact ⟨fs, e1⟩
theorem mod_m {i : Nat} {S : ST} {σ : SG} (hJ : Jn i S σ) : ∃ fs, σ[140]? = some (.inr (11, fs)) := ⟨_, hJ.2.2.1 140 _ XM_140⟩
/-- append's answer -/
def apV (i : Nat) : Int32 := if i < 30 then nJ (20 * i + 20) else -1
/-- append: both buffers grow by twenty, or both are full -/
theorem cls_app {i : Nat} (hi : i < 31) {S : ST} {σ : SG} {a1 a2 a3 a4 a5 : Int32} (hJ : Jn i S σ) : ∃ f c2 σ2, ev G0 f 2 115 0 (lv_args 0 [.ref 0, .int a1, .int a2, .int a3, .int a4, .int a5]) [] 0 σ = some (c2, .inr (some (.int (apV i))), σ2) ∧ c2 ≤ 1 ∧ MOK S ∧ S.1 140 7 = nJ (20 * i) ∧ HV XM S σ2 ∧ Inv KD0 KO0 σ2 ∧ FK KO0 (szI (if i < 30 then i + 1 else i)) σ2 := by
  obtain ⟨j1, j2, j3, j4, j5⟩ := hJ
  have hav : ∀ b : Int, gVs KO0 (kA (cAp b)) [.ref 0, .int a1, .int a2, .int a3, .int a4, .int a5] := fun b => ⟨gv_0, gv_i _, gv_i _, gv_i _, gv_i _, gv_i _, trivial⟩
  have e20 : ((20 * i : Nat) : Int) = 20 * (i : Int) := by omega
  unfold szI at j5
  rw [e20] at j5
  unfold apV
  by_cases h30 : i < 30
  · obtain ⟨f, c', o, σ', e, I, F, hc, ho⟩ := cokA KO0_ok h30 _ σ j4 (hav _) j5
    cases o with
    | inl x => exact absurd (show x ∈ ([] : List String) from ho) List.not_mem_nil
    | inr r =>
      match r, ho.1.2 with
      | some v, hv =>
        obtain ⟨x, rfl, h1, h2⟩ := hv
        have hx : x = nJ (20 * i + 20) := by
          apply Int32.toInt_inj.mp
          rw [nJ_toInt (by omega)]
          omega
        subst hx
        rw [if_pos h30, if_pos h30]
        refine ⟨f, c', σ', e, hc, j1, j2, HV_Fr F rfl (ev_kp _ _ _ _ _ _ _ _ _ _ _ e) j3, I, ?_⟩
        have hq := ho.2
        unfold szI
        have e21 : ((20 * (i + 1) : Nat) : Int) = 20 * (i : Int) + 20 := by omega
        rw [e21]
        exact hq
  · have h3 : i = 30 := by omega
    subst h3
    obtain ⟨f, c', o, σ', e, I, F, hc, ho⟩ := cokAf KO0_ok _ σ j4 (hav 0) j5
    cases o with
    | inl x => exact absurd (show x ∈ ([] : List String) from ho) List.not_mem_nil
    | inr r =>
      match r, ho.1.2 with
      | some v, hv =>
        obtain ⟨x, rfl, h1, h2⟩ := hv
        have hx : x = -1 := by
          apply Int32.toInt_inj.mp
          have : (-1 : Int32).toInt = -1 := by decide
          rw [this]
          omega
        subst hx
        exact ⟨f, c', σ', e, hc, j1, j2, HV_Fr F rfl (ev_kp _ _ _ _ _ _ _ _ _ _ _ e) j3, I, ho.2⟩
theorem mod_app {i : Nat} (hi : i < 31) {S : ST} {σ : SG} {a1 a2 a3 a4 a5 : Int32} (h : MOK S ∧ S.1 140 7 = nJ (20 * i) ∧ HV XM S σ ∧ Inv KD0 KO0 σ ∧ FK KO0 (szI (if i < 30 then i + 1 else i)) σ) : ∃ f σ2, ev G0 f 0 185 0 (lv_args 0 [.ref 140, .int a1, .int a2, .int a3, .int a4, .int a5]) [] 0 σ = some (0, .inr (some (.int (apV i))), σ2) ∧ J6 σ2 := by
  obtain ⟨j1, j2, j3, j4, j5⟩ := h
  obtain ⟨f, c', o, S', σ', e, V, O, rfl, v, rfl, m1, hr⟩ := q_185 (d := 0) j1 j2 (by omega) (v1 := a1) (v2 := a2) (v3 := a3) (v4 := a4) (v5 := a5) σ j3
  unfold apV
  by_cases h30 : i < 30
  · rw [if_neg (by omega)] at hr
    obtain ⟨rfl, m2⟩ := hr
    rw [if_pos h30] at j5 ⊢
    exact ⟨f, σ', e, i + 1, S', by omega, m1, by rw [m2]; congr 1, V, Inv_out j4 O, FK_out rfl j5 O⟩
  · rw [if_pos (by omega)] at hr
    obtain ⟨rfl, m2⟩ := hr
    rw [if_neg h30] at j5 ⊢
    exact ⟨f, σ', e, i, S', hi, m1, m2, V, Inv_out j4 O, FK_out rfl j5 O⟩
/-- load: where n is in the buffer both are empty behind it, else nothing of it moves -/
theorem cls_load {i : Nat} (hi : i < 31) {S : ST} {σ : SG} {a1 : Int32} (hJ : Jn i S σ) : ∃ f c2 x σ2, ev G0 f 8 313 0 (lv_args 0 [.ref 0, .int a1, .ref 162]) [] 0 σ = some (c2, .inr (some (.int x)), σ2) ∧ c2 ≤ 1 ∧ MOK S ∧ S.1 140 7 = nJ (20 * i) ∧ HV XM S σ2 ∧ Inv KD0 KO0 σ2 ∧ FK KO0 (szI (if 0 ≤ a1.toInt ∧ a1.toInt ≤ (20 * i : Nat) then 0 else i)) σ2 := by
  have hJ' := hJ
  obtain ⟨j1, j2, j3, j4, j5⟩ := hJ
  have e20 : ((20 * i : Nat) : Int) = 20 * (i : Int) := by omega
  have j5' : FK KO0 [(27, 0, (20 * (i : Int), 20 * (i : Int)))] σ := by
    unfold szI at j5
    rw [e20] at j5
    exact j5
  by_cases hin : 0 ≤ a1.toInt ∧ a1.toInt ≤ (20 * i : Nat)
  · obtain ⟨f, c', x, σ', e, I, F, hc, hq⟩ := l313_ok KO0_ok hi ko_0 ko_o (x := a1) ⟨hin.1, by omega⟩ j4 j5'
    refine ⟨f, c', x, σ', e, hc, j1, j2, HV_Fr F (by decide +kernel) (ev_kp _ _ _ _ _ _ _ _ _ _ _ e) j3, I, ?_⟩
    rw [if_pos hin]
    exact hq
  · rw [if_neg hin]
    by_cases hn : a1.toInt < 0
    · obtain ⟨f, c2, r, σ2, e, hc, hr, k1, k2, k3, k4, k5⟩ := cls_keep (av := [.ref 0, .int a1, .ref 162]) (cokMn KO0_ok) rfl rfl rfl ⟨gv_0, ⟨a1, rfl, (gv_i (KO := KO0) a1).choose_spec.2.1 |> fun h => by
        obtain ⟨y, hy, h1, h2⟩ := gv_i (KO := KO0) a1
        cases hy
        exact h1, by omega⟩, gv_o, trivial⟩ hJ'
      obtain ⟨x, rfl⟩ := r_int hr
      exact ⟨f, c2, x, σ2, e, hc, k1, k2, k3, k4, k5⟩
    · have hg : 20 * (i : Int) + 1 ≤ a1.toInt := by omega
      obtain ⟨f, c', o, σ', e, I, F, hc, ho⟩ := (cokG KO0_ok hi).2 [.ref 0, .int a1, .ref 162] σ j4 ⟨gv_0, ⟨a1, rfl, hg, by
        obtain ⟨y, hy, h1, h2⟩ := gv_i (KO := KO0) a1
        cases hy
        exact h2⟩, gv_o, trivial⟩ j5'
      cases o with
      | inl x => exact absurd (show x ∈ ([] : List String) from ho) List.not_mem_nil
      | inr r =>
        obtain ⟨x, rfl⟩ := r_int ho.1.2
        exact ⟨f, c', x, σ', e, hc, j1, j2, HV_Fr F rfl (ev_kp _ _ _ _ _ _ _ _ _ _ _ e) j3, I, FK_Fr (by rfl) j5 F⟩
theorem mod_load {i : Nat} (hi : i < 31) {S : ST} {σ : SG} {a1 : Int32} (h : MOK S ∧ S.1 140 7 = nJ (20 * i) ∧ HV XM S σ ∧ Inv KD0 KO0 σ ∧ FK KO0 (szI (if 0 ≤ a1.toInt ∧ a1.toInt ≤ (20 * i : Nat) then 0 else i)) σ) : ∃ f x σ2, ev G0 f 9 201 0 (lv_args 0 [.ref 140, .int a1]) [] 0 σ = some (0, .inr (some (.int x)), σ2) ∧ J6 σ2 := by
  obtain ⟨j1, j2, j3, j4, j5⟩ := h
  obtain ⟨f, c', o, S', σ', e, V, O, rfl, v, rfl, ⟨x, rfl⟩, m1, m2⟩ := q_201 (d := 0) j1 j2 (by omega) (v1 := a1) σ j3
  by_cases hin : 0 ≤ a1.toInt ∧ a1.toInt ≤ (20 * i : Nat)
  · rw [if_pos hin] at m2 j5
    exact ⟨f, x, σ', e, 0, S', by omega, m1, m2, V, Inv_out j4 O, FK_out rfl j5 O⟩
  · rw [if_neg hin] at m2 j5
    exact ⟨f, x, σ', e, i, S', hi, m1, m2, V, Inv_out j4 O, FK_out rfl j5 O⟩
/-- buffered: both answer the size -/
theorem cls_buf {i : Nat} (hi : i < 31) {S : ST} {σ : SG} (hJ : Jn i S σ) : ∃ f c2 σ2, ev G0 f 1 119 0 (lv_args 0 [.ref 0]) [] 0 σ = some (c2, .inr (some (.int (nJ (20 * i)))), σ2) ∧ c2 ≤ 1 ∧ Jn i S σ2 := by
  obtain ⟨j1, j2, j3, j4, j5⟩ := hJ
  have e20 : ((20 * i : Nat) : Int) = 20 * (i : Int) := by omega
  have j5' : FK KO0 [(27, 0, (20 * (i : Int), 20 * (i : Int)))] σ := by
    unfold szI at j5
    rw [e20] at j5
    exact j5
  obtain ⟨f, c', o, σ', e, I, F, hc, ho⟩ := cokBu KO0_ok hi [.ref 0] σ j4 ⟨gv_0, trivial⟩ j5'
  cases o with
  | inl x => exact absurd (show x ∈ ([] : List String) from ho) List.not_mem_nil
  | inr r =>
    match r, ho.1.2 with
    | some v, hv =>
      obtain ⟨x, rfl, h1, h2⟩ := hv
      have hx : x = nJ (20 * i) := by
        apply Int32.toInt_inj.mp
        rw [nJ_toInt (by omega)]
        omega
      subst hx
      exact ⟨f, c', σ', e, hc, j1, j2, HV_Fr F rfl (ev_kp _ _ _ _ _ _ _ _ _ _ _ e) j3, I, FK_Fr (by rfl) j5 F⟩
theorem mod_buf {i : Nat} {S : ST} {σ : SG} (hJ : Jn i S σ) : ∃ f S' σ2, ev G0 f 0 186 0 (lv_args 0 [.ref 140]) [] 0 σ = some (0, .inr (some (.int (nJ (20 * i)))), σ2) ∧ Jn i S' σ2 := by
  obtain ⟨f, v, S', σ2, e, rfl, h⟩ := mod_any (P := fun v => v = .int (nJ (20 * i))) (sp_186 (d := 0)) hJ (i' := i) (fun c o S' h => by
    obtain ⟨rfl, rfl, rfl⟩ := h
    have q := Qq_t hJ.1 0
    exact ⟨rfl, _, rfl, by rw [show f_186 _ = _ from hJ.2.1], q.1, (q.2.fld (by decide) (by decide)).trans hJ.2.1⟩) rfl
  exact ⟨f, S', σ2, e, h⟩
