def spE (own : String) (e : Nat × Nat) : Prop := (e.2 = 0 → Cond.methodLink own e.1 Lib.Math.max.name ∈ Big) ∧ (e.2 = 1 → Cond.methodLink own e.1 Lib.Math.min.name ∈ Big) ∧ (e.2 = 2 → Cond.methodLink own e.1 Lib.Math.abs.name ∈ Big) ∧ (e.2 = 3 → Cond.methodLink own e.1 arraycopyName ∈ Big)
def osp_0 : List (Nat × Nat) := [(75, 1)]
theorem osp_0_ok : ∀ e ∈ osp_0, spE RX0 e := (fm_c ⟨fun e => absurd e (by show ¬ 1 = 0; decide), fun _ => w_1432, fun e => absurd e (by show ¬ 1 = 2; decide), fun e => absurd e (by show ¬ 1 = 3; decide)⟩ fm_n)
def osp_1 : List (Nat × Nat) := []
theorem osp_1_ok : ∀ e ∈ osp_1, spE RX1 e := fm_n
def osp_2 : List (Nat × Nat) := [(45, 0)]
theorem osp_2_ok : ∀ e ∈ osp_2, spE RX2 e := (fm_c ⟨fun _ => w_1433, fun e => absurd e (by show ¬ 0 = 1; decide), fun e => absurd e (by show ¬ 0 = 2; decide), fun e => absurd e (by show ¬ 0 = 3; decide)⟩ fm_n)
def osp_3 : List (Nat × Nat) := []
theorem osp_3_ok : ∀ e ∈ osp_3, spE RX3 e := fm_n
def osp_4 : List (Nat × Nat) := [(62, 1), (68, 0)]
theorem osp_4_ok : ∀ e ∈ osp_4, spE RX4 e := (fm_c ⟨fun e => absurd e (by show ¬ 1 = 0; decide), fun _ => w_1434, fun e => absurd e (by show ¬ 1 = 2; decide), fun e => absurd e (by show ¬ 1 = 3; decide)⟩ (fm_c ⟨fun _ => w_1435, fun e => absurd e (by show ¬ 0 = 1; decide), fun e => absurd e (by show ¬ 0 = 2; decide), fun e => absurd e (by show ¬ 0 = 3; decide)⟩ fm_n))
def osp_5 : List (Nat × Nat) := []
theorem osp_5_ok : ∀ e ∈ osp_5, spE RX5 e := fm_n
def osp_6 : List (Nat × Nat) := [(46, 3)]
theorem osp_6_ok : ∀ e ∈ osp_6, spE RX6 e := (fm_c ⟨fun e => absurd e (by show ¬ 3 = 0; decide), fun e => absurd e (by show ¬ 3 = 1; decide), fun e => absurd e (by show ¬ 3 = 2; decide), fun _ => w_1436⟩ fm_n)
def osp_7 : List (Nat × Nat) := [(82, 1), (118, 0)]
theorem osp_7_ok : ∀ e ∈ osp_7, spE RX7 e := (fm_c ⟨fun e => absurd e (by show ¬ 1 = 0; decide), fun _ => w_1437, fun e => absurd e (by show ¬ 1 = 2; decide), fun e => absurd e (by show ¬ 1 = 3; decide)⟩ (fm_c ⟨fun _ => w_1438, fun e => absurd e (by show ¬ 0 = 1; decide), fun e => absurd e (by show ¬ 0 = 2; decide), fun e => absurd e (by show ¬ 0 = 3; decide)⟩ fm_n))
def osp_8 : List (Nat × Nat) := [(70, 0)]
theorem osp_8_ok : ∀ e ∈ osp_8, spE RX8 e := (fm_c ⟨fun _ => w_1439, fun e => absurd e (by show ¬ 0 = 1; decide), fun e => absurd e (by show ¬ 0 = 2; decide), fun e => absurd e (by show ¬ 0 = 3; decide)⟩ fm_n)
def osp_9 : List (Nat × Nat) := [(52, 2), (74, 1), (104, 0)]
theorem osp_9_ok : ∀ e ∈ osp_9, spE RX9 e := (fm_c ⟨fun e => absurd e (by show ¬ 2 = 0; decide), fun e => absurd e (by show ¬ 2 = 1; decide), fun _ => w_1440, fun e => absurd e (by show ¬ 2 = 3; decide)⟩ (fm_c ⟨fun e => absurd e (by show ¬ 1 = 0; decide), fun _ => w_1441, fun e => absurd e (by show ¬ 1 = 2; decide), fun e => absurd e (by show ¬ 1 = 3; decide)⟩ (fm_c ⟨fun _ => w_1442, fun e => absurd e (by show ¬ 0 = 1; decide), fun e => absurd e (by show ¬ 0 = 2; decide), fun e => absurd e (by show ¬ 0 = 3; decide)⟩ fm_n)))
def osp_10 : List (Nat × Nat) := [(110, 0)]
theorem osp_10_ok : ∀ e ∈ osp_10, spE RX10 e := (fm_c ⟨fun _ => w_1443, fun e => absurd e (by show ¬ 0 = 1; decide), fun e => absurd e (by show ¬ 0 = 2; decide), fun e => absurd e (by show ¬ 0 = 3; decide)⟩ fm_n)
def osp_11 : List (Nat × Nat) := [(174, 2)]
theorem osp_11_ok : ∀ e ∈ osp_11, spE RX11 e := (fm_c ⟨fun e => absurd e (by show ¬ 2 = 0; decide), fun e => absurd e (by show ¬ 2 = 1; decide), fun _ => w_1444, fun e => absurd e (by show ¬ 2 = 3; decide)⟩ fm_n)
def osp_12 : List (Nat × Nat) := []
theorem osp_12_ok : ∀ e ∈ osp_12, spE RX12 e := fm_n
def osp_13 : List (Nat × Nat) := []
theorem osp_13_ok : ∀ e ∈ osp_13, spE RL e := fm_n
def osp_14 : List (Nat × Nat) := []
theorem osp_14_ok : ∀ e ∈ osp_14, spE RJ6 e := fm_n
def osp_15 : List (Nat × Nat) := []
theorem osp_15_ok : ∀ e ∈ osp_15, spE RJ13 e := fm_n
def OSP : List (List (Nat × Nat)) := [osp_0, osp_1, osp_2, osp_3, osp_4, osp_5, osp_6, osp_7, osp_8, osp_9, osp_10, osp_11, osp_12, osp_13, osp_14, osp_15]
def osp (o : Nat) : List (Nat × Nat) := (OSP[o]?).getD []
theorem osp_ok : ∀ (o : Nat) (own : String), ON[o]? = some own → ∀ e ∈ osp o, spE own e := by
  intro o own h
  match o, h with
  | 0, h => cases h; exact osp_0_ok
  | 1, h => cases h; exact osp_1_ok
  | 2, h => cases h; exact osp_2_ok
  | 3, h => cases h; exact osp_3_ok
  | 4, h => cases h; exact osp_4_ok
  | 5, h => cases h; exact osp_5_ok
  | 6, h => cases h; exact osp_6_ok
  | 7, h => cases h; exact osp_7_ok
  | 8, h => cases h; exact osp_8_ok
  | 9, h => cases h; exact osp_9_ok
  | 10, h => cases h; exact osp_10_ok
  | 11, h => cases h; exact osp_11_ok
  | 12, h => cases h; exact osp_12_ok
  | 13, h => cases h; exact osp_13_ok
  | 14, h => cases h; exact osp_14_ok
  | 15, h => cases h; exact osp_15_ok
  | n + 16, h => exact absurd h (by rw [show ON[n + 16]? = none from rfl]; exact fun q => nomatch q)
def ntO (k : Nat) : List (Nat × Nat) := match mtG k with
  | some e => osp e.2.1
  | none => []
def xS0 (pc : Nat) (lv : LV) (st : List Value) (σ : SG) : Option S4 := match st with
  | .int y :: .int x :: r => if cats r ≤ 8 then some (pc + 3, lv, .int (if x < y then y else x) :: r, σ) else none
  | _ => none
def xS1 (pc : Nat) (lv : LV) (st : List Value) (σ : SG) : Option S4 := match st with
  | .int y :: .int x :: r => if cats r ≤ 8 then some (pc + 3, lv, .int (if y < x then y else x) :: r, σ) else none
  | _ => none
def xS2 (pc : Nat) (lv : LV) (st : List Value) (σ : SG) : Option S4 := match st with
  | .int x :: r => if cats r ≤ 8 then some (pc + 3, lv, .int (if 0 ≤ x then x else 0 - x) :: r, σ) else none
  | _ => none
def xS3 (pc : Nat) (lv : LV) (st : List Value) (σ : SG) : Option S4 := match st with
  | .int n :: .int dp :: .ref h1 :: .int sp :: .ref h0 :: r => match σ[h0]?, σ[h1]? with
    | some (.inl (0, n0, .inl f)), some (.inl (0, n1, .inl g)) => if cats r ≤ 8 ∧ (¬ sp < 0 ∧ ¬ dp < 0 ∧ ¬ n < 0) ∧ sp.toNatClampNeg + n.toNatClampNeg ≤ n0 ∧ dp.toNatClampNeg + n.toNatClampNeg ≤ n1 then some (pc + 3, lv, r, σ.set h1 (.inl (0, n1, .inl (va_cpy f g sp.toNatClampNeg dp.toNatClampNeg n.toNatClampNeg)))) else none
    | _, _ => none
  | _ => none
def xS (cdn pc : Nat) (lv : LV) (st : List Value) (σ : SG) : Option S4 := match cdn with
  | 0 => xS0 pc lv st σ
  | 1 => xS1 pc lv st σ
  | 2 => xS2 pc lv st σ
  | _ => xS3 pc lv st σ
theorem nfw : nativeFrameWords "java/lang/System" "arraycopy" 5 ≤ 100 := by decide +kernel
def xM (k pc : Nat) (lv : LV) (st : List Value) (σ : SG) : Option S4 := match ntF k pc with
  | some (.invokestatic ix) => match lkp (ntO k) ix with
    | some cdn => if cdn ≤ 3 then xS cdn pc lv st σ else none
    | none => none
  | _ => none
theorem xM_ok {X : Nat → Nat → Nat → LV → List Value → SG → Option S4} {l : Launch} {D : va_G} {cs ad : Nat → Nat} {d k pc : Nat} {M : MI} {lv : LV} {st : List Value} {σ : SG} {r : S4} (hM : ntM k = some M) (hx : xM k pc lv st σ = some r) {p : Program} {e : Env} {s : State} {m : MethodId} {args : Array Value} {below : List Frame} {meth : Method} {c : Code} {H : Heap} {locs : List Loc} {ls : Array Slot} {A : Nat → Prop} {mc ms cells slots : Nat} {Q : State → Prop}
    (C : Cx p s m args meth c M.2.1 M.2.2.1 M.2.2.2.1 M.1 D (T4 cs) A) (hP : va_P D CL (wM cs ad σ) H) (hD : va_D A (wM cs ad σ)) (hS : va_S A s.heap H locs) (hl : lv_has ls M.2.2.1 (lM ad lv)) (hcc : cells ≤ mc) (hss : slots ≤ ms) (kk : Nx p l e (rmd d mc ms) s m args below meth c cells slots Q M.2.2.1 D cs ad A r) : W p l e (rmd d mc ms) s m args below meth c H locs cells slots Q (F0 m pc ls (st.map (vM ad))) := by
  obtain ⟨e9, he, rfl⟩ := ntM_G hM
  obtain ⟨l9, hl9, hel⟩ := mtG_mem he
  obtain ⟨-, -, h3⟩ := mtt_nm l9 hl9 e9 hel
  have hO : ntO k = osp e9.2.1 := by unfold ntO; rw [he]
  unfold xM at hx
  split at hx
  · next ix hF =>
    have hdg := ((nt_gM (X := X)) k e9.1 hM).2.2.2 pc _ hF
    have hdg : decode e9.1.2.1 pc = .ok (.invokestatic ix, 3) := hdg
    split at hx
    · next cdn hc =>
      rw [hO] at hc
      obtain ⟨s0, s1, s2, s3⟩ := osp_ok _ _ h3 _ (lkp_mem hc)
      have hC := C
      obtain ⟨hxx, hb, hml, hown, hts, hKK, -⟩ := C
      have hml' : c.maxLocals = ls.size := hml.trans hl.1.symm
      have hfr : 1 ≤ (rmd d mc ms).frames := by simp only [rmd]; omega
      split at hx
      · next hle =>
        match cdn, hle with
        | 0, _ =>
          have hx : xS0 pc lv st σ = some r := hx
          unfold xS0 at hx
          split at hx
          · split at hx
            · next h8 =>
              cases hx
              exact va_mmax hxx hb hml' hown (hts _ (s0 rfl)) (hts _ w_1445) (hts _ w_1452) (hts _ w_1449) hfr (by rw [vM_sum]; unfold cats at h8; simp only [rmd]; omega) hcc hss hdg (kk H locs ls hP hD hS hl)
            · cases hx
          · cases hx
        | 1, _ =>
          have hx : xS1 pc lv st σ = some r := hx
          unfold xS1 at hx
          split at hx
          · split at hx
            · next h8 =>
              cases hx
              exact va_mmin hxx hb hml' hown (hts _ (s1 rfl)) (hts _ w_1446) (hts _ w_1452) (hts _ w_1450) hfr (by rw [vM_sum]; unfold cats at h8; simp only [rmd]; omega) hcc hss hdg (kk H locs ls hP hD hS hl)
            · cases hx
          · cases hx
        | 2, _ =>
          have hx : xS2 pc lv st σ = some r := hx
          unfold xS2 at hx
          split at hx
          · split at hx
            · next h8 =>
              cases hx
              exact va_mabs hxx hb hml' hown (hts _ (s2 rfl)) (hts _ w_1447) (hts _ w_1452) (hts _ w_1451) hfr (by rw [vM_sum]; unfold cats at h8; simp only [rmd]; omega) hcc hss hdg (kk H locs ls hP hD hS hl)
            · cases hx
          · cases hx
        | 3, _ =>
          have hx : xS3 pc lv st σ = some r := hx
          unfold xS3 at hx
          split at hx
          · split at hx
            · next hh0 hh1 =>
              split at hx
              · next h8 =>
                cases hx
                obtain ⟨h8, ⟨q1, q2, q3⟩, q4, q5⟩ := h8
                exact va_copyi hxx hb hml' hown (hts _ (s3 rfl)) (hts _ w_1454) (hts _ w_1448) (hts _ w_1453) hKK hP hD hS _ _ 0 0 (wM_get hh0) (wM_get hh1) rfl rfl rfl q1 q2 q3 q4 q5 (fun _ _ => rfl) hfr (by rw [vM_sum]; unfold cats at h8; have := nfw; simp only [rmd]; omega) hdg (fun H1 locs1 h1 h2 h3 => kk H1 locs1 ls (by rw [wM_set]; exact h1) (by rw [wM_set]; exact h2) h3 hl)
              · cases hx
            · cases hx
          · cases hx
      · cases hx
    · cases hx
  · cases hx
