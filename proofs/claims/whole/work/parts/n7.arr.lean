/-! abstract steps: arrays -/
def ixR (sy : List IV) (a : AS) (n : Nat) : Bool := decide (0 ≤ (ivS sy a).1) && decide ((ivS sy a).2 < n)
def aR (KD : List KDT) (ms : List (Nat × Nat)) (pc : Nat) (i : Instr) (A : AC) : Option AL := match i with
  | .iaload => match A.2.2.2.1 with
    | .inl b :: .inr (some (κ, _)) :: r => match KD[κ]? with
      | some (.inr (0, n, sg, _)) => if ixR A.1 (.inl b) n = true then (match segJ sg (ivS A.1 (.inl b)).1.toNat (ivS A.1 (.inl b)).2.toNat with
        | some q => some [(pc + 1, pR A r (.inr q))]
        | none => none) else none
      | _ => none
    | _ => none
  | .baload => match A.2.2.2.1 with
    | .inl b :: .inr (some (κ, _)) :: r => match KD[κ]? with
      | some (.inr (1, n, sg, _)) => if ixR A.1 (.inl b) n = true then (match segJ sg (ivS A.1 (.inl b)).1.toNat (ivS A.1 (.inl b)).2.toNat with
        | some q => some [(pc + 1, pR A r (.inr q))]
        | none => none) else none
      | _ => none
    | _ => none
  | .laload => match A.2.2.2.1 with
    | .inl b :: .inr (some (κ, _)) :: r => match KD[κ]? with
      | some (.inr (2, n, _, _)) => if ixR A.1 (.inl b) n = true then some [(pc + 1, sS A (.inr none :: r))] else none
      | _ => none
    | _ => none
  | .aaload => match A.2.2.2.1 with
    | .inl b :: .inr (some (κ, _)) :: r => match KD[κ]? with
      | some (.inr (3, n, _, κ')) => if ixR A.1 (.inl b) n = true then some [(pc + 1, sS (fR A) (.inr (some (κ', A.2.1)) :: r))] else none
      | _ => none
    | _ => none
  | .iastore => match A.2.2.2.1 with
    | .inl v :: .inl b :: .inr (some (κ, _)) :: r => match KD[κ]? with
      | some (.inr (0, n, sg, _)) => if ixR A.1 (.inl b) n = true ∧ segW sg (ivS A.1 (.inl b)).1.toNat (ivS A.1 (.inl b)).2.toNat (ivS A.1 (.inl v)) = true ∧ ms.contains (κ, 0) = true then some [(pc + 1, sS A r)] else none
      | _ => none
    | _ => none
  | .bastore => match A.2.2.2.1 with
    | .inl v :: .inl b :: .inr (some (κ, _)) :: r => match KD[κ]? with
      | some (.inr (1, n, sg, _)) => if ixR A.1 (.inl b) n = true ∧ (segW sg (ivS A.1 (.inl b)).1.toNat (ivS A.1 (.inl b)).2.toNat (ivS A.1 (.inl v)) = true ∧ inI (ivS A.1 (.inl v)) (0, 1) = true) ∧ ms.contains (κ, 0) = true then some [(pc + 1, sS A r)] else none
      | _ => none
    | _ => none
  | .lastore => match A.2.2.2.1 with
    | .inr none :: .inl b :: .inr (some (κ, _)) :: r => match KD[κ]? with
      | some (.inr (2, n, _, _)) => if ixR A.1 (.inl b) n = true ∧ ms.contains (κ, 0) = true then some [(pc + 1, sS A r)] else none
      | _ => none
    | _ => none
  | _ => none
section Ar
variable {KD : List KDT} {KO : List Nat} {G : TB} {k n pc : Nat} {i : Instr} {A : AC} {ν : List Int} {ρs : List Nat} {lv : LV} {st : List Value} {σ : SG} {L : AL} {ms : List (Nat × Nat)}
theorem ix_ok (hA : gA KO A ν ρs lv st σ) {a : AS} {n : Nat} {x : Int32} (h : ixR A.1 a n = true) (hg : gS KO ν ρs a (.int x)) : inN x n = true ∧ x.toNatClampNeg < n ∧ (ivS A.1 a).1.toNat ≤ x.toNatClampNeg ∧ x.toNatClampNeg ≤ (ivS A.1 a).2.toNat := by
  have hb := ivS_ok hA.1.2 hg
  simp only [ixR, Bool.and_eq_true, decide_eq_true_eq] at h
  have h0 : ¬ x < 0 := by
    rw [Int32.lt_iff_toInt_lt]
    have : (0 : Int32).toInt = 0 := rfl
    omega
  have h1 : x.toNatClampNeg = x.toInt.toNat := rfl
  have h2 : x.toNatClampNeg < n := by omega
  refine ⟨?_, h2, by omega, by omega⟩
  simp only [inN, Bool.and_eq_true, decide_eq_true_eq]
  exact ⟨h0, h2⟩
theorem gA_H (hA : gA KO A ν ρs lv st σ) {σ' : SG} (h : ∀ x j, fld σ' x j = fld σ x j) : gA KO A ν ρs lv st σ' := ⟨hA.1, hA.2.1, hA.2.2.1, hA.2.2.2.1, fun q hq => by
  obtain ⟨x, v, c1, ck, c2, c3⟩ := hA.2.2.2.2.1 q hq
  exact ⟨x, v, c1, ck, (h x _).trans c2, c3⟩, hA.2.2.2.2.2⟩
theorem nar01 {x : Int32} (h : x.toInt = 0 ∨ x.toInt = 1) : vp_nar .boolean x = x := by
  rcases h with e | e
  · have : x = 0 := Int32.toInt_inj.mp e
    subst this; rfl
  · have : x = 1 := Int32.toInt_inj.mp e
    subst this; rfl
theorem aR_ok (hA : gA KO A ν ρs lv st σ) (hI : Inv KD KO σ) (h : aR KD ms pc i A = some L) : aStp KD KO ms G k n pc i L ν ρs lv st σ := by
  have hs := hA.2.2.2.1
  unfold aR at h
  split at h
  · split at h
    · next b κ ρ r e =>
      split at h
      · next N sg κ' hd =>
        split at h
        · next hix =>
          split at h
          · next q hq =>
            cases h
            rw [e] at hs
            obtain ⟨v, vs', rfl, h1, h2⟩ := gL_1 hs
            obtain ⟨w, vs, rfl, h3, h4⟩ := gL_1 h2
            obtain ⟨y, rfl⟩ := gS_int h1
            obtain ⟨x, rfl, hρ, hko⟩ := h3
            obtain ⟨e0, i2, i3⟩ := hI x κ _ hko hd
            obtain ⟨a, rfl, rfl, f, hf, i4⟩ := i3
            obtain ⟨a1, a2⟩ := a
            cases hf
            obtain ⟨x1, x2, x3, x4⟩ := ix_ok hA hix h1
            obtain ⟨q', s1, s2, s3⟩ := segJ_ok sg _ _ q hq _ x3 x4
            have hb := i4 _ q' x2 s1
            obtain ⟨ν', e1, e2⟩ := gA_P (x := f y.toNatClampNeg) hA h4 (q := .inr q) ⟨by omega, by omega⟩
            refine stp1 (r := (pc + 1, lv, .int (f y.toNatClampNeg) :: vs, σ)) (sim_H rfl rfl (simA_no (fun _ _ => rfl) (fun _ _ => rfl) (fun _ _ => rfl)) rfl ?_) rfl e2 e1 hI rfl
            simp only [simH, i2, x1, if_true]
          · cases h
        · cases h
      · cases h
    · cases h
  · split at h
    · next b κ ρ r e =>
      split at h
      · next N sg κ' hd =>
        split at h
        · next hix =>
          split at h
          · next q hq =>
            cases h
            rw [e] at hs
            obtain ⟨v, vs', rfl, h1, h2⟩ := gL_1 hs
            obtain ⟨w, vs, rfl, h3, h4⟩ := gL_1 h2
            obtain ⟨y, rfl⟩ := gS_int h1
            obtain ⟨x, rfl, hρ, hko⟩ := h3
            obtain ⟨e0, i2, i3⟩ := hI x κ _ hko hd
            obtain ⟨a, rfl, rfl, f, hf, i4⟩ := i3
            obtain ⟨a1, a2⟩ := a
            cases hf
            obtain ⟨x1, x2, x3, x4⟩ := ix_ok hA hix h1
            obtain ⟨q', s1, s2, s3⟩ := segJ_ok sg _ _ q hq _ x3 x4
            have hb := i4 _ q' x2 s1
            obtain ⟨ν', e1, e2⟩ := gA_P (x := f y.toNatClampNeg) hA h4 (q := .inr q) ⟨by omega, by omega⟩
            refine stp1 (r := (pc + 1, lv, .int (f y.toNatClampNeg) :: vs, σ)) (sim_H rfl rfl (simA_no (fun _ _ => rfl) (fun _ _ => rfl) (fun _ _ => rfl)) rfl ?_) rfl e2 e1 hI rfl
            simp only [simH, i2, x1, if_true]
          · cases h
        · cases h
      · cases h
    · cases h
  · split at h
    · next b κ ρ r e =>
      split at h
      · next N sg κ' hd =>
        split at h
        · next hix =>
          cases h
          rw [e] at hs
          obtain ⟨v, vs', rfl, h1, h2⟩ := gL_1 hs
          obtain ⟨w, vs, rfl, h3, h4⟩ := gL_1 h2
          obtain ⟨y, rfl⟩ := gS_int h1
          obtain ⟨x, rfl, hρ, hko⟩ := h3
          obtain ⟨e0, i2, i3⟩ := hI x κ _ hko hd
          obtain ⟨a, rfl, rfl, f, hf⟩ := i3
          obtain ⟨a1, a2⟩ := a
          cases hf
          obtain ⟨x1, x2, x3, x4⟩ := ix_ok hA hix h1
          refine stp1 (r := (pc + 1, lv, .long (f y.toNatClampNeg) :: vs, σ)) (sim_H rfl rfl (simA_no (fun _ _ => rfl) (fun _ _ => rfl) (fun _ _ => rfl)) rfl ?_) rfl (gA_S hA ⟨⟨_, rfl⟩, h4⟩) ext.rf hI rfl
          simp only [simH, i2, x1, if_true]
        · cases h
      · cases h
    · cases h
  · split at h
    · next b κ ρ r e =>
      split at h
      · next N sg κ' hd =>
        split at h
        · next hix =>
          cases h
          rw [e] at hs
          obtain ⟨v, vs', rfl, h1, h2⟩ := gL_1 hs
          obtain ⟨w, vs, rfl, h3, h4⟩ := gL_1 h2
          obtain ⟨y, rfl⟩ := gS_int h1
          obtain ⟨x, rfl, hρ, hko⟩ := h3
          obtain ⟨e0, i2, i3⟩ := hI x κ _ hko hd
          obtain ⟨a, rfl, rfl, f, hf, i4⟩ := i3
          obtain ⟨a1, a2⟩ := a
          cases hf
          obtain ⟨x1, x2, x3, x4⟩ := ix_ok hA hix h1
          obtain ⟨z, hz, hzk⟩ := i4 _ x2
          have e1 := ext.app ρs [z]
          have hg : gS KO ν (ρs ++ [z]) (.inr (some (κ', A.2.1))) (.ref z) := ⟨z, rfl, by rw [← hA.2.1]; exact app_last ρs _, hzk⟩
          refine stpR (r := (pc + 1, lv, .ref z :: vs, σ)) (sim_H rfl rfl (simA_no (fun _ _ => rfl) (fun _ _ => rfl) (fun _ _ => rfl)) rfl ?_) rfl (gA_S (gA_R hA z) ⟨hg, h4.ext ext.rf e1⟩) hI rfl
          simp only [simH, i2, x1, if_true, hz, va_rf]
        · cases h
      · cases h
    · cases h
  · split at h
    · next v b κ ρ r e =>
      split at h
      · next N sg κ' hd =>
        split at h
        · next hc =>
          obtain ⟨hix, hsw, hms⟩ := hc
          cases h
          have hms : (κ, 0) ∈ ms := by simpa using hms
          rw [e] at hs
          obtain ⟨w0, vs0, rfl, h5, h6⟩ := gL_1 hs
          obtain ⟨v, vs', rfl, h1, h2⟩ := gL_1 h6
          obtain ⟨w, vs, rfl, h3, h4⟩ := gL_1 h2
          obtain ⟨z, rfl⟩ := gS_int h5
          obtain ⟨y, rfl⟩ := gS_int h1
          obtain ⟨x, rfl, hρ, hko⟩ := h3
          obtain ⟨e0, i2, i3⟩ := hI x κ _ hko hd
          obtain ⟨a, rfl, rfl, f, hf, i4⟩ := i3
          obtain ⟨a1, a2⟩ := a
          cases hf
          obtain ⟨x1, x2, x3, x4⟩ := ix_ok hA hix h1
          have hv := ivS_ok hA.1.2 h5
          refine ⟨(pc + 1, lv, vs, σ.set x (.inl (0, a1, .inl (upd f y.toNatClampNeg z)))), sim_H rfl rfl (simA_no (fun _ _ => rfl) (fun _ _ => rfl) (fun _ _ => rfl)) rfl ?_, _, ν, ρs, List.mem_singleton.mpr rfl, gA_H (gA_S hA h4) (fun _ _ => fld_arr i2), ⟨ext.rf, ext.rf⟩, Inv_set hI hko hd i2 ⟨_, rfl, rfl, _, rfl, fun j q hj hq => ?_⟩, Fr_arr hko i2 hms⟩
          · simp only [simH, i2, x1, if_true]
          · unfold upd
            split
            · next ej =>
              have := segW_ok sg _ _ _ hsw j (by omega) (by omega) q hq
              omega
            · exact i4 j q hj hq
        · cases h
      · cases h
    · cases h
  · split at h
    · next v b κ ρ r e =>
      split at h
      · next N sg κ' hd =>
        split at h
        · next hc =>
          obtain ⟨hix, ⟨hsw, h01⟩, hms⟩ := hc
          cases h
          have hms : (κ, 0) ∈ ms := by simpa using hms
          rw [e] at hs
          obtain ⟨w0, vs0, rfl, h5, h6⟩ := gL_1 hs
          obtain ⟨v, vs', rfl, h1, h2⟩ := gL_1 h6
          obtain ⟨w, vs, rfl, h3, h4⟩ := gL_1 h2
          obtain ⟨z, rfl⟩ := gS_int h5
          obtain ⟨y, rfl⟩ := gS_int h1
          obtain ⟨x, rfl, hρ, hko⟩ := h3
          obtain ⟨e0, i2, i3⟩ := hI x κ _ hko hd
          obtain ⟨a, rfl, rfl, f, hf, i4⟩ := i3
          obtain ⟨a1, a2⟩ := a
          cases hf
          obtain ⟨x1, x2, x3, x4⟩ := ix_ok hA hix h1
          have hv := ivS_ok hA.1.2 h5
          have hn : vp_nar .boolean z = z := nar01 (by have := inI_ok h01 hv.1 hv.2; dsimp only at this; omega)
          refine ⟨(pc + 1, lv, vs, σ.set x (.inl (1, a1, .inl (upd f y.toNatClampNeg (vp_nar .boolean z))))), sim_H rfl rfl (simA_no (fun _ _ => rfl) (fun _ _ => rfl) (fun _ _ => rfl)) rfl ?_, _, ν, ρs, List.mem_singleton.mpr rfl, gA_H (gA_S hA h4) (fun _ _ => fld_arr i2), ⟨ext.rf, ext.rf⟩, Inv_set hI hko hd i2 ⟨_, rfl, rfl, _, rfl, fun j q hj hq => ?_⟩, Fr_arr hko i2 hms⟩
          · simp only [simH, i2, x1, if_true]
          · unfold upd
            split
            · next ej =>
              have := segW_ok sg _ _ _ hsw j (by omega) (by omega) q hq
              rw [hn]
              omega
            · exact i4 j q hj hq
        · cases h
      · cases h
    · cases h
  · split at h
    · next b κ ρ r e =>
      split at h
      · next N sg κ' hd =>
        split at h
        · next hc =>
          obtain ⟨hix, hms⟩ := hc
          cases h
          have hms : (κ, 0) ∈ ms := by simpa using hms
          rw [e] at hs
          obtain ⟨w0, vs0, rfl, h5, h6⟩ := gL_1 hs
          obtain ⟨v, vs', rfl, h1, h2⟩ := gL_1 h6
          obtain ⟨w, vs, rfl, h3, h4⟩ := gL_1 h2
          obtain ⟨z, rfl⟩ := h5
          obtain ⟨y, rfl⟩ := gS_int h1
          obtain ⟨x, rfl, hρ, hko⟩ := h3
          obtain ⟨e0, i2, i3⟩ := hI x κ _ hko hd
          obtain ⟨a, rfl, rfl, f, hf⟩ := i3
          obtain ⟨a1, a2⟩ := a
          cases hf
          obtain ⟨x1, x2, x3, x4⟩ := ix_ok hA hix h1
          refine ⟨(pc + 1, lv, vs, σ.set x (.inl (2, a1, .inr (.inl (vp_updL f y.toNatClampNeg z))))), sim_H rfl rfl (simA_no (fun _ _ => rfl) (fun _ _ => rfl) (fun _ _ => rfl)) rfl ?_, _, ν, ρs, List.mem_singleton.mpr rfl, gA_H (gA_S hA h4) (fun _ _ => fld_arr i2), ⟨ext.rf, ext.rf⟩, Inv_set hI hko hd i2 ⟨_, rfl, rfl, _, rfl⟩, Fr_arr hko i2 hms⟩
          simp only [simH, i2, x1, if_true]
        · cases h
      · cases h
    · cases h
  · cases h
end Ar
