/-! abstract steps of Math and arraycopy -/
def mx (a b : Int) : Int := if a < b then b else a
def mn (a b : Int) : Int := if b < a then b else a
def aXs (KD : List KDT) (ms : List (Nat × Nat)) (cdn pc : Nat) (A : AC) : Option AL := match cdn with
  | 0 => match A.2.2.2.1 with
    | .inl b :: .inl a :: r => if catA r ≤ 8 then some [(pc + 3, pR A r (.inr (mx (ivS A.1 (.inl a)).1 (ivS A.1 (.inl b)).1, mx (ivS A.1 (.inl a)).2 (ivS A.1 (.inl b)).2)))] else none
    | _ => none
  | 1 => match A.2.2.2.1 with
    | .inl b :: .inl a :: r => if catA r ≤ 8 then some [(pc + 3, pR A r (.inr (mn (ivS A.1 (.inl a)).1 (ivS A.1 (.inl b)).1, mn (ivS A.1 (.inl a)).2 (ivS A.1 (.inl b)).2)))] else none
    | _ => none
  | 2 => match A.2.2.2.1 with
    | .inl _ :: r => if catA r ≤ 8 then some [(pc + 3, pR A r (.inr ivT))] else none
    | _ => none
  | _ => match A.2.2.2.1 with
    | .inl (none, c) :: .inl (none, d1) :: .inr (some (κ1, _)) :: .inl (none, d0) :: .inr (some (κ0, _)) :: r => match KD[κ1]? with
      | some (.inr (0, m, _, _)) => if catA r ≤ 8 ∧ κ0 = κ1 ∧ d0 = 0 ∧ d1 = 0 ∧ 0 ≤ c ∧ c ≤ m ∧ ms.contains (κ1, 0) = true then some [(pc + 3, sS A r)] else none
      | _ => none
    | _ => none
def aXm (KD : List KDT) (ms : List (Nat × Nat)) (k pc : Nat) (A : AC) : Option AL := match ntF k pc with
  | some (.invokestatic ix) => match lkp (ntO k) ix with
    | some cdn => if cdn ≤ 3 then aXs KD ms cdn pc A else none
    | none => none
  | _ => none
def nXm (k pc : Nat) : Bool := match ntF k pc with
  | some (.invokestatic ix) => (lkp (ntO k) ix).isNone
  | _ => true
theorem nXm_ok {k pc : Nat} (h : nXm k pc = true) (lv : LV) (st : List Value) (σ : SG) : xM k pc lv st σ = none := by
  unfold nXm at h
  unfold xM
  split at h
  · next ix hi =>
    rw [hi]
    dsimp only
    cases hq : lkp (ntO k) ix with
    | none => rfl
    | some c => rw [hq] at h; cases h
  · next hne =>
    split
    · next ix hi => exact absurd hi (hne ix)
    · rfl
theorem xS_ok {KD : List KDT} {KO : List Nat} {ms : List (Nat × Nat)} {cdn pc : Nat} {A : AC} {L : AL} {ν : List Int} {ρs : List Nat} {lv : LV} {st : List Value} {σ : SG} (h : aXs KD ms cdn pc A = some L) (hc3 : cdn ≤ 3) (hA : gA KO A ν ρs lv st σ) (hI : Inv KD KO σ) :
    ∃ r : S4, xS cdn pc lv st σ = some r ∧ ∃ A' ν' ρs', (r.1, A') ∈ L ∧ gA KO A' ν' ρs' r.2.1 r.2.2.1 r.2.2.2 ∧ (ext ν ν' ∧ ext ρs ρs') ∧ Inv KD KO r.2.2.2 ∧ Fr KO ms σ r.2.2.2 := by
  have hs := hA.2.2.2.1
  match cdn, hc3 with
  | 0, _ =>
    have h : (match A.2.2.2.1 with
      | .inl b :: .inl a :: r => if catA r ≤ 8 then some [(pc + 3, pR A r (.inr (mx (ivS A.1 (.inl a)).1 (ivS A.1 (.inl b)).1, mx (ivS A.1 (.inl a)).2 (ivS A.1 (.inl b)).2)))] else none
      | _ => none) = some L := h
    split at h
    · next b a r e =>
      split at h
      · next hc =>
        cases h
        rw [e] at hs
        obtain ⟨v, vs', rfl, h1, h2⟩ := gL_1 hs
        obtain ⟨w, vs, rfl, h3, h4⟩ := gL_1 h2
        obtain ⟨y, rfl⟩ := gS_int h1
        obtain ⟨x, rfl⟩ := gS_int h3
        have qy := ivS_ok hA.1.2 h1
        have qx := ivS_ok hA.1.2 h3
        obtain ⟨ν', e1, e2⟩ := gA_P (x := if x < y then y else x) hA h4 (q := .inr (mx (ivS A.1 (.inl a)).1 (ivS A.1 (.inl b)).1, mx (ivS A.1 (.inl a)).2 (ivS A.1 (.inl b)).2)) (by
          show _ ≤ _ ∧ _ ≤ _
          unfold mx
          dsimp only
          by_cases hxy : x < y
          · rw [if_pos hxy]
            rw [Int32.lt_iff_toInt_lt] at hxy
            split <;> split <;> omega
          · rw [if_neg hxy]
            rw [Int32.lt_iff_toInt_lt] at hxy
            split <;> split <;> omega)
        refine ⟨(pc + 3, lv, .int (if x < y then y else x) :: vs, σ), ?_, _, ν', ρs, List.mem_singleton.mpr rfl, e2, ⟨e1, ext.rf⟩, hI, Fr.rf⟩
        show (if cats vs ≤ 8 then _ else none) = _
        rw [if_pos (by rw [catA_ok h4]; exact hc)]
      · cases h
    · cases h
  | 1, _ =>
    have h : (match A.2.2.2.1 with
      | .inl b :: .inl a :: r => if catA r ≤ 8 then some [(pc + 3, pR A r (.inr (mn (ivS A.1 (.inl a)).1 (ivS A.1 (.inl b)).1, mn (ivS A.1 (.inl a)).2 (ivS A.1 (.inl b)).2)))] else none
      | _ => none) = some L := h
    split at h
    · next b a r e =>
      split at h
      · next hc =>
        cases h
        rw [e] at hs
        obtain ⟨v, vs', rfl, h1, h2⟩ := gL_1 hs
        obtain ⟨w, vs, rfl, h3, h4⟩ := gL_1 h2
        obtain ⟨y, rfl⟩ := gS_int h1
        obtain ⟨x, rfl⟩ := gS_int h3
        have qy := ivS_ok hA.1.2 h1
        have qx := ivS_ok hA.1.2 h3
        obtain ⟨ν', e1, e2⟩ := gA_P (x := if y < x then y else x) hA h4 (q := .inr (mn (ivS A.1 (.inl a)).1 (ivS A.1 (.inl b)).1, mn (ivS A.1 (.inl a)).2 (ivS A.1 (.inl b)).2)) (by
          show _ ≤ _ ∧ _ ≤ _
          unfold mn
          dsimp only
          by_cases hxy : y < x
          · rw [if_pos hxy]
            rw [Int32.lt_iff_toInt_lt] at hxy
            split <;> split <;> omega
          · rw [if_neg hxy]
            rw [Int32.lt_iff_toInt_lt] at hxy
            split <;> split <;> omega)
        refine ⟨(pc + 3, lv, .int (if y < x then y else x) :: vs, σ), ?_, _, ν', ρs, List.mem_singleton.mpr rfl, e2, ⟨e1, ext.rf⟩, hI, Fr.rf⟩
        show (if cats vs ≤ 8 then _ else none) = _
        rw [if_pos (by rw [catA_ok h4]; exact hc)]
      · cases h
    · cases h
  | 2, _ =>
    have h : (match A.2.2.2.1 with
      | .inl _ :: r => if catA r ≤ 8 then some [(pc + 3, pR A r (.inr ivT))] else none
      | _ => none) = some L := h
    split at h
    · next a r e =>
      split at h
      · next hc =>
        cases h
        rw [e] at hs
        obtain ⟨v, vs, rfl, h1, h2⟩ := gL_1 hs
        obtain ⟨x, rfl⟩ := gS_int h1
        obtain ⟨ν', e1, e2⟩ := gA_P (x := if 0 ≤ x then x else 0 - x) hA h2 (q := .inr ivT) (ivT_ok _)
        refine ⟨(pc + 3, lv, .int (if 0 ≤ x then x else 0 - x) :: vs, σ), ?_, _, ν', ρs, List.mem_singleton.mpr rfl, e2, ⟨e1, ext.rf⟩, hI, Fr.rf⟩
        show (if cats vs ≤ 8 then _ else none) = _
        rw [if_pos (by rw [catA_ok h2]; exact hc)]
      · cases h
    · cases h
  | 3, _ =>
    have h : (match A.2.2.2.1 with
      | .inl (none, c) :: .inl (none, d1) :: .inr (some (κ1, _)) :: .inl (none, d0) :: .inr (some (κ0, _)) :: r => match KD[κ1]? with
        | some (.inr (0, m, _, _)) => if catA r ≤ 8 ∧ κ0 = κ1 ∧ d0 = 0 ∧ d1 = 0 ∧ 0 ≤ c ∧ c ≤ m ∧ ms.contains (κ1, 0) = true then some [(pc + 3, sS A r)] else none
        | _ => none
      | _ => none) = some L := h
    split at h
    · next c d1 κ1 _ d0 κ0 _ r e =>
      split at h
      · next m sg κ' hd =>
        split at h
        · next hc =>
          obtain ⟨c0, rfl, rfl, rfl, c1, c2, c3⟩ := hc
          cases h
          have c3 : (κ0, 0) ∈ ms := by simpa using c3
          rw [e] at hs
          obtain ⟨v1, s1, rfl, a1, b1⟩ := gL_1 hs
          obtain ⟨v2, s2, rfl, a2, b2⟩ := gL_1 b1
          obtain ⟨v3, s3, rfl, a3, b3⟩ := gL_1 b2
          obtain ⟨v4, s4, rfl, a4, b4⟩ := gL_1 b3
          obtain ⟨v5, s5, rfl, a5, b5⟩ := gL_1 b4
          obtain ⟨n, rfl, en⟩ := a1
          obtain ⟨dp, rfl, ed⟩ := a2
          obtain ⟨x1, rfl, r1, k1⟩ := a3
          obtain ⟨sp, rfl, es⟩ := a4
          obtain ⟨x0, rfl, r0, k0⟩ := a5
          have ed : dp = 0 := Int32.toInt_inj.mp ed
          have es : sp = 0 := Int32.toInt_inj.mp es
          subst ed
          subst es
          obtain ⟨e1, i1, j1⟩ := hI x1 _ _ k1 hd
          obtain ⟨e0, i0, j0⟩ := hI x0 _ _ k0 hd
          obtain ⟨⟨n1, a1⟩, rfl, rfl, g, hg, j1⟩ := j1
          obtain ⟨⟨n0, a0⟩, rfl, hn0, f, hf, j0⟩ := j0
          cases hg
          cases hf
          have hn0 : n0 = n1 := hn0
          subst hn0
          have hn : n.toNatClampNeg = n.toInt.toNat := rfl
          have q3 : ¬ n < 0 := by
            rw [Int32.lt_iff_toInt_lt]
            have : (0 : Int32).toInt = 0 := rfl
            omega
          have q4 : (0 : Int32).toNatClampNeg = 0 := rfl
          have c2 : c ≤ (n0 : Int) := c2
          refine ⟨(pc + 3, lv, s5, σ.set x1 (.inl (0, n0, .inl (va_cpy f g (0 : Int32).toNatClampNeg (0 : Int32).toNatClampNeg n.toNatClampNeg)))), ?_, _, ν, ρs, List.mem_singleton.mpr rfl, gA_H (gA_S hA b5) (fun _ _ => fld_arr i1), ⟨ext.rf, ext.rf⟩, Inv_set hI k1 hd i1 ⟨_, rfl, rfl, _, rfl, fun j q hj hq => ?_⟩, Fr_arr k1 i1 c3⟩
          · simp only [xS, xS3, i0, i1]
            rw [if_pos ⟨by rw [catA_ok b5]; exact c0, ⟨by decide, by decide, q3⟩, by omega, by omega⟩]
          · unfold va_cpy
            rw [q4]
            split
            · have := j0 (0 + (j - 0)) q (by omega) (by rw [show 0 + (j - 0) = j by omega]; exact hq)
              exact this
            · exact j1 j q hj hq
        · cases h
      · cases h
    · cases h
theorem aXm_ok {KD : List KDT} {KO : List Nat} {ms : List (Nat × Nat)} {k pc : Nat} {A : AC} {L : AL} {ν : List Int} {ρs : List Nat} {lv : LV} {st : List Value} {σ : SG} (h : aXm KD ms k pc A = some L) (hA : gA KO A ν ρs lv st σ) (hI : Inv KD KO σ) :
    ∃ r : S4, xM k pc lv st σ = some r ∧ ∃ A' ν' ρs', (r.1, A') ∈ L ∧ gA KO A' ν' ρs' r.2.1 r.2.2.1 r.2.2.2 ∧ (ext ν ν' ∧ ext ρs ρs') ∧ Inv KD KO r.2.2.2 ∧ Fr KO ms σ r.2.2.2 := by
  unfold aXm at h
  split at h
  · next ix hi =>
    split at h
    · next cdn hc =>
      split at h
      · next hle =>
        obtain ⟨r, h1, h2⟩ := xS_ok h hle hA hI
        refine ⟨r, ?_, h2⟩
        unfold xM
        rw [hi]
        dsimp only
        rw [hc]
        dsimp only
        rw [if_pos hle]
        exact h1
      · cases h
    · cases h
  · cases h
