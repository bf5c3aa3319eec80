/-! texts: steps of their own, and what they mean for kinds -/
def ntS (k : Nat) : List (Nat × Nat) := match mtG k with
  | some e => (OSR[e.2.1]?).getD []
  | none => []
def ntV (k : Nat) : List (Nat × Nat) := match mtG k with
  | some e => (OSV[e.2.1]?).getD []
  | none => []
def sb : Nat := 300
def txt (h : Nat) : Option (List Int32) := if sb ≤ h then TXS[h - sb]? else none
def xL (pc : Nat) (lv : LV) (st : List Value) (σ : SG) : Option S4 := match st with
  | .ref h :: r => match txt h with
    | some t => if cats r ≤ 8 then some (pc + 3, lv, .int (Int32.ofNat t.length) :: r, σ) else none
    | none => none
  | _ => none
def xA (pc : Nat) (lv : LV) (st : List Value) (σ : SG) : Option S4 := match st with
  | .int x :: .ref h :: r => match txt h with
    | some t => if inN x t.length = true ∧ cats r ≤ 8 then some (pc + 3, lv, .int (t.getD x.toNatClampNeg 0) :: r, σ) else none
    | none => none
  | _ => none
def xT (k pc : Nat) (lv : LV) (st : List Value) (σ : SG) : Option S4 := match ntF k pc with
  | some (.ldc ix) => match lkp (ntS k) ix with
    | some j => some (pc + 2, lv, .ref (sb + j) :: st, σ)
    | none => none
  | some (.invokevirtual ix) => match lkp (ntV k) ix with
    | some cdn => if cdn = 0 then xL pc lv st σ else xA pc lv st σ
    | none => none
  | _ => none
def XX (_ k pc : Nat) (lv : LV) (st : List Value) (σ : SG) : Option S4 := match xM k pc lv st σ with
  | some r => some r
  | none => xT k pc lv st σ
/-- the program's tables -/
def G0 : TB := GT XX
def aXt (k pc : Nat) (A : AC) : Option AL := match ntF k pc with
  | some (.ldc ix) => match lkp (ntS k) ix with
    | some j => match TXS[j]? with
      | some t => some [(pc + 2, sS (fR A) (.inr (some (100 + t.length, A.2.1)) :: A.2.2.2.1))]
      | none => none
    | none => none
  | some (.invokevirtual ix) => match lkp (ntV k) ix with
    | some cdn => if cdn = 0 then (match A.2.2.2.1 with
      | .inr (some (κ, _)) :: r => if (100 ≤ κ ∧ κ < 200) ∧ catA r ≤ 8 then some [(pc + 3, sS A (.inl (none, ((κ - 100 : Nat) : Int)) :: r))] else none
      | _ => none) else (match A.2.2.2.1 with
      | .inl b :: .inr (some (κ, _)) :: r => if (100 ≤ κ ∧ κ < 200) ∧ ixR A.1 (.inl b) (κ - 100) = true ∧ catA r ≤ 8 then some [(pc + 3, pR A r (.inr ivT))] else none
      | _ => none)
    | none => none
  | _ => none
def nXt (k pc : Nat) : Bool := match ntF k pc with
  | some (.ldc ix) => (lkp (ntS k) ix).isNone
  | some (.invokevirtual ix) => (lkp (ntV k) ix).isNone
  | _ => true
def aX (KD : List KDT) : XAT := fun ms k pc A => match aXm KD ms k pc A with
  | some L => some L
  | none => aXt k pc A
def nX (k pc : Nat) : Bool := nXm k pc && nXt k pc
/-- the texts' handles are of the texts' kinds, and no others -/
def KOS (KO : List Nat) : Prop := (∀ (j : Nat) (t : List Int32), TXS[j]? = some t → KO[sb + j]? = some (100 + t.length)) ∧ ∀ (h κ : Nat), KO[h]? = some κ → 100 ≤ κ → κ < 200 → ∃ t, txt h = some t ∧ κ = 100 + t.length
theorem nXt_ok {k pc : Nat} (h : nXt k pc = true) (lv : LV) (st : List Value) (σ : SG) : xT k pc lv st σ = none := by
  unfold nXt at h
  unfold xT
  split at h
  · next ix hi =>
    (try rw [hi])
    (try dsimp only)
    cases hq : lkp (ntS k) ix with
    | none => rfl
    | some c => rw [hq] at h; cases h
  · next ix hi =>
    (try rw [hi])
    (try dsimp only)
    cases hq : lkp (ntV k) ix with
    | none => rfl
    | some c => rw [hq] at h; cases h
  · next h1 h2 =>
    first
      | rfl
      | (split
         · next ix hi => exact absurd hi (h1 ix)
         · next ix hi => exact absurd hi (h2 ix)
         · rfl)
theorem len_ok {t : List Int32} (h : t.length < 100) : (Int32.ofNat t.length).toInt = ((100 + t.length - 100 : Nat) : Int) := by
  have : Int32.ofNat t.length = Int32.ofInt (t.length : Int) := rfl
  rw [this, i32_of (by omega) (by omega)]
  omega
theorem aXt_ok {KD : List KDT} {KO : List Nat} (hK : KOS KO) {ms : List (Nat × Nat)} {k pc : Nat} {A : AC} {L : AL} {ν : List Int} {ρs : List Nat} {lv : LV} {st : List Value} {σ : SG} (h : aXt k pc A = some L) (hA : gA KO A ν ρs lv st σ) (hI : Inv KD KO σ) :
    (xM k pc lv st σ = none) ∧ ∃ r : S4, xT k pc lv st σ = some r ∧ ∃ A' ν' ρs', (r.1, A') ∈ L ∧ gA KO A' ν' ρs' r.2.1 r.2.2.1 r.2.2.2 ∧ (ext ν ν' ∧ ext ρs ρs') ∧ Inv KD KO r.2.2.2 ∧ Fr KO ms σ r.2.2.2 := by
  have hs := hA.2.2.2.1
  unfold aXt at h
  split at h
  · next ix hi =>
    refine ⟨by unfold xM; rw [hi], ?_⟩
    split at h
    · next j hj =>
      split at h
      · next t ht =>
        cases h
        have e1 := ext.app ρs [sb + j]
        have hg : gS KO ν (ρs ++ [sb + j]) (.inr (some (100 + t.length, A.2.1))) (.ref (sb + j)) := ⟨sb + j, rfl, by rw [← hA.2.1]; exact app_last ρs _, hK.1 j t ht⟩
        refine ⟨(pc + 2, lv, .ref (sb + j) :: st, σ), ?_, _, ν, _, List.mem_singleton.mpr rfl, gA_S (gA_R hA (sb + j)) ⟨hg, hs.ext ext.rf e1⟩, ⟨ext.rf, e1⟩, hI, Fr.rf⟩
        unfold xT
        rw [hi]
        dsimp only
        rw [hj]
      · cases h
    · cases h
  · next ix hi =>
    refine ⟨by unfold xM; rw [hi], ?_⟩
    split at h
    · next cdn hj =>
      have hx : ∀ r, (if cdn = 0 then xL pc lv st σ else xA pc lv st σ) = some r → xT k pc lv st σ = some r := by
        intro r hr
        unfold xT
        rw [hi]
        dsimp only
        rw [hj]
        exact hr
      split at h
      · next h0 =>
        split at h
        · next κ ρ r e =>
          split at h
          · next hc =>
            cases h
            rw [e] at hs
            obtain ⟨v, vs, rfl, h1, h2⟩ := gL_1 hs
            obtain ⟨x, rfl, -, hko⟩ := h1
            obtain ⟨t, ht, rfl⟩ := hK.2 x κ hko hc.1.1 hc.1.2
            refine ⟨(pc + 3, lv, .int (Int32.ofNat t.length) :: vs, σ), hx _ ?_, _, ν, ρs, List.mem_singleton.mpr rfl, gA_S hA ⟨⟨_, rfl, len_ok (by omega)⟩, h2⟩, ⟨ext.rf, ext.rf⟩, hI, Fr.rf⟩
            rw [if_pos h0]
            simp only [xL, ht]
            rw [if_pos (by rw [catA_ok h2]; exact hc.2)]
          · cases h
        · cases h
      · next h0 =>
        split at h
        · next b κ ρ r e =>
          split at h
          · next hc =>
            cases h
            rw [e] at hs
            obtain ⟨v, vs', rfl, h1, h2⟩ := gL_1 hs
            obtain ⟨w, vs, rfl, h3, h4⟩ := gL_1 h2
            obtain ⟨y, rfl⟩ := gS_int h1
            obtain ⟨x, rfl, -, hko⟩ := h3
            obtain ⟨t, ht, rfl⟩ := hK.2 x κ hko hc.1.1 hc.1.2
            obtain ⟨x1, -⟩ := ix_ok hA hc.2.1 h1
            rw [show 100 + t.length - 100 = t.length by omega] at x1
            obtain ⟨ν', e1, e2⟩ := gA_P (x := t.getD y.toNatClampNeg 0) hA h4 (q := .inr ivT) (ivT_ok _)
            refine ⟨(pc + 3, lv, .int (t.getD y.toNatClampNeg 0) :: vs, σ), hx _ ?_, _, ν', ρs, List.mem_singleton.mpr rfl, e2, ⟨e1, ext.rf⟩, hI, Fr.rf⟩
            rw [if_neg h0]
            simp only [xA, ht]
            rw [if_pos ⟨x1, by rw [catA_ok h4]; exact hc.2.2⟩]
          · cases h
        · cases h
    · cases h
  · cases h
theorem G0_xOK {KD : List KDT} {KO : List Nat} (hK : KOS KO) : xOK KD KO G0 (aX KD) nX := by
  refine ⟨fun _ _ _ _ _ _ _ => rfl, fun ms k pc A L ν ρs lv st σ d h hA hI => ?_, fun k pc h d lv st σ => ?_⟩
  · unfold aX at h
    split at h
    · next L' hm =>
      cases h
      obtain ⟨r, h1, h2⟩ := aXm_ok hm hA hI
      refine ⟨r, ?_, h2⟩
      show XX d k pc lv st σ = _
      unfold XX
      rw [h1]
    · obtain ⟨h0, r, h1, h2⟩ := aXt_ok (ms := ms) hK h hA hI
      refine ⟨r, ?_, h2⟩
      show XX d k pc lv st σ = _
      unfold XX
      rw [h0]
      exact h1
  · simp only [nX, Bool.and_eq_true] at h
    show XX d k pc lv st σ = _
    unfold XX
    rw [nXm_ok h.1]
    exact nXt_ok h.2 lv st σ
