/-! abstract steps: fields and arrays -/
def segJ : List (Nat × IV) → Nat → Nat → Option IV
  | [], _, _ => none
  | q :: r, a, b => if b < q.1 then some q.2 else if q.1 ≤ a then segJ r (a - q.1) (b - q.1) else match segJ r 0 (b - q.1) with
    | some w => some (if q.2.1 ≤ w.1 then q.2.1 else w.1, if w.2 ≤ q.2.2 then q.2.2 else w.2)
    | none => none
theorem segJ_ok : ∀ (sg : List (Nat × IV)) (a b : Nat) (q : IV), segJ sg a b = some q → ∀ j, a ≤ j → j ≤ b → ∃ q', segAt sg j = some q' ∧ q.1 ≤ q'.1 ∧ q'.2 ≤ q.2
  | [], _, _, _, h, _, _, _ => by cases h
  | p :: r, a, b, q, h, j, h1, h2 => by
    unfold segJ at h
    unfold segAt
    split at h
    · cases h
      rw [if_pos (by omega)]
      exact ⟨_, rfl, Int.le_refl _, Int.le_refl _⟩
    · split at h
      · rw [if_neg (by omega)]
        exact segJ_ok r _ _ q h (j - p.1) (by omega) (by omega)
      · split at h
        · next w hw =>
          cases h
          split
          · exact ⟨_, rfl, by dsimp only; split <;> omega, by dsimp only; split <;> omega⟩
          · obtain ⟨q', e, h3, h4⟩ := segJ_ok r _ _ w hw (j - p.1) (by omega) (by omega)
            exact ⟨q', e, by dsimp only; split <;> omega, by dsimp only; split <;> omega⟩
        · cases h
def segW : List (Nat × IV) → Nat → Nat → IV → Bool
  | [], _, _, _ => true
  | q :: r, a, b, v => (decide (q.1 ≤ a) || (decide (q.2.1 ≤ v.1) && decide (v.2 ≤ q.2.2))) && (decide (b < q.1) || segW r (a - q.1) (b - q.1) v)
theorem segW_ok : ∀ (sg : List (Nat × IV)) (a b : Nat) (v : IV), segW sg a b v = true → ∀ j, a ≤ j → j ≤ b → ∀ q', segAt sg j = some q' → q'.1 ≤ v.1 ∧ v.2 ≤ q'.2
  | [], _, _, _, _, _, _, _, _, h => by cases h
  | p :: r, a, b, v, h, j, h1, h2, q', hq => by
    unfold segW at h
    simp only [Bool.and_eq_true, Bool.or_eq_true, decide_eq_true_eq] at h
    unfold segAt at hq
    split at hq
    · cases hq
      rcases h.1 with h3 | h3
      · omega
      · exact h3
    · rcases h.2 with h3 | h3
      · omega
      · exact segW_ok r _ _ v h3 (j - p.1) (by omega) (by omega) q' hq
def fcL (fc : List (Nat × Nat × Nat × AS)) (ρ k : Nat) : Option AS := (fc.find? (fun q => q.1 == ρ && q.2.1 == k)).map (fun q => q.2.2.2)
theorem fcL_mem {fc : List (Nat × Nat × Nat × AS)} {ρ k : Nat} {a : AS} (h : fcL fc ρ k = some a) : ∃ κ, (ρ, k, κ, a) ∈ fc := by
  unfold fcL at h
  cases hf : fc.find? (fun q => q.1 == ρ && q.2.1 == k) with
  | none => rw [hf] at h; cases h
  | some q =>
    rw [hf] at h
    have h1 := List.mem_of_find?_eq_some hf
    have h2 := List.find?_some hf
    simp at h2
    have h3 : q.2.2.2 = a := Option.some.inj h
    obtain ⟨x, y, w, z⟩ := q
    obtain ⟨rfl, rfl⟩ := h2
    subst h3
    exact ⟨w, h1⟩
def sF (A : AC) (fc : List (Nat × Nat × Nat × AS)) : AC := (A.1, A.2.1, A.2.2.1, A.2.2.2.1, fc, A.2.2.2.2.2)
def inI (q w : IV) : Bool := decide (w.1 ≤ q.1) && decide (q.2 ≤ w.2)
theorem inI_ok {q w : IV} {x : Int} (h : inI q w = true) (h1 : q.1 ≤ x) (h2 : x ≤ q.2) : w.1 ≤ x ∧ x ≤ w.2 := by
  simp only [inI, Bool.and_eq_true, decide_eq_true_eq] at h
  omega
def fitA (sy : List IV) (ty : FieldType) (av : AV) (a : AS) : Bool := match ty, av, a with
  | .int, .inl q, .inl b => inI (ivS sy (.inl b)) q
  | .boolean, .inl q, .inl b => inI (ivS sy (.inl b)) q && inI (ivS sy (.inl b)) (0, 1)
  | .long, .inr none, .inr none => true
  | _, _, _ => false
def aG (KD : List KDT) (K : LK) (ms : List (Nat × Nat)) (pc : Nat) (i : Instr) (A : AC) : Option AL := match i with
  | .getfield ix => match K.1 ix, A.2.2.2.1 with
    | some (ci, k, _, _), .inr (some (κ, ρ)) :: r => match KD[κ]? with
      | some (.inl o) => if o.1 = ci then (match fcL A.2.2.2.2.1 ρ k with
        | some a => some [(pc + 3, sS A (a :: r))]
        | none => match o.2[k]? with
          | some (.inl q) => some [(pc + 3, sF (sS (fI A q) (.inl (some A.1.length, 0) :: r)) ((ρ, k, κ, .inl (some A.1.length, 0)) :: A.2.2.2.2.1))]
          | some (.inr none) => some [(pc + 3, sS A (.inr none :: r))]
          | some (.inr (some κ')) => some [(pc + 3, sF (sS (fR A) (.inr (some (κ', A.2.1)) :: r)) ((ρ, k, κ, .inr (some (κ', A.2.1))) :: A.2.2.2.2.1))]
          | none => none) else none
      | _ => none
    | _, _ => none
  | .putfield ix => match K.1 ix, A.2.2.2.1 with
    | some (ci, k, ty, false), a :: .inr (some (κ, ρ)) :: r => match KD[κ]? with
      | some (.inl o) => match o.2[k]? with
        | some av => if o.1 = ci ∧ fitA A.1 ty av a = true ∧ ms.contains (κ, k) = true then some [(pc + 3, sF (sS A r) ((ρ, k, κ, a) :: A.2.2.2.2.1.filter (fun q => !(q.2.1 == k && q.2.2.1 == κ))))] else none
        | none => none
      | _ => none
    | _, _ => none
  | _ => none
section Hp
variable {KD : List KDT} {KO : List Nat} {G : TB} {k n pc : Nat} {i : Instr} {A : AC} {ν : List Int} {ρs : List Nat} {lv : LV} {st : List Value} {σ : SG} {L : AL} {ms : List (Nat × Nat)}
theorem set_lt {h : Nat} {e e' : va_E} (hh : σ[h]? = some e) : (σ.set h e')[h]? = some e' := by
  rw [List.getElem?_set_self (List.getElem?_eq_some_iff.mp hh).1]
theorem set_ne' {h h' : Nat} {e' : va_E} (hn : ¬ h' = h) : (σ.set h e')[h']? = σ[h']? := by
  rw [List.getElem?_set_ne (fun e => hn e.symm)]
theorem Inv_set (hI : Inv KD KO σ) {h κ : Nat} {kd : KDT} {e e' : va_E} (hk : KO[h]? = some κ) (hd : KD[κ]? = some kd) (hh : σ[h]? = some e) (hc : cellOK KO kd e') : Inv KD KO (σ.set h e') := by
  intro x κ' kd' hx hkd
  by_cases hn : x = h
  · subst hn
    cases hk.symm.trans hx
    cases hd.symm.trans hkd
    exact ⟨e', set_lt hh, hc⟩
  · obtain ⟨e0, h2, h3⟩ := hI x κ' kd' hx hkd
    exact ⟨e0, (set_ne' hn).trans h2, h3⟩
theorem fld_of {h c : Nat} {fs : List Value} (hh : σ[h]? = some (.inr (c, fs))) (k : Nat) : fld σ h k = fs[k]? := by unfold fld; rw [hh]
theorem fld_set {h c k k' h' : Nat} {fs : List Value} {v : Value} (hh : σ[h]? = some (.inr (c, fs))) (hn : ¬ k' = k) : fld (σ.set h (.inr (c, fs.set k v))) h' k' = fld σ h' k' := by
  by_cases e : h' = h
  · subst e
    rw [fld_of (set_lt hh), fld_of hh, List.getElem?_set_ne (fun e => hn e.symm)]
  · unfold fld
    rw [set_ne' e]
theorem fld_arr {h h' k' : Nat} {a a' : Nat × vp_A} (hh : σ[h]? = some (.inl a)) : fld (σ.set h (.inl a')) h' k' = fld σ h' k' := by
  by_cases e : h' = h
  · subst e
    unfold fld
    rw [set_lt hh, hh]
  · unfold fld
    rw [set_ne' e]
theorem Fr_fld {h κ c k : Nat} {fs : List Value} {v : Value} (hk : KO[h]? = some κ) (hh : σ[h]? = some (.inr (c, fs))) (hm : (κ, k) ∈ ms) : Fr KO ms σ (σ.set h (.inr (c, fs.set k v))) := by
  refine ⟨List.length_set, fun x κ' hx => ⟨fun k' hk' => ?_, fun _ => ?_⟩⟩
  · by_cases e : x = h
    · subst e
      cases hk.symm.trans hx
      exact fld_set hh (fun e => hk' (by rw [e]; exact hm))
    · unfold fld
      rw [set_ne' e]
  · by_cases e : x = h
    · subst e
      unfold arr
      rw [set_lt hh, hh]
    · unfold arr
      rw [set_ne' e]
theorem Fr_arr {h κ : Nat} {a a' : Nat × vp_A} (hk : KO[h]? = some κ) (hh : σ[h]? = some (.inl a)) (hm : (κ, 0) ∈ ms) : Fr KO ms σ (σ.set h (.inl a')) := by
  refine ⟨List.length_set, fun x κ' hx => ⟨fun k' _ => fld_arr hh, fun hk' => ?_⟩⟩
  by_cases e : x = h
  · subst e
    cases hk.symm.trans hx
    exact absurd hm hk'
  · unfold arr
    rw [set_ne' e]
theorem gA_F (hA : gA KO A ν ρs lv st σ) {fc : List (Nat × Nat × Nat × AS)} {σ' : SG} (h : ∀ q ∈ fc, ∃ h v, ρs[q.1]? = some h ∧ KO[h]? = some q.2.2.1 ∧ fld σ' h q.2.1 = some v ∧ gS KO ν ρs q.2.2.2 v) : gA KO (sF A fc) ν ρs lv st σ' := ⟨hA.1, hA.2.1, hA.2.2.1, hA.2.2.2.1, h, hA.2.2.2.2.2⟩
theorem fit_ok (hA : gA KO A ν ρs lv st σ) {ty : FieldType} {av : AV} {a : AS} {v : Value} (h : fitA A.1 ty av a = true) (hg : gS KO ν ρs a v) : narrow ty v = v ∧ fits ty v = true ∧ gV KO av v := by
  unfold fitA at h
  split at h
  · obtain ⟨x, rfl⟩ := gS_int hg
    have hb := ivS_ok hA.1.2 hg
    exact ⟨rfl, rfl, x, rfl, inI_ok h hb.1 hb.2⟩
  · obtain ⟨x, rfl⟩ := gS_int hg
    have hb := ivS_ok hA.1.2 hg
    simp only [Bool.and_eq_true] at h
    have h2 := inI_ok h.2 hb.1 hb.2
    dsimp only at h2
    have hx : x = 0 ∨ x = 1 := by
      rcases (show x.toInt = 0 ∨ x.toInt = 1 by omega) with e | e
      · exact Or.inl (Int32.toInt_inj.mp e)
      · exact Or.inr (Int32.toInt_inj.mp e)
    refine ⟨?_, ?_, x, rfl, inI_ok h.1 hb.1 hb.2⟩
    · rcases hx with rfl | rfl <;> rfl
    · rcases hx with rfl | rfl <;> rfl
  · obtain ⟨x, rfl⟩ := hg
    exact ⟨rfl, rfl, x, rfl⟩
  · cases h
theorem simH_get {ix ci k h : Nat} {ty : FieldType} {fin : Bool} {fs vs : List Value} {v : Value} {K : LK} (hK : K.1 ix = some (ci, k, ty, fin)) (hh : σ[h]? = some (.inr (ci, fs))) (hv : fs[k]? = some v) : simH K pc (.getfield ix) lv (.ref h :: vs) σ = some (pc + 3, lv, v :: vs, σ) := by
  simp only [simH, hK, hh, hv, if_true]
theorem simH_put {ix ci k h : Nat} {ty : FieldType} {fs vs : List Value} {v : Value} {K : LK} (hK : K.1 ix = some (ci, k, ty, false)) (hh : σ[h]? = some (.inr (ci, fs))) (hk : k < fs.length) (hn : narrow ty v = v) (hf : fits ty v = true) : simH K pc (.putfield ix) lv (v :: .ref h :: vs) σ = some (pc + 3, lv, vs, σ.set h (.inr (ci, fs.set k v))) := by
  simp only [simH, hK, hh, hk, hn, hf, and_self, if_true]
theorem aG_ok (hA : gA KO A ν ρs lv st σ) (hI : Inv KD KO σ) (h : aG KD (tbK G k) ms pc i A = some L) : aStp KD KO ms G k n pc i L ν ρs lv st σ := by
  have hs := hA.2.2.2.1
  unfold aG at h
  split at h
  · next ix =>
    split at h
    · next ci kk ty fin κ ρ r hK e =>
      split at h
      · next o ho =>
        split at h
        · next hci =>
          rw [e] at hs
          obtain ⟨v, vs, rfl, h1, h2⟩ := gL_1 hs
          obtain ⟨hd, rfl, hρ, hko⟩ := h1
          obtain ⟨e0, i2, i3⟩ := hI hd κ _ hko ho
          obtain ⟨fs, rfl, i4⟩ := i3
          subst hci
          have hsim : ∀ v, fs[kk]? = some v → sim G k n pc (.getfield ix) lv (.ref hd :: vs) σ = some (pc + 3, lv, v :: vs, σ) := fun v hv => sim_H rfl rfl (simA_no (fun _ _ => rfl) (fun _ _ => rfl) (fun _ _ => rfl)) rfl (simH_get hK i2 hv)
          split at h
          · next a ha =>
            cases h
            obtain ⟨κ9, hm9⟩ := fcL_mem ha
            obtain ⟨hd', v, c1, -, c2, c3⟩ := hA.2.2.2.2.1 _ hm9
            cases hρ.symm.trans c1
            rw [fld_of i2] at c2
            exact stp1 (hsim v c2) rfl (gA_S hA ⟨c3, h2⟩) ext.rf hI rfl
          · split at h
            · next q hav =>
              cases h
              obtain ⟨v, hv, x, rfl, x1, x2⟩ := i4 kk _ hav
              have e1 := ext.app ν [x.toInt]
              have hA1 := gA_I hA x1 x2
              have hg : gS KO (ν ++ [x.toInt]) ρs (.inl (some A.1.length, 0)) (.int x) := ⟨x, x.toInt, rfl, by rw [← hA.1.1]; exact app_last ν _, by omega⟩
              have hA2 := gA_S hA1 (as := .inl (some A.1.length, 0) :: r) (st' := .int x :: vs) ⟨hg, h2.ext e1 ext.rf⟩
              refine stp1 (hsim _ hv) rfl (gA_F hA2 (fun q hq => ?_)) e1 hI rfl
              rcases List.mem_cons.mp hq with rfl | hq
              · exact ⟨hd, .int x, hρ, hko, by rw [fld_of i2]; exact hv, hg⟩
              · exact hA1.2.2.2.2.1 q hq
            · next hav =>
              cases h
              obtain ⟨v, hv, x, rfl⟩ := i4 kk _ hav
              exact stp1 (hsim _ hv) rfl (gA_S hA ⟨⟨x, rfl⟩, h2⟩) ext.rf hI rfl
            · next κ' hav =>
              cases h
              obtain ⟨v, hv, x, rfl, hx⟩ := i4 kk _ hav
              have e1 := ext.app ρs [x]
              have hA1 := gA_R hA x
              have hg : gS KO ν (ρs ++ [x]) (.inr (some (κ', A.2.1))) (.ref x) := ⟨x, rfl, by rw [← hA.2.1]; exact app_last ρs _, hx⟩
              have hA2 := gA_S hA1 (as := .inr (some (κ', A.2.1)) :: r) (st' := .ref x :: vs) ⟨hg, h2.ext ext.rf e1⟩
              refine stpR (hsim _ hv) rfl (gA_F hA2 (fun q hq => ?_)) hI rfl
              rcases List.mem_cons.mp hq with rfl | hq
              · exact ⟨hd, .ref x, e1 _ _ hρ, hko, by rw [fld_of i2]; exact hv, hg⟩
              · exact hA1.2.2.2.2.1 q hq
            · cases h
        · cases h
      · cases h
    · cases h
  · next ix =>
    split at h
    · next ci kk ty a κ ρ r hK e =>
      split at h
      · next o ho =>
        split at h
        · next av hav =>
          split at h
          · next hc =>
            obtain ⟨hci, hfit, hms⟩ := hc
            cases h
            have hms : (κ, kk) ∈ ms := by simpa using hms
            rw [e] at hs
            obtain ⟨v, vs', rfl, h1, h2⟩ := gL_1 hs
            obtain ⟨w, vs, rfl, h3, h4⟩ := gL_1 h2
            obtain ⟨hd, rfl, hρ, hko⟩ := h3
            obtain ⟨e0, i2, i3⟩ := hI hd κ _ hko ho
            obtain ⟨fs, rfl, i4⟩ := i3
            subst hci
            obtain ⟨f1, f2, f3⟩ := fit_ok hA hfit h1
            obtain ⟨v0, hv0, -⟩ := i4 kk av hav
            have hlt := (List.getElem?_eq_some_iff.mp hv0).1
            have hset : ∀ j, (fs.set kk v)[j]? = if j = kk then some v else fs[j]? := by
              intro j
              by_cases hj : j = kk
              · subst hj; rw [if_pos rfl, List.getElem?_set_self hlt]
              · rw [if_neg hj, List.getElem?_set_ne (fun e => hj e.symm)]
            refine ⟨_, sim_H rfl rfl (simA_no (fun _ _ => rfl) (fun _ _ => rfl) (fun _ _ => rfl)) rfl (simH_put hK i2 hlt f1 f2), _, ν, ρs, List.mem_singleton.mpr rfl, gA_F (gA_S hA h4) (fun q hq => ?_), ⟨ext.rf, ext.rf⟩, Inv_set hI hko ho i2 ⟨_, rfl, fun j av' hj => ?_⟩, Fr_fld hko i2 hms⟩
            · rcases List.mem_cons.mp hq with rfl | hq
              · exact ⟨hd, v, hρ, hko, by rw [fld_of (set_lt i2), hset, if_pos rfl], h1⟩
              · have hm := List.mem_filter.mp hq
                obtain ⟨x, w, c1, ck, c2, c3⟩ := hA.2.2.2.2.1 q hm.1
                by_cases hne : q.2.1 = kk
                · have hk9 : ¬ q.2.2.1 = κ := by simpa [hne] using hm.2
                  have hx : ¬ x = hd := fun e9 => hk9 (by rw [e9] at ck; exact Option.some.inj (ck.symm.trans hko))
                  refine ⟨x, w, c1, ck, ?_, c3⟩
                  rw [← c2]
                  unfold fld
                  rw [set_ne' hx]
                · exact ⟨x, w, c1, ck, (fld_set i2 hne).trans c2, c3⟩
            · by_cases hjk : j = kk
              · subst hjk
                cases hav.symm.trans hj
                exact ⟨v, by rw [hset, if_pos rfl], f3⟩
              · rw [hset, if_neg hjk]
                exact i4 j av' hj
          · cases h
        · cases h
      · cases h
    · cases h
  · cases h
end Hp
