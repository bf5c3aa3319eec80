theorem osr_all : ((List.range 16).all (fun o => match ON[o]? with
  | some own => ((OSR[o]?).getD []).all (fun e => match strs[e.2]?, TXS[e.2]? with
    | some q, some _ => q.1 == own && q.2.1 == e.1
    | _, _ => false)
  | none => true)) = true := by decide +kernel
theorem osr_ok {o : Nat} {own : String} (h : ON[o]? = some own) {e : Nat × Nat} (he : e ∈ (OSR[o]?).getD []) : ∃ tx t, strs[e.2]? = some (own, e.1, tx) ∧ TXS[e.2]? = some t := by
  have hlt : o < 16 := (List.getElem?_eq_some_iff.mp h).1
  have h1 := List.all_eq_true.mp osr_all o (List.mem_range.mpr hlt)
  rw [h] at h1
  have h2 := List.all_eq_true.mp h1 e he
  split at h2
  · next q t hq ht =>
    simp only [Bool.and_eq_true, beq_iff_eq] at h2
    obtain ⟨a, b, c⟩ := q
    obtain ⟨rfl, rfl⟩ := h2
    exact ⟨c, t, hq, ht⟩
  · cases h2
def svE (own : String) (e : Nat × Nat) : Prop := (e.2 = 0 → CV own e.1 yJ0_length_8abf5 cJ0_length_8abf5 1 (some .int) 0) ∧ (¬ e.2 = 0 → CV own e.1 yJ0_charAt_5068e cJ0_charAt_5068e 2 (some .char) 1)
theorem osv_2_ok : ∀ e ∈ osv_2, svE RX2 e := fm_c ⟨fun _ => cq_X2_51, fun h => absurd rfl h⟩ (fm_c ⟨fun h => absurd h (by decide), fun _ => cq_X2_56⟩ fm_n)
theorem osv_12_ok : ∀ e ∈ osv_12, svE RX12 e := fm_c ⟨fun _ => cq_X12_134, fun h => absurd rfl h⟩ (fm_c ⟨fun h => absurd h (by decide), fun _ => cq_X12_140⟩ fm_n)
theorem osv_ok : ∀ (o : Nat) (own : String), ON[o]? = some own → ∀ e ∈ (OSV[o]?).getD [], svE own e := by
  intro o own h
  match o, h with
  | 0, h => cases h; exact fun e he => nomatch he
  | 1, h => cases h; exact fun e he => nomatch he
  | 2, h => cases h; exact osv_2_ok
  | 3, h => cases h; exact fun e he => nomatch he
  | 4, h => cases h; exact fun e he => nomatch he
  | 5, h => cases h; exact fun e he => nomatch he
  | 6, h => cases h; exact fun e he => nomatch he
  | 7, h => cases h; exact fun e he => nomatch he
  | 8, h => cases h; exact fun e he => nomatch he
  | 9, h => cases h; exact fun e he => nomatch he
  | 10, h => cases h; exact fun e he => nomatch he
  | 11, h => cases h; exact fun e he => nomatch he
  | 12, h => cases h; exact osv_12_ok
  | 13, h => cases h; exact fun e he => nomatch he
  | 14, h => cases h; exact fun e he => nomatch he
  | 15, h => cases h; exact fun e he => nomatch he
  | n + 16, h => exact absurd h (by rw [show ON[n + 16]? = none from rfl]; exact fun q => nomatch q)
theorem txt_of {h : Nat} {t : List Int32} (ht : txt h = some t) : ∃ j, h = sb + j ∧ TXS[j]? = some t := by
  unfold txt at ht
  split at ht
  · next hs => exact ⟨h - sb, by omega, ht⟩
  · cases ht
theorem xT_ok {l : Launch} {D : va_G} {cs ad : Nat → Nat} (hAd : ∀ j, ad (sb + j) = D.2 1000 j) {d k pc : Nat} {M : MI} {lv : LV} {st : List Value} {σ : SG} {r : S4} (hM : ntM k = some M) (hx : xT k pc lv st σ = some r) {p : Program} {e : Env} {s : State} {m : MethodId} {args : Array Value} {below : List Frame} {meth : Method} {c : Code} {H : Heap} {locs : List Loc} {ls : Array Slot} {A : Nat → Prop} {mc ms cells slots : Nat} {Q : State → Prop}
    (C : Cx p s m args meth c M.2.1 M.2.2.1 M.2.2.2.1 M.1 D (T4 cs) A) (hP : va_P D CL (wM cs ad σ) H) (hD : va_D A (wM cs ad σ)) (hS : va_S A s.heap H locs) (hl : lv_has ls M.2.2.1 (lM ad lv)) (hcc : cells ≤ mc) (hss : slots ≤ ms) (kk : Nx p l e (rmd d mc ms) s m args below meth c cells slots Q M.2.2.1 D cs ad A r) : W p l e (rmd d mc ms) s m args below meth c H locs cells slots Q (F0 m pc ls (st.map (vM ad))) := by
  obtain ⟨e9, he, rfl⟩ := ntM_G hM
  obtain ⟨l9, hl9, hel⟩ := mtG_mem he
  obtain ⟨-, -, h3⟩ := mtt_nm l9 hl9 e9 hel
  have hSk : ntS k = (OSR[e9.2.1]?).getD [] := by unfold ntS; rw [he]
  have hVk : ntV k = (OSV[e9.2.1]?).getD [] := by unfold ntV; rw [he]
  have hfr : ∀ j, j ≤ 4 → (rmS j).frames + 1 ≤ (rmd d mc ms).frames ∧ 8 + (2 + 11) + (rmS j).locals ≤ (rmd d mc ms).locals := by
    intro j hj
    simp only [rmS, rmd]
    omega
  unfold xT at hx
  split at hx
  · next ix hF =>
    have hdg : decode e9.1.2.1 pc = .ok (.ldc ix, 2) := ((nt_gM (X := XX)) k e9.1 hM).2.2.2 pc _ hF
    split at hx
    · next j hj =>
      cases hx
      rw [hSk] at hj
      obtain ⟨tx, t, h4, -⟩ := osr_ok h3 (lkp_mem hj)
      refine r_ldcS (j := j) (text := tx) C h4 hdg ?_
      have := kk H locs ls hP hD hS hl
      rw [List.map_cons] at this
      rw [← hAd j]
      exact this
    · cases hx
  · next ix hF =>
    have hdg : decode e9.1.2.1 pc = .ok (.invokevirtual ix, 3) := ((nt_gM (X := XX)) k e9.1 hM).2.2.2 pc _ hF
    split at hx
    · next cdn hj =>
      rw [hVk] at hj
      obtain ⟨s0, s1⟩ := osv_ok _ _ h3 _ (lkp_mem hj)
      split at hx
      · next h0 =>
        unfold xL at hx
        split at hx
        · next h r0 =>
          split at hx
          · next t ht =>
            split at hx
            · next h8 =>
              cases hx
              obtain ⟨j, rfl, hj9⟩ := txt_of ht
              have hV := C.2.2.2.2.2.2.2.1.2.2
              refine call_T (b := ad (sb + j)) (As := []) (rest := r0.map (vM ad)) (v := Int32.ofNat t.length) (k := 2) C (by rw [hAd]; exact tx_length hj9) (s0 h0) (by rw [hAd]; exact (hV.1 j t hj9).1) hP hD hS rfl hl.1 rfl (by rw [vM_sum]; exact h8) hdg ⟨(hfr 2 (by omega)).1, by have := (hfr 2 (by omega)).2; omega⟩ ⟨hcc, hss⟩ (fun H1 locs1 h1 h2 h3 => kk H1 locs1 ls h1 h2 h3 hl)
            · cases hx
          · cases hx
        · cases hx
      · next h0 =>
        unfold xA at hx
        split at hx
        · next x h r0 =>
          split at hx
          · next t ht =>
            split at hx
            · next h8 =>
              cases hx
              obtain ⟨j, rfl, hj9⟩ := txt_of ht
              have hV := C.2.2.2.2.2.2.2.1.2.2
              refine call_T (b := ad (sb + j)) (As := [.int x]) (rest := r0.map (vM ad)) (v := t.getD x.toNatClampNeg 0) (k := 4) C (by rw [hAd]; exact tx_charAt hj9 h8.1) (s1 h0) (by rw [hAd]; exact (hV.1 j t hj9).1) hP hD hS rfl hl.1 rfl (by rw [vM_sum]; exact h8.2) hdg (hfr 4 (by omega)) ⟨hcc, hss⟩ (fun H1 locs1 h1 h2 h3 => kk H1 locs1 ls h1 h2 h3 hl)
            · cases hx
          · cases hx
        · cases hx
    · cases hx
  · cases hx
theorem G0_gX {l : Launch} {D : va_G} {cs ad : Nat → Nat} (hAd : ∀ j, ad (sb + j) = D.2 1000 j) : gX l G0 D cs ad := by
  intro d k M pc lv st σ r hM hx p e s m args below meth c H locs ls A mc ms cells slots Q C hP hD hS hl hcc hss kk
  have hx : XX d k pc lv st σ = some r := hx
  unfold XX at hx
  split at hx
  · next r1 h1 =>
    cases hx
    exact xM_ok (X := XX) hM h1 C hP hD hS hl hcc hss kk
  · exact xT_ok hAd hM hx C hP hD hS hl hcc hss kk
/-- what ev says of the program holds of the machine -/
theorem G0_ok {l : Launch} {D : va_G} {cs ad : Nat → Nat} (hAd : ∀ j, ad (sb + j) = D.2 1000 j) (hlt : l.stackTraces = false) : ∀ f, BD l G0 D cs ad f := ev_ok nt_gM nt_gC nt_gT nt_gH (G0_gX hAd) hlt
