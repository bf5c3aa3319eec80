/-! a small method, run in place: its ends, each with what is known there -/
def retV (sy : List IV) (ret : Option FieldType) (i : Instr) (st : List AS) : Option (Option AS) := match ret, i, st with
  | none, .return_, [] => some none
  | some .int, .ireturn, [.inl a] => some (some (.inl a))
  | some .boolean, .ireturn, [.inl a] => if inI (ivS sy (.inl a)) (0, 1) = true then some (some (.inl a)) else none
  | some .long, .lreturn, [.inr none] => some (some (.inr none))
  | some (.object _), .areturn, [.inr (some r)] => some (some (.inr (some r)))
  | _, _, _ => none
def vOK (KO : List Nat) (ν : List Int) (ρs : List Nat) : Option AS → Option Value → Prop
  | none, none => True
  | some a, some v => gS KO ν ρs a v
  | _, _ => False
def colL {α β : Type} (f : α → Option (List β)) : List α → Option (List β)
  | [] => some []
  | x :: r => match f x, colL f r with
    | some a, some b => some (a ++ b)
    | _, _ => none
theorem colL_ok {α β : Type} {f : α → Option (List β)} : ∀ {L : List α} {out : List β}, colL f L = some out → ∀ x ∈ L, ∃ a, f x = some a ∧ ∀ y ∈ a, y ∈ out
  | [], _, _, x, hx => by cases hx
  | y :: r, out, h, x, hx => by
    unfold colL at h
    split at h
    · next a b h1 h2 =>
      cases h
      rcases List.mem_cons.mp hx with rfl | hx
      · exact ⟨a, h1, fun z hz => List.mem_append_left _ hz⟩
      · obtain ⟨c, h3, h4⟩ := colL_ok h2 x hx
        exact ⟨c, h3, fun z hz => List.mem_append_right _ (h4 z hz)⟩
    · cases h
def locS : Nat → List AS → List (Nat × AS)
  | _, [] => []
  | i, a :: r => (i, a) :: locS (if isL a = true then i + 2 else i + 1) r
def calS (A : AC) (as : List AS) : AC := (A.1, A.2.1, locS 0 as, [], A.2.2.2.2)
def mrA (A B : AC) (rs : List AS) (v : Option AS) : AC := (B.1, B.2.1, A.2.2.1, (match v with
  | none => rs
  | some a => a :: rs), B.2.2.2.2)
abbrev IOt : Type := (Option AS ⊕ String) × AC
def inlA (KD : List KDT) (G : TB) (aX : XAT) (nX : Nat → Nat → Bool) (ms : List (Nat × Nat)) : Nat → Nat → Nat → Nat → AC → Option (List IOt)
  | 0, _, _, _, _ => none
  | f + 1, k, d, pc, A => match aX ms k pc A with
    | some L => colL (fun q => inlA KD G aX nX ms f k d q.1 q.2) L
    | none => if nX k pc = true then (match tbM G k, tbF G k pc with
      | some M, some i => match aStep KD (tbK G k) ms M.2.2.1 pc i A with
        | some L => colL (fun q => inlA KD G aX nX ms f k d q.1 q.2) L
        | none => match retV A.1 M.2.2.2.1 i A.2.2.2.1 with
          | some v => some [(.inl v, A)]
          | none => match i with
            | .new _ => match tbT G k pc with
              | some e => if M.2.2.2.2 = [] ∧ catA A.2.2.2.1 ≤ 8 then some [(.inr e, A)] else none
              | none => none
            | _ => match tbT G k pc, calA KD G k i A, d with
              | none, some (k', kd, as, rs), d' + 1 => match inlA KD G aX nX ms f k' d' 0 (calS A as) with
                | some outs => colL (fun q => match q.1 with
                  | .inl v => inlA KD G aX nX ms f k (d' + 1) (pc + 3) (mrA A q.2 rs v)
                  | .inr e => if M.2.2.2.2 = [] ∧ kd < 2 then some [(.inr e, q.2)] else none) outs
                | none => none
              | _, _, _ => none
      | _, _ => none) else none
theorem sim_new {G : TB} {k n pc : Nat} {lv : LV} {st : List Value} {σ : SG} (ik : Nat) : sim G k n pc (.new ik) lv st σ = none := by
  unfold sim
  rw [show simA pc (.new ik) lv st σ = none from simA_no (fun _ _ => rfl) (fun _ _ => rfl) (fun _ _ => rfl)]
  rfl
theorem rtn_new {ret : Option FieldType} {st : List Value} (ik : Nat) : rtn ret (.new ik) st = none := by
  unfold rtn; split <;> first | rfl | (next h9 => cases h9)
section Inl
variable {KD : List KDT} {KO : List Nat} {G : TB} {aX : XAT} {nX : Nat → Nat → Bool} {k n pc : Nat} {i : Instr} {A : AC} {ν : List Int} {ρs : List Nat} {lv : LV} {st : List Value} {σ : SG} {ms : List (Nat × Nat)}
theorem retV_ok (hA : gA KO A ν ρs lv st σ) {ret : Option FieldType} {v : Option AS} (h : retV A.1 ret i A.2.2.2.1 = some v) : ∃ r, rtn ret i st = some r ∧ vOK KO ν ρs v r ∧ ∀ (nL : Nat) (lv' : LV), sim G k nL pc i lv' st σ = none := by
  have hs := hA.2.2.2.1
  generalize hB : A.2.2.2.1 = as at h hs
  unfold retV at h
  split at h
  · cases h
    match st, hs with
    | [], _ => exact ⟨none, rfl, trivial, fun nL lv' => rfl⟩
  · cases h
    obtain ⟨v, vs, rfl, h1, h2⟩ := gL_1 hs
    match vs, h2 with
    | [], _ =>
      obtain ⟨x, rfl⟩ := gS_int h1
      exact ⟨some (.int x), rfl, h1, fun nL lv' => rfl⟩
  · split at h
    · next h01 =>
      cases h
      obtain ⟨v, vs, rfl, h1, h2⟩ := gL_1 hs
      match vs, h2 with
      | [], _ =>
        obtain ⟨x, rfl⟩ := gS_int h1
        have hb := ivS_ok hA.1.2 h1
        have h01 := inI_ok h01 hb.1 hb.2
        dsimp only at h01
        have hx : x = 0 ∨ x = 1 := by
          rcases (show x.toInt = 0 ∨ x.toInt = 1 by omega) with e | e
          · exact Or.inl (Int32.toInt_inj.mp e)
          · exact Or.inr (Int32.toInt_inj.mp e)
        refine ⟨some (.int x), ?_, h1, fun nL lv' => rfl⟩
        show (if x = 0 ∨ x = 1 then some (some (Value.int x)) else none) = _
        rw [if_pos hx]
    · cases h
  · cases h
    obtain ⟨v, vs, rfl, h1, h2⟩ := gL_1 hs
    match vs, h2 with
    | [], _ =>
      have h1' := h1
      obtain ⟨x, rfl⟩ := h1
      exact ⟨some (.long x), rfl, h1', fun nL lv' => rfl⟩
  · cases h
    obtain ⟨v, vs, rfl, h1, h2⟩ := gL_1 hs
    match vs, h2 with
    | [], _ =>
      have h1' := h1
      obtain ⟨x, rfl, -, e⟩ := h1
      exact ⟨some (.ref x), rfl, h1', fun nL lv' => rfl⟩
  · cases h
theorem locS_ok : ∀ (as : List AS) (vs : List Value) (i : Nat), gL KO ν ρs as vs → ∀ q ∈ locS i as, i ≤ q.1 ∧ ∃ v, lget (lv_args i vs) q.1 = some v ∧ gS KO ν ρs q.2 v
  | [], _, _, _, q, hq => by cases hq
  | a :: r, v :: vs, i, h, q, hq => by
    have hc : (if isL a = true then i + 2 else i + 1) = (if v.category = 2 then i + 2 else i + 1) := by
      by_cases hl : isL a = true
      · have : v.category = 2 := by
          match a, hl, h.1 with
          | .inr none, _, h1 => obtain ⟨x, rfl⟩ := h1; rfl
        rw [if_pos hl, if_pos this]
      · rw [if_neg hl, if_neg (by rw [isL_cat h.1 hl]; decide)]
    have hv : lv_args i (v :: vs) = (i, v) :: lv_args (if v.category = 2 then i + 2 else i + 1) vs := rfl
    rw [hv]
    unfold locS at hq
    rw [hc] at hq
    rcases List.mem_cons.mp hq with rfl | hq
    · exact ⟨Nat.le_refl _, v, lget_new _ _ _, h.1⟩
    · obtain ⟨h1, w, h2, h3⟩ := locS_ok r vs _ h.2 q hq
      have : i < q.1 := by split at h1 <;> omega
      exact ⟨by omega, w, lget_old _ (by omega) h2, h3⟩
  | _ :: _, [], _, h, _, _ => h.elim
theorem calS_ok (hA : gA KO A ν ρs lv st σ) {as : List AS} {av : List Value} (h : gL KO ν ρs as av) : gA KO (calS A as) ν ρs (lv_args 0 av) [] σ := ⟨hA.1, hA.2.1, fun q hq => (locS_ok as av 0 h q hq).2, trivial, hA.2.2.2.2⟩
/-- what is known at an end -/
def sIn (KO : List Nat) (q : AC) (ν : List Int) (ρs : List Nat) (σ : SG) : Prop := hN q.1 ν ∧ ρs.length = q.2.1 ∧ gF KO ν ρs σ q.2.2.2.2
def oI (KO : List Nat) (q : Option AS ⊕ String) (ν : List Int) (ρs : List Nat) (c0 c' : Nat) (o : OC) : Prop := match q, o with
  | .inl v, .inr r => c' = c0 ∧ vOK KO ν ρs v r
  | .inr e, .inl e' => e = e' ∧ c' = c0 + 1
  | _, _ => False
theorem mrA_ok (hA : gA KO A ν ρs lv st σ) {rs : List AS} {rest : List Value} (hr : gL KO ν ρs rs rest) {ν' : List Int} {ρs' : List Nat} (x1 : ext ν ν') (x2 : ext ρs ρs') {B : AC} {σ' : SG} (hB : sIn KO B ν' ρs' σ') {v : Option AS} {r : Option Value} (h : vOK KO ν' ρs' v r) : gA KO (mrA A B rs v) ν' ρs' lv (psh r rest) σ' := by
  refine ⟨hB.1, hB.2.1, fun q hq => ?_, ?_, hB.2.2⟩
  · obtain ⟨w, e1, e2⟩ := hA.2.2.1 q hq
    exact ⟨w, e1, e2.ext x1 x2⟩
  · match v, r, h with
    | none, none, _ => exact hr.ext x1 x2
    | some a, some w, h => exact ⟨h, hr.ext x1 x2⟩
theorem inlA_ok (hX : xOK KD KO G aX nX) : ∀ (f k d pc : Nat) (A : AC) (outs : List IOt), inlA KD G aX nX ms f k d pc A = some outs → ∀ (ν : List Int) (ρs : List Nat) (lv : LV) (st : List Value) (σ : SG) (c0 : Nat), gA KO A ν ρs lv st σ → Inv KD KO σ →
    ∃ (F c' : Nat) (o : OC) (σ' : SG) (ν' : List Int) (ρs' : List Nat) (q : IOt), ev G F d k pc lv st c0 σ = some (c', o, σ') ∧ q ∈ outs ∧ ext ν ν' ∧ ext ρs ρs' ∧ sIn KO q.2 ν' ρs' σ' ∧ oI KO q.1 ν' ρs' c0 c' o ∧ Inv KD KO σ' ∧ Fr KO ms σ σ' := by
  intro f
  induction f with
  | zero => intro k d pc A outs h; cases h
  | succ f ih =>
    intro k d pc A outs h ν ρs lv st σ c0 hA hI
    unfold inlA at h
    split at h
    · next L hL =>
      obtain ⟨r, hr, A', ν1, ρ1, hmem, g1, g2, g3, g4⟩ := hX.2.1 _ _ _ _ _ _ _ _ _ _ d hL hA hI
      obtain ⟨a, h1, h2⟩ := colL_ok h _ hmem
      obtain ⟨F, c', o, σ', ν', ρs', q, e1, e2, e3, e4, e5, e6, e7, e8⟩ := ih _ _ _ _ _ h1 ν1 ρ1 _ _ _ c0 g1 g3
      exact ⟨F + 1, c', o, σ', ν', ρs', q, by rw [ev_x hr]; exact e1, h2 _ e2, g2.1.tr e3, g2.2.tr e4, e5, e6, e7, g4.tr e8⟩
    · split at h
      · next hn =>
        have hx := fun d lv st σ => hX.2.2 _ _ hn d lv st σ
        split at h
        · next M i hM hi =>
          split at h
          · next L hL =>
            obtain ⟨r, hr, A', ν1, ρ1, hmem, g1, g2, g3, g4⟩ := aStep_ok hA hI hL
            obtain ⟨a, h1, h2⟩ := colL_ok h _ hmem
            obtain ⟨F, c', o, σ', ν', ρs', q, e1, e2, e3, e4, e5, e6, e7, e8⟩ := ih _ _ _ _ _ h1 ν1 ρ1 _ _ _ c0 g1 g3
            exact ⟨F + 1, c', o, σ', ν', ρs', q, by rw [ev_sim (hx _ _ _ _) hM hi hr]; exact e1, h2 _ e2, g2.1.tr e3, g2.2.tr e4, e5, e6, e7, g4.tr e8⟩
          · split at h
            · next v hv =>
              cases h
              obtain ⟨r, r1, r2, r3⟩ := retV_ok (G := G) (k := k) (pc := pc) hA hv
              exact ⟨1, c0, .inr r, σ, ν, ρs, _, ev_ret (hx _ _ _ _) hM hi (r3 _ _) r1, List.mem_singleton.mpr rfl, ext.rf, ext.rf, ⟨hA.1, hA.2.1, hA.2.2.2.2⟩, ⟨rfl, r2⟩, hI, Fr.rf⟩
            · split at h
              · split at h
                · next e hT =>
                  split at h
                  · next hc =>
                    cases h
                    exact ⟨1, c0 + 1, .inl e, σ, ν, ρs, _, ev_thr (hx _ _ _ _) hM hi (sim_new _) (rtn_new _) hT ⟨hc.1, by rw [catA_ok hA.2.2.2.1]; exact hc.2⟩, List.mem_singleton.mpr rfl, ext.rf, ext.rf, ⟨hA.1, hA.2.1, hA.2.2.2.2⟩, ⟨rfl, rfl⟩, hI, Fr.rf⟩
                  · cases h
                · cases h
              · split at h
                · next k' kd as rs d' hT hcal =>
                  split at h
                  · next outs1 hout =>
                    obtain ⟨av, rest, q1, q2, q3, q4, q5⟩ := calA_ok (pc := pc) hA hI hcal
                    obtain ⟨F1, c1, o1, σ1, ν1, ρ1, q, e1, e2, e3, e4, e5, e6, e7, e8⟩ := ih _ _ _ _ _ hout ν ρs (lv_args 0 av) [] σ 0 (calS_ok hA q2) hI
                    obtain ⟨a, h1, h2⟩ := colL_ok h _ e2
                    match hq1 : q.1, o1, e6 with
                    | .inl v, .inr r, oq =>
                      rw [hq1] at h1
                      obtain ⟨o1, o2⟩ := oq
                      subst o1
                      obtain ⟨F2, c2, o', σ2, ν2, ρ2, p, b1, b2, b3, b4, b5, b6, b7, b8⟩ := ih _ _ _ _ _ h1 ν1 ρ1 lv (psh r rest) σ1 c0 (mrA_ok hA q3 e3 e4 e5 o2) e7
                      refine ⟨max F1 F2 + 1, c2, o', σ2, ν2, ρ2, p, ?_, h2 _ b2, e3.tr b3, e4.tr b4, b5, b6, b7, e8.tr b8⟩
                      rw [ev_cal (hx _ _ _ _) hM hi (q4 _ _) (q5 _) hT q1 (ev_up G hX.1 F1 (max F1 F2) _ _ _ _ _ _ _ _ _ (Nat.le_max_left _ _) (Nat.le_refl _) e1)]
                      exact ev_up G hX.1 F2 (max F1 F2) _ _ _ _ _ _ _ _ _ (Nat.le_max_right _ _) (Nat.le_refl _) b1
                    | .inr e, .inl e', oq =>
                      rw [hq1] at h1
                      obtain ⟨o1, o2⟩ := oq
                      subst o1
                      dsimp only at h1
                      split at h1
                      · next hc =>
                        cases h1
                        refine ⟨F1 + 1, c0 + c1, .inl e, σ1, ν1, ρ1, (.inr e, q.2), ?_, h2 _ (List.mem_singleton.mpr rfl), e3, e4, e5, ⟨rfl, by omega⟩, e7, e8⟩
                        exact ev_calX (hx _ _ _ _) hM hi (q4 _ _) (q5 _) hT q1 (by omega) hc.1 e1
                      · cases h1
                    | .inl v, .inl e', oq => exact (show False from oq).elim
                    | .inr e, .inr r, oq => exact (show False from oq).elim
                  · cases h
                · cases h
        · cases h
      · cases h
end Inl
