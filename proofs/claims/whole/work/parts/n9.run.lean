/-! a contract: method, arguments, answer, exceptions, what may move, depth, exceptions that it may have caught, cut points -/
abbrev KF : Type := Nat × Nat × IV
abbrev CTR : Type := Nat × List AV × Option AV × List String × List (Nat × Nat) × Nat × Nat × List CUT × List KF × List KF
def kK (E : CTR) : Nat := E.1
def kA (E : CTR) : List AV := E.2.1
def kR (E : CTR) : Option AV := E.2.2.1
def kT (E : CTR) : List String := E.2.2.2.1
def kM (E : CTR) : List (Nat × Nat) := E.2.2.2.2.1
def kD (E : CTR) : Nat := E.2.2.2.2.2.1
def kC (E : CTR) : Nat := E.2.2.2.2.2.2.1
def kU (E : CTR) : List CUT := E.2.2.2.2.2.2.2.1
/-- what must be known of fields (kind, field, interval) before, and what is known after -/
def kP (E : CTR) : List KF := E.2.2.2.2.2.2.2.2.1
def kQ (E : CTR) : List KF := E.2.2.2.2.2.2.2.2.2
def FK (KO : List Nat) (P : List KF) (σ : SG) : Prop := ∀ q ∈ P, ∀ h : Nat, KO[h]? = some q.1 → ∃ x : Int32, fld σ h q.2.1 = some (.int x) ∧ q.2.2.1 ≤ x.toInt ∧ x.toInt ≤ q.2.2.2
/-- kinds of one cell alone -/
def Sg (KO : List Nat) (P : List KF) : Prop := ∀ q ∈ P, ∀ h h' : Nat, KO[h]? = some q.1 → KO[h']? = some q.1 → h = h'
def hasF (KD : List KDT) (A : AC) (q : KF) : Bool := A.2.2.2.2.1.any (fun e => e.2.2.1 == q.1 && (e.2.1 == q.2.1 && (match e.2.2.2 with
  | .inl b => inI (ivS A.1 (.inl b)) q.2.2
  | _ => false))) || (match KD[q.1]? with
  | some (.inl o) => (match o.2[q.2.1]? with
    | some (.inl iv) => inI iv q.2.2
    | _ => false)
  | _ => false)
def rOK (KO : List Nat) : Option AV → Option Value → Prop
  | none, none => True
  | some a, some v => gV KO a v
  | _, _ => False
def oOK (KO : List Nat) (E : CTR) (c' : Nat) (σ' : SG) : OC → Prop
  | .inl e => e ∈ kT E
  | .inr r => (c' ≤ kC E ∧ rOK KO (kR E) r) ∧ FK KO (kQ E) σ'
def Fin' (KD : List KDT) (KO : List Nat) (G : TB) (E : CTR) (σ0 : SG) (pc : Nat) (lv : LV) (st : List Value) (c : Nat) (σ : SG) : Prop :=
  ∃ f c' o σ', ev G f (kD E) (kK E) pc lv st c σ = some (c', o, σ') ∧ Inv KD KO σ' ∧ Fr KO (kM E) σ0 σ' ∧ c' ≤ 1 ∧ oOK KO E c' σ' o
def cOk (KD : List KDT) (KO : List Nat) (G : TB) (E : CTR) : Prop := ∀ av σ, Inv KD KO σ → gVs KO (kA E) av → FK KO (kP E) σ → Fin' KD KO G E σ 0 (lv_args 0 av) [] 0 σ
def aStep (KD : List KDT) (K : LK) (ms : List (Nat × Nat)) (nL pc : Nat) (i : Instr) (A : AC) : Option AL := match aC K pc i A with
  | some L => some L
  | none => match aT nL pc i A with
    | some L => some L
    | none => match aG KD K ms pc i A with
      | some L => some L
      | none => match aB pc i A with
        | some L => some L
        | none => match aA pc i A with
          | some L => some L
          | none => match aR KD ms pc i A with
            | some L => some L
            | none => match aU pc i A with
              | some L => some L
              | none => aD pc i A
def catA (as : List AS) : Nat := (as.map fun a => if isL a = true then 2 else 1).sum
def retA (sy : List IV) (ret : Option FieldType) (i : Instr) (st : List AS) (res : Option AV) : Bool := match ret, i, st, res with
  | none, .return_, [], none => true
  | some .int, .ireturn, [.inl a], some (.inl q) => inI (ivS sy (.inl a)) q
  | some .boolean, .ireturn, [.inl a], some (.inl q) => inI (ivS sy (.inl a)) q && inI (ivS sy (.inl a)) (0, 1)
  | some .long, .lreturn, [.inr none], some (.inr none) => true
  | some (.object _), .areturn, [.inr (some r)], some (.inr (some κ)) => κ == r.1
  | _, _, _, _ => false
def calA (KD : List KDT) (G : TB) (k : Nat) (i : Instr) (A : AC) : Option (Nat × Nat × List AS × List AS) := match i with
  | .invokevirtual ix => match tbC G k ix with
    | some (k', 0, na, ci) => match tbM G k', (A.2.2.2.1.take (na + 1)).reverse with
      | some M', .inr (some (κ, ρ)) :: As => match KD[κ]? with
        | some (.inl o) => if o.1 = ci ∧ As.length = na ∧ catA (A.2.2.2.1.drop (na + 1)) ≤ 8 ∧ catA (.inr (some (κ, ρ)) :: As) ≤ M'.2.2.1 then some (k', 0, .inr (some (κ, ρ)) :: As, A.2.2.2.1.drop (na + 1)) else none
        | _ => none
      | _, _ => none
    | _ => none
  | .invokestatic ix => match tbC G k ix with
    | some (k', kd + 1, na, _) => match tbM G k' with
      | some M' => if (A.2.2.2.1.take na).length = na ∧ catA (A.2.2.2.1.drop na) ≤ 8 ∧ catA (A.2.2.2.1.take na).reverse ≤ M'.2.2.1 then some (k', kd + 1, (A.2.2.2.1.take na).reverse, A.2.2.2.1.drop na) else none
      | none => none
    | _ => none
  | _ => none
def kpF (ms : List (Nat × Nat)) (A : AC) : List (Nat × Nat × Nat × AS) := A.2.2.2.2.1.filter (fun q => !(ms.contains (q.2.2.1, q.2.1)))
def psR (ms : List (Nat × Nat)) (A : AC) (rs : List AS) : Option AV → AC
  | none => sF (sS A rs) (kpF ms A)
  | some av => addS (sF (sS A rs) (kpF ms A)) av
def aLD (j : Nat) (al : List (Nat × AS)) : List (Nat × AS) := al.filter (fun q => !(q.1 == j) && !(q.1 + 1 == j && isL q.2))
def cutL (us : List CUT) (pc : Nat) : Option CUT := us.find? (fun u => u.1 == pc)
abbrev XAT : Type := List (Nat × Nat) → Nat → Nat → AC → Option AL
section Run
variable {KD : List KDT} {KO : List Nat} {G : TB} {k n pc : Nat} {i : Instr} {A : AC} {ν : List Int} {ρs : List Nat} {lv : LV} {st : List Value} {σ σ0 : SG} {L : AL} {ms : List (Nat × Nat)}
theorem aStep_ok (hA : gA KO A ν ρs lv st σ) (hI : Inv KD KO σ) (h : aStep KD (tbK G k) ms n pc i A = some L) : aStp KD KO ms G k n pc i L ν ρs lv st σ := by
  unfold aStep at h
  split at h
  · next h1 => cases h; exact aC_ok hA hI h1
  · split at h
    · next h1 => cases h; exact aT_ok hA hI h1
    · split at h
      · next h1 => cases h; exact aG_ok hA hI h1
      · split at h
        · next h1 => cases h; exact aB_ok hA hI h1
        · split at h
          · next h1 => cases h; exact aA_ok hA hI h1
          · split at h
            · next h1 => cases h; exact aR_ok hA hI h1
            · split at h
              · next h1 => cases h; exact aU_ok hA hI h1
              · exact aD_ok hA hI h
theorem catA_ok : ∀ {as : List AS} {vs : List Value}, gL KO ν ρs as vs → cats vs = catA as
  | [], [], _ => rfl
  | a :: as, v :: vs, h => by
    have ih := catA_ok h.2
    unfold cats catA at *
    simp only [List.map_cons, List.sum_cons]
    have : v.category = if isL a = true then 2 else 1 := by
      split
      · next hl =>
        match a, hl, h.1 with
        | .inr none, _, h1 => obtain ⟨x, rfl⟩ := h1; rfl
      · next hl => exact isL_cat h.1 hl
    rw [this, ih]
  | [], _ :: _, h => h.elim
  | _ :: _, [], h => h.elim
theorem gL_len : ∀ {as : List AS} {vs : List Value}, gL KO ν ρs as vs → as.length = vs.length
  | [], [], _ => rfl
  | _ :: _, _ :: _, h => by rw [List.length_cons, List.length_cons, gL_len h.2]
  | [], _ :: _, h => h.elim
  | _ :: _, [], h => h.elim
theorem gL_take : ∀ (m : Nat) {as : List AS} {vs : List Value}, gL KO ν ρs as vs → gL KO ν ρs (as.take m) (vs.take m) ∧ gL KO ν ρs (as.drop m) (vs.drop m)
  | 0, _, _, h => ⟨trivial, h⟩
  | _ + 1, [], [], _ => ⟨trivial, trivial⟩
  | m + 1, _ :: _, _ :: _, h => ⟨⟨h.1, (gL_take m h.2).1⟩, (gL_take m h.2).2⟩
  | _ + 1, [], _ :: _, h => h.elim
  | _ + 1, _ :: _, [], h => h.elim
theorem gL_app : ∀ {a b : List AS} {x y : List Value}, gL KO ν ρs a x → gL KO ν ρs b y → gL KO ν ρs (a ++ b) (x ++ y)
  | [], _, [], _, _, h => h
  | _ :: _, _, _ :: _, _, h1, h2 => ⟨h1.1, gL_app h1.2 h2⟩
  | [], _, _ :: _, _, h, _ => h.elim
  | _ :: _, _, [], _, h, _ => h.elim
theorem gL_rev : ∀ {a : List AS} {x : List Value}, gL KO ν ρs a x → gL KO ν ρs a.reverse x.reverse
  | [], [], _ => trivial
  | a :: as, x :: xs, h => by
    rw [List.reverse_cons, List.reverse_cons]
    exact gL_app (gL_rev h.2) ⟨h.1, trivial⟩
  | [], _ :: _, h => h.elim
  | _ :: _, [], h => h.elim
theorem calA_ok (hA : gA KO A ν ρs lv st σ) (hI : Inv KD KO σ) {k' kd : Nat} {as rs : List AS} (h : calA KD G k i A = some (k', kd, as, rs)) : ∃ av rest, cal G k i st σ = some (k', kd, av, rest) ∧ gL KO ν ρs as av ∧ gL KO ν ρs rs rest ∧ (∀ (nL : Nat) (lv' : LV), sim G k nL pc i lv' st σ = none) ∧ ∀ ret, rtn ret i st = none := by
  have hs := hA.2.2.2.1
  unfold calA at h
  split at h
  · next ix =>
    split at h
    · next k1 na ci hC =>
      split at h
      · next M' κ ρ As hM hav =>
        split at h
        · next o ho =>
          split at h
          · next hc =>
            obtain ⟨c1, c2, c3, c4⟩ := hc
            cases h
            have h1 := gL_take (na + 1) hs
            have h2 := gL_rev h1.1
            rw [hav] at h2
            obtain ⟨v, vs, hvs, h3, h4⟩ := gL_1 h2
            have h3' := h3
            obtain ⟨x, rfl, hρ, hko⟩ := h3
            obtain ⟨e0, i2, i3⟩ := hI x κ _ hko ho
            obtain ⟨fs, rfl, -⟩ := i3
            refine ⟨.ref x :: vs, st.drop (na + 1), ?_, ⟨h3', h4⟩, h1.2, fun nL lv' => ?_, fun ret => ?_⟩
            · have q1 : vs.length = na := by rw [← gL_len h4]; exact c2
              have q2 : cats (st.drop (na + 1)) ≤ 8 := by rw [catA_ok h1.2]; exact c3
              have q3 : cats (.ref x :: vs) ≤ M'.2.2.1 := by
                have h9 : gL KO ν ρs (.inr (some (κ, ρ)) :: As) (.ref x :: vs) := ⟨h3', h4⟩
                rw [catA_ok h9]; exact c4
              simp only [cal, hC, hM, hvs, i2]
              rw [if_pos ⟨c1, q1, q2, q3⟩]
            · unfold sim
              rw [show simA pc (.invokevirtual ix) lv' st σ = none from simA_no (fun _ _ => rfl) (fun _ _ => rfl) (fun _ _ => rfl)]
              rfl
            · unfold rtn; split <;> first | rfl | (next h9 => cases h9)
          · cases h
        · cases h
      · cases h
    · cases h
  · next ix =>
    split at h
    · next k1 kd na ci hC =>
      split at h
      · next M' hM =>
        split at h
        · next hc =>
          obtain ⟨c1, c2, c3⟩ := hc
          cases h
          have h1 := gL_take na hs
          have h2 := gL_rev h1.1
          refine ⟨(st.take na).reverse, st.drop na, ?_, h2, h1.2, fun nL lv' => ?_, fun ret => ?_⟩
          · have q1 : (st.take na).length = na := by rw [← gL_len h1.1]; exact c1
            have q2 : cats (st.drop na) ≤ 8 := by rw [catA_ok h1.2]; exact c2
            have q3 : cats (st.take na).reverse ≤ M'.2.2.1 := by rw [catA_ok h2]; exact c3
            simp only [cal, hC, hM]
            rw [if_pos ⟨q1, q2, q3⟩]
          · unfold sim
            rw [show simA pc (.invokestatic ix) lv' st σ = none from simA_no (fun _ _ => rfl) (fun _ _ => rfl) (fun _ _ => rfl)]
            rfl
          · unfold rtn; split <;> first | rfl | (next h9 => cases h9)
        · cases h
      · cases h
    · cases h
  · cases h
theorem retA_ok (hA : gA KO A ν ρs lv st σ) {ret : Option FieldType} {res : Option AV} (h : retA A.1 ret i A.2.2.2.1 res = true) : ∃ v, rtn ret i st = some v ∧ rOK KO res v ∧ ∀ (nL : Nat) (lv' : LV), sim G k nL pc i lv' st σ = none := by
  have hs := hA.2.2.2.1
  have hno : ∀ i : Instr, (∀ x y, bI i x y = none) → (∀ x y, bL i x y = none) → (∀ x y, sL i x y = none) → ∀ lv', simA pc i lv' st σ = none := fun i h1 h2 h3 _ => simA_no h1 h2 h3
  generalize hB : A.2.2.2.1 = as at h hs
  unfold retA at h
  split at h
  · match st, hs with
    | [], _ => exact ⟨none, rfl, trivial, fun nL lv' => rfl⟩
  · obtain ⟨v, vs, rfl, h1, h2⟩ := gL_1 hs
    match vs, h2 with
    | [], _ =>
      obtain ⟨x, rfl⟩ := gS_int h1
      have hb := ivS_ok hA.1.2 h1
      exact ⟨some (.int x), rfl, ⟨x, rfl, inI_ok h hb.1 hb.2⟩, fun nL lv' => rfl⟩
  · obtain ⟨v, vs, rfl, h1, h2⟩ := gL_1 hs
    match vs, h2 with
    | [], _ =>
      obtain ⟨x, rfl⟩ := gS_int h1
      have hb := ivS_ok hA.1.2 h1
      simp only [Bool.and_eq_true] at h
      have h01 := inI_ok h.2 hb.1 hb.2
      dsimp only at h01
      have hx : x = 0 ∨ x = 1 := by
        rcases (show x.toInt = 0 ∨ x.toInt = 1 by omega) with e | e
        · exact Or.inl (Int32.toInt_inj.mp e)
        · exact Or.inr (Int32.toInt_inj.mp e)
      refine ⟨some (.int x), ?_, ⟨x, rfl, inI_ok h.1 hb.1 hb.2⟩, fun nL lv' => rfl⟩
      show (if x = 0 ∨ x = 1 then some (some (Value.int x)) else none) = _
      rw [if_pos hx]
  · obtain ⟨v, vs, rfl, h1, h2⟩ := gL_1 hs
    match vs, h2 with
    | [], _ =>
      obtain ⟨x, rfl⟩ := h1
      exact ⟨some (.long x), rfl, ⟨x, rfl⟩, fun nL lv' => rfl⟩
  · next r κ =>
    obtain ⟨v, vs, rfl, h1, h2⟩ := gL_1 hs
    match vs, h2 with
    | [], _ =>
      obtain ⟨x, rfl, -, e⟩ := h1
      have hk : κ = r.1 := by simpa using h
      exact ⟨some (.ref x), rfl, ⟨x, rfl, by rw [hk]; exact e⟩, fun nL lv' => rfl⟩
  · cases h
theorem evT_ext {ν ν' : List Int} (h : ext ν ν') : ∀ (ts : List (Nat × Int)), (∀ q ∈ ts, ∃ n, ν[q.1]? = some n) → evT ν' ts = evT ν ts
  | [], _ => rfl
  | q :: r, hq => by
    obtain ⟨n, hn⟩ := hq q List.mem_cons_self
    show q.2 * (ν'[q.1]?).getD 0 + evT ν' r = q.2 * (ν[q.1]?).getD 0 + evT ν r
    rw [evT_ext h r (fun p hp => hq p (List.mem_cons_of_mem _ hp)), h _ _ hn, hn]
theorem lin_in (hA : gA KO A ν ρs lv st σ) : ∀ (ws : List (PL × Int)) (t : List (Nat × Int) × Int), lin A ws = some t → ∀ q ∈ t.1, ∃ n, ν[q.1]? = some n
  | [], t, e => by cases e; exact fun q hq => nomatch hq
  | q :: r, t, e => by
    unfold lin at e
    split at e
    · next c t' h1 h2 => cases e; exact lin_in hA r t' h2
    · next j c t' h1 h2 =>
      cases e
      intro p hp
      rcases List.mem_cons.mp hp with rfl | hp
      · obtain ⟨v, e1, x, n, rfl, e2, e3⟩ := plA_ok hA h1
        exact ⟨n, e2⟩
      · exact lin_in hA r t' h2 p hp
    · cases e
def mB (ν : List Int) (m0 : List (Nat × Int) × Int) (m : Int) : Prop := (∀ q ∈ m0.1, ∃ n, ν[q.1]? = some n) ∧ evT ν m0.1 + m0.2 = m
theorem mB.ext {ν ν' : List Int} {m0 : List (Nat × Int) × Int} {m : Int} (h : mB ν m0 m) (he : ext ν ν') : mB ν' m0 m := ⟨fun q hq => by
  obtain ⟨n, hn⟩ := h.1 q hq
  exact ⟨n, he _ _ hn⟩, by rw [evT_ext he _ h.1]; exact h.2⟩
theorem psR_ok (hA : gA KO A ν ρs lv st σ) {rs : List AS} {rest : List Value} (hr : gL KO ν ρs rs rest) {res : Option AV} {r : Option Value} (h : rOK KO res r) {σ' : SG} (hF : Fr KO ms σ σ') : ∃ ν' ρs', ext ν ν' ∧ ext ρs ρs' ∧ gA KO (psR ms A rs res) ν' ρs' lv (psh r rest) σ' := by
  have hB : gA KO (sF (sS A rs) (kpF ms A)) ν ρs lv rest σ' := gA_F (gA_S hA hr) (fun q hq => by
    have hm := List.mem_filter.mp hq
    obtain ⟨x, w, c1, ck, c2, c3⟩ := hA.2.2.2.2.1 q hm.1
    exact ⟨x, w, c1, ck, ((hF.2 x _ ck).1 _ (by simpa using hm.2)).trans c2, c3⟩)
  match res, r, h with
  | none, none, _ => exact ⟨ν, ρs, ext.rf, ext.rf, hB⟩
  | some (.inl q), some v, h =>
    obtain ⟨x, rfl, h1, h2⟩ := h
    have e := ext.app ν [x.toInt]
    have hI := gA_I hB h1 h2
    exact ⟨ν ++ [x.toInt], ρs, e, ext.rf, hI.1, hI.2.1, hI.2.2.1, ⟨⟨x, x.toInt, rfl, by rw [← hB.1.1]; exact app_last ν _, by omega⟩, hI.2.2.2.1⟩, hI.2.2.2.2⟩
  | some (.inr none), some v, h => exact ⟨ν, ρs, ext.rf, ext.rf, hB.1, hB.2.1, hB.2.2.1, ⟨h, hB.2.2.2.1⟩, hB.2.2.2.2⟩
  | some (.inr (some κ)), some v, h =>
    obtain ⟨x, rfl, h1⟩ := h
    have hI := gA_R hB x
    exact ⟨ν, ρs ++ [x], ext.rf, ext.app _ _, hI.1, hI.2.1, hI.2.2.1, ⟨⟨x, rfl, by rw [← hB.2.1]; exact app_last ρs _, h1⟩, hI.2.2.2.1⟩, hI.2.2.2.2⟩
theorem gLv_D {al : List (Nat × AS)} {j : Nat} (h : ∀ q ∈ al, ∃ v, lget lv q.1 = some v ∧ gS KO ν ρs q.2 v) : ∀ q ∈ aLD j al, ∃ v', lget (lD j lv) q.1 = some v' ∧ gS KO ν ρs q.2 v' := by
  intro q hq
  have hm := List.mem_filter.mp hq
  obtain ⟨v', e1, e2⟩ := h q hm.1
  have hp := hm.2
  simp only [Bool.and_eq_true, Bool.not_eq_true', Bool.and_eq_false_iff, beq_eq_false_iff_ne] at hp
  refine ⟨v', lget_filter e1 ?_, e2⟩
  simp only [Bool.and_eq_true, Bool.not_eq_true', Bool.and_eq_false_iff, beq_eq_false_iff_ne]
  refine ⟨hp.1, hp.2.imp id (fun hl => ?_)⟩
  rw [isL_cat e2 (by rw [hl]; exact Bool.false_ne_true)]
  decide
def xOK (KD : List KDT) (KO : List Nat) (G : TB) (aX : XAT) (nX : Nat → Nat → Bool) : Prop :=
  (∀ (d d' k pc : Nat) lv st σ, tbX G d k pc lv st σ = tbX G d' k pc lv st σ) ∧
  (∀ ms k pc A L ν ρs lv st σ d, aX ms k pc A = some L → gA KO A ν ρs lv st σ → Inv KD KO σ → ∃ r : S4, tbX G d k pc lv st σ = some r ∧ ∃ A' ν' ρs', (r.1, A') ∈ L ∧ gA KO A' ν' ρs' r.2.1 r.2.2.1 r.2.2.2 ∧ (ext ν ν' ∧ ext ρs ρs') ∧ Inv KD KO r.2.2.2 ∧ Fr KO ms σ r.2.2.2) ∧
  ∀ k pc, nX k pc = true → ∀ d lv st σ, tbX G d k pc lv st σ = none
theorem hasF_ok (hA : gA KO A ν ρs lv st σ) (hI : Inv KD KO σ) {P : List KF} (hs : Sg KO P) (h : P.all (hasF KD A) = true) : FK KO P σ := by
  intro q hq hd hk
  have h1 := List.all_eq_true.mp h q hq
  unfold hasF at h1
  rcases (Bool.or_eq_true _ _).mp h1 |>.symm with h1 | h1
  · split at h1
    · next o ho =>
      split at h1
      · next iv hiv =>
        obtain ⟨e0, i2, fs, rfl, i4⟩ := hI hd q.1 _ hk ho
        obtain ⟨v, hv, x, rfl, x1, x2⟩ := i4 _ _ hiv
        exact ⟨x, by rw [fld_of i2]; exact hv, inI_ok h1 x1 x2⟩
      · cases h1
    · cases h1
  obtain ⟨e, he, h2⟩ := List.any_eq_true.mp h1
  simp only [Bool.and_eq_true] at h2
  obtain ⟨e1, e2, e3⟩ := h2
  have e1 : e.2.2.1 = q.1 := by simpa using e1
  have e2 : e.2.1 = q.2.1 := by simpa using e2
  obtain ⟨x, v, c1, ck, c2, c3⟩ := hA.2.2.2.2.1 e he
  have hx : x = hd := hs q hq x hd (by rw [← e1]; exact ck) hk
  subst hx
  generalize hw : e.2.2.2 = w at e3 c3
  match w, e3, c3 with
  | .inl b, e3, c3 =>
    obtain ⟨y, rfl⟩ := gS_int c3
    have hb := ivS_ok hA.1.2 c3
    exact ⟨y, by rw [← e2]; exact c2, inI_ok e3 hb.1 hb.2⟩
  | .inr _, e3, _ => cases e3
/-- what a call's end tells of fields -/
def addK (as : List AS) (A : AC) (q : KF) : AC := match as.find? (fun a => match a with
    | .inr (some r) => r.1 == q.1
    | _ => false) with
  | some (.inr (some r)) => (A.1 ++ [q.2.2], A.2.1, A.2.2.1, A.2.2.2.1, (r.2, q.2.1, r.1, .inl (some A.1.length, 0)) :: A.2.2.2.2.1, A.2.2.2.2.2)
  | _ => A
theorem gL_find {as : List AS} {av : List Value} (h : gL KO ν ρs as av) {P : AS → Bool} {a : AS} (hf : as.find? P = some a) : ∃ v, gS KO ν ρs a v := by
  have hm := List.mem_of_find?_eq_some hf
  clear hf
  induction as generalizing av with
  | nil => cases hm
  | cons b r ih =>
    match av, h with
    | v :: vs, h =>
      rcases List.mem_cons.mp hm with rfl | hm
      · exact ⟨v, h.1⟩
      · exact ih h.2 hm
theorem addK_ok {as : List AS} {av : List Value} : ∀ (P : List KF) (A : AC) (ν : List Int) (ρs : List Nat), gA KO A ν ρs lv st σ → gL KO ν ρs as av → FK KO P σ → ∃ ν', ext ν ν' ∧ gA KO (P.foldl (addK as) A) ν' ρs lv st σ
  | [], A, ν, ρs, hA, _, _ => ⟨ν, ext.rf, hA⟩
  | q :: r, A, ν, ρs, hA, hl, hP => by
    have hB : ∃ ν', ext ν ν' ∧ gA KO (addK as A q) ν' ρs lv st σ := by
      unfold addK
      split
      · next p hf =>
        have hk := List.find?_some hf
        obtain ⟨v, hd, rfl, h1, h2⟩ := gL_find hl hf
        have hk : p.1 = q.1 := by simpa using hk
        obtain ⟨x, x1, x2, x3⟩ := hP q List.mem_cons_self hd (by rw [← hk]; exact h2)
        have hI := gA_I hA x2 x3
        refine ⟨ν ++ [x.toInt], ext.app _ _, hI.1, hI.2.1, hI.2.2.1, hI.2.2.2.1, fun e he => ?_, hI.2.2.2.2.2⟩
        rcases List.mem_cons.mp he with rfl | he
        · exact ⟨hd, .int x, h1, h2, x1, x, x.toInt, rfl, by rw [← hA.1.1]; exact app_last ν _, by omega⟩
        · exact hI.2.2.2.2.1 e he
      · exact ⟨ν, ext.rf, hA⟩
    obtain ⟨ν', e1, hB⟩ := hB
    obtain ⟨ν2, e2, h2⟩ := addK_ok r _ ν' ρs hB (hl.ext e1 ext.rf) (fun p hp => hP p (List.mem_cons_of_mem _ hp))
    exact ⟨ν2, e1.tr e2, h2⟩
end Run
