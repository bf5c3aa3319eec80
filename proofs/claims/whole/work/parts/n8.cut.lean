/-! measures, cut points -/
def evT (ν : List Int) : List (Nat × Int) → Int
  | [] => 0
  | q :: r => q.2 * (ν[q.1]?).getD 0 + evT ν r
def ngT (l : List (Nat × Int)) : List (Nat × Int) := l.map (fun q => (q.1, -q.2))
def inT (j : Nat) (w : Int) : List (Nat × Int) → List (Nat × Int)
  | [] => [(j, w)]
  | q :: r => if q.1 = j then (j, q.2 + w) :: r else q :: inT j w r
def mgT : List (Nat × Int) → List (Nat × Int)
  | [] => []
  | q :: r => inT q.1 q.2 (mgT r)
def ubT (sy : List IV) : List (Nat × Int) → Option Int
  | [] => some 0
  | q :: r => match sy[q.1]?, ubT sy r with
    | some iv, some u => some ((if 0 ≤ q.2 then q.2 * iv.2 else q.2 * iv.1) + u)
    | _, _ => none
theorem evT_app (ν : List Int) : ∀ a b : List (Nat × Int), evT ν (a ++ b) = evT ν a + evT ν b
  | [], b => by simp [evT]
  | q :: r, b => by
    show q.2 * _ + evT ν (r ++ b) = q.2 * _ + evT ν r + evT ν b
    rw [evT_app ν r b]
    omega
theorem evT_ng (ν : List Int) : ∀ a : List (Nat × Int), evT ν (ngT a) = -evT ν a
  | [] => rfl
  | q :: r => by
    show -q.2 * (ν[q.1]?).getD 0 + evT ν (ngT r) = -(q.2 * (ν[q.1]?).getD 0 + evT ν r)
    rw [evT_ng ν r, Int.neg_mul]
    omega
theorem evT_in (ν : List Int) (j : Nat) (w : Int) : ∀ a : List (Nat × Int), evT ν (inT j w a) = w * (ν[j]?).getD 0 + evT ν a
  | [] => rfl
  | q :: r => by
    unfold inT
    split
    · next e =>
      subst e
      show (q.2 + w) * (ν[q.1]?).getD 0 + evT ν r = w * (ν[q.1]?).getD 0 + (q.2 * (ν[q.1]?).getD 0 + evT ν r)
      rw [Int.add_mul]
      omega
    · show q.2 * _ + evT ν (inT j w r) = w * _ + (q.2 * _ + evT ν r)
      rw [evT_in ν j w r]
      omega
theorem evT_mg (ν : List Int) : ∀ a : List (Nat × Int), evT ν (mgT a) = evT ν a
  | [] => rfl
  | q :: r => by
    show evT ν (inT q.1 q.2 (mgT r)) = _
    rw [evT_in, evT_mg ν r]
    rfl
theorem ubT_ok {sy : List IV} {ν : List Int} (h : hN sy ν) : ∀ (ts : List (Nat × Int)) (u : Int), ubT sy ts = some u → evT ν ts ≤ u
  | [], u, e => by cases e; exact Int.le_refl _
  | q :: r, u, e => by
    unfold ubT at e
    split at e
    · next iv u' h1 h2 =>
      cases e
      obtain ⟨n, e1, e2, e3⟩ := h.2 q.1 iv h1
      have ih := ubT_ok h r u' h2
      show q.2 * (ν[q.1]?).getD 0 + evT ν r ≤ _
      rw [e1]
      show q.2 * n + evT ν r ≤ _
      split
      · next hw => have := Int.mul_le_mul_of_nonneg_left e3 hw; omega
      · next hw =>
        have := Int.mul_le_mul_of_nonneg_left e2 (show 0 ≤ -q.2 by omega)
        rw [Int.neg_mul, Int.neg_mul] at this
        omega
    · cases e
/-- a place: a local, or a field of a local's object -/
abbrev PL : Type := Nat × Option Nat
def plA (A : AC) (p : PL) : Option AS := match lkp A.2.2.1 p.1, p.2 with
  | some a, none => some a
  | some (.inr (some r)), some k => fcL A.2.2.2.2.1 r.2 k
  | _, _ => none
def plV (lv : LV) (σ : SG) (p : PL) : Option Value := match lget lv p.1, p.2 with
  | some v, none => some v
  | some (.ref h), some k => fld σ h k
  | _, _ => none
theorem plA_ok {KO : List Nat} {A : AC} {ν : List Int} {ρs : List Nat} {lv : LV} {st : List Value} {σ : SG} (hA : gA KO A ν ρs lv st σ) {p : PL} {a : AS} (h : plA A p = some a) : ∃ v, plV lv σ p = some v ∧ gS KO ν ρs a v := by
  obtain ⟨i, o⟩ := p
  unfold plA at h
  split at h
  · next b h1 h2 =>
    cases h
    obtain ⟨v, e1, e2⟩ := hA.2.2.1 _ (lkp_mem h1)
    refine ⟨v, ?_, e2⟩
    have h2 : o = none := h2
    subst h2
    show (match lget lv i, (none : Option Nat) with | some v, none => some v | some (.ref h), some k => fld σ h k | _, _ => none) = _
    have e1 : lget lv i = some v := e1
    rw [e1]
  · next r k h1 h2 =>
    obtain ⟨v, e1, hd, rfl, e2, e3⟩ := hA.2.2.1 _ (lkp_mem h1)
    obtain ⟨κ9, hm9⟩ := fcL_mem h
    obtain ⟨x', w, c1, -, c2, c3⟩ := hA.2.2.2.2.1 _ hm9
    cases e2.symm.trans c1
    refine ⟨w, ?_, c3⟩
    have h2 : o = some k := h2
    subst h2
    show (match lget lv i, some k with | some v, none => some v | some (.ref h), some k => fld σ h k | _, _ => none) = _
    have e1 : lget lv i = some (.ref hd) := e1
    rw [e1]
    exact c2
  · cases h
def lint (lv : LV) (σ : SG) (p : PL) : Int := match plV lv σ p with
  | some (.int x) => x.toInt
  | _ => 0
def msL (lv : LV) (σ : SG) : List (PL × Int) → Int
  | [] => 0
  | q :: r => q.2 * lint lv σ q.1 + msL lv σ r
/-- the measure by symbols: terms and what is left -/
def lin (A : AC) : List (PL × Int) → Option (List (Nat × Int) × Int)
  | [] => some ([], 0)
  | q :: r => match plA A q.1, lin A r with
    | some (.inl (none, c)), some t => some (t.1, q.2 * c + t.2)
    | some (.inl (some j, c)), some t => some ((j, q.2) :: t.1, q.2 * c + t.2)
    | _, _ => none
theorem lin_ok {KO : List Nat} {A : AC} {ν : List Int} {ρs : List Nat} {lv : LV} {st : List Value} {σ : SG} (hA : gA KO A ν ρs lv st σ) : ∀ (ws : List (PL × Int)) (t : List (Nat × Int) × Int), lin A ws = some t → msL lv σ ws = evT ν t.1 + t.2
  | [], t, e => by cases e; rfl
  | q :: r, t, e => by
    unfold lin at e
    split at e
    · next c t' h1 h2 =>
      cases e
      obtain ⟨v, e1, x, rfl, e3⟩ := plA_ok hA h1
      have ih := lin_ok hA r t' h2
      show q.2 * lint lv σ q.1 + msL lv σ r = _
      have : lint lv σ q.1 = c := by unfold lint; rw [e1]; exact e3
      rw [this, ih]
      dsimp only
      omega
    · next j c t' h1 h2 =>
      cases e
      obtain ⟨v, e1, x, n, rfl, e2, e3⟩ := plA_ok hA h1
      have ih := lin_ok hA r t' h2
      show q.2 * lint lv σ q.1 + msL lv σ r = q.2 * (ν[j]?).getD 0 + evT ν t'.1 + (q.2 * c + t'.2)
      have : lint lv σ q.1 = n + c := by unfold lint; rw [e1]; exact e3
      rw [this, ih, e2, Int.mul_add]
      show _ = q.2 * n + _ + _
      omega
    · cases e
/-- a cut point: place, locals, stack, known fields of locals' objects, measure -/
abbrev CUT : Type := Nat × List (Nat × AV) × List AV × List (Nat × Nat × IV) × Int × List (PL × Int) × List (PL × PL × Int)
def gVs (KO : List Nat) : List AV → List Value → Prop
  | [], [] => True
  | a :: as, v :: vs => gV KO a v ∧ gVs KO as vs
  | _, _ => False
def gC' (KO : List Nat) (u : CUT) (lv : LV) (st : List Value) (σ : SG) : Prop :=
  (∀ q ∈ u.2.1, ∃ v, lget lv q.1 = some v ∧ gV KO q.2 v) ∧ gVs KO u.2.2.1 st ∧ (∀ q ∈ u.2.2.2.1, ∃ (h : Nat) (x : Int32), lget lv q.1 = some (.ref h) ∧ fld σ h q.2.1 = some (.int x) ∧ q.2.2.1 ≤ x.toInt ∧ x.toInt ≤ q.2.2.2) ∧
  ∀ q ∈ u.2.2.2.2.2.2, ∃ x y : Int32, plV lv σ q.1 = some (.int x) ∧ plV lv σ q.2.1 = some (.int y) ∧ x.toInt + q.2.2 ≤ y.toInt
def msC (u : CUT) (lv : LV) (σ : SG) : Int := u.2.2.2.2.1 + msL lv σ u.2.2.2.2.2.1
def fitV (sy : List IV) : AV → AS → Bool
  | .inl q, .inl b => inI (ivS sy (.inl b)) q
  | .inr none, .inr none => true
  | .inr (some κ), .inr (some r) => κ == r.1
  | _, _ => false
theorem fitV_ok {KO : List Nat} {A : AC} {ν : List Int} {ρs : List Nat} {lv : LV} {st : List Value} {σ : SG} (hA : gA KO A ν ρs lv st σ) {av : AV} {a : AS} {v : Value} (h : fitV A.1 av a = true) (hg : gS KO ν ρs a v) : gV KO av v := by
  unfold fitV at h
  split at h
  · obtain ⟨x, rfl⟩ := gS_int hg
    have hb := ivS_ok hA.1.2 hg
    exact ⟨x, rfl, inI_ok h hb.1 hb.2⟩
  · exact hg
  · next κ r =>
    obtain ⟨x, rfl, -, e⟩ := hg
    have hk : κ = r.1 := by simpa using h
    exact ⟨x, rfl, by rw [hk]; exact e⟩
  · cases h
def fitL (sy : List IV) : List AV → List AS → Bool
  | [], [] => true
  | a :: as, b :: bs => fitV sy a b && fitL sy as bs
  | _, _ => false
theorem fitL_ok {KO : List Nat} {A : AC} {ν : List Int} {ρs : List Nat} {lv : LV} {st : List Value} {σ : SG} (hA : gA KO A ν ρs lv st σ) : ∀ (avs : List AV) (as : List AS) (vs : List Value), fitL A.1 avs as = true → gL KO ν ρs as vs → gVs KO avs vs
  | [], [], [], _, _ => trivial
  | a :: as, b :: bs, v :: vs, h, hg => by
    simp only [fitL, Bool.and_eq_true] at h
    exact ⟨fitV_ok hA h.1 hg.1, fitL_ok hA as bs vs h.2 hg.2⟩
  | [], [], _ :: _, _, hg => hg.elim
  | [], _ :: _, _, h, _ => by cases h
  | _ :: _, [], _, h, _ => by cases h
  | _ :: _, _ :: _, [], _, hg => hg.elim
/-- that a + d ≤ b follows -/
def leA (sy : List IV) (rel : List RLt) (a b : AS) (d : Int) : Bool := decide ((ivS sy a).2 + d ≤ (ivS sy b).1) || (match a, b with
  | .inl (some j, c1), .inl (some l, c2) => (decide (j = l) && decide (c1 + d ≤ c2)) || rel.any (fun q => match q.1, q.2.1 with
    | .inl (some j', c3), .inl (some l', c4) => decide (j' = j) && (decide (l' = l) && decide (c1 + d - c2 ≤ c3 + q.2.2 - c4))
    | _, _ => false)
  | _, _ => false)
theorem leA_ok {KO : List Nat} {A : AC} {ν : List Int} {ρs : List Nat} {lv : LV} {st : List Value} {σ : SG} (hA : gA KO A ν ρs lv st σ) {a b : AS} {d : Int} {x y : Int32} (h : leA A.1 A.2.2.2.2.2 a b d = true) (ha : gS KO ν ρs a (.int x)) (hb : gS KO ν ρs b (.int y)) : x.toInt + d ≤ y.toInt := by
  have qa := ivS_ok hA.1.2 ha
  have qb := ivS_ok hA.1.2 hb
  unfold leA at h
  rcases (Bool.or_eq_true _ _).mp h with h | h
  · have h := of_decide_eq_true h
    omega
  · split at h
    · next j c1 l c2 =>
      obtain ⟨x', n, e1, e2, e3⟩ := ha
      cases e1
      obtain ⟨y', m, e4, e5, e6⟩ := hb
      cases e4
      rcases (Bool.or_eq_true _ _).mp h with h | h
      · simp only [Bool.and_eq_true, decide_eq_true_eq] at h
        obtain ⟨rfl, h⟩ := h
        cases e2.symm.trans e5
        omega
      · obtain ⟨q, hq, h⟩ := List.any_eq_true.mp h
        obtain ⟨u, w, g1, g2, g3⟩ := hA.2.2.2.2.2 q hq
        obtain ⟨qa', qb', qd⟩ := q
        match qa', qb', h, g1, g2 with
        | .inl (some j', c3), .inl (some l', c4), h, g1, g2 =>
          simp only [Bool.and_eq_true, decide_eq_true_eq] at h
          obtain ⟨rfl, rfl, h⟩ := h
          obtain ⟨u', n', f1, f2, f3⟩ := g1
          cases f1
          obtain ⟨w', m', f4, f5, f6⟩ := g2
          cases f4
          cases e2.symm.trans f2
          cases e5.symm.trans f5
          dsimp only at g3
          omega
    · cases h
/-- from a state into a cut point whose measure is less than 'm0' -/
def enter (A : AC) (u : CUT) (m0 : List (Nat × Int) × Int) : Bool :=
  u.2.1.all (fun q => match lkp A.2.2.1 q.1 with
    | some a => fitV A.1 q.2 a
    | none => false) && (fitL A.1 u.2.2.1 A.2.2.2.1 && (u.2.2.2.1.all (fun q => match lkp A.2.2.1 q.1 with
    | some (.inr (some r)) => (match fcL A.2.2.2.2.1 r.2 q.2.1 with
      | some (.inl b) => inI (ivS A.1 (.inl b)) q.2.2
      | _ => false)
    | _ => false) && (u.2.2.2.2.2.2.all (fun q => match plA A q.1, plA A q.2.1 with
    | some (.inl a), some (.inl b) => leA A.1 A.2.2.2.2.2 (.inl a) (.inl b) q.2.2
    | _, _ => false) && (match lin A u.2.2.2.2.2.1 with
    | some t => (match ubT A.1 (mgT (t.1 ++ ngT m0.1)), ubT A.1 (mgT (ngT t.1)) with
      | some w, some z => decide (u.2.2.2.2.1 + t.2 + w < m0.2) && decide (z ≤ u.2.2.2.2.1 + t.2)
      | _, _ => false)
    | none => false))))
theorem enter_ok {KO : List Nat} {A : AC} {ν : List Int} {ρs : List Nat} {lv : LV} {st : List Value} {σ : SG} (hA : gA KO A ν ρs lv st σ) {u : CUT} {m0 : List (Nat × Int) × Int} (h : enter A u m0 = true) : gC' KO u lv st σ ∧ 0 ≤ msC u lv σ ∧ msC u lv σ < evT ν m0.1 + m0.2 := by
  unfold enter at h
  simp only [Bool.and_eq_true] at h
  obtain ⟨h1, h2, h3, h5, h4⟩ := h
  refine ⟨⟨fun q hq => ?_, fitL_ok hA _ _ _ h2 hA.2.2.2.1, fun q hq => ?_, fun q hq => ?_⟩, ?_⟩
  · have hf := List.all_eq_true.mp h1 q hq
    split at hf
    · next a ha =>
      obtain ⟨v, e1, e2⟩ := hA.2.2.1 _ (lkp_mem ha)
      exact ⟨v, e1, fitV_ok hA hf e2⟩
    · cases hf
  · have hf := List.all_eq_true.mp h3 q hq
    split at hf
    · next r hr =>
      split at hf
      · next b hb =>
        obtain ⟨v, e1, x, rfl, e2, e3⟩ := hA.2.2.1 _ (lkp_mem hr)
        obtain ⟨κ9, hm9⟩ := fcL_mem hb
        obtain ⟨x', w, c1, -, c2, c3⟩ := hA.2.2.2.2.1 _ hm9
        cases e2.symm.trans c1
        obtain ⟨y, rfl⟩ := gS_int c3
        have hb := ivS_ok hA.1.2 c3
        exact ⟨x, y, e1, c2, inI_ok hf hb.1 hb.2⟩
      · cases hf
    · cases hf
  · have hf := List.all_eq_true.mp h5 q hq
    split at hf
    · next a b ha hb =>
      obtain ⟨v, e1, e2⟩ := plA_ok hA ha
      obtain ⟨w, e3, e4⟩ := plA_ok hA hb
      obtain ⟨x, rfl⟩ := gS_int e2
      obtain ⟨y, rfl⟩ := gS_int e4
      exact ⟨x, y, e1, e3, leA_ok hA hf e2 e4⟩
    · cases hf
  · split at h4
    · next t ht =>
      split at h4
      · next w z hw hz =>
        simp only [Bool.and_eq_true, decide_eq_true_eq] at h4
        have hl := lin_ok hA _ t ht
        have b1 := ubT_ok hA.1 _ _ hw
        have b2 := ubT_ok hA.1 _ _ hz
        rw [evT_mg, evT_app, evT_ng] at b1
        rw [evT_mg, evT_ng] at b2
        unfold msC
        rw [hl]
        omega
      · cases h4
    · cases h4
/-- the state at a cut point -/
def addL (A : AC) (q : Nat × AV) : AC := match q.2 with
  | .inl iv => (A.1 ++ [iv], A.2.1, (q.1, .inl (some A.1.length, 0)) :: A.2.2.1, A.2.2.2.1, A.2.2.2.2)
  | .inr none => (A.1, A.2.1, (q.1, .inr none) :: A.2.2.1, A.2.2.2.1, A.2.2.2.2)
  | .inr (some κ) => (A.1, A.2.1 + 1, (q.1, .inr (some (κ, A.2.1))) :: A.2.2.1, A.2.2.2.1, A.2.2.2.2)
def addS (A : AC) (av : AV) : AC := match av with
  | .inl iv => (A.1 ++ [iv], A.2.1, A.2.2.1, .inl (some A.1.length, 0) :: A.2.2.2.1, A.2.2.2.2)
  | .inr none => (A.1, A.2.1, A.2.2.1, .inr none :: A.2.2.2.1, A.2.2.2.2)
  | .inr (some κ) => (A.1, A.2.1 + 1, A.2.2.1, .inr (some (κ, A.2.1)) :: A.2.2.2.1, A.2.2.2.2)
def addF (A : AC) (q : Nat × Nat × IV) : AC := match lkp A.2.2.1 q.1 with
  | some (.inr (some r)) => (A.1 ++ [q.2.2], A.2.1, A.2.2.1, A.2.2.2.1, (r.2, q.2.1, r.1, .inl (some A.1.length, 0)) :: A.2.2.2.2.1, A.2.2.2.2.2)
  | _ => A
def addQ (A : AC) (q : PL × PL × Int) : AC := match plA A q.1, plA A q.2.1 with
  | some (.inl a), some (.inl b) => (A.1, A.2.1, A.2.2.1, A.2.2.2.1, A.2.2.2.2.1, (.inl a, .inl b, q.2.2) :: A.2.2.2.2.2)
  | _, _ => A
def ac0 (u : CUT) : AC := u.2.2.2.2.2.2.foldl addQ <| u.2.2.2.1.foldl addF (u.2.2.1.reverse.foldl addS (u.2.1.foldl addL ([], 0, [], [], [], [])))
section Ac
variable {KO : List Nat} {A : AC} {ν : List Int} {ρs : List Nat} {lv : LV} {st : List Value} {σ : SG}
theorem new_ok (hA : gA KO A ν ρs lv st σ) {av : AV} {v : Value} (hg : gV KO av v) : ∃ (ν' : List Int) (ρs' : List Nat) (a : AS) (B : AC), gS KO ν' ρs' a v ∧ gA KO B ν' ρs' lv st σ ∧ (∀ i, addL A (i, av) = (B.1, B.2.1, (i, a) :: B.2.2.1, B.2.2.2.1, B.2.2.2.2)) ∧ addS A av = (B.1, B.2.1, B.2.2.1, a :: B.2.2.2.1, B.2.2.2.2) := by
  match av, hg with
  | .inl iv, hg =>
    obtain ⟨x, rfl, h1, h2⟩ := hg
    exact ⟨ν ++ [x.toInt], ρs, .inl (some A.1.length, 0), fI A iv, ⟨x, x.toInt, rfl, by rw [← hA.1.1]; exact app_last ν _, by omega⟩, gA_I hA h1 h2, fun _ => rfl, rfl⟩
  | .inr none, hg => exact ⟨ν, ρs, .inr none, A, hg, hA, fun _ => rfl, rfl⟩
  | .inr (some κ), hg =>
    obtain ⟨x, rfl, h1⟩ := hg
    exact ⟨ν, ρs ++ [x], .inr (some (κ, A.2.1)), fR A, ⟨x, rfl, by rw [← hA.2.1]; exact app_last ρs _, h1⟩, gA_R hA x, fun _ => rfl, rfl⟩
theorem addLs_ok : ∀ (ls : List (Nat × AV)) (A : AC) (ν : List Int) (ρs : List Nat), gA KO A ν ρs lv st σ → (∀ q ∈ ls, ∃ v, lget lv q.1 = some v ∧ gV KO q.2 v) → ∃ ν' ρs', gA KO (ls.foldl addL A) ν' ρs' lv st σ
  | [], A, ν, ρs, hA, _ => ⟨ν, ρs, hA⟩
  | q :: r, A, ν, ρs, hA, h => by
    obtain ⟨v, e1, e2⟩ := h q List.mem_cons_self
    obtain ⟨ν', ρs', a, B, g1, g2, g3, -⟩ := new_ok hA e2
    have hB : gA KO (addL A q) ν' ρs' lv st σ := by
      rw [show addL A q = addL A (q.1, q.2) from rfl, g3]
      exact ⟨g2.1, g2.2.1, fun p hp => by
        rcases List.mem_cons.mp hp with rfl | hp
        · exact ⟨v, e1, g1⟩
        · exact g2.2.2.1 p hp, g2.2.2.2.1, g2.2.2.2.2⟩
    exact addLs_ok r _ ν' ρs' hB (fun p hp => h p (List.mem_cons_of_mem _ hp))
theorem addSs_ok : ∀ (avs : List AV) (vs : List Value) (A : AC) (ν : List Int) (ρs : List Nat) (st : List Value), gA KO A ν ρs lv st σ → gVs KO avs vs → ∃ ν' ρs', gA KO (avs.foldl addS A) ν' ρs' lv (vs.reverse ++ st) σ
  | [], [], A, ν, ρs, st, hA, _ => ⟨ν, ρs, hA⟩
  | a :: as, v :: vs, A, ν, ρs, st, hA, h => by
    obtain ⟨ν', ρs', b, B, g1, g2, -, g4⟩ := new_ok hA h.1
    have hB : gA KO (addS A a) ν' ρs' lv (v :: st) σ := by
      rw [g4]
      exact ⟨g2.1, g2.2.1, g2.2.2.1, ⟨g1, g2.2.2.2.1⟩, g2.2.2.2.2⟩
    obtain ⟨ν2, ρs2, h2⟩ := addSs_ok as vs _ ν' ρs' (v :: st) hB h.2
    refine ⟨ν2, ρs2, ?_⟩
    rw [List.reverse_cons, List.append_assoc]
    exact h2
  | [], _ :: _, _, _, _, _, _, h => h.elim
  | _ :: _, [], _, _, _, _, _, h => h.elim
theorem gVs_app : ∀ {a b : List AV} {x y : List Value}, gVs KO a x → gVs KO b y → gVs KO (a ++ b) (x ++ y)
  | [], _, [], _, _, h => h
  | _ :: _, _, _ :: _, _, h1, h2 => ⟨h1.1, gVs_app h1.2 h2⟩
  | [], _, _ :: _, _, h, _ => h.elim
  | _ :: _, _, [], _, h, _ => h.elim
theorem gVs_rev : ∀ {a : List AV} {x : List Value}, gVs KO a x → gVs KO a.reverse x.reverse
  | [], [], _ => trivial
  | a :: as, x :: xs, h => by
    rw [List.reverse_cons, List.reverse_cons]
    exact gVs_app (gVs_rev h.2) ⟨h.1, trivial⟩
  | [], _ :: _, h => h.elim
  | _ :: _, [], h => h.elim
theorem addFs_ok : ∀ (fs : List (Nat × Nat × IV)) (A : AC) (ν : List Int) (ρs : List Nat), gA KO A ν ρs lv st σ → (∀ q ∈ fs, ∃ (h : Nat) (x : Int32), lget lv q.1 = some (.ref h) ∧ fld σ h q.2.1 = some (.int x) ∧ q.2.2.1 ≤ x.toInt ∧ x.toInt ≤ q.2.2.2) → ∃ ν' ρs', gA KO (fs.foldl addF A) ν' ρs' lv st σ
  | [], A, ν, ρs, hA, _ => ⟨ν, ρs, hA⟩
  | q :: r, A, ν, ρs, hA, h => by
    obtain ⟨hd, x, e1, e2, e3, e4⟩ := h q List.mem_cons_self
    have hB : ∃ ν' ρs', gA KO (addF A q) ν' ρs' lv st σ := by
      unfold addF
      split
      · next r' hr =>
        obtain ⟨v, d1, y, rfl, d2, d3⟩ := hA.2.2.1 _ (lkp_mem hr)
        cases e1.symm.trans d1
        have hI := gA_I hA e3 e4
        refine ⟨ν ++ [x.toInt], ρs, hI.1, hI.2.1, hI.2.2.1, hI.2.2.2.1, fun p hp => ?_, hI.2.2.2.2.2⟩
        rcases List.mem_cons.mp hp with rfl | hp
        · exact ⟨hd, .int x, d2, d3, e2, x, x.toInt, rfl, by rw [← hA.1.1]; exact app_last ν _, by omega⟩
        · exact hI.2.2.2.2.1 p hp
      · exact ⟨ν, ρs, hA⟩
    obtain ⟨ν', ρs', hB⟩ := hB
    exact addFs_ok r _ ν' ρs' hB (fun p hp => h p (List.mem_cons_of_mem _ hp))
theorem addQs_ok : ∀ (rs : List (PL × PL × Int)) (A : AC), gA KO A ν ρs lv st σ → (∀ q ∈ rs, ∃ x y : Int32, plV lv σ q.1 = some (.int x) ∧ plV lv σ q.2.1 = some (.int y) ∧ x.toInt + q.2.2 ≤ y.toInt) → gA KO (rs.foldl addQ A) ν ρs lv st σ
  | [], A, hA, _ => hA
  | q :: r, A, hA, h => by
    refine addQs_ok r _ ?_ (fun p hp => h p (List.mem_cons_of_mem _ hp))
    obtain ⟨x, y, e1, e2, e3⟩ := h q List.mem_cons_self
    unfold addQ
    split
    · next a b ha hb =>
      obtain ⟨v, f1, f2⟩ := plA_ok hA ha
      obtain ⟨w, f3, f4⟩ := plA_ok hA hb
      cases e1.symm.trans f1
      cases e2.symm.trans f3
      refine ⟨hA.1, hA.2.1, hA.2.2.1, hA.2.2.2.1, hA.2.2.2.2.1, fun p hp => ?_⟩
      rcases List.mem_cons.mp hp with rfl | hp
      · exact ⟨x, y, f2, f4, e3⟩
      · exact hA.2.2.2.2.2 p hp
    · exact hA
theorem ac0_ok {u : CUT} (h : gC' KO u lv st σ) : ∃ ν ρs, gA KO (ac0 u) ν ρs lv st σ := by
  have h0 : gA KO ([], 0, [], [], [], []) [] [] lv [] σ := by
    refine ⟨⟨rfl, fun j iv hj => ?_⟩, rfl, fun q hq => ?_, trivial, fun q hq => ?_, fun q hq => ?_⟩
    · cases hj
    · cases hq
    · cases hq
    · cases hq
  obtain ⟨ν1, ρ1, h1⟩ := addLs_ok u.2.1 _ _ _ h0 h.1
  obtain ⟨ν2, ρ2, h2⟩ := addSs_ok u.2.2.1.reverse st.reverse _ _ _ [] h1 (gVs_rev h.2.1)
  rw [List.reverse_reverse, List.append_nil] at h2
  obtain ⟨ν3, ρ3, h3⟩ := addFs_ok _ _ _ _ h2 h.2.2.1
  exact ⟨ν3, ρ3, addQs_ok _ _ h3 h.2.2.2⟩
end Ac
