/-! intervals: an abstract state (symbols with their intervals, locals, stack, fields that are known), kinds of cells -/
abbrev IV : Type := Int × Int
abbrev AS : Type := (Option Nat × Int) ⊕ Option (Nat × Nat)
abbrev AV : Type := IV ⊕ Option Nat
/-- an object: class, its fields; an array: tag, length, pieces with their intervals, the kind of its elements -/
abbrev KDT : Type := (Nat × List AV) ⊕ (Nat × Nat × List (Nat × IV) × Nat)
abbrev RLt : Type := AS × AS × Int
abbrev AC : Type := List IV × Nat × List (Nat × AS) × List AS × List (Nat × Nat × Nat × AS) × List RLt
def ivT : IV := (-2147483648, 2147483647)
def ivS (sy : List IV) : AS → IV
  | .inl (none, c) => (c, c)
  | .inl (some j, c) => match sy[j]? with
    | some q => (q.1 + c, q.2 + c)
    | none => ivT
  | .inr _ => ivT
def gV (KO : List Nat) : AV → Value → Prop
  | .inl q, v => ∃ x : Int32, v = .int x ∧ q.1 ≤ x.toInt ∧ x.toInt ≤ q.2
  | .inr none, v => ∃ x : Int64, v = .long x
  | .inr (some κ), v => ∃ h : Nat, v = .ref h ∧ KO[h]? = some κ
def gS (KO : List Nat) (ν : List Int) (ρs : List Nat) : AS → Value → Prop
  | .inl (none, c), v => ∃ x : Int32, v = .int x ∧ x.toInt = c
  | .inl (some j, c), v => ∃ (x : Int32) (n : Int), v = .int x ∧ ν[j]? = some n ∧ x.toInt = n + c
  | .inr none, v => ∃ x : Int64, v = .long x
  | .inr (some q), v => ∃ h : Nat, v = .ref h ∧ ρs[q.2]? = some h ∧ KO[h]? = some q.1
def gL (KO : List Nat) (ν : List Int) (ρs : List Nat) : List AS → List Value → Prop
  | [], [] => True
  | a :: as, v :: vs => gS KO ν ρs a v ∧ gL KO ν ρs as vs
  | _, _ => False
/-- the field k of the object h -/
def fld (σ : SG) (h k : Nat) : Option Value := match σ[h]? with
  | some (.inr o) => o.2[k]?
  | _ => none
def arr (σ : SG) (h : Nat) : Option (Nat × vp_A) := match σ[h]? with
  | some (.inl a) => some a
  | _ => none
def segAt : List (Nat × IV) → Nat → Option IV
  | [], _ => none
  | q :: r, j => if j < q.1 then some q.2 else segAt r (j - q.1)
def arrOK (KO : List Nat) (t n : Nat) (sg : List (Nat × IV)) (κ : Nat) (a : vp_A) : Prop := a.1 = n ∧ match t with
  | 0 => ∃ f : Nat → Int32, a.2 = .inl f ∧ ∀ (j : Nat) (q : IV), j < n → segAt sg j = some q → q.1 ≤ (f j).toInt ∧ (f j).toInt ≤ q.2
  | 1 => ∃ f : Nat → Int32, a.2 = .inl f ∧ ∀ (j : Nat) (q : IV), j < n → segAt sg j = some q → q.1 ≤ (f j).toInt ∧ (f j).toInt ≤ q.2
  | 2 => ∃ f : Nat → Int64, a.2 = .inr (.inl f)
  | _ => ∃ f : Nat → Option Nat, a.2 = .inr (.inr (.inr (.inr f))) ∧ ∀ j : Nat, j < n → ∃ h : Nat, f j = some h ∧ KO[h]? = some κ
def cellOK (KO : List Nat) : KDT → va_E → Prop
  | .inl o, e => ∃ fs, e = .inr (o.1, fs) ∧ ∀ (j : Nat) (av : AV), o.2[j]? = some av → ∃ v, fs[j]? = some v ∧ gV KO av v
  | .inr q, e => ∃ a, e = .inl (q.1, a) ∧ arrOK KO q.1 q.2.1 q.2.2.1 q.2.2.2 a
def Inv (KD : List KDT) (KO : List Nat) (σ : SG) : Prop := ∀ (h κ : Nat) (kd : KDT), KO[h]? = some κ → KD[κ]? = some kd → ∃ e, σ[h]? = some e ∧ cellOK KO kd e
/-- what may have moved: (kind, field), for an array (kind, 0) -/
def Fr (KO : List Nat) (ms : List (Nat × Nat)) (σ σ' : SG) : Prop := σ'.length = σ.length ∧ ∀ (h κ : Nat), KO[h]? = some κ → (∀ k, (κ, k) ∉ ms → fld σ' h k = fld σ h k) ∧ ((κ, 0) ∉ ms → arr σ' h = arr σ h)
theorem Fr.rf {KO : List Nat} {ms : List (Nat × Nat)} {σ : SG} : Fr KO ms σ σ := ⟨rfl, fun _ _ _ => ⟨fun _ _ => rfl, fun _ => rfl⟩⟩
theorem Fr.tr {KO : List Nat} {ms : List (Nat × Nat)} {σ σ1 σ2 : SG} (h : Fr KO ms σ σ1) (h' : Fr KO ms σ1 σ2) : Fr KO ms σ σ2 := ⟨h'.1.trans h.1, fun x κ hx => ⟨fun k hk => ((h'.2 x κ hx).1 k hk).trans ((h.2 x κ hx).1 k hk), fun hk => ((h'.2 x κ hx).2 hk).trans ((h.2 x κ hx).2 hk)⟩⟩
theorem Fr.wk {KO : List Nat} {ms ms' : List (Nat × Nat)} {σ σ' : SG} (h : Fr KO ms σ σ') (hs : ∀ q ∈ ms, q ∈ ms') : Fr KO ms' σ σ' := ⟨h.1, fun x κ hx => ⟨fun k hk => (h.2 x κ hx).1 k (fun q => hk (hs _ q)), fun hk => (h.2 x κ hx).2 (fun q => hk (hs _ q))⟩⟩
/-- the known fields (object, field, kind, value), and what is less than what -/
def gF (KO : List Nat) (ν : List Int) (ρs : List Nat) (σ : SG) (F : List (Nat × Nat × Nat × AS) × List RLt) : Prop :=
  (∀ q ∈ F.1, ∃ h v, ρs[q.1]? = some h ∧ KO[h]? = some q.2.2.1 ∧ fld σ h q.2.1 = some v ∧ gS KO ν ρs q.2.2.2 v) ∧
  ∀ q ∈ F.2, ∃ x y : Int32, gS KO ν ρs q.1 (.int x) ∧ gS KO ν ρs q.2.1 (.int y) ∧ x.toInt + q.2.2 ≤ y.toInt
def gA (KO : List Nat) (A : AC) (ν : List Int) (ρs : List Nat) (lv : LV) (st : List Value) (σ : SG) : Prop :=
  (ν.length = A.1.length ∧ ∀ (j : Nat) (iv : IV), A.1[j]? = some iv → ∃ n, ν[j]? = some n ∧ iv.1 ≤ n ∧ n ≤ iv.2) ∧ ρs.length = A.2.1 ∧ (∀ q ∈ A.2.2.1, ∃ v, lget lv q.1 = some v ∧ gS KO ν ρs q.2 v) ∧ gL KO ν ρs A.2.2.2.1 st ∧ gF KO ν ρs σ A.2.2.2.2
/-- more symbols: what was said stays -/
def ext {α : Type} (a b : List α) : Prop := ∀ (j : Nat) (x : α), a[j]? = some x → b[j]? = some x
theorem ext.rf {α : Type} {a : List α} : ext a a := fun _ _ h => h
theorem ext.tr {α : Type} {a b c : List α} (h : ext a b) (h' : ext b c) : ext a c := fun j x q => h' j x (h j x q)
theorem ext.app {α : Type} (a b : List α) : ext a (a ++ b) := fun j x h => by
  rw [List.getElem?_append_left (List.getElem?_eq_some_iff.mp h).1]
  exact h
theorem app_last {α : Type} (a : List α) (x : α) : (a ++ [x])[a.length]? = some x := by
  rw [List.getElem?_append_right (Nat.le_refl _), Nat.sub_self]
  rfl
theorem gS.ext {KO : List Nat} {ν ν' : List Int} {ρs ρs' : List Nat} (h1 : ext ν ν') (h2 : ext ρs ρs') {a : AS} {v : Value} (h : gS KO ν ρs a v) : gS KO ν' ρs' a v := by
  match a, h with
  | .inl (none, c), h => exact h
  | .inl (some j, c), h => obtain ⟨x, n, e1, e2, e3⟩ := h; exact ⟨x, n, e1, h1 _ _ e2, e3⟩
  | .inr none, h => exact h
  | .inr (some q), h => obtain ⟨x, e1, e2, e3⟩ := h; exact ⟨x, e1, h2 _ _ e2, e3⟩
theorem gL.ext {KO : List Nat} {ν ν' : List Int} {ρs ρs' : List Nat} (h1 : ext ν ν') (h2 : ext ρs ρs') : ∀ {as : List AS} {vs : List Value}, gL KO ν ρs as vs → gL KO ν' ρs' as vs
  | [], [], _ => trivial
  | _ :: _, _ :: _, h => ⟨h.1.ext h1 h2, gL.ext h1 h2 h.2⟩
  | [], _ :: _, h => h.elim
  | _ :: _, [], h => h.elim
theorem gF.ext {KO : List Nat} {ν ν' : List Int} {ρs ρs' : List Nat} {σ : SG} {F : List (Nat × Nat × Nat × AS) × List RLt} (h1 : ext ν ν') (h2 : ext ρs ρs') (h : gF KO ν ρs σ F) : gF KO ν' ρs' σ F := ⟨fun q hq => by
  obtain ⟨x, v, e1, e2, e3, e4⟩ := h.1 q hq
  exact ⟨x, v, h2 _ _ e1, e2, e3, e4.ext h1 h2⟩, fun q hq => by
  obtain ⟨x, y, e1, e2, e3⟩ := h.2 q hq
  exact ⟨x, y, e1.ext h1 h2, e2.ext h1 h2, e3⟩⟩
theorem ivS_ok {KO : List Nat} {sy : List IV} {ν : List Int} {ρs : List Nat} (hν : ∀ (j : Nat) (iv : IV), sy[j]? = some iv → ∃ n, ν[j]? = some n ∧ iv.1 ≤ n ∧ n ≤ iv.2) {a : AS} {x : Int32} (h : gS KO ν ρs a (.int x)) : (ivS sy a).1 ≤ x.toInt ∧ x.toInt ≤ (ivS sy a).2 := by
  have hx := Int32.minValue_le_toInt x
  have hy := Int32.toInt_le x
  have hx : -2147483648 ≤ x.toInt := hx
  have hy : x.toInt ≤ 2147483647 := hy
  match a, h with
  | .inl (none, c), h =>
    obtain ⟨y, e1, e2⟩ := h
    cases e1
    exact ⟨Int.le_of_eq e2.symm, Int.le_of_eq e2⟩
  | .inl (some j, c), h =>
    obtain ⟨y, n, e1, e2, e3⟩ := h
    cases e1
    have hd : ivS sy (.inl (some j, c)) = match sy[j]? with
      | some q => (q.1 + c, q.2 + c)
      | none => ivT := rfl
    rw [hd]
    cases hq : sy[j]? with
    | none => exact ⟨hx, hy⟩
    | some q =>
      obtain ⟨n', h1, h2, h3⟩ := hν j q hq
      cases e2.symm.trans h1
      exact ⟨by show q.1 + c ≤ _; omega, by show _ ≤ q.2 + c; omega⟩
  | .inr _, h => exact ⟨hx, hy⟩
