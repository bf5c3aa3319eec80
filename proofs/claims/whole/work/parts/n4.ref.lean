/-! what a comparison says of the symbols -/
def rHi (sy : List IV) (a : AS) (u : Int) : Option (List IV) := match a with
  | .inl (none, c) => if c ≤ u then some sy else none
  | .inl (some j, c) => match sy[j]? with
    | some q => if q.1 ≤ (if q.2 ≤ u - c then q.2 else u - c) then some (sy.set j (q.1, if q.2 ≤ u - c then q.2 else u - c)) else none
    | none => some sy
  | .inr _ => some sy
def rLo (sy : List IV) (a : AS) (u : Int) : Option (List IV) := match a with
  | .inl (none, c) => if u ≤ c then some sy else none
  | .inl (some j, c) => match sy[j]? with
    | some q => if (if u - c ≤ q.1 then q.1 else u - c) ≤ q.2 then some (sy.set j (if u - c ≤ q.1 then q.1 else u - c, q.2)) else none
    | none => some sy
  | .inr _ => some sy
def rAll : List IV → List (Bool × AS × Int) → Option (List IV)
  | sy, [] => some sy
  | sy, (true, a, u) :: r => match rHi sy a u with
    | some sy' => rAll sy' r
    | none => none
  | sy, (false, a, u) :: r => match rLo sy a u with
    | some sy' => rAll sy' r
    | none => none
def hN (sy : List IV) (ν : List Int) : Prop := ν.length = sy.length ∧ ∀ (j : Nat) (iv : IV), sy[j]? = some iv → ∃ n, ν[j]? = some n ∧ iv.1 ≤ n ∧ n ≤ iv.2
theorem hN_set {sy : List IV} {ν : List Int} (h : hN sy ν) {j : Nat} {q : IV} {n : Int} (hn : ν[j]? = some n) (h1 : q.1 ≤ n) (h2 : n ≤ q.2) : hN (sy.set j q) ν := by
  refine ⟨by rw [List.length_set]; exact h.1, fun j' iv hj => ?_⟩
  rw [List.getElem?_set] at hj
  split at hj
  · next e =>
    subst e
    split at hj
    · cases hj; exact ⟨n, hn, h1, h2⟩
    · cases hj
  · exact h.2 j' iv hj
theorem rHi_ok {KO : List Nat} {sy : List IV} {ν : List Int} {ρs : List Nat} (h : hN sy ν) {a : AS} {x : Int32} {u : Int} (ha : gS KO ν ρs a (.int x)) (hu : x.toInt ≤ u) : ∃ sy', rHi sy a u = some sy' ∧ hN sy' ν := by
  match a, ha with
  | .inl (none, c), ha =>
    obtain ⟨z, e1, e2⟩ := ha
    cases e1
    exact ⟨sy, by show (if c ≤ u then some sy else none) = _; rw [if_pos (by omega)], h⟩
  | .inl (some j, c), ha =>
    obtain ⟨z, n, e1, e2, e3⟩ := ha
    cases e1
    cases hq : sy[j]? with
    | none => exact ⟨sy, by show (match sy[j]? with | some q => _ | none => some sy) = _; rw [hq], h⟩
    | some q =>
      obtain ⟨n', h1, h2, h3⟩ := h.2 j q hq
      cases e2.symm.trans h1
      have hc : q.1 ≤ (if q.2 ≤ u - c then q.2 else u - c) := by split <;> omega
      refine ⟨sy.set j (q.1, if q.2 ≤ u - c then q.2 else u - c), ?_, hN_set h e2 h2 (by dsimp only; split <;> omega)⟩
      show (match sy[j]? with | some q => _ | none => some sy) = _
      rw [hq]
      dsimp only
      rw [if_pos hc]
  | .inr _, ha => exact ⟨sy, rfl, h⟩
theorem rLo_ok {KO : List Nat} {sy : List IV} {ν : List Int} {ρs : List Nat} (h : hN sy ν) {a : AS} {x : Int32} {u : Int} (ha : gS KO ν ρs a (.int x)) (hu : u ≤ x.toInt) : ∃ sy', rLo sy a u = some sy' ∧ hN sy' ν := by
  match a, ha with
  | .inl (none, c), ha =>
    obtain ⟨z, e1, e2⟩ := ha
    cases e1
    exact ⟨sy, by show (if u ≤ c then some sy else none) = _; rw [if_pos (by omega)], h⟩
  | .inl (some j, c), ha =>
    obtain ⟨z, n, e1, e2, e3⟩ := ha
    cases e1
    cases hq : sy[j]? with
    | none => exact ⟨sy, by show (match sy[j]? with | some q => _ | none => some sy) = _; rw [hq], h⟩
    | some q =>
      obtain ⟨n', h1, h2, h3⟩ := h.2 j q hq
      cases e2.symm.trans h1
      have hc : (if u - c ≤ q.1 then q.1 else u - c) ≤ q.2 := by split <;> omega
      refine ⟨sy.set j (if u - c ≤ q.1 then q.1 else u - c, q.2), ?_, hN_set h e2 (by dsimp only; split <;> omega) h3⟩
      show (match sy[j]? with | some q => _ | none => some sy) = _
      rw [hq]
      dsimp only
      rw [if_pos hc]
  | .inr _, ha => exact ⟨sy, rfl, h⟩
/-- a demand that holds -/
def cOK (KO : List Nat) (ν : List Int) (ρs : List Nat) (q : Bool × AS × Int) : Prop := ∃ x : Int32, gS KO ν ρs q.2.1 (.int x) ∧ if q.1 = true then x.toInt ≤ q.2.2 else q.2.2 ≤ x.toInt
theorem rAll_ok {KO : List Nat} {ν : List Int} {ρs : List Nat} : ∀ (cs : List (Bool × AS × Int)) (sy : List IV), hN sy ν → (∀ q ∈ cs, cOK KO ν ρs q) → ∃ sy', rAll sy cs = some sy' ∧ hN sy' ν
  | [], sy, h, _ => ⟨sy, rfl, h⟩
  | (true, a, u) :: r, sy, h, hc => by
    obtain ⟨x, ha, hu⟩ := hc _ List.mem_cons_self
    obtain ⟨sy', e, h'⟩ := rHi_ok h ha hu
    obtain ⟨sy2, e2, h2⟩ := rAll_ok r sy' h' (fun q hq => hc q (List.mem_cons_of_mem _ hq))
    refine ⟨sy2, ?_, h2⟩
    show (match rHi sy a u with | some sy' => rAll sy' r | none => none) = _
    rw [e]
    exact e2
  | (false, a, u) :: r, sy, h, hc => by
    obtain ⟨x, ha, hu⟩ := hc _ List.mem_cons_self
    obtain ⟨sy', e, h'⟩ := rLo_ok h ha hu
    obtain ⟨sy2, e2, h2⟩ := rAll_ok r sy' h' (fun q hq => hc q (List.mem_cons_of_mem _ hq))
    refine ⟨sy2, ?_, h2⟩
    show (match rLo sy a u with | some sy' => rAll sy' r | none => none) = _
    rw [e]
    exact e2
def cNeg : ClassFile.Cond → ClassFile.Cond
  | .eq => .ne
  | .ne => .eq
  | .lt => .ge
  | .ge => .lt
  | .gt => .le
  | .le => .gt
theorem cNeg_ok (cd : ClassFile.Cond) (x y : Int32) : cI (cNeg cd) x y = !cI cd x y := by
  have key : ∀ a b : Int32, decide (a ≤ b) = !decide (b < a) := by
    intro a b
    rw [Bool.eq_iff_iff]
    simp
  cases cd <;> simp only [cNeg, cI]
  · simp
  · simp
  · rw [key]
  · rw [key]; simp
  · rw [key]
  · rw [key]; simp
def cN (cd : ClassFile.Cond) (a b : AS) (qa qb : IV) : List (Bool × AS × Int) := match cd with
  | .lt => [(true, a, qb.2 - 1), (false, b, qa.1 + 1)]
  | .le => [(true, a, qb.2), (false, b, qa.1)]
  | .gt => [(false, a, qb.1 + 1), (true, b, qa.2 - 1)]
  | .ge => [(false, a, qb.1), (true, b, qa.2)]
  | .eq => [(true, a, qb.2), (false, a, qb.1), (true, b, qa.2), (false, b, qa.1)]
  | .ne => if qb.1 = qb.2 then (if qa.1 = qb.1 then [(false, a, qb.1 + 1)] else if qa.2 = qb.1 then [(true, a, qb.1 - 1)] else []) else []
theorem cN_ok {KO : List Nat} {sy : List IV} {ν : List Int} {ρs : List Nat} (h : hN sy ν) {cd : ClassFile.Cond} {a b : AS} {x y : Int32} (ha : gS KO ν ρs a (.int x)) (hb : gS KO ν ρs b (.int y)) (hc : cI cd x y = true) : ∀ q ∈ cN cd a b (ivS sy a) (ivS sy b), cOK KO ν ρs q := by
  have qa := ivS_ok h.2 ha
  have qb := ivS_ok h.2 hb
  intro q hq
  cases cd with
  | lt =>
    have hc := of_decide_eq_true hc
    rw [Int32.lt_iff_toInt_lt] at hc
    simp only [cN, List.mem_cons, List.not_mem_nil, or_false] at hq
    rcases hq with rfl | rfl
    · exact ⟨x, ha, by show x.toInt ≤ _; dsimp only; omega⟩
    · exact ⟨y, hb, by show _ ≤ y.toInt; dsimp only; omega⟩
  | le =>
    have hc := of_decide_eq_true hc
    rw [Int32.le_iff_toInt_le] at hc
    simp only [cN, List.mem_cons, List.not_mem_nil, or_false] at hq
    rcases hq with rfl | rfl
    · exact ⟨x, ha, by show x.toInt ≤ _; dsimp only; omega⟩
    · exact ⟨y, hb, by show _ ≤ y.toInt; dsimp only; omega⟩
  | gt =>
    have hc := of_decide_eq_true hc
    rw [Int32.lt_iff_toInt_lt] at hc
    simp only [cN, List.mem_cons, List.not_mem_nil, or_false] at hq
    rcases hq with rfl | rfl
    · exact ⟨x, ha, by show _ ≤ x.toInt; dsimp only; omega⟩
    · exact ⟨y, hb, by show y.toInt ≤ _; dsimp only; omega⟩
  | ge =>
    have hc := of_decide_eq_true hc
    rw [Int32.le_iff_toInt_le] at hc
    simp only [cN, List.mem_cons, List.not_mem_nil, or_false] at hq
    rcases hq with rfl | rfl
    · exact ⟨x, ha, by show _ ≤ x.toInt; dsimp only; omega⟩
    · exact ⟨y, hb, by show y.toInt ≤ _; dsimp only; omega⟩
  | eq =>
    have hc := of_decide_eq_true hc
    subst hc
    simp only [cN, List.mem_cons, List.not_mem_nil, or_false] at hq
    rcases hq with rfl | rfl | rfl | rfl
    · exact ⟨x, ha, by show x.toInt ≤ _; dsimp only; omega⟩
    · exact ⟨x, ha, by show _ ≤ x.toInt; dsimp only; omega⟩
    · exact ⟨x, hb, by show x.toInt ≤ _; dsimp only; omega⟩
    · exact ⟨x, hb, by show _ ≤ x.toInt; dsimp only; omega⟩
  | ne =>
    have hc := of_decide_eq_true hc
    have hne : ¬ x.toInt = y.toInt := fun e => hc (Int32.toInt_inj.mp e)
    unfold cN at hq
    dsimp only at hq
    split at hq
    · split at hq
      · simp only [List.mem_cons, List.not_mem_nil, or_false] at hq
        subst hq
        exact ⟨x, ha, by show _ ≤ x.toInt; dsimp only; omega⟩
      · split at hq
        · simp only [List.mem_cons, List.not_mem_nil, or_false] at hq
          subst hq
          exact ⟨x, ha, by show x.toInt ≤ _; dsimp only; omega⟩
        · cases hq
    · cases hq
/-! the abstract state: another stack, a new symbol, a new reference -/
def sS (A : AC) (st : List AS) : AC := (A.1, A.2.1, A.2.2.1, st, A.2.2.2.2)
def sY (A : AC) (sy : List IV) : AC := (sy, A.2.1, A.2.2.1, A.2.2.2.1, A.2.2.2.2)
def fI (A : AC) (q : IV) : AC := (A.1 ++ [q], A.2.1, A.2.2.1, A.2.2.2.1, A.2.2.2.2)
def fR (A : AC) : AC := (A.1, A.2.1 + 1, A.2.2.1, A.2.2.2.1, A.2.2.2.2)
section St
variable {KO : List Nat} {A : AC} {ν : List Int} {ρs : List Nat} {lv : LV} {st st' : List Value} {σ : SG}
theorem gA_S (h : gA KO A ν ρs lv st σ) {as : List AS} (hs : gL KO ν ρs as st') : gA KO (sS A as) ν ρs lv st' σ := ⟨h.1, h.2.1, h.2.2.1, hs, h.2.2.2.2⟩
theorem gA_Y (h : gA KO A ν ρs lv st σ) {sy : List IV} (hs : hN sy ν) : gA KO (sY A sy) ν ρs lv st σ := ⟨hs, h.2.1, h.2.2.1, h.2.2.2.1, h.2.2.2.2⟩
theorem gA_I (h : gA KO A ν ρs lv st σ) {q : IV} {n : Int} (h1 : q.1 ≤ n) (h2 : n ≤ q.2) : gA KO (fI A q) (ν ++ [n]) ρs lv st σ := by
  have e := ext.app ν [n]
  refine ⟨⟨by simp [fI, h.1.1], fun j iv hj => ?_⟩, h.2.1, fun q hq => ?_, h.2.2.2.1.ext e ext.rf, h.2.2.2.2.ext e ext.rf⟩
  · rcases Nat.lt_or_ge j A.1.length with hl | hl
    · have hj' : A.1[j]? = some iv := by
        have : (A.1 ++ [q])[j]? = some iv := hj
        rwa [List.getElem?_append_left hl] at this
      obtain ⟨m, e1, e2⟩ := h.1.2 j iv hj'
      exact ⟨m, e _ _ e1, e2⟩
    · have hj' : (A.1 ++ [q])[j]? = some iv := hj
      rw [List.getElem?_append_right hl] at hj'
      have h0 : j - A.1.length = 0 := by
        rcases Nat.eq_zero_or_pos (j - A.1.length) with z | z
        · exact z
        · rw [List.getElem?_eq_none (show [q].length ≤ j - A.1.length from z)] at hj'; cases hj'
      rw [h0] at hj'
      cases hj'
      refine ⟨n, ?_, h1, h2⟩
      have : j = ν.length := by have := h.1.1; omega
      rw [this]
      exact app_last ν n
  · obtain ⟨v, e1, e2⟩ := h.2.2.1 q hq
    exact ⟨v, e1, e2.ext e ext.rf⟩
theorem gA_R (h : gA KO A ν ρs lv st σ) (r : Nat) : gA KO (fR A) ν (ρs ++ [r]) lv st σ := by
  have e := ext.app ρs [r]
  refine ⟨h.1, by simp [fR, h.2.1], fun q hq => ?_, h.2.2.2.1.ext ext.rf e, h.2.2.2.2.ext ext.rf e⟩
  obtain ⟨v, e1, e2⟩ := h.2.2.1 q hq
  exact ⟨v, e1, e2.ext ext.rf e⟩
/-- the answer of an operation on the stack -/
def pR (A : AC) (r : List AS) : AS ⊕ IV → AC
  | .inl a => sS A (a :: r)
  | .inr q => sS (fI A q) (.inl (some A.1.length, 0) :: r)
theorem gA_P (h : gA KO A ν ρs lv st σ) {r : List AS} {vs : List Value} (hr : gL KO ν ρs r vs) {x : Int32} {q : AS ⊕ IV} (hq : gR KO ν ρs x q) : ∃ ν', ext ν ν' ∧ gA KO (pR A r q) ν' ρs lv (.int x :: vs) σ := by
  cases q with
  | inl a => exact ⟨ν, ext.rf, gA_S h ⟨hq, hr⟩⟩
  | inr q =>
    have e := ext.app ν [x.toInt]
    refine ⟨ν ++ [x.toInt], e, gA_S (gA_I h hq.1 hq.2) ⟨⟨x, x.toInt, rfl, ?_, by omega⟩, hr.ext e ext.rf⟩⟩
    rw [← h.1.1]
    exact app_last ν _
end St
