/-! an abstract heap: cells by their handles (places in a list), references are handles; 'ad' gives the addresses, 'cs' the classes of the arrays -/
abbrev LV : Type := List (Nat × Value)
abbrev SG : Type := List va_E
def T4 (cs : Nat → ClassId) : List (ClassId × FieldType) := [(cs 0, .int), (cs 1, .boolean), (cs 2, .long), (cs 3, .object RX6)]
def vM (ad : Nat → Nat) : Value → Value
  | .ref h => .ref (ad h)
  | v => v
def aM (ad : Nat → Nat) (a : vp_A) : vp_A := (a.1, match a.2 with
  | .inr (.inr (.inr (.inr f))) => .inr (.inr (.inr (.inr (fun j => (f j).map ad))))
  | x => x)
def eM (cs ad : Nat → Nat) : va_E → va_E
  | .inl a => .inl (cs a.1, aM ad a.2)
  | .inr o => .inr (o.1, o.2.map (vM ad))
def wM (cs ad : Nat → Nat) (σ : SG) : va_W := σ.mapIdx (fun i e => (ad i, eM cs ad e))
def lM (ad : Nat → Nat) (lv : LV) : LV := lv.map (fun q => (q.1, vM ad q.2))
theorem vM_cat (ad : Nat → Nat) (v : Value) : (vM ad v).category = v.category := by cases v <;> rfl
theorem wM_get {cs ad : Nat → Nat} {σ : SG} {h : Nat} {e : va_E} (hh : σ[h]? = some e) : (wM cs ad σ)[h]? = some (ad h, eM cs ad e) := by
  unfold wM
  rw [List.getElem?_mapIdx, hh]
  rfl
theorem wM_set (cs ad : Nat → Nat) (σ : SG) (h : Nat) (e : va_E) : wM cs ad (σ.set h e) = (wM cs ad σ).set h (ad h, eM cs ad e) := by
  unfold wM
  rw [List.mapIdx_set]
theorem vM_sum (ad : Nat → Nat) (st : List Value) : ((st.map (vM ad)).map fun v => v.category).sum = (st.map fun v => v.category).sum := by
  induction st with
  | nil => rfl
  | cons v r ih => simp only [List.map_cons, List.sum_cons, vM_cat, ih]
def lget (lv : LV) (i : Nat) : Option Value := (lv.find? (fun q => q.1 == i)).map (fun q => q.2)
def lS1 (i : Nat) (v : Value) (lv : LV) : LV := (i, v) :: lv.filter (fun q => !(q.1 == i) && !(q.1 + 1 == i && q.2.category == 2))
def lS2 (i : Nat) (v : Value) (lv : LV) : LV := (i, v) :: lv.filter (fun q => !(q.1 == i) && (!(q.1 == i + 1) && !(q.1 + 1 == i && q.2.category == 2)))
theorem lM_filter (ad : Nat → Nat) (P : Nat → Nat → Bool) (lv : LV) : lM ad (lv.filter (fun q => P q.1 q.2.category)) = (lM ad lv).filter (fun q => P q.1 q.2.category) := by
  induction lv with
  | nil => rfl
  | cons q r ih =>
    unfold lM at ih ⊢
    simp only [List.filter_cons, List.map_cons, vM_cat]
    cases P q.1 q.2.category
    · simpa using ih
    · simp only [if_true, List.map_cons, ih]
theorem lM_S1 (ad : Nat → Nat) (i : Nat) (v : Value) (lv : LV) : lM ad (lS1 i v lv) = (i, vM ad v) :: (lM ad lv).filter (fun q => !(q.1 == i) && !(q.1 + 1 == i && q.2.category == 2)) := by
  show (i, vM ad v) :: lM ad (lv.filter _) = _
  rw [lM_filter ad (fun a c => !(a == i) && !(a + 1 == i && c == 2)) lv]
theorem lM_S2 (ad : Nat → Nat) (i : Nat) (v : Value) (lv : LV) : lM ad (lS2 i v lv) = (i, vM ad v) :: (lM ad lv).filter (fun q => !(q.1 == i) && (!(q.1 == i + 1) && !(q.1 + 1 == i && q.2.category == 2))) := by
  show (i, vM ad v) :: lM ad (lv.filter _) = _
  rw [lM_filter ad (fun a c => !(a == i) && (!(a == i + 1) && !(a + 1 == i && c == 2))) lv]
theorem lget_mem {lv : LV} {i : Nat} {v : Value} (h : lget lv i = some v) : (i, v) ∈ lv := by
  unfold lget at h
  cases hf : lv.find? (fun q => q.1 == i) with
  | none => rw [hf] at h; cases h
  | some q =>
    rw [hf] at h
    have h1 := List.mem_of_find?_eq_some hf
    have h2 := List.find?_some hf
    simp at h2
    cases h
    subst h2
    exact h1
theorem lget_at {ad : Nat → Nat} {ls : Array Slot} {n : Nat} {lv : LV} (hl : lv_has ls n (lM ad lv)) {i : Nat} {v : Value} (h : lget lv i = some v) : ls[i]? = some (.val (vM ad v)) :=
  hl.2.2 (i, vM ad v) (List.mem_map.mpr ⟨(i, v), lget_mem h, rfl⟩)
theorem lget_ix {ad : Nat → Nat} {lv : LV} {i : Nat} {v : Value} (h : lget lv i = some v) : ∃ k : Nat, (lM ad lv)[k]? = some (i, vM ad v) :=
  List.getElem?_of_mem (List.mem_map.mpr ⟨(i, v), lget_mem h, rfl⟩)
theorem va_nd_range (n : Nat) : va_nd (List.range n) = true := by
  have key : ∀ l : List Nat, l.Nodup → va_nd l = true := by
    intro l hl
    induction l with
    | nil => rfl
    | cons a r ih =>
      have h := List.nodup_cons.mp hl
      simp only [va_nd, ih h.2, Bool.and_true]
      simpa using h.1
  exact key _ List.nodup_range
theorem range_get {α : Type} (ws : List α) : (List.range ws.length).map (fun i => ws[i]?) = ws.map some := by
  apply List.ext_getElem?
  intro i
  rw [List.getElem?_map, List.getElem?_map]
  rcases Nat.lt_or_ge i ws.length with h | h
  · rw [List.getElem?_range h]
    simp [List.getElem?_eq_getElem h]
  · rw [List.getElem?_eq_none (by simpa using h), List.getElem?_eq_none h]
    rfl
