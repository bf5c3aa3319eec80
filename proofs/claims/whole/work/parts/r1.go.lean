/-! an exact picture of the heap (shapes of cells by handles; ints and longs as functions), runs that begin in it, and their rules -/
abbrev FT : Type := Bool ⊕ Nat
abbrev SHP : Type := (Nat × List FT) ⊕ (Nat × Nat)
abbrev ST : Type := (Nat → Nat → Int32) × (Nat → Nat → Int64)
abbrev LSt : Type := List (Option Value)
abbrev XT : Type := Nat → Option SHP
abbrev RT : Type := Nat → OC → ST → Prop
def fV (I : Nat → Int32) (L : Nat → Int64) (k : Nat) : FT → Value
  | .inl false => .int (I k)
  | .inl true => .long (L k)
  | .inr h => .ref h
def cellS (I : Nat → Int32) (L : Nat → Int64) : SHP → va_E
  | .inl o => .inr (o.1, o.2.mapIdx (fV I L))
  | .inr (0, n) => .inl (0, n, .inl I)
  | .inr (1, n) => .inl (1, n, .inl I)
  | .inr (2, n) => .inl (2, n, .inr (.inl L))
  | .inr (t + 3, n) => .inl (3, n, .inr (.inr (.inr (.inr (fun j => if j < n then some (t + 9 * j) else none)))))
def HV (X : XT) (S : ST) (σ : SG) : Prop := ∀ h sh, X h = some sh → σ[h]? = some (cellS (S.1 h) (S.2 h) sh)
def Out (X : XT) (σ σ' : SG) : Prop := σ'.length = σ.length ∧ ∀ h, X h = none → σ'[h]? = σ[h]?
theorem Out.rf {X : XT} {σ : SG} : Out X σ σ := ⟨rfl, fun _ _ => rfl⟩
theorem Out.tr {X : XT} {σ σ1 σ2 : SG} (h : Out X σ σ1) (h' : Out X σ1 σ2) : Out X σ σ2 := ⟨h'.1.trans h.1, fun x hx => (h'.2 x hx).trans (h.2 x hx)⟩
def wI (S : ST) (h k : Nat) (v : Int32) : ST := (fun h' k' => if h' = h ∧ k' = k then v else S.1 h' k', S.2)
def wL (S : ST) (h k : Nat) (v : Int64) : ST := (S.1, fun h' k' => if h' = h ∧ k' = k then v else S.2 h' k')
theorem wI_1 (S : ST) (h k : Nat) (v : Int32) (h' k' : Nat) : (wI S h k v).1 h' k' = if h' = h ∧ k' = k then v else S.1 h' k' := rfl
theorem wI_2 (S : ST) (h k : Nat) (v : Int32) : (wI S h k v).2 = S.2 := rfl
theorem wL_2 (S : ST) (h k : Nat) (v : Int64) (h' k' : Nat) : (wL S h k v).2 h' k' = if h' = h ∧ k' = k then v else S.2 h' k' := rfl
theorem wL_1 (S : ST) (h k : Nat) (v : Int64) : (wL S h k v).1 = S.1 := rfl
theorem wI_o (S : ST) {h h' : Nat} (k : Nat) (v : Int32) (hn : ¬ h' = h) : (wI S h k v).1 h' = S.1 h' := by
  funext j
  rw [wI_1, if_neg (fun q => hn q.1)]
theorem wL_o (S : ST) {h h' : Nat} (k : Nat) (v : Int64) (hn : ¬ h' = h) : (wL S h k v).2 h' = S.2 h' := by
  funext j
  rw [wL_2, if_neg (fun q => hn q.1)]
theorem wI_u (S : ST) (h k : Nat) (v : Int32) : (wI S h k v).1 h = upd (S.1 h) k v := by
  funext j
  rw [wI_1]
  unfold upd
  by_cases hj : j = k
  · rw [if_pos ⟨rfl, hj⟩, if_pos hj]
  · rw [if_neg (fun q => hj q.2), if_neg hj]
theorem wL_u (S : ST) (h k : Nat) (v : Int64) : (wL S h k v).2 h = vp_updL (S.2 h) k v := by
  funext j
  rw [wL_2]
  unfold vp_updL
  by_cases hj : j = k
  · rw [if_pos ⟨rfl, hj⟩, if_pos hj]
  · rw [if_neg (fun q => hj q.2), if_neg hj]
theorem HV_set {X : XT} {S S' : ST} {σ : SG} {h : Nat} {sh : SHP} (hV : HV X S σ) (hX : X h = some sh) (ho : ∀ h', ¬ h' = h → S'.1 h' = S.1 h' ∧ S'.2 h' = S.2 h') {e : va_E} (he : e = cellS (S'.1 h) (S'.2 h) sh) : HV X S' (σ.set h e) ∧ Out X σ (σ.set h e) := by
  refine ⟨fun h' sh' hx' => ?_, List.length_set, fun h' hx' => ?_⟩
  · by_cases hh : h' = h
    · subst hh
      cases hX.symm.trans hx'
      rw [List.getElem?_set_self (List.getElem?_eq_some_iff.mp (hV h' sh hX)).1, he]
    · rw [List.getElem?_set_ne (fun q => hh q.symm), hV h' sh' hx', (ho h' hh).1, (ho h' hh).2]
  · by_cases hh : h' = h
    · subst hh
      rw [hX] at hx'
      cases hx'
    · rw [List.getElem?_set_ne (fun q => hh q.symm)]
theorem cell_fI {o : Nat × List FT} {k : Nat} (I : Nat → Int32) (L : Nat → Int64) (v : Int32) (ho : o.2[k]? = some (.inl false)) : cellS (upd I k v) L (.inl o) = .inr (o.1, (o.2.mapIdx (fV I L)).set k (.int v)) := by
  show Sum.inr (o.1, o.2.mapIdx (fV (upd I k v) L)) = _
  congr 2
  apply List.ext_getElem?
  intro j
  rw [List.getElem?_mapIdx]
  by_cases hj : j = k
  · subst hj
    have hl := (List.getElem?_eq_some_iff.mp ho).1
    rw [List.getElem?_set_self (by simpa using hl), ho]
    show some (Value.int (upd I j v j)) = _
    unfold upd
    rw [if_pos rfl]
  · rw [List.getElem?_set_ne (fun q => hj q.symm), List.getElem?_mapIdx]
    cases o.2[j]? with
    | none => rfl
    | some t =>
      match t with
      | .inl false =>
        show some (Value.int (upd I k v j)) = some (Value.int (I j))
        unfold upd
        rw [if_neg hj]
      | .inl true => rfl
      | .inr h => rfl
theorem cell_fL {o : Nat × List FT} {k : Nat} (I : Nat → Int32) (L : Nat → Int64) (v : Int64) (ho : o.2[k]? = some (.inl true)) : cellS I (vp_updL L k v) (.inl o) = .inr (o.1, (o.2.mapIdx (fV I L)).set k (.long v)) := by
  show Sum.inr (o.1, o.2.mapIdx (fV I (vp_updL L k v))) = _
  congr 2
  apply List.ext_getElem?
  intro j
  rw [List.getElem?_mapIdx]
  by_cases hj : j = k
  · subst hj
    have hl := (List.getElem?_eq_some_iff.mp ho).1
    rw [List.getElem?_set_self (by simpa using hl), ho]
    show some (Value.long (vp_updL L j v j)) = _
    unfold vp_updL
    rw [if_pos rfl]
  · rw [List.getElem?_set_ne (fun q => hj q.symm), List.getElem?_mapIdx]
    cases o.2[j]? with
    | none => rfl
    | some t =>
      match t with
      | .inl true =>
        show some (Value.long (vp_updL L k v j)) = some (Value.long (L j))
        unfold vp_updL
        rw [if_neg hj]
      | .inl false => rfl
      | .inr h => rfl
def lvOK (ls : LSt) (lv : LV) : Prop := ∀ i v, ls[i]? = some (some v) → lget lv i = some v
def isC2 : Option (Option Value) → Bool
  | some (some v) => v.category == 2
  | _ => false
/-- a word, a long into a place of the row -/
def s1 (i : Nat) (v : Value) (ls : LSt) : LSt := match i with
  | 0 => ls.set 0 (some v)
  | j + 1 => if isC2 ls[j]? = true then (ls.set j none).set (j + 1) (some v) else ls.set (j + 1) (some v)
def s2 (i : Nat) (v : Value) (ls : LSt) : LSt := (s1 i v ls).set (i + 1) none
theorem set_some {ls : LSt} {i j : Nat} {v w : Value} (h : (ls.set i (some v))[j]? = some (some w)) : (j = i ∧ w = v) ∨ (¬ j = i ∧ ls[j]? = some (some w)) := by
  by_cases hj : j = i
  · subst hj
    left
    refine ⟨rfl, ?_⟩
    rcases Nat.lt_or_ge j ls.length with hl | hl
    · rw [List.getElem?_set_self hl] at h
      cases h
      rfl
    · rw [List.getElem?_eq_none (by rw [List.length_set]; exact hl)] at h
      cases h
  · rw [List.getElem?_set_ne (fun q => hj q.symm)] at h
    exact Or.inr ⟨hj, h⟩
theorem set_none {ls : LSt} {i j : Nat} {w : Value} (h : (ls.set i none)[j]? = some (some w)) : ¬ j = i ∧ ls[j]? = some (some w) := by
  by_cases hj : j = i
  · subst hj
    rcases Nat.lt_or_ge j ls.length with hl | hl
    · rw [List.getElem?_set_self hl] at h
      cases h
    · rw [List.getElem?_eq_none (by rw [List.length_set]; exact hl)] at h
      cases h
  · rw [List.getElem?_set_ne (fun q => hj q.symm)] at h
    exact ⟨hj, h⟩
theorem s1_get {i j : Nat} {v w : Value} {ls : LSt} (h : (s1 i v ls)[j]? = some (some w)) : (j = i ∧ w = v) ∨ (¬ j = i ∧ ls[j]? = some (some w) ∧ ¬ (j + 1 = i ∧ w.category = 2)) := by
  unfold s1 at h
  split at h
  · rcases set_some h with q | q
    · exact Or.inl q
    · exact Or.inr ⟨q.1, q.2, fun z => by omega⟩
  · next i =>
    split at h
    · rcases set_some h with q | q
      · exact Or.inl q
      · have q2 := set_none q.2
        exact Or.inr ⟨q.1, q2.2, fun z => q2.1 (by omega)⟩
    · next hc =>
      rcases set_some h with q | q
      · exact Or.inl q
      · refine Or.inr ⟨q.1, q.2, fun z => hc ?_⟩
        have : j = i := by omega
        subst this
        rw [q.2]
        show (w.category == 2) = true
        rw [z.2]
        rfl
theorem lvOK_1 {ls : LSt} {lv : LV} (h : lvOK ls lv) (i : Nat) (v : Value) : lvOK (s1 i v ls) (lS1 i v lv) := by
  intro j w hw
  rcases s1_get hw with ⟨rfl, rfl⟩ | ⟨h1, h2, h3⟩
  · exact lget_new _ _ _
  · refine lget_old _ h1 (lget_filter (h j w h2) ?_)
    simp only [Bool.and_eq_true, Bool.not_eq_true', Bool.and_eq_false_iff, beq_eq_false_iff_ne]
    refine ⟨h1, ?_⟩
    by_cases hj : j + 1 = i
    · exact Or.inr (fun q => h3 ⟨hj, q⟩)
    · exact Or.inl hj
theorem lvOK_2 {ls : LSt} {lv : LV} (h : lvOK ls lv) (i : Nat) (v : Value) : lvOK (s2 i v ls) (lS2 i v lv) := by
  intro j w hw
  obtain ⟨h0, hw⟩ := set_none hw
  rcases s1_get hw with ⟨rfl, rfl⟩ | ⟨h1, h2, h3⟩
  · exact lget_new _ _ _
  · refine lget_old _ h1 (lget_filter (h j w h2) ?_)
    simp only [Bool.and_eq_true, Bool.not_eq_true', Bool.and_eq_false_iff, beq_eq_false_iff_ne]
    refine ⟨h1, h0, ?_⟩
    by_cases hj : j + 1 = i
    · exact Or.inr (fun q => h3 ⟨hj, q⟩)
    · exact Or.inl hj
/-- less is said of the locals -/
def leS : LSt → LSt → Bool → Prop
  | [], _, _ => True
  | none :: a, _ :: b, t => leS a b t
  | none :: a, [], t => leS a [] t
  | some v :: a, w :: b, t => w = some v ∧ leS a b t
  | some _ :: _, [], _ => False
theorem leS_ok : ∀ {a b : LSt} {t : Bool}, leS a b t → ∀ (i : Nat) (v : Value), a[i]? = some (some v) → b[i]? = some (some v)
  | [], _, _, _, i, v, hv => by cases hv
  | none :: a, _ :: b, t, h, i, v, hv => by
    match i with
    | 0 => cases hv
    | i + 1 => exact leS_ok (a := a) (b := b) (t := t) h i v hv
  | none :: a, [], t, h, i, v, hv => by
    match i with
    | 0 => cases hv
    | i + 1 =>
      have := leS_ok (a := a) (b := []) (t := t) h i v hv
      cases this
  | some u :: a, w :: b, t, h, i, v, hv => by
    match i with
    | 0 =>
      cases hv
      show some w = _
      rw [h.1]
    | i + 1 => exact leS_ok (a := a) (b := b) (t := t) h.2 i v hv
  | some _ :: _, [], _, h, _, _, _ => h.elim
def ic (n : Int) : Int32 := match n with
  | .ofNat m => OfNat.ofNat m
  | .negSucc m => -(OfNat.ofNat (m + 1))
theorem ic_ok (n : Int) : Int32.ofInt n = ic n := by
  cases n with
  | ofNat m => exact Int32.ofInt_eq_ofNat
  | negSucc m =>
    show Int32.ofInt (-((m + 1 : Nat) : Int)) = -(Int32.ofNat (m + 1))
    rw [Int32.ofInt_neg, Int32.ofInt_eq_ofNat]
def lc (n : Nat) : Int64 := match n with
  | 0 => 0
  | 1 => 1
  | n => Int64.ofNat n
theorem lc_ok (n : Nat) : Int64.ofNat n = lc n := by
  match n with
  | 0 => rfl
  | 1 => rfl
  | n + 2 => rfl
theorem ic8 {n : Int} (h : -128 ≤ n ∧ n ≤ 127) : (Int8.ofInt n).toInt32 = ic n := by
  rw [← ic_ok]
  apply Int32.toInt_inj.mp
  rw [Int8.toInt_toInt32, Int8.toInt_ofInt_of_le (by omega) (by omega), Int32.toInt_ofInt_of_le (by omega) (by omega)]
theorem ic16 {n : Int} (h : -32768 ≤ n ∧ n ≤ 32767) : (Int16.ofInt n).toInt32 = ic n := by
  rw [← ic_ok]
  apply Int32.toInt_inj.mp
  rw [Int16.toInt_toInt32, Int16.toInt_ofInt_of_le (by omega) (by omega), Int32.toInt_ofInt_of_le (by omega) (by omega)]
/-- the simple steps in the picture -/
def xs (X : XT) (K : LK) (nL pc : Nat) (i : Instr) (ls : LSt) (st : List Value) (S : ST) : Option (Nat × LSt × List Value × ST) := match i with
  | .iconst n => some (pc + 1, ls, .int (ic n) :: st, S)
  | .bipush n => if -128 ≤ n ∧ n ≤ 127 then some (pc + 2, ls, .int (ic n) :: st, S) else none
  | .sipush n => if -32768 ≤ n ∧ n ≤ 32767 then some (pc + 3, ls, .int (ic n) :: st, S) else none
  | .lconst n => some (pc + 1, ls, .long (lc (n : Nat)) :: st, S)
  | .ldc2_w ix => match K.2.2 ix with
    | some v => some (pc + 3, ls, .long v :: st, S)
    | none => none
  | .iload_n n => match ls[(n : Nat)]? with
    | some (some (.int x)) => some (pc + 1, ls, .int x :: st, S)
    | _ => none
  | .iload n => match ls[n]? with
    | some (some (.int x)) => some (pc + 2, ls, .int x :: st, S)
    | _ => none
  | .lload_n n => match ls[(n : Nat)]? with
    | some (some (.long x)) => some (pc + 1, ls, .long x :: st, S)
    | _ => none
  | .lload n => match ls[n]? with
    | some (some (.long x)) => some (pc + 2, ls, .long x :: st, S)
    | _ => none
  | .aload_n n => match ls[(n : Nat)]? with
    | some (some (.ref x)) => some (pc + 1, ls, .ref x :: st, S)
    | _ => none
  | .aload n => match ls[n]? with
    | some (some (.ref x)) => some (pc + 2, ls, .ref x :: st, S)
    | _ => none
  | .istore_n n => match st with
    | .int x :: r => if (n : Nat) < nL then some (pc + 1, s1 (n : Nat) (.int x) ls, r, S) else none
    | _ => none
  | .istore n => match st with
    | .int x :: r => if n < nL then some (pc + 2, s1 n (.int x) ls, r, S) else none
    | _ => none
  | .lstore_n n => match st with
    | .long x :: r => if (n : Nat) + 1 < nL then some (pc + 1, s2 (n : Nat) (.long x) ls, r, S) else none
    | _ => none
  | .lstore n => match st with
    | .long x :: r => if n + 1 < nL then some (pc + 2, s2 n (.long x) ls, r, S) else none
    | _ => none
  | .astore_n n => match st with
    | .ref x :: r => if (n : Nat) < nL then some (pc + 1, s1 (n : Nat) (.ref x) ls, r, S) else none
    | _ => none
  | .astore n => match st with
    | .ref x :: r => if n < nL then some (pc + 2, s1 n (.ref x) ls, r, S) else none
    | _ => none
  | .iinc n d => match ls[n]? with
    | some (some (.int x)) => if n < nL then some (pc + 3, s1 n (.int (x + ic d)) ls, st, S) else none
    | _ => none
  | .goto off => if 0 ≤ (pc : Int) + off then some (((pc : Int) + off).toNat, ls, st, S) else none
  | .getfield ix => match K.1 ix, st with
    | some (ci, k, _, _), .ref h :: r => match X h with
      | some (.inl o) => if o.1 = ci then (match o.2[k]? with
        | some t => some (pc + 3, ls, fV (S.1 h) (S.2 h) k t :: r, S)
        | none => none) else none
      | _ => none
    | _, _ => none
  | .putfield ix => match K.1 ix, st with
    | some (ci, k, .int, false), .int v :: .ref h :: r => match X h with
      | some (.inl o) => if o.1 = ci then (match o.2[k]? with
        | some (.inl false) => some (pc + 3, ls, r, wI S h k v)
        | _ => none) else none
      | _ => none
    | some (ci, k, .boolean, false), .int v :: .ref h :: r => match X h with
      | some (.inl o) => if o.1 = ci then (match o.2[k]? with
        | some (.inl false) => if v = 0 ∨ v = 1 then some (pc + 3, ls, r, wI S h k v) else none
        | _ => none) else none
      | _ => none
    | some (ci, k, .long, false), .long v :: .ref h :: r => match X h with
      | some (.inl o) => if o.1 = ci then (match o.2[k]? with
        | some (.inl true) => some (pc + 3, ls, r, wL S h k v)
        | _ => none) else none
      | _ => none
    | _, _ => none
  | _ => match simA pc i [] st [] with
    | some r => some (r.1, ls, r.2.2.1, S)
    | none => match simU pc i [] st [] with
      | some r => some (r.1, ls, r.2.2.1, S)
      | none => match simD pc i [] st [] with
        | some r => some (r.1, ls, r.2.2.1, S)
        | none => none
/-- which instructions are simple steps for sure -/
def plI : Instr → Bool
  | .invokestatic _ | .invokevirtual _ | .ldc _ => false
  | _ => true
def arI : Instr → Bool
  | .iadd | .isub | .imul | .iand | .ior | .ixor | .idiv | .irem | .ishl | .ishr | .iushr | .ladd | .lsub | .lmul | .land | .lor | .lxor | .lshl | .lshr | .lushr | .ineg | .i2l | .l2i | .i2c | .lcmp | .dup | .pop | .dup_x1 | .dup2 => true
  | _ => false
theorem simA_pas {pc : Nat} {i : Instr} {st : List Value} {r : S4} (h : simA pc i [] st [] = some r) (lv : LV) (σ : SG) : simA pc i lv st σ = some (r.1, lv, r.2.2.1, σ) := by
  unfold simA at h ⊢
  split at h <;> (try dsimp only)
  · split at h
    · next v hv => cases h; rfl
    · cases h
  · split at h
    · next v hv => cases h; rfl
    · cases h
  · split at h
    · next v hv => cases h; rfl
    · cases h
  · cases h
theorem simU_pas {pc : Nat} {i : Instr} {st : List Value} {r : S4} (h : simU pc i [] st [] = some r) (lv : LV) (σ : SG) : simU pc i lv st σ = some (r.1, lv, r.2.2.1, σ) := by
  unfold simU at h ⊢
  split at h <;> (try dsimp only) <;> first | (split at h <;> first | (cases h; done) | (cases h; rfl)) | cases h
theorem simD_pas {pc : Nat} {i : Instr} {st : List Value} {r : S4} (h : simD pc i [] st [] = some r) (lv : LV) (σ : SG) : simD pc i lv st σ = some (r.1, lv, r.2.2.1, σ) := by
  unfold simD at h ⊢
  split at h <;> (try dsimp only)
  · split at h
    · split at h
      · next hc => cases h; rw [if_pos hc]
      · cases h
    · cases h
  · split at h
    · split at h
      · next hc => cases h; rw [if_pos hc]
      · cases h
    · cases h
  · split at h
    · split at h
      · next hc => cases h; rw [if_pos hc]
      · cases h
    · cases h
  · split at h
    · split at h
      · next hc => cases h; rw [if_pos hc]
      · cases h
    · cases h
  · cases h
theorem simA_nil {pc : Nat} {i : Instr} {st : List Value} (h : simA pc i [] st [] = none) (lv : LV) (σ : SG) : simA pc i lv st σ = none := by
  unfold simA at h ⊢
  split at h <;> (try dsimp only)
  · split at h
    · cases h
    · rfl
  · split at h
    · cases h
    · rfl
  · split at h
    · cases h
    · rfl
theorem simU_nil {pc : Nat} {i : Instr} {st : List Value} (h : simU pc i [] st [] = none) (lv : LV) (σ : SG) : simU pc i lv st σ = none := by
  unfold simU at h ⊢
  split at h <;> (try dsimp only) <;> first | rfl | (split at h <;> first | (cases h; done) | rfl)
section Xs
variable {X : XT} {G : TB} {k nL pc : Nat} {i : Instr} {ls : LSt} {lv : LV} {st : List Value} {S : ST} {σ : SG} {r : Nat × LSt × List Value × ST}
theorem xs_rest (hl : lvOK ls lv) (hV : HV X S σ) (h0 : ∀ st σ, simC (tbK G k) pc i lv st σ = none) (h1 : ∀ st σ, simS nL pc i lv st σ = none) (h3 : ∀ st σ, simB pc i lv st σ = none) (h4 : ∀ st σ, simH (tbK G k) pc i lv st σ = none) (h : (match simA pc i [] st [] with
    | some r => some (r.1, ls, r.2.2.1, S)
    | none => match simU pc i [] st [] with
      | some r => some (r.1, ls, r.2.2.1, S)
      | none => match simD pc i [] st [] with
        | some r => some (r.1, ls, r.2.2.1, S)
        | none => none) = some r) : ∃ lv' σ', sim G k nL pc i lv st σ = some (r.1, lv', r.2.2.1, σ') ∧ lvOK r.2.1 lv' ∧ HV X r.2.2.2 σ' ∧ Out X σ σ' := by
  split at h
  · next q hq =>
    cases h
    exact ⟨lv, σ, sim_A (h0 _ _) (h1 _ _) (simA_pas hq lv σ), hl, hV, Out.rf⟩
  · next hA =>
    split at h
    · next q hq =>
      cases h
      exact ⟨lv, σ, sim_U (h0 _ _) (h1 _ _) (simA_nil hA lv σ) (h3 _ _) (h4 _ _) (simU_pas hq lv σ), hl, hV, Out.rf⟩
    · next hU =>
      split at h
      · next q hq =>
        cases h
        exact ⟨lv, σ, sim_D (h0 _ _) (h1 _ _) (simA_nil hA lv σ) (h3 _ _) (h4 _ _) (simU_nil hU lv σ) (simD_pas hq lv σ), hl, hV, Out.rf⟩
      · cases h
theorem simA_none {i : Instr} (h : arI i = false) (lv : LV) (st : List Value) (σ : SG) : simA pc i lv st σ = none := by
  refine simA_no (fun x y => ?_) (fun x y => ?_) (fun x y => ?_)
  · unfold bI; split <;> first | rfl | cases h
  · unfold bL; split <;> first | rfl | cases h
  · unfold sL; split <;> first | rfl | cases h
end Xs
