/-! the whole machine as a function: fuel, depth of calls, method, place, locals, stack, exceptions made so far, heap -/
abbrev MI : Type := MethodName × ByteArray × Nat × Option FieldType × List (Nat × Nat × Nat × Nat)
abbrev TB : Type := (Nat → Option MI) × (Nat → Nat → Option Instr) × (Nat → LK) × (Nat → Nat → Option (Nat × Nat × Nat × Nat)) × (Nat → Nat → Option String) × (Nat → Nat → String → Option (Nat × Nat)) × (Nat → Nat → Nat → LV → List Value → SG → Option S4)
def tbM (G : TB) : Nat → Option MI := G.1
def tbF (G : TB) : Nat → Nat → Option Instr := G.2.1
def tbK (G : TB) : Nat → LK := G.2.2.1
def tbC (G : TB) : Nat → Nat → Option (Nat × Nat × Nat × Nat) := G.2.2.2.1
def tbT (G : TB) : Nat → Nat → Option String := G.2.2.2.2.1
def tbH (G : TB) : Nat → Nat → String → Option (Nat × Nat) := G.2.2.2.2.2.1
def tbX (G : TB) : Nat → Nat → Nat → LV → List Value → SG → Option S4 := G.2.2.2.2.2.2
abbrev OC : Type := String ⊕ Option Value
def sim (G : TB) (k n pc : Nat) (i : Instr) (lv : LV) (st : List Value) (σ : SG) : Option S4 := match simC (tbK G k) pc i lv st σ with
  | some r => some r
  | none => match simS n pc i lv st σ with
    | some r => some r
    | none => match simA pc i lv st σ with
      | some r => some r
      | none => match simB pc i lv st σ with
        | some r => some r
        | none => match simH (tbK G k) pc i lv st σ with
          | some r => some r
          | none => match simU pc i lv st σ with
            | some r => some r
            | none => simD pc i lv st σ
def cats (st : List Value) : Nat := (st.map fun v => v.category).sum
def rtn (ret : Option FieldType) (i : Instr) (st : List Value) : Option (Option Value) := match ret, i, st with
  | none, .return_, [] => some none
  | some .int, .ireturn, [.int v] => some (some (.int v))
  | some .boolean, .ireturn, [.int v] => if v = 0 ∨ v = 1 then some (some (.int v)) else none
  | some .long, .lreturn, [.long v] => some (some (.long v))
  | some (.object _), .areturn, [.ref h] => some (some (.ref h))
  | _, _, _ => none
def cal (G : TB) (k : Nat) (i : Instr) (st : List Value) (σ : SG) : Option (Nat × Nat × List Value × List Value) := match i with
  | .invokevirtual ix => match tbC G k ix with
    | some (k', 0, na, ci) => match tbM G k', (st.take (na + 1)).reverse with
      | some M', .ref h :: As => match σ[h]? with
        | some (.inr (c, _)) => if c = ci ∧ As.length = na ∧ cats (st.drop (na + 1)) ≤ 8 ∧ cats (.ref h :: As) ≤ M'.2.2.1 then some (k', 0, .ref h :: As, st.drop (na + 1)) else none
        | _ => none
      | _, _ => none
    | _ => none
  | .invokestatic ix => match tbC G k ix with
    | some (k', kd + 1, na, _) => match tbM G k' with
      | some M' => if (st.take na).length = na ∧ cats (st.drop na) ≤ 8 ∧ cats (st.take na).reverse ≤ M'.2.2.1 then some (k', kd + 1, (st.take na).reverse, st.drop na) else none
      | none => none
    | _ => none
  | _ => none
def lD (j : Nat) (lv : LV) : LV := lv.filter (fun q => !(q.1 == j) && !(q.1 + 1 == j && q.2.category == 2))
def ev (G : TB) : Nat → Nat → Nat → Nat → LV → List Value → Nat → SG → Option (Nat × OC × SG)
  | 0, _, _, _, _, _, _, _ => none
  | f + 1, d, k, pc, lv, st, c, σ => match tbX G d k pc lv st σ with
    | some r => ev G f d k r.1 r.2.1 r.2.2.1 c r.2.2.2
    | none => match tbM G k, tbF G k pc with
      | some M, some i => match sim G k M.2.2.1 pc i lv st σ with
        | some r => ev G f d k r.1 r.2.1 r.2.2.1 c r.2.2.2
        | none => match rtn M.2.2.2.1 i st with
          | some v => some (c, .inr v, σ)
          | none => match tbT G k pc with
            | some E => if M.2.2.2.2 = [] ∧ cats st ≤ 8 then some (c + 1, .inl E, σ) else none
            | none => match cal G k i st σ with
              | none => none
              | some (k', kd, av, rest) => match d with
                | 0 => none
                | d' + 1 => match ev G f d' k' 0 (lv_args 0 av) [] 0 σ with
                  | none => none
                  | some (c2, .inr none, σ2) => ev G f (d' + 1) k (pc + 3) lv rest (c + c2) σ2
                  | some (c2, .inr (some v), σ2) => ev G f (d' + 1) k (pc + 3) lv (v :: rest) (c + c2) σ2
                  | some (c2, .inl E, σ2) => if 2 ≤ kd then none else match M.2.2.2.2 with
                    | [] => some (c + c2, .inl E, σ2)
                    | _ :: _ => match tbH G k pc E with
                      | some (h, j) => ev G f (d' + 1) k h (lD j lv) [] (c + c2) σ2
                      | none => none
      | _, _ => none
theorem ev_mono (G : TB) : ∀ (f d k pc : Nat) (lv : LV) (st : List Value) (c : Nat) (σ : SG) (c' : Nat) (o : OC) (σ' : SG), ev G f d k pc lv st c σ = some (c', o, σ') → c ≤ c' := by
  intro f
  induction f with
  | zero => intro d k pc lv st c σ c' o σ' h; cases h
  | succ f ih =>
    intro d k pc lv st c σ c' o σ' h
    unfold ev at h
    split at h
    · exact ih _ _ _ _ _ _ _ _ _ _ h
    · split at h
      · split at h
        · exact ih _ _ _ _ _ _ _ _ _ _ h
        · split at h
          · cases h; exact Nat.le_refl _
          · split at h
            · split at h
              · cases h; exact Nat.le_succ _
              · cases h
            · split at h
              · cases h
              · split at h
                · cases h
                · split at h
                  · cases h
                  · exact Nat.le_trans (Nat.le_add_right _ _) (ih _ _ _ _ _ _ _ _ _ _ h)
                  · exact Nat.le_trans (Nat.le_add_right _ _) (ih _ _ _ _ _ _ _ _ _ _ h)
                  · split at h
                    · cases h
                    · split at h
                      · cases h; exact Nat.le_add_right _ _
                      · split at h
                        · exact Nat.le_trans (Nat.le_add_right _ _) (ih _ _ _ _ _ _ _ _ _ _ h)
                        · cases h
      · cases h
theorem lM_args (ad : Nat → Nat) : ∀ (av : List Value) (i : Nat), lv_args i (av.map (vM ad)) = lM ad (lv_args i av) := by
  intro av
  induction av with
  | nil => intro i; rfl
  | cons v r ih =>
    intro i
    show (i, vM ad v) :: lv_args (if (vM ad v).category = 2 then i + 2 else i + 1) (r.map (vM ad)) = (i, vM ad v) :: lM ad (lv_args (if v.category = 2 then i + 2 else i + 1) r)
    rw [vM_cat, ih]
theorem lM_D (ad : Nat → Nat) (j : Nat) (lv : LV) : lM ad (lD j lv) = (lM ad lv).filter (fun q => !(q.1 == j) && !(q.1 + 1 == j && q.2.category == 2)) := lM_filter ad (fun a c => !(a == j) && !(a + 1 == j && c == 2)) lv
theorem lv_tail {ls : Array Slot} {n : Nat} {q : Nat × Value} {l : List (Nat × Value)} (h : lv_has ls n (q :: l)) : lv_has ls n l := ⟨h.1, h.2.1, fun x hx => h.2.2 x (List.mem_cons_of_mem _ hx)⟩
theorem lg_sl_len : ∀ av : List Value, (lg_sl av).length = cats av := by
  intro av
  induction av with
  | nil => rfl
  | cons v r ih =>
    cases v <;> simp_all [lg_sl, cats, Value.category] <;> omega
