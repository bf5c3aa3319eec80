/-! constructors as a function: new cells get the next handles -/
def stC (n pc : Nat) (i : Instr) (lv : LV) (st : List Value) : Option (Nat × LV × List Value) := match i with
  | .iconst k => some (pc + 1, lv, .int (Int32.ofInt k) :: st)
  | .bipush k => some (pc + 2, lv, .int (Int8.ofInt k).toInt32 :: st)
  | .sipush k => some (pc + 3, lv, .int (Int16.ofInt k).toInt32 :: st)
  | .lconst k => some (pc + 1, lv, .long (Int64.ofNat (k : Nat)) :: st)
  | .iload_n k => match lget lv (k : Nat) with
    | some (.int x) => some (pc + 1, lv, .int x :: st)
    | _ => none
  | .aload_n k => match lget lv (k : Nat) with
    | some (.ref x) => some (pc + 1, lv, .ref x :: st)
    | _ => none
  | .istore_n k => match st with
    | .int x :: r => if (k : Nat) < n then some (pc + 1, lS1 (k : Nat) (.int x) lv, r) else none
    | _ => none
  | .iinc k d => match lget lv k with
    | some (.int x) => if k < n then some (pc + 3, lS1 k (.int (x + Int32.ofInt d)) lv, st) else none
    | _ => none
  | .dup => match st with
    | .ref v :: r => some (pc + 1, lv, .ref v :: .ref v :: r)
    | _ => none
  | .goto off => if 0 ≤ (pc : Int) + off then some (((pc : Int) + off).toNat, lv, st) else none
  | .if_icmp cd off => match st with
    | .int y :: .int x :: r => if 0 ≤ (pc : Int) + off then some (if cI cd x y = true then ((pc : Int) + off).toNat else pc + 3, lv, r) else none
    | _ => none
  | _ => none
abbrev GZ : TB := (fun _ => none, fun _ _ => none, fun _ => (fun _ => none, fun _ => none, fun _ => none), fun _ _ => none, fun _ _ => none, fun _ _ _ => none, fun _ _ _ _ _ _ => none)
theorem stC_sim {n pc : Nat} {i : Instr} {lv : LV} {st : List Value} {r : Nat × LV × List Value} (h : stC n pc i lv st = some r) (σ : SG) : sim GZ 0 n pc i lv st σ = some (r.1, r.2.1, r.2.2, σ) := by
  unfold stC at h
  split at h
  · cases h; exact sim_C rfl
  · cases h; exact sim_C rfl
  · cases h; exact sim_C rfl
  · cases h; exact sim_C rfl
  · split at h
    · next x hx => cases h; exact sim_C (by simp only [simC, hx])
    · cases h
  · split at h
    · next x hx => cases h; exact sim_C (by simp only [simC, hx])
    · cases h
  · split at h
    · split at h
      · next hc => cases h; exact sim_S rfl (by simp only [simS]; rw [if_pos hc])
      · cases h
    · cases h
  · split at h
    · next x hx =>
      split at h
      · next hc => cases h; exact sim_S rfl (by simp only [simS, hx]; rw [if_pos hc])
      · cases h
    · cases h
  · split at h
    · cases h; exact sim_D rfl rfl rfl rfl rfl rfl rfl
    · cases h
  · split at h
    · next hc => cases h; exact sim_B rfl rfl (simA_none rfl _ _ _) (by simp only [simB]; rw [if_pos hc])
    · cases h
  · split at h
    · split at h
      · next hc => cases h; exact sim_B rfl rfl (simA_none rfl _ _ _) (by simp only [simB]; rw [if_pos hc])
      · cases h
    · cases h
  · cases h
/-- the places of a row of this type, of the array of the T4's number -/
def atyp : ArrayType → Option (Nat × FieldType)
  | .int => some (0, .int)
  | .boolean => some (1, .boolean)
  | .long => some (2, .long)
  | _ => none
def aval : Nat → Nat → vp_A
  | 2, n => (n, .inr (.inl (fun _ => 0)))
  | _, n => (n, .inl (fun _ => 0))
def noref : Value → Bool
  | .ref _ => false
  | _ => true
def evN : Nat → Nat → Nat → Nat → LV → List Value → Nat → Nat → SG → Option (Nat × Nat × SG)
  | 0, _, _, _, _, _, _, _, _ => none
  | f + 1, d, k, pc, lv, st, c, sl, σ => match ctb k with
    | none => none
    | some t => match lkp t.2.1 pc with
      | none => none
      | some i => match i with
        | .new ix => match t.2.2.2.1.find? (fun q => q.1 == ix) with
          | some (_, ci, N, fs) => if fs.all noref = true then evN f d k (pc + 3) lv (.ref σ.length :: st) (c + 1) (sl + N) (σ ++ [.inr (ci, fs)]) else none
          | none => none
        | .newarray ty => match st with
          | .int n :: r => match atyp ty with
            | some (t0, _) => if ¬ n < 0 ∧ n.toNatClampNeg ≤ 1000 then evN f d k (pc + 2) lv (.ref σ.length :: r) (c + 1) (sl + n.toNatClampNeg) (σ ++ [.inl (t0, aval t0 n.toNatClampNeg)]) else none
            | none => none
          | _ => none
        | .anewarray ix => match st with
          | .int n :: r => if t.2.2.2.2.1.contains ix = true ∧ ¬ n < 0 ∧ n.toNatClampNeg ≤ 1000 then evN f d k (pc + 3) lv (.ref σ.length :: r) (c + 1) (sl + n.toNatClampNeg) (σ ++ [.inl (3, n.toNatClampNeg, .inr (.inr (.inr (.inr (fun _ => none)))))]) else none
          | _ => none
        | .aastore => match st with
          | .ref v :: .int j :: .ref h :: r => match σ[h]?, σ[v]? with
            | some (.inl (3, n, .inr (.inr (.inr (.inr g))))), some (.inr (5, _)) => if inN j n = true then evN f d k (pc + 1) lv r c sl (σ.set h (.inl (3, n, .inr (.inr (.inr (.inr (va_up g j.toNatClampNeg (some v)))))))) else none
            | _, _ => none
          | _ => none
        | .getfield ix => match t.2.2.1.find? (fun q => q.1 == ix), st with
          | some (_, ci, kf, _, _), .ref h :: r => match σ[h]? with
            | some (.inr (c1, fs)) => if c1 = ci then (match fs[kf]? with
              | some v => evN f d k (pc + 3) lv (v :: r) c sl σ
              | none => none) else none
            | _ => none
          | _, _ => none
        | .putfield ix => match t.2.2.1.find? (fun q => q.1 == ix), st with
          | some (_, ci, kf, ty, _), v :: .ref h :: r => match σ[h]? with
            | some (.inr (c1, fs)) => if c1 = ci ∧ kf < fs.length ∧ narrow ty v = v ∧ fits ty v = true then evN f d k (pc + 3) lv r c sl (σ.set h (.inr (c1, fs.set kf v))) else none
            | _ => none
          | _, _ => none
        | .invokespecial ix => if t.2.2.2.2.2.2.contains ix = true then (match st with
          | .ref _ :: r => if cats r ≤ 8 then evN f d k (pc + 3) lv r c sl σ else none
          | _ => none) else match t.2.2.2.2.2.1.find? (fun q => q.1 == ix), d with
          | some (_, k', _, na), d' + 1 => match ctb k', (st.take (na + 1)).reverse with
            | some t', .ref h :: As => if As.length = na ∧ cats (st.drop (na + 1)) ≤ 8 ∧ cats (.ref h :: As) ≤ t'.1.2.2.1 then (match evN f d' k' 0 (lv_args 0 (.ref h :: As)) [] 0 0 σ with
              | some (c2, s2, σ2) => evN f (d' + 1) k (pc + 3) lv (st.drop (na + 1)) (c + c2) (sl + s2) σ2
              | none => none) else none
            | _, _ => none
          | _, _ => none
        | .return_ => match st with
          | [] => some (c, sl, σ)
          | _ => none
        | i => match stC t.1.2.2.1 pc i lv st with
          | some r => evN f d k r.1 r.2.1 r.2.2 c sl σ
          | none => none
theorem evN_mono : ∀ (f d k pc : Nat) (lv : LV) (st : List Value) (c sl : Nat) (σ : SG) (r : Nat × Nat × SG), evN f d k pc lv st c sl σ = some r → c ≤ r.1 ∧ sl ≤ r.2.1 ∧ σ.length ≤ r.2.2.length := by
  intro f
  induction f with
  | zero => intro d k pc lv st c sl σ r h; cases h
  | succ f ih =>
    intro d k pc lv st c sl σ r h
    unfold evN at h
    split at h
    · cases h
    · split at h
      · cases h
      · split at h
        · split at h
          · split at h
            · have := ih _ _ _ _ _ _ _ _ _ h
              rw [List.length_append] at this
              exact ⟨by omega, by omega, by omega⟩
            · cases h
          · cases h
        · split at h
          · split at h
            · split at h
              · have := ih _ _ _ _ _ _ _ _ _ h
                rw [List.length_append] at this
                exact ⟨by omega, by omega, by omega⟩
              · cases h
            · cases h
          · cases h
        · split at h
          · split at h
            · have := ih _ _ _ _ _ _ _ _ _ h
              rw [List.length_append] at this
              exact ⟨by omega, by omega, by omega⟩
            · cases h
          · cases h
        · split at h
          · split at h
            · split at h
              · have := ih _ _ _ _ _ _ _ _ _ h
                rw [List.length_set] at this
                exact this
              · cases h
            · cases h
          · cases h
        · split at h
          · split at h
            · split at h
              · split at h
                · exact ih _ _ _ _ _ _ _ _ _ h
                · cases h
              · cases h
            · cases h
          · cases h
        · split at h
          · split at h
            · split at h
              · have := ih _ _ _ _ _ _ _ _ _ h
                rw [List.length_set] at this
                exact this
              · cases h
            · cases h
          · cases h
        · split at h
          · split at h
            · split at h
              · exact ih _ _ _ _ _ _ _ _ _ h
              · cases h
            · cases h
          · split at h
            · split at h
              · split at h
                · split at h
                  · next h2 =>
                    have a1 := ih _ _ _ _ _ _ _ _ _ h2
                    have a2 := ih _ _ _ _ _ _ _ _ _ h
                    exact ⟨by omega, by omega, Nat.le_trans a1.2.2 a2.2.2⟩
                  · cases h
                · cases h
              · cases h
            · cases h
        · split at h
          · cases h; exact ⟨Nat.le_refl _, Nat.le_refl _, Nat.le_refl _⟩
          · cases h
        · split at h
          · exact ih _ _ _ _ _ _ _ _ _ h
          · cases h
