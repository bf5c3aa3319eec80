/-! the simple steps as a function on the abstract state; links: fields (class, place, type, final), int and long constants, by their places in the pool -/
abbrev LK : Type := (Nat → Option (Nat × Nat × FieldType × Bool)) × (Nat → Option Int32) × (Nat → Option Int64)
def lkOK (own : String) (K : LK) : Prop := (∀ idx ci k ty fin, K.1 idx = some (ci, k, ty, fin) → ∃ dec, Fg own idx ci k ty fin dec) ∧ (∀ idx v, K.2.1 idx = some v → Cond.constant own idx v ∈ Big) ∧ ∀ idx v, K.2.2 idx = some v → Cond.constantLong own idx v ∈ Big
def ilen : Instr → Nat
  | .bipush _ | .iload _ | .istore _ | .lload _ | .lstore _ | .aload _ | .astore _ | .ldc _ => 2
  | .sipush _ | .ldc2_w _ | .ldc_w _ | .iinc _ _ | .goto _ | .ifCond _ _ | .if_icmp _ _ | .ifnull _ | .getfield _ | .putfield _ | .invokestatic _ | .invokevirtual _ | .invokespecial _ | .new _ => 3
  | _ => 1
def cI (c : ClassFile.Cond) (x y : Int32) : Bool := match c with
  | .eq => decide (x = y)
  | .ne => decide (¬ x = y)
  | .lt => decide (x < y)
  | .ge => decide (y ≤ x)
  | .gt => decide (y < x)
  | .le => decide (x ≤ y)
def lcm3 (x y : Int64) : Int32 := if y < x then 1 else if x = y then 0 else -1
def inN (i : Int32) (n : Nat) : Bool := decide (¬ i < 0) && decide (i.toNatClampNeg < n)
theorem inN_in {i : Int32} {n : Nat} (h : inN i n = true) : vp_in i n := by
  simp only [inN, Bool.and_eq_true, decide_eq_true_eq] at h
  rintro (q | q)
  · exact h.1 q
  · omega
def bI : Instr → Int32 → Int32 → Option Int32
  | .iadd, x, y => some (x + y)
  | .isub, x, y => some (x - y)
  | .imul, x, y => some (x * y)
  | .iand, x, y => some (x &&& y)
  | .ior, x, y => some (x ||| y)
  | .ixor, x, y => some (x ^^^ y)
  | .idiv, x, y => if y = 0 then none else some (x / y)
  | .irem, x, y => if y = 0 then none else some (x - x / y * y)
  | .ishl, x, y => some (x <<< (y &&& 31))
  | .ishr, x, y => some (x >>> (y &&& 31))
  | .iushr, x, y => some (x.toUInt32 >>> (y.toUInt32 &&& Int32.toUInt32 31)).toInt32
  | _, _, _ => none
def bL : Instr → Int64 → Int64 → Option Int64
  | .ladd, x, y => some (x + y)
  | .lsub, x, y => some (x - y)
  | .lmul, x, y => some (x * y)
  | .land, x, y => some (x &&& y)
  | .lor, x, y => some (x ||| y)
  | .lxor, x, y => some (x ^^^ y)
  | _, _, _ => none
def sL : Instr → Int64 → Int32 → Option Int64
  | .lshl, x, y => some (x <<< (y.toInt64 &&& 63))
  | .lshr, x, y => some (x >>> (y.toInt64 &&& 63))
  | .lushr, x, y => some (x.toUInt64 >>> (y.toInt64.toUInt64 &&& Int64.toUInt64 63)).toInt64
  | _, _, _ => none
/-- the state between two steps: place, locals, stack, heap -/
abbrev S4 : Type := Nat × LV × List Value × SG

def simC (K : LK) (pc : Nat) (i : Instr) (lv : LV) (st : List Value) (σ : SG) : Option S4 := match i with
  | .iconst n => some (pc + 1, lv, .int (Int32.ofInt n) :: st, σ)
  | .bipush n => some (pc + 2, lv, .int (Int8.ofInt n).toInt32 :: st, σ)
  | .sipush n => some (pc + 3, lv, .int (Int16.ofInt n).toInt32 :: st, σ)
  | .lconst n => some (pc + 1, lv, .long (Int64.ofNat (n : Nat)) :: st, σ)
  | .ldc ix => match K.2.1 ix with
    | some v => some (pc + 2, lv, .int v :: st, σ)
    | none => none
  | .ldc_w ix => match K.2.1 ix with
    | some v => some (pc + 3, lv, .int v :: st, σ)
    | none => none
  | .ldc2_w ix => match K.2.2 ix with
    | some v => some (pc + 3, lv, .long v :: st, σ)
    | none => none
  | .iload_n n => match lget lv (n : Nat) with
    | some (.int x) => some (pc + 1, lv, .int x :: st, σ)
    | _ => none
  | .iload n => match lget lv n with
    | some (.int x) => some (pc + 2, lv, .int x :: st, σ)
    | _ => none
  | .lload_n n => match lget lv (n : Nat) with
    | some (.long x) => some (pc + 1, lv, .long x :: st, σ)
    | _ => none
  | .lload n => match lget lv n with
    | some (.long x) => some (pc + 2, lv, .long x :: st, σ)
    | _ => none
  | .aload_n n => match lget lv (n : Nat) with
    | some (.ref x) => some (pc + 1, lv, .ref x :: st, σ)
    | _ => none
  | .aload n => match lget lv n with
    | some (.ref x) => some (pc + 2, lv, .ref x :: st, σ)
    | _ => none
  | _ => none
def simD (pc : Nat) (i : Instr) (lv : LV) (st : List Value) (σ : SG) : Option S4 := match i with
  | .dup => match st with
    | v :: r => if v.category = 1 then some (pc + 1, lv, v :: v :: r, σ) else none
    | [] => none
  | .pop => match st with
    | v :: r => if v.category = 1 then some (pc + 1, lv, r, σ) else none
    | [] => none
  | .dup_x1 => match st with
    | v :: w :: r => if v.category = 1 ∧ w.category = 1 then some (pc + 1, lv, v :: w :: v :: r, σ) else none
    | _ => none
  | .dup2 => match st with
    | v :: w :: r => if v.category = 1 ∧ w.category = 1 then some (pc + 1, lv, v :: w :: v :: w :: r, σ) else none
    | _ => none
  | _ => none
def simS (nL pc : Nat) (i : Instr) (lv : LV) (st : List Value) (σ : SG) : Option S4 := match i with
  | .istore_n n => match st with
    | .int x :: r => if (n : Nat) < nL then some (pc + 1, lS1 (n : Nat) (.int x) lv, r, σ) else none
    | _ => none
  | .istore n => match st with
    | .int x :: r => if n < nL then some (pc + 2, lS1 n (.int x) lv, r, σ) else none
    | _ => none
  | .lstore_n n => match st with
    | .long x :: r => if (n : Nat) + 1 < nL then some (pc + 1, lS2 (n : Nat) (.long x) lv, r, σ) else none
    | _ => none
  | .lstore n => match st with
    | .long x :: r => if n + 1 < nL then some (pc + 2, lS2 n (.long x) lv, r, σ) else none
    | _ => none
  | .astore_n n => match st with
    | .ref x :: r => if (n : Nat) < nL then some (pc + 1, lS1 (n : Nat) (.ref x) lv, r, σ) else none
    | _ => none
  | .astore n => match st with
    | .ref x :: r => if n < nL then some (pc + 2, lS1 n (.ref x) lv, r, σ) else none
    | _ => none
  | .iinc n d => match lget lv n with
    | some (.int x) => if n < nL then some (pc + 3, lS1 n (.int (x + Int32.ofInt d)) lv, st, σ) else none
    | _ => none
  | _ => none
def simU (pc : Nat) (i : Instr) (lv : LV) (st : List Value) (σ : SG) : Option S4 := match i with
  | .ineg => match st with
    | .int x :: r => some (pc + 1, lv, .int (-x) :: r, σ)
    | _ => none
  | .i2l => match st with
    | .int x :: r => some (pc + 1, lv, .long x.toInt64 :: r, σ)
    | _ => none
  | .l2i => match st with
    | .long x :: r => some (pc + 1, lv, .int x.toInt32 :: r, σ)
    | _ => none
  | .i2c => match st with
    | .int x :: r => some (pc + 1, lv, .int (x.toUInt32 % 65536).toInt32 :: r, σ)
    | _ => none
  | .lcmp => match st with
    | .long y :: .long x :: r => some (pc + 1, lv, .int (lcm3 x y) :: r, σ)
    | _ => none
  | _ => none
def simA (pc : Nat) (i : Instr) (lv : LV) (st : List Value) (σ : SG) : Option S4 := match st with
  | .int y :: .int x :: r => match bI i x y with
    | some v => some (pc + 1, lv, .int v :: r, σ)
    | none => none
  | .long y :: .long x :: r => match bL i x y with
    | some v => some (pc + 1, lv, .long v :: r, σ)
    | none => none
  | .int y :: .long x :: r => match sL i x y with
    | some v => some (pc + 1, lv, .long v :: r, σ)
    | none => none
  | _ => none
def simB (pc : Nat) (i : Instr) (lv : LV) (st : List Value) (σ : SG) : Option S4 := match i with
  | .goto off => if 0 ≤ (pc : Int) + off then some (((pc : Int) + off).toNat, lv, st, σ) else none
  | .ifCond cd off => match st with
    | .int x :: r => if 0 ≤ (pc : Int) + off then some (if cI cd x 0 = true then ((pc : Int) + off).toNat else pc + 3, lv, r, σ) else none
    | _ => none
  | .if_icmp cd off => match st with
    | .int y :: .int x :: r => if 0 ≤ (pc : Int) + off then some (if cI cd x y = true then ((pc : Int) + off).toNat else pc + 3, lv, r, σ) else none
    | _ => none
  | .ifnull off => match st with
    | .ref _ :: r => some (pc + 3, lv, r, σ)
    | .null :: r => if 0 ≤ (pc : Int) + off then some (((pc : Int) + off).toNat, lv, r, σ) else none
    | _ => none
  | _ => none
def simH (K : LK) (pc : Nat) (i : Instr) (lv : LV) (st : List Value) (σ : SG) : Option S4 := match i with
  | .getfield ix => match K.1 ix, st with
    | some (ci, k, _, _), .ref h :: r => match σ[h]? with
      | some (.inr (c, fs)) => if c = ci then (match fs[k]? with
        | some v => some (pc + 3, lv, v :: r, σ)
        | none => none) else none
      | _ => none
    | _, _ => none
  | .putfield ix => match K.1 ix, st with
    | some (ci, k, ty, false), v :: .ref h :: r => match σ[h]? with
      | some (.inr (c, fs)) => if c = ci ∧ k < fs.length ∧ narrow ty v = v ∧ fits ty v = true then some (pc + 3, lv, r, σ.set h (.inr (c, fs.set k v))) else none
      | _ => none
    | _, _ => none
  | .iaload => match st with
    | .int j :: .ref h :: r => match σ[h]? with
      | some (.inl (0, n, .inl f)) => if inN j n = true then some (pc + 1, lv, .int (f j.toNatClampNeg) :: r, σ) else none
      | _ => none
    | _ => none
  | .baload => match st with
    | .int j :: .ref h :: r => match σ[h]? with
      | some (.inl (1, n, .inl f)) => if inN j n = true then some (pc + 1, lv, .int (f j.toNatClampNeg) :: r, σ) else none
      | _ => none
    | _ => none
  | .laload => match st with
    | .int j :: .ref h :: r => match σ[h]? with
      | some (.inl (2, n, .inr (.inl f))) => if inN j n = true then some (pc + 1, lv, .long (f j.toNatClampNeg) :: r, σ) else none
      | _ => none
    | _ => none
  | .aaload => match st with
    | .int j :: .ref h :: r => match σ[h]? with
      | some (.inl (3, n, .inr (.inr (.inr (.inr f))))) => if inN j n = true then some (pc + 1, lv, va_rf (f j.toNatClampNeg) :: r, σ) else none
      | _ => none
    | _ => none
  | .iastore => match st with
    | .int x :: .int j :: .ref h :: r => match σ[h]? with
      | some (.inl (0, n, .inl f)) => if inN j n = true then some (pc + 1, lv, r, σ.set h (.inl (0, n, .inl (upd f j.toNatClampNeg x)))) else none
      | _ => none
    | _ => none
  | .bastore => match st with
    | .int x :: .int j :: .ref h :: r => match σ[h]? with
      | some (.inl (1, n, .inl f)) => if inN j n = true then some (pc + 1, lv, r, σ.set h (.inl (1, n, .inl (upd f j.toNatClampNeg (vp_nar .boolean x))))) else none
      | _ => none
    | _ => none
  | .lastore => match st with
    | .long x :: .int j :: .ref h :: r => match σ[h]? with
      | some (.inl (2, n, .inr (.inl f))) => if inN j n = true then some (pc + 1, lv, r, σ.set h (.inl (2, n, .inr (.inl (vp_updL f j.toNatClampNeg x))))) else none
      | _ => none
    | _ => none
  | _ => none

theorem vM_rf (ad : Nat → Nat) (o : Option Nat) : vM ad (va_rf o) = va_rf (o.map ad) := by cases o <;> rfl
theorem vM_narrow {ad : Nat → Nat} {ty : FieldType} {v : Value} (h : narrow ty v = v) : narrow ty (vM ad v) = vM ad v := by
  cases v <;> first | exact h | (cases ty <;> rfl)
theorem vM_fits {ad : Nat → Nat} {ty : FieldType} {v : Value} (h : fits ty v = true) : fits ty (vM ad v) = true := by
  cases v <;> first | exact h | (cases ty <;> first | exact h | rfl)
section Sim
variable {p : Program} {l : Launch} {e : Env} {R : Room} {s : State} {m : MethodId} {args : Array Value} {below : List Frame} {meth : Method} {c : Code} {H : Heap} {locs : List Loc} {cells slots : Nat} {Q : State → Prop}
variable {cc : ByteArray} {n : Nat} {ret : Option FieldType} {y0 : MethodName} {D : va_G} {cs ad : Nat → Nat} {A : Nat → Prop} {pc : Nat} {ls : Array Slot} {lv : LV} {st : List Value} {σ : SG} {i : Instr} {K : LK} {r : S4}
/-- from the next state on, whatever heap and locals stand for it -/
def Nx (p : Program) (l : Launch) (e : Env) (R : Room) (s : State) (m : MethodId) (args : Array Value) (below : List Frame) (meth : Method) (c : Code) (cells slots : Nat) (Q : State → Prop) (n : Nat) (D : va_G) (cs ad : Nat → Nat) (A : Nat → Prop) (r : S4) : Prop :=
  ∀ (H : Heap) (locs : List Loc) (ls : Array Slot), va_P D CL (wM cs ad r.2.2.2) H → va_D A (wM cs ad r.2.2.2) → va_S A s.heap H locs → lv_has ls n (lM ad r.2.1) → W p l e R s m args below meth c H locs cells slots Q (F0 m r.1 ls (r.2.2.1.map (vM ad)))
theorem lv_lcmp (hexec : p.tables.exec = Jvm.exec) (hb : c.code = cc) {rest : List Value} {x y : Int64} (hdg : decode cc pc = .ok (.lcmp, 1)) (k : W p l e R s m args below meth c H locs cells slots Q (F0 m (pc + 1) ls (.int (lcm3 x y) :: rest))) : W p l e R s m args below meth c H locs cells slots Q (F0 m pc ls (.long y :: .long x :: rest)) := by
  intro T hT X
  obtain ⟨t, a, b⟩ := k T hT X
  refine ⟨t, ?_, b⟩
  have hdg' : decode c.code pc = .ok (.lcmp, 1) := by rw [hb]; exact hdg
  unfold lcm3 at a
  rcases Jvm.Stand.i64_tri x y with h | h | h
  · have h1 : ¬ y < x := by rw [Int64.lt_iff_toInt_lt] at h ⊢; omega
    have h2 : ¬ x = y := by intro e'; rw [e'] at h; rw [Int64.lt_iff_toInt_lt] at h; omega
    rw [if_neg h1, if_neg h2] at a
    exact X.lcmpLt hexec h hdg' t a
  · subst h
    have h1 : ¬ x < x := by rw [Int64.lt_iff_toInt_lt]; omega
    rw [if_neg h1, if_pos rfl] at a
    exact X.lcmpEq hexec hdg' t a
  · rw [if_pos h] at a
    exact X.lcmpGt hexec h hdg' t a

theorem simC_ok (C : Cx p s m args meth c cc n ret y0 D (T4 cs) A) (hP : va_P D CL (wM cs ad σ) H) (hD : va_D A (wM cs ad σ)) (hS : va_S A s.heap H locs) (hl : lv_has ls n (lM ad lv)) (hdg : decode cc pc = .ok (i, ilen i)) (hK : lkOK y0.cls K) (h : simC K pc i lv st σ = some r) (k : Nx p l e R s m args below meth c cells slots Q n D cs ad A r) : W p l e R s m args below meth c H locs cells slots Q (F0 m pc ls (st.map (vM ad))) := by
  have hC := C
  obtain ⟨hx, hb, -, hown, hts, -⟩ := C
  unfold simC at h
  split at h
  · cases h; exact lv_iconst hx hb hdg rfl (k H locs ls hP hD hS hl)
  · cases h; exact lv_bipush hx hb hdg rfl (k H locs ls hP hD hS hl)
  · cases h; exact lv_sipush hx hb hdg rfl (k H locs ls hP hD hS hl)
  · cases h; exact lv_lconst hx hb hdg rfl (k H locs ls hP hD hS hl)
  · split at h
    · next v hv => cases h; exact lv_ldc hx hb hown (hts _ (hK.2.1 _ _ hv)) hdg (k H locs ls hP hD hS hl)
    · cases h
  · split at h
    · next v hv => cases h; exact lv_ldcw hx hb hown (hts _ (hK.2.1 _ _ hv)) hdg (k H locs ls hP hD hS hl)
    · cases h
  · split at h
    · next v hv => cases h; exact lv_ldc2 hx hb hown (hts _ (hK.2.2 _ _ hv)) hdg (k H locs ls hP hD hS hl)
    · cases h
  · split at h
    · next x hv => cases h; exact lv_iload_n hx hb hdg rfl (lget_at hl hv) (k H locs ls hP hD hS hl)
    · cases h
  · split at h
    · next x hv => cases h; exact lv_iload hx hb hdg (lget_at hl hv) (k H locs ls hP hD hS hl)
    · cases h
  · split at h
    · next x hv => cases h; exact lv_lload_n hx hb hdg rfl (lget_at hl hv) (k H locs ls hP hD hS hl)
    · cases h
  · split at h
    · next x hv => cases h; exact lv_lload hx hb hdg (lget_at hl hv) (k H locs ls hP hD hS hl)
    · cases h
  · split at h
    · next x hv => cases h; exact lv_aload_n hx hb hdg rfl (lget_at hl hv) (k H locs ls hP hD hS hl)
    · cases h
  · split at h
    · next x hv => cases h; exact lv_aload hx hb hdg (lget_at hl hv) (k H locs ls hP hD hS hl)
    · cases h
  · cases h
theorem simD_ok (C : Cx p s m args meth c cc n ret y0 D (T4 cs) A) (hP : va_P D CL (wM cs ad σ) H) (hD : va_D A (wM cs ad σ)) (hS : va_S A s.heap H locs) (hl : lv_has ls n (lM ad lv)) (hdg : decode cc pc = .ok (i, ilen i)) (h : simD pc i lv st σ = some r) (k : Nx p l e R s m args below meth c cells slots Q n D cs ad A r) : W p l e R s m args below meth c H locs cells slots Q (F0 m pc ls (st.map (vM ad))) := by
  obtain ⟨hx, hb, -⟩ := C
  unfold simD at h
  split at h
  · split at h
    · split at h
      · next hc => cases h; exact lv_dup hx hb hdg ((vM_cat ad _).trans hc) (k H locs ls hP hD hS hl)
      · cases h
    · cases h
  · split at h
    · split at h
      · next hc => cases h; exact lv_pop hx hb hdg ((vM_cat ad _).trans hc) (k H locs ls hP hD hS hl)
      · cases h
    · cases h
  · split at h
    · split at h
      · next hc => cases h; exact lv_dup_x1 hx hb hdg ((vM_cat ad _).trans hc.1) ((vM_cat ad _).trans hc.2) (k H locs ls hP hD hS hl)
      · cases h
    · cases h
  · split at h
    · split at h
      · next hc => cases h; exact lv_dup2_11 hx hb hdg ((vM_cat ad _).trans hc.1) ((vM_cat ad _).trans hc.2) (k H locs ls hP hD hS hl)
      · cases h
    · cases h
  · cases h
theorem simS_ok (C : Cx p s m args meth c cc n ret y0 D (T4 cs) A) (hP : va_P D CL (wM cs ad σ) H) (hD : va_D A (wM cs ad σ)) (hS : va_S A s.heap H locs) (hl : lv_has ls n (lM ad lv)) (hdg : decode cc pc = .ok (i, ilen i)) (h : simS n pc i lv st σ = some r) (k : Nx p l e R s m args below meth c cells slots Q n D cs ad A r) : W p l e R s m args below meth c H locs cells slots Q (F0 m pc ls (st.map (vM ad))) := by
  obtain ⟨hx, hb, -⟩ := C
  unfold simS at h
  split at h
  · split at h
    · split at h
      · next hc => cases h; exact lv_istore_n hx hb hdg rfl hl hc (lM_S1 ad _ (.int _) lv).symm (fun ls' hl' => k H locs ls' hP hD hS hl')
      · cases h
    · cases h
  · split at h
    · split at h
      · next hc => cases h; exact lv_istore hx hb hdg hl hc (lM_S1 ad _ (.int _) lv).symm (fun ls' hl' => k H locs ls' hP hD hS hl')
      · cases h
    · cases h
  · split at h
    · split at h
      · next hc => cases h; exact lv_lstore_n hx hb hdg rfl hl hc (lM_S2 ad _ (.long _) lv).symm (fun ls' hl' => k H locs ls' hP hD hS hl')
      · cases h
    · cases h
  · split at h
    · split at h
      · next hc => cases h; exact lv_lstore hx hb hdg hl hc (lM_S2 ad _ (.long _) lv).symm (fun ls' hl' => k H locs ls' hP hD hS hl')
      · cases h
    · cases h
  · split at h
    · split at h
      · next hc => cases h; exact lv_astore_n hx hb hdg rfl hl hc (lM_S1 ad _ (.ref _) lv).symm (fun ls' hl' => k H locs ls' hP hD hS hl')
      · cases h
    · cases h
  · split at h
    · split at h
      · next hc => cases h; exact lv_astore hx hb hdg hl hc (lM_S1 ad _ (.ref _) lv).symm (fun ls' hl' => k H locs ls' hP hD hS hl')
      · cases h
    · cases h
  · split at h
    · next x hv =>
      split at h
      · next hc =>
        cases h
        obtain ⟨j, hj⟩ := lget_ix (ad := ad) hv
        exact lv_iinc hx hb hdg hl hj rfl hc (lM_S1 ad _ (.int _) lv).symm (fun ls' hl' => k H locs ls' hP hD hS hl')
      · cases h
    · cases h
  · cases h
theorem simU_ok (C : Cx p s m args meth c cc n ret y0 D (T4 cs) A) (hP : va_P D CL (wM cs ad σ) H) (hD : va_D A (wM cs ad σ)) (hS : va_S A s.heap H locs) (hl : lv_has ls n (lM ad lv)) (hdg : decode cc pc = .ok (i, ilen i)) (h : simU pc i lv st σ = some r) (k : Nx p l e R s m args below meth c cells slots Q n D cs ad A r) : W p l e R s m args below meth c H locs cells slots Q (F0 m pc ls (st.map (vM ad))) := by
  obtain ⟨hx, hb, -⟩ := C
  unfold simU at h
  split at h
  · split at h
    · cases h; exact lv_ineg hx hb hdg (k H locs ls hP hD hS hl)
    · cases h
  · split at h
    · cases h; exact lv_i2l hx hb hdg rfl (k H locs ls hP hD hS hl)
    · cases h
  · split at h
    · cases h; exact lv_l2i hx hb hdg rfl (k H locs ls hP hD hS hl)
    · cases h
  · split at h
    · cases h; exact lv_i2c hx hb hdg rfl (k H locs ls hP hD hS hl)
    · cases h
  · split at h
    · cases h; exact lv_lcmp hx hb hdg (k H locs ls hP hD hS hl)
    · cases h
  · cases h
theorem simA_ok (C : Cx p s m args meth c cc n ret y0 D (T4 cs) A) (hP : va_P D CL (wM cs ad σ) H) (hD : va_D A (wM cs ad σ)) (hS : va_S A s.heap H locs) (hl : lv_has ls n (lM ad lv)) (hdg : decode cc pc = .ok (i, ilen i)) (h : simA pc i lv st σ = some r) (k : Nx p l e R s m args below meth c cells slots Q n D cs ad A r) : W p l e R s m args below meth c H locs cells slots Q (F0 m pc ls (st.map (vM ad))) := by
  obtain ⟨hx, hb, -⟩ := C
  unfold simA at h
  split at h
  · split at h
    · next v hv =>
      cases h
      have k' := k H locs ls hP hD hS hl
      unfold bI at hv
      split at hv
      · cases hv; exact lv_iadd hx hb hdg k'
      · cases hv; exact lv_isub hx hb hdg k'
      · cases hv; exact lv_imul hx hb hdg k'
      · cases hv; exact lv_iand hx hb hdg k'
      · cases hv; exact lv_ior hx hb hdg k'
      · cases hv; exact lv_ixor hx hb hdg k'
      · split at hv
        · cases hv
        · next hz => cases hv; exact lv_idiv hx hb hdg hz k'
      · split at hv
        · cases hv
        · next hz => cases hv; exact lv_irem hx hb hdg hz k'
      · cases hv; exact lv_ishl hx hb hdg k'
      · cases hv; exact lv_ishr hx hb hdg k'
      · cases hv; exact lv_iushr hx hb hdg rfl k'
      · cases hv
    · cases h
  · split at h
    · next v hv =>
      cases h
      have k' := k H locs ls hP hD hS hl
      unfold bL at hv
      split at hv
      · cases hv; exact lv_ladd hx hb hdg k'
      · cases hv; exact lv_lsub hx hb hdg k'
      · cases hv; exact lv_lmul hx hb hdg k'
      · cases hv; exact lv_land hx hb hdg k'
      · cases hv; exact lv_lor hx hb hdg k'
      · cases hv; exact lv_lxor hx hb hdg k'
      · cases hv
    · cases h
  · split at h
    · next v hv =>
      cases h
      have k' := k H locs ls hP hD hS hl
      unfold sL at hv
      split at hv
      · cases hv; exact lv_lshl hx hb hdg rfl k'
      · cases hv; exact lv_lshr hx hb hdg rfl k'
      · cases hv; exact lv_lushr hx hb hdg rfl k'
      · cases hv
    · cases h
  · cases h
theorem simB_ok (C : Cx p s m args meth c cc n ret y0 D (T4 cs) A) (hP : va_P D CL (wM cs ad σ) H) (hD : va_D A (wM cs ad σ)) (hS : va_S A s.heap H locs) (hl : lv_has ls n (lM ad lv)) (hdg : decode cc pc = .ok (i, ilen i)) (h : simB pc i lv st σ = some r) (k : Nx p l e R s m args below meth c cells slots Q n D cs ad A r) : W p l e R s m args below meth c H locs cells slots Q (F0 m pc ls (st.map (vM ad))) := by
  obtain ⟨hx, hb, -⟩ := C
  unfold simB at h
  split at h
  · split at h
    · next hc => cases h; exact lv_goto hx hb hdg (Int.toNat_of_nonneg hc).symm (k H locs ls hP hD hS hl)
    · cases h
  · next cd off =>
    split at h
    · split at h
      · next hc =>
        cases h
        have k' := k H locs ls hP hD hS hl
        have ht := (Int.toNat_of_nonneg hc).symm
        cases cd
        · exact lv_if_eq hx hb hdg ht (fun q => by simp only [cI, decide_eq_true_eq] at k'; rw [if_pos q] at k'; exact k') (fun q => by simp only [cI, decide_eq_true_eq] at k'; rw [if_neg q] at k'; exact k')
        · exact lv_if_ne hx hb hdg ht (fun q => by simp only [cI, decide_eq_true_eq] at k'; rw [if_pos q] at k'; exact k') (fun q => by simp only [cI, decide_eq_true_eq] at k'; rw [if_neg (fun h0 => h0 q)] at k'; exact k')
        · exact lv_if_lt hx hb hdg ht (fun q => by simp only [cI, decide_eq_true_eq] at k'; rw [if_pos q] at k'; exact k') (fun q => by simp only [cI, decide_eq_true_eq] at k'; rw [if_neg q] at k'; exact k')
        · exact lv_if_ge hx hb hdg ht (fun q => by simp only [cI, decide_eq_true_eq] at k'; rw [if_pos q] at k'; exact k') (fun q => by simp only [cI, decide_eq_true_eq] at k'; rw [if_neg q] at k'; exact k')
        · exact lv_if_gt hx hb hdg ht (fun q => by simp only [cI, decide_eq_true_eq] at k'; rw [if_pos q] at k'; exact k') (fun q => by simp only [cI, decide_eq_true_eq] at k'; rw [if_neg q] at k'; exact k')
        · exact lv_if_le hx hb hdg ht (fun q => by simp only [cI, decide_eq_true_eq] at k'; rw [if_pos q] at k'; exact k') (fun q => by simp only [cI, decide_eq_true_eq] at k'; rw [if_neg q] at k'; exact k')
      · cases h
    · cases h
  · next cd off =>
    split at h
    · split at h
      · next hc =>
        cases h
        have k' := k H locs ls hP hD hS hl
        have ht := (Int.toNat_of_nonneg hc).symm
        cases cd
        · exact lv_icmp_eq hx hb hdg ht (fun q => by simp only [cI, decide_eq_true_eq] at k'; rw [if_pos q] at k'; exact k') (fun q => by simp only [cI, decide_eq_true_eq] at k'; rw [if_neg q] at k'; exact k')
        · exact lv_icmp_ne hx hb hdg ht (fun q => by simp only [cI, decide_eq_true_eq] at k'; rw [if_pos q] at k'; exact k') (fun q => by simp only [cI, decide_eq_true_eq] at k'; rw [if_neg (fun h0 => h0 q)] at k'; exact k')
        · exact lv_icmp_lt hx hb hdg ht (fun q => by simp only [cI, decide_eq_true_eq] at k'; rw [if_pos q] at k'; exact k') (fun q => by simp only [cI, decide_eq_true_eq] at k'; rw [if_neg q] at k'; exact k')
        · exact lv_icmp_ge hx hb hdg ht (fun q => by simp only [cI, decide_eq_true_eq] at k'; rw [if_pos q] at k'; exact k') (fun q => by simp only [cI, decide_eq_true_eq] at k'; rw [if_neg q] at k'; exact k')
        · exact lv_icmp_gt hx hb hdg ht (fun q => by simp only [cI, decide_eq_true_eq] at k'; rw [if_pos q] at k'; exact k') (fun q => by simp only [cI, decide_eq_true_eq] at k'; rw [if_neg q] at k'; exact k')
        · exact lv_icmp_le hx hb hdg ht (fun q => by simp only [cI, decide_eq_true_eq] at k'; rw [if_pos q] at k'; exact k') (fun q => by simp only [cI, decide_eq_true_eq] at k'; rw [if_neg q] at k'; exact k')
      · cases h
    · cases h
  · split at h
    · cases h; exact lv_ifnull hx hb hdg (k H locs ls hP hD hS hl)
    · split at h
      · next hc => cases h; exact lv_ifnullN hx hb hdg (Int.toNat_of_nonneg hc).symm (k H locs ls hP hD hS hl)
      · cases h
    · cases h
  · cases h
theorem simH_ok (C : Cx p s m args meth c cc n ret y0 D (T4 cs) A) (hP : va_P D CL (wM cs ad σ) H) (hD : va_D A (wM cs ad σ)) (hS : va_S A s.heap H locs) (hl : lv_has ls n (lM ad lv)) (hdg : decode cc pc = .ok (i, ilen i)) (hK : lkOK y0.cls K) (h : simH K pc i lv st σ = some r) (k : Nx p l e R s m args below meth c cells slots Q n D cs ad A r) : W p l e R s m args below meth c H locs cells slots Q (F0 m pc ls (st.map (vM ad))) := by
  have hC := C
  obtain ⟨hx, hb, -, hown, hts, hKK, -⟩ := C
  unfold simH at h
  split at h
  · split at h
    · next hf =>
      split at h
      · next hh =>
        split at h
        · next hci =>
          subst hci
          split at h
          · next hv =>
            cases h
            obtain ⟨dec, F⟩ := hK.1 _ _ _ _ _ hf
            exact r_get hC hP _ (wM_get hh) F (by rw [List.getElem?_map, hv]; rfl) hdg (k H locs ls hP hD hS hl)
          · cases h
        · cases h
      · cases h
    · cases h
  · split at h
    · next hf =>
      split at h
      · next hh =>
        split at h
        · next hci =>
          obtain ⟨rfl, hk, hn, hfit⟩ := hci
          cases h
          obtain ⟨dec, F⟩ := hK.1 _ _ _ _ _ hf
          exact r_put hC hP hD hS _ (wM_get hh) F (vM_narrow hn) (vM_fits hfit) (by rw [List.length_map]; exact hk) hdg _ (by rw [wM_set]; simp only [eM, List.map_set]) (fun H1 locs1 h1 h2 h3 => k H1 locs1 ls h1 h2 h3 hl)
        · cases h
      · cases h
    · cases h
  · split at h
    · split at h
      · next hh =>
        split at h
        · next hc => cases h; exact va_iald hx hb hKK hP _ 0 (wM_get hh) rfl (inN_in hc) hdg (k H locs ls hP hD hS hl)
        · cases h
      · cases h
    · cases h
  · split at h
    · split at h
      · next hh =>
        split at h
        · next hc => cases h; exact va_zald hx hb hKK hP _ 1 (wM_get hh) rfl (inN_in hc) hdg (k H locs ls hP hD hS hl)
        · cases h
      · cases h
    · cases h
  · split at h
    · split at h
      · next hh =>
        split at h
        · next hc => cases h; exact va_lald hx hb hKK hP _ 2 (wM_get hh) rfl (inN_in hc) hdg (k H locs ls hP hD hS hl)
        · cases h
      · cases h
    · cases h
  · split at h
    · split at h
      · next hh =>
        split at h
        · next hc =>
          cases h
          refine va_aldq hx hb hKK hP _ 3 (wM_get hh) rfl (inN_in hc) hdg ?_
          have k' := k H locs ls hP hD hS hl
          rw [List.map_cons, vM_rf] at k'
          exact k'
        · cases h
      · cases h
    · cases h
  · split at h
    · split at h
      · next hh =>
        split at h
        · next hc => cases h; exact va_iast hx hb hKK hP hD hS _ 0 (wM_get hh) rfl (inN_in hc) hdg (fun H1 locs1 h1 h2 h3 => k H1 locs1 ls (by rw [wM_set]; exact h1) (by rw [wM_set]; exact h2) h3 hl)
        · cases h
      · cases h
    · cases h
  · split at h
    · split at h
      · next hh =>
        split at h
        · next hc => cases h; exact va_zast hx hb hKK hP hD hS _ 1 (wM_get hh) rfl (inN_in hc) hdg (fun H1 locs1 h1 h2 h3 => k H1 locs1 ls (by rw [wM_set]; exact h1) (by rw [wM_set]; exact h2) h3 hl)
        · cases h
      · cases h
    · cases h
  · split at h
    · split at h
      · next hh =>
        split at h
        · next hc => cases h; exact va_last hx hb hKK hP hD hS _ 2 (wM_get hh) rfl (inN_in hc) hdg (fun H1 locs1 h1 h2 h3 => k H1 locs1 ls (by rw [wM_set]; exact h1) (by rw [wM_set]; exact h2) h3 hl)
        · cases h
      · cases h
    · cases h
  · cases h
end Sim
