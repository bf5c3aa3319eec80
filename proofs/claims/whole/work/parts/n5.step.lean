/-! abstract steps: constants, loads, stores, the stack, arithmetic, branches -/
def isL : AS → Bool
  | .inr none => true
  | _ => false
abbrev AL : Type := List (Nat × AC)
def aC (K : LK) (pc : Nat) (i : Instr) (A : AC) : Option AL := match i with
  | .iconst n => if -1 ≤ n ∧ n ≤ 5 then some [(pc + 1, sS A (.inl (none, n) :: A.2.2.2.1))] else none
  | .bipush n => if -128 ≤ n ∧ n ≤ 127 then some [(pc + 2, sS A (.inl (none, n) :: A.2.2.2.1))] else none
  | .sipush n => if -32768 ≤ n ∧ n ≤ 32767 then some [(pc + 3, sS A (.inl (none, n) :: A.2.2.2.1))] else none
  | .lconst _ => some [(pc + 1, sS A (.inr none :: A.2.2.2.1))]
  | .ldc ix => match K.2.1 ix with
    | some v => some [(pc + 2, sS A (.inl (none, v.toInt) :: A.2.2.2.1))]
    | none => none
  | .ldc_w ix => match K.2.1 ix with
    | some v => some [(pc + 3, sS A (.inl (none, v.toInt) :: A.2.2.2.1))]
    | none => none
  | .ldc2_w ix => match K.2.2 ix with
    | some _ => some [(pc + 3, sS A (.inr none :: A.2.2.2.1))]
    | none => none
  | .iload_n n => match lkp A.2.2.1 (n : Nat) with
    | some (.inl a) => some [(pc + 1, sS A (.inl a :: A.2.2.2.1))]
    | _ => none
  | .iload n => match lkp A.2.2.1 n with
    | some (.inl a) => some [(pc + 2, sS A (.inl a :: A.2.2.2.1))]
    | _ => none
  | .lload_n n => match lkp A.2.2.1 (n : Nat) with
    | some (.inr none) => some [(pc + 1, sS A (.inr none :: A.2.2.2.1))]
    | _ => none
  | .lload n => match lkp A.2.2.1 n with
    | some (.inr none) => some [(pc + 2, sS A (.inr none :: A.2.2.2.1))]
    | _ => none
  | .aload_n n => match lkp A.2.2.1 (n : Nat) with
    | some (.inr (some a)) => some [(pc + 1, sS A (.inr (some a) :: A.2.2.2.1))]
    | _ => none
  | .aload n => match lkp A.2.2.1 n with
    | some (.inr (some a)) => some [(pc + 2, sS A (.inr (some a) :: A.2.2.2.1))]
    | _ => none
  | _ => none
def aD (pc : Nat) (i : Instr) (A : AC) : Option AL := match i with
  | .dup => match A.2.2.2.1 with
    | a :: r => if isL a = true then none else some [(pc + 1, sS A (a :: a :: r))]
    | [] => none
  | .pop => match A.2.2.2.1 with
    | a :: r => if isL a = true then none else some [(pc + 1, sS A r)]
    | [] => none
  | .dup_x1 => match A.2.2.2.1 with
    | a :: b :: r => if isL a = true ∨ isL b = true then none else some [(pc + 1, sS A (a :: b :: a :: r))]
    | _ => none
  | .dup2 => match A.2.2.2.1 with
    | a :: b :: r => if isL a = true ∨ isL b = true then none else some [(pc + 1, sS A (a :: b :: a :: b :: r))]
    | _ => none
  | _ => none
def aS1 (i : Nat) (a : AS) (al : List (Nat × AS)) : List (Nat × AS) := (i, a) :: al.filter (fun q => !(q.1 == i) && !(q.1 + 1 == i && isL q.2))
def aS2 (i : Nat) (a : AS) (al : List (Nat × AS)) : List (Nat × AS) := (i, a) :: al.filter (fun q => !(q.1 == i) && (!(q.1 == i + 1) && !(q.1 + 1 == i && isL q.2)))
def sV (A : AC) (al : List (Nat × AS)) (st : List AS) : AC := (A.1, A.2.1, al, st, A.2.2.2.2)
def aT (nL pc : Nat) (i : Instr) (A : AC) : Option AL := match i with
  | .istore_n n => match A.2.2.2.1 with
    | .inl a :: r => if (n : Nat) < nL then some [(pc + 1, sV A (aS1 (n : Nat) (.inl a) A.2.2.1) r)] else none
    | _ => none
  | .istore n => match A.2.2.2.1 with
    | .inl a :: r => if n < nL then some [(pc + 2, sV A (aS1 n (.inl a) A.2.2.1) r)] else none
    | _ => none
  | .lstore_n n => match A.2.2.2.1 with
    | .inr none :: r => if (n : Nat) + 1 < nL then some [(pc + 1, sV A (aS2 (n : Nat) (.inr none) A.2.2.1) r)] else none
    | _ => none
  | .lstore n => match A.2.2.2.1 with
    | .inr none :: r => if n + 1 < nL then some [(pc + 2, sV A (aS2 n (.inr none) A.2.2.1) r)] else none
    | _ => none
  | .astore_n n => match A.2.2.2.1 with
    | .inr (some a) :: r => if (n : Nat) < nL then some [(pc + 1, sV A (aS1 (n : Nat) (.inr (some a)) A.2.2.1) r)] else none
    | _ => none
  | .astore n => match A.2.2.2.1 with
    | .inr (some a) :: r => if n < nL then some [(pc + 2, sV A (aS1 n (.inr (some a)) A.2.2.1) r)] else none
    | _ => none
  | .iinc n d => match lkp A.2.2.1 n with
    | some (.inl a) => if n < nL ∧ -32768 ≤ d ∧ d ≤ 32767 then (match addC A.1 (.inl a) d with
      | .inl b => some [(pc + 3, sV A (aS1 n b A.2.2.1) A.2.2.2.1)]
      | .inr q => some [(pc + 3, sV (fI A q) (aS1 n (.inl (some A.1.length, 0)) A.2.2.1) A.2.2.2.1)]) else none
    | _ => none
  | _ => none
def aU (pc : Nat) (i : Instr) (A : AC) : Option AL := match i with
  | .ineg => match A.2.2.2.1 with
    | .inl a :: r => some [(pc + 1, pR A r (.inr (if -2147483647 ≤ (ivS A.1 (.inl a)).1 then (-(ivS A.1 (.inl a)).2, -(ivS A.1 (.inl a)).1) else ivT)))]
    | _ => none
  | .i2l => match A.2.2.2.1 with
    | .inl _ :: r => some [(pc + 1, sS A (.inr none :: r))]
    | _ => none
  | .l2i => match A.2.2.2.1 with
    | .inr none :: r => some [(pc + 1, pR A r (.inr ivT))]
    | _ => none
  | .i2c => match A.2.2.2.1 with
    | .inl _ :: r => some [(pc + 1, pR A r (.inr ivT))]
    | _ => none
  | .lcmp => match A.2.2.2.1 with
    | .inr none :: .inr none :: r => some [(pc + 1, pR A r (.inr (-1, 1)))]
    | _ => none
  | _ => none
def lOp : Instr → Bool
  | .ladd | .lsub | .lmul | .land | .lor | .lxor => true
  | _ => false
def lSh : Instr → Bool
  | .lshl | .lshr | .lushr => true
  | _ => false
def aA (pc : Nat) (i : Instr) (A : AC) : Option AL := match A.2.2.2.1 with
  | .inl b :: .inl a :: r => match opI A.1 i (.inl a) (.inl b) with
    | some q => some [(pc + 1, pR A r q)]
    | none => none
  | .inr none :: .inr none :: r => if lOp i = true then some [(pc + 1, sS A (.inr none :: r))] else none
  | .inl _ :: .inr none :: r => if lSh i = true then some [(pc + 1, sS A (.inr none :: r))] else none
  | _ => none
/-- what a comparison of two symbols says -/
def isSy : AS → Bool
  | .inl (some _, _) => true
  | _ => false
def cRl (cd : ClassFile.Cond) (a b : AS) : List RLt := if isSy a && isSy b then (match cd with
  | .lt => [(a, b, 1)]
  | .le => [(a, b, 0)]
  | .gt => [(b, a, 1)]
  | .ge => [(b, a, 0)]
  | .eq => [(a, b, 0), (b, a, 0)]
  | .ne => []) else []
def relC (sy : List IV) : List RLt → List (Bool × AS × Int)
  | [] => []
  | q :: r => (true, q.1, (ivS sy q.2.1).2 - q.2.2) :: (false, q.2.1, (ivS sy q.1).1 + q.2.2) :: relC sy r
/-- one side of a branch -/
def aJ (A : AC) (r : List AS) (t : Nat) (cs : List (Bool × AS × Int)) (rl : List RLt) : AL := match rAll A.1 cs with
  | some sy => match rAll sy (relC sy (rl ++ A.2.2.2.2.2)) with
    | some sy' => [(t, (sy', A.2.1, A.2.2.1, r, A.2.2.2.2.1, rl ++ A.2.2.2.2.2))]
    | none => []
  | none => []
def aB (pc : Nat) (i : Instr) (A : AC) : Option AL := match i with
  | .goto off => if 0 ≤ (pc : Int) + off then some [(((pc : Int) + off).toNat, A)] else none
  | .ifCond cd off => match A.2.2.2.1 with
    | .inl a :: r => if 0 ≤ (pc : Int) + off then some (aJ A r ((pc : Int) + off).toNat (cN cd (.inl a) (.inl (none, 0)) (ivS A.1 (.inl a)) (0, 0)) [] ++ aJ A r (pc + 3) (cN (cNeg cd) (.inl a) (.inl (none, 0)) (ivS A.1 (.inl a)) (0, 0)) []) else none
    | _ => none
  | .if_icmp cd off => match A.2.2.2.1 with
    | .inl b :: .inl a :: r => if 0 ≤ (pc : Int) + off then some (aJ A r ((pc : Int) + off).toNat (cN cd (.inl a) (.inl b) (ivS A.1 (.inl a)) (ivS A.1 (.inl b))) (cRl cd (.inl a) (.inl b)) ++ aJ A r (pc + 3) (cN (cNeg cd) (.inl a) (.inl b) (ivS A.1 (.inl a)) (ivS A.1 (.inl b))) (cRl (cNeg cd) (.inl a) (.inl b))) else none
    | _ => none
  | .ifnull _ => match A.2.2.2.1 with
    | .inr (some _) :: r => some [(pc + 3, sS A r)]
    | _ => none
  | _ => none
section Abs
variable {KD : List KDT} {KO : List Nat} {G : TB} {k n pc : Nat} {i : Instr} {A : AC} {ν : List Int} {ρs : List Nat} {lv : LV} {st : List Value} {σ : SG} {L : AL} {ms : List (Nat × Nat)}
def aStp (KD : List KDT) (KO : List Nat) (ms : List (Nat × Nat)) (G : TB) (k n pc : Nat) (i : Instr) (L : AL) (ν : List Int) (ρs : List Nat) (lv : LV) (st : List Value) (σ : SG) : Prop :=
  ∃ r : S4, sim G k n pc i lv st σ = some r ∧ ∃ A' ν' ρs', (r.1, A') ∈ L ∧ gA KO A' ν' ρs' r.2.1 r.2.2.1 r.2.2.2 ∧ (ext ν ν' ∧ ext ρs ρs') ∧ Inv KD KO r.2.2.2 ∧ Fr KO ms σ r.2.2.2
theorem sim_C {r : S4} (h : simC (tbK G k) pc i lv st σ = some r) : sim G k n pc i lv st σ = some r := by unfold sim; rw [h]
theorem sim_S {r : S4} (h0 : simC (tbK G k) pc i lv st σ = none) (h : simS n pc i lv st σ = some r) : sim G k n pc i lv st σ = some r := by unfold sim; rw [h0, h]
theorem sim_A {r : S4} (h0 : simC (tbK G k) pc i lv st σ = none) (h1 : simS n pc i lv st σ = none) (h : simA pc i lv st σ = some r) : sim G k n pc i lv st σ = some r := by unfold sim; rw [h0, h1, h]
theorem sim_B {r : S4} (h0 : simC (tbK G k) pc i lv st σ = none) (h1 : simS n pc i lv st σ = none) (h2 : simA pc i lv st σ = none) (h : simB pc i lv st σ = some r) : sim G k n pc i lv st σ = some r := by unfold sim; rw [h0, h1, h2, h]
theorem sim_H {r : S4} (h0 : simC (tbK G k) pc i lv st σ = none) (h1 : simS n pc i lv st σ = none) (h2 : simA pc i lv st σ = none) (h3 : simB pc i lv st σ = none) (h : simH (tbK G k) pc i lv st σ = some r) : sim G k n pc i lv st σ = some r := by unfold sim; rw [h0, h1, h2, h3, h]
theorem sim_U {r : S4} (h0 : simC (tbK G k) pc i lv st σ = none) (h1 : simS n pc i lv st σ = none) (h2 : simA pc i lv st σ = none) (h3 : simB pc i lv st σ = none) (h4 : simH (tbK G k) pc i lv st σ = none) (h : simU pc i lv st σ = some r) : sim G k n pc i lv st σ = some r := by unfold sim; rw [h0, h1, h2, h3, h4, h]
theorem sim_D {r : S4} (h0 : simC (tbK G k) pc i lv st σ = none) (h1 : simS n pc i lv st σ = none) (h2 : simA pc i lv st σ = none) (h3 : simB pc i lv st σ = none) (h4 : simH (tbK G k) pc i lv st σ = none) (h5 : simU pc i lv st σ = none) (h : simD pc i lv st σ = some r) : sim G k n pc i lv st σ = some r := by unfold sim; rw [h0, h1, h2, h3, h4, h5, h]
/-- an instruction that is no operation of two operands -/
theorem simA_no {i : Instr} (h1 : ∀ x y, bI i x y = none) (h2 : ∀ x y, bL i x y = none) (h3 : ∀ x y, sL i x y = none) : simA pc i lv st σ = none := by
  unfold simA
  split
  · rw [h1]
  · rw [h2]
  · rw [h3]
  · rfl
theorem stp1 {r : S4} {A' : AC} {ν' : List Int} (hs : sim G k n pc i lv st σ = some r) (hp : L = [(r.1, A')]) (hg : gA KO A' ν' ρs r.2.1 r.2.2.1 r.2.2.2) (he : ext ν ν') (hI : Inv KD KO σ) (hσ : r.2.2.2 = σ) : aStp KD KO ms G k n pc i L ν ρs lv st σ :=
  ⟨r, hs, A', ν', ρs, by rw [hp]; exact List.mem_singleton.mpr rfl, hg, ⟨he, ext.rf⟩, by rw [hσ]; exact hI, by rw [hσ]; exact Fr.rf⟩
theorem stpR {r : S4} {A' : AC} {x : Nat} (hs : sim G k n pc i lv st σ = some r) (hp : L = [(r.1, A')]) (hg : gA KO A' ν (ρs ++ [x]) r.2.1 r.2.2.1 r.2.2.2) (hI : Inv KD KO σ) (hσ : r.2.2.2 = σ) : aStp KD KO ms G k n pc i L ν ρs lv st σ :=
  ⟨r, hs, A', ν, ρs ++ [x], by rw [hp]; exact List.mem_singleton.mpr rfl, hg, ⟨ext.rf, ext.app _ _⟩, by rw [hσ]; exact hI, by rw [hσ]; exact Fr.rf⟩
theorem i8_ok {n : Int} (h1 : -128 ≤ n) (h2 : n ≤ 127) : (Int8.ofInt n).toInt32.toInt = n := by
  rw [Int8.toInt_toInt32, Int8.toInt_ofInt, show Int8.size = 256 from rfl]
  exact Int.bmod_eq_of_le (by omega) (by omega)
theorem i16_ok {n : Int} (h1 : -32768 ≤ n) (h2 : n ≤ 32767) : (Int16.ofInt n).toInt32.toInt = n := by
  rw [Int16.toInt_toInt32, Int16.toInt_ofInt, show Int16.size = 65536 from rfl]
  exact Int.bmod_eq_of_le (by omega) (by omega)
theorem i32_of {n : Int} (h1 : -2147483648 ≤ n) (h2 : n ≤ 2147483647) : (Int32.ofInt n).toInt = n := by
  rw [Int32.toInt_ofInt]
  exact bm32 h1 h2
theorem aC_ok (hA : gA KO A ν ρs lv st σ) (hI : Inv KD KO σ) (h : aC (tbK G k) pc i A = some L) : aStp KD KO ms G k n pc i L ν ρs lv st σ := by
  unfold aC at h
  split at h
  · next c =>
    split at h
    · next hc => cases h; exact stp1 (sim_C rfl) rfl (gA_S hA ⟨⟨_, rfl, i32_of (by omega) (by omega)⟩, hA.2.2.2.1⟩) ext.rf hI rfl
    · cases h
  · next c =>
    split at h
    · next hc => cases h; exact stp1 (sim_C rfl) rfl (gA_S hA ⟨⟨_, rfl, i8_ok hc.1 hc.2⟩, hA.2.2.2.1⟩) ext.rf hI rfl
    · cases h
  · next c =>
    split at h
    · next hc => cases h; exact stp1 (sim_C rfl) rfl (gA_S hA ⟨⟨_, rfl, i16_ok hc.1 hc.2⟩, hA.2.2.2.1⟩) ext.rf hI rfl
    · cases h
  · cases h; exact stp1 (sim_C rfl) rfl (gA_S hA ⟨⟨_, rfl⟩, hA.2.2.2.1⟩) ext.rf hI rfl
  · next ix =>
    split at h
    · next v hv =>
      cases h
      refine stp1 (r := (pc + 2, lv, .int v :: st, σ)) (sim_C ?_) rfl (gA_S hA ⟨⟨v, rfl, rfl⟩, hA.2.2.2.1⟩) ext.rf hI rfl
      show (match (tbK G k).2.1 ix with | some v => _ | none => none) = _
      rw [hv]
    · cases h
  · next ix =>
    split at h
    · next v hv =>
      cases h
      refine stp1 (r := (pc + 3, lv, .int v :: st, σ)) (sim_C ?_) rfl (gA_S hA ⟨⟨v, rfl, rfl⟩, hA.2.2.2.1⟩) ext.rf hI rfl
      show (match (tbK G k).2.1 ix with | some v => _ | none => none) = _
      rw [hv]
    · cases h
  · next ix =>
    split at h
    · next v hv =>
      cases h
      refine stp1 (r := (pc + 3, lv, .long v :: st, σ)) (sim_C ?_) rfl (gA_S hA ⟨⟨v, rfl⟩, hA.2.2.2.1⟩) ext.rf hI rfl
      show (match (tbK G k).2.2 ix with | some v => _ | none => none) = _
      rw [hv]
    · cases h
  · next c =>
    split at h
    · next a hv =>
      cases h
      obtain ⟨v, hlg, hg⟩ := hA.2.2.1 _ (lkp_mem hv)
      have hg' := hg
      obtain ⟨o, c0⟩ := a
      have hx : ∃ x, v = .int x := by
        cases o with
        | none => obtain ⟨x, e, -⟩ := hg; exact ⟨x, e⟩
        | some j => obtain ⟨x, m, e, -⟩ := hg; exact ⟨x, e⟩
      obtain ⟨x, rfl⟩ := hx
      refine stp1 (r := (pc + 1, lv, .int x :: st, σ)) (sim_C ?_) rfl (gA_S hA ⟨hg', hA.2.2.2.1⟩) ext.rf hI rfl
      show (match lget lv (c : Nat) with | some (.int x) => _ | _ => none) = _
      rw [hlg]
    · cases h
  · next c =>
    split at h
    · next a hv =>
      cases h
      obtain ⟨v, hlg, hg⟩ := hA.2.2.1 _ (lkp_mem hv)
      have hg' := hg
      obtain ⟨o, c0⟩ := a
      have hx : ∃ x, v = .int x := by
        cases o with
        | none => obtain ⟨x, e, -⟩ := hg; exact ⟨x, e⟩
        | some j => obtain ⟨x, m, e, -⟩ := hg; exact ⟨x, e⟩
      obtain ⟨x, rfl⟩ := hx
      refine stp1 (r := (pc + 2, lv, .int x :: st, σ)) (sim_C ?_) rfl (gA_S hA ⟨hg', hA.2.2.2.1⟩) ext.rf hI rfl
      show (match lget lv c with | some (.int x) => _ | _ => none) = _
      rw [hlg]
    · cases h
  · next c =>
    split at h
    · next  hv =>
      cases h
      obtain ⟨v, hlg, hg⟩ := hA.2.2.1 _ (lkp_mem hv)
      have hg' := hg
      obtain ⟨x, rfl⟩ := hg
      refine stp1 (r := (pc + 1, lv, .long x :: st, σ)) (sim_C ?_) rfl (gA_S hA ⟨hg', hA.2.2.2.1⟩) ext.rf hI rfl
      show (match lget lv (c : Nat) with | some (.long x) => _ | _ => none) = _
      rw [hlg]
    · cases h
  · next c =>
    split at h
    · next  hv =>
      cases h
      obtain ⟨v, hlg, hg⟩ := hA.2.2.1 _ (lkp_mem hv)
      have hg' := hg
      obtain ⟨x, rfl⟩ := hg
      refine stp1 (r := (pc + 2, lv, .long x :: st, σ)) (sim_C ?_) rfl (gA_S hA ⟨hg', hA.2.2.2.1⟩) ext.rf hI rfl
      show (match lget lv c with | some (.long x) => _ | _ => none) = _
      rw [hlg]
    · cases h
  · next c =>
    split at h
    · next a hv =>
      cases h
      obtain ⟨v, hlg, hg⟩ := hA.2.2.1 _ (lkp_mem hv)
      have hg' := hg
      obtain ⟨x, rfl, -⟩ := hg
      refine stp1 (r := (pc + 1, lv, .ref x :: st, σ)) (sim_C ?_) rfl (gA_S hA ⟨hg', hA.2.2.2.1⟩) ext.rf hI rfl
      show (match lget lv (c : Nat) with | some (.ref x) => _ | _ => none) = _
      rw [hlg]
    · cases h
  · next c =>
    split at h
    · next a hv =>
      cases h
      obtain ⟨v, hlg, hg⟩ := hA.2.2.1 _ (lkp_mem hv)
      have hg' := hg
      obtain ⟨x, rfl, -⟩ := hg
      refine stp1 (r := (pc + 2, lv, .ref x :: st, σ)) (sim_C ?_) rfl (gA_S hA ⟨hg', hA.2.2.2.1⟩) ext.rf hI rfl
      show (match lget lv c with | some (.ref x) => _ | _ => none) = _
      rw [hlg]
    · cases h
  · cases h
theorem isL_cat {a : AS} {v : Value} (h : gS KO ν ρs a v) (hl : ¬ isL a = true) : v.category = 1 := by
  match a, h with
  | .inl (none, c), h => obtain ⟨x, rfl, -⟩ := h; rfl
  | .inl (some j, c), h => obtain ⟨x, n, rfl, -⟩ := h; rfl
  | .inr none, h => exact absurd rfl hl
  | .inr (some q), h => obtain ⟨x, rfl, -⟩ := h; rfl
theorem gL_1 {a : AS} {r : List AS} (h : gL KO ν ρs (a :: r) st) : ∃ v vs, st = v :: vs ∧ gS KO ν ρs a v ∧ gL KO ν ρs r vs := by
  match st, h with
  | v :: vs, h => exact ⟨v, vs, rfl, h.1, h.2⟩
theorem gS_int {a : Option Nat × Int} {v : Value} (h : gS KO ν ρs (.inl a) v) : ∃ x, v = .int x := by
  obtain ⟨o, c⟩ := a
  cases o with
  | none => obtain ⟨x, e, -⟩ := h; exact ⟨x, e⟩
  | some j => obtain ⟨x, m, e, -⟩ := h; exact ⟨x, e⟩
theorem aD_ok (hA : gA KO A ν ρs lv st σ) (hI : Inv KD KO σ) (h : aD pc i A = some L) : aStp KD KO ms G k n pc i L ν ρs lv st σ := by
  have hs := hA.2.2.2.1
  unfold aD at h
  split at h
  · split at h
    · next a r e =>
      split at h
      · cases h
      · next hl =>
        cases h
        rw [e] at hs
        obtain ⟨v, vs, rfl, h1, h2⟩ := gL_1 hs
        refine stp1 (r := (pc + 1, lv, v :: v :: vs, σ)) (sim_D rfl rfl (simA_no (fun _ _ => rfl) (fun _ _ => rfl) (fun _ _ => rfl)) rfl rfl rfl ?_) rfl (gA_S hA ⟨h1, h1, h2⟩) ext.rf hI rfl
        show (if v.category = 1 then _ else none) = _
        rw [if_pos (isL_cat h1 hl)]
    · cases h
  · split at h
    · next a r e =>
      split at h
      · cases h
      · next hl =>
        cases h
        rw [e] at hs
        obtain ⟨v, vs, rfl, h1, h2⟩ := gL_1 hs
        refine stp1 (r := (pc + 1, lv, vs, σ)) (sim_D rfl rfl (simA_no (fun _ _ => rfl) (fun _ _ => rfl) (fun _ _ => rfl)) rfl rfl rfl ?_) rfl (gA_S hA h2) ext.rf hI rfl
        show (if v.category = 1 then _ else none) = _
        rw [if_pos (isL_cat h1 hl)]
    · cases h
  · split at h
    · next a b r e =>
      split at h
      · cases h
      · next hl =>
        cases h
        rw [e] at hs
        obtain ⟨v, vs', rfl, h1, h2⟩ := gL_1 hs
        obtain ⟨w, vs, rfl, h3, h4⟩ := gL_1 h2
        refine stp1 (r := (pc + 1, lv, v :: w :: v :: vs, σ)) (sim_D rfl rfl (simA_no (fun _ _ => rfl) (fun _ _ => rfl) (fun _ _ => rfl)) rfl rfl rfl ?_) rfl (gA_S hA ⟨h1, h3, h1, h4⟩) ext.rf hI rfl
        show (if v.category = 1 ∧ w.category = 1 then _ else none) = _
        rw [if_pos ⟨isL_cat h1 (fun q => hl (Or.inl q)), isL_cat h3 (fun q => hl (Or.inr q))⟩]
    · cases h
  · split at h
    · next a b r e =>
      split at h
      · cases h
      · next hl =>
        cases h
        rw [e] at hs
        obtain ⟨v, vs', rfl, h1, h2⟩ := gL_1 hs
        obtain ⟨w, vs, rfl, h3, h4⟩ := gL_1 h2
        refine stp1 (r := (pc + 1, lv, v :: w :: v :: w :: vs, σ)) (sim_D rfl rfl (simA_no (fun _ _ => rfl) (fun _ _ => rfl) (fun _ _ => rfl)) rfl rfl rfl ?_) rfl (gA_S hA ⟨h1, h3, h1, h3, h4⟩) ext.rf hI rfl
        show (if v.category = 1 ∧ w.category = 1 then _ else none) = _
        rw [if_pos ⟨isL_cat h1 (fun q => hl (Or.inl q)), isL_cat h3 (fun q => hl (Or.inr q))⟩]
    · cases h
  · cases h
theorem lget_filter {P : Nat × Value → Bool} {j : Nat} {v : Value} : ∀ {lv : LV}, lget lv j = some v → P (j, v) = true → lget (lv.filter P) j = some v
  | [], h, _ => by cases h
  | q :: r, h, hP => by
    by_cases hq : q.1 = j
    · have h1 : lget (q :: r) j = some q.2 := by unfold lget; rw [List.find?_cons_of_pos (by simpa using hq)]; rfl
      cases h1.symm.trans h
      have : P q = true := by rw [← hq] at hP; exact hP
      rw [List.filter_cons_of_pos this]
      unfold lget
      rw [List.find?_cons_of_pos (by simpa using hq)]
      rfl
    · have h1 : lget (q :: r) j = lget r j := by unfold lget; rw [List.find?_cons_of_neg (by simpa using hq)]
      rw [h1] at h
      have ih := lget_filter h hP
      cases hp : P q with
      | true =>
        rw [List.filter_cons_of_pos hp]
        unfold lget
        rw [List.find?_cons_of_neg (by simpa using hq)]
        exact ih
      | false =>
        rw [List.filter_cons_of_neg (by rw [hp]; exact Bool.false_ne_true)]
        exact ih
theorem lget_new (i : Nat) (v : Value) (l : LV) : lget ((i, v) :: l) i = some v := by
  unfold lget
  rw [List.find?_cons_of_pos (by simp)]
  rfl
theorem lget_old {i j : Nat} (v : Value) {l : LV} {w : Value} (hij : ¬ j = i) (h : lget l j = some w) : lget ((i, v) :: l) j = some w := by
  unfold lget
  rw [List.find?_cons_of_neg (by simpa using fun e => hij e.symm)]
  exact h
theorem gLv_1 {al : List (Nat × AS)} {i : Nat} {a : AS} {v : Value} (h : ∀ q ∈ al, ∃ v, lget lv q.1 = some v ∧ gS KO ν ρs q.2 v) (ha : gS KO ν ρs a v) : ∀ q ∈ aS1 i a al, ∃ v', lget (lS1 i v lv) q.1 = some v' ∧ gS KO ν ρs q.2 v' := by
  intro q hq
  rcases List.mem_cons.mp hq with rfl | hq
  · exact ⟨v, lget_new _ _ _, ha⟩
  · have hm := List.mem_filter.mp hq
    obtain ⟨v', e1, e2⟩ := h q hm.1
    have hp := hm.2
    simp only [Bool.and_eq_true, Bool.not_eq_true', Bool.and_eq_false_iff, beq_eq_false_iff_ne] at hp
    refine ⟨v', lget_old _ hp.1 (lget_filter e1 ?_), e2⟩
    simp only [Bool.and_eq_true, Bool.not_eq_true', Bool.and_eq_false_iff, beq_eq_false_iff_ne]
    refine ⟨hp.1, hp.2.imp id (fun hl => ?_)⟩
    rw [isL_cat e2 (by rw [hl]; exact Bool.false_ne_true)]
    decide
theorem gLv_2 {al : List (Nat × AS)} {i : Nat} {a : AS} {v : Value} (h : ∀ q ∈ al, ∃ v, lget lv q.1 = some v ∧ gS KO ν ρs q.2 v) (ha : gS KO ν ρs a v) : ∀ q ∈ aS2 i a al, ∃ v', lget (lS2 i v lv) q.1 = some v' ∧ gS KO ν ρs q.2 v' := by
  intro q hq
  rcases List.mem_cons.mp hq with rfl | hq
  · exact ⟨v, lget_new _ _ _, ha⟩
  · have hm := List.mem_filter.mp hq
    obtain ⟨v', e1, e2⟩ := h q hm.1
    have hp := hm.2
    simp only [Bool.and_eq_true, Bool.not_eq_true', Bool.and_eq_false_iff, beq_eq_false_iff_ne] at hp
    refine ⟨v', lget_old _ hp.1 (lget_filter e1 ?_), e2⟩
    simp only [Bool.and_eq_true, Bool.not_eq_true', Bool.and_eq_false_iff, beq_eq_false_iff_ne]
    refine ⟨hp.1, hp.2.1, hp.2.2.imp id (fun hl => ?_)⟩
    rw [isL_cat e2 (by rw [hl]; exact Bool.false_ne_true)]
    decide
theorem gA_V (hA : gA KO A ν ρs lv st σ) {al : List (Nat × AS)} {as : List AS} {lv' : LV} {st' : List Value} (h1 : ∀ q ∈ al, ∃ v, lget lv' q.1 = some v ∧ gS KO ν ρs q.2 v) (h2 : gL KO ν ρs as st') : gA KO (sV A al as) ν ρs lv' st' σ := ⟨hA.1, hA.2.1, h1, h2, hA.2.2.2.2⟩
theorem aT_ok (hA : gA KO A ν ρs lv st σ) (hI : Inv KD KO σ) (h : aT n pc i A = some L) : aStp KD KO ms G k n pc i L ν ρs lv st σ := by
  have hs := hA.2.2.2.1
  unfold aT at h
  split at h
  · next c =>
    split at h
    · next a r e =>
      split at h
      · next hc =>
        cases h
        rw [e] at hs
        obtain ⟨v, vs, rfl, h1, h2⟩ := gL_1 hs
        obtain ⟨x, rfl⟩ := gS_int h1
        refine stp1 (r := (pc + 1, lS1 (c : Nat) (.int x) lv, vs, σ)) (sim_S rfl ?_) rfl (gA_V hA (gLv_1 hA.2.2.1 h1) h2) ext.rf hI rfl
        show (if (c : Nat) < n then _ else none) = _
        rw [if_pos hc]
      · cases h
    · cases h
  · next c =>
    split at h
    · next a r e =>
      split at h
      · next hc =>
        cases h
        rw [e] at hs
        obtain ⟨v, vs, rfl, h1, h2⟩ := gL_1 hs
        obtain ⟨x, rfl⟩ := gS_int h1
        refine stp1 (r := (pc + 2, lS1 c (.int x) lv, vs, σ)) (sim_S rfl ?_) rfl (gA_V hA (gLv_1 hA.2.2.1 h1) h2) ext.rf hI rfl
        show (if c < n then _ else none) = _
        rw [if_pos hc]
      · cases h
    · cases h
  · next c =>
    split at h
    · next r e =>
      split at h
      · next hc =>
        cases h
        rw [e] at hs
        obtain ⟨v, vs, rfl, h1, h2⟩ := gL_1 hs
        have h1' := h1
        obtain ⟨x, rfl⟩ := h1
        refine stp1 (r := (pc + 1, lS2 (c : Nat) (.long x) lv, vs, σ)) (sim_S rfl ?_) rfl (gA_V hA (gLv_2 hA.2.2.1 h1') h2) ext.rf hI rfl
        show (if (c : Nat) + 1 < n then _ else none) = _
        rw [if_pos hc]
      · cases h
    · cases h
  · next c =>
    split at h
    · next r e =>
      split at h
      · next hc =>
        cases h
        rw [e] at hs
        obtain ⟨v, vs, rfl, h1, h2⟩ := gL_1 hs
        have h1' := h1
        obtain ⟨x, rfl⟩ := h1
        refine stp1 (r := (pc + 2, lS2 c (.long x) lv, vs, σ)) (sim_S rfl ?_) rfl (gA_V hA (gLv_2 hA.2.2.1 h1') h2) ext.rf hI rfl
        show (if c + 1 < n then _ else none) = _
        rw [if_pos hc]
      · cases h
    · cases h
  · next c =>
    split at h
    · next a r e =>
      split at h
      · next hc =>
        cases h
        rw [e] at hs
        obtain ⟨v, vs, rfl, h1, h2⟩ := gL_1 hs
        have h1' := h1
        obtain ⟨x, rfl, -⟩ := h1
        refine stp1 (r := (pc + 1, lS1 (c : Nat) (.ref x) lv, vs, σ)) (sim_S rfl ?_) rfl (gA_V hA (gLv_1 hA.2.2.1 h1') h2) ext.rf hI rfl
        show (if (c : Nat) < n then _ else none) = _
        rw [if_pos hc]
      · cases h
    · cases h
  · next c =>
    split at h
    · next a r e =>
      split at h
      · next hc =>
        cases h
        rw [e] at hs
        obtain ⟨v, vs, rfl, h1, h2⟩ := gL_1 hs
        have h1' := h1
        obtain ⟨x, rfl, -⟩ := h1
        refine stp1 (r := (pc + 2, lS1 c (.ref x) lv, vs, σ)) (sim_S rfl ?_) rfl (gA_V hA (gLv_1 hA.2.2.1 h1') h2) ext.rf hI rfl
        show (if c < n then _ else none) = _
        rw [if_pos hc]
      · cases h
    · cases h
  · next c d =>
    split at h
    · next a hv =>
      split at h
      · next hc =>
        obtain ⟨v, e1, e2⟩ := hA.2.2.1 _ (lkp_mem hv)
        obtain ⟨x, rfl⟩ := gS_int e2
        have hsim : ∀ B : LV, B = lS1 c (.int (x + Int32.ofInt d)) lv → sim G k n pc (.iinc c d) lv st σ = some (pc + 3, B, st, σ) := by
          intro B hB
          refine sim_S rfl ?_
          show (match lget lv c with | some (.int x) => _ | _ => none) = _
          rw [e1]
          dsimp only
          rw [if_pos hc.1, hB]
        have hd := addC_ok hA.1.2 e2 (i32_of (n := d) (by omega) (by omega))
        split at h
        · next b hb =>
          cases h
          rw [hb] at hd
          exact stp1 (hsim _ rfl) rfl (gA_V hA (gLv_1 hA.2.2.1 hd) hs) ext.rf hI rfl
        · next q hb =>
          cases h
          rw [hb] at hd
          have e := ext.app ν [(x + Int32.ofInt d).toInt]
          have hA' := gA_I hA hd.1 hd.2
          refine stp1 (hsim _ rfl) rfl (gA_V hA' (gLv_1 hA'.2.2.1 ⟨_, _, rfl, ?_, (Int.add_zero _).symm⟩) hA'.2.2.2.1) e hI rfl
          rw [← hA.1.1]
          exact app_last ν _
      · cases h
    · cases h
  · cases h
theorem aU_ok (hA : gA KO A ν ρs lv st σ) (hI : Inv KD KO σ) (h : aU pc i A = some L) : aStp KD KO ms G k n pc i L ν ρs lv st σ := by
  have hs := hA.2.2.2.1
  have hno : ∀ i : Instr, (∀ x y, bI i x y = none) → (∀ x y, bL i x y = none) → (∀ x y, sL i x y = none) → simA pc i lv st σ = none := fun i h1 h2 h3 => simA_no h1 h2 h3
  unfold aU at h
  split at h
  · split at h
    · next a r e =>
      cases h
      rw [e] at hs
      obtain ⟨v, vs, rfl, h1, h2⟩ := gL_1 hs
      obtain ⟨x, rfl⟩ := gS_int h1
      have hb := ivS_ok hA.1.2 h1
      obtain ⟨ν', e1, e2⟩ := gA_P (x := -x) hA h2 (q := .inr (if -2147483647 ≤ (ivS A.1 (.inl a)).1 then (-(ivS A.1 (.inl a)).2, -(ivS A.1 (.inl a)).1) else ivT)) (by
        show _ ≤ _ ∧ _ ≤ _
        split
        · rw [i32_neg (by omega)]; dsimp only; omega
        · exact ivT_ok _)
      exact stp1 (r := (pc + 1, lv, .int (-x) :: vs, σ)) (sim_U rfl rfl (hno _ (fun _ _ => rfl) (fun _ _ => rfl) (fun _ _ => rfl)) rfl rfl rfl) rfl e2 e1 hI rfl
    · cases h
  · split at h
    · next a r e =>
      cases h
      rw [e] at hs
      obtain ⟨v, vs, rfl, h1, h2⟩ := gL_1 hs
      obtain ⟨x, rfl⟩ := gS_int h1
      exact stp1 (r := (pc + 1, lv, .long x.toInt64 :: vs, σ)) (sim_U rfl rfl (hno _ (fun _ _ => rfl) (fun _ _ => rfl) (fun _ _ => rfl)) rfl rfl rfl) rfl (gA_S hA ⟨⟨_, rfl⟩, h2⟩) ext.rf hI rfl
    · cases h
  · split at h
    · next r e =>
      cases h
      rw [e] at hs
      obtain ⟨v, vs, rfl, h1, h2⟩ := gL_1 hs
      obtain ⟨x, rfl⟩ := h1
      obtain ⟨ν', e1, e2⟩ := gA_P (x := x.toInt32) hA h2 (q := .inr ivT) (ivT_ok _)
      exact stp1 (r := (pc + 1, lv, .int x.toInt32 :: vs, σ)) (sim_U rfl rfl (hno _ (fun _ _ => rfl) (fun _ _ => rfl) (fun _ _ => rfl)) rfl rfl rfl) rfl e2 e1 hI rfl
    · cases h
  · split at h
    · next a r e =>
      cases h
      rw [e] at hs
      obtain ⟨v, vs, rfl, h1, h2⟩ := gL_1 hs
      obtain ⟨x, rfl⟩ := gS_int h1
      obtain ⟨ν', e1, e2⟩ := gA_P (x := (x.toUInt32 % 65536).toInt32) hA h2 (q := .inr ivT) (ivT_ok _)
      exact stp1 (r := (pc + 1, lv, .int (x.toUInt32 % 65536).toInt32 :: vs, σ)) (sim_U rfl rfl (hno _ (fun _ _ => rfl) (fun _ _ => rfl) (fun _ _ => rfl)) rfl rfl rfl) rfl e2 e1 hI rfl
    · cases h
  · split at h
    · next r e =>
      cases h
      rw [e] at hs
      obtain ⟨v, vs', rfl, h1, h2⟩ := gL_1 hs
      obtain ⟨w, vs, rfl, h3, h4⟩ := gL_1 h2
      obtain ⟨y, rfl⟩ := h1
      obtain ⟨x, rfl⟩ := h3
      obtain ⟨ν', e1, e2⟩ := gA_P (x := lcm3 x y) hA h4 (q := .inr (-1, 1)) (by
        show _ ≤ _ ∧ _ ≤ _
        unfold lcm3
        split
        · decide
        · split <;> decide)
      exact stp1 (r := (pc + 1, lv, .int (lcm3 x y) :: vs, σ)) (sim_U rfl rfl (hno _ (fun _ _ => rfl) (fun _ _ => rfl) (fun _ _ => rfl)) rfl rfl rfl) rfl e2 e1 hI rfl
    · cases h
  · cases h
theorem bI_no {x y v : Int32} (h : bI i x y = some v) : simC (tbK G k) pc i lv st σ = none ∧ simS n pc i lv st σ = none := by
  unfold bI at h
  split at h <;> first | exact ⟨rfl, rfl⟩ | cases h
theorem aA_ok (hA : gA KO A ν ρs lv st σ) (hI : Inv KD KO σ) (h : aA pc i A = some L) : aStp KD KO ms G k n pc i L ν ρs lv st σ := by
  have hs := hA.2.2.2.1
  unfold aA at h
  split at h
  · next b a r e =>
    split at h
    · next q hq =>
      cases h
      rw [e] at hs
      obtain ⟨v, vs', rfl, h1, h2⟩ := gL_1 hs
      obtain ⟨w, vs, rfl, h3, h4⟩ := gL_1 h2
      obtain ⟨y, rfl⟩ := gS_int h1
      obtain ⟨x, rfl⟩ := gS_int h3
      obtain ⟨z, hz, hr⟩ := opI_ok hA.1.2 h3 h1 hq
      obtain ⟨ν', e1, e2⟩ := gA_P hA h4 hr
      have hno := bI_no (G := G) (k := k) (n := n) (pc := pc) (lv := lv) (st := .int y :: .int x :: vs) (σ := σ) hz
      refine stp1 (r := (pc + 1, lv, .int z :: vs, σ)) (sim_A hno.1 hno.2 ?_) rfl e2 e1 hI rfl
      show (match bI i x y with | some v => _ | none => none) = _
      rw [hz]
    · cases h
  · next r e =>
    split at h
    · next hl =>
      cases h
      rw [e] at hs
      obtain ⟨v, vs', rfl, h1, h2⟩ := gL_1 hs
      obtain ⟨w, vs, rfl, h3, h4⟩ := gL_1 h2
      obtain ⟨y, rfl⟩ := h1
      obtain ⟨x, rfl⟩ := h3
      have key : ∃ z, bL i x y = some z ∧ simC (tbK G k) pc i lv (.long y :: .long x :: vs) σ = none ∧ simS n pc i lv (.long y :: .long x :: vs) σ = none := by
        unfold lOp at hl
        split at hl <;> first | exact ⟨_, rfl, rfl, rfl⟩ | cases hl
      obtain ⟨z, hz, k1, k2⟩ := key
      refine stp1 (r := (pc + 1, lv, .long z :: vs, σ)) (sim_A k1 k2 ?_) rfl (gA_S hA ⟨⟨_, rfl⟩, h4⟩) ext.rf hI rfl
      show (match bL i x y with | some v => _ | none => none) = _
      rw [hz]
    · cases h
  · next a r e =>
    split at h
    · next hl =>
      cases h
      rw [e] at hs
      obtain ⟨v, vs', rfl, h1, h2⟩ := gL_1 hs
      obtain ⟨w, vs, rfl, h3, h4⟩ := gL_1 h2
      obtain ⟨y, rfl⟩ := gS_int h1
      obtain ⟨x, rfl⟩ := h3
      have key : ∃ z, sL i x y = some z ∧ simC (tbK G k) pc i lv (.int y :: .long x :: vs) σ = none ∧ simS n pc i lv (.int y :: .long x :: vs) σ = none := by
        unfold lSh at hl
        split at hl <;> first | exact ⟨_, rfl, rfl, rfl⟩ | cases hl
      obtain ⟨z, hz, k1, k2⟩ := key
      refine stp1 (r := (pc + 1, lv, .long z :: vs, σ)) (sim_A k1 k2 ?_) rfl (gA_S hA ⟨⟨_, rfl⟩, h4⟩) ext.rf hI rfl
      show (match sL i x y with | some v => _ | none => none) = _
      rw [hz]
    · cases h
  · cases h
def rlO (KO : List Nat) (ν : List Int) (ρs : List Nat) (q : RLt) : Prop := ∃ x y : Int32, gS KO ν ρs q.1 (.int x) ∧ gS KO ν ρs q.2.1 (.int y) ∧ x.toInt + q.2.2 ≤ y.toInt
theorem cRl_ok {cd : ClassFile.Cond} {a b : AS} {x y : Int32} (ha : gS KO ν ρs a (.int x)) (hb : gS KO ν ρs b (.int y)) (hc : cI cd x y = true) : ∀ q ∈ cRl cd a b, rlO KO ν ρs q := by
  intro q hq
  unfold cRl at hq
  split at hq
  · cases cd with
    | lt =>
      have hc := of_decide_eq_true hc
      rw [Int32.lt_iff_toInt_lt] at hc
      simp only [List.mem_cons, List.not_mem_nil, or_false] at hq
      subst hq
      exact ⟨x, y, ha, hb, by dsimp only; omega⟩
    | le =>
      have hc := of_decide_eq_true hc
      rw [Int32.le_iff_toInt_le] at hc
      simp only [List.mem_cons, List.not_mem_nil, or_false] at hq
      subst hq
      exact ⟨x, y, ha, hb, by dsimp only; omega⟩
    | gt =>
      have hc := of_decide_eq_true hc
      rw [Int32.lt_iff_toInt_lt] at hc
      simp only [List.mem_cons, List.not_mem_nil, or_false] at hq
      subst hq
      exact ⟨y, x, hb, ha, by dsimp only; omega⟩
    | ge =>
      have hc := of_decide_eq_true hc
      rw [Int32.le_iff_toInt_le] at hc
      simp only [List.mem_cons, List.not_mem_nil, or_false] at hq
      subst hq
      exact ⟨y, x, hb, ha, by dsimp only; omega⟩
    | eq =>
      have hc := of_decide_eq_true hc
      subst hc
      simp only [List.mem_cons, List.not_mem_nil, or_false] at hq
      rcases hq with rfl | rfl
      · exact ⟨x, x, ha, hb, by dsimp only; omega⟩
      · exact ⟨x, x, hb, ha, by dsimp only; omega⟩
    | ne => cases hq
  · cases hq
theorem relC_ok {sy : List IV} (h : hN sy ν) : ∀ (rl : List RLt), (∀ q ∈ rl, rlO KO ν ρs q) → ∀ q ∈ relC sy rl, cOK KO ν ρs q
  | [], _, q, hq => by cases hq
  | p :: r, hr, q, hq => by
    obtain ⟨x, y, h1, h2, h3⟩ := hr p List.mem_cons_self
    have q1 := ivS_ok h.2 h1
    have q2 := ivS_ok h.2 h2
    rcases List.mem_cons.mp hq with rfl | hq
    · exact ⟨x, h1, by show x.toInt ≤ _; dsimp only; omega⟩
    · rcases List.mem_cons.mp hq with rfl | hq
      · exact ⟨y, h2, by show _ ≤ y.toInt; dsimp only; omega⟩
      · exact relC_ok h r (fun p hp => hr p (List.mem_cons_of_mem _ hp)) q hq
theorem aJ_ok (hA : gA KO A ν ρs lv st σ) {r : List AS} {vs : List Value} (hr : gL KO ν ρs r vs) {t : Nat} {cs : List (Bool × AS × Int)} {rl : List RLt} (hc : ∀ q ∈ cs, cOK KO ν ρs q) (hl : ∀ q ∈ rl, rlO KO ν ρs q) : ∃ A', (t, A') ∈ aJ A r t cs rl ∧ gA KO A' ν ρs lv vs σ := by
  obtain ⟨sy, e, hy⟩ := rAll_ok cs A.1 hA.1 hc
  have hrl : ∀ q ∈ rl ++ A.2.2.2.2.2, rlO KO ν ρs q := fun q hq => (List.mem_append.mp hq).elim (hl q) (hA.2.2.2.2.2 q)
  obtain ⟨sy', e', hy'⟩ := rAll_ok (relC sy (rl ++ A.2.2.2.2.2)) sy hy (relC_ok hy _ hrl)
  unfold aJ
  rw [e]
  dsimp only
  rw [e']
  exact ⟨_, List.mem_singleton.mpr rfl, hy', hA.2.1, hA.2.2.1, hr, hA.2.2.2.2.1, hrl⟩
theorem aB_ok (hA : gA KO A ν ρs lv st σ) (hI : Inv KD KO σ) (h : aB pc i A = some L) : aStp KD KO ms G k n pc i L ν ρs lv st σ := by
  have hs := hA.2.2.2.1
  unfold aB at h
  split at h
  · next off =>
    split at h
    · next hc =>
      cases h
      refine stp1 (r := (((pc : Int) + off).toNat, lv, st, σ)) (sim_B rfl rfl (simA_no (fun _ _ => rfl) (fun _ _ => rfl) (fun _ _ => rfl)) ?_) rfl hA ext.rf hI rfl
      show (if 0 ≤ (pc : Int) + off then _ else none) = _
      rw [if_pos hc]
    · cases h
  · next cd off =>
    split at h
    · next a r e =>
      split at h
      · next hc =>
        cases h
        rw [e] at hs
        obtain ⟨v, vs, rfl, h1, h2⟩ := gL_1 hs
        obtain ⟨x, rfl⟩ := gS_int h1
        have h0 : gS KO ν ρs (.inl (none, 0)) (.int 0) := ⟨0, rfl, rfl⟩
        have hsim : ∀ t, t = (if cI cd x 0 = true then ((pc : Int) + off).toNat else pc + 3) → sim G k n pc (.ifCond cd off) lv (.int x :: vs) σ = some (t, lv, vs, σ) := by
          intro t ht
          refine sim_B rfl rfl (simA_no (fun _ _ => rfl) (fun _ _ => rfl) (fun _ _ => rfl)) ?_
          show (if 0 ≤ (pc : Int) + off then _ else none) = _
          rw [if_pos hc, ht]
        cases hb : cI cd x 0 with
        | true =>
          obtain ⟨A', m1, m2⟩ := aJ_ok hA h2 (t := ((pc : Int) + off).toNat) (cN_ok hA.1 h1 h0 hb) (rl := []) (fun q hq => nomatch hq)
          exact ⟨_, hsim _ rfl, A', ν, ρs, by rw [if_pos hb]; exact List.mem_append_left _ m1, m2, ⟨ext.rf, ext.rf⟩, hI, Fr.rf⟩
        | false =>
          have hb' : cI (cNeg cd) x 0 = true := by rw [cNeg_ok, hb]; rfl
          obtain ⟨A', m1, m2⟩ := aJ_ok hA h2 (t := pc + 3) (cN_ok hA.1 h1 h0 hb') (rl := []) (fun q hq => nomatch hq)
          exact ⟨_, hsim _ rfl, A', ν, ρs, by rw [if_neg (by rw [hb]; exact Bool.false_ne_true)]; exact List.mem_append_right _ m1, m2, ⟨ext.rf, ext.rf⟩, hI, Fr.rf⟩
      · cases h
    · cases h
  · next cd off =>
    split at h
    · next b a r e =>
      split at h
      · next hc =>
        cases h
        rw [e] at hs
        obtain ⟨v, vs', rfl, h1, h2⟩ := gL_1 hs
        obtain ⟨w, vs, rfl, h3, h4⟩ := gL_1 h2
        obtain ⟨y, rfl⟩ := gS_int h1
        obtain ⟨x, rfl⟩ := gS_int h3
        have hsim : ∀ t, t = (if cI cd x y = true then ((pc : Int) + off).toNat else pc + 3) → sim G k n pc (.if_icmp cd off) lv (.int y :: .int x :: vs) σ = some (t, lv, vs, σ) := by
          intro t ht
          refine sim_B rfl rfl (simA_no (fun _ _ => rfl) (fun _ _ => rfl) (fun _ _ => rfl)) ?_
          show (if 0 ≤ (pc : Int) + off then _ else none) = _
          rw [if_pos hc, ht]
        cases hb : cI cd x y with
        | true =>
          obtain ⟨A', m1, m2⟩ := aJ_ok hA h4 (t := ((pc : Int) + off).toNat) (cN_ok hA.1 h3 h1 hb) (cRl_ok h3 h1 hb)
          exact ⟨_, hsim _ rfl, A', ν, ρs, by rw [if_pos hb]; exact List.mem_append_left _ m1, m2, ⟨ext.rf, ext.rf⟩, hI, Fr.rf⟩
        | false =>
          have hb' : cI (cNeg cd) x y = true := by rw [cNeg_ok, hb]; rfl
          obtain ⟨A', m1, m2⟩ := aJ_ok hA h4 (t := pc + 3) (cN_ok hA.1 h3 h1 hb') (cRl_ok h3 h1 hb')
          exact ⟨_, hsim _ rfl, A', ν, ρs, by rw [if_neg (by rw [hb]; exact Bool.false_ne_true)]; exact List.mem_append_right _ m1, m2, ⟨ext.rf, ext.rf⟩, hI, Fr.rf⟩
      · cases h
    · cases h
  · next off =>
    split at h
    · next q r e =>
      cases h
      rw [e] at hs
      obtain ⟨v, vs, rfl, h1, h2⟩ := gL_1 hs
      obtain ⟨x, rfl, -⟩ := h1
      exact stp1 (r := (pc + 3, lv, vs, σ)) (sim_B rfl rfl (simA_no (fun _ _ => rfl) (fun _ _ => rfl) (fun _ _ => rfl)) rfl) rfl (gA_S hA h2) ext.rf hI rfl
    · cases h
  · cases h
end Abs
