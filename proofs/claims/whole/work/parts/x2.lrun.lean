/-! the law's own body: runs of plain instructions, calls by what ev says of the methods -/
def ag (xs : Nat → Int32) (i : Nat) (n : Int) : Int32 := xs (nJ i + Int32.ofInt n).toNatClampNeg
def stL (xs : Nat → Int32) (pc : Nat) (i : Instr) (lv : LV) (st : List Value) : Option (Nat × LV × List Value × List Int32) := match i with
  | .iconst n => some (pc + 1, lv, .int (Int32.ofInt n) :: st, [])
  | .bipush n => some (pc + 2, lv, .int (Int8.ofInt n).toInt32 :: st, [])
  | .iload n => match lget lv n with
    | some (.int x) => some (pc + 2, lv, .int x :: st, [])
    | _ => none
  | .lload n => match lget lv n with
    | some (.long x) => some (pc + 2, lv, .long x :: st, [])
    | _ => none
  | .aload_n n => match lget lv (n : Nat) with
    | some (.ref x) => some (pc + 1, lv, .ref x :: st, [])
    | _ => none
  | .istore n => match st with
    | .int x :: r => if n < 8 then some (pc + 2, lS1 n (.int x) lv, r, []) else none
    | _ => none
  | .lstore n => match st with
    | .long x :: r => if n + 1 < 8 then some (pc + 2, lS2 n (.long x) lv, r, []) else none
    | _ => none
  | .iadd => match st with
    | .int y :: .int x :: r => some (pc + 1, lv, .int (x + y) :: r, [])
    | _ => none
  | .i2l => match st with
    | .int x :: r => some (pc + 1, lv, .long x.toInt64 :: r, [])
    | _ => none
  | .pop => match st with
    | .int _ :: r => some (pc + 1, lv, r, [])
    | _ => none
  | .goto off => if 0 ≤ (pc : Int) + off then some (((pc : Int) + off).toNat, lv, st, []) else none
  | .iaload => match st with
    | .int j :: .ref 250 :: r => some (pc + 1, lv, .int (xs j.toNatClampNeg) :: r, [j])
    | _ => none
  | _ => none
def rnL (xs : Nat → Int32) (cd : List (Nat × Instr)) : Nat → Nat → LV → List Value → Option (Nat × LV × List Value × List Int32)
  | 0, pc, lv, st => some (pc, lv, st, [])
  | n + 1, pc, lv, st => match lkp cd pc with
    | some i => match stL xs pc i lv st with
      | some r => match rnL xs cd n r.1 r.2.1 r.2.2.1 with
        | some q => some (q.1, q.2.1, q.2.2.1, r.2.2.2 ++ q.2.2.2)
        | none => none
      | none => none
    | none => none
/-- the law at a place, whatever heap and locals stand for the picture -/
def GL (p : Program) (l : Launch) (e : Env) (s : State) (m : MethodId) (below : List Frame) (meth : Method) (c : Code) (b : Nat) (D : va_G) (cs : Nat → ClassId) (ad : Nat → Nat) (A : Nat → Prop) (σ : SG) (cells slots pc : Nat) (lv : LV) (st : List Value) : Prop :=
  ∀ (H : Heap) (locs : List Loc) (ls : Array Slot), va_P D CL (wM cs ad σ) H → va_D A (wM cs ad σ) → va_S A s.heap H locs → lv_has ls 8 (lM ad lv) → W p l e room_1 s m #[Value.ref b] below meth c H locs cells slots (lw_Z below #[Value.ref b] s) (F0 m pc ls (st.map (vM ad)))
/-- what holds throughout the law: its frame, the script at the handle 250, the texts, no stack traces -/
def LX (p : Program) (l : Launch) (s : State) (m : MethodId) (meth : Method) (c : Code) (b L : Nat) (xs : Nat → Int32) (D : va_G) (cs : Nat → ClassId) (ad : Nat → Nat) (A : Nat → Prop) : Prop := Cx p s m #[Value.ref b] meth c code 8 ret x D (T4 cs) A ∧ va_X b L xs s s.heap ∧ b < s.heap.size ∧ l.stackTraces = false ∧ (∀ q, A q → s.heap.size ≤ q) ∧ ad 250 = b ∧ ∀ j, ad (sb + j) = D.2 1000 j
section LawRun
variable {p : Program} {l : Launch} {e : Env} {s : State} {m : MethodId} {below : List Frame} {meth : Method} {c : Code} {b L : Nat} {xs : Nat → Int32} {D : va_G} {cs : Nat → ClassId} {ad : Nat → Nat} {A : Nat → Prop}
theorem gl_st (K : LX p l s m meth c b L xs D cs ad A) {σ : SG} {cells slots pc : Nat} {lv : LV} {st : List Value} {i : Instr} {r : Nat × LV × List Value × List Int32} (hdg : decode code pc = .ok (i, ilen i)) (h : stL xs pc i lv st = some r) (hob : ∀ j ∈ r.2.2.2, inN j L = true) (k : GL p l e s m below meth c b D cs ad A σ cells slots r.1 r.2.1 r.2.2.1) : GL p l e s m below meth c b D cs ad A σ cells slots pc lv st := by
  intro H locs ls hP hD hS hl
  obtain ⟨C, hX, hbl, -, hAA, hb0, -⟩ := K
  have hx := C.1
  have hb := C.2.1
  have hbA : ¬ A b := fun h => absurd (hAA b h) (Nat.not_le.mpr hbl)
  unfold stL at h
  split at h
  · cases h; exact lv_iconst hx hb hdg rfl (k H locs ls hP hD hS hl)
  · cases h; exact lv_bipush hx hb hdg rfl (k H locs ls hP hD hS hl)
  · split at h
    · next v hv => cases h; exact lv_iload hx hb hdg (lget_at hl hv) (k H locs ls hP hD hS hl)
    · cases h
  · split at h
    · next v hv => cases h; exact lv_lload hx hb hdg (lget_at hl hv) (k H locs ls hP hD hS hl)
    · cases h
  · split at h
    · next v hv => cases h; exact lv_aload_n hx hb hdg rfl (lget_at hl hv) (k H locs ls hP hD hS hl)
    · cases h
  · split at h
    · split at h
      · next hc => cases h; exact lv_istore hx hb hdg hl hc (lM_S1 ad _ (.int _) lv).symm (fun ls' hl' => k H locs ls' hP hD hS hl')
      · cases h
    · cases h
  · split at h
    · split at h
      · next hc => cases h; exact lv_lstore hx hb hdg hl hc (lM_S2 ad _ (.long _) lv).symm (fun ls' hl' => k H locs ls' hP hD hS hl')
      · cases h
    · cases h
  · split at h
    · cases h; exact lv_iadd hx hb hdg (k H locs ls hP hD hS hl)
    · cases h
  · split at h
    · cases h; exact lv_i2l hx hb hdg rfl (k H locs ls hP hD hS hl)
    · cases h
  · split at h
    · cases h; exact lv_pop hx hb hdg rfl (k H locs ls hP hD hS hl)
    · cases h
  · split at h
    · next hc => cases h; exact lv_goto hx hb hdg (Int.toNat_of_nonneg hc).symm (k H locs ls hP hD hS hl)
    · cases h
  · split at h
    · next j r0 =>
      cases h
      have hj := hob j (List.mem_singleton.mpr rfl)
      have e1 : (Value.int j :: Value.ref 250 :: r0).map (vM ad) = .int j :: .ref b :: r0.map (vM ad) := by
        show Value.int j :: Value.ref (ad 250) :: _ = _
        rw [hb0]
      rw [e1]
      exact va_sld hx hb hX hbl hbA hS (inN_in hj) hdg (k H locs ls hP hD hS hl)
    · cases h
  · cases h
theorem gl_run (K : LX p l s m meth c b L xs D cs ad A) {σ : SG} {cells slots : Nat} {cd : List (Nat × Instr)} (hcd : dOK code cd) (n : Nat) : ∀ {pc : Nat} {lv : LV} {st : List Value} {pc' : Nat} {lv' : LV} {st' : List Value} {ob : List Int32}, rnL xs cd n pc lv st = some (pc', lv', st', ob) → (∀ j ∈ ob, inN j L = true) → GL p l e s m below meth c b D cs ad A σ cells slots pc' lv' st' → GL p l e s m below meth c b D cs ad A σ cells slots pc lv st := by
  induction n with
  | zero => intro pc lv st pc' lv' st' ob h _ k; cases h; exact k
  | succ n ih =>
    intro pc lv st pc' lv' st' ob h hob k
    unfold rnL at h
    split at h
    · next i hi =>
      split at h
      · next r hr =>
        split at h
        · next q hq =>
          cases h
          exact gl_st K (dOK_lk hcd hi) hr (fun j hj => hob j (List.mem_append_left _ hj)) (ih hq (fun j hj => hob j (List.mem_append_right _ hj)) k)
        · cases h
      · cases h
    · cases h
theorem gl_lv {σ : SG} {cells slots pc : Nat} {lv lv' : LV} {st : List Value} (h : ∀ q ∈ lv', q ∈ lv) (k : GL p l e s m below meth c b D cs ad A σ cells slots pc lv' st) : GL p l e s m below meth c b D cs ad A σ cells slots pc lv st := by
  intro H locs ls hP hD hS hl
  refine k H locs ls hP hD hS ⟨hl.1, hl.2.1, fun q hq => hl.2.2 q ?_⟩
  obtain ⟨q0, h0, rfl⟩ := List.mem_map.mp hq
  exact List.mem_map.mpr ⟨q0, h q0 h0, rfl⟩
theorem gl_wide {σ : SG} {cells slots k n pc : Nat} {lv : LV} {st : List Value} (hc : cells ≤ k) (hs : slots ≤ n) (h : GL p l e s m below meth c b D cs ad A σ k n pc lv st) : GL p l e s m below meth c b D cs ad A σ cells slots pc lv st := fun H locs ls hP hD hS hl => W.widen hc hs (h H locs ls hP hD hS hl)
theorem rm_law {d c2 n : Nat} (hd : d ≤ 99) (hn : n ≤ 150) : (rmd d c2 (6 * c2)).frames + 1 ≤ room_1.frames ∧ 8 + (n + 11) + (rmd d c2 (6 * c2)).locals ≤ room_1.locals := by
  have h1 : room_1.frames = 2048 := rfl
  have h2 : room_1.locals = 84000 := rfl
  rw [h1, h2]
  simp only [rmd]
  omega
/-- a call of an object's method -/
theorem gl_V (K : LX p l s m meth c b L xs D cs ad A) {σ σ2 : SG} {cells slots pc k' ix na ci h f d c2 : Nat} {lv : LV} {As rest : List Value} {M' : MI} {r : Option Value} {q : vw_C} (hdg : decode code pc = .ok (.invokevirtual ix, 3)) (hM' : tbM G0 k' = some M') (hh : M'.2.2.2.2 = []) (cv : CV "GalleryGuardsLaw" ix M'.1 M'.2.1 M'.2.2.1 M'.2.2.2.1 na) (hna : As.length = na) (hq : CL[ci]? = some q) (hqc : q.1 = M'.1.cls) (h8 : cats rest ≤ 8) (hn : cats (.ref h :: As) ≤ M'.2.2.1) (hσ : ∃ fs, σ[h]? = some (.inr (ci, fs))) (hd : d ≤ 99)
    (hev : ev G0 f d k' 0 (lv_args 0 (.ref h :: As)) [] 0 σ = some (c2, .inr r, σ2)) (hcc : cells + c2 ≤ 601024) (hss : slots + 6 * c2 ≤ 7293034) (k : GL p l e s m below meth c b D cs ad A σ2 (cells + c2) (slots + 6 * c2) (pc + 3) lv (psh r rest)) : GL p l e s m below meth c b D cs ad A σ cells slots pc lv (As.reverse ++ .ref h :: rest) := by
  intro H locs ls hP hD hS hl
  obtain ⟨C, hX, hbl, hlt, hAA, hb0, hAd⟩ := K
  obtain ⟨fs, hσ⟩ := hσ
  have B := G0_ok (l := l) (cs := cs) hAd hlt f
  have hn' := (nt_gM (X := XX) k' M' hM').2.1
  have hroom : ((rest.map (vM ad)).map fun v => v.category).sum ≤ 8 := by rw [vM_sum]; exact h8
  have hr := run_V (As := As.map (vM ad)) (b := ad h) (rest := rest.map (vM ad)) (l := l) (e := e) (below := below) (cells := cells) (slots := slots) (R := room_1) (st := (As.reverse ++ .ref h :: rest).map (vM ad)) (pc := pc) (locs := locs) C (kt_ret B nt_gM hev hM' hh hn) cv hP hD hS (List.range (wM cs ad σ).length) (range_get _) (va_nd_range _) h (wM_get hσ) hq hqc (by rw [List.length_map]; exact hna) hl.1 (by rw [List.map_append, List.map_cons, List.map_reverse]; rfl) hroom hdg (rm_law hd hn') ⟨hcc, hss⟩
  exact back_ok C hP hD hS hr (fun H1 locs1 h1 h2 h3 => k H1 locs1 ls h1 h2 h3 hl)
/-- a call of one of the law's own methods, which have handlers -/
theorem gl_S (K : LX p l s m meth c b L xs D cs ad A) {σ σ2 : SG} {cells slots pc k' ix na f d c2 : Nat} {lv : LV} {As rest : List Value} {M' : MI} {r : Option Value} (hdg : decode code pc = .ok (.invokestatic ix, 3)) (hM' : tbM G0 k' = some M') (cv : CSW "GalleryGuardsLaw" ix M'.1 M'.2.1 M'.2.2.1 M'.2.2.2.1 M'.2.2.2.2 na) (hna : As.length = na) (h8 : cats rest ≤ 8) (hn : cats As ≤ M'.2.2.1) (hd : d ≤ 99)
    (hev : ev G0 f d k' 0 (lv_args 0 As) [] 0 σ = some (c2, .inr r, σ2)) (hcc : cells + c2 ≤ 601024) (hss : slots + 6 * c2 ≤ 7293034) (k : GL p l e s m below meth c b D cs ad A σ2 (cells + c2) (slots + 6 * c2) (pc + 3) lv (psh r rest)) : GL p l e s m below meth c b D cs ad A σ cells slots pc lv (As.reverse ++ rest) := by
  intro H locs ls hP hD hS hl
  obtain ⟨C, hX, hbl, hlt, hAA, hb0, hAd⟩ := K
  have B := G0_ok (l := l) (cs := cs) hAd hlt f
  have hn' := (nt_gM (X := XX) k' M' hM').2.1
  have hroom : ((rest.map (vM ad)).map fun v => v.category).sum ≤ 8 := by rw [vM_sum]; exact h8
  have hr := run_SW (As := As.map (vM ad)) (rest := rest.map (vM ad)) (l := l) (e := e) (below := below) (cells := cells) (slots := slots) (R := room_1) (st := (As.reverse ++ rest).map (vM ad)) (pc := pc) (locs := locs) C (kt_retW B nt_gM hev hM' hn) cv hP hD hS (List.range (wM cs ad σ).length) (range_get _) (va_nd_range _) (by rw [List.length_map]; exact hna) hl.1 (by rw [List.map_append, List.map_reverse]) hroom hdg (rm_law hd hn') ⟨hcc, hss⟩
  exact back_ok C hP hD hS hr (fun H1 locs1 h1 h2 h3 => k H1 locs1 ls h1 h2 h3 hl)
/-- two ints alike: the branch is taken -/
theorem gl_eq (K : LX p l s m meth c b L xs D cs ad A) {σ : SG} {cells slots pc tgt : Nat} {lv : LV} {rest : List Value} {v w : Int32} {off : Int} (hdg : decode code pc = .ok (.if_icmp .eq off, 3)) (ht : (pc : Int) + off = (tgt : Int)) (hv : v = w) (k : GL p l e s m below meth c b D cs ad A σ cells slots tgt lv rest) : GL p l e s m below meth c b D cs ad A σ cells slots pc lv (.int w :: .int v :: rest) := by
  intro H locs ls hP hD hS hl
  exact lv_icmp_eq K.1.1 K.1.2.1 hdg ht (fun _ => k H locs ls hP hD hS hl) (fun h => absurd hv h)
theorem ob_ok {i : Nat} {L : Nat} (h : i + 6 ≤ L) (hL : L ≤ 3072) (n : Int) (hn : 0 ≤ n ∧ n ≤ 5) : inN (nJ i + Int32.ofInt n) L = true := by
  apply inB_ok
  have e1 : (Int32.ofInt n).toInt = n := i32_of (by omega) (by omega)
  have e2 : (nJ i).toInt = i := nJ_toInt (by omega)
  have e3 : (nJ i + Int32.ofInt n).toInt = i + n := by rw [iadd_t (by omega) (by omega), e1, e2]
  unfold inB
  rw [e3]
  omega
end LawRun
