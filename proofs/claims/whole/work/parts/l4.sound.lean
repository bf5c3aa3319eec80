/-! what the function 'ev' says holds of the machine -/
def CSN (own : String) (idx : Nat) (y : MethodName) (bytes : ByteArray) (maxL : Nat) (ret : Option FieldType) (na : Nat) : Prop := (own, idx, y) ∈ nst ∧ Cond.static y ∈ Big ∧ Cond.initialized y.cls ∈ Big ∧ Cond.code y bytes maxL ret ∈ Big ∧ Cd y na
theorem run_SN {p : Program} {l : Launch} {e : Env} {R : Room} {s : State} {m : MethodId} {args : Array Value} {below : List Frame} {meth : Method} {c : Code} {H : Heap} {locs : List Loc} {cells slots : Nat} {cc : ByteArray} {n : Nat} {ret : Option FieldType} {y0 : MethodName} {D : va_G} {T : List (ClassId × FieldType)} {A : Nat → Prop} {pc : Nat} {ls : Array Slot} {rest st As : List Value} {ws wc : va_W} {y : MethodName} {bytes : ByteArray} {maxL na idx d mc ms : Nat} {rt : Option FieldType} {Qf : (Nat → Prop) → Array Value → State → Outcome → State → Prop}
    (C : Cx p s m args meth c cc n ret y0 D T A) (hM : cM l y bytes maxL rt D T As wc Qf d mc ms) (cv : CSN y0.cls idx y bytes maxL rt na) (hP : va_P D CL ws H) (hD : va_D A ws) (hS : va_S A s.heap H locs) (isC : List Nat) (hC : isC.map (fun i => ws[i]?) = wc.map some) (hnC : va_nd isC = true) (hna : As.length = na) (hz : ls.size = n) (hst : st = As.reverse ++ rest) (hroom : (rest.map fun v => v.category).sum ≤ 8) (hdg : decode cc pc = .ok (.invokestatic idx, 3))
    (hR : (rmd d mc ms).frames + 1 ≤ R.frames ∧ 8 + (maxL + 11) + (rmd d mc ms).locals ≤ R.locals) (hf : cells + mc ≤ R.cells ∧ slots + ms ≤ R.slots) : va_Run p l e R s m args below meth c H locs cells slots mc ms (F0 m pc ls st) rest (Qf (va_A wc H.size) As.toArray) (va_A wc H.size) := by
  have hpre := pre_of (av := As) C hP hD hS isC hC hnC
  obtain ⟨hx, hb, hml, hown, hts, hK, -, -, hSx, -⟩ := C
  obtain ⟨h1, h2, h4, h5, h6⟩ := cv
  have hcw : va_CN R s args y0.cls idx y "GalleryGuards" bytes maxL rt (.code y bytes maxL rt :: Big) (rmd d mc ms) mc ms na := va_cnB na hts (big_sub (fun w hw => by
    rcases List.mem_cons.mp hw with rfl | hw
    · exact h5
    · exact hw)) rfl rfl rfl (hSx.2.2.2.2 _ h1) (hts _ h4) h6 hR
  exact va_runSN (As := As) (rest := rest) ⟨hx, hb, hml, hown, hts⟩ (hM H.size) ⟨hcw, hts _ h2, trivial⟩ ⟨cPre_blind, hpre⟩ rfl hna hz hst (lv_room hroom) hdg hf
def qq (D : va_G) (cs ad : Nat → Nat) (r : Option Value) (σ' : SG) (A : Nat → Prop) : Array Value → State → Outcome → State → Prop := match r with
  | none => qV D (T4 cs) (fun _ : Unit => wM cs ad σ') A
  | some (.int v) => qI D (T4 cs) (fun _ : Unit => v) (fun _ : Unit => wM cs ad σ') A
  | some (.long v) => qL D (T4 cs) (fun _ : Unit => v) (fun _ : Unit => wM cs ad σ') A
  | some (.ref h) => qR D (T4 cs) (fun _ : Unit => ad h) (fun _ : Unit => wM cs ad σ') A
  | some _ => fun _ _ _ _ => False
def QF (D : va_G) (cs ad : Nat → Nat) (below : List Frame) (args : Array Value) (s : State) (A : Nat → Prop) (c' : Nat) (o : OC) (σ' : SG) : State → Prop := match o with
  | .inr r => MQ below (qq D cs ad r σ' A) args s c' (6 * c') A
  | .inl E => vx_MQ below (fun _ _ _ _ => False) (xX D (T4 cs) E (wM cs ad σ') A) args s c' (6 * c') A
/-! what the tables must say -/
def gM (G : TB) : Prop := ∀ k M, tbM G k = some M → plainName M.1.cls = true ∧ M.2.2.1 ≤ 150 ∧ lkOK M.1.cls (tbK G k) ∧ ∀ pc i, tbF G k pc = some i → decode M.2.1 pc = .ok (i, ilen i)
def gC (G : TB) : Prop := ∀ k M ix k' kd na ci M', tbM G k = some M → tbC G k ix = some (k', kd, na, ci) → tbM G k' = some M' →
  (kd = 0 → M'.2.2.2.2 = [] ∧ CV M.1.cls ix M'.1 M'.2.1 M'.2.2.1 M'.2.2.2.1 na ∧ ∃ q, CL[ci]? = some q ∧ q.1 = M'.1.cls) ∧
  (kd = 1 → M'.2.2.2.2 = [] ∧ CS M.1.cls ix M'.1 M'.2.1 M'.2.2.1 M'.2.2.2.1 na) ∧
  (kd = 2 → M'.2.2.2.2 = [] ∧ CSN M.1.cls ix M'.1 M'.2.1 M'.2.2.1 M'.2.2.2.1 na) ∧
  (3 ≤ kd → M'.2.2.2.2 ≠ [] ∧ CSW M.1.cls ix M'.1 M'.2.1 M'.2.2.1 M'.2.2.2.1 M'.2.2.2.2 na)
def gT (G : TB) : Prop := ∀ k M pc E, tbM G k = some M → tbT G k pc = some E → ∃ (ik is ic : Nat) (text : String) (names : List String), Tf M.1.cls ik is ic E text names ∧ names.length ≤ 5 ∧ decode M.2.1 pc = .ok (.new ik, 3) ∧ decode M.2.1 (pc + 3) = .ok (.dup, 1) ∧
  ((decode M.2.1 (pc + 4) = .ok (.ldc is, 2) ∧ decode M.2.1 (pc + 6) = .ok (.invokespecial ic, 3) ∧ decode M.2.1 (pc + 9) = .ok (.athrow, 1)) ∨
   (decode M.2.1 (pc + 4) = .ok (.ldc_w is, 3) ∧ decode M.2.1 (pc + 7) = .ok (.invokespecial ic, 3) ∧ decode M.2.1 (pc + 10) = .ok (.athrow, 1)))
def gH (G : TB) : Prop := ∀ k M pc E h j, tbM G k = some M → tbH G k pc E = some (h, j) → E ∈ cas ∧ ∃ (pre : List ExceptionTableEntry) (x : ExceptionTableEntry) (suf : List ExceptionTableEntry), tableOf M.2.2.2.2 = pre ++ x :: suf ∧ (∀ z ∈ pre, covers z pc = false ∨ (z.catchType ≠ 0 ∧ ∃ nm : String, Cond.classLink M.1.cls z.catchType nm ∈ Big ∧ (E, nm) ∈ ncs)) ∧ covers x pc = true ∧ x.catchType ≠ 0 ∧ Cond.classLink M.1.cls x.catchType E ∈ Big ∧ j < M.2.2.1 ∧ ((∃ j4 : Fin 4, (j4 : Nat) = j ∧ h = x.handlerPc + 1 ∧ decode M.2.1 x.handlerPc = .ok (.astore_n j4, 1)) ∨ (h = x.handlerPc + 2 ∧ decode M.2.1 x.handlerPc = .ok (.astore j, 2)))
def gX (l : Launch) (G : TB) (D : va_G) (cs ad : Nat → Nat) : Prop := ∀ d k M pc lv st σ r, tbM G k = some M → tbX G d k pc lv st σ = some r → ∀ (p : Program) (e : Env) (s : State) (m : MethodId) (args : Array Value) (below : List Frame) (meth : Method) (c : Code) (H : Heap) (locs : List Loc) (ls : Array Slot) (A : Nat → Prop) (mc ms cells slots : Nat) (Q : State → Prop),
  Cx p s m args meth c M.2.1 M.2.2.1 M.2.2.2.1 M.1 D (T4 cs) A → va_P D CL (wM cs ad σ) H → va_D A (wM cs ad σ) → va_S A s.heap H locs → lv_has ls M.2.2.1 (lM ad lv) → cells ≤ mc → slots ≤ ms → Nx p l e (rmd d mc ms) s m args below meth c cells slots Q M.2.2.1 D cs ad A r → W p l e (rmd d mc ms) s m args below meth c H locs cells slots Q (F0 m pc ls (st.map (vM ad)))
section Snd
variable {l : Launch} {G : TB} {D : va_G} {cs ad : Nat → Nat}
theorem sim_ok {p : Program} {e : Env} {R : Room} {s : State} {m : MethodId} {args : Array Value} {below : List Frame} {meth : Method} {c : Code} {H : Heap} {locs : List Loc} {cells slots : Nat} {Q : State → Prop} {cc : ByteArray} {n : Nat} {ret : Option FieldType} {y0 : MethodName} {A : Nat → Prop} {k pc : Nat} {ls : Array Slot} {lv : LV} {st : List Value} {σ : SG} {i : Instr} {r : S4}
    (C : Cx p s m args meth c cc n ret y0 D (T4 cs) A) (hP : va_P D CL (wM cs ad σ) H) (hD : va_D A (wM cs ad σ)) (hS : va_S A s.heap H locs) (hl : lv_has ls n (lM ad lv)) (hdg : decode cc pc = .ok (i, ilen i)) (hK : lkOK y0.cls (tbK G k)) (h : sim G k n pc i lv st σ = some r) (kk : Nx p l e R s m args below meth c cells slots Q n D cs ad A r) : W p l e R s m args below meth c H locs cells slots Q (F0 m pc ls (st.map (vM ad))) := by
  unfold sim at h
  split at h
  · next h1 => cases h; exact simC_ok C hP hD hS hl hdg hK h1 kk
  · split at h
    · next h1 => cases h; exact simS_ok C hP hD hS hl hdg h1 kk
    · split at h
      · next h1 => cases h; exact simA_ok C hP hD hS hl hdg h1 kk
      · split at h
        · next h1 => cases h; exact simB_ok C hP hD hS hl hdg h1 kk
        · split at h
          · next h1 => cases h; exact simH_ok C hP hD hS hl hdg hK h1 kk
          · split at h
            · next h1 => cases h; exact simU_ok C hP hD hS hl hdg h1 kk
            · exact simD_ok C hP hD hS hl hdg h kk
/-- of a body from any place on -/
def BD (l : Launch) (G : TB) (D : va_G) (cs ad : Nat → Nat) (f : Nat) : Prop := ∀ (d k pc : Nat) (lv : LV) (st : List Value) (c : Nat) (σ : SG) (c' : Nat) (o : OC) (σ' : SG) (M : MI), ev G f d k pc lv st c σ = some (c', o, σ') → tbM G k = some M →
  ∀ (p : Program) (e : Env) (s : State) (m : MethodId) (args : Array Value) (below : List Frame) (meth : Method) (code : Code) (H : Heap) (locs : List Loc) (ls : Array Slot) (A : Nat → Prop),
    Cx p s m args meth code M.2.1 M.2.2.1 M.2.2.2.1 M.1 D (T4 cs) A → (∀ E, o = .inl E → ∀ x ∈ code.exceptionTable.toList, False) → (M.2.2.2.2 ≠ [] → code.exceptionTable.toList = tableOf M.2.2.2.2) → va_P D CL (wM cs ad σ) H → va_D A (wM cs ad σ) → va_S A s.heap H locs → lv_has ls M.2.2.1 (lM ad lv) →
    W p l e (rmd d c' (6 * c')) s m args below meth code H locs c (6 * c) (QF D cs ad below args s A c' o σ') (F0 m pc ls (st.map (vM ad)))
/-- of a method -/
theorem kt_ret {f : Nat} (B : BD l G D cs ad f) (hg : gM G) {d k : Nat} {av : List Value} {σ σ' : SG} {c' : Nat} {r : Option Value} {M : MI} (h : ev G f d k 0 (lv_args 0 av) [] 0 σ = some (c', .inr r, σ')) (hM : tbM G k = some M) (hh : M.2.2.2.2 = []) (hn : cats av ≤ M.2.2.1) :
    cM l M.1 M.2.1 M.2.2.1 M.2.2.2.1 D (T4 cs) (av.map (vM ad)) (wM cs ad σ) (qq D cs ad r σ') d c' (6 * c') := by
  refine enterM (hg k M hM).1 (by rw [lg_sl_len]; unfold cats at hn ⊢; rw [vM_sum]; exact hn) (fun p e s m below meth c ls A C hP hD hS hl => ?_)
  rw [lM_args] at hl
  exact B d k 0 _ [] 0 σ c' (.inr r) σ' M h hM p e s m _ below meth c _ [] ls A C (fun E hE => nomatch hE) (fun h0 => absurd hh h0) hP hD hS hl
theorem kt_retW {f : Nat} (B : BD l G D cs ad f) (hg : gM G) {d k : Nat} {av : List Value} {σ σ' : SG} {c' : Nat} {r : Option Value} {M : MI} (h : ev G f d k 0 (lv_args 0 av) [] 0 σ = some (c', .inr r, σ')) (hM : tbM G k = some M) (hn : cats av ≤ M.2.2.1) :
    cMW l M.1 M.2.1 M.2.2.1 M.2.2.2.1 M.2.2.2.2 D (T4 cs) (av.map (vM ad)) (wM cs ad σ) (qq D cs ad r σ') d c' (6 * c') := by
  refine enterW (hg k M hM).1 (by rw [lg_sl_len]; unfold cats at hn ⊢; rw [vM_sum]; exact hn) (fun p e s m below meth c ls A C htab hP hD hS hl => ?_)
  rw [lM_args] at hl
  exact B d k 0 _ [] 0 σ c' (.inr r) σ' M h hM p e s m _ below meth c _ [] ls A C (fun E hE => nomatch hE) (fun _ => htab) hP hD hS hl
theorem kt_thr {f : Nat} (B : BD l G D cs ad f) (hg : gM G) {d k : Nat} {av : List Value} {σ σ' : SG} {c' : Nat} {E : String} {M : MI} (h : ev G f d k 0 (lv_args 0 av) [] 0 σ = some (c', .inl E, σ')) (hM : tbM G k = some M) (hh : M.2.2.2.2 = []) (hn : cats av ≤ M.2.2.1) :
    cX l M.1 M.2.1 M.2.2.1 M.2.2.2.1 D (T4 cs) (av.map (vM ad)) (wM cs ad σ) E (wM cs ad σ') d c' (6 * c') := by
  refine enterX (hg k M hM).1 (by rw [lg_sl_len]; unfold cats at hn ⊢; rw [vM_sum]; exact hn) (fun p e s m below meth c ls A C htab hP hD hS hl => ?_)
  rw [lM_args] at hl
  exact B d k 0 _ [] 0 σ c' (.inl E) σ' M h hM p e s m _ below meth c _ [] ls A C (fun _ _ => htab) (fun h0 => absurd hh h0) hP hD hS hl
/-- the end of a method -/
theorem ret_ok {p : Program} {e : Env} {R : Room} {s : State} {m : MethodId} {args : Array Value} {below : List Frame} {meth : Method} {c : Code} {H : Heap} {locs : List Loc} {cells slots : Nat} {cc : ByteArray} {n : Nat} {ret : Option FieldType} {y0 : MethodName} {A : Nat → Prop} {pc : Nat} {ls : Array Slot} {st : List Value} {σ : SG} {i : Instr} {v : Option Value} {mc ms : Nat}
    (C : Cx p s m args meth c cc n ret y0 D (T4 cs) A) (hP : va_P D CL (wM cs ad σ) H) (hD : va_D A (wM cs ad σ)) (hS : va_S A s.heap H locs) (hdg : decode cc pc = .ok (i, ilen i)) (h : rtn ret i st = some v) (hc : cells ≤ mc) (hs : slots ≤ ms) : W p l e R s m args below meth c H locs cells slots (MQ below (qq D cs ad v σ A) args s mc ms A) (F0 m pc ls (st.map (vM ad))) := by
  unfold rtn at h
  split at h
  · cases h; exact r_vret C hP hD hS () rfl hc hs hdg
  · cases h; exact r_iret C hP hD hS () rfl rfl hc hs hdg
  · split at h
    · next hv =>
      cases h
      refine r_zret C hP hD hS () rfl rfl ?_ hc hs hdg
      rcases hv with rfl | rfl <;> rfl
    · cases h
  · cases h; exact r_lret C hP hD hS () rfl rfl hc hs hdg
  · cases h; exact r_aret C (Or.inl ⟨_, rfl⟩) hP hD hS () rfl rfl hc hs hdg
  · cases h
end Snd
