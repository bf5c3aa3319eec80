/-! rows in the packaging of part 05: a field, a new cell, an array, a return, a call, a throw -/
def Kc (ci : Nat) (C : String) (Tt : u_T) (N : Nat) (ty0 : Nat → FieldType) : Prop := CL[ci]? = some (C, Tt, N) ∧ (∀ w ∈ u_ws C Tt N, w ∈ Big) ∧ (∀ k, k < N → parseFieldDescriptor (Tt k).2.2.1 = some (ty0 k)) ∧ ∀ a, a < N → ∀ b, b < N → a ≠ b → (Tt a).2.1 ≠ (Tt b).2.1
/-- a field by its place in a class's pool: the field k of class ci, its type, whether it is final, whether the class itself declares it -/
def Fg (own : String) (idx ci k : Nat) (ty : FieldType) (fin dec : Bool) : Prop := ∃ (C : String) (Tt : u_T) (N : Nat) (ty0 : Nat → FieldType), Kc ci C Tt N ty0 ∧ k < N ∧ Cond.fieldLink own idx (Tt k).1 (Tt k).2.1 (Tt k).2.2.1 ∈ Big ∧ parseFieldDescriptor (Tt k).2.2.1 = some ty ∧ (Tt k).2.2.2 = fin ∧ (dec = true → (Tt k).1 = own)
def Nw (own : String) (idx ci N : Nat) (fs : List Value) : Prop := ∃ (C : String) (Tt : u_T) (ty0 : Nat → FieldType), Kc ci C Tt N ty0 ∧ Cond.classLink own idx C ∈ Big ∧ Cond.instantiable C N ∈ Big ∧ Cond.initialized C ∈ Big ∧ ∀ j, j < N → defaultValue (ty0 j) = vp_V fs j
def Cd (y : MethodName) (na : Nat) : Prop := y.cls ≠ "java/lang/invoke/MethodHandle" ∧ y.cls ≠ "java/lang/invoke/VarHandle" ∧ (parseMethodDescriptor y.desc).map (fun d => d.parameters.length) = some na
def CV (own : String) (idx : Nat) (y : MethodName) (bytes : ByteArray) (maxL : Nat) (ret : Option FieldType) (na : Nat) : Prop := Cond.methodLink own idx y ∈ Big ∧ Cond.instanceMethod y ∈ Big ∧ Cond.selects y.cls y y ∈ Big ∧ Cond.initialized y.cls ∈ Big ∧ Cond.code y bytes maxL ret ∈ Big ∧ Cd y na
def CI (own : String) (idx : Nat) (y : MethodName) (bytes : ByteArray) (maxL : Nat) (na : Nat) : Prop := Cond.methodLink own idx y ∈ Big ∧ Cond.instanceMethod y ∈ Big ∧ Cond.initialized y.cls ∈ Big ∧ Cond.code y bytes maxL none ∈ Big ∧ y.name = "<init>" ∧ Cd y na
def CIN (own : String) (idx : Nat) (y : MethodName) (bytes : ByteArray) (maxL : Nat) (na : Nat) : Prop := (own, idx, y) ∈ nst ∧ Cond.instanceMethod y ∈ Big ∧ Cond.initialized y.cls ∈ Big ∧ Cond.code y bytes maxL none ∈ Big ∧ y.name = "<init>" ∧ Cd y na
def CS (own : String) (idx : Nat) (y : MethodName) (bytes : ByteArray) (maxL : Nat) (ret : Option FieldType) (na : Nat) : Prop := Cond.methodLink own idx y ∈ Big ∧ Cond.static y ∈ Big ∧ Cond.initialized y.cls ∈ Big ∧ Cond.code y bytes maxL ret ∈ Big ∧ Cd y na
def CSW (own : String) (idx : Nat) (y : MethodName) (bytes : ByteArray) (maxL : Nat) (ret : Option FieldType) (hh : List (Nat × Nat × Nat × Nat)) (na : Nat) : Prop := Cond.methodLink own idx y ∈ Big ∧ Cond.static y ∈ Big ∧ Cond.initialized y.cls ∈ Big ∧ Cond.codeWith y bytes maxL ret hh ∈ Big ∧ Cd y na
/-- 'throw new cls(text)' by its places in the pool -/
def Tf (own : String) (ik is ic : Nat) (cls text : String) (names : List String) : Prop := Bundle.fit cls = true ∧ (∀ n ∈ names, Bundle.fit n = true) ∧ Cond.classLink own ik cls ∈ Big ∧ Cond.initialized cls ∈ Big ∧ (own, is, text) ∈ strs ∧ ∀ w ∈ vx_atS own ic cls names, w ∈ Big ∨ w ∈ odd
theorem sub_of {α β : Type} (f : α → Option β) (is : List α) (w : List β) (h : is.map f = w.map some) : is.filterMap f = w := by
  have h1 : is.filterMap f = (is.map f).filterMap id := by rw [List.filterMap_map]; rfl
  rw [h1, h, List.filterMap_map]
  show w.filterMap (fun x => some x) = w
  induction w with
  | nil => rfl
  | cons x r ih => simp
section Rows
variable {p : Program} {l : Launch} {e : Env} {R : Room} {s : State} {m : MethodId} {args : Array Value} {below : List Frame} {meth : Method} {c : Code} {H : Heap} {locs : List Loc} {cells slots : Nat} {Q : State → Prop}
variable {cc : ByteArray} {n : Nat} {ret : Option FieldType} {y0 : MethodName} {D : va_G} {T : List (ClassId × FieldType)} {A : Nat → Prop} {pc : Nat} {ls : Array Slot} {rest st : List Value} {ws wc wr : va_W} {a : Nat}
theorem r_get (C : Cx p s m args meth c cc n ret y0 D T A) (hP : va_P D CL ws H) (q0 : Nat) {idx ci k : Nat} {fs : List Value} (he : ws[q0]? = some (a, .inr (ci, fs))) {ty : FieldType} {fin dec : Bool} (F : Fg y0.cls idx ci k ty fin dec) {v : Value} (hv : fs[k]? = some v) (hdg : decode cc pc = .ok (.getfield idx, 3))
    (kk : W p l e R s m args below meth c H locs cells slots Q (F0 m (pc + 3) ls (v :: rest))) : W p l e R s m args below meth c H locs cells slots Q (F0 m pc ls (.ref a :: rest)) := by
  obtain ⟨hx, hb, -, hown, hts, hK, -⟩ := C
  obtain ⟨Cn, Tt, N, ty0, ⟨hc, hin, -, -⟩, hk, hl, -⟩ := F
  exact va_get hx hb hts hin hown hK hP q0 he hc k hk (hts _ hl) (fun _ h => h) hv hdg kk
theorem r_put (C : Cx p s m args meth c cc n ret y0 D T A) (hP : va_P D CL ws H) (hD : va_D A ws) (hS : va_S A s.heap H locs) (q0 : Nat) {idx ci k : Nat} {fs : List Value} (he : ws[q0]? = some (a, .inr (ci, fs))) {ty : FieldType} {dec : Bool} (F : Fg y0.cls idx ci k ty false dec) {v : Value} (hn : narrow ty v = v) (hf : fits ty v = true) (hl : k < fs.length) (hdg : decode cc pc = .ok (.putfield idx, 3)) (ws' : va_W) (hw : ws.set q0 (a, .inr (ci, fs.set k v)) = ws')
    (kk : ∀ (H1 : Heap) (locs1 : List Loc), va_P D CL ws' H1 → va_D A ws' → va_S A s.heap H1 locs1 → W p l e R s m args below meth c H1 locs1 cells slots Q (F0 m (pc + 3) ls rest)) : W p l e R s m args below meth c H locs cells slots Q (F0 m pc ls (v :: .ref a :: rest)) := by
  obtain ⟨hx, hb, -, hown, hts, hK, -⟩ := C
  obtain ⟨Cn, Tt, N, ty0, ⟨hc, hin, hty, hnm⟩, hk, hlk, hd, hfin, -⟩ := F
  subst hw
  exact va_put hx hb hts hin ty0 hty hnm hown hK hP hD hS q0 he hc k hk (hts _ hlk) (fun _ h => h) hfin hd hn hf hl hdg kk
theorem r_putF (C : Cx p s m args meth c cc n ret y0 D T A) (hi : y0.name = "<init>") (hP : va_P D CL ws H) (hD : va_D A ws) (hS : va_S A s.heap H locs) (q0 : Nat) {idx ci k : Nat} {fs : List Value} (he : ws[q0]? = some (a, .inr (ci, fs))) {ty : FieldType} (F : Fg y0.cls idx ci k ty true true) {v : Value} (hn : narrow ty v = v) (hf : fits ty v = true) (hl : k < fs.length) (hdg : decode cc pc = .ok (.putfield idx, 3)) (ws' : va_W) (hw : ws.set q0 (a, .inr (ci, fs.set k v)) = ws')
    (kk : ∀ (H1 : Heap) (locs1 : List Loc), va_P D CL ws' H1 → va_D A ws' → va_S A s.heap H1 locs1 → W p l e R s m args below meth c H1 locs1 cells slots Q (F0 m (pc + 3) ls rest)) : W p l e R s m args below meth c H locs cells slots Q (F0 m pc ls (v :: .ref a :: rest)) := by
  obtain ⟨hx, hb, -, hown, hts, hK, -, -, -, -, -, hnm0⟩ := C
  obtain ⟨Cn, Tt, N, ty0, ⟨hc, hin, hty, hnm⟩, hk, hlk, hd, hfin, hdec⟩ := F
  subst hw
  exact va_putF hx hb hts hin ty0 hty hnm hown hK hP hD hS q0 he hc k hk (hts _ hlk) (fun _ h => h) hfin (hnm0 hi) (hdec rfl) hd hn hf hl hdg kk
theorem r_new (C : Cx p s m args meth c cc n ret y0 D T A) (hP : va_P D CL ws H) (hD : va_D A ws) (hS : va_S A s.heap H locs) {idx ci N : Nat} {fs : List Value} (F : Nw y0.cls idx ci N fs) (hcells : cells + 1 ≤ R.cells) (hslots : slots + N ≤ R.slots) (hdg : decode cc pc = .ok (.new idx, 3))
    (kk : ∀ (q : Nat) (H1 : Heap), va_P D CL (ws ++ [(q, .inr (ci, fs))]) H1 → va_D A (ws ++ [(q, .inr (ci, fs))]) → va_S A s.heap H1 locs → W p l e R s m args below meth c H1 locs (cells + 1) (slots + N) Q (F0 m (pc + 3) ls (.ref q :: rest))) : W p l e R s m args below meth c H locs cells slots Q (F0 m pc ls rest) := by
  obtain ⟨hx, hb, -, hown, hts, hK, hA, -⟩ := C
  obtain ⟨Cn, Tt, ty0, ⟨hc, hin, hty, -⟩, hcl, hins, hini, hfs⟩ := F
  exact va_new hx hb hts hin ty0 hty hown (hts _ hcl) (hts _ hins) (hts _ hini) hK hP hD hS hA hc hfs hcells hslots hdg kk
theorem ra_inj {U : State} {c1 c2 : ClassId} {atype : ArrayType} (h1 : va_RA U c1 (newarray.typeOf atype)) (h2 : va_RA U c2 (newarray.typeOf atype)) : c1 = c2 := by
  cases atype <;> exact Option.some.inj (Eq.trans (Eq.symm h1) h2)
theorem r_newa (C : Cx p s m args meth c cc n ret y0 D T A) (hP : va_P D CL ws H) (hD : va_D A ws) (hS : va_S A s.heap H locs) {atype : ArrayType} {ty : FieldType} (hat : Cond.arrayClass (newarray.typeOf atype) ∈ Big) (hty : newarray.typeOf atype = ty) (t0 : Nat) {cA : ClassId} (ht : T[t0]? = some (cA, ty)) {k : Int32} {N' : Nat} {a0 : vp_A} (ha : ∀ cA : ClassId, vp_cell cA a0 = arrV cA N' (fun _ => defaultValue ty)) (hn : ¬ k < 0) (hN : k.toNatClampNeg = N') (hbytes : N' * componentBytes ty ≤ 536870912) (hcells : cells + 1 ≤ R.cells) (hslots : slots + N' ≤ R.slots) (hdg : decode cc pc = .ok (.newarray atype, 2))
    (kk : ∀ (q : Nat) (H1 : Heap), va_P D CL (ws ++ [(q, .inl (cA, a0))]) H1 → va_D A (ws ++ [(q, .inl (cA, a0))]) → va_S A s.heap H1 locs → W p l e R s m args below meth c H1 locs (cells + 1) (slots + N') Q (F0 m (pc + 2) ls (.ref q :: rest))) : W p l e R s m args below meth c H locs cells slots Q (F0 m pc ls (.int k :: rest)) := by
  obtain ⟨hx, hb, -, hown, hts, hK, hA, -⟩ := C
  refine va_newa hx hb (hts _ hat) hty hK hP hD hS hA ha hn hN hbytes hcells hslots hdg (fun q cB H1 hK1 hP1 hD1 hS1 => ?_)
  have e1 : va_RA s cB ty := (hK1.2 T.length (cB, ty) (by rw [List.getElem?_append_right (Nat.le_refl _), Nat.sub_self]; rfl)).2
  have e2 : va_RA s cA ty := (hK.2 t0 _ ht).2
  subst hty
  have e3 := ra_inj e1 e2
  subst e3
  exact kk q H1 hP1 hD1 hS1
theorem nd_range (k : Nat) : va_nd (List.range k) = true ∨ True := Or.inr trivial
/-- a new array that nobody will read -/
theorem r_newaF (C : Cx p s m args meth c cc n ret y0 D T A) (hP : va_P D CL ws H) (hD : va_D A ws) (hS : va_S A s.heap H locs) {atype : ArrayType} {ty : FieldType} (hat : Cond.arrayClass (newarray.typeOf atype) ∈ Big) (hty : newarray.typeOf atype = ty) {k : Int32} {N' : Nat} {a0 : vp_A} (ha : ∀ cA : ClassId, vp_cell cA a0 = arrV cA N' (fun _ => defaultValue ty)) (hn : ¬ k < 0) (hN : k.toNatClampNeg = N') (hbytes : N' * componentBytes ty ≤ 536870912) (hcells : cells + 1 ≤ R.cells) (hslots : slots + N' ≤ R.slots) (hdg : decode cc pc = .ok (.newarray atype, 2))
    (kk : ∀ (q : Nat) (H1 : Heap), va_P D CL ws H1 → va_S A s.heap H1 locs → W p l e R s m args below meth c H1 locs (cells + 1) (slots + N') Q (F0 m (pc + 2) ls (.ref q :: rest))) : W p l e R s m args below meth c H locs cells slots Q (F0 m pc ls (.int k :: rest)) := by
  obtain ⟨hx, hb, -, hown, hts, hK, hA, -⟩ := C
  refine va_newa hx hb (hts _ hat) hty hK hP hD hS hA ha hn hN hbytes hcells hslots hdg (fun q cB H1 hK1 hP1 hD1 hS1 => ?_)
  exact kk q H1 (fun i x hi => hP1 i x (by rw [List.getElem?_append_left (List.getElem?_eq_some_iff.mp hi).1]; exact hi)) hS1
theorem r_vret (C : Cx p s m args meth c cc n none y0 D T A) (hP : va_P D CL ws H) (hD : va_D A ws) (hS : va_S A s.heap H locs) {S : Type} {w1 : S → va_W} (u : S) (hw : ws = w1 u) {mc ms : Nat} (hc : cells ≤ mc) (hs : slots ≤ ms) (hdg : decode cc pc = .ok (.return_, 1)) : W p l e R s m args below meth c H locs cells slots (MQ below (qV D T w1 A) args s mc ms A) (F0 m pc ls []) := by
  obtain ⟨hx, hb, -, -, -, hK, -, -, -, hlocks, hr, -⟩ := C
  subst hw
  refine W.widen hc hs ?_
  exact W.vret hx hb hr (fun t ht hW => ⟨⟨u, rfl, trivial, by rw [ht]; exact hP, va_K.moved hW.alike hK, hD⟩, hS.F ht⟩) hS.2.2 hdg hlocks
theorem r_iret (C : Cx p s m args meth c cc n (some .int) y0 D T A) (hP : va_P D CL ws H) (hD : va_D A ws) (hS : va_S A s.heap H locs) {S : Type} {f : S → Int32} {w1 : S → va_W} (u : S) (hw : ws = w1 u) {v : Int32} (hv : v = f u) {mc ms : Nat} (hc : cells ≤ mc) (hs : slots ≤ ms) (hdg : decode cc pc = .ok (.ireturn, 1)) : W p l e R s m args below meth c H locs cells slots (MQ below (qI D T f w1 A) args s mc ms A) (F0 m pc ls [.int v]) := by
  obtain ⟨hx, hb, -, -, -, hK, -, -, -, hlocks, hr, -⟩ := C
  subst hw
  refine W.widen hc hs ?_
  exact W.iret hx hb hr (fun t ht hW => ⟨⟨v, u, rfl, hv, by rw [ht]; exact hP, va_K.moved hW.alike hK, hD⟩, hS.F ht⟩) hS.2.2 hdg hlocks
theorem r_zret (C : Cx p s m args meth c cc n (some .boolean) y0 D T A) (hP : va_P D CL ws H) (hD : va_D A ws) (hS : va_S A s.heap H locs) {S : Type} {f : S → Int32} {w1 : S → va_W} (u : S) (hw : ws = w1 u) {v : Int32} (hv : v = f u) (hn : narrow .boolean (.int v) = .int v) {mc ms : Nat} (hc : cells ≤ mc) (hs : slots ≤ ms) (hdg : decode cc pc = .ok (.ireturn, 1)) : W p l e R s m args below meth c H locs cells slots (MQ below (qI D T f w1 A) args s mc ms A) (F0 m pc ls [.int v]) := by
  obtain ⟨hx, hb, -, -, -, hK, -, -, -, hlocks, hr, -⟩ := C
  subst hw
  refine W.widen hc hs ?_
  exact W.zret hx hb hr hn (fun t ht hW => ⟨⟨v, u, rfl, hv, by rw [ht]; exact hP, va_K.moved hW.alike hK, hD⟩, hS.F ht⟩) hS.2.2 hdg hlocks
theorem r_lret (C : Cx p s m args meth c cc n (some .long) y0 D T A) (hP : va_P D CL ws H) (hD : va_D A ws) (hS : va_S A s.heap H locs) {S : Type} {f : S → Int64} {w1 : S → va_W} (u : S) (hw : ws = w1 u) {v : Int64} (hv : v = f u) {mc ms : Nat} (hc : cells ≤ mc) (hs : slots ≤ ms) (hdg : decode cc pc = .ok (.lreturn, 1)) : W p l e R s m args below meth c H locs cells slots (MQ below (qL D T f w1 A) args s mc ms A) (F0 m pc ls [.long v]) := by
  obtain ⟨hx, hb, -, -, -, hK, -, -, -, hlocks, hr, -⟩ := C
  subst hw
  refine W.widen hc hs ?_
  exact W.lret hx hb hr (fun t ht hW => ⟨⟨v, u, rfl, hv, by rw [ht]; exact hP, va_K.moved hW.alike hK, hD⟩, hS.F ht⟩) hS.2.2 hdg hlocks
theorem r_aret {rt : FieldType} (C : Cx p s m args meth c cc n (some rt) y0 D T A) (hrt : (∃ n, rt = .object n) ∨ ∃ t, rt = .array t) (hP : va_P D CL ws H) (hD : va_D A ws) (hS : va_S A s.heap H locs) {S : Type} {f : S → Nat} {w1 : S → va_W} (u : S) (hw : ws = w1 u) {v : Nat} (hv : v = f u) {mc ms : Nat} (hc : cells ≤ mc) (hs : slots ≤ ms) (hdg : decode cc pc = .ok (.areturn, 1)) : W p l e R s m args below meth c H locs cells slots (MQ below (qR D T f w1 A) args s mc ms A) (F0 m pc ls [.ref v]) := by
  obtain ⟨hx, hb, -, -, -, hK, -, -, -, hlocks, hr, -⟩ := C
  subst hw
  refine W.widen hc hs ?_
  exact W.aret hx hb hr hrt (Or.inr ⟨v, rfl⟩) (fun t ht hW => ⟨⟨u, v, rfl, trivial, hv, by rw [ht]; exact hP, va_K.moved hW.alike hK, hD⟩, hS.F ht⟩) hS.2.2 hdg hlocks
theorem pre_of (C : Cx p s m args meth c cc n ret y0 D T A) (hP : va_P D CL ws H) (hD : va_D A ws) (hS : va_S A s.heap H locs) {av : List Value} (isC : List Nat) (hC : isC.map (fun i => ws[i]?) = wc.map some) (hnC : va_nd isC = true) : ∀ U : State, U.heap = H → s.WarmedH U.vm → cPre D T av wc H.size av.toArray U := by
  intro U hU hW
  obtain ⟨-, -, -, -, -, hK, hA, hXw, hSx, -⟩ := C
  have hF := va_free hD hS hA isC hC
  refine ⟨rfl, by rw [hU], by rw [hU]; exact hP.sub isC (sub_of _ _ _ hC), va_K.moved hW.alike hK, (hD.sub isC hnC hC).weaken (fun _ _ _ _ => trivial), ?_, hSx.warm hW⟩
  rw [hU]
  exact Xw.moved hW.alike ((hXw.kept hS.2.1).narrow hF)
end Rows
