/-! the words that speak of the tables alone, one list for every method -/
def Big : List Cond := lw_tbl.filter goodWord
theorem big_in {w : Cond} (h : w ∈ lw_tbl) (g : goodWord w = true) : w ∈ Big := List.mem_filter.mpr ⟨h, g⟩
theorem big_t (i : Nat) {w : Cond} (h : tables_1[i]? = some w) (g : goodWord w = true) : w ∈ Big := big_in (List.mem_append_right _ (List.mem_of_getElem? h)) g
theorem big_s (i : Nat) {y : MethodName} {k : Nat} (h : lw_privs[i]? = some (y, k)) : Cond.selects y.cls y y ∈ Big :=
  big_in (List.mem_append_left _ (List.mem_map.mpr ⟨(y, k), List.mem_of_getElem? h, rfl⟩)) rfl
theorem big_g {w : Cond} (h : w ∈ Big) : (w.onTables && w.keeps) = true ∨ ∃ ty, w = .arrayClass ty := good_of_word (List.mem_filter.mp h).2
theorem big_sub {ws : List Cond} (h : ∀ w ∈ ws, w ∈ Big) : GoodIn Big ws := fun w hw => ⟨h w hw, big_g (h w hw)⟩
theorem big_ws {C : String} {T : u_T} {N : Nat} (h : ∀ k, k < N → u_lay C T k ∈ Big) : ∀ w ∈ u_ws C T N, w ∈ Big := by
  intro w hw
  obtain ⟨k, hk, rfl⟩ := List.mem_map.mp hw
  exact h k (List.mem_range.mp hk)
def CL : List vw_C := [(RX0, TX0, 9), (RX1, TX1, 3), (RX2, TX2, 7), (RX3, TX3, 5), (RX5, TX5, 5), (RX6, TX6, 11), (RX7, TX7, 4), (RX8, TX8, 5), (RX9, TX9, 9), (RX10, TX10, 3), (RX11, TX11, 18), (RX12, TX12, 41)]
/-- the texts that are loaded: class, place, text -/
def strs : List (String × Nat × String) := [(RX11, 125, "not so many bytes in the buffe\x72"), (RX11, 139, "the text has an erro\x72"), (RX11, 313, "there are 6 guards"), (RX11, 340, "there are 12 vertices"), (RX11, 349, "no change can be undone"), (RX11, 358, "nothing is saved there"), (RX11, 360, "no polygon"), (RX11, 362, "no such index"), (RX11, 364, "argument out of range"), (RX11, 376, "this change of the polygon is not possible"), (RX5, 41, "polygon"), (RX5, 83, "guard"), (RX5, 91, "treasure"), (RX5, 99, "range"), (RX12, 159, "polygon"), (RX12, 176, "range"), (RX12, 181, "guard"), (RX12, 183, "treasure")]
/-- the texts' letters, by the places of strs -/
def TXS : List (List Int32) := [[110, 111, 116, 32, 115, 111, 32, 109, 97, 110, 121, 32, 98, 121, 116, 101, 115, 32, 105, 110, 32, 116, 104, 101, 32, 98, 117, 102, 102, 101, 114], [116, 104, 101, 32, 116, 101, 120, 116, 32, 104, 97, 115, 32, 97, 110, 32, 101, 114, 114, 111, 114], [116, 104, 101, 114, 101, 32, 97, 114, 101, 32, 54, 32, 103, 117, 97, 114, 100, 115], [116, 104, 101, 114, 101, 32, 97, 114, 101, 32, 49, 50, 32, 118, 101, 114, 116, 105, 99, 101, 115], [110, 111, 32, 99, 104, 97, 110, 103, 101, 32, 99, 97, 110, 32, 98, 101, 32, 117, 110, 100, 111, 110, 101], [110, 111, 116, 104, 105, 110, 103, 32, 105, 115, 32, 115, 97, 118, 101, 100, 32, 116, 104, 101, 114, 101], [110, 111, 32, 112, 111, 108, 121, 103, 111, 110], [110, 111, 32, 115, 117, 99, 104, 32, 105, 110, 100, 101, 120], [97, 114, 103, 117, 109, 101, 110, 116, 32, 111, 117, 116, 32, 111, 102, 32, 114, 97, 110, 103, 101], [116, 104, 105, 115, 32, 99, 104, 97, 110, 103, 101, 32, 111, 102, 32, 116, 104, 101, 32, 112, 111, 108, 121, 103, 111, 110, 32, 105, 115, 32, 110, 111, 116, 32, 112, 111, 115, 115, 105, 98, 108, 101], [112, 111, 108, 121, 103, 111, 110], [103, 117, 97, 114, 100], [116, 114, 101, 97, 115, 117, 114, 101], [114, 97, 110, 103, 101], [112, 111, 108, 121, 103, 111, 110], [114, 97, 110, 103, 101], [103, 117, 97, 114, 100], [116, 114, 101, 97, 115, 117, 114, 101]]
/-- the texts' own cells, at D.2 1000, their letters at D.2 1001 -/
def Vs (D : va_G) (A : Nat → Prop) (U : State) (H : Heap) : Prop := (∀ (j : Nat) (t : List Int32), TXS[j]? = some t → va_O "java/lang/String" (D.2 1000 j) A U H ∧ va_OF "java/lang/String" "coder" "B" (.int 0) (D.2 1000 j) A U H ∧ va_OF "java/lang/String" "value" "[B" (.ref (D.2 1001 j)) (D.2 1000 j) A U H ∧ va_T .byte (D.2 1001 j) t.length (fun i => .int (t.getD i 0)) A U H) ∧ va_Z "java/lang/String" "COMPACT_STRINGS" "Z" (.int 1) A U H ∧ va_Zq "jdk/internal/util/Preconditions" "SIOOBE_FORMATTER" "Ljava/util/function/BiFunction;" A U H
theorem Vs.moved {D : va_G} {A : Nat → Prop} {u U : State} {H : Heap} (hvm : u.vm.Alike U.vm) (h : Vs D A u H) : Vs D A U H := ⟨fun j t ht => ⟨va_O.moved hvm (h.1 j t ht).1, va_OF.moved hvm (h.1 j t ht).2.1, va_OF.moved hvm (h.1 j t ht).2.2.1, va_T.moved hvm (h.1 j t ht).2.2.2⟩, va_Z.moved hvm h.2.1, va_Zq.moved hvm h.2.2⟩
theorem Vs.kept {D : va_G} {A : Nat → Prop} {U : State} {H H1 : Heap} (h : Vs D A U H) (hq : ∀ a : Nat, a < H.size → ¬ A a → H1[a]? = H[a]?) : Vs D A U H1 := ⟨fun j t ht => ⟨(h.1 j t ht).1.kept hq, (h.1 j t ht).2.1.kept hq, (h.1 j t ht).2.2.1.kept hq, (h.1 j t ht).2.2.2.kept hq⟩, h.2.1.kept hq, h.2.2.kept hq⟩
theorem Vs.narrow {D : va_G} {A B : Nat → Prop} {U : State} {H : Heap} (h : Vs D A U H) (hAB : ∀ q, B q → A q) : Vs D B U H := ⟨fun j t ht => ⟨(h.1 j t ht).1.narrow hAB, (h.1 j t ht).2.1.narrow hAB, (h.1 j t ht).2.2.1.narrow hAB, (h.1 j t ht).2.2.2.narrow hAB⟩, h.2.1.narrow hAB, h.2.2.narrow hAB⟩
def Xw (D : va_G) (A : Nat → Prop) (U : State) (H : Heap) : Prop := vx_Zq Bundle.tN "UNASSIGNED_STACK" Bundle.steD A U H ∧ vx_Zq Bundle.tN "SUPPRESSED_SENTINEL" Bundle.listD A U H ∧ Vs D A U H
/-- the exceptions that are not one another -/
def ncs : List (String × String) := [("java/lang/IllegalStateException", "java/lang/IndexOutOfBoundsException"), ("java/lang/IllegalArgumentException", "java/lang/IndexOutOfBoundsException"), ("java/lang/IllegalStateException", "java/lang/IllegalArgumentException"), ("java/lang/IndexOutOfBoundsException", "java/lang/IllegalArgumentException"), ("java/lang/IndexOutOfBoundsException", "java/lang/IllegalStateException"), ("java/lang/IllegalArgumentException", "java/lang/IllegalStateException")]
def cas : List String := ["java/lang/IllegalStateException", "java/lang/IndexOutOfBoundsException", "java/lang/IllegalArgumentException"]
/-- words of the tables that are kept by themselves -/
def odd : List Cond := [.castable "java/lang/IllegalStateException" "java/lang/IllegalStateException", .castable "java/lang/IndexOutOfBoundsException" "java/lang/IndexOutOfBoundsException", .castable "java/lang/IllegalArgumentException" "java/lang/IllegalArgumentException", .declares ⟨"java/lang/RuntimeException", "<init>", "(Ljava/lang/String;)V"⟩, .declares ⟨"java/lang/Exception", "<init>", "(Ljava/lang/String;)V"⟩, .declares ⟨"java/lang/Throwable", "<init>", "(Ljava/lang/String;)V"⟩]
theorem odd_on {w : Cond} (h : w ∈ odd) : w.onTables = true := by
  simp only [odd, List.mem_cons, List.not_mem_nil, or_false] at h
  rcases h with rfl | rfl | rfl | rfl | rfl | rfl <;> rfl
theorem odd_warm {w : Cond} (h : w ∈ odd) {s U : State} (hW : s.WarmedH U.vm) (hz : va_Nw w s) : va_Nw w U := by
  simp only [odd, List.mem_cons, List.not_mem_nil, or_false] at h
  rcases h with rfl | rfl | rfl | rfl | rfl | rfl
  · exact va_tabs rfl (rfl : (s.setVm U.vm).vm = U.vm) ((Cond.castable_setVm hW.alike _ _).trans hz)
  · exact va_tabs rfl (rfl : (s.setVm U.vm).vm = U.vm) ((Cond.castable_setVm hW.alike _ _).trans hz)
  · exact va_tabs rfl (rfl : (s.setVm U.vm).vm = U.vm) ((Cond.castable_setVm hW.alike _ _).trans hz)
  · exact va_tabs rfl (rfl : (s.setVm U.vm).vm = U.vm) ((Cond.declares_setVm hW.alike _).trans hz)
  · exact va_tabs rfl (rfl : (s.setVm U.vm).vm = U.vm) ((Cond.declares_setVm hW.alike _).trans hz)
  · exact va_tabs rfl (rfl : (s.setVm U.vm).vm = U.vm) ((Cond.declares_setVm hW.alike _).trans hz)
theorem cas_odd {q : String} (h : q ∈ cas) : Cond.castable q q ∈ odd := by
  simp only [cas, List.mem_cons, List.not_mem_nil, or_false] at h
  rcases h with rfl | rfl | rfl
  · exact List.mem_of_getElem? (i := 0) rfl
  · exact List.mem_of_getElem? (i := 1) rfl
  · exact List.mem_of_getElem? (i := 2) rfl
/-- the private members that nest mates call -/
def nst : List (String × Nat × MethodName) := [(RX11, 11, yX2_init), (RX11, 18, yX6_init), (RX11, 28, yX3_init), (RX1, 24, yX6_init), (RX0, 92, yX11_has), (RX7, 74, yX11_has), (RX8, 48, yX11_has), (RX10, 60, yX11_has)]
def Sx (D : va_G) (U : State) : Prop := (∀ (j : Nat) (q : String × Nat × String), strs[j]? = some q → vk_R q.1 q.2.1 q.2.2 (D.2 1000 j) U) ∧ va_AO "GalleryGuards$Plan" U ∧ (∀ q ∈ ncs, va_Nc q.1 q.2 U) ∧ (∀ w ∈ odd, va_Nw w U) ∧ ∀ q ∈ nst, va_Nw (.methodLinkNest q.1 q.2.1 q.2.2 "GalleryGuards") U
theorem Sx.warm {D : va_G} {s U : State} (hW : s.WarmedH U.vm) (h : Sx D s) : Sx D U := ⟨fun j q hq => vk_R.warm hW (h.1 j q hq), h.2.1.moved hW.alike, fun q hq => (h.2.2.1 q hq).moved hW.alike, fun q hq => odd_warm hq hW (h.2.2.2.1 q hq), fun q hq => va_Nw.warmM hW (h.2.2.2.2 q hq)⟩
abbrev TT (cI cZ cJ : ClassId) : List (ClassId × FieldType) := [(cI, .int), (cZ, .boolean), (cJ, .long)]
theorem Xw.moved {D : va_G} {A : Nat → Prop} {u U : State} {H : Heap} (hvm : u.vm.Alike U.vm) (h : Xw D A u H) : Xw D A U H := ⟨h.1.moved hvm, h.2.1.moved hvm, h.2.2.moved hvm⟩
theorem Xw.kept {D : va_G} {A : Nat → Prop} {U : State} {H H1 : Heap} (h : Xw D A U H) (hq : ∀ a : Nat, a < H.size → ¬ A a → H1[a]? = H[a]?) : Xw D A U H1 := ⟨h.1.kept hq, h.2.1.kept hq, h.2.2.kept hq⟩
theorem Xw.narrow {D : va_G} {A B : Nat → Prop} {U : State} {H : Heap} (h : Xw D A U H) (hAB : ∀ q, B q → A q) : Xw D B U H := ⟨h.1.narrow hAB, h.2.1.narrow hAB, h.2.2.narrow hAB⟩
/-- the start of every method: the cells ws, apart, the tables, the statics of Throwable outside, the texts -/
def cPre (D : va_G) (T : List (ClassId × FieldType)) (av : List Value) (ws : va_W) (sz : Nat) : Array Value → State → Prop :=
  va_Pc av (fun U => U.heap.size = sz ∧ va_P D CL ws U.heap ∧ va_K D CL T U ∧ va_D (fun _ => True) ws ∧ Xw D (va_A ws sz) U U.heap ∧ Sx D U)
theorem cPre_blind {D : va_G} {T : List (ClassId × FieldType)} {av : List Value} {ws : va_W} {sz : Nat} : FrameBlind (cPre D T av ws sz) := by
  intro a U g mk h
  obtain ⟨h0, h1, h2, h3, h4, h5, h6⟩ := h
  exact ⟨h0, h1, h2, va_K.moved (u := U) (U := U.calling g mk a) (Vm.Alike.refl U.vm) h3, h4, Xw.moved (u := U) (U := U.calling g mk a) (Vm.Alike.refl U.vm) h5, Sx.warm (s := U) (U := U.calling g mk a) (State.WarmedH.refl U) h6⟩
def cEnd (D : va_G) (T : List (ClassId × FieldType)) (A : Nat → Prop) {S : Type} (w1 : S → va_W) (u : S) (t : State) : Prop := va_P D CL (w1 u) t.heap ∧ va_K D CL T t ∧ va_D A (w1 u)
def rmd (d mc ms : Nat) : Room := { frames := 20 * d + 20, cells := mc, slots := ms, locals := 200 * d + 200 }
def qV (D : va_G) (T : List (ClassId × FieldType)) {S : Type} (w1 : S → va_W) (A : Nat → Prop) : Array Value → State → Outcome → State → Prop := va_Qv (fun _ : S => True) (cEnd D T A w1) A
def qI (D : va_G) (T : List (ClassId × FieldType)) {S : Type} (f : S → Int32) (w1 : S → va_W) (A : Nat → Prop) : Array Value → State → Outcome → State → Prop := va_Qi (fun (r : Int32) (u : S) => r = f u) (cEnd D T A w1) A
def qL (D : va_G) (T : List (ClassId × FieldType)) {S : Type} (f : S → Int64) (w1 : S → va_W) (A : Nat → Prop) : Array Value → State → Outcome → State → Prop := va_Ql (fun (r : Int64) (u : S) => r = f u) (cEnd D T A w1) A
def qR (D : va_G) (T : List (ClassId × FieldType)) {S : Type} (f : S → Nat) (w1 : S → va_W) (A : Nat → Prop) : Array Value → State → Outcome → State → Prop := va_Qr (fun _ : S => True) (fun u a t => a = f u ∧ cEnd D T A w1 u t) A
def xX (D : va_G) (T : List (ClassId × FieldType)) (E : String) (wx : va_W) (A : Nat → Prop) : String → State → State → Prop := vx_X (fun _ : Unit => True) (fun E' _ t => E' = E ∧ cEnd D T A (fun _ : Unit => wx) () t) A
def cM (l : Launch) (y : MethodName) (cc : ByteArray) (n : Nat) (ret : Option FieldType) (D : va_G) (T : List (ClassId × FieldType)) (av : List Value) (ws : va_W) (Qf : (Nat → Prop) → Array Value → State → Outcome → State → Prop) (d mc ms : Nat) : Prop :=
  ∀ sz, Met l y (.code y cc n ret :: Big) (rmd d mc ms) (cPre D T av ws sz) (Qf (va_A ws sz)) mc ms (va_A ws sz)
def cMW (l : Launch) (y : MethodName) (cc : ByteArray) (n : Nat) (ret : Option FieldType) (hh : List (Nat × Nat × Nat × Nat)) (D : va_G) (T : List (ClassId × FieldType)) (av : List Value) (ws : va_W) (Qf : (Nat → Prop) → Array Value → State → Outcome → State → Prop) (d mc ms : Nat) : Prop :=
  ∀ sz, Met l y (.codeWith y cc n ret hh :: Big) (rmd d mc ms) (cPre D T av ws sz) (Qf (va_A ws sz)) mc ms (va_A ws sz)
def cX (l : Launch) (y : MethodName) (cc : ByteArray) (n : Nat) (ret : Option FieldType) (D : va_G) (T : List (ClassId × FieldType)) (av : List Value) (ws : va_W) (E : String) (wx : va_W) (d mc ms : Nat) : Prop :=
  ∀ sz, vx_Met l y (.code y cc n ret :: Big) (rmd d mc ms) (cPre D T av ws sz) (fun _ _ _ _ => False) (xX D T E wx (va_A ws sz)) mc ms (va_A ws sz)
/-- what holds in a method's body throughout -/
def Cx (p : Program) (s : State) (m : MethodId) (args : Array Value) (meth : Method) (c : Code) (cc : ByteArray) (n : Nat) (ret : Option FieldType) (y : MethodName) (D : va_G) (T : List (ClassId × FieldType)) (A : Nat → Prop) : Prop :=
  p.tables.exec = Jvm.exec ∧ c.code = cc ∧ c.maxLocals = n ∧ s.vm.findClass y.cls = some m.cls ∧ (∀ w ∈ Big, w.before args s = true) ∧ va_K D CL T s ∧ (∀ q, s.heap.size ≤ q → A q) ∧ Xw D A s s.heap ∧ Sx D s ∧ meth.locks = false ∧ meth.sig.returnType = ret ∧ (y.name = "<init>" → meth.name = "<init>")
section Enter
variable {l : Launch} {y : MethodName} {cc : ByteArray} {n : Nat} {ret : Option FieldType} {D : va_G} {T : List (ClassId × FieldType)} {av : List Value} {ws : va_W} {d mc ms : Nat}
theorem enterM {Qf : (Nat → Prop) → Array Value → State → Outcome → State → Prop} (hy : plainName y.cls = true) (hn : (lg_sl av).length ≤ n)
    (body : ∀ (p : Program) (e : Env) (s : State) (m : MethodId) (below : List Frame) (meth : Method) (c : Code) (ls : Array Slot) (A : Nat → Prop), Cx p s m av.toArray meth c cc n ret y D T A → va_P D CL ws s.heap → va_D A ws → va_S A s.heap s.heap [] → lv_has ls n (lv_args 0 av) →
      W p l e (rmd d mc ms) s m av.toArray below meth c s.heap [] 0 0 (MQ below (Qf A) av.toArray s mc ms A) (F0 m 0 ls [])) : cM l y cc n ret D T av ws Qf d mc ms := by
  intro sz
  refine Met.ofW (cc := cc) (maxL := n) (ret := ret) hy rfl ?_
  intro p e s m args below meth c s₁ B hml hv
  obtain ⟨rfl, hsz, hP, hK, hD0, hXw, hSx⟩ := hv
  subst hsz
  have hts := atoms_spec (ws := .code y cc n ret :: Big) B.pre
  have hl := lv_entry av (n := n) hn
  rw [lg_entry_eq]
  exact body p e s m below meth c _ _ ⟨B.exec, B.bytes, hml, findClass_of_methodNamed B.named, fun w h => hts w (List.mem_cons_of_mem _ h), hK, fun q h => Or.inr h, hXw, hSx, B.notSynchronized, B.returns, fun h => (name_of_methodNamed B.named B.method).1.trans h⟩ hP hD0.self va_S.rf hl
theorem enterW {hh : List (Nat × Nat × Nat × Nat)} {Qf : (Nat → Prop) → Array Value → State → Outcome → State → Prop} (hy : plainName y.cls = true) (hn : (lg_sl av).length ≤ n)
    (body : ∀ (p : Program) (e : Env) (s : State) (m : MethodId) (below : List Frame) (meth : Method) (c : Code) (ls : Array Slot) (A : Nat → Prop), Cx p s m av.toArray meth c cc n ret y D T A → c.exceptionTable.toList = tableOf hh → va_P D CL ws s.heap → va_D A ws → va_S A s.heap s.heap [] → lv_has ls n (lv_args 0 av) →
      W p l e (rmd d mc ms) s m av.toArray below meth c s.heap [] 0 0 (MQ below (Qf A) av.toArray s mc ms A) (F0 m 0 ls [])) : cMW l y cc n ret hh D T av ws Qf d mc ms := by
  intro sz
  refine MetFree.of_bodyS (code := cc) (maxLocals := n) (ret := ret) hy ?_ ?_
  · intro args s m h hnm
    obtain ⟨m9, meth, c, hn9, h1, h2, h3, h4, -, h5, h6, -⟩ := Cond.codeWith_spec (atoms_spec (ws := .codeWith y cc n ret hh :: Big) h _ List.mem_cons_self)
    cases hnm.symm.trans hn9
    exact ⟨meth, c, h1, h2, h3, h4, h5, h6⟩
  · intro p e s m args below meth c s₁ B hml hv _
    have hh0 : s₁.heap = s.heap := by rw [B.state]; rfl
    obtain ⟨rfl, hsz, hP, hK, hD0, hXw, hSx⟩ := hv
    subst hsz
    have hts := atoms_spec (ws := .codeWith y cc n ret hh :: Big) B.pre
    have hl := lv_entry av (n := n) hn
    have K := body p e s m below meth c _ (va_A ws s.heap.size) ⟨B.exec, B.bytes, hml, findClass_of_methodNamed B.named, fun w h => hts w (List.mem_cons_of_mem _ h), hK, fun q h => Or.inr h, hXw, hSx, B.notSynchronized, B.returns, fun h => (name_of_methodNamed B.named B.method).1.trans h⟩ (vx_table (x := y) B (hts _ List.mem_cons_self)) hP hD0.self va_S.rf hl
    rw [← lg_entry_eq] at K
    obtain ⟨t, a1, o, b1, b2, b3⟩ := K s₁ hh0 (Stand.of_body B)
    exact ⟨t, o, a1, b1, b2, ⟨b3.1, b3.2⟩⟩
theorem enterX {E : String} {wx : va_W} (hy : plainName y.cls = true) (hn : (lg_sl av).length ≤ n)
    (body : ∀ (p : Program) (e : Env) (s : State) (m : MethodId) (below : List Frame) (meth : Method) (c : Code) (ls : Array Slot) (A : Nat → Prop), Cx p s m av.toArray meth c cc n ret y D T A → (∀ x ∈ c.exceptionTable.toList, False) → va_P D CL ws s.heap → va_D A ws → va_S A s.heap s.heap [] → lv_has ls n (lv_args 0 av) →
      W p l e (rmd d mc ms) s m av.toArray below meth c s.heap [] 0 0 (vx_MQ below (fun _ _ _ _ => False) (xX D T E wx A) av.toArray s mc ms A) (F0 m 0 ls [])) : cX l y cc n ret D T av ws E wx d mc ms := by
  intro sz
  refine vx_ofW (cc := cc) (maxL := n) (ret := ret) hy rfl ?_
  intro p e s m args below meth c s₁ B hml ht hv
  obtain ⟨rfl, hsz, hP, hK, hD0, hXw, hSx⟩ := hv
  subst hsz
  have hts := atoms_spec (ws := .code y cc n ret :: Big) B.pre
  have hl := lv_entry av (n := n) hn
  rw [lg_entry_eq]
  exact body p e s m below meth c _ _ ⟨B.exec, B.bytes, hml, findClass_of_methodNamed B.named, fun w h => hts w (List.mem_cons_of_mem _ h), hK, fun q h => Or.inr h, hXw, hSx, B.notSynchronized, B.returns, fun h => (name_of_methodNamed B.named B.method).1.trans h⟩ ht hP hD0.self va_S.rf hl
end Enter
