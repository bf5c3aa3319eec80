theorem wq_0 : Cond.code yJ0_coder_7d493 cJ0_coder_7d493 1 (some .byte) ∈ Big := big_t 528 (by decide +kernel) rfl
theorem wq_1 : Cond.initialized RJ0 ∈ Big := big_t 18 (by decide +kernel) rfl
theorem wq_2 : Cond.methodLink RJ0 335 yJ0_coder_7d493 ∈ Big := big_t 525 (by decide +kernel) rfl
theorem wq_3 : Cond.instanceMethod yJ0_coder_7d493 ∈ Big := big_t 526 (by decide +kernel) rfl
theorem wq_4 : Cond.selects RJ0 yJ0_coder_7d493 yJ0_coder_7d493 ∈ Big := big_t 527 (by decide +kernel) rfl
theorem wq_5 : Cond.code yJ0_isLatin1_aae02 cJ0_isLatin1_aae02 1 (some .boolean) ∈ Big := big_t 538 (by decide +kernel) rfl
theorem wq_6 : Cond.methodLink RJ0 492 yJ0_isLatin1_aae02 ∈ Big := big_t 535 (by decide +kernel) rfl
theorem wq_7 : Cond.instanceMethod yJ0_isLatin1_aae02 ∈ Big := big_t 536 (by decide +kernel) rfl
theorem wq_8 : Cond.selects RJ0 yJ0_isLatin1_aae02 yJ0_isLatin1_aae02 ∈ Big := big_t 537 (by decide +kernel) rfl
theorem wq_9 : Cond.code yJ1_charAt_3b067 cJ1_charAt_3b067 2 (some .char) ∈ Big := big_t 541 (by decide +kernel) rfl
theorem wq_10 : Cond.initialized RJ1 ∈ Big := big_t 19 (by decide +kernel) rfl
theorem wq_11 : Cond.methodLink RJ0 495 yJ1_charAt_3b067 ∈ Big := big_t 539 (by decide +kernel) rfl
theorem wq_12 : Cond.static yJ1_charAt_3b067 ∈ Big := big_t 540 (by decide +kernel) rfl
theorem wq_13 : Cond.code yJ0_checkIndex_df160 cJ0_checkIndex_df160 2 none ∈ Big := big_t 544 (by decide +kernel) rfl
theorem wq_14 : Cond.methodLink RJ1 9 yJ0_checkIndex_df160 ∈ Big := big_t 542 (by decide +kernel) rfl
theorem wq_15 : Cond.static yJ0_checkIndex_df160 ∈ Big := big_t 543 (by decide +kernel) rfl
theorem wq_16 : Cond.code yJ3_checkIndex_8e157 cJ3_checkIndex_8e157 3 (some .int) ∈ Big := big_t 549 (by decide +kernel) rfl
theorem wq_17 : Cond.initialized RJ3 ∈ Big := big_t 20 (by decide +kernel) rfl
theorem wq_18 : Cond.methodLink RJ0 1059 yJ3_checkIndex_8e157 ∈ Big := big_t 547 (by decide +kernel) rfl
theorem wq_19 : Cond.static yJ3_checkIndex_8e157 ∈ Big := big_t 548 (by decide +kernel) rfl
theorem wq_20 : Cond.code yJ0_length_8abf5 cJ0_length_8abf5 1 (some .int) ∈ Big := big_t 524 (by decide +kernel) rfl
theorem wq_21 : Cond.methodLink RX2 51 yJ0_length_8abf5 ∈ Big := big_t 521 (by decide +kernel) rfl
theorem wq_22 : Cond.instanceMethod yJ0_length_8abf5 ∈ Big := big_t 522 (by decide +kernel) rfl
theorem wq_23 : Cond.selects RJ0 yJ0_length_8abf5 yJ0_length_8abf5 ∈ Big := big_t 523 (by decide +kernel) rfl
theorem wq_24 : Cond.code yJ0_charAt_5068e cJ0_charAt_5068e 2 (some .char) ∈ Big := big_t 534 (by decide +kernel) rfl
theorem wq_25 : Cond.methodLink RX2 56 yJ0_charAt_5068e ∈ Big := big_t 531 (by decide +kernel) rfl
theorem wq_26 : Cond.instanceMethod yJ0_charAt_5068e ∈ Big := big_t 532 (by decide +kernel) rfl
theorem wq_27 : Cond.selects RJ0 yJ0_charAt_5068e yJ0_charAt_5068e ∈ Big := big_t 533 (by decide +kernel) rfl
theorem wq_28 : Cond.methodLink RX12 134 yJ0_length_8abf5 ∈ Big := big_t 1688 (by decide +kernel) rfl
theorem wq_29 : Cond.methodLink RX12 140 yJ0_charAt_5068e ∈ Big := big_t 1689 (by decide +kernel) rfl
theorem wq_30 : Cond.fieldLink RJ0 38 "java/lang/String" "COMPACT_STRINGS" "Z" ∈ Big := big_t 529 (by decide +kernel) rfl
theorem wq_31 : Cond.fieldLink RJ0 9 "java/lang/String" "value" "[B" ∈ Big := big_t 2149 (by decide +kernel) rfl
theorem wq_32 : Cond.fieldLink RJ0 15 "java/lang/String" "code\x72" "B" ∈ Big := big_t 2150 (by decide +kernel) rfl
theorem wq_33 : Cond.fieldLink RJ0 1053 "jdk/internal/util/Preconditions" "SIOOBE_FORMATTER" "Ljava/util/function/BiFunction;" ∈ Big := big_t 545 (by decide +kernel) rfl
theorem cq_J0_335 : CV RJ0 335 yJ0_coder_7d493 cJ0_coder_7d493 1 (some .byte) 0 := ⟨wq_2, wq_3, wq_4, wq_1, wq_0, ⟨by decide +kernel, by decide +kernel, by decide +kernel⟩⟩
theorem cq_J0_492 : CV RJ0 492 yJ0_isLatin1_aae02 cJ0_isLatin1_aae02 1 (some .boolean) 0 := ⟨wq_6, wq_7, wq_8, wq_1, wq_5, ⟨by decide +kernel, by decide +kernel, by decide +kernel⟩⟩
theorem cq_J0_495 : CS RJ0 495 yJ1_charAt_3b067 cJ1_charAt_3b067 2 (some .char) 2 := ⟨wq_11, wq_12, wq_10, wq_9, ⟨by decide +kernel, by decide +kernel, by decide +kernel⟩⟩
theorem cq_J1_9 : CS RJ1 9 yJ0_checkIndex_df160 cJ0_checkIndex_df160 2 none 2 := ⟨wq_14, wq_15, wq_1, wq_13, ⟨by decide +kernel, by decide +kernel, by decide +kernel⟩⟩
theorem cq_J0_1059 : CS RJ0 1059 yJ3_checkIndex_8e157 cJ3_checkIndex_8e157 3 (some .int) 3 := ⟨wq_18, wq_19, wq_17, wq_16, ⟨by decide +kernel, by decide +kernel, by decide +kernel⟩⟩
theorem cq_X2_51 : CV RX2 51 yJ0_length_8abf5 cJ0_length_8abf5 1 (some .int) 0 := ⟨wq_21, wq_22, wq_23, wq_1, wq_20, ⟨by decide +kernel, by decide +kernel, by decide +kernel⟩⟩
theorem cq_X2_56 : CV RX2 56 yJ0_charAt_5068e cJ0_charAt_5068e 2 (some .char) 1 := ⟨wq_25, wq_26, wq_27, wq_1, wq_24, ⟨by decide +kernel, by decide +kernel, by decide +kernel⟩⟩
theorem cq_X12_134 : CV RX12 134 yJ0_length_8abf5 cJ0_length_8abf5 1 (some .int) 0 := ⟨wq_28, wq_22, wq_23, wq_1, wq_20, ⟨by decide +kernel, by decide +kernel, by decide +kernel⟩⟩
theorem cq_X12_140 : CV RX12 140 yJ0_charAt_5068e cJ0_charAt_5068e 2 (some .char) 1 := ⟨wq_29, wq_26, wq_27, wq_1, wq_24, ⟨by decide +kernel, by decide +kernel, by decide +kernel⟩⟩
theorem dq_J0_length_8abf5_0 : decode cJ0_length_8abf5 0 = .ok (.aload_n 0, 1) := by decide +kernel
theorem dq_J0_length_8abf5_1 : decode cJ0_length_8abf5 1 = .ok (.getfield 9, 3) := by decide +kernel
theorem dq_J0_length_8abf5_4 : decode cJ0_length_8abf5 4 = .ok (.arraylength, 1) := by decide +kernel
theorem dq_J0_length_8abf5_5 : decode cJ0_length_8abf5 5 = .ok (.aload_n 0, 1) := by decide +kernel
theorem dq_J0_length_8abf5_6 : decode cJ0_length_8abf5 6 = .ok (.invokevirtual 335, 3) := by decide +kernel
theorem dq_J0_length_8abf5_9 : decode cJ0_length_8abf5 9 = .ok (.ishr, 1) := by decide +kernel
theorem dq_J0_length_8abf5_10 : decode cJ0_length_8abf5 10 = .ok (.ireturn, 1) := by decide +kernel
theorem dq_J0_coder_7d493_0 : decode cJ0_coder_7d493 0 = .ok (.getstatic 38, 3) := by decide +kernel
theorem dq_J0_coder_7d493_3 : decode cJ0_coder_7d493 3 = .ok (.ifCond .eq 10, 3) := by decide +kernel
theorem dq_J0_coder_7d493_6 : decode cJ0_coder_7d493 6 = .ok (.aload_n 0, 1) := by decide +kernel
theorem dq_J0_coder_7d493_7 : decode cJ0_coder_7d493 7 = .ok (.getfield 15, 3) := by decide +kernel
theorem dq_J0_coder_7d493_10 : decode cJ0_coder_7d493 10 = .ok (.goto 4, 3) := by decide +kernel
theorem dq_J0_coder_7d493_13 : decode cJ0_coder_7d493 13 = .ok (.iconst 1, 1) := by decide +kernel
theorem dq_J0_coder_7d493_14 : decode cJ0_coder_7d493 14 = .ok (.ireturn, 1) := by decide +kernel
theorem dq_J0_charAt_5068e_0 : decode cJ0_charAt_5068e 0 = .ok (.aload_n 0, 1) := by decide +kernel
theorem dq_J0_charAt_5068e_1 : decode cJ0_charAt_5068e 1 = .ok (.invokevirtual 492, 3) := by decide +kernel
theorem dq_J0_charAt_5068e_4 : decode cJ0_charAt_5068e 4 = .ok (.ifCond .eq 12, 3) := by decide +kernel
theorem dq_J0_charAt_5068e_7 : decode cJ0_charAt_5068e 7 = .ok (.aload_n 0, 1) := by decide +kernel
theorem dq_J0_charAt_5068e_8 : decode cJ0_charAt_5068e 8 = .ok (.getfield 9, 3) := by decide +kernel
theorem dq_J0_charAt_5068e_11 : decode cJ0_charAt_5068e 11 = .ok (.iload_n 1, 1) := by decide +kernel
theorem dq_J0_charAt_5068e_12 : decode cJ0_charAt_5068e 12 = .ok (.invokestatic 495, 3) := by decide +kernel
theorem dq_J0_charAt_5068e_15 : decode cJ0_charAt_5068e 15 = .ok (.ireturn, 1) := by decide +kernel
theorem dq_J0_charAt_5068e_16 : decode cJ0_charAt_5068e 16 = .ok (.aload_n 0, 1) := by decide +kernel
theorem dq_J0_charAt_5068e_17 : decode cJ0_charAt_5068e 17 = .ok (.getfield 9, 3) := by decide +kernel
theorem dq_J0_charAt_5068e_20 : decode cJ0_charAt_5068e 20 = .ok (.iload_n 1, 1) := by decide +kernel
theorem dq_J0_charAt_5068e_21 : decode cJ0_charAt_5068e 21 = .ok (.invokestatic 498, 3) := by decide +kernel
theorem dq_J0_charAt_5068e_24 : decode cJ0_charAt_5068e 24 = .ok (.ireturn, 1) := by decide +kernel
theorem dq_J0_isLatin1_aae02_0 : decode cJ0_isLatin1_aae02 0 = .ok (.getstatic 38, 3) := by decide +kernel
theorem dq_J0_isLatin1_aae02_3 : decode cJ0_isLatin1_aae02 3 = .ok (.ifCond .eq 14, 3) := by decide +kernel
theorem dq_J0_isLatin1_aae02_6 : decode cJ0_isLatin1_aae02 6 = .ok (.aload_n 0, 1) := by decide +kernel
theorem dq_J0_isLatin1_aae02_7 : decode cJ0_isLatin1_aae02 7 = .ok (.getfield 15, 3) := by decide +kernel
theorem dq_J0_isLatin1_aae02_10 : decode cJ0_isLatin1_aae02 10 = .ok (.ifCond .ne 7, 3) := by decide +kernel
theorem dq_J0_isLatin1_aae02_13 : decode cJ0_isLatin1_aae02 13 = .ok (.iconst 1, 1) := by decide +kernel
theorem dq_J0_isLatin1_aae02_14 : decode cJ0_isLatin1_aae02 14 = .ok (.goto 4, 3) := by decide +kernel
theorem dq_J0_isLatin1_aae02_17 : decode cJ0_isLatin1_aae02 17 = .ok (.iconst 0, 1) := by decide +kernel
theorem dq_J0_isLatin1_aae02_18 : decode cJ0_isLatin1_aae02 18 = .ok (.ireturn, 1) := by decide +kernel
theorem dq_J1_charAt_3b067_0 : decode cJ1_charAt_3b067 0 = .ok (.iload_n 1, 1) := by decide +kernel
theorem dq_J1_charAt_3b067_1 : decode cJ1_charAt_3b067 1 = .ok (.aload_n 0, 1) := by decide +kernel
theorem dq_J1_charAt_3b067_2 : decode cJ1_charAt_3b067 2 = .ok (.arraylength, 1) := by decide +kernel
theorem dq_J1_charAt_3b067_3 : decode cJ1_charAt_3b067 3 = .ok (.invokestatic 9, 3) := by decide +kernel
theorem dq_J1_charAt_3b067_6 : decode cJ1_charAt_3b067 6 = .ok (.aload_n 0, 1) := by decide +kernel
theorem dq_J1_charAt_3b067_7 : decode cJ1_charAt_3b067 7 = .ok (.iload_n 1, 1) := by decide +kernel
theorem dq_J1_charAt_3b067_8 : decode cJ1_charAt_3b067 8 = .ok (.baload, 1) := by decide +kernel
theorem dq_J1_charAt_3b067_9 : decode cJ1_charAt_3b067 9 = .ok (.sipush 255, 3) := by decide +kernel
theorem dq_J1_charAt_3b067_12 : decode cJ1_charAt_3b067 12 = .ok (.iand, 1) := by decide +kernel
theorem dq_J1_charAt_3b067_13 : decode cJ1_charAt_3b067 13 = .ok (.i2c, 1) := by decide +kernel
theorem dq_J1_charAt_3b067_14 : decode cJ1_charAt_3b067 14 = .ok (.ireturn, 1) := by decide +kernel
theorem dq_J0_checkIndex_df160_0 : decode cJ0_checkIndex_df160 0 = .ok (.iload_n 0, 1) := by decide +kernel
theorem dq_J0_checkIndex_df160_1 : decode cJ0_checkIndex_df160 1 = .ok (.iload_n 1, 1) := by decide +kernel
theorem dq_J0_checkIndex_df160_2 : decode cJ0_checkIndex_df160 2 = .ok (.getstatic 1053, 3) := by decide +kernel
theorem dq_J0_checkIndex_df160_5 : decode cJ0_checkIndex_df160 5 = .ok (.invokestatic 1059, 3) := by decide +kernel
theorem dq_J0_checkIndex_df160_8 : decode cJ0_checkIndex_df160 8 = .ok (.pop, 1) := by decide +kernel
theorem dq_J0_checkIndex_df160_9 : decode cJ0_checkIndex_df160 9 = .ok (.return_, 1) := by decide +kernel
theorem dq_J3_checkIndex_8e157_0 : decode cJ3_checkIndex_8e157 0 = .ok (.iload_n 0, 1) := by decide +kernel
theorem dq_J3_checkIndex_8e157_1 : decode cJ3_checkIndex_8e157 1 = .ok (.ifCond .lt 8, 3) := by decide +kernel
theorem dq_J3_checkIndex_8e157_4 : decode cJ3_checkIndex_8e157 4 = .ok (.iload_n 0, 1) := by decide +kernel
theorem dq_J3_checkIndex_8e157_5 : decode cJ3_checkIndex_8e157 5 = .ok (.iload_n 1, 1) := by decide +kernel
theorem dq_J3_checkIndex_8e157_6 : decode cJ3_checkIndex_8e157 6 = .ok (.if_icmp .lt 10, 3) := by decide +kernel
theorem dq_J3_checkIndex_8e157_9 : decode cJ3_checkIndex_8e157 9 = .ok (.aload_n 2, 1) := by decide +kernel
theorem dq_J3_checkIndex_8e157_10 : decode cJ3_checkIndex_8e157 10 = .ok (.iload_n 0, 1) := by decide +kernel
theorem dq_J3_checkIndex_8e157_11 : decode cJ3_checkIndex_8e157 11 = .ok (.iload_n 1, 1) := by decide +kernel
theorem dq_J3_checkIndex_8e157_12 : decode cJ3_checkIndex_8e157 12 = .ok (.invokestatic 95, 3) := by decide +kernel
theorem dq_J3_checkIndex_8e157_15 : decode cJ3_checkIndex_8e157 15 = .ok (.athrow, 1) := by decide +kernel
theorem dq_J3_checkIndex_8e157_16 : decode cJ3_checkIndex_8e157 16 = .ok (.iload_n 0, 1) := by decide +kernel
theorem dq_J3_checkIndex_8e157_17 : decode cJ3_checkIndex_8e157 17 = .ok (.ireturn, 1) := by decide +kernel
/-! String.length and String.charAt of the texts, in rooms of their own -/
def rmS (k : Nat) : Room := { frames := k, cells := 0, slots := 0, locals := 40 * k }
def cMr (l : Launch) (y : MethodName) (cc : ByteArray) (n : Nat) (ret : Option FieldType) (D : va_G) (T : List (ClassId × FieldType)) (av : List Value) (v : Int32) (k : Nat) : Prop :=
  ∀ sz, Met l y (.code y cc n ret :: Big) (rmS k) (cPre D T av [] sz) (qI D T (fun _ : Unit => v) (fun _ : Unit => []) (va_A [] sz)) 0 0 (va_A [] sz)
section Txt
variable {l : Launch} {D : va_G} {T : List (ClassId × FieldType)}
theorem enterR {y : MethodName} {cc : ByteArray} {n : Nat} {ret : Option FieldType} {av : List Value} {v : Int32} {k : Nat} (hy : plainName y.cls = true) (hn : (lg_sl av).length ≤ n)
    (body : ∀ (p : Program) (e : Env) (s : State) (m : MethodId) (below : List Frame) (meth : Method) (c : Code) (ls : Array Slot) (A : Nat → Prop), Cx p s m av.toArray meth c cc n ret y D T A → va_P D CL [] s.heap → va_D A [] → va_S A s.heap s.heap [] → lv_has ls n (lv_args 0 av) →
      W p l e (rmS k) s m av.toArray below meth c s.heap [] 0 0 (MQ below (qI D T (fun _ : Unit => v) (fun _ : Unit => []) A) av.toArray s 0 0 A) (F0 m 0 ls [])) : cMr l y cc n ret D T av v k := by
  intro sz
  refine Met.ofW (cc := cc) (maxL := n) (ret := ret) hy rfl ?_
  intro p e s m args below meth c s₁ B hml hv
  obtain ⟨rfl, hsz, hP, hK, hD0, hXw, hSx⟩ := hv
  subst hsz
  have hts := atoms_spec (ws := .code y cc n ret :: Big) B.pre
  have hl := lv_entry av (n := n) hn
  rw [lg_entry_eq]
  exact body p e s m below meth c _ _ ⟨B.exec, B.bytes, hml, findClass_of_methodNamed B.named, fun w h => hts w (List.mem_cons_of_mem _ h), hK, fun q h => Or.inr h, hXw, hSx, B.notSynchronized, B.returns, fun h => (name_of_methodNamed B.named B.method).1.trans h⟩ hP hD0.self va_S.rf hl
variable {p : Program} {e : Env} {R : Room} {s : State} {m : MethodId} {args : Array Value} {below : List Frame} {meth : Method} {c : Code} {H : Heap} {locs : List Loc} {cells slots : Nat} {Q : State → Prop}
variable {cc : ByteArray} {n : Nat} {ret : Option FieldType} {y0 : MethodName} {A : Nat → Prop} {pc : Nat} {ls : Array Slot} {rest st As : List Value} {ws : va_W}
theorem r_nret {rt : FieldType} (C : Cx p s m args meth c cc n (some rt) y0 D T A) (hP : va_P D CL ws H) (hD : va_D A ws) (hS : va_S A s.heap H locs) {S : Type} {f : S → Int32} {w1 : S → va_W} (u : S) (hw : ws = w1 u) {v : Int32} (hv : v = f u) (hn : narrow rt (.int v) = .int v) {mc ms : Nat} (hc : cells ≤ mc) (hs : slots ≤ ms) (hdg : decode cc pc = .ok (.ireturn, 1)) : W p l e R s m args below meth c H locs cells slots (MQ below (qI D T f w1 A) args s mc ms A) (F0 m pc ls [.int v]) := by
  obtain ⟨hx, hb, -, -, -, hK, -, -, -, hlocks, hr, -⟩ := C
  subst hw
  refine W.widen hc hs ?_
  exact W.zret hx hb hr hn (fun t ht hW => ⟨⟨v, u, rfl, hv, by rw [ht]; exact hP, va_K.moved hW.alike hK, hD⟩, hS.F ht⟩) hS.2.2 hdg hlocks
/-- a call that reads nothing of the world: of a text's method, of a static one -/
theorem call_T {y : MethodName} {bytes : ByteArray} {maxL na idx k : Nat} {rt : Option FieldType} {b : Nat} {v : Int32} (C : Cx p s m args meth c cc n ret y0 D T A) (hM : cMr l y bytes maxL rt D T (.ref b :: As) v k) (cv : CV y0.cls idx y bytes maxL rt na) (hO : va_O y.cls b A s s.heap) (hP : va_P D CL ws H) (hD : va_D A ws) (hS : va_S A s.heap H locs) (hna : As.length = na) (hz : ls.size = n) (hst : st = As.reverse ++ .ref b :: rest) (hroom : (rest.map fun v => v.category).sum ≤ 8) (hdg : decode cc pc = .ok (.invokevirtual idx, 3))
    (hR : (rmS k).frames + 1 ≤ R.frames ∧ 8 + (maxL + 11) + (rmS k).locals ≤ R.locals) (hcc : cells ≤ R.cells ∧ slots ≤ R.slots)
    (kk : ∀ (H1 : Heap) (locs1 : List Loc), va_P D CL ws H1 → va_D A ws → va_S A s.heap H1 locs1 → W p l e R s m args below meth c H1 locs1 cells slots Q (F0 m (pc + 3) ls (.int v :: rest))) : W p l e R s m args below meth c H locs cells slots Q (F0 m pc ls st) := by
  have hpre := pre_of (av := .ref b :: As) C hP hD hS (wc := []) [] rfl rfl
  have C' := C
  obtain ⟨hx, hb, hml, hown, hts, hK, -⟩ := C
  obtain ⟨cell, o1, o2, o3, -⟩ := hO.kept hS.2.1
  obtain ⟨h1, h2, h3, h4, h5, h6⟩ := cv
  have hcw : CallW R s args y0.cls y.cls idx y bytes maxL rt (.code y bytes maxL rt :: Big) (rmS k) 0 0 na := by
    refine cwV na hts (big_sub (fun w hw => ?_)) rfl rfl rfl ⟨rfl, h6⟩ hR
    unfold wsV at hw
    rcases List.mem_append.mp hw with hw | hw
    · simp only [List.mem_cons, List.not_mem_nil, or_false] at hw
      rcases hw with rfl | rfl | rfl | rfl <;> assumption
    · rcases List.mem_cons.mp hw with rfl | hw
      · exact h5
      · exact hw
  have hr := va_runV (locs := locs) (l := l) (e := e) (below := below) (meth := meth) (cells := cells) (slots := slots) (As := As) (rest := rest) (g := F0 m pc ls st) ⟨hx, hb, hml, hown, hts⟩ (hM H.size) hcw ⟨cPre_blind, ⟨cell, o1, o2, o3⟩, hpre⟩ rfl hna hz hst (lv_room hroom) hdg hcc
  refine call_i (f := fun _ : Unit => v) (w1 := fun _ : Unit => []) (wc := []) (wr := ws) (mc := 0) (ms := 0) C' hr hP hD hS [] (List.range ws.length) rfl (range_get _) (va_nd_range _) (fun i _ h => nomatch h) (fun _ H1 locs1 h1 h2 h3 => ?_)
  rw [List.append_nil] at h1 h2
  exact kk H1 locs1 h1 h2 h3
theorem call_TS {y : MethodName} {bytes : ByteArray} {maxL na idx k : Nat} {rt : Option FieldType} {v : Int32} (C : Cx p s m args meth c cc n ret y0 D T A) (hM : cMr l y bytes maxL rt D T As v k) (cv : CS y0.cls idx y bytes maxL rt na) (hP : va_P D CL ws H) (hD : va_D A ws) (hS : va_S A s.heap H locs) (hna : As.length = na) (hz : ls.size = n) (hst : st = As.reverse ++ rest) (hroom : (rest.map fun v => v.category).sum ≤ 8) (hdg : decode cc pc = .ok (.invokestatic idx, 3))
    (hR : (rmS k).frames + 1 ≤ R.frames ∧ 8 + (maxL + 11) + (rmS k).locals ≤ R.locals) (hcc : cells ≤ R.cells ∧ slots ≤ R.slots)
    (kk : ∀ (H1 : Heap) (locs1 : List Loc), va_P D CL ws H1 → va_D A ws → va_S A s.heap H1 locs1 → W p l e R s m args below meth c H1 locs1 cells slots Q (F0 m (pc + 3) ls (.int v :: rest))) : W p l e R s m args below meth c H locs cells slots Q (F0 m pc ls st) := by
  have hpre := pre_of (av := As) C hP hD hS (wc := []) [] rfl rfl
  have C' := C
  obtain ⟨hx, hb, hml, hown, hts, hK, -⟩ := C
  obtain ⟨h1, h2, h4, h5, h6⟩ := cv
  have hcw : CallB R s args y0.cls idx y bytes maxL rt (.code y bytes maxL rt :: Big) (rmS k) 0 0 na ∧ (Cond.static y).before args s = true := by
    refine va_cwS na hts (big_sub (fun w hw => ?_)) rfl rfl rfl h6 hR
    unfold va_wsS at hw
    rcases List.mem_append.mp hw with hw | hw
    · simp only [List.mem_cons, List.not_mem_nil, or_false] at hw
      rcases hw with rfl | rfl | rfl <;> assumption
    · rcases List.mem_cons.mp hw with rfl | hw
      · exact h5
      · exact hw
  have hr := va_runS (locs := locs) (l := l) (e := e) (below := below) (meth := meth) (cells := cells) (slots := slots) (As := As) (rest := rest) (g := F0 m pc ls st) ⟨hx, hb, hml, hown, hts⟩ (hM H.size) hcw ⟨cPre_blind, hpre⟩ rfl hna hz hst (lv_room hroom) hdg hcc
  refine call_i (f := fun _ : Unit => v) (w1 := fun _ : Unit => []) (wc := []) (wr := ws) (mc := 0) (ms := 0) C' hr hP hD hS [] (List.range ws.length) rfl (range_get _) (va_nd_range _) (fun i _ h => nomatch h) (fun _ H1 locs1 h1 h2 h3 => ?_)
  rw [List.append_nil] at h1 h2
  exact kk H1 locs1 h1 h2 h3
end Txt
