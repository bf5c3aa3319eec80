theorem tx_all : ∀ t ∈ TXS, t.length < 100 ∧ ∀ b ∈ t, ((b &&& 255).toUInt32 % 65536).toInt32 = b ∧ narrow .char (.int b) = .int b := by decide +kernel
def cMz (l : Launch) (y : MethodName) (cc : ByteArray) (n : Nat) (D : va_G) (T : List (ClassId × FieldType)) (av : List Value) (k : Nat) : Prop :=
  ∀ sz, Met l y (.code y cc n none :: Big) (rmS k) (cPre D T av [] sz) (qV D T (fun _ : Unit => []) (va_A [] sz)) 0 0 (va_A [] sz)
section Str
variable {l : Launch} {D : va_G} {T : List (ClassId × FieldType)}
theorem enterZ {y : MethodName} {cc : ByteArray} {n : Nat} {av : List Value} {k : Nat} (hy : plainName y.cls = true) (hn : (lg_sl av).length ≤ n)
    (body : ∀ (p : Program) (e : Env) (s : State) (m : MethodId) (below : List Frame) (meth : Method) (c : Code) (ls : Array Slot) (A : Nat → Prop), Cx p s m av.toArray meth c cc n none y D T A → va_P D CL [] s.heap → va_D A [] → va_S A s.heap s.heap [] → lv_has ls n (lv_args 0 av) →
      W p l e (rmS k) s m av.toArray below meth c s.heap [] 0 0 (MQ below (qV D T (fun _ : Unit => []) A) av.toArray s 0 0 A) (F0 m 0 ls [])) : cMz l y cc n D T av k := by
  intro sz
  refine Met.ofW (cc := cc) (maxL := n) (ret := none) hy rfl ?_
  intro p e s m args below meth c s₁ B hml hv
  obtain ⟨rfl, hsz, hP, hK, hD0, hXw, hSx⟩ := hv
  subst hsz
  have hts := atoms_spec (ws := .code y cc n none :: Big) B.pre
  have hl := lv_entry av (n := n) hn
  rw [lg_entry_eq]
  exact body p e s m below meth c _ _ ⟨B.exec, B.bytes, hml, findClass_of_methodNamed B.named, fun w h => hts w (List.mem_cons_of_mem _ h), hK, fun q h => Or.inr h, hXw, hSx, B.notSynchronized, B.returns, fun h => (name_of_methodNamed B.named B.method).1.trans h⟩ hP hD0.self va_S.rf hl
theorem tx_coder {j : Nat} {t : List Int32} (hj : TXS[j]? = some t) : cMr l yJ0_coder_7d493 cJ0_coder_7d493 1 (some .byte) D T [.ref (D.2 1000 j)] 0 1 := by
  refine enterR (by decide +kernel) (Nat.le_refl _) (fun p e s m below meth c ls A C hP hD hS hl => ?_)
  have hC := C
  obtain ⟨hx, hb, hml, hown, hts, hK, -, hXw, -⟩ := C
  have hV := hXw.2.2
  refine va_gets hx hb hV.2.1 hS hown (hts _ wq_30) (fun _ h => h) dq_J0_coder_7d493_0 ?_
  refine lv_if_eq hx hb dq_J0_coder_7d493_3 (tgt := 13) rfl (fun h => absurd h (by decide)) (fun _ => ?_)
  refine lv_aload_n hx hb dq_J0_coder_7d493_6 rfl (lv_at hl 0 rfl) ?_
  refine vk_getf hx hb (hV.1 j t hj).2.1 hS hown (hts _ wq_32) (fun _ h => h) dq_J0_coder_7d493_7 ?_
  refine lv_goto hx hb dq_J0_coder_7d493_10 (tgt := 14) rfl ?_
  exact r_nret hC hP hD hS () rfl rfl rfl (Nat.le_refl _) (Nat.le_refl _) dq_J0_coder_7d493_14
theorem tx_latin {j : Nat} {t : List Int32} (hj : TXS[j]? = some t) : cMr l yJ0_isLatin1_aae02 cJ0_isLatin1_aae02 1 (some .boolean) D T [.ref (D.2 1000 j)] 1 1 := by
  refine enterR (by decide +kernel) (Nat.le_refl _) (fun p e s m below meth c ls A C hP hD hS hl => ?_)
  have hC := C
  obtain ⟨hx, hb, hml, hown, hts, hK, -, hXw, -⟩ := C
  have hV := hXw.2.2
  refine va_gets hx hb hV.2.1 hS hown (hts _ wq_30) (fun _ h => h) dq_J0_isLatin1_aae02_0 ?_
  refine lv_if_eq hx hb dq_J0_isLatin1_aae02_3 (tgt := 17) rfl (fun h => absurd h (by decide)) (fun _ => ?_)
  refine lv_aload_n hx hb dq_J0_isLatin1_aae02_6 rfl (lv_at hl 0 rfl) ?_
  refine vk_getf hx hb (hV.1 j t hj).2.1 hS hown (hts _ wq_32) (fun _ h => h) dq_J0_isLatin1_aae02_7 ?_
  refine lv_if_ne hx hb dq_J0_isLatin1_aae02_10 (tgt := 17) rfl (fun h => absurd rfl h) (fun _ => ?_)
  refine lv_iconst hx hb dq_J0_isLatin1_aae02_13 rfl ?_
  refine lv_goto hx hb dq_J0_isLatin1_aae02_14 (tgt := 18) rfl ?_
  exact r_nret hC hP hD hS () rfl rfl rfl (Nat.le_refl _) (Nat.le_refl _) dq_J0_isLatin1_aae02_18
theorem tx_check3 {x n : Int32} {v : Value} (hv : v = .null ∨ ∃ t, v = .ref t) (h0 : ¬ x < 0) (h1 : x < n) : cMr l yJ3_checkIndex_8e157 cJ3_checkIndex_8e157 3 (some .int) D T [.int x, .int n, v] x 1 := by
  refine enterR (by decide +kernel) (by rcases hv with rfl | ⟨t, rfl⟩ <;> exact Nat.le_refl _) (fun p e s m below meth c ls A C hP hD hS hl => ?_)
  have hC := C
  obtain ⟨hx, hb, hml, hown, hts, hK, -, hXw, -⟩ := C
  refine lv_iload_n hx hb dq_J3_checkIndex_8e157_0 rfl (lv_at hl 0 rfl) ?_
  refine lv_if_lt hx hb dq_J3_checkIndex_8e157_1 (tgt := 9) rfl (fun h => absurd h h0) (fun _ => ?_)
  refine lv_iload_n hx hb dq_J3_checkIndex_8e157_4 rfl (lv_at hl 0 rfl) ?_
  refine lv_iload_n hx hb dq_J3_checkIndex_8e157_5 rfl (lv_at hl 1 rfl) ?_
  refine lv_icmp_lt hx hb dq_J3_checkIndex_8e157_6 (tgt := 16) rfl (fun _ => ?_) (fun h => absurd h1 h)
  refine lv_iload_n hx hb dq_J3_checkIndex_8e157_16 rfl (lv_at hl 0 rfl) ?_
  exact r_iret hC hP hD hS () rfl rfl (Nat.le_refl _) (Nat.le_refl _) dq_J3_checkIndex_8e157_17
theorem tx_check {x n : Int32} (h0 : ¬ x < 0) (h1 : x < n) : cMz l yJ0_checkIndex_df160 cJ0_checkIndex_df160 2 D T [.int x, .int n] 2 := by
  refine enterZ (by decide +kernel) (Nat.le_refl _) (fun p e s m below meth c ls A hC hP hD hS hl => ?_)
  have C := hC
  obtain ⟨hx, hb, -, hown, hts, -, -, hXw, -⟩ := C
  refine lv_iload_n hx hb dq_J0_checkIndex_df160_0 rfl (lv_at hl 0 rfl) ?_
  refine lv_iload_n hx hb dq_J0_checkIndex_df160_1 rfl (lv_at hl 1 rfl) ?_
  have key : ∀ v : Value, (v = .null ∨ ∃ t, v = .ref t) → va_Z "jdk/internal/util/Preconditions" "SIOOBE_FORMATTER" "Ljava/util/function/BiFunction;" v A s s.heap → W p l e (rmS 2) s m [.int x, .int n].toArray below meth c s.heap [] 0 0 (MQ below (qV D T (fun _ : Unit => []) A) [.int x, .int n].toArray s 0 0 A) (F0 m 2 ls [.int n, .int x]) := by
    intro v hv hZ
    refine va_gets hx hb hZ hS hown (hts _ wq_33) (fun _ h => h) dq_J0_checkIndex_df160_2 ?_
    refine call_TS (As := [.int x, .int n, v]) (rest := []) hC (tx_check3 hv h0 h1) cq_J0_1059 hP hD hS rfl hl.1 rfl (by decide) dq_J0_checkIndex_df160_5 (by decide) (by decide) (fun H1 locs1 h1 h2 h3 => ?_)
    refine lv_pop hx hb dq_J0_checkIndex_df160_8 rfl ?_
    exact r_vret hC h1 h2 h3 () rfl (Nat.le_refl _) (Nat.le_refl _) dq_J0_checkIndex_df160_9
  rcases hXw.2.2.2.2 with hz | ⟨t, hz⟩
  · exact key .null (Or.inl rfl) hz
  · exact key (.ref t) (Or.inr ⟨t, rfl⟩) hz
theorem len_lt {t : List Int32} {x : Int32} (ht : t.length < 100) (h : inN x t.length = true) : ¬ x < 0 ∧ x < Int32.ofNat t.length := by
  simp only [inN, Bool.and_eq_true, decide_eq_true_eq] at h
  refine ⟨h.1, ?_⟩
  rw [Int32.lt_iff_toInt_lt]
  have h1 : x.toNatClampNeg = x.toInt.toNat := rfl
  have h2 : (Int32.ofNat t.length).toInt = (t.length : Int) := by
    have : Int32.ofNat t.length = Int32.ofInt (t.length : Int) := rfl
    rw [this, i32_of (by omega) (by omega)]
  have h3 : ¬ x.toInt < 0 := fun q => h.1 (by rw [Int32.lt_iff_toInt_lt]; exact q)
  omega
theorem tx_char1 {j : Nat} {t : List Int32} (hj : TXS[j]? = some t) {x : Int32} (hx0 : inN x t.length = true) : cMr l yJ1_charAt_3b067 cJ1_charAt_3b067 2 (some .char) D T [.ref (D.2 1001 j), .int x] (t.getD x.toNatClampNeg 0) 3 := by
  have ha := tx_all t (List.mem_of_getElem? hj)
  have hlt := len_lt ha.1 hx0
  have hin : x.toNatClampNeg < t.length := by
    simp only [inN, Bool.and_eq_true, decide_eq_true_eq] at hx0
    exact hx0.2
  have hmem : t.getD x.toNatClampNeg 0 ∈ t := by
    rw [List.getD_eq_getElem?_getD, List.getElem?_eq_getElem hin]
    exact List.getElem_mem hin
  have hb9 := ha.2 _ hmem
  refine enterR (by decide +kernel) (Nat.le_refl _) (fun p e s m below meth c ls A C hP hD hS hl => ?_)
  have hC := C
  obtain ⟨hx, hb, hml, hown, hts, hK, -, hXw, -⟩ := C
  have hV := hXw.2.2
  refine lv_iload_n hx hb dq_J1_charAt_3b067_0 rfl (lv_at hl 1 rfl) ?_
  refine lv_aload_n hx hb dq_J1_charAt_3b067_1 rfl (lv_at hl 0 rfl) ?_
  refine va_tlen hx hb (hV.1 j t hj).2.2.2 hS rfl dq_J1_charAt_3b067_2 ?_
  have hpre := pre_of (av := [.int x, .int (Int32.ofNat t.length)]) hC hP hD hS (wc := []) [] rfl rfl
  obtain ⟨w1, w2, w4, w5, w6⟩ := cq_J1_9
  have hcw : CallB (rmS 3) s [.ref (D.2 1001 j), .int x].toArray RJ1 9 yJ0_checkIndex_df160 cJ0_checkIndex_df160 2 none (.code yJ0_checkIndex_df160 cJ0_checkIndex_df160 2 none :: Big) (rmS 2) 0 0 2 ∧ (Cond.static yJ0_checkIndex_df160).before [.ref (D.2 1001 j), .int x].toArray s = true := by
    refine va_cwS 2 hts (big_sub (fun w hw => ?_)) rfl rfl rfl w6 (by decide)
    unfold va_wsS at hw
    rcases List.mem_append.mp hw with hw | hw
    · simp only [List.mem_cons, List.not_mem_nil, or_false] at hw
      rcases hw with rfl | rfl | rfl <;> assumption
    · rcases List.mem_cons.mp hw with rfl | hw
      · exact w5
      · exact hw
  have hr := va_runS (locs := []) (l := l) (e := e) (below := below) (meth := meth) (cells := 0) (slots := 0) (R := rmS 3) (As := [.int x, .int (Int32.ofNat t.length)]) (rest := []) (g := F0 m 3 ls [.int (Int32.ofNat t.length), .int x]) ⟨hx, hb, hml, hown, hts⟩ (tx_check hlt.1 hlt.2 s.heap.size) hcw ⟨cPre_blind, hpre⟩ rfl rfl hl.1 rfl (lv_room (by decide)) dq_J1_charAt_3b067_3 (by decide)
  refine call_v (w1 := fun _ : Unit => []) (wc := []) (wr := []) (mc := 0) (ms := 0) hC hr hP hD hS [] [] rfl rfl rfl (fun i _ h => nomatch h) (fun _ H1 locs1 h1 h2 h3 => ?_)
  refine lv_aload_n hx hb dq_J1_charAt_3b067_6 rfl (lv_at hl 0 rfl) ?_
  refine lv_iload_n hx hb dq_J1_charAt_3b067_7 rfl (lv_at hl 1 rfl) ?_
  refine va_tb hx hb (hV.1 j t hj).2.2.2 h3 (inN_in hx0) rfl dq_J1_charAt_3b067_8 ?_
  refine lv_sipush hx hb dq_J1_charAt_3b067_9 rfl ?_
  refine lv_iand hx hb dq_J1_charAt_3b067_12 ?_
  refine lv_i2c hx hb dq_J1_charAt_3b067_13 hb9.1 ?_
  exact r_nret hC h1 h2 h3 () rfl rfl hb9.2 (Nat.le_refl _) (Nat.le_refl _) dq_J1_charAt_3b067_14
theorem tx_charAt {j : Nat} {t : List Int32} (hj : TXS[j]? = some t) {x : Int32} (hx0 : inN x t.length = true) : cMr l yJ0_charAt_5068e cJ0_charAt_5068e 2 (some .char) D T [.ref (D.2 1000 j), .int x] (t.getD x.toNatClampNeg 0) 4 := by
  have ha := tx_all t (List.mem_of_getElem? hj)
  have hin : x.toNatClampNeg < t.length := by
    simp only [inN, Bool.and_eq_true, decide_eq_true_eq] at hx0
    exact hx0.2
  have hmem : t.getD x.toNatClampNeg 0 ∈ t := by
    rw [List.getD_eq_getElem?_getD, List.getElem?_eq_getElem hin]
    exact List.getElem_mem hin
  have hb9 := ha.2 _ hmem
  refine enterR (by decide +kernel) (Nat.le_refl _) (fun p e s m below meth c ls A C hP hD hS hl => ?_)
  have hC := C
  obtain ⟨hx, hb, hml, hown, hts, hK, -, hXw, -⟩ := C
  have hV := hXw.2.2
  refine lv_aload_n hx hb dq_J0_charAt_5068e_0 rfl (lv_at hl 0 rfl) ?_
  refine call_T (As := []) (rest := []) hC (tx_latin hj) cq_J0_492 (hV.1 j t hj).1 hP hD hS rfl hl.1 rfl (by decide) dq_J0_charAt_5068e_1 (by decide) (by decide) (fun H1 locs1 h1 h2 h3 => ?_)
  refine lv_if_eq hx hb dq_J0_charAt_5068e_4 (tgt := 16) rfl (fun h => absurd h (by decide)) (fun _ => ?_)
  refine lv_aload_n hx hb dq_J0_charAt_5068e_7 rfl (lv_at hl 0 rfl) ?_
  refine vk_getf hx hb (hV.1 j t hj).2.2.1 h3 hown (hts _ wq_31) (fun _ h => h) dq_J0_charAt_5068e_8 ?_
  refine lv_iload_n hx hb dq_J0_charAt_5068e_11 rfl (lv_at hl 1 rfl) ?_
  refine call_TS (As := [.ref (D.2 1001 j), .int x]) (rest := []) hC (tx_char1 hj hx0) cq_J0_495 h1 h2 h3 rfl hl.1 rfl (by decide) dq_J0_charAt_5068e_12 (by decide) (by decide) (fun H2 locs2 k1 k2 k3 => ?_)
  exact r_nret hC k1 k2 k3 () rfl rfl hb9.2 (Nat.le_refl _) (Nat.le_refl _) dq_J0_charAt_5068e_15
theorem tx_length {j : Nat} {t : List Int32} (hj : TXS[j]? = some t) : cMr l yJ0_length_8abf5 cJ0_length_8abf5 1 (some .int) D T [.ref (D.2 1000 j)] (Int32.ofNat t.length) 2 := by
  refine enterR (by decide +kernel) (Nat.le_refl _) (fun p e s m below meth c ls A C hP hD hS hl => ?_)
  have hC := C
  obtain ⟨hx, hb, hml, hown, hts, hK, -, hXw, -⟩ := C
  have hV := hXw.2.2
  refine lv_aload_n hx hb dq_J0_length_8abf5_0 rfl (lv_at hl 0 rfl) ?_
  refine vk_getf hx hb (hV.1 j t hj).2.2.1 hS hown (hts _ wq_31) (fun _ h => h) dq_J0_length_8abf5_1 ?_
  refine va_tlen hx hb (hV.1 j t hj).2.2.2 hS rfl dq_J0_length_8abf5_4 ?_
  refine lv_aload_n hx hb dq_J0_length_8abf5_5 rfl (lv_at hl 0 rfl) ?_
  refine call_T (As := []) (rest := [.int (Int32.ofNat t.length)]) hC (tx_coder hj) cq_J0_335 (hV.1 j t hj).1 hP hD hS rfl hl.1 rfl (show 1 ≤ 8 by decide) dq_J0_length_8abf5_6 (by decide) (by decide) (fun H1 locs1 h1 h2 h3 => ?_)
  refine lv_ishr hx hb dq_J0_length_8abf5_9 ?_
  have e0 : Int32.ofNat t.length >>> ((0 : Int32) &&& 31) = Int32.ofNat t.length := by
    rw [show ((0 : Int32) &&& 31) = 0 from rfl]
    exact Int32.shiftRight_zero
  rw [e0]
  exact r_iret hC h1 h2 h3 () rfl rfl (Nat.le_refl _) (Nat.le_refl _) dq_J0_length_8abf5_10
end Str
