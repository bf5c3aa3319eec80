theorem t_0 : Cond.laysStatic Bundle.tN "UNASSIGNED_STACK" Bundle.steD ∈ lw_tbl := List.mem_append_right _ (List.mem_of_getElem? (i := 448) (by decide +kernel))
theorem t_1 : Cond.laysStatic Bundle.tN "SUPPRESSED_SENTINEL" Bundle.listD ∈ lw_tbl := List.mem_append_right _ (List.mem_of_getElem? (i := 450) (by decide +kernel))
theorem t_2 : Cond.initialized Bundle.tN ∈ lw_tbl := List.mem_append_right _ (List.mem_of_getElem? (i := 13) (by decide +kernel))
theorem t_3 : Cond.laysStatic "java/lang/String" "COMPACT_STRINGS" "Z" ∈ lw_tbl := List.mem_append_right _ (List.mem_of_getElem? (i := 530) (by decide +kernel))
theorem t_4 : Cond.initialized "java/lang/String" ∈ lw_tbl := List.mem_append_right _ (List.mem_of_getElem? (i := 18) (by decide +kernel))
theorem t_5 : Cond.laysStatic "jdk/internal/util/Preconditions" "SIOOBE_FORMATTER" "Ljava/util/function/BiFunction;" ∈ lw_tbl := List.mem_append_right _ (List.mem_of_getElem? (i := 546) (by decide +kernel))
theorem t_6 : Cond.initialized "jdk/internal/util/Preconditions" ∈ lw_tbl := List.mem_append_right _ (List.mem_of_getElem? (i := 20) (by decide +kernel))
theorem v_0 : Cond.isRef (.static Bundle.tN "UNASSIGNED_STACK" Bundle.steD) ∈ flatC (Jvm.Cond.and given_1 narrow_1) := by decide +kernel
theorem v_1 : Cond.isRef (.static Bundle.tN "SUPPRESSED_SENTINEL" Bundle.listD) ∈ flatC (Jvm.Cond.and given_1 narrow_1) := by decide +kernel
theorem v_2 : Cond.eq (.static "java/lang/String" "COMPACT_STRINGS" "Z") (.int 1) ∈ flatC (Jvm.Cond.and given_1 narrow_1) := by decide +kernel
theorem v_3 : Cond.isRef (.static "jdk/internal/util/Preconditions" "SIOOBE_FORMATTER" "Ljava/util/function/BiFunction;") ∈ flatC (Jvm.Cond.and given_1 narrow_1) := by decide +kernel
theorem t_7 : Cond.stringRef RX11 125 "not so many bytes in the buffe\x72" ∈ lw_tbl := List.mem_append_right _ (List.mem_of_getElem? (i := 462) (by decide +kernel))
theorem t_8 : Cond.stringRef RX11 139 "the text has an erro\x72" ∈ lw_tbl := List.mem_append_right _ (List.mem_of_getElem? (i := 669) (by decide +kernel))
theorem t_9 : Cond.stringRef RX11 313 "there are 6 guards" ∈ lw_tbl := List.mem_append_right _ (List.mem_of_getElem? (i := 1382) (by decide +kernel))
theorem t_10 : Cond.stringRef RX11 340 "there are 12 vertices" ∈ lw_tbl := List.mem_append_right _ (List.mem_of_getElem? (i := 1455) (by decide +kernel))
theorem t_11 : Cond.stringRef RX11 349 "no change can be undone" ∈ lw_tbl := List.mem_append_right _ (List.mem_of_getElem? (i := 1475) (by decide +kernel))
theorem t_12 : Cond.stringRef RX11 358 "nothing is saved there" ∈ lw_tbl := List.mem_append_right _ (List.mem_of_getElem? (i := 1498) (by decide +kernel))
theorem t_13 : Cond.stringRef RX11 360 "no polygon" ∈ lw_tbl := List.mem_append_right _ (List.mem_of_getElem? (i := 730) (by decide +kernel))
theorem t_14 : Cond.stringRef RX11 362 "no such index" ∈ lw_tbl := List.mem_append_right _ (List.mem_of_getElem? (i := 740) (by decide +kernel))
theorem t_15 : Cond.stringRef RX11 364 "argument out of range" ∈ lw_tbl := List.mem_append_right _ (List.mem_of_getElem? (i := 960) (by decide +kernel))
theorem t_16 : Cond.stringRef RX11 376 "this change of the polygon is not possible" ∈ lw_tbl := List.mem_append_right _ (List.mem_of_getElem? (i := 1447) (by decide +kernel))
theorem t_17 : Cond.stringRef RX5 41 "polygon" ∈ lw_tbl := List.mem_append_right _ (List.mem_of_getElem? (i := 516) (by decide +kernel))
theorem t_18 : Cond.stringRef RX5 83 "guard" ∈ lw_tbl := List.mem_append_right _ (List.mem_of_getElem? (i := 641) (by decide +kernel))
theorem t_19 : Cond.stringRef RX5 91 "treasure" ∈ lw_tbl := List.mem_append_right _ (List.mem_of_getElem? (i := 651) (by decide +kernel))
theorem t_20 : Cond.stringRef RX5 99 "range" ∈ lw_tbl := List.mem_append_right _ (List.mem_of_getElem? (i := 646) (by decide +kernel))
theorem t_21 : Cond.stringRef RX12 159 "polygon" ∈ lw_tbl := List.mem_append_right _ (List.mem_of_getElem? (i := 1683) (by decide +kernel))
theorem t_22 : Cond.stringRef RX12 176 "range" ∈ lw_tbl := List.mem_append_right _ (List.mem_of_getElem? (i := 1748) (by decide +kernel))
theorem t_23 : Cond.stringRef RX12 181 "guard" ∈ lw_tbl := List.mem_append_right _ (List.mem_of_getElem? (i := 1742) (by decide +kernel))
theorem t_24 : Cond.stringRef RX12 183 "treasure" ∈ lw_tbl := List.mem_append_right _ (List.mem_of_getElem? (i := 1743) (by decide +kernel))
theorem t_25 : Cond.arrayOver (.object "GalleryGuards$Plan") ∈ lw_tbl := List.mem_append_right _ (List.mem_of_getElem? (i := 304) (by decide +kernel))
theorem v_4 : Cond.not (.castable "java/lang/IllegalArgumentException" "java/lang/IllegalStateException") ∈ flatC (Jvm.Cond.and given_1 narrow_1) := by decide +kernel
theorem v_5 : Cond.not (.castable "java/lang/IndexOutOfBoundsException" "java/lang/IllegalStateException") ∈ flatC (Jvm.Cond.and given_1 narrow_1) := by decide +kernel
theorem v_6 : Cond.not (.castable "java/lang/IndexOutOfBoundsException" "java/lang/IllegalArgumentException") ∈ flatC (Jvm.Cond.and given_1 narrow_1) := by decide +kernel
theorem v_7 : Cond.not (.castable "java/lang/IllegalStateException" "java/lang/IllegalArgumentException") ∈ flatC (Jvm.Cond.and given_1 narrow_1) := by decide +kernel
theorem v_8 : Cond.not (.castable "java/lang/IllegalArgumentException" "java/lang/IndexOutOfBoundsException") ∈ flatC (Jvm.Cond.and given_1 narrow_1) := by decide +kernel
theorem v_9 : Cond.not (.castable "java/lang/IllegalStateException" "java/lang/IndexOutOfBoundsException") ∈ flatC (Jvm.Cond.and given_1 narrow_1) := by decide +kernel
theorem t_26 : Cond.declares ⟨"java/lang/Throwable", "<init>", "(Ljava/lang/String;)V"⟩ ∈ lw_tbl := List.mem_append_right _ (List.mem_of_getElem? (i := 429) (by decide +kernel))
theorem t_27 : Cond.declares ⟨"java/lang/Exception", "<init>", "(Ljava/lang/String;)V"⟩ ∈ lw_tbl := List.mem_append_right _ (List.mem_of_getElem? (i := 427) (by decide +kernel))
theorem t_28 : Cond.declares ⟨"java/lang/RuntimeException", "<init>", "(Ljava/lang/String;)V"⟩ ∈ lw_tbl := List.mem_append_right _ (List.mem_of_getElem? (i := 425) (by decide +kernel))
theorem t_29 : Cond.castable "java/lang/IllegalArgumentException" "java/lang/IllegalArgumentException" ∈ lw_tbl := List.mem_append_right _ (List.mem_of_getElem? (i := 662) (by decide +kernel))
theorem t_30 : Cond.castable "java/lang/IndexOutOfBoundsException" "java/lang/IndexOutOfBoundsException" ∈ lw_tbl := List.mem_append_right _ (List.mem_of_getElem? (i := 423) (by decide +kernel))
theorem t_31 : Cond.castable "java/lang/IllegalStateException" "java/lang/IllegalStateException" ∈ lw_tbl := List.mem_append_right _ (List.mem_of_getElem? (i := 723) (by decide +kernel))
theorem t_32 : Cond.methodLinkNest RX10 60 yX11_has "GalleryGuards" ∈ lw_tbl := List.mem_append_right _ (List.mem_of_getElem? (i := 1233) (by decide +kernel))
theorem t_33 : Cond.methodLinkNest RX8 48 yX11_has "GalleryGuards" ∈ lw_tbl := List.mem_append_right _ (List.mem_of_getElem? (i := 1135) (by decide +kernel))
theorem t_34 : Cond.methodLinkNest RX7 74 yX11_has "GalleryGuards" ∈ lw_tbl := List.mem_append_right _ (List.mem_of_getElem? (i := 843) (by decide +kernel))
theorem t_35 : Cond.methodLinkNest RX0 92 yX11_has "GalleryGuards" ∈ lw_tbl := List.mem_append_right _ (List.mem_of_getElem? (i := 1076) (by decide +kernel))
theorem t_36 : Cond.methodLinkNest RX1 24 yX6_init "GalleryGuards" ∈ lw_tbl := List.mem_append_right _ (List.mem_of_getElem? (i := 305) (by decide +kernel))
theorem t_37 : Cond.methodLinkNest RX11 28 yX3_init "GalleryGuards" ∈ lw_tbl := List.mem_append_right _ (List.mem_of_getElem? (i := 124) (by decide +kernel))
theorem t_38 : Cond.methodLinkNest RX11 18 yX6_init "GalleryGuards" ∈ lw_tbl := List.mem_append_right _ (List.mem_of_getElem? (i := 71) (by decide +kernel))
theorem t_39 : Cond.methodLinkNest RX11 11 yX2_init "GalleryGuards" ∈ lw_tbl := List.mem_append_right _ (List.mem_of_getElem? (i := 38) (by decide +kernel))
def txF (own : String) (k : Nat) : Term := .field (.string own k) "java/lang/String" "value" "[B"
/-- what the Statement gives of a text -/
def txw (own : String) (k : Nat) (t : List Int32) : List Cond := Cond.exactly (.string own k) "java/lang/String" :: Cond.eq (.field (.string own k) "java/lang/String" "code\x72" "B") (.int 0) :: Cond.arrayOf (txF own k) .byte :: Cond.eq (.length (txF own k)) (.int (Int32.ofNat t.length)) :: (List.range t.length).map (fun j => Cond.eq (.elem (txF own k) (.int (Int32.ofNat j))) (.int (t.getD j 0)))
set_option maxRecDepth 100000 in
theorem txc_0 : ((flatC (Jvm.Cond.and given_1 narrow_1)).drop 53).take (4 + ((TXS[0]?).getD []).length) = txw ((strs[0]?).getD ("", 0, "")).1 ((strs[0]?).getD ("", 0, "")).2.1 ((TXS[0]?).getD []) := by decide +kernel
set_option maxRecDepth 100000 in
theorem txc_1 : ((flatC (Jvm.Cond.and given_1 narrow_1)).drop 139).take (4 + ((TXS[1]?).getD []).length) = txw ((strs[1]?).getD ("", 0, "")).1 ((strs[1]?).getD ("", 0, "")).2.1 ((TXS[1]?).getD []) := by decide +kernel
set_option maxRecDepth 100000 in
theorem txc_2 : ((flatC (Jvm.Cond.and given_1 narrow_1)).drop 246).take (4 + ((TXS[2]?).getD []).length) = txw ((strs[2]?).getD ("", 0, "")).1 ((strs[2]?).getD ("", 0, "")).2.1 ((TXS[2]?).getD []) := by decide +kernel
set_option maxRecDepth 100000 in
theorem txc_3 : ((flatC (Jvm.Cond.and given_1 narrow_1)).drop 333).take (4 + ((TXS[3]?).getD []).length) = txw ((strs[3]?).getD ("", 0, "")).1 ((strs[3]?).getD ("", 0, "")).2.1 ((TXS[3]?).getD []) := by decide +kernel
set_option maxRecDepth 100000 in
theorem txc_4 : ((flatC (Jvm.Cond.and given_1 narrow_1)).drop 369).take (4 + ((TXS[4]?).getD []).length) = txw ((strs[4]?).getD ("", 0, "")).1 ((strs[4]?).getD ("", 0, "")).2.1 ((TXS[4]?).getD []) := by decide +kernel
set_option maxRecDepth 100000 in
theorem txc_5 : ((flatC (Jvm.Cond.and given_1 narrow_1)).drop 408).take (4 + ((TXS[5]?).getD []).length) = txw ((strs[5]?).getD ("", 0, "")).1 ((strs[5]?).getD ("", 0, "")).2.1 ((TXS[5]?).getD []) := by decide +kernel
set_option maxRecDepth 100000 in
theorem txc_6 : ((flatC (Jvm.Cond.and given_1 narrow_1)).drop 169).take (4 + ((TXS[6]?).getD []).length) = txw ((strs[6]?).getD ("", 0, "")).1 ((strs[6]?).getD ("", 0, "")).2.1 ((TXS[6]?).getD []) := by decide +kernel
set_option maxRecDepth 100000 in
theorem txc_7 : ((flatC (Jvm.Cond.and given_1 narrow_1)).drop 189).take (4 + ((TXS[7]?).getD []).length) = txw ((strs[7]?).getD ("", 0, "")).1 ((strs[7]?).getD ("", 0, "")).2.1 ((TXS[7]?).getD []) := by decide +kernel
set_option maxRecDepth 100000 in
theorem txc_8 : ((flatC (Jvm.Cond.and given_1 narrow_1)).drop 213).take (4 + ((TXS[8]?).getD []).length) = txw ((strs[8]?).getD ("", 0, "")).1 ((strs[8]?).getD ("", 0, "")).2.1 ((TXS[8]?).getD []) := by decide +kernel
set_option maxRecDepth 100000 in
theorem txc_9 : ((flatC (Jvm.Cond.and given_1 narrow_1)).drop 277).take (4 + ((TXS[9]?).getD []).length) = txw ((strs[9]?).getD ("", 0, "")).1 ((strs[9]?).getD ("", 0, "")).2.1 ((TXS[9]?).getD []) := by decide +kernel
set_option maxRecDepth 100000 in
theorem txc_10 : ((flatC (Jvm.Cond.and given_1 narrow_1)).drop 88).take (4 + ((TXS[10]?).getD []).length) = txw ((strs[10]?).getD ("", 0, "")).1 ((strs[10]?).getD ("", 0, "")).2.1 ((TXS[10]?).getD []) := by decide +kernel
set_option maxRecDepth 100000 in
theorem txc_11 : ((flatC (Jvm.Cond.and given_1 narrow_1)).drop 100).take (4 + ((TXS[11]?).getD []).length) = txw ((strs[11]?).getD ("", 0, "")).1 ((strs[11]?).getD ("", 0, "")).2.1 ((TXS[11]?).getD []) := by decide +kernel
set_option maxRecDepth 100000 in
theorem txc_12 : ((flatC (Jvm.Cond.and given_1 narrow_1)).drop 123).take (4 + ((TXS[12]?).getD []).length) = txw ((strs[12]?).getD ("", 0, "")).1 ((strs[12]?).getD ("", 0, "")).2.1 ((TXS[12]?).getD []) := by decide +kernel
set_option maxRecDepth 100000 in
theorem txc_13 : ((flatC (Jvm.Cond.and given_1 narrow_1)).drop 111).take (4 + ((TXS[13]?).getD []).length) = txw ((strs[13]?).getD ("", 0, "")).1 ((strs[13]?).getD ("", 0, "")).2.1 ((TXS[13]?).getD []) := by decide +kernel
set_option maxRecDepth 100000 in
theorem txc_14 : ((flatC (Jvm.Cond.and given_1 narrow_1)).drop 447).take (4 + ((TXS[14]?).getD []).length) = txw ((strs[14]?).getD ("", 0, "")).1 ((strs[14]?).getD ("", 0, "")).2.1 ((TXS[14]?).getD []) := by decide +kernel
set_option maxRecDepth 100000 in
theorem txc_15 : ((flatC (Jvm.Cond.and given_1 narrow_1)).drop 524).take (4 + ((TXS[15]?).getD []).length) = txw ((strs[15]?).getD ("", 0, "")).1 ((strs[15]?).getD ("", 0, "")).2.1 ((TXS[15]?).getD []) := by decide +kernel
set_option maxRecDepth 100000 in
theorem txc_16 : ((flatC (Jvm.Cond.and given_1 narrow_1)).drop 472).take (4 + ((TXS[16]?).getD []).length) = txw ((strs[16]?).getD ("", 0, "")).1 ((strs[16]?).getD ("", 0, "")).2.1 ((TXS[16]?).getD []) := by decide +kernel
set_option maxRecDepth 100000 in
theorem txc_17 : ((flatC (Jvm.Cond.and given_1 narrow_1)).drop 496).take (4 + ((TXS[17]?).getD []).length) = txw ((strs[17]?).getD ("", 0, "")).1 ((strs[17]?).getD ("", 0, "")).2.1 ((TXS[17]?).getD []) := by decide +kernel
theorem txcA (j : Nat) (q : String × Nat × String) (t : List Int32) (hq : strs[j]? = some q) (ht : TXS[j]? = some t) : ∀ w ∈ txw q.1 q.2.1 t, w ∈ flatC (Jvm.Cond.and given_1 narrow_1) := by
  have key : ∀ (o n : Nat), ((flatC (Jvm.Cond.and given_1 narrow_1)).drop o).take n = txw q.1 q.2.1 t → ∀ w ∈ txw q.1 q.2.1 t, w ∈ flatC (Jvm.Cond.and given_1 narrow_1) := fun o n h w hw => List.mem_of_mem_drop (List.mem_of_mem_take (by rw [h]; exact hw))
  match j, hq, ht with
  | 0, hq, ht => cases hq; cases ht; exact key _ _ txc_0
  | 1, hq, ht => cases hq; cases ht; exact key _ _ txc_1
  | 2, hq, ht => cases hq; cases ht; exact key _ _ txc_2
  | 3, hq, ht => cases hq; cases ht; exact key _ _ txc_3
  | 4, hq, ht => cases hq; cases ht; exact key _ _ txc_4
  | 5, hq, ht => cases hq; cases ht; exact key _ _ txc_5
  | 6, hq, ht => cases hq; cases ht; exact key _ _ txc_6
  | 7, hq, ht => cases hq; cases ht; exact key _ _ txc_7
  | 8, hq, ht => cases hq; cases ht; exact key _ _ txc_8
  | 9, hq, ht => cases hq; cases ht; exact key _ _ txc_9
  | 10, hq, ht => cases hq; cases ht; exact key _ _ txc_10
  | 11, hq, ht => cases hq; cases ht; exact key _ _ txc_11
  | 12, hq, ht => cases hq; cases ht; exact key _ _ txc_12
  | 13, hq, ht => cases hq; cases ht; exact key _ _ txc_13
  | 14, hq, ht => cases hq; cases ht; exact key _ _ txc_14
  | 15, hq, ht => cases hq; cases ht; exact key _ _ txc_15
  | 16, hq, ht => cases hq; cases ht; exact key _ _ txc_16
  | 17, hq, ht => cases hq; cases ht; exact key _ _ txc_17
  | n + 18, hq, ht => simp [strs] at hq
theorem tx_of {own : String} {k : Nat} {t : List Int32} {args : Array Value} {s : State} {A : Nat → Prop} (ht9 : t.length < 100) (h : ∀ w ∈ txw own k t, w.before args s = true) (hA : ∀ a : Nat, a < s.heap.size → ¬ A a) : ∃ q : Nat × Nat, (Term.string own k).eval args s none [] s = some (.ref q.1) ∧ va_O "java/lang/String" q.1 A s s.heap ∧ va_OF "java/lang/String" "code\x72" "B" (.int 0) q.1 A s s.heap ∧ va_OF "java/lang/String" "value" "[B" (.ref q.2) q.1 A s s.heap ∧ va_T .byte q.2 t.length (fun i => .int (t.getD i 0)) A s s.heap := by
  have h0 := h _ (List.mem_cons_self ..)
  have h1 := h _ (List.mem_cons_of_mem _ (List.mem_cons_self ..))
  have h2 := h _ (List.mem_cons_of_mem _ (List.mem_cons_of_mem _ (List.mem_cons_self ..)))
  have h3 := h _ (List.mem_cons_of_mem _ (List.mem_cons_of_mem _ (List.mem_cons_of_mem _ (List.mem_cons_self ..))))
  obtain ⟨a, c, cA, kA, q1, -⟩ := Cond.exactly_spec (args := args) (first := s) (o := none) (s := s) (idx := []) (t := .string own k) (cls := "java/lang/String") h0
  obtain ⟨u, hu, hT⟩ := va_Tof (ty := .byte) (N := t.length) (f := fun i => .int (t.getD i 0)) (A := A) (Nat.lt_trans ht9 (by decide)) h2 (va_eqt h3) (fun j hj => va_eqt (h _ (List.mem_cons_of_mem _ (List.mem_cons_of_mem _ (List.mem_cons_of_mem _ (List.mem_cons_of_mem _ (List.mem_map.mpr ⟨j, List.mem_range.mpr hj, rfl⟩))))))) hA
  exact ⟨(a, u), q1, va_Oof h0 q1 hA, vk_OFof q1 (va_eqt h1) hA, vk_OFof q1 hu hA, hT⟩
theorem arr_of {ty : FieldType} {args : Array Value} {s : State} (h : (Cond.arrayClass ty).before args s = true) : ∃ cA : ClassId, ArrOfT s cA ty ∧ s.vm.findClass ("[" ++ ty.toString) = some cA := by
  obtain ⟨cA, kA, comp, a1, a2, a3⟩ := Cond.arrayClass_spec (args := args) (first := s) (o := none) (s := s) (idx := []) h
  exact ⟨cA, fun n z => ⟨fun k h => (by cases h), kA, a2, comp, a3⟩, a1⟩
theorem arr_plan {C : String} {s : State} (h : va_AO C s) : ∃ cA : ClassId, ArrOfT s cA (.object C) ∧ va_RA s cA (.object C) := by
  obtain ⟨comp, c, k, h1, h2, h3, h4, h5⟩ := Cond.arrayOver_spec h
  exact ⟨c, fun N z => ⟨(fun k h => by cases h), k, h3, comp, h4⟩, k, comp, h3, h4, h1, h5⟩
def srW : List Cond := [.stringRef RX11 125 "not so many bytes in the buffe\x72", .stringRef RX11 139 "the text has an erro\x72", .stringRef RX11 313 "there are 6 guards", .stringRef RX11 340 "there are 12 vertices", .stringRef RX11 349 "no change can be undone", .stringRef RX11 358 "nothing is saved there", .stringRef RX11 360 "no polygon", .stringRef RX11 362 "no such index", .stringRef RX11 364 "argument out of range", .stringRef RX11 376 "this change of the polygon is not possible", .stringRef RX5 41 "polygon", .stringRef RX5 83 "guard", .stringRef RX5 91 "treasure", .stringRef RX5 99 "range", .stringRef RX12 159 "polygon", .stringRef RX12 176 "range", .stringRef RX12 181 "guard", .stringRef RX12 183 "treasure"]
theorem srW_ok : ∀ w ∈ srW, w ∈ lw_tbl := List.forall_mem_cons.mpr ⟨t_7, List.forall_mem_cons.mpr ⟨t_8, List.forall_mem_cons.mpr ⟨t_9, List.forall_mem_cons.mpr ⟨t_10, List.forall_mem_cons.mpr ⟨t_11, List.forall_mem_cons.mpr ⟨t_12, List.forall_mem_cons.mpr ⟨t_13, List.forall_mem_cons.mpr ⟨t_14, List.forall_mem_cons.mpr ⟨t_15, List.forall_mem_cons.mpr ⟨t_16, List.forall_mem_cons.mpr ⟨t_17, List.forall_mem_cons.mpr ⟨t_18, List.forall_mem_cons.mpr ⟨t_19, List.forall_mem_cons.mpr ⟨t_20, List.forall_mem_cons.mpr ⟨t_21, List.forall_mem_cons.mpr ⟨t_22, List.forall_mem_cons.mpr ⟨t_23, List.forall_mem_cons.mpr ⟨t_24, fun _ h => absurd h List.not_mem_nil⟩⟩⟩⟩⟩⟩⟩⟩⟩⟩⟩⟩⟩⟩⟩⟩⟩⟩
theorem srW_all : ∀ (j : Nat) (q : String × Nat × String), strs[j]? = some q → Cond.stringRef q.1 q.2.1 q.2.2 ∈ srW := by
  intro j q h
  match j, h with
  | 0, h => cases h; exact List.mem_of_getElem? (i := 0) rfl
  | 1, h => cases h; exact List.mem_of_getElem? (i := 1) rfl
  | 2, h => cases h; exact List.mem_of_getElem? (i := 2) rfl
  | 3, h => cases h; exact List.mem_of_getElem? (i := 3) rfl
  | 4, h => cases h; exact List.mem_of_getElem? (i := 4) rfl
  | 5, h => cases h; exact List.mem_of_getElem? (i := 5) rfl
  | 6, h => cases h; exact List.mem_of_getElem? (i := 6) rfl
  | 7, h => cases h; exact List.mem_of_getElem? (i := 7) rfl
  | 8, h => cases h; exact List.mem_of_getElem? (i := 8) rfl
  | 9, h => cases h; exact List.mem_of_getElem? (i := 9) rfl
  | 10, h => cases h; exact List.mem_of_getElem? (i := 10) rfl
  | 11, h => cases h; exact List.mem_of_getElem? (i := 11) rfl
  | 12, h => cases h; exact List.mem_of_getElem? (i := 12) rfl
  | 13, h => cases h; exact List.mem_of_getElem? (i := 13) rfl
  | 14, h => cases h; exact List.mem_of_getElem? (i := 14) rfl
  | 15, h => cases h; exact List.mem_of_getElem? (i := 15) rfl
  | 16, h => cases h; exact List.mem_of_getElem? (i := 16) rfl
  | 17, h => cases h; exact List.mem_of_getElem? (i := 17) rfl
  | n + 18, h => simp [strs] at h
set_option maxHeartbeats 4000000 in
set_option maxRecDepth 100000 in
theorem law_ctx {p : Program} {s : State} {m : MethodId} {meth : Method} {c : Code} (l : Launch) (hflags : l.flags = flags0) {b L : Nat} {xs : Nat → Int32} (C0 : lw_At p s m meth c b L xs) : ∃ (D : va_G) (cs : Nat → ClassId), Cx p s m #[Value.ref b] meth c code 8 ret x D (T4 cs) (fun q => s.heap.size ≤ q) ∧ va_X b L xs s s.heap ∧ b < s.heap.size ∧ l.stackTraces = false := by
  obtain ⟨hx, hb, hr, hml, hown, hts, hX, hbl, hlocks, hgv⟩ := C0
  have hB : ∀ w ∈ Big, w.before #[Value.ref b] s = true := fun w h => hts w (List.mem_filter.mp h).1
  have hf := flat_of_before _ hgv
  have hnA : ∀ a : Nat, a < s.heap.size → ¬ (fun q => s.heap.size ≤ q) a := fun a h => Nat.not_le.mpr h
  obtain ⟨c0, i0, hKn0⟩ := u_known (C := RX0) (T := TX0) (N := 9) (n := 9) hB kc_X0.2.1 (hB _ wc_545)
  obtain ⟨c1, i1, hKn1⟩ := u_known (C := RX1) (T := TX1) (N := 3) (n := 3) hB kc_X1.2.1 (hB _ wc_577)
  obtain ⟨c2, i2, hKn2⟩ := u_known (C := RX2) (T := TX2) (N := 7) (n := 7) hB kc_X2.2.1 (hB _ wc_443)
  obtain ⟨c3, i3, hKn3⟩ := u_known (C := RX3) (T := TX3) (N := 5) (n := 5) hB kc_X3.2.1 (hB _ wc_490)
  obtain ⟨c4, i4, hKn4⟩ := u_known (C := RX5) (T := TX5) (N := 5) (n := 5) hB kc_X5.2.1 (hB _ wc_502)
  obtain ⟨c5, i5, hKn5⟩ := u_known (C := RX6) (T := TX6) (N := 11) (n := 11) hB kc_X6.2.1 (hB _ wc_478)
  obtain ⟨c6, i6, hKn6⟩ := u_known (C := RX7) (T := TX7) (N := 4) (n := 4) hB kc_X7.2.1 (hB _ wc_513)
  obtain ⟨c7, i7, hKn7⟩ := u_known (C := RX8) (T := TX8) (N := 5) (n := 5) hB kc_X8.2.1 (hB _ wc_557)
  obtain ⟨c8, i8, hKn8⟩ := u_known (C := RX9) (T := TX9) (N := 9) (n := 9) hB kc_X9.2.1 (hB _ wc_529)
  obtain ⟨c9, i9, hKn9⟩ := u_known (C := RX10) (T := TX10) (N := 3) (n := 3) hB kc_X10.2.1 (hB _ wc_567)
  obtain ⟨c10, i10, hKn10⟩ := u_known (C := RX11) (T := TX11) (N := 18) (n := 18) hB kc_X11.2.1 (hB _ wc_726)
  obtain ⟨c11, i11, hKn11⟩ := u_known (C := RX12) (T := TX12) (N := 41) (n := 41) hB kc_X12.2.1 (hB _ wc_728)
  obtain ⟨cI, aI, fI⟩ := arr_of (hB _ arw_int)
  obtain ⟨cZ, aZ, fZ⟩ := arr_of (hB _ arw_boolean)
  obtain ⟨cJ, aJ, fJ⟩ := arr_of (hB _ arw_long)
  have hAO : va_AO "GalleryGuards$Plan" s := va_AO.of (hts _ t_25)
  obtain ⟨cP, aP, fP⟩ := arr_plan hAO
  have htx : ∀ j : Nat, ∃ q9 : Nat × Nat, ∀ (q : String × Nat × String) (t : List Int32), strs[j]? = some q → TXS[j]? = some t → (Term.string q.1 q.2.1).eval #[Value.ref b] s none [] s = some (.ref q9.1) ∧ va_O "java/lang/String" q9.1 (fun q => s.heap.size ≤ q) s s.heap ∧ va_OF "java/lang/String" "code\x72" "B" (.int 0) q9.1 (fun q => s.heap.size ≤ q) s s.heap ∧ va_OF "java/lang/String" "value" "[B" (.ref q9.2) q9.1 (fun q => s.heap.size ≤ q) s s.heap ∧ va_T .byte q9.2 t.length (fun i => .int (t.getD i 0)) (fun q => s.heap.size ≤ q) s s.heap := by
    intro j
    cases h1 : strs[j]? with
    | none => exact ⟨(0, 0), fun q t h => nomatch h⟩
    | some q =>
      cases h2 : TXS[j]? with
      | none => exact ⟨(0, 0), fun q t _ h => nomatch h⟩
      | some t =>
        have hj : j < 18 := (List.getElem?_eq_some_iff.mp h1).1
        obtain ⟨q9, hq9⟩ := tx_of (own := q.1) (k := q.2.1) (t := t) (args := #[Value.ref b]) (s := s) (tx_all t (List.mem_of_getElem? h2)).1 (fun w hw => hf w (txcA j q t h1 h2 w hw)) hnA
        exact ⟨q9, fun q' t' e1 e2 => by cases e1; cases e2; exact hq9⟩
  obtain ⟨g, hg⟩ := Classical.axiomOfChoice htx
  have hKc : ∀ (k : Nat) (q : vw_C), CL[k]? = some q → u_Kn s q.1 q.2.1 q.2.2 (([c0, c1, c2, c3, c4, c5, c6, c7, c8, c9, c10, c11] : List ClassId).getD k c0) ((fun k => if k = 1000 then fun j => (g j).1 else if k = 1001 then fun j => (g j).2 else ([i0, i1, i2, i3, i4, i5, i6, i7, i8, i9, i10, i11] : List (Nat → Nat)).getD k i0) k) := by
    intro k q hq
    match k, hq with
    | 0, hq => cases hq; exact hKn0
    | 1, hq => cases hq; exact hKn1
    | 2, hq => cases hq; exact hKn2
    | 3, hq => cases hq; exact hKn3
    | 4, hq => cases hq; exact hKn4
    | 5, hq => cases hq; exact hKn5
    | 6, hq => cases hq; exact hKn6
    | 7, hq => cases hq; exact hKn7
    | 8, hq => cases hq; exact hKn8
    | 9, hq => cases hq; exact hKn9
    | 10, hq => cases hq; exact hKn10
    | 11, hq => cases hq; exact hKn11
    | k + 12, hq => simp [CL] at hq
  have hlt : l.stackTraces = false := by
    unfold Launch.stackTraces
    rw [hflags]
    decide +kernel
  refine ⟨(fun k => ([c0, c1, c2, c3, c4, c5, c6, c7, c8, c9, c10, c11] : List ClassId).getD k c0, fun k => if k = 1000 then fun j => (g j).1 else if k = 1001 then fun j => (g j).2 else ([i0, i1, i2, i3, i4, i5, i6, i7, i8, i9, i10, i11] : List (Nat → Nat)).getD k i0), fun k => ([cI, cZ, cJ, cP] : List ClassId).getD k cI, ⟨hx, hb, hml, hown, hB, ⟨hKc, ?_⟩, fun q h => h, ⟨vx_Zqof (hts _ t_0) (hts _ t_2) (hf _ v_0) hnA, vx_Zqof (hts _ t_1) (hts _ t_2) (hf _ v_1) hnA, ?_, va_Zof (hts _ t_3) (hts _ t_4) (va_eqi (hf _ v_2)) hnA, va_Zqof (hts _ t_5) (hts _ t_6) (hf _ v_3) hnA⟩, ⟨?_, hAO, ?_, ?_, ?_⟩, hlocks, hr, fun h => absurd h (by decide)⟩, hX, hbl, hlt⟩
  · intro k q hk
    match k, hk with
    | 0, hk => cases hk; exact ⟨aI, fI⟩
    | 1, hk => cases hk; exact ⟨aZ, fZ⟩
    | 2, hk => cases hk; exact ⟨aJ, fJ⟩
    | 3, hk => cases hk; exact ⟨aP, fP⟩
    | k + 4, hk => simp [T4] at hk
  · intro j t ht
    have hj : j < 18 := (List.getElem?_eq_some_iff.mp ht).1
    have hs : ∃ q, strs[j]? = some q := ⟨_, List.getElem?_eq_getElem (show j < strs.length from hj)⟩
    obtain ⟨q, hq⟩ := hs
    exact (hg j q t hq ht).2
  · intro j q hq
    have hj : j < 18 := (List.getElem?_eq_some_iff.mp hq).1
    have hs : ∃ t, TXS[j]? = some t := ⟨_, List.getElem?_eq_getElem (show j < TXS.length from hj)⟩
    obtain ⟨t, ht⟩ := hs
    exact vk_R.of (hts _ (srW_ok _ (srW_all j q hq))) (hg j q t hq ht).1
  · exact List.forall_mem_cons.mpr ⟨va_Nc.of (hf _ v_9), List.forall_mem_cons.mpr ⟨va_Nc.of (hf _ v_8), List.forall_mem_cons.mpr ⟨va_Nc.of (hf _ v_7), List.forall_mem_cons.mpr ⟨va_Nc.of (hf _ v_6), List.forall_mem_cons.mpr ⟨va_Nc.of (hf _ v_5), List.forall_mem_cons.mpr ⟨va_Nc.of (hf _ v_4), fun _ h => absurd h List.not_mem_nil⟩⟩⟩⟩⟩⟩
  · exact List.forall_mem_cons.mpr ⟨va_Nw.of rfl (hts _ t_31), List.forall_mem_cons.mpr ⟨va_Nw.of rfl (hts _ t_30), List.forall_mem_cons.mpr ⟨va_Nw.of rfl (hts _ t_29), List.forall_mem_cons.mpr ⟨va_Nw.of rfl (hts _ t_28), List.forall_mem_cons.mpr ⟨va_Nw.of rfl (hts _ t_27), List.forall_mem_cons.mpr ⟨va_Nw.of rfl (hts _ t_26), fun _ h => absurd h List.not_mem_nil⟩⟩⟩⟩⟩⟩
  · exact List.forall_mem_cons.mpr ⟨va_Nw.of rfl (hts _ t_39), List.forall_mem_cons.mpr ⟨va_Nw.of rfl (hts _ t_38), List.forall_mem_cons.mpr ⟨va_Nw.of rfl (hts _ t_37), List.forall_mem_cons.mpr ⟨va_Nw.of rfl (hts _ t_36), List.forall_mem_cons.mpr ⟨va_Nw.of rfl (hts _ t_35), List.forall_mem_cons.mpr ⟨va_Nw.of rfl (hts _ t_34), List.forall_mem_cons.mpr ⟨va_Nw.of rfl (hts _ t_33), List.forall_mem_cons.mpr ⟨va_Nw.of rfl (hts _ t_32), fun _ h => absurd h List.not_mem_nil⟩⟩⟩⟩⟩⟩⟩⟩
