theorem str_of {own tx : String} {k : Nat} {args : Array Value} {s : State} (h1 : (Cond.stringRef own k tx).before args s = true) (h2 : (Cond.exactly (.string own k) "java/lang/String").before args s = true) : ∃ a : Nat, vk_R own k tx a s := by
  obtain ⟨a, c, cA, kA, q1, -⟩ := Cond.exactly_spec (args := args) (first := s) (o := none) (s := s) (idx := []) (t := .string own k) (cls := "java/lang/String") h2
  exact ⟨a, vk_R.of h1 q1⟩
theorem arr_of {ty : FieldType} {args : Array Value} {s : State} (h : (Cond.arrayClass ty).before args s = true) : ∃ cA : ClassId, ArrOfT s cA ty ∧ s.vm.findClass ("[" ++ ty.toString) = some cA := by
  obtain ⟨cA, kA, comp, a1, a2, a3⟩ := Cond.arrayClass_spec (args := args) (first := s) (o := none) (s := s) (idx := []) h
  exact ⟨cA, fun n z => ⟨fun k h => (by cases h), kA, a2, comp, a3⟩, a1⟩
theorem t_0 : Cond.laysStatic Bundle.tN "UNASSIGNED_STACK" Bundle.steD ∈ lw_tbl := List.mem_append_right _ (List.mem_of_getElem? (i := 448) (by decide +kernel))
theorem t_1 : Cond.laysStatic Bundle.tN "SUPPRESSED_SENTINEL" Bundle.listD ∈ lw_tbl := List.mem_append_right _ (List.mem_of_getElem? (i := 450) (by decide +kernel))
theorem t_2 : Cond.initialized Bundle.tN ∈ lw_tbl := List.mem_append_right _ (List.mem_of_getElem? (i := 13) (by decide +kernel))
theorem v_0 : Cond.isRef (.static Bundle.tN "UNASSIGNED_STACK" Bundle.steD) ∈ flatC (Jvm.Cond.and given_1 narrow_1) := by decide +kernel
theorem v_1 : Cond.isRef (.static Bundle.tN "SUPPRESSED_SENTINEL" Bundle.listD) ∈ flatC (Jvm.Cond.and given_1 narrow_1) := by decide +kernel
theorem t_3 : Cond.stringRef RX12 183 "treasure" ∈ lw_tbl := List.mem_append_right _ (List.mem_of_getElem? (i := 1743) (by decide +kernel))
theorem v_2 : Cond.exactly (.string RX12 183) "java/lang/String" ∈ flatC (Jvm.Cond.and given_1 narrow_1) := by decide +kernel
theorem t_4 : Cond.stringRef RX12 181 "guard" ∈ lw_tbl := List.mem_append_right _ (List.mem_of_getElem? (i := 1742) (by decide +kernel))
theorem v_3 : Cond.exactly (.string RX12 181) "java/lang/String" ∈ flatC (Jvm.Cond.and given_1 narrow_1) := by decide +kernel
theorem t_5 : Cond.stringRef RX12 176 "range" ∈ lw_tbl := List.mem_append_right _ (List.mem_of_getElem? (i := 1748) (by decide +kernel))
theorem v_4 : Cond.exactly (.string RX12 176) "java/lang/String" ∈ flatC (Jvm.Cond.and given_1 narrow_1) := by decide +kernel
theorem t_6 : Cond.stringRef RX12 159 "polygon" ∈ lw_tbl := List.mem_append_right _ (List.mem_of_getElem? (i := 1683) (by decide +kernel))
theorem v_5 : Cond.exactly (.string RX12 159) "java/lang/String" ∈ flatC (Jvm.Cond.and given_1 narrow_1) := by decide +kernel
theorem t_7 : Cond.stringRef RX5 99 "range" ∈ lw_tbl := List.mem_append_right _ (List.mem_of_getElem? (i := 646) (by decide +kernel))
theorem v_6 : Cond.exactly (.string RX5 99) "java/lang/String" ∈ flatC (Jvm.Cond.and given_1 narrow_1) := by decide +kernel
theorem t_8 : Cond.stringRef RX5 91 "treasure" ∈ lw_tbl := List.mem_append_right _ (List.mem_of_getElem? (i := 651) (by decide +kernel))
theorem v_7 : Cond.exactly (.string RX5 91) "java/lang/String" ∈ flatC (Jvm.Cond.and given_1 narrow_1) := by decide +kernel
theorem t_9 : Cond.stringRef RX5 83 "guard" ∈ lw_tbl := List.mem_append_right _ (List.mem_of_getElem? (i := 641) (by decide +kernel))
theorem v_8 : Cond.exactly (.string RX5 83) "java/lang/String" ∈ flatC (Jvm.Cond.and given_1 narrow_1) := by decide +kernel
theorem t_10 : Cond.stringRef RX5 41 "polygon" ∈ lw_tbl := List.mem_append_right _ (List.mem_of_getElem? (i := 516) (by decide +kernel))
theorem v_9 : Cond.exactly (.string RX5 41) "java/lang/String" ∈ flatC (Jvm.Cond.and given_1 narrow_1) := by decide +kernel
theorem t_11 : Cond.stringRef RX11 376 "this change of the polygon is not possible" ∈ lw_tbl := List.mem_append_right _ (List.mem_of_getElem? (i := 1447) (by decide +kernel))
theorem v_10 : Cond.exactly (.string RX11 376) "java/lang/String" ∈ flatC (Jvm.Cond.and given_1 narrow_1) := by decide +kernel
theorem t_12 : Cond.stringRef RX11 364 "argument out of range" ∈ lw_tbl := List.mem_append_right _ (List.mem_of_getElem? (i := 960) (by decide +kernel))
theorem v_11 : Cond.exactly (.string RX11 364) "java/lang/String" ∈ flatC (Jvm.Cond.and given_1 narrow_1) := by decide +kernel
theorem t_13 : Cond.stringRef RX11 362 "no such index" ∈ lw_tbl := List.mem_append_right _ (List.mem_of_getElem? (i := 740) (by decide +kernel))
theorem v_12 : Cond.exactly (.string RX11 362) "java/lang/String" ∈ flatC (Jvm.Cond.and given_1 narrow_1) := by decide +kernel
theorem t_14 : Cond.stringRef RX11 360 "no polygon" ∈ lw_tbl := List.mem_append_right _ (List.mem_of_getElem? (i := 730) (by decide +kernel))
theorem v_13 : Cond.exactly (.string RX11 360) "java/lang/String" ∈ flatC (Jvm.Cond.and given_1 narrow_1) := by decide +kernel
theorem t_15 : Cond.stringRef RX11 358 "nothing is saved there" ∈ lw_tbl := List.mem_append_right _ (List.mem_of_getElem? (i := 1498) (by decide +kernel))
theorem v_14 : Cond.exactly (.string RX11 358) "java/lang/String" ∈ flatC (Jvm.Cond.and given_1 narrow_1) := by decide +kernel
theorem t_16 : Cond.stringRef RX11 349 "no change can be undone" ∈ lw_tbl := List.mem_append_right _ (List.mem_of_getElem? (i := 1475) (by decide +kernel))
theorem v_15 : Cond.exactly (.string RX11 349) "java/lang/String" ∈ flatC (Jvm.Cond.and given_1 narrow_1) := by decide +kernel
theorem t_17 : Cond.stringRef RX11 340 "there are 12 vertices" ∈ lw_tbl := List.mem_append_right _ (List.mem_of_getElem? (i := 1455) (by decide +kernel))
theorem v_16 : Cond.exactly (.string RX11 340) "java/lang/String" ∈ flatC (Jvm.Cond.and given_1 narrow_1) := by decide +kernel
theorem t_18 : Cond.stringRef RX11 313 "there are 6 guards" ∈ lw_tbl := List.mem_append_right _ (List.mem_of_getElem? (i := 1382) (by decide +kernel))
theorem v_17 : Cond.exactly (.string RX11 313) "java/lang/String" ∈ flatC (Jvm.Cond.and given_1 narrow_1) := by decide +kernel
theorem t_19 : Cond.stringRef RX11 139 "the text has an erro\x72" ∈ lw_tbl := List.mem_append_right _ (List.mem_of_getElem? (i := 669) (by decide +kernel))
theorem v_18 : Cond.exactly (.string RX11 139) "java/lang/String" ∈ flatC (Jvm.Cond.and given_1 narrow_1) := by decide +kernel
theorem t_20 : Cond.stringRef RX11 125 "not so many bytes in the buffe\x72" ∈ lw_tbl := List.mem_append_right _ (List.mem_of_getElem? (i := 462) (by decide +kernel))
theorem v_19 : Cond.exactly (.string RX11 125) "java/lang/String" ∈ flatC (Jvm.Cond.and given_1 narrow_1) := by decide +kernel
theorem t_21 : Cond.arrayOver (.object "GalleryGuards$Plan") ∈ lw_tbl := List.mem_append_right _ (List.mem_of_getElem? (i := 304) (by decide +kernel))
theorem v_20 : Cond.not (.castable "java/lang/IllegalArgumentException" "java/lang/IllegalStateException") ∈ flatC (Jvm.Cond.and given_1 narrow_1) := by decide +kernel
theorem v_21 : Cond.not (.castable "java/lang/IndexOutOfBoundsException" "java/lang/IllegalStateException") ∈ flatC (Jvm.Cond.and given_1 narrow_1) := by decide +kernel
theorem v_22 : Cond.not (.castable "java/lang/IndexOutOfBoundsException" "java/lang/IllegalArgumentException") ∈ flatC (Jvm.Cond.and given_1 narrow_1) := by decide +kernel
theorem v_23 : Cond.not (.castable "java/lang/IllegalStateException" "java/lang/IllegalArgumentException") ∈ flatC (Jvm.Cond.and given_1 narrow_1) := by decide +kernel
theorem v_24 : Cond.not (.castable "java/lang/IllegalArgumentException" "java/lang/IndexOutOfBoundsException") ∈ flatC (Jvm.Cond.and given_1 narrow_1) := by decide +kernel
theorem v_25 : Cond.not (.castable "java/lang/IllegalStateException" "java/lang/IndexOutOfBoundsException") ∈ flatC (Jvm.Cond.and given_1 narrow_1) := by decide +kernel
theorem t_22 : Cond.declares ⟨"java/lang/Throwable", "<init>", "(Ljava/lang/String;)V"⟩ ∈ lw_tbl := List.mem_append_right _ (List.mem_of_getElem? (i := 429) (by decide +kernel))
theorem t_23 : Cond.declares ⟨"java/lang/Exception", "<init>", "(Ljava/lang/String;)V"⟩ ∈ lw_tbl := List.mem_append_right _ (List.mem_of_getElem? (i := 427) (by decide +kernel))
theorem t_24 : Cond.declares ⟨"java/lang/RuntimeException", "<init>", "(Ljava/lang/String;)V"⟩ ∈ lw_tbl := List.mem_append_right _ (List.mem_of_getElem? (i := 425) (by decide +kernel))
theorem t_25 : Cond.castable "java/lang/IllegalArgumentException" "java/lang/IllegalArgumentException" ∈ lw_tbl := List.mem_append_right _ (List.mem_of_getElem? (i := 662) (by decide +kernel))
theorem t_26 : Cond.castable "java/lang/IndexOutOfBoundsException" "java/lang/IndexOutOfBoundsException" ∈ lw_tbl := List.mem_append_right _ (List.mem_of_getElem? (i := 423) (by decide +kernel))
theorem t_27 : Cond.castable "java/lang/IllegalStateException" "java/lang/IllegalStateException" ∈ lw_tbl := List.mem_append_right _ (List.mem_of_getElem? (i := 723) (by decide +kernel))
theorem t_28 : Cond.methodLinkNest RX10 60 yX11_has "GalleryGuards" ∈ lw_tbl := List.mem_append_right _ (List.mem_of_getElem? (i := 1233) (by decide +kernel))
theorem t_29 : Cond.methodLinkNest RX8 48 yX11_has "GalleryGuards" ∈ lw_tbl := List.mem_append_right _ (List.mem_of_getElem? (i := 1135) (by decide +kernel))
theorem t_30 : Cond.methodLinkNest RX7 74 yX11_has "GalleryGuards" ∈ lw_tbl := List.mem_append_right _ (List.mem_of_getElem? (i := 843) (by decide +kernel))
theorem t_31 : Cond.methodLinkNest RX0 92 yX11_has "GalleryGuards" ∈ lw_tbl := List.mem_append_right _ (List.mem_of_getElem? (i := 1076) (by decide +kernel))
theorem t_32 : Cond.methodLinkNest RX1 24 yX6_init "GalleryGuards" ∈ lw_tbl := List.mem_append_right _ (List.mem_of_getElem? (i := 305) (by decide +kernel))
theorem t_33 : Cond.methodLinkNest RX11 28 yX3_init "GalleryGuards" ∈ lw_tbl := List.mem_append_right _ (List.mem_of_getElem? (i := 124) (by decide +kernel))
theorem t_34 : Cond.methodLinkNest RX11 18 yX6_init "GalleryGuards" ∈ lw_tbl := List.mem_append_right _ (List.mem_of_getElem? (i := 71) (by decide +kernel))
theorem t_35 : Cond.methodLinkNest RX11 11 yX2_init "GalleryGuards" ∈ lw_tbl := List.mem_append_right _ (List.mem_of_getElem? (i := 38) (by decide +kernel))
set_option maxHeartbeats 4000000 in
set_option maxRecDepth 100000 in
theorem law_ctx {p : Program} {s : State} {m : MethodId} {meth : Method} {c : Code} (l : Launch) (hflags : l.flags = flags0) {b L : Nat} {xs : Nat → Int32} (C0 : lw_At p s m meth c b L xs) : ∃ (D : va_G) (cI cZ cJ : ClassId), LCx p l s m meth c b L xs D cI cZ cJ (fun q => s.heap.size ≤ q) := by
  obtain ⟨hx, hb, hr, hml, hown, hts, hX, hbl, hlocks, hgv⟩ := C0
  have hB : ∀ w ∈ Big, w.before #[Value.ref b] s = true := fun w h => hts w (List.mem_filter.mp h).1
  have hf := flat_of_before _ hgv
  have hnA : ∀ a : Nat, a < s.heap.size → ¬ (fun q => s.heap.size ≤ q) a := fun a h => Nat.not_le.mpr h
  obtain ⟨c0, i0, hKn0⟩ := u_known (C := RX0) (T := TX0) (N := 9) (n := 9) hB kc_X0.2.1 (hB _ w_474)
  obtain ⟨c1, i1, hKn1⟩ := u_known (C := RX1) (T := TX1) (N := 3) (n := 3) hB kc_X1.2.1 (hB _ w_495)
  obtain ⟨c2, i2, hKn2⟩ := u_known (C := RX2) (T := TX2) (N := 7) (n := 7) hB kc_X2.2.1 (hB _ w_438)
  obtain ⟨c3, i3, hKn3⟩ := u_known (C := RX3) (T := TX3) (N := 5) (n := 5) hB kc_X3.2.1 (hB _ w_446)
  obtain ⟨c4, i4, hKn4⟩ := u_known (C := RX5) (T := TX5) (N := 5) (n := 5) hB kc_X5.2.1 (hB _ w_453)
  obtain ⟨c5, i5, hKn5⟩ := u_known (C := RX6) (T := TX6) (N := 11) (n := 11) hB kc_X6.2.1 (hB _ w_432)
  obtain ⟨c6, i6, hKn6⟩ := u_known (C := RX7) (T := TX7) (N := 4) (n := 4) hB kc_X7.2.1 (hB _ w_460)
  obtain ⟨c7, i7, hKn7⟩ := u_known (C := RX8) (T := TX8) (N := 5) (n := 5) hB kc_X8.2.1 (hB _ w_481)
  obtain ⟨c8, i8, hKn8⟩ := u_known (C := RX9) (T := TX9) (N := 9) (n := 9) hB kc_X9.2.1 (hB _ w_467)
  obtain ⟨c9, i9, hKn9⟩ := u_known (C := RX10) (T := TX10) (N := 3) (n := 3) hB kc_X10.2.1 (hB _ w_488)
  obtain ⟨c10, i10, hKn10⟩ := u_known (C := RX11) (T := TX11) (N := 18) (n := 18) hB kc_X11.2.1 (hB _ w_1056)
  obtain ⟨c11, i11, hKn11⟩ := u_known (C := RX12) (T := TX12) (N := 41) (n := 41) hB kc_X12.2.1 (hB _ w_1057)
  obtain ⟨cI, aI, fI⟩ := arr_of (hB _ w_312)
  obtain ⟨cZ, aZ, fZ⟩ := arr_of (hB _ w_509)
  obtain ⟨cJ, aJ, fJ⟩ := arr_of (hB _ w_359)
  have hKc : ∀ (k : Nat) (q : vw_C), CL[k]? = some q → u_Kn s q.1 q.2.1 q.2.2 (([c0, c1, c2, c3, c4, c5, c6, c7, c8, c9, c10, c11] : List ClassId).getD k c0) (([i0, i1, i2, i3, i4, i5, i6, i7, i8, i9, i10, i11] : List (Nat → Nat)).getD k i0) := by
    intro k q hq
    match k, hq with
    | 0, hq => cases hq; exact hKn0
    | 1, hq => cases hq; exact hKn1
    | 2, hq => cases hq; exact hKn2
    | 3, hq => cases hq; exact hKn3
    | 4, hq => cases hq; exact hKn4
    | 5, hq => cases hq; exact hKn5
    | 6, hq => cases hq; exact hKn6
    | 7, hq => cases hq; exact hKn7
    | 8, hq => cases hq; exact hKn8
    | 9, hq => cases hq; exact hKn9
    | 10, hq => cases hq; exact hKn10
    | 11, hq => cases hq; exact hKn11
    | k + 12, hq => simp [CL] at hq
  have hlt : l.stackTraces = false := by
    unfold Launch.stackTraces
    rw [hflags]
    decide +kernel
  refine ⟨(fun k => ([c0, c1, c2, c3, c4, c5, c6, c7, c8, c9, c10, c11] : List ClassId).getD k c0, fun k => ([i0, i1, i2, i3, i4, i5, i6, i7, i8, i9, i10, i11] : List (Nat → Nat)).getD k i0), cI, cZ, cJ, ⟨hx, hb, hml, hown, hB, ⟨hKc, ?_⟩, fun q h => h, ⟨vx_Zqof (hts _ t_0) (hts _ t_2) (hf _ v_0) hnA, vx_Zqof (hts _ t_1) (hts _ t_2) (hf _ v_1) hnA⟩, ⟨?_, va_AO.of (hts _ t_21), ?_, ?_, ?_⟩, hlocks, hr, fun h => absurd h (by decide)⟩, hX, hbl, hlt, fun q h => h⟩
  · intro k q hk
    match k, hk with
    | 0, hk => cases hk; exact ⟨aI, fI⟩
    | 1, hk => cases hk; exact ⟨aZ, fZ⟩
    | 2, hk => cases hk; exact ⟨aJ, fJ⟩
    | k + 3, hk => simp [TT] at hk
  · exact List.forall_mem_cons.mpr ⟨str_of (hts _ t_20) (hf _ v_19), List.forall_mem_cons.mpr ⟨str_of (hts _ t_19) (hf _ v_18), List.forall_mem_cons.mpr ⟨str_of (hts _ t_18) (hf _ v_17), List.forall_mem_cons.mpr ⟨str_of (hts _ t_17) (hf _ v_16), List.forall_mem_cons.mpr ⟨str_of (hts _ t_16) (hf _ v_15), List.forall_mem_cons.mpr ⟨str_of (hts _ t_15) (hf _ v_14), List.forall_mem_cons.mpr ⟨str_of (hts _ t_14) (hf _ v_13), List.forall_mem_cons.mpr ⟨str_of (hts _ t_13) (hf _ v_12), List.forall_mem_cons.mpr ⟨str_of (hts _ t_12) (hf _ v_11), List.forall_mem_cons.mpr ⟨str_of (hts _ t_11) (hf _ v_10), List.forall_mem_cons.mpr ⟨str_of (hts _ t_10) (hf _ v_9), List.forall_mem_cons.mpr ⟨str_of (hts _ t_9) (hf _ v_8), List.forall_mem_cons.mpr ⟨str_of (hts _ t_8) (hf _ v_7), List.forall_mem_cons.mpr ⟨str_of (hts _ t_7) (hf _ v_6), List.forall_mem_cons.mpr ⟨str_of (hts _ t_6) (hf _ v_5), List.forall_mem_cons.mpr ⟨str_of (hts _ t_5) (hf _ v_4), List.forall_mem_cons.mpr ⟨str_of (hts _ t_4) (hf _ v_3), List.forall_mem_cons.mpr ⟨str_of (hts _ t_3) (hf _ v_2), fun _ h => absurd h List.not_mem_nil⟩⟩⟩⟩⟩⟩⟩⟩⟩⟩⟩⟩⟩⟩⟩⟩⟩⟩
  · exact List.forall_mem_cons.mpr ⟨va_Nc.of (hf _ v_25), List.forall_mem_cons.mpr ⟨va_Nc.of (hf _ v_24), List.forall_mem_cons.mpr ⟨va_Nc.of (hf _ v_23), List.forall_mem_cons.mpr ⟨va_Nc.of (hf _ v_22), List.forall_mem_cons.mpr ⟨va_Nc.of (hf _ v_21), List.forall_mem_cons.mpr ⟨va_Nc.of (hf _ v_20), fun _ h => absurd h List.not_mem_nil⟩⟩⟩⟩⟩⟩
  · exact List.forall_mem_cons.mpr ⟨va_Nw.of rfl (hts _ t_27), List.forall_mem_cons.mpr ⟨va_Nw.of rfl (hts _ t_26), List.forall_mem_cons.mpr ⟨va_Nw.of rfl (hts _ t_25), List.forall_mem_cons.mpr ⟨va_Nw.of rfl (hts _ t_24), List.forall_mem_cons.mpr ⟨va_Nw.of rfl (hts _ t_23), List.forall_mem_cons.mpr ⟨va_Nw.of rfl (hts _ t_22), fun _ h => absurd h List.not_mem_nil⟩⟩⟩⟩⟩⟩
  · exact List.forall_mem_cons.mpr ⟨va_Nw.of rfl (hts _ t_35), List.forall_mem_cons.mpr ⟨va_Nw.of rfl (hts _ t_34), List.forall_mem_cons.mpr ⟨va_Nw.of rfl (hts _ t_33), List.forall_mem_cons.mpr ⟨va_Nw.of rfl (hts _ t_32), List.forall_mem_cons.mpr ⟨va_Nw.of rfl (hts _ t_31), List.forall_mem_cons.mpr ⟨va_Nw.of rfl (hts _ t_30), List.forall_mem_cons.mpr ⟨va_Nw.of rfl (hts _ t_29), List.forall_mem_cons.mpr ⟨va_Nw.of rfl (hts _ t_28), fun _ h => absurd h List.not_mem_nil⟩⟩⟩⟩⟩⟩⟩⟩
