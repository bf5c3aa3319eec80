theorem lt6 {L : Nat} (h : L < 6) : Int32.ofNat L - 6 < 0 := (show ∀ L : Nat, L < 6 → Int32.ofNat L - 6 < 0 from (lt_s (lt_s (lt_s (lt_s (lt_s (lt_s lt_0 (by decide)) (by decide)) (by decide)) (by decide)) (by decide)) (by decide))) L h
set_option maxHeartbeats 4000000 in
set_option maxRecDepth 100000 in
theorem whole_start {p : Program} {e : Env} {s : State} {m : MethodId} {below : List Frame} {meth : Method} {c : Code} (l : Launch) (hflags : l.flags = flags0) {b L : Nat} {xs : Nat → Int32} (hL : L ≤ 6) (C0 : lw_At p s m meth c b L xs) : W p l e room_1 s m #[Value.ref b] below meth c s.heap [] 0 0 (lw_Z below #[Value.ref b] s) (entryFrame m ([Value.ref b] : List Value).toArray 8) := by
  obtain ⟨D, cI, cZ, cJ, K⟩ := law_ctx l hflags C0
  obtain ⟨A, hAe⟩ : ∃ A : Nat → Prop, A = fun q => s.heap.size ≤ q := ⟨_, rfl⟩
  rw [← hAe] at K
  obtain ⟨C, hX, hbl, hlt, hAA⟩ := id K
  have hx := C.1
  have hb := C.2.1
  have hbA : ¬ A b := fun h => absurd (hAA b h) (Nat.not_le.mpr hbl)
  have hS : va_S A s.heap s.heap [] := va_S.rf
  have hP : va_P D CL [] s.heap := fun k q h => by simp at h
  have hD : va_D A [] := ⟨fun i j p q h => by simp at h, fun k q h => by simp at h⟩
  have hl := lv_entry ([.ref b]) (n := 8) (Nat.le_of_ble_eq_true rfl)
  rw [lg_entry_eq]
  generalize (lg_sl ([.ref b]) ++ List.replicate (8 - (lg_sl ([.ref b])).length) Slot.unset).toArray = ls at hl ⊢
  have hl : lv_has ls 8 [(0, .ref b)] := hl
  refine r_new C hP hD hS nw_L_8 (Nat.le_of_ble_eq_true rfl) (Nat.le_of_ble_eq_true rfl) dL_law_0 (fun q1 H hP hD hS => ?_)
  have hP : va_P D CL [(q1, .inr (10, [.null, .null, .null, .null, .null, .null, .null, .null, .null, .null, .null, .null, .null, .null, .null, .int 0, .int 0, .int 0]))] H := hP
  have hD : va_D A [(q1, .inr (10, [.null, .null, .null, .null, .null, .null, .null, .null, .null, .null, .null, .null, .null, .null, .null, .int 0, .int 0, .int 0]))] := hD
  refine W.widen (k := 1) (n := 18) (Nat.le_of_ble_eq_true rfl) (Nat.le_of_ble_eq_true rfl) ?_
  refine lv_dup hx hb dL_law_3 rfl ?_
  refine call_v (wr := []) C (run_I (As := []) (rest := [.ref q1]) C (i_GalleryGuards l D cI cZ cJ q1 ) cI_L_172 hP hD hS [0] rfl rfl rfl hl.1 rfl (Nat.le_of_ble_eq_true rfl) dL_law_4 ⟨Nat.le_of_ble_eq_true rfl, Nat.le_of_ble_eq_true rfl⟩ ⟨Nat.le_of_ble_eq_true rfl, Nat.le_of_ble_eq_true rfl⟩) hP hD hS [0] [] rfl rfl rfl (by decide) (fun u2 H locs hP hD hS => ?_)
  have hP : va_P D CL [(q1, .inr (10, xC (u2.1 0) (u2.1 2) (u2.1 3) (u2.1 4) (u2.1 5) (u2.1 6) (u2.1 7) (u2.1 8) 0 0 (-1) (u2.2 0))), ((u2.1 0), .inr (2, [.int 0, .int 0, .int 0, .int 0, .int 0, .int 0, .ref (u2.1 1)])), ((u2.1 1), .inl (cI, 600, .inl (fun _ => 0))), ((u2.1 2), .inr (4, [.ref (u2.1 0), .ref (u2.1 4), (u2.2 6) 2, .int 0, .int 0])), ((u2.1 3), .inr (5, pC 0 0 0 (u2.2 1))), ((u2.1 4), .inr (5, pC 0 0 0 (u2.2 2))), ((u2.1 5), .inr (3, [.int 0, .long 0, (u2.2 3) 2, (u2.2 3) 3, (u2.2 3) 4])), ((u2.1 6), .inr (1, [.int 0, .int 0, (u2.2 7) 2])), ((u2.1 7), .inr (5, pC 0 0 0 (u2.2 4))), ((u2.1 8), .inr (5, pC 0 0 0 (u2.2 5)))] H := hP
  have hD : va_D A [(q1, .inr (10, xC (u2.1 0) (u2.1 2) (u2.1 3) (u2.1 4) (u2.1 5) (u2.1 6) (u2.1 7) (u2.1 8) 0 0 (-1) (u2.2 0))), ((u2.1 0), .inr (2, [.int 0, .int 0, .int 0, .int 0, .int 0, .int 0, .ref (u2.1 1)])), ((u2.1 1), .inl (cI, 600, .inl (fun _ => 0))), ((u2.1 2), .inr (4, [.ref (u2.1 0), .ref (u2.1 4), (u2.2 6) 2, .int 0, .int 0])), ((u2.1 3), .inr (5, pC 0 0 0 (u2.2 1))), ((u2.1 4), .inr (5, pC 0 0 0 (u2.2 2))), ((u2.1 5), .inr (3, [.int 0, .long 0, (u2.2 3) 2, (u2.2 3) 3, (u2.2 3) 4])), ((u2.1 6), .inr (1, [.int 0, .int 0, (u2.2 7) 2])), ((u2.1 7), .inr (5, pC 0 0 0 (u2.2 4))), ((u2.1 8), .inr (5, pC 0 0 0 (u2.2 5)))] := hD
  refine W.widen (k := 140) (n := 2594) (Nat.le_of_ble_eq_true rfl) (Nat.le_of_ble_eq_true rfl) ?_
  generalize u2.1 0 = inp at hP hD
  generalize u2.1 1 = byt at hP hD
  generalize u2.1 2 = par at hP hD
  generalize u2.1 3 = pla at hP hD
  generalize u2.1 4 = dra at hP hD
  generalize u2.1 5 = lat at hP hD
  generalize u2.1 6 = his at hP hD
  generalize u2.1 7 = f1 at hP hD
  generalize u2.1 8 = f2 at hP hD
  generalize u2.2 0 = gx at hP hD
  generalize u2.2 1 = gpl at hP hD
  generalize u2.2 2 = gdr at hP hD
  generalize u2.2 3 = gla at hP hD
  generalize u2.2 4 = gf1 at hP hD
  generalize u2.2 5 = gf2 at hP hD
  generalize u2.2 6 = gpa at hP hD
  generalize u2.2 7 = ghi at hP hD
  have hP : va_P D CL [(q1, .inr (10, xC inp par pla dra lat his f1 f2 0 0 (-1) gx)), (inp, .inr (2, [.int 0, .int 0, .int 0, .int 0, .int 0, .int 0, .ref byt])), (byt, .inl (cI, 600, .inl (fun _ => 0))), (par, .inr (4, [.ref inp, .ref dra, gpa 2, .int 0, .int 0])), (pla, .inr (5, pC 0 0 0 gpl)), (dra, .inr (5, pC 0 0 0 gdr)), (lat, .inr (3, [.int 0, .long 0, gla 2, gla 3, gla 4])), (his, .inr (1, [.int 0, .int 0, ghi 2])), (f1, .inr (5, pC 0 0 0 gf1)), (f2, .inr (5, pC 0 0 0 gf2))] H := hP
  have hD : va_D A [(q1, .inr (10, xC inp par pla dra lat his f1 f2 0 0 (-1) gx)), (inp, .inr (2, [.int 0, .int 0, .int 0, .int 0, .int 0, .int 0, .ref byt])), (byt, .inl (cI, 600, .inl (fun _ => 0))), (par, .inr (4, [.ref inp, .ref dra, gpa 2, .int 0, .int 0])), (pla, .inr (5, pC 0 0 0 gpl)), (dra, .inr (5, pC 0 0 0 gdr)), (lat, .inr (3, [.int 0, .long 0, gla 2, gla 3, gla 4])), (his, .inr (1, [.int 0, .int 0, ghi 2])), (f1, .inr (5, pC 0 0 0 gf1)), (f2, .inr (5, pC 0 0 0 gf2))] := hD
  refine lv_astore_n (lv' := [(1, .ref q1), (0, .ref b)]) hx hb dL_law_7 rfl hl (by decide) rfl (fun ls hl => ?_)
  refine r_new C hP hD hS nw_L_173 (Nat.le_of_ble_eq_true rfl) (Nat.le_of_ble_eq_true rfl) dL_law_8 (fun q3 H hP hD hS => ?_)
  have hP : va_P D CL [(q1, .inr (10, xC inp par pla dra lat his f1 f2 0 0 (-1) gx)), (inp, .inr (2, [.int 0, .int 0, .int 0, .int 0, .int 0, .int 0, .ref byt])), (byt, .inl (cI, 600, .inl (fun _ => 0))), (par, .inr (4, [.ref inp, .ref dra, gpa 2, .int 0, .int 0])), (pla, .inr (5, pC 0 0 0 gpl)), (dra, .inr (5, pC 0 0 0 gdr)), (lat, .inr (3, [.int 0, .long 0, gla 2, gla 3, gla 4])), (his, .inr (1, [.int 0, .int 0, ghi 2])), (f1, .inr (5, pC 0 0 0 gf1)), (f2, .inr (5, pC 0 0 0 gf2)), (q3, .inr (11, [.int 0, .int 0, .null, .null, .int 0, .null, .null, .int 0, .int 0, .int 0, .int 0, .int 0, .int 0, .int 0, .null, .int 0, .int 0, .int 0, .int 0, .null, .int 0, .null, .null, .null, .null, .null, .null, .int 0, .null, .null, .null, .null, .null, .null, .int 0, .null, .int 0, .null, .int 0, .null, .int 0]))] H := hP
  have hD : va_D A [(q1, .inr (10, xC inp par pla dra lat his f1 f2 0 0 (-1) gx)), (inp, .inr (2, [.int 0, .int 0, .int 0, .int 0, .int 0, .int 0, .ref byt])), (byt, .inl (cI, 600, .inl (fun _ => 0))), (par, .inr (4, [.ref inp, .ref dra, gpa 2, .int 0, .int 0])), (pla, .inr (5, pC 0 0 0 gpl)), (dra, .inr (5, pC 0 0 0 gdr)), (lat, .inr (3, [.int 0, .long 0, gla 2, gla 3, gla 4])), (his, .inr (1, [.int 0, .int 0, ghi 2])), (f1, .inr (5, pC 0 0 0 gf1)), (f2, .inr (5, pC 0 0 0 gf2)), (q3, .inr (11, [.int 0, .int 0, .null, .null, .int 0, .null, .null, .int 0, .int 0, .int 0, .int 0, .int 0, .int 0, .int 0, .null, .int 0, .int 0, .int 0, .int 0, .null, .int 0, .null, .null, .null, .null, .null, .null, .int 0, .null, .null, .null, .null, .null, .null, .int 0, .null, .int 0, .null, .int 0, .null, .int 0]))] := hD
  refine W.widen (k := 141) (n := 2635) (Nat.le_of_ble_eq_true rfl) (Nat.le_of_ble_eq_true rfl) ?_
  refine lv_dup hx hb dL_law_11 rfl ?_
  refine call_v (wr := [(q1, .inr (10, xC inp par pla dra lat his f1 f2 0 0 (-1) gx)), (inp, .inr (2, [.int 0, .int 0, .int 0, .int 0, .int 0, .int 0, .ref byt])), (byt, .inl (cI, 600, .inl (fun _ => 0))), (par, .inr (4, [.ref inp, .ref dra, gpa 2, .int 0, .int 0])), (pla, .inr (5, pC 0 0 0 gpl)), (dra, .inr (5, pC 0 0 0 gdr)), (lat, .inr (3, [.int 0, .long 0, gla 2, gla 3, gla 4])), (his, .inr (1, [.int 0, .int 0, ghi 2])), (f1, .inr (5, pC 0 0 0 gf1)), (f2, .inr (5, pC 0 0 0 gf2))]) C (run_I (As := []) (rest := [.ref q3]) C (i_Model l D cI cZ cJ q3 ) cI_L_175 hP hD hS [10] rfl rfl rfl hl.1 rfl (Nat.le_of_ble_eq_true rfl) dL_law_12 ⟨Nat.le_of_ble_eq_true rfl, Nat.le_of_ble_eq_true rfl⟩ ⟨Nat.le_of_ble_eq_true rfl, Nat.le_of_ble_eq_true rfl⟩) hP hD hS [10] [0, 1, 2, 3, 4, 5, 6, 7, 8, 9] rfl rfl rfl (by decide) (fun u4 H locs hP hD hS => ?_)
  have hP : va_P D CL [(q1, .inr (10, xC inp par pla dra lat his f1 f2 0 0 (-1) gx)), (inp, .inr (2, [.int 0, .int 0, .int 0, .int 0, .int 0, .int 0, .ref byt])), (byt, .inl (cI, 600, .inl (fun _ => 0))), (par, .inr (4, [.ref inp, .ref dra, gpa 2, .int 0, .int 0])), (pla, .inr (5, pC 0 0 0 gpl)), (dra, .inr (5, pC 0 0 0 gdr)), (lat, .inr (3, [.int 0, .long 0, gla 2, gla 3, gla 4])), (his, .inr (1, [.int 0, .int 0, ghi 2])), (f1, .inr (5, pC 0 0 0 gf1)), (f2, .inr (5, pC 0 0 0 gf2)), (q3, .inr (11, mC 0 0 0 (-1) 0 0 0 0 0 0 (u4.1 0) (u4.1 1) (u4.1 2) (u4.1 3) u4.2)), ((u4.1 0), .inl (cI, 63, .inl (fun _ => 0))), ((u4.1 1), .inl (cZ, 2, .inl (fun _ => 0))), ((u4.1 2), .inl (cI, 600, .inl (fun _ => 0))), ((u4.1 3), .inl (cI, 63, .inl (fun _ => 0)))] H := hP
  have hD : va_D A [(q1, .inr (10, xC inp par pla dra lat his f1 f2 0 0 (-1) gx)), (inp, .inr (2, [.int 0, .int 0, .int 0, .int 0, .int 0, .int 0, .ref byt])), (byt, .inl (cI, 600, .inl (fun _ => 0))), (par, .inr (4, [.ref inp, .ref dra, gpa 2, .int 0, .int 0])), (pla, .inr (5, pC 0 0 0 gpl)), (dra, .inr (5, pC 0 0 0 gdr)), (lat, .inr (3, [.int 0, .long 0, gla 2, gla 3, gla 4])), (his, .inr (1, [.int 0, .int 0, ghi 2])), (f1, .inr (5, pC 0 0 0 gf1)), (f2, .inr (5, pC 0 0 0 gf2)), (q3, .inr (11, mC 0 0 0 (-1) 0 0 0 0 0 0 (u4.1 0) (u4.1 1) (u4.1 2) (u4.1 3) u4.2)), ((u4.1 0), .inl (cI, 63, .inl (fun _ => 0))), ((u4.1 1), .inl (cZ, 2, .inl (fun _ => 0))), ((u4.1 2), .inl (cI, 600, .inl (fun _ => 0))), ((u4.1 3), .inl (cI, 63, .inl (fun _ => 0)))] := hD
  refine W.widen (k := 162) (n := 4708) (Nat.le_of_ble_eq_true rfl) (Nat.le_of_ble_eq_true rfl) ?_
  generalize u4.1 0 = as at hP hD
  generalize u4.1 1 = ak at hP hD
  generalize u4.1 2 = ab at hP hD
  generalize u4.1 3 = ar at hP hD
  generalize u4.2 = gm at hP hD
  have hP : va_P D CL [(q1, .inr (10, xC inp par pla dra lat his f1 f2 0 0 (-1) gx)), (inp, .inr (2, [.int 0, .int 0, .int 0, .int 0, .int 0, .int 0, .ref byt])), (byt, .inl (cI, 600, .inl (fun _ => 0))), (par, .inr (4, [.ref inp, .ref dra, gpa 2, .int 0, .int 0])), (pla, .inr (5, pC 0 0 0 gpl)), (dra, .inr (5, pC 0 0 0 gdr)), (lat, .inr (3, [.int 0, .long 0, gla 2, gla 3, gla 4])), (his, .inr (1, [.int 0, .int 0, ghi 2])), (f1, .inr (5, pC 0 0 0 gf1)), (f2, .inr (5, pC 0 0 0 gf2)), (q3, .inr (11, mC 0 0 0 (-1) 0 0 0 0 0 0 as ak ab ar gm)), (as, .inl (cI, 63, .inl (fun _ => 0))), (ak, .inl (cZ, 2, .inl (fun _ => 0))), (ab, .inl (cI, 600, .inl (fun _ => 0))), (ar, .inl (cI, 63, .inl (fun _ => 0)))] H := hP
  have hD : va_D A [(q1, .inr (10, xC inp par pla dra lat his f1 f2 0 0 (-1) gx)), (inp, .inr (2, [.int 0, .int 0, .int 0, .int 0, .int 0, .int 0, .ref byt])), (byt, .inl (cI, 600, .inl (fun _ => 0))), (par, .inr (4, [.ref inp, .ref dra, gpa 2, .int 0, .int 0])), (pla, .inr (5, pC 0 0 0 gpl)), (dra, .inr (5, pC 0 0 0 gdr)), (lat, .inr (3, [.int 0, .long 0, gla 2, gla 3, gla 4])), (his, .inr (1, [.int 0, .int 0, ghi 2])), (f1, .inr (5, pC 0 0 0 gf1)), (f2, .inr (5, pC 0 0 0 gf2)), (q3, .inr (11, mC 0 0 0 (-1) 0 0 0 0 0 0 as ak ab ar gm)), (as, .inl (cI, 63, .inl (fun _ => 0))), (ak, .inl (cZ, 2, .inl (fun _ => 0))), (ab, .inl (cI, 600, .inl (fun _ => 0))), (ar, .inl (cI, 63, .inl (fun _ => 0)))] := hD
  refine lv_astore_n (lv' := [(2, .ref q3), (1, .ref q1), (0, .ref b)]) hx hb dL_law_15 rfl hl (by decide) rfl (fun ls hl => ?_)
  refine lv_iconst (v := 1) hx hb dL_law_16 (by decide) ?_
  refine r_newaF (atype := .long) (ty := .long) (N' := 1) (a0 := (1, .inr (.inl (fun _ => 0)))) C hP hD hS w_359 rfl (fun _ => rfl) (by decide) (by decide) (Nat.le_of_ble_eq_true rfl) (Nat.le_of_ble_eq_true rfl) (Nat.le_of_ble_eq_true rfl) dL_law_17 (fun q5 H hP hS => ?_)
  refine W.widen (k := 163) (n := 4709) (Nat.le_of_ble_eq_true rfl) (Nat.le_of_ble_eq_true rfl) ?_
  refine lv_astore_n (lv' := [(3, .ref q5), (2, .ref q3), (1, .ref q1), (0, .ref b)]) hx hb dL_law_19 rfl hl (by decide) rfl (fun ls hl => ?_)
  refine lv_iconst (v := 0) hx hb dL_law_20 (by decide) ?_
  refine lv_istore (lv' := [(4, .int 0), (3, .ref q5), (2, .ref q3), (1, .ref q1), (0, .ref b)]) hx hb dL_law_21 hl (by decide) rfl (fun ls hl => ?_)
  refine W.widen (k := 2000) (n := 60000) (Nat.le_of_ble_eq_true rfl) (Nat.le_of_ble_eq_true rfl) ?_
  rcases Nat.lt_or_ge L 6 with h6 | h6
  · exact law_done K (lt6 h6) hS (lv_sub hl [4, 0] rfl) (Nat.le_of_ble_eq_true rfl) (Nat.le_of_ble_eq_true rfl)
  · have hL6 : L = 6 := by omega
    subst hL6
    have hP : va_P D CL (LW cI cZ q1 inp byt par pla dra lat his f1 f2 q3 as ak ab ar gx gpl gdr gla gf1 gf2 gpa ghi gm) H := hP
    have hD : va_D A (LW cI cZ q1 inp byt par pla dra lat his f1 f2 q3 as ak ab ar gx gpl gdr gla gf1 gf2 gpa ghi gm) := hD
    refine lv_iload hx hb dL_law_23 (lv_at hl 0 rfl) ?_
    refine lv_aload_n hx hb dL_law_25 rfl (lv_at hl 4 rfl) ?_
    refine va_slen hx hb hX hbl hbA hS dL_law_26 ?_
    refine lv_bipush (v := 6) hx hb dL_law_27 (by decide) ?_
    refine lv_isub hx hb dL_law_29 ?_
    refine W.eq (g2 := F0 m 30 ls [.int 0, .int 0]) rfl ?_
    refine lv_icmp_gt (tgt := 3192) hx hb dL_law_30 (by decide) (fun h => absurd h (by decide)) (fun _ => ?_)
    refine lv_aload_n hx hb dL_law_33 rfl (lv_at hl 4 rfl) ?_
    refine lv_iload hx hb dL_law_34 (lv_at hl 0 rfl) ?_
    refine va_sld hx hb hX hbl hbA hS (by unfold vp_in; decide) dL_law_36 ?_
    refine lv_bipush (v := 63) hx hb dL_law_37 (by decide) ?_
    refine lv_iand hx hb dL_law_39 ?_
    refine W.eq (g2 := F0 m 40 ls [.int (xs 0 &&& 63)]) rfl ?_
    exact law_switch K hP hD hS hl
