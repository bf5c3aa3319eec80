/-- a constructor's contract out of its run -/
theorem ct_cM {l : Launch} {D : va_G} {cs : Nat → ClassId} {ad : Nat → Nat} {f d k c2 s2 : Nat} {av : List Value} {σ σ2 : SG} {t : CTb} (h : evN f d k 0 (lv_args 0 av) [] 0 0 σ = some (c2, s2, σ2)) (ht : ctb k = some t) (hav : clS σ.length av) (hg : clG σ.length σ) (hn : cats av ≤ t.1.2.2.1) : cM l t.1.1 t.1.2.1 t.1.2.2.1 none D (T4 cs) (av.map (vM ad)) (wM cs ad σ) (qV D (T4 cs) (fun u : Nat → Nat => wM cs (adj ad σ.length u) σ2)) d c2 s2 := by
  obtain ⟨⟨u1, u2, u3, u4⟩, -⟩ := ctb_ok k t ht
  refine enterM u1 (by rw [lg_sl_len]; unfold cats at hn ⊢; rw [vM_sum]; exact hn) (fun p e s m below meth c ls A C hP hD hS hl => ?_)
  rw [lM_args] at hl
  exact evN_ok f d k 0 _ [] 0 0 σ (c2, s2, σ2) t h ht p e s m _ below meth c _ [] ls A ad ad σ.length C hP hD hS hl (clL.args _ 0 hav) (fun v hv => nomatch hv) hg (Nat.le_refl _) (fun _ _ => rfl)
theorem rm_lawN {d c s n : Nat} (hd : d ≤ 99) (hn : n ≤ 150) : (rmd d c s).frames + 1 ≤ room_1.frames ∧ 8 + (n + 11) + (rmd d c s).locals ≤ room_1.locals := by
  have h1 : room_1.frames = 2048 := rfl
  have h2 : room_1.locals = 84000 := rfl
  rw [h1, h2]
  simp only [rmd]
  omega
theorem cl_one {N : Nat} {c : Nat} {fs : List Value} (h : fs.all noref = true) : clG N [.inr (c, fs)] := fun e he => by
  rw [List.mem_singleton.mp he]
  exact noref_cl h
theorem rX_e : evN 3000 3 0 0 (lv_args 0 [.ref 0]) [] 0 0 [.inr (10, [.null, .null, .null, .null, .null, .null, .null, .null, .null, .null, .null, .null, .null, .null, .null, .int 0, .int 0, .int 0])] = some (139, 2576, sgX) := by
  have h := rX_eq.1
  unfold rX at h
  exact h
theorem rM_e : evN 3000 1 11 0 (lv_args 0 [.ref 140]) [] 0 0 (sgX ++ [Sum.inr (11, [.int 0, .int 0, .null, .null, .int 0, .null, .null, .int 0, .int 0, .int 0, .int 0, .int 0, .int 0, .int 0, .null, .int 0, .int 0, .int 0, .int 0, .null, .int 0, .null, .null, .null, .null, .null, .null, .int 0, .null, .null, .null, .null, .null, .null, .int 0, .null, .int 0, .null, .int 0, .null, .int 0])]) = some (21, 2073, sgM) := by
  have h := rM_eq.1
  unfold rM at h
  exact h
theorem cl_end {f d k c2 s2 : Nat} {av : List Value} {σ σ2 : SG} (h : evN f d k 0 (lv_args 0 av) [] 0 0 σ = some (c2, s2, σ2)) (hav : clS σ.length av) (hg : clG σ.length σ) : clG σ2.length σ2 := evN_cl f d k 0 _ [] 0 0 σ (c2, s2, σ2) h (clL.args _ 0 hav) (fun v hv => nomatch hv) hg
theorem sgX_cl : clG sgX.length sgX := cl_end rX_e (clS.cs (clR (by decide)) (fun v hv => nomatch hv)) (cl_one rfl)
theorem cl_add {σ : SG} {c : Nat} {fs : List Value} (h : clG σ.length σ) (hf : fs.all noref = true) : clG (σ ++ [Sum.inr (c, fs)]).length (σ ++ [Sum.inr (c, fs)]) := by
  rw [List.length_append]
  exact (h.up (Nat.le_succ _)).add (noref_cl hf)
theorem len_add {σ : SG} {e : va_E} {n : Nat} (h : σ.length = n) : (σ ++ [e]).length = n + 1 := by rw [List.length_append, h]; rfl
theorem sgM_cl : clG sgM.length sgM := cl_end rM_e (clS.cs (clR (by rw [len_add rX_eq.2]; decide)) (fun v hv => nomatch hv)) (cl_add sgX_cl rfl)
theorem c1_ok (l : Launch) (D : va_G) (cs : Nat → ClassId) (ad : Nat → Nat) : cM l yX11_init cX11_init 1 none D (T4 cs) [.ref (ad 0)] (wM cs ad [.inr (10, [.null, .null, .null, .null, .null, .null, .null, .null, .null, .null, .null, .null, .null, .null, .null, .int 0, .int 0, .int 0])]) (qV D (T4 cs) (fun u : Nat → Nat => wM cs (adj ad 1 u) sgX)) 3 139 2576 := ct_cM (l := l) (D := D) (cs := cs) (ad := ad) (av := [.ref 0]) rX_e (t := ((yX11_init, cX11_init, 1, none, []), fcc_0, _)) rfl (clS.cs (clR (by decide)) (fun v hv => nomatch hv)) (cl_one rfl) (Nat.le_of_ble_eq_true rfl)
theorem c2_ok (l : Launch) (D : va_G) (cs : Nat → ClassId) (ad : Nat → Nat) : cM l yX12_init cX12_init 1 none D (T4 cs) [.ref (ad 140)] (wM cs ad (sgX ++ [Sum.inr (11, [.int 0, .int 0, .null, .null, .int 0, .null, .null, .int 0, .int 0, .int 0, .int 0, .int 0, .int 0, .int 0, .null, .int 0, .int 0, .int 0, .int 0, .null, .int 0, .null, .null, .null, .null, .null, .null, .int 0, .null, .null, .null, .null, .null, .null, .int 0, .null, .int 0, .null, .int 0, .null, .int 0])])) (qV D (T4 cs) (fun u : Nat → Nat => wM cs (adj ad (140 + 1) u) sgM)) 1 21 2073 := by
  have h := ct_cM (l := l) (D := D) (cs := cs) (ad := ad) (av := [.ref 140]) rM_e (t := ((yX12_init, cX12_init, 1, none, []), fcc_11, _)) rfl (clS.cs (clR (by rw [len_add rX_eq.2]; decide)) (fun v hv => nomatch hv)) (cl_add sgX_cl rfl) (Nat.le_of_ble_eq_true rfl)
  rw [len_add rX_eq.2] at h
  exact h
/-- the addresses throughout: the cells', the script's, the texts' -/
def adW (ad : Nat → Nat) (b : Nat) (g : Nat → Nat) : Nat → Nat := fun h => if h < 200 then ad h else if h = 250 then b else g (h - 300)
theorem adW_agr (ad : Nat → Nat) (b : Nat) (g : Nat → Nat) : agr 200 ad (adW ad b g) := fun h hh => by
  unfold adW
  rw [if_pos hh]
set_option maxHeartbeats 4000000 in
set_option maxRecDepth 100000 in
theorem start_gen {gx gm : SG} (lx : gx.length = 140) (kx : clG gx.length gx) (lm : gm.length = 162) (km : clG gm.length gm) (c1 : ∀ (l : Launch) (D : va_G) (cs : Nat → ClassId) (ad : Nat → Nat), cM l yX11_init cX11_init 1 none D (T4 cs) [.ref (ad 0)] (wM cs ad [.inr (10, [.null, .null, .null, .null, .null, .null, .null, .null, .null, .null, .null, .null, .null, .null, .null, .int 0, .int 0, .int 0])]) (qV D (T4 cs) (fun u : Nat → Nat => wM cs (adj ad 1 u) gx)) 3 139 2576) (c2 : ∀ (l : Launch) (D : va_G) (cs : Nat → ClassId) (ad : Nat → Nat), cM l yX12_init cX12_init 1 none D (T4 cs) [.ref (ad 140)] (wM cs ad (gx ++ [Sum.inr (11, [.int 0, .int 0, .null, .null, .int 0, .null, .null, .int 0, .int 0, .int 0, .int 0, .int 0, .int 0, .int 0, .null, .int 0, .int 0, .int 0, .int 0, .null, .int 0, .null, .null, .null, .null, .null, .null, .int 0, .null, .null, .null, .null, .null, .null, .int 0, .null, .int 0, .null, .int 0, .null, .int 0])])) (qV D (T4 cs) (fun u : Nat → Nat => wM cs (adj ad (140 + 1) u) gm)) 1 21 2073) (hJ0 : JW (gm ++ [Sum.inl (2, aval 2 1)])) {p : Program} {e : Env} {s : State} {m : MethodId} {below : List Frame} {meth : Method} {c : Code} (l : Launch) (hflags : l.flags = flags0) {b L : Nat} {xs : Nat → Int32} (hL : L ≤ 3072) (C0 : lw_At p s m meth c b L xs) : W p l e room_1 s m #[Value.ref b] below meth c s.heap [] 0 0 (lw_Z below #[Value.ref b] s) (entryFrame m ([Value.ref b] : List Value).toArray 8) := by
  obtain ⟨D, cs, C, hX, hbl, hlt⟩ := law_ctx l hflags C0
  obtain ⟨A, hAe⟩ : ∃ A : Nat → Prop, A = fun q => s.heap.size ≤ q := ⟨_, rfl⟩
  have hAA : ∀ q, A q → s.heap.size ≤ q := fun q hq => by rw [hAe] at hq; exact hq
  rw [← hAe] at C
  have hx := C.1
  have hb := C.2.1
  have hS : va_S A s.heap s.heap [] := va_S.rf
  have hP : va_P D CL [] s.heap := fun k q h => by simp at h
  have hD : va_D A [] := ⟨fun i j p q h => by simp at h, fun k q h => by simp at h⟩
  have hl := lv_entry ([.ref b]) (n := 8) (Nat.le_of_ble_eq_true rfl)
  rw [lg_entry_eq]
  generalize (lg_sl ([.ref b]) ++ List.replicate (8 - (lg_sl ([.ref b])).length) Slot.unset).toArray = ls at hl ⊢
  have hl : lv_has ls 8 [(0, .ref b)] := hl
  refine r_new C hP hD hS nw_L_8 (Nat.le_of_ble_eq_true rfl) (Nat.le_of_ble_eq_true rfl) dL_law_0 (fun q1 H hP hD hS => ?_)
  obtain ⟨ad1, had1⟩ : ∃ ad1 : Nat → Nat, ad1 = fun _ => q1 := ⟨_, rfl⟩
  have e1 : [(q1, Sum.inr (10, [.null, .null, .null, .null, .null, .null, .null, .null, .null, .null, .null, .null, .null, .null, .null, .int 0, .int 0, .int 0]))] = wM cs ad1 [.inr (10, [.null, .null, .null, .null, .null, .null, .null, .null, .null, .null, .null, .null, .null, .null, .null, .int 0, .int 0, .int 0])] := by rw [had1]; rfl
  have hP : va_P D CL [(q1, Sum.inr (10, [.null, .null, .null, .null, .null, .null, .null, .null, .null, .null, .null, .null, .null, .null, .null, .int 0, .int 0, .int 0]))] H := hP
  have hD : va_D A [(q1, Sum.inr (10, [.null, .null, .null, .null, .null, .null, .null, .null, .null, .null, .null, .null, .null, .null, .null, .int 0, .int 0, .int 0]))] := hD
  rw [e1] at hP hD
  refine W.widen (k := 1) (n := 18) (Nat.le_of_ble_eq_true rfl) (Nat.le_of_ble_eq_true rfl) ?_
  refine lv_dup hx hb dL_law_3 rfl ?_
  have a1 : ad1 0 = q1 := by rw [had1]
  have hM1 := c1 l D cs ad1
  rw [a1] at hM1
  refine call_v (w1 := fun u : Nat → Nat => wM cs (adj ad1 1 u) gx) (wr := []) C (run_I (As := []) (rest := [.ref q1]) C hM1 cI_L_172 hP hD hS [0] rfl rfl rfl hl.1 rfl (Nat.le_of_ble_eq_true rfl) dL_law_4 (rm_lawN (by decide) (by decide)) ⟨Nat.le_of_ble_eq_true rfl, Nat.le_of_ble_eq_true rfl⟩) hP hD hS [0] [] rfl rfl rfl (fun i h => nomatch h) (fun u1 H locs hP hD hS => ?_)
  have hP : va_P D CL (wM cs (adj ad1 1 u1) gx) H := hP
  have hD : va_D A (wM cs (adj ad1 1 u1) gx) := hD
  have b2 : adj ad1 1 u1 0 = q1 := (adj_agr ad1 1 u1 0 (by decide)).trans a1
  generalize adj ad1 1 u1 = ad2 at hP hD b2
  refine lv_astore_n (lv' := [(1, .ref q1), (0, .ref b)]) hx hb dL_law_7 rfl hl (by decide) rfl (fun ls hl => ?_)
  refine r_new C hP hD hS nw_L_173 (Nat.le_of_ble_eq_true rfl) (Nat.le_of_ble_eq_true rfl) dL_law_8 (fun q3 H hP hD hS => ?_)
  have e3 : wM cs ad2 gx ++ [(q3, Sum.inr (11, [.int 0, .int 0, .null, .null, .int 0, .null, .null, .int 0, .int 0, .int 0, .int 0, .int 0, .int 0, .int 0, .null, .int 0, .int 0, .int 0, .int 0, .null, .int 0, .null, .null, .null, .null, .null, .null, .int 0, .null, .null, .null, .null, .null, .null, .int 0, .null, .int 0, .null, .int 0, .null, .int 0]))] = wM cs (adA gx.length q3 ad2) (gx ++ [.inr (11, [.int 0, .int 0, .null, .null, .int 0, .null, .null, .int 0, .int 0, .int 0, .int 0, .int 0, .int 0, .int 0, .null, .int 0, .int 0, .int 0, .int 0, .null, .int 0, .null, .null, .null, .null, .null, .null, .int 0, .null, .null, .null, .null, .null, .null, .int 0, .null, .int 0, .null, .int 0, .null, .int 0])]) := wM_app kx rfl
  rw [e3] at hP hD
  have b3 : adA gx.length q3 ad2 0 = q1 := (adA_agr gx.length q3 ad2 0 (by rw [lx]; decide)).trans b2
  have c3 : adA gx.length q3 ad2 140 = q3 := by rw [lx]; exact adA_self _ _ _
  generalize adA gx.length q3 ad2 = ad3 at hP hD b3 c3
  refine W.widen (k := 141) (n := 2635) (Nat.le_of_ble_eq_true rfl) (Nat.le_of_ble_eq_true rfl) ?_
  refine lv_dup hx hb dL_law_11 rfl ?_
  have hM2 := c2 l D cs ad3
  rw [c3] at hM2
  refine call_v (w1 := fun u : Nat → Nat => wM cs (adj ad3 (140 + 1) u) gm) (wr := []) C (run_I (As := []) (rest := [.ref q3]) C hM2 cI_L_175 hP hD hS (List.range (wM cs ad3 (gx ++ [.inr (11, [.int 0, .int 0, .null, .null, .int 0, .null, .null, .int 0, .int 0, .int 0, .int 0, .int 0, .int 0, .int 0, .null, .int 0, .int 0, .int 0, .int 0, .null, .int 0, .null, .null, .null, .null, .null, .null, .int 0, .null, .null, .null, .null, .null, .null, .int 0, .null, .int 0, .null, .int 0, .null, .int 0])])).length) (range_get _) (va_nd_range _) rfl hl.1 rfl (Nat.le_of_ble_eq_true rfl) dL_law_12 (rm_lawN (by decide) (by decide)) ⟨Nat.le_of_ble_eq_true rfl, Nat.le_of_ble_eq_true rfl⟩) hP hD hS (List.range (wM cs ad3 (gx ++ [.inr (11, [.int 0, .int 0, .null, .null, .int 0, .null, .null, .int 0, .int 0, .int 0, .int 0, .int 0, .int 0, .int 0, .null, .int 0, .int 0, .int 0, .int 0, .null, .int 0, .null, .null, .null, .null, .null, .null, .int 0, .null, .null, .null, .null, .null, .null, .int 0, .null, .int 0, .null, .int 0, .null, .int 0])])).length) [] (range_get _) rfl rfl (fun i h => nomatch h) (fun u2 H locs hP hD hS => ?_)
  have hP : va_P D CL (wM cs (adj ad3 (140 + 1) u2) gm) H := hP
  have hD : va_D A (wM cs (adj ad3 (140 + 1) u2) gm) := hD
  have b4 : adj ad3 (140 + 1) u2 0 = q1 := (adj_agr ad3 (140 + 1) u2 0 (by decide)).trans b3
  have c4 : adj ad3 (140 + 1) u2 140 = q3 := (adj_agr ad3 (140 + 1) u2 140 (by decide)).trans c3
  generalize adj ad3 (140 + 1) u2 = ad4 at hP hD b4 c4
  refine lv_astore_n (lv' := [(2, .ref q3), (1, .ref q1), (0, .ref b)]) hx hb dL_law_15 rfl hl (by decide) rfl (fun ls hl => ?_)
  refine lv_iconst (v := 1) hx hb dL_law_16 (by decide) ?_
  refine r_newa (atype := .long) (ty := .long) (N' := 1) (a0 := (1, .inr (.inl (fun _ => 0)))) C hP hD hS arw_long rfl 2 rfl (fun _ => rfl) (by decide) (by decide) (Nat.le_of_ble_eq_true rfl) (Nat.le_of_ble_eq_true rfl) (Nat.le_of_ble_eq_true rfl) dL_law_17 (fun q5 H hP hD hS => ?_)
  have e5 : wM cs ad4 gm ++ [(q5, Sum.inl (cs 2, (1, .inr (.inl (fun _ => 0)))))] = wM cs (adA gm.length q5 ad4) (gm ++ [Sum.inl (2, aval 2 1)]) := wM_app km rfl
  have hP : va_P D CL (wM cs ad4 gm ++ [(q5, Sum.inl (cs 2, (1, .inr (.inl (fun _ => 0)))))]) H := hP
  have hD : va_D A (wM cs ad4 gm ++ [(q5, Sum.inl (cs 2, (1, .inr (.inl (fun _ => 0)))))]) := hD
  rw [e5] at hP hD
  have b5 : adA gm.length q5 ad4 0 = q1 := (adA_agr gm.length q5 ad4 0 (by rw [lm]; decide)).trans b4
  have c5 : adA gm.length q5 ad4 140 = q3 := (adA_agr gm.length q5 ad4 140 (by rw [lm]; decide)).trans c4
  have d5 : adA gm.length q5 ad4 162 = q5 := by rw [lm]; exact adA_self _ _ _
  generalize adA gm.length q5 ad4 = ad5 at hP hD b5 c5 d5
  refine W.widen (k := 3000) (n := 70000) (Nat.le_of_ble_eq_true rfl) (Nat.le_of_ble_eq_true rfl) ?_
  refine lv_astore_n (lv' := [(3, .ref q5), (2, .ref q3), (1, .ref q1), (0, .ref b)]) hx hb dL_law_19 rfl hl (by decide) rfl (fun ls hl => ?_)
  refine lv_iconst (v := 0) hx hb dL_law_20 (by decide) ?_
  refine lv_istore (lv' := [(4, .int 0), (3, .ref q5), (2, .ref q3), (1, .ref q1), (0, .ref b)]) hx hb dL_law_21 hl (by decide) rfl (fun ls hl => ?_)
  have l0 : (gm ++ [Sum.inl (2, aval 2 1)] : SG).length = 162 + 1 := by rw [List.length_append, lm]; rfl
  have k0 : clG (gm ++ [Sum.inl (2, aval 2 1)] : SG).length (gm ++ [Sum.inl (2, aval 2 1)] : SG) := by
    rw [List.length_append]
    exact (km.up (Nat.le_succ _)).add aval_cl
  have g6 := adW_agr ad5 b (D.2 1000)
  have K : LX p l s m meth c b L xs D cs (adW ad5 b (D.2 1000)) A := by
    refine ⟨C, hX, hbl, hlt, hAA, ?_, fun j => ?_⟩
    · unfold adW
      rw [if_neg (by decide), if_pos rfl]
    · show adW ad5 b (D.2 1000) (300 + j) = _
      unfold adW
      rw [if_neg (by omega), if_neg ?_]
      · rw [Nat.add_sub_cancel_left]
      · omega
  have e6 : wM cs (adW ad5 b (D.2 1000)) (gm ++ [Sum.inl (2, aval 2 1)]) = wM cs ad5 (gm ++ [Sum.inl (2, aval 2 1)]) := agr_w g6 (k0.up (by rw [l0]; decide)) (by rw [l0]; decide)
  rw [← e6] at hP hD
  have hlv : lM (adW ad5 b (D.2 1000)) [(0, .ref 250), (1, .ref 0), (2, .ref 140), (3, .ref 162), (4, .int (nJ 0))] = [(0, .ref b), (1, .ref q1), (2, .ref q3), (3, .ref q5), (4, .int 0)] := by
    have h0 : adW ad5 b (D.2 1000) 250 = b := K.2.2.2.2.2.1
    have h1 : adW ad5 b (D.2 1000) 0 = q1 := (g6 0 (by decide)).trans b5
    have h2 : adW ad5 b (D.2 1000) 140 = q3 := (g6 140 (by decide)).trans c5
    have h3 : adW ad5 b (D.2 1000) 162 = q5 := (g6 162 (by decide)).trans d5
    show [(0, Value.ref (adW ad5 b (D.2 1000) 250)), (1, Value.ref (adW ad5 b (D.2 1000) 0)), (2, Value.ref (adW ad5 b (D.2 1000) 140)), (3, Value.ref (adW ad5 b (D.2 1000) 162)), (4, Value.int (nJ 0))] = _
    rw [h0, h1, h2, h3]
    rfl
  have hl' := lv_sub hl [4, 3, 2, 1, 0] rfl
  exact law_loop K hL (L + 1) 0 (gm ++ [Sum.inl (2, aval 2 1)]) 3000 70000 (by omega) (by omega) hJ0 (Nat.le_refl _) (Nat.le_refl _) _ _ ls hP hD hS (by rw [hlv]; exact hl')
set_option maxHeartbeats 4000000 in
theorem whole_start {p : Program} {e : Env} {s : State} {m : MethodId} {below : List Frame} {meth : Method} {c : Code} (l : Launch) (hflags : l.flags = flags0) {b L : Nat} {xs : Nat → Int32} (hL : L ≤ 3072) (C0 : lw_At p s m meth c b L xs) : W p l e room_1 s m #[Value.ref b] below meth c s.heap [] 0 0 (lw_Z below #[Value.ref b] s) (entryFrame m ([Value.ref b] : List Value).toArray 8) := start_gen rX_eq.2 sgX_cl rM_eq.2 sgM_cl c1_ok c2_ok sg0_J l hflags hL C0
