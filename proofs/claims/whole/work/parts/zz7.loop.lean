/-! the law's loop -/
theorem law_case {p : Program} {l : Launch} {e : Env} {s : State} {m : MethodId} {below : List Frame} {meth : Method} {c : Code} {b L : Nat} {xs : Nat → Int32} {D : va_G} {cs : Nat → ClassId} {ad : Nat → Nat} {A : Nat → Prop} (K : LX p l s m meth c b L xs D cs ad A) {i : Nat} (hi : i + 6 ≤ L) (hL : L ≤ 3072) {σ : SG} (hJ : JW σ) {cells slots : Nat} (hcc : cells + 2 ≤ 601024) (hss : slots + 12 ≤ 7293034) (kk : ∀ σ', JW σ' → GL p l e s m below meth c b D cs ad A σ' (cells + 2) (slots + 12) 3186 [(0, .ref 250), (1, .ref 0), (2, .ref 140), (3, .ref 162), (4, .int (nJ i))] []) : ∀ k, k < 64 → GL p l e s m below meth c b D cs ad A σ cells slots 40 [(0, .ref 250), (1, .ref 0), (2, .ref 140), (3, .ref 162), (4, .int (nJ i))] [.int (nJ k)] := by
  obtain hJ := hJ
  intro k hk
  match k, hk with
  | 0, _ => exact sw_0 K (cs_0 K hi hL hJ hcc hss kk)
  | 1, _ => exact sw_1 K (cs_1 K hi hL hJ hcc hss kk)
  | 2, _ => exact sw_2 K (cs_2 K hi hL hJ hcc hss kk)
  | 3, _ => exact sw_3 K (cs_3 K hi hL hJ hcc hss kk)
  | 4, _ => exact sw_4 K (cs_4 K hi hL hJ hcc hss kk)
  | 5, _ => exact sw_5 K (cs_5 K hi hL hJ hcc hss kk)
  | 6, _ => exact sw_6 K (cs_6 K hi hL hJ hcc hss kk)
  | 7, _ => exact sw_7 K (cs_7 K hi hL hJ hcc hss kk)
  | 8, _ => exact sw_8 K (cs_8 K hi hL hJ hcc hss kk)
  | 9, _ => exact sw_9 K (cs_9 K hi hL hJ hcc hss kk)
  | 10, _ => exact sw_10 K (cs_10 K hi hL hJ hcc hss kk)
  | 11, _ => exact sw_11 K (cs_11 K hi hL hJ hcc hss kk)
  | 12, _ => exact sw_12 K (cs_12 K hi hL hJ hcc hss kk)
  | 13, _ => exact sw_13 K (cs_13 K hi hL hJ hcc hss kk)
  | 14, _ => exact sw_14 K (cs_14 K hi hL hJ hcc hss kk)
  | 15, _ => exact sw_15 K (cs_15 K hi hL hJ hcc hss kk)
  | 16, _ => exact sw_16 K (cs_16 K hi hL hJ hcc hss kk)
  | 17, _ => exact sw_17 K (cs_17 K hi hL hJ hcc hss kk)
  | 18, _ => exact sw_18 K (cs_18 K hi hL hJ hcc hss kk)
  | 19, _ => exact sw_19 K (cs_19 K hi hL hJ hcc hss kk)
  | 20, _ => exact sw_20 K (cs_20 K hi hL hJ hcc hss kk)
  | 21, _ => exact sw_21 K (cs_21 K hi hL hJ hcc hss kk)
  | 22, _ => exact sw_22 K (cs_22 K hi hL hJ hcc hss kk)
  | 23, _ => exact sw_23 K (cs_23 K hi hL hJ hcc hss kk)
  | 24, _ => exact sw_24 K (cs_24 K hi hL hJ hcc hss kk)
  | 25, _ => exact sw_25 K (cs_25 K hi hL hJ hcc hss kk)
  | 26, _ => exact sw_26 K (cs_26 K hi hL hJ hcc hss kk)
  | 27, _ => exact sw_27 K (cs_27 K hi hL hJ hcc hss kk)
  | 28, _ => exact sw_28 K (cs_28 K hi hL hJ hcc hss kk)
  | 29, _ => exact sw_29 K (cs_29 K hi hL hJ hcc hss kk)
  | 30, _ => exact sw_30 K (cs_30 K hi hL hJ hcc hss kk)
  | 31, _ => exact sw_31 K (cs_31 K hi hL hJ hcc hss kk)
  | 32, _ => exact sw_32 K (cs_32 K hi hL hJ hcc hss kk)
  | 33, _ => exact sw_33 K (cs_33 K hi hL hJ hcc hss kk)
  | 34, _ => exact sw_34 K (cs_34 K hi hL hJ hcc hss kk)
  | 35, _ => exact sw_35 K (cs_35 K hi hL hJ hcc hss kk)
  | 36, _ => exact sw_36 K (cs_36 K hi hL hJ hcc hss kk)
  | 37, _ => exact sw_37 K (cs_37 K hi hL hJ hcc hss kk)
  | 38, _ => exact sw_38 K (cs_38 K hi hL hJ hcc hss kk)
  | 39, _ => exact sw_39 K (cs_39 K hi hL hJ hcc hss kk)
  | 40, _ => exact sw_40 K (cs_40 K hi hL hJ hcc hss kk)
  | 41, _ => exact sw_41 K (cs_41 K hi hL hJ hcc hss kk)
  | 42, _ => exact sw_42 K (cs_42 K hi hL hJ hcc hss kk)
  | 43, _ => exact sw_43 K (cs_43 K hi hL hJ hcc hss kk)
  | 44, _ => exact sw_44 K (cs_44 K hi hL hJ hcc hss kk)
  | 45, _ => exact sw_45 K (cs_45 K hi hL hJ hcc hss kk)
  | 46, _ => exact sw_46 K (cs_46 K hi hL hJ hcc hss kk)
  | 47, _ => exact sw_47 K (cs_47 K hi hL hJ hcc hss kk)
  | 48, _ => exact sw_48 K (cs_48 K hi hL hJ hcc hss kk)
  | 49, _ => exact sw_49 K (cs_49 K hi hL hJ hcc hss kk)
  | 50, _ => exact sw_50 K (cs_50 K hi hL hJ hcc hss kk)
  | 51, _ => exact sw_51 K (cs_51 K hi hL hJ hcc hss kk)
  | 52, _ => exact sw_52 K (cs_52 K hi hL hJ hcc hss kk)
  | 53, _ => exact sw_53 K (cs_53 K hi hL hJ hcc hss kk)
  | 54, _ => exact sw_54 K (cs_54 K hi hL hJ hcc hss kk)
  | 55, _ => exact sw_55 K (cs_55 K hi hL hJ hcc hss kk)
  | 56, _ => exact sw_56 K (cs_56 K hi hL hJ hcc hss kk)
  | 57, _ => exact sw_57 K (cs_57 K hi hL hJ hcc hss kk)
  | 58, _ => exact sw_58 K (cs_58 K hi hL hJ hcc hss kk)
  | 59, _ => exact sw_59 K (gl_wide (by omega) (by omega) (kk σ hJ))
  | 60, _ => exact sw_60 K (gl_wide (by omega) (by omega) (kk σ hJ))
  | 61, _ => exact sw_61 K (gl_wide (by omega) (by omega) (kk σ hJ))
  | 62, _ => exact sw_62 K (gl_wide (by omega) (by omega) (kk σ hJ))
  | 63, _ => exact sw_63 K (gl_wide (by omega) (by omega) (kk σ hJ))
  | k + 64, hk => exact absurd hk (by omega)
set_option maxHeartbeats 4000000 in
set_option maxRecDepth 100000 in
/-- the loop, from its head on -/
theorem law_loop {p : Program} {l : Launch} {e : Env} {s : State} {m : MethodId} {below : List Frame} {meth : Method} {c : Code} {b L : Nat} {xs : Nat → Int32} {D : va_G} {cs : Nat → ClassId} {ad : Nat → Nat} {A : Nat → Prop} (K : LX p l s m meth c b L xs D cs ad A) (hL : L ≤ 3072) : ∀ (n i : Nat) (σ : SG) (cells slots : Nat), L < i + 6 + n → i ≤ 3072 → JW σ → cells ≤ 3000 + i → slots ≤ 70000 + 2 * i → GL p l e s m below meth c b D cs ad A σ cells slots 23 [(0, .ref 250), (1, .ref 0), (2, .ref 140), (3, .ref 162), (4, .int (nJ i))] [] := by
  intro n
  induction n with
  | zero =>
    intro i σ cells slots hn hi hJ hc hs
    exact law_head K hL hi (by omega) (by omega) (fun h => absurd h (by omega))
  | succ n ih =>
    intro i σ cells slots hn hi hJ hc hs
    refine law_head K hL hi (by omega) (by omega) (fun h => ?_)
    obtain ⟨k, hk, hv⟩ := and63 (xs (nJ i).toNatClampNeg)
    rw [hv]
    refine law_case K h hL hJ (by omega) (by omega) (fun σ' hJ' => ?_) k hk
    refine gl_stC K dL_law_3186 (r := (3189, (4, .int (nJ i + Int32.ofInt 6)) :: [(0, .ref 250), (1, .ref 0), (2, .ref 140), (3, .ref 162)], [])) rfl ?_
    refine gl_stC K dL_law_3189 (r := (23, (4, .int (nJ i + Int32.ofInt 6)) :: [(0, .ref 250), (1, .ref 0), (2, .ref 140), (3, .ref 162)], [])) rfl ?_
    have e6 : nJ i + Int32.ofInt 6 = nJ (i + 6) := nJ_add i 6
    rw [e6]
    refine gl_lv (lv' := [(0, .ref 250), (1, .ref 0), (2, .ref 140), (3, .ref 162), (4, .int (nJ (i + 6)))]) (fm_c (List.mem_of_getElem? (i := 1) rfl) (fm_c (List.mem_of_getElem? (i := 2) rfl) (fm_c (List.mem_of_getElem? (i := 3) rfl) (fm_c (List.mem_of_getElem? (i := 4) rfl) (fm_c (List.mem_of_getElem? (i := 0) rfl) fm_n))))) ?_
    exact ih (i + 6) σ' (cells + 2) (slots + 12) (by omega) (by omega) hJ' (by omega) (by omega)
