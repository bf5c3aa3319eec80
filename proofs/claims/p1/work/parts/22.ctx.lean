/-- what holds throughout the law: its frame, the script of six ints, no stack traces -/
def LCx (p : Program) (l : Launch) (s : State) (m : MethodId) (meth : Method) (c : Code) (b L : Nat) (xs : Nat → Int32) (D : va_G) (cI cZ cJ : ClassId) (A : Nat → Prop) : Prop := Cx p s m #[Value.ref b] meth c code 8 ret x D (TT cI cZ cJ) A ∧ va_X b L xs s s.heap ∧ b < s.heap.size ∧ l.stackTraces = false ∧ ∀ q, A q → s.heap.size ≤ q
def LW (cI cZ : ClassId) (xo inp byt par pla dra lat his f1 f2 mo as ak ab ar : Nat) (gx gpl gdr gla gf1 gf2 gpa ghi gm : Nat → Value) : va_W := [(xo, .inr (10, xC inp par pla dra lat his f1 f2 0 0 (-1) gx)), (inp, .inr (2, [.int 0, .int 0, .int 0, .int 0, .int 0, .int 0, .ref byt])), (byt, .inl (cI, 600, .inl (fun _ => 0))), (par, .inr (4, [.ref inp, .ref dra, gpa 2, .int 0, .int 0])), (pla, .inr (5, pC 0 0 0 gpl)), (dra, .inr (5, pC 0 0 0 gdr)), (lat, .inr (3, [.int 0, .long 0, gla 2, gla 3, gla 4])), (his, .inr (1, [.int 0, .int 0, ghi 2])), (f1, .inr (5, pC 0 0 0 gf1)), (f2, .inr (5, pC 0 0 0 gf2)), (mo, .inr (11, mC 0 0 0 (-1) 0 0 0 0 0 0 as ak ab ar gm)), (as, .inl (cI, 63, .inl (fun _ => 0))), (ak, .inl (cZ, 2, .inl (fun _ => 0))), (ab, .inl (cI, 600, .inl (fun _ => 0))), (ar, .inl (cI, 63, .inl (fun _ => 0)))]
set_option maxHeartbeats 4000000 in
set_option maxRecDepth 100000 in
/-- the loop's head, when no call is left -/
theorem law_done {p : Program} {l : Launch} {e : Env} {s : State} {m : MethodId} {below : List Frame} {meth : Method} {c : Code} {b L : Nat} {xs : Nat → Int32} {D : va_G} {cI cZ cJ : ClassId} {A : Nat → Prop} (K : LCx p l s m meth c b L xs D cI cZ cJ A) {i : Int32} (hi : Int32.ofNat L - 6 < i) {H : Heap} {locs : List Loc} {cells slots : Nat} {ls : Array Slot} (hS : va_S A s.heap H locs) (hl : lv_has ls 8 [(0, .ref b), (4, .int i)]) (hc : cells ≤ 600002) (hs : slots ≤ 7302232) : W p l e room_1 s m #[Value.ref b] below meth c H locs cells slots (lw_Z below #[Value.ref b] s) (F0 m 23 ls []) := by
  obtain ⟨C, hX, hbl, hlt, hAA⟩ := id K
  have hx := C.1
  have hb := C.2.1
  have hbA : ¬ A b := fun h => absurd (hAA b h) (Nat.not_le.mpr hbl)
  refine lv_iload hx hb dL_law_23 (lv_at hl 1 rfl) ?_
  refine lv_aload_n hx hb dL_law_25 rfl (lv_at hl 0 rfl) ?_
  refine va_slen hx hb hX hbl hbA hS dL_law_26 ?_
  refine lv_bipush (v := 6) hx hb dL_law_27 (by decide) ?_
  refine lv_isub hx hb dL_law_29 ?_
  refine lv_icmp_gt (tgt := 3192) hx hb dL_law_30 (by decide) (fun _ => ?_) (fun h => absurd hi h)
  refine lv_iconst (v := 1) hx hb dL_law_3192 (by decide) ?_
  refine va_forget (fun q hq => hAA _ (hS.2.2 q hq)) ?_
  refine W.widen (k := 600002) (n := 7302232) hc hs ?_
  exact lw_ret hx hb C.2.2.2.2.2.2.2.2.2.2.1 C.2.2.2.2.2.2.2.2.2.1 dL_law_3193
set_option maxHeartbeats 4000000 in
set_option maxRecDepth 100000 in
theorem law_exit {p : Program} {l : Launch} {e : Env} {s : State} {m : MethodId} {below : List Frame} {meth : Method} {c : Code} {b : Nat} {xs : Nat → Int32} {D : va_G} {cI cZ cJ : ClassId} {A : Nat → Prop} (K : LCx p l s m meth c b 6 xs D cI cZ cJ A) {H : Heap} {locs : List Loc} {cells slots : Nat} {ls : Array Slot} (hS : va_S A s.heap H locs) (hl : lv_has ls 8 [(0, .ref b), (4, .int 0)]) (hc : cells ≤ 600002) (hs : slots ≤ 7302232) : W p l e room_1 s m #[Value.ref b] below meth c H locs cells slots (lw_Z below #[Value.ref b] s) (F0 m 3186 ls []) := by
  have hx := K.1.1
  have hb := K.1.2.1
  refine lv_iinc (v := 6) (lv' := [(4, .int 6), (0, .ref b)]) hx hb dL_law_3186 hl (k := 1) rfl (by decide) (by decide) rfl (fun ls hl => ?_)
  refine lv_goto (tgt := 23) hx hb dL_law_3189 (by decide) ?_
  exact law_done K (by decide) hS (lv_sub hl [1, 0] rfl) hc hs
