/-! calls and throws in the packaging -/
section Calls
variable {p : Program} {l : Launch} {e : Env} {R : Room} {s : State} {m : MethodId} {args : Array Value} {below : List Frame} {meth : Method} {c : Code} {H : Heap} {locs : List Loc} {cells slots : Nat} {Q : State → Prop}
variable {cc : ByteArray} {n : Nat} {ret : Option FieldType} {y0 : MethodName} {D : va_G} {T : List (ClassId × FieldType)} {A : Nat → Prop} {pc : Nat} {ls : Array Slot} {rest st As : List Value} {ws wc wr wx : va_W} {b : Nat}
variable {y : MethodName} {bytes : ByteArray} {maxL na idx d mc ms : Nat} {rt : Option FieldType} {Qf : (Nat → Prop) → Array Value → State → Outcome → State → Prop} {E : String}
theorem cv_cw (h : CV y0.cls idx y bytes maxL rt na) (ht : ∀ w ∈ Big, w.before args s = true) (hR : (rmd d mc ms).frames + 1 ≤ R.frames ∧ 8 + (maxL + 11) + (rmd d mc ms).locals ≤ R.locals) : CallW R s args y0.cls y.cls idx y bytes maxL rt (.code y bytes maxL rt :: Big) (rmd d mc ms) mc ms na := by
  obtain ⟨h1, h2, h3, h4, h5, h6⟩ := h
  refine cwV na ht (big_sub (fun w hw => ?_)) rfl rfl rfl ⟨rfl, h6⟩ hR
  unfold wsV at hw
  rcases List.mem_append.mp hw with hw | hw
  · simp only [List.mem_cons, List.not_mem_nil, or_false] at hw
    rcases hw with rfl | rfl | rfl | rfl <;> assumption
  · rcases List.mem_cons.mp hw with rfl | hw
    · exact h5
    · exact hw
theorem ci_cw (h : CI y0.cls idx y bytes maxL na) (ht : ∀ w ∈ Big, w.before args s = true) (hR : (rmd d mc ms).frames + 1 ≤ R.frames ∧ 8 + (maxL + 11) + (rmd d mc ms).locals ≤ R.locals) : CallB R s args y0.cls idx y bytes maxL none (.code y bytes maxL none :: Big) (rmd d mc ms) mc ms na ∧ y.name = "<init>" ∧ (Cond.instanceMethod y).before args s = true := by
  obtain ⟨h1, h2, h4, h5, hn, h6⟩ := h
  refine cwI na ht (big_sub (fun w hw => ?_)) rfl rfl rfl (ht _ h4) (ht _ h1) (ht _ h2) hn h6 hR
  rcases List.mem_cons.mp hw with rfl | hw
  · exact h5
  · exact hw
theorem cs_cw (h : CS y0.cls idx y bytes maxL rt na) (ht : ∀ w ∈ Big, w.before args s = true) (hR : (rmd d mc ms).frames + 1 ≤ R.frames ∧ 8 + (maxL + 11) + (rmd d mc ms).locals ≤ R.locals) : CallB R s args y0.cls idx y bytes maxL rt (.code y bytes maxL rt :: Big) (rmd d mc ms) mc ms na ∧ (Cond.static y).before args s = true := by
  obtain ⟨h1, h2, h4, h5, h6⟩ := h
  refine va_cwS na ht (big_sub (fun w hw => ?_)) rfl rfl rfl h6 hR
  unfold va_wsS at hw
  rcases List.mem_append.mp hw with hw | hw
  · simp only [List.mem_cons, List.not_mem_nil, or_false] at hw
    rcases hw with rfl | rfl | rfl <;> assumption
  · rcases List.mem_cons.mp hw with rfl | hw
    · exact h5
    · exact hw
theorem csw_cw {hh : List (Nat × Nat × Nat × Nat)} (h : CSW y0.cls idx y bytes maxL rt hh na) (ht : ∀ w ∈ Big, w.before args s = true) (hR : (rmd d mc ms).frames + 1 ≤ R.frames ∧ 8 + (maxL + 11) + (rmd d mc ms).locals ≤ R.locals) : vx_CSW R s args y0.cls idx y bytes maxL rt hh (.codeWith y bytes maxL rt hh :: Big) (rmd d mc ms) mc ms na := by
  obtain ⟨h1, h2, h4, h5, h6⟩ := h
  refine vx_cwSW na ht (big_sub (fun w hw => ?_)) rfl rfl rfl h6 hR
  unfold va_wsS at hw
  rcases List.mem_append.mp hw with hw | hw
  · simp only [List.mem_cons, List.not_mem_nil, or_false] at hw
    rcases hw with rfl | rfl | rfl <;> assumption
  · rcases List.mem_cons.mp hw with rfl | hw
    · exact h5
    · exact hw
theorem run_V (C : Cx p s m args meth c cc n ret y0 D T A) (hM : cM l y bytes maxL rt D T (.ref b :: As) wc Qf d mc ms) (cv : CV y0.cls idx y bytes maxL rt na) (hP : va_P D CL ws H) (hD : va_D A ws) (hS : va_S A s.heap H locs) (isC : List Nat) (hC : isC.map (fun i => ws[i]?) = wc.map some) (hnC : va_nd isC = true) (q0 : Nat) {ci : Nat} {fs : List Value} (he : wc[q0]? = some (b, .inr (ci, fs))) {q : vw_C} (hc : CL[ci]? = some q) (hq : q.1 = y.cls) (hna : As.length = na) (hz : ls.size = n) (hst : st = As.reverse ++ .ref b :: rest) (hroom : (rest.map fun v => v.category).sum ≤ 8) (hdg : decode cc pc = .ok (.invokevirtual idx, 3))
    (hR : (rmd d mc ms).frames + 1 ≤ R.frames ∧ 8 + (maxL + 11) + (rmd d mc ms).locals ≤ R.locals) (hf : cells + mc ≤ R.cells ∧ slots + ms ≤ R.slots) : va_Run p l e R s m args below meth c H locs cells slots mc ms (F0 m pc ls st) rest (Qf (va_A wc H.size) (Value.ref b :: As).toArray) (va_A wc H.size) := by
  have hpre := pre_of (av := .ref b :: As) C hP hD hS isC hC hnC
  obtain ⟨hx, hb, hml, hown, hts, hK, -⟩ := C
  have hrec := va_recv hK (hP.sub isC (sub_of _ _ _ hC)) hc he
  rw [hq] at hrec
  exact va_runV (As := As) (rest := rest) ⟨hx, hb, hml, hown, hts⟩ (hM H.size) (cv_cw cv hts hR) ⟨cPre_blind, hrec, hpre⟩ rfl hna hz hst (lv_room hroom) hdg hf
theorem run_I (C : Cx p s m args meth c cc n ret y0 D T A) (hM : cM l y bytes maxL none D T (.ref b :: As) wc Qf d mc ms) (cv : CI y0.cls idx y bytes maxL na) (hP : va_P D CL ws H) (hD : va_D A ws) (hS : va_S A s.heap H locs) (isC : List Nat) (hC : isC.map (fun i => ws[i]?) = wc.map some) (hnC : va_nd isC = true) (hna : As.length = na) (hz : ls.size = n) (hst : st = As.reverse ++ .ref b :: rest) (hroom : (rest.map fun v => v.category).sum ≤ 8) (hdg : decode cc pc = .ok (.invokespecial idx, 3))
    (hR : (rmd d mc ms).frames + 1 ≤ R.frames ∧ 8 + (maxL + 11) + (rmd d mc ms).locals ≤ R.locals) (hf : cells + mc ≤ R.cells ∧ slots + ms ≤ R.slots) : va_Run p l e R s m args below meth c H locs cells slots mc ms (F0 m pc ls st) rest (Qf (va_A wc H.size) (Value.ref b :: As).toArray) (va_A wc H.size) := by
  have hpre := pre_of (av := .ref b :: As) C hP hD hS isC hC hnC
  obtain ⟨hx, hb, hml, hown, hts, hK, -⟩ := C
  exact va_runI (As := As) (rest := rest) ⟨hx, hb, hml, hown, hts⟩ (hM H.size) (ci_cw cv hts hR) ⟨cPre_blind, hpre⟩ rfl hna hz hst (lv_room hroom) hdg hf
theorem run_IN (C : Cx p s m args meth c cc n ret y0 D T A) (hM : cM l y bytes maxL none D T (.ref b :: As) wc Qf d mc ms) (cv : CIN y0.cls idx y bytes maxL na) (hP : va_P D CL ws H) (hD : va_D A ws) (hS : va_S A s.heap H locs) (isC : List Nat) (hC : isC.map (fun i => ws[i]?) = wc.map some) (hnC : va_nd isC = true) (hna : As.length = na) (hz : ls.size = n) (hst : st = As.reverse ++ .ref b :: rest) (hroom : (rest.map fun v => v.category).sum ≤ 8) (hdg : decode cc pc = .ok (.invokespecial idx, 3))
    (hR : (rmd d mc ms).frames + 1 ≤ R.frames ∧ 8 + (maxL + 11) + (rmd d mc ms).locals ≤ R.locals) (hf : cells + mc ≤ R.cells ∧ slots + ms ≤ R.slots) : va_Run p l e R s m args below meth c H locs cells slots mc ms (F0 m pc ls st) rest (Qf (va_A wc H.size) (Value.ref b :: As).toArray) (va_A wc H.size) := by
  have hpre := pre_of (av := .ref b :: As) C hP hD hS isC hC hnC
  obtain ⟨hx, hb, hml, hown, hts, hK, -, -, hSx, -⟩ := C
  obtain ⟨h1, h2, h4, h5, hn, h6⟩ := cv
  have hcw : va_CN R s args y0.cls idx y "GalleryGuards" bytes maxL none (.code y bytes maxL none :: Big) (rmd d mc ms) mc ms na := va_cnB na hts (big_sub (fun w hw => by
    rcases List.mem_cons.mp hw with rfl | hw
    · exact h5
    · exact hw)) rfl rfl rfl (hSx.2.2.2.2 _ h1) (hts _ h4) h6 hR
  exact va_runIN (As := As) (rest := rest) ⟨hx, hb, hml, hown, hts⟩ (hM H.size) ⟨hcw, hn, hts _ h2⟩ ⟨cPre_blind, hpre⟩ rfl hna hz hst (lv_room hroom) hdg hf
theorem run_S (C : Cx p s m args meth c cc n ret y0 D T A) (hM : cM l y bytes maxL rt D T As wc Qf d mc ms) (cv : CS y0.cls idx y bytes maxL rt na) (hP : va_P D CL ws H) (hD : va_D A ws) (hS : va_S A s.heap H locs) (isC : List Nat) (hC : isC.map (fun i => ws[i]?) = wc.map some) (hnC : va_nd isC = true) (hna : As.length = na) (hz : ls.size = n) (hst : st = As.reverse ++ rest) (hroom : (rest.map fun v => v.category).sum ≤ 8) (hdg : decode cc pc = .ok (.invokestatic idx, 3))
    (hR : (rmd d mc ms).frames + 1 ≤ R.frames ∧ 8 + (maxL + 11) + (rmd d mc ms).locals ≤ R.locals) (hf : cells + mc ≤ R.cells ∧ slots + ms ≤ R.slots) : va_Run p l e R s m args below meth c H locs cells slots mc ms (F0 m pc ls st) rest (Qf (va_A wc H.size) As.toArray) (va_A wc H.size) := by
  have hpre := pre_of (av := As) C hP hD hS isC hC hnC
  obtain ⟨hx, hb, hml, hown, hts, hK, -⟩ := C
  exact va_runS (As := As) (rest := rest) ⟨hx, hb, hml, hown, hts⟩ (hM H.size) (cs_cw cv hts hR) ⟨cPre_blind, hpre⟩ rfl hna hz hst (lv_room hroom) hdg hf
theorem run_SW {hh : List (Nat × Nat × Nat × Nat)} (C : Cx p s m args meth c cc n ret y0 D T A) (hM : cMW l y bytes maxL rt hh D T As wc Qf d mc ms) (cv : CSW y0.cls idx y bytes maxL rt hh na) (hP : va_P D CL ws H) (hD : va_D A ws) (hS : va_S A s.heap H locs) (isC : List Nat) (hC : isC.map (fun i => ws[i]?) = wc.map some) (hnC : va_nd isC = true) (hna : As.length = na) (hz : ls.size = n) (hst : st = As.reverse ++ rest) (hroom : (rest.map fun v => v.category).sum ≤ 8) (hdg : decode cc pc = .ok (.invokestatic idx, 3))
    (hR : (rmd d mc ms).frames + 1 ≤ R.frames ∧ 8 + (maxL + 11) + (rmd d mc ms).locals ≤ R.locals) (hf : cells + mc ≤ R.cells ∧ slots + ms ≤ R.slots) : va_Run p l e R s m args below meth c H locs cells slots mc ms (F0 m pc ls st) rest (Qf (va_A wc H.size) As.toArray) (va_A wc H.size) := by
  have hpre := pre_of (av := As) C hP hD hS isC hC hnC
  obtain ⟨hx, hb, hml, hown, hts, hK, -⟩ := C
  exact vx_runSW (As := As) (rest := rest) ⟨hx, hb, hml, hown, hts⟩ (hM H.size) (csw_cw cv hts hR) ⟨cPre_blind, hpre⟩ rfl hna hz hst (lv_room hroom) hdg hf
theorem run_VX (C : Cx p s m args meth c cc n ret y0 D T A) (hM : cX l y bytes maxL rt D T (.ref b :: As) wc E wx d mc ms) (cv : CV y0.cls idx y bytes maxL rt na) (hP : va_P D CL ws H) (hD : va_D A ws) (hS : va_S A s.heap H locs) (isC : List Nat) (hC : isC.map (fun i => ws[i]?) = wc.map some) (hnC : va_nd isC = true) (q0 : Nat) {ci : Nat} {fs : List Value} (he : wc[q0]? = some (b, .inr (ci, fs))) {q : vw_C} (hc : CL[ci]? = some q) (hq : q.1 = y.cls) (hna : As.length = na) (hz : ls.size = n) (hst : st = As.reverse ++ .ref b :: rest) (hroom : (rest.map fun v => v.category).sum ≤ 8) (hdg : decode cc pc = .ok (.invokevirtual idx, 3))
    (hR : (rmd d mc ms).frames + 1 ≤ R.frames ∧ 8 + (maxL + 11) + (rmd d mc ms).locals ≤ R.locals) (hf : cells + mc ≤ R.cells ∧ slots + ms ≤ R.slots) : vx_Run p l e R s m args below meth c H locs cells slots mc ms (F0 m pc ls st) rest (fun _ _ _ => False) (xX D T E wx (va_A wc H.size)) (va_A wc H.size) := by
  have hpre := pre_of (av := .ref b :: As) C hP hD hS isC hC hnC
  obtain ⟨hx, hb, hml, hown, hts, hK, -⟩ := C
  have hrec := va_recv hK (hP.sub isC (sub_of _ _ _ hC)) hc he
  rw [hq] at hrec
  exact vx_runV (As := As) (rest := rest) ⟨hx, hb, hml, hown, hts⟩ (hM H.size) (cv_cw cv hts hR) ⟨cPre_blind, hrec, hpre⟩ rfl hna hz hst (lv_room hroom) hdg hf
theorem run_SX (C : Cx p s m args meth c cc n ret y0 D T A) (hM : cX l y bytes maxL rt D T As wc E wx d mc ms) (cv : CS y0.cls idx y bytes maxL rt na) (hP : va_P D CL ws H) (hD : va_D A ws) (hS : va_S A s.heap H locs) (isC : List Nat) (hC : isC.map (fun i => ws[i]?) = wc.map some) (hnC : va_nd isC = true) (hna : As.length = na) (hz : ls.size = n) (hst : st = As.reverse ++ rest) (hroom : (rest.map fun v => v.category).sum ≤ 8) (hdg : decode cc pc = .ok (.invokestatic idx, 3))
    (hR : (rmd d mc ms).frames + 1 ≤ R.frames ∧ 8 + (maxL + 11) + (rmd d mc ms).locals ≤ R.locals) (hf : cells + mc ≤ R.cells ∧ slots + ms ≤ R.slots) : vx_Run p l e R s m args below meth c H locs cells slots mc ms (F0 m pc ls st) rest (fun _ _ _ => False) (xX D T E wx (va_A wc H.size)) (va_A wc H.size) := by
  have hpre := pre_of (av := As) C hP hD hS isC hC hnC
  obtain ⟨hx, hb, hml, hown, hts, hK, -⟩ := C
  exact vx_runS (As := As) (rest := rest) ⟨hx, hb, hml, hown, hts⟩ (hM H.size) (cs_cw cv hts hR) ⟨cPre_blind, hpre⟩ rfl hna hz hst (lv_room hroom) hdg hf
theorem call_v (C : Cx p s m args meth c cc n ret y0 D T A) {a : Array Value} {S : Type} {w1 : S → va_W} (hr : va_Run p l e R s m args below meth c H locs cells slots mc ms (F0 m pc ls st) rest (qV D T w1 (va_A wc H.size) a) (va_A wc H.size)) (hP : va_P D CL ws H) (hD : va_D A ws) (hS : va_S A s.heap H locs) (isC isR : List Nat) (hC : isC.map (fun i => ws[i]?) = wc.map some) (hR : isR.map (fun i => ws[i]?) = wr.map some) (hnR : va_nd isR = true) (hdis : ∀ i ∈ isR, i ∉ isC)
    (kk : ∀ (u : S) (H1 : Heap) (locs1 : List Loc), va_P D CL (wr ++ w1 u) H1 → va_D A (wr ++ w1 u) → va_S A s.heap H1 locs1 → W p l e R s m args below meth c H1 locs1 (cells + mc) (slots + ms) Q (F0 m (pc + 3) ls rest)) : W p l e R s m args below meth c H locs cells slots Q (F0 m pc ls st) := by
  obtain ⟨-, -, -, -, -, -, hA, -⟩ := C
  have hF := va_free hD hS hA isC hC
  refine va_callv hr hS (fun q _ h => hF q h) hF (fun u t H1 locs1 ht hvm _ hB hz1 hk1 hS1 => ?_)
  obtain ⟨hP1, -, hD1⟩ := hB
  rw [ht] at hP1
  obtain ⟨hP2, hD2⟩ := va_join hP hD isC isR hC hR hnR hdis hk1 hF hP1 hD1
  exact kk u H1 locs1 hP2 hD2 hS1
theorem call_i (C : Cx p s m args meth c cc n ret y0 D T A) {a : Array Value} {S : Type} {f : S → Int32} {w1 : S → va_W} (hr : va_Run p l e R s m args below meth c H locs cells slots mc ms (F0 m pc ls st) rest (qI D T f w1 (va_A wc H.size) a) (va_A wc H.size)) (hP : va_P D CL ws H) (hD : va_D A ws) (hS : va_S A s.heap H locs) (isC isR : List Nat) (hC : isC.map (fun i => ws[i]?) = wc.map some) (hR : isR.map (fun i => ws[i]?) = wr.map some) (hnR : va_nd isR = true) (hdis : ∀ i ∈ isR, i ∉ isC)
    (kk : ∀ (u : S) (H1 : Heap) (locs1 : List Loc), va_P D CL (wr ++ w1 u) H1 → va_D A (wr ++ w1 u) → va_S A s.heap H1 locs1 → W p l e R s m args below meth c H1 locs1 (cells + mc) (slots + ms) Q (F0 m (pc + 3) ls (.int (f u) :: rest))) : W p l e R s m args below meth c H locs cells slots Q (F0 m pc ls st) := by
  obtain ⟨-, -, -, -, -, -, hA, -⟩ := C
  have hF := va_free hD hS hA isC hC
  refine va_calli hr hS (fun q _ h => hF q h) hF (fun r u t H1 locs1 ht hvm hpr hB hz1 hk1 hS1 => ?_)
  obtain ⟨hP1, -, hD1⟩ := hB
  rw [ht] at hP1
  obtain ⟨hP2, hD2⟩ := va_join hP hD isC isR hC hR hnR hdis hk1 hF hP1 hD1
  subst hpr
  exact kk u H1 locs1 hP2 hD2 hS1
theorem call_l (C : Cx p s m args meth c cc n ret y0 D T A) {a : Array Value} {S : Type} {f : S → Int64} {w1 : S → va_W} (hr : va_Run p l e R s m args below meth c H locs cells slots mc ms (F0 m pc ls st) rest (qL D T f w1 (va_A wc H.size) a) (va_A wc H.size)) (hP : va_P D CL ws H) (hD : va_D A ws) (hS : va_S A s.heap H locs) (isC isR : List Nat) (hC : isC.map (fun i => ws[i]?) = wc.map some) (hR : isR.map (fun i => ws[i]?) = wr.map some) (hnR : va_nd isR = true) (hdis : ∀ i ∈ isR, i ∉ isC)
    (kk : ∀ (u : S) (H1 : Heap) (locs1 : List Loc), va_P D CL (wr ++ w1 u) H1 → va_D A (wr ++ w1 u) → va_S A s.heap H1 locs1 → W p l e R s m args below meth c H1 locs1 (cells + mc) (slots + ms) Q (F0 m (pc + 3) ls (.long (f u) :: rest))) : W p l e R s m args below meth c H locs cells slots Q (F0 m pc ls st) := by
  obtain ⟨-, -, -, -, -, -, hA, -⟩ := C
  have hF := va_free hD hS hA isC hC
  refine va_calll hr hS (fun q _ h => hF q h) hF (fun r u t H1 locs1 ht hvm hpr hB hz1 hk1 hS1 => ?_)
  obtain ⟨hP1, -, hD1⟩ := hB
  rw [ht] at hP1
  obtain ⟨hP2, hD2⟩ := va_join hP hD isC isR hC hR hnR hdis hk1 hF hP1 hD1
  subst hpr
  exact kk u H1 locs1 hP2 hD2 hS1
theorem call_r (C : Cx p s m args meth c cc n ret y0 D T A) {a : Array Value} {S : Type} {f : S → Nat} {w1 : S → va_W} (hr : va_Run p l e R s m args below meth c H locs cells slots mc ms (F0 m pc ls st) rest (qR D T f w1 (va_A wc H.size) a) (va_A wc H.size)) (hP : va_P D CL ws H) (hD : va_D A ws) (hS : va_S A s.heap H locs) (isC isR : List Nat) (hC : isC.map (fun i => ws[i]?) = wc.map some) (hR : isR.map (fun i => ws[i]?) = wr.map some) (hnR : va_nd isR = true) (hdis : ∀ i ∈ isR, i ∉ isC)
    (kk : ∀ (u : S) (H1 : Heap) (locs1 : List Loc), va_P D CL (wr ++ w1 u) H1 → va_D A (wr ++ w1 u) → va_S A s.heap H1 locs1 → W p l e R s m args below meth c H1 locs1 (cells + mc) (slots + ms) Q (F0 m (pc + 3) ls (.ref (f u) :: rest))) : W p l e R s m args below meth c H locs cells slots Q (F0 m pc ls st) := by
  obtain ⟨-, -, -, -, -, -, hA, -⟩ := C
  have hF := va_free hD hS hA isC hC
  refine va_callr hr hS (fun q _ h => hF q h) hF (fun u ra t H1 locs1 ht hvm _ hB hz1 hk1 hS1 => ?_)
  obtain ⟨hpr, hP1, -, hD1⟩ := hB
  rw [ht] at hP1
  obtain ⟨hP2, hD2⟩ := va_join hP hD isC isR hC hR hnR hdis hk1 hF hP1 hD1
  subst hpr
  exact kk u H1 locs1 hP2 hD2 hS1
/-- a call that throws: the frame with the exception over it -/
theorem call_X (C : Cx p s m args meth c cc n ret y0 D T A) (hr : vx_Run p l e R s m args below meth c H locs cells slots mc ms (F0 m pc ls st) rest (fun _ _ _ => False) (xX D T E wx (va_A wc H.size)) (va_A wc H.size)) (hP : va_P D CL ws H) (hD : va_D A ws) (hS : va_S A s.heap H locs) (isC isR : List Nat) (hC : isC.map (fun i => ws[i]?) = wc.map some) (hR : isR.map (fun i => ws[i]?) = wr.map some) (hnR : va_nd isR = true) (hdis : ∀ i ∈ isR, i ∉ isC)
    (kx : ∀ (ce : Cell) (q9 : Addr) (H1 : Heap) (locs1 : List Loc), H1[q9]? = some ce → ce.vm = .none → s.vm.findClass E = some ce.cls → va_P D CL (wr ++ wx) H1 → va_D A (wr ++ wx) → va_S A s.heap H1 locs1 → vx_W p l e R s m args below meth c H1 locs1 (cells + mc) (slots + ms) Q (F0 m pc ls rest) q9) : W p l e R s m args below meth c H locs cells slots Q (F0 m pc ls st) := by
  obtain ⟨-, -, -, -, -, -, hA, -⟩ := C
  have hF := va_free hD hS hA isC hC
  intro T0 hT X
  rcases hr T0 hT X with ⟨v, st₀, t, T', L, h0, X', hL, e1, e2, hfalse, st9⟩ | ⟨q, st₀, t, T', L, E9, ce, h0, X', hL, e1, e2, ⟨u, -, ⟨rfl, hB⟩, hF9⟩, hce, hcv, hcl, st9⟩
  · exact hfalse.elim
  · obtain ⟨k1, k2, k3⟩ := vx_keep h0 e1 hS (fun q _ h => hF q h) hF hL hF9
    obtain ⟨hP1, -, hD1⟩ := hB
    rw [← e1] at hP1
    obtain ⟨hP2, hD2⟩ := va_join hP hD isC isR hC hR hnR hdis k2 hF hP1 hD1
    obtain ⟨t2, a1, b1⟩ := kx ce q T'.heap (locs ++ L) (by rw [e1]; exact hce) hcv hcl hP2 hD2 k3 T' rfl X'
    exact ⟨t2, st9.trans a1, b1⟩
/-- not caught here -/
theorem r_out (C : Cx p s m args meth c cc n ret y0 D T A) (htab : ∀ x ∈ c.exceptionTable.toList, False) {ce : Cell} {q : Addr} (hcell : H[q]? = some ce) (hv : ce.vm = .none) (hcl : s.vm.findClass E = some ce.cls) (hP : va_P D CL ws H) (hD : va_D A ws) (hS : va_S A s.heap H locs) (hw : ws = wx) (hc : cells ≤ mc) (hs : slots ≤ ms) :
    vx_W p l e R s m args below meth c H locs cells slots (vx_MQ below (fun _ _ _ _ => False) (xX D T E wx A) args s mc ms A) (F0 m pc ls rest) q := by
  obtain ⟨-, -, -, -, -, hK, -, -, -, hlocks, -⟩ := C
  subst hw
  exact vx_out (fun x hx => (htab x hx).elim) hlocks hcell hv hcl (fun t ht hvm => ⟨(), trivial, ⟨rfl, by rw [ht]; exact hP, va_K.moved hvm hK, hD⟩, hS.F ht⟩) hS.2.2 hc hs
theorem r_throwS (C : Cx p s m args meth c cc n ret y0 D T A) (htab : ∀ x ∈ c.exceptionTable.toList, False) (hlt : l.stackTraces = false) (hP : va_P D CL ws H) (hD : va_D A ws) (hS : va_S A s.heap H locs) {ik is ic : Nat} {text : String} {names : List String} (F : Tf y0.cls ik is ic E text names) (hz : ls.size = n)
    (d0 : decode cc pc = .ok (.new ik, 3)) (d3 : decode cc (pc + 3) = .ok (.dup, 1)) (d4 : decode cc (pc + 4) = .ok (.ldc is, 2)) (d6 : decode cc (pc + 6) = .ok (.invokespecial ic, 3)) (d9 : decode cc (pc + 9) = .ok (.athrow, 1)) (hw : ws = wx)
    (hRf : names.length + 3 < R.frames) (hRl : (rest.map fun v => v.category).sum + (13 * (names.length + 1) + 43) ≤ R.locals) (hRc : cells + 1 ≤ R.cells) (hRs : slots + 6 ≤ R.slots) (hc : cells + 1 ≤ mc) (hs : slots + 6 ≤ ms) :
    W p l e R s m args below meth c H locs cells slots (vx_MQ below (fun _ _ _ _ => False) (xX D T E wx A) args s mc ms A) (F0 m pc ls rest) := by
  obtain ⟨hx, hb, hml, hown, hts, hK, hA, hXw, hSx, hlocks, -⟩ := C
  obtain ⟨f1, f2, f3, f4, f5, f6⟩ := F
  have f8 : ∀ w ∈ vx_atS y0.cls ic E names, w.before args s = true := fun w h => (f6 w h).elim (hts w) (fun e => va_Nw.use (odd_on e) (hSx.2.2.2.1 _ e))
  obtain ⟨sj, hsj⟩ := List.getElem?_of_mem f5
  have hstr := hSx.1 sj _ hsj
  subst hw
  refine vx_throwS hx hb hlt hown f1 f2 (hts _ f3) (hts _ f4) hstr f8 ?_ hXw.1 hXw.2.1 hS (hz.trans hml.symm) d0 d3 d4 d6 d9 (fun x hx => (htab x hx).elim) hRf hRl hRc hRs hlocks (fun t hvm hsz hkeep => ⟨(), trivial, ⟨rfl, hP.kept (fun k q hk => hkeep q.1 (hP k q hk).lt), va_K.moved hvm hK, hD⟩, ?_⟩) hS.2.2 hc hs
  · intro w hw
    have hb9 : w ∈ Big ∨ w ∈ odd := by
      rcases List.mem_cons.mp hw with rfl | hw
      · exact Or.inl f3
      · rcases List.mem_cons.mp hw with rfl | hw
        · exact Or.inl f4
        · exact f6 w hw
    rcases hb9 with hb9 | hb9
    · have := (List.mem_filter.mp hb9).2
      simp [vx_ot, this]
    · have := odd_on hb9
      simp [vx_ot, this]
  · exact ⟨Nat.le_trans hS.1 hsz, fun q h1 h2 => by rw [hkeep q (Nat.lt_of_lt_of_le h1 hS.1)]; exact hS.2.1 q h1 h2⟩
theorem r_throwW (C : Cx p s m args meth c cc n ret y0 D T A) (htab : ∀ x ∈ c.exceptionTable.toList, False) (hlt : l.stackTraces = false) (hP : va_P D CL ws H) (hD : va_D A ws) (hS : va_S A s.heap H locs) {ik is ic : Nat} {text : String} {names : List String} (F : Tf y0.cls ik is ic E text names) (hz : ls.size = n)
    (d0 : decode cc pc = .ok (.new ik, 3)) (d3 : decode cc (pc + 3) = .ok (.dup, 1)) (d4 : decode cc (pc + 4) = .ok (.ldc_w is, 3)) (d7 : decode cc (pc + 7) = .ok (.invokespecial ic, 3)) (d10 : decode cc (pc + 10) = .ok (.athrow, 1)) (hw : ws = wx)
    (hRf : names.length + 3 < R.frames) (hRl : (rest.map fun v => v.category).sum + (13 * (names.length + 1) + 43) ≤ R.locals) (hRc : cells + 1 ≤ R.cells) (hRs : slots + 6 ≤ R.slots) (hc : cells + 1 ≤ mc) (hs : slots + 6 ≤ ms) :
    W p l e R s m args below meth c H locs cells slots (vx_MQ below (fun _ _ _ _ => False) (xX D T E wx A) args s mc ms A) (F0 m pc ls rest) := by
  obtain ⟨hx, hb, hml, hown, hts, hK, hA, hXw, hSx, hlocks, -⟩ := C
  obtain ⟨f1, f2, f3, f4, f5, f6⟩ := F
  have f8 : ∀ w ∈ vx_atS y0.cls ic E names, w.before args s = true := fun w h => (f6 w h).elim (hts w) (fun e => va_Nw.use (odd_on e) (hSx.2.2.2.1 _ e))
  obtain ⟨sj, hsj⟩ := List.getElem?_of_mem f5
  have hstr := hSx.1 sj _ hsj
  subst hw
  refine vx_throwSW hx hb hlt hown f1 f2 (hts _ f3) (hts _ f4) hstr f8 ?_ hXw.1 hXw.2.1 hS (hz.trans hml.symm) d0 d3 d4 d7 d10 (fun x hx => (htab x hx).elim) hRf hRl hRc hRs hlocks (fun t hvm hsz hkeep => ⟨(), trivial, ⟨rfl, hP.kept (fun k q hk => hkeep q.1 (hP k q hk).lt), va_K.moved hvm hK, hD⟩, ?_⟩) hS.2.2 hc hs
  · intro w hw
    have hb9 : w ∈ Big ∨ w ∈ odd := by
      rcases List.mem_cons.mp hw with rfl | hw
      · exact Or.inl f3
      · rcases List.mem_cons.mp hw with rfl | hw
        · exact Or.inl f4
        · exact f6 w hw
    rcases hb9 with hb9 | hb9
    · have := (List.mem_filter.mp hb9).2
      simp [vx_ot, this]
    · have := odd_on hb9
      simp [vx_ot, this]
  · exact ⟨Nat.le_trans hS.1 hsz, fun q h1 h2 => by rw [hkeep q (Nat.lt_of_lt_of_le h1 hS.1)]; exact hS.2.1 q h1 h2⟩
/-- a text is loaded -/
theorem r_ldcS (C : Cx p s m args meth c cc n ret y0 D T A) {is j : Nat} {text : String} (F : strs[j]? = some (y0.cls, is, text)) (hdg : decode cc pc = .ok (.ldc is, 2)) (kk : W p l e R s m args below meth c H locs cells slots Q (F0 m (pc + 2) ls (.ref (D.2 1000 j) :: rest))) : W p l e R s m args below meth c H locs cells slots Q (F0 m pc ls rest) := by
  obtain ⟨hx, hb, hml, hown, hts, hK, hA, hXw, hSx, hlocks, -⟩ := C
  exact va_ldcS hx hb hown (hSx.1 j _ F) hdg kk
theorem r_obj (C : Cx p s m args meth c cc n ret y0 D T A) {a : Nat} (h1 : Cond.methodLink y0.cls idx objectInit ∈ Big) (h2 : Cond.instanceMethod objectInit ∈ Big) (h3 : Cond.code objectInit ⟨#[0xb1]⟩ 1 none ∈ Big) (hz : ls.size = n) (hdg : decode cc pc = .ok (.invokespecial idx, 3)) (hf : 1 ≤ R.frames) (hl : 2 * (F0 m pc ls (.ref a :: rest)).monitorRoom + (rest.map fun v => v.category).sum + 12 ≤ R.locals)
    (kk : W p l e R s m args below meth c H locs cells slots Q (F0 m (pc + 3) ls rest)) : W p l e R s m args below meth c H locs cells slots Q (F0 m pc ls (.ref a :: rest)) := by
  obtain ⟨hx, hb, hml, hown, hts, -⟩ := C
  exact W.objInit hx hb hown (hts _ h1) (hts _ h2) (hts _ h3) rfl (hz.trans hml.symm) rfl hdg hf hl kk
/-- caught by the handler at the place 'i' of the table -/
theorem r_catch (C : Cx p s m args meth c cc n ret y0 D T A) {ce : Cell} {q : Addr} (hE : E ∈ cas) (pre : List ExceptionTableEntry) (x : ExceptionTableEntry) (suf : List ExceptionTableEntry) (hsplit : c.exceptionTable.toList = pre ++ x :: suf)
    (hpass : ∀ z ∈ pre, covers z pc = false ∨ (z.catchType ≠ 0 ∧ ∃ nm : String, Cond.classLink y0.cls z.catchType nm ∈ Big ∧ va_Nc E nm s)) (hcov : covers x pc = true) (h0 : x.catchType ≠ 0) (hlink : Cond.classLink y0.cls x.catchType E ∈ Big)
    (hcell : H[q]? = some ce) (hv : ce.vm = .none) (hcl : s.vm.findClass E = some ce.cls) (kk : W p l e R s m args below meth c H locs cells slots Q (F0 m x.handlerPc ls [.ref q])) : vx_W p l e R s m args below meth c H locs cells slots Q (F0 m pc ls rest) q := by
  obtain ⟨hx, hb, hml, hown, hts, -, -, -, hSx, -⟩ := C
  exact vx_catch hown pre x suf hsplit (fun z hz => (hpass z hz).imp id (fun h => ⟨h.1, h.2.choose, hts _ h.2.choose_spec.1, h.2.choose_spec.2⟩)) hcov h0 (hts _ hlink) (va_Nw.use rfl (hSx.2.2.2.1 _ (cas_odd hE))) hcell hv hcl kk
end Calls
