section Snd2
variable {l : Launch} {G : TB} {D : va_G} {cs ad : Nat → Nat}
theorem cal_spec {k : Nat} {i : Instr} {st : List Value} {σ : SG} {k' kd : Nat} {av rest : List Value} (h : cal G k i st σ = some (k', kd, av, rest)) : ∃ M', tbM G k' = some M' ∧ cats rest ≤ 8 ∧ cats av ≤ M'.2.2.1 ∧ st = av.reverse ++ rest ∧
    ((∃ (ix na ci hd : Nat) (As : List Value) (fs : List Value), i = .invokevirtual ix ∧ kd = 0 ∧ tbC G k ix = some (k', 0, na, ci) ∧ av = .ref hd :: As ∧ As.length = na ∧ σ[hd]? = some (.inr (ci, fs))) ∨
     (∃ (ix na ci kd0 : Nat), i = .invokestatic ix ∧ kd = kd0 + 1 ∧ tbC G k ix = some (k', kd0 + 1, na, ci) ∧ av.length = na)) := by
  unfold cal at h
  split at h
  · next ix =>
    split at h
    · next k1 na ci hC =>
      split at h
      · next M' hd As hM hav =>
        split at h
        · next c fs hσ =>
          split at h
          · next hc =>
            obtain ⟨rfl, h1, h2, h3⟩ := hc
            cases h
            refine ⟨M', hM, h2, h3, ?_, Or.inl ⟨ix, na, _, hd, As, fs, rfl, rfl, hC, rfl, h1, hσ⟩⟩
            rw [← hav, List.reverse_reverse, List.take_append_drop]
          · cases h
        · cases h
      · cases h
    · cases h
  · next ix =>
    split at h
    · next k1 kd0 na ci hC =>
      split at h
      · next M' hM =>
        split at h
        · next hc =>
          obtain ⟨h1, h2, h3⟩ := hc
          cases h
          refine ⟨M', hM, h2, h3, ?_, Or.inr ⟨ix, na, ci, kd0, rfl, rfl, hC, by rw [List.length_reverse]; exact h1⟩⟩
          rw [List.reverse_reverse, List.take_append_drop]
        · cases h
      · cases h
    · cases h
  · cases h
theorem rm_le {d c2 c' n : Nat} (hn : n ≤ 150) : (rmd d c2 (6 * c2)).frames + 1 ≤ (rmd (d + 1) c' (6 * c')).frames ∧ 8 + (n + 11) + (rmd d c2 (6 * c2)).locals ≤ (rmd (d + 1) c' (6 * c')).locals := by
  simp only [rmd]
  omega
variable {p : Program} {e : Env} {s : State} {m : MethodId} {args : Array Value} {below : List Frame} {meth : Method} {c : Code} {H : Heap} {locs : List Loc} {cells slots : Nat} {Q : State → Prop} {A : Nat → Prop} {k pc : Nat} {ls : Array Slot} {st : List Value} {σ σ2 : SG} {i : Instr} {M : MI}
theorem run_ok {f : Nat} (B : BD l G D cs ad f) (hg : gM G) (hc : gC G) (hM : tbM G k = some M) (C : Cx p s m args meth c M.2.1 M.2.2.1 M.2.2.2.1 M.1 D (T4 cs) A) (hP : va_P D CL (wM cs ad σ) H) (hD : va_D A (wM cs ad σ)) (hS : va_S A s.heap H locs) (hz : ls.size = M.2.2.1) (hdg : decode M.2.1 pc = .ok (i, ilen i)) {k' kd : Nat} {av rest : List Value} (h : cal G k i st σ = some (k', kd, av, rest)) {d c2 c' : Nat} {r : Option Value} (hev : ev G f d k' 0 (lv_args 0 av) [] 0 σ = some (c2, .inr r, σ2)) (hcc : cells + c2 ≤ c') (hss : slots + 6 * c2 ≤ 6 * c') :
    va_Run p l e (rmd (d + 1) c' (6 * c')) s m args below meth c H locs cells slots c2 (6 * c2) (F0 m pc ls (st.map (vM ad))) (rest.map (vM ad)) (qq D cs ad r σ2 (va_A (wM cs ad σ) H.size) (av.map (vM ad)).toArray) (va_A (wM cs ad σ) H.size) := by
  obtain ⟨M', hM', h8, hn, hst, hk⟩ := cal_spec h
  have hroom : ((rest.map (vM ad)).map fun v => v.category).sum ≤ 8 := by rw [vM_sum]; exact h8
  have hn' := (hg k' M' hM').2.1
  rcases hk with ⟨ix, na, ci, hd, As, fs, rfl, rfl, hC, rfl, hna, hσ⟩ | ⟨ix, na, ci, kd0, rfl, rfl, hC, hna⟩
  · obtain ⟨hh, hcv, q, hq1, hq2⟩ := (hc k M ix k' 0 na ci M' hM hC hM').1 rfl
    refine run_V C (kt_ret B hg hev hM' hh hn) hcv hP hD hS (List.range (wM cs ad σ).length) (range_get _) (va_nd_range _) hd (wM_get hσ) hq1 hq2 (by rw [List.length_map]; exact hna) hz ?_ hroom hdg (rm_le hn') ⟨hcc, hss⟩
    rw [hst, List.reverse_cons, List.append_assoc, List.map_append, List.map_reverse]
    rfl
  · have hst' : st.map (vM ad) = (av.map (vM ad)).reverse ++ rest.map (vM ad) := by rw [hst, List.map_append, List.map_reverse]
    have hna' : (av.map (vM ad)).length = na := by rw [List.length_map]; exact hna
    obtain ⟨-, c1, c2', c3⟩ := hc k M ix k' (kd0 + 1) na ci M' hM hC hM'
    match kd0 with
    | 0 =>
      obtain ⟨hh, hcv⟩ := c1 rfl
      exact run_S C (kt_ret B hg hev hM' hh hn) hcv hP hD hS (List.range (wM cs ad σ).length) (range_get _) (va_nd_range _) hna' hz hst' hroom hdg (rm_le hn') ⟨hcc, hss⟩
    | 1 =>
      obtain ⟨hh, hcv⟩ := c2' rfl
      exact run_SN C (kt_ret B hg hev hM' hh hn) hcv hP hD hS (List.range (wM cs ad σ).length) (range_get _) (va_nd_range _) hna' hz hst' hroom hdg (rm_le hn') ⟨hcc, hss⟩
    | kd1 + 2 =>
      obtain ⟨hh, hcv⟩ := c3 (by omega)
      exact run_SW C (kt_retW B hg hev hM' hn) hcv hP hD hS (List.range (wM cs ad σ).length) (range_get _) (va_nd_range _) hna' hz hst' hroom hdg (rm_le hn') ⟨hcc, hss⟩
theorem runx_ok {f : Nat} (B : BD l G D cs ad f) (hg : gM G) (hc : gC G) (hM : tbM G k = some M) (C : Cx p s m args meth c M.2.1 M.2.2.1 M.2.2.2.1 M.1 D (T4 cs) A) (hP : va_P D CL (wM cs ad σ) H) (hD : va_D A (wM cs ad σ)) (hS : va_S A s.heap H locs) (hz : ls.size = M.2.2.1) (hdg : decode M.2.1 pc = .ok (i, ilen i)) {k' kd : Nat} {av rest : List Value} (h : cal G k i st σ = some (k', kd, av, rest)) (hkd : ¬ 2 ≤ kd) {d c2 c' : Nat} {E : String} (hev : ev G f d k' 0 (lv_args 0 av) [] 0 σ = some (c2, .inl E, σ2)) (hcc : cells + c2 ≤ c') (hss : slots + 6 * c2 ≤ 6 * c') :
    vx_Run p l e (rmd (d + 1) c' (6 * c')) s m args below meth c H locs cells slots c2 (6 * c2) (F0 m pc ls (st.map (vM ad))) (rest.map (vM ad)) (fun _ _ _ => False) (xX D (T4 cs) E (wM cs ad σ2) (va_A (wM cs ad σ) H.size)) (va_A (wM cs ad σ) H.size) := by
  obtain ⟨M', hM', h8, hn, hst, hk⟩ := cal_spec h
  have hroom : ((rest.map (vM ad)).map fun v => v.category).sum ≤ 8 := by rw [vM_sum]; exact h8
  have hn' := (hg k' M' hM').2.1
  rcases hk with ⟨ix, na, ci, hd, As, fs, rfl, rfl, hC, rfl, hna, hσ⟩ | ⟨ix, na, ci, kd0, rfl, rfl, hC, hna⟩
  · obtain ⟨hh, hcv, q, hq1, hq2⟩ := (hc k M ix k' 0 na ci M' hM hC hM').1 rfl
    refine run_VX C (kt_thr B hg hev hM' hh hn) hcv hP hD hS (List.range (wM cs ad σ).length) (range_get _) (va_nd_range _) hd (wM_get hσ) hq1 hq2 (by rw [List.length_map]; exact hna) hz ?_ hroom hdg (rm_le hn') ⟨hcc, hss⟩
    rw [hst, List.reverse_cons, List.append_assoc, List.map_append, List.map_reverse]
    rfl
  · have hst' : st.map (vM ad) = (av.map (vM ad)).reverse ++ rest.map (vM ad) := by rw [hst, List.map_append, List.map_reverse]
    have hna' : (av.map (vM ad)).length = na := by rw [List.length_map]; exact hna
    obtain ⟨-, c1, -⟩ := hc k M ix k' (kd0 + 1) na ci M' hM hC hM'
    have h0 : kd0 = 0 := by omega
    subst h0
    obtain ⟨hh, hcv⟩ := c1 rfl
    exact run_SX C (kt_thr B hg hev hM' hh hn) hcv hP hD hS (List.range (wM cs ad σ).length) (range_get _) (va_nd_range _) hna' hz hst' hroom hdg (rm_le hn') ⟨hcc, hss⟩
/-- back from a call: the answer over the rest -/
def psh : Option Value → List Value → List Value
  | none, st => st
  | some v, st => v :: st
theorem back_ok {R : Room} {cc : ByteArray} {n : Nat} {ret : Option FieldType} {y0 : MethodName} {a : Array Value} {st0 : List Value} {mc ms : Nat} {r : Option Value} {rest : List Value} (C : Cx p s m args meth c cc n ret y0 D (T4 cs) A) (hP : va_P D CL (wM cs ad σ) H) (hD : va_D A (wM cs ad σ)) (hS : va_S A s.heap H locs)
    (hr : va_Run p l e R s m args below meth c H locs cells slots mc ms (F0 m pc ls st0) (rest.map (vM ad)) (qq D cs ad r σ2 (va_A (wM cs ad σ) H.size) a) (va_A (wM cs ad σ) H.size))
    (kk : ∀ (H1 : Heap) (locs1 : List Loc), va_P D CL (wM cs ad σ2) H1 → va_D A (wM cs ad σ2) → va_S A s.heap H1 locs1 → W p l e R s m args below meth c H1 locs1 (cells + mc) (slots + ms) Q (F0 m (pc + 3) ls ((psh r rest).map (vM ad)))) : W p l e R s m args below meth c H locs cells slots Q (F0 m pc ls st0) := by
  have hno : ∀ i ∈ ([] : List Nat), i ∉ List.range (wM cs ad σ).length := fun i h => nomatch h
  cases r with
  | none => exact call_v (w1 := fun _ : Unit => wM cs ad σ2) (wr := []) C hr hP hD hS (List.range (wM cs ad σ).length) [] (range_get _) rfl rfl hno (fun _ H1 locs1 h1 h2 h3 => kk H1 locs1 h1 h2 h3)
  | some v =>
    cases v with
    | int v => exact call_i (f := fun _ : Unit => v) (w1 := fun _ : Unit => wM cs ad σ2) (wr := []) C hr hP hD hS (List.range (wM cs ad σ).length) [] (range_get _) rfl rfl hno (fun _ H1 locs1 h1 h2 h3 => kk H1 locs1 h1 h2 h3)
    | long v => exact call_l (f := fun _ : Unit => v) (w1 := fun _ : Unit => wM cs ad σ2) (wr := []) C hr hP hD hS (List.range (wM cs ad σ).length) [] (range_get _) rfl rfl hno (fun _ H1 locs1 h1 h2 h3 => kk H1 locs1 h1 h2 h3)
    | ref v => exact call_r (f := fun _ : Unit => ad v) (w1 := fun _ : Unit => wM cs ad σ2) (wr := []) C hr hP hD hS (List.range (wM cs ad σ).length) [] (range_get _) rfl rfl hno (fun _ H1 locs1 h1 h2 h3 => kk H1 locs1 h1 h2 h3)
    | _ =>
      intro T0 hT X
      obtain ⟨v, st₀, t, T', L, h0, X', hL, e1, e2, hfalse, st9⟩ := hr T0 hT X
      exact hfalse.elim
end Snd2
theorem ev_ok {l : Launch} {G : TB} {D : va_G} {cs ad : Nat → Nat} (hg : gM G) (hc : gC G) (ht : gT G) (hh : gH G) (hX : gX l G D cs ad) (hlt : l.stackTraces = false) : ∀ f, BD l G D cs ad f := by
  intro f
  induction f with
  | zero => intro d k pc lv st c σ c' o σ' M h; cases h
  | succ f ih =>
    intro d k pc lv st c σ c' o σ' M h hM p e s m args below meth code H locs ls A C hE htab hP hD hS hl
    have hmono := ev_mono G (f + 1) d k pc lv st c σ c' o σ' h
    unfold ev at h
    split at h
    · next r hx =>
      exact hX d k M pc lv st σ r hM hx p e s m args below meth code H locs ls A c' (6 * c') c (6 * c) _ C hP hD hS hl hmono (by omega) (fun H1 locs1 ls1 h1 h2 h3 h4 => ih _ _ _ _ _ _ _ _ _ _ M h hM p e s m args below meth code H1 locs1 ls1 A C hE htab h1 h2 h3 h4)
    · split at h
      · next M1 i hM1 hF =>
        have : M1 = M := Option.some.inj (hM1.symm.trans hM)
        subst this
        obtain ⟨g1, g2, g3, g4⟩ := hg k M1 hM
        have hdg := g4 pc i hF
        split at h
        · next r hs =>
          exact sim_ok C hP hD hS hl hdg g3 hs (fun H1 locs1 ls1 h1 h2 h3 h4 => ih _ _ _ _ _ _ _ _ _ _ M1 h hM p e s m args below meth code H1 locs1 ls1 A C hE htab h1 h2 h3 h4)
        · split at h
          · next v hr =>
            cases h
            exact ret_ok C hP hD hS hdg hr (Nat.le_refl _) (Nat.le_refl _)
          · split at h
            · next E hT =>
              split at h
              · next h8 =>
                cases h
                obtain ⟨ik, is, ic, text, names, tf, hnm, d0, d3, hsw⟩ := ht k M1 pc E hM hT
                have hst : ((st.map (vM ad)).map fun v => v.category).sum ≤ 8 := by rw [vM_sum]; exact h8.2
                have r1 : names.length + 3 < (rmd d (c + 1) (6 * (c + 1))).frames := by simp only [rmd]; omega
                have r2 : ((st.map (vM ad)).map fun v => v.category).sum + (13 * (names.length + 1) + 43) ≤ (rmd d (c + 1) (6 * (c + 1))).locals := by simp only [rmd]; omega
                rcases hsw with ⟨d4, d6, d9⟩ | ⟨d4, d7, d10⟩
                · exact r_throwS C (hE E rfl) hlt hP hD hS tf hl.1 d0 d3 d4 d6 d9 rfl r1 r2 (Nat.le_refl _) (by simp only [rmd]; omega) (Nat.le_refl _) (by omega)
                · exact r_throwW C (hE E rfl) hlt hP hD hS tf hl.1 d0 d3 d4 d7 d10 rfl r1 r2 (Nat.le_refl _) (by simp only [rmd]; omega) (Nat.le_refl _) (by omega)
              · cases h
            · split at h
              · cases h
              · next k' kd av rest hcal =>
                split at h
                · cases h
                · next d' =>
                  split at h
                  · cases h
                  · next c2 σ2 hev =>
                    have hm2 := ev_mono G f _ _ _ _ _ _ _ _ _ _ h
                    have hr := run_ok (p := p) (e := e) (s := s) (m := m) (args := args) (below := below) (meth := meth) (c := code) (A := A) ih hg hc hM C hP hD hS hl.1 hdg hcal hev (cells := c) (slots := 6 * c) (c' := c') (by omega) (by omega)
                    refine back_ok C hP hD hS hr (fun H1 locs1 h1 h2 h3 => ?_)
                    have := ih _ _ _ _ _ _ _ _ _ _ M1 h hM p e s m args below meth code H1 locs1 ls A C hE htab h1 h2 h3 hl
                    rw [Nat.mul_add] at this
                    exact this
                  · next c2 v σ2 hev =>
                    have hm2 := ev_mono G f _ _ _ _ _ _ _ _ _ _ h
                    have hr := run_ok (p := p) (e := e) (s := s) (m := m) (args := args) (below := below) (meth := meth) (c := code) (A := A) ih hg hc hM C hP hD hS hl.1 hdg hcal hev (cells := c) (slots := 6 * c) (c' := c') (by omega) (by omega)
                    refine back_ok C hP hD hS hr (fun H1 locs1 h1 h2 h3 => ?_)
                    have := ih _ _ _ _ _ _ _ _ _ _ M1 h hM p e s m args below meth code H1 locs1 ls A C hE htab h1 h2 h3 hl
                    rw [Nat.mul_add] at this
                    exact this
                  · next c2 E σ2 hev =>
                    split at h
                    · cases h
                    · next hkd =>
                      have hno : ∀ i ∈ ([] : List Nat), i ∉ List.range (wM cs ad σ).length := fun i h => nomatch h
                      split at h
                      · next hnil =>
                        cases h
                        have hr := runx_ok (p := p) (e := e) (s := s) (m := m) (args := args) (below := below) (meth := meth) (c := code) (A := A) ih hg hc hM C hP hD hS hl.1 hdg hcal hkd hev (cells := c) (slots := 6 * c) (c' := c + c2) (Nat.le_refl _) (by omega)
                        refine call_X (wr := []) C hr hP hD hS (List.range (wM cs ad σ).length) [] (range_get _) rfl rfl hno (fun ce q9 H1 locs1 hce hcv hcl h1 h2 h3 => ?_)
                        exact r_out C (hE E rfl) hce hcv hcl h1 h2 h3 rfl (Nat.le_refl _) (by omega)
                      · next q0 qs hcons =>
                        split at h
                        · next hp j hH =>
                          have hm2 := ev_mono G f _ _ _ _ _ _ _ _ _ _ h
                          have hr := runx_ok (p := p) (e := e) (s := s) (m := m) (args := args) (below := below) (meth := meth) (c := code) (A := A) ih hg hc hM C hP hD hS hl.1 hdg hcal hkd hev (cells := c) (slots := 6 * c) (c' := c') (by omega) (by omega)
                          refine call_X (wr := []) C hr hP hD hS (List.range (wM cs ad σ).length) [] (range_get _) rfl rfl hno (fun ce q9 H1 locs1 hce hcv hcl h1 h2 h3 => ?_)
                          obtain ⟨hcas, pre, x, suf, hsp, hpre, hcov, hx0, hlink, hjn, hdj⟩ := hh k M1 pc E hp j hM hH
                          have htab' := htab (by rw [hcons]; exact List.cons_ne_nil _ _)
                          have C' := C
                          obtain ⟨hxx, hb, -, -, -, -, -, -, hSx, -⟩ := C
                          refine r_catch C' hcas pre x suf (htab'.trans hsp) (fun z hz => (hpre z hz).imp id (fun q => ⟨q.1, q.2.choose, q.2.choose_spec.1, hSx.2.2.1 _ q.2.choose_spec.2⟩)) hcov hx0 hlink hce hcv hcl ?_
                          rcases hdj with ⟨j4, rfl, rfl, hdj⟩ | ⟨rfl, hdj⟩
                          · refine lv_astore_n hxx hb hdj rfl hl hjn rfl (fun ls' hl' => ?_)
                            have hl2 := lv_tail hl'
                            rw [← lM_D] at hl2
                            have := ih _ _ _ _ _ _ _ _ _ _ M1 h hM p e s m args below meth code H1 locs1 ls' A C' hE htab h1 h2 h3 hl2
                            rw [Nat.mul_add] at this
                            exact this
                          · refine lv_astore hxx hb hdj hl hjn rfl (fun ls' hl' => ?_)
                            have hl2 := lv_tail hl'
                            rw [← lM_D] at hl2
                            have := ih _ _ _ _ _ _ _ _ _ _ M1 h hM p e s m args below meth code H1 locs1 ls' A C' hE htab h1 h2 h3 hl2
                            rw [Nat.mul_add] at this
                            exact this
                        · cases h
      · cases h
