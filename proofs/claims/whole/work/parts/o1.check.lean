def runA (KD : List KDT) (G : TB) (aX : XAT) (nX : Nat → Nat → Bool) (E : CTR) (M : MI) (Cs : List CTR) : Nat → Nat → AC → Nat → List (Nat × Int) × Int → Bool → Bool
  | 0, _, _, _, _, _ => false
  | f + 1, pc, A, c, m0, fs => match (if fs = true then none else cutL (kU E) pc) with
    | some u => decide (c = 0) && enter A u m0
    | none => match aX (kM E) (kK E) pc A with
      | some L => L.all (fun q => runA KD G aX nX E M Cs f q.1 q.2 c m0 false)
      | none => nX (kK E) pc && match tbF G (kK E) pc with
        | none => false
        | some i => match aStep KD (tbK G (kK E)) (kM E) M.2.2.1 pc i A with
          | some L => L.all (fun q => runA KD G aX nX E M Cs f q.1 q.2 c m0 false)
          | none => if retA A.1 M.2.2.2.1 i A.2.2.2.1 (kR E) = true then (decide (c ≤ kC E) && decide (c ≤ 1)) && (kQ E).all (hasF KD A) else match i with
            | .new _ => match tbT G (kK E) pc with
              | some e => (kT E).contains e && (M.2.2.2.2.isEmpty && (decide (catA A.2.2.2.1 ≤ 8) && decide (c = 0)))
              | none => false
            | _ => match tbT G (kK E) pc, calA KD G (kK E) i A with
              | none, some (k', kd, as, rs) => match Cs.find? (fun E' => kK E' == k' && (fitL A.1 (kA E') as && (kP E').all (hasF KD A))) with
                | none => decide (1 ≤ kD E) && (match inlA KD G aX nX (kM E) 400 k' (kD E - 1) 0 (calS A as) with
                  | some outs => outs.all (fun q => match q.1 with
                    | .inl v => runA KD G aX nX E M Cs f (pc + 3) (mrA A q.2 rs v) c m0 false
                    | .inr e => decide (kd < 2) && (decide (c = 0) && (M.2.2.2.2.isEmpty && (kT E).contains e)))
                  | none => false)
                | some E' => decide (kD E' + 1 ≤ kD E) && ((kM E').all (fun q => (kM E).contains q) && (decide (kC E' = 0) && ((kP E').all (hasF KD A) && (runA KD G aX nX E M Cs f (pc + 3) ((kQ E').foldl (addK as) (psR (kM E') A rs (kR E'))) c m0 false && ((kT E').isEmpty || (decide (kd < 2) && (decide (c = 0) && (if M.2.2.2.2.isEmpty = true then (kT E').all (fun e => (kT E).contains e) else (kT E').all (fun e => match tbH G (kK E) pc e with
                  | some (h, j) => runA KD G aX nX E M Cs f h (sF (sV A (aLD j A.2.2.1) []) []) 1 m0 false
                  | none => false)))))))))
              | _, _ => false
section Chk
variable {KD : List KDT} {KO : List Nat} {G : TB} {aX : XAT} {nX : Nat → Nat → Bool} {E : CTR} {M : MI} {Cs : List CTR} {σ0 : SG}
theorem Fin_step {pc : Nat} {lv : LV} {st : List Value} {c : Nat} {σ : SG} {r : S4} (h : ∀ f, ev G (f + 1) (kD E) (kK E) pc lv st c σ = ev G f (kD E) (kK E) r.1 r.2.1 r.2.2.1 c r.2.2.2) (hn : Fin' KD KO G E σ0 r.1 r.2.1 r.2.2.1 c r.2.2.2) : Fin' KD KO G E σ0 pc lv st c σ := by
  obtain ⟨f, c', o, σ', e, h1⟩ := hn
  exact ⟨f + 1, c', o, σ', by rw [h]; exact e, h1⟩
theorem runA_ok (hX : xOK KD KO G aX nX) (hM : tbM G (kK E) = some M) (hS : Sg KO (kQ E) ∧ ∀ E' ∈ Cs, Sg KO (kP E')) (hCs : ∀ E' ∈ Cs, cOk KD KO G E') {m : Int} (hcut : ∀ u ∈ kU E, ∀ lv st σ, gC' KO u lv st σ → Inv KD KO σ → Fr KO (kM E) σ0 σ → 0 ≤ msC u lv σ → msC u lv σ < m → Fin' KD KO G E σ0 u.1 lv st 0 σ) :
    ∀ (f pc : Nat) (A : AC) (c : Nat) (m0 : List (Nat × Int) × Int) (fs : Bool), runA KD G aX nX E M Cs f pc A c m0 fs = true → ∀ (ν : List Int) (ρs : List Nat) (lv : LV) (st : List Value) (σ : SG) (c0 : Nat), gA KO A ν ρs lv st σ → Inv KD KO σ → Fr KO (kM E) σ0 σ → c0 ≤ c → mB ν m0 m → Fin' KD KO G E σ0 pc lv st c0 σ := by
  intro f
  induction f with
  | zero => intro pc A c m0 fs h; cases h
  | succ f ih =>
    intro pc A c m0 fs h ν ρs lv st σ c0 hA hI hF hc hm
    unfold runA at h
    split at h
    · next u hu =>
      simp only [Bool.and_eq_true, decide_eq_true_eq] at h
      obtain ⟨hc0, hen⟩ := h
      have hz : c0 = 0 := by omega
      subst hz
      split at hu
      · cases hu
      · have hmem := List.mem_of_find?_eq_some hu
        have hpc := List.find?_some hu
        have hpc : u.1 = pc := by simpa using hpc
        obtain ⟨g1, g2, g3⟩ := enter_ok hA hen
        rw [hm.2] at g3
        rw [← hpc]
        exact hcut u hmem lv st σ g1 hI hF g2 g3
    · split at h
      · next L hL =>
        obtain ⟨r, hr, A', ν', ρs', hmem, g1, g2, g3, g4⟩ := hX.2.1 _ _ _ _ _ _ _ _ _ _ (kD E) hL hA hI
        have := List.all_eq_true.mp h _ hmem
        exact Fin_step (r := r) (fun f => ev_x hr) (ih _ _ _ _ _ this ν' ρs' _ _ _ c0 g1 g3 (hF.tr g4) hc (hm.ext g2.1))
      · simp only [Bool.and_eq_true] at h
        obtain ⟨hn, h⟩ := h
        have hx := fun d lv st σ => hX.2.2 _ _ hn d lv st σ
        split at h
        · cases h
        · next i hi =>
          split at h
          · next L hL =>
            obtain ⟨r, hr, A', ν', ρs', hmem, g1, g2, g3, g4⟩ := aStep_ok hA hI hL
            have := List.all_eq_true.mp h _ hmem
            exact Fin_step (r := r) (fun f => ev_sim (hx _ _ _ _) hM hi hr) (ih _ _ _ _ _ this ν' ρs' _ _ _ c0 g1 g3 (hF.tr g4) hc (hm.ext g2.1))
          · split at h
            · next hret =>
              simp only [Bool.and_eq_true, decide_eq_true_eq] at h
              obtain ⟨h, hkq⟩ := h
              obtain ⟨v, r1, r2, r3⟩ := retA_ok (G := G) (k := kK E) (pc := pc) hA hret
              exact ⟨1, c0, .inr v, σ, ev_ret (hx _ _ _ _) hM hi (r3 _ _) r1, hI, hF, by omega, ⟨by omega, r2⟩, hasF_ok hA hI hS.1 hkq⟩
            · split at h
              · split at h
                · next e hT =>
                  simp only [Bool.and_eq_true, decide_eq_true_eq] at h
                  obtain ⟨t1, t2, t3, t4⟩ := h
                  have t1 : e ∈ kT E := by simpa using t1
                  have t2 : M.2.2.2.2 = [] := by simpa using t2
                  have t3 : cats st ≤ 8 := by rw [catA_ok hA.2.2.2.1]; exact t3
                  exact ⟨1, c0 + 1, .inl e, σ, ev_thr (hx _ _ _ _) hM hi (sim_new _) (rtn_new _) hT ⟨t2, t3⟩, hI, hF, by omega, t1⟩
                · cases h
              · split at h
                · next k' kd as rs hT hcal =>
                  split at h
                  · simp only [Bool.and_eq_true, decide_eq_true_eq] at h
                    obtain ⟨hd1, h⟩ := h
                    split at h
                    · next outs hout =>
                      obtain ⟨av, rest, q1, q2, q3, q4, q5⟩ := calA_ok (pc := pc) hA hI hcal
                      obtain ⟨F, c1, o, σ1, ν', ρs', q, e1, e2, x1, x2, sI, oq, hI1, hF1⟩ := inlA_ok hX 400 k' (kD E - 1) 0 (calS A as) outs hout ν ρs (lv_args 0 av) [] σ 0 (calS_ok hA q2) hI
                      have hq := List.all_eq_true.mp h q e2
                      have hd0 : kD E = (kD E - 1) + 1 := by omega
                      match hq1 : q.1, o, oq with
                      | .inl v, .inr r, oq =>
                        rw [hq1] at hq
                        obtain ⟨o1, o2⟩ := oq
                        subst o1
                        obtain ⟨f2, c2, o', σ2, b1, b2⟩ := ih _ _ _ _ _ hq ν' ρs' lv (psh r rest) σ1 c0 (mrA_ok hA q3 x1 x2 sI o2) hI1 (hF.tr hF1) hc (hm.ext x1)
                        refine ⟨max F f2 + 1, c2, o', σ2, ?_, b2⟩
                        rw [hd0] at b1 ⊢
                        rw [ev_cal (hx _ _ _ _) hM hi (q4 _ _) (q5 _) hT q1 (ev_up G hX.1 F (max F f2) _ _ _ _ _ _ _ _ _ (Nat.le_max_left _ _) (Nat.le_refl _) e1)]
                        exact ev_up G hX.1 f2 (max F f2) _ _ _ _ _ _ _ _ _ (Nat.le_max_right _ _) (Nat.le_refl _) b1
                      | .inr e, .inl e', oq =>
                        rw [hq1] at hq
                        obtain ⟨o1, o2⟩ := oq
                        subst o1
                        simp only [Bool.and_eq_true, decide_eq_true_eq] at hq
                        obtain ⟨z1, z2, z3, z4⟩ := hq
                        have hh : M.2.2.2.2 = [] := by simpa using z3
                        have he : e ∈ kT E := by simpa using z4
                        refine ⟨F + 1, c0 + c1, .inl e, σ1, ?_, hI1, hF.tr hF1, by omega, he⟩
                        rw [hd0]
                        exact ev_calX (hx _ _ _ _) hM hi (q4 _ _) (q5 _) hT q1 (by omega) hh e1
                      | .inl v, .inl e', oq => exact (show False from oq).elim
                      | .inr e, .inr r, oq => exact (show False from oq).elim
                    · cases h
                  · next E' hE' =>
                    simp only [Bool.and_eq_true, decide_eq_true_eq] at h
                    obtain ⟨d1, d2, d3, dP, d4, d5⟩ := h
                    have hmem := List.mem_of_find?_eq_some hE'
                    have hp := List.find?_some hE'
                    simp only [Bool.and_eq_true] at hp
                    have hk : kK E' = k' := by simpa using hp.1
                    obtain ⟨av, rest, q1, q2, q3, q4, q5⟩ := calA_ok (pc := pc) hA hI hcal
                    have hav := fitL_ok hA _ _ _ hp.2.1 q2
                    obtain ⟨f1, c1, o, σ1, e1, e2, e3, e4, e5⟩ := hCs E' hmem av σ hI hav (hasF_ok hA hI (hS.2 E' hmem) dP)
                    have hms : ∀ q ∈ kM E', q ∈ kM E := fun q hq => by simpa using List.all_eq_true.mp d2 q hq
                    have hF1 : Fr KO (kM E) σ0 σ1 := hF.tr (e3.wk hms)
                    have hd : ∃ d0, kD E = d0 + 1 ∧ kD E' ≤ d0 := ⟨kD E - 1, by omega, by omega⟩
                    obtain ⟨d0, hd0, hd1⟩ := hd
                    rw [hk] at e1
                    cases o with
                    | inr r =>
                      obtain ⟨⟨o1, o2⟩, o3⟩ := e5
                      have hc1 : c1 = 0 := by omega
                      subst hc1
                      obtain ⟨ν1, ρs', p0, p00, p1'⟩ := psR_ok hA q3 o2 e3
                      obtain ⟨ν', p3, p2⟩ := addK_ok (as := as) (av := av) (kQ E') _ ν1 ρs' p1' (q2.ext p0 p00) o3
                      have p1 := p0.tr p3
                      obtain ⟨f2, c2, o', σ2, b1, b2⟩ := ih _ _ _ _ _ d4 ν' ρs' lv (psh r rest) σ1 c0 p2 e2 hF1 hc (hm.ext p1)
                      refine ⟨max f1 f2 + 1, c2, o', σ2, ?_, b2⟩
                      rw [hd0] at b1 ⊢
                      rw [ev_cal (hx _ _ _ _) hM hi (q4 _ _) (q5 _) hT q1 (ev_up G hX.1 f1 (max f1 f2) (kD E') d0 _ _ _ _ _ _ _ (Nat.le_max_left _ _) hd1 e1)]
                      exact ev_up G hX.1 f2 (max f1 f2) _ _ _ _ _ _ _ _ _ (Nat.le_max_right _ _) (Nat.le_refl _) b1
                    | inl e =>
                      have hne : ¬ (kT E').isEmpty = true := fun z => by
                        have z : kT E' = [] := by simpa using z
                        have e5 : e ∈ kT E' := e5
                        rw [z] at e5
                        cases e5
                      rcases (Bool.or_eq_true _ _).mp d5 with z | d5
                      · exact absurd z hne
                      simp only [Bool.and_eq_true, decide_eq_true_eq] at d5
                      obtain ⟨d6, d7, d8⟩ := d5
                      have hz : c0 = 0 := by omega
                      subst hz
                      have ev1 := fun F (hF : f1 ≤ F) => ev_up G hX.1 f1 F (kD E') d0 _ _ _ _ _ _ _ hF hd1 e1
                      split at d8
                      · next hh =>
                        have hh : M.2.2.2.2 = [] := by simpa using hh
                        have he : e ∈ kT E := by simpa using List.all_eq_true.mp d8 e e5
                        refine ⟨f1 + 1, 0 + c1, .inl e, σ1, ?_, e2, hF1, by omega, he⟩
                        rw [hd0]
                        exact ev_calX (hx _ _ _ _) hM hi (q4 _ _) (q5 _) hT q1 (by omega) hh (ev1 f1 (Nat.le_refl _))
                      · next hh =>
                        have hh : M.2.2.2.2 ≠ [] := fun z => hh (by simpa using z)
                        have h9 := List.all_eq_true.mp d8 e e5
                        split at h9
                        · next hp j hH =>
                          have hB : gA KO (sF (sV A (aLD j A.2.2.1) []) []) ν ρs (lD j lv) [] σ1 := gA_F (gA_V (as := []) (st' := []) hA (gLv_D hA.2.2.1) trivial) (fun q hq => nomatch hq)
                          obtain ⟨f2, c2, o', σ2, b1, b2⟩ := ih _ _ _ _ _ h9 ν ρs (lD j lv) [] σ1 (0 + c1) hB e2 hF1 (by omega) hm
                          refine ⟨max f1 f2 + 1, c2, o', σ2, ?_, b2⟩
                          rw [hd0] at b1 ⊢
                          rw [ev_calH (hx _ _ _ _) hM hi (q4 _ _) (q5 _) hT q1 (by omega) hh (ev1 (max f1 f2) (Nat.le_max_left _ _)) hH]
                          exact ev_up G hX.1 f2 (max f1 f2) _ _ _ _ _ _ _ _ _ (Nat.le_max_right _ _) (Nat.le_refl _) b1
                        · cases h9
                · cases h
/-- the cut at a method's beginning -/
def cut0 (E : CTR) (K : Int) : CUT := (0, locA 0 (kA E), [], (kP E).filterMap (fun q => ((locA 0 (kA E)).find? (fun p => match p.2 with
    | .inr (some κ) => κ == q.1
    | _ => false)).map (fun p => (p.1, q.2.1, q.2.2))), K, [], [])
where locA : Nat → List AV → List (Nat × AV)
  | _, [] => []
  | i, .inr none :: r => (i, .inr none) :: locA (i + 2) r
  | i, a :: r => (i, a) :: locA (i + 1) r
/-- the whole check of a contract, 'K' over all measures, 'fu' fuel of a path -/
def chk (KD : List KDT) (G : TB) (aX : XAT) (nX : Nat → Nat → Bool) (fu : Nat) (K : Int) (Cs : List CTR) (E : CTR) : Bool := match tbM G (kK E) with
  | some M => runA KD G aX nX E M Cs fu 0 (ac0 (cut0 E K)) 0 ([], K) false && (kU E).all (fun u => match lin (ac0 u) u.2.2.2.2.2.1 with
    | some t => runA KD G aX nX E M Cs fu u.1 (ac0 u) 0 (t.1, u.2.2.2.2.1 + t.2) true
    | none => false)
  | none => false
theorem locA_ok : ∀ (i : Nat) (as : List AV) (vs : List Value), gVs KO as vs → ∀ q ∈ cut0.locA i as, ∃ v, lget (lv_args i vs) q.1 = some v ∧ gV KO q.2 v := by
  have key : ∀ (as : List AV) (vs : List Value) (i : Nat), gVs KO as vs → ∀ q ∈ cut0.locA i as, i ≤ q.1 ∧ ∃ v, lget (lv_args i vs) q.1 = some v ∧ gV KO q.2 v := by
    intro as
    induction as with
    | nil => intro vs i h q hq; cases hq
    | cons a r ih =>
      intro vs i h q hq
      match vs, h with
      | v :: vs, h =>
        have hl : cut0.locA i (a :: r) = (i, a) :: cut0.locA (if v.category = 2 then i + 2 else i + 1) r := by
          match a, h.1 with
          | .inl iv, h1 => obtain ⟨x, rfl, -⟩ := h1; rfl
          | .inr none, h1 => obtain ⟨x, rfl⟩ := h1; rfl
          | .inr (some κ), h1 => obtain ⟨x, rfl, -⟩ := h1; rfl
        rw [hl] at hq
        have hv : lv_args i (v :: vs) = (i, v) :: lv_args (if v.category = 2 then i + 2 else i + 1) vs := rfl
        rw [hv]
        rcases List.mem_cons.mp hq with rfl | hq
        · exact ⟨Nat.le_refl _, v, lget_new _ _ _, h.1⟩
        · obtain ⟨h1, w, h2, h3⟩ := ih vs _ h.2 q hq
          have : i < q.1 := by split at h1 <;> omega
          exact ⟨by omega, w, lget_old _ (by omega) h2, h3⟩
  exact fun i as vs h q hq => (key as vs i h q hq).2
theorem chk_ok (hX : xOK KD KO G aX nX) (hS : Sg KO (kQ E) ∧ ∀ E' ∈ Cs, Sg KO (kP E')) (hCs : ∀ E' ∈ Cs, cOk KD KO G E') {fu : Nat} {K : Int} (h : chk KD G aX nX fu K Cs E = true) : cOk KD KO G E := by
  unfold chk at h
  split at h
  · next M hM =>
    simp only [Bool.and_eq_true] at h
    obtain ⟨h0, hall⟩ := h
    intro av σ0 hI hav hFK
    have cuts : ∀ (b : Nat) (u : CUT), u ∈ kU E → ∀ lv st σ, gC' KO u lv st σ → Inv KD KO σ → Fr KO (kM E) σ0 σ → 0 ≤ msC u lv σ → msC u lv σ < (b : Int) → Fin' KD KO G E σ0 u.1 lv st 0 σ := by
      intro b
      induction b with
      | zero => intro u _ lv st σ _ _ _ h1 h2; exact absurd h2 (by omega)
      | succ b ih =>
        intro u hu lv st σ g1 hI1 hF1 m1 m2
        have hr := List.all_eq_true.mp hall u hu
        split at hr
        · next t ht =>
          obtain ⟨ν, ρs, hA⟩ := ac0_ok g1
          have hl := lin_ok hA _ t ht
          refine runA_ok hX hM hS hCs (m := msC u lv σ) (fun u' hu' lv' st' σ' g1' hI' hF' m1' m2' => ih u' hu' lv' st' σ' g1' hI' hF' m1' (by omega)) fu u.1 _ 0 _ true hr ν ρs lv st σ 0 hA hI1 hF1 (Nat.le_refl _) ⟨lin_in hA _ t ht, ?_⟩
          unfold msC
          rw [hl]
          dsimp only
          omega
        · cases hr
    have hg : gC' KO (cut0 E K) (lv_args 0 av) [] σ0 := by
      refine ⟨locA_ok 0 _ _ hav, trivial, ?_, fun q hq => by cases hq⟩
      intro q hq
      obtain ⟨p, hp, hq⟩ := List.mem_filterMap.mp hq
      cases hf : (cut0.locA 0 (kA E)).find? (fun p' => match p'.2 with
        | .inr (some κ) => κ == p.1
        | _ => false) with
      | none => rw [hf] at hq; cases hq
      | some r =>
        rw [hf] at hq
        have hq : (r.1, p.2.1, p.2.2) = q := Option.some.inj hq
        subst hq
        have hk := List.find?_some hf
        obtain ⟨v, e1, e2⟩ := locA_ok 0 _ _ hav r (List.mem_of_find?_eq_some hf)
        generalize hw : r.2 = w at hk e2
        match w, hk, e2 with
        | .inr (some κ), hk, e2 =>
          have hk : κ = p.1 := by simpa using hk
          obtain ⟨hd, rfl, e3⟩ := e2
          obtain ⟨x, x1, x2⟩ := hFK p hp hd (by rw [← hk]; exact e3)
          exact ⟨hd, x, e1, x1, x2⟩
        | .inr none, hk, _ => cases hk
        | .inl _, hk, _ => cases hk
    obtain ⟨ν, ρs, hA⟩ := ac0_ok hg
    refine runA_ok hX hM hS hCs (m := K) (fun u' hu' lv' st' σ' g1' hI' hF' m1' m2' => cuts K.toNat u' hu' lv' st' σ' g1' hI' hF' m1' (by omega)) fu 0 _ 0 _ false h0 ν ρs _ [] σ0 0 hA hI Fr.rf (Nat.le_refl _) ⟨(fun q hq => by cases hq), ?_⟩
    show 0 + K = K
    omega
  · cases h
end Chk
