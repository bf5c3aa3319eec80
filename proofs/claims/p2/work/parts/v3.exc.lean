/-! contracts that say what holds behind an exception too -/
def runC (KD : List KDT) (G : TB) (aX : XAT) (nX : Nat → Nat → Bool) (E : CTR) (M : MI) (Cs : List CTR) : Nat → Nat → AC → Nat → List (Nat × Int) × Int → Bool → Bool
  | 0, _, _, _, _, _ => false
  | f + 1, pc, A, c, m0, fs => match (if fs = true then none else cutL (kU E) pc) with
    | some u => decide (c = 0) && enter A u m0
    | none => match aX (kM E) (kK E) pc A with
      | some L => L.all (fun q => runC KD G aX nX E M Cs f q.1 q.2 c m0 false)
      | none => nX (kK E) pc && match tbF G (kK E) pc with
        | none => false
        | some i => match aStep KD (tbK G (kK E)) (kM E) M.2.2.1 pc i A with
          | some L => L.all (fun q => runC KD G aX nX E M Cs f q.1 q.2 c m0 false)
          | none => if retA A.1 M.2.2.2.1 i A.2.2.2.1 (kR E) = true then (decide (c ≤ kC E) && decide (c ≤ 1)) && (kQ E).all (hasF KD A) else match i with
            | .new _ => match tbT G (kK E) pc with
              | some e => (kT E).contains e && (M.2.2.2.2.isEmpty && (decide (catA A.2.2.2.1 ≤ 8) && (decide (c = 0) && (kQ E).all (hasF KD A))))
              | none => false
            | _ => match tbT G (kK E) pc, calA KD G (kK E) i A with
              | none, some (k', kd, as, rs) => match Cs.find? (fun E' => kK E' == k' && (fitL A.1 (kA E') as && (kP E').all (hasF KD A))) with
                | none => decide (1 ≤ kD E) && (match inlA KD G aX nX (kM E) 400 k' (kD E - 1) 0 (calS A as) with
                  | some outs => outs.all (fun q => match q.1 with
                    | .inl v => runC KD G aX nX E M Cs f (pc + 3) (mrA A q.2 rs v) c m0 false
                    | .inr _ => false)
                  | none => false)
                | some E' => decide (kD E' + 1 ≤ kD E) && ((kM E').all (fun q => (kM E).contains q) && (decide (kC E' = 0) && ((kP E').all (hasF KD A) && (runC KD G aX nX E M Cs f (pc + 3) ((kQ E').foldl (addK as) (psR (kM E') A rs (kR E'))) c m0 false && (kT E').isEmpty))))
              | _, _ => false
def oOC (KO : List Nat) (E : CTR) (c' : Nat) (σ' : SG) : OC → Prop
  | .inl e => e ∈ kT E ∧ FK KO (kQ E) σ'
  | .inr r => (c' ≤ kC E ∧ rOK KO (kR E) r) ∧ FK KO (kQ E) σ'
def FinC (KD : List KDT) (KO : List Nat) (G : TB) (E : CTR) (σ0 : SG) (pc : Nat) (lv : LV) (st : List Value) (c : Nat) (σ : SG) : Prop :=
  ∃ f c' o σ', ev G f (kD E) (kK E) pc lv st c σ = some (c', o, σ') ∧ Inv KD KO σ' ∧ Fr KO (kM E) σ0 σ' ∧ c' ≤ 1 ∧ oOC KO E c' σ' o
section ChkC
variable {KD : List KDT} {KO : List Nat} {G : TB} {aX : XAT} {nX : Nat → Nat → Bool} {E : CTR} {M : MI} {Cs : List CTR} {σ0 : SG}
theorem FinC_step {pc : Nat} {lv : LV} {st : List Value} {c : Nat} {σ : SG} {r : S4} (h : ∀ f, ev G (f + 1) (kD E) (kK E) pc lv st c σ = ev G f (kD E) (kK E) r.1 r.2.1 r.2.2.1 c r.2.2.2) (hn : FinC KD KO G E σ0 r.1 r.2.1 r.2.2.1 c r.2.2.2) : FinC KD KO G E σ0 pc lv st c σ := by
  obtain ⟨f, c', o, σ', e, h1⟩ := hn
  exact ⟨f + 1, c', o, σ', by rw [h]; exact e, h1⟩
theorem runC_ok (hX : xOK KD KO G aX nX) (hM : tbM G (kK E) = some M) (hS : Sg KO (kQ E) ∧ ∀ E' ∈ Cs, Sg KO (kP E')) (hCs : ∀ E' ∈ Cs, cOk KD KO G E') {m : Int} (hcut : ∀ u ∈ kU E, ∀ lv st σ, gC' KO u lv st σ → Inv KD KO σ → Fr KO (kM E) σ0 σ → 0 ≤ msC u lv σ → msC u lv σ < m → FinC KD KO G E σ0 u.1 lv st 0 σ) :
    ∀ (f pc : Nat) (A : AC) (c : Nat) (m0 : List (Nat × Int) × Int) (fs : Bool), runC KD G aX nX E M Cs f pc A c m0 fs = true → ∀ (ν : List Int) (ρs : List Nat) (lv : LV) (st : List Value) (σ : SG) (c0 : Nat), gA KO A ν ρs lv st σ → Inv KD KO σ → Fr KO (kM E) σ0 σ → c0 ≤ c → mB ν m0 m → FinC KD KO G E σ0 pc lv st c0 σ := by
  intro f
  induction f with
  | zero => intro pc A c m0 fs h; cases h
  | succ f ih =>
    intro pc A c m0 fs h ν ρs lv st σ c0 hA hI hF hc hm
    unfold runC at h
    split at h
    · next u hu =>
      simp only [Bool.and_eq_true, decide_eq_true_eq] at h
      obtain ⟨hc0, hen⟩ := h
      have hz : c0 = 0 := by omega
      subst hz
      split at hu
      · cases hu
      · have hmem := List.mem_of_find?_eq_some hu
        have hpc := List.find?_some hu
        have hpc : u.1 = pc := by simpa using hpc
        obtain ⟨g1, g2, g3⟩ := enter_ok hA hen
        rw [hm.2] at g3
        rw [← hpc]
        exact hcut u hmem lv st σ g1 hI hF g2 g3
    · split at h
      · next L hL =>
        obtain ⟨r, hr, A', ν', ρs', hmem, g1, g2, g3, g4⟩ := hX.2.1 _ _ _ _ _ _ _ _ _ _ (kD E) hL hA hI
        have := List.all_eq_true.mp h _ hmem
        exact FinC_step (r := r) (fun f => ev_x hr) (ih _ _ _ _ _ this ν' ρs' _ _ _ c0 g1 g3 (hF.tr g4) hc (hm.ext g2.1))
      · simp only [Bool.and_eq_true] at h
        obtain ⟨hn, h⟩ := h
        have hx := fun d lv st σ => hX.2.2 _ _ hn d lv st σ
        split at h
        · cases h
        · next i hi =>
          split at h
          · next L hL =>
            obtain ⟨r, hr, A', ν', ρs', hmem, g1, g2, g3, g4⟩ := aStep_ok hA hI hL
            have := List.all_eq_true.mp h _ hmem
            exact FinC_step (r := r) (fun f => ev_sim (hx _ _ _ _) hM hi hr) (ih _ _ _ _ _ this ν' ρs' _ _ _ c0 g1 g3 (hF.tr g4) hc (hm.ext g2.1))
          · split at h
            · next hret =>
              simp only [Bool.and_eq_true, decide_eq_true_eq] at h
              obtain ⟨h, hkq⟩ := h
              obtain ⟨v, r1, r2, r3⟩ := retA_ok (G := G) (k := kK E) (pc := pc) hA hret
              exact ⟨1, c0, .inr v, σ, ev_ret (hx _ _ _ _) hM hi (r3 _ _) r1, hI, hF, by omega, ⟨by omega, r2⟩, hasF_ok hA hI hS.1 hkq⟩
            · split at h
              · split at h
                · next e hT =>
                  simp only [Bool.and_eq_true, decide_eq_true_eq] at h
                  obtain ⟨t1, t2, t3, t4, t5⟩ := h
                  have t1 : e ∈ kT E := by simpa using t1
                  have t2 : M.2.2.2.2 = [] := by simpa using t2
                  have t3 : cats st ≤ 8 := by rw [catA_ok hA.2.2.2.1]; exact t3
                  exact ⟨1, c0 + 1, .inl e, σ, ev_thr (hx _ _ _ _) hM hi (sim_new _) (rtn_new _) hT ⟨t2, t3⟩, hI, hF, by omega, t1, hasF_ok hA hI hS.1 t5⟩
                · cases h
              · split at h
                · next k' kd as rs hT hcal =>
                  split at h
                  · simp only [Bool.and_eq_true, decide_eq_true_eq] at h
                    obtain ⟨hd1, h⟩ := h
                    split at h
                    · next outs hout =>
                      obtain ⟨av, rest, q1, q2, q3, q4, q5⟩ := calA_ok (pc := pc) hA hI hcal
                      obtain ⟨F, c1, o, σ1, ν', ρs', q, e1, e2, x1, x2, sI, oq, hI1, hF1⟩ := inlA_ok hX 400 k' (kD E - 1) 0 (calS A as) outs hout ν ρs (lv_args 0 av) [] σ 0 (calS_ok hA q2) hI
                      have hq := List.all_eq_true.mp h q e2
                      have hd0 : kD E = (kD E - 1) + 1 := by omega
                      match hq1 : q.1, o, oq with
                      | .inl v, .inr r, oq =>
                        rw [hq1] at hq
                        obtain ⟨o1, o2⟩ := oq
                        subst o1
                        obtain ⟨f2, c2, o', σ2, b1, b2⟩ := ih _ _ _ _ _ hq ν' ρs' lv (psh r rest) σ1 c0 (mrA_ok hA q3 x1 x2 sI o2) hI1 (hF.tr hF1) hc (hm.ext x1)
                        refine ⟨max F f2 + 1, c2, o', σ2, ?_, b2⟩
                        rw [hd0] at b1 ⊢
                        rw [ev_cal (hx _ _ _ _) hM hi (q4 _ _) (q5 _) hT q1 (ev_up G hX.1 F (max F f2) _ _ _ _ _ _ _ _ _ (Nat.le_max_left _ _) (Nat.le_refl _) e1)]
                        exact ev_up G hX.1 f2 (max F f2) _ _ _ _ _ _ _ _ _ (Nat.le_max_right _ _) (Nat.le_refl _) b1
                      | .inr e, .inl e', oq =>
                        rw [hq1] at hq
                        obtain ⟨o1, o2⟩ := oq
                        subst o1
                        cases hq
                      | .inl v, .inl e', oq => exact (show False from oq).elim
                      | .inr e, .inr r, oq => exact (show False from oq).elim
                    · cases h
                  · next E' hE' =>
                    simp only [Bool.and_eq_true, decide_eq_true_eq] at h
                    obtain ⟨d1, d2, d3, dP, d4, d5⟩ := h
                    have hmem := List.mem_of_find?_eq_some hE'
                    have hp := List.find?_some hE'
                    simp only [Bool.and_eq_true] at hp
                    have hk : kK E' = k' := by simpa using hp.1
                    obtain ⟨av, rest, q1, q2, q3, q4, q5⟩ := calA_ok (pc := pc) hA hI hcal
                    have hav := fitL_ok hA _ _ _ hp.2.1 q2
                    obtain ⟨f1, c1, o, σ1, e1, e2, e3, e4, e5⟩ := hCs E' hmem av σ hI hav (hasF_ok hA hI (hS.2 E' hmem) dP)
                    have hms : ∀ q ∈ kM E', q ∈ kM E := fun q hq => by simpa using List.all_eq_true.mp d2 q hq
                    have hF1 : Fr KO (kM E) σ0 σ1 := hF.tr (e3.wk hms)
                    have hd : ∃ d0, kD E = d0 + 1 ∧ kD E' ≤ d0 := ⟨kD E - 1, by omega, by omega⟩
                    obtain ⟨d0, hd0, hd1⟩ := hd
                    rw [hk] at e1
                    cases o with
                    | inr r =>
                      obtain ⟨⟨o1, o2⟩, o3⟩ := e5
                      have hc1 : c1 = 0 := by omega
                      subst hc1
                      obtain ⟨ν1, ρs', p0, p00, p1'⟩ := psR_ok hA q3 o2 e3
                      obtain ⟨ν', p3, p2⟩ := addK_ok (as := as) (av := av) (kQ E') _ ν1 ρs' p1' (q2.ext p0 p00) o3
                      have p1 := p0.tr p3
                      obtain ⟨f2, c2, o', σ2, b1, b2⟩ := ih _ _ _ _ _ d4 ν' ρs' lv (psh r rest) σ1 c0 p2 e2 hF1 hc (hm.ext p1)
                      refine ⟨max f1 f2 + 1, c2, o', σ2, ?_, b2⟩
                      rw [hd0] at b1 ⊢
                      rw [ev_cal (hx _ _ _ _) hM hi (q4 _ _) (q5 _) hT q1 (ev_up G hX.1 f1 (max f1 f2) (kD E') d0 _ _ _ _ _ _ _ (Nat.le_max_left _ _) hd1 e1)]
                      exact ev_up G hX.1 f2 (max f1 f2) _ _ _ _ _ _ _ _ _ (Nat.le_max_right _ _) (Nat.le_refl _) b1
                    | inl e =>
                      have hne : ¬ (kT E').isEmpty = true := fun z => by
                        have z : kT E' = [] := by simpa using z
                        have e5 : e ∈ kT E' := e5
                        rw [z] at e5
                        cases e5
                      exact absurd d5 hne
                · cases h
end ChkC
