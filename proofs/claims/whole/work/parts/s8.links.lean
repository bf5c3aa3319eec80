/-! the reference's invariant; what questions may move -/
def rowS (ρ : Nat → Int32) : ST := (fun _ => ρ, fun _ _ => 0)
section Row2
variable {S S' : ST} {h h' : Nat}
theorem ra_r2 (e : S'.1 h' = S.1 h) (v : Int32) : ra S' h' v = ra S h v := by unfold ra; rw [e]
theorem f204_r2 (e : S'.1 h' = S.1 h) (v : Int32) : f_204 S' h' v = f_204 S h v := by unfold f_204; rw [e]
theorem rN_r2 (e : S'.1 h' = S.1 h) : rN S' h' = rN S h := by unfold rN; rw [e]
theorem f206_r2 (e : S'.1 h' = S.1 h) : f_206 S' h' = f_206 S h := by
  funext v1 v2 v4 v6
  unfold f_206
  rw [f204_r2 e, ra_r2 e, ra_r2 e, ra_r2 e, ra_r2 e]
theorem f208_r2 (e : S'.1 h' = S.1 h) : f_208 S' h' = f_208 S h := by
  funext v1 v3 v5
  have e7 : f_207 S' h' = f_207 S h := by
    funext v1 v3 v5
    unfold f_207
    rw [f206_r2 e, rN_r2 e]
  have e8 : st8 S' h' = st8 S h := by
    funext v1 v3 v5 i a
    unfold st8
    rw [f204_r2 e, ra_r2 e, ra_r2 e, ra_r2 e, ra_r2 e]
  unfold f_208
  rw [e7, e8, rN_r2 e]
theorem inp_r2 (e : S'.1 h' = S.1 h) : inp S' h' = inp S h := by
  funext t
  unfold inp
  rw [f208_r2 e]
theorem rL_r2 (e : S'.1 h' = S.1 h) : rL S' h' = rL S h := by
  have eP : rP S' h' = rP S h := by funext i; unfold rP; rw [e]
  unfold rL
  rw [rN_r2 e, eP]
theorem GR_r2 (e : S'.1 h' = S.1 h) (g : GR S h) : GR S' h' := by
  have eP : rP S' h' = rP S h := by funext i; unfold rP; rw [e]
  refine ⟨?_, by rw [rN_r2 e]; exact g.2.1, ?_, by rw [rN_r2 e, eP]; exact g.2.2.2.1, by rw [inp_r2 e]; exact g.2.2.2.2⟩
  · unfold RW; rw [rN_r2 e, e]; exact g.1
  · unfold RB; rw [e]; exact g.2.2.1
end Row2
/-- guards and treasures lie in the polygon -/
def Th (S : ST) (h : Nat) : Prop := (∃ G, S.1 h 1 = nJ G ∧ G ≤ 6 ∧ ∀ g, g < G → ge_cl 1 (rL S h) ((S.1 h (27 + 3 * g)).toInt, (S.1 h (28 + 3 * g)).toInt)) ∧ ∃ T, S.1 h 2 = nJ T ∧ T ≤ 6 ∧ ∀ t, t < T → ge_cl 1 (rL S h) ((S.1 h (45 + 3 * t)).toInt, (S.1 h (46 + 3 * t)).toInt)
def GTh (S : ST) (h : Nat) : Prop := GR S h ∧ Th S h
theorem Th_r2 {S S' : ST} {h h' : Nat} (e : S'.1 h' = S.1 h) (g : Th S h) : Th S' h' := by
  unfold Th
  rw [rL_r2 e, e]
  exact g
theorem GTh_r2 {S S' : ST} {h h' : Nat} (e : S'.1 h' = S.1 h) (g : GTh S h) : GTh S' h' := ⟨GR_r2 e g.1, Th_r2 e g.2⟩
/-- the k-th stored row -/
def sto (S : ST) (k : Nat) : ST := rowS (fun j => S.1 142 (63 * k + j))
def MOK (S : ST) : Prop :=
  (0 ≤ (S.1 140 7).toInt ∧ (S.1 140 7).toInt ≤ 600) ∧ (¬ S.1 140 1 = 0 → Ld S ∧ Th S 141) ∧ (∃ c, S.1 140 4 = nJ c ∧ c ≤ 8 ∧ ∀ k, k < c → GTh (sto S (1 + k)) 0) ∧ (∀ j, j < 2 → ¬ S.1 143 j = 0 → GTh (sto S (9 + j)) 0) ∧ (¬ S.1 140 27 = 0 → Sv S) ∧ (∃ g, S.1 140 34 = nJ g ∧ g ≤ 4) ∧ ∃ w, S.1 140 36 = nJ w ∧ w ≤ 4
def Lq : List Nat := [150, 151, 152, 153, 154, 155, 156, 157, 158, 159, 160, 161]
def Fq : List Nat := [0, 27, 34, 36, 38, 40]
/-- a question: the invariant holds behind it, no more than Lq and Fq has moved -/
def Qq (S S' : ST) : Prop := MOK S' ∧ Fm Lq Fq S S'
theorem Qq.tr {S S1 S2 : ST} (h : Qq S S1) (h' : Qq S1 S2) : Qq S S2 := ⟨h'.1, h.2.tr h'.2⟩
theorem Qq.rf {S : ST} (h : MOK S) : Qq S S := ⟨h, Fm.rf⟩
theorem Sv_fm {S S' : ST} {hs fs : List Nat} (h : Sv S) (hF : Fm hs fs S S') (h1 : 141 ∉ hs) (h7 : 147 ∉ hs) (h8 : 148 ∉ hs) (h3 : 153 ∉ hs) : Sv S' := by
  have e1 := hF.row h1 (by decide)
  have e7 := hF.row h7 (by decide)
  have e8 := hF.row h8 (by decide)
  have e3 := hF.rowL h3
  have en : nP S' = nP S := by unfold nP; rw [inp_r2 e1]
  have ep : ∀ p, pt S' p = pt S p := fun p => by unfold pt; rw [e7, e8]
  unfold Sv
  rw [en, e3, rL_r2 e1]
  intro p hp
  obtain ⟨a, b, c⟩ := h p hp
  exact ⟨a, b, fun q hq => by rw [ep, ep]; exact c q hq⟩
theorem sto_fm {S S' : ST} {hs fs : List Nat} (hF : Fm hs fs S S') (h : 142 ∉ hs) (k : Nat) : sto S' k = sto S k := by
  unfold sto
  rw [hF.row h (by decide)]
theorem MOK_Q {S S' : ST} (h : MOK S) (hF : Fm Lq Fq S S') (hs : ¬ S'.1 140 27 = 0 → Sv S') (hg : ∃ g, S'.1 140 34 = nJ g ∧ g ≤ 4) (hw : ∃ w, S'.1 140 36 = nJ w ∧ w ≤ 4) : MOK S' := by
  obtain ⟨a1, a2, a3, a4, -, -, -⟩ := h
  refine ⟨?_, fun h1 => ?_, ?_, fun j hj hk => ?_, hs, hg, hw⟩
  · rw [hF.fld (by decide) (by decide)]; exact a1
  · rw [hF.fld (by decide) (by decide)] at h1
    exact ⟨(Ld_fm (a2 h1).1 hF (by decide) (by decide) (by decide) (by decide) (by decide) (by decide)).1, Th_r2 (hF.row (by decide) (by decide)) (a2 h1).2⟩
  · obtain ⟨c, c1, c2, c3⟩ := a3
    exact ⟨c, by rw [hF.fld (by decide) (by decide)]; exact c1, c2, fun k hk => by rw [sto_fm hF (by decide)]; exact c3 k hk⟩
  · rw [hF.row (a := 143) (by decide) (by decide)] at hk
    rw [sto_fm hF (by decide)]
    exact a4 j hj hk
/-- a step of a question that leaves the sight alone -/
theorem Qq_0 {S S' : ST} (h : MOK S) {hs fs : List Nat} (hF : Fm hs fs S S') (h1 : ∀ x ∈ hs, x ∈ Lq) (h2 : ∀ x ∈ fs, x ∈ Fq) (h3 : 153 ∉ hs) (h4 : 27 ∉ fs) (h5 : 34 ∉ fs) (h6 : 36 ∉ fs) : Qq S S' := by
  have hF' := hF.wk h1 h2
  have h0 : 140 ∉ hs := fun q => by have := h1 _ q; revert this; decide
  have k1 : 141 ∉ hs := fun q => by have := h1 _ q; revert this; decide
  have k7 : 147 ∉ hs := fun q => by have := h1 _ q; revert this; decide
  have k8 : 148 ∉ hs := fun q => by have := h1 _ q; revert this; decide
  refine ⟨MOK_Q h hF' (fun q => ?_) ?_ ?_, hF'⟩
  · rw [hF.fld h0 h4] at q
    exact Sv_fm (h.2.2.2.2.1 q) hF k1 k7 k8 h3
  · rw [hF.fld h0 h5]; exact h.2.2.2.2.2.1
  · rw [hF.fld h0 h6]; exact h.2.2.2.2.2.2
theorem Qq_t {S : ST} (h : MOK S) (v : Int32) : Qq S (wI S 140 0 v) := Qq_0 h (hs := []) (fs := [0]) (Fm_f (by decide)) (by decide) (by decide) (by decide) (by decide) (by decide) (by decide)
theorem Qq_a {S : ST} (h : MOK S) {a q : Nat} {v : Int32} (h1 : ∀ x ∈ [a], x ∈ Lq) (h3 : 153 ∉ [a]) : Qq S (wI S a q v) := Qq_0 h (hs := [a]) (fs := []) (Fm_a (List.mem_cons_self ..)) h1 (by decide) h3 (by decide) (by decide) (by decide)
/-- with a polygon, seen -/
def Qs (S : ST) : Prop := MOK S ∧ ¬ S.1 140 1 = 0 ∧ Sv S
def Qp (S : ST) : Prop := MOK S ∧ ¬ S.1 140 1 = 0
theorem Qp.ld {S : ST} (h : Qp S) : Ld S ∧ Th S 141 := h.1.2.1 h.2
theorem Qp_q {S S' : ST} (h : Qp S) (q : Qq S S') : Qp S' := ⟨q.1, by rw [q.2.fld (by decide) (by decide)]; exact h.2⟩
theorem Qs_q {S S' : ST} (h : Qs S) (q : Qq S S') (e : S'.2 153 = S.2 153) : Qs S' := by
  refine ⟨q.1, by rw [q.2.fld (by decide) (by decide)]; exact h.2.1, ?_⟩
  have e1 := q.2.row (a := 141) (by decide) (by decide)
  have e7 := q.2.row (a := 147) (by decide) (by decide)
  have e8 := q.2.row (a := 148) (by decide) (by decide)
  have en : nP S' = nP S := by unfold nP; rw [inp_r2 e1]
  have ep : ∀ p, pt S' p = pt S p := fun p => by unfold pt; rw [e7, e8]
  unfold Sv
  rw [en, e, rL_r2 e1]
  intro p hp
  obtain ⟨a, b, c⟩ := h.2.2 p hp
  exact ⟨a, b, fun r hr => by rw [ep, ep]; exact c r hr⟩
theorem sr_239 {d : Nat} {S : ST} (h : Qp S) : Cal XM (d + 6) 239 [.ref 140] S (RP (fun v S' => v = none ∧ Qq S S' ∧ Qs S')) := by
  refine Cal.im (sq_239 h.ld.1) ?_
  rintro c o S' ⟨rfl, v, rfl, rfl, hF, hc⟩
  have hF' : Fm Lq Fq S S' := hF.wk (by decide) (by decide)
  have key : ∀ (hS : Sv S') (hg : ∃ g, S'.1 140 34 = nJ g ∧ g ≤ 4) (hw : ∃ w, S'.1 140 36 = nJ w ∧ w ≤ 4), Qq S S' ∧ Qs S' := by
    intro hS hg hw
    have hM := MOK_Q h.1 hF' (fun _ => hS) hg hw
    exact ⟨⟨hM, hF'⟩, hM, by rw [hF'.fld (by decide) (by decide)]; exact h.2, hS⟩
  refine ⟨rfl, _, rfl, rfl, ?_⟩
  rcases hc with ⟨h0, rfl⟩ | ⟨h0, h1, h2, h3, h4⟩
  · exact key (h.1.2.2.2.2.1 h0) h.1.2.2.2.2.2.1 h.1.2.2.2.2.2.2
  · exact key h4 ⟨0, h2, by omega⟩ ⟨0, h3, by omega⟩
theorem mm_244 : mtG 244 = some (mi_244, 12, ft_244) := rfl
set_option maxRecDepth 20000 in
theorem b_244_0 {d c : Nat} {R : RT} {S : ST} {v1 : Int32} (e1 : Go XM (d + 7) 244 c 1 [some (.ref 140), some (.int v1), none, none, none, none, none, none] [.ref 140] S R) : Go XM (d + 7) 244 c 0 [some (.ref 140), some (.int v1), none, none, none, none, none, none] [] S R := by
  refine go_run mm_244 1 (pc' := 1) (ls' := [some (.ref 140), some (.int v1), none, none, none, none, none, none]) (st' := [.ref 140]) (S' := S) rfl ?_
  exact e1
set_option maxRecDepth 20000 in
theorem b_244_4 {d c : Nat} {R : RT} {S : ST} {v1 : Int32} (o1 : inB v1 64) (e1 : Go XM (d + 7) 244 c 18 [some (.ref 140), some (.int v1), some (.long (1 <<< (Int32.toInt64 v1 &&& 63))), none, some (.int 0), none, none, none] [] (wI S 155 (Int32.toNatClampNeg v1) 0) R) : Go XM (d + 7) 244 c 4 [some (.ref 140), some (.int v1), none, none, none, none, none, none] [] S R := by
  refine go_run mm_244 8 (pc' := 14) (ls' := [some (.ref 140), some (.int v1), some (.long (1 <<< (Int32.toInt64 v1 &&& 63))), none, none, none, none, none]) (st' := [.int 0, .int v1, .ref 155]) (S' := S) rfl ?_
  refine go_iastore mm_244 (q := (Int32.toNatClampNeg v1)) rfl rfl rfl (o1) ?_
  refine go_run mm_244 2 (pc' := 18) (ls' := [some (.ref 140), some (.int v1), some (.long (1 <<< (Int32.toInt64 v1 &&& 63))), none, some (.int 0), none, none, none]) (st' := []) (S' := (wI S 155 (Int32.toNatClampNeg v1) 0)) rfl ?_
  exact e1
set_option maxRecDepth 20000 in
theorem b_244_18 {d c : Nat} {R : RT} {S : ST} {v1 : Int32} {v2 : Int64} {v4 : Int32} (e1 : v2 = (f_216 S) → R c (.inr (some (.int v4))) S) (e2 : ¬ v2 = (f_216 S) → Go XM (d + 7) 244 c 33 [some (.ref 140), some (.int v1), some (.long v2), none, some (.int v4), some (.long 0), none, some (.int 0)] [] S R) : Go XM (d + 7) 244 c 18 [some (.ref 140), some (.int v1), some (.long v2), none, some (.int v4), none, none, none] [] S R := by
  refine go_run mm_244 2 (pc' := 20) (ls' := [some (.ref 140), some (.int v1), some (.long v2), none, some (.int v4), none, none, none]) (st' := [.ref 140, .long v2]) (S' := S) rfl ?_
  refine go_cv mm_244 (h := 140) (As := []) (rest := [.long v2]) (nl := 1) rfl XM_140 (show cvOK 244 20 286 216 0 1 11 = true by decide +kernel) rfl rfl rfl (sp_216) (KP_V ?_)
  refine go_lif mm_244 rfl rfl (p1 := 127) (p2 := 27) rfl (fun (hc1 : v2 = (f_216 S)) => ?_) (fun (hc1 : ¬ v2 = (f_216 S)) => ?_)
  · refine go_run mm_244 1 (pc' := 129) (ls' := [some (.ref 140), some (.int v1), some (.long v2), none, some (.int v4), none, none, none]) (st' := [.int v4]) (S' := S) rfl ?_
    exact go_ireturn mm_244 rfl rfl (e1 hc1)
  · refine go_run mm_244 4 (pc' := 33) (ls' := [some (.ref 140), some (.int v1), some (.long v2), none, some (.int v4), some (.long 0), none, some (.int 0)]) (st' := []) (S' := S) rfl ?_
    exact e2 hc1
set_option maxRecDepth 20000 in
theorem b_244_33 {d c : Nat} {R : RT} {S : ST} {v1 : Int32} {v2 : Int64} {v4 : Int32} {v5 : Int64} {v7 : Int32} (o1 : v7 < (S.1 140 20) → (f_217 v2 v7) = true → inB v7 64) (e1 : v7 < (S.1 140 20) → Go XM (d + 7) 244 c 33 [some (.ref 140), some (.int v1), some (.long v2), none, some (.int v4), some (.long (v5 ||| (if (f_217 v2 v7) = true then rl S 153 v7 else 0))), none, some (.int (v7 + 1))] [] S R) (e2 : ¬ v7 < (S.1 140 20) → Go XM (d + 7) 244 c 79 [some (.ref 140), some (.int v1), some (.long v2), none, some (.int (v4 + 1)), some (.long v5), none, some (.int 0)] [] S R) : Go XM (d + 7) 244 c 33 [some (.ref 140), some (.int v1), some (.long v2), none, some (.int v4), some (.long v5), none, some (.int v7)] [] S R := by
  refine go_run mm_244 3 (pc' := 39) (ls' := [some (.ref 140), some (.int v1), some (.long v2), none, some (.int v4), some (.long v5), none, some (.int v7)]) (st' := [.int (S.1 140 20), .int v7]) (S' := S) rfl ?_
  refine go_if2 mm_244 rfl (p1 := 42) (p2 := 73) rfl (fun (hc1 : v7 < (S.1 140 20)) => ?_) (fun (hc1 : ¬ v7 < (S.1 140 20)) => ?_)
  · refine go_run mm_244 3 (pc' := 47) (ls' := [some (.ref 140), some (.int v1), some (.long v2), none, some (.int v4), some (.long v5), none, some (.int v7)]) (st' := [.int v7, .long v2, .long v5]) (S' := S) rfl ?_
    refine go_cs mm_244 (av := [.long v2, .int v7]) (rest := [.long v5]) (nl := 3) rfl (show csOK 244 47 282 217 2 3 = true by decide +kernel) rfl rfl rfl (sp_217) (KP_V ?_)
    have j1 : Go XM (d + 7) 244 c 64 [some (.ref 140), some (.int v1), some (.long v2), none, some (.int v4), some (.long v5), none, some (.int v7)] [.long (if (f_217 v2 v7) = true then rl S 153 v7 else 0), .long v5] S R := by
      refine go_run mm_244 4 (pc' := 33) (ls' := [some (.ref 140), some (.int v1), some (.long v2), none, some (.int v4), some (.long (v5 ||| (if (f_217 v2 v7) = true then rl S 153 v7 else 0))), none, some (.int (v7 + 1))]) (st' := []) (S' := S) rfl ?_
      exact e1 hc1
    refine go_ifb mm_244 rfl (p1 := 53) (p2 := 63) rfl (fun (hc2 : (f_217 v2 v7) = true) => ?_) (fun (hc2 : (f_217 v2 v7) = false) => ?_)
    · refine go_run mm_244 3 (pc' := 59) (ls' := [some (.ref 140), some (.int v1), some (.long v2), none, some (.int v4), some (.long v5), none, some (.int v7)]) (st' := [.int v7, .ref 153, .long v5]) (S' := S) rfl ?_
      refine go_laload mm_244 (q := (Int32.toNatClampNeg v7)) rfl rfl rfl (o1 hc1 hc2) ?_
      refine go_run mm_244 1 (pc' := 64) (ls' := [some (.ref 140), some (.int v1), some (.long v2), none, some (.int v4), some (.long v5), none, some (.int v7)]) (st' := [.long (rl S 153 v7), .long v5]) (S' := S) rfl ?_
      have e : ((if (f_217 v2 v7) = true then rl S 153 v7 else 0) : Int64) = rl S 153 v7 := by simp [hc2]
      rw [e] at j1
      exact j1
    · refine go_run mm_244 1 (pc' := 64) (ls' := [some (.ref 140), some (.int v1), some (.long v2), none, some (.int v4), some (.long v5), none, some (.int v7)]) (st' := [.long 0, .long v5]) (S' := S) rfl ?_
      have e : ((if (f_217 v2 v7) = true then rl S 153 v7 else 0) : Int64) = 0 := by simp [hc2]
      rw [e] at j1
      exact j1
  · refine go_run mm_244 3 (pc' := 79) (ls' := [some (.ref 140), some (.int v1), some (.long v2), none, some (.int (v4 + 1)), some (.long v5), none, some (.int 0)]) (st' := []) (S' := S) rfl ?_
    exact e2 hc1
set_option maxRecDepth 20000 in
theorem b_244_79 {d c : Nat} {R : RT} {S : ST} {v1 : Int32} {v2 : Int64} {v4 : Int32} {v5 : Int64} {v7 : Int32} (o1 : v7 < (S.1 140 20) → (f_217 (v5 &&& (v2 ^^^ (-1))) v7) = true → inB v7 64) (e1 : v7 < (S.1 140 20) → (f_217 (v5 &&& (v2 ^^^ (-1))) v7) = true → Go XM (d + 7) 244 c 79 [some (.ref 140), some (.int v1), some (.long v2), none, some (.int v4), some (.long v5), none, some (.int (v7 + 1))] [] (wI S 155 (Int32.toNatClampNeg v7) v4) R) (e2 : v7 < (S.1 140 20) → (f_217 (v5 &&& (v2 ^^^ (-1))) v7) = false → Go XM (d + 7) 244 c 79 [some (.ref 140), some (.int v1), some (.long v2), none, some (.int v4), some (.long v5), none, some (.int (v7 + 1))] [] S R) (e3 : ¬ v7 < (S.1 140 20) → Go XM (d + 7) 244 c 18 [some (.ref 140), some (.int v1), some (.long (v2 ||| v5)), none, some (.int v4), some (.long v5), none, some (.int v7)] [] S R) : Go XM (d + 7) 244 c 79 [some (.ref 140), some (.int v1), some (.long v2), none, some (.int v4), some (.long v5), none, some (.int v7)] [] S R := by
  refine go_run mm_244 3 (pc' := 85) (ls' := [some (.ref 140), some (.int v1), some (.long v2), none, some (.int v4), some (.long v5), none, some (.int v7)]) (st' := [.int (S.1 140 20), .int v7]) (S' := S) rfl ?_
  refine go_if2 mm_244 rfl (p1 := 88) (p2 := 119) rfl (fun (hc1 : v7 < (S.1 140 20)) => ?_) (fun (hc1 : ¬ v7 < (S.1 140 20)) => ?_)
  · refine go_run mm_244 6 (pc' := 98) (ls' := [some (.ref 140), some (.int v1), some (.long v2), none, some (.int v4), some (.long v5), none, some (.int v7)]) (st' := [.int v7, .long (v5 &&& (v2 ^^^ (-1)))]) (S' := S) rfl ?_
    refine go_cs mm_244 (av := [.long (v5 &&& (v2 ^^^ (-1))), .int v7]) (rest := []) (nl := 3) rfl (show csOK 244 98 282 217 2 3 = true by decide +kernel) rfl rfl rfl (sp_217) (KP_V ?_)
    refine go_ifb mm_244 rfl (p1 := 104) (p2 := 113) rfl (fun (hc2 : (f_217 (v5 &&& (v2 ^^^ (-1))) v7) = true) => ?_) (fun (hc2 : (f_217 (v5 &&& (v2 ^^^ (-1))) v7) = false) => ?_)
    · refine go_run mm_244 4 (pc' := 112) (ls' := [some (.ref 140), some (.int v1), some (.long v2), none, some (.int v4), some (.long v5), none, some (.int v7)]) (st' := [.int v4, .int v7, .ref 155]) (S' := S) rfl ?_
      refine go_iastore mm_244 (q := (Int32.toNatClampNeg v7)) rfl rfl rfl (o1 hc1 hc2) ?_
      refine go_run mm_244 2 (pc' := 79) (ls' := [some (.ref 140), some (.int v1), some (.long v2), none, some (.int v4), some (.long v5), none, some (.int (v7 + 1))]) (st' := []) (S' := (wI S 155 (Int32.toNatClampNeg v7) v4)) rfl ?_
      exact e1 hc1 hc2
    · refine go_run mm_244 2 (pc' := 79) (ls' := [some (.ref 140), some (.int v1), some (.long v2), none, some (.int v4), some (.long v5), none, some (.int (v7 + 1))]) (st' := []) (S' := S) rfl ?_
      exact e2 hc1 hc2
  · refine go_run mm_244 5 (pc' := 18) (ls' := [some (.ref 140), some (.int v1), some (.long (v2 ||| v5)), none, some (.int v4), some (.long v5), none, some (.int v7)]) (st' := []) (S' := S) rfl ?_
    exact e3 hc1
theorem rk_up {p q : Nat → Bool} : ∀ {t : Nat}, (∀ i, i < t → p i = true → q i = true) → rk p t ≤ rk q t
  | 0, _ => Nat.le_refl _
  | t + 1, h => by
    have ih := rk_up (t := t) (fun i hi => h i (by omega))
    show rk p t + (if p t = true then 1 else 0) ≤ rk q t + (if q t = true then 1 else 0)
    by_cases z : p t = true
    · rw [if_pos z, if_pos (h t (by omega) z)]; omega
    · rw [if_neg z]; omega
theorem rk_up1 {p q : Nat → Bool} : ∀ {t : Nat}, (∀ i, i < t → p i = true → q i = true) → (∃ j, j < t ∧ q j = true ∧ p j = false) → rk p t < rk q t
  | 0, _, ⟨j, hj, _⟩ => by omega
  | t + 1, h, ⟨j, hj, h1, h2⟩ => by
    show rk p t + (if p t = true then 1 else 0) < rk q t + (if q t = true then 1 else 0)
    by_cases hjt : j = t
    · subst hjt
      have ih := rk_up (t := j) (fun i hi => h i (by omega))
      rw [if_pos h1, if_neg (ne_t h2)]
      omega
    · have ih := rk_up1 (t := t) (fun i hi => h i (by omega)) ⟨j, by omega, h1, h2⟩
      by_cases z : p t = true
      · rw [if_pos z, if_pos (h t (by omega) z)]; omega
      · rw [if_neg z]; omega
theorem or_0 (x : Int64) : x ||| 0 = x := bz_ext (fun i _ => by rw [bz_or, bz_0, Bool.or_false])
/-- what laysLinks leaves -/
def PLk (S : ST) (v : Option Value) (S' : ST) : Prop := ∃ f : Int32, v = some (.int f) ∧ Qq S S' ∧ Qs S' ∧ ∃ p, p < nP S' ∧ S'.1 155 p = f
theorem links_go {d : Nat} {S : ST} {v1 : Int32} : ∀ m far met S1, Qq S S1 → Qs S1 → (∀ q, bz met q = true → q < nP S1) → (∃ q, bz met q = true) → rk (bz met) (nP S1) + m = nP S1 → (∃ p, p < nP S1 ∧ S1.1 155 p = far) → Go XM (d + 7) 244 0 18 [some (.ref 140), some (.int v1), some (.long met), none, some (.int far), none, none, none] [] S1 (RP (PLk S)) := by
  intro m
  induction m using Nat.strongRecOn with
  | _ m ih =>
  intro far met S1 hq hs hb hne hm hp
  have hL := (Qp.ld ⟨hs.1, hs.2.1⟩).1
  obtain ⟨hP, h64⟩ := Ld_P hL
  refine b_244_18 (fun _ => ⟨rfl, _, rfl, far, rfl, hq, hs, hp⟩) (fun hna => ?_)
  -- a new point is seen
  have hnew : ∃ q p, q < nP S1 ∧ p < nP S1 ∧ bz met p = true ∧ bz (S1.2 153 p) q = true ∧ bz met q = false := by
    apply Classical.byContradiction
    intro hno
    apply hna
    obtain ⟨g1, g2, g3⟩ := GR_simple hL.1
    obtain ⟨q0, hq0⟩ := hne
    have hcl := fun {p : Nat} (hp : p < nP S1) => (Ld_pt hL hp).choose_spec.2.2.2.2.2.2
    have hall := ge_conn g2 g1 (fun x => ∃ p, p < nP S1 ∧ pt S1 p = x ∧ bz met p = true) (fun x y hx hcx hcy hsee => by
      obtain ⟨p, p1, p2, p3⟩ := hx
      obtain ⟨r, r1, r2⟩ := Ld_of hL hcy
      refine ⟨r, r1, r2, ?_⟩
      have hb1 := (hs.2.2 p p1).2.2 r r1 (by rw [p2, r2]; exact hsee)
      cases hz : bz met r with
      | true => rfl
      | false => exact absurd ⟨r, p, r1, p1, p3, hb1, hz⟩ hno) (hcl (hb q0 hq0)) ⟨q0, hb q0 hq0, rfl, hq0⟩
    apply bz_ext
    intro i hi
    rw [all_t hP h64 hi]
    by_cases hiP : i < nP S1
    · obtain ⟨p, p1, p2, p3⟩ := hall (pt S1 i) (hcl hiP)
      have : p = i := by
        obtain ⟨t, t1, t2, t3, -, -, t6, -⟩ := Ld_pt hL p1
        obtain ⟨s, s1, s2, s3, -, -, s6, -⟩ := Ld_pt hL hiP
        rw [t6, s6] at p2
        unfold lxy at p2
        have a := congrArg Prod.fst p2
        have b := congrArg Prod.snd p2
        have a : ((t % 16 : Nat) : Int) = ((s % 16 : Nat) : Int) := a
        have b : ((t / 16 : Nat) : Int) = ((s / 16 : Nat) : Int) := b
        have : t = s := by omega
        rw [← t3, ← s3, this]
      subst this
      rw [p3, decide_eq_true hiP]
    · rw [decide_eq_false hiP]
      cases hz : bz met i with
      | false => rfl
      | true => exact absurd (hb i hz) hiP
  -- the inner loops
  have lp2 : ∀ m' i more S2, i + m' = nP S1 → Qq S S2 → Qs S2 → Fm [155] [] S1 S2 → (∀ q, bz more q = true ↔ ∃ p, p < nP S1 ∧ bz met p = true ∧ bz (S1.2 153 p) q = true) → (∀ q, q < i → bz more q = true → bz met q = false → S2.1 155 q = far + 1) → Go XM (d + 7) 244 0 79 [some (.ref 140), some (.int v1), some (.long met), none, some (.int (far + 1)), some (.long more), none, some (.int (nJ i))] [] S2 (RP (PLk S)) := by
    intro m'
    induction m' with
    | zero =>
      intro i more S2 hi hq2 hs2 hF2 hmo hli
      have hi : i = nP S1 := by omega
      have en : nP S2 = nP S1 := by unfold nP; rw [inp_r2 (hF2.row (a := 141) (by decide) (by decide))]
      have e20 := hF2.fld (by decide) (k := 20) (by decide)
      have hc : ¬ nJ i < S2.1 140 20 := by rw [e20, hP, nJ_lt (by omega) (by omega)]; omega
      refine b_244_79 (fun q => absurd q hc) (fun q => absurd q hc) (fun q => absurd q hc) (fun _ => ?_)
      obtain ⟨q, p, q1, p1, p2, p3, q2⟩ := hnew
      have hmq : bz more q = true := (hmo q).mpr ⟨p, p1, p2, p3⟩
      have hlt : rk (bz met) (nP S1) < rk (bz (met ||| more)) (nP S1) := rk_up1 (fun j _ hj => bz_orl hj) ⟨q, q1, by rw [bz_or, hmq, Bool.or_true], q2⟩
      have hle := rk_le (bz (met ||| more)) (nP S1)
      refine Go.le (ih (nP S1 - rk (bz (met ||| more)) (nP S1)) (by omega) (far + 1) (met ||| more) S2 hq2 hs2 ?_ ?_ ?_ ?_) (by repeat first | exact True.intro | refine And.intro rfl ?_)
      · intro r hr
        rw [en]
        rw [bz_or, Bool.or_eq_true] at hr
        rcases hr with hr | hr
        · exact hb r hr
        · obtain ⟨p', a1, a2, a3⟩ := (hmo r).mp hr
          exact (hs.2.2 p' a1).1 r a3
      · exact ⟨q, by rw [bz_or, hmq, Bool.or_true]⟩
      · rw [en]; omega
      · exact ⟨q, by rw [en]; exact q1, hli q (by omega) hmq q2⟩
    | succ m' ih' =>
      intro i more S2 hi hq2 hs2 hF2 hmo hli
      have e20 := hF2.fld (by decide) (k := 20) (by decide)
      have hl : nJ i < S2.1 140 20 := by rw [e20, hP, nJ_lt (by omega) (by omega)]; omega
      have hbit : f_217 (more &&& (met ^^^ (-1))) (nJ i) = (bz more i && !(bz met i)) := by rw [has_t _ (by omega), bz_and, bz_not _ (by omega)]
      refine b_244_79 (fun _ _ => nJ_inB (by omega) (by omega)) (fun _ h1 => ?_) (fun _ h1 => ?_) (fun q => absurd hl q)
      · rw [nJ_succ, nJ_ix (by omega)]
        have hq3 := Qq_a hq2.1 (a := 155) (q := i) (v := far + 1) (by decide) (by decide)
        refine ih' (i + 1) more _ (by omega) (hq2.tr hq3) (Qs_q hs2 hq3 rfl) (hF2.tr (Fm_a (by decide))) hmo (fun q hqi a b => ?_)
        by_cases z : q = i
        · subst z; simp [wI_1]
        · rw [wI_1, if_neg (fun y => z y.2)]
          exact hli q (by omega) a b
      · rw [nJ_succ]
        refine ih' (i + 1) more S2 (by omega) hq2 hs2 hF2 hmo (fun q hqi a b => ?_)
        by_cases z : q = i
        · subst z
          rw [hbit, a, b] at h1
          cases h1
        · exact hli q (by omega) a b
  have lp1 : ∀ m' i more, i + m' = nP S1 → (∀ q, bz more q = true ↔ ∃ p, p < i ∧ bz met p = true ∧ bz (S1.2 153 p) q = true) → Go XM (d + 7) 244 0 33 [some (.ref 140), some (.int v1), some (.long met), none, some (.int far), some (.long more), none, some (.int (nJ i))] [] S1 (RP (PLk S)) := by
    intro m'
    induction m' with
    | zero =>
      intro i more hi hmo
      have hi : i = nP S1 := by omega
      have hc : ¬ nJ i < S1.1 140 20 := by rw [hP, nJ_lt (by omega) (by omega)]; omega
      refine b_244_33 (fun q => absurd q hc) (fun q => absurd q hc) (fun _ => ?_)
      rw [hi] at hmo
      exact lp2 (nP S1) 0 more S1 (by omega) hq hs Fm.rf hmo (fun q hq => by omega)
    | succ m' ih' =>
      intro i more hi hmo
      have hl : nJ i < S1.1 140 20 := by rw [hP, nJ_lt (by omega) (by omega)]; omega
      refine b_244_33 (fun _ _ => nJ_inB (by omega) (by omega)) (fun _ => ?_) (fun q => absurd hl q)
      rw [nJ_succ, has_t _ (by omega), rl_n S1 153 (by omega)]
      refine ih' (i + 1) _ (by omega) (fun q => ?_)
      cases hz : bz met i with
      | false =>
        rw [if_neg Bool.false_ne_true, or_0, hmo]
        constructor
        · rintro ⟨p, a, b, c⟩; exact ⟨p, by omega, b, c⟩
        · rintro ⟨p, a, b, c⟩
          by_cases y : p = i
          · subst y; rw [hz] at b; cases b
          · exact ⟨p, by omega, b, c⟩
      | true =>
        rw [if_pos rfl, bz_or, Bool.or_eq_true, hmo]
        constructor
        · rintro (⟨p, a, b, c⟩ | a)
          · exact ⟨p, by omega, b, c⟩
          · exact ⟨i, by omega, hz, a⟩
        · rintro ⟨p, a, b, c⟩
          by_cases y : p = i
          · subst y; exact Or.inr c
          · exact Or.inl ⟨p, by omega, b, c⟩
  exact lp1 (nP S1) 0 0 (by omega) (fun q => ⟨fun h => (by rw [bz_0] at h; cases h), fun ⟨p, a, _⟩ => (by omega)⟩)
theorem sq_244 {d : Nat} {S : ST} (h : Qp S) {p : Nat} (hp : p < nP S) : Cal XM (d + 7) 244 [.ref 140, .int (nJ p)] S (RP (PLk S)) := by
  refine cal_go 6 rfl (b_244_0 ?_)
  obtain ⟨hP, h64⟩ := Ld_P h.ld.1
  refine go_cv mm_244 (h := 140) (As := []) (rest := []) (nl := 3) rfl XM_140 (show cvOK 244 1 279 239 0 3 11 = true by decide +kernel) rfl rfl rfl (sr_239 h) (KP_P (fun v S1 h1 => ?_))
  obtain ⟨rfl, hq, hs⟩ := h1
  have en : nP S1 = nP S := by unfold nP; rw [inp_r2 (hq.2.row (a := 141) (by decide) (by decide))]
  refine b_244_4 (nJ_inB (by omega) (by omega)) ?_
  rw [nJ_ix (by omega)]
  have hq2 := Qq_a hq.1 (a := 155) (q := p) (v := 0) (by decide) (by decide)
  have hs2 := Qs_q hs hq2 rfl
  have en2 : nP (wI S1 155 p 0) = nP S1 := by unfold nP; rw [inp_r2 (hq2.2.row (a := 141) (by decide) (by decide))]
  have hle := rk_le (bz (1 <<< (Int32.toInt64 (nJ p) &&& 63))) (nP (wI S1 155 p 0))
  refine links_go (nP (wI S1 155 p 0) - rk (bz (1 <<< (Int32.toInt64 (nJ p) &&& 63))) (nP (wI S1 155 p 0))) 0 _ _ (hq.tr hq2) hs2 (fun q hq' => ?_) ⟨p, ?_⟩ (by omega) ⟨p, by omega, by simp [wI_1]⟩
  · rw [bz_shl (by omega)] at hq'
    have : q = p := by simpa using hq'
    omega
  · rw [bz_shl (by omega)]
    simp
