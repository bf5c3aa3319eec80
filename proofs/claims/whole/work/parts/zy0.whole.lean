/-! the relation of the two states, all of it, and what leaves it as it is -/
/-- the polygon and its points are the same -/
def gSa (M M' : ST) : Prop := Pe (M.1 141) (M'.1 141) ∧ M'.1 147 = M.1 147 ∧ M'.1 148 = M.1 148 ∧ M'.1 149 = M.1 149 ∧ M'.1 140 20 = M.1 140 20
theorem TR_cg {P P' : Nat → GPt} {σ : Int} {N : Nat} {K : Nat → Nat} {R : Nat → Nat → Nat} (hP : ∀ i, i < N → P i = P' i) (h : TR P σ N K R) : TR P' σ N K R := by
  obtain ⟨a, b, c, d⟩ := h
  refine ⟨a, fun t ht => ?_, fun t ht => ⟨lst_cg hP (b t (by omega)).2.2.2 (c t ht).1, (c t ht).2⟩, d⟩
  obtain ⟨b1, b2, b3, b4⟩ := b t ht
  have e : ge_pl (N - t) (fun o => P (R t o)) = ge_pl (N - t) (fun o => P' (R t o)) := by
    unfold ge_pl
    exact List.map_congr_left (fun o ho => hP _ (b4 o (List.mem_range.mp ho)))
  rw [e] at b1 b2
  exact ⟨b1, b2, b3, b4⟩
section Gs
variable {M M' M2 : ST}
theorem gSa_rf : gSa M M := ⟨fun _ _ _ _ => rfl, rfl, rfl, rfl, rfl⟩
theorem gSa_tr (h : gSa M M') (h' : gSa M' M2) : gSa M M2 := ⟨fun j a b c => (h'.1 j a b c).trans (h.1 j a b c), h'.2.1.trans h.2.1, h'.2.2.1.trans h.2.2.1, h'.2.2.2.1.trans h.2.2.2.1, h'.2.2.2.2.trans h.2.2.2.2⟩
theorem gSa_fm {hs fs : List Nat} (hF : Fm hs fs M M') (h0 : 140 ∉ hs) (h1 : 141 ∉ hs) (h7 : 147 ∉ hs) (h8 : 148 ∉ hs) (h9 : 149 ∉ hs) (h20 : 20 ∉ fs) : gSa M M' := ⟨fun j _ _ _ => by rw [hF.row h1 (by decide)], hF.row h7 (by decide), hF.row h8 (by decide), hF.row h9 (by decide), hF.fld h0 h20⟩
theorem gSa_N (h : gSa M M') : rN M' 141 = rN M 141 := Pe_N h.1
theorem gSa_L (h : gSa M M') (g : GR M 141) : rL M' 141 = rL M 141 := Pe_L h.1 g.1
theorem gSa_P (h : gSa M M') {i : Nat} (hi : i < 12) : rP M' 141 i = rP M 141 i := Pe_P h.1 hi
theorem gSa_nP (h : gSa M M') (g : GR M 141) : nP M' = nP M := Pe_rk h.1 g (Nat.le_refl _)
theorem gSa_pt (h : gSa M M') (p : Nat) : pt M' p = pt M p := by unfold pt; rw [h.2.1, h.2.2.1]
theorem gSa_SR (h : gSa M M') (g : GR M 141) {r : Nat → Int64} : SR M' r ↔ SR M r := SR_fm (gSa_nP h g) (gSa_L h g) (gSa_pt h)
theorem gSa_ER (h : gSa M M') (g : GR M 141) {r e : Nat → Int64} (q : ER M r e) : ER M' r e := by
  intro i hi z hz
  rw [gSa_N h] at hi
  have a := g.1.2
  have b := ge_aft_lt hi
  rw [gSa_N h, gSa_nP h g, gSa_P h (by omega), gSa_P h (by omega)]
  simp only [gSa_pt h]
  exact q i hi z hz
theorem gSa_vp (h : gSa M M') {i : Nat} (hi : i < 12) : vp M' i = vp M i := by
  have i1 : Int32.toNatClampNeg (3 + nJ i) = 3 + i := ix_add (a := 3) (by omega)
  have i2 : Int32.toNatClampNeg (15 + nJ i) = 15 + i := ix_add (a := 15) (by omega)
  unfold vp f_240 f_215 ra
  rw [i1, i2, h.1 (3 + i) (by omega) (by omega) (by omega), h.1 (15 + i) (by omega) (by omega) (by omega), h.2.2.2.1]
theorem gSa_CT (h : gSa M M') (g : GR M 141) {S S' : ST} (e : ∀ a, 33 ≤ a → a ≤ 37 → S'.1 a = S.1 a) (q : CT S M) : CT S' M' := by
  obtain ⟨K, R, c, a1, a2, a3, a4⟩ := q
  have es : sgA M' = sgA M := by unfold sgA; rw [gSa_L h g]
  have l := g.1.2
  unfold CT
  rw [gSa_N h, es]
  refine ⟨K, R, c, TR_cg (fun i hi => (gSa_P h (by omega)).symm) a1, a2, fun t ht => ?_, fun v hv => by rw [e 37 (by omega) (by omega)]; exact a4 v hv⟩
  have := a3 t ht
  unfold trC at this ⊢
  rw [e 33 (by omega) (by omega), e 34 (by omega) (by omega), e 35 (by omega) (by omega), e 36 (by omega) (by omega)]
  exact this
end Gs
/-- what is learned: the class's -/
def sgC (S M : ST) : Prop := S.1 30 3 = 0 ∨ (SR M (S.2 31) ∧ ∀ a, nP M ≤ a → a < 64 → S.2 31 a = 0)
def trK (S M : ST) : Prop := S.1 32 8 = 0 ∨ CT S M
def vsK (S M : ST) : Prop := S.1 39 6 = 0 ∨ ∃ r, SR M r ∧ S.1 39 6 = nJ (fwS (rN M 141) (nP M) (fun i => r (vp M i)))
def esK (S M : ST) : Prop := S.1 39 7 = 0 ∨ ∃ r er, SR M r ∧ ER M r er ∧ S.1 39 7 = nJ (fwS (rN M 141) (nP M) er)
def gnK (S M : ST) (a k h : Nat) : Prop := ∃ r g l, SR M r ∧ gN (nP M) r g l ∧ S.1 a k = nJ g ∧ ∀ j x, l[j]? = some x → S.1 h j = nJ x
def wnK (S M : ST) (a k h : Nat) : Prop := ∃ r g l, SR M r ∧ wN (nP M) r g l ∧ S.1 a k = nJ g ∧ ∀ j x, l[j]? = some x → S.1 h j = nJ x
def pkK (S M : ST) : Prop := S.1 39 8 = 0 ∨ gnK S M 39 8 42
def wtK (S M : ST) : Prop := S.1 43 3 = 0 ∨ wnK S M 43 3 45
def hdK (S M : ST) : Prop := S.1 43 4 = 0 ∨ ∃ r k, SR M r ∧ hmx r (aL (nP M)) k ∧ S.1 43 4 = nJ k
def Ca (S M : ST) : Prop := (sgC S M ∧ trK S M) ∧ (vsK S M ∧ esK S M ∧ pkK S M) ∧ wtK S M ∧ hdK S M
/-- the reference's -/
def mGK (M : ST) : Prop := M.1 140 27 = 0 ∨ M.1 140 34 = 0 ∨ gnK M M 140 34 159
def mWK (M : ST) : Prop := M.1 140 27 = 0 ∨ M.1 140 36 = 0 ∨ wnK M M 140 36 160
def Cm (M : ST) : Prop := KR M ∧ mGK M ∧ mWK M
section Cc
variable {S S' M M' : ST}
theorem sgC_mv (h : gSa M M') (g : GR M 141) (e1 : S'.1 30 3 = S.1 30 3) (e2 : S'.2 31 = S.2 31) (q : sgC S M) : sgC S' M' := by
  unfold sgC
  rw [e1, e2, gSa_SR h g, gSa_nP h g]
  exact q
theorem trK_mv (h : gSa M M') (g : GR M 141) (e1 : S'.1 32 8 = S.1 32 8) (e : ∀ a, 33 ≤ a → a ≤ 37 → S'.1 a = S.1 a) (q : trK S M) : trK S' M' := by
  unfold trK
  rw [e1]
  exact q.imp id (gSa_CT h g e)
theorem vsK_mv (h : gSa M M') (g : GR M 141) (e : S'.1 39 6 = S.1 39 6) (q : vsK S M) : vsK S' M' := by
  unfold vsK
  rw [e]
  refine q.imp id (fun w => ?_)
  obtain ⟨r, r1, r2⟩ := w
  have l := g.1.2
  refine ⟨r, (gSa_SR h g).mpr r1, ?_⟩
  rw [r2, gSa_N h, gSa_nP h g]
  exact congrArg nJ (fwS_cg (fun i hi => by rw [gSa_vp h (by omega)]))
theorem esK_mv (h : gSa M M') (g : GR M 141) (e : S'.1 39 7 = S.1 39 7) (q : esK S M) : esK S' M' := by
  unfold esK
  rw [e]
  refine q.imp id (fun w => ?_)
  obtain ⟨r, er, r1, r2, r3⟩ := w
  exact ⟨r, er, (gSa_SR h g).mpr r1, gSa_ER h g r2, by rw [r3, gSa_N h, gSa_nP h g]⟩
theorem gnK_mv (h : gSa M M') (g : GR M 141) {a k b : Nat} (e : S'.1 a k = S.1 a k) (e2 : S'.1 b = S.1 b) (q : gnK S M a k b) : gnK S' M' a k b := by
  obtain ⟨r, x, l, r1, r2, r3, r4⟩ := q
  exact ⟨r, x, l, (gSa_SR h g).mpr r1, by rw [gSa_nP h g]; exact r2, e.trans r3, fun j y hj => by rw [e2]; exact r4 j y hj⟩
theorem wnK_mv (h : gSa M M') (g : GR M 141) {a k b : Nat} (e : S'.1 a k = S.1 a k) (e2 : S'.1 b = S.1 b) (q : wnK S M a k b) : wnK S' M' a k b := by
  obtain ⟨r, x, l, r1, r2, r3, r4⟩ := q
  exact ⟨r, x, l, (gSa_SR h g).mpr r1, by rw [gSa_nP h g]; exact r2, e.trans r3, fun j y hj => by rw [e2]; exact r4 j y hj⟩
theorem pkK_mv (h : gSa M M') (g : GR M 141) (e : S'.1 39 8 = S.1 39 8) (e2 : S'.1 42 = S.1 42) (q : pkK S M) : pkK S' M' := by
  unfold pkK
  rw [e]
  exact q.imp id (gnK_mv h g e e2)
theorem wtK_mv (h : gSa M M') (g : GR M 141) (e : S'.1 43 3 = S.1 43 3) (e2 : S'.1 45 = S.1 45) (q : wtK S M) : wtK S' M' := by
  unfold wtK
  rw [e]
  exact q.imp id (wnK_mv h g e e2)
theorem hdK_mv (h : gSa M M') (g : GR M 141) (e : S'.1 43 4 = S.1 43 4) (q : hdK S M) : hdK S' M' := by
  unfold hdK
  rw [e]
  refine q.imp id (fun w => ?_)
  obtain ⟨r, k, r1, r2, r3⟩ := w
  exact ⟨r, k, (gSa_SR h g).mpr r1, by rw [gSa_nP h g]; exact r2, r3⟩
theorem Ca_mv (h : gSa M M') (g : GR M 141) {P : Nat → Prop} (hF : Fp P S S') (hP : ∀ a, 30 ≤ a → a ≤ 45 → ¬ P a) (q : Ca S M) : Ca S' M' := by
  have e : ∀ a, 30 ≤ a → a ≤ 45 → S'.1 a = S.1 a := fun a h1 h2 => (hF a (hP a h1 h2)).1
  obtain ⟨⟨q1, q2⟩, ⟨q3, q4, q5⟩, q6, q7⟩ := q
  exact ⟨⟨sgC_mv h g (by rw [e 30 (by omega) (by omega)]) (hF 31 (hP 31 (by omega) (by omega))).2 q1, trK_mv h g (by rw [e 32 (by omega) (by omega)]) (fun a h1 h2 => e a (by omega) (by omega)) q2⟩, ⟨vsK_mv h g (by rw [e 39 (by omega) (by omega)]) q3, esK_mv h g (by rw [e 39 (by omega) (by omega)]) q4, pkK_mv h g (by rw [e 39 (by omega) (by omega)]) (e 42 (by omega) (by omega)) q5⟩, wtK_mv h g (by rw [e 43 (by omega) (by omega)]) (e 45 (by omega) (by omega)) q6, hdK_mv h g (by rw [e 43 (by omega) (by omega)]) q7⟩
theorem mGK_mv (h : gSa M M') (g : GR M 141) (e1 : M'.1 140 27 = M.1 140 27) (e2 : M'.1 140 34 = M.1 140 34) (e3 : M'.1 159 = M.1 159) (q : mGK M) : mGK M' := by
  unfold mGK
  rw [e1, e2]
  exact q.imp id (fun q => q.imp id (gnK_mv h g e2 e3))
theorem mWK_mv (h : gSa M M') (g : GR M 141) (e1 : M'.1 140 27 = M.1 140 27) (e2 : M'.1 140 36 = M.1 140 36) (e3 : M'.1 160 = M.1 160) (q : mWK M) : mWK M' := by
  unfold mWK
  rw [e1, e2]
  exact q.imp id (fun q => q.imp id (wnK_mv h g e2 e3))
theorem KR_mv (h : gSa M M') (g : GR M 141) (e1 : M'.1 140 27 = M.1 140 27) (e2 : M'.2 153 = M.2 153) (e3 : M'.2 154 = M.2 154) (q : KR M) : KR M' := by
  unfold KR
  rw [e1, e2, e3]
  exact q.imp id (fun w => ⟨(gSa_SR h g).mpr w.1, gSa_ER h g w.2⟩)
theorem Cm_mv (h : gSa M M') (g : GR M 141) {hs fs : List Nat} (hF : Fm hs fs M M') (h0 : 140 ∉ hs) (h3 : 153 ∉ hs) (h4 : 154 ∉ hs) (h9 : 159 ∉ hs) (h6 : 160 ∉ hs) (k7 : 27 ∉ fs) (k4 : 34 ∉ fs) (k6 : 36 ∉ fs) (q : Cm M) : Cm M' :=
  ⟨KR_mv h g (hF.fld h0 k7) (hF.rowL h3) (hF.rowL h4) q.1, mGK_mv h g (hF.fld h0 k7) (hF.fld h0 k4) (hF.row h9 (by decide)) q.2.1, mWK_mv h g (hF.fld h0 k7) (hF.fld h0 k6) (hF.row h6 (by decide)) q.2.2⟩
end Cc
/-- the buffers, the errors, the polygon, the history, what is kept, what is drawn -/
def oB (Sc Sm : ST) : Prop := ∃ b, Sc.1 1 0 = nJ b ∧ Sm.1 140 7 = nJ b ∧ b ≤ 600 ∧ ∀ i, i < 600 → Sc.1 2 i = Sm.1 144 i ∧ ¬ Sm.1 144 i = -1
def oE (Sc Sm : ST) : Prop := Sc.1 0 16 = Sm.1 140 8 ∧ Sc.1 0 17 = Sm.1 140 9
def oN (Sc Sm : ST) : Prop := Sm.1 140 1 = 0 ∧ (Sc.1 3 0 = 0 ∧ Sc.1 3 1 = 0 ∧ Sc.1 3 2 = 0) ∧ Sc.1 21 0 = 0
def oY (Sc Sm : ST) : Prop := ¬ Sm.1 140 1 = 0 ∧ PR Sc 3 (Sm.1 141) ∧ LC Sc 21 (rL Sm 141) 256
def oP (Sc Sm : ST) : Prop := oN Sc Sm ∨ oY Sc Sm
def oH (Sc Sm : ST) : Prop := ∃ c o, Sm.1 140 4 = nJ c ∧ Sc.1 47 0 = nJ c ∧ c ≤ 8 ∧ Sc.1 47 1 = nJ o ∧ o < 8 ∧ HR Sc o c (fun k => (sto Sm (1 + k)).1 0) ∧ (Sm.1 140 1 = 0 → c = 0)
def oK (Sc Sm : ST) : Prop := ∀ j, j < 2 → (Sm.1 143 j = 0 ∧ Sc.1 (121 + 9 * j) 0 = 0) ∨ (¬ Sm.1 143 j = 0 ∧ PR Sc (121 + 9 * j) ((sto Sm (9 + j)).1 0) ∧ ¬ Sm.1 140 1 = 0)
def oD (Sc Sm : ST) : Prop := (Sc.1 0 15 = 0 ∧ Sm.1 140 40 = 0) ∨ (¬ Sc.1 0 15 = 0 ∧ ¬ Sm.1 140 40 = 0 ∧ ∀ x, x < 16 → Sc.1 139 x = Sm.1 161 x)
def oC (Sc Sm : ST) : Prop := ¬ Sm.1 140 1 = 0 → Ca Sc Sm ∧ Cm Sm
def Ro (Sc Sm : ST) : Prop := oB Sc Sm ∧ oE Sc Sm ∧ oP Sc Sm ∧ oH Sc Sm ∧ oK Sc Sm ∧ oD Sc Sm ∧ oC Sc Sm
section Of
variable {Sc Sm Sc' Sm' : ST} {P : Nat → Prop} {hs fs : List Nat}
theorem oB_f (R : oB Sc Sm) (hC : Fp P Sc Sc') (c1 : ¬ P 1) (c2 : ¬ P 2) (hM : Fm hs fs Sm Sm') (h0 : 140 ∉ hs) (h1 : 144 ∉ hs) (h2 : 7 ∉ fs) : oB Sc' Sm' := by
  unfold oB
  rw [(hC 1 c1).1, (hC 2 c2).1, hM.fld h0 h2, hM.row h1 (by decide)]
  exact R
theorem oE_f (R : oE Sc Sm) (hC : Fp P Sc Sc') (c0 : ¬ P 0) (hM : Fm hs fs Sm Sm') (h0 : 140 ∉ hs) (h1 : 8 ∉ fs) (h2 : 9 ∉ fs) : oE Sc' Sm' := by
  unfold oE
  rw [(hC 0 c0).1, hM.fld h0 h1, hM.fld h0 h2]
  exact R
theorem oP_f (R : oP Sc Sm) (hC : Fp P Sc Sc') (c0 : ∀ a, 3 ≤ a → a < 12 → ¬ P a) (c1 : ∀ a, 21 ≤ a → a < 25 → ¬ P a) (hM : Fm hs fs Sm Sm') (h0 : 140 ∉ hs) (h1 : 141 ∉ hs) (h2 : 1 ∉ fs) : oP Sc' Sm' := by
  have e1 := hM.row h1 (a := 141) (by decide)
  rcases R with ⟨a, b, c⟩ | ⟨a, b, c⟩
  · refine Or.inl ⟨by rw [hM.fld h0 h2]; exact a, ?_, ?_⟩
    · rw [(hC 3 (c0 3 (by omega) (by omega))).1]; exact b
    · rw [(hC 21 (c1 21 (by omega) (by omega))).1]; exact c
  · refine Or.inr ⟨by rw [hM.fld h0 h2]; exact a, ?_, ?_⟩
    · rw [e1]; exact PR_fp b hC (fun x hx => c0 x (by unfold pl9 at hx; omega) (by unfold pl9 at hx; omega))
    · rw [rL_r2 e1]; exact LC_fp c hC (fun x hx => c1 x hx.1 hx.2)
theorem oH_f (R : oH Sc Sm) (hC : Fp P Sc Sc') (c0 : ∀ a, 47 ≤ a → a < 121 → ¬ P a) (hM : Fm hs fs Sm Sm') (h0 : 140 ∉ hs) (h1 : 142 ∉ hs) (h2 : 1 ∉ fs) (h3 : 4 ∉ fs) : oH Sc' Sm' := by
  obtain ⟨c, o, a1, a2, a3, a4, a5, a6, a7⟩ := R
  have e : ∀ k, sto Sm' k = sto Sm k := fun k => sto_fm hM h1 k
  refine ⟨c, o, by rw [hM.fld h0 h3]; exact a1, by rw [(hC 47 (c0 47 (by omega) (by omega))).1]; exact a2, a3, by rw [(hC 47 (c0 47 (by omega) (by omega))).1]; exact a4, a5, ?_, by rw [hM.fld h0 h2]; exact a7⟩
  simp only [e]
  exact HR_fp a6 hC (fun x hx => c0 x (by omega) hx.2)
theorem oK_f (R : oK Sc Sm) (hC : Fp P Sc Sc') (c0 : ∀ a, 121 ≤ a → a < 139 → ¬ P a) (hM : Fm hs fs Sm Sm') (h0 : 140 ∉ hs) (h1 : 142 ∉ hs) (h3 : 143 ∉ hs) (h2 : 1 ∉ fs) : oK Sc' Sm' := by
  intro j hj
  rw [hM.row h3 (by decide), hM.fld h0 h2, sto_fm hM h1, (hC (121 + 9 * j) (c0 _ (by omega) (by omega))).1]
  rcases R j hj with q | ⟨q1, q2, q3⟩
  · exact Or.inl q
  · exact Or.inr ⟨q1, PR_fp q2 hC (fun x hx => c0 x (by unfold pl9 at hx; omega) (by unfold pl9 at hx; omega)), q3⟩
theorem oD_f (R : oD Sc Sm) (hC : Fp P Sc Sc') (c0 : ¬ P 0) (c1 : ¬ P 139) (hM : Fm hs fs Sm Sm') (h0 : 140 ∉ hs) (h1 : 161 ∉ hs) (h2 : 40 ∉ fs) : oD Sc' Sm' := by
  unfold oD
  rw [(hC 0 c0).1, (hC 139 c1).1, hM.fld h0 h2, hM.row h1 (by decide)]
  exact R
/-- what a question may move -/
def clq (a : Nat) : Prop := 30 ≤ a ∧ a ≤ 46
def mlq : List Nat := [150, 151, 152, 153, 154, 155, 156, 157, 158, 159, 160]
def mfq : List Nat := [0, 27, 34, 36, 38]
theorem Ro_q (R : Ro Sc Sm) (hC : Fp clq Sc Sc') (hM : Fm mlq mfq Sm Sm') (hc : ¬ Sm.1 140 1 = 0 → Ca Sc' Sm' ∧ Cm Sm') : Ro Sc' Sm' := by
  obtain ⟨r1, r2, r3, r4, r5, r6, r7⟩ := R
  have n0 : ¬ clq 0 := by unfold clq; omega
  refine ⟨oB_f r1 hC (by unfold clq; omega) (by unfold clq; omega) hM (by decide) (by decide) (by decide), oE_f r2 hC n0 hM (by decide) (by decide) (by decide), oP_f r3 hC (fun a _ _ => by unfold clq; omega) (fun a _ _ => by unfold clq; omega) hM (by decide) (by decide) (by decide), oH_f r4 hC (fun a _ _ => by unfold clq; omega) hM (by decide) (by decide) (by decide) (by decide), oK_f r5 hC (fun a _ _ => by unfold clq; omega) hM (by decide) (by decide) (by decide) (by decide), oD_f r6 hC n0 (by unfold clq; omega) hM (by decide) (by decide) (by decide), fun q => hc (by rw [hM.fld (by decide) (by decide)] at q; exact q)⟩
/-- only the reference's answer of a refusal has moved -/
theorem Ro_t (R : Ro Sc Sm) (M : MOK Sm) (hM : Fm [] [0] Sm Sm') : Ro Sc Sm' := by
  refine Ro_q R Fp.rf (hM.wk (by decide) (by decide)) (fun q => ?_)
  have hL := (M.2.1 q).1
  have g : gSa Sm Sm' := gSa_fm hM (by decide) (by decide) (by decide) (by decide) (by decide) (by decide)
  obtain ⟨c1, c2⟩ := R.2.2.2.2.2.2 q
  exact ⟨Ca_mv (P := fun _ => False) g hL.1 Fp.rf (fun _ _ _ z => z) c1, Cm_mv g hL.1 hM (by decide) (by decide) (by decide) (by decide) (by decide) (by decide) (by decide) (by decide) c2⟩
end Of
