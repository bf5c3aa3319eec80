/-! the class's plans and the reference's rows: what is copied, put in, taken out -/
/-- only cells of P have moved -/
def Fp (P : Nat → Prop) (S S' : ST) : Prop := ∀ h, ¬ P h → S'.1 h = S.1 h ∧ S'.2 h = S.2 h
theorem Fp.rf {P : Nat → Prop} {S : ST} : Fp P S S := fun _ _ => ⟨rfl, rfl⟩
theorem Fp.tr {P : Nat → Prop} {S S1 S2 : ST} (h : Fp P S S1) (h' : Fp P S1 S2) : Fp P S S2 := fun a ha => ⟨(h' a ha).1.trans (h a ha).1, (h' a ha).2.trans (h a ha).2⟩
theorem Fp.wk {P P' : Nat → Prop} {S S' : ST} (h : Fp P S S') (h1 : ∀ x, P x → P' x) : Fp P' S S' := fun a ha => h a (fun q => ha (h1 _ q))
theorem Fp_I {P : Nat → Prop} {S : ST} {h q : Nat} {v : Int32} (hh : P h) : Fp P S (wI S h q v) := fun a ha => ⟨by funext j; rw [wI_1, if_neg (fun z => ha (by rw [z.1]; exact hh))], rfl⟩
theorem Fp_L {P : Nat → Prop} {S : ST} {h q : Nat} {v : Int64} (hh : P h) : Fp P S (wL S h q v) := fun a ha => ⟨rfl, by funext j; rw [wL_2, if_neg (fun z => ha (by rw [z.1]; exact hh))]⟩
theorem Fp_C {P : Nat → Prop} {S : ST} {h0 h n : Nat} (hh : P h) : Fp P S (wC S h0 h n) := fun a ha => ⟨by funext j; rw [wC_1, if_neg (fun z => ha (by rw [z.1]; exact hh))], rfl⟩
def pl9 (h a : Nat) : Prop := h ≤ a ∧ a < h + 9
/-- the plan at h is the row ρ -/
def PR (S : ST) (h : Nat) (ρ : Nat → Int32) : Prop :=
  (S.1 h 0 = ρ 0 ∧ S.1 h 1 = ρ 1 ∧ S.1 h 2 = ρ 2) ∧
  (∀ i, i < (ρ 0).toNatClampNeg → S.1 (h + 1) i = ρ (3 + i) ∧ S.1 (h + 2) i = ρ (15 + i)) ∧
  (∀ g, g < (ρ 1).toNatClampNeg → S.1 (h + 3) g = ρ (27 + 3 * g) ∧ S.1 (h + 4) g = ρ (28 + 3 * g) ∧ S.1 (h + 5) g = ρ (29 + 3 * g)) ∧
  (∀ t, t < (ρ 2).toNatClampNeg → S.1 (h + 6) t = ρ (45 + 3 * t) ∧ S.1 (h + 7) t = ρ (46 + 3 * t) ∧ S.1 (h + 8) t = ρ (47 + 3 * t))
/-- a row's counts -/
def cb (ρ : Nat → Int32) : Prop := (∃ n, ρ 0 = nJ n ∧ n ≤ 12) ∧ (∃ g, ρ 1 = nJ g ∧ g ≤ 6) ∧ ∃ t, ρ 2 = nJ t ∧ t ≤ 6
theorem PR_fp {P : Nat → Prop} {S S' : ST} {h : Nat} {ρ : Nat → Int32} (hp : PR S h ρ) (hF : Fp P S S') (hd : ∀ a, pl9 h a → ¬ P a) : PR S' h ρ := by
  have e : ∀ j, j < 9 → S'.1 (h + j) = S.1 (h + j) := fun j hj => (hF _ (hd _ ⟨by omega, by omega⟩)).1
  have e0 : S'.1 h = S.1 h := e 0 (by omega)
  unfold PR
  rw [e0, e 1 (by omega), e 2 (by omega), e 3 (by omega), e 4 (by omega), e 5 (by omega), e 6 (by omega), e 7 (by omega), e 8 (by omega)]
  exact hp
theorem PR_row {S : ST} {h : Nat} {ρ ρ' : Nat → Int32} (hp : PR S h ρ) (hc : cb ρ) (he : ∀ j, j < 63 → ρ' j = ρ j) : PR S h ρ' := by
  obtain ⟨⟨n, n1, n2⟩, ⟨g, g1, g2⟩, t, t1, t2⟩ := hc
  obtain ⟨⟨a0, a1, a2⟩, b, c, d⟩ := hp
  have e0 := he 0 (by omega)
  have e1 := he 1 (by omega)
  have e2 := he 2 (by omega)
  rw [n1, nJ_ix (by omega)] at b
  rw [g1, nJ_ix (by omega)] at c
  rw [t1, nJ_ix (by omega)] at d
  refine ⟨⟨by rw [e0]; exact a0, by rw [e1]; exact a1, by rw [e2]; exact a2⟩, fun i hi => ?_, fun i hi => ?_, fun i hi => ?_⟩
  · rw [e0, n1, nJ_ix (by omega)] at hi
    rw [he _ (by omega), he _ (by omega)]
    exact b i hi
  · rw [e1, g1, nJ_ix (by omega)] at hi
    rw [he _ (by omega), he _ (by omega), he _ (by omega)]
    exact c i hi
  · rw [e2, t1, nJ_ix (by omega)] at hi
    rw [he _ (by omega), he _ (by omega), he _ (by omega)]
    exact d i hi
theorem cb_row {ρ ρ' : Nat → Int32} (hc : cb ρ) (he : ∀ j, j < 3 → ρ' j = ρ j) : cb ρ' := by
  unfold cb
  rw [he 0 (by omega), he 1 (by omega), he 2 (by omega)]
  exact hc
section Plan
variable {S : ST} {h : Nat} {ρ : Nat → Int32}
/-- the plan's words by the row's -/
theorem PR_N (hp : PR S h ρ) (hc : cb ρ) : clW S h ∧ ρ 0 = nJ (clN S h) := by
  obtain ⟨⟨n, n1, n2⟩, -, -⟩ := hc
  have e : S.1 h 0 = nJ n := by rw [hp.1.1, n1]
  have e2 : clN S h = n := by unfold clN; rw [e, nJ_ix (by omega)]
  exact ⟨⟨by rw [e2]; exact e, by omega⟩, by rw [e2]; exact n1⟩
theorem PR_P (hp : PR S h ρ) (hc : cb ρ) {i : Nat} (hi : i < clN S h) : S.1 (h + 1) i = ρ (3 + i) ∧ S.1 (h + 2) i = ρ (15 + i) := by
  obtain ⟨w, e⟩ := PR_N hp hc
  refine hp.2.1 i ?_
  rw [e, nJ_ix (by have := w.2; omega)]
  exact hi
theorem PR_G (hp : PR S h ρ) {G : Nat} (e : ρ 1 = nJ G) (hG : G ≤ 6) {g : Nat} (hg : g < G) : S.1 (h + 3) g = ρ (27 + 3 * g) ∧ S.1 (h + 4) g = ρ (28 + 3 * g) ∧ S.1 (h + 5) g = ρ (29 + 3 * g) := hp.2.2.1 g (by rw [e, nJ_ix (by omega)]; exact hg)
theorem PR_T (hp : PR S h ρ) {T : Nat} (e : ρ 2 = nJ T) (hT : T ≤ 6) {t : Nat} (ht : t < T) : S.1 (h + 6) t = ρ (45 + 3 * t) ∧ S.1 (h + 7) t = ρ (46 + 3 * t) ∧ S.1 (h + 8) t = ρ (47 + 3 * t) := hp.2.2.2 t (by rw [e, nJ_ix (by omega)]; exact ht)
/-- the row's polygon is the plan's -/
theorem PR_clP (hp : PR S h ρ) (hc : cb ρ) {i : Nat} (hi : i < clN S h) : clP S h i = rP (rowS ρ) 0 i := by
  obtain ⟨a, b⟩ := PR_P hp hc hi
  unfold clP iP rP rowS
  rw [a, b]
theorem PR_rN (hp : PR S h ρ) (hc : cb ρ) : rN (rowS ρ) 0 = clN S h := by
  unfold rN rowS
  dsimp only
  rw [(PR_N hp hc).2, nJ_ix (by have := (PR_N hp hc).1.2; omega)]
theorem PR_L (hp : PR S h ρ) (hc : cb ρ) : clLz S h = rL (rowS ρ) 0 := by
  unfold clLz rL ge_pl
  rw [PR_rN hp hc]
  exact List.map_congr_left (fun i hi => PR_clP hp hc (List.mem_range.mp hi))
theorem PR_B (hp : PR S h ρ) (hc : cb ρ) (hB : RB (rowS ρ) 0) : clB S h := fun i hi => by
  have h12 := (PR_N hp hc).1.2
  rw [PR_clP hp hc hi]
  exact ⟨RB_x hB (by omega), RB_y hB (by omega)⟩
theorem ge_simp_cg {n : Nat} {f g : Nat → GPt} (e : ∀ i, i < n → f i = g i) : ge_simp n f ↔ ge_simp n g := by
  have key : ∀ {f g : Nat → GPt}, (∀ i, i < n → f i = g i) → ge_simp n f → ge_simp n g := by
    intro f g e w
    refine ⟨fun i hi => ?_, fun i k h1 h2 h3 => ?_⟩
    · rw [← e i hi, ← e _ (ge_aft_lt hi), ← e _ (ge_aft_lt (ge_aft_lt hi))]
      exact w.1 i hi
    · rw [← e i (by omega), ← e _ (ge_aft_lt (show i < n by omega)), ← e k h2, ← e _ (ge_aft_lt h2)]
      exact w.2 i k h1 h2 h3
  exact ⟨key e, key (fun i hi => (e i hi).symm)⟩
theorem PR_simp (hp : PR S h ρ) (hc : cb ρ) : ge_simp (clN S h) (clP S h) ↔ ge_simp (rN (rowS ρ) 0) (rP (rowS ρ) 0) := by
  rw [PR_rN hp hc]
  exact ge_simp_cg (fun i hi => PR_clP hp hc hi)
/-- copyFrom -/
theorem F43_eq (S : ST) {h0 h1 : Nat} (hd : h0 + 9 ≤ h1 ∨ h1 + 9 ≤ h0) : ∃ S', F_43 h0 h1 S = some ((), S') ∧ Fp (pl9 h0) S S' ∧ ∀ ρ, PR S h1 ρ → cb ρ → PR S' h0 ρ := by
  unfold F_43
  simp only [sbn_e]
  refine ⟨_, rfl, ?_, ?_⟩
  · refine Fp.tr (Fp.tr (Fp.tr (Fp.tr (Fp.tr (Fp.tr (Fp.tr (Fp.tr (Fp.tr (Fp.tr (Fp_I ?_) (Fp_I ?_)) (Fp_I ?_)) (Fp_C ?_)) (Fp_C ?_)) (Fp_C ?_)) (Fp_C ?_)) (Fp_C ?_)) (Fp_C ?_)) (Fp_C ?_)) (Fp_C ?_) <;> (unfold pl9; omega)
  · intro ρ hp hc
    obtain ⟨⟨n, n1, n2⟩, ⟨g, g1, g2⟩, t, t1, t2⟩ := hc
    obtain ⟨⟨a0, a1, a2⟩, b, c, d⟩ := hp
    have A : ∀ (a b : Nat), a < 9 → b < 9 → (h1 + a = h0 + b) = False := fun a b ha hb => by simp; omega
    have A0 : ∀ (a : Nat), a < 9 → (h1 + a = h0) = False := fun a ha => by simp; omega
    have A1 : ∀ (b : Nat), b < 9 → (h1 = h0 + b) = False := fun a ha => by simp; omega
    have A2 : (h1 = h0) = False := by simp; omega
    refine ⟨⟨?_, ?_, ?_⟩, fun i hi => ?_, fun i hi => ?_, fun i hi => ?_⟩
    · simp [wC_1, wI_1, A2, a0]
    · simp [wC_1, wI_1, A2, a1]
    · simp [wC_1, wI_1, A2, a2]
    · obtain ⟨b1, b2⟩ := b i hi
      rw [n1, nJ_ix (by omega)] at hi
      have hi' : i < 12 := by omega
      exact ⟨by simp [wC_1, wI_1, A, A0, A1, A2, hi', b1], by simp [wC_1, wI_1, A, A0, A1, A2, hi', b2]⟩
    · obtain ⟨b1, b2, b3⟩ := c i hi
      rw [g1, nJ_ix (by omega)] at hi
      have hi' : i < 6 := by omega
      exact ⟨by simp [wC_1, wI_1, A, A0, A1, A2, hi', b1], by simp [wC_1, wI_1, A, A0, A1, A2, hi', b2], by simp [wC_1, wI_1, A, A0, A1, A2, hi', b3]⟩
    · obtain ⟨b1, b2, b3⟩ := d i hi
      rw [t1, nJ_ix (by omega)] at hi
      have hi' : i < 6 := by omega
      exact ⟨by simp [wC_1, wI_1, A, A0, A1, A2, hi', b1], by simp [wC_1, wI_1, A, A0, A1, A2, hi', b2], by simp [wC_1, wI_1, A, A0, A1, A2, hi', b3]⟩
end Plan
