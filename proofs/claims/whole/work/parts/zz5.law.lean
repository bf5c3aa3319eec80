/-! the state between two calls; a call of each side and the look at what was thrown -/
theorem Ro_o {Sc Sm : ST} (R : Ro Sc Sm) (v : Int64) : Ro (wL Sc 162 0 v) Sm := by
  obtain ⟨b, e, p, h, k, d, c⟩ := R
  have e31 : (wL Sc 162 0 v).2 31 = Sc.2 31 := wL_o Sc 0 v (by decide)
  have e21 : (wL Sc 162 0 v).2 21 = Sc.2 21 := wL_o Sc 0 v (by decide)
  refine ⟨b, e, ?_, h, k, d, fun hh => ?_⟩
  · refine p.imp id (fun q => ⟨q.1, q.2.1, ?_⟩)
    obtain ⟨q1, q2, q3⟩ := q.2.2
    exact ⟨q1, q2, fun i hi => by rw [e21]; exact q3 i hi⟩
  · obtain ⟨⟨⟨q1, q2⟩, q3, q4, q5⟩, m⟩ := c hh
    refine ⟨⟨⟨?_, q2⟩, q3, q4, q5⟩, m⟩
    unfold sgC
    rw [e31]
    exact q1
/-- the state between two calls -/
def JW (σ : SG) : Prop := ∃ Sc Sm, HV XC Sc σ ∧ HV XM Sm σ ∧ Ro Sc Sm ∧ MOK Sm
theorem mRi {S T : ST} {c : Nat} {o : OC} (h : RQi S c o T) : MOK T := by
  obtain ⟨_, v, _, _, q⟩ := h
  exact q.1
theorem mRl {S T : ST} {c : Nat} {o : OC} (h : RQl S c o T) : MOK T := by
  obtain ⟨_, v, _, _, q⟩ := h
  exact q.1
theorem mRc {S T : ST} {c : Nat} {o : OC} (h : RC S c o T) : MOK T := by
  obtain ⟨_, v, _, _, q, _⟩ := h
  exact q
theorem mRa {S T : ST} {b c : Nat} {o : OC} (h : Rap S b c o T) : MOK T := by
  obtain ⟨_, v, _, q, _⟩ := h
  exact q
theorem mRd {T : ST} {b c : Nat} {v : Int32} {o : OC} (h : Rld b v c o T) : MOK T := by
  obtain ⟨_, v, _, _, q, _⟩ := h
  exact q
theorem Agr_ld {Sc Sm : ST} (R : Ro Sc Sm) (M : MOK Sm) (v : Int32) : Agr [(ixE, 1), (iaE, 2)] (F_116 v) (F_201 v) Sc Sm := load_eq R M v
section Tw
variable {Sc Sm : ST} {σ : SG} {k1 d1 k2 d2 d3 : Nat} {av1 av2 : List Value} {R2 : RT}
theorem two {α : Type} {ce : List (String × Int32)} {fc : ST → Option ((String ⊕ α) × ST)} {fm : ST → Option (α × ST)} {f : α → Int64} {vM : α → Option Value} (h : Agr ce fc fm Sc Sm) (hC : HV XC Sc σ) (hM : HV XM Sm σ) (wr : ∀ rc rm S1 T, fc Sc = some (rc, S1) → Pub ce rc rm T → Cal XC d1 k1 av1 Sc (RWr f rm (T.1 140 0) S1)) (ms : ∀ r, fm Sm = some r → Cal XM d2 k2 av2 Sm (RV (vM r.1) r.2)) (mq : Cal XM d3 k2 av2 Sm R2) (hR : ∀ c o T, R2 c o T → MOK T) :
    ∃ f1 c1 t σ1 f2 rm σ2 f3 σ3, ev G0 f1 d1 k1 0 (lv_args 0 av1) [] 0 σ = some (c1, .inr (some (.int t)), σ1) ∧ c1 ≤ 1 ∧ ev G0 f2 (max d2 d3) k2 0 (lv_args 0 av2) [] 0 σ1 = some (0, .inr (vM rm), σ2) ∧ ev G0 f3 0 367 0 (lv_args 0 [.ref 140]) [] 0 σ2 = some (0, .inr (some (.int t)), σ3) ∧ (∃ fs, σ1[140]? = some (.inr (11, fs))) ∧ (∃ fs, σ2[140]? = some (.inr (11, fs))) ∧ JW σ3 ∧ (t = 0 → ∃ g, σ3[162]? = some (.inl (2, 1, .inr (.inl g))) ∧ g 0 = f rm) := by
  obtain ⟨rc, rm, Sc', Sm', e1, e2, R', hp⟩ := h
  obtain ⟨f1, c1, o1, S1, σ1, a1, a2, a3, b1, b2, b3⟩ := wr _ _ _ _ e1 hp σ hC
  have hM1 := HV_out XM_C hM a3
  have ms' : Cal XM d2 k2 av2 Sm (RV (vM rm) Sm') := ms _ e2
  obtain ⟨f2, σ2, m1, m2, m3, m4⟩ := mod_2 ms' mq hR hM1
  obtain ⟨f3, σ3, t1, t2, t3⟩ := thr_ev (d := 0) m2
  have hC3 : HV XC S1 σ3 := HV_out XC_M (HV_out XC_M a2 m3) t3
  refine ⟨f1, c1, Sm'.1 140 0, σ1, f2, rm, σ2, f3, σ3, by rw [a1, b2], b1, m1, t1, obj_m hM1, obj_m m2, ?_, fun t0 => ?_⟩
  · rcases b3 with ⟨_, rfl⟩ | ⟨_, rfl⟩
    · exact ⟨_, Sm', hC3, t2, Ro_o R' _, m4⟩
    · exact ⟨_, Sm', hC3, t2, R', m4⟩
  · rcases b3 with ⟨_, rfl⟩ | ⟨n, _⟩
    · refine ⟨_, out_at hC3, ?_⟩
      rw [wL_2, if_pos ⟨rfl, rfl⟩]
    · exact absurd t0 n
theorem two1 {a : Int32} {Sc' Sm' : ST} (hC : HV XC Sc σ) (hM : HV XM Sm σ) (R' : Ro Sc' Sm') (hc : Cal XC d1 k1 av1 Sc (RV (vI a) Sc')) (ms : Cal XM d2 k2 av2 Sm (RV (vI a) Sm')) (mq : Cal XM d3 k2 av2 Sm R2) (hR : ∀ c o T, R2 c o T → MOK T) :
    ∃ f1 σ1 f2 σ2, ev G0 f1 d1 k1 0 (lv_args 0 av1) [] 0 σ = some (0, .inr (some (.int a)), σ1) ∧ ev G0 f2 (max d2 d3) k2 0 (lv_args 0 av2) [] 0 σ1 = some (0, .inr (some (.int a)), σ2) ∧ (∃ fs, σ1[140]? = some (.inr (11, fs))) ∧ JW σ2 := by
  obtain ⟨f1, c1, o1, S1, σ1, a1, a2, a3, rfl, rfl, rfl⟩ := hc σ hC
  have hM1 := HV_out XM_C hM a3
  obtain ⟨f2, σ2, m1, m2, m3, m4⟩ := mod_2 ms mq hR hM1
  exact ⟨f1, σ1, f2, σ2, a1, m1, obj_m hM1, _, Sm', HV_out XC_M a2 m3, m2, R', m4⟩
end Tw
theorem Ro_0 {S : ST} (h : S.1 140 1 = 0 ∧ S.1 140 4 = 0 ∧ S.1 140 7 = 0 ∧ S.1 140 27 = 0 ∧ S.1 140 34 = 0 ∧ S.1 140 36 = 0 ∧ S.1 143 0 = 0 ∧ S.1 143 1 = 0) (h' : S.1 1 0 = 0 ∧ S.1 0 16 = S.1 140 8 ∧ S.1 0 17 = S.1 140 9 ∧ S.1 3 0 = 0 ∧ S.1 3 1 = 0 ∧ S.1 3 2 = 0 ∧ S.1 21 0 = 0 ∧ S.1 47 0 = 0 ∧ S.1 47 1 = 0 ∧ S.1 121 0 = 0 ∧ S.1 130 0 = 0 ∧ S.1 0 15 = 0 ∧ S.1 140 40 = 0) (hb : ∀ i, i < 600 → S.1 2 i = S.1 144 i ∧ ¬ S.1 144 i = -1) : Ro S S := by
  obtain ⟨h1, h4, h7, -, -, -, k0, k1⟩ := h
  obtain ⟨b0, e1, e2, p0, p1, p2, l0, n0, n1, s0, s1, d0, d1⟩ := h'
  refine ⟨⟨0, b0, h7, by omega, hb⟩, ⟨e1, e2⟩, Or.inl ⟨h1, ⟨p0, p1, p2⟩, l0⟩, ⟨0, 0, h4, n0, by omega, n1, by omega, fun k hk => absurd hk (Nat.not_lt_zero _), fun _ => rfl⟩, fun j hj => ?_, Or.inl ⟨d0, d1⟩, fun q => absurd h1 q⟩
  match j, hj with
  | 0, _ => exact Or.inl ⟨k0, s0⟩
  | 1, _ => exact Or.inl ⟨k1, s1⟩
theorem sg0_J : JW sg0 := ⟨S0, S0, sg0_C, sg0_M, Ro_0 S0_0 S0_1 S0_b, S0_M⟩
