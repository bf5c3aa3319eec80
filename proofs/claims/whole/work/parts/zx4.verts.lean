/-! the polygon's line on both sides -/
def pcl (a : Nat) : Prop := a = 1 ∨ pl9 12 a ∨ (25 ≤ a ∧ a < 29) ∨ a = 29
/-- both read the token at p -/
def zTR (n : Nat) (b : Nat → Int32) (p : Nat) (Sc Sm : ST) : Prop := CK Sc n b p ∧ BF Sc 2 b ∧ MK Sm n b p ∧ BF Sm 144 b ∧ Sm.1 140 17 = 0
def zFR (Sc0 Sm0 Sc Sm : ST) : Prop := Fp pcl Sc0 Sc ∧ Fm [145, 146] PSr Sm0 Sm
/-- both stopped at an error -/
def zTE (c : Int32) (Sc Sm : ST) : Prop := ∃ p, Sc.1 1 2 = nJ p ∧ Sm.1 140 17 = c ∧ Sm.1 140 18 = nJ p
def zVR (n : Nat) (b : Nat → Int32) (m p : Nat) (Sc Sm : ST) : Prop := zTR n b p Sc Sm ∧ PR Sc 12 (Sm.1 146) ∧ Sm.1 146 0 = nJ m ∧ m ≤ 12 ∧ Sm.1 146 1 = 0 ∧ Sm.1 146 2 = 0 ∧ RB Sm 146
def zLR (n : Nat) (b : Nat → Int32) (i p : Nat) (Sc Sm : ST) : Prop := zTR n b p Sc Sm ∧ PR Sc 12 (Sm.1 146) ∧ GTh Sm 146 ∧ LC Sc 25 (rL Sm 146) 256 ∧ cnt Sm = i
def zQv (n : Nat) (b : Nat → Int32) (c : Int32) (Sc Sm : ST) : Prop := (c = 0 ∧ ∃ p, zLR n b 0 p Sc Sm) ∨ (¬ c = 0 ∧ zTE c Sc Sm)
noncomputable def zps (e : ST) : Option (Unit × ST) := if (e.1 140 13) = 3 then J_198_155 e else if (e.1 140 13) = 0 then J_198_155 e else ob (F_193 1 e) (fun w => J_198_155 w.2)
theorem zFR.tr {A B C D E F : ST} (h : zFR A B C D) (h1 : Fp pcl C E) (h2 : Fm [145, 146] PSr D F) : zFR A B E F := ⟨h.1.tr h1, h.2.tr h2⟩
theorem pc1 {hs : List Nat} {S S' : ST} (h : Fc hs S S') (h1 : ∀ x ∈ hs, x = 1 ∨ x = 29) : Fp pcl S S' := Fc_p h (fun x hx => by
  rcases h1 x hx with e | e
  · exact Or.inl e
  · exact Or.inr (Or.inr (Or.inr e)))
theorem pc1' {S S' : ST} (h : Fc [1] S S') : Fp pcl S S' := pc1 h (fun x hx => Or.inl (List.mem_singleton.mp hx))
theorem pc29 {S S' : ST} (h : Fc [1, 29] S S') : Fp pcl S S' := pc1 h (fun x hx => by simpa using hx)
theorem pc29' {S S' : ST} (h : Fc [1, 29] S S') : Fp (fun a => a = 1 ∨ a = 29) S S' := Fc_p h (fun x hx => by simpa using hx)
section Vt
variable {Sc0 Sm0 Sc Sm S : ST} {n p m : Nat} {b : Nat → Int32}
theorem J198_155_y (h : ¬ S.1 140 17 = 0) : J_198_155 S = some ((), S) := by unfold J_198_155; rw [if_neg h]; rfl
theorem zps_y (h : ¬ S.1 140 17 = 0) : zps S = some ((), S) := by
  unfold zps
  rw [M193_y h, J198_155_y h, ob_s]
  split
  · rfl
  · split
    · rfl
    · exact J198_155_y h
theorem lm198_y (h : ¬ S.1 140 17 = 0) : Lm_198_18 S = some (.inr S) := by unfold Lm_198_18; rw [if_neg h]
/-- one more round of the reference's loop that ends with an error -/
theorem zm_err {S1 : ST} {M : Nat} (hM : 2 ≤ M) (e : Lm_198_18 S = some (.inl S1)) (h : ¬ S1.1 140 17 = 0) : wh M Lm_198_18 S = some S1 ∧ zps S1 = some ((), S1) := by
  obtain ⟨k, rfl⟩ : ∃ k, M = k + 1 + 1 := ⟨M - 2, by omega⟩
  exact ⟨by rw [wh_in e, wh_out (lm198_y h)], zps_y h⟩
theorem cb_v (h0 : S.1 146 0 = nJ m) (hm : m ≤ 12) (h1 : S.1 146 1 = 0) (h2 : S.1 146 2 = 0) : cb (S.1 146) := ⟨⟨m, h0, hm⟩, ⟨0, h1, by omega⟩, 0, h2, by omega⟩
theorem rN_v {h : Nat} (h0 : S.1 h 0 = nJ m) (hm : m ≤ 12) : rN S h = m := by unfold rN; rw [h0, nJ_ix (by omega)]
theorem f213_i {h : Nat} (hW : RW S h) (hB : RB S h) (h3 : 3 ≤ rN S h) : f_213 S h = true ↔ ge_simp (rN S h) (rP S h) ∧ rk (inp S h) 256 ≤ 64 := by
  constructor
  · intro q
    have g := f213_t hB q
    exact ⟨g.2.2.2.1, g.2.2.2.2⟩
  · rintro ⟨q1, q2⟩
    unfold f_213
    have a : f_182 (S.1 h 0) 3 12 = true := f182_t.mpr (by
      rw [hW.1, nJ_toInt (by have := hW.2; omega)]
      have := hW.2
      exact ⟨by show (3 : Int) ≤ _; omega, by show _ ≤ (12 : Int); omega⟩)
    have b : f_211 S h = true := (simp_t hW hB).mpr q1
    rw [a, b]
    have d : ¬ (64 : Int32) < f_212 S h := fun z => by
      unfold f_212 at z
      have := (nJ_lt (i := 64) (by omega) (by omega)).mp z
      omega
    rw [decide_eq_false d]
    rfl
/-- the end of the polygon -/
theorem vt_end (V : zVR n b m p Sc Sm) (hm : 3 ≤ m) : ∃ b1, F_27 12 Sc = some b1 ∧ ((b1 = false ∧ f_213 Sm 146 = false) ∨ (b1 = true ∧ ∃ b2 S', F_17 25 12 Sc = some (b2, S') ∧ Fc (lc4 25) Sc S' ∧ b2 = f_213 Sm 146 ∧ (b2 = true → GR Sm 146 ∧ LC S' 25 (rL Sm 146) 256))) := by
  obtain ⟨_, hp, h0, h12, h1, h2, hB⟩ := V
  have hcb := cb_v h0 h12 h1 h2
  have hN := rN_v h0 h12
  have hW : RW Sm 146 := ⟨by rw [hN]; exact h0, by omega⟩
  have cW := (PR_N hp hcb).1
  have cB := PR_B hp hcb (show RB (rowS (Sm.1 146)) 0 from hB)
  have cN : clN Sc 12 = m := by
    have := (PR_N hp hcb).2
    rw [h0] at this
    exact ((nJ_eq (by omega) (by have := cW.2; omega)).mp this).symm
  obtain ⟨b1, e1, i1⟩ := F27_eq cW cB
  refine ⟨b1, e1, ?_⟩
  have hs : ge_simp (clN Sc 12) (clP Sc 12) ↔ ge_simp (rN Sm 146) (rP Sm 146) := PR_simp hp hcb
  have hi := f213_i hW hB (by omega)
  cases b1 with
  | false =>
    refine Or.inl ⟨rfl, ?_⟩
    cases hf : f_213 Sm 146 with
    | false => rfl
    | true => exact absurd (i1.mpr ⟨by omega, hs.mpr (hi.mp hf).1⟩) (by decide)
  | true =>
    have hsi := hs.mp (i1.mp rfl).2
    obtain ⟨b2, S', e2, hF, i2, hL⟩ := F17_eq (S := Sc) (h0 := 25) (h1 := 12) (L := rL Sm 146) cW cB (PR_L hp hcb) (by decide) (by decide) (by decide)
    rw [pb_rk hW hB (Nat.le_refl _)] at i2
    refine Or.inr ⟨rfl, b2, S', e2, hF, ?_, fun q => ⟨⟨hW, by omega, hB, hsi, i2.mp q⟩, hL q⟩⟩
    cases hf : f_213 Sm 146 with
    | true => exact i2.mpr (hi.mp hf).2
    | false =>
      cases b2 with
      | false => rfl
      | true => exact absurd (hi.mpr ⟨hsi, i2.mp rfl⟩) (by rw [hf]; decide)
def cbody (a : Int32) (S : ST) : Option ((Int32 × ST) ⊕ ((Int32 × ST) ⊕ (Int32 × ST))) := if (F_41 0 15 S) = 0 then (if a < 12 then (ob (F_40 false S) (fun w1 => if w1.1 = 0 then (ob (F_48 12 a (w1.2.1 29 3) (w1.2.1 29 4) w1.2) (fun w2 => some (.inl (a + 1, w2.2)))) else (some (.inr (.inr (w1.1, w1.2)))))) else some (.inr (.inr (5, S)))) else some (.inr (.inr ((F_41 0 15 S), S)))
noncomputable def mbody (S : ST) : Option (ST ⊕ ST) := ob (F_196 0 15 S) (fun w3 => if (w3.2.1 140 17) = 0 then (if (w3.2.1 146 0) = 12 then (ob (F_193 5 w3.2) (fun w4 => J_198_74 w3.1 w4.2)) else (J_198_74 w3.1 w3.2)) else (J_198_74 w3.1 w3.2))
theorem L36_b (hm : m ≤ 12) (h : m < 3 ∨ (¬ S.1 1 1 = 0 ∧ ¬ S.1 1 1 = 3)) : L_36_2 (nJ m, S) = cbody (nJ m) S := by
  have l12 : ¬ (12 : Int32) < nJ m := fun z => by have := (nJ_lt (i := 12) (by omega) (by omega)).mp z; omega
  have z5 : ¬ (5 : Int32) = 0 := by decide
  unfold L_36_2 cbody
  dsimp only
  rw [if_neg l12]
  have bb : (if F_41 0 15 S = 0 then (if nJ m < 12 then (ob (F_40 false S) (fun w1 => if w1.1 = 0 then (ob (F_48 12 (nJ m) (w1.2.1 29 3) (w1.2.1 29 4) w1.2) (fun w2 => some (.inl (nJ m + 1, w2.2)))) else (some (.inr (.inr (w1.1, w1.2)))))) else (if (5 : Int32) = 0 then (ob (F_48 12 (nJ m) (S.1 29 3) (S.1 29 4) S) (fun w3 => some (.inl (nJ m + 1, w3.2)))) else (some (.inr (.inr (5, S)))))) else (if (F_41 0 15 S) = 0 then (ob (F_48 12 (nJ m) (S.1 29 3) (S.1 29 4) S) (fun w4 => some (.inl (nJ m + 1, w4.2)))) else (some (.inr (.inr ((F_41 0 15 S), S))))) : Option ((Int32 × ST) ⊕ ((Int32 × ST) ⊕ (Int32 × ST)))) = cbody (nJ m) S := by
    unfold cbody
    by_cases c : F_41 0 15 S = 0
    · rw [if_pos c, if_pos c, if_neg z5]
    · rw [if_neg c, if_neg c, if_neg c]
  unfold cbody at bb
  rcases h with h | ⟨h1, h2⟩
  · rw [if_pos (show nJ m < 3 from (nJ_lt (j := 3) (by omega) (by omega)).mpr h)]
    exact bb
  · by_cases h3 : nJ m < 3
    · rw [if_pos h3]
      exact bb
    · rw [if_neg h3, if_neg h1, if_neg h2]
      exact bb
theorem L198_b (h : S.1 140 17 = 0) (h0 : S.1 146 0 = nJ m) (hm : m ≤ 12) (hk : m < 3 ∨ S.1 140 13 = 2) : Lm_198_18 S = mbody S := by
  unfold Lm_198_18 mbody
  rw [if_pos h, h0]
  by_cases c : m < 3
  · rw [if_pos (show nJ m < 3 from (nJ_lt (j := 3) (by omega) (by omega)).mpr c)]
  · rw [if_neg (show ¬ nJ m < 3 from fun z => c ((nJ_lt (j := 3) (by omega) (by omega)).mp z)), if_pos (hk.resolve_left c)]
theorem L198_x (h : S.1 140 17 = 0) (h0 : S.1 146 0 = nJ m) (hm : m ≤ 12) (h3 : 3 ≤ m) (hk : ¬ S.1 140 13 = 2) : Lm_198_18 S = some (.inr S) := by
  unfold Lm_198_18
  rw [if_pos h, h0, if_neg (show ¬ nJ m < 3 from fun z => by have := (nJ_lt (j := 3) (by omega) (by omega)).mp z; omega), if_neg hk]
def zVe (n : Nat) (b : Nat → Int32) (Sc0 Sm0 : ST) (N M m : Nat) (Sc Sm : ST) : Prop := ∃ c Sc' Sm' z e, wh N L_36_2 (nJ m, Sc) = some z ∧ Sum.elim (fun e2 => some (5, e2.2)) (fun o => some o) z = some (c, Sc') ∧ wh M Lm_198_18 Sm = some e ∧ zps e = some ((), Sm') ∧ zFR Sc0 Sm0 Sc' Sm' ∧ zQv n b c Sc' Sm'
theorem er_PS {c : Int32} : Fm [145, 146] PSr S (er S c) := er_F.wk (by decide) (by decide)
theorem zV_A {N M : Nat} (hN : 2 ≤ N) (hM : 2 ≤ M) (V : zVR n b m p Sc Sm) (hF : zFR Sc0 Sm0 Sc Sm) (hm : 3 ≤ m) (hk : tkK b n p = 0 ∨ tkK b n p = 3) : zVe n b Sc0 Sm0 N M m Sc Sm := by
  obtain ⟨b1, e1, alt⟩ := vt_end V hm
  obtain ⟨⟨tc, tb, tm, tbm, t17⟩, hp, h0, h12, h1, h2, hB⟩ := id V
  have k1 : Sc.1 1 1 = tkK b n p := tc.2.2.2.2.1
  have km : Sm.1 140 13 = tkK b n p := tm.2.2.2.2.1
  have k2 : ¬ tkK b n p = 2 := fun z => by rcases hk with q | q <;> rw [z] at q <;> exact absurd q (by decide)
  have hx := L198_x t17 h0 h12 hm (by rw [km]; exact k2)
  obtain ⟨N', rfl⟩ : ∃ k, N = k + 1 := ⟨N - 1, by omega⟩
  obtain ⟨M', rfl⟩ : ∃ k, M = k + 1 := ⟨M - 1, by omega⟩
  have l12 : ¬ (12 : Int32) < nJ m := fun z => by have := (nJ_lt (i := 12) (by omega) (by omega)).mp z; omega
  have l3 : ¬ nJ m < 3 := fun z => by have := (nJ_lt (j := 3) (by omega) (by omega)).mp z; omega
  have post : zps Sm = J_198_155 Sm := by
    unfold zps
    rw [km]
    rcases hk with q | q
    · rw [q, if_neg (by decide), if_pos rfl]
    · rw [q, if_pos rfl]
  have step : L_36_2 (nJ m, Sc) = ob (F_27 12 Sc) (fun w5 => if w5 = true then (ob (F_17 25 12 Sc) (fun w6 => some (.inr (.inr ((if w6.1 = true then 0 else 3), w6.2))))) else (some (.inr (.inr (3, Sc))))) := by
    unfold L_36_2
    dsimp only
    rw [if_neg l12, if_neg l3, k1]
    rcases hk with q | q
    · rw [q, if_pos rfl]
    · rw [q, if_neg (by decide), if_pos rfl]
  rw [e1, ob_s] at step
  have bad : f_213 Sm 146 = false → J_198_155 Sm = some ((), er Sm 3) := fun q => by
    unfold J_198_155
    rw [if_pos t17, show F_213 146 Sm = f_213 Sm 146 from rfl, q, if_neg (by decide), M193_n t17]
    rfl
  rcases alt with ⟨rfl, hf⟩ | ⟨rfl, b2, S', e2, hF2, hb2, hL⟩
  · rw [if_neg (by decide)] at step
    exact ⟨3, Sc, er Sm 3, _, Sm, wh_out step, rfl, wh_out hx, post.trans (bad hf), hF.tr Fp.rf er_PS, Or.inr ⟨by decide, p, tc.2.2.1, er_17, er_18.trans tm.2.2.1⟩⟩
  · rw [if_pos rfl, e2, ob_s] at step
    have hF3 : Fp pcl Sc S' := Fc_p hF2 (fun x hx => by
      have : x = 25 ∨ x = 26 ∨ x = 27 ∨ x = 28 := by simpa [lc4] using hx
      exact Or.inr (Or.inr (Or.inl (by omega))))
    cases hf : f_213 Sm 146 with
    | false =>
      rw [hb2, hf] at step
      exact ⟨3, S', er Sm 3, _, Sm, wh_out step, rfl, wh_out hx, post.trans (bad hf), hF.tr hF3 er_PS, Or.inr ⟨by decide, p, by rw [(hF2 1 (by decide)).1]; exact tc.2.2.1, er_17, er_18.trans tm.2.2.1⟩⟩
    | true =>
      rw [hb2, hf] at step
      have good : J_198_155 Sm = some ((), Sm) := by
        unfold J_198_155
        rw [if_pos t17, show F_213 146 Sm = f_213 Sm 146 from rfl, hf, if_pos rfl]
        rfl
      obtain ⟨gR, lc⟩ := hL (hb2.trans hf)
      refine ⟨0, S', Sm, _, Sm, wh_out step, rfl, wh_out hx, post.trans good, hF.tr hF3 Fm.rf, Or.inl ⟨rfl, p, ⟨CK_r (hF2 1 (by decide)).1 tc, BF_fc tb hF2 (by decide), tm, tbm, t17⟩, ?_, ⟨gR, ⟨0, h1, by omega, fun g hg => absurd hg (by omega)⟩, 0, h2, by omega, fun g hg => absurd hg (by omega)⟩, lc, ?_⟩⟩
      · exact PR_fp hp (Fc_p (P := fun a => 25 ≤ a) hF2 (fun x hx => by
          have : x = 25 ∨ x = 26 ∨ x = 27 ∨ x = 28 := by simpa [lc4] using hx
          show 25 ≤ x
          omega)) (fun a ha => by unfold pl9 at ha; omega)
      · unfold cnt
        rw [h1, h2]
        rfl
theorem vloop (hn : n ≤ 600) (hv : ∀ j, j < n → ¬ b j = -1) : ∀ (t m p : Nat) (Sc Sm : ST) (N M : Nat), m + t = 12 → t + 2 < N → t + 2 < M → zVR n b m p Sc Sm → zFR Sc0 Sm0 Sc Sm → zVe n b Sc0 Sm0 N M m Sc Sm := by
  intro t
  induction t using Nat.strongRecOn with
  | _ t ih =>
    intro m p Sc Sm N M hmt hN hM V hF
    by_cases hA : 3 ≤ m ∧ (tkK b n p = 0 ∨ tkK b n p = 3)
    · exact zV_A (by omega) (by omega) V hF hA.1 hA.2
    · obtain ⟨⟨tc, tb, tm, tbm, t17⟩, hp, h0, h12, h1, h2, hB⟩ := id V
      have k1 : Sc.1 1 1 = tkK b n p := tc.2.2.2.2.1
      have km : Sm.1 140 13 = tkK b n p := tm.2.2.2.2.1
      obtain ⟨N', rfl⟩ : ∃ k, N = k + 1 := ⟨N - 1, by omega⟩
      have hc := L36_b (S := Sc) h12 (by
        by_cases c : m < 3
        · exact Or.inl c
        · exact Or.inr ⟨fun z => hA ⟨by omega, Or.inl (k1 ▸ z)⟩, fun z => hA ⟨by omega, Or.inr (k1 ▸ z)⟩⟩)
      have fin : ∀ {c : Int32} {Sc' S1 : ST}, L_36_2 (nJ m, Sc) = some (.inr (.inr (c, Sc'))) → Lm_198_18 Sm = some (.inl S1) → ¬ c = 0 → S1.1 140 17 = c → zFR Sc0 Sm0 Sc' S1 → zTE c Sc' S1 → zVe n b Sc0 Sm0 (N' + 1) M m Sc Sm := fun a1 a2 a3 a4 a5 a6 => by
        obtain ⟨q1, q2⟩ := zm_err (M := M) (by omega) a2 (by rw [a4]; exact a3)
        exact ⟨_, _, _, _, _, wh_out a1, rfl, q1, q2, a5, Or.inr ⟨a3, a6⟩⟩
      by_cases c0 : ckN b n p 0 15 = 0
      · have kk := ckN_in c0
        have hmb := L198_b t17 h0 h12 (Or.inr (km.trans kk.1))
        by_cases hm12 : m < 12
        · have h12i : ¬ Sm.1 146 0 = 12 := fun z => by rw [h0] at z; have := (nJ_eq (j := 12) (by omega) (by omega)).mp z; omega
          have mb : mbody Sm = J_198_74 (tkV b n p) Sm := by
            unfold mbody
            rw [M196_0 t17 tm c0, ob_s]
            show (if Sm.1 140 17 = 0 then (if Sm.1 146 0 = 12 then _ else J_198_74 (tkV b n p) Sm) else _) = _
            rw [if_pos t17, if_neg h12i]
          have lt12 : nJ m < 12 := (nJ_lt (j := 12) (by omega) (by omega)).mpr hm12
          by_cases c1 : ckN b n (tkS b n p) 0 15 = 0
          · obtain ⟨S1, S', f1, ck1, x1, y1, f2, ck2, e40⟩ := C40_eq tc hn tb c0 c1
            have e40 := e40 false
            rw [if_neg (by decide)] at e40
            have hx : S'.1 29 3 = tkV b n p := by rw [(f2 29 (by decide)).1]; exact x1
            have hy : S'.1 29 4 = tkV b n (tkS b n p) := by rw [(f2 29 (by decide)).1]; exact y1
            have fS : Fc [1, 29] Sc S' := f1.tr (f2.wk (by decide))
            have hp' : PR S' 12 (Sm.1 146) := PR_fp hp (pc29' fS) (fun a ha => by unfold pl9 at ha; omega)
            obtain ⟨S2, e48, f48, pr48⟩ := F48_eq hp' (cb_v h0 h12 h1 h2) h0 hm12 (Nat.le_refl m) (tkV b n p) (tkV b n (tkS b n p))
            obtain ⟨Sm', em, fm, m17, mk', row⟩ := J198_74_eq t17 tm hn tbm hv (j := tkV b n p) h0 hm12 c1
            have stepc : L_36_2 (nJ m, Sc) = some (.inl (nJ (m + 1), S2)) := by
              rw [hc]
              unfold cbody
              rw [C41_eq tc, if_pos c0, if_pos lt12, e40, ob_s]
              show (if (0 : Int32) = 0 then ob (F_48 12 (nJ m) (S'.1 29 3) (S'.1 29 4) S') _ else _) = _
              rw [if_pos rfl, hx, hy, e48, ob_s, nJ_succ]
            have stepm : Lm_198_18 Sm = some (.inl Sm') := by rw [hmb, mb, em]
            have fr : zFR Sc0 Sm0 S2 Sm' := hF.tr ((pc29 fS).tr (f48.wk (fun x hx => Or.inr (Or.inl hx)))) (fm.wk (by decide) (by decide))
            have b2 : BF S2 2 b := fun k hk => by rw [(f48 2 (by unfold pl9; omega)).1, (fS 2 (by decide)).1]; exact tb k hk
            have V' : zVR n b (m + 1) (tkS b n (tkS b n p)) S2 Sm' := by
              refine ⟨⟨CK_r (f48 1 (by unfold pl9; omega)).1 ck2, b2, mk', BF_fm tbm fm (by decide), m17⟩, pr48 _ ?_ ?_ ?_, ?_, by omega, ?_, ?_, ?_⟩
              · intro j hj hz
                rw [row, if_neg (by omega), if_neg (by omega), if_neg (by omega)]
              · rw [row, if_pos rfl]
              · intro i hi
                constructor
                · rw [row, if_neg (by omega), if_neg (by omega)]
                  by_cases c : i = m
                  · rw [if_pos (by omega), if_neg (by omega), if_pos c]
                  · rw [if_neg (by omega), if_pos (by omega)]
                · rw [row, if_neg (by omega)]
                  by_cases c : i = m
                  · rw [if_pos (by omega), if_neg (by omega), if_pos c]
                  · rw [if_neg (by omega), if_neg (by omega), if_pos (by omega)]
              · rw [row, if_pos rfl]
              · rw [row, if_neg (by omega), if_neg (by omega), if_neg (by omega)]; exact h1
              · rw [row, if_neg (by omega), if_neg (by omega), if_neg (by omega)]; exact h2
              · intro j j1 j2
                rw [row, if_neg (by omega)]
                by_cases c : j = 15 + m
                · rw [if_pos c]
                  exact (ckN_in c1).2
                · rw [if_neg c]
                  by_cases d : j = 3 + m
                  · rw [if_pos d]; exact kk.2
                  · rw [if_neg d]; exact hB j j1 j2
            obtain ⟨M', rfl⟩ : ∃ k, M = k + 1 := ⟨M - 1, by omega⟩
            obtain ⟨c, Sc', Sm'', z, e, r1, r2, r3, r4⟩ := ih (t - 1) (by omega) (m + 1) _ S2 Sm' N' M' (by omega) (by omega) (by omega) V' fr
            exact ⟨c, Sc', Sm'', z, e, by rw [wh_in stepc]; exact r1, r2, by rw [wh_in stepm]; exact r3, r4⟩
          · obtain ⟨S', e40, f40, p40⟩ := C40_e2 tc hn tb c0 c1 false
            obtain ⟨Sm', em, fm, m17, m18⟩ := J198_74_e t17 tm hn tbm hv (j := tkV b n p) c1
            refine fin (c := ckN b n (tkS b n p) 0 15) (Sc' := S') (S1 := Sm') ?_ (by rw [hmb, mb, em]) c1 m17 (hF.tr (pc29 f40) (fm.wk (by decide) (by decide))) ⟨_, p40, m17, m18⟩
            rw [hc]
            unfold cbody
            rw [C41_eq tc, if_pos c0, if_pos lt12, e40, ob_s]
            show (if ckN b n (tkS b n p) 0 15 = 0 then _ else some (Sum.inr (Sum.inr (ckN b n (tkS b n p) 0 15, S')))) = _
            rw [if_neg c1]
        · have hm' : m = 12 := by omega
          subst hm'
          refine fin (c := 5) (Sc' := Sc) (S1 := er Sm 5) ?_ ?_ (by decide) er_17 (hF.tr Fp.rf er_PS) ⟨p, tc.2.2.1, er_17, er_18.trans tm.2.2.1⟩
          · rw [hc]
            unfold cbody
            rw [C41_eq tc, if_pos c0, if_neg (show ¬ nJ 12 < 12 by decide)]
          · rw [hmb]
            unfold mbody
            rw [M196_0 t17 tm c0, ob_s]
            show (if Sm.1 140 17 = 0 then (if Sm.1 146 0 = 12 then ob (F_193 5 Sm) (fun w4 => J_198_74 (tkV b n p) w4.2) else _) else _) = _
            rw [if_pos t17, if_pos (show Sm.1 146 0 = 12 from h0), M193_n t17, ob_s]
            exact J198_74_y (by rw [er_17]; decide)
      · have cstep : L_36_2 (nJ m, Sc) = some (.inr (.inr (ckN b n p 0 15, Sc))) := by
          rw [hc]
          unfold cbody
          rw [C41_eq tc, if_neg c0]
        by_cases hb' : m < 3 ∨ Sm.1 140 13 = 2
        · refine fin (c := ckN b n p 0 15) (Sc' := Sc) (S1 := er Sm (ckN b n p 0 15)) cstep ?_ c0 er_17 (hF.tr Fp.rf er_PS) ⟨p, tc.2.2.1, er_17, er_18.trans tm.2.2.1⟩
          rw [L198_b t17 h0 h12 hb']
          unfold mbody
          rw [M196_e t17 tm c0, ob_s]
          show (if (er Sm (ckN b n p 0 15)).1 140 17 = 0 then _ else J_198_74 0 (er Sm (ckN b n p 0 15))) = _
          rw [er_17, if_neg c0]
          exact J198_74_y (by rw [er_17]; exact c0)
        · have hx := L198_x t17 h0 h12 (by omega) (fun z => hb' (Or.inr z))
          obtain ⟨M', rfl⟩ : ∃ k, M = k + 1 := ⟨M - 1, by omega⟩
          have c1' : ckN b n p 0 15 = 1 := by
            unfold ckN
            rw [if_neg (fun z => hb' (Or.inr (km.trans z)))]
          refine ⟨1, Sc, er Sm 1, _, Sm, wh_out (by rw [cstep, c1']), rfl, wh_out hx, ?_, hF.tr Fp.rf er_PS, Or.inr ⟨by decide, p, tc.2.2.1, er_17, er_18.trans tm.2.2.1⟩⟩
          unfold zps
          rw [km, if_neg (fun z => hA ⟨by omega, Or.inr z⟩), if_neg (fun z => hA ⟨by omega, Or.inl z⟩), M193_n t17, ob_s]
          exact J198_155_y (by rw [er_17]; decide)
end Vt
