/-! the fewest vertices and edges that see all, on both sides -/
theorem un_i {a : Nat} (h : a < 4096) : un (Int32.toInt64 (nJ a)) = a := by
  have z : (Int32.toInt64 (nJ a)).toInt = a := by rw [Int32.toInt_toInt64, nJ_toInt (by omega)]
  unfold un
  have z2 : ((Int32.toInt64 (nJ a)).toBitVec).toInt = a := z
  rw [BitVec.toInt_eq_toNat_cond] at z2
  have := un_lt (Int32.toInt64 (nJ a))
  unfold un at this
  split at z2 <;> omega
theorem bz_i {a : Nat} (h : a < 4096) (i : Nat) : bz (Int32.toInt64 (nJ a)) i = a.testBit i := by rw [← un_bz, un_i h]
theorem cn_t {a : Nat} (h : a < 4096) : F_364 (nJ a) = nJ (pop 12 a) ∧ F_218 (Int32.toInt64 (nJ a)) = nJ (pop 12 a) := ⟨F364_t a h, by rw [← ic_t h]; exact F364_t a h⟩
theorem pop_full : ∀ n s : Nat, s < 2 ^ n → pop n s = n → s + 1 = 2 ^ n
  | 0, s, h, _ => by simp at h; omega
  | n + 1, s, h, e => by
    have e' : s % 2 + pop n (s / 2) = n + 1 := e
    have := pop_le n (s / 2)
    rw [Nat.pow_succ] at h ⊢
    have ih := pop_full n (s / 2) (by omega) (by omega)
    omega
theorem pop_ones : ∀ n : Nat, pop n (2 ^ n - 1) = n
  | 0 => rfl
  | n + 1 => by
    show (2 ^ (n + 1) - 1) % 2 + pop n ((2 ^ (n + 1) - 1) / 2) = n + 1
    have p := Nat.two_pow_pos n
    rw [Nat.pow_succ, show (2 ^ n * 2 - 1) % 2 = 1 by omega, show (2 ^ n * 2 - 1) / 2 = 2 ^ n - 1 by omega, pop_ones n]
    omega
theorem pop_12 {n s : Nat} (hn : n ≤ 12) (h : s < 2 ^ n) : pop 12 s = pop n s := by
  have := pop_sp n (12 - n) s 0 h
  rw [Nat.mul_zero, Nat.add_zero, pop_0, Nat.add_zero, show n + (12 - n) = 12 by omega] at this
  exact this
/-- the two searches over all sets -/
def gCz (ok : Nat → Bool) (s b : Nat) : Nat := if pop 12 s < pop 12 b then (if ok s = true then s else b) else b
def gMz (ok : Nat → Bool) (s b : Nat) : Nat := if b = 0 then (if ok s = true then s else b) else if pop 12 s < pop 12 b then (if ok s = true then s else b) else b
/-- the best of the sets below i -/
def bst (ok : Nat → Bool) (i b : Nat) : Prop := ok b = true ∧ ∀ s, 1 ≤ s → s < i → ok s = true → pop 12 b < pop 12 s ∨ (pop 12 b = pop 12 s ∧ b ≤ s)
theorem few_eq {N : Nat} (hN : 1 ≤ N) (h12 : N ≤ 12) {ok : Nat → Bool} (hf : ok (2 ^ N - 1) = true) : fr (gCz ok) 1 (2 ^ N - 1) (2 ^ N - 1) = fr (gMz ok) 1 (2 ^ N - 1) 0 ∧ 1 ≤ fr (gCz ok) 1 (2 ^ N - 1) (2 ^ N - 1) ∧ fr (gCz ok) 1 (2 ^ N - 1) (2 ^ N - 1) < 2 ^ N := by
  have p1 : 2 ≤ 2 ^ N := by
    have := Nat.pow_le_pow_right (show 0 < 2 by omega) hN
    simpa using this
  have c := fr_inv (f := gCz ok) (J := fun i b => 1 ≤ i ∧ bst ok i b ∧ 1 ≤ b ∧ b < 2 ^ N ∧ (b < i ∨ b = 2 ^ N - 1)) (n := 2 ^ N) (fun i b hi w => by
    obtain ⟨w0, ⟨w1, w2⟩, w3, w4, w5⟩ := w
    refine ⟨by omega, ?_⟩
    unfold gCz
    by_cases q : pop 12 i < pop 12 b
    · rw [if_pos q]
      by_cases z : ok i = true
      · rw [if_pos z]
        refine ⟨⟨z, fun s s1 s2 s3 => ?_⟩, by omega, hi, Or.inl (by omega)⟩
        by_cases e : s = i
        · rw [e]; exact Or.inr ⟨rfl, Nat.le_refl _⟩
        · rcases w2 s s1 (by omega) s3 with y | y
          · exact Or.inl (by omega)
          · exact Or.inl (by omega)
      · rw [if_neg z]
        refine ⟨⟨w1, fun s s1 s2 s3 => ?_⟩, w3, w4, by omega⟩
        by_cases e : s = i
        · rw [e] at s3; exact absurd s3 z
        · exact w2 s s1 (by omega) s3
    · rw [if_neg q]
      refine ⟨⟨w1, fun s s1 s2 s3 => ?_⟩, w3, w4, by omega⟩
      by_cases e : s = i
      · rw [e]
        by_cases y : pop 12 b = pop 12 i
        · refine Or.inr ⟨y, ?_⟩
          rcases w5 with w5 | w5
          · omega
          · have e1 : pop 12 i = pop N i := pop_12 h12 hi
            have e2 : pop 12 b = pop N b := pop_12 h12 w4
            rw [w5, pop_ones] at e2
            have := pop_full N i hi (by rw [w5] at y; omega)
            omega
        · exact Or.inl (by omega)
      · exact w2 s s1 (by omega) s3) (2 ^ N - 1) 1 (2 ^ N - 1) (by omega) ⟨Nat.le_refl _, ⟨hf, fun s s1 s2 => by omega⟩, by omega, by omega, Or.inr rfl⟩
  have m := fr_inv (f := gMz ok) (J := fun i b => (b = 0 ∧ ∀ s, 1 ≤ s → s < i → ¬ ok s = true) ∨ (bst ok i b ∧ 1 ≤ b ∧ b < i)) (n := 2 ^ N) (fun i b hi w => by
    unfold gMz
    rcases w with ⟨rfl, w⟩ | ⟨⟨w1, w2⟩, w3, w4⟩
    · rw [if_pos rfl]
      by_cases z : ok i = true
      · rw [if_pos z]
        by_cases i0 : i = 0
        · exact Or.inl ⟨i0, fun s s1 s2 => by omega⟩
        · refine Or.inr ⟨⟨z, fun s s1 s2 s3 => ?_⟩, by omega, by omega⟩
          by_cases e : s = i
          · rw [e]; exact Or.inr ⟨rfl, Nat.le_refl _⟩
          · exact absurd s3 (w s s1 (by omega))
      · rw [if_neg z]
        refine Or.inl ⟨rfl, fun s s1 s2 => ?_⟩
        by_cases e : s = i
        · rw [e]; exact z
        · exact w s s1 (by omega)
    · rw [if_neg (by omega)]
      by_cases q : pop 12 i < pop 12 b
      · rw [if_pos q]
        by_cases z : ok i = true
        · rw [if_pos z]
          refine Or.inr ⟨⟨z, fun s s1 s2 s3 => ?_⟩, by omega, by omega⟩
          by_cases e : s = i
          · rw [e]; exact Or.inr ⟨rfl, Nat.le_refl _⟩
          · rcases w2 s s1 (by omega) s3 with y | y
            · exact Or.inl (by omega)
            · exact Or.inl (by omega)
        · rw [if_neg z]
          refine Or.inr ⟨⟨w1, fun s s1 s2 s3 => ?_⟩, w3, by omega⟩
          by_cases e : s = i
          · rw [e] at s3; exact absurd s3 z
          · exact w2 s s1 (by omega) s3
      · rw [if_neg q]
        refine Or.inr ⟨⟨w1, fun s s1 s2 s3 => ?_⟩, w3, by omega⟩
        by_cases e : s = i
        · rw [e]
          by_cases y : pop 12 b = pop 12 i
          · exact Or.inr ⟨y, by omega⟩
          · exact Or.inl (by omega)
        · exact w2 s s1 (by omega) s3) (2 ^ N - 1) 1 0 (by omega) (Or.inl ⟨rfl, fun s s1 s2 => by omega⟩)
  obtain ⟨-, ⟨c1, c2⟩, c3, c4, -⟩ := c
  refine ⟨?_, c3, c4⟩
  rcases m with ⟨-, m⟩ | ⟨⟨m1, m2⟩, m3, m4⟩
  · exact absurd hf (m (2 ^ N - 1) (by omega) (by omega))
  · have a := c2 _ m3 m4 m1
    have b := m2 _ c3 c4 c1
    omega

def vu (N : Nat) (rv : Nat → Int64) (s : Nat) : Int64 := uni N rv (Int32.toInt64 (nJ s))
noncomputable def okf (N n : Nat) (rv : Nat → Int64) (s : Nat) : Bool := decide (vu N rv s = aL n)
theorem lt_4096 {N s : Nat} (h12 : N ≤ 12) (h : s < 2 ^ N) : s < 4096 := by
  have := Nat.pow_le_pow_right (show 0 < 2 by omega) h12
  omega
theorem vu_12 {N s : Nat} (h12 : N ≤ 12) (h : s < 2 ^ N) {r rv : Nat → Int64} (e : ∀ i, i < N → r i = rv i) : uni 12 r (Int32.toInt64 (nJ s)) = vu N rv s := by
  apply bz_ext
  intro q hq
  unfold vu
  rw [Bool.eq_iff_iff, uni_bz, uni_bz]
  have hb : ∀ i, bz (Int32.toInt64 (nJ s)) i = true → i < N := fun i hi => by
    rw [bz_i (lt_4096 h12 h)] at hi
    apply Classical.byContradiction
    intro hn
    have : s < 2 ^ i := Nat.lt_of_lt_of_le h (Nat.pow_le_pow_right (by omega) (by omega))
    rw [Nat.testBit_lt_two_pow this] at hi
    cases hi
  constructor
  · rintro ⟨p, p1, p2, p3⟩
    have := hb p p2
    exact ⟨p, this, p2, by rw [← e p this]; exact p3⟩
  · rintro ⟨p, p1, p2, p3⟩
    exact ⟨p, by omega, p2, by rw [e p p1]; exact p3⟩
/-- the places of the vertices among the points -/
def vp (M : ST) (i : Nat) : Nat := (f_240 M (nJ i)).toNatClampNeg
theorem vp_ok {M : ST} (hL : Ld M) {i : Nat} (hi : i < rN M 141) : vp M i < nP M ∧ f_240 M (nJ i) = nJ (vp M i) ∧ pt M (vp M i) = rP M 141 i := by
  have h12 := hL.1.1.2
  have h64 := (Ld_P hL).2
  have c := vx_cl hL.1 hi
  have e : f_240 M (nJ i) = f_215 M (M.1 141 (3 + i)) (M.1 141 (15 + i)) := by
    unfold f_240
    rw [ra_3 M 141 (by omega), ra_15 M 141 (by omega)]
  obtain ⟨p, p1, p2, p3⟩ := at_pt hL (x := M.1 141 (3 + i)) (y := M.1 141 (15 + i)) c
  rw [← e] at p2
  unfold vp
  rw [p2, nJ_ix (by omega)]
  exact ⟨p1, rfl, p3⟩
section Cov
variable {M : ST} {r : Nat → Int64}
theorem cov_v (hL : Ld M) (h : SR M r) {q : Nat} (hq : q < nP M) : ∃ i, i < rN M 141 ∧ bz (r (vp M i)) q = true := by
  have h64 := (Ld_P hL).2
  obtain ⟨g1, g2, -⟩ := GR_simple hL.1
  obtain ⟨TS, col, g, -⟩ := ge_cover g2 g1
  obtain ⟨T, hT, tq⟩ := g.2.2.2.1 1 (by decide) (pt M q) (pt_cl hL hq)
  have tq := ge_tc_1 tq
  obtain ⟨n1, -, -, nF⟩ := g.1 T hT
  obtain ⟨i, i1, i2⟩ := ge_pl_mem.mp n1
  refine ⟨i, i1, (h _ (vp_ok hL i1).1 q (by omega)).mpr ⟨hq, ?_⟩⟩
  rw [(vp_ok hL i1).2.2, i2]
  exact ge_sees_T g hT (ge_tc_v nF).1 tq
theorem full_bit {N i : Nat} (h12 : N ≤ 12) (hi : i < N) : bz (Int32.toInt64 (nJ (2 ^ N - 1))) i = true := by
  rw [bz_i (lt_4096 h12 (by have := Nat.two_pow_pos N; omega)), Nat.testBit_two_pow_sub_one]
  exact decide_eq_true hi
theorem okv_full (hL : Ld M) (h : SR M r) : okf (rN M 141) (nP M) (fun i => r (vp M i)) (2 ^ rN M 141 - 1) = true := by
  have h64 := (Ld_P hL).2
  have h12 := hL.1.1.2
  unfold okf
  apply decide_eq_true
  apply bz_ext
  intro q hq
  rw [aL_bz h64 hq, Bool.eq_iff_iff, decide_eq_true_eq]
  unfold vu
  rw [uni_bz]
  constructor
  · rintro ⟨i, i1, -, i3⟩
    exact ((h _ (vp_ok hL i1).1 q hq).mp i3).1
  · intro z
    obtain ⟨i, i1, i2⟩ := cov_v hL h z
    exact ⟨i, i1, full_bit h12 i1, i2⟩
theorem oke_full (hL : Ld M) (h : SR M r) {er : Nat → Int64} (he : ER M r er) : okf (rN M 141) (nP M) er (2 ^ rN M 141 - 1) = true := by
  have h64 := (Ld_P hL).2
  have h12 := hL.1.1.2
  unfold okf
  apply decide_eq_true
  apply bz_ext
  intro q hq
  rw [aL_bz h64 hq, Bool.eq_iff_iff, decide_eq_true_eq]
  unfold vu
  rw [uni_bz]
  constructor
  · rintro ⟨i, i1, -, i3⟩
    obtain ⟨p, p1, p2, p3⟩ := (he i i1 q hq).mp i3
    exact ((h p p1 q hq).mp p3).1
  · intro z
    obtain ⟨i, i1, i2⟩ := cov_v hL h z
    refine ⟨i, i1, full_bit h12 i1, (he i i1 q hq).mpr ⟨vp M i, (vp_ok hL i1).1, ?_, i2⟩⟩
    rw [(vp_ok hL i1).2.2]
    exact ge_on_l _ _
end Cov
/-- the best set -/
noncomputable def fwS (N n : Nat) (rv : Nat → Int64) : Nat := fr (gCz (okf N n rv)) 1 (2 ^ N - 1) (2 ^ N - 1)
theorem okf_cg {N n : Nat} {r r' : Nat → Int64} (h : ∀ i, i < N → r i = r' i) : okf N n r = okf N n r' := by
  funext s
  unfold okf vu
  rw [uni_cong h]
theorem fwS_cg {N n : Nat} {r r' : Nat → Int64} (h : ∀ i, i < N → r i = r' i) : fwS N n r = fwS N n r' := by unfold fwS; rw [okf_cg h]
section Cf
variable {S M : ST}
theorem F4_eq (v : Int32) (S : ST) : F_4 v S = some (uni 12 (S.2 40) (Int32.toInt64 v)) := by
  unfold F_4
  have := wh_fr (f := L_4_5 v S) (fun i (a : Int64) => (a, nJ i)) (uF (S.2 40) (Int32.toInt64 v)) 12 (fun a => (a, nJ 12)) (fun i a hi => by
    unfold L_4_5
    dsimp only
    rw [if_pos (show nJ i < 12 from (nJ_lt (j := 12) (by omega) (by omega)).mpr hi), has177 _ (by omega), nJ_succ]
    unfold uF
    by_cases z : bz (Int32.toInt64 v) i = true
    · rw [if_pos z, if_pos z, ck_t (ibd_n (by omega) (by omega)), nJ_ix (by omega)]
    · rw [if_neg z, if_neg z]) (fun a => by
    unfold L_4_5
    dsimp only
    rw [if_neg (show ¬ nJ 12 < 12 by decide)]) (FU_lt (by omega)) 0
  rw [show ((0 : Int64), (0 : Int32)) = (0, nJ 0) from rfl, this, ob_s]
  rfl
theorem F3_eq (h : CX S M) {rv : Nat → Int64} (hv : ∀ i, i < rN M 141 → S.2 40 i = rv i) : F_3 S = some (nJ (fwS (rN M 141) (nP M) rv)) := by
  have h12 := h.1.1.2
  have eN := h.1.2.2.2.1
  rw [eN] at h12
  have h3 := h.2.2.1.1.2.1
  have e0 : (if 12 < S.1 3 0 then 12 else S.1 3 0 : Int32) = nJ (rN M 141) := by
    rw [h.1.1.1, eN, if_neg (show ¬ (12 : Int32) < nJ (rN M 141) from fun z => by have := (nJ_lt (i := 12) (by omega) (by omega)).mp z; omega)]
  have p4 : 2 ^ rN M 141 ≤ 4096 := by
    have := Nat.pow_le_pow_right (show 0 < 2 by omega) h12
    exact this
  have p1 := Nat.two_pow_pos (rN M 141)
  unfold F_3
  rw [e0, shl_N _ (by omega), show nJ (2 ^ rN M 141) - 1 = nJ (2 ^ rN M 141 - 1) from nJ_sub (j := 1) (by omega)]
  have := wh_for (f := L_3_21 (nJ (2 ^ rN M 141)) S) (e := fun i (b : Nat) => (nJ b, nJ i)) (g := gCz (okf (rN M 141) (nP M) rv)) (N := 2 ^ rN M 141) (J := fun i b => b < 2 ^ rN M 141) (b := fun b => (nJ b, nJ (2 ^ rN M 141))) (fun i b hi hb => by
    unfold L_3_21
    dsimp only
    rw [if_pos ((nJ_lt (by omega) (by omega)).mpr hi), (cn_t (a := i) (by omega)).1, (cn_t (a := b) (by omega)).1, nJ_succ]
    have pi := pop_le 12 i
    have pb := pop_le 12 b
    unfold gCz
    by_cases z : pop 12 i < pop 12 b
    · rw [if_pos ((nJ_lt (by omega) (by omega)).mpr z), if_pos z, F4_eq, ob_s, vu_12 h12 hi hv, F21_eq h]
      by_cases y : vu (rN M 141) rv i = aL (nP M)
      · rw [if_pos y, if_pos (show okf (rN M 141) (nP M) rv i = true from decide_eq_true y)]
        exact ⟨rfl, hi⟩
      · rw [if_neg y, if_neg (show ¬ okf (rN M 141) (nP M) rv i = true from fun yy => y (of_decide_eq_true yy))]
        exact ⟨rfl, hb⟩
    · rw [if_neg (fun y => z ((nJ_lt (by omega) (by omega)).mp y)), if_neg z]
      exact ⟨rfl, hb⟩) (fun b hb => by
    unfold L_3_21
    dsimp only
    rw [if_neg (fun z => by have := (nJ_lt (by omega) (by omega)).mp z; omega)]) (2 ^ rN M 141 - 1) 1 FU (2 ^ rN M 141 - 1) (by omega) (FU_lt (by omega)) (by omega)
  rw [show ((nJ (2 ^ rN M 141 - 1) : Int32), (1 : Int32)) = (nJ (2 ^ rN M 141 - 1), nJ 1) from rfl, this.1, ob_s]
  rfl
/-- the vertices' views -/
theorem F1_eq (h : CSz S M) (h0 : S.1 39 6 = 0) : ∃ S', F_1 S = some (nJ (fwS (rN M 141) (nP M) (fun i => S.2 31 (vp M i))), S') ∧ Fp (fun a => a = 39 ∨ a = 40) S S' ∧ (∀ k, k ≠ 6 → S'.1 39 k = S.1 39 k) ∧ S'.1 39 6 = nJ (fwS (rN M 141) (nP M) (fun i => S.2 31 (vp M i))) := by
  have hL := h.1.2.2.1
  have h12 := hL.1.1.2
  have h64 := (Ld_P hL).2
  have eN := h.1.1.2.2.2.1
  unfold F_1
  rw [if_pos h0]
  have key : ∃ r, wh FU L_1_9 (nJ 0, S) = some r ∧ ∃ z S', r = (z, S') ∧ Fp (fun a => a = 40) S S' ∧ ∀ i, i < rN M 141 → S'.2 40 i = S.2 31 (vp M i) := by
    refine wh_inv (I := fun m x => ∃ i S', i + m = rN M 141 ∧ x = (nJ i, S') ∧ Fp (fun a => a = 40) S S' ∧ ∀ j, j < i → S'.2 40 j = S.2 31 (vp M j)) ?_ FU (rN M 141) _ (FU_lt (by omega)) ⟨0, S, by omega, rfl, Fp.rf, fun j hj => by omega⟩
    rintro m x ⟨i, S1, hi, rfl, f1, w⟩
    have h1 := CS_fp h f1 (fun a ha => by unfold cxC at ha; omega)
    have e31 : S1.2 31 = S.2 31 := (f1 31 (by decide)).2
    have c1 := h1.1.1
    unfold L_1_9
    dsimp only
    rw [c1.1.1, c1.2.2.2.1]
    by_cases c : i < rN M 141
    · have ei := c1.2.2.2.2 i c
      have v := vp_ok hL c
      rw [if_pos ((nJ_lt (by omega) (by omega)).mpr c), if_pos (show nJ i < 12 from (nJ_lt (j := 12) (by omega) (by omega)).mpr (by omega)), F44_eq c1.1 (by rw [c1.2.2.2.1]; exact c), ob_s, F45_eq c1.1 (by rw [c1.2.2.2.1]; exact c), ob_s, F18_cx h1.1, ob_s]
      have ea : f_215 M (S1.1 (3 + 1) i) (S1.1 (3 + 2) i) = nJ (vp M i) := by
        rw [← v.2.1]
        unfold f_240
        rw [ra_3 M 141 (by omega), ra_15 M 141 (by omega)]
        have e1 : (S1.1 (3 + 1) i).toInt = (M.1 141 (3 + i)).toInt := congrArg Prod.fst ei
        have e2 : (S1.1 (3 + 2) i).toInt = (M.1 141 (15 + i)).toInt := congrArg Prod.snd ei
        rw [Int32.toInt_inj.mp e1, Int32.toInt_inj.mp e2]
      rw [ea, F73_eq S1 (by omega), ob_s, ck_t (ibd_n (by omega) (by omega)), sbn_e, nJ_ix (by omega), nJ_succ, e31]
      refine Or.inl ⟨_, m - 1, by omega, rfl, i + 1, _, by omega, rfl, f1.tr (Fp_L rfl), fun j hj => ?_⟩
      rw [wL_2]
      by_cases d : j = i
      · rw [if_pos ⟨rfl, d⟩, d]
      · rw [if_neg (fun y => d y.2)]; exact w j (by omega)
    · rw [if_neg (fun z => c ((nJ_lt (by omega) (by omega)).mp z))]
      exact Or.inr ⟨_, rfl, _, S1, rfl, f1, fun j hj => w j (by omega)⟩
  obtain ⟨r, e, z, S1, rfl, f1, w⟩ := key
  have h1 := CS_fp h f1 (fun a ha => by unfold cxC at ha; omega)
  rw [show ((0 : Int32), S) = (nJ 0, S) from rfl, e, ob_s]
  dsimp only
  rw [F3_eq h1.1 w, ob_s]
  refine ⟨_, rfl, (f1.wk (fun x hx => Or.inr hx)).tr (Fp_I (Or.inl rfl)), fun k hk => ?_, by rw [wI_1, if_pos ⟨rfl, rfl⟩]⟩
  rw [wI_1, if_neg (fun y => hk y.2), (f1 39 (by decide)).1]
/-- the edges' views -/
theorem F2_eq (h : CSz S M) (h0 : S.1 39 7 = 0) {er : Nat → Int64} (he : ER M (S.2 31) er) : ∃ S', F_2 S = some (nJ (fwS (rN M 141) (nP M) er), S') ∧ Fp (fun a => a = 39 ∨ a = 40) S S' ∧ (∀ k, k ≠ 7 → S'.1 39 k = S.1 39 k) ∧ S'.1 39 7 = nJ (fwS (rN M 141) (nP M) er) := by
  have hL := h.1.2.2.1
  have h12 := hL.1.1.2
  have h64 := (Ld_P hL).2
  unfold F_2
  rw [if_pos h0]
  have key : ∃ r, wh FU L_2_9 (nJ 0, S) = some r ∧ ∃ z S', r = (z, S') ∧ Fp (fun a => a = 40) S S' ∧ ∀ i, i < rN M 141 → S'.2 40 i = er i := by
    refine wh_inv (I := fun m x => ∃ i S', i + m = rN M 141 ∧ x = (nJ i, S') ∧ Fp (fun a => a = 40) S S' ∧ ∀ j, j < i → S'.2 40 j = er j) ?_ FU (rN M 141) _ (FU_lt (by omega)) ⟨0, S, by omega, rfl, Fp.rf, fun j hj => by omega⟩
    rintro m x ⟨i, S1, hi, rfl, f1, w⟩
    have h1 := CS_fp h f1 (fun a ha => by unfold cxC at ha; omega)
    have e31 : S1.2 31 = S.2 31 := (f1 31 (by decide)).2
    have c1 := h1.1.1
    unfold L_2_9
    dsimp only
    rw [c1.1.1, c1.2.2.2.1]
    by_cases c : i < rN M 141
    · obtain ⟨v, ev, bv⟩ := F75_eq h1 c
      rw [if_pos ((nJ_lt (by omega) (by omega)).mpr c), if_pos (show nJ i < 12 from (nJ_lt (j := 12) (by omega) (by omega)).mpr (by omega)), ev, ob_s, ck_t (ibd_n (by omega) (by omega)), sbn_e, nJ_ix (by omega), nJ_succ]
      refine Or.inl ⟨_, m - 1, by omega, rfl, i + 1, _, by omega, rfl, f1.tr (Fp_L rfl), fun j hj => ?_⟩
      rw [wL_2]
      by_cases d : j = i
      · rw [if_pos ⟨rfl, d⟩, d]
        apply bz_ext
        intro q hq
        rw [Bool.eq_iff_iff, bv q hq, he i c q hq, e31]
      · rw [if_neg (fun y => d y.2)]; exact w j (by omega)
    · rw [if_neg (fun z => c ((nJ_lt (by omega) (by omega)).mp z))]
      exact Or.inr ⟨_, rfl, _, S1, rfl, f1, fun j hj => w j (by omega)⟩
  obtain ⟨r, e, z, S1, rfl, f1, w⟩ := key
  have h1 := CS_fp h f1 (fun a ha => by unfold cxC at ha; omega)
  rw [show ((0 : Int32), S) = (nJ 0, S) from rfl, e, ob_s]
  dsimp only
  rw [F3_eq h1.1 w, ob_s]
  refine ⟨_, rfl, (f1.wk (fun x hx => Or.inr hx)).tr (Fp_I (Or.inl rfl)), fun k hk => ?_, by rw [wI_1, if_pos ⟨rfl, rfl⟩]⟩
  rw [wI_1, if_neg (fun y => hk y.2), (f1 39 (by decide)).1]
end Cf
section Mf
variable {S : ST}
theorem M259_46 (h : MS S) (ed : Bool) (b : Int32) {s : Nat} (hs : s < 2 ^ rN S 141) : wh FU (Lm_259_46 ed b (nJ s) S) (0, 0) = some (vu (rN S 141) (fun i => if ed = true then S.2 154 i else S.2 153 (vp S i)) s, nJ (rN S 141)) := by
  have h12 := h.1.1.1.2
  have h64 := (Ld_P h.1).2
  have eN := h.1.1.1.1
  have := wh_fr (f := Lm_259_46 ed b (nJ s) S) (fun i (a : Int64) => (a, nJ i)) (uF (fun i => if ed = true then S.2 154 i else S.2 153 (vp S i)) (Int32.toInt64 (nJ s))) (rN S 141) (fun a => (a, nJ (rN S 141))) (fun i a hi => by
    unfold Lm_259_46
    dsimp only
    rw [eN, if_pos ((nJ_lt (by omega) (by omega)).mpr hi), show F_217 (Int32.toInt64 (nJ s)) (nJ i) = bz (Int32.toInt64 (nJ s)) i from has_t _ (by omega), nJ_succ]
    unfold uF
    by_cases z : bz (Int32.toInt64 (nJ s)) i = true
    · rw [if_pos z, if_pos z]
      cases ed with
      | true =>
        rw [if_pos rfl, ck_t (ibd_n (by omega) (by omega)), nJ_ix (by omega)]
        dsimp only
        rw [if_pos rfl]
      | false =>
        have v := vp_ok h.1 hi
        have hI : RI S 141 (nJ i) := ⟨h.1.1.1, i, rfl, hi⟩
        rw [if_neg (by decide)]
        unfold F_240
        rw [ck_P hI, ob_s, v.2.1, ck_t (ibd_n (by omega) (by omega)), nJ_ix (by omega)]
        dsimp only
        rw [if_neg (by decide)]
    · rw [if_neg z, if_neg z, or_0]) (fun a => by
    unfold Lm_259_46
    dsimp only
    rw [eN, if_neg (fun z => by have := (nJ_lt (by omega) (by omega)).mp z; omega)]) (FU_lt (by omega)) 0
  rw [show ((0 : Int64), (0 : Int32)) = (0, nJ 0) from rfl, this]
  rfl
theorem M259_8 (h : MS S) (ed : Bool) : ∃ z, wh FU (Lm_259_8 ed S) (0, 1) = some (nJ (fwS (rN S 141) (nP S) (fun i => if ed = true then S.2 154 i else S.2 153 (vp S i))), z) := by
  have hL := h.1
  have h12 := h.1.1.1.2
  have h3 := h.1.1.2.1
  have eN := h.1.1.1.1
  obtain ⟨rv, hrv⟩ : ∃ rv : Nat → Int64, rv = fun i => if ed = true then S.2 154 i else S.2 153 (vp S i) := ⟨_, rfl⟩
  have p4 : 2 ^ rN S 141 ≤ 4096 := by
    have := Nat.pow_le_pow_right (show 0 < 2 by omega) h12
    exact this
  have p1 := Nat.two_pow_pos (rN S 141)
  have full : okf (rN S 141) (nP S) rv (2 ^ rN S 141 - 1) = true := by
    rw [hrv]
    cases ed with
    | true => exact oke_full hL h.2.1 (er := S.2 154) h.2.2
    | false => exact okv_full hL h.2.1
  have fe := (few_eq (N := rN S 141) (by omega) h12 full).1
  have := wh_for (f := Lm_259_8 ed S) (e := fun i (b : Nat) => (nJ b, nJ i)) (g := gMz (okf (rN S 141) (nP S) rv)) (N := 2 ^ rN S 141) (J := fun i b => b < 2 ^ rN S 141) (b := fun b => (nJ b, nJ (2 ^ rN S 141))) (fun i b hi hb => by
    unfold Lm_259_8
    dsimp only
    rw [eN, shl_N _ (by omega), if_pos ((nJ_lt (by omega) (by omega)).mpr hi), (cn_t (a := i) (by omega)).2, (cn_t (a := b) (by omega)).2, M259_46 h ed _ hi, ← hrv, ob_s, nJ_succ, F216_eq hL]
    have pi := pop_le 12 i
    have pb := pop_le 12 b
    unfold gMz
    have inner : (some (.inl ((if vu (rN S 141) rv i = aL (nP S) then nJ i else nJ b), nJ (i + 1))) : Option ((Int32 × Int32) ⊕ (Int32 × Int32))) = some (.inl (nJ (if okf (rN S 141) (nP S) rv i = true then i else b), nJ (i + 1))) ∧ (if okf (rN S 141) (nP S) rv i = true then i else b) < 2 ^ rN S 141 := by
      by_cases y : vu (rN S 141) rv i = aL (nP S)
      · rw [if_pos y, if_pos (show okf (rN S 141) (nP S) rv i = true from decide_eq_true y)]
        exact ⟨rfl, hi⟩
      · rw [if_neg y, if_neg (show ¬ okf (rN S 141) (nP S) rv i = true from fun yy => y (of_decide_eq_true yy))]
        exact ⟨rfl, hb⟩
    by_cases c0 : b = 0
    · rw [if_pos (show nJ b = 0 by rw [c0]; rfl), if_pos c0]
      exact inner
    · rw [if_neg (show ¬ nJ b = 0 from fun z => c0 ((nJ_eq (j := 0) (by omega) (by omega)).mp z)), if_neg c0]
      by_cases z : pop 12 i < pop 12 b
      · rw [if_pos ((nJ_lt (by omega) (by omega)).mpr z), if_pos z]
        exact inner
      · rw [if_neg (fun y => z ((nJ_lt (by omega) (by omega)).mp y)), if_neg z]
        exact ⟨rfl, hb⟩) (fun b hb => by
    unfold Lm_259_8
    dsimp only
    rw [eN, shl_N _ (by omega), if_neg (fun z => by have := (nJ_lt (by omega) (by omega)).mp z; omega)]) (2 ^ rN S 141 - 1) 1 FU 0 (by omega) (FU_lt (by omega)) (by omega)
  refine ⟨nJ (2 ^ rN S 141), ?_⟩
  rw [show ((0 : Int32), (1 : Int32)) = (nJ 0, nJ 1) from rfl, this.1, ← hrv]
  unfold fwS
  rw [fe]
end Mf
