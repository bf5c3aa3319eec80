/-! link distances on both sides -/
theorem least_ex {P : Nat → Prop} : ∀ (K : Nat), P K → ∃ k, k ≤ K ∧ P k ∧ ∀ j, j < k → ¬ P j := by
  intro K
  induction K using Nat.strongRecOn with
  | _ K ih =>
    intro h
    by_cases q : ∃ j, j < K ∧ P j
    · obtain ⟨j, j1, j2⟩ := q
      obtain ⟨k, k1, k2, k3⟩ := ih j j1 j2
      exact ⟨k, by omega, k2, k3⟩
    · exact ⟨K, Nat.le_refl _, h, fun j j1 j2 => q ⟨j, j1, j2⟩⟩
def rch (n : Nat) (r : Nat → Int64) (s : Int64) : Nat → Int64
  | 0 => s
  | k + 1 => uni n r (rch n r s k)
theorem nP_3 {M : ST} (hL : Ld M) : 3 ≤ nP M := by
  obtain ⟨g1, g2, g3⟩ := GR_simple hL.1
  have h3 := hL.1.2.1
  have inj : ∀ {i j}, i < rN M 141 → j < rN M 141 → rP M 141 i = rP M 141 j → i = j := fun hi hj e => pl_inj g1.1 hi hj e
  obtain ⟨p0, a0, b0⟩ := Ld_of hL (vx_cl hL.1 (i := 0) (by omega))
  obtain ⟨p1, a1, b1⟩ := Ld_of hL (vx_cl hL.1 (i := 1) (by omega))
  obtain ⟨p2, a2, b2⟩ := Ld_of hL (vx_cl hL.1 (i := 2) (by omega))
  have n01 : p0 ≠ p1 := fun e => by have := inj (i := 0) (j := 1) (by omega) (by omega) (by rw [← b0, ← b1, e]); omega
  have n02 : p0 ≠ p2 := fun e => by have := inj (i := 0) (j := 2) (by omega) (by omega) (by rw [← b0, ← b2, e]); omega
  have n12 : p1 ≠ p2 := fun e => by have := inj (i := 1) (j := 2) (by omega) (by omega) (by rw [← b1, ← b2, e]); omega
  omega
theorem rch_cong {n : Nat} {r r' : Nat → Int64} (h : ∀ p, p < n → r p = r' p) (s : Int64) : ∀ k, rch n r s k = rch n r' s k
  | 0 => rfl
  | k + 1 => by
    show uni n r (rch n r s k) = uni n r' (rch n r' s k)
    rw [rch_cong h s k, uni_cong h]
section Li
variable {M : ST} {r : Nat → Int64}
/-- a set of points -/
def ofP (n : Nat) (s : Int64) : Prop := ∀ q, bz s q = true → q < n
theorem uni_of (hL : Ld M) (h : SR M r) (s : Int64) : ofP (nP M) (uni (nP M) r s) := by
  intro q hq
  obtain ⟨p, p1, p2, p3⟩ := (uni_bz r s q).mp hq
  have : q < 64 := by
    rcases Nat.lt_or_ge q 64 with z | z
    · exact z
    · rw [bz_big z] at p3; cases p3
  exact ((h p p1 q this).mp p3).1
theorem uni_up (hL : Ld M) (h : SR M r) {s : Int64} (hs : ofP (nP M) s) {q : Nat} (hq : bz s q = true) : bz (uni (nP M) r s) q = true := by
  have q1 := hs q hq
  have h64 := (Ld_P hL).2
  exact (uni_bz r s q).mpr ⟨q, q1, hq, (h q q1 q (by omega)).mpr ⟨q1, sees_refl (pt_cl hL q1)⟩⟩
theorem bt_of {n p : Nat} (hp : p < n) (h64 : n ≤ 64) : ofP n (bt p) := fun q hq => by
  rw [bt_bz (by omega), decide_eq_true_eq] at hq
  omega
theorem rch_of (hL : Ld M) (h : SR M r) {s : Int64} (hs : ofP (nP M) s) : ∀ k, ofP (nP M) (rch (nP M) r s k)
  | 0 => hs
  | k + 1 => uni_of hL h _
/-- what the rows keep is all -/
theorem rch_all (hL : Ld M) (h : SR M r) {s : Int64} (hs : ofP (nP M) s) {p : Nat} (hp : bz s p = true) (hc : ∀ q, q < 64 → bz (uni (nP M) r s) q = true → bz s q = true) : s = aL (nP M) := by
  have h64 := (Ld_P hL).2
  obtain ⟨g1, g2, -⟩ := GR_simple hL.1
  have hpn := hs p hp
  have all := ge_conn g2 g1 (fun v => ∃ q, q < nP M ∧ pt M q = v ∧ bz s q = true) (fun v w hv hcv hcw see => by
    obtain ⟨q, q1, q2, q3⟩ := hv
    obtain ⟨t, t1, t2⟩ := Ld_of hL hcw
    refine ⟨t, t1, t2, hc t (by omega) ?_⟩
    exact (uni_bz r s t).mpr ⟨q, q1, q3, (h q q1 t (by omega)).mpr ⟨t1, by rw [q2, t2]; exact see⟩⟩) (pt_cl hL hpn) ⟨p, hpn, rfl, hp⟩
  apply bz_ext
  intro q hq
  rw [aL_bz h64 hq, Bool.eq_iff_iff, decide_eq_true_eq]
  constructor
  · exact hs q
  · intro z
    obtain ⟨t, t1, t2, t3⟩ := all (pt M q) (pt_cl hL z)
    rw [← pt_inj hL t1 z t2]
    exact t3
/-- the number of rounds till all are met -/
theorem rch_D (hL : Ld M) (h : SR M r) {p : Nat} (hp : p < nP M) : ∃ D, 1 ≤ D ∧ D < 64 ∧ rch (nP M) r (bt p) D = aL (nP M) ∧ ∀ j, j < D → rch (nP M) r (bt p) j ≠ aL (nP M) := by
  have h64 := (Ld_P hL).2
  have h3 := nP_3 hL
  have hof := rch_of hL h (bt_of hp h64)
  have hin : ∀ k, bz (rch (nP M) r (bt p) k) p = true := by
    intro k
    induction k with
    | zero => show bz (bt p) p = true; rw [bt_bz (by omega)]; simp
    | succ k ih => exact uni_up hL h (hof k) ih
  have ex : ∃ k, k < 64 ∧ rch (nP M) r (bt p) k = aL (nP M) := by
    apply Classical.byContradiction
    intro hn
    have grow : ∀ k, k < 64 → k + 1 ≤ pc64 (rch (nP M) r (bt p) k) := by
      intro k
      induction k with
      | zero =>
        intro _
        have : ¬ rch (nP M) r (bt p) 0 = 0 := fun z => by have := hin 0; rw [z, bz_0] at this; cases this
        have := pc64_0 this
        omega
      | succ k ih =>
        intro hk
        have hk0 := ih (by omega)
        have ne : ∃ q, q < 64 ∧ bz (rch (nP M) r (bt p) (k + 1)) q = true ∧ bz (rch (nP M) r (bt p) k) q = false := by
          apply Classical.byContradiction
          intro hq
          refine hn ⟨k, by omega, rch_all hL h (hof k) (hin k) (fun q hq64 hb => ?_)⟩
          cases e : bz (rch (nP M) r (bt p) k) q with
          | true => rfl
          | false => exact absurd ⟨q, hq64, hb, e⟩ hq
        obtain ⟨q, q1, q2, q3⟩ := ne
        have := pc64_lt q1 q2 q3 (fun i _ hi => uni_up hL h (hof k) hi)
        omega
    have g := grow 63 (by omega)
    have ne : ∃ q, q < 64 ∧ bz (aL (nP M)) q = true ∧ bz (rch (nP M) r (bt p) 63) q = false := by
      apply Classical.byContradiction
      intro hq
      refine hn ⟨63, by omega, bz_ext (fun q hq64 => ?_)⟩
      rw [aL_bz h64 hq64, Bool.eq_iff_iff, decide_eq_true_eq]
      constructor
      · exact hof 63 q
      · intro z
        cases e : bz (rch (nP M) r (bt p) 63) q with
        | true => rfl
        | false => exact absurd ⟨q, hq64, by rw [aL_bz h64 hq64]; exact decide_eq_true z, e⟩ hq
    obtain ⟨q, q1, q2, q3⟩ := ne
    have := pc64_lt q1 q2 q3 (fun i hi hb => by rw [aL_bz h64 hi]; exact decide_eq_true (hof 63 i hb))
    have le : pc64 (aL (nP M)) ≤ 64 := rk_le _ _
    omega
  obtain ⟨K, K1, K2⟩ := ex
  obtain ⟨D, d1, d2, d3⟩ := least_ex (P := fun k => rch (nP M) r (bt p) k = aL (nP M)) K K2
  refine ⟨D, ?_, by omega, d2, d3⟩
  rcases Nat.eq_zero_or_pos D with z | z
  · exfalso
    rw [z] at d2
    have e : bt p = aL (nP M) := d2
    obtain ⟨q, q1, q2⟩ : ∃ q, q < nP M ∧ q ≠ p := by
      by_cases c : p = 0
      · exact ⟨1, by omega, by omega⟩
      · exact ⟨0, by omega, by omega⟩
    have := congrArg (fun v => bz v q) e
    simp only [bt_bz (show p < 64 by omega), aL_bz h64 (show q < 64 by omega)] at this
    rw [decide_eq_false q2, decide_eq_true q1] at this
    cases this
  · exact z
/-- the distance of q -/
def dst (M : ST) (r : Nat → Int64) (p q k : Nat) : Prop := bz (rch (nP M) r (bt p) k) q = true ∧ ∀ j, j < k → bz (rch (nP M) r (bt p) j) q = false
theorem dst_ex (hL : Ld M) (h : SR M r) {p q : Nat} (hp : p < nP M) (hq : q < nP M) : ∃ k, k < 64 ∧ dst M r p q k := by
  have h64 := (Ld_P hL).2
  obtain ⟨D, d0, d1, d2, -⟩ := rch_D hL h hp
  obtain ⟨k, k1, k2, k3⟩ := least_ex (P := fun k => bz (rch (nP M) r (bt p) k) q = true) D (by show bz _ q = true; rw [d2, aL_bz h64 (by omega)]; exact decide_eq_true hq)
  exact ⟨k, by omega, k2, fun j hj => by
    cases e : bz (rch (nP M) r (bt p) j) q with
    | false => rfl
    | true => exact absurd e (k3 j hj)⟩
theorem dst_u {p q k k' : Nat} (h : dst M r p q k) (h' : dst M r p q k') : k = k' := by
  rcases Nat.lt_trichotomy k k' with z | z | z
  · have := h'.2 k z; rw [h.1] at this; cases this
  · exact z
  · have := h.2 k' z; rw [h'.1] at this; cases this
end Li
section Lf
variable {S M : ST}
/-- the class's links -/
theorem F77_eq (h : CSz S M) {p q : Nat} (hp : p < nP M) (hq : q < nP M) : ∃ k, k < 64 ∧ dst M (S.2 31) p q k ∧ F_77 (nJ p) (nJ q) S = some (nJ k) := by
  have hL := h.1.2.2.1
  have h64 := (Ld_P hL).2
  obtain ⟨k, k1, k2⟩ := dst_ex hL h.2.1 hp hq
  refine ⟨k, k1, k2, ?_⟩
  have := wh_ff (f := L_77_7 (nJ p) (nJ q) S) (e := fun i => (rch (nP M) (S.2 31) (bt p) i, nJ i)) (p := fun i => bz (rch (nP M) (S.2 31) (bt p) i) q) (N := 64) (o := fun i => .inr (nJ i)) (b := .inl (rch (nP M) (S.2 31) (bt p) 64, nJ 64)) (fun i hi hb => by
    unfold L_77_7
    dsimp only
    rw [if_pos (show nJ i < 64 from (nJ_lt (j := 64) (by omega) (by omega)).mpr hi), has177 _ (by omega), if_pos hb]) (fun i hi hb => by
    unfold L_77_7
    dsimp only
    rw [if_pos (show nJ i < 64 from (nJ_lt (j := 64) (by omega) (by omega)).mpr hi), has177 _ (by omega), hb, if_neg (by decide), F74_cs h, ob_s, nJ_succ]
    rfl) (by
    unfold L_77_7
    dsimp only
    rw [if_neg (show ¬ nJ 64 < 64 by decide)]) 64 0 FU (by omega) (FU_lt (by omega))
  unfold F_77
  rw [show ((1 : Int64) <<< (Int32.toInt64 (nJ p) &&& 63), (0 : Int32)) = (rch (nP M) (S.2 31) (bt p) 0, nJ 0) from rfl, this, ob_s]
  cases e : ff (fun i => bz (rch (nP M) (S.2 31) (bt p) i) q) 0 64 with
  | some j =>
    obtain ⟨-, j2, j3, j4⟩ := ff_some e
    have : j = k := dst_u ⟨j3, fun i hi => j4 i (Nat.zero_le _) hi⟩ k2
    subst this
    rfl
  | none =>
    have := ff_none e k (Nat.zero_le _) (by omega)
    rw [k2.1] at this
    cases this
/-- the reference's links -/
theorem M244_33 (h : MS S) (v : Int32) (met : Int64) (far : Int32) : wh FU (Lm_244_33 v met far S) (0, 0) = some (uni (nP S) (S.2 153) met, nJ (nP S)) := by
  have hP := Ld_P h.1
  have := wh_fr (f := Lm_244_33 v met far S) (fun i (a : Int64) => (a, nJ i)) (uF (S.2 153) met) (nP S) (fun a => (a, nJ (nP S))) (fun i a hi => by
    unfold Lm_244_33
    dsimp only
    rw [hP.1, if_pos ((nJ_lt (by omega) (by omega)).mpr hi), show F_217 met (nJ i) = bz met i from has_t met (by omega), nJ_succ]
    unfold uF
    by_cases z : bz met i = true
    · rw [if_pos z, if_pos z, ck_t (ibd_n (by omega) (by omega)), nJ_ix (by omega)]
    · rw [if_neg z, if_neg z, or_0]) (fun a => by
    unfold Lm_244_33
    dsimp only
    rw [hP.1, if_neg (fun z => by have := (nJ_lt (by omega) (by omega)).mp z; omega)]) (FU_lt (by omega)) 0
  rw [show ((0 : Int64), (0 : Int32)) = (0, nJ 0) from rfl, this]
  rfl
theorem MS_fm (h : MS S) {S' : ST} {hs fs : List Nat} (hF : Fm hs fs S S') (h0 : 140 ∉ hs) (h1 : 141 ∉ hs) (h7 : 147 ∉ hs) (h8 : 148 ∉ hs) (h9 : 149 ∉ hs) (h3 : 153 ∉ hs) (h4 : 154 ∉ hs) (h20 : 20 ∉ fs) : MS S' ∧ nP S' = nP S ∧ S'.2 153 = S.2 153 ∧ S'.2 154 = S.2 154 := by
  obtain ⟨L', eL, eP, ept⟩ := Ld_fm h.1 hF h0 h1 h7 h8 h9 h20
  have e3 := hF.rowL h3
  have e4 := hF.rowL h4
  have e141 := hF.row h1 (by decide)
  refine ⟨⟨L', ?_, ?_⟩, eP, e3, e4⟩
  · intro p hp q hq
    rw [e3, eL, eP, ept, ept]
    exact h.2.1 p (by rw [← eP]; exact hp) q hq
  · intro i hi q hq
    have eN : rN S' 141 = rN S 141 := rN_row e141
    have eR : ∀ k, rP S' 141 k = rP S 141 k := fun k => by unfold rP; rw [e141]
    rw [e3, e4, eP, eR, eN, eR]
    simp only [ept]
    exact h.2.2 i (by rw [← eN]; exact hi) q hq
theorem M244_79 (h : MS S) {S1 : ST} (f1 : Fm [155] [] S S1) (v : Int32) (met more : Int64) (far : Int32) : ∃ z S2, wh FU (Lm_244_79 v met far more) (0, S1) = some (z, S2) ∧ Fm [155] [] S1 S2 ∧ ∀ q, q < nP S → S2.1 155 q = if bz (more &&& (met ^^^ (-1))) q = true then far else S1.1 155 q := by
  have hP := Ld_P h.1
  have key : ∃ r, wh FU (Lm_244_79 v met far more) (0, S1) = some r ∧ ∃ z S2, r = (z, S2) ∧ Fm [155] [] S1 S2 ∧ ∀ q, q < nP S → S2.1 155 q = if bz (more &&& (met ^^^ (-1))) q = true then far else S1.1 155 q := by
    refine wh_inv (I := fun m x => ∃ i S2, i + m = nP S ∧ x = (nJ i, S2) ∧ Fm [155] [] S1 S2 ∧ ∀ q, S2.1 155 q = if q < i ∧ bz (more &&& (met ^^^ (-1))) q = true then far else S1.1 155 q) ?_ FU (nP S) _ (FU_lt (by omega)) ⟨0, S1, by omega, rfl, Fm.rf, fun q => by rw [if_neg (by omega)]⟩
    rintro m x ⟨i, S2, hi, rfl, f2, w⟩
    unfold Lm_244_79
    dsimp only
    rw [(f1.tr f2).fld (by decide) (by decide), hP.1]
    by_cases c : i < nP S
    · rw [if_pos ((nJ_lt (by omega) (by omega)).mpr c), show F_217 (more &&& (met ^^^ (-1))) (nJ i) = bz (more &&& (met ^^^ (-1))) i from has_t _ (by omega), nJ_succ]
      by_cases z : bz (more &&& (met ^^^ (-1))) i = true
      · rw [if_pos z, ck_t (ibd_n (by omega) (by omega)), sbn_e, nJ_ix (by omega)]
        refine Or.inl ⟨_, m - 1, by omega, rfl, i + 1, _, by omega, rfl, f2.tr (Fm_a (by simp)), fun q => ?_⟩
        rw [wI_1, w q]
        by_cases e : q = i
        · rw [if_pos ⟨rfl, e⟩, e, if_pos ⟨by omega, z⟩]
        · rw [if_neg (fun y => e y.2)]
          by_cases y : q < i ∧ bz (more &&& (met ^^^ (-1))) q = true
          · rw [if_pos y, if_pos ⟨by omega, y.2⟩]
          · rw [if_neg y, if_neg (fun y' => y ⟨by omega, y'.2⟩)]
      · rw [if_neg z]
        refine Or.inl ⟨_, m - 1, by omega, rfl, i + 1, S2, by omega, rfl, f2, fun q => ?_⟩
        rw [w q]
        by_cases y : q < i ∧ bz (more &&& (met ^^^ (-1))) q = true
        · rw [if_pos y, if_pos ⟨by omega, y.2⟩]
        · rw [if_neg y, if_neg (fun y' => y ⟨by
            by_cases e : q = i
            · rw [e] at y'; exact absurd y'.2 z
            · omega, y'.2⟩)]
    · rw [if_neg (fun z => c ((nJ_lt (by omega) (by omega)).mp z))]
      refine Or.inr ⟨_, rfl, _, S2, rfl, f2, fun q hq => ?_⟩
      rw [w q]
      by_cases y : bz (more &&& (met ^^^ (-1))) q = true
      · rw [if_pos ⟨by omega, y⟩, if_pos y]
      · rw [if_neg (fun z => y z.2), if_neg y]
  obtain ⟨r, e, z, S2, rfl, w⟩ := key
  exact ⟨z, S2, e, w⟩
/-- laysLinks, with the sight laid -/
theorem F244_eq (h : MS S) (h27 : ¬ S.1 140 27 = 0) {p : Nat} (hp : p < nP S) : ∃ D S', F_244 (nJ p) S = some (nJ D, S') ∧ Fm [155] [] S S' ∧ 1 ≤ D ∧ D < 64 ∧ rch (nP S) (S.2 153) (bt p) D = aL (nP S) ∧ (∀ j, j < D → rch (nP S) (S.2 153) (bt p) j ≠ aL (nP S)) ∧ ∀ q, q < nP S → ∃ k, k < 64 ∧ S'.1 155 q = nJ k ∧ dst S (S.2 153) p q k := by
  have hL := h.1
  have hP := Ld_P hL
  obtain ⟨D, d0, d1, d2, d3⟩ := rch_D hL h.2.1 hp
  have hof := rch_of hL h.2.1 (bt_of hp hP.2)
  have up1 : ∀ k q, bz (rch (nP S) (S.2 153) (bt p) k) q = true → bz (rch (nP S) (S.2 153) (bt p) (k + 1)) q = true := fun k q hq => uni_up hL h.2.1 (hof k) hq
  have key : ∃ r, wh FU (Lm_244_18 (nJ p)) (bt p, nJ 0, wI S 155 p 0) = some r ∧ ∃ m S', r = (m, nJ D, S') ∧ Fm [155] [] S S' ∧ ∀ q, q < nP S → ∃ k, k < 64 ∧ S'.1 155 q = nJ k ∧ dst S (S.2 153) p q k := by
    refine wh_inv (I := fun m x => ∃ k S', k + m = D ∧ x = (rch (nP S) (S.2 153) (bt p) k, nJ k, S') ∧ Fm [155] [] S S' ∧ ∀ q, q < nP S → bz (rch (nP S) (S.2 153) (bt p) k) q = true → ∃ j, j ≤ k ∧ S'.1 155 q = nJ j ∧ dst S (S.2 153) p q j) ?_ FU D _ (FU_lt (by omega)) ⟨0, _, by omega, rfl, Fm_a (by simp), fun q hq hb => ?_⟩
    · rintro m x ⟨k, S1, hk, rfl, f1, w⟩
      obtain ⟨h1, eP, e3, -⟩ := MS_fm h f1 (by decide) (by decide) (by decide) (by decide) (by decide) (by decide) (by decide) (by decide)
      unfold Lm_244_18
      dsimp only
      rw [F216_eq h1.1, eP]
      by_cases c : k = D
      · rw [c, if_pos d2]
        rw [c] at w
        refine Or.inr ⟨_, rfl, _, S1, rfl, f1, fun q hq => ?_⟩
        obtain ⟨j, j1, j2, j3⟩ := w q hq (by rw [d2, aL_bz hP.2 (by omega)]; exact decide_eq_true hq)
        exact ⟨j, by omega, j2, j3⟩
      · rw [if_neg (d3 k (by omega)), M244_33 h1, ob_s]
        dsimp only
        rw [eP, e3, nJ_succ]
        obtain ⟨z, S2, e2, f2, w2⟩ := M244_79 h f1 (nJ p) (rch (nP S) (S.2 153) (bt p) k) (uni (nP S) (S.2 153) (rch (nP S) (S.2 153) (bt p) k)) (nJ (k + 1))
        rw [e2, ob_s]
        have mu : rch (nP S) (S.2 153) (bt p) k ||| uni (nP S) (S.2 153) (rch (nP S) (S.2 153) (bt p) k) = rch (nP S) (S.2 153) (bt p) (k + 1) := by
          apply bz_ext
          intro q hq
          rw [bz_or]
          show _ = bz (uni (nP S) (S.2 153) (rch (nP S) (S.2 153) (bt p) k)) q
          cases e : bz (rch (nP S) (S.2 153) (bt p) k) q with
          | false => rfl
          | true => rw [show bz (uni (nP S) (S.2 153) (rch (nP S) (S.2 153) (bt p) k)) q = true from up1 k q e]; rfl
        rw [mu]
        refine Or.inl ⟨_, m - 1, by omega, rfl, k + 1, S2, by omega, rfl, f1.tr f2, fun q hq hb => ?_⟩
        rw [w2 q hq, bz_and, bz_not _ (by omega)]
        cases e : bz (rch (nP S) (S.2 153) (bt p) k) q with
        | true =>
          obtain ⟨j, j1, j2, j3⟩ := w q hq e
          rw [if_neg (by simp)]
          exact ⟨j, by omega, j2, j3⟩
        | false =>
          rw [if_pos (by rw [show bz (uni (nP S) (S.2 153) (rch (nP S) (S.2 153) (bt p) k)) q = true from hb]; rfl)]
          refine ⟨k + 1, Nat.le_refl _, rfl, hb, fun j hj => ?_⟩
          cases e' : bz (rch (nP S) (S.2 153) (bt p) j) q with
          | false => rfl
          | true =>
            have mono : ∀ t, bz (rch (nP S) (S.2 153) (bt p) (j + t)) q = true := by
              intro t
              induction t with
              | zero => exact e'
              | succ t ih => exact up1 _ _ ih
            have := mono (k - j)
            rw [show j + (k - j) = k by omega, e] at this
            cases this
    · have : q = p := by
        have hb' : bz (bt p) q = true := hb
        rw [bt_bz (by omega), decide_eq_true_eq] at hb'
        exact hb'
      subst this
      exact ⟨0, Nat.le_refl _, by rw [wI_1, if_pos ⟨rfl, rfl⟩]; rfl, hb, fun j hj => by omega⟩
  obtain ⟨r, e, m, S', rfl, f, w⟩ := key
  refine ⟨D, S', ?_, f, d0, d1, d2, d3, w⟩
  unfold F_244
  have e239 : F_239 S = some ((), S) := by unfold F_239; rw [if_neg h27]
  rw [e239, ob_s]
  dsimp only
  rw [ck_t (ibd_n (by omega) (by omega)), sbn_e, nJ_ix (by omega), show ((1 : Int64) <<< (Int32.toInt64 (nJ p) &&& 63), (0 : Int32), wI S 155 p 0) = (bt p, nJ 0, wI S 155 p 0) from rfl, e, ob_s]
end Lf
