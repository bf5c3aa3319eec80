/-! a text is read, on both sides -/
section Cp
theorem wh_oF {A B : Type} {f : A → Option (A ⊕ B)} {a : A} {b : B} (h : f a = some (.inr b)) : wh FU f a = some b := wh_out (m := 999999) h
/-- a row is laid, cell by cell, out of what doesn't move -/
theorem cpl {f : Int32 × ST → Option ((Int32 × ST) ⊕ (Int32 × ST))} {h o N : Nat} {v : ST → Nat → Int32} (hN : N < 1000) (hv : ∀ S1 S2 i, Fm [h] [] S1 S2 → v S2 i = v S1 i) (hs : ∀ S1 i, i < N → f (nJ i, S1) = some (.inl (nJ (i + 1), wI S1 h (o + i) (v S1 i)))) (he : ∀ S1, f (nJ N, S1) = some (.inr (nJ N, S1))) (S : ST) : ∃ S', wh FU f (0, S) = some (nJ N, S') ∧ Fm [h] [] S S' ∧ ∀ j, S'.1 h j = if o ≤ j ∧ j < o + N then v S (j - o) else S.1 h j := by
  have key : ∃ r, wh FU f (nJ 0, S) = some r ∧ r.1 = nJ N ∧ Fm [h] [] S r.2 ∧ ∀ j, r.2.1 h j = if o ≤ j ∧ j < o + N then v S (j - o) else S.1 h j := by
    refine wh_inv (I := fun m x => ∃ i, i + m = N ∧ x.1 = nJ i ∧ Fm [h] [] S x.2 ∧ ∀ j, x.2.1 h j = if o ≤ j ∧ j < o + i then v S (j - o) else S.1 h j) ?_ FU N _ (FU_lt (by omega)) ⟨0, by omega, rfl, Fm.rf, fun j => by rw [if_neg (by omega)]⟩
    rintro m ⟨y, S1⟩ ⟨i, hi, rfl, f1, w⟩
    dsimp only at f1 w ⊢
    by_cases c : i < N
    · rw [hs S1 i c]
      refine Or.inl ⟨_, m - 1, by omega, rfl, i + 1, by omega, rfl, f1.tr (Fm_a (by simp)), fun j => ?_⟩
      show (wI S1 h (o + i) (v S1 i)).1 h j = _
      rw [wI_1, hv S S1 i f1]
      by_cases d : j = o + i
      · rw [if_pos ⟨rfl, d⟩, if_pos (by omega), d, Nat.add_sub_cancel_left]
      · rw [if_neg (fun q => d q.2), w j]
        by_cases e : o ≤ j ∧ j < o + i
        · rw [if_pos e, if_pos (by omega)]
        · rw [if_neg e, if_neg (by omega)]
    · have : i = N := by omega
      subst this
      rw [he S1]
      exact Or.inr ⟨_, rfl, rfl, f1, w⟩
  obtain ⟨⟨z, S'⟩, e, e1, w⟩ := key
  have e1 : z = nJ N := e1
  subst e1
  exact ⟨S', e, w⟩
end Cp
section Pa
variable {Sc Sm S : ST} {n : Nat} {b : Nat → Int32}
theorem M200_22 (v : Int32) (S : ST) : ∃ S', wh FU (Lm_200_22 v) (0, S) = some (nJ 63, S') ∧ Fm [146] [] S S' ∧ ∀ j, j < 63 → S'.1 146 j = 0 := by
  obtain ⟨S', e, hF, w⟩ := cpl (f := Lm_200_22 v) (h := 146) (o := 0) (N := 63) (v := fun _ _ => 0) (by omega) (fun _ _ _ _ => rfl) (fun S1 i hi => by
    unfold Lm_200_22
    dsimp only
    rw [if_pos (show nJ i < 63 from (nJ_lt (j := 63) (by omega) (by omega)).mpr hi), ck_t (ibd_n (by omega) (by omega)), sbn_e, nJ_ix (by omega), nJ_succ, Nat.zero_add]) (fun S1 => by
    unfold Lm_200_22
    dsimp only
    rw [if_neg (show ¬ nJ 63 < 63 by decide)]) S
  exact ⟨S', e, hF, fun j hj => by rw [w j, if_pos (by omega)]⟩
def zPE (n : Nat) (b : Nat → Int32) (c : Int32) (Sc Sm : ST) : Prop := (c = 0 ∧ ∃ j p, zLR n b j p Sc Sm) ∨ (¬ c = 0 ∧ zTE c Sc Sm)
theorem J198_14_e (S : ST) : J_198_14 S = ob (F_194 S) (fun w2 => ob (wh FU (Lm_198_18) (w2.2)) (fun e18 => zps e18)) := rfl
theorem F198_y (h : ¬ S.1 140 17 = 0) : J_198_14 S = some ((), S) := by
  rw [J198_14_e, M194_y h, ob_s]
  dsimp only
  rw [wh_oF (lm198_y h), ob_s, zps_y h]
theorem whl_y {v1 p2 : Int32} (h : ¬ S.1 140 17 = 0) : wh FU (Lm_200_49 v1 p2) S = some S := wh_oF (lm200_y h)
theorem parse_eq (hn : n ≤ 600) (hb : BF Sc 2 b) (hbm : BF Sm 144 b) (hv : ∀ j, j < n → ¬ b j = -1) : ∃ c Sc' Sm', F_35 (nJ n) Sc = some (c, Sc') ∧ F_200 (nJ n) Sm = some ((), Sm') ∧ Fp pcl Sc Sc' ∧ Fm [145, 146] PSr Sm Sm' ∧ zPE n b c Sc' Sm' := by
  -- the class begins
  obtain ⟨Sc1, e42, f42, z0, z1, z2⟩ := F42_eq Sc 12
  have b1 : BF Sc1 2 b := fun k hk => by rw [(f42 2 (by decide)).1]; exact hb k hk
  obtain ⟨Sc2, e12, f12, ck2⟩ := F12_eq hn b1
  have b2 : BF Sc2 2 b := BF_fc b1 f12 (by decide)
  have fC2 : Fp pcl Sc Sc2 := (f42.wk (fun a ha => Or.inr (Or.inl (by show 12 ≤ a ∧ a < 12 + 9; omega)))).tr (pc1' f12)
  -- the reference begins
  obtain ⟨Sm1, eL, fL, rz⟩ := M200_22 (nJ n) (wI (wI (wI (wI Sm 140 10 (nJ n)) 140 11 0) 140 17 0) 140 18 (-1))
  have fm0 : Fm [145, 146] PSr Sm Sm1 := ((((Fm_f (by decide)).tr (Fm_f (by decide))).tr (Fm_f (by decide))).tr (Fm_f (by decide))).tr (fL.wk (by decide) (by decide))
  have h10 : Sm1.1 140 10 = nJ n := by rw [fL.fld (by decide) (by decide), wI_1, if_neg (by decide), wI_1, if_neg (by decide), wI_1, if_neg (by decide), wI_1, if_pos ⟨rfl, rfl⟩]
  have h11 : Sm1.1 140 11 = nJ 0 := by rw [fL.fld (by decide) (by decide), wI_1, if_neg (by decide), wI_1, if_neg (by decide), wI_1, if_pos ⟨rfl, rfl⟩]; rfl
  have h17 : Sm1.1 140 17 = 0 := by rw [fL.fld (by decide) (by decide), wI_1, if_neg (by decide), wI_1, if_pos ⟨rfl, rfl⟩]
  have bm1 : BF Sm1 144 b := BF_fm hbm fm0 (by decide)
  obtain ⟨Sm2, e192, f192, mk2⟩ := M192_eq h10 h11 hn (Nat.zero_le _) bm1 hv
  have mk2 : MK Sm2 n b (scE b 32 32 n 0) := mk2
  have bm2 : BF Sm2 144 b := BF_fm bm1 f192 (by decide)
  have h17' := fm17 h17 f192 (by decide) (by decide)
  have fm2 : Fm [145, 146] PSr Sm Sm2 := fm0.tr (f192.wk (by decide) (by decide))
  have l10 : (TXS.getD 10 []).length ≤ 8 := by decide
  generalize hP : scE b 32 32 n 0 = P at *
  have C0 : F_35 (nJ n) Sc = if tkW b n P (TXS.getD 10 []) = true then (ob (F_13 Sc2) (fun w4 => ob (F_36 w4.2) (fun w5 => if w5.1 = 0 then (ob (F_37 w5.2) (fun w6 => some (w6.1, w6.2))) else (some (w5.1, w5.2))))) else (some (1, Sc2)) := by
    unfold F_35
    rw [e42, ob_s]
    dsimp only
    rw [e12, ob_s]
    dsimp only
    rw [F16_eq ck2 hn b2 l10, ob_s]
  have M0 : F_200 (nJ n) Sm = ob (if tkW b n P (TXS.getD 10 []) = true then J_198_14 Sm2 else ob (F_193 1 Sm2) (fun w11 => J_198_14 w11.2)) (fun w2 => ob (wh FU (Lm_200_49 (nJ n) (nJ 63)) (w2.2)) (fun e49 => zls e49)) := by
    unfold F_200
    rw [eL, ob_s]
    dsimp only
    rw [e192, ob_s]
    dsimp only
    unfold F_198
    rw [TX_p, M195_eq h17' mk2 hn l10, ob_s]
    rfl
  by_cases cw : tkW b n P (TXS.getD 10 []) = true
  · rw [if_pos cw] at C0 M0
    obtain ⟨Sc3, e13, f13, ck3⟩ := F13_c ck2 hn b2
    have b3 : BF Sc3 2 b := BF_fc b2 f13 (by decide)
    obtain ⟨Sm3, e194, f194, mk3⟩ := M194_n h17' mk2 hn bm2 hv
    have bm3 : BF Sm3 144 b := BF_fm bm2 f194 (by decide)
    have h173 := fm17 h17' f194 (by decide) (by decide)
    have fC3 : Fp pcl Sc Sc3 := fC2.tr (pc1' f13)
    have fm3 : Fm [145, 146] PSr Sm Sm3 := fm2.tr (f194.wk (by decide) (by decide))
    have r3 : ∀ j, j < 63 → Sm3.1 146 j = 0 := fun j hj => by rw [f194.row (by decide) (by decide), f192.row (by decide) (by decide)]; exact rz j hj
    have c3 : Sc3.1 12 = Sc1.1 12 := (f13 12 (by decide)).1.trans (f12 12 (by decide)).1
    have V : zVR n b 0 (tkS b n P) Sc3 Sm3 := by
      refine ⟨⟨ck3, b3, mk3, bm3, h173⟩, ⟨⟨by rw [c3, r3 0 (by omega)]; exact z0, by rw [c3, r3 1 (by omega)]; exact z1, by rw [c3, r3 2 (by omega)]; exact z2⟩, fun i hi => ?_, fun i hi => ?_, fun i hi => ?_⟩, r3 0 (by omega), by omega, r3 1 (by omega), r3 2 (by omega), fun j j1 j2 => ?_⟩
      · rw [r3 0 (by omega)] at hi; exact absurd hi (Nat.not_lt_zero _)
      · rw [r3 1 (by omega)] at hi; exact absurd hi (Nat.not_lt_zero _)
      · rw [r3 2 (by omega)] at hi; exact absurd hi (Nat.not_lt_zero _)
      · rw [r3 j (by omega)]; decide
    obtain ⟨c, Sc4, Sm4, z, e, w1, w2, w3, w4, w5, w6⟩ := vloop (Sc0 := Sc3) (Sm0 := Sm3) hn hv 12 0 (tkS b n P) Sc3 Sm3 FU FU (by omega) (FU_lt (by omega)) (FU_lt (by omega)) V ⟨Fp.rf, Fm.rf⟩
    have e36 : F_36 Sc3 = some (c, Sc4) := by
      unfold F_36
      rw [show ((0 : Int32), Sc3) = (nJ 0, Sc3) from rfl, w1, ob_s]
      exact w2
    have e198 : J_198_14 Sm2 = some ((), Sm4) := by
      rw [J198_14_e, e194, ob_s]
      dsimp only
      rw [w3, ob_s, w4]
    rw [e13, ob_s] at C0
    dsimp only at C0
    rw [e36, ob_s] at C0
    dsimp only at C0
    rw [e198, ob_s] at M0
    dsimp only at M0
    have fC4 : Fp pcl Sc Sc4 := fC3.tr w5.1
    have fm4 : Fm [145, 146] PSr Sm Sm4 := fm3.tr w5.2
    rcases w6 with ⟨cz, p, L⟩ | ⟨cz, te⟩
    · rw [if_pos cz] at C0
      obtain ⟨c2, Sc5, Sm5, z2, e2, u1, u2, u3, u4, u5, u6, u7⟩ := zlines (v1 := nJ n) (p2 := nJ 63) hn hv 12 0 p Sc4 Sm4 FU FU (by omega) (FU_lt (by omega)) (FU_lt (by omega)) L
      have e37 : F_37 Sc4 = some (c2, Sc5) := by
        unfold F_37
        rw [show ((0 : Int32), Sc4) = (nJ 0, Sc4) from rfl, u1, ob_s]
        exact u2
      refine ⟨c2, Sc5, Sm5, ?_, ?_, fC4.tr u5, fm4.tr u6, u7⟩
      · rw [C0, e37, ob_s]
      · rw [M0, u3, ob_s, u4]
    · rw [if_neg cz] at C0
      have h4 : ¬ Sm4.1 140 17 = 0 := by
        obtain ⟨_, _, q, _⟩ := te
        rw [q]; exact cz
      refine ⟨c, Sc4, Sm4, C0, ?_, fC4, fm4, Or.inr ⟨cz, te⟩⟩
      rw [M0, whl_y h4, ob_s, zls_y h4]
  · rw [if_neg cw] at C0 M0
    have h4 : ¬ (er Sm2 1).1 140 17 = 0 := by rw [er_17]; decide
    refine ⟨1, Sc2, er Sm2 1, C0, ?_, fC2, fm2.tr er_PS, Or.inr ⟨by decide, P, ck2.2.2.1, er_17, er_18.trans mk2.2.2.1⟩⟩
    rw [M0, M193_n h17', ob_s]
    dsimp only
    rw [F198_y h4, ob_s]
    dsimp only
    rw [whl_y h4, ob_s, zls_y h4]
end Pa
