/-! append on both sides -/
theorem cpm {f : Int32 × ST → Option ((Int32 × ST) ⊕ (Int32 × ST))} {h o N : Nat} {v : Nat → Int32} {S : ST} (hN : N < 1000) (hs : ∀ S1 i, Fm [h] [] S S1 → i < N → f (nJ i, S1) = some (.inl (nJ (i + 1), wI S1 h (o + i) (v i)))) (he : ∀ S1, Fm [h] [] S S1 → f (nJ N, S1) = some (.inr (nJ N, S1))) : ∃ S', wh FU f (0, S) = some (nJ N, S') ∧ Fm [h] [] S S' ∧ ∀ j, S'.1 h j = if o ≤ j ∧ j < o + N then v (j - o) else S.1 h j := by
  have key : ∃ r, wh FU f (nJ 0, S) = some r ∧ r.1 = nJ N ∧ Fm [h] [] S r.2 ∧ ∀ j, r.2.1 h j = if o ≤ j ∧ j < o + N then v (j - o) else S.1 h j := by
    refine wh_inv (I := fun m x => ∃ i, i + m = N ∧ x.1 = nJ i ∧ Fm [h] [] S x.2 ∧ ∀ j, x.2.1 h j = if o ≤ j ∧ j < o + i then v (j - o) else S.1 h j) ?_ FU N _ (FU_lt (by omega)) ⟨0, by omega, rfl, Fm.rf, fun j => by rw [if_neg (by omega)]⟩
    rintro m ⟨y, S1⟩ ⟨i, hi, rfl, f1, w⟩
    dsimp only at f1 w ⊢
    by_cases c : i < N
    · rw [hs S1 i f1 c]
      refine Or.inl ⟨_, m - 1, by omega, rfl, i + 1, by omega, rfl, f1.tr (Fm_a (by simp)), fun j => ?_⟩
      show (wI S1 h (o + i) (v i)).1 h j = _
      rw [wI_1]
      by_cases d : j = o + i
      · rw [if_pos ⟨rfl, d⟩, if_pos (by omega), d, Nat.add_sub_cancel_left]
      · rw [if_neg (fun q => d q.2), w j]
        by_cases e : o ≤ j ∧ j < o + i
        · rw [if_pos e, if_pos (by omega)]
        · rw [if_neg e, if_neg (by omega)]
    · have : i = N := by omega
      subst this
      rw [he S1 f1]
      exact Or.inr ⟨_, rfl, rfl, f1, w⟩
  obtain ⟨⟨z, S'⟩, e, e1, w⟩ := key
  have e1 : z = nJ N := e1
  subst e1
  exact ⟨S', e, w⟩
theorem wh_5F {A B : Type} {f : A → Option (A ⊕ B)} {a0 a1 a2 a3 a4 : A} {b : B} (h0 : f a0 = some (.inl a1)) (h1 : f a1 = some (.inl a2)) (h2 : f a2 = some (.inl a3)) (h3 : f a3 = some (.inl a4)) (h4 : f a4 = some (.inr b)) : wh FU f a0 = some b := by
  show wh (999995 + 1 + 1 + 1 + 1 + 1) f a0 = some b
  rw [wh_in h0, wh_in h1, wh_in h2, wh_in h3, wh_out h4]
/-- a word's byte -/
def byN (v : Int32) (i : Nat) : Int32 := (v >>> ((24 - (8 * nJ i)) &&& 31)) &&& 255
def cby (v s : Int32) : Int32 := ((((Int32.toUInt32 v) >>> ((Int32.toUInt32 s) &&& Int32.toUInt32 31)).toInt32) &&& 255)
theorem low8 : ∀ i : Nat, i < 32 → (255#32).getLsbD i = decide (i < 8) := by decide +kernel
theorem shs_c : ∀ k : Nat, k < 4 → (((24 - (8 * nJ k)) &&& 31 : Int32).toBitVec.smod 32).toNat = 24 - 8 * k := by decide +kernel
theorem shu_c : ∀ k : Nat, k < 4 → (UInt32.mod ((Int32.toUInt32 (24 - (8 * nJ k))) &&& Int32.toUInt32 31) 32).toBitVec.toNat = 24 - 8 * k := by decide +kernel
theorem cby_N (v : Int32) {k : Nat} (hk : k < 4) : cby v (24 - (8 * nJ k)) = byN v k := by
  apply Int32.toBitVec_inj.mp
  apply BitVec.eq_of_getLsbD_eq
  intro i hi
  unfold cby byN
  rw [Int32.toBitVec_and, Int32.toBitVec_and, BitVec.getLsbD_and, BitVec.getLsbD_and]
  show ((v.toBitVec >>> (UInt32.mod ((Int32.toUInt32 (24 - (8 * nJ k))) &&& Int32.toUInt32 31) 32).toBitVec).getLsbD i && (255#32).getLsbD i) = ((BitVec.sshiftRight v.toBitVec (((24 - (8 * nJ k)) &&& 31 : Int32).toBitVec.smod 32).toNat).getLsbD i && (255#32).getLsbD i)
  rw [BitVec.ushiftRight_eq', shu_c k hk, shs_c k hk, BitVec.getLsbD_ushiftRight, BitVec.getLsbD_sshiftRight, low8 i hi]
  by_cases q : i < 8
  · rw [decide_eq_true q, Bool.and_true, Bool.and_true, if_pos (by omega), decide_eq_false (show ¬ 32 ≤ i by omega), Bool.not_false, Bool.true_and]
  · rw [decide_eq_false q, Bool.and_false, Bool.and_false]
theorem byN_ne (v : Int32) (i : Nat) : ¬ byN v i = -1 := by
  intro z
  have := congrArg (fun x => Int32.toBitVec x |>.getLsbD 31) z
  unfold byN at this
  rw [Int32.toBitVec_and, BitVec.getLsbD_and] at this
  have e1 : (255 : Int32).toBitVec.getLsbD 31 = false := by decide
  have e2 : (-1 : Int32).toBitVec.getLsbD 31 = true := by decide
  rw [e1, Bool.and_false, e2] at this
  cases this
section Ap
variable {S Sc Sm : ST} {q : Nat} {v : Int32}
theorem L11_s {s : Int32} (hs : ¬ s < 0) (e : S.1 1 0 = nJ q) (hq : q < 600) : L_11_3 v (s, S) = some (.inl (s + (-8), wI (wI S 2 q (cby v s)) 1 0 (nJ (q + 1)))) := by
  unfold L_11_3
  dsimp only
  rw [if_neg hs, e, if_pos (show nJ q < 600 from (nJ_lt (j := 600) (by omega) (by omega)).mpr hq), ck_t (ibd_n (by omega) (by omega)), sbn_e, nJ_ix (by omega), wI_1, if_neg (by omega), e, nJ_succ]
  rfl
theorem F11_eq (e : S.1 1 0 = nJ q) (hq : q + 4 ≤ 600) : ∃ S', F_11 v S = some ((), S') ∧ Fc [1, 2] S S' ∧ S'.1 1 0 = nJ (q + 4) ∧ ∀ j, S'.1 2 j = if q ≤ j ∧ j < q + 4 then byN v (j - q) else S.1 2 j := by
  have b0 : cby v 24 = byN v 0 := cby_N v (k := 0) (by omega)
  have b1 : cby v 16 = byN v 1 := cby_N v (k := 1) (by omega)
  have b2 : cby v 8 = byN v 2 := cby_N v (k := 2) (by omega)
  have b3 : cby v 0 = byN v 3 := cby_N v (k := 3) (by omega)
  have s0 := L11_s (v := v) (s := 24) (by decide) e (by omega)
  have e1 : (wI (wI S 2 q (cby v 24)) 1 0 (nJ (q + 1))).1 1 0 = nJ (q + 1) := by rw [wI_1, if_pos ⟨rfl, rfl⟩]
  have s1 := L11_s (v := v) (s := 16) (by decide) e1 (by omega)
  have e2 : (wI (wI (wI (wI S 2 q (cby v 24)) 1 0 (nJ (q + 1))) 2 (q + 1) (cby v 16)) 1 0 (nJ (q + 1 + 1))).1 1 0 = nJ (q + 1 + 1) := by rw [wI_1, if_pos ⟨rfl, rfl⟩]
  have s2 := L11_s (v := v) (s := 8) (by decide) e2 (by omega)
  have e3 : (wI (wI (wI (wI (wI (wI S 2 q (cby v 24)) 1 0 (nJ (q + 1))) 2 (q + 1) (cby v 16)) 1 0 (nJ (q + 1 + 1))) 2 (q + 1 + 1) (cby v 8)) 1 0 (nJ (q + 1 + 1 + 1))).1 1 0 = nJ (q + 1 + 1 + 1) := by rw [wI_1, if_pos ⟨rfl, rfl⟩]
  have s3 := L11_s (v := v) (s := 0) (by decide) e3 (by omega)
  have fI : ∀ (S1 : ST) h k w, h ∈ [1, 2] → Fc [1, 2] S S1 → Fc [1, 2] S (wI S1 h k w) := fun S1 h k w hh f => f.tr (Fc_I hh)
  refine ⟨wI (wI (wI (wI (wI (wI (wI (wI S 2 q (cby v 24)) 1 0 (nJ (q + 1))) 2 (q + 1) (cby v 16)) 1 0 (nJ (q + 1 + 1))) 2 (q + 1 + 1) (cby v 8)) 1 0 (nJ (q + 1 + 1 + 1))) 2 (q + 1 + 1 + 1) (cby v 0)) 1 0 (nJ (q + 1 + 1 + 1 + 1)), ?_, ?_, ?_, ?_⟩
  · unfold F_11
    rw [wh_5F s0 s1 s2 s3 (b := _) (by
      unfold L_11_3
      exact if_pos (show (0 : Int32) + -8 < 0 by decide)), ob_s]
  · exact fI _ _ _ _ (by decide) (fI _ _ _ _ (by decide) (fI _ _ _ _ (by decide) (fI _ _ _ _ (by decide) (fI _ _ _ _ (by decide) (fI _ _ _ _ (by decide) (fI _ _ _ _ (by decide) (fI _ _ _ _ (by decide) Fc.rf)))))))
  · rw [wI_1, if_pos ⟨rfl, rfl⟩]
  · intro j
    rw [b0, b1, b2, b3, wI_1, if_neg (by omega), wI_1]
    by_cases j3 : j = q + 1 + 1 + 1
    · rw [if_pos ⟨rfl, j3⟩, if_pos (by omega), show j - q = 3 by omega]
    · rw [if_neg (fun z => j3 z.2), wI_1, if_neg (by omega), wI_1]
      by_cases j2 : j = q + 1 + 1
      · rw [if_pos ⟨rfl, j2⟩, if_pos (by omega), show j - q = 2 by omega]
      · rw [if_neg (fun z => j2 z.2), wI_1, if_neg (by omega), wI_1]
        by_cases j1 : j = q + 1
        · rw [if_pos ⟨rfl, j1⟩, if_pos (by omega), show j - q = 1 by omega]
        · rw [if_neg (fun z => j1 z.2), wI_1, if_neg (by omega), wI_1]
          by_cases j0 : j = q
          · rw [if_pos ⟨rfl, j0⟩, if_pos (by omega), show j - q = 0 by omega]
          · rw [if_neg (fun z => j0 z.2), if_neg (by omega)]
def aw (v1 v2 v3 v4 v5 : Int32) (k : Nat) : Int32 := if k < 4 then v1 else if k < 8 then v2 else if k < 12 then v3 else if k < 16 then v4 else v5
theorem rem4 : ∀ a, a < 20 → nJ a - nJ a / 4 * 4 = nJ (a % 4) := by decide +kernel
theorem M185_23 {v1 v2 v3 v4 v5 : Int32} {b : Nat} (e : S.1 140 7 = nJ b) (hb : b + 20 ≤ 600) : ∃ S', wh FU (Lm_185_23 v1 v2 v3 v4 v5) (0, S) = some (nJ 20, S') ∧ Fm [144] [] S S' ∧ ∀ j, S'.1 144 j = if b ≤ j ∧ j < b + 20 then byN (aw v1 v2 v3 v4 v5 (j - b)) ((j - b) % 4) else S.1 144 j := by
  refine cpm (v := fun k => byN (aw v1 v2 v3 v4 v5 k) (k % 4)) (by omega) (fun S1 i f1 hi => ?_) (fun S1 _ => ?_)
  · have e1 : S1.1 140 7 = nJ b := by rw [f1.fld (by decide) (by decide)]; exact e
    have l4 : nJ i < (4 : Int32) ↔ i < 4 := nJ_lt (j := 4) (by omega) (by omega)
    have l8 : nJ i < (8 : Int32) ↔ i < 8 := nJ_lt (j := 8) (by omega) (by omega)
    have l12 : nJ i < (12 : Int32) ↔ i < 12 := nJ_lt (j := 12) (by omega) (by omega)
    have l16 : nJ i < (16 : Int32) ↔ i < 16 := nJ_lt (j := 16) (by omega) (by omega)
    have l20 : nJ i < (20 : Int32) ↔ i < 20 := nJ_lt (j := 20) (by omega) (by omega)
    have ew : (if nJ i < 4 then v1 else (if nJ i < 8 then v2 else (if nJ i < 12 then v3 else (if nJ i < 16 then v4 else v5)))) = aw v1 v2 v3 v4 v5 i := by
      unfold aw
      by_cases c1 : i < 4
      · rw [if_pos c1, if_pos (l4.mpr c1)]
      · rw [if_neg c1, if_neg (fun z => c1 (l4.mp z))]
        by_cases c2 : i < 8
        · rw [if_pos c2, if_pos (l8.mpr c2)]
        · rw [if_neg c2, if_neg (fun z => c2 (l8.mp z))]
          by_cases c3 : i < 12
          · rw [if_pos c3, if_pos (l12.mpr c3)]
          · rw [if_neg c3, if_neg (fun z => c3 (l12.mp z))]
            by_cases c4 : i < 16
            · rw [if_pos c4, if_pos (l16.mpr c4)]
            · rw [if_neg c4, if_neg (fun z => c4 (l16.mp z))]
    unfold Lm_185_23
    dsimp only
    rw [if_pos (show nJ i < 20 from l20.mpr hi), ew, e1, nJ_add, ck_t (ibd_n (by omega) (by omega)), sbn_e, nJ_ix (by omega), rem4 i hi, nJ_succ]
    rfl
  · unfold Lm_185_23
    dsimp only
    rw [if_neg (show ¬ nJ 20 < 20 by decide)]
theorem append_eq (R : Ro Sc Sm) (M : MOK Sm) (v1 v2 v3 v4 v5 : Int32) : ∃ a Sc' Sm', F_115 v1 v2 v3 v4 v5 Sc = some (a, Sc') ∧ F_185 v1 v2 v3 v4 v5 Sm = some (a, Sm') ∧ Ro Sc' Sm' ∧ Sm'.1 140 0 = 0 := by
  obtain ⟨⟨b, h1, h2, h3, h4⟩, r2, r3, r4, r5, r6, r7⟩ := id R
  have e20 : nJ b + 20 = nJ (b + 20) := nJ_add b 20
  have ft : Fm [] [0] Sm (wI Sm 140 0 0) := Fm_f (by decide)
  have Rt := Ro_t R M ft
  by_cases c : 600 < b + 20
  · have cc : (600 : Int32) < nJ (b + 20) := (nJ_lt (i := 600) (by omega) (by omega)).mpr c
    refine ⟨-1, Sc, wI Sm 140 0 0, ?_, ?_, Rt, by rw [wI_1, if_pos ⟨rfl, rfl⟩]⟩
    · unfold F_115
      rw [h1, e20, if_pos cc]
    · unfold F_185
      rw [h2, e20, if_pos cc]
  · have cc : ¬ (600 : Int32) < nJ (b + 20) := fun z => c ((nJ_lt (i := 600) (by omega) (by omega)).mp z)
    obtain ⟨S1, e1, f1, z1, w1⟩ := F11_eq (v := v1) h1 (by omega)
    obtain ⟨S2, e2, f2, z2, w2⟩ := F11_eq (v := v2) z1 (by omega)
    obtain ⟨S3, e3, f3, z3, w3⟩ := F11_eq (v := v3) z2 (by omega)
    obtain ⟨S4, e4, f4, z4, w4⟩ := F11_eq (v := v4) z3 (by omega)
    obtain ⟨S5, e5, f5, z5, w5⟩ := F11_eq (v := v5) z4 (by omega)
    have fC : Fc [1, 2] Sc S5 := (((f1.tr f2).tr f3).tr f4).tr f5
    obtain ⟨M1, m1, g1, w⟩ := M185_23 (S := wI Sm 140 0 0) (v1 := v1) (v2 := v2) (v3 := v3) (v4 := v4) (v5 := v5) (b := b) (by rw [wI_1, if_neg (by decide)]; exact h2) (by omega)
    have k7 : M1.1 140 7 = nJ b := by rw [g1.fld (by decide) (by decide), wI_1, if_neg (by decide)]; exact h2
    have fM0 : Fm [144] [0] Sm M1 := (Fm_f (by decide)).tr (g1.wk (by decide) (by decide))
    have fM : Fm [144] [0, 7] Sm (wI M1 140 7 (nJ (b + 20))) := (fM0.wk (by decide) (by decide)).tr (Fm_f (by decide))
    have fP : Fp (fun a => a = 1 ∨ a = 2) Sc S5 := Fc_p fC (fun x hx => by simpa using hx)
    refine ⟨nJ (b + 20), S5, wI M1 140 7 (nJ (b + 20)), ?_, ?_, ⟨⟨b + 20, ?_, ?_, by omega, fun i hi => ?_⟩, oE_f r2 fP (by omega) fM (by decide) (by decide) (by decide), oP_f r3 fP (fun a _ _ => by omega) (fun a _ _ => by omega) fM (by decide) (by decide) (by decide), oH_f r4 fP (fun a _ _ => by omega) fM (by decide) (by decide) (by decide) (by decide), oK_f r5 fP (fun a _ _ => by omega) fM (by decide) (by decide) (by decide) (by decide), oD_f r6 fP (by omega) (by omega) fM (by decide) (by decide) (by decide), fun q => ?_⟩, ?_⟩
    · unfold F_115
      rw [h1, e20, if_neg cc, e1, ob_s]
      dsimp only
      rw [e2, ob_s]
      dsimp only
      rw [e3, ob_s]
      dsimp only
      rw [e4, ob_s]
      dsimp only
      rw [e5, ob_s]
      dsimp only
      rw [z5]
    · unfold F_185
      rw [h2, e20, if_neg cc, m1, ob_s]
      dsimp only
      rw [k7, e20]
    · exact z5
    · rw [wI_1, if_pos ⟨rfl, rfl⟩]
    · rw [wI_1, if_neg (by omega), w i]
      have old : (wI Sm 140 0 0).1 144 i = Sm.1 144 i := by rw [wI_1, if_neg (by omega)]
      by_cases q : b ≤ i ∧ i < b + 20
      · rw [if_pos q]
        refine ⟨?_, byN_ne _ _⟩
        unfold aw
        rw [w5]
        by_cases q5 : b + 4 + 4 + 4 + 4 ≤ i ∧ i < b + 4 + 4 + 4 + 4 + 4
        · rw [if_pos q5, if_neg (by omega), if_neg (by omega), if_neg (by omega), if_neg (by omega), show i - (b + 4 + 4 + 4 + 4) = (i - b) % 4 by omega]
        · rw [if_neg q5, w4]
          by_cases q4 : b + 4 + 4 + 4 ≤ i ∧ i < b + 4 + 4 + 4 + 4
          · rw [if_pos q4, if_neg (by omega), if_neg (by omega), if_neg (by omega), if_pos (by omega), show i - (b + 4 + 4 + 4) = (i - b) % 4 by omega]
          · rw [if_neg q4, w3]
            by_cases q3 : b + 4 + 4 ≤ i ∧ i < b + 4 + 4 + 4
            · rw [if_pos q3, if_neg (by omega), if_neg (by omega), if_pos (by omega), show i - (b + 4 + 4) = (i - b) % 4 by omega]
            · rw [if_neg q3, w2]
              by_cases q2 : b + 4 ≤ i ∧ i < b + 4 + 4
              · rw [if_pos q2, if_neg (by omega), if_pos (by omega), show i - (b + 4) = (i - b) % 4 by omega]
              · rw [if_neg q2, w1, if_pos (by omega), if_pos (by omega), show i - b = (i - b) % 4 by omega, Nat.mod_mod]
      · rw [if_neg q, old, w5, if_neg (by omega), w4, if_neg (by omega), w3, if_neg (by omega), w2, if_neg (by omega), w1, if_neg (by omega)]
        exact h4 i hi
    · have q' : ¬ Sm.1 140 1 = 0 := by rw [fM.fld (by decide) (by decide)] at q; exact q
      have g : gSa Sm (wI M1 140 7 (nJ (b + 20))) := gSa_fm fM (by decide) (by decide) (by decide) (by decide) (by decide) (by decide)
      have hL := (M.2.1 q').1
      obtain ⟨c1, c2⟩ := r7 q'
      exact ⟨Ca_mv g hL.1 fP (fun a _ _ => by omega) c1, Cm_mv g hL.1 fM (by decide) (by decide) (by decide) (by decide) (by decide) (by decide) (by decide) (by decide) c2⟩
    · rw [wI_1, if_neg (by decide), g1.fld (by decide) (by decide), wI_1, if_pos ⟨rfl, rfl⟩]
end Ap
