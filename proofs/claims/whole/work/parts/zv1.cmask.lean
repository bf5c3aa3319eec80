/-! the vertices of a colour; the smallest colour class -/
theorem nJ_or (a b : Nat) : nJ a ||| nJ b = nJ (a ||| b) := by
  apply Int32.toBitVec_inj.mp
  rw [Int32.toBitVec_or]
  show BitVec.ofNat 32 a ||| BitVec.ofNat 32 b = BitVec.ofNat 32 (a ||| b)
  exact BitVec.ofNat_or.symm
def cmk (c : Nat → Nat) (k : Nat) (i a : Nat) : Nat := if c i = k then a ||| 2 ^ i else a
def cmN (c : Nat → Nat) (k N : Nat) : Nat := fr (cmk c k) 0 N 0
theorem cmN_lt (c : Nat → Nat) (k : Nat) : ∀ N, cmN c k N < 2 ^ N
  | 0 => by show 0 < 1; omega
  | N + 1 => by
    have ih := cmN_lt c k N
    unfold cmN at ih ⊢
    rw [fr_snoc, Nat.zero_add]
    have p := Nat.pow_lt_pow_right (show 1 < 2 by omega) (show N < N + 1 by omega)
    unfold cmk at ih ⊢
    split
    · exact Nat.or_lt_two_pow (by omega) p
    · omega
theorem wh_in {A B : Type} {f : A → Option (A ⊕ B)} {a a' : A} {m : Nat} (h : f a = some (.inl a')) : wh (m + 1) f a = wh m f a' := by
  show wh (m + 1) f a = _
  unfold wh
  rw [h]
  cases m <;> rfl
theorem wh_out {A B : Type} {f : A → Option (A ⊕ B)} {a : A} {b : B} {m : Nat} (h : f a = some (.inr b)) : wh (m + 1) f a = some b := by
  unfold wh
  rw [h]
section Cm
variable {S M : ST} {c : Nat → Nat}
theorem F92_eq {v : Nat} (hv : v < 12) : F_92 (nJ v) S = some (S.1 37 v) := by
  unfold F_92
  rw [if_neg (nJ_nn (by omega)), if_pos (show nJ v < 12 from (nJ_lt (j := 12) (by omega) (by omega)).mpr hv), ck_t (ibd_n (by omega) (by omega)), nJ_ix (by omega)]
theorem F94_eq {N : Nat} (hN : N ≤ 12) (h0 : S.1 3 0 = nJ N) (c3 : ∀ v, c v < 3) (hc : ∀ v, v < N → S.1 37 v = nJ (c v)) {k : Nat} (hk : k < 3) : F_94 (nJ k) S = some (nJ (cmN c k N)) := by
  have run := wh_fr (f := L_94_4 (nJ k) S) (fun i (a : Nat) => (nJ a, nJ i)) (cmk c k) N (fun a => (nJ a, nJ N)) (fun i a hi => by
    unfold L_94_4
    dsimp only
    have := c3 i
    rw [h0, if_pos ((nJ_lt (by omega) (by omega)).mpr hi), F92_eq (by omega), ob_s, hc i hi, nJ_succ, shl_N i (by omega)]
    unfold cmk
    by_cases z : c i = k
    · rw [if_pos (by rw [z]), if_pos z, nJ_or]
    · rw [if_neg (fun q => z ((nJ_eq (by omega) (by omega)).mp q)), if_neg z]) (fun a => by
    unfold L_94_4
    dsimp only
    rw [h0, if_neg (fun z => by have := (nJ_lt (by omega) (by omega)).mp z; omega)]) (FU_lt (by omega)) 0
  unfold F_94
  rw [show ((0 : Int32), (0 : Int32)) = (nJ 0, nJ 0) from rfl, run, ob_s]
  rfl
theorem F257_eq (g : GR S 141) (c3 : ∀ v, c v < 3) (hc : ∀ v, v < rN S 141 → S.1 158 v = nJ (c v)) {k : Nat} (hk : k < 3) : F_257 (nJ k) S = some (nJ (cmN c k (rN S 141))) := by
  have h12 := g.1.2
  unfold F_257
  rw [ck_t (chB_t.mpr g.1)]
  unfold f_257
  refine congrArg some ?_
  have key : ∀ N, N ≤ rN S 141 → fr (fun i a => a ||| (if (ra S 158 (nJ i)) = nJ k then 1 <<< (nJ i &&& 31) else 0)) 0 N 0 = nJ (cmN c k N) := by
    intro N
    induction N with
    | zero => intro _; rfl
    | succ N ih =>
      intro h
      unfold cmN at ih ⊢
      rw [fr_snoc, fr_snoc, ih (by omega), Nat.zero_add]
      have e : ra S 158 (nJ N) = nJ (c N) := by
        unfold ra
        rw [nJ_ix (by omega)]
        exact hc N (by omega)
      have := c3 N
      rw [e]
      unfold cmk
      by_cases z : c N = k
      · rw [if_pos (by rw [z]), if_pos z, shl_N N (by omega), nJ_or]
      · rw [if_neg (fun q => z ((nJ_eq (by omega) (by omega)).mp q)), if_neg z]
        show nJ _ ||| nJ 0 = _
        rw [nJ_or, Nat.or_zero]
  exact key _ (Nat.le_refl _)
/-- the first smallest -/
def bsc (N : Nat) (c : Nat → Nat) (k b : Nat) : Nat := if pop 12 (cmN c k N) < pop 12 b then cmN c k N else b
theorem cm_4096 {N k : Nat} (hN : N ≤ 12) : cmN c k N < 4096 := Nat.lt_of_lt_of_le (cmN_lt c k N) (Nat.pow_le_pow_right (show 0 < 2 by omega) hN)
theorem bsc_lt {N : Nat} (hN : N ≤ 12) {k b : Nat} (hb : b < 4096) : bsc N c k b < 4096 := by
  unfold bsc
  split
  · exact cm_4096 hN
  · exact hb
theorem F93_eq {N : Nat} (hN : N ≤ 12) (h0 : S.1 3 0 = nJ N) (c3 : ∀ v, c v < 3) (hc : ∀ v, v < N → S.1 37 v = nJ (c v)) : F_93 S = some (nJ (bsc N c 2 (bsc N c 1 (cmN c 0 N)))) := by
  have b0 := cm_4096 (c := c) (k := 0) hN
  have st : ∀ k, k < 3 → ∀ b, b < 4096 → L_93_8 S (nJ b, nJ k) = some (.inl (nJ (bsc N c k b), nJ (k + 1))) := fun k hk b hb => by
    unfold L_93_8
    dsimp only
    have bk := cm_4096 (c := c) (k := k) hN
    have p1 := pop_le 12 (cmN c k N)
    have p2 := pop_le 12 b
    rw [if_pos (show nJ k < 3 from (nJ_lt (j := 3) (by omega) (by omega)).mpr hk), F94_eq hN h0 c3 hc hk, ob_s, (cn_t bk).1, (cn_t hb).1, nJ_succ]
    unfold bsc
    by_cases z : pop 12 (cmN c k N) < pop 12 b
    · rw [if_pos ((nJ_lt (by omega) (by omega)).mpr z), if_pos z]
    · rw [if_neg (fun q => z ((nJ_lt (by omega) (by omega)).mp q)), if_neg z]
  have fin : ∀ b, L_93_8 S (nJ b, nJ 3) = some (.inr (nJ b, nJ 3)) := fun b => by
    unfold L_93_8
    dsimp only
    rw [if_neg (show ¬ nJ 3 < 3 by decide)]
  have l1 := bsc_lt (c := c) hN (k := 1) b0
  unfold F_93
  rw [show (0 : Int32) = nJ 0 from rfl, F94_eq hN h0 c3 hc (by omega), ob_s]
  have e : wh FU (L_93_8 S) (nJ (cmN c 0 N), 1) = some (nJ (bsc N c 2 (bsc N c 1 (cmN c 0 N))), nJ 3) := by
    show wh (999999 + 1) (L_93_8 S) (nJ (cmN c 0 N), nJ 1) = _
    rw [wh_in (st 1 (by omega) _ b0)]
    show wh (999998 + 1) (L_93_8 S) _ = _
    rw [wh_in (st 2 (by omega) _ l1)]
    show wh (999997 + 1) (L_93_8 S) _ = _
    rw [wh_out (fin _)]
  rw [e, ob_s]
theorem M258_eq (g : GR S 141) (c3 : ∀ v, c v < 3) (hc : ∀ v, v < rN S 141 → S.1 158 v = nJ (c v)) : ob (F_257 0 S) (fun w3 => ob (wh FU (Lm_258_21 S) (w3, 1)) (fun e21 => some (e21.1, S))) = some (nJ (bsc (rN S 141) c 2 (bsc (rN S 141) c 1 (cmN c 0 (rN S 141)))), S) := by
  have hN := g.1.2
  have b0 := cm_4096 (c := c) (k := 0) hN
  have st : ∀ k, k < 3 → ∀ b, b < 4096 → Lm_258_21 S (nJ b, nJ k) = some (.inl (nJ (bsc (rN S 141) c k b), nJ (k + 1))) := fun k hk b hb => by
    unfold Lm_258_21
    dsimp only
    have bk := cm_4096 (c := c) (k := k) hN
    have p1 := pop_le 12 (cmN c k (rN S 141))
    have p2 := pop_le 12 b
    rw [if_pos (show nJ k < 3 from (nJ_lt (j := 3) (by omega) (by omega)).mpr hk), F257_eq g c3 hc hk, ob_s, (cn_t bk).2, (cn_t hb).2, nJ_succ]
    unfold bsc
    by_cases z : pop 12 (cmN c k (rN S 141)) < pop 12 b
    · rw [if_pos ((nJ_lt (by omega) (by omega)).mpr z), if_pos z, ob_s]
    · rw [if_neg (fun q => z ((nJ_lt (by omega) (by omega)).mp q)), if_neg z]
  have fin : ∀ b, Lm_258_21 S (nJ b, nJ 3) = some (.inr (nJ b, nJ 3)) := fun b => by
    unfold Lm_258_21
    dsimp only
    rw [if_neg (show ¬ nJ 3 < 3 by decide)]
  have l1 := bsc_lt (c := c) hN (k := 1) b0
  rw [show (0 : Int32) = nJ 0 from rfl, F257_eq g c3 hc (by omega), ob_s]
  have e : wh FU (Lm_258_21 S) (nJ (cmN c 0 (rN S 141)), 1) = some (nJ (bsc (rN S 141) c 2 (bsc (rN S 141) c 1 (cmN c 0 (rN S 141)))), nJ 3) := by
    show wh (999999 + 1) (Lm_258_21 S) (nJ (cmN c 0 (rN S 141)), nJ 1) = _
    rw [wh_in (st 1 (by omega) _ b0)]
    show wh (999998 + 1) (Lm_258_21 S) _ = _
    rw [wh_in (st 2 (by omega) _ l1)]
    show wh (999997 + 1) (Lm_258_21 S) _ = _
    rw [wh_out (fin _)]
  rw [e, ob_s]
end Cm
