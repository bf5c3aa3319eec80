/-! tokens: what they are, and the class reads them -/
theorem scE_cg {b b' : Nat → Int32} {lo hi : Int32} : ∀ (k p : Nat), (∀ j, p ≤ j → j < p + k → b j = b' j) → scE b lo hi k p = scE b' lo hi k p
  | 0, _, _ => rfl
  | k + 1, p, h => by
    unfold scE
    rw [h p (Nat.le_refl _) (by omega), scE_cg k (p + 1) (fun j h1 h2 => h j (by omega) (by omega))]
def BF (S : ST) (h : Nat) (b : Nat → Int32) : Prop := ∀ k, k < 600 → S.1 h k = b k
def rg (lo hi x : Int32) : Bool := !(decide (x < lo)) && !(decide (hi < x))
theorem rg_t {lo hi x : Int32} (h1 : ¬ x < lo) (h2 : ¬ hi < x) : rg lo hi x = true := by unfold rg; rw [decide_eq_false h1, decide_eq_false h2]; rfl
theorem rg_f1 {lo hi x : Int32} (h1 : x < lo) : rg lo hi x = false := by unfold rg; rw [decide_eq_true h1]; rfl
theorem rg_f2 {lo hi x : Int32} (h1 : hi < x) : rg lo hi x = false := by unfold rg; rw [decide_eq_true h1]; simp
theorem scE_s (b : Nat → Int32) (lo hi : Int32) (k p : Nat) : scE b lo hi (k + 1) p = if rg lo hi (b p) = true then scE b lo hi k (p + 1) else p := by
  have u : scE b lo hi (k + 1) p = if b p < lo then p else if hi < b p then p else scE b lo hi k (p + 1) := rfl
  rw [u]
  by_cases c : b p < lo
  · rw [if_pos c, if_neg (by rw [rg_f1 c]; decide)]
  · rw [if_neg c]
    by_cases d : hi < b p
    · rw [if_pos d, if_neg (by rw [rg_f2 d]; decide)]
    · rw [if_neg d, if_pos (rg_t c d)]
def dgt (b : Nat → Int32) : Nat → Nat → Int32 → Int32
  | 0, _, a => a
  | m + 1, p, a => dgt b m (p + 1) (a * 10 + (b p - 48))
theorem dgt_cg {b b' : Nat → Int32} : ∀ (k p : Nat) (a : Int32), (∀ j, p ≤ j → j < p + k → b j = b' j) → dgt b k p a = dgt b' k p a
  | 0, _, _, _ => rfl
  | k + 1, p, a, h => by
    unfold dgt
    rw [h p (Nat.le_refl _) (by omega), dgt_cg k (p + 1) _ (fun j h1 h2 => h j (by omega) (by omega))]
/-- a token's end, kind, value -/
def tkE (b : Nat → Int32) (n p : Nat) : Nat := if n ≤ p then p else if rg 97 122 (b p) = true then scE b 97 122 (n - p) p else if rg 48 57 (b p) = true then scE b 48 57 (n - p) p else p + 1
def tkK (b : Nat → Int32) (n p : Nat) : Int32 := if n ≤ p then 0 else if rg 97 122 (b p) = true then (if 8 < tkE b n p - p then 4 else 1) else if rg 48 57 (b p) = true then (if 4 < tkE b n p - p then 4 else 2) else if b p = 59 then 3 else 4
def tkV (b : Nat → Int32) (n p : Nat) : Int32 := dgt b (tkE b n p - p) p 0
noncomputable def tkW (b : Nat → Int32) (n p : Nat) (tx : List Int32) : Bool := chB (tkK b n p = 1 ∧ tkE b n p - p = tx.length ∧ ∀ i, i < tx.length → b (p + i) = tx.getD i 0)
theorem tkE_le {b : Nat → Int32} {n p : Nat} (h : p ≤ n) : p ≤ tkE b n p ∧ tkE b n p ≤ n := by
  have h1 := scE_le b 97 122 (n - p) p
  have h2 := scE_le b 48 57 (n - p) p
  unfold tkE
  split
  · omega
  · split
    · omega
    · split
      · omega
      · omega
def CK (S : ST) (n : Nat) (b : Nat → Int32) (p : Nat) : Prop := p ≤ n ∧ S.1 1 5 = nJ n ∧ S.1 1 2 = nJ p ∧ S.1 1 4 = nJ (tkE b n p) ∧ S.1 1 1 = tkK b n p ∧ (tkK b n p = 2 → S.1 1 3 = tkV b n p)
section Tk
variable {S : ST} {n k p : Nat} {b : Nat → Int32}
theorem BF_fc {S' : ST} {hs : List Nat} {h : Nat} (q : BF S h b) (hF : Fc hs S S') (hh : h ∉ hs) : BF S' h b := fun k hk => by rw [(hF h hh).1]; exact q k hk
theorem F14_b (h5 : S.1 1 5 = nJ n) (hn : n ≤ 600) (hp : p ≤ n) (hb : BF S 2 b) (lo hi : Int32) : F_14 (nJ p) lo hi S = some (nJ (scE b lo hi (n - p) p)) := by
  rw [F14_eq h5 hn hp, scE_cg (n - p) p (fun j _ h2 => hb j (by omega))]
theorem F15_eq {e : Nat} (h4 : S.1 1 4 = nJ e) (h2 : S.1 1 2 = nJ p) (he : e ≤ 600) (hp : p ≤ e) (hb : BF S 2 b) : F_15 S = some (dgt b (e - p) p 0) := by
  have key : ∃ z, wh FU (L_15_11 S) ((0 : Int32), nJ p) = some z ∧ z.1 = dgt b (e - p) p 0 := by
    refine wh_inv (I := fun m x => ∃ i a, i + m = e ∧ x = (a, nJ i) ∧ dgt b m i a = dgt b (e - p) p 0) ?_ FU (e - p) _ (FU_lt (by omega)) ⟨p, 0, by omega, rfl, rfl⟩
    rintro m x ⟨i, a, hi', rfl, q⟩
    unfold L_15_11
    rw [h4]
    by_cases c : i < e
    · obtain ⟨m', rfl⟩ : ∃ m', m = m' + 1 := ⟨m - 1, by omega⟩
      have ib : ibd (nJ i) 600 = true := ibd_n (by omega) (by omega)
      rw [if_pos (show nJ i < nJ e from (nJ_lt (by omega) (by omega)).mpr c), if_pos (show nJ i < 600 from (nJ_lt (j := 600) (by omega) (by omega)).mpr (by omega)), ck_t ib]
      refine Or.inl ⟨_, m', by omega, rfl, i + 1, _, by omega, Prod.ext rfl (nJ_succ i), ?_⟩
      rw [← q]
      show dgt b m' (i + 1) (a * 10 + (S.1 2 (nJ i).toNatClampNeg - 48)) = dgt b m' (i + 1) (a * 10 + (b i - 48))
      rw [nJ_ix (by omega), hb i (by omega)]
    · rw [if_neg (fun q => c ((nJ_lt (by omega) (by omega)).mp q))]
      have : m = 0 := by omega
      subst this
      exact Or.inr ⟨_, rfl, q⟩
  obtain ⟨z, e1, e2⟩ := key
  unfold F_15
  rw [h2, if_neg (nJ_nn (by omega)), e1, ob_s, e2]
theorem i4 {d : Nat} (h : d ≤ 600) : (4 : Int32) < nJ d ↔ 4 < d := nJ_lt (i := 4) (by omega) (by omega)
theorem i8 {d : Nat} (h : d ≤ 600) : (8 : Int32) < nJ d ↔ 8 < d := nJ_lt (i := 8) (by omega) (by omega)
theorem F13_eq (h5 : S.1 1 5 = nJ n) (h4 : S.1 1 4 = nJ k) (hn : n ≤ 600) (hk : k ≤ n) (hb : BF S 2 b) : ∃ S', F_13 S = some ((), S') ∧ Fc [1] S S' ∧ CK S' n b (scE b 32 32 (n - k) k) := by
  have hp1 := scE_le b 32 32 (n - k) k
  have e14 := F14_b h5 hn hk hb 32 32
  generalize scE b 32 32 (n - k) k = p at hp1 e14 ⊢
  have fc : ∀ q v (S1 : ST), Fc [1] S S1 → Fc [1] S (wI S1 1 q v) := fun q v S1 h => h.tr (Fc_I (by decide))
  unfold F_13
  rw [h4, e14, ob_s, h5]
  by_cases c : p < n
  · have hE := tkE_le (b := b) (show p ≤ n by omega)
    have b1 : BF (wI S 1 2 (nJ p)) 2 b := BF_fc hb (Fc_I (hs := [1]) (by decide)) (by decide)
    have g5 : (wI S 1 2 (nJ p)).1 1 5 = nJ n := by rw [wI_1, if_neg (by decide)]; exact h5
    have nle : ¬ n ≤ p := by omega
    rw [if_pos ((nJ_lt (by omega) (by omega)).mpr c), if_pos (show nJ p < 600 from (nJ_lt (j := 600) (by omega) (by omega)).mpr (by omega)), ck_t (ibd_n (by omega) (by omega)), nJ_ix (by omega), hb p (by omega)]
    have hC : rg 97 122 (b p) = false → rg 48 57 (b p) = false → ∃ S', (some ((), (wI (wI (wI S 1 2 (nJ p)) 1 4 (nJ p + 1)) 1 1 (if b p = 59 then 3 else 4))) : Option (Unit × ST)) = some ((), S') ∧ Fc [1] S S' ∧ CK S' n b p := fun q1 q2 => by
      have e : tkE b n p = p + 1 := by unfold tkE; rw [if_neg nle, if_neg (by rw [q1]; decide), if_neg (by rw [q2]; decide)]
      have ek : tkK b n p = if b p = 59 then 3 else 4 := by unfold tkK; rw [if_neg nle, if_neg (by rw [q1]; decide), if_neg (by rw [q2]; decide)]
      refine ⟨_, rfl, fc _ _ _ (fc _ _ _ (fc _ _ _ Fc.rf)), by omega, ?_, ?_, ?_, ?_, ?_⟩
      · rw [wI_1, if_neg (by decide), wI_1, if_neg (by decide)]; exact g5
      · rw [wI_1, if_neg (by decide), wI_1, if_neg (by decide), wI_1, if_pos ⟨rfl, rfl⟩]
      · rw [wI_1, if_neg (by decide), wI_1, if_pos ⟨rfl, rfl⟩, e, nJ_succ]
      · rw [wI_1, if_pos ⟨rfl, rfl⟩, ek]
      · intro z
        rw [ek] at z
        split at z
        · exact absurd z (by decide)
        · exact absurd z (by decide)
    have hB : rg 97 122 (b p) = false → rg 48 57 (b p) = true → ∃ S', (ob (F_14 (nJ p) 48 57 (wI S 1 2 (nJ p))) (fun w2 => if ((if (4 : Int32) < (w2 - nJ p) then 4 else 2) : Int32) = 2 then (ob (F_15 (wI (wI (wI S 1 2 (nJ p)) 1 4 w2) 1 1 (if (4 : Int32) < (w2 - nJ p) then 4 else 2))) (fun w3 => some ((), (wI (wI (wI (wI S 1 2 (nJ p)) 1 4 w2) 1 1 (if (4 : Int32) < (w2 - nJ p) then 4 else 2)) 1 3 w3)))) else (some ((), (wI (wI (wI (wI S 1 2 (nJ p)) 1 4 w2) 1 1 (if (4 : Int32) < (w2 - nJ p) then 4 else 2)) 1 3 0)))) : Option (Unit × ST)) = some ((), S') ∧ Fc [1] S S' ∧ CK S' n b p := fun q1 q2 => by
      have e : tkE b n p = scE b 48 57 (n - p) p := by unfold tkE; rw [if_neg nle, if_neg (by rw [q1]; decide), if_pos q2]
      have ek : tkK b n p = if 4 < tkE b n p - p then 4 else 2 := by unfold tkK; rw [if_neg nle, if_neg (by rw [q1]; decide), if_pos q2]
      rw [F14_b g5 hn (by omega) b1, ← e, ob_s, nJ_sub (by omega)]
      by_cases d : 4 < tkE b n p - p
      · rw [if_pos ((i4 (by omega)).mpr d), if_neg (by decide)]
        rw [if_pos d] at ek
        refine ⟨_, rfl, fc _ _ _ (fc _ _ _ (fc _ _ _ (fc _ _ _ Fc.rf))), by omega, ?_, ?_, ?_, ?_, ?_⟩
        · rw [wI_1, if_neg (by decide), wI_1, if_neg (by decide), wI_1, if_neg (by decide)]; exact g5
        · rw [wI_1, if_neg (by decide), wI_1, if_neg (by decide), wI_1, if_neg (by decide), wI_1, if_pos ⟨rfl, rfl⟩]
        · rw [wI_1, if_neg (by decide), wI_1, if_neg (by decide), wI_1, if_pos ⟨rfl, rfl⟩]
        · rw [wI_1, if_neg (by decide), wI_1, if_pos ⟨rfl, rfl⟩, ek]
        · intro z
          rw [ek] at z
          exact absurd z (by decide)
      · rw [if_neg (fun q => d ((i4 (by omega)).mp q)), if_pos rfl]
        rw [if_neg d] at ek
        rw [F15_eq (e := tkE b n p) (p := p) (b := b) (by rw [wI_1, if_neg (by decide), wI_1, if_pos ⟨rfl, rfl⟩]) (by rw [wI_1, if_neg (by decide), wI_1, if_neg (by decide), wI_1, if_pos ⟨rfl, rfl⟩]) (by omega) (by omega) (BF_fc (BF_fc b1 (Fc_I (hs := [1]) (by decide)) (by decide)) (Fc_I (hs := [1]) (by decide)) (by decide)), ob_s]
        refine ⟨_, rfl, fc _ _ _ (fc _ _ _ (fc _ _ _ (fc _ _ _ Fc.rf))), by omega, ?_, ?_, ?_, ?_, ?_⟩
        · rw [wI_1, if_neg (by decide), wI_1, if_neg (by decide), wI_1, if_neg (by decide)]; exact g5
        · rw [wI_1, if_neg (by decide), wI_1, if_neg (by decide), wI_1, if_neg (by decide), wI_1, if_pos ⟨rfl, rfl⟩]
        · rw [wI_1, if_neg (by decide), wI_1, if_neg (by decide), wI_1, if_pos ⟨rfl, rfl⟩]
        · rw [wI_1, if_neg (by decide), wI_1, if_pos ⟨rfl, rfl⟩, ek]
        · intro _
          rw [wI_1, if_pos ⟨rfl, rfl⟩]
          rfl
    have hA : rg 97 122 (b p) = true → ∃ S', (ob (F_14 (nJ p) 97 122 (wI S 1 2 (nJ p))) (fun w6 => some ((), (wI (wI (wI S 1 2 (nJ p)) 1 4 w6) 1 1 (if (8 : Int32) < (w6 - nJ p) then 4 else 1)))) : Option (Unit × ST)) = some ((), S') ∧ Fc [1] S S' ∧ CK S' n b p := fun q1 => by
      have e : tkE b n p = scE b 97 122 (n - p) p := by unfold tkE; rw [if_neg nle, if_pos q1]
      have ek : tkK b n p = if 8 < tkE b n p - p then 4 else 1 := by unfold tkK; rw [if_neg nle, if_pos q1]
      rw [F14_b g5 hn (by omega) b1, ← e, ob_s, nJ_sub (by omega)]
      refine ⟨_, rfl, fc _ _ _ (fc _ _ _ (fc _ _ _ Fc.rf)), by omega, ?_, ?_, ?_, ?_, ?_⟩
      · rw [wI_1, if_neg (by decide), wI_1, if_neg (by decide)]; exact g5
      · rw [wI_1, if_neg (by decide), wI_1, if_neg (by decide), wI_1, if_pos ⟨rfl, rfl⟩]
      · rw [wI_1, if_neg (by decide), wI_1, if_pos ⟨rfl, rfl⟩]
      · rw [wI_1, if_pos ⟨rfl, rfl⟩, ek]
        by_cases d : 8 < tkE b n p - p
        · rw [if_pos ((i8 (by omega)).mpr d), if_pos d]
        · rw [if_neg (fun q => d ((i8 (by omega)).mp q)), if_neg d]
      · intro z
        rw [ek] at z
        split at z
        · exact absurd z (by decide)
        · exact absurd z (by decide)
    by_cases c1 : b p < 97
    · have q1 := rg_f1 (hi := 122) c1
      rw [if_pos c1]
      by_cases c2 : b p < 48
      · rw [if_pos c2]; exact hC q1 (rg_f1 c2)
      · rw [if_neg c2]
        by_cases c3 : 57 < b p
        · rw [if_pos c3]; exact hC q1 (rg_f2 c3)
        · rw [if_neg c3]; exact hB q1 (rg_t c2 c3)
    · rw [if_neg c1]
      by_cases c4 : 122 < b p
      · have q1 := rg_f2 (lo := 97) c4
        rw [if_pos c4]
        by_cases c2 : b p < 48
        · rw [if_pos c2]; exact hC q1 (rg_f1 c2)
        · rw [if_neg c2]
          by_cases c3 : 57 < b p
          · rw [if_pos c3]; exact hC q1 (rg_f2 c3)
          · rw [if_neg c3]; exact hB q1 (rg_t c2 c3)
      · rw [if_neg c4]; exact hA (rg_t c1 c4)
  · have hpn : p = n := by omega
    subst hpn
    have e : tkE b p p = p := by unfold tkE; rw [if_pos (Nat.le_refl _)]
    have ek : tkK b p p = 0 := by unfold tkK; rw [if_pos (Nat.le_refl _)]
    rw [if_neg (fun q => c ((nJ_lt (by omega) (by omega)).mp q))]
    refine ⟨_, rfl, fc _ _ _ (fc _ _ _ (fc _ _ _ Fc.rf)), Nat.le_refl _, ?_, ?_, ?_, ?_, ?_⟩
    · rw [wI_1, if_neg (by decide), wI_1, if_neg (by decide), wI_1, if_neg (by decide)]; exact h5
    · rw [wI_1, if_neg (by decide), wI_1, if_neg (by decide), wI_1, if_pos ⟨rfl, rfl⟩]
    · rw [wI_1, if_pos ⟨rfl, rfl⟩, e]
    · rw [wI_1, if_neg (by decide), wI_1, if_pos ⟨rfl, rfl⟩, ek]
    · intro z
      rw [ek] at z
      exact absurd z (by decide)
/-- the next token -/
def tkS (b : Nat → Int32) (n p : Nat) : Nat := scE b 32 32 (n - tkE b n p) (tkE b n p)
theorem F13_c (hc : CK S n b p) (hn : n ≤ 600) (hb : BF S 2 b) : ∃ S', F_13 S = some ((), S') ∧ Fc [1] S S' ∧ CK S' n b (tkS b n p) := F13_eq hc.2.1 hc.2.2.2.1 hn (tkE_le hc.1).2 hb
theorem F12_eq (hn : n ≤ 600) (hb : BF S 2 b) : ∃ S', F_12 (nJ n) S = some ((), S') ∧ Fc [1] S S' ∧ CK S' n b (scE b 32 32 n 0) := by
  obtain ⟨S', e, hF, q⟩ := F13_eq (S := wI (wI S 1 5 (nJ n)) 1 4 0) (n := n) (k := 0) (b := b) (by rw [wI_1, if_neg (by decide), wI_1, if_pos ⟨rfl, rfl⟩]) (by rw [wI_1, if_pos ⟨rfl, rfl⟩]; rfl) hn (Nat.zero_le _) (BF_fc (BF_fc hb (Fc_I (hs := [1]) (by decide)) (by decide)) (Fc_I (hs := [1]) (by decide)) (by decide))
  refine ⟨S', ?_, ((Fc_I (by decide)).tr (Fc_I (by decide))).tr hF, q⟩
  unfold F_12
  rw [e]
  rfl
theorem F16_eq (hc : CK S n b p) (hn : n ≤ 600) (hb : BF S 2 b) {tx : List Int32} (hl : tx.length ≤ 8) : F_16 tx S = some (tkW b n p tx) := by
  obtain ⟨h0, h5, h2, h4, h1, _⟩ := hc
  have hE := tkE_le (b := b) h0
  have f : ¬ (tkK b n p = 1 ∧ tkE b n p - p = tx.length ∧ ∀ i, i < tx.length → b (p + i) = tx.getD i 0) → tkW b n p tx = false := fun z => by
    unfold tkW
    exact Bool.eq_false_iff.mpr (fun q => z (chB_t.mp q))
  unfold F_16
  rw [h1, h4, h2]
  by_cases c : tkK b n p = 1
  · rw [if_pos c, nJ_sub hE.1]
    by_cases d : tkE b n p - p = tx.length
    · rw [if_pos (show nJ (tkE b n p - p) = Int32.ofNat tx.length by rw [d]; rfl), if_neg (nJ_nn (by omega))]
      have step : ∀ i, i < tkE b n p → p ≤ i → L_16_35 tx S (nJ i) = if b i = tx.getD (i - p) 0 then some (.inl (nJ (i + 1))) else some (.inr (.inr false)) := fun i hi hp => by
        unfold L_16_35
        have l : nJ (i - p) < Int32.ofNat tx.length := (nJ_lt (j := tx.length) (by omega) (by omega)).mpr (by omega)
        rw [h4, h2, if_pos ((nJ_lt (by omega) (by omega)).mpr hi), if_pos (show nJ i < 600 from (nJ_lt (j := 600) (by omega) (by omega)).mpr (by omega)), nJ_sub hp, if_neg (nJ_nn (by omega)), if_pos l, ck_t (ibd_n (by omega) (by omega)), ck_t (ibd_n (by omega) (by omega)), nJ_ix (by omega), nJ_ix (by omega), hb i (by omega), nJ_succ]
      have key : ∃ z, wh FU (L_16_35 tx S) (nJ p) = some z ∧ z = if (∀ i, i < tx.length → b (p + i) = tx.getD i 0) then .inl (nJ (tkE b n p)) else .inr false := by
        refine wh_inv (I := fun m x => ∃ i, i + m = tkE b n p ∧ p ≤ i ∧ x = nJ i ∧ ∀ j, j < i - p → b (p + j) = tx.getD j 0) ?_ FU (tkE b n p - p) _ (FU_lt (by omega)) ⟨p, by omega, Nat.le_refl _, rfl, fun j hj => absurd hj (by omega)⟩
        rintro m x ⟨i, hi', hp, rfl, q⟩
        by_cases c2 : i < tkE b n p
        · rw [step i c2 hp]
          by_cases c3 : b i = tx.getD (i - p) 0
          · rw [if_pos c3]
            refine Or.inl ⟨_, m - 1, by omega, rfl, i + 1, by omega, by omega, rfl, fun j hj => ?_⟩
            rcases Nat.lt_or_ge j (i - p) with z | z
            · exact q j z
            · have : j = i - p := by omega
              rw [this, show p + (i - p) = i by omega]
              exact c3
          · rw [if_neg c3]
            refine Or.inr ⟨_, rfl, ?_⟩
            rw [if_neg (fun z => c3 (by have := z (i - p) (by omega); rw [show p + (i - p) = i by omega] at this; exact this))]
        · unfold L_16_35
          rw [h4, if_neg (fun q => c2 ((nJ_lt (by omega) (by omega)).mp q))]
          refine Or.inr ⟨_, rfl, ?_⟩
          rw [if_pos (fun j hj => q j (by omega)), show i = tkE b n p by omega]
      obtain ⟨z, e1, e2⟩ := key
      rw [e1, ob_s, e2]
      by_cases c3 : ∀ i, i < tx.length → b (p + i) = tx.getD i 0
      · rw [if_pos c3]
        show some true = _
        unfold tkW
        rw [chB_t.mpr ⟨c, d, c3⟩]
      · rw [if_neg c3, f (fun z => c3 z.2.2)]
        rfl
    · rw [if_neg (show ¬ nJ (tkE b n p - p) = Int32.ofNat tx.length from fun q => d ((nJ_eq (j := tx.length) (by omega) (by omega)).mp q)), f (fun z => d z.2.1)]
  · rw [if_neg c, f (fun z => c z.1)]
end Tk
