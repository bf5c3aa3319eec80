/-! the reference reads tokens -/
def svb (b : Nat → Int32) (n k : Nat) : Int32 := if k < n then b k else -1
theorem rg_1 (lo hi : Int32) (h : (-1 : Int32) < lo) : rg lo hi (-1) = false := rg_f1 h
theorem rg_32 (x : Int32) : rg 32 32 x = true ↔ x = 32 := by
  constructor
  · intro h
    unfold rg at h
    simp only [Bool.and_eq_true, Bool.not_eq_true', decide_eq_false_iff_not] at h
    have h1 := h.1
    have h2 := h.2
    rw [i32_lt] at h1 h2
    exact Int32.toInt_inj.mp (by omega)
  · rintro rfl
    exact rg_t (by decide) (by decide)
theorem scE_v (b : Nat → Int32) {lo hi : Int32} (h : (-1 : Int32) < lo) {n m i : Nat} (hi' : i + m = n) : (rg lo hi (svb b n i) = true ∧ (∃ m', m = m' + 1 ∧ scE b lo hi m i = scE b lo hi m' (i + 1))) ∨ (rg lo hi (svb b n i) = false ∧ scE b lo hi m i = i) := by
  by_cases c : i < n
  · obtain ⟨m', rfl⟩ : ∃ m', m = m' + 1 := ⟨m - 1, by omega⟩
    have e : svb b n i = b i := if_pos c
    rw [e, scE_s]
    by_cases d : rg lo hi (b i) = true
    · rw [if_pos d]; exact Or.inl ⟨d, m', rfl, rfl⟩
    · rw [if_neg d]; exact Or.inr ⟨by simpa using d, rfl⟩
  · have e : svb b n i = -1 := if_neg c
    rw [e, rg_1 lo hi h]
    have : m = 0 := by omega
    subst this
    exact Or.inr ⟨rfl, rfl⟩
theorem dgt_r (b : Nat → Int32) : ∀ (m p : Nat) (a : Int32), dgt b (m + 1) p a = dgt b m p a * 10 + (b (p + m) - 48)
  | 0, p, a => rfl
  | m + 1, p, a => by
    have u : dgt b (m + 1 + 1) p a = dgt b (m + 1) (p + 1) (a * 10 + (b p - 48)) := rfl
    rw [u, dgt_r b m (p + 1)]
    have u2 : dgt b (m + 1) p a = dgt b m (p + 1) (a * 10 + (b p - 48)) := rfl
    rw [u2, show p + 1 + m = p + (m + 1) by omega]
theorem i32_dg (v w : Int32) : ((10 * v) + w) - 48 = v * 10 + (w - 48) := by
  rw [Int32.mul_comm 10 v, Int32.sub_eq_add_neg, Int32.sub_eq_add_neg, Int32.add_assoc]
def MK (S : ST) (n : Nat) (b : Nat → Int32) (p : Nat) : Prop := p ≤ n ∧ S.1 140 10 = nJ n ∧ S.1 140 12 = nJ p ∧ S.1 140 11 = nJ (tkE b n p) ∧ S.1 140 13 = tkK b n p ∧ (tkK b n p = 2 → S.1 140 16 = tkV b n p) ∧ (tkK b n p = 1 → S.1 140 15 = nJ (tkE b n p - p) ∧ ∀ i, i < tkE b n p - p → S.1 145 i = b (p + i))
section Tm
variable {S : ST} {n k p : Nat} {b : Nat → Int32}
theorem BF_fm {S' : ST} {hs fs : List Nat} (q : BF S 144 b) (hF : Fm hs fs S S') (hh : 144 ∉ hs) : BF S' 144 b := fun k hk => by rw [hF.row hh (by decide)]; exact q k hk
theorem M189_eq (h10 : S.1 140 10 = nJ n) (hn : n ≤ 600) (hk : k ≤ 600) (hb : BF S 144 b) : F_189 (nJ k) S = some (svb b n k) := by
  unfold F_189 svb
  rw [h10]
  by_cases c : k < n
  · rw [if_pos ((nJ_lt (by omega) (by omega)).mpr c), if_pos c, ck_t (ibd_n (by omega) (by omega)), nJ_ix (by omega), hb k (by omega)]
  · rw [if_neg (fun q => c ((nJ_lt (by omega) (by omega)).mp q)), if_neg c]
theorem M192_0 (h10 : S.1 140 10 = nJ n) (h11 : S.1 140 11 = nJ k) (hn : n ≤ 600) (hk : k ≤ n) (hb : BF S 144 b) : ∃ e0, wh FU Lm_192_0 S = some e0 ∧ Fm [] [11] S e0 ∧ e0.1 140 11 = nJ (scE b 32 32 (n - k) k) := by
  refine wh_inv (I := fun m x => ∃ i, i + m = n ∧ Fm [] [11] S x ∧ x.1 140 11 = nJ i ∧ scE b 32 32 m i = scE b 32 32 (n - k) k) ?_ FU (n - k) _ (FU_lt (by omega)) ⟨k, by omega, Fm.rf, h11, rfl⟩
  rintro m x ⟨i, hi', hF, h1, q⟩
  have x10 : x.1 140 10 = nJ n := by rw [hF.fld (by decide) (by decide)]; exact h10
  unfold Lm_192_0
  rw [h1, M189_eq x10 hn (by omega) (BF_fm hb hF (by decide)), ob_s]
  rcases scE_v b (lo := 32) (hi := 32) (by decide) hi' with ⟨z, m', rfl, e⟩ | ⟨z, e⟩
  · rw [if_pos ((rg_32 _).mp z)]
    refine Or.inl ⟨_, m', by omega, rfl, i + 1, by omega, hF.tr (Fm_f (by decide)), ?_, by rw [← q, e]⟩
    rw [wI_1, if_pos ⟨rfl, rfl⟩, nJ_succ]
  · rw [if_neg (fun y => by rw [(rg_32 _).mpr y] at z; cases z)]
    exact Or.inr ⟨_, rfl, hF, by rw [h1, ← q, e]⟩
theorem M192_68 {v : Int32} (h10 : S.1 140 10 = nJ n) (h11 : S.1 140 11 = nJ p) (h15 : S.1 140 15 = 0) (hn : n ≤ 600) (hp : p ≤ n) (hb : BF S 144 b) : ∃ e0, wh FU (Lm_192_68 v) S = some e0 ∧ Fm [145] [11, 15] S e0 ∧ e0.1 140 11 = nJ (scE b 97 122 (n - p) p) ∧ e0.1 140 15 = nJ (scE b 97 122 (n - p) p - p) ∧ ∀ j, j < scE b 97 122 (n - p) p - p → j < 8 → e0.1 145 j = b (p + j) := by
  refine wh_inv (I := fun m x => ∃ i, i + m = n ∧ p ≤ i ∧ Fm [145] [11, 15] S x ∧ x.1 140 11 = nJ i ∧ x.1 140 15 = nJ (i - p) ∧ (∀ j, j < i - p → j < 8 → x.1 145 j = b (p + j)) ∧ scE b 97 122 m i = scE b 97 122 (n - p) p) ?_ FU (n - p) _ (FU_lt (by omega)) ⟨p, by omega, Nat.le_refl _, Fm.rf, h11, by rw [h15, Nat.sub_self]; rfl, fun j hj => absurd hj (by omega), rfl⟩
  rintro m x ⟨i, hi', hp', hF, h1, h2, h3, q⟩
  have x10 : x.1 140 10 = nJ n := by rw [hF.fld (by decide) (by decide)]; exact h10
  have e189 := M189_eq x10 hn (show i ≤ 600 by omega) (BF_fm hb hF (by decide))
  unfold Lm_192_68
  rw [h1, h2, e189, ob_s, ob_s]
  rcases scE_v b (lo := 97) (hi := 122) (by decide) hi' with ⟨z, m', rfl, e⟩ | ⟨z, e⟩
  · rw [if_pos (show F_190 (svb b n i) = true from z)]
    have ev : svb b n i = b i := if_pos (by omega)
    by_cases c : i - p < 8
    · rw [if_pos (show nJ (i - p) < 8 from (nJ_lt (j := 8) (by omega) (by omega)).mpr c), ck_t (ibd_n (by omega) (by omega)), nJ_ix (by omega), sbn_e]
      refine Or.inl ⟨_, m', by omega, rfl, i + 1, by omega, by omega, ((hF.tr (Fm_a (by decide))).tr (Fm_f (by decide))).tr (Fm_f (by decide)), ?_, ?_, ?_, by rw [← q, e]⟩
      · rw [wI_1, if_pos ⟨rfl, rfl⟩, wI_1, if_neg (by omega), h1, nJ_succ]
      · rw [wI_1, if_neg (by decide), wI_1, if_pos ⟨rfl, rfl⟩, wI_1, if_neg (by omega), h2, nJ_succ, show i + 1 - p = i - p + 1 by omega]
      · intro j hj h8
        rw [wI_1, if_neg (by omega), wI_1, if_neg (by omega), wI_1]
        by_cases d : j = i - p
        · rw [if_pos ⟨rfl, d⟩, ev, d, show p + (i - p) = i by omega]
        · rw [if_neg (fun w => d w.2)]
          exact h3 j (by omega) h8
    · rw [if_neg (show ¬ nJ (i - p) < 8 from fun w => c ((nJ_lt (j := 8) (by omega) (by omega)).mp w))]
      refine Or.inl ⟨_, m', by omega, rfl, i + 1, by omega, by omega, (hF.tr (Fm_f (by decide))).tr (Fm_f (by decide)), ?_, ?_, ?_, by rw [← q, e]⟩
      · rw [wI_1, if_pos ⟨rfl, rfl⟩, nJ_succ]
      · rw [wI_1, if_neg (by decide), wI_1, if_pos ⟨rfl, rfl⟩, nJ_succ, show i + 1 - p = i - p + 1 by omega]
      · intro j hj h8
        rw [wI_1, if_neg (by omega), wI_1, if_neg (by omega)]
        exact h3 j (by omega) h8
  · rw [if_neg (show ¬ F_190 (svb b n i) = true by show ¬ rg 97 122 (svb b n i) = true; rw [z]; decide)]
    rw [e] at q
    exact Or.inr ⟨_, rfl, hF, by rw [h1, ← q], by rw [h2, ← q], by rw [← q]; exact h3⟩
theorem M192_166 {v : Int32} (h10 : S.1 140 10 = nJ n) (h11 : S.1 140 11 = nJ p) (h16 : S.1 140 16 = 0) (hn : n ≤ 600) (hp : p ≤ n) (hb : BF S 144 b) : ∃ e0, wh FU (Lm_192_166 v) ((0 : Int32), S) = some e0 ∧ e0.1 = nJ (scE b 48 57 (n - p) p - p) ∧ Fm [] [11, 16] S e0.2 ∧ e0.2.1 140 11 = nJ (scE b 48 57 (n - p) p) ∧ (scE b 48 57 (n - p) p - p ≤ 4 → e0.2.1 140 16 = dgt b (scE b 48 57 (n - p) p - p) p 0) := by
  refine wh_inv (I := fun m x => ∃ i, i + m = n ∧ p ≤ i ∧ x.1 = nJ (i - p) ∧ Fm [] [11, 16] S x.2 ∧ x.2.1 140 11 = nJ i ∧ (i - p ≤ 4 → x.2.1 140 16 = dgt b (i - p) p 0) ∧ scE b 48 57 m i = scE b 48 57 (n - p) p) ?_ FU (n - p) _ (FU_lt (by omega)) ⟨p, by omega, Nat.le_refl _, by rw [Nat.sub_self]; rfl, Fm.rf, h11, fun _ => by rw [Nat.sub_self]; exact h16, rfl⟩
  rintro m ⟨c0, x⟩ ⟨i, hi', hp', hx, hF, h1, h3, q⟩
  have hx' : c0 = nJ (i - p) := hx
  have hF' : Fm [] [11, 16] S x := hF
  have h1' : x.1 140 11 = nJ i := h1
  have h3' : i - p ≤ 4 → x.1 140 16 = dgt b (i - p) p 0 := h3
  clear hx hF h1 h3
  subst hx'
  have x10 : x.1 140 10 = nJ n := by rw [hF'.fld (by decide) (by decide)]; exact h10
  have e189 := M189_eq x10 hn (show i ≤ 600 by omega) (BF_fm hb hF' (by decide))
  unfold Lm_192_166
  dsimp only
  rw [h1', e189, ob_s, ob_s]
  rcases scE_v b (lo := 48) (hi := 57) (by decide) hi' with ⟨z, m', rfl, e⟩ | ⟨z, e⟩
  · rw [if_pos (show F_191 (svb b n i) = true from z)]
    have ev : svb b n i = b i := if_pos (by omega)
    have es : nJ (i - p) + 1 = nJ (i + 1 - p) := by rw [nJ_succ, show i + 1 - p = i - p + 1 by omega]
    by_cases c : i - p < 4
    · rw [if_pos (show nJ (i - p) < 4 from (nJ_lt (j := 4) (by omega) (by omega)).mpr c)]
      refine Or.inl ⟨_, m', by omega, rfl, i + 1, by omega, by omega, es, (hF'.tr (Fm_f (by decide))).tr (Fm_f (by decide)), ?_, ?_, by rw [← q, e]⟩
      · show (wI (wI x 140 16 _) 140 11 _).1 140 11 = _
        rw [wI_1, if_pos ⟨rfl, rfl⟩, nJ_succ]
      · intro _
        show (wI (wI x 140 16 _) 140 11 _).1 140 16 = _
        rw [wI_1, if_neg (by decide), wI_1, if_pos ⟨rfl, rfl⟩, h3' (by omega), ev, i32_dg, show i + 1 - p = i - p + 1 by omega, dgt_r, show p + (i - p) = i by omega]
    · rw [if_neg (show ¬ nJ (i - p) < 4 from fun w => c ((nJ_lt (j := 4) (by omega) (by omega)).mp w))]
      refine Or.inl ⟨_, m', by omega, rfl, i + 1, by omega, by omega, es, (hF'.tr (Fm_f (by decide))).tr (Fm_f (by decide)), ?_, ?_, by rw [← q, e]⟩
      · show (wI (wI x 140 16 _) 140 11 _).1 140 11 = _
        rw [wI_1, if_pos ⟨rfl, rfl⟩, nJ_succ]
      · intro w
        exact absurd w (by omega)
  · rw [if_neg (show ¬ F_191 (svb b n i) = true by show ¬ rg 48 57 (svb b n i) = true; rw [z]; decide)]
    rw [e] at q
    exact Or.inr ⟨_, rfl, by rw [← q], hF', by rw [← q]; exact h1', by rw [← q]; exact h3'⟩
theorem M192_eq (h10 : S.1 140 10 = nJ n) (h11 : S.1 140 11 = nJ k) (hn : n ≤ 600) (hk : k ≤ n) (hb : BF S 144 b) (hv : ∀ j, j < n → ¬ b j = -1) : ∃ S', F_192 S = some ((), S') ∧ Fm [145] TKf S S' ∧ MK S' n b (scE b 32 32 (n - k) k) := by
  obtain ⟨e0, q0, hF0, e11⟩ := M192_0 h10 h11 hn hk hb
  have hp1 := scE_le b 32 32 (n - k) k
  generalize scE b 32 32 (n - k) k = p at hp1 e11 ⊢
  have hF1 : Fm [145] TKf S e0 := hF0.wk (by decide) (by decide)
  have e10 : e0.1 140 10 = nJ n := by rw [hF0.fld (by decide) (by decide)]; exact h10
  have b0 : BF e0 144 b := BF_fm hb hF0 (by decide)
  have fc : ∀ q v (S1 : ST), q ∈ TKf → Fm [145] TKf S S1 → Fm [145] TKf S (wI S1 140 q v) := fun q v S1 hq h => h.tr (Fm_f hq)
  have b1 : ∀ q v (S1 : ST), BF S1 144 b → BF (wI S1 140 q v) 144 b := fun q v S1 h => BF_fm h (Fm_f (hs := []) (fs := [q]) (List.mem_singleton.mpr rfl)) (by decide)
  have hE := tkE_le (b := b) (show p ≤ n by omega)
  unfold F_192
  rw [q0, ob_s, e11, M189_eq (S := wI e0 140 12 (nJ p)) (by rw [wI_1, if_neg (by decide)]; exact e10) hn (by omega) (b1 _ _ _ b0), ob_s]
  by_cases c : p < n
  · have nle : ¬ n ≤ p := by omega
    have ev : svb b n p = b p := if_pos c
    rw [ev, if_neg (hv p c)]
    by_cases d1 : rg 97 122 (b p) = true
    · have e : tkE b n p = scE b 97 122 (n - p) p := by unfold tkE; rw [if_neg nle, if_pos d1]
      have ek : tkK b n p = if 8 < tkE b n p - p then 4 else 1 := by unfold tkK; rw [if_neg nle, if_pos d1]
      rw [if_pos (show F_190 (b p) = true from d1)]
      obtain ⟨e1, q1, hG, g11, g15, gl⟩ := M192_68 (v := b p) (S := wI (wI e0 140 12 (nJ p)) 140 15 0) (n := n) (p := p) (b := b) (by rw [wI_1, if_neg (by decide), wI_1, if_neg (by decide)]; exact e10) (by rw [wI_1, if_neg (by decide), wI_1, if_neg (by decide)]; exact e11) (by rw [wI_1, if_pos ⟨rfl, rfl⟩]) hn (by omega) (b1 _ _ _ (b1 _ _ _ b0))
      rw [← e] at g11 g15 gl
      rw [q1, ob_s, g15]
      have hFF : Fm [145] TKf S e1 := (fc 15 _ _ (by decide) (fc 12 _ _ (by decide) hF1)).tr (hG.wk (by decide) (by decide))
      refine ⟨_, rfl, fc 13 _ _ (by decide) hFF, by omega, ?_, ?_, ?_, ?_, ?_, ?_⟩
      · rw [wI_1, if_neg (by decide), hFF.fld (by decide) (by decide)]; exact h10
      · rw [wI_1, if_neg (by decide), hG.fld (by decide) (by decide), wI_1, if_neg (by decide), wI_1, if_pos ⟨rfl, rfl⟩]
      · rw [wI_1, if_neg (by decide)]; exact g11
      · rw [wI_1, if_pos ⟨rfl, rfl⟩, ek]
        by_cases d : 8 < tkE b n p - p
        · rw [if_pos ((i8 (by omega)).mpr d), if_pos d]
        · rw [if_neg (fun q => d ((i8 (by omega)).mp q)), if_neg d]
      · intro z
        rw [ek] at z
        split at z
        · exact absurd z (by decide)
        · exact absurd z (by decide)
      · intro z
        have z' : tkE b n p - p ≤ 8 := by
          rw [ek] at z
          by_cases d : 8 < tkE b n p - p
          · rw [if_pos d] at z; exact absurd z (by decide)
          · omega
        refine ⟨by rw [wI_1, if_neg (by decide)]; exact g15, fun i hi => ?_⟩
        rw [wI_1, if_neg (by omega)]
        exact gl i hi (by omega)
    · rw [if_neg (show ¬ F_190 (b p) = true from d1)]
      by_cases d2 : rg 48 57 (b p) = true
      · have e : tkE b n p = scE b 48 57 (n - p) p := by unfold tkE; rw [if_neg nle, if_neg d1, if_pos d2]
        have ek : tkK b n p = if 4 < tkE b n p - p then 4 else 2 := by unfold tkK; rw [if_neg nle, if_neg d1, if_pos d2]
        rw [if_pos (show F_191 (b p) = true from d2)]
        obtain ⟨⟨c1, e1⟩, q1, gc, hG, g11, g16⟩ := M192_166 (v := b p) (S := wI (wI e0 140 12 (nJ p)) 140 16 0) (n := n) (p := p) (b := b) (by rw [wI_1, if_neg (by decide), wI_1, if_neg (by decide)]; exact e10) (by rw [wI_1, if_neg (by decide), wI_1, if_neg (by decide)]; exact e11) (by rw [wI_1, if_pos ⟨rfl, rfl⟩]) hn (by omega) (b1 _ _ _ (b1 _ _ _ b0))
        rw [← e] at gc g11 g16
        have gc' : c1 = nJ (tkE b n p - p) := gc
        have hG' : Fm [] [11, 16] (wI (wI e0 140 12 (nJ p)) 140 16 0) e1 := hG
        have g11' : e1.1 140 11 = nJ (tkE b n p) := g11
        have g16' : tkE b n p - p ≤ 4 → e1.1 140 16 = dgt b (tkE b n p - p) p 0 := g16
        clear gc hG g11 g16
        subst gc'
        rw [q1, ob_s]
        have hFF : Fm [145] TKf S e1 := (fc 16 _ _ (by decide) (fc 12 _ _ (by decide) hF1)).tr (hG'.wk (by decide) (by decide))
        refine ⟨_, rfl, fc 13 _ _ (by decide) hFF, by omega, ?_, ?_, ?_, ?_, ?_, ?_⟩
        · rw [wI_1, if_neg (by decide), hFF.fld (by decide) (by decide)]; exact h10
        · rw [wI_1, if_neg (by decide), hG'.fld (by decide) (by decide), wI_1, if_neg (by decide), wI_1, if_pos ⟨rfl, rfl⟩]
        · rw [wI_1, if_neg (by decide)]; exact g11'
        · rw [wI_1, if_pos ⟨rfl, rfl⟩, ek]
          by_cases d : 4 < tkE b n p - p
          · rw [if_pos ((i4 (by omega)).mpr d), if_pos d]
          · rw [if_neg (fun q => d ((i4 (by omega)).mp q)), if_neg d]
        · intro z
          rw [wI_1, if_neg (by decide)]
          refine g16' ?_
          rw [ek] at z
          by_cases d : 4 < tkE b n p - p
          · rw [if_pos d] at z; exact absurd z (by decide)
          · omega
        · intro z
          rw [ek] at z
          split at z
          · exact absurd z (by decide)
          · exact absurd z (by decide)
      · have e : tkE b n p = p + 1 := by unfold tkE; rw [if_neg nle, if_neg d1, if_neg d2]
        have ek : tkK b n p = if b p = 59 then 3 else 4 := by unfold tkK; rw [if_neg nle, if_neg d1, if_neg d2]
        rw [if_neg (show ¬ F_191 (b p) = true from d2)]
        refine ⟨_, rfl, fc 11 _ _ (by decide) (fc 13 _ _ (by decide) (fc 12 _ _ (by decide) hF1)), by omega, ?_, ?_, ?_, ?_, ?_, ?_⟩
        · rw [wI_1, if_neg (by decide), wI_1, if_neg (by decide), wI_1, if_neg (by decide)]; exact e10
        · rw [wI_1, if_neg (by decide), wI_1, if_neg (by decide), wI_1, if_pos ⟨rfl, rfl⟩]
        · rw [wI_1, if_pos ⟨rfl, rfl⟩, nJ_succ, e]
        · rw [wI_1, if_neg (by decide), wI_1, if_pos ⟨rfl, rfl⟩, ek]
        · intro z
          rw [ek] at z
          split at z
          · exact absurd z (by decide)
          · exact absurd z (by decide)
        · intro z
          rw [ek] at z
          split at z
          · exact absurd z (by decide)
          · exact absurd z (by decide)
  · have hpn : p = n := by omega
    subst hpn
    have ev : svb b p p = -1 := if_neg c
    have e : tkE b p p = p := by unfold tkE; rw [if_pos (Nat.le_refl _)]
    have ek : tkK b p p = 0 := by unfold tkK; rw [if_pos (Nat.le_refl _)]
    rw [ev, if_pos rfl]
    refine ⟨_, rfl, fc 13 _ _ (by decide) (fc 12 _ _ (by decide) hF1), Nat.le_refl _, ?_, ?_, ?_, ?_, ?_, ?_⟩
    · rw [wI_1, if_neg (by decide), wI_1, if_neg (by decide)]; exact e10
    · rw [wI_1, if_neg (by decide), wI_1, if_pos ⟨rfl, rfl⟩]
    · rw [wI_1, if_neg (by decide), wI_1, if_neg (by decide), e]; exact e11
    · rw [wI_1, if_pos ⟨rfl, rfl⟩, ek]
    · intro z
      rw [ek] at z
      exact absurd z (by decide)
    · intro z
      rw [ek] at z
      exact absurd z (by decide)
theorem M192_c (hm : MK S n b p) (hn : n ≤ 600) (hb : BF S 144 b) (hv : ∀ j, j < n → ¬ b j = -1) : ∃ S', F_192 S = some ((), S') ∧ Fm [145] TKf S S' ∧ MK S' n b (tkS b n p) := M192_eq hm.2.1 hm.2.2.2.1 hn (tkE_le hm.1).2 hb hv
theorem M194_y (h : ¬ S.1 140 17 = 0) : F_194 S = some ((), S) := by unfold F_194; rw [if_neg h]
theorem M194_n (h : S.1 140 17 = 0) (hm : MK S n b p) (hn : n ≤ 600) (hb : BF S 144 b) (hv : ∀ j, j < n → ¬ b j = -1) : ∃ S', F_194 S = some ((), S') ∧ Fm [145] TKf S S' ∧ MK S' n b (tkS b n p) := by
  obtain ⟨S', e, q⟩ := M192_c hm hn hb hv
  exact ⟨S', by unfold F_194; rw [if_pos h, e]; rfl, q⟩
theorem M195_y {tx : List Int32} (h : ¬ S.1 140 17 = 0) : F_195 tx S = some false := by unfold F_195; rw [if_neg h]
theorem M195_eq {tx : List Int32} (h : S.1 140 17 = 0) (hm : MK S n b p) (hn : n ≤ 600) (hl : tx.length ≤ 8) : F_195 tx S = some (tkW b n p tx) := by
  obtain ⟨h0, _, _, _, h13, _, hw⟩ := hm
  have hE := tkE_le (b := b) h0
  have f : ¬ (tkK b n p = 1 ∧ tkE b n p - p = tx.length ∧ ∀ i, i < tx.length → b (p + i) = tx.getD i 0) → tkW b n p tx = false := fun z => by
    unfold tkW
    exact Bool.eq_false_iff.mpr (fun q => z (chB_t.mp q))
  unfold F_195
  rw [if_pos h, h13]
  by_cases c : tkK b n p = 1
  · obtain ⟨h15, hl'⟩ := hw c
    rw [if_pos c, h15]
    by_cases d : tkE b n p - p = tx.length
    · rw [if_pos (show nJ (tkE b n p - p) = Int32.ofNat tx.length by rw [d]; rfl)]
      have key : ∃ z, wh FU (Lm_195_30 tx S) (0 : Int32) = some z ∧ Sum.elim (fun _ => some true) (fun o => some o) z = some (decide (∀ i, i < tx.length → b (p + i) = tx.getD i 0)) := by
        refine wh_inv (I := fun m x => ∃ i, i + m = tx.length ∧ x = nJ i ∧ ∀ j, j < i → b (p + j) = tx.getD j 0) ?_ FU tx.length _ (FU_lt (by omega)) ⟨0, by omega, rfl, fun j hj => absurd hj (by omega)⟩
        rintro m x ⟨i, hi', rfl, q⟩
        unfold Lm_195_30
        rw [h15, d]
        by_cases c2 : i < tx.length
        · rw [if_pos ((nJ_lt (by omega) (by omega)).mpr c2), ck_t (ibd_n (by omega) (by omega)), ck_t (ibd_n (by omega) (by omega)), nJ_ix (by omega), hl' i (by omega)]
          by_cases c3 : b (p + i) = tx.getD i 0
          · rw [if_pos c3]
            refine Or.inl ⟨_, m - 1, by omega, rfl, i + 1, by omega, nJ_succ i, fun j hj => ?_⟩
            rcases Nat.lt_or_ge j i with z | z
            · exact q j z
            · rw [show j = i by omega]; exact c3
          · rw [if_neg c3]
            refine Or.inr ⟨_, rfl, ?_⟩
            rw [decide_eq_false (fun z => c3 (z i c2))]
            rfl
        · rw [if_neg (fun q => c2 ((nJ_lt (by omega) (by omega)).mp q))]
          refine Or.inr ⟨_, rfl, ?_⟩
          rw [decide_eq_true (fun j hj => q j (by omega))]
          rfl
      obtain ⟨z, e1, e2⟩ := key
      rw [e1, ob_s]
      by_cases c3 : ∀ i, i < tx.length → b (p + i) = tx.getD i 0
      · rw [decide_eq_true c3] at e2
        refine e2.trans ?_
        unfold tkW
        rw [chB_t.mpr ⟨c, d, c3⟩]
      · rw [decide_eq_false c3] at e2
        refine e2.trans ?_
        rw [f (fun z => c3 z.2.2)]
    · rw [if_neg (show ¬ nJ (tkE b n p - p) = Int32.ofNat tx.length from fun q => d ((nJ_eq (j := tx.length) (by omega) (by omega)).mp q)), f (fun z => d z.2.1)]
  · rw [if_neg c, f (fun z => c z.1)]
end Tm
