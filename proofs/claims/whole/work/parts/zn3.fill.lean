/-! the lattice of a plan -/
/-- which places of the square are points of the polygon -/
noncomputable def pb (L : List GPt) (t : Nat) : Bool := chB (ge_cl 1 L (lxy t))
def Fc (hs : List Nat) (S S' : ST) : Prop := ∀ h, h ∉ hs → S'.1 h = S.1 h ∧ S'.2 h = S.2 h
theorem Fc.rf {hs : List Nat} {S : ST} : Fc hs S S := fun _ _ => ⟨rfl, rfl⟩
theorem Fc.tr {hs : List Nat} {S S1 S2 : ST} (h : Fc hs S S1) (h' : Fc hs S1 S2) : Fc hs S S2 := fun a ha => ⟨(h' a ha).1.trans (h a ha).1, (h' a ha).2.trans (h a ha).2⟩
theorem Fc.wk {hs hs' : List Nat} {S S' : ST} (h : Fc hs S S') (h1 : ∀ x ∈ hs, x ∈ hs') : Fc hs' S S' := fun a ha => h a (fun q => ha (h1 _ q))
theorem Fc_I {hs : List Nat} {S : ST} {h q : Nat} {v : Int32} (hh : h ∈ hs) : Fc hs S (wI S h q v) := fun a ha => ⟨by funext j; rw [wI_1, if_neg (fun z => ha (by rw [z.1]; exact hh))], rfl⟩
theorem Fc_L {hs : List Nat} {S : ST} {h q : Nat} {v : Int64} (hh : h ∈ hs) : Fc hs S (wL S h q v) := fun a ha => ⟨rfl, by funext j; rw [wL_2, if_neg (fun z => ha (by rw [z.1]; exact hh))]⟩
theorem Fc_C {hs : List Nat} {S : ST} {h0 h n : Nat} (hh : h ∈ hs) : Fc hs S (wC S h0 h n) := fun a ha => ⟨by funext j; rw [wC_1, if_neg (fun z => ha (by rw [z.1]; exact hh))], rfl⟩
theorem clN_r {S S' : ST} {h : Nat} (e : S'.1 h = S.1 h) : clN S' h = clN S h := by unfold clN; rw [e]
theorem clW_r {S S' : ST} {h : Nat} (e : S'.1 h = S.1 h) (w : clW S h) : clW S' h := by unfold clW at *; rw [clN_r e, e]; exact w
theorem clP_r {S S' : ST} {h : Nat} (e1 : S'.1 (h + 1) = S.1 (h + 1)) (e2 : S'.1 (h + 2) = S.1 (h + 2)) (i : Nat) : clP S' h i = clP S h i := by unfold clP; rw [e1, e2]
theorem clB_r {S S' : ST} {h : Nat} (e : S'.1 h = S.1 h) (e1 : S'.1 (h + 1) = S.1 (h + 1)) (e2 : S'.1 (h + 2) = S.1 (h + 2)) (w : clB S h) : clB S' h := fun i hi => by rw [clP_r e1 e2]; exact w i (by rw [clN_r e] at hi; exact hi)
theorem clL_r {S S' : ST} {h : Nat} (e : S'.1 h = S.1 h) (e1 : S'.1 (h + 1) = S.1 (h + 1)) (e2 : S'.1 (h + 2) = S.1 (h + 2)) : clLz S' h = clLz S h := by
  unfold clLz ge_pl
  rw [clN_r e]
  exact List.map_congr_left (fun i _ => clP_r e1 e2 i)
def lc4 (h : Nat) : List Nat := [h, h + 1, h + 2, h + 3]
/-- the first T places are numbered -/
def LC (S : ST) (h : Nat) (L : List GPt) (T : Nat) : Prop := S.1 h 0 = nJ (rk (pb L) T) ∧ (∀ t, t < T → (pb L t = true → S.1 (h + 1) (rk (pb L) t) = nJ (t % 16) ∧ S.1 (h + 2) (rk (pb L) t) = nJ (t / 16) ∧ S.1 (h + 3) t = nJ (rk (pb L) t)) ∧ (pb L t = false → S.1 (h + 3) t = -1)) ∧ ∀ i, i < 64 → (bz (S.2 h 1) i = true ↔ ∃ t, t < T ∧ pb L t = true ∧ rk (pb L) t = i ∧ ¬ ge_off L (lxy t))
theorem rk_s (p : Nat → Bool) (t : Nat) : rk p (t + 1) = rk p t + (if p t = true then 1 else 0) := rfl
theorem L17_step {S : ST} {h0 h1 : Nat} {L : List GPt} (hW : clW S h1) (hB : clB S h1) (hL : clLz S h1 = L) {x y : Nat} (hx : x < 16) (hy : y < 16) (hc : LC S h0 L (16 * y + x)) (h64 : rk (pb L) (16 * y + x) ≤ 64) : (pb L (16 * y + x) = true ∧ rk (pb L) (16 * y + x) = 64 ∧ ∃ S', L_17_20 h0 h1 (nJ y) (nJ x, S) = some (.inr (.inr (false, S'))) ∧ Fc (lc4 h0) S S') ∨ (rk (pb L) (16 * y + x + 1) ≤ 64 ∧ ∃ S', L_17_20 h0 h1 (nJ y) (nJ x, S) = some (.inl (nJ (x + 1), S')) ∧ Fc (lc4 h0) S S' ∧ LC S' h0 L (16 * y + x + 1)) := by
  obtain ⟨c1, c2, c3⟩ := hc
  obtain ⟨r, g, r3, r0, r1⟩ := F33_l hW hB hx hy
  rw [hL] at r0 r1
  have exy : ((x : Int), (y : Int)) = lxy (16 * y + x) := by
    unfold lxy
    rw [show (16 * y + x) % 16 = x by omega, show (16 * y + x) / 16 = y by omega]
  rw [exy] at r0 r1
  generalize ht : 16 * y + x = t at *
  have ei : nJ y * 16 + nJ x = nJ t := by
    rw [show nJ y * 16 = nJ (y * 16) from nJ_mul y 16, nJ_add]
    congr 1
    omega
  have em : t % 16 = x := by omega
  have ed : t / 16 = y := by omega
  have i0 : h0 ∈ lc4 h0 := by simp [lc4]
  have i1 : h0 + 1 ∈ lc4 h0 := by simp [lc4]
  have i2 : h0 + 2 ∈ lc4 h0 := by simp [lc4]
  have i3 : h0 + 3 ∈ lc4 h0 := by simp [lc4]
  have old : ∀ t', t' < t → pb L t' = true → rk (pb L) t' < rk (pb L) t := fun t' a b => rk_lt a b
  unfold L_17_20
  dsimp only
  rw [if_pos (show nJ x < 16 from (nJ_lt (j := 16) (by omega) (by omega)).mpr hx), g, ob_s, ei, ck_t (ibd_n (by omega) (by omega)), sbn_e, nJ_ix (by omega)]
  by_cases hz : r = 0
  · rw [if_pos hz]
    have hp : pb L t = false := chB_f.mpr (fun q => r0.mpr q hz)
    refine Or.inr ⟨by rw [rk_s, hp]; simpa using h64, _, by rw [nJ_succ], Fc_I i3, ?_, ?_, ?_⟩
    · rw [rk_s, hp]
      simpa [wI_1] using c1
    · intro t' ht'
      by_cases e : t' = t
      · subst e
        exact ⟨fun q => absurd q (by rw [hp]; decide), fun _ => by simp [wI_1]⟩
      · obtain ⟨w1, w2⟩ := c2 t' (by omega)
        refine ⟨fun q => ?_, fun q => ?_⟩
        · obtain ⟨u1, u2, u3⟩ := w1 q
          exact ⟨by simpa [wI_1] using u1, by simpa [wI_1] using u2, by simpa [wI_1, e] using u3⟩
        · have u := w2 q
          simpa [wI_1, e] using u
    · intro i hi
      rw [wI_2, c3 i hi]
      constructor
      · rintro ⟨t', a, b⟩; exact ⟨t', by omega, b⟩
      · rintro ⟨t', a, b, c⟩
        refine ⟨t', ?_, b, c⟩
        rcases Nat.lt_or_ge t' t with q | q
        · exact q
        · rw [show t' = t by omega, hp] at b; cases b
  · rw [if_neg hz]
    have hp : pb L t = true := chB_t.mpr (r0.mp hz)
    have k0 : (wI S (h0 + 3) t (-1)).1 h0 0 = nJ (rk (pb L) t) := by rw [wI_1, if_neg (by omega), c1]
    by_cases h6 : rk (pb L) t = 64
    · rw [k0, if_neg (show ¬ nJ (rk (pb L) t) < 64 by rw [h6]; decide)]
      exact Or.inl ⟨hp, h6, _, rfl, Fc_I i3⟩
    · have h6' : rk (pb L) t < 64 := by omega
      rw [k0, if_pos (show nJ (rk (pb L) t) < 64 from (nJ_lt (j := 64) (by omega) (by omega)).mpr h6')]
      refine Or.inr ⟨by rw [rk_s, hp]; exact h6', ?_⟩
      generalize hk : rk (pb L) t = k at *
      have rs : rk (pb L) (t + 1) = k + 1 := by rw [rk_s, hp, hk]; rfl
      -- the state, but for the rim
      have fin : ∀ S1 : ST, S1.1 = (wI S (h0 + 3) t (-1)).1 → Fc (lc4 h0) S S1 → (∀ i, i < 64 → (bz (S1.2 h0 1) i = true ↔ ∃ t', t' < t + 1 ∧ pb L t' = true ∧ rk (pb L) t' = i ∧ ¬ ge_off L (lxy t'))) → Fc (lc4 h0) S (wI (wI (wI (wI S1 (h0 + 3) t (nJ k)) (h0 + 1) k (nJ x)) (h0 + 2) k (nJ y)) h0 0 (nJ k + 1)) ∧ LC (wI (wI (wI (wI S1 (h0 + 3) t (nJ k)) (h0 + 1) k (nJ x)) (h0 + 2) k (nJ y)) h0 0 (nJ k + 1)) h0 L (t + 1) := by
        intro S1 e1 f1 e2
        refine ⟨(((f1.tr (Fc_I i3)).tr (Fc_I i1)).tr (Fc_I i2)).tr (Fc_I i0), ?_, ?_, ?_⟩
        · rw [rs, nJ_succ, wI_1, if_pos ⟨rfl, rfl⟩]
        · intro t' ht'
          by_cases e : t' = t
          · subst e
            refine ⟨fun _ => ?_, fun q => absurd q (by rw [hp]; decide)⟩
            rw [hk, em, ed]
            simp [wI_1]
          · obtain ⟨w1, w2⟩ := c2 t' (by omega)
            refine ⟨fun q => ?_, fun q => ?_⟩
            · obtain ⟨u1, u2, u3⟩ := w1 q
              have hl := old t' (by omega) q
              have hn : ¬ rk (pb L) t' = k := by omega
              exact ⟨by simpa [wI_1, e1, hn] using u1, by simpa [wI_1, e1, hn] using u2, by simpa [wI_1, e1, e] using u3⟩
            · have u := w2 q
              simpa [wI_1, e1, e] using u
        · intro i hi
          rw [wI_2, wI_2, wI_2, wI_2]
          exact e2 i hi
      have rim0 : ∀ i, i < 64 → ((∃ t', t' < t + 1 ∧ pb L t' = true ∧ rk (pb L) t' = i ∧ ¬ ge_off L (lxy t')) ↔ (bz (S.2 h0 1) i = true ∨ (i = k ∧ ¬ ge_off L (lxy t)))) := by
        intro i hi
        rw [c3 i hi]
        constructor
        · rintro ⟨t', a, b, c, d⟩
          by_cases e : t' = t
          · subst e; exact Or.inr ⟨by omega, d⟩
          · exact Or.inl ⟨t', by omega, b, c, d⟩
        · rintro (⟨t', a, b, c, d⟩ | ⟨a, b⟩)
          · exact ⟨t', by omega, b, c, d⟩
          · exact ⟨t, by omega, hp, by omega, b⟩
      have a1 : ∀ (S1 : ST) q v, (wI S1 (h0 + 1) q v).1 h0 0 = S1.1 h0 0 := fun S1 q v => by rw [wI_1, if_neg (by omega)]
      have a2 : ∀ (S1 : ST) q v, (wI S1 (h0 + 2) q v).1 h0 0 = S1.1 h0 0 := fun S1 q v => by rw [wI_1, if_neg (by omega)]
      have a3 : ∀ (S1 : ST) q v, (wI S1 (h0 + 3) q v).1 h0 0 = S1.1 h0 0 := fun S1 q v => by rw [wI_1, if_neg (by omega)]
      have aL : ∀ (S1 : ST) q v, (wL S1 h0 q v).1 h0 0 = S1.1 h0 0 := fun S1 q v => rfl
      have ib : ibd (nJ k) 64 = true := ibd_n (by omega) (by omega)
      have ibt : ibd (nJ t) 256 = true := ibd_n (by omega) (by omega)
      have ik : Int32.toNatClampNeg (nJ k) = k := nJ_ix (by omega)
      by_cases h1' : r = 1
      · rw [if_pos h1']
        simp only [sbn_e, a1, a2, a3, aL, c1, ib, ibt, ik, ck_tt]
        refine ⟨_, by rw [nJ_succ], fin (wL (wI S (h0 + 3) t (-1)) h0 1 ((wI S (h0 + 3) t (-1)).2 h0 1 ||| (1 <<< (Int32.toInt64 (nJ k) &&& 63)))) rfl ((Fc_I i3).tr (Fc_L i0)) (fun i hi => ?_)⟩
        rw [rim0 i hi, wL_2, if_pos ⟨rfl, rfl⟩, wI_2, bz_or, Bool.or_eq_true, bz_shl h6', decide_eq_true_eq]
        constructor
        · rintro (q | q)
          · exact Or.inl q
          · exact Or.inr ⟨q, r1.mp h1'⟩
        · rintro (q | q)
          · exact Or.inl q
          · exact Or.inr q.1
      · rw [if_neg h1']
        simp only [sbn_e, a1, a2, a3, aL, c1, ib, ibt, ik, ck_tt]
        refine ⟨_, by rw [nJ_succ], fin (wI S (h0 + 3) t (-1)) rfl (Fc_I i3) (fun i hi => ?_)⟩
        rw [rim0 i hi, wI_2]
        constructor
        · intro q; exact Or.inl q
        · rintro (q | q)
          · exact q
          · exact absurd (r1.mpr q.2) h1'
theorem F17_eq {S : ST} {h0 h1 : Nat} {L : List GPt} (hW : clW S h1) (hB : clB S h1) (hL : clLz S h1 = L) (d0 : h1 ∉ lc4 h0) (d1 : h1 + 1 ∉ lc4 h0) (d2 : h1 + 2 ∉ lc4 h0) : ∃ b S', F_17 h0 h1 S = some (b, S') ∧ Fc (lc4 h0) S S' ∧ (b = true ↔ rk (pb L) 256 ≤ 64) ∧ (b = true → LC S' h0 L 256) := by
  have i0 : h0 ∈ lc4 h0 := by simp [lc4]
  -- one row
  have row : ∀ y S1, y < 16 → Fc (lc4 h0) S S1 → LC S1 h0 L (16 * y) → rk (pb L) (16 * y) ≤ 64 → ∃ b, wh FU (L_17_20 h0 h1 (nJ y)) (nJ 0, S1) = some b ∧ ((∃ S', b = .inr (false, S') ∧ Fc (lc4 h0) S S' ∧ 64 < rk (pb L) 256) ∨ ∃ x S', b = .inl (x, S') ∧ Fc (lc4 h0) S S' ∧ LC S' h0 L (16 * (y + 1)) ∧ rk (pb L) (16 * (y + 1)) ≤ 64) := by
    intro y S1 hy f1 c1 k1
    refine wh_inv (I := fun m a => ∃ x S2, x + m = 16 ∧ a = (nJ x, S2) ∧ Fc (lc4 h0) S S2 ∧ LC S2 h0 L (16 * y + x) ∧ rk (pb L) (16 * y + x) ≤ 64) ?_ FU 16 (nJ 0, S1) (FU_lt (by omega)) ⟨0, S1, rfl, rfl, f1, c1, k1⟩
    rintro m a ⟨x, S2, hx, rfl, f2, c2, k2⟩
    by_cases q : x < 16
    · rcases L17_step (S := S2) (h0 := h0) (h1 := h1) (clW_r (congrArg (fun z => z) (f2 h1 d0).1) hW) (clB_r (f2 h1 d0).1 (f2 _ d1).1 (f2 _ d2).1 hB) ((clL_r (f2 h1 d0).1 (f2 _ d1).1 (f2 _ d2).1).trans hL) q hy c2 k2 with ⟨p1, p2, S3, e3, f3⟩ | ⟨p1, S3, e3, f3, c3⟩
      · refine Or.inr ⟨_, e3, Or.inl ⟨S3, rfl, f2.tr f3, ?_⟩⟩
        have := rk_lt (p := pb L) (s := 16 * y + x) (t := 256) (by omega) p1
        omega
      · exact Or.inl ⟨_, m - 1, by omega, e3, x + 1, S3, by omega, rfl, f2.tr f3, c3, p1⟩
    · refine Or.inr ⟨.inl (nJ x, S2), ?_, Or.inr ⟨nJ x, S2, rfl, f2, ?_, ?_⟩⟩
      · unfold L_17_20
        dsimp only
        rw [if_neg (show ¬ nJ x < 16 from fun z => q ((nJ_lt (j := 16) (by omega) (by omega)).mp z))]
      · rw [show 16 * (y + 1) = 16 * y + x by omega]; exact c2
      · rw [show 16 * (y + 1) = 16 * y + x by omega]; exact k2
  have all : ∃ b, wh FU (L_17_12 h0 h1) (nJ 0, wL (wI S h0 0 0) h0 1 0) = some b ∧ ((∃ S', b = .inr (false, S') ∧ Fc (lc4 h0) S S' ∧ 64 < rk (pb L) 256) ∨ ∃ x S', b = .inl (x, S') ∧ Fc (lc4 h0) S S' ∧ LC S' h0 L 256 ∧ rk (pb L) 256 ≤ 64) := by
    refine wh_inv (I := fun m a => ∃ y S2, y + m = 16 ∧ a = (nJ y, S2) ∧ Fc (lc4 h0) S S2 ∧ LC S2 h0 L (16 * y) ∧ rk (pb L) (16 * y) ≤ 64) ?_ FU 16 _ (FU_lt (by omega)) ⟨0, _, rfl, rfl, (Fc_I i0).tr (Fc_L i0), ⟨?_, fun t ht => by omega, fun i hi => ?_⟩, Nat.zero_le _⟩
    · rintro m a ⟨y, S2, hy, rfl, f2, c2, k2⟩
      unfold L_17_12
      dsimp only
      by_cases q : y < 16
      · rw [if_pos (show nJ y < 16 from (nJ_lt (j := 16) (by omega) (by omega)).mpr q)]
        obtain ⟨b, e, w⟩ := row y S2 q f2 c2 k2
        rw [show ((0 : Int32), S2) = (nJ 0, S2) from rfl, e, ob_s]
        rcases w with ⟨S', rfl, f3, w⟩ | ⟨x, S', rfl, f3, c3, k3⟩
        · exact Or.inr ⟨_, rfl, Or.inl ⟨S', rfl, f3, w⟩⟩
        · exact Or.inl ⟨_, m - 1, by omega, rfl, y + 1, S', by omega, by rw [← nJ_succ], f3, c3, k3⟩
      · rw [if_neg (show ¬ nJ y < 16 from fun z => q ((nJ_lt (j := 16) (by omega) (by omega)).mp z))]
        have e : 16 * y = 256 := by omega
        rw [e] at c2 k2
        exact Or.inr ⟨_, rfl, Or.inr ⟨_, S2, rfl, f2, c2, k2⟩⟩
    · show (wL (wI S h0 0 0) h0 1 0).1 h0 0 = nJ 0
      rw [wL_1, wI_1, if_pos ⟨rfl, rfl⟩]; rfl
    · rw [wL_2, if_pos ⟨rfl, rfl⟩, bz_0]
      constructor
      · intro z; cases z
      · rintro ⟨t, ht, _⟩; omega
  obtain ⟨b, e, w⟩ := all
  unfold F_17
  rw [sbn_e, sbn_e, show ((0 : Int32), wL (wI S h0 0 0) h0 1 0) = (nJ 0, wL (wI S h0 0 0) h0 1 0) from rfl, e, ob_s]
  rcases w with ⟨S', rfl, f3, w⟩ | ⟨x, S', rfl, f3, c3, k3⟩
  · exact ⟨_, _, rfl, f3, ⟨fun z => absurd z (by decide), fun z => by omega⟩, fun z => absurd z (by decide)⟩
  · exact ⟨_, _, rfl, f3, ⟨fun _ => k3, fun _ => rfl⟩, fun _ => c3⟩
