/-! the class's history, what it keeps; the present plan replaced; reads of the lattice -/
theorem rem8 : ∀ a, a < 20 → nJ a - nJ a / 8 * 8 = nJ (a % 8) := by decide +kernel
def sl8 (i : Nat) : Nat := 49 + 9 * (i % 8)
/-- the stored states, oldest first -/
def HR (S : ST) (o c : Nat) (rows : Nat → Nat → Int32) : Prop := ∀ k, k < c → PR S (sl8 (o + k)) (rows k)
theorem HR_fp {P : Nat → Prop} {S S' : ST} {o c : Nat} {rows : Nat → Nat → Int32} (h : HR S o c rows) (hF : Fp P S S') (hd : ∀ a, 49 ≤ a ∧ a < 121 → ¬ P a) : HR S' o c rows := fun k hk => PR_fp (h k hk) hF (fun a ha => hd a (by unfold pl9 sl8 at ha; omega))
section Hi
variable {S : ST}
theorem F9_eq {h1 c o : Nat} {rows : Nat → Nat → Int32} {ρ : Nat → Int32} (e0 : S.1 47 0 = nJ c) (hc : c ≤ 8) (e1 : S.1 47 1 = nJ o) (ho : o < 8) (hH : HR S o c rows) (hp : PR S h1 ρ) (hcb : cb ρ) (hh : h1 + 9 ≤ 47) : ∃ S' o', F_9 h1 S = some ((), S') ∧ Fp (fun a => a = 47 ∨ (49 ≤ a ∧ a < 121)) S S' ∧ o' < 8 ∧ S'.1 47 1 = nJ o' ∧ S'.1 47 0 = nJ (if c = 8 then 8 else c + 1) ∧ HR S' o' (if c = 8 then 8 else c + 1) (fun k => if c = 8 then (if k < 7 then rows (k + 1) else ρ) else if k < c then rows k else ρ) := by
  unfold F_9
  rw [e0, e1]
  by_cases q : c = 8
  · subst q
    rw [if_pos (show nJ 8 = 8 from rfl), if_pos rfl]
    have x1 : nJ o + 1 - (nJ o + 1) / 8 * 8 = nJ ((o + 1) % 8) := by rw [nJ_succ]; exact rem8 _ (by omega)
    have x2 : nJ 8 - 1 = nJ 7 := rfl
    rw [x1, x2, nJ_add, rem8 _ (by omega), ck_t (ibd_n (by omega) (by omega)), nJ_ix (by omega)]
    have hp1 : PR (wI (wI S 47 1 (nJ ((o + 1) % 8))) 47 0 (nJ 7)) h1 ρ := PR_fp (P := fun a => a = 47) hp (Fp.tr (Fp_I rfl) (Fp_I rfl)) (fun a ha => by unfold pl9 at ha; omega)
    have hH1 : HR (wI (wI S 47 1 (nJ ((o + 1) % 8))) 47 0 (nJ 7)) o 8 rows := HR_fp (P := fun a => a = 47) hH (Fp.tr (Fp_I rfl) (Fp_I rfl)) (fun a ha => by omega)
    obtain ⟨S2, g, f2, w⟩ := F43_eq (wI (wI S 47 1 (nJ ((o + 1) % 8))) 47 0 (nJ 7)) (h0 := 49 + 9 * (((o + 1) % 8 + 7) % 8)) (h1 := h1) (by omega)
    rw [g, ob_s]
    have y0 : S2.1 47 0 = nJ 7 := by rw [(f2 47 (by unfold pl9; omega)).1]; rfl
    have y1 : S2.1 47 1 = nJ ((o + 1) % 8) := by rw [(f2 47 (by unfold pl9; omega)).1]; rfl
    dsimp only
    rw [y0, nJ_succ]
    refine ⟨_, (o + 1) % 8, rfl, ((Fp.tr (Fp_I (Or.inl rfl)) (Fp_I (Or.inl rfl))).tr (f2.wk (fun a ha => by unfold pl9 at ha; omega))).tr (Fp_I (Or.inl rfl)), by omega, by rw [wI_1, if_neg (by omega), y1], by rw [wI_1, if_pos ⟨rfl, rfl⟩], fun k hk => ?_⟩
    refine PR_fp (P := fun a => a = 47) (S := S2) ?_ (Fp_I rfl) (fun a ha => by unfold pl9 sl8 at ha; omega)
    show PR S2 (sl8 ((o + 1) % 8 + k)) (if 8 = 8 then (if k < 7 then rows (k + 1) else ρ) else if k < 8 then rows k else ρ)
    rw [if_pos rfl]
    by_cases z : k < 7
    · rw [if_pos z]
      have := hH1 (k + 1) (by omega)
      rw [show sl8 ((o + 1) % 8 + k) = sl8 (o + (k + 1)) by unfold sl8; omega]
      exact PR_fp this f2 (fun a ha => by unfold pl9 sl8 at *; omega)
    · rw [if_neg z, show sl8 ((o + 1) % 8 + k) = 49 + 9 * (((o + 1) % 8 + 7) % 8) by unfold sl8; omega]
      exact w ρ hp1 hcb
  · rw [if_neg (show ¬ nJ c = 8 from fun z => q ((nJ_eq (j := 8) (by omega) (by omega)).mp z)), if_neg q, nJ_add, rem8 _ (by omega), ck_t (ibd_n (by omega) (by omega)), nJ_ix (by omega)]
    obtain ⟨S2, g, f2, w⟩ := F43_eq S (h0 := 49 + 9 * ((o + c) % 8)) (h1 := h1) (by omega)
    rw [g, ob_s]
    have y0 : S2.1 47 0 = nJ c := by rw [(f2 47 (by unfold pl9; omega)).1, e0]
    have y1 : S2.1 47 1 = nJ o := by rw [(f2 47 (by unfold pl9; omega)).1, e1]
    dsimp only
    rw [y0, nJ_succ]
    refine ⟨_, o, rfl, (f2.wk (fun a ha => by unfold pl9 at ha; omega)).tr (Fp_I (Or.inl rfl)), ho, by rw [wI_1, if_neg (by omega), y1], by rw [wI_1, if_pos ⟨rfl, rfl⟩], fun k hk => ?_⟩
    refine PR_fp (P := fun a => a = 47) (S := S2) ?_ (Fp_I rfl) (fun a ha => by unfold pl9 sl8 at ha; omega)
    show PR S2 (sl8 (o + k)) (if c = 8 then (if k < 7 then rows (k + 1) else ρ) else if k < c then rows k else ρ)
    rw [if_neg q]
    by_cases z : k < c
    · rw [if_pos z]
      exact PR_fp (hH k z) f2 (fun a ha => by unfold pl9 sl8 at *; omega)
    · rw [if_neg z, show sl8 (o + k) = 49 + 9 * ((o + c) % 8) by unfold sl8; omega]
      exact w ρ hp hcb
theorem F10_eq {h1 c o : Nat} {rows : Nat → Nat → Int32} (e0 : S.1 47 0 = nJ (c + 1)) (hc : c < 8) (e1 : S.1 47 1 = nJ o) (ho : o < 8) (hH : HR S o (c + 1) rows) (hcb : cb (rows c)) (hh : h1 + 9 ≤ 47) : ∃ S', F_10 h1 S = some ((), S') ∧ Fp (fun a => a = 47 ∨ pl9 h1 a) S S' ∧ S'.1 47 1 = nJ o ∧ S'.1 47 0 = nJ c ∧ HR S' o c rows ∧ PR S' h1 (rows c) := by
  unfold F_10
  rw [e0, e1, if_neg (show ¬ nJ (c + 1) = 0 from fun z => by have := (nJ_eq (j := 0) (by omega) (by omega)).mp z; omega), show nJ (c + 1) - 1 = nJ c from nJ_sub (j := 1) (by omega), nJ_add, rem8 _ (by omega), ck_t (ibd_n (by omega) (by omega)), nJ_ix (by omega)]
  obtain ⟨S2, g, f2, w⟩ := F43_eq (wI S 47 0 (nJ c)) (h0 := h1) (h1 := 49 + 9 * ((o + c) % 8)) (by omega)
  rw [g, ob_s]
  have hF : Fp (fun a => a = 47) S (wI S 47 0 (nJ c)) := Fp_I rfl
  have hH1 : HR (wI S 47 0 (nJ c)) o (c + 1) rows := HR_fp hH hF (fun a ha => by omega)
  refine ⟨_, rfl, (hF.wk (fun a ha => Or.inl ha)).tr (f2.wk (fun a ha => Or.inr ha)), ?_, ?_, fun k hk => PR_fp (hH1 k (by omega)) f2 (fun a ha => by unfold pl9 sl8 at *; omega), w _ (hH1 c (by omega)) hcb⟩
  · show S2.1 47 1 = _
    rw [(f2 47 (by unfold pl9; omega)).1, wI_1, if_neg (by omega), e1]
  · show S2.1 47 0 = _
    rw [(f2 47 (by unfold pl9; omega)).1, wI_1, if_pos ⟨rfl, rfl⟩]
/-- the flags of what is learned are down -/
def Cz (S : ST) : Prop := S.1 30 3 = 0 ∧ S.1 32 8 = 0 ∧ S.1 39 6 = 0 ∧ S.1 39 7 = 0 ∧ S.1 39 8 = 0 ∧ S.1 43 3 = 0 ∧ S.1 43 4 = 0
/-- cells that replacePlan moves -/
def rpl (a : Nat) : Prop := pl9 3 a ∨ (21 ≤ a ∧ a < 25) ∨ a = 30 ∨ a = 32 ∨ a = 39 ∨ a = 43
theorem F180_eq {h1 : Nat} {ρ : Nat → Int32} (hp : PR S h1 ρ) (hcb : cb ρ) (hB : RB (rowS ρ) 0) (h64 : rk (pb (rL (rowS ρ) 0)) 256 ≤ 64) (hh : 12 ≤ h1) : ∃ S', F_180 h1 S = some ((), S') ∧ Fp rpl S S' ∧ PR S' 3 ρ ∧ LC S' 21 (rL (rowS ρ) 0) 256 ∧ Cz S' := by
  unfold F_180
  obtain ⟨S1, g1, f1, w1⟩ := F43_eq S (h0 := 3) (h1 := h1) (by omega)
  rw [g1, ob_s]
  have p1 : PR S1 3 ρ := w1 ρ hp hcb
  obtain ⟨b, S2, g2, f2, b2, l2⟩ := F17_eq (S := S1) (h0 := 21) (h1 := 3) (PR_N p1 hcb).1 (PR_B p1 hcb hB) (PR_L p1 hcb) (by decide) (by decide) (by decide)
  dsimp only
  rw [g2, ob_s]
  have hb : b = true := b2.mpr h64
  have l2 := l2 hb
  have f2 : Fp (fun a => 21 ≤ a ∧ a < 25) S1 S2 := fun a ha => f2 a (fun z => ha (by simp [lc4] at z; omega))
  have p2 : PR S2 3 ρ := PR_fp p1 f2 (fun a ha => by unfold pl9 at ha; omega)
  simp only [F_65, F_89, F_0, F_80, ob_s]
  have f3 : Fp (fun a => a = 30 ∨ a = 32 ∨ a = 39 ∨ a = 43) S2 (wI (wI (wI (wI (wI (wI (wI S2 30 3 0) 32 8 0) 39 6 0) 39 7 0) 39 8 0) 43 3 0) 43 4 0) := by
    refine Fp.tr (Fp.tr (Fp.tr (Fp.tr (Fp.tr (Fp.tr (Fp_I ?_) (Fp_I ?_)) (Fp_I ?_)) (Fp_I ?_)) (Fp_I ?_)) (Fp_I ?_)) (Fp_I ?_) <;> omega
  refine ⟨_, rfl, ((f1.wk (fun a ha => Or.inl ha)).tr (f2.wk (fun a ha => Or.inr (Or.inl ha)))).tr (f3.wk (fun a ha => Or.inr (Or.inr ha))), PR_fp p2 f3 (fun a ha => by unfold pl9 at ha; omega), ?_, ?_⟩
  · obtain ⟨c1, c2, c3⟩ := l2
    unfold LC
    rw [(f3 21 (by omega)).1, (f3 22 (by omega)).1, (f3 23 (by omega)).1, (f3 24 (by omega)).1, (f3 21 (by omega)).2]
    exact ⟨c1, c2, c3⟩
  · refine ⟨?_, ?_, ?_, ?_, ?_, ?_, ?_⟩ <;> simp [wI_1]
theorem LC_fp {P : Nat → Prop} {S S' : ST} {h : Nat} {L : List GPt} {T : Nat} (l : LC S h L T) (hF : Fp P S S') (hd : ∀ a, h ≤ a ∧ a < h + 4 → ¬ P a) : LC S' h L T := by
  unfold LC
  rw [(hF h (hd _ (by omega))).1, (hF (h + 1) (hd _ (by omega))).1, (hF (h + 2) (hd _ (by omega))).1, (hF (h + 3) (hd _ (by omega))).1, (hF h (hd _ (by omega))).2]
  exact l
end Hi
