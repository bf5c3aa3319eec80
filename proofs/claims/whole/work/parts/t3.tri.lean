/-! the triangles, and a colouring of them -/
def third (x y : Nat) : Nat := 3 - x - y
theorem third_ok {x y : Nat} (hx : x < 3) (hy : y < 3) (h : x ≠ y) : third x y < 3 ∧ third x y ≠ x ∧ third x y ≠ y := by unfold third; omega
/-- a ring's place behind one that is left out -/
theorem rmv_at {r : Nat → Nat} {n k o : Nat} (hk : k < n) (ho : o < n) (hne : o ≠ k) : ∃ o', o' < n - 1 ∧ rmv r k o' = r o ∧ (o < k → o' = o) ∧ (k < o → o' = o - 1) := by
  by_cases q : o < k
  · exact ⟨o, by omega, by unfold rmv; rw [if_pos q], fun _ => rfl, fun z => by omega⟩
  · refine ⟨o - 1, by omega, ?_, fun z => by omega, fun _ => rfl⟩
    unfold rmv
    rw [if_neg (by omega), show o - 1 + 1 = o by omega]
theorem rmv_in {r : Nat → Nat} {n k o : Nat} (hk : k < n) (ho : o < n - 1) : ∃ o', o' < n ∧ o' ≠ k ∧ rmv r k o = r o' := by
  unfold rmv
  split
  · exact ⟨o, by omega, by omega, rfl⟩
  · exact ⟨o + 1, by omega, by omega, rfl⟩
/-- the colours of the ring without an ear give colours of the ring -/
theorem col_step {r : Nat → Nat} {n k : Nat} (hn : 4 ≤ n) (hk : k < n) (inj : ∀ i j, i < n → j < n → r i = r j → i = j) {col' : Nat → Nat} (h3 : ∀ v, col' v < 3) (hp : ∀ o, o < n - 1 → col' (rmv r k o) ≠ col' (rmv r k ((o + 1) % (n - 1)))) : ∃ col : Nat → Nat, (∀ v, col v < 3) ∧ (∀ v, v ≠ r k → col v = col' v) ∧ (∀ o, o < n → col (r o) ≠ col (r ((o + 1) % n))) ∧ col (r ((k + n - 1) % n)) ≠ col (r ((k + 1) % n)) := by
  -- the neighbours of the ear follow each other in the rest
  have hac : col' (r ((k + n - 1) % n)) ≠ col' (r ((k + 1) % n)) := by
    by_cases k0 : k = 0
    · have := hp (n - 2) (by omega)
      rw [show n - 2 + 1 = n - 1 by omega, Nat.mod_self] at this
      have e1 : rmv r k (n - 2) = r ((k + n - 1) % n) := by
        unfold rmv
        rw [if_neg (by omega), Nat.mod_eq_of_lt (by omega)]
        congr 1
        omega
      have e2 : rmv r k 0 = r ((k + 1) % n) := by
        unfold rmv
        rw [if_neg (by omega), Nat.mod_eq_of_lt (by omega)]
        congr 1
        omega
      rw [e1, e2] at this
      exact this
    · have := hp (k - 1) (by omega)
      have e1 : rmv r k (k - 1) = r ((k + n - 1) % n) := by
        unfold rmv
        rw [if_pos (by omega)]
        congr 1
        rw [show k + n - 1 = k - 1 + n by omega, Nat.add_mod_right, Nat.mod_eq_of_lt (by omega)]
      have e2 : rmv r k ((k - 1 + 1) % (n - 1)) = r ((k + 1) % n) := by
        rw [show k - 1 + 1 = k by omega]
        by_cases kl : k = n - 1
        · have : k % (n - 1) = 0 := by rw [kl, Nat.mod_self]
          rw [this, show k + 1 = n by omega, Nat.mod_self]
          unfold rmv
          rw [if_pos (by omega)]
        · rw [Nat.mod_eq_of_lt (by omega), Nat.mod_eq_of_lt (by omega)]
          unfold rmv
          rw [if_neg (by omega)]
      rw [e1, e2] at this
      exact this
  obtain ⟨t1, t2, t3⟩ := third_ok (h3 _) (h3 _) hac
  have hA : (k + n - 1) % n < n := Nat.mod_lt _ (by omega)
  have hC : (k + 1) % n < n := Nat.mod_lt _ (by omega)
  have nA : (k + n - 1) % n ≠ k := by
    by_cases k0 : k = 0
    · rw [Nat.mod_eq_of_lt (by omega)]; omega
    · rw [show k + n - 1 = k - 1 + n by omega, Nat.add_mod_right, Nat.mod_eq_of_lt (by omega)]; omega
  have nC : (k + 1) % n ≠ k := by
    by_cases kl : k + 1 = n
    · rw [kl, Nat.mod_self]; omega
    · rw [Nat.mod_eq_of_lt (by omega)]; omega
  have rA : r ((k + n - 1) % n) ≠ r k := fun q => nA (inj _ _ hA hk q)
  have rC : r ((k + 1) % n) ≠ r k := fun q => nC (inj _ _ hC hk q)
  refine ⟨fun v => if v = r k then third (col' (r ((k + n - 1) % n))) (col' (r ((k + 1) % n))) else col' v, fun v => ?_, fun v hv => if_neg hv, fun o ho => ?_, ?_⟩
  · show (if v = r k then _ else _) < 3
    split
    · exact t1
    · exact h3 v
  · show (if r o = r k then _ else _) ≠ (if r ((o + 1) % n) = r k then _ else _)
    by_cases ok : o = k
    · subst ok
      rw [if_pos rfl, if_neg rC]
      exact t3
    · have ro : r o ≠ r k := fun q => ok (inj _ _ ho hk q)
      rw [if_neg ro]
      have hP : (o + 1) % n < n := Nat.mod_lt _ (by omega)
      by_cases pk : (o + 1) % n = k
      · rw [pk, if_pos rfl]
        have : o = (k + n - 1) % n := by
          by_cases ol : o + 1 = n
          · rw [ol, Nat.mod_self] at pk
            subst pk
            rw [Nat.mod_eq_of_lt (by omega)]; omega
          · rw [Nat.mod_eq_of_lt (by omega)] at pk
            rw [show k + n - 1 = k - 1 + n by omega, Nat.add_mod_right, Nat.mod_eq_of_lt (by omega)]; omega
        rw [this]
        exact fun q => t2 q.symm
      · have rp : r ((o + 1) % n) ≠ r k := fun q => pk (inj _ _ hP hk q)
        rw [if_neg rp]
        obtain ⟨o', a1, a2, a3, a4⟩ := rmv_at (r := r) hk ho ok
        obtain ⟨p', b1, b2, b3, b4⟩ := rmv_at (r := r) hk hP pk
        have := hp o' a1
        have e : (o' + 1) % (n - 1) = p' := by
          by_cases ol : o + 1 = n
          · rw [ol, Nat.mod_self] at pk b3
            have ha := a4 (by omega)
            have hb := b3 (by omega)
            rw [hb, ha, show o - 1 + 1 = n - 1 by omega, Nat.mod_self]
          · rw [Nat.mod_eq_of_lt (show o + 1 < n by omega)] at pk b3 b4
            by_cases q : o < k
            · rw [a3 q, b3 (by omega), Nat.mod_eq_of_lt (by omega)]
            · rw [a4 (by omega), b4 (by omega), Nat.mod_eq_of_lt (by omega)]; omega
        rw [e, a2, b2] at this
        exact this
  · show (if _ = r k then _ else _) ≠ (if _ = r k then _ else _)
    rw [if_neg rA, if_neg rC]
    exact hac
/-- what the triangles from the (N - n)-th on are -/
def TP (S : ST) (n : Nat) (r : Nat → Nat) (S1 : ST) (v : Option Value) (S' : ST) : Prop := v = none ∧ Fm [156, 157] [] S1 S' ∧ (∀ j, j < 3 * (rN S 141 - n) → S'.1 157 j = S1.1 157 j) ∧ ∃ col : Nat → Nat, (∀ v, col v < 3) ∧ (∀ o, o < n → col (r o) ≠ col (r ((o + 1) % n))) ∧ ∀ u, rN S 141 - n ≤ u → u < rN S 141 - 2 → ∃ x y z, S'.1 157 (3 * u) = nJ x ∧ S'.1 157 (3 * u + 1) = nJ y ∧ S'.1 157 (3 * u + 2) = nJ z ∧ (∃ o, o < n ∧ x = r o) ∧ (∃ o, o < n ∧ y = r o) ∧ (∃ o, o < n ∧ z = r o) ∧ col x ≠ col y ∧ col y ≠ col z ∧ col z ≠ col x
section Tri
variable {d : Nat} {S : ST}
theorem tri_go (g : GR S 141) : ∀ n, 3 ≤ n → n ≤ rN S 141 → ∀ r S1, Fm [156, 157] [] S S1 → Rg S1 n r → ge_simple (ge_pl n (fun o => rP S 141 (r o))) → 0 < sgA S * ge_ar (ge_pl n (fun o => rP S 141 (r o))) → Go XM (d + 4) 251 0 29 [some (.ref 140), some (.int (nJ n)), some (.int (nJ (rN S 141 - n))), none, none] [] S1 (RP (TP S n r S1)) := by
  have h12 := g.1.2
  have hσ : sgA S = 1 ∨ sgA S = -1 := by unfold sgA; split <;> simp
  intro n
  induction n with
  | zero => intro h; omega
  | succ m ih =>
  intro h3 hN r S1 hF hR hs ha
  have e1 := hF.row (a := 141) (by decide) (by decide)
  have hW1 : RW S1 141 := RW_row e1 g.1
  have hB1 : RB S1 141 := RB_row e1 g.2.2.1
  have eN : rN S1 141 = rN S 141 := rN_row e1
  have eP : rP S1 141 = rP S 141 := by funext i; unfold rP; rw [e1]
  have eσ : sgA S1 = sgA S := by unfold sgA; rw [rL_r2 e1]
  have rlt : ∀ o, o < m + 1 → r o < rN S 141 := fun o ho => by rw [← eN]; exact (hR o ho).2
  have inj : ∀ i j, i < m + 1 → j < m + 1 → r i = r j → i = j := fun i j hi hj e => pl_inj hs.1 hi hj (by rw [e])
  by_cases hm : m + 1 = 3
  · -- the last triangle
    have hm : m = 2 := by omega
    subst hm
    refine b_251_29 (fun q => absurd ((nJ_lt (i := 3) (j := 3) (by omega) (by omega)).mp q) (by omega)) (fun _ => ?_)
    have r0 := hR 0 (by omega)
    have r1 := hR 1 (by omega)
    have r2 := hR 2 (by omega)
    rw [r0.1, r1.1, r2.1]
    have b0 := rlt 0 (by omega)
    have b1 := rlt 1 (by omega)
    have b2 := rlt 2 (by omega)
    refine go_cv mm_251 (h := 140) (As := [.int (nJ (rN S 141 - 3)), .int (nJ (r 0)), .int (nJ (r 1)), .int (nJ (r 2))]) (rest := []) (nl := 7) rfl XM_140 (show cvOK 251 144 297 250 4 7 11 = true by decide +kernel) rfl rfl rfl (sq_250 (t := rN S 141 - 3) (a := r 0) (b := r 1) (c := r 2) (by omega)) (KP_V ?_)
    refine b_251_147 ?_
    obtain ⟨f1, f2, x, y, z, x1, y1, z1, hperm⟩ := g250_t (S := S1) (a := r 0) (b := r 1) (c := r 2) (t := rN S 141 - 3) (by omega) (by omega) (by omega) (by omega)
    have d01 : r 0 ≠ r 1 := fun q => by have := inj 0 1 (by omega) (by omega) q; omega
    have d12 : r 1 ≠ r 2 := fun q => by have := inj 1 2 (by omega) (by omega) q; omega
    have d20 : r 2 ≠ r 0 := fun q => by have := inj 2 0 (by omega) (by omega) q; omega
    have i0 : ∃ o, o < 3 ∧ r 0 = r o := ⟨0, by omega, rfl⟩
    have i1 : ∃ o, o < 3 ∧ r 1 = r o := ⟨1, by omega, rfl⟩
    have i2 : ∃ o, o < 3 ∧ r 2 = r o := ⟨2, by omega, rfl⟩
    have c0 : (if r 0 = r 0 then 0 else if r 0 = r 1 then 1 else 2 : Nat) = 0 := if_pos rfl
    have c1 : (if r 1 = r 0 then 0 else if r 1 = r 1 then 1 else 2 : Nat) = 1 := by rw [if_neg (fun q => d01 q.symm), if_pos rfl]
    have c2 : (if r 2 = r 0 then 0 else if r 2 = r 1 then 1 else 2 : Nat) = 2 := by rw [if_neg d20, if_neg (fun q => d12 q.symm)]
    refine ⟨rfl, _, rfl, rfl, f1.wk (by decide) (by decide), f2, fun v => if v = r 0 then 0 else if v = r 1 then 1 else 2, fun v => ?_, fun o ho => ?_, fun u h1 h2 => ?_⟩
    · show (if v = r 0 then 0 else if v = r 1 then 1 else 2) < 3
      split
      · omega
      · split <;> omega
    · dsimp only
      have : o = 0 ∨ o = 1 ∨ o = 2 := by omega
      rcases this with rfl | rfl | rfl
      · show (if r 0 = r 0 then 0 else if r 0 = r 1 then 1 else 2) ≠ (if r 1 = r 0 then 0 else if r 1 = r 1 then 1 else 2)
        rw [c0, c1]; omega
      · show (if r 1 = r 0 then 0 else if r 1 = r 1 then 1 else 2) ≠ (if r 2 = r 0 then 0 else if r 2 = r 1 then 1 else 2)
        rw [c1, c2]; omega
      · show (if r 2 = r 0 then 0 else if r 2 = r 1 then 1 else 2) ≠ (if r 0 = r 0 then 0 else if r 0 = r 1 then 1 else 2)
        rw [c0, c2]; omega
    · have hu : u = rN S 141 - 3 := by omega
      subst hu
      refine ⟨x, y, z, x1, y1, z1, ?_⟩
      rcases hperm with ⟨rfl, rfl, rfl⟩ | ⟨rfl, rfl, rfl⟩ | ⟨rfl, rfl, rfl⟩ | ⟨rfl, rfl, rfl⟩ | ⟨rfl, rfl, rfl⟩ | ⟨rfl, rfl, rfl⟩ <;> dsimp only <;> rw [c0, c1, c2] <;> first | exact ⟨i0, i1, i2, by omega, by omega, by omega⟩ | exact ⟨i0, i2, i1, by omega, by omega, by omega⟩ | exact ⟨i1, i0, i2, by omega, by omega, by omega⟩ | exact ⟨i1, i2, i0, by omega, by omega, by omega⟩ | exact ⟨i2, i0, i1, by omega, by omega, by omega⟩ | exact ⟨i2, i1, i0, by omega, by omega, by omega⟩
  · -- an ear is cut off
    refine b_251_29 (fun _ => ?_) (fun q => absurd ((nJ_lt (i := 3) (j := m + 1) (by omega) (by omega)).mpr (by omega)) q)
    obtain ⟨k0, hk0, he0⟩ := ear_ex (r := r) hσ (by omega) hs ha
    have srch : ∀ q k, k + q = k0 → Go XM (d + 4) 251 0 36 [some (.ref 140), some (.int (nJ (m + 1))), some (.int (nJ (rN S 141 - (m + 1)))), some (.int (nJ k)), none] [] S1 (RP (TP S (m + 1) r S1)) := by
      intro q
      -- an ear at k: cut it
      have cut : ∀ k, k < m + 1 → EarAt (rP S 141) (sgA S) (m + 1) r k → Go XM (d + 4) 251 0 42 [some (.ref 140), some (.int (nJ (m + 1))), some (.int (nJ (rN S 141 - (m + 1)))), some (.int (nJ k)), none] [.int (b2i true)] S1 (RP (TP S (m + 1) r S1)) := by
        intro k hk he
        have hA : (k + (m + 1) - 1) % (m + 1) < m + 1 := Nat.mod_lt _ (by omega)
        have hC : (k + 1) % (m + 1) < m + 1 := Nat.mod_lt _ (by omega)
        refine b_251_42 (fun _ z => ?_) (fun _ => ?_) (fun _ => nJ_inB (by omega) (by omega)) (fun _ => ?_) (fun _ => ?_) (fun z => by cases z)
        · have := (nJ_eq (j := 0) (by omega) (by omega)).mp z
          omega
        · rw [nJ_md1 (by omega) (by omega) (by omega)]; exact nJ_inB (by omega) (by omega)
        · rw [nJ_md2 (by omega) (by omega)]; exact nJ_inB (by omega) (by omega)
        rw [nJ_md1 (by omega) (by omega) (by omega), nJ_md2 (by omega) (by omega), ra_n S1 156 (by omega), ra_n S1 156 (by omega), ra_n S1 156 (by omega), (hR _ hA).1, (hR _ hk).1, (hR _ hC).1]
        have bA := rlt _ hA
        have bk := rlt _ hk
        have bC := rlt _ hC
        refine go_cv mm_251 (h := 140) (As := [.int (nJ (rN S 141 - (m + 1))), .int (nJ (r ((k + (m + 1) - 1) % (m + 1)))), .int (nJ (r k)), .int (nJ (r ((k + 1) % (m + 1))))]) (rest := []) (nl := 7) rfl XM_140 (show cvOK 251 81 297 250 4 7 11 = true by decide +kernel) rfl rfl rfl (sq_250 (t := rN S 141 - (m + 1)) (by omega)) (KP_V ?_)
        obtain ⟨f1, f2, x, y, z, x1, y1, z1, hperm⟩ := g250_t (S := S1) (a := r ((k + (m + 1) - 1) % (m + 1))) (b := r k) (c := r ((k + 1) % (m + 1))) (t := rN S 141 - (m + 1)) (by omega) (by omega) (by omega) (by omega)
        generalize g_250 S1 (nJ (rN S 141 - (m + 1))) (nJ (r ((k + (m + 1) - 1) % (m + 1)))) (nJ (r k)) (nJ (r ((k + 1) % (m + 1)))) = S2 at *
        refine b_251_84 ?_
        have hR2 : ∀ o, o < m + 1 → S2.1 156 o = nJ (r o) := fun o ho => by
          rw [f1.row (a := 156) (by decide) (by decide)]
          exact (hR o ho).1
        -- the ring moves up
        have shift : ∀ p o S3, o + p = m → k ≤ o → Fm [156] [] S2 S3 → (∀ j, j < m + 1 → S3.1 156 j = nJ (if j < o then rmv r k j else r j)) → Go XM (d + 4) 251 0 93 [some (.ref 140), some (.int (nJ m)), some (.int (nJ (rN S 141 - m))), some (.int (nJ k)), some (.int (nJ o))] [] S3 (RP (TP S (m + 1) r S1)) := by
          intro p
          induction p with
          | zero =>
            intro o S3 ho hko hF3 hR3
            have ho : o = m := by omega
            have hn : ¬ nJ o < nJ m := by rw [nJ_lt (by omega) (by omega)]; omega
            refine b_251_93 (fun q => absurd q hn) (fun q => absurd q hn) (fun q => absurd q hn) (fun _ => ?_)
            have hF3' : Fm [156, 157] [] S S3 := (hF.tr (f1.wk (by decide) (by decide))).tr (hF3.wk (by decide) (by decide))
            have e3 := hF3'.row (a := 141) (by decide) (by decide)
            obtain ⟨hs', ha'⟩ := ear_cut (r := r) hσ (by omega) hk hs ha he
            have hs' : ge_simple (ge_pl m (fun o => rP S 141 (rmv r k o))) := hs'
            have ha' : 0 < sgA S * ge_ar (ge_pl m (fun o => rP S 141 (rmv r k o))) := ha'
            have hRm : Rg S3 m (rmv r k) := by
              intro j hj
              refine ⟨by rw [hR3 j (by omega), if_pos (by omega)], ?_⟩
              rw [rN_row e3]
              obtain ⟨j', j1, j2, j3⟩ := rmv_in (r := r) hk (show j < m + 1 - 1 by omega)
              rw [j3]
              exact rlt j' j1
            refine Go.le (Go.im (ih (by omega) (by omega) (rmv r k) S3 hF3' hRm hs' ha') ?_) (by repeat first | exact True.intro | refine And.intro rfl ?_)
            rintro c o S' ⟨rfl, v, rfl, rfl, hF4, hold, col', h3', hp', htr⟩
            obtain ⟨col, col3, colE, colP, colAC⟩ := col_step (r := r) (n := m + 1) (k := k) (by omega) hk inj h3' hp'
            have hcA := colP ((k + (m + 1) - 1) % (m + 1)) hA
            have eAk : ((k + (m + 1) - 1) % (m + 1) + 1) % (m + 1) = k := by
              by_cases k0 : k = 0
              · subst k0
                rw [Nat.mod_eq_of_lt (show 0 + (m + 1) - 1 < m + 1 by omega), show 0 + (m + 1) - 1 + 1 = m + 1 by omega, Nat.mod_self]
              · rw [show k + (m + 1) - 1 = k - 1 + (m + 1) by omega, Nat.add_mod_right, Nat.mod_eq_of_lt (show k - 1 < m + 1 by omega), show k - 1 + 1 = k by omega, Nat.mod_eq_of_lt hk]
            rw [eAk] at hcA
            have hck := colP k hk
            have hNm : rN S 141 - (m + 1) + 1 = rN S 141 - m := by omega
            refine ⟨rfl, _, rfl, rfl, ((f1.wk (by decide) (by decide)).tr (hF3.wk (by decide) (by decide))).tr hF4, fun j hj => ?_, col, col3, colP, fun u h1 h2 => ?_⟩
            · rw [hold j (by omega), hF3.row (a := 157) (by decide) (by decide), f2 j hj]
            · by_cases hu : u = rN S 141 - (m + 1)
              · subst hu
                have q : ∀ w, w < 3 → S'.1 157 (3 * (rN S 141 - (m + 1)) + w) = S2.1 157 (3 * (rN S 141 - (m + 1)) + w) := fun w hw => by rw [hold _ (by omega), hF3.row (a := 157) (by decide) (by decide)]
                have iA : ∃ o, o < m + 1 ∧ r ((k + (m + 1) - 1) % (m + 1)) = r o := ⟨_, hA, rfl⟩
                have iB : ∃ o, o < m + 1 ∧ r k = r o := ⟨_, hk, rfl⟩
                have iC : ∃ o, o < m + 1 ∧ r ((k + 1) % (m + 1)) = r o := ⟨_, hC, rfl⟩
                refine ⟨x, y, z, (q 0 (by omega)).trans x1, (q 1 (by omega)).trans y1, (q 2 (by omega)).trans z1, ?_⟩
                rcases hperm with ⟨rfl, rfl, rfl⟩ | ⟨rfl, rfl, rfl⟩ | ⟨rfl, rfl, rfl⟩ | ⟨rfl, rfl, rfl⟩ | ⟨rfl, rfl, rfl⟩ | ⟨rfl, rfl, rfl⟩
                · exact ⟨iA, iB, iC, hcA, hck, fun q => colAC q.symm⟩
                · exact ⟨iA, iC, iB, colAC, fun q => hck q.symm, fun q => hcA q.symm⟩
                · exact ⟨iB, iA, iC, fun q => hcA q.symm, colAC, fun q => hck q.symm⟩
                · exact ⟨iB, iC, iA, hck, fun q => colAC q.symm, hcA⟩
                · exact ⟨iC, iA, iB, fun q => colAC q.symm, hcA, hck⟩
                · exact ⟨iC, iB, iA, fun q => hck q.symm, fun q => hcA q.symm, colAC⟩
              · obtain ⟨x', y', z', a1, a2, a3, ⟨o1, p1, rfl⟩, ⟨o2, p2, rfl⟩, ⟨o3, p3, rfl⟩, d1, d2, d3⟩ := htr u (by omega) h2
                obtain ⟨o1', q1, n1, w1⟩ := rmv_in (r := r) hk (show o1 < m + 1 - 1 by omega)
                obtain ⟨o2', q2, n2, w2⟩ := rmv_in (r := r) hk (show o2 < m + 1 - 1 by omega)
                obtain ⟨o3', q3, n3, w3⟩ := rmv_in (r := r) hk (show o3 < m + 1 - 1 by omega)
                have E : ∀ {o o' : Nat}, o' < m + 1 → o' ≠ k → rmv r k o = r o' → col (rmv r k o) = col' (rmv r k o) := fun {o o'} h1 h2 h3 => colE _ (by rw [h3]; exact fun q => h2 (inj _ _ h1 hk q))
                rw [← E q1 n1 w1, ← E q2 n2 w2] at d1
                rw [← E q2 n2 w2, ← E q3 n3 w3] at d2
                rw [← E q3 n3 w3, ← E q1 n1 w1] at d3
                exact ⟨_, _, _, a1, a2, a3, ⟨o1', q1, w1⟩, ⟨o2', q2, w2⟩, ⟨o3', q3, w3⟩, d1, d2, d3⟩
          | succ p ihp =>
            intro o S3 ho hko hF3 hR3
            have hlt : nJ o < nJ m := by rw [nJ_lt (by omega) (by omega)]; omega
            refine b_251_93 (fun _ => ?_) (fun _ => nJ_inB (by omega) (by omega)) (fun _ => ?_) (fun q => absurd hlt q)
            · rw [nJ_succ]; exact nJ_inB (by omega) (by omega)
            · rw [nJ_succ, nJ_ix (by omega), ra_n S3 156 (by omega), hR3 (o + 1) (by omega), if_neg (by omega)]
              refine ihp (o + 1) _ (by omega) (by omega) (hF3.tr (Fm_a (by decide))) (fun j hj => ?_)
              by_cases q : j = o
              · subst q
                rw [wI_1, if_pos ⟨rfl, rfl⟩, if_pos (by omega)]
                unfold rmv
                rw [if_neg (by omega)]
              · rw [wI_1, if_neg (fun z => q z.2), hR3 j hj]
                by_cases q2 : j < o
                · rw [if_pos q2, if_pos (by omega)]
                · rw [if_neg q2, if_neg (by omega)]
        rw [nJ_dec (by omega), nJ_succ, show m + 1 - 1 = m by omega, show rN S 141 - (m + 1) + 1 = rN S 141 - m by omega]
        refine shift (m - k) k S2 (by omega) (Nat.le_refl _) Fm.rf (fun j hj => ?_)
        rw [hR2 j hj]
        split
        · next q => unfold rmv; rw [if_pos q]
        · rfl
      -- the search
      have call : ∀ k, k < m + 1 → (¬ EarAt (rP S 141) (sgA S) (m + 1) r k → Go XM (d + 4) 251 0 36 [some (.ref 140), some (.int (nJ (m + 1))), some (.int (nJ (rN S 141 - (m + 1)))), some (.int (nJ (k + 1))), none] [] S1 (RP (TP S (m + 1) r S1))) → Go XM (d + 4) 251 0 36 [some (.ref 140), some (.int (nJ (m + 1))), some (.int (nJ (rN S 141 - (m + 1)))), some (.int (nJ k)), none] [] S1 (RP (TP S (m + 1) r S1)) := by
        intro k hk hno
        refine b_251_36 ?_
        have sp := sq_249 (d := d) hW1 hB1 (n := m + 1) (k := k) (r := r) (by omega) (by omega) hk hR
        rw [eP, eσ] at sp
        refine go_cv mm_251 (h := 140) (As := [.int (nJ k), .int (nJ (m + 1))]) (rest := []) (nl := 8) rfl XM_140 (show cvOK 251 39 293 249 2 8 11 = true by decide +kernel) rfl rfl rfl sp (KP_P (fun v S2 h2 => ?_))
        obtain ⟨rfl, b, rfl, hb⟩ := h2
        cases b with
        | true => exact cut k hk (hb.mp rfl)
        | false =>
          refine b_251_42 (w0 := false) (fun z => by cases z) (fun z => by cases z) (fun z => by cases z) (fun z => by cases z) (fun z => by cases z) (fun _ => ?_)
          rw [nJ_succ]
          exact hno (fun z => by have := hb.mpr z; cases this)
      induction q with
      | zero =>
        intro k hk
        have hk : k = k0 := by omega
        subst hk
        exact call k hk0 (fun z => absurd he0 z)
      | succ q ihq =>
        intro k hk
        exact call k (by omega) (fun _ => ihq (k + 1) (by omega))
    exact srch k0 0 (by omega)
end Tri
