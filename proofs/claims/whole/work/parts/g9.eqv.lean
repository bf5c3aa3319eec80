/-! good ears don't depend on where the list begins, nor on its direction; the step over the lowest corner if its triangle is empty -/
def ge_adj (l : List GPt) (u v : GPt) : Prop := (u, v) ∈ ge_E l ∨ (v, u) ∈ ge_E l
theorem ge_adj_symm {l : List GPt} {u v : GPt} (h : ge_adj l u v) : ge_adj l v u := Or.comm.mp h
/-- for each edge a good ear that isn't one of its ends -/
def ge_PE (l : List GPt) : Prop := ∀ u v : GPt, ge_adj l u v → ∃ x e y : GPt, ge_adj l x e ∧ ge_adj l e y ∧ x ≠ y ∧ e ≠ u ∧ e ≠ v ∧ ge_o x e y ≠ 0 ∧ ge_good l x e y
def ge_eqv (l l' : List GPt) : Prop := (∀ v : GPt, v ∈ l ↔ v ∈ l') ∧ (∀ u v : GPt, ge_adj l u v ↔ ge_adj l' u v) ∧ ∀ (k : Int) (p : GPt), ge_par (ge_S k l) p = ge_par (ge_S k l') p
theorem ge_off_iff {l : List GPt} {k : Int} {p : GPt} : ge_off (ge_S k l) p ↔ ∀ u v : GPt, ge_adj l u v → ¬ ge_on (ge_s k u) (ge_s k v) p := by
  unfold ge_off
  rw [ge_E_S]
  constructor
  · intro h u v huv z
    rcases huv with q | q
    · exact h (ge_s k u, ge_s k v) (List.mem_map.mpr ⟨(u, v), q, rfl⟩) z
    · exact h (ge_s k v, ge_s k u) (List.mem_map.mpr ⟨(v, u), q, rfl⟩) (ge_on_symm z)
  · intro h f hf z
    obtain ⟨f0, hf0, rfl⟩ := List.mem_map.mp hf
    exact h f0.1 f0.2 (Or.inl hf0) z
theorem ge_eqv_symm {l l' : List GPt} (h : ge_eqv l l') : ge_eqv l' l := ⟨fun v => (h.1 v).symm, fun u v => (h.2.1 u v).symm, fun k p => (h.2.2 k p).symm⟩
theorem ge_eqv_trans {l l' l'' : List GPt} (h : ge_eqv l l') (g : ge_eqv l' l'') : ge_eqv l l'' := ⟨fun v => (h.1 v).trans (g.1 v), fun u v => (h.2.1 u v).trans (g.2.1 u v), fun k p => (h.2.2 k p).trans (g.2.2 k p)⟩
theorem ge_eqv_off {l l' : List GPt} (h : ge_eqv l l') {k : Int} {p : GPt} : ge_off (ge_S k l) p ↔ ge_off (ge_S k l') p := by
  rw [ge_off_iff, ge_off_iff]
  exact ⟨fun g u v q => g u v ((h.2.1 u v).mpr q), fun g u v q => g u v ((h.2.1 u v).mp q)⟩
theorem ge_eqv_good {l l' : List GPt} (h : ge_eqv l l') {x e y : GPt} (g : ge_good l x e y) : ge_good l' x e y :=
  ⟨fun w hw => g.1 w ((h.1 w).mpr hw), fun k hk p hp ho => by rw [← h.2.2]; exact g.2 k hk p hp ((ge_eqv_off h).mpr ho)⟩
theorem ge_eqv_PE {l l' : List GPt} (h : ge_eqv l l') (g : ge_PE l) : ge_PE l' := by
  intro u v huv
  obtain ⟨x, e, y, h1, h2, h3, h4, h5, h6, h7⟩ := g u v ((h.2.1 u v).mpr huv)
  exact ⟨x, e, y, (h.2.1 x e).mp h1, (h.2.1 e y).mp h2, h3, h4, h5, h6, ge_eqv_good h h7⟩
theorem ge_eqv_simple {l l' : List GPt} (h : ge_eqv l l') (hn : l'.Nodup) (g : ge_simple l) : ge_simple l' := by
  obtain ⟨-, hv, hx⟩ := g
  have back : ∀ e ∈ ge_E l', e ∈ ge_E l ∨ (e.2, e.1) ∈ ge_E l := fun e he => (h.2.1 e.1 e.2).mpr (Or.inl he)
  refine ⟨hn, fun w hw e he z => ?_, fun e he f hf z => ?_⟩
  · rcases back e he with q | q
    · exact hv w ((h.1 w).mpr hw) e q z
    · exact (hv w ((h.1 w).mpr hw) _ q (ge_on_symm z)).symm
  · rcases back e he with q | q <;> rcases back f hf with r | r
    · exact hx _ q _ r z
    · exact hx _ q _ r (ge_x_symm (ge_x_swap (ge_x_symm z)))
    · exact hx _ q _ r (ge_x_swap z)
    · exact hx _ q _ r (ge_x_symm (ge_x_swap (ge_x_symm (ge_x_swap z))))
theorem ge_S_app (k : Int) (s t : List GPt) : ge_S k (s ++ t) = ge_S k s ++ ge_S k t := by simp [ge_S]
theorem ge_eqv_rot (s t : List GPt) : ge_eqv (s ++ t) (t ++ s) := by
  refine ⟨fun v => by simp [Or.comm], fun u v => ?_, fun k p => ?_⟩
  · unfold ge_adj
    rw [ge_E_rot s t, ge_E_rot s t]
  · rw [ge_S_app, ge_S_app, ge_par_rot]
theorem ge_ed_rev (l : List GPt) (u v : GPt) : (u, v) ∈ ge_ed l.reverse ↔ (v, u) ∈ ge_ed l := by
  induction l with
  | nil => simp [ge_ed]
  | cons a r ih =>
    cases r with
    | nil => simp [ge_ed]
    | cons b r =>
      rw [show (a :: b :: r).reverse = r.reverse ++ b :: [a] by simp, ge_ed_app]
      rw [show r.reverse ++ [b] = (b :: r).reverse by simp, List.mem_append, ih]
      show (v, u) ∈ ge_ed (b :: r) ∨ (u, v) ∈ [(b, a)] ↔ (v, u) ∈ (a, b) :: ge_ed (b :: r)
      simp
      grind
theorem ge_pp_rev (l : List GPt) (p : GPt) : ge_pp l.reverse p = ge_pp l p := by
  induction l with
  | nil => rfl
  | cons a r ih =>
    cases r with
    | nil => rfl
    | cons b r =>
      rw [show (a :: b :: r).reverse = r.reverse ++ b :: [a] by simp, ge_pp_app]
      rw [show r.reverse ++ [b] = (b :: r).reverse by simp, ih]
      show (ge_pp (b :: r) p != (ge_cs b a p != false)) = (ge_cs a b p != ge_pp (b :: r) p)
      rw [ge_cs_comm b a]
      cases ge_pp (b :: r) p <;> cases ge_cs a b p <;> rfl
theorem ge_cy_rev (b : GPt) (t : List GPt) : ge_cy (b :: t.reverse) = (ge_cy (b :: t)).reverse := by simp [ge_cy]
theorem ge_eqv_rev (b : GPt) (t : List GPt) : ge_eqv (b :: t) (b :: t.reverse) := by
  refine ⟨fun v => by simp, fun u v => ?_, fun k p => ?_⟩
  · unfold ge_adj ge_E
    rw [ge_cy_rev, ge_ed_rev, ge_ed_rev]
    exact Or.comm
  · rw [show ge_S k (b :: t.reverse) = ge_s k b :: (ge_S k t).reverse by simp [ge_S]]
    unfold ge_par
    rw [ge_cy_rev, ge_pp_rev]
    rfl
/-- a point that lies lower than the corners isn't in the triangle -/
theorem ge_low_in {x e y b : GPt} (hF : 0 < ge_o x e y) (hx : ge_low b x) (he : ge_low b e) (hy : ge_low b y) : ¬ ge_in x e y b := by
  rintro ⟨h1, h2, h3⟩
  have b0 := ge_b0 x e y b
  have by' := ge_by x e y b
  have bx := ge_bx x e y b
  have nn : ∀ {w : GPt}, ge_low b w → 0 ≤ w.2 - b.2 := fun h => by rcases h with h | ⟨h, -⟩ <;> omega
  have k1 := Int.mul_nonneg h2 (nn hx)
  have k2 := Int.mul_nonneg h3 (nn he)
  have k3 := Int.mul_nonneg h1 (nn hy)
  have e1 : ge_o e y b * (x.2 - b.2) = 0 := by omega
  have e2 : ge_o y x b * (e.2 - b.2) = 0 := by omega
  have e3 : ge_o x e b * (y.2 - b.2) = 0 := by omega
  have lt : ∀ {w : GPt} {k : Int}, ge_low b w → 0 ≤ k → k * (w.2 - b.2) = 0 → k * (w.1 - b.1) ≤ 0 ∧ (0 < k → k * (w.1 - b.1) < 0) := fun {w k} h hk hz => by
    rcases h with h | ⟨h, h'⟩
    · have : k = 0 := by rcases Int.mul_eq_zero.mp hz with q | q <;> omega
      subst this
      exact ⟨by rw [Int.zero_mul]; exact Int.le_refl _, fun q => by omega⟩
    · have m1 := Int.mul_nonneg hk (show 0 ≤ b.1 - w.1 by omega)
      refine ⟨by grind, fun q => ?_⟩
      have m2 := Int.mul_pos q (show 0 < b.1 - w.1 by omega)
      grind
  have l1 := lt hx h2 e1
  have l2 := lt he h3 e2
  have l3 := lt hy h1 e3
  omega
theorem ge_low_tc {x e y b : GPt} (hF : ge_o x e y ≠ 0) (hx : ge_low b x) (he : ge_low b e) (hy : ge_low b y) : ¬ ge_tc x e y b := by
  intro h
  rcases Int.lt_or_lt_of_ne hF with q | q
  · have : ge_o y e x = -ge_o x e y := by unfold ge_o; grind
    exact ge_low_in (by omega) hy he hx (ge_tc_in (by omega) (ge_tc_symm h))
  · exact ge_low_in q hx he hy (ge_tc_in q h)
section CaseA
variable {a b c : GPt} {mid : List GPt}
theorem ge_PE_A (hF : 0 < ge_o a b c) (hs : ge_simple (b :: c :: (mid ++ [a]))) (he : ∀ w ∈ c :: (mid ++ [a]), w ≠ a → w ≠ c → ¬ ge_in a b c w) (hl : ∀ v ∈ c :: (mid ++ [a]), ge_low b v) (ih : ge_PE (c :: (mid ++ [a]))) : ge_PE (b :: c :: (mid ++ [a])) := by
  have hn := hs.1
  obtain ⟨hb, hn'⟩ := List.nodup_cons.mp hn
  have hac : a ≠ c := fun z => by
    have : c ∉ mid ++ [a] := (List.nodup_cons.mp hn').1
    rw [← z] at this
    exact this (by simp)
  have hat : a ∈ c :: (mid ++ [a]) := by simp
  have good := ge_goodA hF hs he hl
  intro u v huv
  by_cases hbu : b = u ∨ b = v
  · obtain ⟨x, e, y, h1, h2, h3, h4, h5, h6, h7⟩ := ih a c (Or.inl (by rw [ge_E_cut]; simp))
    have lift : ∀ {w : GPt}, ge_adj (c :: (mid ++ [a])) w e → ge_adj (b :: c :: (mid ++ [a])) w e := fun {w} h => by
      unfold ge_adj at h ⊢
      rw [ge_E_cut] at h
      rw [ge_E_ear]
      rcases h with h | h
      · rcases List.mem_append.mp h with h | h
        · exact Or.inl (List.mem_cons_of_mem _ (List.mem_append_left _ h))
        · have := (Prod.mk.inj (List.mem_singleton.mp h)).2
          exact absurd this h5
      · rcases List.mem_append.mp h with h | h
        · exact Or.inr (List.mem_cons_of_mem _ (List.mem_append_left _ h))
        · have := (Prod.mk.inj (List.mem_singleton.mp h)).1
          exact absurd this h4
    have mem : ∀ {w : GPt}, ge_adj (c :: (mid ++ [a])) w e → w ∈ c :: (mid ++ [a]) ∧ e ∈ c :: (mid ++ [a]) := fun {w} h => by
      rcases h with h | h
      · exact ge_E_mem h
      · exact (ge_E_mem h).symm
    have hx := (mem h1).1
    have hem := (mem h1).2
    have hy := (mem (ge_adj_symm h2)).1
    have eb : e ≠ b := fun z => hb (z ▸ hem)
    have nb : ∀ {w : GPt}, ge_adj (b :: c :: (mid ++ [a])) b w → w = a ∨ w = c := fun {w} h => by
      unfold ge_adj at h
      rw [ge_E_ear] at h
      have nin : ∀ q : GPt × GPt, q ∈ ge_ed (c :: (mid ++ [a])) → q.1 ≠ b ∧ q.2 ≠ b := fun q hq => ⟨fun z => hb (z ▸ (ge_ed_mem _ q hq).1), fun z => hb (z ▸ (ge_ed_mem _ q hq).2)⟩
      rcases h with h | h
      · rcases List.mem_cons.mp h with h | h
        · exact Or.inr (Prod.mk.inj h).2
        · rcases List.mem_append.mp h with h | h
          · exact absurd rfl (nin _ h).1
          · have := (Prod.mk.inj (List.mem_singleton.mp h)).1
            exact absurd (this ▸ hat) hb
      · rcases List.mem_cons.mp h with h | h
        · have := (Prod.mk.inj h).2
          exact absurd (this ▸ List.mem_cons_self) hb
        · rcases List.mem_append.mp h with h | h
          · exact absurd rfl (nin _ h).2
          · exact Or.inl (Prod.mk.inj (List.mem_singleton.mp h)).1
    have euv : e ≠ u ∧ e ≠ v := by
      rcases hbu with q | q
      · subst q
        refine ⟨eb, fun z => ?_⟩
        rcases nb huv with r | r
        · exact h4 (z.trans r)
        · exact h5 (z.trans r)
      · subst q
        refine ⟨fun z => ?_, eb⟩
        rcases nb (ge_adj_symm huv) with r | r
        · exact h4 (z.trans r)
        · exact h5 (z.trans r)
    refine ⟨x, e, y, lift h1, ge_adj_symm (lift (ge_adj_symm h2)), h3, euv.1, euv.2, h6, ?_, ?_⟩
    · intro w hw w1 w2 w3
      rcases List.mem_cons.mp hw with q | q
      · rw [q]
        exact ge_low_tc h6 (hl x hx) (hl e hem) (hl y hy)
      · exact h7.1 w q w1 w2 w3
    · intro k hk p hp ho
      have hF' : 0 < ge_o (ge_s k a) (ge_s k b) (ge_s k c) := by rw [ge_o_s]; exact Int.mul_pos (ge_mm hk) hF
      have ac : (ge_s k a, ge_s k c) ∈ ge_E (ge_S k (c :: (mid ++ [a]))) := by rw [ge_E_S, ge_E_cut]; simp
      by_cases pac : ge_on (ge_s k a) (ge_s k c) p
      · exact good.2 k hk p (Or.inl (ge_ac_in hF' pac (fun z => hac (ge_s_inj hk z)))) ho
      · have off' : ge_off (ge_S k (c :: (mid ++ [a]))) p := by
          intro f hf z
          rw [ge_E_S, ge_E_cut] at hf
          obtain ⟨f0, hf0, rfl⟩ := List.mem_map.mp hf
          rcases List.mem_append.mp hf0 with q | q
          · refine ho (ge_s k f0.1, ge_s k f0.2) ?_ z
            rw [ge_E_S, ge_E_ear]
            exact List.mem_map.mpr ⟨f0, List.mem_cons_of_mem _ (List.mem_append_left _ q), rfl⟩
          · rw [List.mem_singleton.mp q] at z
            exact pac z
        have pt := h7.2 k hk p hp off'
        have n1 : ¬ ge_on (ge_s k a) (ge_s k b) p := fun z => ho (ge_s k a, ge_s k b) (by rw [ge_E_S, ge_E_ear]; simp) z
        have n2 : ¬ ge_on (ge_s k b) (ge_s k c) p := fun z => ho (ge_s k b, ge_s k c) (by rw [ge_E_S, ge_E_ear]; simp) z
        have n3 : ¬ ge_on (ge_s k c) (ge_s k a) p := fun z => pac (ge_on_symm z)
        have notT : ¬ ge_int (ge_s k a) (ge_s k b) (ge_s k c) p := fun z => by
          have z0 : ge_par (ge_S k (c :: (mid ++ [a]))) p = false := by
            rw [ge_S_cut]
            refine ge_A1 (mid := ge_S k mid) hF' (by rw [← ge_S_ear]; exact ge_simple_S hk hs) ?_ ?_ (ge_int_in z) z.2.2
            · intro w hw q1 q2 z
              rw [← ge_S_cut] at hw
              obtain ⟨w0, hw0, rfl⟩ := List.mem_map.mp hw
              exact he w0 hw0 (fun q => q1 (by rw [q])) (fun q => q2 (by rw [q])) ((ge_in_s hk _ _ _ _).mp z)
            · intro v hv
              rw [← ge_S_cut] at hv
              obtain ⟨w0, hw0, rfl⟩ := List.mem_map.mp hv
              exact ge_low_s hk (hl w0 hw0)
          rw [pt] at z0
          cases z0
        have tp0 : ge_tp (ge_s k a) (ge_s k b) (ge_s k c) p = false := by
          cases hq : ge_tp (ge_s k a) (ge_s k b) (ge_s k c) p with
          | false => rfl
          | true => exact absurd ((ge_tri hF' n1 n2 n3).mp hq) notT
        rw [ge_S_ear, ge_par_ear, tp0, ← ge_S_cut, pt]
        rfl
  · exact ⟨a, b, c, Or.inl (by rw [ge_E_ear]; simp), Or.inl (by rw [ge_E_ear]; simp), hac, fun z => hbu (Or.inl z), fun z => hbu (Or.inr z), by omega, good⟩
end CaseA
