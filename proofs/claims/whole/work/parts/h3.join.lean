/-! an ear of one part of a parted polygon is an ear of the whole -/
theorem ge_free_end {a b c x y p q : GPt} (h : ge_side a b c x y) (hp : ge_in a b c p) (hpo : ¬ ge_on x y p) (hq : ge_in a b c q) (hq3 : 0 < ge_o c a q) : ¬ ge_meet x y p q := by
  rcases Int.lt_or_eq_of_le hp.2.2 with hp3 | hp3
  · exact ge_free h hp hp3 hq hq3
  · intro hm
    have hpq : p ≠ q := fun z => by rw [z] at hp3; omega
    have inn : ∀ z : GPt, ge_on p q z → z = p ∨ (ge_in a b c z ∧ 0 < ge_o c a z) := fun z hz => by
      obtain ⟨i, j, w⟩ := ge_on_wt hpq hz
      by_cases hj : j = 0
      · subst hj
        exact Or.inl (ge_wt_0 w)
      · refine Or.inr ⟨ge_wt_in w hp hq, ?_⟩
        have e := ge_wt_o w c a
        rw [← hp3, Int.mul_zero] at e
        have := Int.mul_pos (show 0 < j by have := w.2.1; omega) hq3
        exact ge_pos w.2.2.1 (by omega)
    rcases hm with z | z | z | z | z
    · exact hpo z
    · exact ge_side_K h z hq hq3
    · rcases inn _ z with r | r
      · exact hpo (by rw [← r]; exact ge_on_l _ _)
      · exact h.2.1 r
    · rcases inn _ z with r | r
      · exact hpo (by rw [← r]; exact ge_on_r _ _)
      · exact h.2.2.1 r
    · obtain ⟨m, r, i, j, i', j', hm, w, w', hi, hj, -⟩ := ge_x_pt z
      refine ge_side_K (ge_side_s hm h) (ge_wt_on w') (ge_wt_in w ((ge_in_s hm _ _ _ _).mpr hp) ((ge_in_s hm _ _ _ _).mpr hq)) ?_
      have e := ge_wt_o w (ge_s m c) (ge_s m a)
      rw [ge_o_s, ← hp3, Int.mul_zero, Int.mul_zero, ge_o_s] at e
      have := Int.mul_pos hj (Int.mul_pos (ge_mm hm) hq3)
      exact ge_pos w.2.2.1 (by omega)
section Join
variable {l Q1 Q2 : List GPt} {b z : GPt}
/-- the parts of a polygon parted by bz -/
def ge_parts (l Q1 Q2 : List GPt) (b z : GPt) : Prop :=
  (∀ u v : GPt, ge_adj Q1 u v → ge_adj l u v ∨ (u = b ∧ v = z) ∨ (u = z ∧ v = b)) ∧ (∀ u v : GPt, ge_adj Q2 u v → ge_adj l u v ∨ (u = b ∧ v = z) ∨ (u = z ∧ v = b)) ∧
  (∀ w ∈ l, w ∈ Q1 ∨ w ∈ Q2) ∧ (∀ w ∈ Q1, w ∈ l) ∧ (∀ w ∈ Q2, w ∈ l) ∧ (∀ w ∈ Q1, w ∈ Q2 → w = b ∨ w = z) ∧ b ∈ Q1 ∧ z ∈ Q1 ∧ b ≠ z ∧
  (∀ (k : Int) (p : GPt), ge_par (ge_S k l) p = (ge_par (ge_S k Q1) p != ge_par (ge_S k Q2) p)) ∧
  (∀ w ∈ Q2, w ≠ b → w ≠ z → ge_par Q1 w = false) ∧ (∀ w ∈ Q1, w ≠ b → w ≠ z → ge_par Q2 w = false) ∧
  (∀ (k : Int) (p : GPt), 0 < k → ge_on (ge_s k b) (ge_s k z) p → ge_off (ge_S k l) p → ge_par (ge_S k l) p = true) ∧
  (∀ w ∈ l, ge_on b z w → w = b ∨ w = z) ∧ (∀ u v : GPt, ge_adj l u v → ¬ ge_x u v b z) ∧ ge_simple l
theorem ge_adj_V {l : List GPt} (hs : ge_simple l) {u v w : GPt} (hw : w ∈ l) (h : ge_adj l u v) (ho : ge_on u v w) : w = u ∨ w = v := by
  rcases h with h | h
  · exact hs.2.1 w hw _ h ho
  · exact (hs.2.1 w hw _ h (ge_on_symm ho)).symm
theorem ge_adj_X {l : List GPt} (hs : ge_simple l) {u v x y : GPt} (h : ge_adj l u v) (g : ge_adj l x y) : ¬ ge_x u v x y := by
  intro q
  rcases h with h | h <;> rcases g with g | g
  · exact hs.2.2 _ h _ g q
  · exact hs.2.2 _ h _ g (ge_x_symm (ge_x_swap (ge_x_symm q)))
  · exact hs.2.2 _ h _ g (ge_x_swap q)
  · exact hs.2.2 _ h _ g (ge_x_swap (ge_x_symm (ge_x_swap (ge_x_symm q))))
theorem ge_adj_mem {l : List GPt} {u v : GPt} (h : ge_adj l u v) : u ∈ l ∧ v ∈ l := by
  rcases h with h | h
  · exact ge_E_mem h
  · exact (ge_E_mem h).symm
theorem ge_join1 (H : ge_parts l Q1 Q2 b z) (hne : ∀ u v : GPt, ge_adj l u v → u ≠ v) {x e y : GPt} (hF : 0 < ge_o x e y) (h1 : ge_adj l x e) (h2 : ge_adj l e y) (heQ : e ∈ Q1) (hxQ : x ∈ Q1) (hyQ : y ∈ Q1) (eb : e ≠ b) (ez : e ≠ z) (hg : ge_good Q1 x e y) : ge_good l x e y := by
  obtain ⟨hE1, hE2, hV, hV1, hV2, hVV, hbQ, hzQ, hbz, hpar, hc1, hc2, hin, hzV, hzX, hs⟩ := H
  have empty : ∀ w ∈ l, w ≠ x → w ≠ e → w ≠ y → ¬ ge_tc x e y w := by
    intro w hw w1 w2 w3 q
    by_cases hw1 : w ∈ Q1
    · exact hg.1 w hw1 w1 w2 w3 q
    · have hw2 : w ∈ Q2 := (hV w hw).resolve_left hw1
      have wb : w ≠ b := fun r => hw1 (r ▸ hbQ)
      have wz : w ≠ z := fun r => hw1 (r ▸ hzQ)
      have p0 := hc1 w hw2 wb wz
      have off : ge_off (ge_S 1 Q1) w := by
        rw [ge_off_iff]
        intro u v huv r
        rw [ge_s_1, ge_s_1] at r
        have mu := ge_adj_mem huv
        rcases hE1 u v huv with g | ⟨g1, g2⟩ | ⟨g1, g2⟩
        · rcases ge_adj_V hs hw g r with t | t
          · exact hw1 (t ▸ mu.1)
          · exact hw1 (t ▸ mu.2)
        · rw [g1, g2] at r
          exact (hzV w hw r).elim wb wz
        · rw [g1, g2] at r
          exact (hzV w hw (ge_on_symm r)).elim wb wz
      have p1 := hg.2 1 (by decide) w (by rw [ge_s_1, ge_s_1, ge_s_1]; exact q) off
      rw [ge_S_1, p0] at p1
      cases p1
  refine ⟨empty, fun k hk p hp ho => ?_⟩
  by_cases hbzp : ge_on (ge_s k b) (ge_s k z) p
  · exact hin k p hk hbzp ho
  · have hoi := ge_off_iff.mp ho
    have off1 : ge_off (ge_S k Q1) p := by
      rw [ge_off_iff]
      intro u v huv r
      rcases hE1 u v huv with g | ⟨g1, g2⟩ | ⟨g1, g2⟩
      · exact hoi u v g r
      · rw [g1, g2] at r; exact hbzp r
      · rw [g1, g2] at r; exact hbzp (ge_on_symm r)
    have q1 := hg.2 k hk p hp off1
    have hF' : 0 < ge_o (ge_s k x) (ge_s k e) (ge_s k y) := by rw [ge_o_s]; exact Int.mul_pos (ge_mm hk) hF
    have pin := ge_tc_in hF' hp
    have zx : ge_o y x e = ge_o x e y := by rw [ge_o_cyc, ge_o_cyc]
    have eQ2 : e ∉ Q2 := fun r => (hVV e heQ r).elim eb ez
    have q2 : ge_par (ge_S k Q2) p = ge_par (ge_S k Q2) (ge_s k e) := by
      refine ge_par_mv (fun f hf => ?_)
      rw [ge_E_S] at hf
      obtain ⟨f0, hf0, rfl⟩ := List.mem_map.mp hf
      have hadj : ge_adj Q2 f0.1 f0.2 := Or.inl hf0
      have mf := ge_adj_mem hadj
      have out : ∀ w ∈ Q2, ¬ (ge_in x e y w ∧ 0 < ge_o y x w) := fun w hw r => by
        by_cases wx : w = x
        · have : ge_o y x x = 0 := by unfold ge_o; grind
          rw [wx] at r; omega
        · by_cases wy : w = y
          · have : ge_o y x y = 0 := by unfold ge_o; grind
            rw [wy] at r; omega
          · exact empty w (hV2 w hw) wx (fun t => eQ2 (t ▸ hw)) wy (Or.inl r.1)
      have V : ∀ w ∈ l, ge_on f0.1 f0.2 w → w = f0.1 ∨ w = f0.2 := fun w hw r => by
        rcases hE2 _ _ hadj with g | ⟨g1, g2⟩ | ⟨g1, g2⟩
        · exact ge_adj_V hs hw g r
        · rw [g1, g2] at r ⊢
          exact hzV w hw r
        · rw [g1, g2] at r ⊢
          exact (hzV w hw (ge_on_symm r)).symm
      have X : ∀ u v : GPt, ge_adj l u v → ¬ ge_x f0.1 f0.2 u v := fun u v huv r => by
        rcases hE2 _ _ hadj with g | ⟨g1, g2⟩ | ⟨g1, g2⟩
        · exact ge_adj_X hs g huv r
        · rw [g1, g2] at r
          exact hzX u v huv (ge_x_symm r)
        · rw [g1, g2] at r
          exact hzX u v huv (ge_x_symm (ge_x_swap r))
      have ne : f0.1 ≠ f0.2 := by
        rcases hE2 _ _ hadj with g | ⟨g1, g2⟩ | ⟨g1, g2⟩
        · exact hne _ _ g
        · rw [g1, g2]; exact hbz
        · rw [g1, g2]; exact hbz.symm
      have side : ge_side x e y f0.1 f0.2 := ⟨ne, out _ mf.1, out _ mf.2, X x e h1, X e y h2, fun r => ge_end1 (V x (hV1 x hxQ) r), fun r => by
        rcases V e (hV1 e heQ) r with t | t
        · exact eQ2 (t ▸ mf.1)
        · exact eQ2 (t ▸ mf.2), fun r => ge_end2 (V y (hV1 y hyQ) r)⟩
      have pno : ¬ ge_on (ge_s k f0.1) (ge_s k f0.2) p := fun r => by
        rcases hE2 _ _ hadj with g | ⟨g1, g2⟩ | ⟨g1, g2⟩
        · exact hoi _ _ g r
        · rw [g1, g2] at r; exact hbzp r
        · rw [g1, g2] at r; exact hbzp (ge_on_symm r)
      have z1 : ge_o (ge_s k x) (ge_s k e) (ge_s k e) = 0 := by unfold ge_o; grind
      have z2 : ge_o (ge_s k e) (ge_s k y) (ge_s k e) = 0 := by unfold ge_o; grind
      have z3 : 0 < ge_o (ge_s k y) (ge_s k x) (ge_s k e) := by rw [ge_o_s, zx]; exact Int.mul_pos (ge_mm hk) hF
      exact ge_free_end (ge_side_s hk side) pin pno ⟨by omega, by omega, by omega⟩ z3
    rw [hpar, q1, q2, ge_par_s hk, hc2 e heQ eb ez]
    rfl
theorem ge_join (H : ge_parts l Q1 Q2 b z) (hne : ∀ u v : GPt, ge_adj l u v → u ≠ v) {x e y : GPt} (h1 : ge_adj Q1 x e) (h2 : ge_adj Q1 e y) (eb : e ≠ b) (ez : e ≠ z) (hF : ge_o x e y ≠ 0) (hg : ge_good Q1 x e y) : ge_adj l x e ∧ ge_adj l e y ∧ ge_good l x e y := by
  have hE1 := H.1
  have a1 : ge_adj l x e := by
    rcases hE1 x e h1 with g | ⟨g1, g2⟩ | ⟨g1, g2⟩
    · exact g
    · exact absurd g2 ez
    · exact absurd g2 eb
  have a2 : ge_adj l e y := by
    rcases hE1 e y h2 with g | ⟨g1, g2⟩ | ⟨g1, g2⟩
    · exact g
    · exact absurd g1 eb
    · exact absurd g1 ez
  have m1 := ge_adj_mem h1
  have m2 := ge_adj_mem h2
  refine ⟨a1, a2, ?_⟩
  rcases Int.lt_or_lt_of_ne hF with q | q
  · have : ge_o y e x = -ge_o x e y := by unfold ge_o; grind
    exact ge_good_symm (ge_join1 H hne (by omega) (ge_adj_symm a2) (ge_adj_symm a1) m1.2 m2.2 m1.1 eb ez (ge_good_symm hg))
  · exact ge_join1 H hne q a1 a2 m1.2 m1.1 m2.2 eb ez hg
end Join
