/-! every simple polygon has ears -/
theorem ge_low_tri (x b : GPt) : x = b ∨ ge_low b x ∨ ge_low x b := by
  unfold ge_low
  rcases Int.lt_trichotomy b.2 x.2 with h | h | h
  · exact Or.inr (Or.inl (Or.inl h))
  · rcases Int.lt_trichotomy b.1 x.1 with g | g | g
    · exact Or.inr (Or.inr (Or.inr ⟨h.symm, g⟩))
    · exact Or.inl (Prod.ext g.symm h.symm)
    · exact Or.inr (Or.inl (Or.inr ⟨h, g⟩))
  · exact Or.inr (Or.inr (Or.inl h))
theorem ge_low_trans {x b v : GPt} (h : ge_low x b) (g : ge_low b v) : ge_low x v := by
  unfold ge_low at *
  omega
theorem ge_lowest : ∀ (l : List GPt), l ≠ [] → ∃ b ∈ l, ∀ v ∈ l, v = b ∨ ge_low b v
  | [], h => absurd rfl h
  | [x], _ => ⟨x, List.mem_cons_self, fun v hv => Or.inl (List.mem_singleton.mp hv)⟩
  | x :: y :: l, _ => by
    obtain ⟨b, hb, h⟩ := ge_lowest (y :: l) (List.cons_ne_nil _ _)
    rcases ge_low_tri x b with q | q | q
    · refine ⟨b, List.mem_cons_of_mem _ hb, fun v hv => ?_⟩
      rcases List.mem_cons.mp hv with r | r
      · exact Or.inl (r.trans q)
      · exact h v r
    · refine ⟨b, List.mem_cons_of_mem _ hb, fun v hv => ?_⟩
      rcases List.mem_cons.mp hv with r | r
      · exact Or.inr (r ▸ q)
      · exact h v r
    · refine ⟨x, List.mem_cons_self, fun v hv => ?_⟩
      rcases List.mem_cons.mp hv with r | r
      · exact Or.inl r
      · rcases h v r with t | t
        · exact Or.inr (t ▸ q)
        · exact Or.inr (ge_low_trans q t)
/-- at the lowest corner, a flat one turns back -/
theorem ge_corner {a b c : GPt} (ha : ge_low b a) (hc : ge_low b c) (h0 : ge_o a b c = 0) : ge_on b c a ∨ ge_on b a c := by
  have e1 : ge_o b c a = 0 := by rw [ge_o_cyc]; exact h0
  have e2 : ge_o b a c = 0 := by rw [ge_o_swap, h0]; rfl
  rcases ha with ha | ⟨ha, ha'⟩
  · rcases hc with hc | ⟨hc, hc'⟩
    · rcases Int.le_total a.2 c.2 with q | q
      · exact Or.inl (ge_on_y e1 hc (by omega) q)
      · exact Or.inr (ge_on_y e2 ha (by omega) q)
    · exfalso
      have e : ge_o b c a = (c.1 - b.1) * (a.2 - b.2) := by unfold ge_o; rw [hc]; grind
      rw [e1] at e
      rcases Int.mul_eq_zero.mp e.symm with q | q <;> omega
  · have hc2 : b.2 = c.2 := by
      have e : ge_o b a c = (a.1 - b.1) * (c.2 - b.2) := by unfold ge_o; rw [ha]; grind
      rw [e2] at e
      rcases Int.mul_eq_zero.mp e.symm with q | q <;> omega
    have hc1 : c.1 < b.1 := by rcases hc with hc | ⟨_, hc⟩ <;> omega
    rcases Int.le_total a.1 c.1 with q | q
    · exact Or.inr (ge_on_symm (ge_on_x (by omega) (by omega) q (by omega)))
    · exact Or.inl (ge_on_symm (ge_on_x (by omega) (by omega) q (by omega)))
theorem ge_argmax (P : GPt → Prop) (f : GPt → Int) : ∀ m : List GPt, (∃ w ∈ m, P w) → ∃ z ∈ m, P z ∧ ∀ w ∈ m, P w → f w ≤ f z
  | [], ⟨_, h, _⟩ => nomatch h
  | x :: m, ⟨w, hw, pw⟩ => by
    by_cases hm : ∃ w ∈ m, P w
    · obtain ⟨z, hz, pz, mz⟩ := ge_argmax P f m hm
      by_cases hx : P x ∧ f z < f x
      · refine ⟨x, List.mem_cons_self, hx.1, fun v hv pv => ?_⟩
        rcases List.mem_cons.mp hv with r | r
        · rw [r]; exact Int.le_refl _
        · have := mz v r pv
          omega
      · refine ⟨z, List.mem_cons_of_mem _ hz, pz, fun v hv pv => ?_⟩
        rcases List.mem_cons.mp hv with r | r
        · subst r
          rcases Int.lt_or_le (f z) (f v) with q | q
          · exact absurd ⟨pv, q⟩ hx
          · exact q
        · exact mz v r pv
    · rcases List.mem_cons.mp hw with r | r
      · subst r
        refine ⟨w, List.mem_cons_self, pw, fun v hv pv => ?_⟩
        rcases List.mem_cons.mp hv with t | t
        · rw [t]; exact Int.le_refl _
        · exact absurd ⟨v, t, pv⟩ hm
      · exact absurd ⟨w, r, pw⟩ hm
theorem ge_tc_cyc {x e y w : GPt} (h : ge_tc x e y w) : ge_tc e y x w := by
  rcases h with h | h
  · exact Or.inl (ge_in_cyc h)
  · exact Or.inr (ge_in_cyc (ge_in_cyc h))
theorem ge_good_cyc {l : List GPt} {x e y : GPt} (h : ge_good l x e y) : ge_good l e y x :=
  ⟨fun w hw w1 w2 w3 q => h.1 w hw w3 w1 w2 (ge_tc_cyc (ge_tc_cyc q)), fun k hk p hp ho => h.2 k hk p (ge_tc_cyc (ge_tc_cyc hp)) ho⟩
theorem ge_PE_3 {a b c : GPt} (hF : 0 < ge_o a b c) (hs : ge_simple (b :: c :: ([] ++ [a]))) (hl : ∀ v ∈ c :: ([] ++ [a]), ge_low b v) : ge_PE (b :: c :: ([] ++ [a])) := by
  have g1 : ge_good (b :: c :: ([] ++ [a])) a b c := ge_goodA hF hs (fun w hw w1 w2 => by simp at hw; grind) hl
  have g2 := ge_good_cyc g1
  have g3 := ge_good_cyc g2
  have hn := hs.1
  have nbc : b ≠ c := by simp at hn; grind
  have nba : b ≠ a := by simp at hn; grind
  have nca : c ≠ a := by simp at hn; grind
  have hE : ∀ e : GPt × GPt, e ∈ ge_E (b :: c :: ([] ++ [a])) ↔ e = (b, c) ∨ e = (c, a) ∨ e = (a, b) := fun e => by
    rw [ge_E_ear]
    simp [ge_ed]
  have a1 : ge_adj (b :: c :: ([] ++ [a])) b c := Or.inl ((hE _).mpr (Or.inl rfl))
  have a2 : ge_adj (b :: c :: ([] ++ [a])) c a := Or.inl ((hE _).mpr (Or.inr (Or.inl rfl)))
  have a3 : ge_adj (b :: c :: ([] ++ [a])) a b := Or.inl ((hE _).mpr (Or.inr (Or.inr rfl)))
  have f2 : ge_o b c a = ge_o a b c := ge_o_cyc a b c
  have f3 : ge_o c a b = ge_o a b c := by rw [ge_o_cyc, ge_o_cyc]
  have key : ∀ u v : GPt, (u, v) ∈ ge_E (b :: c :: ([] ++ [a])) → ∃ x e y : GPt, ge_adj (b :: c :: ([] ++ [a])) x e ∧ ge_adj (b :: c :: ([] ++ [a])) e y ∧ x ≠ y ∧ e ≠ u ∧ e ≠ v ∧ ge_o x e y ≠ 0 ∧ ge_good (b :: c :: ([] ++ [a])) x e y := fun u v h => by
    rcases (hE _).mp h with q | q | q
    · obtain ⟨q1, q2⟩ := Prod.mk.inj q
      subst q1; subst q2
      exact ⟨v, a, u, a2, a3, nbc.symm, nba.symm, nca.symm, by omega, g3⟩
    · obtain ⟨q1, q2⟩ := Prod.mk.inj q
      subst q1; subst q2
      exact ⟨v, b, u, a3, a1, nca.symm, nbc, nba, by omega, g1⟩
    · obtain ⟨q1, q2⟩ := Prod.mk.inj q
      subst q1; subst q2
      exact ⟨v, c, u, a1, a2, nba, nca, nbc.symm, by omega, g2⟩
  intro u v h
  rcases h with h | h
  · exact key u v h
  · obtain ⟨x, e, y, h1, h2, h3, h4, h5, h6⟩ := key v u h
    exact ⟨x, e, y, h1, h2, h3, h5, h4, h6⟩
theorem ge_PE_pos {n : Nat} (ih : ∀ l : List GPt, l.length ≤ n → 3 ≤ l.length → ge_simple l → ge_PE l) {a b c : GPt} {mid : List GPt} (hlen : mid.length + 3 ≤ n + 1) (hF : 0 < ge_o a b c) (hs : ge_simple (b :: c :: (mid ++ [a]))) (hl : ∀ v ∈ c :: (mid ++ [a]), ge_low b v) : ge_PE (b :: c :: (mid ++ [a])) := by
  by_cases hm : mid = []
  · subst hm
    exact ge_PE_3 hF hs hl
  · have hm1 : 0 < mid.length := List.length_pos_iff.mpr hm
    by_cases he : ∀ w ∈ c :: (mid ++ [a]), w ≠ a → w ≠ c → ¬ ge_in a b c w
    · exact ge_PE_A hF hs he hl (ih _ (by simp; omega) (by simp; omega) (ge_cut_simple hF hs he))
    · have hex : ∃ w ∈ mid, ge_in a b c w := by
        refine Classical.byContradiction (fun q => he (fun w hw w1 w2 r => q ⟨w, ?_, r⟩))
        simp at hw; grind
      obtain ⟨z, hz, pz, mz⟩ := ge_argmax (ge_in a b c) (ge_o c a) mid hex
      obtain ⟨n1, n2, rfl⟩ := List.append_of_mem hz
      have H : ge_B a b c z n1 n2 := by
        refine ⟨hF, hs, hl, pz, fun w hw pw => ?_⟩
        have e1 : ge_o c a c = 0 := by unfold ge_o; grind
        have e2 : ge_o c a a = 0 := by unfold ge_o; grind
        rcases List.mem_cons.mp hw with r | r
        · rw [r, e1]; exact pz.2.2
        · rcases List.mem_append.mp r with r | r
          · exact mz w r pw
          · rw [List.mem_singleton.mp r, e2]; exact pz.2.2
      simp at hlen
      exact ge_PE_B H (ih _ (by simp; omega) (by simp) (ge_B_s1 H)) (ih _ (by simp; omega) (by simp) (ge_B_s2 H))
theorem ge_two {t : List GPt} (h : 2 ≤ t.length) : ∃ (c : GPt) (mid : List GPt) (a : GPt), t = c :: (mid ++ [a]) := by
  match t, h with
  | c :: u :: r, _ =>
    refine ⟨c, (u :: r).dropLast, (u :: r).getLast (List.cons_ne_nil _ _), ?_⟩
    rw [List.dropLast_concat_getLast]
theorem ge_ears_n : ∀ (n : Nat) (l : List GPt), l.length ≤ n → 3 ≤ l.length → ge_simple l → ge_PE l
  | 0, l, h1, h2, _ => by omega
  | n + 1, l, h1, h2, hs => by
    have ih := ge_ears_n n
    obtain ⟨b, hb, hlow⟩ := ge_lowest l (fun q => by rw [q] at h2; simp at h2)
    obtain ⟨s, r, rfl⟩ := List.append_of_mem hb
    have eq1 := ge_eqv_rot s (b :: r)
    have nd1 : (b :: r ++ s).Nodup := List.perm_append_comm.nodup_iff.mp hs.1
    refine ge_eqv_PE (ge_eqv_symm eq1) ?_
    have hs1 := ge_eqv_simple eq1 nd1 hs
    have hlen : (r ++ s).length = (s ++ b :: r).length - 1 := by simp; omega
    have hlow1 : ∀ v ∈ r ++ s, ge_low b v := fun v hv => by
      rcases hlow v (by simp at hv ⊢; grind) with q | q
      · exact absurd (q ▸ hv) (List.nodup_cons.mp nd1).1
      · exact q
    obtain ⟨c, mid, a, ht⟩ := ge_two (t := r ++ s) (by omega)
    rw [show b :: r ++ s = b :: (r ++ s) by simp, ht] at hs1 nd1 ⊢
    rw [ht] at hlen hlow1
    have hl2 : mid.length + 3 ≤ n + 1 := by simp at hlen h1; omega
    have F0 : ge_o a b c ≠ 0 := fun q => by
      have hbc : (b, c) ∈ ge_E (b :: c :: (mid ++ [a])) := by rw [ge_E_ear]; simp
      have hab : (a, b) ∈ ge_E (b :: c :: (mid ++ [a])) := by rw [ge_E_ear]; simp
      have nca : c ≠ a := fun z => (List.nodup_cons.mp (List.nodup_cons.mp nd1).2).1 (by rw [z]; simp)
      have nba : b ≠ a := fun z => (List.nodup_cons.mp nd1).1 (by rw [z]; simp)
      have nbc : b ≠ c := fun z => (List.nodup_cons.mp nd1).1 (by rw [z]; simp)
      rcases ge_corner (hlow1 a (by simp)) (hlow1 c (by simp)) q with z | z
      · rcases hs1.2.1 a (by simp) _ hbc z with w | w
        · exact nba w.symm
        · exact nca w.symm
      · rcases hs1.2.1 c (by simp) _ hab (ge_on_symm z) with w | w
        · exact nca w
        · exact nbc w.symm
    rcases Int.lt_or_lt_of_ne F0 with q | q
    · have eq2 := ge_eqv_rev b (c :: (mid ++ [a]))
      have e : (c :: (mid ++ [a])).reverse = a :: (mid.reverse ++ [c]) := by simp
      rw [e] at eq2
      refine ge_eqv_PE (ge_eqv_symm eq2) ?_
      have nd2 : (b :: a :: (mid.reverse ++ [c])).Nodup := by
        rw [← e]
        exact List.nodup_cons.mpr ⟨fun z => (List.nodup_cons.mp nd1).1 (List.mem_reverse.mp z), (List.reverse_perm _).nodup_iff.mpr (List.nodup_cons.mp nd1).2⟩
      refine ge_PE_pos ih (by simp; omega) ?_ (ge_eqv_simple eq2 nd2 hs1) (fun v hv => hlow1 v (by simp at hv ⊢; grind))
      have : ge_o c b a = -ge_o a b c := by unfold ge_o; grind
      omega
    · exact ge_PE_pos ih hl2 q hs1 hlow1
/-- for each edge of a simple polygon there is a good ear that isn't one of its ends -/
theorem ge_ears {l : List GPt} (h3 : 3 ≤ l.length) (hs : ge_simple l) : ge_PE l := ge_ears_n l.length l (Nat.le_refl _) h3 hs
