/-! what a good ear is, at every scale; the lowest corner with an empty triangle is one -/
/-- the closed triangle, whichever way round -/
def ge_tc (x e y w : GPt) : Prop := ge_in x e y w ∨ ge_in y e x w
theorem ge_tc_symm {x e y w : GPt} (h : ge_tc x e y w) : ge_tc y e x w := Or.comm.mp h
theorem ge_tc_in {x e y w : GPt} (hF : 0 < ge_o x e y) (h : ge_tc x e y w) : ge_in x e y w := by
  rcases h with h | ⟨h1, h2, h3⟩
  · exact h
  · have b0 := ge_b0 y e x w
    have : ge_o y e x = -ge_o x e y := by unfold ge_o; grind
    omega
def ge_off (l : List GPt) (p : GPt) : Prop := ∀ f ∈ ge_E l, ¬ ge_on f.1 f.2 p
def ge_good (l : List GPt) (x e y : GPt) : Prop := (∀ w ∈ l, w ≠ x → w ≠ e → w ≠ y → ¬ ge_tc x e y w) ∧ ∀ k : Int, 0 < k → ∀ p : GPt, ge_tc (ge_s k x) (ge_s k e) (ge_s k y) p → ge_off (ge_S k l) p → ge_par (ge_S k l) p = true
theorem ge_good_symm {l : List GPt} {x e y : GPt} (h : ge_good l x e y) : ge_good l y e x := ⟨fun w hw h1 h2 h3 z => h.1 w hw h3 h2 h1 (ge_tc_symm z), fun k hk p hp ho => h.2 k hk p (ge_tc_symm hp) ho⟩
theorem ge_S_ear (k : Int) (a b c : GPt) (mid : List GPt) : ge_S k (b :: c :: (mid ++ [a])) = ge_s k b :: ge_s k c :: (ge_S k mid ++ [ge_s k a]) := by simp [ge_S]
theorem ge_S_cut (k : Int) (a c : GPt) (mid : List GPt) : ge_S k (c :: (mid ++ [a])) = ge_s k c :: (ge_S k mid ++ [ge_s k a]) := by simp [ge_S]
theorem ge_simple_S {k : Int} (hk : 0 < k) {l : List GPt} (h : ge_simple l) : ge_simple (ge_S k l) := by
  obtain ⟨hn, hv, hx⟩ := h
  refine ⟨?_, ?_, ?_⟩
  · unfold ge_S
    exact List.pairwise_map.mpr (List.Pairwise.imp (fun h z => h (ge_s_inj hk z)) hn)
  · intro w hw e he z
    obtain ⟨w0, hw0, rfl⟩ := List.mem_map.mp hw
    rw [ge_E_S] at he
    obtain ⟨e0, he0, rfl⟩ := List.mem_map.mp he
    rcases hv w0 hw0 e0 he0 ((ge_on_s hk _ _ _).mp z) with q | q
    · exact Or.inl (by rw [q])
    · exact Or.inr (by rw [q])
  · intro e he f hf z
    rw [ge_E_S] at he hf
    obtain ⟨e0, he0, rfl⟩ := List.mem_map.mp he
    obtain ⟨f0, hf0, rfl⟩ := List.mem_map.mp hf
    exact hx e0 he0 f0 hf0 ((ge_x_s hk _ _ _ _).mp z)
theorem ge_low_s {k : Int} (hk : 0 < k) {b v : GPt} (h : ge_low b v) : ge_low (ge_s k b) (ge_s k v) := by
  rcases h with h | ⟨h1, h2⟩
  · exact Or.inl ((ge_sg_lt hk).mpr h)
  · exact Or.inr ⟨show k * b.2 = k * v.2 by rw [h1], (ge_sg_lt hk).mpr h2⟩
theorem ge_off_s {k : Int} (hk : 0 < k) {l : List GPt} {p : GPt} (h : ge_off l p) : ge_off (ge_S k l) (ge_s k p) := by
  intro f hf z
  rw [ge_E_S] at hf
  obtain ⟨f0, hf0, rfl⟩ := List.mem_map.mp hf
  exact h f0 hf0 ((ge_on_s hk _ _ _).mp z)
/-- a line with both points strictly on one side isn't met -/
theorem ge_free_line {u v p q : GPt} (h1 : 0 < ge_o u v p) (h2 : 0 < ge_o u v q) : ¬ ge_meet u v p q := fun z => ge_free3 (a := v) (c := u) h1 h2 (ge_meet_flip z)
section CaseA
variable {a b c : GPt} {mid : List GPt}
/-- in the lowest corner's empty triangle, also on the cut, the polygon counts odd -/
theorem ge_A2 (hF : 0 < ge_o a b c) (hs : ge_simple (b :: c :: (mid ++ [a]))) (he : ∀ w ∈ c :: (mid ++ [a]), w ≠ a → w ≠ c → ¬ ge_in a b c w) (hl : ∀ v ∈ c :: (mid ++ [a]), ge_low b v) {p : GPt} (hp : ge_in a b c p) (ho : ge_off (b :: c :: (mid ++ [a])) p) (hp3 : 0 < ge_o c a p) : ge_par (b :: c :: (mid ++ [a])) p = true := by
  have hab : (a, b) ∈ ge_E (b :: c :: (mid ++ [a])) := by rw [ge_E_ear]; simp
  have hbc : (b, c) ∈ ge_E (b :: c :: (mid ++ [a])) := by rw [ge_E_ear]; simp
  have n1 : ¬ ge_on a b p := ho _ hab
  have n2 : ¬ ge_on b c p := ho _ hbc
  have n3 : ¬ ge_on c a p := fun z => by have := z.1; omega
  have p1 : 0 < ge_o a b p := by
    rcases Int.lt_or_eq_of_le hp.1 with z | z
    · exact z
    · exact absurd (ge_in_on hF hp z.symm) n1
  have p2 : 0 < ge_o b c p := by
    rcases Int.lt_or_eq_of_le hp.2.1 with z | z
    · exact z
    · exact absurd (ge_in_on (by rw [ge_o_cyc]; exact hF) (ge_in_cyc hp) z.symm) n2
  rw [ge_par_ear, ge_A1 hF hs he hl hp hp3, (ge_tri hF n1 n2 n3).mpr ⟨p1, p2, hp3⟩]
  rfl
theorem ge_A3 (hF : 0 < ge_o a b c) (hs : ge_simple (b :: c :: (mid ++ [a]))) (he : ∀ w ∈ c :: (mid ++ [a]), w ≠ a → w ≠ c → ¬ ge_in a b c w) (hl : ∀ v ∈ c :: (mid ++ [a]), ge_low b v) {p : GPt} (hp : ge_in a b c p) (ho : ge_off (b :: c :: (mid ++ [a])) p) : ge_par (b :: c :: (mid ++ [a])) p = true := by
  rcases Int.lt_or_eq_of_le hp.2.2 with hp3 | hp3
  · exact ge_A2 hF hs he hl hp ho hp3
  · have hp0 : ge_o c a p = 0 := hp3.symm
    have hab : (a, b) ∈ ge_E (b :: c :: (mid ++ [a])) := by rw [ge_E_ear]; simp
    have hbc : (b, c) ∈ ge_E (b :: c :: (mid ++ [a])) := by rw [ge_E_ear]; simp
    have p1 : 0 < ge_o a b p := by
      rcases Int.lt_or_eq_of_le hp.1 with z | z
      · exact z
      · exact absurd (ge_in_on hF hp z.symm) (ho _ hab)
    have p2 : 0 < ge_o b c p := by
      rcases Int.lt_or_eq_of_le hp.2.1 with z | z
      · exact z
      · exact absurd (ge_in_on (by rw [ge_o_cyc]; exact hF) (ge_in_cyc hp) z.symm) (ho _ hbc)
    -- the middle of b and p, at scale 2
    have h2 : (0 : Int) < 2 := by decide
    obtain ⟨g, hg⟩ : ∃ g : GPt, g = (p.1 + b.1, p.2 + b.2) := ⟨_, rfl⟩
    have f : ∀ u v : GPt, ge_o (ge_s 2 u) (ge_s 2 v) g = 2 * (ge_o u v p + ge_o u v b) := fun u v => by rw [hg]; unfold ge_s ge_o; grind
    have z1 : ge_o a b b = 0 := by unfold ge_o; grind
    have z2 : ge_o b c b = 0 := by unfold ge_o; grind
    have z3 : ge_o c a b = ge_o a b c := by rw [ge_o_cyc, ge_o_cyc]
    have g1 : 0 < ge_o (ge_s 2 a) (ge_s 2 b) g := by rw [f]; omega
    have g2 : 0 < ge_o (ge_s 2 b) (ge_s 2 c) g := by rw [f]; omega
    have g3 : 0 < ge_o (ge_s 2 c) (ge_s 2 a) g := by rw [f]; omega
    have sd := ge_sides hs he
    have sd2 : ∀ e ∈ ge_ed (c :: (mid ++ [a])), ge_side (ge_s 2 a) (ge_s 2 b) (ge_s 2 c) (ge_s 2 e.1) (ge_s 2 e.2) := fun e h => ge_side_s h2 (sd e h)
    have hp2 : ge_in (ge_s 2 a) (ge_s 2 b) (ge_s 2 c) (ge_s 2 p) := (ge_in_s h2 a b c p).mpr hp
    have hgin : ge_in (ge_s 2 a) (ge_s 2 b) (ge_s 2 c) g := ⟨by omega, by omega, by omega⟩
    have q1 : 0 < ge_o (ge_s 2 a) (ge_s 2 b) (ge_s 2 p) := by rw [ge_o_s]; omega
    have q2 : 0 < ge_o (ge_s 2 b) (ge_s 2 c) (ge_s 2 p) := by rw [ge_o_s]; omega
    have q3 : ge_o (ge_s 2 c) (ge_s 2 a) (ge_s 2 p) = 0 := by rw [ge_o_s]; omega
    have hpg : ge_s 2 p ≠ g := fun z => by rw [z] at q3; omega
    have inn : ∀ z : GPt, ge_on (ge_s 2 p) g z → z = ge_s 2 p ∨ (ge_in (ge_s 2 a) (ge_s 2 b) (ge_s 2 c) z ∧ 0 < ge_o (ge_s 2 c) (ge_s 2 a) z) := fun z hz => by
      obtain ⟨i, j, w⟩ := ge_on_wt hpg hz
      by_cases hj : j = 0
      · subst hj
        exact Or.inl (ge_wt_0 w)
      · refine Or.inr ⟨ge_wt_in w hp2 hgin, ?_⟩
        have e := ge_wt_o w (ge_s 2 c) (ge_s 2 a)
        rw [q3, Int.mul_zero] at e
        have := Int.mul_pos (show 0 < j by have := w.2.1; omega) g3
        exact ge_pos w.2.2.1 (by omega)
    have free : ∀ e ∈ ge_E (ge_S 2 (b :: c :: (mid ++ [a]))), ¬ ge_meet e.1 e.2 (ge_s 2 p) g := by
      intro e he2 hm
      rw [ge_E_S] at he2
      obtain ⟨e0, he0, rfl⟩ := List.mem_map.mp he2
      have off : ¬ ge_on (ge_s 2 e0.1) (ge_s 2 e0.2) (ge_s 2 p) := fun z => ho e0 he0 ((ge_on_s h2 _ _ _).mp z)
      rw [ge_E_ear] at he0
      rcases List.mem_cons.mp he0 with h | h
      · subst h
        exact ge_free_line q2 g2 hm
      · rcases List.mem_append.mp h with h | h
        · have sde := sd2 e0 h
          rcases hm with z | z | z | z | z
          · exact off z
          · exact ge_side_K sde z hgin g3
          · rcases inn _ z with q | q
            · exact off (by rw [← q]; exact ge_on_l _ _)
            · exact sde.2.1 q
          · rcases inn _ z with q | q
            · exact off (by rw [← q]; exact ge_on_r _ _)
            · exact sde.2.2.1 q
          · obtain ⟨m, r, i, j, i', j', hm, w, w', hi, hj, -⟩ := ge_x_pt z
            refine ge_side_K (ge_side_s hm sde) (ge_wt_on w') (ge_wt_in w ((ge_in_s hm _ _ _ _).mpr hp2) ((ge_in_s hm _ _ _ _).mpr hgin)) ?_
            have e := ge_wt_o w (ge_s m (ge_s 2 c)) (ge_s m (ge_s 2 a))
            rw [ge_o_s, q3, Int.mul_zero, Int.mul_zero, ge_o_s] at e
            have := Int.mul_pos hj (Int.mul_pos (ge_mm hm) g3)
            exact ge_pos w.2.2.1 (by omega)
        · rw [List.mem_singleton.mp h] at hm
          exact ge_free_line q1 g1 hm
    have k := ge_par_mv free
    rw [ge_par_s h2] at k
    rw [k, ge_S_ear]
    rw [ge_S_ear] at free
    refine ge_A2 (mid := ge_S 2 mid) (by rw [ge_o_s]; omega) (by rw [← ge_S_ear]; exact ge_simple_S h2 hs) ?_ ?_ hgin ?_ g3
    · intro w hw h1 h2' z
      rw [← ge_S_cut] at hw
      obtain ⟨w0, hw0, rfl⟩ := List.mem_map.mp hw
      exact he w0 hw0 (fun q => h1 (by rw [q])) (fun q => h2' (by rw [q])) ((ge_in_s h2 _ _ _ _).mp z)
    · intro v hv
      rw [← ge_S_cut] at hv
      obtain ⟨w0, hw0, rfl⟩ := List.mem_map.mp hv
      exact ge_low_s h2 (hl w0 hw0)
    · intro e he2 z
      exact free e he2 (Or.inr (Or.inl z))
theorem ge_goodA (hF : 0 < ge_o a b c) (hs : ge_simple (b :: c :: (mid ++ [a]))) (he : ∀ w ∈ c :: (mid ++ [a]), w ≠ a → w ≠ c → ¬ ge_in a b c w) (hl : ∀ v ∈ c :: (mid ++ [a]), ge_low b v) : ge_good (b :: c :: (mid ++ [a])) a b c := by
  refine ⟨fun w hw h1 h2 h3 z => ?_, fun k hk p hp ho => ?_⟩
  · rcases List.mem_cons.mp hw with q | q
    · exact h2 q
    · exact he w q h1 h3 (ge_tc_in hF z)
  · have hF' : 0 < ge_o (ge_s k a) (ge_s k b) (ge_s k c) := by rw [ge_o_s]; exact Int.mul_pos (ge_mm hk) hF
    rw [ge_S_ear] at ho ⊢
    refine ge_A3 (mid := ge_S k mid) hF' (by rw [← ge_S_ear]; exact ge_simple_S hk hs) ?_ ?_ (ge_tc_in hF' hp) ho
    · intro w hw h1 h2' z
      rw [← ge_S_cut] at hw
      obtain ⟨w0, hw0, rfl⟩ := List.mem_map.mp hw
      exact he w0 hw0 (fun q => h1 (by rw [q])) (fun q => h2' (by rw [q])) ((ge_in_s hk _ _ _ _).mp z)
    · intro v hv
      rw [← ge_S_cut] at hv
      obtain ⟨w0, hw0, rfl⟩ := List.mem_map.mp hv
      exact ge_low_s hk (hl w0 hw0)
end CaseA
