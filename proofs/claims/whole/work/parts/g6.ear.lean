/-! simple polygons; a corner whose triangle holds no other vertex -/
theorem ge_on_l (p q : GPt) : ge_on p q p := by
  refine ⟨by unfold ge_o; grind, ?_, ?_⟩
  · rw [Int.sub_self, Int.zero_mul]; exact Int.le_refl _
  · rw [Int.sub_self, Int.zero_mul]; exact Int.le_refl _
theorem ge_on_r (p q : GPt) : ge_on p q q := ge_on_symm (ge_on_l q p)
theorem ge_on_pp {p x : GPt} (h : ge_on p p x) : x = p := by
  obtain ⟨-, h1, h2⟩ := h
  have s1 := ge_sq (x.1 - p.1)
  have s2 := ge_sq (x.2 - p.2)
  have e1 : (x.1 - p.1) * (x.1 - p.1) = 0 := by omega
  have e2 : (x.2 - p.2) * (x.2 - p.2) = 0 := by omega
  have f1 : x.1 - p.1 = 0 := by rcases Int.mul_eq_zero.mp e1 with z | z <;> exact z
  have f2 : x.2 - p.2 = 0 := by rcases Int.mul_eq_zero.mp e2 with z | z <;> exact z
  exact Prod.ext (by omega) (by omega)
theorem ge_wt_nn {x y r : GPt} {i j : Int} (w : ge_wt x y r i j) {u v : GPt} (h1 : 0 ≤ ge_o u v x) (h2 : 0 ≤ ge_o u v y) : 0 ≤ ge_o u v r := by
  have e := ge_wt_o w u v
  have k1 := Int.mul_nonneg w.1 h1
  have k2 := Int.mul_nonneg w.2.1 h2
  exact ge_nn w.2.2.1 (by omega)
theorem ge_wt_ps {x y r : GPt} {i j : Int} (w : ge_wt x y r i j) {u v : GPt} (h1 : 0 < ge_o u v x) (h2 : 0 < ge_o u v y) : 0 < ge_o u v r := by
  have e := ge_wt_o w u v
  have hs := w.2.2.1
  rcases Int.lt_or_le 0 i with z | z
  · have k1 := Int.mul_pos z h1
    have k2 := Int.mul_nonneg w.2.1 (Int.le_of_lt h2)
    exact ge_pos hs (by omega)
  · have hi : i = 0 := by have := w.1; omega
    have k2 := Int.mul_pos (show 0 < j by omega) h2
    have k1 := Int.mul_nonneg w.1 (Int.le_of_lt h1)
    exact ge_pos hs (by omega)
theorem ge_wt_in {x y r a b c : GPt} {i j : Int} (w : ge_wt x y r i j) (h1 : ge_in a b c x) (h2 : ge_in a b c y) : ge_in a b c r := ⟨ge_wt_nn w h1.1 h2.1, ge_wt_nn w h1.2.1 h2.2.1, ge_wt_nn w h1.2.2 h2.2.2⟩
/-- what an edge of a simple polygon keeps to beside a triangle on two of its edges -/
def ge_side (a b c x y : GPt) : Prop := x ≠ y ∧ ¬ (ge_in a b c x ∧ 0 < ge_o c a x) ∧ ¬ (ge_in a b c y ∧ 0 < ge_o c a y) ∧ ¬ ge_x x y a b ∧ ¬ ge_x x y b c ∧ (ge_on x y a → ¬ ge_o a b x * ge_o a b y < 0) ∧ ¬ ge_on x y b ∧ (ge_on x y c → ¬ ge_o b c x * ge_o b c y < 0)
theorem ge_side_K {a b c x y r : GPt} (h : ge_side a b c x y) (hr : ge_on x y r) (rT : ge_in a b c r) (r3 : 0 < ge_o c a r) : False := ge_K h.1 hr rT r3 h.2.1 h.2.2.1 h.2.2.2.1 h.2.2.2.2.1 h.2.2.2.2.2.1 h.2.2.2.2.2.2.1 h.2.2.2.2.2.2.2
theorem ge_side_s {m : Int} (hm : 0 < m) {a b c x y : GPt} (h : ge_side a b c x y) : ge_side (ge_s m a) (ge_s m b) (ge_s m c) (ge_s m x) (ge_s m y) := by
  obtain ⟨h1, h2, h3, h4, h5, h6, h7, h8⟩ := h
  refine ⟨fun z => h1 (ge_s_inj hm z), ?_, ?_, ?_, ?_, ?_, ?_, ?_⟩
  · rw [ge_in_s hm, ge_o_s, ge_sg_pos (ge_mm hm)]; exact h2
  · rw [ge_in_s hm, ge_o_s, ge_sg_pos (ge_mm hm)]; exact h3
  · rw [ge_x_s hm]; exact h4
  · rw [ge_x_s hm]; exact h5
  · rw [ge_on_s hm, ge_o_s, ge_o_s]
    intro z q
    have e : m * m * ge_o a b x * (m * m * ge_o a b y) = (m * m) * (m * m) * (ge_o a b x * ge_o a b y) := by grind
    rw [e, ge_sg_neg (Int.mul_pos (ge_mm hm) (ge_mm hm))] at q
    exact h6 z q
  · rw [ge_on_s hm]; exact h7
  · rw [ge_on_s hm, ge_o_s, ge_o_s]
    intro z q
    have e : m * m * ge_o b c x * (m * m * ge_o b c y) = (m * m) * (m * m) * (ge_o b c x * ge_o b c y) := by grind
    rw [e, ge_sg_neg (Int.mul_pos (ge_mm hm) (ge_mm hm))] at q
    exact h8 z q
theorem ge_free {a b c x y p q : GPt} (h : ge_side a b c x y) (hp : ge_in a b c p) (hp3 : 0 < ge_o c a p) (hq : ge_in a b c q) (hq3 : 0 < ge_o c a q) : ¬ ge_meet x y p q := by
  intro hm
  have inn : ∀ z : GPt, ge_on p q z → ge_in a b c z ∧ 0 < ge_o c a z := fun z hz => by
    by_cases e : p = q
    · subst e
      rw [ge_on_pp hz]
      exact ⟨hp, hp3⟩
    · obtain ⟨i, j, w⟩ := ge_on_wt e hz
      exact ⟨ge_wt_in w hp hq, ge_wt_ps w hp3 hq3⟩
  rcases hm with z | z | z | z | z
  · exact ge_side_K h z hp hp3
  · exact ge_side_K h z hq hq3
  · exact h.2.1 (inn x z)
  · exact h.2.2.1 (inn y z)
  · obtain ⟨m, r, i, j, i', j', hm, w, w', -⟩ := ge_x_pt z
    refine ge_side_K (ge_side_s hm h) (ge_wt_on w') (ge_wt_in w ((ge_in_s hm a b c p).mpr hp) ((ge_in_s hm a b c q).mpr hq)) (ge_wt_ps w ?_ ?_)
    · rw [ge_o_s]; exact Int.mul_pos (ge_mm hm) hp3
    · rw [ge_o_s]; exact Int.mul_pos (ge_mm hm) hq3
/-- the third side itself -/
theorem ge_free3 {a c p q : GPt} (hp3 : 0 < ge_o c a p) (hq3 : 0 < ge_o c a q) : ¬ ge_meet a c p q := by
  intro hm
  have e1 := ge_o_swap c a p
  have e2 := ge_o_swap c a q
  have za : ge_o c a a = 0 := by unfold ge_o; grind
  have zc : ge_o c a c = 0 := by unfold ge_o; grind
  have inn : ∀ z : GPt, ge_on p q z → 0 < ge_o c a z := fun z hz => by
    by_cases e : p = q
    · subst e
      rw [ge_on_pp hz]
      exact hp3
    · obtain ⟨i, j, w⟩ := ge_on_wt e hz
      exact ge_wt_ps w hp3 hq3
  rcases hm with z | z | z | z | ⟨z, -⟩
  · have := z.1; omega
  · have := z.1; omega
  · have := inn a z; omega
  · have := inn c z; omega
  · rw [e1, e2, Int.neg_mul_neg] at z
    have := Int.mul_pos hp3 hq3
    omega
def ge_simple (l : List GPt) : Prop := l.Nodup ∧ (∀ w ∈ l, ∀ e ∈ ge_E l, ge_on e.1 e.2 w → w = e.1 ∨ w = e.2) ∧ ∀ e ∈ ge_E l, ∀ f ∈ ge_E l, ¬ ge_x e.1 e.2 f.1 f.2
theorem ge_ed_mem : ∀ (l : List GPt) (e : GPt × GPt), e ∈ ge_ed l → e.1 ∈ l ∧ e.2 ∈ l
  | [], e, h => nomatch h
  | [_], e, h => nomatch h
  | a :: b :: r, e, h => by
    rcases List.mem_cons.mp h with h | h
    · subst h
      exact ⟨List.mem_cons_self, List.mem_cons_of_mem _ List.mem_cons_self⟩
    · have := ge_ed_mem (b :: r) e h
      exact ⟨List.mem_cons_of_mem _ this.1, List.mem_cons_of_mem _ this.2⟩
theorem ge_ed_ne : ∀ (l : List GPt), l.Nodup → ∀ e ∈ ge_ed l, e.1 ≠ e.2
  | [], _, e, h => nomatch h
  | [_], _, e, h => nomatch h
  | a :: b :: r, hn, e, h => by
    rcases List.mem_cons.mp h with h | h
    · subst h
      intro z
      have : a = b := z
      subst this
      exact (List.nodup_cons.mp hn).1 List.mem_cons_self
    · exact ge_ed_ne (b :: r) (List.nodup_cons.mp hn).2 e h
theorem ge_cy_mem {l : List GPt} {v : GPt} (h : v ∈ ge_cy l) : v ∈ l := by
  cases l with
  | nil => exact h
  | cons a r =>
    have h : v ∈ a :: (r ++ [a]) := h
    simp at h ⊢
    grind
theorem ge_E_mem {l : List GPt} {e : GPt × GPt} (h : e ∈ ge_E l) : e.1 ∈ l ∧ e.2 ∈ l := ⟨ge_cy_mem (ge_ed_mem _ e h).1, ge_cy_mem (ge_ed_mem _ e h).2⟩
/-- the edges of b, c, mid, a -/
theorem ge_E_ear (a b c : GPt) (mid : List GPt) : ge_E (b :: c :: (mid ++ [a])) = (b, c) :: (ge_ed (c :: (mid ++ [a])) ++ [(a, b)]) := by
  show ge_ed (b :: (c :: (mid ++ [a])) ++ [b]) = _
  rw [show b :: (c :: (mid ++ [a])) ++ [b] = (b :: c :: mid) ++ a :: [b] by simp, ge_ed_app]
  rfl
theorem ge_E_cut (a c : GPt) (mid : List GPt) : ge_E (c :: (mid ++ [a])) = ge_ed (c :: (mid ++ [a])) ++ [(a, c)] := by
  show ge_ed (c :: (mid ++ [a]) ++ [c]) = _
  rw [show c :: (mid ++ [a]) ++ [c] = (c :: mid) ++ a :: [c] by simp, ge_ed_app]
  rfl
theorem ge_par_ear (a b c : GPt) (mid : List GPt) (p : GPt) : ge_par (b :: c :: (mid ++ [a])) p = (ge_par (c :: (mid ++ [a])) p != ge_tp a b c p) := by
  have h1 : ge_par (b :: c :: (mid ++ [a])) p = (ge_cs b c p != (ge_pp (c :: (mid ++ [a])) p != ge_cs a b p)) := by
    show ge_pp (b :: (c :: (mid ++ [a])) ++ [b]) p = _
    rw [show b :: (c :: (mid ++ [a])) ++ [b] = (b :: c :: mid) ++ a :: [b] by simp, ge_pp_app]
    show ((ge_cs b c p != ge_pp (c :: mid ++ [a]) p) != (ge_cs a b p != false)) = _
    rw [show c :: mid ++ [a] = c :: (mid ++ [a]) by simp]
    cases ge_cs b c p <;> cases ge_pp (c :: (mid ++ [a])) p <;> cases ge_cs a b p <;> rfl
  have h2 : ge_par (c :: (mid ++ [a])) p = (ge_pp (c :: (mid ++ [a])) p != ge_cs a c p) := by
    show ge_pp (c :: (mid ++ [a]) ++ [c]) p = _
    rw [show c :: (mid ++ [a]) ++ [c] = (c :: mid) ++ a :: [c] by simp, ge_pp_app]
    show (ge_pp (c :: mid ++ [a]) p != (ge_cs a c p != false)) = _
    rw [show c :: mid ++ [a] = c :: (mid ++ [a]) by simp]
    cases ge_pp (c :: (mid ++ [a])) p <;> cases ge_cs a c p <;> rfl
  rw [h1, h2]
  unfold ge_tp
  rw [ge_cs_comm c a]
  cases ge_cs b c p <;> cases ge_pp (c :: (mid ++ [a])) p <;> cases ge_cs a b p <;> cases ge_cs a c p <;> rfl
/-- an endpoint is no passing -/
theorem ge_end1 {a b x y : GPt} (h : a = x ∨ a = y) : ¬ ge_o a b x * ge_o a b y < 0 := by
  have z0 : ge_o a b a = 0 := by unfold ge_o; grind
  rcases h with h | h
  · rw [← h, z0, Int.zero_mul]; omega
  · rw [← h, z0, Int.mul_zero]; omega
theorem ge_end2 {b c x y : GPt} (h : c = x ∨ c = y) : ¬ ge_o b c x * ge_o b c y < 0 := by
  have z0 : ge_o b c c = 0 := by unfold ge_o; grind
  rcases h with h | h
  · rw [← h, z0, Int.zero_mul]; omega
  · rw [← h, z0, Int.mul_zero]; omega
