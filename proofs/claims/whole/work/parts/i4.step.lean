/-! across the cut, and across an edge: what the counts on both sides say -/
section Corner
variable {a b c : GPt} {mid : List GPt}
/-- m moved away from, and towards, a point w -/
theorem ge_mv_o (K : Int) (u v m w : GPt) : ge_o (ge_s K u) (ge_s K v) (ge_mvd K m (m.1 - w.1, m.2 - w.2)) = K * ((K + 1) * ge_o u v m - ge_o u v w) := by unfold ge_mvd ge_s ge_o; grind
theorem ge_mv_t (K : Int) (u v m w : GPt) : ge_o (ge_s K u) (ge_s K v) (ge_mvd K m (-(m.1 - w.1), -(m.2 - w.2))) = K * ((K - 1) * ge_o u v m + ge_o u v w) := by unfold ge_mvd ge_s ge_o; grind
theorem ge_not_on {u v p q : GPt} (h : ¬ ge_meet u v p q) : ¬ ge_on u v q := fun z => h (Or.inr (Or.inl z))
theorem ge_w3_int {a b c p : GPt} (hF : 0 < ge_o a b c) (hp : ge_int a b c p) : ge_w3 a b c p = 1 := by
  have n1 : ¬ ge_on a b p := fun z => by have := z.1; have := hp.1; omega
  have n2 : ¬ ge_on b c p := fun z => by have := z.1; have := hp.2.1; omega
  have n3 : ¬ ge_on c a p := fun z => by have := z.1; have := hp.2.2; omega
  rcases ge_w3_in hF n1 n2 n3 with ⟨-, z⟩ | ⟨z, -⟩
  · exact z
  · exact absurd hp z
/-- the way across the middle of ac -/
theorem ge_C_across (H : ge_C a b c mid) (Z : ∃ k : Int, 0 < k ∧ ∃ q : GPt, ge_int (ge_s k a) (ge_s k b) (ge_s k c) q ∧ ge_wn (ge_S k (c :: (mid ++ [a]))) q = 0) {s : Int} (W : ge_W (c :: (mid ++ [a])) s) : s = 1 := by
  have h2 : (0 : Int) < 2 := by decide
  have H2 := ge_C_s h2 H
  obtain ⟨m, hm⟩ : ∃ m : GPt, m = (a.1 + c.1, a.2 + c.2) := ⟨_, rfl⟩
  have w : ge_wt (ge_s 2 a) (ge_s 2 c) m 1 1 := ⟨by decide, by decide, by decide, by rw [hm]; unfold ge_s; grind, by rw [hm]; unfold ge_s; grind⟩
  obtain ⟨mo, m1, m2, m3⟩ := ge_C_mid H2 w (by decide) (by decide)
  obtain ⟨K, hK, hf⟩ := ge_eps (m.1 - (ge_s 2 b).1, m.2 - (ge_s 2 b).2) mo
  have hK0 : 0 < K := by omega
  obtain ⟨P, hP⟩ : ∃ P, P = ge_mvd K m (m.1 - (ge_s 2 b).1, m.2 - (ge_s 2 b).2) := ⟨_, rfl⟩
  obtain ⟨Q, hQ⟩ : ∃ Q, Q = ge_mvd K m (-(m.1 - (ge_s 2 b).1), -(m.2 - (ge_s 2 b).2)) := ⟨_, rfl⟩
  have hf1 : ∀ e ∈ ge_E (ge_S K (ge_s 2 b :: ge_s 2 c :: (ge_S 2 mid ++ [ge_s 2 a]))), ¬ ge_meet e.1 e.2 (ge_s K m) P := fun e he => by rw [hP]; exact (hf e he).1
  have hf2 : ∀ e ∈ ge_E (ge_S K (ge_s 2 b :: ge_s 2 c :: (ge_S 2 mid ++ [ge_s 2 a]))), ¬ ge_meet e.1 e.2 (ge_s K m) Q := fun e he => by rw [hQ]; exact (hf e he).2
  have HN := ge_C_s hK0 H2
  have F2 := H2.1
  have z1 := (ge_C_zz (ge_s 2 a) (ge_s 2 b)).2
  have z2 := (ge_C_zz (ge_s 2 b) (ge_s 2 c)).1
  have c3 := (ge_C_cyc (ge_s 2 a) (ge_s 2 b) (ge_s 2 c)).2
  have qi : ge_int (ge_s K (ge_s 2 a)) (ge_s K (ge_s 2 b)) (ge_s K (ge_s 2 c)) Q := by
    rw [hQ]
    refine ⟨?_, ?_, ?_⟩
    · rw [ge_mv_t, z1]; exact Int.mul_pos hK0 (by have := Int.mul_pos (show 0 < K - 1 by omega) m1; omega)
    · rw [ge_mv_t, z2]; exact Int.mul_pos hK0 (by have := Int.mul_pos (show 0 < K - 1 by omega) m2; omega)
    · rw [ge_mv_t, m3, c3, Int.mul_zero]; exact Int.mul_pos hK0 (by omega)
  have p3 : ge_o (ge_s K (ge_s 2 c)) (ge_s K (ge_s 2 a)) P < 0 := by
    rw [hP, ge_mv_o, m3, c3, Int.mul_zero]
    have := Int.mul_pos hK0 F2
    rw [Int.zero_sub, Int.mul_neg]; omega
  have one : ge_wn (ge_S K (ge_s 2 b :: ge_s 2 c :: (ge_S 2 mid ++ [ge_s 2 a]))) Q = 1 := by
    rw [← ge_S_ear, ge_S_S]
    exact ge_C_one H Z (by omega) (by rw [← ge_s_s, ← ge_s_s, ← ge_s_s]; exact qi)
  have eP := (ge_wn_mv hf1).symm.trans ((ge_wn_mv hf2).trans one)
  have po : ge_off (ge_S K (ge_s 2 b :: ge_s 2 c :: (ge_S 2 mid ++ [ge_s 2 a]))) P := fun e he => ge_not_on (hf1 e he)
  rw [ge_S_ear] at po eP
  obtain ⟨o1, o2, o3⟩ := ge_C_of po
  rw [ge_wn_ear] at eP
  have n3 : ¬ ge_on (ge_s K (ge_s 2 c)) (ge_s K (ge_s 2 a)) P := fun z => by have := z.1; omega
  have w0 : ge_w3 (ge_s K (ge_s 2 a)) (ge_s K (ge_s 2 b)) (ge_s K (ge_s 2 c)) P = 0 := by
    rcases ge_w3_in HN.1 o1 o2 n3 with ⟨q, -⟩ | ⟨-, q⟩
    · have := q.2.2; omega
    · exact q
  have pt : ge_off (ge_s K (ge_s 2 c) :: (ge_S K (ge_S 2 mid) ++ [ge_s K (ge_s 2 a)])) P := ge_C_offt (fun z => n3 (ge_on_symm z)) o3
  have et : ge_s K (ge_s 2 c) :: (ge_S K (ge_S 2 mid) ++ [ge_s K (ge_s 2 a)]) = ge_S (K * 2) (c :: (mid ++ [a])) := by rw [← ge_S_cut, ← ge_S_cut, ge_S_S]
  rw [et] at pt eP
  rcases W.2 (K * 2) (by omega) P pt with q | q <;> omega
theorem ge_C_W (H : ge_C a b c mid) (Z : ∃ k : Int, 0 < k ∧ ∃ q : GPt, ge_int (ge_s k a) (ge_s k b) (ge_s k c) q ∧ ge_wn (ge_S k (c :: (mid ++ [a]))) q = 0) {s : Int} (W : ge_W (c :: (mid ++ [a])) s) : ge_W (b :: c :: (mid ++ [a])) 1 := by
  have s1 := ge_C_across H Z W
  subst s1
  refine ⟨Or.inl rfl, fun k hk p ho => ?_⟩
  have HK := ge_C_s hk H
  by_cases hac : ge_on (ge_s k a) (ge_s k c) p
  · refine Or.inr (ge_C_closed H Z hk (ge_ac_in HK.1 hac (fun q => ?_)) ho)
    have hn := (List.nodup_cons.mp H.2.1.1).2
    exact (List.nodup_cons.mp hn).1 (by rw [← ge_s_inj hk q]; simp)
  · by_cases hi : ge_int (ge_s k a) (ge_s k b) (ge_s k c) p
    · exact Or.inr (ge_C_one H Z hk hi)
    · rw [ge_S_ear] at ho ⊢
      obtain ⟨o1, o2, o3⟩ := ge_C_of ho
      have w0 : ge_w3 (ge_s k a) (ge_s k b) (ge_s k c) p = 0 := by
        rcases ge_w3_in HK.1 o1 o2 (fun z => hac (ge_on_symm z)) with ⟨q, -⟩ | ⟨-, q⟩
        · exact absurd q hi
        · exact q
      have pt := ge_C_offt (mid := ge_S k mid) hac o3
      rw [ge_wn_ear, w0, ← ge_S_cut, Int.add_zero]
      rw [← ge_S_cut] at pt
      exact W.2 k hk p pt
/-- a good ear counts 0 of the rest -/
theorem ge_C_good (H : ge_C a b c mid) (hg : ge_good (b :: c :: (mid ++ [a])) a b c) {s : Int} (W : ge_W (c :: (mid ++ [a])) s) : ∃ k : Int, 0 < k ∧ ∃ q : GPt, ge_int (ge_s k a) (ge_s k b) (ge_s k c) q ∧ ge_wn (ge_S k (c :: (mid ++ [a]))) q = 0 := by
  have h3 : (0 : Int) < 3 := by decide
  have H3 := ge_C_s h3 H
  obtain ⟨q, hq⟩ : ∃ q : GPt, q = (a.1 + b.1 + c.1, a.2 + b.2 + c.2) := ⟨_, rfl⟩
  have f : ∀ u v : GPt, ge_o (ge_s 3 u) (ge_s 3 v) q = 3 * (ge_o u v a + ge_o u v b + ge_o u v c) := fun u v => by rw [hq]; unfold ge_s ge_o; grind
  have F := H.1
  have qi : ge_int (ge_s 3 a) (ge_s 3 b) (ge_s 3 c) q := by
    refine ⟨?_, ?_, ?_⟩
    · rw [f, (ge_C_zz a b).1, (ge_C_zz a b).2]; omega
    · rw [f, (ge_C_zz b c).1, (ge_C_zz b c).2, (ge_C_cyc a b c).1]; omega
    · rw [f, (ge_C_zz c a).1, (ge_C_zz c a).2, (ge_C_cyc a b c).2]; omega
  refine ⟨3, h3, q, qi, ?_⟩
  obtain ⟨o1, o2⟩ := ge_C_int H3 qi
  rw [← ge_S_ear] at o1
  rw [← ge_S_cut] at o2
  have par := hg.2 3 h3 q (Or.inl (ge_int_in qi)) o1
  rw [ge_par_wn] at par
  have par := of_decide_eq_true par
  have w1 : ge_w3 (ge_s 3 a) (ge_s 3 b) (ge_s 3 c) q = 1 := ge_w3_int H3.1 qi
  rw [ge_S_ear, ge_wn_ear, w1, ← ge_S_cut] at par
  rcases W.2 3 h3 q o2 with z | z
  · exact z
  · rcases W.1 with r | r <;> omega
/-- an empty corner that turns to the polygon's side counts 0 of the rest: across the middle of ab -/
theorem ge_C_turn (H : ge_C a b c mid) (W : ge_W (b :: c :: (mid ++ [a])) 1) : ∃ k : Int, 0 < k ∧ ∃ q : GPt, ge_int (ge_s k a) (ge_s k b) (ge_s k c) q ∧ ge_wn (ge_S k (c :: (mid ++ [a]))) q = 0 := by
  have h2 : (0 : Int) < 2 := by decide
  have H2 := ge_C_s h2 H
  obtain ⟨m, hm⟩ : ∃ m : GPt, m = (a.1 + b.1, a.2 + b.2) := ⟨_, rfl⟩
  have w : ge_wt (ge_s 2 a) (ge_s 2 b) m 1 1 := ⟨by decide, by decide, by decide, by rw [hm]; unfold ge_s; grind, by rw [hm]; unfold ge_s; grind⟩
  have F2 := H2.1
  have e1 := ge_wt_o w (ge_s 2 a) (ge_s 2 b)
  have e2 := ge_wt_o w (ge_s 2 b) (ge_s 2 c)
  have e3 := ge_wt_o w (ge_s 2 c) (ge_s 2 a)
  rw [(ge_C_zz _ _).1, (ge_C_zz _ _).2] at e1
  rw [(ge_C_zz _ _).1, (ge_C_cyc (ge_s 2 a) (ge_s 2 b) (ge_s 2 c)).1] at e2
  rw [(ge_C_zz _ _).2, (ge_C_cyc (ge_s 2 a) (ge_s 2 b) (ge_s 2 c)).2] at e3
  have m1 : ge_o (ge_s 2 a) (ge_s 2 b) m = 0 := by omega
  have m2 : 0 < ge_o (ge_s 2 b) (ge_s 2 c) m := by omega
  have m3 : 0 < ge_o (ge_s 2 c) (ge_s 2 a) m := by omega
  have hne := ge_adj_ne H2.2.1.1 (by simp)
  have hbt := (List.nodup_cons.mp H2.2.1.1).1
  have mo : ge_off (ge_s 2 c :: (ge_S 2 mid ++ [ge_s 2 a])) m := by
    refine ge_C_offt (fun z => by have := (ge_on_symm z).1; omega) (fun e he z => ?_)
    have me := ge_ed_mem _ e he
    have hea : ge_adj (ge_s 2 b :: ge_s 2 c :: (ge_S 2 mid ++ [ge_s 2 a])) e.1 e.2 := Or.inl (by rw [ge_E_ear]; exact List.mem_cons_of_mem _ (List.mem_append_left _ he))
    have hab : ge_adj (ge_s 2 b :: ge_s 2 c :: (ge_S 2 mid ++ [ge_s 2 a])) (ge_s 2 a) (ge_s 2 b) := Or.inl (by rw [ge_E_ear]; simp)
    have hd : ¬ ((e.1 = ge_s 2 a ∧ e.2 = ge_s 2 b) ∨ (e.1 = ge_s 2 b ∧ e.2 = ge_s 2 a)) := fun q => by
      rcases q with ⟨-, q⟩ | ⟨q, -⟩
      · exact hbt (q ▸ me.2)
      · exact hbt (q ▸ me.1)
    rcases (ge_touch H2.2.1 hne hea hab hd z (ge_wt_on w)).2 with q | q
    · rw [q, (ge_C_zz _ _).2] at m3; omega
    · rw [q, (ge_C_zz _ _).1] at m2; omega
  obtain ⟨K, hK, hf⟩ := ge_eps (m.1 - (ge_s 2 c).1, m.2 - (ge_s 2 c).2) mo
  have hK0 : 0 < K := by omega
  obtain ⟨P, hP⟩ : ∃ P, P = ge_mvd K m (m.1 - (ge_s 2 c).1, m.2 - (ge_s 2 c).2) := ⟨_, rfl⟩
  obtain ⟨Q, hQ⟩ : ∃ Q, Q = ge_mvd K m (-(m.1 - (ge_s 2 c).1), -(m.2 - (ge_s 2 c).2)) := ⟨_, rfl⟩
  have hf1 : ∀ e ∈ ge_E (ge_S K (ge_s 2 c :: (ge_S 2 mid ++ [ge_s 2 a]))), ¬ ge_meet e.1 e.2 (ge_s K m) P := fun e he => by rw [hP]; exact (hf e he).1
  have hf2 : ∀ e ∈ ge_E (ge_S K (ge_s 2 c :: (ge_S 2 mid ++ [ge_s 2 a]))), ¬ ge_meet e.1 e.2 (ge_s K m) Q := fun e he => by rw [hQ]; exact (hf e he).2
  have HN := ge_C_s hK0 H2
  have qi : ge_int (ge_s K (ge_s 2 a)) (ge_s K (ge_s 2 b)) (ge_s K (ge_s 2 c)) Q := by
    rw [hQ]
    refine ⟨?_, ?_, ?_⟩
    · rw [ge_mv_t, m1, Int.mul_zero]; exact Int.mul_pos hK0 (by omega)
    · rw [ge_mv_t, (ge_C_zz _ _).2]; exact Int.mul_pos hK0 (by have := Int.mul_pos (show 0 < K - 1 by omega) m2; omega)
    · rw [ge_mv_t, (ge_C_zz _ _).1]; exact Int.mul_pos hK0 (by have := Int.mul_pos (show 0 < K - 1 by omega) m3; omega)
  have p1 : ge_o (ge_s K (ge_s 2 a)) (ge_s K (ge_s 2 b)) P < 0 := by
    rw [hP, ge_mv_o, m1, Int.mul_zero]
    have := Int.mul_pos hK0 F2
    rw [Int.zero_sub, Int.mul_neg]; omega
  have p2 : 0 < ge_o (ge_s K (ge_s 2 b)) (ge_s K (ge_s 2 c)) P := by
    rw [hP, ge_mv_o, (ge_C_zz _ _).2]
    exact Int.mul_pos hK0 (by have := Int.mul_pos (show 0 < K + 1 by omega) m2; omega)
  have p3 : 0 < ge_o (ge_s K (ge_s 2 c)) (ge_s K (ge_s 2 a)) P := by
    rw [hP, ge_mv_o, (ge_C_zz _ _).1]
    exact Int.mul_pos hK0 (by have := Int.mul_pos (show 0 < K + 1 by omega) m3; omega)
  have ePQ := (ge_wn_mv hf1).symm.trans (ge_wn_mv hf2)
  have po : ge_off (ge_S K (ge_s 2 c :: (ge_S 2 mid ++ [ge_s 2 a]))) P := fun e he => ge_not_on (hf1 e he)
  rw [ge_S_cut] at po ePQ
  have n1 : ¬ ge_on (ge_s K (ge_s 2 a)) (ge_s K (ge_s 2 b)) P := fun z => by have := z.1; omega
  have n2 : ¬ ge_on (ge_s K (ge_s 2 b)) (ge_s K (ge_s 2 c)) P := fun z => by have := z.1; omega
  have n3 : ¬ ge_on (ge_s K (ge_s 2 c)) (ge_s K (ge_s 2 a)) P := fun z => by have := z.1; omega
  have po3 : ∀ e ∈ ge_ed (ge_s K (ge_s 2 c) :: (ge_S K (ge_S 2 mid) ++ [ge_s K (ge_s 2 a)])), ¬ ge_on e.1 e.2 P := fun e he => po e (by rw [ge_E_cut]; exact List.mem_append_left _ he)
  have pl := ge_C_off (mid := ge_S K (ge_S 2 mid)) n1 n2 po3
  have ql := (ge_C_int HN qi).1
  have el : ge_s K (ge_s 2 b) :: ge_s K (ge_s 2 c) :: (ge_S K (ge_S 2 mid) ++ [ge_s K (ge_s 2 a)]) = ge_S (K * 2) (b :: c :: (mid ++ [a])) := by rw [← ge_S_ear, ← ge_S_ear, ge_S_S]
  have et : ge_s K (ge_s 2 c) :: (ge_S K (ge_S 2 mid) ++ [ge_s K (ge_s 2 a)]) = ge_S (K * 2) (c :: (mid ++ [a])) := by rw [← ge_S_cut, ← ge_S_cut, ge_S_S]
  have hK2 : 0 < K * 2 := by omega
  rw [el] at pl ql
  have vP := W.2 (K * 2) hK2 P pl
  have vQ := W.2 (K * 2) hK2 Q ql
  rw [← el, ge_wn_ear] at vP vQ
  have w0 : ge_w3 (ge_s K (ge_s 2 a)) (ge_s K (ge_s 2 b)) (ge_s K (ge_s 2 c)) P = 0 := by
    rcases ge_w3_in HN.1 n1 n2 n3 with ⟨q, -⟩ | ⟨-, q⟩
    · have := q.1; omega
    · exact q
  have w1 : ge_w3 (ge_s K (ge_s 2 a)) (ge_s K (ge_s 2 b)) (ge_s K (ge_s 2 c)) Q = 1 := ge_w3_int HN.1 qi
  refine ⟨K * 2, hK2, Q, by rw [← ge_s_s, ← ge_s_s, ← ge_s_s]; exact qi, ?_⟩
  rw [← et]
  omega
theorem ge_C_isgood (H : ge_C a b c mid) (Z : ∃ k : Int, 0 < k ∧ ∃ q : GPt, ge_int (ge_s k a) (ge_s k b) (ge_s k c) q ∧ ge_wn (ge_S k (c :: (mid ++ [a]))) q = 0) : ge_good (b :: c :: (mid ++ [a])) a b c := by
  refine ⟨fun w hw h1 h2 h3 z => ?_, fun k hk p hp ho => ?_⟩
  · rcases List.mem_cons.mp hw with q | q
    · exact h2 q
    · exact H.2.2.1 w q h1 h3 (ge_tc_in H.1 z)
  · rw [ge_par_wn, ge_C_closed H Z hk (ge_tc_in (ge_C_s hk H).1 hp) ho]
    rfl
end Corner
