/-! the winding count of a simple polygon is 0 or s; the step over a corner with an empty triangle -/
def ge_W (l : List GPt) (s : Int) : Prop := (s = 1 ∨ s = -1) ∧ ∀ k : Int, 0 < k → ∀ p : GPt, ge_off (ge_S k l) p → ge_wn (ge_S k l) p = 0 ∨ ge_wn (ge_S k l) p = s
/-- a corner whose triangle is empty, of a polygon of at least four -/
def ge_C (a b c : GPt) (mid : List GPt) : Prop := 0 < ge_o a b c ∧ ge_simple (b :: c :: (mid ++ [a])) ∧ (∀ w ∈ c :: (mid ++ [a]), w ≠ a → w ≠ c → ¬ ge_in a b c w) ∧ mid ≠ []
theorem ge_ed_snd {e : GPt × GPt} : ∀ {r : List GPt} {x : GPt}, e ∈ ge_ed (x :: r) → e.2 ∈ r
  | [], x, h => nomatch h
  | y :: r, x, h => by
    rcases List.mem_cons.mp h with q | q
    · rw [q]; exact List.mem_cons_self
    · exact List.mem_cons_of_mem _ (ge_ed_snd q)
section Corner
variable {a b c : GPt} {mid : List GPt}
theorem ge_C_s {k : Int} (hk : 0 < k) (H : ge_C a b c mid) : ge_C (ge_s k a) (ge_s k b) (ge_s k c) (ge_S k mid) := by
  obtain ⟨hF, hs, he, hm⟩ := H
  refine ⟨by rw [ge_o_s]; exact Int.mul_pos (ge_mm hk) hF, by rw [← ge_S_ear]; exact ge_simple_S hk hs, fun w hw h1 h2 z => ?_, fun q => hm (by unfold ge_S at q; exact List.map_eq_nil_iff.mp q)⟩
  rw [← ge_S_cut] at hw
  obtain ⟨w0, hw0, rfl⟩ := List.mem_map.mp hw
  exact he w0 hw0 (fun q => h1 (by rw [q])) (fun q => h2 (by rw [q])) ((ge_in_s hk _ _ _ _).mp z)
theorem ge_C_zz (u v : GPt) : ge_o u v u = 0 ∧ ge_o u v v = 0 := ⟨by unfold ge_o; grind, by unfold ge_o; grind⟩
theorem ge_C_cyc (a b c : GPt) : ge_o b c a = ge_o a b c ∧ ge_o c a b = ge_o a b c := ⟨ge_o_cyc a b c, by rw [ge_o_cyc, ge_o_cyc]⟩
theorem ge_C_off {p : GPt} (h1 : ¬ ge_on a b p) (h2 : ¬ ge_on b c p) (h3 : ∀ e ∈ ge_ed (c :: (mid ++ [a])), ¬ ge_on e.1 e.2 p) : ge_off (b :: c :: (mid ++ [a])) p := by
  intro e he
  rw [ge_E_ear] at he
  rcases List.mem_cons.mp he with q | q
  · rw [q]; exact h2
  · rcases List.mem_append.mp q with q | q
    · exact h3 e q
    · rw [List.mem_singleton.mp q]; exact h1
theorem ge_C_offt {p : GPt} (h1 : ¬ ge_on a c p) (h3 : ∀ e ∈ ge_ed (c :: (mid ++ [a])), ¬ ge_on e.1 e.2 p) : ge_off (c :: (mid ++ [a])) p := by
  intro e he
  rw [ge_E_cut] at he
  rcases List.mem_append.mp he with q | q
  · exact h3 e q
  · rw [List.mem_singleton.mp q]; exact h1
theorem ge_C_of {p : GPt} (h : ge_off (b :: c :: (mid ++ [a])) p) : ¬ ge_on a b p ∧ ¬ ge_on b c p ∧ ∀ e ∈ ge_ed (c :: (mid ++ [a])), ¬ ge_on e.1 e.2 p := by
  unfold ge_off at h
  rw [ge_E_ear] at h
  exact ⟨h (a, b) (by simp), h (b, c) (by simp), fun e he => h e (List.mem_cons_of_mem _ (List.mem_append_left _ he))⟩
theorem ge_C_int (H : ge_C a b c mid) {q : GPt} (hq : ge_int a b c q) : ge_off (b :: c :: (mid ++ [a])) q ∧ ge_off (c :: (mid ++ [a])) q := by
  have sd := ge_sides H.2.1 H.2.2.1
  have pe : ∀ e ∈ ge_ed (c :: (mid ++ [a])), ¬ ge_on e.1 e.2 q := fun e he z => ge_side_K (sd e he) z (ge_int_in hq) hq.2.2
  obtain ⟨q1, q2, q3⟩ := hq
  exact ⟨ge_C_off (fun z => by have := z.1; omega) (fun z => by have := z.1; omega) pe, ge_C_offt (fun z => by have := (ge_on_symm z).1; omega) pe⟩
theorem ge_C_pos (H : ge_C a b c mid) {p : GPt} (hp : ge_in a b c p) (ho : ge_off (b :: c :: (mid ++ [a])) p) : 0 < ge_o a b p ∧ 0 < ge_o b c p := by
  obtain ⟨n1, n2, -⟩ := ge_C_of ho
  constructor
  · rcases Int.lt_or_eq_of_le hp.1 with z | z
    · exact z
    · exact absurd (ge_in_on H.1 hp z.symm) n1
  · rcases Int.lt_or_eq_of_le hp.2.1 with z | z
    · exact z
    · exact absurd (ge_in_on (by rw [ge_o_cyc]; exact H.1) (ge_in_cyc hp) z.symm) n2
theorem ge_C_move (H : ge_C a b c mid) {p q : GPt} (hp : ge_in a b c p) (ho : ge_off (b :: c :: (mid ++ [a])) p) (hq : ge_int a b c q) : ge_wn (b :: c :: (mid ++ [a])) p = ge_wn (b :: c :: (mid ++ [a])) q := by
  have sd := ge_sides H.2.1 H.2.2.1
  have pp := ge_C_pos H hp ho
  have po := (ge_C_of ho).2.2
  refine ge_wn_mv (fun e he => ?_)
  rw [ge_E_ear] at he
  rcases List.mem_cons.mp he with z | z
  · rw [z]; exact ge_free_line pp.2 hq.2.1
  · rcases List.mem_append.mp z with z | z
    · exact ge_free_end (sd e z) hp (po e z) (ge_int_in hq) hq.2.2
    · rw [List.mem_singleton.mp z]; exact ge_free_line pp.1 hq.1
theorem ge_C_movet (H : ge_C a b c mid) {p q : GPt} (hp : ge_int a b c p) (hq : ge_int a b c q) : ge_wn (c :: (mid ++ [a])) p = ge_wn (c :: (mid ++ [a])) q := by
  have sd := ge_sides H.2.1 H.2.2.1
  refine ge_wn_mv (fun e he => ?_)
  rw [ge_E_cut] at he
  rcases List.mem_append.mp he with z | z
  · exact ge_free (sd e z) (ge_int_in hp) hp.2.2 (ge_int_in hq) hq.2.2
  · rw [List.mem_singleton.mp z]; exact ge_free3 hp.2.2 hq.2.2
/-- an inner point of ac lies off the polygon -/
theorem ge_C_mid (H : ge_C a b c mid) {m : GPt} {i j : Int} (w : ge_wt a c m i j) (hi : 0 < i) (hj : 0 < j) : ge_off (b :: c :: (mid ++ [a])) m ∧ 0 < ge_o a b m ∧ 0 < ge_o b c m ∧ ge_o c a m = 0 := by
  have e1 := ge_wt_o w a b
  have e2 := ge_wt_o w b c
  have e3 := ge_wt_o w c a
  rw [(ge_C_zz a b).1, Int.mul_zero] at e1
  rw [(ge_C_zz b c).2, Int.mul_zero, (ge_C_cyc a b c).1] at e2
  rw [(ge_C_zz c a).1, (ge_C_zz c a).2, Int.mul_zero, Int.mul_zero] at e3
  have hs := w.2.2.1
  have m1 : 0 < ge_o a b m := ge_pos hs (by have := Int.mul_pos hj H.1; omega)
  have m2 : 0 < ge_o b c m := ge_pos hs (by have := Int.mul_pos hi H.1; omega)
  have m3 : ge_o c a m = 0 := ge_zero hs (by omega)
  refine ⟨ge_C_off (fun z => by have := z.1; omega) (fun z => by have := z.1; omega) (fun e he z => ?_), m1, m2, m3⟩
  have hst := ge_cut_simple H.1 H.2.1 H.2.2.1
  have hne := ge_adj_ne hst.1 (by simp)
  have hea : ge_adj (c :: (mid ++ [a])) e.1 e.2 := Or.inl (by rw [ge_E_cut]; exact List.mem_append_left _ he)
  have hac : ge_adj (c :: (mid ++ [a])) a c := Or.inl (by rw [ge_E_cut]; simp)
  have hcn : c ∉ mid ++ [a] := (List.nodup_cons.mp hst.1).1
  have hd : ¬ ((e.1 = a ∧ e.2 = c) ∨ (e.1 = c ∧ e.2 = a)) := fun q => by
    rcases q with ⟨-, q⟩ | ⟨q1, q2⟩
    · exact hcn (q ▸ ge_ed_snd he)
    · have hm := H.2.2.2
      cases mid with
      | nil => exact hm rfl
      | cons y r =>
        have hn := (List.nodup_cons.mp hst.1).2
        rcases List.mem_cons.mp he with t | t
        · rw [t] at q2
          have q2 : y = a := q2
          exact (List.nodup_cons.mp hn).1 (by rw [q2]; simp)
        · exact hcn (q1 ▸ (ge_ed_mem _ e t).1)
  rcases (ge_touch hst hne hea hac hd z (ge_wt_on w)).2 with q | q
  · rw [q, (ge_C_zz a b).1] at m1; omega
  · rw [q, (ge_C_zz b c).2] at m2; omega
theorem ge_C_zero (H : ge_C a b c mid) (Z : ∃ k : Int, 0 < k ∧ ∃ q : GPt, ge_int (ge_s k a) (ge_s k b) (ge_s k c) q ∧ ge_wn (ge_S k (c :: (mid ++ [a]))) q = 0) {k : Int} (hk : 0 < k) {p : GPt} (hp : ge_int (ge_s k a) (ge_s k b) (ge_s k c) p) : ge_wn (ge_S k (c :: (mid ++ [a]))) p = 0 := by
  obtain ⟨n, hn, q, hq, hz⟩ := Z
  have hkn := Int.mul_pos hk hn
  have HN := ge_C_s hkn H
  have ip : ge_int (ge_s (k * n) a) (ge_s (k * n) b) (ge_s (k * n) c) (ge_s n p) := by
    rw [Int.mul_comm k n, ← ge_s_s, ← ge_s_s, ← ge_s_s]; exact (ge_int_s hn _ _ _ _).mpr hp
  have iq : ge_int (ge_s (k * n) a) (ge_s (k * n) b) (ge_s (k * n) c) (ge_s k q) := by
    rw [← ge_s_s, ← ge_s_s, ← ge_s_s]; exact (ge_int_s hk _ _ _ _).mpr hq
  have e := ge_C_movet HN ip iq
  rw [← ge_S_cut] at e
  have e1 : ge_wn (ge_S (k * n) (c :: (mid ++ [a]))) (ge_s n p) = ge_wn (ge_S k (c :: (mid ++ [a]))) p := by
    rw [Int.mul_comm k n, ← ge_S_S, ge_wn_s hn]
  have e2 : ge_wn (ge_S (k * n) (c :: (mid ++ [a]))) (ge_s k q) = ge_wn (ge_S n (c :: (mid ++ [a]))) q := by
    rw [← ge_S_S, ge_wn_s hk]
  rw [e1, e2, hz] at e
  exact e
theorem ge_C_one (H : ge_C a b c mid) (Z : ∃ k : Int, 0 < k ∧ ∃ q : GPt, ge_int (ge_s k a) (ge_s k b) (ge_s k c) q ∧ ge_wn (ge_S k (c :: (mid ++ [a]))) q = 0) {k : Int} (hk : 0 < k) {p : GPt} (hp : ge_int (ge_s k a) (ge_s k b) (ge_s k c) p) : ge_wn (ge_S k (b :: c :: (mid ++ [a]))) p = 1 := by
  have z := ge_C_zero H Z hk hp
  have HK := ge_C_s hk H
  have n1 : ¬ ge_on (ge_s k a) (ge_s k b) p := fun q => by have := q.1; have := hp.1; omega
  have n2 : ¬ ge_on (ge_s k b) (ge_s k c) p := fun q => by have := q.1; have := hp.2.1; omega
  have n3 : ¬ ge_on (ge_s k c) (ge_s k a) p := fun q => by have := q.1; have := hp.2.2; omega
  rcases ge_w3_in HK.1 n1 n2 n3 with ⟨-, w⟩ | ⟨q, -⟩
  · rw [ge_S_ear, ge_wn_ear, w, ← ge_S_cut, z]; rfl
  · exact absurd hp q
theorem ge_C_closed (H : ge_C a b c mid) (Z : ∃ k : Int, 0 < k ∧ ∃ q : GPt, ge_int (ge_s k a) (ge_s k b) (ge_s k c) q ∧ ge_wn (ge_S k (c :: (mid ++ [a]))) q = 0) {k : Int} (hk : 0 < k) {p : GPt} (hp : ge_in (ge_s k a) (ge_s k b) (ge_s k c) p) (ho : ge_off (ge_S k (b :: c :: (mid ++ [a]))) p) : ge_wn (ge_S k (b :: c :: (mid ++ [a]))) p = 1 := by
  have HK := ge_C_s hk H
  have h2 : (0 : Int) < 2 := by decide
  have h2k : 0 < 2 * k := by omega
  have HN := ge_C_s h2 HK
  rw [ge_S_ear] at ho
  have pp := ge_C_pos HK hp ho
  obtain ⟨g, hg⟩ : ∃ g : GPt, g = (p.1 + (ge_s k b).1, p.2 + (ge_s k b).2) := ⟨_, rfl⟩
  have f : ∀ u v : GPt, ge_o (ge_s 2 u) (ge_s 2 v) g = 2 * (ge_o u v p + ge_o u v (ge_s k b)) := fun u v => by
    rw [hg]; generalize ge_s k b = B; unfold ge_s ge_o; grind
  have F' := HK.1
  have c3 := (ge_C_cyc (ge_s k a) (ge_s k b) (ge_s k c)).2
  have z1 := (ge_C_zz (ge_s k a) (ge_s k b)).2
  have z2 := (ge_C_zz (ge_s k b) (ge_s k c)).1
  have gi : ge_int (ge_s 2 (ge_s k a)) (ge_s 2 (ge_s k b)) (ge_s 2 (ge_s k c)) g := by
    refine ⟨?_, ?_, ?_⟩
    · rw [f, z1]; omega
    · rw [f, z2]; omega
    · rw [f, c3]; have := hp.2.2; omega
  have off2 : ge_off (ge_s 2 (ge_s k b) :: ge_s 2 (ge_s k c) :: (ge_S 2 (ge_S k mid) ++ [ge_s 2 (ge_s k a)])) (ge_s 2 p) := by
    rw [← ge_S_ear]; exact ge_off_s h2 ho
  have e := ge_C_move HN ((ge_in_s h2 _ _ _ _).mpr hp) off2 gi
  rw [← ge_S_ear, ge_wn_s h2, ← ge_S_ear] at e
  rw [e, ge_S_S]
  exact ge_C_one H Z h2k (by rw [← ge_s_s, ← ge_s_s, ← ge_s_s]; exact gi)
end Corner
