/-! every simple polygon has, for each edge, a good ear that isn't one of its ends -/
section CaseB
variable {a b c z : GPt} {n1 n2 : List GPt}
theorem ge_B_adj1 {u v : GPt} (h : ge_adj (b :: c :: (n1 ++ [z])) u v) : ge_adj (b :: c :: ((n1 ++ z :: n2) ++ [a])) u v ∨ (u = b ∧ v = z) ∨ (u = z ∧ v = b) := by
  rcases h with h | h
  · rcases ge_B_E1 (a := a) (n2 := n2) h with q | q
    · exact Or.inl (Or.inl q)
    · exact Or.inr (Or.inr (Prod.mk.inj q))
  · rcases ge_B_E1 (a := a) (n2 := n2) h with q | q
    · exact Or.inl (Or.inr q)
    · exact Or.inr (Or.inl (Prod.mk.inj q).symm)
theorem ge_B_adj2 {u v : GPt} (h : ge_adj (b :: z :: (n2 ++ [a])) u v) : ge_adj (b :: c :: ((n1 ++ z :: n2) ++ [a])) u v ∨ (u = b ∧ v = z) ∨ (u = z ∧ v = b) := by
  rcases h with h | h
  · rcases ge_B_E2 (c := c) (n1 := n1) h with q | q
    · exact Or.inl (Or.inl q)
    · exact Or.inr (Or.inl (Prod.mk.inj q))
  · rcases ge_B_E2 (c := c) (n1 := n1) h with q | q
    · exact Or.inl (Or.inr q)
    · exact Or.inr (Or.inr (Prod.mk.inj q).symm)
theorem ge_B_adjl {u v : GPt} (h : ge_adj (b :: c :: ((n1 ++ z :: n2) ++ [a])) u v) : ge_adj (b :: c :: (n1 ++ [z])) u v ∨ ge_adj (b :: z :: (n2 ++ [a])) u v := by
  rcases h with h | h
  · exact (ge_B_El h).imp Or.inl Or.inl
  · exact (ge_B_El h).imp Or.inr Or.inr
theorem ge_B_sub1 : ∀ w ∈ b :: c :: (n1 ++ [z]), w ∈ b :: c :: ((n1 ++ z :: n2) ++ [a]) := fun w h => by simp at h ⊢; grind
theorem ge_B_sub2 : ∀ w ∈ b :: z :: (n2 ++ [a]), w ∈ b :: c :: ((n1 ++ z :: n2) ++ [a]) := fun w h => by simp at h ⊢; grind
theorem ge_B_nd1 (H : ge_B a b c z n1 n2) : (b :: c :: (n1 ++ [z])).Nodup := by
  have nd := ge_B_nd H
  refine List.nodup_cons.mpr ⟨fun q => nd.1 (by simp at q ⊢; grind), ?_⟩
  rw [show c :: (n1 ++ [z]) = (c :: n1) ++ [z] by simp]
  exact List.nodup_append.mpr ⟨nd.2.1, by simp, fun x hx y hy => nd.2.2.2 x hx y (by rw [List.mem_singleton.mp hy]; exact List.mem_cons_self)⟩
theorem ge_B_nd2 (H : ge_B a b c z n1 n2) : (b :: z :: (n2 ++ [a])).Nodup := by
  have nd := ge_B_nd H
  exact List.nodup_cons.mpr ⟨fun q => nd.1 (by simp at q ⊢; grind), nd.2.2.1⟩
theorem ge_B_s1 (H : ge_B a b c z n1 n2) : ge_simple (b :: c :: (n1 ++ [z])) := ge_part_simple (b := b) (z := z) H.2.1 (ge_B_nd1 H) ge_B_sub1 (fun _ _ h => ge_B_adj1 h) (fun _ hw ho => ge_B_V H hw ho) (fun _ _ h => ge_B_X H h)
theorem ge_B_s2 (H : ge_B a b c z n1 n2) : ge_simple (b :: z :: (n2 ++ [a])) := ge_part_simple (b := b) (z := z) H.2.1 (ge_B_nd2 H) ge_B_sub2 (fun _ _ h => ge_B_adj2 h) (fun _ hw ho => ge_B_V H hw ho) (fun _ _ h => ge_B_X H h)
/-- an edge of the polygon whose ends aren't in a part doesn't meet the part's edges -/
theorem ge_B_far (H : ge_B a b c z n1 n2) {u v x y : GPt} (h : ge_adj (b :: c :: ((n1 ++ z :: n2) ++ [a])) u v) (g : ge_adj (b :: c :: ((n1 ++ z :: n2) ++ [a])) x y ∨ (x = b ∧ y = z) ∨ (x = z ∧ y = b)) (n1' : u ≠ x) (n2' : u ≠ y) (n3 : v ≠ x) (n4 : v ≠ y) : ¬ ge_meet x y u v := by
  have mu := ge_adj_mem h
  have bz : (u ≠ b ∧ u ≠ z ∧ v ≠ b ∧ v ≠ z) → ¬ ge_meet b z u v := fun ⟨q1, q2, q3, q4⟩ m => by
    rcases m with m | m | m | m | m
    · exact (ge_B_V H mu.1 m).elim q1 q2
    · exact (ge_B_V H mu.2 m).elim q3 q4
    · rcases ge_adj_V H.2.1 List.mem_cons_self h m with r | r
      · exact q1 r.symm
      · exact q3 r.symm
    · rcases ge_adj_V H.2.1 (by simp) h m with r | r
      · exact q2 r.symm
      · exact q4 r.symm
    · exact ge_B_X H h (ge_x_symm m)
  rcases g with g | ⟨g1, g2⟩ | ⟨g1, g2⟩
  · exact fun m => ge_disj H.2.1 h g n1' n2' n3 n4 (ge_meet_symm m)
  · subst g1; subst g2
    exact bz ⟨n1', n2', n3, n4⟩
  · subst g1; subst g2
    exact fun m => bz ⟨n2', n1', n4, n3⟩ (ge_meet_flip m)
theorem ge_B_sep (H : ge_B a b c z n1 n2) {w : GPt} (h1 : w ∈ b :: c :: (n1 ++ [z])) (h2 : w ∈ b :: z :: (n2 ++ [a])) : w = b ∨ w = z := by
  have nd := ge_B_nd H
  rcases List.mem_cons.mp h2 with q | q
  · exact Or.inl q
  · rcases List.mem_cons.mp h1 with r | r
    · exact Or.inl r
    · rw [show c :: (n1 ++ [z]) = (c :: n1) ++ [z] by simp] at r
      rcases List.mem_append.mp r with r | r
      · exact absurd rfl (nd.2.2.2 w r w q)
      · exact Or.inr (List.mem_singleton.mp r)
theorem ge_B_C1 (H : ge_B a b c z n1 n2) : ∀ w ∈ b :: z :: (n2 ++ [a]), w ≠ b → w ≠ z → ge_par (b :: c :: (n1 ++ [z])) w = false := by
  intro w hw wb wz
  have nd := ge_B_nd H
  have hw' : w ∈ n2 ++ [a] := by simp at hw ⊢; grind
  rw [← ge_B_C1a H]
  refine ge_chain2 (fun p => ge_par (b :: c :: (n1 ++ [z])) p) n2 a (fun e he => ?_) w hw'
  have me := ge_ed_mem _ e he
  have out : ∀ v ∈ n2 ++ [a], v ∉ b :: c :: (n1 ++ [z]) := fun v hv q => by
    rcases ge_B_sep H q (List.mem_cons_of_mem _ (List.mem_cons_of_mem _ hv)) with r | r
    · exact nd.1 (by rw [← r]; simp at hv ⊢; grind)
    · exact (List.nodup_cons.mp nd.2.2.1).1 (by rw [← r]; exact hv)
  have hadj : ge_adj (b :: c :: ((n1 ++ z :: n2) ++ [a])) e.1 e.2 := Or.inl (by
    rw [ge_E_ear, ge_B_ed]
    exact List.mem_cons_of_mem _ (List.mem_append_left _ (List.mem_append_right _ (ge_ed_tl he))))
  refine ge_par_mv (fun g hg => ?_)
  have mg := ge_E_mem hg
  exact ge_B_far H hadj (ge_B_adj1 (Or.inl hg)) (fun q => out _ me.1 (by rw [q]; exact mg.1)) (fun q => out _ me.1 (by rw [q]; exact mg.2)) (fun q => out _ me.2 (by rw [q]; exact mg.1)) (fun q => out _ me.2 (by rw [q]; exact mg.2))
theorem ge_B_C2 (H : ge_B a b c z n1 n2) : ∀ w ∈ b :: c :: (n1 ++ [z]), w ≠ b → w ≠ z → ge_par (b :: z :: (n2 ++ [a])) w = false := by
  intro w hw wb wz
  have nd := ge_B_nd H
  have hw' : w ∈ c :: n1 := by simp at hw ⊢; grind
  rw [← ge_B_C2c H]
  refine ge_chain1 (fun p => ge_par (b :: z :: (n2 ++ [a])) p) n1 c (fun e he => ?_) w hw'
  have me := ge_ed_mem _ e he
  have out : ∀ v ∈ c :: n1, v ∉ b :: z :: (n2 ++ [a]) := fun v hv q => by
    rcases List.mem_cons.mp q with r | r
    · exact nd.1 (by rw [← r]; simp at hv ⊢; grind)
    · exact nd.2.2.2 v hv v r rfl
  have hadj : ge_adj (b :: c :: ((n1 ++ z :: n2) ++ [a])) e.1 e.2 := Or.inl (by
    rw [ge_E_ear, ge_B_ed]
    exact List.mem_cons_of_mem _ (List.mem_append_left _ (List.mem_append_left _ (ge_ed_pre (l := c :: n1) [z] he))))
  refine ge_par_mv (fun g hg => ?_)
  have mg := ge_E_mem hg
  exact ge_B_far H hadj (ge_B_adj2 (Or.inl hg)) (fun q => out _ me.1 (by rw [q]; exact mg.1)) (fun q => out _ me.1 (by rw [q]; exact mg.2)) (fun q => out _ me.2 (by rw [q]; exact mg.1)) (fun q => out _ me.2 (by rw [q]; exact mg.2))
theorem ge_ed_start : ∀ (x : GPt) (m : List GPt) (y : GPt), ∃ v : GPt, (x, v) ∈ ge_ed (x :: (m ++ [y]))
  | x, [], y => ⟨y, List.mem_cons_self⟩
  | x, v :: m, y => ⟨v, List.mem_cons_self⟩
theorem ge_B_C3' (H : ge_B a b c z n1 n2) {p : GPt} (hp : ge_on b z p) (ho : ge_off (b :: c :: ((n1 ++ z :: n2) ++ [a])) p) : ge_par (b :: c :: ((n1 ++ z :: n2) ++ [a])) p = true := by
  obtain ⟨z1, z2, z3, z4⟩ := ge_B_num H
  obtain ⟨i, j, w⟩ := ge_on_wt (ge_B_ne H) hp
  have hi : i ≠ 0 := fun q => by
    subst q
    have := ge_wt_0 (ge_wt_swap w)
    subst this
    obtain ⟨v, hv⟩ := ge_ed_start p n2 a
    exact ho (p, v) (by rw [ge_E_ear, ge_B_ed]; exact List.mem_cons_of_mem _ (List.mem_append_left _ (List.mem_append_right _ hv))) (ge_on_l _ _)
  have hj : j ≠ 0 := fun q => by
    subst q
    have := ge_wt_0 w
    subst this
    exact ho (p, c) (by rw [ge_E_ear]; exact List.mem_cons_self) (ge_on_l _ _)
  have hi' : 0 < i := by have := w.1; omega
  have hj' : 0 < j := by have := w.2.1; omega
  have g := ge_B_bz H w hi'
  have e1 := ge_wt_o w a b
  have e2 := ge_wt_o w b c
  have zz1 : ge_o a b b = 0 := by unfold ge_o; grind
  have zz2 : ge_o b c b = 0 := by unfold ge_o; grind
  rw [zz1, Int.mul_zero] at e1
  rw [zz2, Int.mul_zero] at e2
  have k1 : 0 < ge_o a b p := ge_pos w.2.2.1 (by have := Int.mul_pos hj' z1; omega)
  have k2 : 0 < ge_o b c p := ge_pos w.2.2.1 (by have := Int.mul_pos hj' z2; omega)
  have k3 : 0 < ge_o c a p := by omega
  rw [ge_par_ear, ge_B_L0 H g.1 g.2, (ge_tri H.1 (fun q => by have := q.1; omega) (fun q => by have := q.1; omega) (fun q => by have := q.1; omega)).mpr ⟨k1, k2, k3⟩]
  rfl
theorem ge_B_C3 (H : ge_B a b c z n1 n2) (k : Int) (p : GPt) (hk : 0 < k) (hp : ge_on (ge_s k b) (ge_s k z) p) (ho : ge_off (ge_S k (b :: c :: ((n1 ++ z :: n2) ++ [a]))) p) : ge_par (ge_S k (b :: c :: ((n1 ++ z :: n2) ++ [a]))) p = true := by
  rw [ge_B_S] at ho ⊢
  exact ge_B_C3' (ge_B_s hk H) hp ho
theorem ge_B_parts1 (H : ge_B a b c z n1 n2) : ge_parts (b :: c :: ((n1 ++ z :: n2) ++ [a])) (b :: c :: (n1 ++ [z])) (b :: z :: (n2 ++ [a])) b z := by
  refine ⟨fun _ _ h => ge_B_adj1 h, fun _ _ h => ge_B_adj2 h, fun w hw => by simp at hw ⊢; grind, ge_B_sub1, ge_B_sub2, fun w h1 h2 => ge_B_sep H h1 h2, by simp, by simp, ge_B_ne H, fun k p => ?_, ge_B_C1 H, ge_B_C2 H, ge_B_C3 H, fun w hw ho => ge_B_V H hw ho, fun u v h => ge_B_X H h, H.2.1⟩
  rw [ge_B_S, ge_S_ear, ge_S_ear]
  exact ge_B_par p
theorem ge_B_parts2 (H : ge_B a b c z n1 n2) : ge_parts (b :: c :: ((n1 ++ z :: n2) ++ [a])) (b :: z :: (n2 ++ [a])) (b :: c :: (n1 ++ [z])) b z := by
  refine ⟨fun _ _ h => ge_B_adj2 h, fun _ _ h => ge_B_adj1 h, fun w hw => by simp at hw ⊢; grind, ge_B_sub2, ge_B_sub1, fun w h1 h2 => ge_B_sep H h2 h1, by simp, by simp, ge_B_ne H, fun k p => ?_, ge_B_C2 H, ge_B_C1 H, ge_B_C3 H, fun w hw ho => ge_B_V H hw ho, fun u v h => ge_B_X H h, H.2.1⟩
  rw [ge_B_S, ge_S_ear, ge_S_ear, ge_B_par p]
  cases ge_par (ge_s k b :: ge_s k c :: (ge_S k n1 ++ [ge_s k z])) p <;> cases ge_par (ge_s k b :: ge_s k z :: (ge_S k n2 ++ [ge_s k a])) p <;> rfl
theorem ge_E_ne {l : List GPt} (hn : l.Nodup) (h2 : 2 ≤ l.length) : ∀ e ∈ ge_E l, e.1 ≠ e.2 := by
  intro e he
  match l, hn, h2 with
  | u :: v :: r, hn, _ =>
    have h : e ∈ ge_ed (u :: v :: (r ++ [u])) := he
    rcases List.mem_cons.mp h with q | q
    · rw [q]
      intro z
      have z : u = v := z
      exact (List.nodup_cons.mp hn).1 (by rw [z]; exact List.mem_cons_self)
    · refine ge_ed_ne (v :: (r ++ [u])) ?_ e q
      rw [show v :: (r ++ [u]) = (v :: r) ++ [u] by simp]
      obtain ⟨h1, h2⟩ := List.nodup_cons.mp hn
      exact List.nodup_append.mpr ⟨h2, by simp, fun x hx y hy z => h1 (by rw [← List.mem_singleton.mp hy, ← z]; exact hx)⟩
theorem ge_adj_ne {l : List GPt} (hn : l.Nodup) (h2 : 2 ≤ l.length) : ∀ u v : GPt, ge_adj l u v → u ≠ v := by
  intro u v h
  rcases h with h | h
  · exact ge_E_ne hn h2 _ h
  · exact (ge_E_ne hn h2 _ h).symm
theorem ge_PE_B (H : ge_B a b c z n1 n2) (i1 : ge_PE (b :: c :: (n1 ++ [z]))) (i2 : ge_PE (b :: z :: (n2 ++ [a]))) : ge_PE (b :: c :: ((n1 ++ z :: n2) ++ [a])) := by
  have ne := ge_adj_ne H.2.1.1 (by simp)
  intro u v huv
  rcases ge_B_adjl huv with q | q
  · obtain ⟨x, e, y, h1, h2, h3, h4, h5, h6, h7⟩ := i2 b z (Or.inl (by rw [ge_E_ear]; exact List.mem_cons_self))
    obtain ⟨j1, j2, j3⟩ := ge_join (ge_B_parts2 H) ne h1 h2 h4 h5 h6 h7
    have mq := ge_adj_mem q
    have me := (ge_adj_mem h1).2
    exact ⟨x, e, y, j1, j2, h3, fun r => (ge_B_sep H (r ▸ mq.1) me).elim h4 h5, fun r => (ge_B_sep H (r ▸ mq.2) me).elim h4 h5, h6, j3⟩
  · obtain ⟨x, e, y, h1, h2, h3, h4, h5, h6, h7⟩ := i1 b z (Or.inr (by rw [ge_E_ear]; simp))
    obtain ⟨j1, j2, j3⟩ := ge_join (ge_B_parts1 H) ne h1 h2 h4 h5 h6 h7
    have mq := ge_adj_mem q
    have me := (ge_adj_mem h1).2
    exact ⟨x, e, y, j1, j2, h3, fun r => (ge_B_sep H me (r ▸ mq.1)).elim h4 h5, fun r => (ge_B_sep H me (r ▸ mq.2)).elim h4 h5, h6, j3⟩
end CaseB
