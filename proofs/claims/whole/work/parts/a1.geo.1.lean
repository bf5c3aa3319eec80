/-! cut out of the base by slice.py: a1.geo -/
-- h5.stepb
/-! the parts along the diagonal, and the step over them -/
section CaseB
variable {a b c z : GPt} {n1 n2 : List GPt}
theorem ge_B_E1 {e : GPt × GPt} (h : e ∈ ge_E (b :: c :: (n1 ++ [z]))) : e ∈ ge_E (b :: c :: ((n1 ++ z :: n2) ++ [a])) ∨ e = (z, b) := by
  rw [ge_E_ear] at h
  rw [ge_E_ear, ge_B_ed]
  rcases List.mem_cons.mp h with q | q
  · exact Or.inl (by rw [q]; exact List.mem_cons_self)
  · rcases List.mem_append.mp q with q | q
    · exact Or.inl (List.mem_cons_of_mem _ (List.mem_append_left _ (List.mem_append_left _ q)))
    · exact Or.inr (List.mem_singleton.mp q)
theorem ge_B_E2 {e : GPt × GPt} (h : e ∈ ge_E (b :: z :: (n2 ++ [a]))) : e ∈ ge_E (b :: c :: ((n1 ++ z :: n2) ++ [a])) ∨ e = (b, z) := by
  rw [ge_E_ear] at h
  rw [ge_E_ear, ge_B_ed]
  rcases List.mem_cons.mp h with q | q
  · exact Or.inr q
  · rcases List.mem_append.mp q with q | q
    · exact Or.inl (List.mem_cons_of_mem _ (List.mem_append_left _ (List.mem_append_right _ q)))
    · exact Or.inl (by rw [List.mem_singleton.mp q]; simp)
theorem ge_B_El {e : GPt × GPt} (h : e ∈ ge_E (b :: c :: ((n1 ++ z :: n2) ++ [a]))) : e ∈ ge_E (b :: c :: (n1 ++ [z])) ∨ e ∈ ge_E (b :: z :: (n2 ++ [a])) := by
  rw [ge_E_ear, ge_B_ed] at h
  rw [ge_E_ear, ge_E_ear]
  rcases List.mem_cons.mp h with q | q
  · exact Or.inl (by rw [q]; exact List.mem_cons_self)
  · rcases List.mem_append.mp q with q | q
    · rcases List.mem_append.mp q with q | q
      · exact Or.inl (List.mem_cons_of_mem _ (List.mem_append_left _ q))
      · exact Or.inr (List.mem_cons_of_mem _ (List.mem_append_left _ q))
    · exact Or.inr (by rw [List.mem_singleton.mp q]; simp)
theorem ge_B_par (p : GPt) : ge_par (b :: c :: ((n1 ++ z :: n2) ++ [a])) p = (ge_par (b :: c :: (n1 ++ [z])) p != ge_par (b :: z :: (n2 ++ [a])) p) := by
  have h1 : ge_par (b :: c :: ((n1 ++ z :: n2) ++ [a])) p = (ge_pp (b :: c :: (n1 ++ [z])) p != ge_pp (z :: (n2 ++ [a, b])) p) := by
    show ge_pp (b :: (c :: ((n1 ++ z :: n2) ++ [a])) ++ [b]) p = _
    rw [show b :: (c :: ((n1 ++ z :: n2) ++ [a])) ++ [b] = (b :: c :: n1) ++ z :: (n2 ++ [a, b]) by simp, ge_pp_app]
    rfl
  have h2 : ge_par (b :: c :: (n1 ++ [z])) p = (ge_pp (b :: c :: (n1 ++ [z])) p != ge_cs z b p) := by
    show ge_pp (b :: (c :: (n1 ++ [z])) ++ [b]) p = _
    rw [show b :: (c :: (n1 ++ [z])) ++ [b] = (b :: c :: n1) ++ z :: [b] by simp, ge_pp_app]
    show (ge_pp (b :: c :: (n1 ++ [z])) p != (ge_cs z b p != false)) = _
    cases ge_cs z b p <;> cases ge_pp (b :: c :: (n1 ++ [z])) p <;> rfl
  have h3 : ge_par (b :: z :: (n2 ++ [a])) p = (ge_cs b z p != ge_pp (z :: (n2 ++ [a, b])) p) := by
    show ge_pp (b :: (z :: (n2 ++ [a])) ++ [b]) p = _
    rw [show b :: (z :: (n2 ++ [a])) ++ [b] = b :: z :: (n2 ++ [a, b]) by simp]
    rfl
  rw [h1, h2, h3, ge_cs_comm z b]
  cases ge_cs b z p <;> cases ge_pp (b :: c :: (n1 ++ [z])) p <;> cases ge_pp (z :: (n2 ++ [a, b])) p <;> rfl
/-- higher than z the paths count nothing -/
theorem ge_B_L (H : ge_B a b c z n1 n2) {p : GPt} (hp : ge_in a b c p) (hp3 : ge_o c a z < ge_o c a p) {x y : GPt} {m : List GPt} (hsub : ∀ e ∈ ge_ed (x :: (m ++ [y])), e ∈ ge_ed (c :: ((n1 ++ z :: n2) ++ [a]))) (hin : ∀ w ∈ x :: (m ++ [y]), w ∈ c :: ((n1 ++ z :: n2) ++ [a])) (hx : ge_o c a x ≤ ge_o c a z) (hy : ge_o c a y ≤ ge_o c a z) : ge_par (x :: (m ++ [y])) p = false := by
  have hb := ge_B_b H
  rw [← ge_par_low (b := b) (l := x :: (m ++ [y])) (fun v hv => H.2.2.1 v (hin v hv))]
  refine ge_par_mv (fun e he => ?_)
  rw [ge_E_cut] at he
  rcases List.mem_append.mp he with q | q
  · exact ge_B_free H (hsub e q) hp hp3 hb.1 hb.2
  · rw [List.mem_singleton.mp q]
    exact ge_low_free hy hx hp3 hb.2
theorem ge_B_0 (H : ge_B a b c z n1 n2) : ge_o c a c ≤ ge_o c a z ∧ ge_o c a a ≤ ge_o c a z := by
  have h3 := (ge_B_num H).2.2.1
  have e1 : ge_o c a c = 0 := by unfold ge_o; grind
  have e2 : ge_o c a a = 0 := by unfold ge_o; grind
  omega
theorem ge_B_L0 (H : ge_B a b c z n1 n2) {p : GPt} (hp : ge_in a b c p) (hp3 : ge_o c a z < ge_o c a p) : ge_par (c :: ((n1 ++ z :: n2) ++ [a])) p = false :=
  ge_B_L H hp hp3 (fun _ h => h) (fun _ h => h) (ge_B_0 H).1 (ge_B_0 H).2
theorem ge_B_L1 (H : ge_B a b c z n1 n2) {p : GPt} (hp : ge_in a b c p) (hp3 : ge_o c a z < ge_o c a p) : ge_par (c :: (n1 ++ [z])) p = false :=
  ge_B_L H hp hp3 (fun e h => by rw [ge_B_ed]; exact List.mem_append_left _ h) (fun w h => by simp at h ⊢; grind) (ge_B_0 H).1 (Int.le_refl _)
theorem ge_B_L2 (H : ge_B a b c z n1 n2) {p : GPt} (hp : ge_in a b c p) (hp3 : ge_o c a z < ge_o c a p) : ge_par (z :: (n2 ++ [a])) p = false :=
  ge_B_L H hp hp3 (fun e h => by rw [ge_B_ed]; exact List.mem_append_right _ h) (fun w h => by simp at h ⊢; grind) (Int.le_refl _) (ge_B_0 H).2
/-- the path to z keeps off ab, the path from z off bc -/
theorem ge_B_ab (H : ge_B a b c z n1 n2) {e : GPt × GPt} (he : e ∈ ge_ed (c :: (n1 ++ [z]))) : ¬ ge_meet e.1 e.2 a b := by
  obtain ⟨h1, h2, h3, h4⟩ := ge_B_nd H
  have me := ge_ed_mem _ e he
  have nn : ∀ w ∈ c :: (n1 ++ [z]), w ≠ a ∧ w ≠ b := fun w hw => by
    refine ⟨fun q => ?_, fun q => h1 ?_⟩
    · rw [show c :: (n1 ++ [z]) = (c :: n1) ++ [z] by simp] at hw
      rcases List.mem_append.mp hw with r | r
      · exact h4 w r a (by simp) q
      · have : z = a := by rw [← q, List.mem_singleton.mp r]
        exact (List.nodup_cons.mp h3).1 (by rw [this]; simp)
    · rw [← q]; simp at hw ⊢; grind
  refine ge_disj H.2.1 (Or.inl ?_) (Or.inl ?_) (nn _ me.1).1 (nn _ me.1).2 (nn _ me.2).1 (nn _ me.2).2
  · rw [ge_E_ear, ge_B_ed]
    exact List.mem_cons_of_mem _ (List.mem_append_left _ (List.mem_append_left _ he))
  · rw [ge_E_ear]; simp
theorem ge_B_bc (H : ge_B a b c z n1 n2) {e : GPt × GPt} (he : e ∈ ge_ed (z :: (n2 ++ [a]))) : ¬ ge_meet e.1 e.2 b c := by
  obtain ⟨h1, h2, h3, h4⟩ := ge_B_nd H
  have me := ge_ed_mem _ e he
  have nn : ∀ w ∈ z :: (n2 ++ [a]), w ≠ b ∧ w ≠ c := fun w hw => by
    refine ⟨fun q => h1 ?_, fun q => h4 c List.mem_cons_self w hw q.symm⟩
    rw [← q]; simp at hw ⊢; grind
  refine ge_disj H.2.1 (Or.inl ?_) (Or.inl ?_) (nn _ me.1).1 (nn _ me.1).2 (nn _ me.2).1 (nn _ me.2).2
  · rw [ge_E_ear, ge_B_ed]
    exact List.mem_cons_of_mem _ (List.mem_append_left _ (List.mem_append_right _ he))
  · rw [ge_E_ear]; simp
theorem ge_false_of {x : Bool} {P : Prop} (h : x = true ↔ P) (n : ¬ P) : x = false := by
  cases x with
  | false => rfl
  | true => exact absurd (h.mp rfl) n
/-- beside ab, near b, the part to c counts nothing -/
theorem ge_B_C1a (H : ge_B a b c z n1 n2) : ge_par (b :: c :: (n1 ++ [z])) a = false := by
  obtain ⟨z1, z2, z3, z4⟩ := ge_B_num H
  obtain ⟨F, hFe⟩ : ∃ F, F = ge_o a b c := ⟨_, rfl⟩
  have hF : 0 < F := by rw [hFe]; exact H.1
  obtain ⟨M, hM⟩ : ∃ M, M = F + 1 := ⟨_, rfl⟩
  have hM0 : 0 < M := by omega
  obtain ⟨p, hp⟩ : ∃ p : GPt, p = (F * b.1 + a.1, F * b.2 + a.2) := ⟨_, rfl⟩
  have f : ∀ u v : GPt, ge_o (ge_s M u) (ge_s M v) p = M * (F * ge_o u v b + ge_o u v a) := fun u v => by
    rw [hp, hM]; unfold ge_s ge_o; grind
  have HS := ge_B_s hM0 H
  have zz : ∀ u v : GPt, ge_o u v u = 0 ∧ ge_o u v v = 0 := fun u v => ⟨by unfold ge_o; grind, by unfold ge_o; grind⟩
  have e3 : ge_o c a b = F := by rw [hFe, ge_o_cyc, ge_o_cyc]
  have e2 : ge_o b c a = F := by rw [hFe, ge_o_cyc]
  have p1 : ge_o (ge_s M a) (ge_s M b) p = 0 := by rw [f, (zz a b).2, (zz a b).1]; omega
  have p2 : ge_o (ge_s M b) (ge_s M c) p = M * F := by rw [f, (zz b c).1, e2]; simp
  have p3 : ge_o (ge_s M c) (ge_s M a) p = M * (F * F) := by rw [f, (zz c a).2, e3]; simp
  have mf : 0 < M * F := Int.mul_pos hM0 hF
  have mff : 0 < M * (F * F) := Int.mul_pos hM0 (Int.mul_pos hF hF)
  have pin : ge_in (ge_s M a) (ge_s M b) (ge_s M c) p := ⟨by omega, by omega, by omega⟩
  have hh : ge_o c a z ≤ F - 1 := by omega
  have h3 : ge_o (ge_s M c) (ge_s M a) (ge_s M z) < ge_o (ge_s M c) (ge_s M a) p := by
    rw [ge_o_s, p3, Int.mul_assoc]
    refine (ge_sg_lt hM0).mpr ?_
    have : M * ge_o c a z ≤ M * (F - 1) := (ge_sg_le hM0).mpr hh
    have : M * (F - 1) = F * F - 1 := by rw [hM]; grind
    omega
  have a1 : ge_o z b a = -ge_o a b z := by unfold ge_o; grind
  have a2 : ge_o c z b = ge_o b c z := by unfold ge_o; grind
  have a3 : ge_o c z a = -ge_o c a z := by unfold ge_o; grind
  have q1 : ge_o (ge_s M z) (ge_s M b) p = M * -ge_o a b z := by rw [f, (zz z b).2, a1]; simp
  have q1n : ge_o (ge_s M z) (ge_s M b) p < 0 := by
    rw [q1, Int.mul_neg]
    have := Int.mul_pos hM0 z1
    omega
  have q3 : 0 < ge_o (ge_s M c) (ge_s M z) p := by
    rw [f, a2, a3]
    refine Int.mul_pos hM0 ?_
    have : F * 1 ≤ F * ge_o b c z := (ge_sg_le hF).mpr (by omega)
    omega
  have t0 : ge_tp (ge_s M z) (ge_s M b) (ge_s M c) p = false := by
    refine ge_false_of (ge_tri ?_ (fun q => ?_) (fun q => ?_) (fun q => ?_)) (fun q => ?_)
    · rw [ge_o_s]
      have : ge_o z b c = ge_o b c z := by unfold ge_o; grind
      rw [this]
      exact Int.mul_pos (ge_mm hM0) z2
    · have := q.1; omega
    · have := q.1; omega
    · have := q.1; omega
    · have := q.1; omega
  have s0 : ge_par (ge_s M b :: ge_s M c :: (ge_S M n1 ++ [ge_s M z])) p = false := by
    rw [ge_par_ear, t0, ge_B_L1 HS pin h3]; rfl
  have s1 : ge_par (ge_s M b :: ge_s M c :: (ge_S M n1 ++ [ge_s M z])) p = ge_par (ge_s M b :: ge_s M c :: (ge_S M n1 ++ [ge_s M z])) (ge_s M a) := by
    refine ge_par_mv (fun e he => ?_)
    rw [ge_E_ear] at he
    have hab : ge_s M a ≠ ge_s M b := fun q => (ge_B_nd H).1 (by rw [← ge_s_inj hM0 q]; simp)
    rcases List.mem_cons.mp he with r | r
    · rw [r]
      exact ge_free_line (u := ge_s M b) (v := ge_s M c) (by omega) (by rw [ge_o_s, e2]; exact Int.mul_pos (ge_mm hM0) hF)
    · rcases List.mem_append.mp r with r | r
      · intro q
        refine ge_B_ab HS r (ge_meet_part ?_ hab ?_ (ge_on_l _ _) q)
        · refine ge_ed_ne _ ?_ e r
          have nd := ge_B_nd HS
          rw [show ge_s M c :: (ge_S M n1 ++ [ge_s M z]) = (ge_s M c :: ge_S M n1) ++ [ge_s M z] by simp]
          exact List.nodup_append.mpr ⟨nd.2.1, by simp, fun x hx y hy => nd.2.2.2 x hx y (by rw [List.mem_singleton.mp hy]; exact List.mem_cons_self)⟩
        · refine ge_wt_on (i := 1) (j := F) ⟨by decide, by omega, by omega, ?_, ?_⟩
          · rw [hp]; unfold ge_s; grind
          · rw [hp]; unfold ge_s; grind
      · rw [List.mem_singleton.mp r]
        intro q
        refine ge_free_line (u := ge_s M b) (v := ge_s M z) ?_ ?_ (ge_meet_flip q)
        · rw [ge_o_swap]; omega
        · rw [ge_o_swap, ge_o_s, a1]
          have := Int.mul_pos (ge_mm hM0) z1
          rw [Int.mul_neg]; omega
  rw [s0] at s1
  rw [← ge_par_s hM0, ge_S_ear]
  exact s1.symm
theorem ge_B_C2c (H : ge_B a b c z n1 n2) : ge_par (b :: z :: (n2 ++ [a])) c = false := by
  obtain ⟨z1, z2, z3, z4⟩ := ge_B_num H
  obtain ⟨F, hFe⟩ : ∃ F, F = ge_o a b c := ⟨_, rfl⟩
  have hF : 0 < F := by rw [hFe]; exact H.1
  obtain ⟨M, hM⟩ : ∃ M, M = F + 1 := ⟨_, rfl⟩
  have hM0 : 0 < M := by omega
  obtain ⟨p, hp⟩ : ∃ p : GPt, p = (F * b.1 + c.1, F * b.2 + c.2) := ⟨_, rfl⟩
  have f : ∀ u v : GPt, ge_o (ge_s M u) (ge_s M v) p = M * (F * ge_o u v b + ge_o u v c) := fun u v => by
    rw [hp, hM]; unfold ge_s ge_o; grind
  have HS := ge_B_s hM0 H
  have zz : ∀ u v : GPt, ge_o u v u = 0 ∧ ge_o u v v = 0 := fun u v => ⟨by unfold ge_o; grind, by unfold ge_o; grind⟩
  have e3 : ge_o c a b = F := by rw [hFe, ge_o_cyc, ge_o_cyc]
  have p1 : ge_o (ge_s M a) (ge_s M b) p = M * F := by rw [f, (zz a b).2, ← hFe]; simp
  have p2 : ge_o (ge_s M b) (ge_s M c) p = 0 := by rw [f, (zz b c).1, (zz b c).2]; omega
  have p3 : ge_o (ge_s M c) (ge_s M a) p = M * (F * F) := by rw [f, (zz c a).1, e3]; simp
  have mf : 0 < M * F := Int.mul_pos hM0 hF
  have mff : 0 < M * (F * F) := Int.mul_pos hM0 (Int.mul_pos hF hF)
  have pin : ge_in (ge_s M a) (ge_s M b) (ge_s M c) p := ⟨by omega, by omega, by omega⟩
  have hh : ge_o c a z ≤ F - 1 := by omega
  have h3 : ge_o (ge_s M c) (ge_s M a) (ge_s M z) < ge_o (ge_s M c) (ge_s M a) p := by
    rw [ge_o_s, p3, Int.mul_assoc]
    refine (ge_sg_lt hM0).mpr ?_
    have : M * ge_o c a z ≤ M * (F - 1) := (ge_sg_le hM0).mpr hh
    have : M * (F - 1) = F * F - 1 := by rw [hM]; grind
    omega
  have a1 : ge_o b z c = -ge_o b c z := by unfold ge_o; grind
  have a2 : ge_o z a b = ge_o a b z := by unfold ge_o; grind
  have a3 : ge_o z a c = -ge_o c a z := by unfold ge_o; grind
  have q1 : ge_o (ge_s M b) (ge_s M z) p = M * -ge_o b c z := by rw [f, (zz b z).1, a1]; simp
  have q1n : ge_o (ge_s M b) (ge_s M z) p < 0 := by
    rw [q1, Int.mul_neg]
    have := Int.mul_pos hM0 z2
    omega
  have q3 : 0 < ge_o (ge_s M z) (ge_s M a) p := by
    rw [f, a2, a3]
    refine Int.mul_pos hM0 ?_
    have : F * 1 ≤ F * ge_o a b z := (ge_sg_le hF).mpr (by omega)
    omega
  have t0 : ge_tp (ge_s M a) (ge_s M b) (ge_s M z) p = false := by
    refine ge_false_of (ge_tri ?_ (fun q => ?_) (fun q => ?_) (fun q => ?_)) (fun q => ?_)
    · rw [ge_o_s]
      exact Int.mul_pos (ge_mm hM0) z1
    · have := q.1; omega
    · have := q.1; omega
    · have := q.1; omega
    · have := q.2.1; omega
  have s0 : ge_par (ge_s M b :: ge_s M z :: (ge_S M n2 ++ [ge_s M a])) p = false := by
    rw [ge_par_ear, t0, ge_B_L2 HS pin h3]; rfl
  have s1 : ge_par (ge_s M b :: ge_s M z :: (ge_S M n2 ++ [ge_s M a])) p = ge_par (ge_s M b :: ge_s M z :: (ge_S M n2 ++ [ge_s M a])) (ge_s M c) := by
    refine ge_par_mv (fun e he => ?_)
    rw [ge_E_ear] at he
    have hbc : ge_s M b ≠ ge_s M c := fun q => (ge_B_nd H).1 (by rw [ge_s_inj hM0 q]; simp)
    rcases List.mem_cons.mp he with r | r
    · rw [r]
      intro q
      refine ge_free_line (u := ge_s M z) (v := ge_s M b) ?_ ?_ (ge_meet_flip q)
      · rw [ge_o_swap]; omega
      · rw [ge_o_swap, ge_o_s, a1]
        have := Int.mul_pos (ge_mm hM0) z2
        rw [Int.mul_neg]; omega
    · rcases List.mem_append.mp r with r | r
      · intro q
        refine ge_B_bc HS r (ge_meet_part ?_ hbc ?_ (ge_on_r _ _) q)
        · exact ge_ed_ne _ (ge_B_nd HS).2.2.1 e r
        · refine ge_wt_on (i := F) (j := 1) ⟨by omega, by decide, by omega, ?_, ?_⟩
          · rw [hp]; unfold ge_s; grind
          · rw [hp]; unfold ge_s; grind
      · rw [List.mem_singleton.mp r]
        exact ge_free_line (u := ge_s M a) (v := ge_s M b) (by omega) (by rw [ge_o_s, ← hFe]; exact Int.mul_pos (ge_mm hM0) hF)
  rw [s0] at s1
  rw [← ge_par_s hM0, ge_S_ear]
  exact s1.symm
end CaseB
-- h6.main
/-! every simple polygon has, for each edge, a good ear that isn't one of its ends -/
section CaseB
variable {a b c z : GPt} {n1 n2 : List GPt}
theorem ge_B_adj1 {u v : GPt} (h : ge_adj (b :: c :: (n1 ++ [z])) u v) : ge_adj (b :: c :: ((n1 ++ z :: n2) ++ [a])) u v ∨ (u = b ∧ v = z) ∨ (u = z ∧ v = b) := by
  rcases h with h | h
  · rcases ge_B_E1 (a := a) (n2 := n2) h with q | q
    · exact Or.inl (Or.inl q)
    · exact Or.inr (Or.inr (Prod.mk.inj q))
  · rcases ge_B_E1 (a := a) (n2 := n2) h with q | q
    · exact Or.inl (Or.inr q)
    · exact Or.inr (Or.inl (Prod.mk.inj q).symm)
theorem ge_B_adj2 {u v : GPt} (h : ge_adj (b :: z :: (n2 ++ [a])) u v) : ge_adj (b :: c :: ((n1 ++ z :: n2) ++ [a])) u v ∨ (u = b ∧ v = z) ∨ (u = z ∧ v = b) := by
  rcases h with h | h
  · rcases ge_B_E2 (c := c) (n1 := n1) h with q | q
    · exact Or.inl (Or.inl q)
    · exact Or.inr (Or.inl (Prod.mk.inj q))
  · rcases ge_B_E2 (c := c) (n1 := n1) h with q | q
    · exact Or.inl (Or.inr q)
    · exact Or.inr (Or.inr (Prod.mk.inj q).symm)
theorem ge_B_adjl {u v : GPt} (h : ge_adj (b :: c :: ((n1 ++ z :: n2) ++ [a])) u v) : ge_adj (b :: c :: (n1 ++ [z])) u v ∨ ge_adj (b :: z :: (n2 ++ [a])) u v := by
  rcases h with h | h
  · exact (ge_B_El h).imp Or.inl Or.inl
  · exact (ge_B_El h).imp Or.inr Or.inr
theorem ge_B_sub1 : ∀ w ∈ b :: c :: (n1 ++ [z]), w ∈ b :: c :: ((n1 ++ z :: n2) ++ [a]) := fun w h => by simp at h ⊢; grind
theorem ge_B_sub2 : ∀ w ∈ b :: z :: (n2 ++ [a]), w ∈ b :: c :: ((n1 ++ z :: n2) ++ [a]) := fun w h => by simp at h ⊢; grind
theorem ge_B_nd1 (H : ge_B a b c z n1 n2) : (b :: c :: (n1 ++ [z])).Nodup := by
  have nd := ge_B_nd H
  refine List.nodup_cons.mpr ⟨fun q => nd.1 (by simp at q ⊢; grind), ?_⟩
  rw [show c :: (n1 ++ [z]) = (c :: n1) ++ [z] by simp]
  exact List.nodup_append.mpr ⟨nd.2.1, by simp, fun x hx y hy => nd.2.2.2 x hx y (by rw [List.mem_singleton.mp hy]; exact List.mem_cons_self)⟩
theorem ge_B_nd2 (H : ge_B a b c z n1 n2) : (b :: z :: (n2 ++ [a])).Nodup := by
  have nd := ge_B_nd H
  exact List.nodup_cons.mpr ⟨fun q => nd.1 (by simp at q ⊢; grind), nd.2.2.1⟩
theorem ge_B_s1 (H : ge_B a b c z n1 n2) : ge_simple (b :: c :: (n1 ++ [z])) := ge_part_simple (b := b) (z := z) H.2.1 (ge_B_nd1 H) ge_B_sub1 (fun _ _ h => ge_B_adj1 h) (fun _ hw ho => ge_B_V H hw ho) (fun _ _ h => ge_B_X H h)
theorem ge_B_s2 (H : ge_B a b c z n1 n2) : ge_simple (b :: z :: (n2 ++ [a])) := ge_part_simple (b := b) (z := z) H.2.1 (ge_B_nd2 H) ge_B_sub2 (fun _ _ h => ge_B_adj2 h) (fun _ hw ho => ge_B_V H hw ho) (fun _ _ h => ge_B_X H h)
/-- an edge of the polygon whose ends aren't in a part doesn't meet the part's edges -/
theorem ge_B_far (H : ge_B a b c z n1 n2) {u v x y : GPt} (h : ge_adj (b :: c :: ((n1 ++ z :: n2) ++ [a])) u v) (g : ge_adj (b :: c :: ((n1 ++ z :: n2) ++ [a])) x y ∨ (x = b ∧ y = z) ∨ (x = z ∧ y = b)) (n1' : u ≠ x) (n2' : u ≠ y) (n3 : v ≠ x) (n4 : v ≠ y) : ¬ ge_meet x y u v := by
  have mu := ge_adj_mem h
  have bz : (u ≠ b ∧ u ≠ z ∧ v ≠ b ∧ v ≠ z) → ¬ ge_meet b z u v := fun ⟨q1, q2, q3, q4⟩ m => by
    rcases m with m | m | m | m | m
    · exact (ge_B_V H mu.1 m).elim q1 q2
    · exact (ge_B_V H mu.2 m).elim q3 q4
    · rcases ge_adj_V H.2.1 List.mem_cons_self h m with r | r
      · exact q1 r.symm
      · exact q3 r.symm
    · rcases ge_adj_V H.2.1 (by simp) h m with r | r
      · exact q2 r.symm
      · exact q4 r.symm
    · exact ge_B_X H h (ge_x_symm m)
  rcases g with g | ⟨g1, g2⟩ | ⟨g1, g2⟩
  · exact fun m => ge_disj H.2.1 h g n1' n2' n3 n4 (ge_meet_symm m)
  · subst g1; subst g2
    exact bz ⟨n1', n2', n3, n4⟩
  · subst g1; subst g2
    exact fun m => bz ⟨n2', n1', n4, n3⟩ (ge_meet_flip m)
theorem ge_B_sep (H : ge_B a b c z n1 n2) {w : GPt} (h1 : w ∈ b :: c :: (n1 ++ [z])) (h2 : w ∈ b :: z :: (n2 ++ [a])) : w = b ∨ w = z := by
  have nd := ge_B_nd H
  rcases List.mem_cons.mp h2 with q | q
  · exact Or.inl q
  · rcases List.mem_cons.mp h1 with r | r
    · exact Or.inl r
    · rw [show c :: (n1 ++ [z]) = (c :: n1) ++ [z] by simp] at r
      rcases List.mem_append.mp r with r | r
      · exact absurd rfl (nd.2.2.2 w r w q)
      · exact Or.inr (List.mem_singleton.mp r)
theorem ge_B_C1 (H : ge_B a b c z n1 n2) : ∀ w ∈ b :: z :: (n2 ++ [a]), w ≠ b → w ≠ z → ge_par (b :: c :: (n1 ++ [z])) w = false := by
  intro w hw wb wz
  have nd := ge_B_nd H
  have hw' : w ∈ n2 ++ [a] := by simp at hw ⊢; grind
  rw [← ge_B_C1a H]
  refine ge_chain2 (fun p => ge_par (b :: c :: (n1 ++ [z])) p) n2 a (fun e he => ?_) w hw'
  have me := ge_ed_mem _ e he
  have out : ∀ v ∈ n2 ++ [a], v ∉ b :: c :: (n1 ++ [z]) := fun v hv q => by
    rcases ge_B_sep H q (List.mem_cons_of_mem _ (List.mem_cons_of_mem _ hv)) with r | r
    · exact nd.1 (by rw [← r]; simp at hv ⊢; grind)
    · exact (List.nodup_cons.mp nd.2.2.1).1 (by rw [← r]; exact hv)
  have hadj : ge_adj (b :: c :: ((n1 ++ z :: n2) ++ [a])) e.1 e.2 := Or.inl (by
    rw [ge_E_ear, ge_B_ed]
    exact List.mem_cons_of_mem _ (List.mem_append_left _ (List.mem_append_right _ (ge_ed_tl he))))
  refine ge_par_mv (fun g hg => ?_)
  have mg := ge_E_mem hg
  exact ge_B_far H hadj (ge_B_adj1 (Or.inl hg)) (fun q => out _ me.1 (by rw [q]; exact mg.1)) (fun q => out _ me.1 (by rw [q]; exact mg.2)) (fun q => out _ me.2 (by rw [q]; exact mg.1)) (fun q => out _ me.2 (by rw [q]; exact mg.2))
theorem ge_B_C2 (H : ge_B a b c z n1 n2) : ∀ w ∈ b :: c :: (n1 ++ [z]), w ≠ b → w ≠ z → ge_par (b :: z :: (n2 ++ [a])) w = false := by
  intro w hw wb wz
  have nd := ge_B_nd H
  have hw' : w ∈ c :: n1 := by simp at hw ⊢; grind
  rw [← ge_B_C2c H]
  refine ge_chain1 (fun p => ge_par (b :: z :: (n2 ++ [a])) p) n1 c (fun e he => ?_) w hw'
  have me := ge_ed_mem _ e he
  have out : ∀ v ∈ c :: n1, v ∉ b :: z :: (n2 ++ [a]) := fun v hv q => by
    rcases List.mem_cons.mp q with r | r
    · exact nd.1 (by rw [← r]; simp at hv ⊢; grind)
    · exact nd.2.2.2 v hv v r rfl
  have hadj : ge_adj (b :: c :: ((n1 ++ z :: n2) ++ [a])) e.1 e.2 := Or.inl (by
    rw [ge_E_ear, ge_B_ed]
    exact List.mem_cons_of_mem _ (List.mem_append_left _ (List.mem_append_left _ (ge_ed_pre (l := c :: n1) [z] he))))
  refine ge_par_mv (fun g hg => ?_)
  have mg := ge_E_mem hg
  exact ge_B_far H hadj (ge_B_adj2 (Or.inl hg)) (fun q => out _ me.1 (by rw [q]; exact mg.1)) (fun q => out _ me.1 (by rw [q]; exact mg.2)) (fun q => out _ me.2 (by rw [q]; exact mg.1)) (fun q => out _ me.2 (by rw [q]; exact mg.2))
theorem ge_ed_start : ∀ (x : GPt) (m : List GPt) (y : GPt), ∃ v : GPt, (x, v) ∈ ge_ed (x :: (m ++ [y]))
  | x, [], y => ⟨y, List.mem_cons_self⟩
  | x, v :: m, y => ⟨v, List.mem_cons_self⟩
theorem ge_B_C3' (H : ge_B a b c z n1 n2) {p : GPt} (hp : ge_on b z p) (ho : ge_off (b :: c :: ((n1 ++ z :: n2) ++ [a])) p) : ge_par (b :: c :: ((n1 ++ z :: n2) ++ [a])) p = true := by
  obtain ⟨z1, z2, z3, z4⟩ := ge_B_num H
  obtain ⟨i, j, w⟩ := ge_on_wt (ge_B_ne H) hp
  have hi : i ≠ 0 := fun q => by
    subst q
    have := ge_wt_0 (ge_wt_swap w)
    subst this
    obtain ⟨v, hv⟩ := ge_ed_start p n2 a
    exact ho (p, v) (by rw [ge_E_ear, ge_B_ed]; exact List.mem_cons_of_mem _ (List.mem_append_left _ (List.mem_append_right _ hv))) (ge_on_l _ _)
  have hj : j ≠ 0 := fun q => by
    subst q
    have := ge_wt_0 w
    subst this
    exact ho (p, c) (by rw [ge_E_ear]; exact List.mem_cons_self) (ge_on_l _ _)
  have hi' : 0 < i := by have := w.1; omega
  have hj' : 0 < j := by have := w.2.1; omega
  have g := ge_B_bz H w hi'
  have e1 := ge_wt_o w a b
  have e2 := ge_wt_o w b c
  have zz1 : ge_o a b b = 0 := by unfold ge_o; grind
  have zz2 : ge_o b c b = 0 := by unfold ge_o; grind
  rw [zz1, Int.mul_zero] at e1
  rw [zz2, Int.mul_zero] at e2
  have k1 : 0 < ge_o a b p := ge_pos w.2.2.1 (by have := Int.mul_pos hj' z1; omega)
  have k2 : 0 < ge_o b c p := ge_pos w.2.2.1 (by have := Int.mul_pos hj' z2; omega)
  have k3 : 0 < ge_o c a p := by omega
  rw [ge_par_ear, ge_B_L0 H g.1 g.2, (ge_tri H.1 (fun q => by have := q.1; omega) (fun q => by have := q.1; omega) (fun q => by have := q.1; omega)).mpr ⟨k1, k2, k3⟩]
  rfl
theorem ge_B_C3 (H : ge_B a b c z n1 n2) (k : Int) (p : GPt) (hk : 0 < k) (hp : ge_on (ge_s k b) (ge_s k z) p) (ho : ge_off (ge_S k (b :: c :: ((n1 ++ z :: n2) ++ [a]))) p) : ge_par (ge_S k (b :: c :: ((n1 ++ z :: n2) ++ [a]))) p = true := by
  rw [ge_B_S] at ho ⊢
  exact ge_B_C3' (ge_B_s hk H) hp ho
theorem ge_B_parts1 (H : ge_B a b c z n1 n2) : ge_parts (b :: c :: ((n1 ++ z :: n2) ++ [a])) (b :: c :: (n1 ++ [z])) (b :: z :: (n2 ++ [a])) b z := by
  refine ⟨fun _ _ h => ge_B_adj1 h, fun _ _ h => ge_B_adj2 h, fun w hw => by simp at hw ⊢; grind, ge_B_sub1, ge_B_sub2, fun w h1 h2 => ge_B_sep H h1 h2, by simp, by simp, ge_B_ne H, fun k p => ?_, ge_B_C1 H, ge_B_C2 H, ge_B_C3 H, fun w hw ho => ge_B_V H hw ho, fun u v h => ge_B_X H h, H.2.1⟩
  rw [ge_B_S, ge_S_ear, ge_S_ear]
  exact ge_B_par p
theorem ge_B_parts2 (H : ge_B a b c z n1 n2) : ge_parts (b :: c :: ((n1 ++ z :: n2) ++ [a])) (b :: z :: (n2 ++ [a])) (b :: c :: (n1 ++ [z])) b z := by
  refine ⟨fun _ _ h => ge_B_adj2 h, fun _ _ h => ge_B_adj1 h, fun w hw => by simp at hw ⊢; grind, ge_B_sub2, ge_B_sub1, fun w h1 h2 => ge_B_sep H h2 h1, by simp, by simp, ge_B_ne H, fun k p => ?_, ge_B_C2 H, ge_B_C1 H, ge_B_C3 H, fun w hw ho => ge_B_V H hw ho, fun u v h => ge_B_X H h, H.2.1⟩
  rw [ge_B_S, ge_S_ear, ge_S_ear, ge_B_par p]
  cases ge_par (ge_s k b :: ge_s k c :: (ge_S k n1 ++ [ge_s k z])) p <;> cases ge_par (ge_s k b :: ge_s k z :: (ge_S k n2 ++ [ge_s k a])) p <;> rfl
theorem ge_E_ne {l : List GPt} (hn : l.Nodup) (h2 : 2 ≤ l.length) : ∀ e ∈ ge_E l, e.1 ≠ e.2 := by
  intro e he
  match l, hn, h2 with
  | u :: v :: r, hn, _ =>
    have h : e ∈ ge_ed (u :: v :: (r ++ [u])) := he
    rcases List.mem_cons.mp h with q | q
    · rw [q]
      intro z
      have z : u = v := z
      exact (List.nodup_cons.mp hn).1 (by rw [z]; exact List.mem_cons_self)
    · refine ge_ed_ne (v :: (r ++ [u])) ?_ e q
      rw [show v :: (r ++ [u]) = (v :: r) ++ [u] by simp]
      obtain ⟨h1, h2⟩ := List.nodup_cons.mp hn
      exact List.nodup_append.mpr ⟨h2, by simp, fun x hx y hy z => h1 (by rw [← List.mem_singleton.mp hy, ← z]; exact hx)⟩
theorem ge_adj_ne {l : List GPt} (hn : l.Nodup) (h2 : 2 ≤ l.length) : ∀ u v : GPt, ge_adj l u v → u ≠ v := by
  intro u v h
  rcases h with h | h
  · exact ge_E_ne hn h2 _ h
  · exact (ge_E_ne hn h2 _ h).symm
theorem ge_PE_B (H : ge_B a b c z n1 n2) (i1 : ge_PE (b :: c :: (n1 ++ [z]))) (i2 : ge_PE (b :: z :: (n2 ++ [a]))) : ge_PE (b :: c :: ((n1 ++ z :: n2) ++ [a])) := by
  have ne := ge_adj_ne H.2.1.1 (by simp)
  intro u v huv
  rcases ge_B_adjl huv with q | q
  · obtain ⟨x, e, y, h1, h2, h3, h4, h5, h6, h7⟩ := i2 b z (Or.inl (by rw [ge_E_ear]; exact List.mem_cons_self))
    obtain ⟨j1, j2, j3⟩ := ge_join (ge_B_parts2 H) ne h1 h2 h4 h5 h6 h7
    have mq := ge_adj_mem q
    have me := (ge_adj_mem h1).2
    exact ⟨x, e, y, j1, j2, h3, fun r => (ge_B_sep H (r ▸ mq.1) me).elim h4 h5, fun r => (ge_B_sep H (r ▸ mq.2) me).elim h4 h5, h6, j3⟩
  · obtain ⟨x, e, y, h1, h2, h3, h4, h5, h6, h7⟩ := i1 b z (Or.inr (by rw [ge_E_ear]; simp))
    obtain ⟨j1, j2, j3⟩ := ge_join (ge_B_parts1 H) ne h1 h2 h4 h5 h6 h7
    have mq := ge_adj_mem q
    have me := (ge_adj_mem h1).2
    exact ⟨x, e, y, j1, j2, h3, fun r => (ge_B_sep H me (r ▸ mq.1)).elim h4 h5, fun r => (ge_B_sep H me (r ▸ mq.2)).elim h4 h5, h6, j3⟩
end CaseB
-- h7.ears
/-! every simple polygon has ears -/
theorem ge_low_tri (x b : GPt) : x = b ∨ ge_low b x ∨ ge_low x b := by
  unfold ge_low
  rcases Int.lt_trichotomy b.2 x.2 with h | h | h
  · exact Or.inr (Or.inl (Or.inl h))
  · rcases Int.lt_trichotomy b.1 x.1 with g | g | g
    · exact Or.inr (Or.inr (Or.inr ⟨h.symm, g⟩))
    · exact Or.inl (Prod.ext g.symm h.symm)
    · exact Or.inr (Or.inl (Or.inr ⟨h, g⟩))
  · exact Or.inr (Or.inr (Or.inl h))
theorem ge_low_trans {x b v : GPt} (h : ge_low x b) (g : ge_low b v) : ge_low x v := by
  unfold ge_low at *
  omega
theorem ge_lowest : ∀ (l : List GPt), l ≠ [] → ∃ b ∈ l, ∀ v ∈ l, v = b ∨ ge_low b v
  | [], h => absurd rfl h
  | [x], _ => ⟨x, List.mem_cons_self, fun v hv => Or.inl (List.mem_singleton.mp hv)⟩
  | x :: y :: l, _ => by
    obtain ⟨b, hb, h⟩ := ge_lowest (y :: l) (List.cons_ne_nil _ _)
    rcases ge_low_tri x b with q | q | q
    · refine ⟨b, List.mem_cons_of_mem _ hb, fun v hv => ?_⟩
      rcases List.mem_cons.mp hv with r | r
      · exact Or.inl (r.trans q)
      · exact h v r
    · refine ⟨b, List.mem_cons_of_mem _ hb, fun v hv => ?_⟩
      rcases List.mem_cons.mp hv with r | r
      · exact Or.inr (r ▸ q)
      · exact h v r
    · refine ⟨x, List.mem_cons_self, fun v hv => ?_⟩
      rcases List.mem_cons.mp hv with r | r
      · exact Or.inl r
      · rcases h v r with t | t
        · exact Or.inr (t ▸ q)
        · exact Or.inr (ge_low_trans q t)
/-- at the lowest corner, a flat one turns back -/
theorem ge_corner {a b c : GPt} (ha : ge_low b a) (hc : ge_low b c) (h0 : ge_o a b c = 0) : ge_on b c a ∨ ge_on b a c := by
  have e1 : ge_o b c a = 0 := by rw [ge_o_cyc]; exact h0
  have e2 : ge_o b a c = 0 := by rw [ge_o_swap, h0]; rfl
  rcases ha with ha | ⟨ha, ha'⟩
  · rcases hc with hc | ⟨hc, hc'⟩
    · rcases Int.le_total a.2 c.2 with q | q
      · exact Or.inl (ge_on_y e1 hc (by omega) q)
      · exact Or.inr (ge_on_y e2 ha (by omega) q)
    · exfalso
      have e : ge_o b c a = (c.1 - b.1) * (a.2 - b.2) := by unfold ge_o; rw [hc]; grind
      rw [e1] at e
      rcases Int.mul_eq_zero.mp e.symm with q | q <;> omega
  · have hc2 : b.2 = c.2 := by
      have e : ge_o b a c = (a.1 - b.1) * (c.2 - b.2) := by unfold ge_o; rw [ha]; grind
      rw [e2] at e
      rcases Int.mul_eq_zero.mp e.symm with q | q <;> omega
    have hc1 : c.1 < b.1 := by rcases hc with hc | ⟨_, hc⟩ <;> omega
    rcases Int.le_total a.1 c.1 with q | q
    · exact Or.inr (ge_on_symm (ge_on_x (by omega) (by omega) q (by omega)))
    · exact Or.inl (ge_on_symm (ge_on_x (by omega) (by omega) q (by omega)))
theorem ge_argmax (P : GPt → Prop) (f : GPt → Int) : ∀ m : List GPt, (∃ w ∈ m, P w) → ∃ z ∈ m, P z ∧ ∀ w ∈ m, P w → f w ≤ f z
  | [], ⟨_, h, _⟩ => nomatch h
  | x :: m, ⟨w, hw, pw⟩ => by
    by_cases hm : ∃ w ∈ m, P w
    · obtain ⟨z, hz, pz, mz⟩ := ge_argmax P f m hm
      by_cases hx : P x ∧ f z < f x
      · refine ⟨x, List.mem_cons_self, hx.1, fun v hv pv => ?_⟩
        rcases List.mem_cons.mp hv with r | r
        · rw [r]; exact Int.le_refl _
        · have := mz v r pv
          omega
      · refine ⟨z, List.mem_cons_of_mem _ hz, pz, fun v hv pv => ?_⟩
        rcases List.mem_cons.mp hv with r | r
        · subst r
          rcases Int.lt_or_le (f z) (f v) with q | q
          · exact absurd ⟨pv, q⟩ hx
          · exact q
        · exact mz v r pv
    · rcases List.mem_cons.mp hw with r | r
      · subst r
        refine ⟨w, List.mem_cons_self, pw, fun v hv pv => ?_⟩
        rcases List.mem_cons.mp hv with t | t
        · rw [t]; exact Int.le_refl _
        · exact absurd ⟨v, t, pv⟩ hm
      · exact absurd ⟨w, r, pw⟩ hm
theorem ge_tc_cyc {x e y w : GPt} (h : ge_tc x e y w) : ge_tc e y x w := by
  rcases h with h | h
  · exact Or.inl (ge_in_cyc h)
  · exact Or.inr (ge_in_cyc (ge_in_cyc h))
theorem ge_good_cyc {l : List GPt} {x e y : GPt} (h : ge_good l x e y) : ge_good l e y x :=
  ⟨fun w hw w1 w2 w3 q => h.1 w hw w3 w1 w2 (ge_tc_cyc (ge_tc_cyc q)), fun k hk p hp ho => h.2 k hk p (ge_tc_cyc (ge_tc_cyc hp)) ho⟩
theorem ge_PE_3 {a b c : GPt} (hF : 0 < ge_o a b c) (hs : ge_simple (b :: c :: ([] ++ [a]))) (hl : ∀ v ∈ c :: ([] ++ [a]), ge_low b v) : ge_PE (b :: c :: ([] ++ [a])) := by
  have g1 : ge_good (b :: c :: ([] ++ [a])) a b c := ge_goodA hF hs (fun w hw w1 w2 => by simp at hw; grind) hl
  have g2 := ge_good_cyc g1
  have g3 := ge_good_cyc g2
  have hn := hs.1
  have nbc : b ≠ c := by simp at hn; grind
  have nba : b ≠ a := by simp at hn; grind
  have nca : c ≠ a := by simp at hn; grind
  have hE : ∀ e : GPt × GPt, e ∈ ge_E (b :: c :: ([] ++ [a])) ↔ e = (b, c) ∨ e = (c, a) ∨ e = (a, b) := fun e => by
    rw [ge_E_ear]
    simp [ge_ed]
  have a1 : ge_adj (b :: c :: ([] ++ [a])) b c := Or.inl ((hE _).mpr (Or.inl rfl))
  have a2 : ge_adj (b :: c :: ([] ++ [a])) c a := Or.inl ((hE _).mpr (Or.inr (Or.inl rfl)))
  have a3 : ge_adj (b :: c :: ([] ++ [a])) a b := Or.inl ((hE _).mpr (Or.inr (Or.inr rfl)))
  have f2 : ge_o b c a = ge_o a b c := ge_o_cyc a b c
  have f3 : ge_o c a b = ge_o a b c := by rw [ge_o_cyc, ge_o_cyc]
  have key : ∀ u v : GPt, (u, v) ∈ ge_E (b :: c :: ([] ++ [a])) → ∃ x e y : GPt, ge_adj (b :: c :: ([] ++ [a])) x e ∧ ge_adj (b :: c :: ([] ++ [a])) e y ∧ x ≠ y ∧ e ≠ u ∧ e ≠ v ∧ ge_o x e y ≠ 0 ∧ ge_good (b :: c :: ([] ++ [a])) x e y := fun u v h => by
    rcases (hE _).mp h with q | q | q
    · obtain ⟨q1, q2⟩ := Prod.mk.inj q
      subst q1; subst q2
      exact ⟨v, a, u, a2, a3, nbc.symm, nba.symm, nca.symm, by omega, g3⟩
    · obtain ⟨q1, q2⟩ := Prod.mk.inj q
      subst q1; subst q2
      exact ⟨v, b, u, a3, a1, nca.symm, nbc, nba, by omega, g1⟩
    · obtain ⟨q1, q2⟩ := Prod.mk.inj q
      subst q1; subst q2
      exact ⟨v, c, u, a1, a2, nba, nca, nbc.symm, by omega, g2⟩
  intro u v h
  rcases h with h | h
  · exact key u v h
  · obtain ⟨x, e, y, h1, h2, h3, h4, h5, h6⟩ := key v u h
    exact ⟨x, e, y, h1, h2, h3, h5, h4, h6⟩
theorem ge_PE_pos {n : Nat} (ih : ∀ l : List GPt, l.length ≤ n → 3 ≤ l.length → ge_simple l → ge_PE l) {a b c : GPt} {mid : List GPt} (hlen : mid.length + 3 ≤ n + 1) (hF : 0 < ge_o a b c) (hs : ge_simple (b :: c :: (mid ++ [a]))) (hl : ∀ v ∈ c :: (mid ++ [a]), ge_low b v) : ge_PE (b :: c :: (mid ++ [a])) := by
  by_cases hm : mid = []
  · subst hm
    exact ge_PE_3 hF hs hl
  · have hm1 : 0 < mid.length := List.length_pos_iff.mpr hm
    by_cases he : ∀ w ∈ c :: (mid ++ [a]), w ≠ a → w ≠ c → ¬ ge_in a b c w
    · exact ge_PE_A hF hs he hl (ih _ (by simp; omega) (by simp; omega) (ge_cut_simple hF hs he))
    · have hex : ∃ w ∈ mid, ge_in a b c w := by
        refine Classical.byContradiction (fun q => he (fun w hw w1 w2 r => q ⟨w, ?_, r⟩))
        simp at hw; grind
      obtain ⟨z, hz, pz, mz⟩ := ge_argmax (ge_in a b c) (ge_o c a) mid hex
      obtain ⟨n1, n2, rfl⟩ := List.append_of_mem hz
      have H : ge_B a b c z n1 n2 := by
        refine ⟨hF, hs, hl, pz, fun w hw pw => ?_⟩
        have e1 : ge_o c a c = 0 := by unfold ge_o; grind
        have e2 : ge_o c a a = 0 := by unfold ge_o; grind
        rcases List.mem_cons.mp hw with r | r
        · rw [r, e1]; exact pz.2.2
        · rcases List.mem_append.mp r with r | r
          · exact mz w r pw
          · rw [List.mem_singleton.mp r, e2]; exact pz.2.2
      simp at hlen
      exact ge_PE_B H (ih _ (by simp; omega) (by simp) (ge_B_s1 H)) (ih _ (by simp; omega) (by simp) (ge_B_s2 H))
theorem ge_two {t : List GPt} (h : 2 ≤ t.length) : ∃ (c : GPt) (mid : List GPt) (a : GPt), t = c :: (mid ++ [a]) := by
  match t, h with
  | c :: u :: r, _ =>
    refine ⟨c, (u :: r).dropLast, (u :: r).getLast (List.cons_ne_nil _ _), ?_⟩
    rw [List.dropLast_concat_getLast]
theorem ge_ears_n : ∀ (n : Nat) (l : List GPt), l.length ≤ n → 3 ≤ l.length → ge_simple l → ge_PE l
  | 0, l, h1, h2, _ => by omega
  | n + 1, l, h1, h2, hs => by
    have ih := ge_ears_n n
    obtain ⟨b, hb, hlow⟩ := ge_lowest l (fun q => by rw [q] at h2; simp at h2)
    obtain ⟨s, r, rfl⟩ := List.append_of_mem hb
    have eq1 := ge_eqv_rot s (b :: r)
    have nd1 : (b :: r ++ s).Nodup := List.perm_append_comm.nodup_iff.mp hs.1
    refine ge_eqv_PE (ge_eqv_symm eq1) ?_
    have hs1 := ge_eqv_simple eq1 nd1 hs
    have hlen : (r ++ s).length = (s ++ b :: r).length - 1 := by simp; omega
    have hlow1 : ∀ v ∈ r ++ s, ge_low b v := fun v hv => by
      rcases hlow v (by simp at hv ⊢; grind) with q | q
      · exact absurd (q ▸ hv) (List.nodup_cons.mp nd1).1
      · exact q
    obtain ⟨c, mid, a, ht⟩ := ge_two (t := r ++ s) (by omega)
    rw [show b :: r ++ s = b :: (r ++ s) by simp, ht] at hs1 nd1 ⊢
    rw [ht] at hlen hlow1
    have hl2 : mid.length + 3 ≤ n + 1 := by simp at hlen h1; omega
    have F0 : ge_o a b c ≠ 0 := fun q => by
      have hbc : (b, c) ∈ ge_E (b :: c :: (mid ++ [a])) := by rw [ge_E_ear]; simp
      have hab : (a, b) ∈ ge_E (b :: c :: (mid ++ [a])) := by rw [ge_E_ear]; simp
      have nca : c ≠ a := fun z => (List.nodup_cons.mp (List.nodup_cons.mp nd1).2).1 (by rw [z]; simp)
      have nba : b ≠ a := fun z => (List.nodup_cons.mp nd1).1 (by rw [z]; simp)
      have nbc : b ≠ c := fun z => (List.nodup_cons.mp nd1).1 (by rw [z]; simp)
      rcases ge_corner (hlow1 a (by simp)) (hlow1 c (by simp)) q with z | z
      · rcases hs1.2.1 a (by simp) _ hbc z with w | w
        · exact nba w.symm
        · exact nca w.symm
      · rcases hs1.2.1 c (by simp) _ hab (ge_on_symm z) with w | w
        · exact nca w
        · exact nbc w.symm
    rcases Int.lt_or_lt_of_ne F0 with q | q
    · have eq2 := ge_eqv_rev b (c :: (mid ++ [a]))
      have e : (c :: (mid ++ [a])).reverse = a :: (mid.reverse ++ [c]) := by simp
      rw [e] at eq2
      refine ge_eqv_PE (ge_eqv_symm eq2) ?_
      have nd2 : (b :: a :: (mid.reverse ++ [c])).Nodup := by
        rw [← e]
        exact List.nodup_cons.mpr ⟨fun z => (List.nodup_cons.mp nd1).1 (List.mem_reverse.mp z), (List.reverse_perm _).nodup_iff.mpr (List.nodup_cons.mp nd1).2⟩
      refine ge_PE_pos ih (by simp; omega) ?_ (ge_eqv_simple eq2 nd2 hs1) (fun v hv => hlow1 v (by simp at hv ⊢; grind))
      have : ge_o c b a = -ge_o a b c := by unfold ge_o; grind
      omega
    · exact ge_PE_pos ih hl2 q hs1 hlow1
/-- for each edge of a simple polygon there is a good ear that isn't one of its ends -/
theorem ge_ears {l : List GPt} (h3 : 3 ≤ l.length) (hs : ge_simple l) : ge_PE l := ge_ears_n l.length l (Nat.le_refl _) h3 hs
-- i1.wind
/-! the winding count: the even-odd count with signs -/
def ge_b2 (x : Bool) : Int := if x = true then 1 else 0
def ge_sc (u v p : GPt) : Int := if u.2 ≤ v.2 then ge_b2 (ge_cr u v p) else -ge_b2 (ge_cr v u p)
theorem ge_sc_swap (u v p : GPt) : ge_sc v u p = -ge_sc u v p := by
  unfold ge_sc
  rcases Int.lt_trichotomy u.2 v.2 with h | h | h
  · rw [if_neg (by omega), if_pos (by omega)]
  · rw [if_pos (by omega), if_pos (by omega), ge_cr_flat h, ge_cr_flat h.symm]; rfl
  · rw [if_pos (by omega), if_neg (by omega)]; omega
theorem ge_sc_cs (u v p : GPt) : ge_sc u v p = ge_b2 (ge_cs u v p) ∨ ge_sc u v p = -ge_b2 (ge_cs u v p) := by
  unfold ge_sc ge_cs
  split
  · exact Or.inl rfl
  · exact Or.inr rfl
theorem ge_sc_mv1 {u v p q : GPt} (huv : u.2 ≤ v.2) (hpq : p.2 ≤ q.2) (hm : ¬ ge_meet u v p q) : ge_b2 (ge_cr u v p) - ge_b2 (ge_cr u v q) = ge_b2 (ge_F p q v) - ge_b2 (ge_F p q u) := by
  have h := ge_cr_mv hpq hm
  have i1 : ge_cr u v p = true → ge_F p q u = false := by unfold ge_cr ge_F; grind
  have i2 : ge_cr u v q = true → ge_F p q v = false := by unfold ge_cr ge_F; grind
  revert h i1 i2
  unfold ge_b2
  cases ge_cr u v p <;> cases ge_cr u v q <;> cases ge_F p q u <;> cases ge_F p q v <;> simp
theorem ge_sc_mv {u v p q : GPt} (hpq : p.2 ≤ q.2) (hm : ¬ ge_meet u v p q) : ge_sc u v p - ge_sc u v q = ge_b2 (ge_F p q v) - ge_b2 (ge_F p q u) := by
  unfold ge_sc
  rcases Int.lt_or_le v.2 u.2 with h | h
  · rw [if_neg (by omega), if_neg (by omega)]
    have := ge_sc_mv1 (u := v) (v := u) (by omega) hpq (fun z => hm (ge_meet_flip z))
    omega
  · rw [if_pos h, if_pos h]
    exact ge_sc_mv1 h hpq hm
theorem ge_sc_s {m : Int} (hm : 0 < m) (u v p : GPt) : ge_sc (ge_s m u) (ge_s m v) (ge_s m p) = ge_sc u v p := by
  unfold ge_sc
  have h3 : ((ge_s m u).2 ≤ (ge_s m v).2) ↔ u.2 ≤ v.2 := ge_sg_le hm
  simp only [h3, ge_cr_s hm]
/-- a path's count -/
def ge_wp : List GPt → GPt → Int
  | [], _ => 0
  | [_], _ => 0
  | a :: b :: r, p => ge_sc a b p + ge_wp (b :: r) p
def ge_wn (l : List GPt) (p : GPt) : Int := ge_wp (ge_cy l) p
theorem ge_wp_app (xs : List GPt) (m : GPt) (ys : List GPt) (p : GPt) : ge_wp (xs ++ m :: ys) p = ge_wp (xs ++ [m]) p + ge_wp (m :: ys) p := by
  induction xs with
  | nil => show ge_wp (m :: ys) p = 0 + ge_wp (m :: ys) p; omega
  | cons a r ih =>
    cases r with
    | nil => show ge_sc a m p + ge_wp (m :: ys) p = (ge_sc a m p + 0) + ge_wp (m :: ys) p; omega
    | cons b r =>
      show ge_sc a b p + ge_wp (b :: r ++ m :: ys) p = (ge_sc a b p + ge_wp (b :: r ++ [m]) p) + ge_wp (m :: ys) p
      rw [ih]; omega
theorem ge_wp_mv {p q : GPt} (hpq : p.2 ≤ q.2) : ∀ (r : List GPt) (a : GPt), (∀ e ∈ ge_ed (a :: r), ¬ ge_meet e.1 e.2 p q) → ge_wp (a :: r) p - ge_wp (a :: r) q = ge_b2 (ge_F p q ((a :: r).getLast (List.cons_ne_nil _ _))) - ge_b2 (ge_F p q a) := by
  intro r
  induction r with
  | nil => intro a _; show (0 : Int) - 0 = ge_b2 (ge_F p q a) - ge_b2 (ge_F p q a); omega
  | cons b r ih =>
    intro a h
    have h1 := ge_sc_mv hpq (h (a, b) List.mem_cons_self)
    have h2 := ih b (fun e he => h e (List.mem_cons_of_mem _ he))
    show (ge_sc a b p + ge_wp (b :: r) p) - (ge_sc a b q + ge_wp (b :: r) q) = ge_b2 (ge_F p q ((b :: r).getLast (List.cons_ne_nil _ _))) - ge_b2 (ge_F p q a)
    dsimp only at h1
    omega
theorem ge_wn_mv1 {l : List GPt} {p q : GPt} (hpq : p.2 ≤ q.2) (h : ∀ e ∈ ge_E l, ¬ ge_meet e.1 e.2 p q) : ge_wn l p = ge_wn l q := by
  cases l with
  | nil => rfl
  | cons a r =>
    have h1 := ge_wp_mv hpq (r ++ [a]) a h
    have h2 : (a :: (r ++ [a])).getLast (List.cons_ne_nil _ _) = a := by first | exact List.getLast_concat | exact List.getLast_append_singleton _ | grind | (rw [List.getLast_cons (by simp)]; simp)
    rw [h2] at h1
    show ge_wp (a :: (r ++ [a])) p = ge_wp (a :: (r ++ [a])) q
    omega
theorem ge_wn_mv {l : List GPt} {p q : GPt} (h : ∀ e ∈ ge_E l, ¬ ge_meet e.1 e.2 p q) : ge_wn l p = ge_wn l q := by
  rcases Int.le_total p.2 q.2 with z | z
  · exact ge_wn_mv1 z h
  · exact (ge_wn_mv1 z (fun e he hm => h e he (ge_meet_swap hm))).symm
theorem ge_wn_rot (s t : List GPt) (p : GPt) : ge_wn (s ++ t) p = ge_wn (t ++ s) p := by
  cases s with
  | nil => simp
  | cons a s =>
    cases t with
    | nil => simp
    | cons b t =>
      have h1 : ge_wn (a :: s ++ b :: t) p = ge_wp (a :: s ++ [b]) p + ge_wp (b :: t ++ [a]) p := by
        show ge_wp (a :: (s ++ b :: t) ++ [a]) p = _
        rw [show a :: (s ++ b :: t) ++ [a] = (a :: s) ++ b :: (t ++ [a]) by simp, ge_wp_app]
        rfl
      have h2 : ge_wn (b :: t ++ a :: s) p = ge_wp (b :: t ++ [a]) p + ge_wp (a :: s ++ [b]) p := by
        show ge_wp (b :: (t ++ a :: s) ++ [b]) p = _
        rw [show b :: (t ++ a :: s) ++ [b] = (b :: t) ++ a :: (s ++ [b]) by simp, ge_wp_app]
        rfl
      rw [h1, h2]
      omega
theorem ge_wp_rev (l : List GPt) (p : GPt) : ge_wp l.reverse p = -ge_wp l p := by
  induction l with
  | nil => rfl
  | cons a r ih =>
    cases r with
    | nil => rfl
    | cons b r =>
      rw [show (a :: b :: r).reverse = r.reverse ++ b :: [a] by simp, ge_wp_app]
      rw [show r.reverse ++ [b] = (b :: r).reverse by simp, ih]
      show -ge_wp (b :: r) p + (ge_sc b a p + 0) = -(ge_sc a b p + ge_wp (b :: r) p)
      rw [ge_sc_swap a b]
      omega
theorem ge_wn_rev (b : GPt) (t : List GPt) (p : GPt) : ge_wn (b :: t.reverse) p = -ge_wn (b :: t) p := by
  unfold ge_wn
  rw [ge_cy_rev, ge_wp_rev]
theorem ge_wp_s {m : Int} (hm : 0 < m) (l : List GPt) (p : GPt) : ge_wp (ge_S m l) (ge_s m p) = ge_wp l p := by
  induction l with
  | nil => rfl
  | cons a r ih =>
    cases r with
    | nil => rfl
    | cons b r =>
      show ge_sc (ge_s m a) (ge_s m b) (ge_s m p) + ge_wp (ge_S m (b :: r)) (ge_s m p) = ge_sc a b p + ge_wp (b :: r) p
      rw [ih, ge_sc_s hm]
theorem ge_wn_s {m : Int} (hm : 0 < m) (l : List GPt) (p : GPt) : ge_wn (ge_S m l) (ge_s m p) = ge_wn l p := by
  unfold ge_wn
  rw [ge_cy_S, ge_wp_s hm]
theorem ge_pp_wp (l : List GPt) (p : GPt) : ge_pp l p = decide (ge_wp l p % 2 = 1) := by
  induction l with
  | nil => rfl
  | cons a r ih =>
    cases r with
    | nil => rfl
    | cons b r =>
      show (ge_cs a b p != ge_pp (b :: r) p) = decide ((ge_sc a b p + ge_wp (b :: r) p) % 2 = 1)
      rw [ih]
      have h := ge_sc_cs a b p
      revert h
      unfold ge_b2
      cases ge_cs a b p
      · intro h
        have h : ge_sc a b p = 0 := by simpa using h
        rw [h]
        simp
      · intro h
        have h : ge_sc a b p = 1 ∨ ge_sc a b p = -1 := by simpa using h
        have : ((ge_sc a b p + ge_wp (b :: r) p) % 2 = 1) ↔ ¬ (ge_wp (b :: r) p % 2 = 1) := by omega
        simp only [this]
        by_cases q : ge_wp (b :: r) p % 2 = 1 <;> simp [q]
theorem ge_par_wn (l : List GPt) (p : GPt) : ge_par l p = decide (ge_wn l p % 2 = 1) := ge_pp_wp _ p
def ge_w3 (a b c p : GPt) : Int := ge_sc a b p + ge_sc b c p + ge_sc c a p
theorem ge_w3_cyc (a b c p : GPt) : ge_w3 b c a p = ge_w3 a b c p := by unfold ge_w3; omega
theorem ge_wn_ear (a b c : GPt) (mid : List GPt) (p : GPt) : ge_wn (b :: c :: (mid ++ [a])) p = ge_wn (c :: (mid ++ [a])) p + ge_w3 a b c p := by
  have h1 : ge_wn (b :: c :: (mid ++ [a])) p = ge_sc b c p + (ge_wp (c :: (mid ++ [a])) p + ge_sc a b p) := by
    show ge_wp (b :: (c :: (mid ++ [a])) ++ [b]) p = _
    rw [show b :: (c :: (mid ++ [a])) ++ [b] = (b :: c :: mid) ++ a :: [b] by simp, ge_wp_app]
    show (ge_sc b c p + ge_wp (c :: mid ++ [a]) p) + (ge_sc a b p + 0) = _
    rw [show c :: mid ++ [a] = c :: (mid ++ [a]) by simp]
    omega
  have h2 : ge_wn (c :: (mid ++ [a])) p = ge_wp (c :: (mid ++ [a])) p + ge_sc a c p := by
    show ge_wp (c :: (mid ++ [a]) ++ [c]) p = _
    rw [show c :: (mid ++ [a]) ++ [c] = (c :: mid) ++ a :: [c] by simp, ge_wp_app]
    show ge_wp (c :: mid ++ [a]) p + (ge_sc a c p + 0) = _
    rw [show c :: mid ++ [a] = c :: (mid ++ [a]) by simp]
    omega
  rw [h1, h2]
  unfold ge_w3
  rw [ge_sc_swap a c]
  omega
theorem ge_sc_up {u v p : GPt} (h1 : u.2 ≤ p.2) (h2 : p.2 < v.2) : ge_sc u v p = if 0 < ge_o u v p then 1 else 0 := by
  unfold ge_sc ge_cr ge_b2
  rw [if_pos (by omega)]
  grind
theorem ge_sc_dn {u v p : GPt} (h1 : v.2 ≤ p.2) (h2 : p.2 < u.2) : ge_sc u v p = if ge_o u v p < 0 then -1 else 0 := by
  rw [ge_sc_swap v u, ge_sc_up h1 h2, ge_o_swap u v p]
  grind
theorem ge_sc_lo {u v p : GPt} (h1 : u.2 ≤ p.2) (h2 : v.2 ≤ p.2) : ge_sc u v p = 0 := by
  have := ge_sc_cs u v p
  rw [ge_cs_lo h1 h2] at this
  unfold ge_b2 at this
  grind
theorem ge_sc_hi {u v p : GPt} (h1 : p.2 < u.2) (h2 : p.2 < v.2) : ge_sc u v p = 0 := by
  have := ge_sc_cs u v p
  rw [ge_cs_hi h1 h2] at this
  unfold ge_b2 at this
  grind
theorem ge_w3_1 {a b c p : GPt} (hF : 0 < ge_o a b c) (ha : a.2 ≤ p.2) (hb : b.2 ≤ p.2) (hc : p.2 < c.2) (n2 : ¬ ge_on b c p) (n3 : ¬ ge_on c a p) : 0 ≤ ge_w3 a b c p ∧ ge_w3 a b c p ≤ 1 := by
  unfold ge_w3
  rw [ge_sc_lo ha hb, ge_sc_up hb hc, ge_sc_dn ha hc]
  have by' := ge_by a b c p
  have b0 := ge_b0 a b c p
  have z3 : ge_o c a p ≠ 0 := fun z => n3 (ge_on_symm (ge_on_y (by rw [ge_o_swap, z]; rfl) (by omega) ha (by omega)))
  have z2 : ge_o b c p ≠ 0 := fun z => n2 (ge_on_y z (by omega) hb (by omega))
  have imp : ¬ (ge_o b c p < 0 ∧ ge_o c a p < 0) := fun z => by
    have k1 : 0 ≤ -ge_o b c p * (p.2 - a.2) := Int.mul_nonneg (by omega) (by omega)
    have k2 : 0 ≤ -ge_o c a p * (p.2 - b.2) := Int.mul_nonneg (by omega) (by omega)
    have k3 : 0 ≤ -ge_o a b p := ge_nn (show 0 < c.2 - p.2 by omega) (by grind)
    omega
  split <;> split <;> omega
theorem ge_w3_2 {a b c p : GPt} (hF : 0 < ge_o a b c) (ha : p.2 < a.2) (hb : p.2 < b.2) (hc : c.2 ≤ p.2) (n2 : ¬ ge_on b c p) (n3 : ¬ ge_on c a p) : 0 ≤ ge_w3 a b c p ∧ ge_w3 a b c p ≤ 1 := by
  unfold ge_w3
  rw [ge_sc_hi ha hb, ge_sc_dn hc hb, ge_sc_up hc ha]
  have by' := ge_by a b c p
  have b0 := ge_b0 a b c p
  have z2 : ge_o b c p ≠ 0 := fun z => n2 (ge_on_symm (ge_on_y (by rw [ge_o_swap, z]; rfl) (by omega) hc (by omega)))
  have z3 : ge_o c a p ≠ 0 := fun z => n3 (ge_on_y z (by omega) hc (by omega))
  have imp : ¬ (ge_o b c p < 0 ∧ ge_o c a p < 0) := fun z => by
    have k1 : 0 < -ge_o b c p * (a.2 - p.2) := Int.mul_pos (by omega) (by omega)
    have k2 : 0 < -ge_o c a p * (b.2 - p.2) := Int.mul_pos (by omega) (by omega)
    rcases Int.lt_or_le (ge_o a b p) 0 with q | q
    · omega
    · have := Int.mul_nonneg q (show 0 ≤ p.2 - c.2 by omega)
      grind
  split <;> split <;> omega
theorem ge_w3_01 {a b c p : GPt} (hF : 0 < ge_o a b c) (n1 : ¬ ge_on a b p) (n2 : ¬ ge_on b c p) (n3 : ¬ ge_on c a p) : 0 ≤ ge_w3 a b c p ∧ ge_w3 a b c p ≤ 1 := by
  have hF1 : 0 < ge_o b c a := by rw [ge_o_cyc]; exact hF
  have hF2 : 0 < ge_o c a b := by rw [ge_o_cyc]; exact hF1
  have tpc : ge_w3 c a b p = ge_w3 a b c p := (ge_w3_cyc b c a p).trans (ge_w3_cyc a b c p)
  rcases Int.lt_or_le p.2 a.2 with ha | ha <;> rcases Int.lt_or_le p.2 b.2 with hb | hb <;> rcases Int.lt_or_le p.2 c.2 with hc | hc
  · unfold ge_w3; rw [ge_sc_hi ha hb, ge_sc_hi hb hc, ge_sc_hi hc ha]; omega
  · exact ge_w3_2 hF ha hb hc n2 n3
  · rw [← tpc]; exact ge_w3_2 hF2 hc ha hb n1 n2
  · rw [← ge_w3_cyc a b c p]; exact ge_w3_1 hF1 hb hc ha n3 n1
  · rw [← ge_w3_cyc a b c p]; exact ge_w3_2 hF1 hb hc ha n3 n1
  · rw [← tpc]; exact ge_w3_1 hF2 hc ha hb n1 n2
  · exact ge_w3_1 hF ha hb hc n2 n3
  · unfold ge_w3; rw [ge_sc_lo ha hb, ge_sc_lo hb hc, ge_sc_lo hc ha]; omega
theorem ge_w3_par (a b c p : GPt) : ge_tp a b c p = decide (ge_w3 a b c p % 2 = 1) := by
  have h := ge_par_wn (a :: b :: [c]) p
  have e1 : ge_par (a :: b :: [c]) p = ge_tp a b c p := by
    show (ge_cs a b p != (ge_cs b c p != (ge_cs c a p != false))) = _
    unfold ge_tp
    cases ge_cs a b p <;> cases ge_cs b c p <;> cases ge_cs c a p <;> rfl
  have e2 : ge_wn (a :: b :: [c]) p = ge_w3 a b c p := by
    show ge_sc a b p + (ge_sc b c p + (ge_sc c a p + 0)) = _
    unfold ge_w3
    omega
  rw [e1, e2] at h
  exact h
/-- the winding count of a triangle -/
theorem ge_w3_in {a b c p : GPt} (hF : 0 < ge_o a b c) (n1 : ¬ ge_on a b p) (n2 : ¬ ge_on b c p) (n3 : ¬ ge_on c a p) : (ge_int a b c p ∧ ge_w3 a b c p = 1) ∨ (¬ ge_int a b c p ∧ ge_w3 a b c p = 0) := by
  have h := ge_tri hF n1 n2 n3
  rw [ge_w3_par] at h
  have h01 := ge_w3_01 hF n1 n2 n3
  by_cases q : ge_int a b c p
  · have := h.mpr q
    have := of_decide_eq_true this
    exact Or.inl ⟨q, by omega⟩
  · refine Or.inr ⟨q, ?_⟩
    have : ¬ (ge_w3 a b c p % 2 = 1) := fun z => q (h.mp (decide_eq_true z))
    omega
-- i2.touch
/-! edges of a simple polygon touch in common ends alone; a point off the polygon has a short free way in any direction -/
theorem ge_wt_eq {v x r : GPt} {i j : Int} (w : ge_wt v x r i j) : (i + j) * (r.1 - v.1) = j * (x.1 - v.1) ∧ (i + j) * (r.2 - v.2) = j * (x.2 - v.2) := by
  obtain ⟨-, -, -, h1, h2⟩ := w
  exact ⟨by grind, by grind⟩
/-- two segments from v that share another point: one holds the other's end -/
theorem ge_ray {v x y r : GPt} (hr : r ≠ v) (hx : v ≠ x) (hy : v ≠ y) (h1 : ge_on v x r) (h2 : ge_on v y r) : ge_on v x y ∨ ge_on v y x := by
  obtain ⟨i, j, w⟩ := ge_on_wt hx h1
  obtain ⟨i', j', w'⟩ := ge_on_wt hy h2
  have hj : 0 < j := by
    have := w.2.1
    rcases Int.lt_or_eq_of_le this with q | q
    · exact q
    · subst q; exact absurd (ge_wt_0 w) hr
  have hj' : 0 < j' := by
    have := w'.2.1
    rcases Int.lt_or_eq_of_le this with q | q
    · exact q
    · subst q; exact absurd (ge_wt_0 w') hr
  obtain ⟨e1, e2⟩ := ge_wt_eq w
  obtain ⟨f1, f2⟩ := ge_wt_eq w'
  have hs := w.2.2.1
  have hs' := w'.2.2.1
  obtain ⟨A, hA⟩ : ∃ A, A = j * (i' + j') := ⟨_, rfl⟩
  obtain ⟨B, hB⟩ : ∃ B, B = j' * (i + j) := ⟨_, rfl⟩
  have hA0 : 0 < A := by rw [hA]; exact Int.mul_pos hj hs'
  have hB0 : 0 < B := by rw [hB]; exact Int.mul_pos hj' hs
  have g1 : A * (x.1 - v.1) = B * (y.1 - v.1) := by
    have q1 : A * (x.1 - v.1) = (i' + j') * (j * (x.1 - v.1)) := by rw [hA]; grind
    have q2 : B * (y.1 - v.1) = (i + j) * (j' * (y.1 - v.1)) := by rw [hB]; grind
    rw [q1, q2, ← e1, ← f1]; grind
  have g2 : A * (x.2 - v.2) = B * (y.2 - v.2) := by
    have q1 : A * (x.2 - v.2) = (i' + j') * (j * (x.2 - v.2)) := by rw [hA]; grind
    have q2 : B * (y.2 - v.2) = (i + j) * (j' * (y.2 - v.2)) := by rw [hB]; grind
    rw [q1, q2, ← e2, ← f2]; grind
  clear hA hB e1 e2 f1 f2
  rcases Int.le_total A B with q | q
  · exact Or.inl (ge_wt_on (i := B - A) (j := A) ⟨by omega, by omega, by omega, by grind, by grind⟩)
  · exact Or.inr (ge_wt_on (i := A - B) (j := B) ⟨by omega, by omega, by omega, by grind, by grind⟩)
/-- two edges with a common end -/
theorem ge_touch1 {l : List GPt} (hs : ge_simple l) (hne : ∀ u v : GPt, ge_adj l u v → u ≠ v) {v x y r : GPt} (h : ge_adj l v x) (g : ge_adj l v y) (hxy : x ≠ y) (h1 : ge_on v x r) (h2 : ge_on v y r) : r = v := by
  by_cases q : r = v
  · exact q
  · exfalso
    have vx := hne _ _ h
    have vy := hne _ _ g
    rcases ge_ray q vx vy h1 h2 with z | z
    · rcases ge_adj_V hs (ge_adj_mem g).2 h z with t | t
      · exact vy t.symm
      · exact hxy t.symm
    · rcases ge_adj_V hs (ge_adj_mem h).2 g z with t | t
      · exact vx t.symm
      · exact hxy t
theorem ge_touch {l : List GPt} (hs : ge_simple l) (hne : ∀ u v : GPt, ge_adj l u v → u ≠ v) {u v x y r : GPt} (h : ge_adj l u v) (g : ge_adj l x y) (hd : ¬ ((u = x ∧ v = y) ∨ (u = y ∧ v = x))) (h1 : ge_on u v r) (h2 : ge_on x y r) : (r = u ∨ r = v) ∧ (r = x ∨ r = y) := by
  have huv := hne _ _ h
  have hxy := hne _ _ g
  by_cases c1 : u = x
  · subst c1
    have := ge_touch1 hs hne h g (fun z => hd (Or.inl ⟨rfl, z⟩)) h1 h2
    exact ⟨Or.inl this, Or.inl this⟩
  by_cases c2 : u = y
  · subst c2
    have := ge_touch1 hs hne h (ge_adj_symm g) (fun z => hd (Or.inr ⟨rfl, z⟩)) h1 (ge_on_symm h2)
    exact ⟨Or.inl this, Or.inr this⟩
  by_cases c3 : v = x
  · subst c3
    have := ge_touch1 hs hne (ge_adj_symm h) g (fun z => hd (Or.inr ⟨z, rfl⟩)) (ge_on_symm h1) h2
    exact ⟨Or.inr this, Or.inl this⟩
  by_cases c4 : v = y
  · subst c4
    have := ge_touch1 hs hne (ge_adj_symm h) (ge_adj_symm g) (fun z => hd (Or.inl ⟨z, rfl⟩)) (ge_on_symm h1) (ge_on_symm h2)
    exact ⟨Or.inr this, Or.inr this⟩
  exact absurd (ge_pt_meet huv hxy h1 h2) (ge_disj hs h g c1 c2 c3 c4)
/-- m moved by d at scale K -/
def ge_mvd (K : Int) (m d : GPt) : GPt := (K * m.1 + d.1, K * m.2 + d.2)
theorem ge_mvd_o (K : Int) (u v m d : GPt) : ge_o (ge_s K u) (ge_s K v) (ge_mvd K m d) = K * (K * ge_o u v m + ((v.1 - u.1) * d.2 - (v.2 - u.2) * d.1)) := by unfold ge_mvd ge_s ge_o; grind
theorem ge_big {K t o : Int} (ho : 0 < o) (hK : 0 < K) (h : -t < K) : 0 < K * (K * o + t) := by
  have : K * 1 ≤ K * o := (ge_sg_le hK).mpr (by omega)
  exact Int.mul_pos hK (by omega)
theorem ge_eps1 {u v m : GPt} (d : GPt) (h : ¬ ge_on u v m) : ∃ K0 : Int, ∀ K : Int, K0 ≤ K → 0 < K → ¬ ge_meet (ge_s K u) (ge_s K v) (ge_s K m) (ge_mvd K m d) := by
  obtain ⟨k, hk, k1, k2⟩ := ge_abs_ge ((v.1 - u.1) * d.2 - (v.2 - u.2) * d.1)
  obtain ⟨j, hj, j1, j2⟩ := ge_abs_ge d.1
  obtain ⟨i, hi, i1, i2⟩ := ge_abs_ge d.2
  refine ⟨k + j + i + 1, fun K hK K0 => ?_⟩
  have KK := Int.mul_pos K0 K0
  rcases Int.lt_trichotomy (ge_o u v m) 0 with q | q | q
  · intro z
    refine ge_free_line (u := ge_s K v) (v := ge_s K u) ?_ ?_ (ge_meet_flip z)
    · rw [ge_o_s, ge_o_swap]; exact Int.mul_pos KK (by omega)
    · rw [ge_mvd_o, ge_o_swap u v]
      have := ge_big (K := K) (t := (u.1 - v.1) * d.2 - (u.2 - v.2) * d.1) (o := -ge_o u v m) (by omega) K0 (by
        have : (u.1 - v.1) * d.2 - (u.2 - v.2) * d.1 = -((v.1 - u.1) * d.2 - (v.2 - u.2) * d.1) := by grind
        omega)
      exact this
  · have e1 : ∀ p : GPt, ge_o (0, 0) (0, -1) p = p.1 := fun p => by unfold ge_o; grind
    have e2 : ∀ p : GPt, ge_o (0, 0) (0, 1) p = -p.1 := fun p => by unfold ge_o; grind
    have e3 : ∀ p : GPt, ge_o (0, 0) (1, 0) p = p.2 := fun p => by unfold ge_o; grind
    have e4 : ∀ p : GPt, ge_o (0, 0) (-1, 0) p = -p.2 := fun p => by unfold ge_o; grind
    have lt : ∀ {x y : Int}, x < y → K * x + K ≤ K * y := fun {x y} z => by
      have := (ge_sg_le K0).mpr (show x + 1 ≤ y by omega)
      rw [Int.mul_add] at this; omega
    have two : ∀ {r x y : Int}, 0 < (r - x) * (r - y) → (r < x ∧ r < y) ∨ (x < r ∧ y < r) := fun {r x y} z => by
      rcases Int.lt_trichotomy r x with a | a | a
      · left; refine ⟨a, ?_⟩
        rcases Int.lt_or_le r y with b | b
        · exact b
        · have := Int.mul_nonneg (show 0 ≤ x - r by omega) (show 0 ≤ r - y by omega)
          exfalso; grind
      · rw [a, Int.sub_self, Int.zero_mul] at z; omega
      · right; refine ⟨a, ?_⟩
        rcases Int.lt_or_le y r with b | b
        · exact b
        · have := Int.mul_nonneg (show 0 ≤ r - x by omega) (show 0 ≤ y - r by omega)
          exfalso; grind
    have hno : 0 < (m.1 - u.1) * (m.1 - v.1) ∨ 0 < (m.2 - u.2) * (m.2 - v.2) := by
      rcases Int.lt_or_le 0 ((m.1 - u.1) * (m.1 - v.1)) with a | a
      · exact Or.inl a
      · rcases Int.lt_or_le 0 ((m.2 - u.2) * (m.2 - v.2)) with b | b
        · exact Or.inr b
        · exact absurd ⟨q, a, b⟩ h
    rcases hno with z | z
    · rcases two z with ⟨a, b⟩ | ⟨a, b⟩
      · have a' := lt a
        have b' := lt b
        refine ge_low_free (c := (0, 0)) (a := (0, 1)) (K := -(K * m.1 + d.1) - 1 - j + d.1) ?_ ?_ ?_ ?_
        · rw [e2]; show -(K * u.1) ≤ _; omega
        · rw [e2]; show -(K * v.1) ≤ _; omega
        · rw [e2]; show _ < -(K * m.1); omega
        · rw [e2]; show _ < -(K * m.1 + d.1); omega
      · have a' := lt a
        have b' := lt b
        refine ge_low_free (c := (0, 0)) (a := (0, -1)) (K := K * m.1 - j - 1) ?_ ?_ ?_ ?_
        · rw [e1]; show K * u.1 ≤ _; omega
        · rw [e1]; show K * v.1 ≤ _; omega
        · rw [e1]; show _ < K * m.1; omega
        · rw [e1]; show _ < K * m.1 + d.1; omega
    · rcases two z with ⟨a, b⟩ | ⟨a, b⟩
      · have a' := lt a
        have b' := lt b
        refine ge_low_free (c := (0, 0)) (a := (-1, 0)) (K := -(K * m.2) - i - 1) ?_ ?_ ?_ ?_
        · rw [e4]; show -(K * u.2) ≤ _; omega
        · rw [e4]; show -(K * v.2) ≤ _; omega
        · rw [e4]; show _ < -(K * m.2); omega
        · rw [e4]; show _ < -(K * m.2 + d.2); omega
      · have a' := lt a
        have b' := lt b
        refine ge_low_free (c := (0, 0)) (a := (1, 0)) (K := K * m.2 - i - 1) ?_ ?_ ?_ ?_
        · rw [e3]; show K * u.2 ≤ _; omega
        · rw [e3]; show K * v.2 ≤ _; omega
        · rw [e3]; show _ < K * m.2; omega
        · rw [e3]; show _ < K * m.2 + d.2; omega
  · refine ge_free_line ?_ ?_
    · rw [ge_o_s]; exact Int.mul_pos KK q
    · rw [ge_mvd_o]
      exact ge_big q K0 (by omega)
theorem ge_epsL (m d : GPt) : ∀ (L : List (GPt × GPt)), (∀ e ∈ L, ¬ ge_on e.1 e.2 m) → ∃ K0 : Int, ∀ K : Int, K0 ≤ K → 0 < K → ∀ e ∈ L, ¬ ge_meet (ge_s K e.1) (ge_s K e.2) (ge_s K m) (ge_mvd K m d)
  | [], _ => ⟨1, fun _ _ _ e he => nomatch he⟩
  | f :: L, h => by
    obtain ⟨K1, h1⟩ := ge_eps1 d (h f List.mem_cons_self)
    obtain ⟨K2, h2⟩ := ge_epsL m d L (fun e he => h e (List.mem_cons_of_mem _ he))
    refine ⟨if K1 ≤ K2 then K2 else K1, fun K hK hp e he => ?_⟩
    have hK1 : K1 ≤ K := by split at hK <;> omega
    have hK2 : K2 ≤ K := by split at hK <;> omega
    rcases List.mem_cons.mp he with q | q
    · rw [q]; exact h1 K hK1 hp
    · exact h2 K hK2 hp e q
/-- two ways at once, in opposite directions -/
theorem ge_eps {l : List GPt} {m : GPt} (d : GPt) (ho : ge_off l m) : ∃ K : Int, 1 < K ∧ ∀ e ∈ ge_E (ge_S K l), ¬ ge_meet e.1 e.2 (ge_s K m) (ge_mvd K m d) ∧ ¬ ge_meet e.1 e.2 (ge_s K m) (ge_mvd K m (-d.1, -d.2)) := by
  obtain ⟨K1, h1⟩ := ge_epsL m d (ge_E l) ho
  obtain ⟨K2, h2⟩ := ge_epsL m (-d.1, -d.2) (ge_E l) ho
  obtain ⟨k1, a1, b1, c1⟩ := ge_abs_ge K1
  obtain ⟨k2, a2, b2, c2⟩ := ge_abs_ge K2
  refine ⟨k1 + k2 + 2, by omega, fun e he => ?_⟩
  rw [ge_E_S] at he
  obtain ⟨f, hf, rfl⟩ := List.mem_map.mp he
  exact ⟨h1 _ (by omega) (by omega) f hf, h2 _ (by omega) (by omega) f hf⟩
-- i3.turn
/-! the winding count of a simple polygon is 0 or s; the step over a corner with an empty triangle -/
def ge_W (l : List GPt) (s : Int) : Prop := (s = 1 ∨ s = -1) ∧ ∀ k : Int, 0 < k → ∀ p : GPt, ge_off (ge_S k l) p → ge_wn (ge_S k l) p = 0 ∨ ge_wn (ge_S k l) p = s
/-- a corner whose triangle is empty, of a polygon of at least four -/
def ge_C (a b c : GPt) (mid : List GPt) : Prop := 0 < ge_o a b c ∧ ge_simple (b :: c :: (mid ++ [a])) ∧ (∀ w ∈ c :: (mid ++ [a]), w ≠ a → w ≠ c → ¬ ge_in a b c w) ∧ mid ≠ []
theorem ge_ed_snd {e : GPt × GPt} : ∀ {r : List GPt} {x : GPt}, e ∈ ge_ed (x :: r) → e.2 ∈ r
  | [], x, h => nomatch h
  | y :: r, x, h => by
    rcases List.mem_cons.mp h with q | q
    · rw [q]; exact List.mem_cons_self
    · exact List.mem_cons_of_mem _ (ge_ed_snd q)
section Corner
variable {a b c : GPt} {mid : List GPt}
theorem ge_C_s {k : Int} (hk : 0 < k) (H : ge_C a b c mid) : ge_C (ge_s k a) (ge_s k b) (ge_s k c) (ge_S k mid) := by
  obtain ⟨hF, hs, he, hm⟩ := H
  refine ⟨by rw [ge_o_s]; exact Int.mul_pos (ge_mm hk) hF, by rw [← ge_S_ear]; exact ge_simple_S hk hs, fun w hw h1 h2 z => ?_, fun q => hm (by unfold ge_S at q; exact List.map_eq_nil_iff.mp q)⟩
  rw [← ge_S_cut] at hw
  obtain ⟨w0, hw0, rfl⟩ := List.mem_map.mp hw
  exact he w0 hw0 (fun q => h1 (by rw [q])) (fun q => h2 (by rw [q])) ((ge_in_s hk _ _ _ _).mp z)
theorem ge_C_zz (u v : GPt) : ge_o u v u = 0 ∧ ge_o u v v = 0 := ⟨by unfold ge_o; grind, by unfold ge_o; grind⟩
theorem ge_C_cyc (a b c : GPt) : ge_o b c a = ge_o a b c ∧ ge_o c a b = ge_o a b c := ⟨ge_o_cyc a b c, by rw [ge_o_cyc, ge_o_cyc]⟩
theorem ge_C_off {p : GPt} (h1 : ¬ ge_on a b p) (h2 : ¬ ge_on b c p) (h3 : ∀ e ∈ ge_ed (c :: (mid ++ [a])), ¬ ge_on e.1 e.2 p) : ge_off (b :: c :: (mid ++ [a])) p := by
  intro e he
  rw [ge_E_ear] at he
  rcases List.mem_cons.mp he with q | q
  · rw [q]; exact h2
  · rcases List.mem_append.mp q with q | q
    · exact h3 e q
    · rw [List.mem_singleton.mp q]; exact h1
theorem ge_C_offt {p : GPt} (h1 : ¬ ge_on a c p) (h3 : ∀ e ∈ ge_ed (c :: (mid ++ [a])), ¬ ge_on e.1 e.2 p) : ge_off (c :: (mid ++ [a])) p := by
  intro e he
  rw [ge_E_cut] at he
  rcases List.mem_append.mp he with q | q
  · exact h3 e q
  · rw [List.mem_singleton.mp q]; exact h1
theorem ge_C_of {p : GPt} (h : ge_off (b :: c :: (mid ++ [a])) p) : ¬ ge_on a b p ∧ ¬ ge_on b c p ∧ ∀ e ∈ ge_ed (c :: (mid ++ [a])), ¬ ge_on e.1 e.2 p := by
  unfold ge_off at h
  rw [ge_E_ear] at h
  exact ⟨h (a, b) (by simp), h (b, c) (by simp), fun e he => h e (List.mem_cons_of_mem _ (List.mem_append_left _ he))⟩
theorem ge_C_int (H : ge_C a b c mid) {q : GPt} (hq : ge_int a b c q) : ge_off (b :: c :: (mid ++ [a])) q ∧ ge_off (c :: (mid ++ [a])) q := by
  have sd := ge_sides H.2.1 H.2.2.1
  have pe : ∀ e ∈ ge_ed (c :: (mid ++ [a])), ¬ ge_on e.1 e.2 q := fun e he z => ge_side_K (sd e he) z (ge_int_in hq) hq.2.2
  obtain ⟨q1, q2, q3⟩ := hq
  exact ⟨ge_C_off (fun z => by have := z.1; omega) (fun z => by have := z.1; omega) pe, ge_C_offt (fun z => by have := (ge_on_symm z).1; omega) pe⟩
theorem ge_C_pos (H : ge_C a b c mid) {p : GPt} (hp : ge_in a b c p) (ho : ge_off (b :: c :: (mid ++ [a])) p) : 0 < ge_o a b p ∧ 0 < ge_o b c p := by
  obtain ⟨n1, n2, -⟩ := ge_C_of ho
  constructor
  · rcases Int.lt_or_eq_of_le hp.1 with z | z
    · exact z
    · exact absurd (ge_in_on H.1 hp z.symm) n1
  · rcases Int.lt_or_eq_of_le hp.2.1 with z | z
    · exact z
    · exact absurd (ge_in_on (by rw [ge_o_cyc]; exact H.1) (ge_in_cyc hp) z.symm) n2
theorem ge_C_move (H : ge_C a b c mid) {p q : GPt} (hp : ge_in a b c p) (ho : ge_off (b :: c :: (mid ++ [a])) p) (hq : ge_int a b c q) : ge_wn (b :: c :: (mid ++ [a])) p = ge_wn (b :: c :: (mid ++ [a])) q := by
  have sd := ge_sides H.2.1 H.2.2.1
  have pp := ge_C_pos H hp ho
  have po := (ge_C_of ho).2.2
  refine ge_wn_mv (fun e he => ?_)
  rw [ge_E_ear] at he
  rcases List.mem_cons.mp he with z | z
  · rw [z]; exact ge_free_line pp.2 hq.2.1
  · rcases List.mem_append.mp z with z | z
    · exact ge_free_end (sd e z) hp (po e z) (ge_int_in hq) hq.2.2
    · rw [List.mem_singleton.mp z]; exact ge_free_line pp.1 hq.1
theorem ge_C_movet (H : ge_C a b c mid) {p q : GPt} (hp : ge_int a b c p) (hq : ge_int a b c q) : ge_wn (c :: (mid ++ [a])) p = ge_wn (c :: (mid ++ [a])) q := by
  have sd := ge_sides H.2.1 H.2.2.1
  refine ge_wn_mv (fun e he => ?_)
  rw [ge_E_cut] at he
  rcases List.mem_append.mp he with z | z
  · exact ge_free (sd e z) (ge_int_in hp) hp.2.2 (ge_int_in hq) hq.2.2
  · rw [List.mem_singleton.mp z]; exact ge_free3 hp.2.2 hq.2.2
/-- an inner point of ac lies off the polygon -/
theorem ge_C_mid (H : ge_C a b c mid) {m : GPt} {i j : Int} (w : ge_wt a c m i j) (hi : 0 < i) (hj : 0 < j) : ge_off (b :: c :: (mid ++ [a])) m ∧ 0 < ge_o a b m ∧ 0 < ge_o b c m ∧ ge_o c a m = 0 := by
  have e1 := ge_wt_o w a b
  have e2 := ge_wt_o w b c
  have e3 := ge_wt_o w c a
  rw [(ge_C_zz a b).1, Int.mul_zero] at e1
  rw [(ge_C_zz b c).2, Int.mul_zero, (ge_C_cyc a b c).1] at e2
  rw [(ge_C_zz c a).1, (ge_C_zz c a).2, Int.mul_zero, Int.mul_zero] at e3
  have hs := w.2.2.1
  have m1 : 0 < ge_o a b m := ge_pos hs (by have := Int.mul_pos hj H.1; omega)
  have m2 : 0 < ge_o b c m := ge_pos hs (by have := Int.mul_pos hi H.1; omega)
  have m3 : ge_o c a m = 0 := ge_zero hs (by omega)
  refine ⟨ge_C_off (fun z => by have := z.1; omega) (fun z => by have := z.1; omega) (fun e he z => ?_), m1, m2, m3⟩
  have hst := ge_cut_simple H.1 H.2.1 H.2.2.1
  have hne := ge_adj_ne hst.1 (by simp)
  have hea : ge_adj (c :: (mid ++ [a])) e.1 e.2 := Or.inl (by rw [ge_E_cut]; exact List.mem_append_left _ he)
  have hac : ge_adj (c :: (mid ++ [a])) a c := Or.inl (by rw [ge_E_cut]; simp)
  have hcn : c ∉ mid ++ [a] := (List.nodup_cons.mp hst.1).1
  have hd : ¬ ((e.1 = a ∧ e.2 = c) ∨ (e.1 = c ∧ e.2 = a)) := fun q => by
    rcases q with ⟨-, q⟩ | ⟨q1, q2⟩
    · exact hcn (q ▸ ge_ed_snd he)
    · have hm := H.2.2.2
      cases mid with
      | nil => exact hm rfl
      | cons y r =>
        have hn := (List.nodup_cons.mp hst.1).2
        rcases List.mem_cons.mp he with t | t
        · rw [t] at q2
          have q2 : y = a := q2
          exact (List.nodup_cons.mp hn).1 (by rw [q2]; simp)
        · exact hcn (q1 ▸ (ge_ed_mem _ e t).1)
  rcases (ge_touch hst hne hea hac hd z (ge_wt_on w)).2 with q | q
  · rw [q, (ge_C_zz a b).1] at m1; omega
  · rw [q, (ge_C_zz b c).2] at m2; omega
theorem ge_C_zero (H : ge_C a b c mid) (Z : ∃ k : Int, 0 < k ∧ ∃ q : GPt, ge_int (ge_s k a) (ge_s k b) (ge_s k c) q ∧ ge_wn (ge_S k (c :: (mid ++ [a]))) q = 0) {k : Int} (hk : 0 < k) {p : GPt} (hp : ge_int (ge_s k a) (ge_s k b) (ge_s k c) p) : ge_wn (ge_S k (c :: (mid ++ [a]))) p = 0 := by
  obtain ⟨n, hn, q, hq, hz⟩ := Z
  have hkn := Int.mul_pos hk hn
  have HN := ge_C_s hkn H
  have ip : ge_int (ge_s (k * n) a) (ge_s (k * n) b) (ge_s (k * n) c) (ge_s n p) := by
    rw [Int.mul_comm k n, ← ge_s_s, ← ge_s_s, ← ge_s_s]; exact (ge_int_s hn _ _ _ _).mpr hp
  have iq : ge_int (ge_s (k * n) a) (ge_s (k * n) b) (ge_s (k * n) c) (ge_s k q) := by
    rw [← ge_s_s, ← ge_s_s, ← ge_s_s]; exact (ge_int_s hk _ _ _ _).mpr hq
  have e := ge_C_movet HN ip iq
  rw [← ge_S_cut] at e
  have e1 : ge_wn (ge_S (k * n) (c :: (mid ++ [a]))) (ge_s n p) = ge_wn (ge_S k (c :: (mid ++ [a]))) p := by
    rw [Int.mul_comm k n, ← ge_S_S, ge_wn_s hn]
  have e2 : ge_wn (ge_S (k * n) (c :: (mid ++ [a]))) (ge_s k q) = ge_wn (ge_S n (c :: (mid ++ [a]))) q := by
    rw [← ge_S_S, ge_wn_s hk]
  rw [e1, e2, hz] at e
  exact e
theorem ge_C_one (H : ge_C a b c mid) (Z : ∃ k : Int, 0 < k ∧ ∃ q : GPt, ge_int (ge_s k a) (ge_s k b) (ge_s k c) q ∧ ge_wn (ge_S k (c :: (mid ++ [a]))) q = 0) {k : Int} (hk : 0 < k) {p : GPt} (hp : ge_int (ge_s k a) (ge_s k b) (ge_s k c) p) : ge_wn (ge_S k (b :: c :: (mid ++ [a]))) p = 1 := by
  have z := ge_C_zero H Z hk hp
  have HK := ge_C_s hk H
  have n1 : ¬ ge_on (ge_s k a) (ge_s k b) p := fun q => by have := q.1; have := hp.1; omega
  have n2 : ¬ ge_on (ge_s k b) (ge_s k c) p := fun q => by have := q.1; have := hp.2.1; omega
  have n3 : ¬ ge_on (ge_s k c) (ge_s k a) p := fun q => by have := q.1; have := hp.2.2; omega
  rcases ge_w3_in HK.1 n1 n2 n3 with ⟨-, w⟩ | ⟨q, -⟩
  · rw [ge_S_ear, ge_wn_ear, w, ← ge_S_cut, z]; rfl
  · exact absurd hp q
theorem ge_C_closed (H : ge_C a b c mid) (Z : ∃ k : Int, 0 < k ∧ ∃ q : GPt, ge_int (ge_s k a) (ge_s k b) (ge_s k c) q ∧ ge_wn (ge_S k (c :: (mid ++ [a]))) q = 0) {k : Int} (hk : 0 < k) {p : GPt} (hp : ge_in (ge_s k a) (ge_s k b) (ge_s k c) p) (ho : ge_off (ge_S k (b :: c :: (mid ++ [a]))) p) : ge_wn (ge_S k (b :: c :: (mid ++ [a]))) p = 1 := by
  have HK := ge_C_s hk H
  have h2 : (0 : Int) < 2 := by decide
  have h2k : 0 < 2 * k := by omega
  have HN := ge_C_s h2 HK
  rw [ge_S_ear] at ho
  have pp := ge_C_pos HK hp ho
  obtain ⟨g, hg⟩ : ∃ g : GPt, g = (p.1 + (ge_s k b).1, p.2 + (ge_s k b).2) := ⟨_, rfl⟩
  have f : ∀ u v : GPt, ge_o (ge_s 2 u) (ge_s 2 v) g = 2 * (ge_o u v p + ge_o u v (ge_s k b)) := fun u v => by
    rw [hg]; generalize ge_s k b = B; unfold ge_s ge_o; grind
  have F' := HK.1
  have c3 := (ge_C_cyc (ge_s k a) (ge_s k b) (ge_s k c)).2
  have z1 := (ge_C_zz (ge_s k a) (ge_s k b)).2
  have z2 := (ge_C_zz (ge_s k b) (ge_s k c)).1
  have gi : ge_int (ge_s 2 (ge_s k a)) (ge_s 2 (ge_s k b)) (ge_s 2 (ge_s k c)) g := by
    refine ⟨?_, ?_, ?_⟩
    · rw [f, z1]; omega
    · rw [f, z2]; omega
    · rw [f, c3]; have := hp.2.2; omega
  have off2 : ge_off (ge_s 2 (ge_s k b) :: ge_s 2 (ge_s k c) :: (ge_S 2 (ge_S k mid) ++ [ge_s 2 (ge_s k a)])) (ge_s 2 p) := by
    rw [← ge_S_ear]; exact ge_off_s h2 ho
  have e := ge_C_move HN ((ge_in_s h2 _ _ _ _).mpr hp) off2 gi
  rw [← ge_S_ear, ge_wn_s h2, ← ge_S_ear] at e
  rw [e, ge_S_S]
  exact ge_C_one H Z h2k (by rw [← ge_s_s, ← ge_s_s, ← ge_s_s]; exact gi)
end Corner
-- i4.step
/-! across the cut, and across an edge: what the counts on both sides say -/
section Corner
variable {a b c : GPt} {mid : List GPt}
/-- m moved away from, and towards, a point w -/
theorem ge_mv_o (K : Int) (u v m w : GPt) : ge_o (ge_s K u) (ge_s K v) (ge_mvd K m (m.1 - w.1, m.2 - w.2)) = K * ((K + 1) * ge_o u v m - ge_o u v w) := by unfold ge_mvd ge_s ge_o; grind
theorem ge_mv_t (K : Int) (u v m w : GPt) : ge_o (ge_s K u) (ge_s K v) (ge_mvd K m (-(m.1 - w.1), -(m.2 - w.2))) = K * ((K - 1) * ge_o u v m + ge_o u v w) := by unfold ge_mvd ge_s ge_o; grind
theorem ge_not_on {u v p q : GPt} (h : ¬ ge_meet u v p q) : ¬ ge_on u v q := fun z => h (Or.inr (Or.inl z))
theorem ge_w3_int {a b c p : GPt} (hF : 0 < ge_o a b c) (hp : ge_int a b c p) : ge_w3 a b c p = 1 := by
  have n1 : ¬ ge_on a b p := fun z => by have := z.1; have := hp.1; omega
  have n2 : ¬ ge_on b c p := fun z => by have := z.1; have := hp.2.1; omega
  have n3 : ¬ ge_on c a p := fun z => by have := z.1; have := hp.2.2; omega
  rcases ge_w3_in hF n1 n2 n3 with ⟨-, z⟩ | ⟨z, -⟩
  · exact z
  · exact absurd hp z
/-- the way across the middle of ac -/
theorem ge_C_across (H : ge_C a b c mid) (Z : ∃ k : Int, 0 < k ∧ ∃ q : GPt, ge_int (ge_s k a) (ge_s k b) (ge_s k c) q ∧ ge_wn (ge_S k (c :: (mid ++ [a]))) q = 0) {s : Int} (W : ge_W (c :: (mid ++ [a])) s) : s = 1 := by
  have h2 : (0 : Int) < 2 := by decide
  have H2 := ge_C_s h2 H
  obtain ⟨m, hm⟩ : ∃ m : GPt, m = (a.1 + c.1, a.2 + c.2) := ⟨_, rfl⟩
  have w : ge_wt (ge_s 2 a) (ge_s 2 c) m 1 1 := ⟨by decide, by decide, by decide, by rw [hm]; unfold ge_s; grind, by rw [hm]; unfold ge_s; grind⟩
  obtain ⟨mo, m1, m2, m3⟩ := ge_C_mid H2 w (by decide) (by decide)
  obtain ⟨K, hK, hf⟩ := ge_eps (m.1 - (ge_s 2 b).1, m.2 - (ge_s 2 b).2) mo
  have hK0 : 0 < K := by omega
  obtain ⟨P, hP⟩ : ∃ P, P = ge_mvd K m (m.1 - (ge_s 2 b).1, m.2 - (ge_s 2 b).2) := ⟨_, rfl⟩
  obtain ⟨Q, hQ⟩ : ∃ Q, Q = ge_mvd K m (-(m.1 - (ge_s 2 b).1), -(m.2 - (ge_s 2 b).2)) := ⟨_, rfl⟩
  have hf1 : ∀ e ∈ ge_E (ge_S K (ge_s 2 b :: ge_s 2 c :: (ge_S 2 mid ++ [ge_s 2 a]))), ¬ ge_meet e.1 e.2 (ge_s K m) P := fun e he => by rw [hP]; exact (hf e he).1
  have hf2 : ∀ e ∈ ge_E (ge_S K (ge_s 2 b :: ge_s 2 c :: (ge_S 2 mid ++ [ge_s 2 a]))), ¬ ge_meet e.1 e.2 (ge_s K m) Q := fun e he => by rw [hQ]; exact (hf e he).2
  have HN := ge_C_s hK0 H2
  have F2 := H2.1
  have z1 := (ge_C_zz (ge_s 2 a) (ge_s 2 b)).2
  have z2 := (ge_C_zz (ge_s 2 b) (ge_s 2 c)).1
  have c3 := (ge_C_cyc (ge_s 2 a) (ge_s 2 b) (ge_s 2 c)).2
  have qi : ge_int (ge_s K (ge_s 2 a)) (ge_s K (ge_s 2 b)) (ge_s K (ge_s 2 c)) Q := by
    rw [hQ]
    refine ⟨?_, ?_, ?_⟩
    · rw [ge_mv_t, z1]; exact Int.mul_pos hK0 (by have := Int.mul_pos (show 0 < K - 1 by omega) m1; omega)
    · rw [ge_mv_t, z2]; exact Int.mul_pos hK0 (by have := Int.mul_pos (show 0 < K - 1 by omega) m2; omega)
    · rw [ge_mv_t, m3, c3, Int.mul_zero]; exact Int.mul_pos hK0 (by omega)
  have p3 : ge_o (ge_s K (ge_s 2 c)) (ge_s K (ge_s 2 a)) P < 0 := by
    rw [hP, ge_mv_o, m3, c3, Int.mul_zero]
    have := Int.mul_pos hK0 F2
    rw [Int.zero_sub, Int.mul_neg]; omega
  have one : ge_wn (ge_S K (ge_s 2 b :: ge_s 2 c :: (ge_S 2 mid ++ [ge_s 2 a]))) Q = 1 := by
    rw [← ge_S_ear, ge_S_S]
    exact ge_C_one H Z (by omega) (by rw [← ge_s_s, ← ge_s_s, ← ge_s_s]; exact qi)
  have eP := (ge_wn_mv hf1).symm.trans ((ge_wn_mv hf2).trans one)
  have po : ge_off (ge_S K (ge_s 2 b :: ge_s 2 c :: (ge_S 2 mid ++ [ge_s 2 a]))) P := fun e he => ge_not_on (hf1 e he)
  rw [ge_S_ear] at po eP
  obtain ⟨o1, o2, o3⟩ := ge_C_of po
  rw [ge_wn_ear] at eP
  have n3 : ¬ ge_on (ge_s K (ge_s 2 c)) (ge_s K (ge_s 2 a)) P := fun z => by have := z.1; omega
  have w0 : ge_w3 (ge_s K (ge_s 2 a)) (ge_s K (ge_s 2 b)) (ge_s K (ge_s 2 c)) P = 0 := by
    rcases ge_w3_in HN.1 o1 o2 n3 with ⟨q, -⟩ | ⟨-, q⟩
    · have := q.2.2; omega
    · exact q
  have pt : ge_off (ge_s K (ge_s 2 c) :: (ge_S K (ge_S 2 mid) ++ [ge_s K (ge_s 2 a)])) P := ge_C_offt (fun z => n3 (ge_on_symm z)) o3
  have et : ge_s K (ge_s 2 c) :: (ge_S K (ge_S 2 mid) ++ [ge_s K (ge_s 2 a)]) = ge_S (K * 2) (c :: (mid ++ [a])) := by rw [← ge_S_cut, ← ge_S_cut, ge_S_S]
  rw [et] at pt eP
  rcases W.2 (K * 2) (by omega) P pt with q | q <;> omega
theorem ge_C_W (H : ge_C a b c mid) (Z : ∃ k : Int, 0 < k ∧ ∃ q : GPt, ge_int (ge_s k a) (ge_s k b) (ge_s k c) q ∧ ge_wn (ge_S k (c :: (mid ++ [a]))) q = 0) {s : Int} (W : ge_W (c :: (mid ++ [a])) s) : ge_W (b :: c :: (mid ++ [a])) 1 := by
  have s1 := ge_C_across H Z W
  subst s1
  refine ⟨Or.inl rfl, fun k hk p ho => ?_⟩
  have HK := ge_C_s hk H
  by_cases hac : ge_on (ge_s k a) (ge_s k c) p
  · refine Or.inr (ge_C_closed H Z hk (ge_ac_in HK.1 hac (fun q => ?_)) ho)
    have hn := (List.nodup_cons.mp H.2.1.1).2
    exact (List.nodup_cons.mp hn).1 (by rw [← ge_s_inj hk q]; simp)
  · by_cases hi : ge_int (ge_s k a) (ge_s k b) (ge_s k c) p
    · exact Or.inr (ge_C_one H Z hk hi)
    · rw [ge_S_ear] at ho ⊢
      obtain ⟨o1, o2, o3⟩ := ge_C_of ho
      have w0 : ge_w3 (ge_s k a) (ge_s k b) (ge_s k c) p = 0 := by
        rcases ge_w3_in HK.1 o1 o2 (fun z => hac (ge_on_symm z)) with ⟨q, -⟩ | ⟨-, q⟩
        · exact absurd q hi
        · exact q
      have pt := ge_C_offt (mid := ge_S k mid) hac o3
      rw [ge_wn_ear, w0, ← ge_S_cut, Int.add_zero]
      rw [← ge_S_cut] at pt
      exact W.2 k hk p pt
/-- a good ear counts 0 of the rest -/
theorem ge_C_good (H : ge_C a b c mid) (hg : ge_good (b :: c :: (mid ++ [a])) a b c) {s : Int} (W : ge_W (c :: (mid ++ [a])) s) : ∃ k : Int, 0 < k ∧ ∃ q : GPt, ge_int (ge_s k a) (ge_s k b) (ge_s k c) q ∧ ge_wn (ge_S k (c :: (mid ++ [a]))) q = 0 := by
  have h3 : (0 : Int) < 3 := by decide
  have H3 := ge_C_s h3 H
  obtain ⟨q, hq⟩ : ∃ q : GPt, q = (a.1 + b.1 + c.1, a.2 + b.2 + c.2) := ⟨_, rfl⟩
  have f : ∀ u v : GPt, ge_o (ge_s 3 u) (ge_s 3 v) q = 3 * (ge_o u v a + ge_o u v b + ge_o u v c) := fun u v => by rw [hq]; unfold ge_s ge_o; grind
  have F := H.1
  have qi : ge_int (ge_s 3 a) (ge_s 3 b) (ge_s 3 c) q := by
    refine ⟨?_, ?_, ?_⟩
    · rw [f, (ge_C_zz a b).1, (ge_C_zz a b).2]; omega
    · rw [f, (ge_C_zz b c).1, (ge_C_zz b c).2, (ge_C_cyc a b c).1]; omega
    · rw [f, (ge_C_zz c a).1, (ge_C_zz c a).2, (ge_C_cyc a b c).2]; omega
  refine ⟨3, h3, q, qi, ?_⟩
  obtain ⟨o1, o2⟩ := ge_C_int H3 qi
  rw [← ge_S_ear] at o1
  rw [← ge_S_cut] at o2
  have par := hg.2 3 h3 q (Or.inl (ge_int_in qi)) o1
  rw [ge_par_wn] at par
  have par := of_decide_eq_true par
  have w1 : ge_w3 (ge_s 3 a) (ge_s 3 b) (ge_s 3 c) q = 1 := ge_w3_int H3.1 qi
  rw [ge_S_ear, ge_wn_ear, w1, ← ge_S_cut] at par
  rcases W.2 3 h3 q o2 with z | z
  · exact z
  · rcases W.1 with r | r <;> omega
/-- an empty corner that turns to the polygon's side counts 0 of the rest: across the middle of ab -/
theorem ge_C_turn (H : ge_C a b c mid) (W : ge_W (b :: c :: (mid ++ [a])) 1) : ∃ k : Int, 0 < k ∧ ∃ q : GPt, ge_int (ge_s k a) (ge_s k b) (ge_s k c) q ∧ ge_wn (ge_S k (c :: (mid ++ [a]))) q = 0 := by
  have h2 : (0 : Int) < 2 := by decide
  have H2 := ge_C_s h2 H
  obtain ⟨m, hm⟩ : ∃ m : GPt, m = (a.1 + b.1, a.2 + b.2) := ⟨_, rfl⟩
  have w : ge_wt (ge_s 2 a) (ge_s 2 b) m 1 1 := ⟨by decide, by decide, by decide, by rw [hm]; unfold ge_s; grind, by rw [hm]; unfold ge_s; grind⟩
  have F2 := H2.1
  have e1 := ge_wt_o w (ge_s 2 a) (ge_s 2 b)
  have e2 := ge_wt_o w (ge_s 2 b) (ge_s 2 c)
  have e3 := ge_wt_o w (ge_s 2 c) (ge_s 2 a)
  rw [(ge_C_zz _ _).1, (ge_C_zz _ _).2] at e1
  rw [(ge_C_zz _ _).1, (ge_C_cyc (ge_s 2 a) (ge_s 2 b) (ge_s 2 c)).1] at e2
  rw [(ge_C_zz _ _).2, (ge_C_cyc (ge_s 2 a) (ge_s 2 b) (ge_s 2 c)).2] at e3
  have m1 : ge_o (ge_s 2 a) (ge_s 2 b) m = 0 := by omega
  have m2 : 0 < ge_o (ge_s 2 b) (ge_s 2 c) m := by omega
  have m3 : 0 < ge_o (ge_s 2 c) (ge_s 2 a) m := by omega
  have hne := ge_adj_ne H2.2.1.1 (by simp)
  have hbt := (List.nodup_cons.mp H2.2.1.1).1
  have mo : ge_off (ge_s 2 c :: (ge_S 2 mid ++ [ge_s 2 a])) m := by
    refine ge_C_offt (fun z => by have := (ge_on_symm z).1; omega) (fun e he z => ?_)
    have me := ge_ed_mem _ e he
    have hea : ge_adj (ge_s 2 b :: ge_s 2 c :: (ge_S 2 mid ++ [ge_s 2 a])) e.1 e.2 := Or.inl (by rw [ge_E_ear]; exact List.mem_cons_of_mem _ (List.mem_append_left _ he))
    have hab : ge_adj (ge_s 2 b :: ge_s 2 c :: (ge_S 2 mid ++ [ge_s 2 a])) (ge_s 2 a) (ge_s 2 b) := Or.inl (by rw [ge_E_ear]; simp)
    have hd : ¬ ((e.1 = ge_s 2 a ∧ e.2 = ge_s 2 b) ∨ (e.1 = ge_s 2 b ∧ e.2 = ge_s 2 a)) := fun q => by
      rcases q with ⟨-, q⟩ | ⟨q, -⟩
      · exact hbt (q ▸ me.2)
      · exact hbt (q ▸ me.1)
    rcases (ge_touch H2.2.1 hne hea hab hd z (ge_wt_on w)).2 with q | q
    · rw [q, (ge_C_zz _ _).2] at m3; omega
    · rw [q, (ge_C_zz _ _).1] at m2; omega
  obtain ⟨K, hK, hf⟩ := ge_eps (m.1 - (ge_s 2 c).1, m.2 - (ge_s 2 c).2) mo
  have hK0 : 0 < K := by omega
  obtain ⟨P, hP⟩ : ∃ P, P = ge_mvd K m (m.1 - (ge_s 2 c).1, m.2 - (ge_s 2 c).2) := ⟨_, rfl⟩
  obtain ⟨Q, hQ⟩ : ∃ Q, Q = ge_mvd K m (-(m.1 - (ge_s 2 c).1), -(m.2 - (ge_s 2 c).2)) := ⟨_, rfl⟩
  have hf1 : ∀ e ∈ ge_E (ge_S K (ge_s 2 c :: (ge_S 2 mid ++ [ge_s 2 a]))), ¬ ge_meet e.1 e.2 (ge_s K m) P := fun e he => by rw [hP]; exact (hf e he).1
  have hf2 : ∀ e ∈ ge_E (ge_S K (ge_s 2 c :: (ge_S 2 mid ++ [ge_s 2 a]))), ¬ ge_meet e.1 e.2 (ge_s K m) Q := fun e he => by rw [hQ]; exact (hf e he).2
  have HN := ge_C_s hK0 H2
  have qi : ge_int (ge_s K (ge_s 2 a)) (ge_s K (ge_s 2 b)) (ge_s K (ge_s 2 c)) Q := by
    rw [hQ]
    refine ⟨?_, ?_, ?_⟩
    · rw [ge_mv_t, m1, Int.mul_zero]; exact Int.mul_pos hK0 (by omega)
    · rw [ge_mv_t, (ge_C_zz _ _).2]; exact Int.mul_pos hK0 (by have := Int.mul_pos (show 0 < K - 1 by omega) m2; omega)
    · rw [ge_mv_t, (ge_C_zz _ _).1]; exact Int.mul_pos hK0 (by have := Int.mul_pos (show 0 < K - 1 by omega) m3; omega)
  have p1 : ge_o (ge_s K (ge_s 2 a)) (ge_s K (ge_s 2 b)) P < 0 := by
    rw [hP, ge_mv_o, m1, Int.mul_zero]
    have := Int.mul_pos hK0 F2
    rw [Int.zero_sub, Int.mul_neg]; omega
  have p2 : 0 < ge_o (ge_s K (ge_s 2 b)) (ge_s K (ge_s 2 c)) P := by
    rw [hP, ge_mv_o, (ge_C_zz _ _).2]
    exact Int.mul_pos hK0 (by have := Int.mul_pos (show 0 < K + 1 by omega) m2; omega)
  have p3 : 0 < ge_o (ge_s K (ge_s 2 c)) (ge_s K (ge_s 2 a)) P := by
    rw [hP, ge_mv_o, (ge_C_zz _ _).1]
    exact Int.mul_pos hK0 (by have := Int.mul_pos (show 0 < K + 1 by omega) m3; omega)
  have ePQ := (ge_wn_mv hf1).symm.trans (ge_wn_mv hf2)
  have po : ge_off (ge_S K (ge_s 2 c :: (ge_S 2 mid ++ [ge_s 2 a]))) P := fun e he => ge_not_on (hf1 e he)
  rw [ge_S_cut] at po ePQ
  have n1 : ¬ ge_on (ge_s K (ge_s 2 a)) (ge_s K (ge_s 2 b)) P := fun z => by have := z.1; omega
  have n2 : ¬ ge_on (ge_s K (ge_s 2 b)) (ge_s K (ge_s 2 c)) P := fun z => by have := z.1; omega
  have n3 : ¬ ge_on (ge_s K (ge_s 2 c)) (ge_s K (ge_s 2 a)) P := fun z => by have := z.1; omega
  have po3 : ∀ e ∈ ge_ed (ge_s K (ge_s 2 c) :: (ge_S K (ge_S 2 mid) ++ [ge_s K (ge_s 2 a)])), ¬ ge_on e.1 e.2 P := fun e he => po e (by rw [ge_E_cut]; exact List.mem_append_left _ he)
  have pl := ge_C_off (mid := ge_S K (ge_S 2 mid)) n1 n2 po3
  have ql := (ge_C_int HN qi).1
  have el : ge_s K (ge_s 2 b) :: ge_s K (ge_s 2 c) :: (ge_S K (ge_S 2 mid) ++ [ge_s K (ge_s 2 a)]) = ge_S (K * 2) (b :: c :: (mid ++ [a])) := by rw [← ge_S_ear, ← ge_S_ear, ge_S_S]
  have et : ge_s K (ge_s 2 c) :: (ge_S K (ge_S 2 mid) ++ [ge_s K (ge_s 2 a)]) = ge_S (K * 2) (c :: (mid ++ [a])) := by rw [← ge_S_cut, ← ge_S_cut, ge_S_S]
  have hK2 : 0 < K * 2 := by omega
  rw [el] at pl ql
  have vP := W.2 (K * 2) hK2 P pl
  have vQ := W.2 (K * 2) hK2 Q ql
  rw [← el, ge_wn_ear] at vP vQ
  have w0 : ge_w3 (ge_s K (ge_s 2 a)) (ge_s K (ge_s 2 b)) (ge_s K (ge_s 2 c)) P = 0 := by
    rcases ge_w3_in HN.1 n1 n2 n3 with ⟨q, -⟩ | ⟨-, q⟩
    · have := q.1; omega
    · exact q
  have w1 : ge_w3 (ge_s K (ge_s 2 a)) (ge_s K (ge_s 2 b)) (ge_s K (ge_s 2 c)) Q = 1 := ge_w3_int HN.1 qi
  refine ⟨K * 2, hK2, Q, by rw [← ge_s_s, ← ge_s_s, ← ge_s_s]; exact qi, ?_⟩
  rw [← et]
  omega
theorem ge_C_isgood (H : ge_C a b c mid) (Z : ∃ k : Int, 0 < k ∧ ∃ q : GPt, ge_int (ge_s k a) (ge_s k b) (ge_s k c) q ∧ ge_wn (ge_S k (c :: (mid ++ [a]))) q = 0) : ge_good (b :: c :: (mid ++ [a])) a b c := by
  refine ⟨fun w hw h1 h2 h3 z => ?_, fun k hk p hp ho => ?_⟩
  · rcases List.mem_cons.mp hw with q | q
    · exact h2 q
    · exact H.2.2.1 w q h1 h3 (ge_tc_in H.1 z)
  · rw [ge_par_wn, ge_C_closed H Z hk (ge_tc_in (ge_C_s hk H).1 hp) ho]
    rfl
end Corner
-- i5.orient
/-! the sign of the area is the side of the polygon: ears turn to it, and cutting them keeps it -/
def ge_ap : List GPt → Int
  | [] => 0
  | [_] => 0
  | a :: b :: r => (a.1 * b.2 - b.1 * a.2) + ge_ap (b :: r)
/-- twice the signed area -/
def ge_ar (l : List GPt) : Int := ge_ap (ge_cy l)
theorem ge_ap_app (xs : List GPt) (m : GPt) (ys : List GPt) : ge_ap (xs ++ m :: ys) = ge_ap (xs ++ [m]) + ge_ap (m :: ys) := by
  induction xs with
  | nil => show ge_ap (m :: ys) = 0 + ge_ap (m :: ys); omega
  | cons a r ih =>
    cases r with
    | nil => show (a.1 * m.2 - m.1 * a.2) + ge_ap (m :: ys) = ((a.1 * m.2 - m.1 * a.2) + 0) + ge_ap (m :: ys); omega
    | cons b r =>
      show (a.1 * b.2 - b.1 * a.2) + ge_ap (b :: r ++ m :: ys) = ((a.1 * b.2 - b.1 * a.2) + ge_ap (b :: r ++ [m])) + ge_ap (m :: ys)
      rw [ih]; omega
theorem ge_ar_rot (s t : List GPt) : ge_ar (s ++ t) = ge_ar (t ++ s) := by
  cases s with
  | nil => simp
  | cons a s =>
    cases t with
    | nil => simp
    | cons b t =>
      have h1 : ge_ar (a :: s ++ b :: t) = ge_ap (a :: s ++ [b]) + ge_ap (b :: t ++ [a]) := by
        show ge_ap (a :: (s ++ b :: t) ++ [a]) = _
        rw [show a :: (s ++ b :: t) ++ [a] = (a :: s) ++ b :: (t ++ [a]) by simp, ge_ap_app]
        rfl
      have h2 : ge_ar (b :: t ++ a :: s) = ge_ap (b :: t ++ [a]) + ge_ap (a :: s ++ [b]) := by
        show ge_ap (b :: (t ++ a :: s) ++ [b]) = _
        rw [show b :: (t ++ a :: s) ++ [b] = (b :: t) ++ a :: (s ++ [b]) by simp, ge_ap_app]
        rfl
      rw [h1, h2]
      omega
theorem ge_ap_rev (l : List GPt) : ge_ap l.reverse = -ge_ap l := by
  induction l with
  | nil => rfl
  | cons a r ih =>
    cases r with
    | nil => rfl
    | cons b r =>
      rw [show (a :: b :: r).reverse = r.reverse ++ b :: [a] by simp, ge_ap_app]
      rw [show r.reverse ++ [b] = (b :: r).reverse by simp, ih]
      show -ge_ap (b :: r) + ((b.1 * a.2 - a.1 * b.2) + 0) = -((a.1 * b.2 - b.1 * a.2) + ge_ap (b :: r))
      omega
theorem ge_ar_rev (b : GPt) (t : List GPt) : ge_ar (b :: t.reverse) = -ge_ar (b :: t) := by
  unfold ge_ar
  rw [ge_cy_rev, ge_ap_rev]
theorem ge_ar_ear (a b c : GPt) (mid : List GPt) : ge_ar (b :: c :: (mid ++ [a])) = ge_ar (c :: (mid ++ [a])) + ge_o a b c := by
  have h1 : ge_ar (b :: c :: (mid ++ [a])) = (b.1 * c.2 - c.1 * b.2) + (ge_ap (c :: (mid ++ [a])) + (a.1 * b.2 - b.1 * a.2)) := by
    show ge_ap (b :: (c :: (mid ++ [a])) ++ [b]) = _
    rw [show b :: (c :: (mid ++ [a])) ++ [b] = (b :: c :: mid) ++ a :: [b] by simp, ge_ap_app]
    show ((b.1 * c.2 - c.1 * b.2) + ge_ap (c :: mid ++ [a])) + ((a.1 * b.2 - b.1 * a.2) + 0) = _
    rw [show c :: mid ++ [a] = c :: (mid ++ [a]) by simp]
    omega
  have h2 : ge_ar (c :: (mid ++ [a])) = ge_ap (c :: (mid ++ [a])) + (a.1 * c.2 - c.1 * a.2) := by
    show ge_ap (c :: (mid ++ [a]) ++ [c]) = _
    rw [show c :: (mid ++ [a]) ++ [c] = (c :: mid) ++ a :: [c] by simp, ge_ap_app]
    show ge_ap (c :: mid ++ [a]) + ((a.1 * c.2 - c.1 * a.2) + 0) = _
    rw [show c :: mid ++ [a] = c :: (mid ++ [a]) by simp]
    omega
  have h3 : ge_o a b c = (b.1 * c.2 - c.1 * b.2) + (a.1 * b.2 - b.1 * a.2) - (a.1 * c.2 - c.1 * a.2) := by unfold ge_o; grind
  rw [h1, h2, h3]
  omega
theorem ge_W_rot {s t : List GPt} {σ : Int} (h : ge_W (s ++ t) σ) : ge_W (t ++ s) σ := by
  refine ⟨h.1, fun k hk p ho => ?_⟩
  have ho' := (ge_eqv_off (ge_eqv_rot s t)).mpr ho
  have := h.2 k hk p ho'
  rw [ge_S_app, ge_wn_rot, ← ge_S_app] at this
  exact this
theorem ge_W_rev {b : GPt} {t : List GPt} {σ : Int} (h : ge_W (b :: t) σ) : ge_W (b :: t.reverse) (-σ) := by
  refine ⟨by have := h.1; omega, fun k hk p ho => ?_⟩
  have ho' := (ge_eqv_off (ge_eqv_rev b t)).mpr ho
  have := h.2 k hk p ho'
  rw [show ge_S k (b :: t.reverse) = ge_s k b :: (ge_S k t).reverse by simp [ge_S], ge_wn_rev]
  have e : ge_S k (b :: t) = ge_s k b :: ge_S k t := rfl
  rw [e] at this
  omega
theorem ge_nb {a b c w : GPt} {mid : List GPt} (hn : (b :: c :: (mid ++ [a])).Nodup) (h : ge_adj (b :: c :: (mid ++ [a])) b w) : w = a ∨ w = c := by
  have hb := (List.nodup_cons.mp hn).1
  have hat : a ∈ c :: (mid ++ [a]) := by simp
  unfold ge_adj at h
  rw [ge_E_ear] at h
  have nin : ∀ q : GPt × GPt, q ∈ ge_ed (c :: (mid ++ [a])) → q.1 ≠ b ∧ q.2 ≠ b := fun q hq => ⟨fun z => hb (z ▸ (ge_ed_mem _ q hq).1), fun z => hb (z ▸ (ge_ed_mem _ q hq).2)⟩
  rcases h with h | h
  · rcases List.mem_cons.mp h with h | h
    · exact Or.inr (Prod.mk.inj h).2
    · rcases List.mem_append.mp h with h | h
      · exact absurd rfl (nin _ h).1
      · have := (Prod.mk.inj (List.mem_singleton.mp h)).1
        exact absurd (this ▸ hat) hb
  · rcases List.mem_cons.mp h with h | h
    · have := (Prod.mk.inj h).2
      exact absurd (this ▸ List.mem_cons_self) hb
    · rcases List.mem_append.mp h with h | h
      · exact absurd rfl (nin _ h).2
      · exact Or.inl (Prod.mk.inj (List.mem_singleton.mp h)).1
theorem ge_W_3 {a b c : GPt} (hF : 0 < ge_o a b c) : ge_W (b :: c :: ([] ++ [a])) 1 ∧ 0 < ge_ar (b :: c :: ([] ++ [a])) := by
  refine ⟨⟨Or.inl rfl, fun k hk p ho => ?_⟩, ?_⟩
  · rw [ge_S_ear] at ho ⊢
    obtain ⟨o1, o2, o3⟩ := ge_C_of ho
    have n3 := o3 (ge_s k c, ge_s k a) List.mem_cons_self
    have h := ge_w3_01 (by rw [ge_o_s]; exact Int.mul_pos (ge_mm hk) hF) o1 o2 n3
    rw [ge_wn_ear]
    have z : ge_wn (ge_s k c :: (ge_S k [] ++ [ge_s k a])) p = 0 := by
      show ge_sc (ge_s k c) (ge_s k a) p + (ge_sc (ge_s k a) (ge_s k c) p + 0) = 0
      rw [ge_sc_swap (ge_s k c) (ge_s k a)]; omega
    rw [z]
    omega
  · rw [ge_ar_ear]
    have z : ge_ar (c :: ([] ++ [a])) = 0 := by
      show (c.1 * a.2 - a.1 * c.2) + ((a.1 * c.2 - c.1 * a.2) + 0) = 0
      omega
    omega
theorem ge_turn_pos {n : Nat} (ih : ∀ l : List GPt, l.length ≤ n → 3 ≤ l.length → ge_simple l → ∃ σ : Int, ge_W l σ ∧ 0 < σ * ge_ar l) {a b c : GPt} {mid : List GPt} (hlen : mid.length + 3 ≤ n + 1) (hF : 0 < ge_o a b c) (hs : ge_simple (b :: c :: (mid ++ [a]))) (hg : ge_good (b :: c :: (mid ++ [a])) a b c) : ge_W (b :: c :: (mid ++ [a])) 1 ∧ 0 < ge_ar (b :: c :: (mid ++ [a])) := by
  by_cases hm : mid = []
  · subst hm; exact ge_W_3 hF
  · have hm1 : 0 < mid.length := List.length_pos_iff.mpr hm
    have hb := (List.nodup_cons.mp hs.1).1
    have H : ge_C a b c mid := ⟨hF, hs, fun w hw h1 h2 z => hg.1 w (List.mem_cons_of_mem _ hw) h1 (fun q => hb (q ▸ hw)) h2 (Or.inl z), hm⟩
    obtain ⟨σ, W, ha⟩ := ih (c :: (mid ++ [a])) (by simp; omega) (by simp; omega) (ge_cut_simple H.1 H.2.1 H.2.2.1)
    have Z := ge_C_good H hg W
    have s1 := ge_C_across H Z W
    refine ⟨ge_C_W H Z W, ?_⟩
    rw [ge_ar_ear]
    subst s1
    omega
/-- a corner with an empty triangle on the side σ -/
def ge_ear (l : List GPt) (σ : Int) (s r : List GPt) (a e c : GPt) (mid : List GPt) : Prop := l = s ++ e :: r ∧ r ++ s = c :: (mid ++ [a]) ∧ 0 < σ * ge_o a e c ∧ ∀ w ∈ l, w ≠ a → w ≠ e → w ≠ c → ¬ ge_tc a e c w
theorem ge_turn_n : ∀ (n : Nat) (l : List GPt), l.length ≤ n → 3 ≤ l.length → ge_simple l → (∃ σ : Int, ge_W l σ ∧ 0 < σ * ge_ar l ∧ ∃ (s r : List GPt) (a e c : GPt) (mid : List GPt), ge_ear l σ s r a e c mid)
  | 0, l, h1, h2, _ => by omega
  | n + 1, l, h1, h2, hs => by
    have ih : ∀ l : List GPt, l.length ≤ n → 3 ≤ l.length → ge_simple l → ∃ σ : Int, ge_W l σ ∧ 0 < σ * ge_ar l := fun l q1 q2 q3 => by
      obtain ⟨σ, w1, w2, -⟩ := ge_turn_n n l q1 q2 q3
      exact ⟨σ, w1, w2⟩
    obtain ⟨u, v, r0, rfl⟩ : ∃ u v r, l = u :: v :: r := by
      match l, h2 with
      | u :: v :: r, _ => exact ⟨u, v, r, rfl⟩
    obtain ⟨x, e, y, g1, g2, g3, -, -, g6, g7⟩ := ge_ears h2 hs u v (Or.inl List.mem_cons_self)
    obtain ⟨s, r, hl⟩ := List.append_of_mem (ge_adj_mem g1).2
    rw [hl] at h1 h2 hs g1 g2 g7 ⊢
    clear hl
    have eq1 := ge_eqv_rot s (e :: r)
    have nd1 : (e :: r ++ s).Nodup := List.perm_append_comm.nodup_iff.mp hs.1
    have hs1 := ge_eqv_simple eq1 nd1 hs
    have hlen : (r ++ s).length = (s ++ e :: r).length - 1 := by simp; omega
    obtain ⟨c, mid, a, ht⟩ := ge_two (t := r ++ s) (by omega)
    have g1' := (eq1.2.1 _ _).mp g1
    have g2' := (eq1.2.1 _ _).mp g2
    have g7' := ge_eqv_good eq1 g7
    rw [show e :: r ++ s = e :: (r ++ s) by simp, ht] at hs1 nd1 g1' g2' g7'
    rw [ht] at hlen
    have hl2 : mid.length + 3 ≤ n + 1 := by simp at hlen h1; omega
    have hgac : ge_good (e :: c :: (mid ++ [a])) a e c ∧ ge_o a e c ≠ 0 := by
      have sw : ge_o y e x = -ge_o x e y := by unfold ge_o; grind
      rcases ge_nb nd1 (ge_adj_symm g1') with q1 | q1 <;> rcases ge_nb nd1 g2' with q2 | q2
      · exact absurd (q1.trans q2.symm) g3
      · subst q1; subst q2; exact ⟨g7', g6⟩
      · subst q1; subst q2; exact ⟨ge_good_symm g7', by omega⟩
      · exact absurd (q1.trans q2.symm) g3
    obtain ⟨hg, hF0⟩ := hgac
    have hemp : ∀ w ∈ s ++ e :: r, w ≠ a → w ≠ e → w ≠ c → ¬ ge_tc a e c w := fun w hw => by
      refine hg.1 w ?_
      rw [← ht]; simp at hw ⊢; grind
    have fin : ∀ σ : Int, ge_W (e :: c :: (mid ++ [a])) σ → 0 < σ * ge_ar (e :: c :: (mid ++ [a])) → 0 < σ * ge_o a e c → ∃ σ : Int, ge_W (s ++ e :: r) σ ∧ 0 < σ * ge_ar (s ++ e :: r) ∧ ∃ (s' r' : List GPt) (a e' c : GPt) (mid : List GPt), ge_ear (s ++ e :: r) σ s' r' a e' c mid := fun σ w1 w2 w3 => by
      rw [← ht] at w1 w2
      refine ⟨σ, ge_W_rot (s := e :: r) (t := s) w1, ?_, s, r, a, e, c, mid, rfl, ht, w3, hemp⟩
      rw [ge_ar_rot]
      exact w2
    rcases Int.lt_or_lt_of_ne hF0 with q | q
    · have eq2 := ge_eqv_rev e (c :: (mid ++ [a]))
      have er : (c :: (mid ++ [a])).reverse = a :: (mid.reverse ++ [c]) := by simp
      have hg2 := ge_good_symm (ge_eqv_good eq2 hg)
      have nd2 : (e :: (c :: (mid ++ [a])).reverse).Nodup := List.nodup_cons.mpr ⟨fun z => (List.nodup_cons.mp nd1).1 (List.mem_reverse.mp z), (List.reverse_perm _).nodup_iff.mpr (List.nodup_cons.mp nd1).2⟩
      have hs2 := ge_eqv_simple eq2 nd2 hs1
      have ar2 := ge_ar_rev e (c :: (mid ++ [a]))
      rw [er] at hg2 hs2 ar2
      have sw : ge_o c e a = -ge_o a e c := by unfold ge_o; grind
      obtain ⟨w1, w2⟩ := ge_turn_pos ih (by simp; omega) (by omega) hs2 hg2
      have w3 := ge_W_rev w1
      rw [← er, List.reverse_reverse] at w3
      exact fin (-1) w3 (by omega) (by omega)
    · obtain ⟨w1, w2⟩ := ge_turn_pos ih hl2 q hs1 hg
      exact fin 1 w1 (by omega) (by omega)
/-- a simple polygon has an ear on the side of its area's sign -/
theorem ge_orient {l : List GPt} (h3 : 3 ≤ l.length) (hs : ge_simple l) : ∃ σ : Int, ge_W l σ ∧ 0 < σ * ge_ar l ∧ ∃ (s r : List GPt) (a e c : GPt) (mid : List GPt), ge_ear l σ s r a e c mid := ge_turn_n l.length l (Nat.le_refl _) h3 hs
theorem ge_sgn {σ τ x : Int} (h1 : σ = 1 ∨ σ = -1) (h2 : τ = 1 ∨ τ = -1) (h3 : 0 < σ * x) (h4 : 0 < τ * x) : σ = τ := by
  rcases h1 with h1 | h1 <;> rcases h2 with h2 | h2 <;> subst h1 <;> subst h2 <;> omega
theorem ge_cut_pos {a b c : GPt} {mid : List GPt} (H : ge_C a b c mid) (ha : 0 < ge_ar (b :: c :: (mid ++ [a]))) : ge_simple (c :: (mid ++ [a])) ∧ 0 < ge_ar (c :: (mid ++ [a])) ∧ ge_good (b :: c :: (mid ++ [a])) a b c := by
  have hst := ge_cut_simple H.1 H.2.1 H.2.2.1
  have hm1 : 0 < mid.length := List.length_pos_iff.mpr H.2.2.2
  obtain ⟨σ, w1, w2, -⟩ := ge_orient (by simp) H.2.1
  have s1 := ge_sgn w1.1 (Or.inl rfl) w2 (by omega : (0 : Int) < 1 * ge_ar (b :: c :: (mid ++ [a])))
  subst s1
  obtain ⟨τ, v1, v2, -⟩ := ge_orient (l := c :: (mid ++ [a])) (by simp; omega) hst
  have Z := ge_C_turn H w1
  have t1 := ge_C_across H Z v1
  subst t1
  exact ⟨hst, by omega, ge_C_isgood H Z⟩
/-- cutting such an ear keeps the polygon simple and its side; and the ear is good -/
theorem ge_cut_ok {l s r mid : List GPt} {a e c : GPt} {σ : Int} (hs : ge_simple l) (hσ : σ = 1 ∨ σ = -1) (ha : 0 < σ * ge_ar l) (he : ge_ear l σ s r a e c mid) (hm : mid ≠ []) : ge_simple (s ++ r) ∧ 0 < σ * ge_ar (s ++ r) ∧ ge_good l a e c := by
  obtain ⟨rfl, ht, ho, hem⟩ := he
  have eq1 := ge_eqv_rot s (e :: r)
  have nd1 : (e :: r ++ s).Nodup := List.perm_append_comm.nodup_iff.mp hs.1
  have hs1 := ge_eqv_simple eq1 nd1 hs
  have eqt := ge_eqv_rot r s
  have ar1 : ge_ar (s ++ e :: r) = ge_ar (e :: c :: (mid ++ [a])) := by rw [ge_ar_rot, show e :: r ++ s = e :: (r ++ s) by simp, ht]
  have ar2 : ge_ar (s ++ r) = ge_ar (c :: (mid ++ [a])) := by rw [ge_ar_rot, ht]
  have ndt : (s ++ r).Nodup := List.perm_append_comm.nodup_iff.mp (List.nodup_cons.mp nd1).2
  have eq1' := eq1
  rw [show e :: r ++ s = e :: (r ++ s) by simp, ht] at hs1 nd1 eq1'
  rw [ht] at eqt
  have hb := (List.nodup_cons.mp nd1).1
  have hem1 : ∀ w ∈ e :: c :: (mid ++ [a]), w ≠ a → w ≠ e → w ≠ c → ¬ ge_tc a e c w := fun w hw => hem w ((eq1'.1 w).mpr hw)
  rw [ar1] at ha
  rw [ar2]
  rcases hσ with h | h <;> subst h
  · have H : ge_C a e c mid := ⟨by omega, hs1, fun w hw h1 h2 z => hem1 w (List.mem_cons_of_mem _ hw) h1 (fun q => hb (q ▸ hw)) h2 (Or.inl z), hm⟩
    obtain ⟨k1, k2, k3⟩ := ge_cut_pos H (by omega)
    exact ⟨ge_eqv_simple eqt ndt k1, by omega, ge_eqv_good (ge_eqv_symm eq1') k3⟩
  · have er : (c :: (mid ++ [a])).reverse = a :: (mid.reverse ++ [c]) := by simp
    have eq2 := ge_eqv_rev e (c :: (mid ++ [a]))
    have nd2 : (e :: (c :: (mid ++ [a])).reverse).Nodup := List.nodup_cons.mpr ⟨fun z => (List.nodup_cons.mp nd1).1 (List.mem_reverse.mp z), (List.reverse_perm _).nodup_iff.mpr (List.nodup_cons.mp nd1).2⟩
    have hs2 := ge_eqv_simple eq2 nd2 hs1
    have arr := ge_ar_rev e (c :: (mid ++ [a]))
    rw [er] at hs2 nd2 arr eq2
    have sw : ge_o c e a = -ge_o a e c := by unfold ge_o; grind
    have hb2 := (List.nodup_cons.mp nd2).1
    have H : ge_C c e a mid.reverse := ⟨by omega, hs2, fun w hw h1 h2 z => hem1 w ((eq2.1 w).mpr (List.mem_cons_of_mem _ hw)) h2 (fun q => hb2 (q ▸ hw)) h1 (Or.inr z), fun q => hm (List.reverse_eq_nil_iff.mp q)⟩
    obtain ⟨k1, k2, k3⟩ := ge_cut_pos H (by omega)
    have hmid : ge_ar (a :: (mid.reverse ++ [c])) = -ge_ar (c :: (mid ++ [a])) := by
      have e1 := ge_ar_ear a e c mid
      have e2 := ge_ar_ear c e a mid.reverse
      omega
    have eq3 : ge_eqv (c :: (mid ++ [a])) (a :: (mid.reverse ++ [c])) := by
      have q1 := ge_eqv_rev c (mid ++ [a])
      have q2 := ge_eqv_rot [c] (mid ++ [a]).reverse
      have e3 : [c] ++ (mid ++ [a]).reverse = c :: (mid ++ [a]).reverse := rfl
      have e4 : (mid ++ [a]).reverse ++ [c] = a :: (mid.reverse ++ [c]) := by simp
      rw [e3, e4] at q2
      exact ge_eqv_trans q1 q2
    refine ⟨ge_eqv_simple (ge_eqv_trans (ge_eqv_symm eq3) eqt) ndt k1, by omega, ge_eqv_good (ge_eqv_symm eq1') (ge_eqv_good (ge_eqv_symm eq2) (ge_good_symm k3))⟩
-- i6.cover
/-! the ears' triangles cover the closed polygon and lie in it; three colours -/
/-- the closed polygon, at scale k -/
def ge_cl (k : Int) (l : List GPt) (p : GPt) : Prop := ge_off (ge_S k l) p → ge_par (ge_S k l) p = true
def ge_cov (l : List GPt) (TS : List (GPt × GPt × GPt)) (col : GPt → Nat) : Prop :=
  (∀ T ∈ TS, T.1 ∈ l ∧ T.2.1 ∈ l ∧ T.2.2 ∈ l ∧ ge_o T.1 T.2.1 T.2.2 ≠ 0) ∧
  (∀ T ∈ TS, ∀ k : Int, 0 < k → ∀ p : GPt, ge_tc (ge_s k T.1) (ge_s k T.2.1) (ge_s k T.2.2) p → ge_cl k l p) ∧
  (∀ T ∈ TS, ∀ u v : GPt, ge_adj l u v → ∀ p q : GPt, ge_tc T.1 T.2.1 T.2.2 p → ge_tc T.1 T.2.1 T.2.2 q → ¬ ge_x u v p q) ∧
  (∀ k : Int, 0 < k → ∀ p : GPt, ge_cl k l p → ∃ T ∈ TS, ge_tc (ge_s k T.1) (ge_s k T.2.1) (ge_s k T.2.2) p) ∧
  (∀ v : GPt, col v < 3) ∧ (∀ u v : GPt, ge_adj l u v → col u ≠ col v) ∧ (∀ T ∈ TS, col T.1 ≠ col T.2.1 ∧ col T.2.1 ≠ col T.2.2 ∧ col T.2.2 ≠ col T.1)
theorem ge_eqv_cl {l l' : List GPt} (h : ge_eqv l l') {k : Int} {p : GPt} : ge_cl k l p ↔ ge_cl k l' p := by
  unfold ge_cl
  rw [ge_eqv_off h, h.2.2]
theorem ge_eqv_cov {l l' : List GPt} (h : ge_eqv l l') {TS : List (GPt × GPt × GPt)} {col : GPt → Nat} (g : ge_cov l TS col) : ge_cov l' TS col := by
  obtain ⟨g1, g2, g3, g4, g5, g6, g7⟩ := g
  refine ⟨fun T hT => ?_, fun T hT k hk p hp => (ge_eqv_cl h).mp (g2 T hT k hk p hp), fun T hT u v huv => g3 T hT u v ((h.2.1 u v).mpr huv), fun k hk p hp => g4 k hk p ((ge_eqv_cl h).mpr hp), g5, fun u v huv => g6 u v ((h.2.1 u v).mpr huv), g7⟩
  obtain ⟨a1, a2, a3, a4⟩ := g1 T hT
  exact ⟨(h.1 _).mp a1, (h.1 _).mp a2, (h.1 _).mp a3, a4⟩
section Cover
variable {a b c : GPt} {mid : List GPt}
/-- also on ab and bc the rest counts 0 -/
theorem ge_C_zero2 (H : ge_C a b c mid) (Z : ∃ k : Int, 0 < k ∧ ∃ q : GPt, ge_int (ge_s k a) (ge_s k b) (ge_s k c) q ∧ ge_wn (ge_S k (c :: (mid ++ [a]))) q = 0) {k : Int} (hk : 0 < k) {p : GPt} (hp : ge_in (ge_s k a) (ge_s k b) (ge_s k c) p) (hp3 : 0 < ge_o (ge_s k c) (ge_s k a) p) : ¬ ge_cl k (c :: (mid ++ [a])) p := by
  have HK := ge_C_s hk H
  have sd := ge_sides HK.2.1 HK.2.2.1
  have off : ge_off (ge_S k (c :: (mid ++ [a]))) p := by
    rw [ge_S_cut]
    exact ge_C_offt (fun z => by have := (ge_on_symm z).1; omega) (fun e he z => ge_side_K (sd e he) z hp hp3)
  intro hcl
  have par := hcl off
  have h3 : (0 : Int) < 3 := by decide
  have H3 := ge_C_s h3 HK
  obtain ⟨q, hq⟩ : ∃ q : GPt, q = ((ge_s k a).1 + (ge_s k b).1 + (ge_s k c).1, (ge_s k a).2 + (ge_s k b).2 + (ge_s k c).2) := ⟨_, rfl⟩
  have f : ∀ u v : GPt, ge_o (ge_s 3 u) (ge_s 3 v) q = 3 * (ge_o u v (ge_s k a) + ge_o u v (ge_s k b) + ge_o u v (ge_s k c)) := fun u v => by
    rw [hq]; generalize ge_s k a = A; generalize ge_s k b = B; generalize ge_s k c = C; unfold ge_s ge_o; grind
  have F := HK.1
  have qi : ge_int (ge_s 3 (ge_s k a)) (ge_s 3 (ge_s k b)) (ge_s 3 (ge_s k c)) q := by
    refine ⟨?_, ?_, ?_⟩
    · rw [f, (ge_C_zz _ _).1, (ge_C_zz _ _).2]; omega
    · rw [f, (ge_C_zz _ _).1, (ge_C_zz _ _).2, (ge_C_cyc (ge_s k a) (ge_s k b) (ge_s k c)).1]; omega
    · rw [f, (ge_C_zz _ _).1, (ge_C_zz _ _).2, (ge_C_cyc (ge_s k a) (ge_s k b) (ge_s k c)).2]; omega
  have hp' := (ge_in_s h3 (ge_s k a) (ge_s k b) (ge_s k c) p).mpr hp
  have hp3' : 0 < ge_o (ge_s 3 (ge_s k c)) (ge_s 3 (ge_s k a)) (ge_s 3 p) := by rw [ge_o_s]; omega
  have sd3 := ge_sides H3.2.1 H3.2.2.1
  have mv : ge_wn (ge_s 3 (ge_s k c) :: (ge_S 3 (ge_S k mid) ++ [ge_s 3 (ge_s k a)])) (ge_s 3 p) = ge_wn (ge_s 3 (ge_s k c) :: (ge_S 3 (ge_S k mid) ++ [ge_s 3 (ge_s k a)])) q := by
    refine ge_wn_mv (fun e he => ?_)
    rw [ge_E_cut] at he
    rcases List.mem_append.mp he with z | z
    · exact ge_free (sd3 e z) hp' hp3' (ge_int_in qi) qi.2.2
    · rw [List.mem_singleton.mp z]; exact ge_free3 hp3' qi.2.2
  have z0 : ge_wn (ge_S (3 * k) (c :: (mid ++ [a]))) q = 0 := ge_C_zero H Z (by omega) (by rw [← ge_s_s, ← ge_s_s, ← ge_s_s]; exact qi)
  rw [← ge_S_cut, ge_wn_s h3, ← ge_S_cut, ge_S_S, z0] at mv
  rw [ge_par_wn, mv] at par
  cases par
theorem ge_C_up (H : ge_C a b c mid) (Z : ∃ k : Int, 0 < k ∧ ∃ q : GPt, ge_int (ge_s k a) (ge_s k b) (ge_s k c) q ∧ ge_wn (ge_S k (c :: (mid ++ [a]))) q = 0) {k : Int} (hk : 0 < k) {p : GPt} (hp : ge_cl k (c :: (mid ++ [a])) p) : ge_cl k (b :: c :: (mid ++ [a])) p := by
  intro ho
  have HK := ge_C_s hk H
  have hac : ge_s k a ≠ ge_s k c := fun q => (List.nodup_cons.mp (List.nodup_cons.mp H.2.1.1).2).1 (by rw [← ge_s_inj hk q]; simp)
  by_cases hon : ge_on (ge_s k a) (ge_s k c) p
  · rw [ge_par_wn, ge_C_closed H Z hk (ge_ac_in HK.1 hon hac) ho]; rfl
  · have ho2 := ho
    rw [ge_S_ear] at ho2
    obtain ⟨o1, o2, o3⟩ := ge_C_of ho2
    have ot : ge_off (ge_S k (c :: (mid ++ [a]))) p := by rw [ge_S_cut]; exact ge_C_offt hon o3
    have par := hp ot
    have nint : ¬ ge_int (ge_s k a) (ge_s k b) (ge_s k c) p := fun z => ge_C_zero2 H Z hk (ge_int_in z) z.2.2 hp
    rw [ge_S_ear, ge_par_ear, ge_false_of (ge_tri HK.1 o1 o2 (fun z => hon (ge_on_symm z))) nint, ← ge_S_cut, par]
    rfl
theorem ge_C_dn (H : ge_C a b c mid) {k : Int} (hk : 0 < k) {p : GPt} (hp : ge_cl k (b :: c :: (mid ++ [a])) p) : ge_in (ge_s k a) (ge_s k b) (ge_s k c) p ∨ ge_cl k (c :: (mid ++ [a])) p := by
  have HK := ge_C_s hk H
  by_cases hin : ge_in (ge_s k a) (ge_s k b) (ge_s k c) p
  · exact Or.inl hin
  · refine Or.inr (fun ot => ?_)
    have ot2 := ot
    rw [ge_S_cut] at ot2
    unfold ge_off at ot2
    rw [ge_E_cut] at ot2
    have n3 : ¬ ge_on (ge_s k a) (ge_s k c) p := ot2 _ (List.mem_append_right _ List.mem_cons_self)
    have F := HK.1
    have va : ge_in (ge_s k a) (ge_s k b) (ge_s k c) (ge_s k a) := ⟨by rw [(ge_C_zz _ _).1]; omega, by rw [(ge_C_cyc (ge_s k a) (ge_s k b) (ge_s k c)).1]; omega, by rw [(ge_C_zz _ _).2]; omega⟩
    have vb : ge_in (ge_s k a) (ge_s k b) (ge_s k c) (ge_s k b) := ⟨by rw [(ge_C_zz _ _).2]; omega, by rw [(ge_C_zz _ _).1]; omega, by rw [(ge_C_cyc (ge_s k a) (ge_s k b) (ge_s k c)).2]; omega⟩
    have vc : ge_in (ge_s k a) (ge_s k b) (ge_s k c) (ge_s k c) := ⟨by omega, by rw [(ge_C_zz _ _).2]; omega, by rw [(ge_C_zz _ _).1]; omega⟩
    have n1 : ¬ ge_on (ge_s k a) (ge_s k b) p := fun z => hin (ge_on_in z va vb)
    have n2 : ¬ ge_on (ge_s k b) (ge_s k c) p := fun z => hin (ge_on_in z vb vc)
    have ol : ge_off (ge_S k (b :: c :: (mid ++ [a]))) p := by
      rw [ge_S_ear]; exact ge_C_off n1 n2 (fun e he => ot2 e (List.mem_append_left _ he))
    have par := hp ol
    rw [ge_S_ear, ge_par_ear, ge_false_of (ge_tri HK.1 n1 n2 (fun z => n3 (ge_on_symm z))) (fun z => hin (ge_int_in z)), ← ge_S_cut] at par
    revert par
    cases ge_par (ge_S k (c :: (mid ++ [a]))) p <;> simp
/-- a corner's triangle: no edge properly crosses a segment in it -/
theorem ge_C_x0 {p : GPt} (hF : 0 < ge_o a b c) (h1 : ge_o a b p = 0) (h3 : ge_o c a p = 0) : p = a := by
  have bx := ge_bx a b c p
  have by' := ge_by a b c p
  have b0 := ge_b0 a b c p
  rw [h1, h3] at bx by'
  have e : ge_o b c p = ge_o a b c := by omega
  rw [e] at bx by'
  have x := ge_zero (t := a.1 - p.1) hF (by omega)
  have y := ge_zero (t := a.2 - p.2) hF (by omega)
  exact Prod.ext (by omega) (by omega)
theorem ge_x_ne {u v p q : GPt} (h : ge_x u v p q) : p ≠ q := fun z => by
  subst z
  have h2 := h.2
  have : ge_o p p u = 0 := by unfold ge_o; grind
  rw [this, Int.zero_mul] at h2
  omega
theorem ge_C_xT (H : ge_C a b c mid) {e : GPt × GPt} (he : e ∈ ge_E (b :: c :: (mid ++ [a]))) {p q : GPt} (hp : ge_in a b c p) (hq : ge_in a b c q) : ¬ ge_x e.1 e.2 p q := by
  intro hx
  rw [ge_E_ear] at he
  rcases List.mem_cons.mp he with z | z
  · rw [z] at hx
    have h1 : ge_o b c p * ge_o b c q < 0 := hx.1
    have := Int.mul_nonneg hp.2.1 hq.2.1
    omega
  · rcases List.mem_append.mp z with z | z
    · have hpq := ge_x_ne hx
      obtain ⟨m, r, i, j, i', j', hm, w, w', hi, hj, -⟩ := ge_x_pt hx
      have HM := ge_C_s hm H
      have sd := ge_sides H.2.1 H.2.2.1
      have hp' := (ge_in_s hm a b c p).mpr hp
      have hq' := (ge_in_s hm a b c q).mpr hq
      have hr := ge_wt_in w hp' hq'
      have hne : ge_s m p ≠ ge_s m q := fun t => hpq (ge_s_inj hm t)
      have two : ∀ u v : GPt, 0 ≤ ge_o u v (ge_s m p) → 0 ≤ ge_o u v (ge_s m q) → ge_o u v r = 0 → ge_o u v (ge_s m p) = 0 ∧ ge_o u v (ge_s m q) = 0 := fun u v k1 k2 k3 => by
        have ee := ge_wt_o w u v
        rw [k3, Int.mul_zero] at ee
        have q1 := Int.mul_nonneg (Int.le_of_lt hi) k1
        have q2 := Int.mul_nonneg (Int.le_of_lt hj) k2
        exact ⟨ge_zero hi (by omega), ge_zero hj (by omega)⟩
      have on := ge_wt_on w'
      have r3 : ge_o (ge_s m c) (ge_s m a) r = 0 := by
        rcases Int.lt_or_eq_of_le hr.2.2 with t | t
        · exact (ge_side_K (ge_side_s hm (sd e z)) on hr t).elim
        · exact t.symm
      obtain ⟨p3, q3⟩ := two _ _ hp'.2.2 hq'.2.2 r3
      have r1 : 0 < ge_o (ge_s m a) (ge_s m b) r := by
        rcases Int.lt_or_eq_of_le hr.1 with t | t
        · exact t
        · obtain ⟨p1, q1⟩ := two _ _ hp'.1 hq'.1 t.symm
          exact absurd ((ge_C_x0 HM.1 p1 p3).trans (ge_C_x0 HM.1 q1 q3).symm) hne
      have r2 : 0 < ge_o (ge_s m b) (ge_s m c) r := by
        rcases Int.lt_or_eq_of_le hr.2.1 with t | t
        · exact t
        · obtain ⟨p2, q2⟩ := two _ _ hp'.2.1 hq'.2.1 t.symm
          have F1 : 0 < ge_o (ge_s m c) (ge_s m a) (ge_s m b) := by rw [(ge_C_cyc (ge_s m a) (ge_s m b) (ge_s m c)).2]; exact HM.1
          exact absurd ((ge_C_x0 F1 p3 p2).trans (ge_C_x0 F1 q3 q2).symm) hne
      have hca : ge_s m a ≠ ge_s m c := fun t => (List.nodup_cons.mp (List.nodup_cons.mp H.2.1.1).2).1 (by rw [← ge_s_inj hm t]; simp)
      have onac : ge_on (ge_s m a) (ge_s m c) r := ge_on_symm (ge_in_on (by rw [(ge_C_cyc (ge_s m a) (ge_s m b) (ge_s m c)).2]; exact HM.1) (ge_in_cyc (ge_in_cyc hr)) r3)
      obtain ⟨i2, j2, w2⟩ := ge_on_wt hca onac
      have hi2 : 0 < i2 := by
        rcases Int.lt_or_eq_of_le w2.1 with t | t
        · exact t
        · subst t
          have := ge_wt_0 (ge_wt_swap w2)
          rw [this, (ge_C_zz _ _).2] at r2
          omega
      have hj2 : 0 < j2 := by
        rcases Int.lt_or_eq_of_le w2.2.1 with t | t
        · exact t
        · subst t
          have := ge_wt_0 w2
          rw [this, (ge_C_zz _ _).1] at r1
          omega
      have off := (ge_C_mid HM w2 hi2 hj2).1
      rw [← ge_S_ear] at off
      refine off (ge_s m e.1, ge_s m e.2) ?_ on
      rw [ge_E_S, ge_E_ear]
      exact List.mem_map.mpr ⟨e, List.mem_cons_of_mem _ (List.mem_append_left _ z), rfl⟩
    · rw [List.mem_singleton.mp z] at hx
      have h1 : ge_o a b p * ge_o a b q < 0 := hx.1
      have := Int.mul_nonneg hp.1 hq.1
      omega
/-- the corner's two edges don't properly cross a segment in the closed rest -/
theorem ge_C_xR (H : ge_C a b c mid) (Z : ∃ k : Int, 0 < k ∧ ∃ q : GPt, ge_int (ge_s k a) (ge_s k b) (ge_s k c) q ∧ ge_wn (ge_S k (c :: (mid ++ [a]))) q = 0) {x y : GPt} (hxy : (x = a ∧ y = b) ∨ (x = b ∧ y = c)) {p q : GPt} (hpq : ∀ m : Int, 0 < m → ∀ r : GPt, ge_on (ge_s m p) (ge_s m q) r → ge_cl m (c :: (mid ++ [a])) r) : ¬ ge_x x y p q := by
  intro hx
  obtain ⟨m, r, i, j, i', j', hm, w, w', hi, hj, hi', hj'⟩ := ge_x_pt hx
  have HM := ge_C_s hm H
  have F := HM.1
  have hcl := hpq m hm r (ge_wt_on w)
  have va : ge_in (ge_s m a) (ge_s m b) (ge_s m c) (ge_s m a) := ⟨by rw [(ge_C_zz _ _).1]; omega, by rw [(ge_C_cyc (ge_s m a) (ge_s m b) (ge_s m c)).1]; omega, by rw [(ge_C_zz _ _).2]; omega⟩
  have vb : ge_in (ge_s m a) (ge_s m b) (ge_s m c) (ge_s m b) := ⟨by rw [(ge_C_zz _ _).2]; omega, by rw [(ge_C_zz _ _).1]; omega, by rw [(ge_C_cyc (ge_s m a) (ge_s m b) (ge_s m c)).2]; omega⟩
  have vc : ge_in (ge_s m a) (ge_s m b) (ge_s m c) (ge_s m c) := ⟨by omega, by rw [(ge_C_zz _ _).2]; omega, by rw [(ge_C_zz _ _).1]; omega⟩
  have b3 : ge_o (ge_s m c) (ge_s m a) (ge_s m b) = ge_o (ge_s m a) (ge_s m b) (ge_s m c) := (ge_C_cyc (ge_s m a) (ge_s m b) (ge_s m c)).2
  have e3 := ge_wt_o w' (ge_s m c) (ge_s m a)
  rcases hxy with ⟨rfl, rfl⟩ | ⟨rfl, rfl⟩
  · rw [(ge_C_zz _ _).2, b3, Int.mul_zero] at e3
    refine ge_C_zero2 H Z hm (ge_wt_in w' va vb) (ge_pos w'.2.2.1 ?_) hcl
    have := Int.mul_pos hj' F
    omega
  · rw [(ge_C_zz _ _).1, b3, Int.mul_zero] at e3
    refine ge_C_zero2 H Z hm (ge_wt_in w' vb vc) (ge_pos w'.2.2.1 ?_) hcl
    have := Int.mul_pos hi' F
    omega
end Cover
-- i7.sees
/-! the cover by ears' triangles, three colours, and who sees whom -/
theorem ge_tc_on {x e y p q r : GPt} {m : Int} (hm : 0 < m) (hF : ge_o x e y ≠ 0) (hp : ge_tc x e y p) (hq : ge_tc x e y q) (hr : ge_on (ge_s m p) (ge_s m q) r) : ge_tc (ge_s m x) (ge_s m e) (ge_s m y) r := by
  rcases Int.lt_or_lt_of_ne hF with z | z
  · have F' : 0 < ge_o y e x := by have : ge_o y e x = -ge_o x e y := by unfold ge_o; grind
                                   omega
    exact Or.inr (ge_on_in hr ((ge_in_s hm _ _ _ _).mpr (ge_tc_in F' (ge_tc_symm hp))) ((ge_in_s hm _ _ _ _).mpr (ge_tc_in F' (ge_tc_symm hq))))
  · exact Or.inl (ge_on_in hr ((ge_in_s hm _ _ _ _).mpr (ge_tc_in z hp)) ((ge_in_s hm _ _ _ _).mpr (ge_tc_in z hq)))
theorem ge_in_vs {a b c : GPt} (F : 0 < ge_o a b c) : ge_in a b c a ∧ ge_in a b c b ∧ ge_in a b c c :=
  ⟨⟨by rw [(ge_C_zz _ _).1]; omega, by rw [(ge_C_cyc a b c).1]; omega, by rw [(ge_C_zz _ _).2]; omega⟩, ⟨by rw [(ge_C_zz _ _).2]; omega, by rw [(ge_C_zz _ _).1]; omega, by rw [(ge_C_cyc a b c).2]; omega⟩, ⟨by omega, by rw [(ge_C_zz _ _).2]; omega, by rw [(ge_C_zz _ _).1]; omega⟩⟩
section Cover
variable {a b c : GPt} {mid : List GPt}
theorem ge_cov_step (H : ge_C a b c mid) (Z : ∃ k : Int, 0 < k ∧ ∃ q : GPt, ge_int (ge_s k a) (ge_s k b) (ge_s k c) q ∧ ge_wn (ge_S k (c :: (mid ++ [a]))) q = 0) {TS : List (GPt × GPt × GPt)} {col : GPt → Nat} (g : ge_cov (c :: (mid ++ [a])) TS col) : ge_cov (b :: c :: (mid ++ [a])) ((a, b, c) :: TS) (fun v => if v = b then 3 - col a - col c else col v) := by
  obtain ⟨g1, g2, g3, g4, g5, g6, g7⟩ := g
  have hb := (List.nodup_cons.mp H.2.1.1).1
  have nb : ∀ v ∈ c :: (mid ++ [a]), v ≠ b := fun v hv q => hb (q ▸ hv)
  have hac := g6 a c (Or.inl (by rw [ge_E_cut]; simp))
  have ca := g5 a
  have cc := g5 c
  have amem : a ∈ c :: (mid ++ [a]) := by simp
  have cmem : c ∈ c :: (mid ++ [a]) := List.mem_cons_self
  have edges : ∀ u v : GPt, (u, v) ∈ ge_E (b :: c :: (mid ++ [a])) → (u = b ∧ v = c) ∨ (u, v) ∈ ge_ed (c :: (mid ++ [a])) ∨ (u = a ∧ v = b) := fun u v h => by
    rw [ge_E_ear] at h
    rcases List.mem_cons.mp h with q | q
    · exact Or.inl (Prod.mk.inj q)
    · rcases List.mem_append.mp q with q | q
      · exact Or.inr (Or.inl q)
      · exact Or.inr (Or.inr (Prod.mk.inj (List.mem_singleton.mp q)))
  have up : ∀ {u v : GPt}, (u, v) ∈ ge_ed (c :: (mid ++ [a])) → ge_adj (c :: (mid ++ [a])) u v := fun {u v} h => Or.inl (by rw [ge_E_cut]; exact List.mem_append_left _ h)
  refine ⟨fun T hT => ?_, fun T hT k hk p hp => ?_, fun T hT => ?_, fun k hk p hp => ?_, fun v => ?_, ?_, fun T hT => ?_⟩
  · rcases List.mem_cons.mp hT with q | q
    · subst q; exact ⟨by simp, by simp, by simp, by have := H.1; show ge_o a b c ≠ 0; omega⟩
    · obtain ⟨h1, h2, h3, h4⟩ := g1 T q
      exact ⟨List.mem_cons_of_mem _ h1, List.mem_cons_of_mem _ h2, List.mem_cons_of_mem _ h3, h4⟩
  · rcases List.mem_cons.mp hT with q | q
    · subst q
      intro ho
      rw [ge_par_wn, ge_C_closed H Z hk (ge_tc_in (ge_C_s hk H).1 hp) ho]; rfl
    · exact ge_C_up H Z hk (g2 T q k hk p hp)
  · rcases List.mem_cons.mp hT with q | q
    · subst q
      intro u v huv p q hp hq hx
      have hp := ge_tc_in H.1 hp
      have hq := ge_tc_in H.1 hq
      rcases huv with z | z
      · exact ge_C_xT H z hp hq hx
      · exact ge_C_xT H z hp hq (ge_x_swap hx)
    · have key : ∀ u v : GPt, (u, v) ∈ ge_E (b :: c :: (mid ++ [a])) → ∀ p r : GPt, ge_tc T.1 T.2.1 T.2.2 p → ge_tc T.1 T.2.1 T.2.2 r → ¬ ge_x u v p r := fun u v huv p r hp hr => by
        have hpr : ∀ m : Int, 0 < m → ∀ w : GPt, ge_on (ge_s m p) (ge_s m r) w → ge_cl m (c :: (mid ++ [a])) w := fun m hm w hw => g2 T q m hm w (ge_tc_on hm (g1 T q).2.2.2 hp hr hw)
        rcases edges u v huv with z | z | z
        · exact ge_C_xR H Z (Or.inr z) hpr
        · exact g3 T q u v (up z) p r hp hr
        · exact ge_C_xR H Z (Or.inl z) hpr
      intro u v huv p r hp hr hx
      rcases huv with z | z
      · exact key u v z p r hp hr hx
      · exact key v u z p r hp hr (ge_x_swap hx)
  · rcases ge_C_dn H hk hp with z | z
    · exact ⟨(a, b, c), List.mem_cons_self, Or.inl z⟩
    · obtain ⟨T, hT, ht⟩ := g4 k hk p z
      exact ⟨T, List.mem_cons_of_mem _ hT, ht⟩
  · dsimp only
    split
    · omega
    · exact g5 v
  · have key : ∀ u v : GPt, (u, v) ∈ ge_E (b :: c :: (mid ++ [a])) → (fun v => if v = b then 3 - col a - col c else col v) u ≠ (fun v => if v = b then 3 - col a - col c else col v) v := fun u v huv => by
      dsimp only
      rcases edges u v huv with ⟨z1, z2⟩ | z | ⟨z1, z2⟩
      · rw [z1, z2, if_pos rfl, if_neg (nb c cmem)]; omega
      · have me := ge_ed_mem _ _ z
        rw [if_neg (nb u me.1), if_neg (nb v me.2)]
        exact g6 u v (up z)
      · rw [z1, z2, if_pos rfl, if_neg (nb a amem)]; omega
    intro u v huv
    rcases huv with z | z
    · exact key u v z
    · exact (key v u z).symm
  · rcases List.mem_cons.mp hT with q | q
    · subst q
      dsimp only
      rw [if_pos rfl, if_neg (nb a amem), if_neg (nb c cmem)]
      omega
    · obtain ⟨h1, h2, h3, h4⟩ := g1 T q
      dsimp only
      rw [if_neg (nb _ h1), if_neg (nb _ h2), if_neg (nb _ h3)]
      exact g7 T q
theorem ge_cov_3 (hF : 0 < ge_o a b c) (hn : (b :: c :: ([] ++ [a])).Nodup) : ge_cov (b :: c :: ([] ++ [a])) [(a, b, c)] (fun v => if v = b then 0 else if v = c then 1 else 2) := by
  have nbc : b ≠ c := by simp at hn; grind
  have nba : b ≠ a := by simp at hn; grind
  have nca : c ≠ a := by simp at hn; grind
  have hE : ∀ e : GPt × GPt, e ∈ ge_E (b :: c :: ([] ++ [a])) ↔ e = (b, c) ∨ e = (c, a) ∨ e = (a, b) := fun e => by
    rw [ge_E_ear]; simp [ge_ed]
  have z0 : ∀ (k : Int) (p : GPt), ge_par (ge_s k c :: (ge_S k [] ++ [ge_s k a])) p = false := fun k p => by
    show (ge_cs (ge_s k c) (ge_s k a) p != (ge_cs (ge_s k a) (ge_s k c) p != false)) = false
    rw [ge_cs_comm (ge_s k a) (ge_s k c)]
    cases ge_cs (ge_s k c) (ge_s k a) p <;> rfl
  refine ⟨fun T hT => ?_, fun T hT k hk p hp ho => ?_, fun T hT => ?_, fun k hk p hp => ⟨(a, b, c), List.mem_cons_self, Or.inl ?_⟩, fun v => ?_, ?_, fun T hT => ?_⟩
  · rw [List.mem_singleton.mp hT]; exact ⟨by simp, by simp, by simp, by show ge_o a b c ≠ 0; omega⟩
  · rw [List.mem_singleton.mp hT] at hp
    have F : 0 < ge_o (ge_s k a) (ge_s k b) (ge_s k c) := by rw [ge_o_s]; exact Int.mul_pos (ge_mm hk) hF
    have hp := ge_tc_in F hp
    rw [ge_S_ear] at ho ⊢
    obtain ⟨o1, o2, o3⟩ := ge_C_of ho
    have n3 := o3 (ge_s k c, ge_s k a) List.mem_cons_self
    have p1 : 0 < ge_o (ge_s k a) (ge_s k b) p := by
      rcases Int.lt_or_eq_of_le hp.1 with z | z
      · exact z
      · exact absurd (ge_in_on F hp z.symm) o1
    have p2 : 0 < ge_o (ge_s k b) (ge_s k c) p := by
      rcases Int.lt_or_eq_of_le hp.2.1 with z | z
      · exact z
      · exact absurd (ge_in_on (by rw [ge_o_cyc]; exact F) (ge_in_cyc hp) z.symm) o2
    have p3 : 0 < ge_o (ge_s k c) (ge_s k a) p := by
      rcases Int.lt_or_eq_of_le hp.2.2 with z | z
      · exact z
      · exact absurd (ge_in_on (by rw [(ge_C_cyc (ge_s k a) (ge_s k b) (ge_s k c)).2]; exact F) (ge_in_cyc (ge_in_cyc hp)) z.symm) n3
    rw [ge_par_ear, z0, (ge_tri F o1 o2 n3).mpr ⟨p1, p2, p3⟩]; rfl
  · rw [List.mem_singleton.mp hT]
    have key : ∀ e : GPt × GPt, e ∈ ge_E (b :: c :: ([] ++ [a])) → ∀ p q : GPt, ge_tc a b c p → ge_tc a b c q → ¬ ge_x e.1 e.2 p q := fun e he p q hp hq hx => by
      have hp := ge_tc_in hF hp
      have hq := ge_tc_in hF hq
      rcases (hE e).mp he with z | z | z
      · rw [z] at hx
        have h1 : ge_o b c p * ge_o b c q < 0 := hx.1
        have := Int.mul_nonneg hp.2.1 hq.2.1
        omega
      · rw [z] at hx
        have h1 : ge_o c a p * ge_o c a q < 0 := hx.1
        have := Int.mul_nonneg hp.2.2 hq.2.2
        omega
      · rw [z] at hx
        have h1 : ge_o a b p * ge_o a b q < 0 := hx.1
        have := Int.mul_nonneg hp.1 hq.1
        omega
    intro u v huv p q hp hq hx
    rcases huv with z | z
    · exact key _ z p q hp hq hx
    · exact key _ z p q hp hq (ge_x_swap hx)
  · have F : 0 < ge_o (ge_s k a) (ge_s k b) (ge_s k c) := by rw [ge_o_s]; exact Int.mul_pos (ge_mm hk) hF
    obtain ⟨va, vb, vc⟩ := ge_in_vs F
    refine Classical.byContradiction (fun hin => ?_)
    have n1 : ¬ ge_on (ge_s k a) (ge_s k b) p := fun z => hin (ge_on_in z va vb)
    have n2 : ¬ ge_on (ge_s k b) (ge_s k c) p := fun z => hin (ge_on_in z vb vc)
    have n3 : ¬ ge_on (ge_s k c) (ge_s k a) p := fun z => hin (ge_on_in z vc va)
    have ol : ge_off (ge_S k (b :: c :: ([] ++ [a]))) p := by
      rw [ge_S_ear]
      refine ge_C_off n1 n2 (fun e he => ?_)
      have he : e ∈ [(ge_s k c, ge_s k a)] := he
      rw [List.mem_singleton.mp he]; exact n3
    have par := hp ol
    rw [ge_S_ear, ge_par_ear, z0, ge_false_of (ge_tri F n1 n2 n3) (fun z => hin (ge_int_in z))] at par
    cases par
  · dsimp only
    split
    · omega
    · split <;> omega
  · have key : ∀ u v : GPt, (u, v) ∈ ge_E (b :: c :: ([] ++ [a])) → (fun v => if v = b then 0 else if v = c then 1 else 2) u ≠ (fun v => if v = b then 0 else if v = c then 1 else 2) v := fun u v h => by
      dsimp only
      rcases (hE _).mp h with z | z | z
      · obtain ⟨z1, z2⟩ := Prod.mk.inj z
        rw [z1, z2, if_pos rfl, if_neg nbc.symm, if_pos rfl]; omega
      · obtain ⟨z1, z2⟩ := Prod.mk.inj z
        rw [z1, z2, if_neg nbc.symm, if_pos rfl, if_neg nba.symm, if_neg nca.symm]; omega
      · obtain ⟨z1, z2⟩ := Prod.mk.inj z
        rw [z1, z2, if_pos rfl, if_neg nba.symm, if_neg nca.symm]; omega
    intro u v h
    rcases h with z | z
    · exact key u v z
    · exact (key v u z).symm
  · rw [List.mem_singleton.mp hT]
    dsimp only
    rw [if_pos rfl, if_neg nbc.symm, if_pos rfl, if_neg nba.symm, if_neg nca.symm]
    omega
end Cover
theorem ge_cov_pos {n : Nat} (ih : ∀ l : List GPt, l.length ≤ n → 3 ≤ l.length → ge_simple l → ∃ TS col, ge_cov l TS col ∧ TS ≠ []) {a b c : GPt} {mid : List GPt} (hlen : mid.length + 3 ≤ n + 1) (hF : 0 < ge_o a b c) (hs : ge_simple (b :: c :: (mid ++ [a]))) (hW : ge_W (b :: c :: (mid ++ [a])) 1) (hem : ∀ w ∈ b :: c :: (mid ++ [a]), w ≠ a → w ≠ b → w ≠ c → ¬ ge_tc a b c w) : ∃ TS col, ge_cov (b :: c :: (mid ++ [a])) TS col ∧ TS ≠ [] := by
  by_cases hm : mid = []
  · subst hm; exact ⟨_, _, ge_cov_3 hF hs.1, by simp⟩
  · have hm1 : 0 < mid.length := List.length_pos_iff.mpr hm
    have hb := (List.nodup_cons.mp hs.1).1
    have H : ge_C a b c mid := ⟨hF, hs, fun w hw h1 h2 z => hem w (List.mem_cons_of_mem _ hw) h1 (fun q => hb (q ▸ hw)) h2 (Or.inl z), hm⟩
    obtain ⟨TS, col, g, -⟩ := ih (c :: (mid ++ [a])) (by simp; omega) (by simp; omega) (ge_cut_simple H.1 H.2.1 H.2.2.1)
    exact ⟨_, _, ge_cov_step H (ge_C_turn H hW) g, by simp⟩
theorem ge_cov_n : ∀ (n : Nat) (l : List GPt), l.length ≤ n → 3 ≤ l.length → ge_simple l → ∃ TS col, ge_cov l TS col ∧ TS ≠ []
  | 0, l, h1, h2, _ => by omega
  | n + 1, l, h1, h2, hs => by
    obtain ⟨σ, W, -, s, r, a, e, c, mid, rfl, ht, ho, hem⟩ := ge_orient h2 hs
    have eq1 := ge_eqv_rot s (e :: r)
    have nd1 : (e :: r ++ s).Nodup := List.perm_append_comm.nodup_iff.mp hs.1
    have hs1 := ge_eqv_simple eq1 nd1 hs
    have W1 : ge_W (e :: r ++ s) σ := ge_W_rot W
    have hlen : (r ++ s).length = (s ++ e :: r).length - 1 := by simp; omega
    rw [show e :: r ++ s = e :: (r ++ s) by simp, ht] at hs1 nd1 eq1 W1
    rw [ht] at hlen
    have hl2 : mid.length + 3 ≤ n + 1 := by simp at hlen h1; omega
    have hem1 : ∀ w ∈ e :: c :: (mid ++ [a]), w ≠ a → w ≠ e → w ≠ c → ¬ ge_tc a e c w := fun w hw => hem w ((eq1.1 w).mpr hw)
    have back : (∃ TS col, ge_cov (e :: c :: (mid ++ [a])) TS col ∧ TS ≠ []) → ∃ TS col, ge_cov (s ++ e :: r) TS col ∧ TS ≠ [] := fun ⟨TS, col, g, hn⟩ => ⟨TS, col, ge_eqv_cov (ge_eqv_symm eq1) g, hn⟩
    apply back
    rcases W.1 with h | h <;> subst h
    · exact ge_cov_pos (ge_cov_n n) hl2 (by omega) hs1 W1 hem1
    · have er : (c :: (mid ++ [a])).reverse = a :: (mid.reverse ++ [c]) := by simp
      have eq2 := ge_eqv_rev e (c :: (mid ++ [a]))
      have nd2 : (e :: (c :: (mid ++ [a])).reverse).Nodup := List.nodup_cons.mpr ⟨fun z => (List.nodup_cons.mp nd1).1 (List.mem_reverse.mp z), (List.reverse_perm _).nodup_iff.mpr (List.nodup_cons.mp nd1).2⟩
      have hs2 := ge_eqv_simple eq2 nd2 hs1
      have W2 := ge_W_rev W1
      rw [er] at hs2 nd2 eq2 W2
      have sw : ge_o c e a = -ge_o a e c := by unfold ge_o; grind
      obtain ⟨TS, col, g, hn⟩ := ge_cov_pos (ge_cov_n n) (a := c) (b := e) (c := a) (mid := mid.reverse) (by simp; omega) (by omega) hs2 W2 (fun w hw w1 w2 w3 z => hem1 w ((eq2.1 w).mpr hw) w3 w2 w1 (ge_tc_symm z))
      exact ⟨TS, col, ge_eqv_cov (ge_eqv_symm eq2) g, hn⟩
theorem ge_cover {l : List GPt} (h3 : 3 ≤ l.length) (hs : ge_simple l) : ∃ TS col, ge_cov l TS col ∧ TS ≠ [] := ge_cov_n l.length l (Nat.le_refl _) h3 hs
-- i8.guard
/-! sight: the graph is connected, and of at most twelve vertices four see all -/
def ge_sees (l : List GPt) (p q : GPt) : Prop := (∀ u v : GPt, ge_adj l u v → ¬ ge_x u v p q) ∧ ∀ k : Int, 0 < k → ∀ r : GPt, ge_on (ge_s k p) (ge_s k q) r → ge_cl k l r
theorem ge_sees_symm {l : List GPt} {p q : GPt} (h : ge_sees l p q) : ge_sees l q p :=
  ⟨fun u v huv z => h.1 u v huv (ge_x_symm (ge_x_swap (ge_x_symm z))), fun k hk r hr => h.2 k hk r (ge_on_symm hr)⟩
theorem ge_sees_T {l : List GPt} {TS : List (GPt × GPt × GPt)} {col : GPt → Nat} (g : ge_cov l TS col) {T : GPt × GPt × GPt} (hT : T ∈ TS) {p q : GPt} (hp : ge_tc T.1 T.2.1 T.2.2 p) (hq : ge_tc T.1 T.2.1 T.2.2 q) : ge_sees l p q :=
  ⟨fun u v huv => g.2.2.1 T hT u v huv p q hp hq, fun k hk r hr => g.2.1 T hT k hk r (ge_tc_on hk (g.1 T hT).2.2.2 hp hq hr)⟩
theorem ge_sees_E {l : List GPt} (hs : ge_simple l) {u v : GPt} (h : ge_adj l u v) : ge_sees l u v := by
  refine ⟨fun x y hxy => ge_adj_X hs hxy h, fun k hk r hr ho => ?_⟩
  exact absurd hr (ge_off_iff.mp ho u v h)
theorem ge_tc_v {x e y : GPt} (hF : ge_o x e y ≠ 0) : ge_tc x e y x ∧ ge_tc x e y e ∧ ge_tc x e y y := by
  rcases Int.lt_or_lt_of_ne hF with z | z
  · have e1 : ge_o y e x = -ge_o x e y := by unfold ge_o; grind
    obtain ⟨h1, h2, h3⟩ := ge_in_vs (a := y) (b := e) (c := x) (by omega)
    exact ⟨Or.inr h3, Or.inr h2, Or.inr h1⟩
  · obtain ⟨h1, h2, h3⟩ := ge_in_vs z
    exact ⟨Or.inl h1, Or.inl h2, Or.inl h3⟩
theorem ge_chainP (f : GPt → Prop) : ∀ (m : List GPt) (c : GPt), (∀ e ∈ ge_ed (c :: m), f e.1 ↔ f e.2) → ∀ w ∈ c :: m, f w ↔ f c
  | [], c, _, w, hw => by rw [List.mem_singleton.mp hw]
  | y :: m, c, h, w, hw => by
    rcases List.mem_cons.mp hw with q | q
    · rw [q]
    · rw [ge_chainP f m y (fun e he => h e (List.mem_cons_of_mem _ he)) w q]
      exact (h (c, y) List.mem_cons_self).symm
/-- a vertex lies in the closed polygon -/
theorem ge_cl_v {l : List GPt} (h2 : 2 ≤ l.length) {v : GPt} (hv : v ∈ l) {k : Int} : ge_cl k l (ge_s k v) := by
  intro ho
  exfalso
  obtain ⟨s, r, rfl⟩ := List.append_of_mem hv
  have : ∃ w : GPt, (v, w) ∈ ge_E (s ++ v :: r) := by
    obtain ⟨w, hw⟩ : ∃ w : GPt, (v, w) ∈ ge_E (v :: r ++ s) := by
      obtain ⟨c, t, ht⟩ : ∃ c t, r ++ s = c :: t := by
        match h : r ++ s with
        | [] => simp at h h2; grind
        | c :: t => exact ⟨c, t, rfl⟩
      refine ⟨c, ?_⟩
      rw [show v :: r ++ s = v :: (r ++ s) by simp, ht]
      exact List.mem_cons_self
    exact ⟨w, (ge_E_rot s (v :: r) (v, w)).mpr hw⟩
  obtain ⟨w, hw⟩ := this
  exact ge_off_iff.mp ho v w (Or.inl hw) (ge_on_l _ _)
theorem ge_tc_1 {T : GPt × GPt × GPt} {p : GPt} (h : ge_tc (ge_s 1 T.1) (ge_s 1 T.2.1) (ge_s 1 T.2.2) p) : ge_tc T.1 T.2.1 T.2.2 p := by
  rw [ge_s_1, ge_s_1, ge_s_1] at h
  exact h
/-- what is closed under sight is all -/
theorem ge_conn {l : List GPt} (h3 : 3 ≤ l.length) (hs : ge_simple l) (M : GPt → Prop) (hM : ∀ p q : GPt, M p → ge_cl 1 l p → ge_cl 1 l q → ge_sees l p q → M q) {p : GPt} (hp : ge_cl 1 l p) (mp : M p) : ∀ q : GPt, ge_cl 1 l q → M q := by
  obtain ⟨TS, col, g, -⟩ := ge_cover h3 hs
  have vcl : ∀ v ∈ l, ge_cl 1 l v := fun v hv => by have := ge_cl_v (k := 1) (by omega) hv; rw [ge_s_1] at this; exact this
  obtain ⟨T, hT, tp⟩ := g.2.2.2.1 1 (by decide) p hp
  have tp := ge_tc_1 tp
  obtain ⟨m1, m2, m3, mF⟩ := g.1 T hT
  have M1 : M T.1 := hM p T.1 mp hp (vcl _ m1) (ge_sees_T g hT tp (ge_tc_v mF).1)
  have all : ∀ v ∈ l, M v := by
    cases l with
    | nil => intro v hv; cases hv
    | cons c m =>
      have step : ∀ e ∈ ge_ed (c :: m), M e.1 ↔ M e.2 := fun e he => by
        have hE : ge_adj (c :: m) e.1 e.2 := Or.inl (ge_ed_pre (l := c :: m) [c] he)
        have me := ge_adj_mem hE
        have see := ge_sees_E hs hE
        exact ⟨fun z => hM _ _ z (vcl _ me.1) (vcl _ me.2) see, fun z => hM _ _ z (vcl _ me.2) (vcl _ me.1) (ge_sees_symm see)⟩
      have ch := ge_chainP M m c step
      have hc := (ch T.1 m1).mp M1
      exact fun v hv => (ch v hv).mpr hc
  intro q hq
  obtain ⟨T', hT', tq⟩ := g.2.2.2.1 1 (by decide) q hq
  have tq := ge_tc_1 tq
  obtain ⟨n1, n2, n3, nF⟩ := g.1 T' hT'
  exact hM T'.1 q (all _ n1) (vcl _ n1) hq (ge_sees_T g hT' (ge_tc_v nF).1 tq)
theorem ge_cols (col : GPt → Nat) : ∀ l : List GPt, (∀ v : GPt, col v < 3) → (l.filter (fun v => col v = 0)).length + (l.filter (fun v => col v = 1)).length + (l.filter (fun v => col v = 2)).length = l.length
  | [], _ => rfl
  | x :: l, h => by
    have ih := ge_cols col l h
    have hx := h x
    have : col x = 0 ∨ col x = 1 ∨ col x = 2 := by omega
    rcases this with q | q | q <;> simp [List.filter_cons, q] <;> omega
/-- of at most twelve vertices, at most four see the whole closed polygon -/
theorem ge_four {l : List GPt} (h3 : 3 ≤ l.length) (h12 : l.length ≤ 12) (hs : ge_simple l) : ∃ G : List GPt, 1 ≤ G.length ∧ G.length ≤ 4 ∧ G.Nodup ∧ (∀ g ∈ G, g ∈ l) ∧ ∀ q : GPt, ge_cl 1 l q → ∃ g ∈ G, ge_sees l g q := by
  obtain ⟨TS, col, g, hn⟩ := ge_cover h3 hs
  have sum := ge_cols col l g.2.2.2.2.1
  have use : ∀ i : Nat, i < 3 → (l.filter (fun v => col v = i)).length ≤ 4 → ∃ G : List GPt, 1 ≤ G.length ∧ G.length ≤ 4 ∧ G.Nodup ∧ (∀ g ∈ G, g ∈ l) ∧ ∀ q : GPt, ge_cl 1 l q → ∃ g ∈ G, ge_sees l g q := fun i hi hl => by
    have pick : ∀ T ∈ TS, ∃ v ∈ l.filter (fun v => col v = i), ge_tc T.1 T.2.1 T.2.2 v := fun T hT => by
      obtain ⟨m1, m2, m3, mF⟩ := g.1 T hT
      obtain ⟨t1, t2, t3⟩ := ge_tc_v mF
      obtain ⟨c1, c2, c3⟩ := g.2.2.2.2.2.2 T hT
      have b1 := g.2.2.2.2.1 T.1
      have b2 := g.2.2.2.2.1 T.2.1
      have b3 := g.2.2.2.2.1 T.2.2
      have : col T.1 = i ∨ col T.2.1 = i ∨ col T.2.2 = i := by omega
      rcases this with q | q | q
      · exact ⟨T.1, List.mem_filter.mpr ⟨m1, by simpa using q⟩, t1⟩
      · exact ⟨T.2.1, List.mem_filter.mpr ⟨m2, by simpa using q⟩, t2⟩
      · exact ⟨T.2.2, List.mem_filter.mpr ⟨m3, by simpa using q⟩, t3⟩
    refine ⟨l.filter (fun v => col v = i), ?_, hl, List.Pairwise.filter _ hs.1, fun v hv => (List.mem_filter.mp hv).1, fun q hq => ?_⟩
    · cases TS with
      | nil => exact absurd rfl hn
      | cons T TS =>
        obtain ⟨v, hv, -⟩ := pick T List.mem_cons_self
        exact List.length_pos_of_mem hv
    · obtain ⟨T, hT, tq⟩ := g.2.2.2.1 1 (by decide) q hq
      obtain ⟨v, hv, tv⟩ := pick T hT
      exact ⟨v, hv, ge_sees_T g hT tv (ge_tc_1 tq)⟩
  by_cases q0 : (l.filter (fun v => col v = 0)).length ≤ 4
  · exact use 0 (by decide) q0
  · by_cases q1 : (l.filter (fun v => col v = 1)).length ≤ 4
    · exact use 1 (by decide) q1
    · exact use 2 (by decide) (by omega)
-- j1.link
/-! polygons given by n places: edges by number; the reference's test of a simple polygon -/
def ge_aft (n i : Nat) : Nat := if i + 1 = n then 0 else i + 1
def ge_pl (n : Nat) (f : Nat → GPt) : List GPt := (List.range n).map f
theorem ge_aft_lt {n i : Nat} (h : i < n) : ge_aft n i < n := by unfold ge_aft; split <;> omega
theorem ge_ed_len : ∀ l : List GPt, (ge_ed l).length = l.length - 1
  | [] => rfl
  | [_] => rfl
  | a :: b :: r => by
    show (ge_ed (b :: r)).length + 1 = _
    rw [ge_ed_len (b :: r)]; simp
theorem ge_ed_get : ∀ (l : List GPt) (i : Nat) (h : i + 1 < l.length) (h' : i < (ge_ed l).length), (ge_ed l)[i] = (l[i]'(by omega), l[i + 1])
  | [], i, h, _ => by simp at h
  | [_], i, h, _ => by simp at h
  | a :: b :: r, 0, h, _ => rfl
  | a :: b :: r, i + 1, h, h' => by
    have h'' : i < (ge_ed (b :: r)).length := by simpa [ge_ed] using h'
    show (ge_ed (b :: r))[i]'h'' = _
    rw [ge_ed_get (b :: r) i (by simpa using h) h'']
    rfl
theorem ge_E_pl (n : Nat) (f : Nat → GPt) : ge_E (ge_pl n f) = (List.range n).map (fun i => (f i, f (ge_aft n i))) := by
  cases n with
  | zero => rfl
  | succ n =>
    have e : ge_cy (ge_pl (n + 1) f) = (List.range (n + 1)).map f ++ [f 0] := by
      unfold ge_pl
      rw [List.range_succ_eq_map]
      rfl
    unfold ge_E
    rw [e]
    refine List.ext_getElem ?_ (fun i h1 h2 => ?_)
    · rw [ge_ed_len]; simp
    · have hi : i < n + 1 := by simpa using h2
      rw [ge_ed_get _ i (by simp; omega) h1]
      simp only [List.getElem_map, List.getElem_range]
      refine Prod.ext ?_ ?_
      · dsimp only
        rw [List.getElem_append_left (by simp; omega)]
        simp
      · dsimp only
        unfold ge_aft
        by_cases q : i + 1 = n + 1
        · rw [if_pos q, List.getElem_append_right (by simp; omega)]
          simp
        · rw [if_neg q, List.getElem_append_left (by simp; omega)]
          simp
theorem ge_pl_mem {n : Nat} {f : Nat → GPt} {v : GPt} : v ∈ ge_pl n f ↔ ∃ i, i < n ∧ f i = v := by
  unfold ge_pl
  simp
theorem ge_E_mem_pl {n : Nat} {f : Nat → GPt} {e : GPt × GPt} : e ∈ ge_E (ge_pl n f) ↔ ∃ i, i < n ∧ e = (f i, f (ge_aft n i)) := by
  rw [ge_E_pl]
  simp only [List.mem_map, List.mem_range]
  exact ⟨fun ⟨i, h, q⟩ => ⟨i, h, q.symm⟩, fun ⟨i, h, q⟩ => ⟨i, h, q.symm⟩⟩
theorem ge_pl_len (n : Nat) (f : Nat → GPt) : (ge_pl n f).length = n := by unfold ge_pl; simp
/-- an edge and the next one have their vertex alone in common -/
def ge_bent (a b c : GPt) : Prop := a ≠ b ∧ c ≠ b ∧ ((a.1 - b.1) * (c.2 - b.2) ≠ (a.2 - b.2) * (c.1 - b.1) ∨ (a.1 - b.1) * (c.1 - b.1) + (a.2 - b.2) * (c.2 - b.2) < 0)
/-- the reference's test -/
def ge_simp (n : Nat) (f : Nat → GPt) : Prop := (∀ i, i < n → ge_bent (f i) (f (ge_aft n i)) (f (ge_aft n (ge_aft n i)))) ∧ ∀ i k, i + 2 ≤ k → k < n → ge_aft n k ≠ i → ¬ ge_meet (f i) (f (ge_aft n i)) (f k) (f (ge_aft n k))
theorem ge_bent_on {a b c : GPt} (h : ge_bent a b c) : ¬ ge_on b c a := by
  intro z
  obtain ⟨h1, h2, h3⟩ := h
  obtain ⟨i, j, w⟩ := ge_on_wt h2.symm z
  have z0 := z.1
  unfold ge_o at z0
  rcases h3 with q | q
  · exact q (by grind)
  · obtain ⟨e1, e2⟩ := ge_wt_eq w
    have hs := w.2.2.1
    have hj := w.2.1
    have k : (i + j) * ((a.1 - b.1) * (c.1 - b.1) + (a.2 - b.2) * (c.2 - b.2)) = j * ((c.1 - b.1) * (c.1 - b.1) + (c.2 - b.2) * (c.2 - b.2)) := by
      have k1 : (i + j) * ((a.1 - b.1) * (c.1 - b.1) + (a.2 - b.2) * (c.2 - b.2)) = (i + j) * (a.1 - b.1) * (c.1 - b.1) + (i + j) * (a.2 - b.2) * (c.2 - b.2) := by grind
      rw [k1, e1, e2]; grind
    have k2 := Int.mul_nonneg hj (show 0 ≤ (c.1 - b.1) * (c.1 - b.1) + (c.2 - b.2) * (c.2 - b.2) by have := ge_sq (c.1 - b.1); have := ge_sq (c.2 - b.2); omega)
    have := ge_nn hs (by rw [k]; exact k2)
    omega
/-- two edges of which neither follows the other don't meet -/
theorem ge_simp_far {n : Nat} {f : Nat → GPt} (h : ge_simp n f) {i j : Nat} (hi : i < n) (hj : j < n) (n1 : i ≠ j) (n2 : ge_aft n i ≠ j) (n3 : ge_aft n j ≠ i) : ¬ ge_meet (f i) (f (ge_aft n i)) (f j) (f (ge_aft n j)) := by
  rcases Nat.lt_or_gt_of_ne n1 with q | q
  · refine h.2 i j ?_ hj n3
    unfold ge_aft at n2
    split at n2 <;> omega
  · intro z
    refine h.2 j i ?_ hi n2 (ge_meet_symm z)
    unfold ge_aft at n3
    split at n3 <;> omega
theorem ge_simple_of {n : Nat} {f : Nat → GPt} (h3 : 3 ≤ n) (h : ge_simp n f) : ge_simple (ge_pl n f) := by
  have V : ∀ i j, i < n → j < n → ge_on (f i) (f (ge_aft n i)) (f j) → j = i ∨ j = ge_aft n i := fun i j hi hj z => by
    by_cases n1 : i = j
    · exact Or.inl n1.symm
    · by_cases n2 : ge_aft n i = j
      · exact Or.inr n2.symm
      · by_cases n3 : ge_aft n j = i
        · subst n3
          exact absurd z (ge_bent_on (h.1 j hj))
        · exact absurd (Or.inl z) (ge_simp_far h hi hj n1 n2 n3)
  have inj : ∀ i j, i < n → j < n → f i = f j → i = j := fun i j hi hj q => by
    have v1 := V i j hi hj (by rw [← q]; exact ge_on_l _ _)
    rcases v1 with r | r
    · exact r.symm
    · exact absurd (by rw [q, r]) (h.1 i hi).1
  refine ⟨?_, fun w hw e he z => ?_, fun e he g hg z => ?_⟩
  · unfold ge_pl
    rw [List.nodup_iff_pairwise_ne, List.pairwise_map]
    refine List.Pairwise.imp_of_mem (fun {i j} hi hj hij q => ?_) (List.pairwise_lt_range)
    have := inj i j (List.mem_range.mp hi) (List.mem_range.mp hj) q
    omega
  · obtain ⟨j, hj, rfl⟩ := ge_pl_mem.mp hw
    obtain ⟨i, hi, rfl⟩ := ge_E_mem_pl.mp he
    rcases V i j hi hj z with q | q
    · exact Or.inl (by rw [q])
    · exact Or.inr (by rw [q])
  · obtain ⟨i, hi, rfl⟩ := ge_E_mem_pl.mp he
    obtain ⟨j, hj, rfl⟩ := ge_E_mem_pl.mp hg
    have z1 : ge_o (f i) (f (ge_aft n i)) (f j) * ge_o (f i) (f (ge_aft n i)) (f (ge_aft n j)) < 0 := z.1
    by_cases n1 : i = j
    · subst n1
      rw [(ge_C_zz _ _).1, Int.zero_mul] at z1; omega
    · by_cases n2 : ge_aft n i = j
      · rw [← n2, (ge_C_zz _ _).2, Int.zero_mul] at z1; omega
      · by_cases n3 : ge_aft n j = i
        · rw [n3, (ge_C_zz _ _).1, Int.mul_zero] at z1; omega
        · exact ge_simp_far h hi hj n1 n2 n3 (Or.inr (Or.inr (Or.inr (Or.inr z))))
