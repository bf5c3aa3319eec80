/-! the parts along the diagonal, and the step over them -/
section CaseB
variable {a b c z : GPt} {n1 n2 : List GPt}
theorem ge_B_E1 {e : GPt × GPt} (h : e ∈ ge_E (b :: c :: (n1 ++ [z]))) : e ∈ ge_E (b :: c :: ((n1 ++ z :: n2) ++ [a])) ∨ e = (z, b) := by
  rw [ge_E_ear] at h
  rw [ge_E_ear, ge_B_ed]
  rcases List.mem_cons.mp h with q | q
  · exact Or.inl (by rw [q]; exact List.mem_cons_self)
  · rcases List.mem_append.mp q with q | q
    · exact Or.inl (List.mem_cons_of_mem _ (List.mem_append_left _ (List.mem_append_left _ q)))
    · exact Or.inr (List.mem_singleton.mp q)
theorem ge_B_E2 {e : GPt × GPt} (h : e ∈ ge_E (b :: z :: (n2 ++ [a]))) : e ∈ ge_E (b :: c :: ((n1 ++ z :: n2) ++ [a])) ∨ e = (b, z) := by
  rw [ge_E_ear] at h
  rw [ge_E_ear, ge_B_ed]
  rcases List.mem_cons.mp h with q | q
  · exact Or.inr q
  · rcases List.mem_append.mp q with q | q
    · exact Or.inl (List.mem_cons_of_mem _ (List.mem_append_left _ (List.mem_append_right _ q)))
    · exact Or.inl (by rw [List.mem_singleton.mp q]; simp)
theorem ge_B_El {e : GPt × GPt} (h : e ∈ ge_E (b :: c :: ((n1 ++ z :: n2) ++ [a]))) : e ∈ ge_E (b :: c :: (n1 ++ [z])) ∨ e ∈ ge_E (b :: z :: (n2 ++ [a])) := by
  rw [ge_E_ear, ge_B_ed] at h
  rw [ge_E_ear, ge_E_ear]
  rcases List.mem_cons.mp h with q | q
  · exact Or.inl (by rw [q]; exact List.mem_cons_self)
  · rcases List.mem_append.mp q with q | q
    · rcases List.mem_append.mp q with q | q
      · exact Or.inl (List.mem_cons_of_mem _ (List.mem_append_left _ q))
      · exact Or.inr (List.mem_cons_of_mem _ (List.mem_append_left _ q))
    · exact Or.inr (by rw [List.mem_singleton.mp q]; simp)
theorem ge_B_par (p : GPt) : ge_par (b :: c :: ((n1 ++ z :: n2) ++ [a])) p = (ge_par (b :: c :: (n1 ++ [z])) p != ge_par (b :: z :: (n2 ++ [a])) p) := by
  have h1 : ge_par (b :: c :: ((n1 ++ z :: n2) ++ [a])) p = (ge_pp (b :: c :: (n1 ++ [z])) p != ge_pp (z :: (n2 ++ [a, b])) p) := by
    show ge_pp (b :: (c :: ((n1 ++ z :: n2) ++ [a])) ++ [b]) p = _
    rw [show b :: (c :: ((n1 ++ z :: n2) ++ [a])) ++ [b] = (b :: c :: n1) ++ z :: (n2 ++ [a, b]) by simp, ge_pp_app]
    rfl
  have h2 : ge_par (b :: c :: (n1 ++ [z])) p = (ge_pp (b :: c :: (n1 ++ [z])) p != ge_cs z b p) := by
    show ge_pp (b :: (c :: (n1 ++ [z])) ++ [b]) p = _
    rw [show b :: (c :: (n1 ++ [z])) ++ [b] = (b :: c :: n1) ++ z :: [b] by simp, ge_pp_app]
    show (ge_pp (b :: c :: (n1 ++ [z])) p != (ge_cs z b p != false)) = _
    cases ge_cs z b p <;> cases ge_pp (b :: c :: (n1 ++ [z])) p <;> rfl
  have h3 : ge_par (b :: z :: (n2 ++ [a])) p = (ge_cs b z p != ge_pp (z :: (n2 ++ [a, b])) p) := by
    show ge_pp (b :: (z :: (n2 ++ [a])) ++ [b]) p = _
    rw [show b :: (z :: (n2 ++ [a])) ++ [b] = b :: z :: (n2 ++ [a, b]) by simp]
    rfl
  rw [h1, h2, h3, ge_cs_comm z b]
  cases ge_cs b z p <;> cases ge_pp (b :: c :: (n1 ++ [z])) p <;> cases ge_pp (z :: (n2 ++ [a, b])) p <;> rfl
/-- higher than z the paths count nothing -/
theorem ge_B_L (H : ge_B a b c z n1 n2) {p : GPt} (hp : ge_in a b c p) (hp3 : ge_o c a z < ge_o c a p) {x y : GPt} {m : List GPt} (hsub : ∀ e ∈ ge_ed (x :: (m ++ [y])), e ∈ ge_ed (c :: ((n1 ++ z :: n2) ++ [a]))) (hin : ∀ w ∈ x :: (m ++ [y]), w ∈ c :: ((n1 ++ z :: n2) ++ [a])) (hx : ge_o c a x ≤ ge_o c a z) (hy : ge_o c a y ≤ ge_o c a z) : ge_par (x :: (m ++ [y])) p = false := by
  have hb := ge_B_b H
  rw [← ge_par_low (b := b) (l := x :: (m ++ [y])) (fun v hv => H.2.2.1 v (hin v hv))]
  refine ge_par_mv (fun e he => ?_)
  rw [ge_E_cut] at he
  rcases List.mem_append.mp he with q | q
  · exact ge_B_free H (hsub e q) hp hp3 hb.1 hb.2
  · rw [List.mem_singleton.mp q]
    exact ge_low_free hy hx hp3 hb.2
theorem ge_B_0 (H : ge_B a b c z n1 n2) : ge_o c a c ≤ ge_o c a z ∧ ge_o c a a ≤ ge_o c a z := by
  have h3 := (ge_B_num H).2.2.1
  have e1 : ge_o c a c = 0 := by unfold ge_o; grind
  have e2 : ge_o c a a = 0 := by unfold ge_o; grind
  omega
theorem ge_B_L0 (H : ge_B a b c z n1 n2) {p : GPt} (hp : ge_in a b c p) (hp3 : ge_o c a z < ge_o c a p) : ge_par (c :: ((n1 ++ z :: n2) ++ [a])) p = false :=
  ge_B_L H hp hp3 (fun _ h => h) (fun _ h => h) (ge_B_0 H).1 (ge_B_0 H).2
theorem ge_B_L1 (H : ge_B a b c z n1 n2) {p : GPt} (hp : ge_in a b c p) (hp3 : ge_o c a z < ge_o c a p) : ge_par (c :: (n1 ++ [z])) p = false :=
  ge_B_L H hp hp3 (fun e h => by rw [ge_B_ed]; exact List.mem_append_left _ h) (fun w h => by simp at h ⊢; grind) (ge_B_0 H).1 (Int.le_refl _)
theorem ge_B_L2 (H : ge_B a b c z n1 n2) {p : GPt} (hp : ge_in a b c p) (hp3 : ge_o c a z < ge_o c a p) : ge_par (z :: (n2 ++ [a])) p = false :=
  ge_B_L H hp hp3 (fun e h => by rw [ge_B_ed]; exact List.mem_append_right _ h) (fun w h => by simp at h ⊢; grind) (Int.le_refl _) (ge_B_0 H).2
/-- the path to z keeps off ab, the path from z off bc -/
theorem ge_B_ab (H : ge_B a b c z n1 n2) {e : GPt × GPt} (he : e ∈ ge_ed (c :: (n1 ++ [z]))) : ¬ ge_meet e.1 e.2 a b := by
  obtain ⟨h1, h2, h3, h4⟩ := ge_B_nd H
  have me := ge_ed_mem _ e he
  have nn : ∀ w ∈ c :: (n1 ++ [z]), w ≠ a ∧ w ≠ b := fun w hw => by
    refine ⟨fun q => ?_, fun q => h1 ?_⟩
    · rw [show c :: (n1 ++ [z]) = (c :: n1) ++ [z] by simp] at hw
      rcases List.mem_append.mp hw with r | r
      · exact h4 w r a (by simp) q
      · have : z = a := by rw [← q, List.mem_singleton.mp r]
        exact (List.nodup_cons.mp h3).1 (by rw [this]; simp)
    · rw [← q]; simp at hw ⊢; grind
  refine ge_disj H.2.1 (Or.inl ?_) (Or.inl ?_) (nn _ me.1).1 (nn _ me.1).2 (nn _ me.2).1 (nn _ me.2).2
  · rw [ge_E_ear, ge_B_ed]
    exact List.mem_cons_of_mem _ (List.mem_append_left _ (List.mem_append_left _ he))
  · rw [ge_E_ear]; simp
theorem ge_B_bc (H : ge_B a b c z n1 n2) {e : GPt × GPt} (he : e ∈ ge_ed (z :: (n2 ++ [a]))) : ¬ ge_meet e.1 e.2 b c := by
  obtain ⟨h1, h2, h3, h4⟩ := ge_B_nd H
  have me := ge_ed_mem _ e he
  have nn : ∀ w ∈ z :: (n2 ++ [a]), w ≠ b ∧ w ≠ c := fun w hw => by
    refine ⟨fun q => h1 ?_, fun q => h4 c List.mem_cons_self w hw q.symm⟩
    rw [← q]; simp at hw ⊢; grind
  refine ge_disj H.2.1 (Or.inl ?_) (Or.inl ?_) (nn _ me.1).1 (nn _ me.1).2 (nn _ me.2).1 (nn _ me.2).2
  · rw [ge_E_ear, ge_B_ed]
    exact List.mem_cons_of_mem _ (List.mem_append_left _ (List.mem_append_right _ he))
  · rw [ge_E_ear]; simp
theorem ge_false_of {x : Bool} {P : Prop} (h : x = true ↔ P) (n : ¬ P) : x = false := by
  cases x with
  | false => rfl
  | true => exact absurd (h.mp rfl) n
/-- beside ab, near b, the part to c counts nothing -/
theorem ge_B_C1a (H : ge_B a b c z n1 n2) : ge_par (b :: c :: (n1 ++ [z])) a = false := by
  obtain ⟨z1, z2, z3, z4⟩ := ge_B_num H
  obtain ⟨F, hFe⟩ : ∃ F, F = ge_o a b c := ⟨_, rfl⟩
  have hF : 0 < F := by rw [hFe]; exact H.1
  obtain ⟨M, hM⟩ : ∃ M, M = F + 1 := ⟨_, rfl⟩
  have hM0 : 0 < M := by omega
  obtain ⟨p, hp⟩ : ∃ p : GPt, p = (F * b.1 + a.1, F * b.2 + a.2) := ⟨_, rfl⟩
  have f : ∀ u v : GPt, ge_o (ge_s M u) (ge_s M v) p = M * (F * ge_o u v b + ge_o u v a) := fun u v => by
    rw [hp, hM]; unfold ge_s ge_o; grind
  have HS := ge_B_s hM0 H
  have zz : ∀ u v : GPt, ge_o u v u = 0 ∧ ge_o u v v = 0 := fun u v => ⟨by unfold ge_o; grind, by unfold ge_o; grind⟩
  have e3 : ge_o c a b = F := by rw [hFe, ge_o_cyc, ge_o_cyc]
  have e2 : ge_o b c a = F := by rw [hFe, ge_o_cyc]
  have p1 : ge_o (ge_s M a) (ge_s M b) p = 0 := by rw [f, (zz a b).2, (zz a b).1]; omega
  have p2 : ge_o (ge_s M b) (ge_s M c) p = M * F := by rw [f, (zz b c).1, e2]; simp
  have p3 : ge_o (ge_s M c) (ge_s M a) p = M * (F * F) := by rw [f, (zz c a).2, e3]; simp
  have mf : 0 < M * F := Int.mul_pos hM0 hF
  have mff : 0 < M * (F * F) := Int.mul_pos hM0 (Int.mul_pos hF hF)
  have pin : ge_in (ge_s M a) (ge_s M b) (ge_s M c) p := ⟨by omega, by omega, by omega⟩
  have hh : ge_o c a z ≤ F - 1 := by omega
  have h3 : ge_o (ge_s M c) (ge_s M a) (ge_s M z) < ge_o (ge_s M c) (ge_s M a) p := by
    rw [ge_o_s, p3, Int.mul_assoc]
    refine (ge_sg_lt hM0).mpr ?_
    have : M * ge_o c a z ≤ M * (F - 1) := (ge_sg_le hM0).mpr hh
    have : M * (F - 1) = F * F - 1 := by rw [hM]; grind
    omega
  have a1 : ge_o z b a = -ge_o a b z := by unfold ge_o; grind
  have a2 : ge_o c z b = ge_o b c z := by unfold ge_o; grind
  have a3 : ge_o c z a = -ge_o c a z := by unfold ge_o; grind
  have q1 : ge_o (ge_s M z) (ge_s M b) p = M * -ge_o a b z := by rw [f, (zz z b).2, a1]; simp
  have q1n : ge_o (ge_s M z) (ge_s M b) p < 0 := by
    rw [q1, Int.mul_neg]
    have := Int.mul_pos hM0 z1
    omega
  have q3 : 0 < ge_o (ge_s M c) (ge_s M z) p := by
    rw [f, a2, a3]
    refine Int.mul_pos hM0 ?_
    have : F * 1 ≤ F * ge_o b c z := (ge_sg_le hF).mpr (by omega)
    omega
  have t0 : ge_tp (ge_s M z) (ge_s M b) (ge_s M c) p = false := by
    refine ge_false_of (ge_tri ?_ (fun q => ?_) (fun q => ?_) (fun q => ?_)) (fun q => ?_)
    · rw [ge_o_s]
      have : ge_o z b c = ge_o b c z := by unfold ge_o; grind
      rw [this]
      exact Int.mul_pos (ge_mm hM0) z2
    · have := q.1; omega
    · have := q.1; omega
    · have := q.1; omega
    · have := q.1; omega
  have s0 : ge_par (ge_s M b :: ge_s M c :: (ge_S M n1 ++ [ge_s M z])) p = false := by
    rw [ge_par_ear, t0, ge_B_L1 HS pin h3]; rfl
  have s1 : ge_par (ge_s M b :: ge_s M c :: (ge_S M n1 ++ [ge_s M z])) p = ge_par (ge_s M b :: ge_s M c :: (ge_S M n1 ++ [ge_s M z])) (ge_s M a) := by
    refine ge_par_mv (fun e he => ?_)
    rw [ge_E_ear] at he
    have hab : ge_s M a ≠ ge_s M b := fun q => (ge_B_nd H).1 (by rw [← ge_s_inj hM0 q]; simp)
    rcases List.mem_cons.mp he with r | r
    · rw [r]
      exact ge_free_line (u := ge_s M b) (v := ge_s M c) (by omega) (by rw [ge_o_s, e2]; exact Int.mul_pos (ge_mm hM0) hF)
    · rcases List.mem_append.mp r with r | r
      · intro q
        refine ge_B_ab HS r (ge_meet_part ?_ hab ?_ (ge_on_l _ _) q)
        · refine ge_ed_ne _ ?_ e r
          have nd := ge_B_nd HS
          rw [show ge_s M c :: (ge_S M n1 ++ [ge_s M z]) = (ge_s M c :: ge_S M n1) ++ [ge_s M z] by simp]
          exact List.nodup_append.mpr ⟨nd.2.1, by simp, fun x hx y hy => nd.2.2.2 x hx y (by rw [List.mem_singleton.mp hy]; exact List.mem_cons_self)⟩
        · refine ge_wt_on (i := 1) (j := F) ⟨by decide, by omega, by omega, ?_, ?_⟩
          · rw [hp]; unfold ge_s; grind
          · rw [hp]; unfold ge_s; grind
      · rw [List.mem_singleton.mp r]
        intro q
        refine ge_free_line (u := ge_s M b) (v := ge_s M z) ?_ ?_ (ge_meet_flip q)
        · rw [ge_o_swap]; omega
        · rw [ge_o_swap, ge_o_s, a1]
          have := Int.mul_pos (ge_mm hM0) z1
          rw [Int.mul_neg]; omega
  rw [s0] at s1
  rw [← ge_par_s hM0, ge_S_ear]
  exact s1.symm
theorem ge_B_C2c (H : ge_B a b c z n1 n2) : ge_par (b :: z :: (n2 ++ [a])) c = false := by
  obtain ⟨z1, z2, z3, z4⟩ := ge_B_num H
  obtain ⟨F, hFe⟩ : ∃ F, F = ge_o a b c := ⟨_, rfl⟩
  have hF : 0 < F := by rw [hFe]; exact H.1
  obtain ⟨M, hM⟩ : ∃ M, M = F + 1 := ⟨_, rfl⟩
  have hM0 : 0 < M := by omega
  obtain ⟨p, hp⟩ : ∃ p : GPt, p = (F * b.1 + c.1, F * b.2 + c.2) := ⟨_, rfl⟩
  have f : ∀ u v : GPt, ge_o (ge_s M u) (ge_s M v) p = M * (F * ge_o u v b + ge_o u v c) := fun u v => by
    rw [hp, hM]; unfold ge_s ge_o; grind
  have HS := ge_B_s hM0 H
  have zz : ∀ u v : GPt, ge_o u v u = 0 ∧ ge_o u v v = 0 := fun u v => ⟨by unfold ge_o; grind, by unfold ge_o; grind⟩
  have e3 : ge_o c a b = F := by rw [hFe, ge_o_cyc, ge_o_cyc]
  have p1 : ge_o (ge_s M a) (ge_s M b) p = M * F := by rw [f, (zz a b).2, ← hFe]; simp
  have p2 : ge_o (ge_s M b) (ge_s M c) p = 0 := by rw [f, (zz b c).1, (zz b c).2]; omega
  have p3 : ge_o (ge_s M c) (ge_s M a) p = M * (F * F) := by rw [f, (zz c a).1, e3]; simp
  have mf : 0 < M * F := Int.mul_pos hM0 hF
  have mff : 0 < M * (F * F) := Int.mul_pos hM0 (Int.mul_pos hF hF)
  have pin : ge_in (ge_s M a) (ge_s M b) (ge_s M c) p := ⟨by omega, by omega, by omega⟩
  have hh : ge_o c a z ≤ F - 1 := by omega
  have h3 : ge_o (ge_s M c) (ge_s M a) (ge_s M z) < ge_o (ge_s M c) (ge_s M a) p := by
    rw [ge_o_s, p3, Int.mul_assoc]
    refine (ge_sg_lt hM0).mpr ?_
    have : M * ge_o c a z ≤ M * (F - 1) := (ge_sg_le hM0).mpr hh
    have : M * (F - 1) = F * F - 1 := by rw [hM]; grind
    omega
  have a1 : ge_o b z c = -ge_o b c z := by unfold ge_o; grind
  have a2 : ge_o z a b = ge_o a b z := by unfold ge_o; grind
  have a3 : ge_o z a c = -ge_o c a z := by unfold ge_o; grind
  have q1 : ge_o (ge_s M b) (ge_s M z) p = M * -ge_o b c z := by rw [f, (zz b z).1, a1]; simp
  have q1n : ge_o (ge_s M b) (ge_s M z) p < 0 := by
    rw [q1, Int.mul_neg]
    have := Int.mul_pos hM0 z2
    omega
  have q3 : 0 < ge_o (ge_s M z) (ge_s M a) p := by
    rw [f, a2, a3]
    refine Int.mul_pos hM0 ?_
    have : F * 1 ≤ F * ge_o a b z := (ge_sg_le hF).mpr (by omega)
    omega
  have t0 : ge_tp (ge_s M a) (ge_s M b) (ge_s M z) p = false := by
    refine ge_false_of (ge_tri ?_ (fun q => ?_) (fun q => ?_) (fun q => ?_)) (fun q => ?_)
    · rw [ge_o_s]
      exact Int.mul_pos (ge_mm hM0) z1
    · have := q.1; omega
    · have := q.1; omega
    · have := q.1; omega
    · have := q.2.1; omega
  have s0 : ge_par (ge_s M b :: ge_s M z :: (ge_S M n2 ++ [ge_s M a])) p = false := by
    rw [ge_par_ear, t0, ge_B_L2 HS pin h3]; rfl
  have s1 : ge_par (ge_s M b :: ge_s M z :: (ge_S M n2 ++ [ge_s M a])) p = ge_par (ge_s M b :: ge_s M z :: (ge_S M n2 ++ [ge_s M a])) (ge_s M c) := by
    refine ge_par_mv (fun e he => ?_)
    rw [ge_E_ear] at he
    have hbc : ge_s M b ≠ ge_s M c := fun q => (ge_B_nd H).1 (by rw [ge_s_inj hM0 q]; simp)
    rcases List.mem_cons.mp he with r | r
    · rw [r]
      intro q
      refine ge_free_line (u := ge_s M z) (v := ge_s M b) ?_ ?_ (ge_meet_flip q)
      · rw [ge_o_swap]; omega
      · rw [ge_o_swap, ge_o_s, a1]
        have := Int.mul_pos (ge_mm hM0) z2
        rw [Int.mul_neg]; omega
    · rcases List.mem_append.mp r with r | r
      · intro q
        refine ge_B_bc HS r (ge_meet_part ?_ hbc ?_ (ge_on_r _ _) q)
        · exact ge_ed_ne _ (ge_B_nd HS).2.2.1 e r
        · refine ge_wt_on (i := F) (j := 1) ⟨by omega, by decide, by omega, ?_, ?_⟩
          · rw [hp]; unfold ge_s; grind
          · rw [hp]; unfold ge_s; grind
      · rw [List.mem_singleton.mp r]
        exact ge_free_line (u := ge_s M a) (v := ge_s M b) (by omega) (by rw [ge_o_s, ← hFe]; exact Int.mul_pos (ge_mm hM0) hF)
  rw [s0] at s1
  rw [← ge_par_s hM0, ge_S_ear]
  exact s1.symm
end CaseB
