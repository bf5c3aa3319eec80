/-! the law's own methods: what they answer, by what the class's functions say (printed by law.py) -/
theorem mm_313 : mtG 313 = some (mi_313, 13, ft_313) := rfl
set_option maxRecDepth 20000 in
theorem wr_313 {d : Nat} {S S1 T : ST} {v1 : Int32} {rc : String ⊕ Int32} {rm : Int32} (hr : F_116 v1 S = some (rc, S1)) (hp : Pub [(ixE, 1), (iaE, 2)] rc rm T) : Cal XC (d + 7) 313 [.ref 0, .int v1, .ref 162] S (RWr Int32.toInt64 rm (T.1 140 0) S1) := by
  refine cal_go 1 rfl ?_
  refine go_run mm_313 4 (pc' := 4) (ls' := [some (.ref 0), some (.int v1), some (.ref 162), none]) (st' := [.int v1, .ref 0, .int 0, .ref 162]) (S' := S) rfl ?_
  refine go_cvH mm_313 (by decide) (h := 0) (As := [.int v1]) (rest := [.int 0, .ref 162]) (nl := 2) rfl XC_0 (show cvOK 313 4 7 116 1 2 10 = true by decide +kernel) rfl rfl rfl (S_116 (d := d) hr) (fun c2 o S' hq => ?_)
  rcases hp with ⟨q, hq1, rfl, hq2⟩ | ⟨rfl, h0⟩
  · obtain ⟨rfl, rfl, rfl⟩ := hq
    right
    simp only [List.mem_cons, List.not_mem_nil, or_false] at hq1
    rcases hq1 with rfl | rfl
    · refine ⟨ixE, 13, 3, rfl, (by decide +kernel), ?_⟩
      refine go_run mm_313 1 (pc' := 14) (ls' := []) (st' := [.int 1]) (S' := S') rfl ?_
      exact go_ireturn mm_313 rfl rfl ⟨by decide, by rw [hq2], Or.inr ⟨by rw [hq2]; decide, rfl⟩⟩
    · refine ⟨iaE, 16, 3, rfl, (by decide +kernel), ?_⟩
      refine go_run mm_313 1 (pc' := 17) (ls' := []) (st' := [.int 2]) (S' := S') rfl ?_
      exact go_ireturn mm_313 rfl rfl ⟨by decide, by rw [hq2], Or.inr ⟨by rw [hq2]; decide, rfl⟩⟩
  · obtain ⟨rfl, rfl, rfl⟩ := hq
    left
    refine ⟨_, rfl, ?_⟩
    refine go_run mm_313 1 (pc' := 8) (ls' := [some (.ref 0), some (.int v1), some (.ref 162), none]) (st' := [.long (Int32.toInt64 rm), .int 0, .ref 162]) (S' := S') rfl ?_
    refine go_lastore mm_313 (q := 0) (h := 162) (n := 1) rfl XC_out rfl in01 ?_
    refine go_run mm_313 2 (pc' := 19) (ls' := [some (.ref 0), some (.int v1), some (.ref 162), none]) (st' := [.int 0]) (S' := wL S' 162 0 (Int32.toInt64 rm)) rfl ?_
    exact go_ireturn mm_313 rfl rfl ⟨by decide, by rw [h0], Or.inl ⟨h0, rfl⟩⟩
theorem mm_314 : mtG 314 = some (mi_314, 13, ft_314) := rfl
set_option maxRecDepth 20000 in
theorem wr_314 {d : Nat} {S S1 T : ST} {v1 : Int32} {rc : String ⊕ Int32} {rm : Int32} (hr : F_121 v1 S = some (rc, S1)) (hp : Pub E12 rc rm T) : Cal XC (d + 2) 314 [.ref 0, .int v1, .ref 162] S (RWr Int32.toInt64 rm (T.1 140 0) S1) := by
  refine cal_go 1 rfl ?_
  refine go_run mm_314 4 (pc' := 4) (ls' := [some (.ref 0), some (.int v1), some (.ref 162), none]) (st' := [.int v1, .ref 0, .int 0, .ref 162]) (S' := S) rfl ?_
  refine go_cvH mm_314 (by decide) (h := 0) (As := [.int v1]) (rest := [.int 0, .ref 162]) (nl := 2) rfl XC_0 (show cvOK 314 4 17 121 1 2 10 = true by decide +kernel) rfl rfl rfl (S_121 (d := d) hr) (fun c2 o S' hq => ?_)
  rcases hp with ⟨q, hq1, rfl, hq2⟩ | ⟨rfl, h0⟩
  · obtain ⟨rfl, rfl, rfl⟩ := hq
    right
    simp only [E12, List.mem_cons, List.not_mem_nil, or_false] at hq1
    rcases hq1 with rfl | rfl
    · refine ⟨isE, 13, 3, rfl, (by decide +kernel), ?_⟩
      refine go_run mm_314 1 (pc' := 14) (ls' := []) (st' := [.int 1]) (S' := S') rfl ?_
      exact go_ireturn mm_314 rfl rfl ⟨by decide, by rw [hq2], Or.inr ⟨by rw [hq2]; decide, rfl⟩⟩
    · refine ⟨ixE, 16, 3, rfl, (by decide +kernel), ?_⟩
      refine go_run mm_314 1 (pc' := 17) (ls' := []) (st' := [.int 2]) (S' := S') rfl ?_
      exact go_ireturn mm_314 rfl rfl ⟨by decide, by rw [hq2], Or.inr ⟨by rw [hq2]; decide, rfl⟩⟩
  · obtain ⟨rfl, rfl, rfl⟩ := hq
    left
    refine ⟨_, rfl, ?_⟩
    refine go_run mm_314 1 (pc' := 8) (ls' := [some (.ref 0), some (.int v1), some (.ref 162), none]) (st' := [.long (Int32.toInt64 rm), .int 0, .ref 162]) (S' := S') rfl ?_
    refine go_lastore mm_314 (q := 0) (h := 162) (n := 1) rfl XC_out rfl in01 ?_
    refine go_run mm_314 2 (pc' := 19) (ls' := [some (.ref 0), some (.int v1), some (.ref 162), none]) (st' := [.int 0]) (S' := wL S' 162 0 (Int32.toInt64 rm)) rfl ?_
    exact go_ireturn mm_314 rfl rfl ⟨by decide, by rw [h0], Or.inl ⟨h0, rfl⟩⟩
theorem mm_315 : mtG 315 = some (mi_315, 13, ft_315) := rfl
set_option maxRecDepth 20000 in
theorem wr_315 {d : Nat} {S S1 T : ST} {v1 : Int32} {rc : String ⊕ Int32} {rm : Int32} (hr : F_122 v1 S = some (rc, S1)) (hp : Pub E12 rc rm T) : Cal XC (d + 2) 315 [.ref 0, .int v1, .ref 162] S (RWr Int32.toInt64 rm (T.1 140 0) S1) := by
  refine cal_go 1 rfl ?_
  refine go_run mm_315 4 (pc' := 4) (ls' := [some (.ref 0), some (.int v1), some (.ref 162), none]) (st' := [.int v1, .ref 0, .int 0, .ref 162]) (S' := S) rfl ?_
  refine go_cvH mm_315 (by decide) (h := 0) (As := [.int v1]) (rest := [.int 0, .ref 162]) (nl := 2) rfl XC_0 (show cvOK 315 4 22 122 1 2 10 = true by decide +kernel) rfl rfl rfl (S_122 (d := d) hr) (fun c2 o S' hq => ?_)
  rcases hp with ⟨q, hq1, rfl, hq2⟩ | ⟨rfl, h0⟩
  · obtain ⟨rfl, rfl, rfl⟩ := hq
    right
    simp only [E12, List.mem_cons, List.not_mem_nil, or_false] at hq1
    rcases hq1 with rfl | rfl
    · refine ⟨isE, 13, 3, rfl, (by decide +kernel), ?_⟩
      refine go_run mm_315 1 (pc' := 14) (ls' := []) (st' := [.int 1]) (S' := S') rfl ?_
      exact go_ireturn mm_315 rfl rfl ⟨by decide, by rw [hq2], Or.inr ⟨by rw [hq2]; decide, rfl⟩⟩
    · refine ⟨ixE, 16, 3, rfl, (by decide +kernel), ?_⟩
      refine go_run mm_315 1 (pc' := 17) (ls' := []) (st' := [.int 2]) (S' := S') rfl ?_
      exact go_ireturn mm_315 rfl rfl ⟨by decide, by rw [hq2], Or.inr ⟨by rw [hq2]; decide, rfl⟩⟩
  · obtain ⟨rfl, rfl, rfl⟩ := hq
    left
    refine ⟨_, rfl, ?_⟩
    refine go_run mm_315 1 (pc' := 8) (ls' := [some (.ref 0), some (.int v1), some (.ref 162), none]) (st' := [.long (Int32.toInt64 rm), .int 0, .ref 162]) (S' := S') rfl ?_
    refine go_lastore mm_315 (q := 0) (h := 162) (n := 1) rfl XC_out rfl in01 ?_
    refine go_run mm_315 2 (pc' := 19) (ls' := [some (.ref 0), some (.int v1), some (.ref 162), none]) (st' := [.int 0]) (S' := wL S' 162 0 (Int32.toInt64 rm)) rfl ?_
    exact go_ireturn mm_315 rfl rfl ⟨by decide, by rw [h0], Or.inl ⟨h0, rfl⟩⟩
theorem mm_316 : mtG 316 = some (mi_316, 13, ft_316) := rfl
set_option maxRecDepth 20000 in
theorem wr_316 {d : Nat} {S S1 T : ST}  {rc : String ⊕ Int32} {rm : Int32} (hr : F_123 S = some (rc, S1)) (hp : Pub E1 rc rm T) : Cal XC (d + 3) 316 [.ref 0, .ref 162] S (RWr Int32.toInt64 rm (T.1 140 0) S1) := by
  refine cal_go 1 rfl ?_
  refine go_run mm_316 3 (pc' := 3) (ls' := [some (.ref 0), some (.ref 162), none]) (st' := [.ref 0, .int 0, .ref 162]) (S' := S) rfl ?_
  refine go_cvH mm_316 (by decide) (h := 0) (As := []) (rest := [.int 0, .ref 162]) (nl := 1) rfl XC_0 (show cvOK 316 3 25 123 0 1 10 = true by decide +kernel) rfl rfl rfl (S_123 (d := d) hr) (fun c2 o S' hq => ?_)
  rcases hp with ⟨q, hq1, rfl, hq2⟩ | ⟨rfl, h0⟩
  · obtain ⟨rfl, rfl, rfl⟩ := hq
    right
    simp only [E1, List.mem_cons, List.not_mem_nil, or_false] at hq1
    rcases hq1 with rfl
    · refine ⟨isE, 12, 2, rfl, (by decide +kernel), ?_⟩
      refine go_run mm_316 1 (pc' := 13) (ls' := []) (st' := [.int 1]) (S' := S') rfl ?_
      exact go_ireturn mm_316 rfl rfl ⟨by decide, by rw [hq2], Or.inr ⟨by rw [hq2]; decide, rfl⟩⟩
  · obtain ⟨rfl, rfl, rfl⟩ := hq
    left
    refine ⟨_, rfl, ?_⟩
    refine go_run mm_316 1 (pc' := 7) (ls' := [some (.ref 0), some (.ref 162), none]) (st' := [.long (Int32.toInt64 rm), .int 0, .ref 162]) (S' := S') rfl ?_
    refine go_lastore mm_316 (q := 0) (h := 162) (n := 1) rfl XC_out rfl in01 ?_
    refine go_run mm_316 2 (pc' := 15) (ls' := [some (.ref 0), some (.ref 162), none]) (st' := [.int 0]) (S' := wL S' 162 0 (Int32.toInt64 rm)) rfl ?_
    exact go_ireturn mm_316 rfl rfl ⟨by decide, by rw [h0], Or.inl ⟨h0, rfl⟩⟩
theorem mm_317 : mtG 317 = some (mi_317, 13, ft_317) := rfl
set_option maxRecDepth 20000 in
theorem wr_317 {d : Nat} {S S1 T : ST}  {rc : String ⊕ Int32} {rm : Int32} (hr : F_124 S = some (rc, S1)) (hp : Pub E1 rc rm T) : Cal XC (d + 4) 317 [.ref 0, .ref 162] S (RWr Int32.toInt64 rm (T.1 140 0) S1) := by
  refine cal_go 1 rfl ?_
  refine go_run mm_317 3 (pc' := 3) (ls' := [some (.ref 0), some (.ref 162), none]) (st' := [.ref 0, .int 0, .ref 162]) (S' := S) rfl ?_
  refine go_cvH mm_317 (by decide) (h := 0) (As := []) (rest := [.int 0, .ref 162]) (nl := 1) rfl XC_0 (show cvOK 317 3 29 124 0 1 10 = true by decide +kernel) rfl rfl rfl (S_124 (d := d) hr) (fun c2 o S' hq => ?_)
  rcases hp with ⟨q, hq1, rfl, hq2⟩ | ⟨rfl, h0⟩
  · obtain ⟨rfl, rfl, rfl⟩ := hq
    right
    simp only [E1, List.mem_cons, List.not_mem_nil, or_false] at hq1
    rcases hq1 with rfl
    · refine ⟨isE, 12, 2, rfl, (by decide +kernel), ?_⟩
      refine go_run mm_317 1 (pc' := 13) (ls' := []) (st' := [.int 1]) (S' := S') rfl ?_
      exact go_ireturn mm_317 rfl rfl ⟨by decide, by rw [hq2], Or.inr ⟨by rw [hq2]; decide, rfl⟩⟩
  · obtain ⟨rfl, rfl, rfl⟩ := hq
    left
    refine ⟨_, rfl, ?_⟩
    refine go_run mm_317 1 (pc' := 7) (ls' := [some (.ref 0), some (.ref 162), none]) (st' := [.long (Int32.toInt64 rm), .int 0, .ref 162]) (S' := S') rfl ?_
    refine go_lastore mm_317 (q := 0) (h := 162) (n := 1) rfl XC_out rfl in01 ?_
    refine go_run mm_317 2 (pc' := 15) (ls' := [some (.ref 0), some (.ref 162), none]) (st' := [.int 0]) (S' := wL S' 162 0 (Int32.toInt64 rm)) rfl ?_
    exact go_ireturn mm_317 rfl rfl ⟨by decide, by rw [h0], Or.inl ⟨h0, rfl⟩⟩
theorem mm_318 : mtG 318 = some (mi_318, 13, ft_318) := rfl
set_option maxRecDepth 20000 in
theorem wr_318 {d : Nat} {S S1 T : ST} {v1 : Int32} {rc : String ⊕ Int32} {rm : Int32} (hr : F_126 v1 S = some (rc, S1)) (hp : Pub E12 rc rm T) : Cal XC (d + 2) 318 [.ref 0, .int v1, .ref 162] S (RWr Int32.toInt64 rm (T.1 140 0) S1) := by
  refine cal_go 1 rfl ?_
  refine go_run mm_318 4 (pc' := 4) (ls' := [some (.ref 0), some (.int v1), some (.ref 162), none]) (st' := [.int v1, .ref 0, .int 0, .ref 162]) (S' := S) rfl ?_
  refine go_cvH mm_318 (by decide) (h := 0) (As := [.int v1]) (rest := [.int 0, .ref 162]) (nl := 2) rfl XC_0 (show cvOK 318 4 32 126 1 2 10 = true by decide +kernel) rfl rfl rfl (S_126 (d := d) hr) (fun c2 o S' hq => ?_)
  rcases hp with ⟨q, hq1, rfl, hq2⟩ | ⟨rfl, h0⟩
  · obtain ⟨rfl, rfl, rfl⟩ := hq
    right
    simp only [E12, List.mem_cons, List.not_mem_nil, or_false] at hq1
    rcases hq1 with rfl | rfl
    · refine ⟨isE, 13, 3, rfl, (by decide +kernel), ?_⟩
      refine go_run mm_318 1 (pc' := 14) (ls' := []) (st' := [.int 1]) (S' := S') rfl ?_
      exact go_ireturn mm_318 rfl rfl ⟨by decide, by rw [hq2], Or.inr ⟨by rw [hq2]; decide, rfl⟩⟩
    · refine ⟨ixE, 16, 3, rfl, (by decide +kernel), ?_⟩
      refine go_run mm_318 1 (pc' := 17) (ls' := []) (st' := [.int 2]) (S' := S') rfl ?_
      exact go_ireturn mm_318 rfl rfl ⟨by decide, by rw [hq2], Or.inr ⟨by rw [hq2]; decide, rfl⟩⟩
  · obtain ⟨rfl, rfl, rfl⟩ := hq
    left
    refine ⟨_, rfl, ?_⟩
    refine go_run mm_318 1 (pc' := 8) (ls' := [some (.ref 0), some (.int v1), some (.ref 162), none]) (st' := [.long (Int32.toInt64 rm), .int 0, .ref 162]) (S' := S') rfl ?_
    refine go_lastore mm_318 (q := 0) (h := 162) (n := 1) rfl XC_out rfl in01 ?_
    refine go_run mm_318 2 (pc' := 19) (ls' := [some (.ref 0), some (.int v1), some (.ref 162), none]) (st' := [.int 0]) (S' := wL S' 162 0 (Int32.toInt64 rm)) rfl ?_
    exact go_ireturn mm_318 rfl rfl ⟨by decide, by rw [h0], Or.inl ⟨h0, rfl⟩⟩
theorem mm_319 : mtG 319 = some (mi_319, 13, ft_319) := rfl
set_option maxRecDepth 20000 in
theorem wr_319 {d : Nat} {S S1 T : ST} {v1 : Int32} {rc : String ⊕ Int32} {rm : Int32} (hr : F_127 v1 S = some (rc, S1)) (hp : Pub E12 rc rm T) : Cal XC (d + 2) 319 [.ref 0, .int v1, .ref 162] S (RWr Int32.toInt64 rm (T.1 140 0) S1) := by
  refine cal_go 1 rfl ?_
  refine go_run mm_319 4 (pc' := 4) (ls' := [some (.ref 0), some (.int v1), some (.ref 162), none]) (st' := [.int v1, .ref 0, .int 0, .ref 162]) (S' := S) rfl ?_
  refine go_cvH mm_319 (by decide) (h := 0) (As := [.int v1]) (rest := [.int 0, .ref 162]) (nl := 2) rfl XC_0 (show cvOK 319 4 35 127 1 2 10 = true by decide +kernel) rfl rfl rfl (S_127 (d := d) hr) (fun c2 o S' hq => ?_)
  rcases hp with ⟨q, hq1, rfl, hq2⟩ | ⟨rfl, h0⟩
  · obtain ⟨rfl, rfl, rfl⟩ := hq
    right
    simp only [E12, List.mem_cons, List.not_mem_nil, or_false] at hq1
    rcases hq1 with rfl | rfl
    · refine ⟨isE, 13, 3, rfl, (by decide +kernel), ?_⟩
      refine go_run mm_319 1 (pc' := 14) (ls' := []) (st' := [.int 1]) (S' := S') rfl ?_
      exact go_ireturn mm_319 rfl rfl ⟨by decide, by rw [hq2], Or.inr ⟨by rw [hq2]; decide, rfl⟩⟩
    · refine ⟨ixE, 16, 3, rfl, (by decide +kernel), ?_⟩
      refine go_run mm_319 1 (pc' := 17) (ls' := []) (st' := [.int 2]) (S' := S') rfl ?_
      exact go_ireturn mm_319 rfl rfl ⟨by decide, by rw [hq2], Or.inr ⟨by rw [hq2]; decide, rfl⟩⟩
  · obtain ⟨rfl, rfl, rfl⟩ := hq
    left
    refine ⟨_, rfl, ?_⟩
    refine go_run mm_319 1 (pc' := 8) (ls' := [some (.ref 0), some (.int v1), some (.ref 162), none]) (st' := [.long (Int32.toInt64 rm), .int 0, .ref 162]) (S' := S') rfl ?_
    refine go_lastore mm_319 (q := 0) (h := 162) (n := 1) rfl XC_out rfl in01 ?_
    refine go_run mm_319 2 (pc' := 19) (ls' := [some (.ref 0), some (.int v1), some (.ref 162), none]) (st' := [.int 0]) (S' := wL S' 162 0 (Int32.toInt64 rm)) rfl ?_
    exact go_ireturn mm_319 rfl rfl ⟨by decide, by rw [h0], Or.inl ⟨h0, rfl⟩⟩
theorem mm_320 : mtG 320 = some (mi_320, 13, ft_320) := rfl
set_option maxRecDepth 20000 in
theorem wr_320 {d : Nat} {S S1 T : ST} {v1 : Int32} {v2 : Int32} {rc : String ⊕ Int32} {rm : Int32} (hr : F_128 v1 v2 S = some (rc, S1)) (hp : Pub E1 rc rm T) : Cal XC (d + 2) 320 [.ref 0, .int v1, .int v2, .ref 162] S (RWr Int32.toInt64 rm (T.1 140 0) S1) := by
  refine cal_go 1 rfl ?_
  refine go_run mm_320 5 (pc' := 5) (ls' := [some (.ref 0), some (.int v1), some (.int v2), some (.ref 162), none]) (st' := [.int v2, .int v1, .ref 0, .int 0, .ref 162]) (S' := S) rfl ?_
  refine go_cvH mm_320 (by decide) (h := 0) (As := [.int v1, .int v2]) (rest := [.int 0, .ref 162]) (nl := 3) rfl XC_0 (show cvOK 320 5 38 128 2 3 10 = true by decide +kernel) rfl rfl rfl (S_128 (d := d) hr) (fun c2 o S' hq => ?_)
  rcases hp with ⟨q, hq1, rfl, hq2⟩ | ⟨rfl, h0⟩
  · obtain ⟨rfl, rfl, rfl⟩ := hq
    right
    simp only [E1, List.mem_cons, List.not_mem_nil, or_false] at hq1
    rcases hq1 with rfl
    · refine ⟨isE, 15, 4, rfl, (by decide +kernel), ?_⟩
      refine go_run mm_320 1 (pc' := 16) (ls' := []) (st' := [.int 1]) (S' := S') rfl ?_
      exact go_ireturn mm_320 rfl rfl ⟨by decide, by rw [hq2], Or.inr ⟨by rw [hq2]; decide, rfl⟩⟩
  · obtain ⟨rfl, rfl, rfl⟩ := hq
    left
    refine ⟨_, rfl, ?_⟩
    refine go_run mm_320 1 (pc' := 9) (ls' := [some (.ref 0), some (.int v1), some (.int v2), some (.ref 162), none]) (st' := [.long (Int32.toInt64 rm), .int 0, .ref 162]) (S' := S') rfl ?_
    refine go_lastore mm_320 (q := 0) (h := 162) (n := 1) rfl XC_out rfl in01 ?_
    refine go_run mm_320 2 (pc' := 18) (ls' := [some (.ref 0), some (.int v1), some (.int v2), some (.ref 162), none]) (st' := [.int 0]) (S' := wL S' 162 0 (Int32.toInt64 rm)) rfl ?_
    exact go_ireturn mm_320 rfl rfl ⟨by decide, by rw [h0], Or.inl ⟨h0, rfl⟩⟩
theorem mm_321 : mtG 321 = some (mi_321, 13, ft_321) := rfl
set_option maxRecDepth 20000 in
theorem wr_321 {d : Nat} {S S1 T : ST}  {rc : String ⊕ Int64} {rm : Int64} (hr : F_129 S = some (rc, S1)) (hp : Pub E1 rc rm T) : Cal XC (d + 2) 321 [.ref 0, .ref 162] S (RWr id rm (T.1 140 0) S1) := by
  refine cal_go 1 rfl ?_
  refine go_run mm_321 3 (pc' := 3) (ls' := [some (.ref 0), some (.ref 162), none]) (st' := [.ref 0, .int 0, .ref 162]) (S' := S) rfl ?_
  refine go_cvH mm_321 (by decide) (h := 0) (As := []) (rest := [.int 0, .ref 162]) (nl := 1) rfl XC_0 (show cvOK 321 3 42 129 0 1 10 = true by decide +kernel) rfl rfl rfl (S_129 (d := d) hr) (fun c2 o S' hq => ?_)
  rcases hp with ⟨q, hq1, rfl, hq2⟩ | ⟨rfl, h0⟩
  · obtain ⟨rfl, rfl, rfl⟩ := hq
    right
    simp only [E1, List.mem_cons, List.not_mem_nil, or_false] at hq1
    rcases hq1 with rfl
    · refine ⟨isE, 11, 2, rfl, (by decide +kernel), ?_⟩
      refine go_run mm_321 1 (pc' := 12) (ls' := []) (st' := [.int 1]) (S' := S') rfl ?_
      exact go_ireturn mm_321 rfl rfl ⟨by decide, by rw [hq2], Or.inr ⟨by rw [hq2]; decide, rfl⟩⟩
  · obtain ⟨rfl, rfl, rfl⟩ := hq
    left
    refine ⟨_, rfl, ?_⟩
    show Go XC (d + 2) 321 (0 + 0) 6 [some (.ref 0), some (.ref 162), none] [.long rm, .int 0, .ref 162] S' _
    refine go_lastore mm_321 (q := 0) (h := 162) (n := 1) rfl XC_out rfl in01 ?_
    refine go_run mm_321 2 (pc' := 14) (ls' := [some (.ref 0), some (.ref 162), none]) (st' := [.int 0]) (S' := wL S' 162 0 (rm)) rfl ?_
    exact go_ireturn mm_321 rfl rfl ⟨by decide, by rw [h0], Or.inl ⟨h0, rfl⟩⟩
theorem mm_322 : mtG 322 = some (mi_322, 13, ft_322) := rfl
set_option maxRecDepth 20000 in
theorem wr_322 {d : Nat} {S S1 T : ST} {v1 : Int32} {v2 : Int32} {rc : String ⊕ Bool} {rm : Bool} (hr : F_130 v1 v2 S = some (rc, S1)) (hp : Pub E12 rc rm T) : Cal XC (d + 7) 322 [.ref 0, .int v1, .int v2, .ref 162] S (RWr bLo rm (T.1 140 0) S1) := by
  refine cal_go 1 rfl ?_
  refine go_run mm_322 5 (pc' := 5) (ls' := [some (.ref 0), some (.int v1), some (.int v2), some (.ref 162), none]) (st' := [.int v2, .int v1, .ref 0, .int 0, .ref 162]) (S' := S) rfl ?_
  refine go_cvH mm_322 (by decide) (h := 0) (As := [.int v1, .int v2]) (rest := [.int 0, .ref 162]) (nl := 3) rfl XC_0 (show cvOK 322 5 46 130 2 3 10 = true by decide +kernel) rfl rfl rfl (S_130 (d := d) hr) (fun c2 o S' hq => ?_)
  rcases hp with ⟨q, hq1, rfl, hq2⟩ | ⟨rfl, h0⟩
  · obtain ⟨rfl, rfl, rfl⟩ := hq
    right
    simp only [E12, List.mem_cons, List.not_mem_nil, or_false] at hq1
    rcases hq1 with rfl | rfl
    · refine ⟨isE, 22, 4, rfl, (by decide +kernel), ?_⟩
      refine go_run mm_322 1 (pc' := 23) (ls' := []) (st' := [.int 1]) (S' := S') rfl ?_
      exact go_ireturn mm_322 rfl rfl ⟨by decide, by rw [hq2], Or.inr ⟨by rw [hq2]; decide, rfl⟩⟩
    · refine ⟨ixE, 26, 4, rfl, (by decide +kernel), ?_⟩
      refine go_run mm_322 1 (pc' := 27) (ls' := []) (st' := [.int 2]) (S' := S') rfl ?_
      exact go_ireturn mm_322 rfl rfl ⟨by decide, by rw [hq2], Or.inr ⟨by rw [hq2]; decide, rfl⟩⟩
  · obtain ⟨rfl, rfl, rfl⟩ := hq
    left
    refine ⟨_, rfl, ?_⟩
    show Go XC (d + 7) 322 (0 + 0) 8 [some (.ref 0), some (.int v1), some (.int v2), some (.ref 162), none] [.int (b2i rm), .int 0, .ref 162] S' _
    refine go_ifb mm_322 rfl (p1 := 11) (p2 := 15) rfl (fun hb => ?_) (fun hb => ?_)
    · subst hb
      refine go_run mm_322 2 (pc' := 16) (ls' := [some (.ref 0), some (.int v1), some (.int v2), some (.ref 162), none]) (st' := [.long (bLo true), .int 0, .ref 162]) (S' := S') rfl ?_
      refine go_lastore mm_322 (q := 0) (h := 162) (n := 1) rfl XC_out rfl in01 ?_
      refine go_run mm_322 2 (pc' := 29) (ls' := [some (.ref 0), some (.int v1), some (.int v2), some (.ref 162), none]) (st' := [.int 0]) (S' := wL S' 162 0 (bLo true)) rfl ?_
      exact go_ireturn mm_322 rfl rfl ⟨by decide, by rw [h0], Or.inl ⟨h0, rfl⟩⟩
    · subst hb
      refine go_run mm_322 1 (pc' := 16) (ls' := [some (.ref 0), some (.int v1), some (.int v2), some (.ref 162), none]) (st' := [.long (bLo false), .int 0, .ref 162]) (S' := S') rfl ?_
      refine go_lastore mm_322 (q := 0) (h := 162) (n := 1) rfl XC_out rfl in01 ?_
      refine go_run mm_322 2 (pc' := 29) (ls' := [some (.ref 0), some (.int v1), some (.int v2), some (.ref 162), none]) (st' := [.int 0]) (S' := wL S' 162 0 (bLo false)) rfl ?_
      exact go_ireturn mm_322 rfl rfl ⟨by decide, by rw [h0], Or.inl ⟨h0, rfl⟩⟩
theorem mm_323 : mtG 323 = some (mi_323, 13, ft_323) := rfl
set_option maxRecDepth 20000 in
theorem wr_323 {d : Nat} {S S1 T : ST} {v1 : Int32} {rc : String ⊕ Int64} {rm : Int64} (hr : F_131 v1 S = some (rc, S1)) (hp : Pub E12 rc rm T) : Cal XC (d + 7) 323 [.ref 0, .int v1, .ref 162] S (RWr id rm (T.1 140 0) S1) := by
  refine cal_go 1 rfl ?_
  refine go_run mm_323 4 (pc' := 4) (ls' := [some (.ref 0), some (.int v1), some (.ref 162), none]) (st' := [.int v1, .ref 0, .int 0, .ref 162]) (S' := S) rfl ?_
  refine go_cvH mm_323 (by decide) (h := 0) (As := [.int v1]) (rest := [.int 0, .ref 162]) (nl := 2) rfl XC_0 (show cvOK 323 4 50 131 1 2 10 = true by decide +kernel) rfl rfl rfl (S_131 (d := d) hr) (fun c2 o S' hq => ?_)
  rcases hp with ⟨q, hq1, rfl, hq2⟩ | ⟨rfl, h0⟩
  · obtain ⟨rfl, rfl, rfl⟩ := hq
    right
    simp only [E12, List.mem_cons, List.not_mem_nil, or_false] at hq1
    rcases hq1 with rfl | rfl
    · refine ⟨isE, 12, 3, rfl, (by decide +kernel), ?_⟩
      refine go_run mm_323 1 (pc' := 13) (ls' := []) (st' := [.int 1]) (S' := S') rfl ?_
      exact go_ireturn mm_323 rfl rfl ⟨by decide, by rw [hq2], Or.inr ⟨by rw [hq2]; decide, rfl⟩⟩
    · refine ⟨ixE, 15, 3, rfl, (by decide +kernel), ?_⟩
      refine go_run mm_323 1 (pc' := 16) (ls' := []) (st' := [.int 2]) (S' := S') rfl ?_
      exact go_ireturn mm_323 rfl rfl ⟨by decide, by rw [hq2], Or.inr ⟨by rw [hq2]; decide, rfl⟩⟩
  · obtain ⟨rfl, rfl, rfl⟩ := hq
    left
    refine ⟨_, rfl, ?_⟩
    show Go XC (d + 7) 323 (0 + 0) 7 [some (.ref 0), some (.int v1), some (.ref 162), none] [.long rm, .int 0, .ref 162] S' _
    refine go_lastore mm_323 (q := 0) (h := 162) (n := 1) rfl XC_out rfl in01 ?_
    refine go_run mm_323 2 (pc' := 18) (ls' := [some (.ref 0), some (.int v1), some (.ref 162), none]) (st' := [.int 0]) (S' := wL S' 162 0 (rm)) rfl ?_
    exact go_ireturn mm_323 rfl rfl ⟨by decide, by rw [h0], Or.inl ⟨h0, rfl⟩⟩
theorem mm_324 : mtG 324 = some (mi_324, 13, ft_324) := rfl
set_option maxRecDepth 20000 in
theorem wr_324 {d : Nat} {S S1 T : ST}  {rc : String ⊕ Int64} {rm : Int64} (hr : F_132 S = some (rc, S1)) (hp : Pub E1 rc rm T) : Cal XC (d + 7) 324 [.ref 0, .ref 162] S (RWr id rm (T.1 140 0) S1) := by
  refine cal_go 1 rfl ?_
  refine go_run mm_324 3 (pc' := 3) (ls' := [some (.ref 0), some (.ref 162), none]) (st' := [.ref 0, .int 0, .ref 162]) (S' := S) rfl ?_
  refine go_cvH mm_324 (by decide) (h := 0) (As := []) (rest := [.int 0, .ref 162]) (nl := 1) rfl XC_0 (show cvOK 324 3 54 132 0 1 10 = true by decide +kernel) rfl rfl rfl (S_132 (d := d) hr) (fun c2 o S' hq => ?_)
  rcases hp with ⟨q, hq1, rfl, hq2⟩ | ⟨rfl, h0⟩
  · obtain ⟨rfl, rfl, rfl⟩ := hq
    right
    simp only [E1, List.mem_cons, List.not_mem_nil, or_false] at hq1
    rcases hq1 with rfl
    · refine ⟨isE, 11, 2, rfl, (by decide +kernel), ?_⟩
      refine go_run mm_324 1 (pc' := 12) (ls' := []) (st' := [.int 1]) (S' := S') rfl ?_
      exact go_ireturn mm_324 rfl rfl ⟨by decide, by rw [hq2], Or.inr ⟨by rw [hq2]; decide, rfl⟩⟩
  · obtain ⟨rfl, rfl, rfl⟩ := hq
    left
    refine ⟨_, rfl, ?_⟩
    show Go XC (d + 7) 324 (0 + 0) 6 [some (.ref 0), some (.ref 162), none] [.long rm, .int 0, .ref 162] S' _
    refine go_lastore mm_324 (q := 0) (h := 162) (n := 1) rfl XC_out rfl in01 ?_
    refine go_run mm_324 2 (pc' := 14) (ls' := [some (.ref 0), some (.ref 162), none]) (st' := [.int 0]) (S' := wL S' 162 0 (rm)) rfl ?_
    exact go_ireturn mm_324 rfl rfl ⟨by decide, by rw [h0], Or.inl ⟨h0, rfl⟩⟩
theorem mm_325 : mtG 325 = some (mi_325, 13, ft_325) := rfl
set_option maxRecDepth 20000 in
theorem wr_325 {d : Nat} {S S1 T : ST} {v1 : Int32} {v2 : Int32} {rc : String ⊕ Int32} {rm : Int32} (hr : F_133 v1 v2 S = some (rc, S1)) (hp : Pub E12 rc rm T) : Cal XC (d + 7) 325 [.ref 0, .int v1, .int v2, .ref 162] S (RWr Int32.toInt64 rm (T.1 140 0) S1) := by
  refine cal_go 1 rfl ?_
  refine go_run mm_325 5 (pc' := 5) (ls' := [some (.ref 0), some (.int v1), some (.int v2), some (.ref 162), none]) (st' := [.int v2, .int v1, .ref 0, .int 0, .ref 162]) (S' := S) rfl ?_
  refine go_cvH mm_325 (by decide) (h := 0) (As := [.int v1, .int v2]) (rest := [.int 0, .ref 162]) (nl := 3) rfl XC_0 (show cvOK 325 5 57 133 2 3 10 = true by decide +kernel) rfl rfl rfl (S_133 (d := d) hr) (fun c2 o S' hq => ?_)
  rcases hp with ⟨q, hq1, rfl, hq2⟩ | ⟨rfl, h0⟩
  · obtain ⟨rfl, rfl, rfl⟩ := hq
    right
    simp only [E12, List.mem_cons, List.not_mem_nil, or_false] at hq1
    rcases hq1 with rfl | rfl
    · refine ⟨isE, 15, 4, rfl, (by decide +kernel), ?_⟩
      refine go_run mm_325 1 (pc' := 16) (ls' := []) (st' := [.int 1]) (S' := S') rfl ?_
      exact go_ireturn mm_325 rfl rfl ⟨by decide, by rw [hq2], Or.inr ⟨by rw [hq2]; decide, rfl⟩⟩
    · refine ⟨ixE, 19, 4, rfl, (by decide +kernel), ?_⟩
      refine go_run mm_325 1 (pc' := 20) (ls' := []) (st' := [.int 2]) (S' := S') rfl ?_
      exact go_ireturn mm_325 rfl rfl ⟨by decide, by rw [hq2], Or.inr ⟨by rw [hq2]; decide, rfl⟩⟩
  · obtain ⟨rfl, rfl, rfl⟩ := hq
    left
    refine ⟨_, rfl, ?_⟩
    refine go_run mm_325 1 (pc' := 9) (ls' := [some (.ref 0), some (.int v1), some (.int v2), some (.ref 162), none]) (st' := [.long (Int32.toInt64 rm), .int 0, .ref 162]) (S' := S') rfl ?_
    refine go_lastore mm_325 (q := 0) (h := 162) (n := 1) rfl XC_out rfl in01 ?_
    refine go_run mm_325 2 (pc' := 22) (ls' := [some (.ref 0), some (.int v1), some (.int v2), some (.ref 162), none]) (st' := [.int 0]) (S' := wL S' 162 0 (Int32.toInt64 rm)) rfl ?_
    exact go_ireturn mm_325 rfl rfl ⟨by decide, by rw [h0], Or.inl ⟨h0, rfl⟩⟩
theorem mm_326 : mtG 326 = some (mi_326, 13, ft_326) := rfl
set_option maxRecDepth 20000 in
theorem wr_326 {d : Nat} {S S1 T : ST}  {rc : String ⊕ Int32} {rm : Int32} (hr : F_134 S = some (rc, S1)) (hp : Pub E1 rc rm T) : Cal XC (d + 7) 326 [.ref 0, .ref 162] S (RWr Int32.toInt64 rm (T.1 140 0) S1) := by
  refine cal_go 1 rfl ?_
  refine go_run mm_326 3 (pc' := 3) (ls' := [some (.ref 0), some (.ref 162), none]) (st' := [.ref 0, .int 0, .ref 162]) (S' := S) rfl ?_
  refine go_cvH mm_326 (by decide) (h := 0) (As := []) (rest := [.int 0, .ref 162]) (nl := 1) rfl XC_0 (show cvOK 326 3 60 134 0 1 10 = true by decide +kernel) rfl rfl rfl (S_134 (d := d) hr) (fun c2 o S' hq => ?_)
  rcases hp with ⟨q, hq1, rfl, hq2⟩ | ⟨rfl, h0⟩
  · obtain ⟨rfl, rfl, rfl⟩ := hq
    right
    simp only [E1, List.mem_cons, List.not_mem_nil, or_false] at hq1
    rcases hq1 with rfl
    · refine ⟨isE, 12, 2, rfl, (by decide +kernel), ?_⟩
      refine go_run mm_326 1 (pc' := 13) (ls' := []) (st' := [.int 1]) (S' := S') rfl ?_
      exact go_ireturn mm_326 rfl rfl ⟨by decide, by rw [hq2], Or.inr ⟨by rw [hq2]; decide, rfl⟩⟩
  · obtain ⟨rfl, rfl, rfl⟩ := hq
    left
    refine ⟨_, rfl, ?_⟩
    refine go_run mm_326 1 (pc' := 7) (ls' := [some (.ref 0), some (.ref 162), none]) (st' := [.long (Int32.toInt64 rm), .int 0, .ref 162]) (S' := S') rfl ?_
    refine go_lastore mm_326 (q := 0) (h := 162) (n := 1) rfl XC_out rfl in01 ?_
    refine go_run mm_326 2 (pc' := 15) (ls' := [some (.ref 0), some (.ref 162), none]) (st' := [.int 0]) (S' := wL S' 162 0 (Int32.toInt64 rm)) rfl ?_
    exact go_ireturn mm_326 rfl rfl ⟨by decide, by rw [h0], Or.inl ⟨h0, rfl⟩⟩
theorem mm_327 : mtG 327 = some (mi_327, 13, ft_327) := rfl
set_option maxRecDepth 20000 in
theorem wr_327 {d : Nat} {S S1 T : ST} {v1 : Int32} {rc : String ⊕ Int32} {rm : Int32} (hr : F_135 v1 S = some (rc, S1)) (hp : Pub E12 rc rm T) : Cal XC (d + 7) 327 [.ref 0, .int v1, .ref 162] S (RWr Int32.toInt64 rm (T.1 140 0) S1) := by
  refine cal_go 1 rfl ?_
  refine go_run mm_327 4 (pc' := 4) (ls' := [some (.ref 0), some (.int v1), some (.ref 162), none]) (st' := [.int v1, .ref 0, .int 0, .ref 162]) (S' := S) rfl ?_
  refine go_cvH mm_327 (by decide) (h := 0) (As := [.int v1]) (rest := [.int 0, .ref 162]) (nl := 2) rfl XC_0 (show cvOK 327 4 63 135 1 2 10 = true by decide +kernel) rfl rfl rfl (S_135 (d := d) hr) (fun c2 o S' hq => ?_)
  rcases hp with ⟨q, hq1, rfl, hq2⟩ | ⟨rfl, h0⟩
  · obtain ⟨rfl, rfl, rfl⟩ := hq
    right
    simp only [E12, List.mem_cons, List.not_mem_nil, or_false] at hq1
    rcases hq1 with rfl | rfl
    · refine ⟨isE, 13, 3, rfl, (by decide +kernel), ?_⟩
      refine go_run mm_327 1 (pc' := 14) (ls' := []) (st' := [.int 1]) (S' := S') rfl ?_
      exact go_ireturn mm_327 rfl rfl ⟨by decide, by rw [hq2], Or.inr ⟨by rw [hq2]; decide, rfl⟩⟩
    · refine ⟨ixE, 16, 3, rfl, (by decide +kernel), ?_⟩
      refine go_run mm_327 1 (pc' := 17) (ls' := []) (st' := [.int 2]) (S' := S') rfl ?_
      exact go_ireturn mm_327 rfl rfl ⟨by decide, by rw [hq2], Or.inr ⟨by rw [hq2]; decide, rfl⟩⟩
  · obtain ⟨rfl, rfl, rfl⟩ := hq
    left
    refine ⟨_, rfl, ?_⟩
    refine go_run mm_327 1 (pc' := 8) (ls' := [some (.ref 0), some (.int v1), some (.ref 162), none]) (st' := [.long (Int32.toInt64 rm), .int 0, .ref 162]) (S' := S') rfl ?_
    refine go_lastore mm_327 (q := 0) (h := 162) (n := 1) rfl XC_out rfl in01 ?_
    refine go_run mm_327 2 (pc' := 19) (ls' := [some (.ref 0), some (.int v1), some (.ref 162), none]) (st' := [.int 0]) (S' := wL S' 162 0 (Int32.toInt64 rm)) rfl ?_
    exact go_ireturn mm_327 rfl rfl ⟨by decide, by rw [h0], Or.inl ⟨h0, rfl⟩⟩
theorem mm_328 : mtG 328 = some (mi_328, 13, ft_328) := rfl
set_option maxRecDepth 20000 in
theorem wr_328 {d : Nat} {S S1 T : ST} {v1 : Int32} {rc : String ⊕ Int64} {rm : Int64} (hr : F_136 v1 S = some (rc, S1)) (hp : Pub E12 rc rm T) : Cal XC (d + 7) 328 [.ref 0, .int v1, .ref 162] S (RWr id rm (T.1 140 0) S1) := by
  refine cal_go 1 rfl ?_
  refine go_run mm_328 4 (pc' := 4) (ls' := [some (.ref 0), some (.int v1), some (.ref 162), none]) (st' := [.int v1, .ref 0, .int 0, .ref 162]) (S' := S) rfl ?_
  refine go_cvH mm_328 (by decide) (h := 0) (As := [.int v1]) (rest := [.int 0, .ref 162]) (nl := 2) rfl XC_0 (show cvOK 328 4 66 136 1 2 10 = true by decide +kernel) rfl rfl rfl (S_136 (d := d) hr) (fun c2 o S' hq => ?_)
  rcases hp with ⟨q, hq1, rfl, hq2⟩ | ⟨rfl, h0⟩
  · obtain ⟨rfl, rfl, rfl⟩ := hq
    right
    simp only [E12, List.mem_cons, List.not_mem_nil, or_false] at hq1
    rcases hq1 with rfl | rfl
    · refine ⟨isE, 12, 3, rfl, (by decide +kernel), ?_⟩
      refine go_run mm_328 1 (pc' := 13) (ls' := []) (st' := [.int 1]) (S' := S') rfl ?_
      exact go_ireturn mm_328 rfl rfl ⟨by decide, by rw [hq2], Or.inr ⟨by rw [hq2]; decide, rfl⟩⟩
    · refine ⟨ixE, 15, 3, rfl, (by decide +kernel), ?_⟩
      refine go_run mm_328 1 (pc' := 16) (ls' := []) (st' := [.int 2]) (S' := S') rfl ?_
      exact go_ireturn mm_328 rfl rfl ⟨by decide, by rw [hq2], Or.inr ⟨by rw [hq2]; decide, rfl⟩⟩
  · obtain ⟨rfl, rfl, rfl⟩ := hq
    left
    refine ⟨_, rfl, ?_⟩
    show Go XC (d + 7) 328 (0 + 0) 7 [some (.ref 0), some (.int v1), some (.ref 162), none] [.long rm, .int 0, .ref 162] S' _
    refine go_lastore mm_328 (q := 0) (h := 162) (n := 1) rfl XC_out rfl in01 ?_
    refine go_run mm_328 2 (pc' := 18) (ls' := [some (.ref 0), some (.int v1), some (.ref 162), none]) (st' := [.int 0]) (S' := wL S' 162 0 (rm)) rfl ?_
    exact go_ireturn mm_328 rfl rfl ⟨by decide, by rw [h0], Or.inl ⟨h0, rfl⟩⟩
theorem mm_329 : mtG 329 = some (mi_329, 13, ft_329) := rfl
set_option maxRecDepth 20000 in
theorem wr_329 {d : Nat} {S S1 T : ST} {v1 : Int32} {v2 : Int32} {rc : String ⊕ Int32} {rm : Int32} (hr : F_137 v1 v2 S = some (rc, S1)) (hp : Pub E123 rc rm T) : Cal XC (d + 7) 329 [.ref 0, .int v1, .int v2, .ref 162] S (RWr Int32.toInt64 rm (T.1 140 0) S1) := by
  refine cal_go 1 rfl ?_
  refine go_run mm_329 5 (pc' := 5) (ls' := [some (.ref 0), some (.int v1), some (.int v2), some (.ref 162), none]) (st' := [.int v2, .int v1, .ref 0, .int 0, .ref 162]) (S' := S) rfl ?_
  refine go_cvH mm_329 (by decide) (h := 0) (As := [.int v1, .int v2]) (rest := [.int 0, .ref 162]) (nl := 3) rfl XC_0 (show cvOK 329 5 69 137 2 3 10 = true by decide +kernel) rfl rfl rfl (S_137 (d := d) hr) (fun c2 o S' hq => ?_)
  rcases hp with ⟨q, hq1, rfl, hq2⟩ | ⟨rfl, h0⟩
  · obtain ⟨rfl, rfl, rfl⟩ := hq
    right
    simp only [E123, List.mem_cons, List.not_mem_nil, or_false] at hq1
    rcases hq1 with rfl | rfl | rfl
    · refine ⟨isE, 15, 4, rfl, (by decide +kernel), ?_⟩
      refine go_run mm_329 1 (pc' := 16) (ls' := []) (st' := [.int 1]) (S' := S') rfl ?_
      exact go_ireturn mm_329 rfl rfl ⟨by decide, by rw [hq2], Or.inr ⟨by rw [hq2]; decide, rfl⟩⟩
    · refine ⟨ixE, 19, 4, rfl, (by decide +kernel), ?_⟩
      refine go_run mm_329 1 (pc' := 20) (ls' := []) (st' := [.int 2]) (S' := S') rfl ?_
      exact go_ireturn mm_329 rfl rfl ⟨by decide, by rw [hq2], Or.inr ⟨by rw [hq2]; decide, rfl⟩⟩
    · refine ⟨iaE, 23, 4, rfl, (by decide +kernel), ?_⟩
      refine go_run mm_329 1 (pc' := 24) (ls' := []) (st' := [.int 3]) (S' := S') rfl ?_
      exact go_ireturn mm_329 rfl rfl ⟨by decide, by rw [hq2], Or.inr ⟨by rw [hq2]; decide, rfl⟩⟩
  · obtain ⟨rfl, rfl, rfl⟩ := hq
    left
    refine ⟨_, rfl, ?_⟩
    refine go_run mm_329 1 (pc' := 9) (ls' := [some (.ref 0), some (.int v1), some (.int v2), some (.ref 162), none]) (st' := [.long (Int32.toInt64 rm), .int 0, .ref 162]) (S' := S') rfl ?_
    refine go_lastore mm_329 (q := 0) (h := 162) (n := 1) rfl XC_out rfl in01 ?_
    refine go_run mm_329 2 (pc' := 26) (ls' := [some (.ref 0), some (.int v1), some (.int v2), some (.ref 162), none]) (st' := [.int 0]) (S' := wL S' 162 0 (Int32.toInt64 rm)) rfl ?_
    exact go_ireturn mm_329 rfl rfl ⟨by decide, by rw [h0], Or.inl ⟨h0, rfl⟩⟩
