/-! the law's own methods: what they answer, by what the class's functions say (printed by law.py) -/
theorem mm_347 : mtG 347 = some (mi_347, 13, ft_347) := rfl
set_option maxRecDepth 20000 in
theorem wr_347 {d : Nat} {S S1 T : ST}  {rc : String ⊕ Int32} {rm : Int32} (hr : F_156 S = some (rc, S1)) (hp : Pub E1 rc rm T) : Cal XC (d + 7) 347 [.ref 0, .ref 162] S (RWr Int32.toInt64 rm (T.1 140 0) S1) := by
  refine cal_go 1 rfl ?_
  refine go_run mm_347 3 (pc' := 3) (ls' := [some (.ref 0), some (.ref 162), none]) (st' := [.ref 0, .int 0, .ref 162]) (S' := S) rfl ?_
  refine go_cvH mm_347 (by decide) (h := 0) (As := []) (rest := [.int 0, .ref 162]) (nl := 1) rfl XC_0 (show cvOK 347 3 123 156 0 1 10 = true by decide +kernel) rfl rfl rfl (S_156 (d := d) hr) (fun c2 o S' hq => ?_)
  rcases hp with ⟨q, hq1, rfl, hq2⟩ | ⟨rfl, h0⟩
  · obtain ⟨rfl, rfl, rfl⟩ := hq
    right
    simp only [E1, List.mem_cons, List.not_mem_nil, or_false] at hq1
    rcases hq1 with rfl
    · refine ⟨isE, 12, 2, rfl, (by decide +kernel), ?_⟩
      refine go_run mm_347 1 (pc' := 13) (ls' := []) (st' := [.int 1]) (S' := S') rfl ?_
      exact go_ireturn mm_347 rfl rfl ⟨by decide, by rw [hq2], Or.inr ⟨by rw [hq2]; decide, rfl⟩⟩
  · obtain ⟨rfl, rfl, rfl⟩ := hq
    left
    refine ⟨_, rfl, ?_⟩
    refine go_run mm_347 1 (pc' := 7) (ls' := [some (.ref 0), some (.ref 162), none]) (st' := [.long (Int32.toInt64 rm), .int 0, .ref 162]) (S' := S') rfl ?_
    refine go_lastore mm_347 (q := 0) (h := 162) (n := 1) rfl XC_out rfl in01 ?_
    refine go_run mm_347 2 (pc' := 15) (ls' := [some (.ref 0), some (.ref 162), none]) (st' := [.int 0]) (S' := wL S' 162 0 (Int32.toInt64 rm)) rfl ?_
    exact go_ireturn mm_347 rfl rfl ⟨by decide, by rw [h0], Or.inl ⟨h0, rfl⟩⟩
theorem mm_348 : mtG 348 = some (mi_348, 13, ft_348) := rfl
set_option maxRecDepth 20000 in
theorem wr_348 {d : Nat} {S S1 T : ST} {v1 : Int32} {rc : String ⊕ Int32} {rm : Int32} (hr : F_158 v1 S = some (rc, S1)) (hp : Pub E12 rc rm T) : Cal XC (d + 3) 348 [.ref 0, .int v1, .ref 162] S (RWr Int32.toInt64 rm (T.1 140 0) S1) := by
  refine cal_go 1 rfl ?_
  refine go_run mm_348 4 (pc' := 4) (ls' := [some (.ref 0), some (.int v1), some (.ref 162), none]) (st' := [.int v1, .ref 0, .int 0, .ref 162]) (S' := S) rfl ?_
  refine go_cvH mm_348 (by decide) (h := 0) (As := [.int v1]) (rest := [.int 0, .ref 162]) (nl := 2) rfl XC_0 (show cvOK 348 4 126 158 1 2 10 = true by decide +kernel) rfl rfl rfl (S_158 (d := d) hr) (fun c2 o S' hq => ?_)
  rcases hp with ⟨q, hq1, rfl, hq2⟩ | ⟨rfl, h0⟩
  · obtain ⟨rfl, rfl, rfl⟩ := hq
    right
    simp only [E12, List.mem_cons, List.not_mem_nil, or_false] at hq1
    rcases hq1 with rfl | rfl
    · refine ⟨isE, 13, 3, rfl, (by decide +kernel), ?_⟩
      refine go_run mm_348 1 (pc' := 14) (ls' := []) (st' := [.int 1]) (S' := S') rfl ?_
      exact go_ireturn mm_348 rfl rfl ⟨by decide, by rw [hq2], Or.inr ⟨by rw [hq2]; decide, rfl⟩⟩
    · refine ⟨ixE, 16, 3, rfl, (by decide +kernel), ?_⟩
      refine go_run mm_348 1 (pc' := 17) (ls' := []) (st' := [.int 2]) (S' := S') rfl ?_
      exact go_ireturn mm_348 rfl rfl ⟨by decide, by rw [hq2], Or.inr ⟨by rw [hq2]; decide, rfl⟩⟩
  · obtain ⟨rfl, rfl, rfl⟩ := hq
    left
    refine ⟨_, rfl, ?_⟩
    refine go_run mm_348 1 (pc' := 8) (ls' := [some (.ref 0), some (.int v1), some (.ref 162), none]) (st' := [.long (Int32.toInt64 rm), .int 0, .ref 162]) (S' := S') rfl ?_
    refine go_lastore mm_348 (q := 0) (h := 162) (n := 1) rfl XC_out rfl in01 ?_
    refine go_run mm_348 2 (pc' := 19) (ls' := [some (.ref 0), some (.int v1), some (.ref 162), none]) (st' := [.int 0]) (S' := wL S' 162 0 (Int32.toInt64 rm)) rfl ?_
    exact go_ireturn mm_348 rfl rfl ⟨by decide, by rw [h0], Or.inl ⟨h0, rfl⟩⟩
theorem mm_349 : mtG 349 = some (mi_349, 13, ft_349) := rfl
set_option maxRecDepth 20000 in
theorem wr_349 {d : Nat} {S S1 T : ST}  {rc : String ⊕ Int32} {rm : Int32} (hr : F_159 S = some (rc, S1)) (hp : Pub E1 rc rm T) : Cal XC (d + 7) 349 [.ref 0, .ref 162] S (RWr Int32.toInt64 rm (T.1 140 0) S1) := by
  refine cal_go 1 rfl ?_
  refine go_run mm_349 3 (pc' := 3) (ls' := [some (.ref 0), some (.ref 162), none]) (st' := [.ref 0, .int 0, .ref 162]) (S' := S) rfl ?_
  refine go_cvH mm_349 (by decide) (h := 0) (As := []) (rest := [.int 0, .ref 162]) (nl := 1) rfl XC_0 (show cvOK 349 3 129 159 0 1 10 = true by decide +kernel) rfl rfl rfl (S_159 (d := d) hr) (fun c2 o S' hq => ?_)
  rcases hp with ⟨q, hq1, rfl, hq2⟩ | ⟨rfl, h0⟩
  · obtain ⟨rfl, rfl, rfl⟩ := hq
    right
    simp only [E1, List.mem_cons, List.not_mem_nil, or_false] at hq1
    rcases hq1 with rfl
    · refine ⟨isE, 12, 2, rfl, (by decide +kernel), ?_⟩
      refine go_run mm_349 1 (pc' := 13) (ls' := []) (st' := [.int 1]) (S' := S') rfl ?_
      exact go_ireturn mm_349 rfl rfl ⟨by decide, by rw [hq2], Or.inr ⟨by rw [hq2]; decide, rfl⟩⟩
  · obtain ⟨rfl, rfl, rfl⟩ := hq
    left
    refine ⟨_, rfl, ?_⟩
    refine go_run mm_349 1 (pc' := 7) (ls' := [some (.ref 0), some (.ref 162), none]) (st' := [.long (Int32.toInt64 rm), .int 0, .ref 162]) (S' := S') rfl ?_
    refine go_lastore mm_349 (q := 0) (h := 162) (n := 1) rfl XC_out rfl in01 ?_
    refine go_run mm_349 2 (pc' := 15) (ls' := [some (.ref 0), some (.ref 162), none]) (st' := [.int 0]) (S' := wL S' 162 0 (Int32.toInt64 rm)) rfl ?_
    exact go_ireturn mm_349 rfl rfl ⟨by decide, by rw [h0], Or.inl ⟨h0, rfl⟩⟩
theorem mm_350 : mtG 350 = some (mi_350, 13, ft_350) := rfl
set_option maxRecDepth 20000 in
theorem wr_350 {d : Nat} {S S1 T : ST}  {rc : String ⊕ Int32} {rm : Int32} (hr : F_160 S = some (rc, S1)) (hp : Pub E1 rc rm T) : Cal XC (d + 7) 350 [.ref 0, .ref 162] S (RWr Int32.toInt64 rm (T.1 140 0) S1) := by
  refine cal_go 1 rfl ?_
  refine go_run mm_350 3 (pc' := 3) (ls' := [some (.ref 0), some (.ref 162), none]) (st' := [.ref 0, .int 0, .ref 162]) (S' := S) rfl ?_
  refine go_cvH mm_350 (by decide) (h := 0) (As := []) (rest := [.int 0, .ref 162]) (nl := 1) rfl XC_0 (show cvOK 350 3 132 160 0 1 10 = true by decide +kernel) rfl rfl rfl (S_160 (d := d) hr) (fun c2 o S' hq => ?_)
  rcases hp with ⟨q, hq1, rfl, hq2⟩ | ⟨rfl, h0⟩
  · obtain ⟨rfl, rfl, rfl⟩ := hq
    right
    simp only [E1, List.mem_cons, List.not_mem_nil, or_false] at hq1
    rcases hq1 with rfl
    · refine ⟨isE, 12, 2, rfl, (by decide +kernel), ?_⟩
      refine go_run mm_350 1 (pc' := 13) (ls' := []) (st' := [.int 1]) (S' := S') rfl ?_
      exact go_ireturn mm_350 rfl rfl ⟨by decide, by rw [hq2], Or.inr ⟨by rw [hq2]; decide, rfl⟩⟩
  · obtain ⟨rfl, rfl, rfl⟩ := hq
    left
    refine ⟨_, rfl, ?_⟩
    refine go_run mm_350 1 (pc' := 7) (ls' := [some (.ref 0), some (.ref 162), none]) (st' := [.long (Int32.toInt64 rm), .int 0, .ref 162]) (S' := S') rfl ?_
    refine go_lastore mm_350 (q := 0) (h := 162) (n := 1) rfl XC_out rfl in01 ?_
    refine go_run mm_350 2 (pc' := 15) (ls' := [some (.ref 0), some (.ref 162), none]) (st' := [.int 0]) (S' := wL S' 162 0 (Int32.toInt64 rm)) rfl ?_
    exact go_ireturn mm_350 rfl rfl ⟨by decide, by rw [h0], Or.inl ⟨h0, rfl⟩⟩
theorem mm_351 : mtG 351 = some (mi_351, 13, ft_351) := rfl
set_option maxRecDepth 20000 in
theorem wr_351 {d : Nat} {S S1 T : ST} {v1 : Int32} {rc : String ⊕ Int32} {rm : Int32} (hr : F_161 v1 S = some (rc, S1)) (hp : Pub EDr rc rm T) : Cal XC (d + 7) 351 [.ref 0, .int v1, .ref 162] S (RWr Int32.toInt64 rm (T.1 140 0) S1) := by
  refine cal_go 1 rfl ?_
  refine go_run mm_351 4 (pc' := 4) (ls' := [some (.ref 0), some (.int v1), some (.ref 162), none]) (st' := [.int v1, .ref 0, .int 0, .ref 162]) (S' := S) rfl ?_
  refine go_cvH mm_351 (by decide) (h := 0) (As := [.int v1]) (rest := [.int 0, .ref 162]) (nl := 2) rfl XC_0 (show cvOK 351 4 135 161 1 2 10 = true by decide +kernel) rfl rfl rfl (S_161 (d := d) hr) (fun c2 o S' hq => ?_)
  rcases hp with ⟨q, hq1, rfl, hq2⟩ | ⟨rfl, h0⟩
  · obtain ⟨rfl, rfl, rfl⟩ := hq
    right
    simp only [EDr, List.mem_cons, List.not_mem_nil, or_false] at hq1
    rcases hq1 with rfl | rfl
    · refine ⟨isE, 13, 3, rfl, (by decide +kernel), ?_⟩
      refine go_run mm_351 1 (pc' := 14) (ls' := []) (st' := [.int 1]) (S' := S') rfl ?_
      exact go_ireturn mm_351 rfl rfl ⟨by decide, by rw [hq2], Or.inr ⟨by rw [hq2]; decide, rfl⟩⟩
    · refine ⟨iaE, 16, 3, rfl, (by decide +kernel), ?_⟩
      refine go_run mm_351 1 (pc' := 17) (ls' := []) (st' := [.int 2]) (S' := S') rfl ?_
      exact go_ireturn mm_351 rfl rfl ⟨by decide, by rw [hq2], Or.inr ⟨by rw [hq2]; decide, rfl⟩⟩
  · obtain ⟨rfl, rfl, rfl⟩ := hq
    left
    refine ⟨_, rfl, ?_⟩
    refine go_run mm_351 1 (pc' := 8) (ls' := [some (.ref 0), some (.int v1), some (.ref 162), none]) (st' := [.long (Int32.toInt64 rm), .int 0, .ref 162]) (S' := S') rfl ?_
    refine go_lastore mm_351 (q := 0) (h := 162) (n := 1) rfl XC_out rfl in01 ?_
    refine go_run mm_351 2 (pc' := 19) (ls' := [some (.ref 0), some (.int v1), some (.ref 162), none]) (st' := [.int 0]) (S' := wL S' 162 0 (Int32.toInt64 rm)) rfl ?_
    exact go_ireturn mm_351 rfl rfl ⟨by decide, by rw [h0], Or.inl ⟨h0, rfl⟩⟩
theorem mm_352 : mtG 352 = some (mi_352, 13, ft_352) := rfl
set_option maxRecDepth 20000 in
theorem wr_352 {d : Nat} {S S1 T : ST} {v1 : Int32} {rc : String ⊕ Int32} {rm : Int32} (hr : F_162 v1 S = some (rc, S1)) (hp : Pub EDb rc rm T) : Cal XC (d + 2) 352 [.ref 0, .int v1, .ref 162] S (RWr Int32.toInt64 rm (T.1 140 0) S1) := by
  refine cal_go 1 rfl ?_
  refine go_run mm_352 4 (pc' := 4) (ls' := [some (.ref 0), some (.int v1), some (.ref 162), none]) (st' := [.int v1, .ref 0, .int 0, .ref 162]) (S' := S) rfl ?_
  refine go_cvH mm_352 (by decide) (h := 0) (As := [.int v1]) (rest := [.int 0, .ref 162]) (nl := 2) rfl XC_0 (show cvOK 352 4 138 162 1 2 10 = true by decide +kernel) rfl rfl rfl (S_162 (d := d) hr) (fun c2 o S' hq => ?_)
  rcases hp with ⟨q, hq1, rfl, hq2⟩ | ⟨rfl, h0⟩
  · obtain ⟨rfl, rfl, rfl⟩ := hq
    right
    simp only [EDb, List.mem_cons, List.not_mem_nil, or_false] at hq1
    rcases hq1 with rfl
    · refine ⟨ixE, 13, 3, rfl, (by decide +kernel), ?_⟩
      refine go_run mm_352 1 (pc' := 14) (ls' := []) (st' := [.int 1]) (S' := S') rfl ?_
      exact go_ireturn mm_352 rfl rfl ⟨by decide, by rw [hq2], Or.inr ⟨by rw [hq2]; decide, rfl⟩⟩
  · obtain ⟨rfl, rfl, rfl⟩ := hq
    left
    refine ⟨_, rfl, ?_⟩
    refine go_run mm_352 1 (pc' := 8) (ls' := [some (.ref 0), some (.int v1), some (.ref 162), none]) (st' := [.long (Int32.toInt64 rm), .int 0, .ref 162]) (S' := S') rfl ?_
    refine go_lastore mm_352 (q := 0) (h := 162) (n := 1) rfl XC_out rfl in01 ?_
    refine go_run mm_352 2 (pc' := 16) (ls' := [some (.ref 0), some (.int v1), some (.ref 162), none]) (st' := [.int 0]) (S' := wL S' 162 0 (Int32.toInt64 rm)) rfl ?_
    exact go_ireturn mm_352 rfl rfl ⟨by decide, by rw [h0], Or.inl ⟨h0, rfl⟩⟩
theorem mm_353 : mtG 353 = some (mi_353, 13, ft_353) := rfl
set_option maxRecDepth 20000 in
theorem wr_353 {d : Nat} {S S1 T : ST} {v1 : Int32} {v2 : Int32} {rc : String ⊕ Int32} {rm : Int32} (hr : F_163 v1 v2 S = some (rc, S1)) (hp : Pub E123 rc rm T) : Cal XC (d + 3) 353 [.ref 0, .int v1, .int v2, .ref 162] S (RWr Int32.toInt64 rm (T.1 140 0) S1) := by
  refine cal_go 1 rfl ?_
  refine go_run mm_353 5 (pc' := 5) (ls' := [some (.ref 0), some (.int v1), some (.int v2), some (.ref 162), none]) (st' := [.int v2, .int v1, .ref 0, .int 0, .ref 162]) (S' := S) rfl ?_
  refine go_cvH mm_353 (by decide) (h := 0) (As := [.int v1, .int v2]) (rest := [.int 0, .ref 162]) (nl := 3) rfl XC_0 (show cvOK 353 5 141 163 2 3 10 = true by decide +kernel) rfl rfl rfl (S_163 (d := d) hr) (fun c2 o S' hq => ?_)
  rcases hp with ⟨q, hq1, rfl, hq2⟩ | ⟨rfl, h0⟩
  · obtain ⟨rfl, rfl, rfl⟩ := hq
    right
    simp only [E123, List.mem_cons, List.not_mem_nil, or_false] at hq1
    rcases hq1 with rfl | rfl | rfl
    · refine ⟨isE, 15, 4, rfl, (by decide +kernel), ?_⟩
      refine go_run mm_353 1 (pc' := 16) (ls' := []) (st' := [.int 1]) (S' := S') rfl ?_
      exact go_ireturn mm_353 rfl rfl ⟨by decide, by rw [hq2], Or.inr ⟨by rw [hq2]; decide, rfl⟩⟩
    · refine ⟨ixE, 19, 4, rfl, (by decide +kernel), ?_⟩
      refine go_run mm_353 1 (pc' := 20) (ls' := []) (st' := [.int 2]) (S' := S') rfl ?_
      exact go_ireturn mm_353 rfl rfl ⟨by decide, by rw [hq2], Or.inr ⟨by rw [hq2]; decide, rfl⟩⟩
    · refine ⟨iaE, 23, 4, rfl, (by decide +kernel), ?_⟩
      refine go_run mm_353 1 (pc' := 24) (ls' := []) (st' := [.int 3]) (S' := S') rfl ?_
      exact go_ireturn mm_353 rfl rfl ⟨by decide, by rw [hq2], Or.inr ⟨by rw [hq2]; decide, rfl⟩⟩
  · obtain ⟨rfl, rfl, rfl⟩ := hq
    left
    refine ⟨_, rfl, ?_⟩
    refine go_run mm_353 1 (pc' := 9) (ls' := [some (.ref 0), some (.int v1), some (.int v2), some (.ref 162), none]) (st' := [.long (Int32.toInt64 rm), .int 0, .ref 162]) (S' := S') rfl ?_
    refine go_lastore mm_353 (q := 0) (h := 162) (n := 1) rfl XC_out rfl in01 ?_
    refine go_run mm_353 2 (pc' := 26) (ls' := [some (.ref 0), some (.int v1), some (.int v2), some (.ref 162), none]) (st' := [.int 0]) (S' := wL S' 162 0 (Int32.toInt64 rm)) rfl ?_
    exact go_ireturn mm_353 rfl rfl ⟨by decide, by rw [h0], Or.inl ⟨h0, rfl⟩⟩
theorem mm_354 : mtG 354 = some (mi_354, 13, ft_354) := rfl
set_option maxRecDepth 20000 in
theorem wr_354 {d : Nat} {S S1 T : ST} {v1 : Int32} {rc : String ⊕ Int32} {rm : Int32} (hr : F_164 v1 S = some (rc, S1)) (hp : Pub E12 rc rm T) : Cal XC (d + 3) 354 [.ref 0, .int v1, .ref 162] S (RWr Int32.toInt64 rm (T.1 140 0) S1) := by
  refine cal_go 1 rfl ?_
  refine go_run mm_354 4 (pc' := 4) (ls' := [some (.ref 0), some (.int v1), some (.ref 162), none]) (st' := [.int v1, .ref 0, .int 0, .ref 162]) (S' := S) rfl ?_
  refine go_cvH mm_354 (by decide) (h := 0) (As := [.int v1]) (rest := [.int 0, .ref 162]) (nl := 2) rfl XC_0 (show cvOK 354 4 144 164 1 2 10 = true by decide +kernel) rfl rfl rfl (S_164 (d := d) hr) (fun c2 o S' hq => ?_)
  rcases hp with ⟨q, hq1, rfl, hq2⟩ | ⟨rfl, h0⟩
  · obtain ⟨rfl, rfl, rfl⟩ := hq
    right
    simp only [E12, List.mem_cons, List.not_mem_nil, or_false] at hq1
    rcases hq1 with rfl | rfl
    · refine ⟨isE, 13, 3, rfl, (by decide +kernel), ?_⟩
      refine go_run mm_354 1 (pc' := 14) (ls' := []) (st' := [.int 1]) (S' := S') rfl ?_
      exact go_ireturn mm_354 rfl rfl ⟨by decide, by rw [hq2], Or.inr ⟨by rw [hq2]; decide, rfl⟩⟩
    · refine ⟨ixE, 16, 3, rfl, (by decide +kernel), ?_⟩
      refine go_run mm_354 1 (pc' := 17) (ls' := []) (st' := [.int 2]) (S' := S') rfl ?_
      exact go_ireturn mm_354 rfl rfl ⟨by decide, by rw [hq2], Or.inr ⟨by rw [hq2]; decide, rfl⟩⟩
  · obtain ⟨rfl, rfl, rfl⟩ := hq
    left
    refine ⟨_, rfl, ?_⟩
    refine go_run mm_354 1 (pc' := 8) (ls' := [some (.ref 0), some (.int v1), some (.ref 162), none]) (st' := [.long (Int32.toInt64 rm), .int 0, .ref 162]) (S' := S') rfl ?_
    refine go_lastore mm_354 (q := 0) (h := 162) (n := 1) rfl XC_out rfl in01 ?_
    refine go_run mm_354 2 (pc' := 19) (ls' := [some (.ref 0), some (.int v1), some (.ref 162), none]) (st' := [.int 0]) (S' := wL S' 162 0 (Int32.toInt64 rm)) rfl ?_
    exact go_ireturn mm_354 rfl rfl ⟨by decide, by rw [h0], Or.inl ⟨h0, rfl⟩⟩
theorem mm_355 : mtG 355 = some (mi_355, 13, ft_355) := rfl
set_option maxRecDepth 20000 in
theorem wr_355 {d : Nat} {S S1 T : ST} {v1 : Int32} {v2 : Int32} {rc : String ⊕ Int32} {rm : Int32} (hr : F_165 v1 v2 S = some (rc, S1)) (hp : Pub E12 rc rm T) : Cal XC (d + 3) 355 [.ref 0, .int v1, .int v2, .ref 162] S (RWr Int32.toInt64 rm (T.1 140 0) S1) := by
  refine cal_go 1 rfl ?_
  refine go_run mm_355 5 (pc' := 5) (ls' := [some (.ref 0), some (.int v1), some (.int v2), some (.ref 162), none]) (st' := [.int v2, .int v1, .ref 0, .int 0, .ref 162]) (S' := S) rfl ?_
  refine go_cvH mm_355 (by decide) (h := 0) (As := [.int v1, .int v2]) (rest := [.int 0, .ref 162]) (nl := 3) rfl XC_0 (show cvOK 355 5 147 165 2 3 10 = true by decide +kernel) rfl rfl rfl (S_165 (d := d) hr) (fun c2 o S' hq => ?_)
  rcases hp with ⟨q, hq1, rfl, hq2⟩ | ⟨rfl, h0⟩
  · obtain ⟨rfl, rfl, rfl⟩ := hq
    right
    simp only [E12, List.mem_cons, List.not_mem_nil, or_false] at hq1
    rcases hq1 with rfl | rfl
    · refine ⟨isE, 15, 4, rfl, (by decide +kernel), ?_⟩
      refine go_run mm_355 1 (pc' := 16) (ls' := []) (st' := [.int 1]) (S' := S') rfl ?_
      exact go_ireturn mm_355 rfl rfl ⟨by decide, by rw [hq2], Or.inr ⟨by rw [hq2]; decide, rfl⟩⟩
    · refine ⟨ixE, 19, 4, rfl, (by decide +kernel), ?_⟩
      refine go_run mm_355 1 (pc' := 20) (ls' := []) (st' := [.int 2]) (S' := S') rfl ?_
      exact go_ireturn mm_355 rfl rfl ⟨by decide, by rw [hq2], Or.inr ⟨by rw [hq2]; decide, rfl⟩⟩
  · obtain ⟨rfl, rfl, rfl⟩ := hq
    left
    refine ⟨_, rfl, ?_⟩
    refine go_run mm_355 1 (pc' := 9) (ls' := [some (.ref 0), some (.int v1), some (.int v2), some (.ref 162), none]) (st' := [.long (Int32.toInt64 rm), .int 0, .ref 162]) (S' := S') rfl ?_
    refine go_lastore mm_355 (q := 0) (h := 162) (n := 1) rfl XC_out rfl in01 ?_
    refine go_run mm_355 2 (pc' := 22) (ls' := [some (.ref 0), some (.int v1), some (.int v2), some (.ref 162), none]) (st' := [.int 0]) (S' := wL S' 162 0 (Int32.toInt64 rm)) rfl ?_
    exact go_ireturn mm_355 rfl rfl ⟨by decide, by rw [h0], Or.inl ⟨h0, rfl⟩⟩
theorem mm_356 : mtG 356 = some (mi_356, 13, ft_356) := rfl
set_option maxRecDepth 20000 in
theorem wr_356 {d : Nat} {S S1 T : ST} {v1 : Int32} {v2 : Int32} {rc : String ⊕ Int32} {rm : Int32} (hr : F_166 v1 v2 S = some (rc, S1)) (hp : Pub E123 rc rm T) : Cal XC (d + 3) 356 [.ref 0, .int v1, .int v2, .ref 162] S (RWr Int32.toInt64 rm (T.1 140 0) S1) := by
  refine cal_go 1 rfl ?_
  refine go_run mm_356 5 (pc' := 5) (ls' := [some (.ref 0), some (.int v1), some (.int v2), some (.ref 162), none]) (st' := [.int v2, .int v1, .ref 0, .int 0, .ref 162]) (S' := S) rfl ?_
  refine go_cvH mm_356 (by decide) (h := 0) (As := [.int v1, .int v2]) (rest := [.int 0, .ref 162]) (nl := 3) rfl XC_0 (show cvOK 356 5 150 166 2 3 10 = true by decide +kernel) rfl rfl rfl (S_166 (d := d) hr) (fun c2 o S' hq => ?_)
  rcases hp with ⟨q, hq1, rfl, hq2⟩ | ⟨rfl, h0⟩
  · obtain ⟨rfl, rfl, rfl⟩ := hq
    right
    simp only [E123, List.mem_cons, List.not_mem_nil, or_false] at hq1
    rcases hq1 with rfl | rfl | rfl
    · refine ⟨isE, 15, 4, rfl, (by decide +kernel), ?_⟩
      refine go_run mm_356 1 (pc' := 16) (ls' := []) (st' := [.int 1]) (S' := S') rfl ?_
      exact go_ireturn mm_356 rfl rfl ⟨by decide, by rw [hq2], Or.inr ⟨by rw [hq2]; decide, rfl⟩⟩
    · refine ⟨ixE, 19, 4, rfl, (by decide +kernel), ?_⟩
      refine go_run mm_356 1 (pc' := 20) (ls' := []) (st' := [.int 2]) (S' := S') rfl ?_
      exact go_ireturn mm_356 rfl rfl ⟨by decide, by rw [hq2], Or.inr ⟨by rw [hq2]; decide, rfl⟩⟩
    · refine ⟨iaE, 23, 4, rfl, (by decide +kernel), ?_⟩
      refine go_run mm_356 1 (pc' := 24) (ls' := []) (st' := [.int 3]) (S' := S') rfl ?_
      exact go_ireturn mm_356 rfl rfl ⟨by decide, by rw [hq2], Or.inr ⟨by rw [hq2]; decide, rfl⟩⟩
  · obtain ⟨rfl, rfl, rfl⟩ := hq
    left
    refine ⟨_, rfl, ?_⟩
    refine go_run mm_356 1 (pc' := 9) (ls' := [some (.ref 0), some (.int v1), some (.int v2), some (.ref 162), none]) (st' := [.long (Int32.toInt64 rm), .int 0, .ref 162]) (S' := S') rfl ?_
    refine go_lastore mm_356 (q := 0) (h := 162) (n := 1) rfl XC_out rfl in01 ?_
    refine go_run mm_356 2 (pc' := 26) (ls' := [some (.ref 0), some (.int v1), some (.int v2), some (.ref 162), none]) (st' := [.int 0]) (S' := wL S' 162 0 (Int32.toInt64 rm)) rfl ?_
    exact go_ireturn mm_356 rfl rfl ⟨by decide, by rw [h0], Or.inl ⟨h0, rfl⟩⟩
theorem mm_357 : mtG 357 = some (mi_357, 13, ft_357) := rfl
set_option maxRecDepth 20000 in
theorem wr_357 {d : Nat} {S S1 T : ST} {v1 : Int32} {v2 : Int32} {v3 : Int32} {rc : String ⊕ Int32} {rm : Int32} (hr : F_167 v1 v2 v3 S = some (rc, S1)) (hp : Pub E123 rc rm T) : Cal XC (d + 7) 357 [.ref 0, .int v1, .int v2, .int v3, .ref 162] S (RWr Int32.toInt64 rm (T.1 140 0) S1) := by
  refine cal_go 1 rfl ?_
  refine go_run mm_357 6 (pc' := 7) (ls' := [some (.ref 0), some (.int v1), some (.int v2), some (.int v3), some (.ref 162), none]) (st' := [.int v3, .int v2, .int v1, .ref 0, .int 0, .ref 162]) (S' := S) rfl ?_
  refine go_cvH mm_357 (by decide) (h := 0) (As := [.int v1, .int v2, .int v3]) (rest := [.int 0, .ref 162]) (nl := 4) rfl XC_0 (show cvOK 357 7 153 167 3 4 10 = true by decide +kernel) rfl rfl rfl (S_167 (d := d) hr) (fun c2 o S' hq => ?_)
  rcases hp with ⟨q, hq1, rfl, hq2⟩ | ⟨rfl, h0⟩
  · obtain ⟨rfl, rfl, rfl⟩ := hq
    right
    simp only [E123, List.mem_cons, List.not_mem_nil, or_false] at hq1
    rcases hq1 with rfl | rfl | rfl
    · refine ⟨isE, 17, 5, rfl, (by decide +kernel), ?_⟩
      refine go_run mm_357 1 (pc' := 18) (ls' := []) (st' := [.int 1]) (S' := S') rfl ?_
      exact go_ireturn mm_357 rfl rfl ⟨by decide, by rw [hq2], Or.inr ⟨by rw [hq2]; decide, rfl⟩⟩
    · refine ⟨ixE, 21, 5, rfl, (by decide +kernel), ?_⟩
      refine go_run mm_357 1 (pc' := 22) (ls' := []) (st' := [.int 2]) (S' := S') rfl ?_
      exact go_ireturn mm_357 rfl rfl ⟨by decide, by rw [hq2], Or.inr ⟨by rw [hq2]; decide, rfl⟩⟩
    · refine ⟨iaE, 25, 5, rfl, (by decide +kernel), ?_⟩
      refine go_run mm_357 1 (pc' := 26) (ls' := []) (st' := [.int 3]) (S' := S') rfl ?_
      exact go_ireturn mm_357 rfl rfl ⟨by decide, by rw [hq2], Or.inr ⟨by rw [hq2]; decide, rfl⟩⟩
  · obtain ⟨rfl, rfl, rfl⟩ := hq
    left
    refine ⟨_, rfl, ?_⟩
    refine go_run mm_357 1 (pc' := 11) (ls' := [some (.ref 0), some (.int v1), some (.int v2), some (.int v3), some (.ref 162), none]) (st' := [.long (Int32.toInt64 rm), .int 0, .ref 162]) (S' := S') rfl ?_
    refine go_lastore mm_357 (q := 0) (h := 162) (n := 1) rfl XC_out rfl in01 ?_
    refine go_run mm_357 2 (pc' := 28) (ls' := [some (.ref 0), some (.int v1), some (.int v2), some (.int v3), some (.ref 162), none]) (st' := [.int 0]) (S' := wL S' 162 0 (Int32.toInt64 rm)) rfl ?_
    exact go_ireturn mm_357 rfl rfl ⟨by decide, by rw [h0], Or.inl ⟨h0, rfl⟩⟩
theorem mm_358 : mtG 358 = some (mi_358, 13, ft_358) := rfl
set_option maxRecDepth 20000 in
theorem wr_358 {d : Nat} {S S1 T : ST} {v1 : Int32} {v2 : Int32} {v3 : Int32} {rc : String ⊕ Int32} {rm : Int32} (hr : F_168 v1 v2 v3 S = some (rc, S1)) (hp : Pub E123 rc rm T) : Cal XC (d + 7) 358 [.ref 0, .int v1, .int v2, .int v3, .ref 162] S (RWr Int32.toInt64 rm (T.1 140 0) S1) := by
  refine cal_go 1 rfl ?_
  refine go_run mm_358 6 (pc' := 7) (ls' := [some (.ref 0), some (.int v1), some (.int v2), some (.int v3), some (.ref 162), none]) (st' := [.int v3, .int v2, .int v1, .ref 0, .int 0, .ref 162]) (S' := S) rfl ?_
  refine go_cvH mm_358 (by decide) (h := 0) (As := [.int v1, .int v2, .int v3]) (rest := [.int 0, .ref 162]) (nl := 4) rfl XC_0 (show cvOK 358 7 157 168 3 4 10 = true by decide +kernel) rfl rfl rfl (S_168 (d := d) hr) (fun c2 o S' hq => ?_)
  rcases hp with ⟨q, hq1, rfl, hq2⟩ | ⟨rfl, h0⟩
  · obtain ⟨rfl, rfl, rfl⟩ := hq
    right
    simp only [E123, List.mem_cons, List.not_mem_nil, or_false] at hq1
    rcases hq1 with rfl | rfl | rfl
    · refine ⟨isE, 17, 5, rfl, (by decide +kernel), ?_⟩
      refine go_run mm_358 1 (pc' := 18) (ls' := []) (st' := [.int 1]) (S' := S') rfl ?_
      exact go_ireturn mm_358 rfl rfl ⟨by decide, by rw [hq2], Or.inr ⟨by rw [hq2]; decide, rfl⟩⟩
    · refine ⟨ixE, 21, 5, rfl, (by decide +kernel), ?_⟩
      refine go_run mm_358 1 (pc' := 22) (ls' := []) (st' := [.int 2]) (S' := S') rfl ?_
      exact go_ireturn mm_358 rfl rfl ⟨by decide, by rw [hq2], Or.inr ⟨by rw [hq2]; decide, rfl⟩⟩
    · refine ⟨iaE, 25, 5, rfl, (by decide +kernel), ?_⟩
      refine go_run mm_358 1 (pc' := 26) (ls' := []) (st' := [.int 3]) (S' := S') rfl ?_
      exact go_ireturn mm_358 rfl rfl ⟨by decide, by rw [hq2], Or.inr ⟨by rw [hq2]; decide, rfl⟩⟩
  · obtain ⟨rfl, rfl, rfl⟩ := hq
    left
    refine ⟨_, rfl, ?_⟩
    refine go_run mm_358 1 (pc' := 11) (ls' := [some (.ref 0), some (.int v1), some (.int v2), some (.int v3), some (.ref 162), none]) (st' := [.long (Int32.toInt64 rm), .int 0, .ref 162]) (S' := S') rfl ?_
    refine go_lastore mm_358 (q := 0) (h := 162) (n := 1) rfl XC_out rfl in01 ?_
    refine go_run mm_358 2 (pc' := 28) (ls' := [some (.ref 0), some (.int v1), some (.int v2), some (.int v3), some (.ref 162), none]) (st' := [.int 0]) (S' := wL S' 162 0 (Int32.toInt64 rm)) rfl ?_
    exact go_ireturn mm_358 rfl rfl ⟨by decide, by rw [h0], Or.inl ⟨h0, rfl⟩⟩
theorem mm_359 : mtG 359 = some (mi_359, 13, ft_359) := rfl
set_option maxRecDepth 20000 in
theorem wr_359 {d : Nat} {S S1 T : ST} {v1 : Int32} {rc : String ⊕ Int32} {rm : Int32} (hr : F_169 v1 S = some (rc, S1)) (hp : Pub E123 rc rm T) : Cal XC (d + 7) 359 [.ref 0, .int v1, .ref 162] S (RWr Int32.toInt64 rm (T.1 140 0) S1) := by
  refine cal_go 1 rfl ?_
  refine go_run mm_359 4 (pc' := 4) (ls' := [some (.ref 0), some (.int v1), some (.ref 162), none]) (st' := [.int v1, .ref 0, .int 0, .ref 162]) (S' := S) rfl ?_
  refine go_cvH mm_359 (by decide) (h := 0) (As := [.int v1]) (rest := [.int 0, .ref 162]) (nl := 2) rfl XC_0 (show cvOK 359 4 160 169 1 2 10 = true by decide +kernel) rfl rfl rfl (S_169 (d := d) hr) (fun c2 o S' hq => ?_)
  rcases hp with ⟨q, hq1, rfl, hq2⟩ | ⟨rfl, h0⟩
  · obtain ⟨rfl, rfl, rfl⟩ := hq
    right
    simp only [E123, List.mem_cons, List.not_mem_nil, or_false] at hq1
    rcases hq1 with rfl | rfl | rfl
    · refine ⟨isE, 13, 3, rfl, (by decide +kernel), ?_⟩
      refine go_run mm_359 1 (pc' := 14) (ls' := []) (st' := [.int 1]) (S' := S') rfl ?_
      exact go_ireturn mm_359 rfl rfl ⟨by decide, by rw [hq2], Or.inr ⟨by rw [hq2]; decide, rfl⟩⟩
    · refine ⟨ixE, 16, 3, rfl, (by decide +kernel), ?_⟩
      refine go_run mm_359 1 (pc' := 17) (ls' := []) (st' := [.int 2]) (S' := S') rfl ?_
      exact go_ireturn mm_359 rfl rfl ⟨by decide, by rw [hq2], Or.inr ⟨by rw [hq2]; decide, rfl⟩⟩
    · refine ⟨iaE, 19, 3, rfl, (by decide +kernel), ?_⟩
      refine go_run mm_359 1 (pc' := 20) (ls' := []) (st' := [.int 3]) (S' := S') rfl ?_
      exact go_ireturn mm_359 rfl rfl ⟨by decide, by rw [hq2], Or.inr ⟨by rw [hq2]; decide, rfl⟩⟩
  · obtain ⟨rfl, rfl, rfl⟩ := hq
    left
    refine ⟨_, rfl, ?_⟩
    refine go_run mm_359 1 (pc' := 8) (ls' := [some (.ref 0), some (.int v1), some (.ref 162), none]) (st' := [.long (Int32.toInt64 rm), .int 0, .ref 162]) (S' := S') rfl ?_
    refine go_lastore mm_359 (q := 0) (h := 162) (n := 1) rfl XC_out rfl in01 ?_
    refine go_run mm_359 2 (pc' := 22) (ls' := [some (.ref 0), some (.int v1), some (.ref 162), none]) (st' := [.int 0]) (S' := wL S' 162 0 (Int32.toInt64 rm)) rfl ?_
    exact go_ireturn mm_359 rfl rfl ⟨by decide, by rw [h0], Or.inl ⟨h0, rfl⟩⟩
theorem mm_360 : mtG 360 = some (mi_360, 13, ft_360) := rfl
set_option maxRecDepth 20000 in
theorem wr_360 {d : Nat} {S S1 T : ST}  {rc : String ⊕ Int32} {rm : Int32} (hr : F_170 S = some (rc, S1)) (hp : Pub E1 rc rm T) : Cal XC (d + 6) 360 [.ref 0, .ref 162] S (RWr Int32.toInt64 rm (T.1 140 0) S1) := by
  refine cal_go 1 rfl ?_
  refine go_run mm_360 3 (pc' := 3) (ls' := [some (.ref 0), some (.ref 162), none]) (st' := [.ref 0, .int 0, .ref 162]) (S' := S) rfl ?_
  refine go_cvH mm_360 (by decide) (h := 0) (As := []) (rest := [.int 0, .ref 162]) (nl := 1) rfl XC_0 (show cvOK 360 3 163 170 0 1 10 = true by decide +kernel) rfl rfl rfl (S_170 (d := d) hr) (fun c2 o S' hq => ?_)
  rcases hp with ⟨q, hq1, rfl, hq2⟩ | ⟨rfl, h0⟩
  · obtain ⟨rfl, rfl, rfl⟩ := hq
    right
    simp only [E1, List.mem_cons, List.not_mem_nil, or_false] at hq1
    rcases hq1 with rfl
    · refine ⟨isE, 12, 2, rfl, (by decide +kernel), ?_⟩
      refine go_run mm_360 1 (pc' := 13) (ls' := []) (st' := [.int 1]) (S' := S') rfl ?_
      exact go_ireturn mm_360 rfl rfl ⟨by decide, by rw [hq2], Or.inr ⟨by rw [hq2]; decide, rfl⟩⟩
  · obtain ⟨rfl, rfl, rfl⟩ := hq
    left
    refine ⟨_, rfl, ?_⟩
    refine go_run mm_360 1 (pc' := 7) (ls' := [some (.ref 0), some (.ref 162), none]) (st' := [.long (Int32.toInt64 rm), .int 0, .ref 162]) (S' := S') rfl ?_
    refine go_lastore mm_360 (q := 0) (h := 162) (n := 1) rfl XC_out rfl in01 ?_
    refine go_run mm_360 2 (pc' := 15) (ls' := [some (.ref 0), some (.ref 162), none]) (st' := [.int 0]) (S' := wL S' 162 0 (Int32.toInt64 rm)) rfl ?_
    exact go_ireturn mm_360 rfl rfl ⟨by decide, by rw [h0], Or.inl ⟨h0, rfl⟩⟩
theorem mm_361 : mtG 361 = some (mi_361, 13, ft_361) := rfl
set_option maxRecDepth 20000 in
theorem wr_361 {d : Nat} {S S1 T : ST} {v1 : Int32} {rc : String ⊕ Int32} {rm : Int32} (hr : F_172 v1 S = some (rc, S1)) (hp : Pub E12 rc rm T) : Cal XC (d + 2) 361 [.ref 0, .int v1, .ref 162] S (RWr Int32.toInt64 rm (T.1 140 0) S1) := by
  refine cal_go 1 rfl ?_
  refine go_run mm_361 4 (pc' := 4) (ls' := [some (.ref 0), some (.int v1), some (.ref 162), none]) (st' := [.int v1, .ref 0, .int 0, .ref 162]) (S' := S) rfl ?_
  refine go_cvH mm_361 (by decide) (h := 0) (As := [.int v1]) (rest := [.int 0, .ref 162]) (nl := 2) rfl XC_0 (show cvOK 361 4 166 172 1 2 10 = true by decide +kernel) rfl rfl rfl (S_172 (d := d) hr) (fun c2 o S' hq => ?_)
  rcases hp with ⟨q, hq1, rfl, hq2⟩ | ⟨rfl, h0⟩
  · obtain ⟨rfl, rfl, rfl⟩ := hq
    right
    simp only [E12, List.mem_cons, List.not_mem_nil, or_false] at hq1
    rcases hq1 with rfl | rfl
    · refine ⟨isE, 13, 3, rfl, (by decide +kernel), ?_⟩
      refine go_run mm_361 1 (pc' := 14) (ls' := []) (st' := [.int 1]) (S' := S') rfl ?_
      exact go_ireturn mm_361 rfl rfl ⟨by decide, by rw [hq2], Or.inr ⟨by rw [hq2]; decide, rfl⟩⟩
    · refine ⟨ixE, 16, 3, rfl, (by decide +kernel), ?_⟩
      refine go_run mm_361 1 (pc' := 17) (ls' := []) (st' := [.int 2]) (S' := S') rfl ?_
      exact go_ireturn mm_361 rfl rfl ⟨by decide, by rw [hq2], Or.inr ⟨by rw [hq2]; decide, rfl⟩⟩
  · obtain ⟨rfl, rfl, rfl⟩ := hq
    left
    refine ⟨_, rfl, ?_⟩
    refine go_run mm_361 1 (pc' := 8) (ls' := [some (.ref 0), some (.int v1), some (.ref 162), none]) (st' := [.long (Int32.toInt64 rm), .int 0, .ref 162]) (S' := S') rfl ?_
    refine go_lastore mm_361 (q := 0) (h := 162) (n := 1) rfl XC_out rfl in01 ?_
    refine go_run mm_361 2 (pc' := 19) (ls' := [some (.ref 0), some (.int v1), some (.ref 162), none]) (st' := [.int 0]) (S' := wL S' 162 0 (Int32.toInt64 rm)) rfl ?_
    exact go_ireturn mm_361 rfl rfl ⟨by decide, by rw [h0], Or.inl ⟨h0, rfl⟩⟩
theorem mm_362 : mtG 362 = some (mi_362, 13, ft_362) := rfl
set_option maxRecDepth 20000 in
theorem wr_362 {d : Nat} {S S1 T : ST} {v1 : Int32} {rc : String ⊕ Int32} {rm : Int32} (hr : F_173 v1 S = some (rc, S1)) (hp : Pub ERe rc rm T) : Cal XC (d + 6) 362 [.ref 0, .int v1, .ref 162] S (RWr Int32.toInt64 rm (T.1 140 0) S1) := by
  refine cal_go 1 rfl ?_
  refine go_run mm_362 4 (pc' := 4) (ls' := [some (.ref 0), some (.int v1), some (.ref 162), none]) (st' := [.int v1, .ref 0, .int 0, .ref 162]) (S' := S) rfl ?_
  refine go_cvH mm_362 (by decide) (h := 0) (As := [.int v1]) (rest := [.int 0, .ref 162]) (nl := 2) rfl XC_0 (show cvOK 362 4 169 173 1 2 10 = true by decide +kernel) rfl rfl rfl (S_173 (d := d) hr) (fun c2 o S' hq => ?_)
  rcases hp with ⟨q, hq1, rfl, hq2⟩ | ⟨rfl, h0⟩
  · obtain ⟨rfl, rfl, rfl⟩ := hq
    right
    simp only [ERe, List.mem_cons, List.not_mem_nil, or_false] at hq1
    rcases hq1 with rfl | rfl
    · refine ⟨ixE, 13, 3, rfl, (by decide +kernel), ?_⟩
      refine go_run mm_362 1 (pc' := 14) (ls' := []) (st' := [.int 1]) (S' := S') rfl ?_
      exact go_ireturn mm_362 rfl rfl ⟨by decide, by rw [hq2], Or.inr ⟨by rw [hq2]; decide, rfl⟩⟩
    · refine ⟨isE, 16, 3, rfl, (by decide +kernel), ?_⟩
      refine go_run mm_362 1 (pc' := 17) (ls' := []) (st' := [.int 2]) (S' := S') rfl ?_
      exact go_ireturn mm_362 rfl rfl ⟨by decide, by rw [hq2], Or.inr ⟨by rw [hq2]; decide, rfl⟩⟩
  · obtain ⟨rfl, rfl, rfl⟩ := hq
    left
    refine ⟨_, rfl, ?_⟩
    refine go_run mm_362 1 (pc' := 8) (ls' := [some (.ref 0), some (.int v1), some (.ref 162), none]) (st' := [.long (Int32.toInt64 rm), .int 0, .ref 162]) (S' := S') rfl ?_
    refine go_lastore mm_362 (q := 0) (h := 162) (n := 1) rfl XC_out rfl in01 ?_
    refine go_run mm_362 2 (pc' := 19) (ls' := [some (.ref 0), some (.int v1), some (.ref 162), none]) (st' := [.int 0]) (S' := wL S' 162 0 (Int32.toInt64 rm)) rfl ?_
    exact go_ireturn mm_362 rfl rfl ⟨by decide, by rw [h0], Or.inl ⟨h0, rfl⟩⟩
