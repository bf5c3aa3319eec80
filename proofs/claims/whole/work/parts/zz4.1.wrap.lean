/-! the law's own methods: what they answer, by what the class's functions say (printed by law.py) -/
theorem mm_330 : mtG 330 = some (mi_330, 13, ft_330) := rfl
set_option maxRecDepth 20000 in
theorem wr_330 {d : Nat} {S S1 T : ST} {v1 : Int32} {rc : String ⊕ Int32} {rm : Int32} (hr : F_138 v1 S = some (rc, S1)) (hp : Pub E12 rc rm T) : Cal XC (d + 7) 330 [.ref 0, .int v1, .ref 162] S (RWr Int32.toInt64 rm (T.1 140 0) S1) := by
  refine cal_go 1 rfl ?_
  refine go_run mm_330 4 (pc' := 4) (ls' := [some (.ref 0), some (.int v1), some (.ref 162), none]) (st' := [.int v1, .ref 0, .int 0, .ref 162]) (S' := S) rfl ?_
  refine go_cvH mm_330 (by decide) (h := 0) (As := [.int v1]) (rest := [.int 0, .ref 162]) (nl := 2) rfl XC_0 (show cvOK 330 4 72 138 1 2 10 = true by decide +kernel) rfl rfl rfl (S_138 (d := d) hr) (fun c2 o S' hq => ?_)
  rcases hp with ⟨q, hq1, rfl, hq2⟩ | ⟨rfl, h0⟩
  · obtain ⟨rfl, rfl, rfl⟩ := hq
    right
    simp only [E12, List.mem_cons, List.not_mem_nil, or_false] at hq1
    rcases hq1 with rfl | rfl
    · refine ⟨isE, 13, 3, rfl, (by decide +kernel), ?_⟩
      refine go_run mm_330 1 (pc' := 14) (ls' := []) (st' := [.int 1]) (S' := S') rfl ?_
      exact go_ireturn mm_330 rfl rfl ⟨by decide, by rw [hq2], Or.inr ⟨by rw [hq2]; decide, rfl⟩⟩
    · refine ⟨ixE, 16, 3, rfl, (by decide +kernel), ?_⟩
      refine go_run mm_330 1 (pc' := 17) (ls' := []) (st' := [.int 2]) (S' := S') rfl ?_
      exact go_ireturn mm_330 rfl rfl ⟨by decide, by rw [hq2], Or.inr ⟨by rw [hq2]; decide, rfl⟩⟩
  · obtain ⟨rfl, rfl, rfl⟩ := hq
    left
    refine ⟨_, rfl, ?_⟩
    refine go_run mm_330 1 (pc' := 8) (ls' := [some (.ref 0), some (.int v1), some (.ref 162), none]) (st' := [.long (Int32.toInt64 rm), .int 0, .ref 162]) (S' := S') rfl ?_
    refine go_lastore mm_330 (q := 0) (h := 162) (n := 1) rfl XC_out rfl in01 ?_
    refine go_run mm_330 2 (pc' := 19) (ls' := [some (.ref 0), some (.int v1), some (.ref 162), none]) (st' := [.int 0]) (S' := wL S' 162 0 (Int32.toInt64 rm)) rfl ?_
    exact go_ireturn mm_330 rfl rfl ⟨by decide, by rw [h0], Or.inl ⟨h0, rfl⟩⟩
theorem mm_331 : mtG 331 = some (mi_331, 13, ft_331) := rfl
set_option maxRecDepth 20000 in
theorem wr_331 {d : Nat} {S S1 T : ST} {v1 : Int32} {rc : String ⊕ Int32} {rm : Int32} (hr : F_139 v1 S = some (rc, S1)) (hp : Pub E12 rc rm T) : Cal XC (d + 7) 331 [.ref 0, .int v1, .ref 162] S (RWr Int32.toInt64 rm (T.1 140 0) S1) := by
  refine cal_go 1 rfl ?_
  refine go_run mm_331 4 (pc' := 4) (ls' := [some (.ref 0), some (.int v1), some (.ref 162), none]) (st' := [.int v1, .ref 0, .int 0, .ref 162]) (S' := S) rfl ?_
  refine go_cvH mm_331 (by decide) (h := 0) (As := [.int v1]) (rest := [.int 0, .ref 162]) (nl := 2) rfl XC_0 (show cvOK 331 4 75 139 1 2 10 = true by decide +kernel) rfl rfl rfl (S_139 (d := d) hr) (fun c2 o S' hq => ?_)
  rcases hp with ⟨q, hq1, rfl, hq2⟩ | ⟨rfl, h0⟩
  · obtain ⟨rfl, rfl, rfl⟩ := hq
    right
    simp only [E12, List.mem_cons, List.not_mem_nil, or_false] at hq1
    rcases hq1 with rfl | rfl
    · refine ⟨isE, 13, 3, rfl, (by decide +kernel), ?_⟩
      refine go_run mm_331 1 (pc' := 14) (ls' := []) (st' := [.int 1]) (S' := S') rfl ?_
      exact go_ireturn mm_331 rfl rfl ⟨by decide, by rw [hq2], Or.inr ⟨by rw [hq2]; decide, rfl⟩⟩
    · refine ⟨ixE, 16, 3, rfl, (by decide +kernel), ?_⟩
      refine go_run mm_331 1 (pc' := 17) (ls' := []) (st' := [.int 2]) (S' := S') rfl ?_
      exact go_ireturn mm_331 rfl rfl ⟨by decide, by rw [hq2], Or.inr ⟨by rw [hq2]; decide, rfl⟩⟩
  · obtain ⟨rfl, rfl, rfl⟩ := hq
    left
    refine ⟨_, rfl, ?_⟩
    refine go_run mm_331 1 (pc' := 8) (ls' := [some (.ref 0), some (.int v1), some (.ref 162), none]) (st' := [.long (Int32.toInt64 rm), .int 0, .ref 162]) (S' := S') rfl ?_
    refine go_lastore mm_331 (q := 0) (h := 162) (n := 1) rfl XC_out rfl in01 ?_
    refine go_run mm_331 2 (pc' := 19) (ls' := [some (.ref 0), some (.int v1), some (.ref 162), none]) (st' := [.int 0]) (S' := wL S' 162 0 (Int32.toInt64 rm)) rfl ?_
    exact go_ireturn mm_331 rfl rfl ⟨by decide, by rw [h0], Or.inl ⟨h0, rfl⟩⟩
theorem mm_332 : mtG 332 = some (mi_332, 13, ft_332) := rfl
set_option maxRecDepth 20000 in
theorem wr_332 {d : Nat} {S S1 T : ST}  {rc : String ⊕ Int32} {rm : Int32} (hr : F_140 S = some (rc, S1)) (hp : Pub E1 rc rm T) : Cal XC (d + 7) 332 [.ref 0, .ref 162] S (RWr Int32.toInt64 rm (T.1 140 0) S1) := by
  refine cal_go 1 rfl ?_
  refine go_run mm_332 3 (pc' := 3) (ls' := [some (.ref 0), some (.ref 162), none]) (st' := [.ref 0, .int 0, .ref 162]) (S' := S) rfl ?_
  refine go_cvH mm_332 (by decide) (h := 0) (As := []) (rest := [.int 0, .ref 162]) (nl := 1) rfl XC_0 (show cvOK 332 3 78 140 0 1 10 = true by decide +kernel) rfl rfl rfl (S_140 (d := d) hr) (fun c2 o S' hq => ?_)
  rcases hp with ⟨q, hq1, rfl, hq2⟩ | ⟨rfl, h0⟩
  · obtain ⟨rfl, rfl, rfl⟩ := hq
    right
    simp only [E1, List.mem_cons, List.not_mem_nil, or_false] at hq1
    rcases hq1 with rfl
    · refine ⟨isE, 12, 2, rfl, (by decide +kernel), ?_⟩
      refine go_run mm_332 1 (pc' := 13) (ls' := []) (st' := [.int 1]) (S' := S') rfl ?_
      exact go_ireturn mm_332 rfl rfl ⟨by decide, by rw [hq2], Or.inr ⟨by rw [hq2]; decide, rfl⟩⟩
  · obtain ⟨rfl, rfl, rfl⟩ := hq
    left
    refine ⟨_, rfl, ?_⟩
    refine go_run mm_332 1 (pc' := 7) (ls' := [some (.ref 0), some (.ref 162), none]) (st' := [.long (Int32.toInt64 rm), .int 0, .ref 162]) (S' := S') rfl ?_
    refine go_lastore mm_332 (q := 0) (h := 162) (n := 1) rfl XC_out rfl in01 ?_
    refine go_run mm_332 2 (pc' := 15) (ls' := [some (.ref 0), some (.ref 162), none]) (st' := [.int 0]) (S' := wL S' 162 0 (Int32.toInt64 rm)) rfl ?_
    exact go_ireturn mm_332 rfl rfl ⟨by decide, by rw [h0], Or.inl ⟨h0, rfl⟩⟩
theorem mm_333 : mtG 333 = some (mi_333, 13, ft_333) := rfl
set_option maxRecDepth 20000 in
theorem wr_333 {d : Nat} {S S1 T : ST}  {rc : String ⊕ Int32} {rm : Int32} (hr : F_141 S = some (rc, S1)) (hp : Pub E1 rc rm T) : Cal XC (d + 7) 333 [.ref 0, .ref 162] S (RWr Int32.toInt64 rm (T.1 140 0) S1) := by
  refine cal_go 1 rfl ?_
  refine go_run mm_333 3 (pc' := 3) (ls' := [some (.ref 0), some (.ref 162), none]) (st' := [.ref 0, .int 0, .ref 162]) (S' := S) rfl ?_
  refine go_cvH mm_333 (by decide) (h := 0) (As := []) (rest := [.int 0, .ref 162]) (nl := 1) rfl XC_0 (show cvOK 333 3 81 141 0 1 10 = true by decide +kernel) rfl rfl rfl (S_141 (d := d) hr) (fun c2 o S' hq => ?_)
  rcases hp with ⟨q, hq1, rfl, hq2⟩ | ⟨rfl, h0⟩
  · obtain ⟨rfl, rfl, rfl⟩ := hq
    right
    simp only [E1, List.mem_cons, List.not_mem_nil, or_false] at hq1
    rcases hq1 with rfl
    · refine ⟨isE, 12, 2, rfl, (by decide +kernel), ?_⟩
      refine go_run mm_333 1 (pc' := 13) (ls' := []) (st' := [.int 1]) (S' := S') rfl ?_
      exact go_ireturn mm_333 rfl rfl ⟨by decide, by rw [hq2], Or.inr ⟨by rw [hq2]; decide, rfl⟩⟩
  · obtain ⟨rfl, rfl, rfl⟩ := hq
    left
    refine ⟨_, rfl, ?_⟩
    refine go_run mm_333 1 (pc' := 7) (ls' := [some (.ref 0), some (.ref 162), none]) (st' := [.long (Int32.toInt64 rm), .int 0, .ref 162]) (S' := S') rfl ?_
    refine go_lastore mm_333 (q := 0) (h := 162) (n := 1) rfl XC_out rfl in01 ?_
    refine go_run mm_333 2 (pc' := 15) (ls' := [some (.ref 0), some (.ref 162), none]) (st' := [.int 0]) (S' := wL S' 162 0 (Int32.toInt64 rm)) rfl ?_
    exact go_ireturn mm_333 rfl rfl ⟨by decide, by rw [h0], Or.inl ⟨h0, rfl⟩⟩
theorem mm_334 : mtG 334 = some (mi_334, 13, ft_334) := rfl
set_option maxRecDepth 20000 in
theorem wr_334 {d : Nat} {S S1 T : ST}  {rc : String ⊕ Int32} {rm : Int32} (hr : F_142 S = some (rc, S1)) (hp : Pub E1 rc rm T) : Cal XC (d + 7) 334 [.ref 0, .ref 162] S (RWr Int32.toInt64 rm (T.1 140 0) S1) := by
  refine cal_go 1 rfl ?_
  refine go_run mm_334 3 (pc' := 3) (ls' := [some (.ref 0), some (.ref 162), none]) (st' := [.ref 0, .int 0, .ref 162]) (S' := S) rfl ?_
  refine go_cvH mm_334 (by decide) (h := 0) (As := []) (rest := [.int 0, .ref 162]) (nl := 1) rfl XC_0 (show cvOK 334 3 84 142 0 1 10 = true by decide +kernel) rfl rfl rfl (S_142 (d := d) hr) (fun c2 o S' hq => ?_)
  rcases hp with ⟨q, hq1, rfl, hq2⟩ | ⟨rfl, h0⟩
  · obtain ⟨rfl, rfl, rfl⟩ := hq
    right
    simp only [E1, List.mem_cons, List.not_mem_nil, or_false] at hq1
    rcases hq1 with rfl
    · refine ⟨isE, 12, 2, rfl, (by decide +kernel), ?_⟩
      refine go_run mm_334 1 (pc' := 13) (ls' := []) (st' := [.int 1]) (S' := S') rfl ?_
      exact go_ireturn mm_334 rfl rfl ⟨by decide, by rw [hq2], Or.inr ⟨by rw [hq2]; decide, rfl⟩⟩
  · obtain ⟨rfl, rfl, rfl⟩ := hq
    left
    refine ⟨_, rfl, ?_⟩
    refine go_run mm_334 1 (pc' := 7) (ls' := [some (.ref 0), some (.ref 162), none]) (st' := [.long (Int32.toInt64 rm), .int 0, .ref 162]) (S' := S') rfl ?_
    refine go_lastore mm_334 (q := 0) (h := 162) (n := 1) rfl XC_out rfl in01 ?_
    refine go_run mm_334 2 (pc' := 15) (ls' := [some (.ref 0), some (.ref 162), none]) (st' := [.int 0]) (S' := wL S' 162 0 (Int32.toInt64 rm)) rfl ?_
    exact go_ireturn mm_334 rfl rfl ⟨by decide, by rw [h0], Or.inl ⟨h0, rfl⟩⟩
theorem mm_335 : mtG 335 = some (mi_335, 13, ft_335) := rfl
set_option maxRecDepth 20000 in
theorem wr_335 {d : Nat} {S S1 T : ST}  {rc : String ⊕ Int32} {rm : Int32} (hr : F_143 S = some (rc, S1)) (hp : Pub E1 rc rm T) : Cal XC (d + 10) 335 [.ref 0, .ref 162] S (RWr Int32.toInt64 rm (T.1 140 0) S1) := by
  refine cal_go 1 rfl ?_
  refine go_run mm_335 3 (pc' := 3) (ls' := [some (.ref 0), some (.ref 162), none]) (st' := [.ref 0, .int 0, .ref 162]) (S' := S) rfl ?_
  refine go_cvH mm_335 (by decide) (h := 0) (As := []) (rest := [.int 0, .ref 162]) (nl := 1) rfl XC_0 (show cvOK 335 3 87 143 0 1 10 = true by decide +kernel) rfl rfl rfl (S_143 (d := d) hr) (fun c2 o S' hq => ?_)
  rcases hp with ⟨q, hq1, rfl, hq2⟩ | ⟨rfl, h0⟩
  · obtain ⟨rfl, rfl, rfl⟩ := hq
    right
    simp only [E1, List.mem_cons, List.not_mem_nil, or_false] at hq1
    rcases hq1 with rfl
    · refine ⟨isE, 12, 2, rfl, (by decide +kernel), ?_⟩
      refine go_run mm_335 1 (pc' := 13) (ls' := []) (st' := [.int 1]) (S' := S') rfl ?_
      exact go_ireturn mm_335 rfl rfl ⟨by decide, by rw [hq2], Or.inr ⟨by rw [hq2]; decide, rfl⟩⟩
  · obtain ⟨rfl, rfl, rfl⟩ := hq
    left
    refine ⟨_, rfl, ?_⟩
    refine go_run mm_335 1 (pc' := 7) (ls' := [some (.ref 0), some (.ref 162), none]) (st' := [.long (Int32.toInt64 rm), .int 0, .ref 162]) (S' := S') rfl ?_
    refine go_lastore mm_335 (q := 0) (h := 162) (n := 1) rfl XC_out rfl in01 ?_
    refine go_run mm_335 2 (pc' := 15) (ls' := [some (.ref 0), some (.ref 162), none]) (st' := [.int 0]) (S' := wL S' 162 0 (Int32.toInt64 rm)) rfl ?_
    exact go_ireturn mm_335 rfl rfl ⟨by decide, by rw [h0], Or.inl ⟨h0, rfl⟩⟩
theorem mm_336 : mtG 336 = some (mi_336, 13, ft_336) := rfl
set_option maxRecDepth 20000 in
theorem wr_336 {d : Nat} {S S1 T : ST} {v1 : Int32} {rc : String ⊕ Int32} {rm : Int32} (hr : F_144 v1 S = some (rc, S1)) (hp : Pub E12 rc rm T) : Cal XC (d + 10) 336 [.ref 0, .int v1, .ref 162] S (RWr Int32.toInt64 rm (T.1 140 0) S1) := by
  refine cal_go 1 rfl ?_
  refine go_run mm_336 4 (pc' := 4) (ls' := [some (.ref 0), some (.int v1), some (.ref 162), none]) (st' := [.int v1, .ref 0, .int 0, .ref 162]) (S' := S) rfl ?_
  refine go_cvH mm_336 (by decide) (h := 0) (As := [.int v1]) (rest := [.int 0, .ref 162]) (nl := 2) rfl XC_0 (show cvOK 336 4 90 144 1 2 10 = true by decide +kernel) rfl rfl rfl (S_144 (d := d) hr) (fun c2 o S' hq => ?_)
  rcases hp with ⟨q, hq1, rfl, hq2⟩ | ⟨rfl, h0⟩
  · obtain ⟨rfl, rfl, rfl⟩ := hq
    right
    simp only [E12, List.mem_cons, List.not_mem_nil, or_false] at hq1
    rcases hq1 with rfl | rfl
    · refine ⟨isE, 13, 3, rfl, (by decide +kernel), ?_⟩
      refine go_run mm_336 1 (pc' := 14) (ls' := []) (st' := [.int 1]) (S' := S') rfl ?_
      exact go_ireturn mm_336 rfl rfl ⟨by decide, by rw [hq2], Or.inr ⟨by rw [hq2]; decide, rfl⟩⟩
    · refine ⟨ixE, 16, 3, rfl, (by decide +kernel), ?_⟩
      refine go_run mm_336 1 (pc' := 17) (ls' := []) (st' := [.int 2]) (S' := S') rfl ?_
      exact go_ireturn mm_336 rfl rfl ⟨by decide, by rw [hq2], Or.inr ⟨by rw [hq2]; decide, rfl⟩⟩
  · obtain ⟨rfl, rfl, rfl⟩ := hq
    left
    refine ⟨_, rfl, ?_⟩
    refine go_run mm_336 1 (pc' := 8) (ls' := [some (.ref 0), some (.int v1), some (.ref 162), none]) (st' := [.long (Int32.toInt64 rm), .int 0, .ref 162]) (S' := S') rfl ?_
    refine go_lastore mm_336 (q := 0) (h := 162) (n := 1) rfl XC_out rfl in01 ?_
    refine go_run mm_336 2 (pc' := 19) (ls' := [some (.ref 0), some (.int v1), some (.ref 162), none]) (st' := [.int 0]) (S' := wL S' 162 0 (Int32.toInt64 rm)) rfl ?_
    exact go_ireturn mm_336 rfl rfl ⟨by decide, by rw [h0], Or.inl ⟨h0, rfl⟩⟩
theorem mm_337 : mtG 337 = some (mi_337, 13, ft_337) := rfl
set_option maxRecDepth 20000 in
theorem wr_337 {d : Nat} {S S1 T : ST}  {rc : String ⊕ Int32} {rm : Int32} (hr : F_145 S = some (rc, S1)) (hp : Pub E1 rc rm T) : Cal XC (d + 10) 337 [.ref 0, .ref 162] S (RWr Int32.toInt64 rm (T.1 140 0) S1) := by
  refine cal_go 1 rfl ?_
  refine go_run mm_337 3 (pc' := 3) (ls' := [some (.ref 0), some (.ref 162), none]) (st' := [.ref 0, .int 0, .ref 162]) (S' := S) rfl ?_
  refine go_cvH mm_337 (by decide) (h := 0) (As := []) (rest := [.int 0, .ref 162]) (nl := 1) rfl XC_0 (show cvOK 337 3 93 145 0 1 10 = true by decide +kernel) rfl rfl rfl (S_145 (d := d) hr) (fun c2 o S' hq => ?_)
  rcases hp with ⟨q, hq1, rfl, hq2⟩ | ⟨rfl, h0⟩
  · obtain ⟨rfl, rfl, rfl⟩ := hq
    right
    simp only [E1, List.mem_cons, List.not_mem_nil, or_false] at hq1
    rcases hq1 with rfl
    · refine ⟨isE, 12, 2, rfl, (by decide +kernel), ?_⟩
      refine go_run mm_337 1 (pc' := 13) (ls' := []) (st' := [.int 1]) (S' := S') rfl ?_
      exact go_ireturn mm_337 rfl rfl ⟨by decide, by rw [hq2], Or.inr ⟨by rw [hq2]; decide, rfl⟩⟩
  · obtain ⟨rfl, rfl, rfl⟩ := hq
    left
    refine ⟨_, rfl, ?_⟩
    refine go_run mm_337 1 (pc' := 7) (ls' := [some (.ref 0), some (.ref 162), none]) (st' := [.long (Int32.toInt64 rm), .int 0, .ref 162]) (S' := S') rfl ?_
    refine go_lastore mm_337 (q := 0) (h := 162) (n := 1) rfl XC_out rfl in01 ?_
    refine go_run mm_337 2 (pc' := 15) (ls' := [some (.ref 0), some (.ref 162), none]) (st' := [.int 0]) (S' := wL S' 162 0 (Int32.toInt64 rm)) rfl ?_
    exact go_ireturn mm_337 rfl rfl ⟨by decide, by rw [h0], Or.inl ⟨h0, rfl⟩⟩
theorem mm_338 : mtG 338 = some (mi_338, 13, ft_338) := rfl
set_option maxRecDepth 20000 in
theorem wr_338 {d : Nat} {S S1 T : ST} {v1 : Int32} {rc : String ⊕ Int32} {rm : Int32} (hr : F_146 v1 S = some (rc, S1)) (hp : Pub E12 rc rm T) : Cal XC (d + 10) 338 [.ref 0, .int v1, .ref 162] S (RWr Int32.toInt64 rm (T.1 140 0) S1) := by
  refine cal_go 1 rfl ?_
  refine go_run mm_338 4 (pc' := 4) (ls' := [some (.ref 0), some (.int v1), some (.ref 162), none]) (st' := [.int v1, .ref 0, .int 0, .ref 162]) (S' := S) rfl ?_
  refine go_cvH mm_338 (by decide) (h := 0) (As := [.int v1]) (rest := [.int 0, .ref 162]) (nl := 2) rfl XC_0 (show cvOK 338 4 96 146 1 2 10 = true by decide +kernel) rfl rfl rfl (S_146 (d := d) hr) (fun c2 o S' hq => ?_)
  rcases hp with ⟨q, hq1, rfl, hq2⟩ | ⟨rfl, h0⟩
  · obtain ⟨rfl, rfl, rfl⟩ := hq
    right
    simp only [E12, List.mem_cons, List.not_mem_nil, or_false] at hq1
    rcases hq1 with rfl | rfl
    · refine ⟨isE, 13, 3, rfl, (by decide +kernel), ?_⟩
      refine go_run mm_338 1 (pc' := 14) (ls' := []) (st' := [.int 1]) (S' := S') rfl ?_
      exact go_ireturn mm_338 rfl rfl ⟨by decide, by rw [hq2], Or.inr ⟨by rw [hq2]; decide, rfl⟩⟩
    · refine ⟨ixE, 16, 3, rfl, (by decide +kernel), ?_⟩
      refine go_run mm_338 1 (pc' := 17) (ls' := []) (st' := [.int 2]) (S' := S') rfl ?_
      exact go_ireturn mm_338 rfl rfl ⟨by decide, by rw [hq2], Or.inr ⟨by rw [hq2]; decide, rfl⟩⟩
  · obtain ⟨rfl, rfl, rfl⟩ := hq
    left
    refine ⟨_, rfl, ?_⟩
    refine go_run mm_338 1 (pc' := 8) (ls' := [some (.ref 0), some (.int v1), some (.ref 162), none]) (st' := [.long (Int32.toInt64 rm), .int 0, .ref 162]) (S' := S') rfl ?_
    refine go_lastore mm_338 (q := 0) (h := 162) (n := 1) rfl XC_out rfl in01 ?_
    refine go_run mm_338 2 (pc' := 19) (ls' := [some (.ref 0), some (.int v1), some (.ref 162), none]) (st' := [.int 0]) (S' := wL S' 162 0 (Int32.toInt64 rm)) rfl ?_
    exact go_ireturn mm_338 rfl rfl ⟨by decide, by rw [h0], Or.inl ⟨h0, rfl⟩⟩
theorem mm_339 : mtG 339 = some (mi_339, 13, ft_339) := rfl
set_option maxRecDepth 20000 in
theorem wr_339 {d : Nat} {S S1 T : ST}  {rc : String ⊕ Int32} {rm : Int32} (hr : F_147 S = some (rc, S1)) (hp : Pub E1 rc rm T) : Cal XC (d + 22) 339 [.ref 0, .ref 162] S (RWr Int32.toInt64 rm (T.1 140 0) S1) := by
  refine cal_go 1 rfl ?_
  refine go_run mm_339 3 (pc' := 3) (ls' := [some (.ref 0), some (.ref 162), none]) (st' := [.ref 0, .int 0, .ref 162]) (S' := S) rfl ?_
  refine go_cvH mm_339 (by decide) (h := 0) (As := []) (rest := [.int 0, .ref 162]) (nl := 1) rfl XC_0 (show cvOK 339 3 99 147 0 1 10 = true by decide +kernel) rfl rfl rfl (S_147 (d := d) hr) (fun c2 o S' hq => ?_)
  rcases hp with ⟨q, hq1, rfl, hq2⟩ | ⟨rfl, h0⟩
  · obtain ⟨rfl, rfl, rfl⟩ := hq
    right
    simp only [E1, List.mem_cons, List.not_mem_nil, or_false] at hq1
    rcases hq1 with rfl
    · refine ⟨isE, 12, 2, rfl, (by decide +kernel), ?_⟩
      refine go_run mm_339 1 (pc' := 13) (ls' := []) (st' := [.int 1]) (S' := S') rfl ?_
      exact go_ireturn mm_339 rfl rfl ⟨by decide, by rw [hq2], Or.inr ⟨by rw [hq2]; decide, rfl⟩⟩
  · obtain ⟨rfl, rfl, rfl⟩ := hq
    left
    refine ⟨_, rfl, ?_⟩
    refine go_run mm_339 1 (pc' := 7) (ls' := [some (.ref 0), some (.ref 162), none]) (st' := [.long (Int32.toInt64 rm), .int 0, .ref 162]) (S' := S') rfl ?_
    refine go_lastore mm_339 (q := 0) (h := 162) (n := 1) rfl XC_out rfl in01 ?_
    refine go_run mm_339 2 (pc' := 15) (ls' := [some (.ref 0), some (.ref 162), none]) (st' := [.int 0]) (S' := wL S' 162 0 (Int32.toInt64 rm)) rfl ?_
    exact go_ireturn mm_339 rfl rfl ⟨by decide, by rw [h0], Or.inl ⟨h0, rfl⟩⟩
theorem mm_340 : mtG 340 = some (mi_340, 13, ft_340) := rfl
set_option maxRecDepth 20000 in
theorem wr_340 {d : Nat} {S S1 T : ST} {v1 : Int32} {rc : String ⊕ Int32} {rm : Int32} (hr : F_149 v1 S = some (rc, S1)) (hp : Pub E12 rc rm T) : Cal XC (d + 3) 340 [.ref 0, .int v1, .ref 162] S (RWr Int32.toInt64 rm (T.1 140 0) S1) := by
  refine cal_go 1 rfl ?_
  refine go_run mm_340 4 (pc' := 4) (ls' := [some (.ref 0), some (.int v1), some (.ref 162), none]) (st' := [.int v1, .ref 0, .int 0, .ref 162]) (S' := S) rfl ?_
  refine go_cvH mm_340 (by decide) (h := 0) (As := [.int v1]) (rest := [.int 0, .ref 162]) (nl := 2) rfl XC_0 (show cvOK 340 4 102 149 1 2 10 = true by decide +kernel) rfl rfl rfl (S_149 (d := d) hr) (fun c2 o S' hq => ?_)
  rcases hp with ⟨q, hq1, rfl, hq2⟩ | ⟨rfl, h0⟩
  · obtain ⟨rfl, rfl, rfl⟩ := hq
    right
    simp only [E12, List.mem_cons, List.not_mem_nil, or_false] at hq1
    rcases hq1 with rfl | rfl
    · refine ⟨isE, 13, 3, rfl, (by decide +kernel), ?_⟩
      refine go_run mm_340 1 (pc' := 14) (ls' := []) (st' := [.int 1]) (S' := S') rfl ?_
      exact go_ireturn mm_340 rfl rfl ⟨by decide, by rw [hq2], Or.inr ⟨by rw [hq2]; decide, rfl⟩⟩
    · refine ⟨ixE, 16, 3, rfl, (by decide +kernel), ?_⟩
      refine go_run mm_340 1 (pc' := 17) (ls' := []) (st' := [.int 2]) (S' := S') rfl ?_
      exact go_ireturn mm_340 rfl rfl ⟨by decide, by rw [hq2], Or.inr ⟨by rw [hq2]; decide, rfl⟩⟩
  · obtain ⟨rfl, rfl, rfl⟩ := hq
    left
    refine ⟨_, rfl, ?_⟩
    refine go_run mm_340 1 (pc' := 8) (ls' := [some (.ref 0), some (.int v1), some (.ref 162), none]) (st' := [.long (Int32.toInt64 rm), .int 0, .ref 162]) (S' := S') rfl ?_
    refine go_lastore mm_340 (q := 0) (h := 162) (n := 1) rfl XC_out rfl in01 ?_
    refine go_run mm_340 2 (pc' := 19) (ls' := [some (.ref 0), some (.int v1), some (.ref 162), none]) (st' := [.int 0]) (S' := wL S' 162 0 (Int32.toInt64 rm)) rfl ?_
    exact go_ireturn mm_340 rfl rfl ⟨by decide, by rw [h0], Or.inl ⟨h0, rfl⟩⟩
theorem mm_341 : mtG 341 = some (mi_341, 13, ft_341) := rfl
set_option maxRecDepth 20000 in
theorem wr_341 {d : Nat} {S S1 T : ST} {v1 : Int32} {rc : String ⊕ Int32} {rm : Int32} (hr : F_150 v1 S = some (rc, S1)) (hp : Pub E12 rc rm T) : Cal XC (d + 2) 341 [.ref 0, .int v1, .ref 162] S (RWr Int32.toInt64 rm (T.1 140 0) S1) := by
  refine cal_go 1 rfl ?_
  refine go_run mm_341 4 (pc' := 4) (ls' := [some (.ref 0), some (.int v1), some (.ref 162), none]) (st' := [.int v1, .ref 0, .int 0, .ref 162]) (S' := S) rfl ?_
  refine go_cvH mm_341 (by decide) (h := 0) (As := [.int v1]) (rest := [.int 0, .ref 162]) (nl := 2) rfl XC_0 (show cvOK 341 4 105 150 1 2 10 = true by decide +kernel) rfl rfl rfl (S_150 (d := d) hr) (fun c2 o S' hq => ?_)
  rcases hp with ⟨q, hq1, rfl, hq2⟩ | ⟨rfl, h0⟩
  · obtain ⟨rfl, rfl, rfl⟩ := hq
    right
    simp only [E12, List.mem_cons, List.not_mem_nil, or_false] at hq1
    rcases hq1 with rfl | rfl
    · refine ⟨isE, 13, 3, rfl, (by decide +kernel), ?_⟩
      refine go_run mm_341 1 (pc' := 14) (ls' := []) (st' := [.int 1]) (S' := S') rfl ?_
      exact go_ireturn mm_341 rfl rfl ⟨by decide, by rw [hq2], Or.inr ⟨by rw [hq2]; decide, rfl⟩⟩
    · refine ⟨ixE, 16, 3, rfl, (by decide +kernel), ?_⟩
      refine go_run mm_341 1 (pc' := 17) (ls' := []) (st' := [.int 2]) (S' := S') rfl ?_
      exact go_ireturn mm_341 rfl rfl ⟨by decide, by rw [hq2], Or.inr ⟨by rw [hq2]; decide, rfl⟩⟩
  · obtain ⟨rfl, rfl, rfl⟩ := hq
    left
    refine ⟨_, rfl, ?_⟩
    refine go_run mm_341 1 (pc' := 8) (ls' := [some (.ref 0), some (.int v1), some (.ref 162), none]) (st' := [.long (Int32.toInt64 rm), .int 0, .ref 162]) (S' := S') rfl ?_
    refine go_lastore mm_341 (q := 0) (h := 162) (n := 1) rfl XC_out rfl in01 ?_
    refine go_run mm_341 2 (pc' := 19) (ls' := [some (.ref 0), some (.int v1), some (.ref 162), none]) (st' := [.int 0]) (S' := wL S' 162 0 (Int32.toInt64 rm)) rfl ?_
    exact go_ireturn mm_341 rfl rfl ⟨by decide, by rw [h0], Or.inl ⟨h0, rfl⟩⟩
theorem mm_342 : mtG 342 = some (mi_342, 13, ft_342) := rfl
set_option maxRecDepth 20000 in
theorem wr_342 {d : Nat} {S S1 T : ST} {v1 : Int32} {rc : String ⊕ Int64} {rm : Int64} (hr : F_151 v1 S = some (rc, S1)) (hp : Pub E12 rc rm T) : Cal XC (d + 7) 342 [.ref 0, .int v1, .ref 162] S (RWr id rm (T.1 140 0) S1) := by
  refine cal_go 1 rfl ?_
  refine go_run mm_342 4 (pc' := 4) (ls' := [some (.ref 0), some (.int v1), some (.ref 162), none]) (st' := [.int v1, .ref 0, .int 0, .ref 162]) (S' := S) rfl ?_
  refine go_cvH mm_342 (by decide) (h := 0) (As := [.int v1]) (rest := [.int 0, .ref 162]) (nl := 2) rfl XC_0 (show cvOK 342 4 108 151 1 2 10 = true by decide +kernel) rfl rfl rfl (S_151 (d := d) hr) (fun c2 o S' hq => ?_)
  rcases hp with ⟨q, hq1, rfl, hq2⟩ | ⟨rfl, h0⟩
  · obtain ⟨rfl, rfl, rfl⟩ := hq
    right
    simp only [E12, List.mem_cons, List.not_mem_nil, or_false] at hq1
    rcases hq1 with rfl | rfl
    · refine ⟨isE, 12, 3, rfl, (by decide +kernel), ?_⟩
      refine go_run mm_342 1 (pc' := 13) (ls' := []) (st' := [.int 1]) (S' := S') rfl ?_
      exact go_ireturn mm_342 rfl rfl ⟨by decide, by rw [hq2], Or.inr ⟨by rw [hq2]; decide, rfl⟩⟩
    · refine ⟨ixE, 15, 3, rfl, (by decide +kernel), ?_⟩
      refine go_run mm_342 1 (pc' := 16) (ls' := []) (st' := [.int 2]) (S' := S') rfl ?_
      exact go_ireturn mm_342 rfl rfl ⟨by decide, by rw [hq2], Or.inr ⟨by rw [hq2]; decide, rfl⟩⟩
  · obtain ⟨rfl, rfl, rfl⟩ := hq
    left
    refine ⟨_, rfl, ?_⟩
    show Go XC (d + 7) 342 (0 + 0) 7 [some (.ref 0), some (.int v1), some (.ref 162), none] [.long rm, .int 0, .ref 162] S' _
    refine go_lastore mm_342 (q := 0) (h := 162) (n := 1) rfl XC_out rfl in01 ?_
    refine go_run mm_342 2 (pc' := 18) (ls' := [some (.ref 0), some (.int v1), some (.ref 162), none]) (st' := [.int 0]) (S' := wL S' 162 0 (rm)) rfl ?_
    exact go_ireturn mm_342 rfl rfl ⟨by decide, by rw [h0], Or.inl ⟨h0, rfl⟩⟩
theorem mm_343 : mtG 343 = some (mi_343, 13, ft_343) := rfl
set_option maxRecDepth 20000 in
theorem wr_343 {d : Nat} {S S1 T : ST}  {rc : String ⊕ Int64} {rm : Int64} (hr : F_152 S = some (rc, S1)) (hp : Pub E1 rc rm T) : Cal XC (d + 7) 343 [.ref 0, .ref 162] S (RWr id rm (T.1 140 0) S1) := by
  refine cal_go 1 rfl ?_
  refine go_run mm_343 3 (pc' := 3) (ls' := [some (.ref 0), some (.ref 162), none]) (st' := [.ref 0, .int 0, .ref 162]) (S' := S) rfl ?_
  refine go_cvH mm_343 (by decide) (h := 0) (As := []) (rest := [.int 0, .ref 162]) (nl := 1) rfl XC_0 (show cvOK 343 3 111 152 0 1 10 = true by decide +kernel) rfl rfl rfl (S_152 (d := d) hr) (fun c2 o S' hq => ?_)
  rcases hp with ⟨q, hq1, rfl, hq2⟩ | ⟨rfl, h0⟩
  · obtain ⟨rfl, rfl, rfl⟩ := hq
    right
    simp only [E1, List.mem_cons, List.not_mem_nil, or_false] at hq1
    rcases hq1 with rfl
    · refine ⟨isE, 11, 2, rfl, (by decide +kernel), ?_⟩
      refine go_run mm_343 1 (pc' := 12) (ls' := []) (st' := [.int 1]) (S' := S') rfl ?_
      exact go_ireturn mm_343 rfl rfl ⟨by decide, by rw [hq2], Or.inr ⟨by rw [hq2]; decide, rfl⟩⟩
  · obtain ⟨rfl, rfl, rfl⟩ := hq
    left
    refine ⟨_, rfl, ?_⟩
    show Go XC (d + 7) 343 (0 + 0) 6 [some (.ref 0), some (.ref 162), none] [.long rm, .int 0, .ref 162] S' _
    refine go_lastore mm_343 (q := 0) (h := 162) (n := 1) rfl XC_out rfl in01 ?_
    refine go_run mm_343 2 (pc' := 14) (ls' := [some (.ref 0), some (.ref 162), none]) (st' := [.int 0]) (S' := wL S' 162 0 (rm)) rfl ?_
    exact go_ireturn mm_343 rfl rfl ⟨by decide, by rw [h0], Or.inl ⟨h0, rfl⟩⟩
theorem mm_344 : mtG 344 = some (mi_344, 13, ft_344) := rfl
set_option maxRecDepth 20000 in
theorem wr_344 {d : Nat} {S S1 T : ST} {v1 : Int32} {rc : String ⊕ Int32} {rm : Int32} (hr : F_153 v1 S = some (rc, S1)) (hp : Pub E12 rc rm T) : Cal XC (d + 7) 344 [.ref 0, .int v1, .ref 162] S (RWr Int32.toInt64 rm (T.1 140 0) S1) := by
  refine cal_go 1 rfl ?_
  refine go_run mm_344 4 (pc' := 4) (ls' := [some (.ref 0), some (.int v1), some (.ref 162), none]) (st' := [.int v1, .ref 0, .int 0, .ref 162]) (S' := S) rfl ?_
  refine go_cvH mm_344 (by decide) (h := 0) (As := [.int v1]) (rest := [.int 0, .ref 162]) (nl := 2) rfl XC_0 (show cvOK 344 4 114 153 1 2 10 = true by decide +kernel) rfl rfl rfl (S_153 (d := d) hr) (fun c2 o S' hq => ?_)
  rcases hp with ⟨q, hq1, rfl, hq2⟩ | ⟨rfl, h0⟩
  · obtain ⟨rfl, rfl, rfl⟩ := hq
    right
    simp only [E12, List.mem_cons, List.not_mem_nil, or_false] at hq1
    rcases hq1 with rfl | rfl
    · refine ⟨isE, 13, 3, rfl, (by decide +kernel), ?_⟩
      refine go_run mm_344 1 (pc' := 14) (ls' := []) (st' := [.int 1]) (S' := S') rfl ?_
      exact go_ireturn mm_344 rfl rfl ⟨by decide, by rw [hq2], Or.inr ⟨by rw [hq2]; decide, rfl⟩⟩
    · refine ⟨ixE, 16, 3, rfl, (by decide +kernel), ?_⟩
      refine go_run mm_344 1 (pc' := 17) (ls' := []) (st' := [.int 2]) (S' := S') rfl ?_
      exact go_ireturn mm_344 rfl rfl ⟨by decide, by rw [hq2], Or.inr ⟨by rw [hq2]; decide, rfl⟩⟩
  · obtain ⟨rfl, rfl, rfl⟩ := hq
    left
    refine ⟨_, rfl, ?_⟩
    refine go_run mm_344 1 (pc' := 8) (ls' := [some (.ref 0), some (.int v1), some (.ref 162), none]) (st' := [.long (Int32.toInt64 rm), .int 0, .ref 162]) (S' := S') rfl ?_
    refine go_lastore mm_344 (q := 0) (h := 162) (n := 1) rfl XC_out rfl in01 ?_
    refine go_run mm_344 2 (pc' := 19) (ls' := [some (.ref 0), some (.int v1), some (.ref 162), none]) (st' := [.int 0]) (S' := wL S' 162 0 (Int32.toInt64 rm)) rfl ?_
    exact go_ireturn mm_344 rfl rfl ⟨by decide, by rw [h0], Or.inl ⟨h0, rfl⟩⟩
theorem mm_345 : mtG 345 = some (mi_345, 13, ft_345) := rfl
set_option maxRecDepth 20000 in
theorem wr_345 {d : Nat} {S S1 T : ST}  {rc : String ⊕ Int32} {rm : Int32} (hr : F_154 S = some (rc, S1)) (hp : Pub E1 rc rm T) : Cal XC (d + 7) 345 [.ref 0, .ref 162] S (RWr Int32.toInt64 rm (T.1 140 0) S1) := by
  refine cal_go 1 rfl ?_
  refine go_run mm_345 3 (pc' := 3) (ls' := [some (.ref 0), some (.ref 162), none]) (st' := [.ref 0, .int 0, .ref 162]) (S' := S) rfl ?_
  refine go_cvH mm_345 (by decide) (h := 0) (As := []) (rest := [.int 0, .ref 162]) (nl := 1) rfl XC_0 (show cvOK 345 3 117 154 0 1 10 = true by decide +kernel) rfl rfl rfl (S_154 (d := d) hr) (fun c2 o S' hq => ?_)
  rcases hp with ⟨q, hq1, rfl, hq2⟩ | ⟨rfl, h0⟩
  · obtain ⟨rfl, rfl, rfl⟩ := hq
    right
    simp only [E1, List.mem_cons, List.not_mem_nil, or_false] at hq1
    rcases hq1 with rfl
    · refine ⟨isE, 12, 2, rfl, (by decide +kernel), ?_⟩
      refine go_run mm_345 1 (pc' := 13) (ls' := []) (st' := [.int 1]) (S' := S') rfl ?_
      exact go_ireturn mm_345 rfl rfl ⟨by decide, by rw [hq2], Or.inr ⟨by rw [hq2]; decide, rfl⟩⟩
  · obtain ⟨rfl, rfl, rfl⟩ := hq
    left
    refine ⟨_, rfl, ?_⟩
    refine go_run mm_345 1 (pc' := 7) (ls' := [some (.ref 0), some (.ref 162), none]) (st' := [.long (Int32.toInt64 rm), .int 0, .ref 162]) (S' := S') rfl ?_
    refine go_lastore mm_345 (q := 0) (h := 162) (n := 1) rfl XC_out rfl in01 ?_
    refine go_run mm_345 2 (pc' := 15) (ls' := [some (.ref 0), some (.ref 162), none]) (st' := [.int 0]) (S' := wL S' 162 0 (Int32.toInt64 rm)) rfl ?_
    exact go_ireturn mm_345 rfl rfl ⟨by decide, by rw [h0], Or.inl ⟨h0, rfl⟩⟩
theorem mm_346 : mtG 346 = some (mi_346, 13, ft_346) := rfl
set_option maxRecDepth 20000 in
theorem wr_346 {d : Nat} {S S1 T : ST}  {rc : String ⊕ Int32} {rm : Int32} (hr : F_155 S = some (rc, S1)) (hp : Pub E1 rc rm T) : Cal XC (d + 7) 346 [.ref 0, .ref 162] S (RWr Int32.toInt64 rm (T.1 140 0) S1) := by
  refine cal_go 1 rfl ?_
  refine go_run mm_346 3 (pc' := 3) (ls' := [some (.ref 0), some (.ref 162), none]) (st' := [.ref 0, .int 0, .ref 162]) (S' := S) rfl ?_
  refine go_cvH mm_346 (by decide) (h := 0) (As := []) (rest := [.int 0, .ref 162]) (nl := 1) rfl XC_0 (show cvOK 346 3 120 155 0 1 10 = true by decide +kernel) rfl rfl rfl (S_155 (d := d) hr) (fun c2 o S' hq => ?_)
  rcases hp with ⟨q, hq1, rfl, hq2⟩ | ⟨rfl, h0⟩
  · obtain ⟨rfl, rfl, rfl⟩ := hq
    right
    simp only [E1, List.mem_cons, List.not_mem_nil, or_false] at hq1
    rcases hq1 with rfl
    · refine ⟨isE, 12, 2, rfl, (by decide +kernel), ?_⟩
      refine go_run mm_346 1 (pc' := 13) (ls' := []) (st' := [.int 1]) (S' := S') rfl ?_
      exact go_ireturn mm_346 rfl rfl ⟨by decide, by rw [hq2], Or.inr ⟨by rw [hq2]; decide, rfl⟩⟩
  · obtain ⟨rfl, rfl, rfl⟩ := hq
    left
    refine ⟨_, rfl, ?_⟩
    refine go_run mm_346 1 (pc' := 7) (ls' := [some (.ref 0), some (.ref 162), none]) (st' := [.long (Int32.toInt64 rm), .int 0, .ref 162]) (S' := S') rfl ?_
    refine go_lastore mm_346 (q := 0) (h := 162) (n := 1) rfl XC_out rfl in01 ?_
    refine go_run mm_346 2 (pc' := 15) (ls' := [some (.ref 0), some (.ref 162), none]) (st' := [.int 0]) (S' := wL S' 162 0 (Int32.toInt64 rm)) rfl ?_
    exact go_ireturn mm_346 rfl rfl ⟨by decide, by rw [h0], Or.inl ⟨h0, rfl⟩⟩
