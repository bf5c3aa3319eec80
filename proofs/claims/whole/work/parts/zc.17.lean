/-! methods as functions (printed by a program): 151 watched, 152 unwatched, 153 watchers, 154 redundantGuards, 155 bestPoint, 156 greedyGuards, 157 treasures, 158 treasureAt, 159 watchedValue, 160 bestValue, 181 signAt, 161 draw, 162 drawnByte, 163 addGuard, 164 removeGuard, 165 moveGuard, 166 setRange, 179 adoptDraft -/
theorem mm_151 : mtG 151 = some (mi_151, 11, ft_151) := rfl
def F_151 (v1 : Int32) (S : ST) : Option ((String ⊕ Int64) × ST) := ox (F_174 S) (fun w1 w1s => ox (F_175 v1 (w1s.1 3 1) w1s) (fun w2 w2s => ob (F_66 w2s) (fun w3 => ob (F_107 v1 w3.2) (fun w4 => some (.inr w4, w3.2)))))
set_option maxRecDepth 20000 in
theorem S_151 {d : Nat} {S : ST} {v1 : Int32} {r} (hr : F_151 v1 S = some r) : Cal XC (d + 6) 151 [.ref 0, .int v1] S (RXx vJ r) := by
  unfold F_151 at hr
  refine cal_go 0 rfl ?_
  refine go_run mm_151 1 (pc' := 1) (ls' := [some (.ref 0), some (.int v1)]) (st' := [.ref 0]) (S' := S) rfl ?_
  rcases ox_some hr with ⟨E9, S9, hw1, rfl⟩ | ⟨w1, w1s, hw1, hr⟩
  · exact go_cvX mm_151 rfl (h := 0) (As := []) (rest := []) (nl := 1) rfl rfl (show cvOK 151 1 155 174 0 1 10 = true by decide +kernel) rfl rfl rfl (S_174 hw1) (KX_E ⟨rfl, rfl, rfl⟩)
  refine go_cvX mm_151 rfl (h := 0) (As := []) (rest := []) (nl := 1) rfl rfl (show cvOK 151 1 155 174 0 1 10 = true by decide +kernel) rfl rfl rfl (S_174 hw1) (KX_R ?_)
  show Go XC (d + 6) 151 0 4 [some (.ref 0), some (.int v1)] [] w1s (RXx vJ r)
  refine go_run mm_151 4 (pc' := 12) (ls' := [some (.ref 0), some (.int v1)]) (st' := [.int (w1s.1 3 1), .int v1]) (S' := w1s) rfl ?_
  rcases ox_some hr with ⟨E9, S9, hw2, rfl⟩ | ⟨w2, w2s, hw2, hr⟩
  · exact go_csX mm_151 rfl (av := [.int v1, .int (w1s.1 3 1)]) (rest := []) (nl := 2) rfl (show csX 151 12 158 175 2 2 = true by decide +kernel) rfl rfl rfl (S_175 hw2) (KX_E ⟨rfl, rfl, rfl⟩)
  refine go_csX mm_151 rfl (av := [.int v1, .int (w1s.1 3 1)]) (rest := []) (nl := 2) rfl (show csX 151 12 158 175 2 2 = true by decide +kernel) rfl rfl rfl (S_175 hw2) (KX_R ?_)
  show Go XC (d + 6) 151 0 15 [some (.ref 0), some (.int v1)] [] w2s (RXx vJ r)
  refine go_run mm_151 2 (pc' := 19) (ls' := [some (.ref 0), some (.int v1)]) (st' := [.ref 30]) (S' := w2s) rfl ?_
  obtain ⟨w3, hw3, hr⟩ := ob_some hr
  refine go_cv mm_151 (h := 30) (As := []) (rest := []) (nl := 2) rfl rfl (show cvOK 151 19 196 66 0 2 6 = true by decide +kernel) rfl rfl rfl (S_66 hw3) (KP_V ?_)
  show Go XC (d + 6) 151 0 22 [some (.ref 0), some (.int v1)] [] w3.2 (RXx vJ r)
  refine go_run mm_151 3 (pc' := 27) (ls' := [some (.ref 0), some (.int v1)]) (st' := [.int v1, .ref 46]) (S' := w3.2) rfl ?_
  obtain ⟨w4, hw4, hr⟩ := ob_some hr
  refine go_cv mm_151 (h := 46) (As := [.int v1]) (rest := []) (nl := 2) rfl rfl (show cvOK 151 27 271 107 1 2 9 = true by decide +kernel) rfl rfl rfl (S_107 hw4) (KP_V ?_)
  show Go XC (d + 6) 151 0 30 [some (.ref 0), some (.int v1)] [.long w4] w3.2 (RXx vJ r)
  cases hr
  exact go_lreturn mm_151 rfl rfl ⟨rfl, rfl, rfl⟩

theorem mm_152 : mtG 152 = some (mi_152, 11, ft_152) := rfl
def F_152 (S : ST) : Option ((String ⊕ Int64) × ST) := ox (F_174 S) (fun w1 w1s => ob (F_66 w1s) (fun w2 => ob (F_108 (-1) w2.2) (fun w3 => some (.inr ((F_21 21 w2.2) &&& (w3 ^^^ (-1))), w2.2))))
set_option maxRecDepth 20000 in
theorem S_152 {d : Nat} {S : ST} {r} (hr : F_152 S = some r) : Cal XC (d + 6) 152 [.ref 0] S (RXx vJ r) := by
  unfold F_152 at hr
  refine cal_go 0 rfl ?_
  refine go_run mm_152 1 (pc' := 1) (ls' := [some (.ref 0)]) (st' := [.ref 0]) (S' := S) rfl ?_
  rcases ox_some hr with ⟨E9, S9, hw1, rfl⟩ | ⟨w1, w1s, hw1, hr⟩
  · exact go_cvX mm_152 rfl (h := 0) (As := []) (rest := []) (nl := 1) rfl rfl (show cvOK 152 1 155 174 0 1 10 = true by decide +kernel) rfl rfl rfl (S_174 hw1) (KX_E ⟨rfl, rfl, rfl⟩)
  refine go_cvX mm_152 rfl (h := 0) (As := []) (rest := []) (nl := 1) rfl rfl (show cvOK 152 1 155 174 0 1 10 = true by decide +kernel) rfl rfl rfl (S_174 hw1) (KX_R ?_)
  show Go XC (d + 6) 152 0 4 [some (.ref 0)] [] w1s (RXx vJ r)
  refine go_run mm_152 2 (pc' := 8) (ls' := [some (.ref 0)]) (st' := [.ref 30]) (S' := w1s) rfl ?_
  obtain ⟨w2, hw2, hr⟩ := ob_some hr
  refine go_cv mm_152 (h := 30) (As := []) (rest := []) (nl := 2) rfl rfl (show cvOK 152 8 196 66 0 2 6 = true by decide +kernel) rfl rfl rfl (S_66 hw2) (KP_V ?_)
  show Go XC (d + 6) 152 0 11 [some (.ref 0)] [] w2.2 (RXx vJ r)
  refine go_run mm_152 2 (pc' := 15) (ls' := [some (.ref 0)]) (st' := [.ref 21]) (S' := w2.2) rfl ?_
  refine go_cv mm_152 (h := 21) (As := []) (rest := []) (nl := 1) rfl rfl (show cvOK 152 15 274 21 0 1 3 = true by decide +kernel) rfl rfl rfl (S_21 (ltB_ok rfl) rfl) (KP_V ?_)
  show Go XC (d + 6) 152 0 18 [some (.ref 0)] [.long (F_21 21 w2.2)] w2.2 (RXx vJ r)
  refine go_run mm_152 3 (pc' := 23) (ls' := [some (.ref 0)]) (st' := [.int (-1), .ref 46, .long (F_21 21 w2.2)]) (S' := w2.2) rfl ?_
  obtain ⟨w3, hw3, hr⟩ := ob_some hr
  refine go_cv mm_152 (h := 46) (As := [.int (-1)]) (rest := [.long (F_21 21 w2.2)]) (nl := 5) rfl rfl (show cvOK 152 23 277 108 1 5 9 = true by decide +kernel) rfl rfl rfl (S_108 hw3) (KP_V ?_)
  show Go XC (d + 6) 152 0 26 [some (.ref 0)] [.long w3, .long (F_21 21 w2.2)] w2.2 (RXx vJ r)
  refine go_run mm_152 3 (pc' := 31) (ls' := [some (.ref 0)]) (st' := [.long ((F_21 21 w2.2) &&& (w3 ^^^ (-1)))]) (S' := w2.2) rfl ?_
  cases hr
  exact go_lreturn mm_152 rfl rfl ⟨rfl, rfl, rfl⟩

theorem mm_153 : mtG 153 = some (mi_153, 11, ft_153) := rfl
def F_153 (v1 : Int32) (S : ST) : Option ((String ⊕ Int32) × ST) := ox (F_174 S) (fun w1 w1s => ox (F_175 v1 (w1s.1 21 0) w1s) (fun w2 w2s => ob (F_66 w2s) (fun w3 => ob (F_109 v1 w3.2) (fun w4 => some (.inr w4, w3.2)))))
set_option maxRecDepth 20000 in
theorem S_153 {d : Nat} {S : ST} {v1 : Int32} {r} (hr : F_153 v1 S = some r) : Cal XC (d + 6) 153 [.ref 0, .int v1] S (RXx vI r) := by
  unfold F_153 at hr
  refine cal_go 0 rfl ?_
  refine go_run mm_153 1 (pc' := 1) (ls' := [some (.ref 0), some (.int v1)]) (st' := [.ref 0]) (S' := S) rfl ?_
  rcases ox_some hr with ⟨E9, S9, hw1, rfl⟩ | ⟨w1, w1s, hw1, hr⟩
  · exact go_cvX mm_153 rfl (h := 0) (As := []) (rest := []) (nl := 1) rfl rfl (show cvOK 153 1 155 174 0 1 10 = true by decide +kernel) rfl rfl rfl (S_174 hw1) (KX_E ⟨rfl, rfl, rfl⟩)
  refine go_cvX mm_153 rfl (h := 0) (As := []) (rest := []) (nl := 1) rfl rfl (show cvOK 153 1 155 174 0 1 10 = true by decide +kernel) rfl rfl rfl (S_174 hw1) (KX_R ?_)
  show Go XC (d + 6) 153 0 4 [some (.ref 0), some (.int v1)] [] w1s (RXx vI r)
  refine go_run mm_153 4 (pc' := 12) (ls' := [some (.ref 0), some (.int v1)]) (st' := [.int (w1s.1 21 0), .int v1]) (S' := w1s) rfl ?_
  rcases ox_some hr with ⟨E9, S9, hw2, rfl⟩ | ⟨w2, w2s, hw2, hr⟩
  · exact go_csX mm_153 rfl (av := [.int v1, .int (w1s.1 21 0)]) (rest := []) (nl := 2) rfl (show csX 153 12 158 175 2 2 = true by decide +kernel) rfl rfl rfl (S_175 hw2) (KX_E ⟨rfl, rfl, rfl⟩)
  refine go_csX mm_153 rfl (av := [.int v1, .int (w1s.1 21 0)]) (rest := []) (nl := 2) rfl (show csX 153 12 158 175 2 2 = true by decide +kernel) rfl rfl rfl (S_175 hw2) (KX_R ?_)
  show Go XC (d + 6) 153 0 15 [some (.ref 0), some (.int v1)] [] w2s (RXx vI r)
  refine go_run mm_153 2 (pc' := 19) (ls' := [some (.ref 0), some (.int v1)]) (st' := [.ref 30]) (S' := w2s) rfl ?_
  obtain ⟨w3, hw3, hr⟩ := ob_some hr
  refine go_cv mm_153 (h := 30) (As := []) (rest := []) (nl := 2) rfl rfl (show cvOK 153 19 196 66 0 2 6 = true by decide +kernel) rfl rfl rfl (S_66 hw3) (KP_V ?_)
  show Go XC (d + 6) 153 0 22 [some (.ref 0), some (.int v1)] [] w3.2 (RXx vI r)
  refine go_run mm_153 3 (pc' := 27) (ls' := [some (.ref 0), some (.int v1)]) (st' := [.int v1, .ref 46]) (S' := w3.2) rfl ?_
  obtain ⟨w4, hw4, hr⟩ := ob_some hr
  refine go_cv mm_153 (h := 46) (As := [.int v1]) (rest := []) (nl := 4) rfl rfl (show cvOK 153 27 282 109 1 4 9 = true by decide +kernel) rfl rfl rfl (S_109 hw4) (KP_V ?_)
  show Go XC (d + 6) 153 0 30 [some (.ref 0), some (.int v1)] [.int w4] w3.2 (RXx vI r)
  cases hr
  exact go_ireturn mm_153 rfl rfl ⟨rfl, rfl, rfl⟩

theorem mm_154 : mtG 154 = some (mi_154, 11, ft_154) := rfl
def F_154 (S : ST) : Option ((String ⊕ Int32) × ST) := ox (F_174 S) (fun w1 w1s => ob (F_66 w1s) (fun w2 => ob (F_110 w2.2) (fun w3 => some (.inr w3, w2.2))))
set_option maxRecDepth 20000 in
theorem S_154 {d : Nat} {S : ST} {r} (hr : F_154 S = some r) : Cal XC (d + 6) 154 [.ref 0] S (RXx vI r) := by
  unfold F_154 at hr
  refine cal_go 0 rfl ?_
  refine go_run mm_154 1 (pc' := 1) (ls' := [some (.ref 0)]) (st' := [.ref 0]) (S' := S) rfl ?_
  rcases ox_some hr with ⟨E9, S9, hw1, rfl⟩ | ⟨w1, w1s, hw1, hr⟩
  · exact go_cvX mm_154 rfl (h := 0) (As := []) (rest := []) (nl := 1) rfl rfl (show cvOK 154 1 155 174 0 1 10 = true by decide +kernel) rfl rfl rfl (S_174 hw1) (KX_E ⟨rfl, rfl, rfl⟩)
  refine go_cvX mm_154 rfl (h := 0) (As := []) (rest := []) (nl := 1) rfl rfl (show cvOK 154 1 155 174 0 1 10 = true by decide +kernel) rfl rfl rfl (S_174 hw1) (KX_R ?_)
  show Go XC (d + 6) 154 0 4 [some (.ref 0)] [] w1s (RXx vI r)
  refine go_run mm_154 2 (pc' := 8) (ls' := [some (.ref 0)]) (st' := [.ref 30]) (S' := w1s) rfl ?_
  obtain ⟨w2, hw2, hr⟩ := ob_some hr
  refine go_cv mm_154 (h := 30) (As := []) (rest := []) (nl := 2) rfl rfl (show cvOK 154 8 196 66 0 2 6 = true by decide +kernel) rfl rfl rfl (S_66 hw2) (KP_V ?_)
  show Go XC (d + 6) 154 0 11 [some (.ref 0)] [] w2.2 (RXx vI r)
  refine go_run mm_154 2 (pc' := 15) (ls' := [some (.ref 0)]) (st' := [.ref 46]) (S' := w2.2) rfl ?_
  obtain ⟨w3, hw3, hr⟩ := ob_some hr
  refine go_cv mm_154 (h := 46) (As := []) (rest := []) (nl := 5) rfl rfl (show cvOK 154 15 285 110 0 5 9 = true by decide +kernel) rfl rfl rfl (S_110 hw3) (KP_V ?_)
  show Go XC (d + 6) 154 0 18 [some (.ref 0)] [.int w3] w2.2 (RXx vI r)
  cases hr
  exact go_ireturn mm_154 rfl rfl ⟨rfl, rfl, rfl⟩

theorem mm_155 : mtG 155 = some (mi_155, 11, ft_155) := rfl
def F_155 (S : ST) : Option ((String ⊕ Int32) × ST) := ox (F_174 S) (fun w1 w1s => ob (F_66 w1s) (fun w2 => ob (F_108 (-1) w2.2) (fun w3 => ob (F_111 ((F_21 21 w2.2) &&& (w3 ^^^ (-1))) w2.2) (fun w4 => some (.inr w4, w2.2)))))
set_option maxRecDepth 20000 in
theorem S_155 {d : Nat} {S : ST} {r} (hr : F_155 S = some r) : Cal XC (d + 6) 155 [.ref 0] S (RXx vI r) := by
  unfold F_155 at hr
  refine cal_go 0 rfl ?_
  refine go_run mm_155 1 (pc' := 1) (ls' := [some (.ref 0)]) (st' := [.ref 0]) (S' := S) rfl ?_
  rcases ox_some hr with ⟨E9, S9, hw1, rfl⟩ | ⟨w1, w1s, hw1, hr⟩
  · exact go_cvX mm_155 rfl (h := 0) (As := []) (rest := []) (nl := 1) rfl rfl (show cvOK 155 1 155 174 0 1 10 = true by decide +kernel) rfl rfl rfl (S_174 hw1) (KX_E ⟨rfl, rfl, rfl⟩)
  refine go_cvX mm_155 rfl (h := 0) (As := []) (rest := []) (nl := 1) rfl rfl (show cvOK 155 1 155 174 0 1 10 = true by decide +kernel) rfl rfl rfl (S_174 hw1) (KX_R ?_)
  show Go XC (d + 6) 155 0 4 [some (.ref 0)] [] w1s (RXx vI r)
  refine go_run mm_155 2 (pc' := 8) (ls' := [some (.ref 0)]) (st' := [.ref 30]) (S' := w1s) rfl ?_
  obtain ⟨w2, hw2, hr⟩ := ob_some hr
  refine go_cv mm_155 (h := 30) (As := []) (rest := []) (nl := 2) rfl rfl (show cvOK 155 8 196 66 0 2 6 = true by decide +kernel) rfl rfl rfl (S_66 hw2) (KP_V ?_)
  show Go XC (d + 6) 155 0 11 [some (.ref 0)] [] w2.2 (RXx vI r)
  refine go_run mm_155 4 (pc' := 19) (ls' := [some (.ref 0)]) (st' := [.ref 21, .ref 46]) (S' := w2.2) rfl ?_
  refine go_cv mm_155 (h := 21) (As := []) (rest := [.ref 46]) (nl := 1) rfl rfl (show cvOK 155 19 274 21 0 1 3 = true by decide +kernel) rfl rfl rfl (S_21 (ltB_ok rfl) rfl) (KP_V ?_)
  show Go XC (d + 6) 155 0 22 [some (.ref 0)] [.long (F_21 21 w2.2), .ref 46] w2.2 (RXx vI r)
  refine go_run mm_155 3 (pc' := 27) (ls' := [some (.ref 0)]) (st' := [.int (-1), .ref 46, .long (F_21 21 w2.2), .ref 46]) (S' := w2.2) rfl ?_
  obtain ⟨w3, hw3, hr⟩ := ob_some hr
  refine go_cv mm_155 (h := 46) (As := [.int (-1)]) (rest := [.long (F_21 21 w2.2), .ref 46]) (nl := 5) rfl rfl (show cvOK 155 27 277 108 1 5 9 = true by decide +kernel) rfl rfl rfl (S_108 hw3) (KP_V ?_)
  show Go XC (d + 6) 155 0 30 [some (.ref 0)] [.long w3, .long (F_21 21 w2.2), .ref 46] w2.2 (RXx vI r)
  refine go_run mm_155 3 (pc' := 35) (ls' := [some (.ref 0)]) (st' := [.long ((F_21 21 w2.2) &&& (w3 ^^^ (-1))), .ref 46]) (S' := w2.2) rfl ?_
  obtain ⟨w4, hw4, hr⟩ := ob_some hr
  refine go_cv mm_155 (h := 46) (As := [.long ((F_21 21 w2.2) &&& (w3 ^^^ (-1)))]) (rest := []) (nl := 5) rfl rfl (show cvOK 155 35 288 111 1 5 9 = true by decide +kernel) rfl rfl rfl (S_111 hw4) (KP_V ?_)
  show Go XC (d + 6) 155 0 38 [some (.ref 0)] [.int w4] w2.2 (RXx vI r)
  cases hr
  exact go_ireturn mm_155 rfl rfl ⟨rfl, rfl, rfl⟩

theorem mm_156 : mtG 156 = some (mi_156, 11, ft_156) := rfl
def F_156 (S : ST) : Option ((String ⊕ Int32) × ST) := ox (F_174 S) (fun w1 w1s => ob (F_66 w1s) (fun w2 => ob (F_112 w2.2) (fun w3 => some (.inr w3, w2.2))))
set_option maxRecDepth 20000 in
theorem S_156 {d : Nat} {S : ST} {r} (hr : F_156 S = some r) : Cal XC (d + 6) 156 [.ref 0] S (RXx vI r) := by
  unfold F_156 at hr
  refine cal_go 0 rfl ?_
  refine go_run mm_156 1 (pc' := 1) (ls' := [some (.ref 0)]) (st' := [.ref 0]) (S' := S) rfl ?_
  rcases ox_some hr with ⟨E9, S9, hw1, rfl⟩ | ⟨w1, w1s, hw1, hr⟩
  · exact go_cvX mm_156 rfl (h := 0) (As := []) (rest := []) (nl := 1) rfl rfl (show cvOK 156 1 155 174 0 1 10 = true by decide +kernel) rfl rfl rfl (S_174 hw1) (KX_E ⟨rfl, rfl, rfl⟩)
  refine go_cvX mm_156 rfl (h := 0) (As := []) (rest := []) (nl := 1) rfl rfl (show cvOK 156 1 155 174 0 1 10 = true by decide +kernel) rfl rfl rfl (S_174 hw1) (KX_R ?_)
  show Go XC (d + 6) 156 0 4 [some (.ref 0)] [] w1s (RXx vI r)
  refine go_run mm_156 2 (pc' := 8) (ls' := [some (.ref 0)]) (st' := [.ref 30]) (S' := w1s) rfl ?_
  obtain ⟨w2, hw2, hr⟩ := ob_some hr
  refine go_cv mm_156 (h := 30) (As := []) (rest := []) (nl := 2) rfl rfl (show cvOK 156 8 196 66 0 2 6 = true by decide +kernel) rfl rfl rfl (S_66 hw2) (KP_V ?_)
  show Go XC (d + 6) 156 0 11 [some (.ref 0)] [] w2.2 (RXx vI r)
  refine go_run mm_156 2 (pc' := 15) (ls' := [some (.ref 0)]) (st' := [.ref 46]) (S' := w2.2) rfl ?_
  obtain ⟨w3, hw3, hr⟩ := ob_some hr
  refine go_cv mm_156 (h := 46) (As := []) (rest := []) (nl := 5) rfl rfl (show cvOK 156 15 292 112 0 5 9 = true by decide +kernel) rfl rfl rfl (S_112 hw3) (KP_V ?_)
  show Go XC (d + 6) 156 0 18 [some (.ref 0)] [.int w3] w2.2 (RXx vI r)
  cases hr
  exact go_ireturn mm_156 rfl rfl ⟨rfl, rfl, rfl⟩

theorem mm_157 : mtG 157 = some (mi_157, 11, ft_157) := rfl
def F_157 (S : ST) : Int32 := S.1 3 2
set_option maxRecDepth 20000 in
theorem S_157 {d : Nat} {S : ST} {r} (hr : F_157 S = r) : Cal XC d 157 [.ref 0] S (RV (vI r) S) := by
  unfold F_157 at hr
  refine cal_go 0 rfl ?_
  refine go_run mm_157 3 (pc' := 7) (ls' := [some (.ref 0)]) (st' := [.int (S.1 3 2)]) (S' := S) rfl ?_
  cases hr
  exact go_ireturn mm_157 rfl rfl ⟨rfl, rfl, rfl⟩

theorem mm_158 : mtG 158 = some (mi_158, 11, ft_158) := rfl
def F_158 (v1 : Int32) (S : ST) : Option ((String ⊕ Int32) × ST) := ox (F_174 S) (fun w1 w1s => ox (F_175 v1 (w1s.1 3 2) w1s) (fun w2 w2s => ob (F_105 v1 w2s) (fun w3 => some (.inr w3, w2s))))
set_option maxRecDepth 20000 in
theorem S_158 {d : Nat} {S : ST} {v1 : Int32} {r} (hr : F_158 v1 S = some r) : Cal XC (d + 2) 158 [.ref 0, .int v1] S (RXx vI r) := by
  unfold F_158 at hr
  refine cal_go 0 rfl ?_
  refine go_run mm_158 1 (pc' := 1) (ls' := [some (.ref 0), some (.int v1)]) (st' := [.ref 0]) (S' := S) rfl ?_
  rcases ox_some hr with ⟨E9, S9, hw1, rfl⟩ | ⟨w1, w1s, hw1, hr⟩
  · exact go_cvX mm_158 rfl (h := 0) (As := []) (rest := []) (nl := 1) rfl rfl (show cvOK 158 1 155 174 0 1 10 = true by decide +kernel) rfl rfl rfl (S_174 hw1) (KX_E ⟨rfl, rfl, rfl⟩)
  refine go_cvX mm_158 rfl (h := 0) (As := []) (rest := []) (nl := 1) rfl rfl (show cvOK 158 1 155 174 0 1 10 = true by decide +kernel) rfl rfl rfl (S_174 hw1) (KX_R ?_)
  show Go XC (d + 2) 158 0 4 [some (.ref 0), some (.int v1)] [] w1s (RXx vI r)
  refine go_run mm_158 4 (pc' := 12) (ls' := [some (.ref 0), some (.int v1)]) (st' := [.int (w1s.1 3 2), .int v1]) (S' := w1s) rfl ?_
  rcases ox_some hr with ⟨E9, S9, hw2, rfl⟩ | ⟨w2, w2s, hw2, hr⟩
  · exact go_csX mm_158 rfl (av := [.int v1, .int (w1s.1 3 2)]) (rest := []) (nl := 2) rfl (show csX 158 12 158 175 2 2 = true by decide +kernel) rfl rfl rfl (S_175 hw2) (KX_E ⟨rfl, rfl, rfl⟩)
  refine go_csX mm_158 rfl (av := [.int v1, .int (w1s.1 3 2)]) (rest := []) (nl := 2) rfl (show csX 158 12 158 175 2 2 = true by decide +kernel) rfl rfl rfl (S_175 hw2) (KX_R ?_)
  show Go XC (d + 2) 158 0 15 [some (.ref 0), some (.int v1)] [] w2s (RXx vI r)
  refine go_run mm_158 3 (pc' := 20) (ls' := [some (.ref 0), some (.int v1)]) (st' := [.int v1, .ref 46]) (S' := w2s) rfl ?_
  obtain ⟨w3, hw3, hr⟩ := ob_some hr
  refine go_cv mm_158 (h := 46) (As := [.int v1]) (rest := []) (nl := 2) rfl rfl (show cvOK 158 20 298 105 1 2 9 = true by decide +kernel) rfl rfl rfl (S_105 hw3) (KP_V ?_)
  show Go XC (d + 2) 158 0 23 [some (.ref 0), some (.int v1)] [.int w3] w2s (RXx vI r)
  cases hr
  exact go_ireturn mm_158 rfl rfl ⟨rfl, rfl, rfl⟩

theorem mm_159 : mtG 159 = some (mi_159, 11, ft_159) := rfl
def F_159 (S : ST) : Option ((String ⊕ Int32) × ST) := ox (F_174 S) (fun w1 w1s => ob (F_66 w1s) (fun w2 => ob (F_108 (-1) w2.2) (fun w3 => ob (F_113 w3 w2.2) (fun w4 => some (.inr w4, w2.2)))))
set_option maxRecDepth 20000 in
theorem S_159 {d : Nat} {S : ST} {r} (hr : F_159 S = some r) : Cal XC (d + 6) 159 [.ref 0] S (RXx vI r) := by
  unfold F_159 at hr
  refine cal_go 0 rfl ?_
  refine go_run mm_159 1 (pc' := 1) (ls' := [some (.ref 0)]) (st' := [.ref 0]) (S' := S) rfl ?_
  rcases ox_some hr with ⟨E9, S9, hw1, rfl⟩ | ⟨w1, w1s, hw1, hr⟩
  · exact go_cvX mm_159 rfl (h := 0) (As := []) (rest := []) (nl := 1) rfl rfl (show cvOK 159 1 155 174 0 1 10 = true by decide +kernel) rfl rfl rfl (S_174 hw1) (KX_E ⟨rfl, rfl, rfl⟩)
  refine go_cvX mm_159 rfl (h := 0) (As := []) (rest := []) (nl := 1) rfl rfl (show cvOK 159 1 155 174 0 1 10 = true by decide +kernel) rfl rfl rfl (S_174 hw1) (KX_R ?_)
  show Go XC (d + 6) 159 0 4 [some (.ref 0)] [] w1s (RXx vI r)
  refine go_run mm_159 2 (pc' := 8) (ls' := [some (.ref 0)]) (st' := [.ref 30]) (S' := w1s) rfl ?_
  obtain ⟨w2, hw2, hr⟩ := ob_some hr
  refine go_cv mm_159 (h := 30) (As := []) (rest := []) (nl := 2) rfl rfl (show cvOK 159 8 196 66 0 2 6 = true by decide +kernel) rfl rfl rfl (S_66 hw2) (KP_V ?_)
  show Go XC (d + 6) 159 0 11 [some (.ref 0)] [] w2.2 (RXx vI r)
  refine go_run mm_159 5 (pc' := 20) (ls' := [some (.ref 0)]) (st' := [.int (-1), .ref 46, .ref 46]) (S' := w2.2) rfl ?_
  obtain ⟨w3, hw3, hr⟩ := ob_some hr
  refine go_cv mm_159 (h := 46) (As := [.int (-1)]) (rest := [.ref 46]) (nl := 5) rfl rfl (show cvOK 159 20 277 108 1 5 9 = true by decide +kernel) rfl rfl rfl (S_108 hw3) (KP_V ?_)
  show Go XC (d + 6) 159 0 23 [some (.ref 0)] [.long w3, .ref 46] w2.2 (RXx vI r)
  obtain ⟨w4, hw4, hr⟩ := ob_some hr
  refine go_cv mm_159 (h := 46) (As := [.long w3]) (rest := []) (nl := 6) rfl rfl (show cvOK 159 23 301 113 1 6 9 = true by decide +kernel) rfl rfl rfl (S_113 hw4) (KP_V ?_)
  show Go XC (d + 6) 159 0 26 [some (.ref 0)] [.int w4] w2.2 (RXx vI r)
  cases hr
  exact go_ireturn mm_159 rfl rfl ⟨rfl, rfl, rfl⟩

theorem mm_160 : mtG 160 = some (mi_160, 11, ft_160) := rfl
def F_160 (S : ST) : Option ((String ⊕ Int32) × ST) := ox (F_174 S) (fun w1 w1s => ob (F_66 w1s) (fun w2 => ob (F_114 w2.2) (fun w3 => some (.inr w3, w2.2))))
set_option maxRecDepth 20000 in
theorem S_160 {d : Nat} {S : ST} {r} (hr : F_160 S = some r) : Cal XC (d + 6) 160 [.ref 0] S (RXx vI r) := by
  unfold F_160 at hr
  refine cal_go 0 rfl ?_
  refine go_run mm_160 1 (pc' := 1) (ls' := [some (.ref 0)]) (st' := [.ref 0]) (S' := S) rfl ?_
  rcases ox_some hr with ⟨E9, S9, hw1, rfl⟩ | ⟨w1, w1s, hw1, hr⟩
  · exact go_cvX mm_160 rfl (h := 0) (As := []) (rest := []) (nl := 1) rfl rfl (show cvOK 160 1 155 174 0 1 10 = true by decide +kernel) rfl rfl rfl (S_174 hw1) (KX_E ⟨rfl, rfl, rfl⟩)
  refine go_cvX mm_160 rfl (h := 0) (As := []) (rest := []) (nl := 1) rfl rfl (show cvOK 160 1 155 174 0 1 10 = true by decide +kernel) rfl rfl rfl (S_174 hw1) (KX_R ?_)
  show Go XC (d + 6) 160 0 4 [some (.ref 0)] [] w1s (RXx vI r)
  refine go_run mm_160 2 (pc' := 8) (ls' := [some (.ref 0)]) (st' := [.ref 30]) (S' := w1s) rfl ?_
  obtain ⟨w2, hw2, hr⟩ := ob_some hr
  refine go_cv mm_160 (h := 30) (As := []) (rest := []) (nl := 2) rfl rfl (show cvOK 160 8 196 66 0 2 6 = true by decide +kernel) rfl rfl rfl (S_66 hw2) (KP_V ?_)
  show Go XC (d + 6) 160 0 11 [some (.ref 0)] [] w2.2 (RXx vI r)
  refine go_run mm_160 2 (pc' := 15) (ls' := [some (.ref 0)]) (st' := [.ref 46]) (S' := w2.2) rfl ?_
  obtain ⟨w3, hw3, hr⟩ := ob_some hr
  refine go_cv mm_160 (h := 46) (As := []) (rest := []) (nl := 6) rfl rfl (show cvOK 160 15 304 114 0 6 9 = true by decide +kernel) rfl rfl rfl (S_114 hw3) (KP_V ?_)
  show Go XC (d + 6) 160 0 18 [some (.ref 0)] [.int w3] w2.2 (RXx vI r)
  cases hr
  exact go_ireturn mm_160 rfl rfl ⟨rfl, rfl, rfl⟩

theorem mm_181 : mtG 181 = some (mi_181, 11, ft_181) := rfl
def F_181 (v1 : Int32) (v2 : Int32) (v3 : Int64) (S : ST) : Option Int32 := ob (F_18 21 v1 v2 S) (fun w1 => if w1 = (-1) then (some 32) else (ob (F_59 3 v1 v2 S) (fun w2 => if w2 = true then (some 71) else (ob (F_64 3 v1 v2 S) (fun w3 => if w3 = true then (some 84) else (ob (F_51 3 v1 v2 S) (fun w4 => if w4 = true then (some 86) else (some (if (F_177 v3 w1) = true then 43 else 45)))))))))
set_option maxRecDepth 20000 in
theorem S_181 {d : Nat} {S : ST} {v1 : Int32} {v2 : Int32} {v3 : Int64} {r} (hr : F_181 v1 v2 v3 S = some r) : Cal XC (d + 1) 181 [.ref 0, .int v1, .int v2, .long v3] S (RV (vI r) S) := by
  unfold F_181 at hr
  refine cal_go 1 rfl ?_
  refine go_run mm_181 4 (pc' := 6) (ls' := [some (.ref 0), some (.int v1), some (.int v2), some (.long v3), none, none]) (st' := [.int v2, .int v1, .ref 21]) (S' := S) rfl ?_
  obtain ⟨w1, hw1, hr⟩ := ob_some hr
  refine go_cv mm_181 (h := 21) (As := [.int v1, .int v2]) (rest := []) (nl := 3) rfl rfl (show cvOK 181 6 188 18 2 3 3 = true by decide +kernel) rfl rfl rfl (S_18 (ltB_ok rfl) hw1) (KP_V ?_)
  show Go XC (d + 1) 181 0 9 [some (.ref 0), some (.int v1), some (.int v2), some (.long v3), none, none] [.int w1] S (RV (vI r) S)
  refine go_run mm_181 3 (pc' := 14) (ls' := [some (.ref 0), some (.int v1), some (.int v2), some (.long v3), none, some (.int w1)]) (st' := [.int (-1), .int w1]) (S' := S) rfl ?_
  refine go_if2 mm_181 rfl (p1 := 17) (p2 := 20) rfl (fun (hc1 : w1 = (-1)) => ?_) (fun (hc1 : ¬ w1 = (-1)) => ?_)
  · rw [if_pos hc1] at hr
    refine go_run mm_181 1 (pc' := 19) (ls' := [some (.ref 0), some (.int v1), some (.int v2), some (.long v3), none, some (.int w1)]) (st' := [.int 32]) (S' := S) rfl ?_
    cases hr
    exact go_ireturn mm_181 rfl rfl ⟨rfl, rfl, rfl⟩
  · rw [if_neg hc1] at hr
    refine go_run mm_181 4 (pc' := 26) (ls' := [some (.ref 0), some (.int v1), some (.int v2), some (.long v3), none, some (.int w1)]) (st' := [.int v2, .int v1, .ref 3]) (S' := S) rfl ?_
    obtain ⟨w2, hw2, hr⟩ := ob_some hr
    refine go_cv mm_181 (h := 3) (As := [.int v1, .int v2]) (rest := []) (nl := 4) rfl rfl (show cvOK 181 26 384 59 2 4 5 = true by decide +kernel) rfl rfl rfl (S_59 (plB_ok rfl) hw2) (KP_V ?_)
    show Go XC (d + 1) 181 0 29 [some (.ref 0), some (.int v1), some (.int v2), some (.long v3), none, some (.int w1)] [.int (b2i w2)] S (RV (vI r) S)
    refine go_ifb mm_181 rfl (p1 := 32) (p2 := 35) rfl (fun (hc2 : w2 = true) => ?_) (fun (hc2 : w2 = false) => ?_)
    · rw [if_pos hc2] at hr
      refine go_run mm_181 1 (pc' := 34) (ls' := [some (.ref 0), some (.int v1), some (.int v2), some (.long v3), none, some (.int w1)]) (st' := [.int 71]) (S' := S) rfl ?_
      cases hr
      exact go_ireturn mm_181 rfl rfl ⟨rfl, rfl, rfl⟩
    · rw [if_neg (bf hc2)] at hr
      refine go_run mm_181 4 (pc' := 41) (ls' := [some (.ref 0), some (.int v1), some (.int v2), some (.long v3), none, some (.int w1)]) (st' := [.int v2, .int v1, .ref 3]) (S' := S) rfl ?_
      obtain ⟨w3, hw3, hr⟩ := ob_some hr
      refine go_cv mm_181 (h := 3) (As := [.int v1, .int v2]) (rest := []) (nl := 4) rfl rfl (show cvOK 181 41 388 64 2 4 5 = true by decide +kernel) rfl rfl rfl (S_64 (plB_ok rfl) hw3) (KP_V ?_)
      show Go XC (d + 1) 181 0 44 [some (.ref 0), some (.int v1), some (.int v2), some (.long v3), none, some (.int w1)] [.int (b2i w3)] S (RV (vI r) S)
      refine go_ifb mm_181 rfl (p1 := 47) (p2 := 50) rfl (fun (hc3 : w3 = true) => ?_) (fun (hc3 : w3 = false) => ?_)
      · rw [if_pos hc3] at hr
        refine go_run mm_181 1 (pc' := 49) (ls' := [some (.ref 0), some (.int v1), some (.int v2), some (.long v3), none, some (.int w1)]) (st' := [.int 84]) (S' := S) rfl ?_
        cases hr
        exact go_ireturn mm_181 rfl rfl ⟨rfl, rfl, rfl⟩
      · rw [if_neg (bf hc3)] at hr
        refine go_run mm_181 4 (pc' := 56) (ls' := [some (.ref 0), some (.int v1), some (.int v2), some (.long v3), none, some (.int w1)]) (st' := [.int v2, .int v1, .ref 3]) (S' := S) rfl ?_
        obtain ⟨w4, hw4, hr⟩ := ob_some hr
        refine go_cv mm_181 (h := 3) (As := [.int v1, .int v2]) (rest := []) (nl := 4) rfl rfl (show cvOK 181 56 391 51 2 4 5 = true by decide +kernel) rfl rfl rfl (S_51 (plB_ok rfl) hw4) (KP_V ?_)
        show Go XC (d + 1) 181 0 59 [some (.ref 0), some (.int v1), some (.int v2), some (.long v3), none, some (.int w1)] [.int (b2i w4)] S (RV (vI r) S)
        refine go_ifb mm_181 rfl (p1 := 62) (p2 := 65) rfl (fun (hc4 : w4 = true) => ?_) (fun (hc4 : w4 = false) => ?_)
        · rw [if_pos hc4] at hr
          refine go_run mm_181 1 (pc' := 64) (ls' := [some (.ref 0), some (.int v1), some (.int v2), some (.long v3), none, some (.int w1)]) (st' := [.int 86]) (S' := S) rfl ?_
          cases hr
          exact go_ireturn mm_181 rfl rfl ⟨rfl, rfl, rfl⟩
        · rw [if_neg (bf hc4)] at hr
          refine go_run mm_181 2 (pc' := 68) (ls' := [some (.ref 0), some (.int v1), some (.int v2), some (.long v3), none, some (.int w1)]) (st' := [.int w1, .long v3]) (S' := S) rfl ?_
          refine go_cs mm_181 (av := [.long v3, .int w1]) (rest := []) (nl := 3) rfl (show csOK 181 68 203 177 2 3 = true by decide +kernel) rfl rfl rfl (S_177 rfl) (KP_V ?_)
          show Go XC (d + 1) 181 0 71 [some (.ref 0), some (.int v1), some (.int v2), some (.long v3), none, some (.int w1)] [.int (b2i (F_177 v3 w1))] S (RV (vI r) S)
          have j6 : Go XC (d + 1) 181 0 81 [some (.ref 0), some (.int v1), some (.int v2), some (.long v3), none, some (.int w1)] [.int (if (F_177 v3 w1) = true then 43 else 45)] S (RV (vI r) S) := by
            cases hr
            exact go_ireturn mm_181 rfl rfl ⟨rfl, rfl, rfl⟩
          refine go_ifb mm_181 rfl (p1 := 74) (p2 := 79) rfl (fun (hc5 : (F_177 v3 w1) = true) => ?_) (fun (hc5 : (F_177 v3 w1) = false) => ?_)
          · refine go_run mm_181 2 (pc' := 81) (ls' := [some (.ref 0), some (.int v1), some (.int v2), some (.long v3), none, some (.int w1)]) (st' := [.int 43]) (S' := S) rfl ?_
            have e : ((if (F_177 v3 w1) = true then 43 else 45) : Int32) = 43 := by simp [b2i, hc5]
            rw [e] at j6
            exact j6
          · refine go_run mm_181 1 (pc' := 81) (ls' := [some (.ref 0), some (.int v1), some (.int v2), some (.long v3), none, some (.int w1)]) (st' := [.int 45]) (S' := S) rfl ?_
            have e : ((if (F_177 v3 w1) = true then 43 else 45) : Int32) = 45 := by simp [b2i, hc5]
            rw [e] at j6
            exact j6

theorem mm_161 : mtG 161 = some (mi_161, 11, ft_161) := rfl
def L_161_33 (v1 : Int32) (p33_2 : Int64) (a33 : Int32 × Int32 × ST) : Option ((Int32 × Int32 × ST) ⊕ (Int32 × Int32 × ST)) := if a33.2.1 < 16 then (ob (F_181 a33.2.1 v1 p33_2 a33.2.2) (fun w5 => ck (ibd a33.2.1 16) (sbn ((wI a33.2.2 139 (Int32.toNatClampNeg a33.2.1) w5)) (fun s3 => ob (F_18 21 a33.2.1 v1 s3) (fun w6 => if w6 = (-1) then (some (.inl (a33.1, a33.2.1 + 1, s3))) else (some (.inl (a33.1 + 1, a33.2.1 + 1, s3)))))))) else (some (.inr (a33.1, a33.2.1, a33.2.2)))
set_option maxRecDepth 20000 in
theorem LS_161_33 {d : Nat} {R : RT} {v1 : Int32} {p33_2 : Int64} {a33 : Int32 × Int32 × ST} {r9} (hr : L_161_33 v1 p33_2 a33 = some r9) (hL : ∀ a9, r9 = .inl a9 → (fun a33 => Go XC (d + 6) 161 0 33 [some (.ref 0), some (.int v1), some (.long p33_2), none, some (.int a33.1), some (.int a33.2.1)] [] a33.2.2 R) a9) (hR : ∀ b9, r9 = .inr b9 → (fun e33 => Go XC (d + 6) 161 0 78 [some (.ref 0), some (.int v1), some (.long p33_2), none, some (.int e33.1), some (.int e33.2.1)] [] e33.2.2 R) b9) : Go XC (d + 6) 161 0 33 [some (.ref 0), some (.int v1), some (.long p33_2), none, some (.int a33.1), some (.int a33.2.1)] [] a33.2.2 R := by
  unfold L_161_33 at hr
  refine go_run mm_161 2 (pc' := 37) (ls' := [some (.ref 0), some (.int v1), some (.long p33_2), none, some (.int a33.1), some (.int a33.2.1)]) (st' := [.int 16, .int a33.2.1]) (S' := a33.2.2) rfl ?_
  refine go_if2 mm_161 rfl (p1 := 40) (p2 := 78) rfl (fun (hc1 : a33.2.1 < 16) => ?_) (fun (hc1 : ¬ a33.2.1 < 16) => ?_)
  · rw [if_pos hc1] at hr
    refine go_run mm_161 7 (pc' := 51) (ls' := [some (.ref 0), some (.int v1), some (.long p33_2), none, some (.int a33.1), some (.int a33.2.1)]) (st' := [.long p33_2, .int v1, .int a33.2.1, .ref 0, .int a33.2.1, .ref 139]) (S' := a33.2.2) rfl ?_
    obtain ⟨w5, hw5, hr⟩ := ob_some hr
    refine go_cv mm_161 (h := 0) (As := [.int a33.2.1, .int v1, .long p33_2]) (rest := [.int a33.2.1, .ref 139]) (nl := 6) rfl rfl (show cvOK 161 51 307 181 3 6 10 = true by decide +kernel) rfl rfl rfl (S_181 hw5) (KP_V ?_)
    show Go XC (d + 6) 161 0 54 [some (.ref 0), some (.int v1), some (.long p33_2), none, some (.int a33.1), some (.int a33.2.1)] [.int w5, .int a33.2.1, .ref 139] a33.2.2 R
    obtain ⟨hb2, hr⟩ := ck_some hr
    refine go_iastore mm_161 (q := (Int32.toNatClampNeg a33.2.1)) rfl rfl rfl (ibd_ok hb2) ?_
    show Go XC (d + 6) 161 0 55 [some (.ref 0), some (.int v1), some (.long p33_2), none, some (.int a33.1), some (.int a33.2.1)] [] (wI a33.2.2 139 (Int32.toNatClampNeg a33.2.1) w5) R
    obtain ⟨s3, es3, hr⟩ := sbn_some hr
    rw [← es3]
    refine go_run mm_161 4 (pc' := 62) (ls' := [some (.ref 0), some (.int v1), some (.long p33_2), none, some (.int a33.1), some (.int a33.2.1)]) (st' := [.int v1, .int a33.2.1, .ref 21]) (S' := s3) rfl ?_
    obtain ⟨w6, hw6, hr⟩ := ob_some hr
    refine go_cv mm_161 (h := 21) (As := [.int a33.2.1, .int v1]) (rest := []) (nl := 3) rfl rfl (show cvOK 161 62 188 18 2 3 3 = true by decide +kernel) rfl rfl rfl (S_18 (ltB_ok rfl) hw6) (KP_V ?_)
    show Go XC (d + 6) 161 0 65 [some (.ref 0), some (.int v1), some (.long p33_2), none, some (.int a33.1), some (.int a33.2.1)] [.int w6] s3 R
    refine go_run mm_161 1 (pc' := 66) (ls' := [some (.ref 0), some (.int v1), some (.long p33_2), none, some (.int a33.1), some (.int a33.2.1)]) (st' := [.int (-1), .int w6]) (S' := s3) rfl ?_
    refine go_if2 mm_161 rfl (p1 := 72) (p2 := 69) rfl (fun (hc4 : w6 = (-1)) => ?_) (fun (hc4 : ¬ w6 = (-1)) => ?_)
    · rw [if_pos hc4] at hr
      refine go_run mm_161 2 (pc' := 33) (ls' := [some (.ref 0), some (.int v1), some (.long p33_2), none, some (.int a33.1), some (.int (a33.2.1 + 1))]) (st' := []) (S' := s3) rfl ?_
      cases hr
      have h9 := hL (a33.1, a33.2.1 + 1, s3) rfl
      dsimp only at h9
      exact Go.le h9 (by repeat first | exact True.intro | refine And.intro rfl ?_)
    · rw [if_neg hc4] at hr
      refine go_run mm_161 3 (pc' := 33) (ls' := [some (.ref 0), some (.int v1), some (.long p33_2), none, some (.int (a33.1 + 1)), some (.int (a33.2.1 + 1))]) (st' := []) (S' := s3) rfl ?_
      cases hr
      have h9 := hL (a33.1 + 1, a33.2.1 + 1, s3) rfl
      dsimp only at h9
      exact Go.le h9 (by repeat first | exact True.intro | refine And.intro rfl ?_)
  · rw [if_neg hc1] at hr
    cases hr
    have h9 := hR (a33.1, a33.2.1, a33.2.2) rfl
    dsimp only [Sum.elim_inl] at h9
    exact Go.le h9 (by repeat first | exact True.intro | refine And.intro rfl ?_)
def F_161 (v1 : Int32) (S : ST) : Option ((String ⊕ Int32) × ST) := ox (F_174 S) (fun w1 w1s => ox (F_176 v1 0 15 w1s) (fun w2 w2s => ob (F_66 w2s) (fun w3 => ob (F_108 (-1) w3.2) (fun w4 => ob (wh FU (L_161_33 v1 w4) (0, 0, w3.2)) (fun e33 => some (.inr e33.1, (wI e33.2.2 0 15 1)))))))
set_option maxRecDepth 20000 in
theorem S_161 {d : Nat} {S : ST} {v1 : Int32} {r} (hr : F_161 v1 S = some r) : Cal XC (d + 6) 161 [.ref 0, .int v1] S (RXx vI r) := by
  unfold F_161 at hr
  refine cal_go 4 rfl ?_
  refine go_run mm_161 1 (pc' := 1) (ls' := [some (.ref 0), some (.int v1), none, none, none, none]) (st' := [.ref 0]) (S' := S) rfl ?_
  rcases ox_some hr with ⟨E9, S9, hw1, rfl⟩ | ⟨w1, w1s, hw1, hr⟩
  · exact go_cvX mm_161 rfl (h := 0) (As := []) (rest := []) (nl := 1) rfl rfl (show cvOK 161 1 155 174 0 1 10 = true by decide +kernel) rfl rfl rfl (S_174 hw1) (KX_E ⟨rfl, rfl, rfl⟩)
  refine go_cvX mm_161 rfl (h := 0) (As := []) (rest := []) (nl := 1) rfl rfl (show cvOK 161 1 155 174 0 1 10 = true by decide +kernel) rfl rfl rfl (S_174 hw1) (KX_R ?_)
  show Go XC (d + 6) 161 0 4 [some (.ref 0), some (.int v1), none, none, none, none] [] w1s (RXx vI r)
  refine go_run mm_161 3 (pc' := 8) (ls' := [some (.ref 0), some (.int v1), none, none, none, none]) (st' := [.int 15, .int 0, .int v1]) (S' := w1s) rfl ?_
  rcases ox_some hr with ⟨E9, S9, hw2, rfl⟩ | ⟨w2, w2s, hw2, hr⟩
  · exact go_csX mm_161 rfl (av := [.int v1, .int 0, .int 15]) (rest := []) (nl := 3) rfl (show csX 161 8 224 176 3 3 = true by decide +kernel) rfl rfl rfl (S_176 hw2) (KX_E ⟨rfl, rfl, rfl⟩)
  refine go_csX mm_161 rfl (av := [.int v1, .int 0, .int 15]) (rest := []) (nl := 3) rfl (show csX 161 8 224 176 3 3 = true by decide +kernel) rfl rfl rfl (S_176 hw2) (KX_R ?_)
  show Go XC (d + 6) 161 0 11 [some (.ref 0), some (.int v1), none, none, none, none] [] w2s (RXx vI r)
  refine go_run mm_161 2 (pc' := 15) (ls' := [some (.ref 0), some (.int v1), none, none, none, none]) (st' := [.ref 30]) (S' := w2s) rfl ?_
  obtain ⟨w3, hw3, hr⟩ := ob_some hr
  refine go_cv mm_161 (h := 30) (As := []) (rest := []) (nl := 2) rfl rfl (show cvOK 161 15 196 66 0 2 6 = true by decide +kernel) rfl rfl rfl (S_66 hw3) (KP_V ?_)
  show Go XC (d + 6) 161 0 18 [some (.ref 0), some (.int v1), none, none, none, none] [] w3.2 (RXx vI r)
  refine go_run mm_161 3 (pc' := 23) (ls' := [some (.ref 0), some (.int v1), none, none, none, none]) (st' := [.int (-1), .ref 46]) (S' := w3.2) rfl ?_
  obtain ⟨w4, hw4, hr⟩ := ob_some hr
  refine go_cv mm_161 (h := 46) (As := [.int (-1)]) (rest := []) (nl := 5) rfl rfl (show cvOK 161 23 277 108 1 5 9 = true by decide +kernel) rfl rfl rfl (S_108 hw4) (KP_V ?_)
  show Go XC (d + 6) 161 0 26 [some (.ref 0), some (.int v1), none, none, none, none] [.long w4] w3.2 (RXx vI r)
  refine go_run mm_161 5 (pc' := 33) (ls' := [some (.ref 0), some (.int v1), some (.long w4), none, some (.int 0), some (.int 0)]) (st' := []) (S' := w3.2) rfl ?_
  obtain ⟨z33, he33, hr⟩ := ob_some hr
  refine Go.le (ls' := [some (.ref 0), some (.int v1), some (.long w4), none, some (.int 0), some (.int 0)]) ?_ (by repeat first | exact True.intro | refine And.intro rfl ?_)
  refine wh_go (P := fun a33 => Go XC (d + 6) 161 0 33 [some (.ref 0), some (.int v1), some (.long w4), none, some (.int a33.1), some (.int a33.2.1)] [] a33.2.2 (RXx vI r)) (K := fun e33 => Go XC (d + 6) 161 0 78 [some (.ref 0), some (.int v1), some (.long w4), none, some (.int e33.1), some (.int e33.2.1)] [] e33.2.2 (RXx vI r)) (fun a9 r9 h9 hL hR => LS_161_33 h9 hL hR) _ _ _ he33 ?_
  generalize z33 = e33 at hr
  show Go XC (d + 6) 161 0 78 [some (.ref 0), some (.int v1), some (.long w4), none, some (.int e33.1), some (.int e33.2.1)] [] e33.2.2 (RXx vI r)
  refine go_run mm_161 4 (pc' := 85) (ls' := [some (.ref 0), some (.int v1), some (.long w4), none, some (.int e33.1), some (.int e33.2.1)]) (st' := [.int e33.1]) (S' := (wI e33.2.2 0 15 1)) rfl ?_
  cases hr
  exact go_ireturn mm_161 rfl rfl ⟨rfl, rfl, rfl⟩

theorem mm_162 : mtG 162 = some (mi_162, 11, ft_162) := rfl
def F_162 (v1 : Int32) (S : ST) : Option ((String ⊕ Int32) × ST) := ox (F_175 v1 (if (S.1 0 15) = 0 then 0 else 16) S) (fun w1 w1s => ck (ibd v1 16) (some (.inr (w1s.1 139 (Int32.toNatClampNeg v1)), w1s)))
set_option maxRecDepth 20000 in
theorem S_162 {d : Nat} {S : ST} {v1 : Int32} {r} (hr : F_162 v1 S = some r) : Cal XC (d + 1) 162 [.ref 0, .int v1] S (RXx vI r) := by
  unfold F_162 at hr
  refine cal_go 0 rfl ?_
  refine go_run mm_162 3 (pc' := 5) (ls' := [some (.ref 0), some (.int v1)]) (st' := [.int (S.1 0 15), .int v1]) (S' := S) rfl ?_
  have j3 : Go XC (d + 1) 162 0 14 [some (.ref 0), some (.int v1)] [.int (if (S.1 0 15) = 0 then 0 else 16), .int v1] S (RXx vI r) := by
    rcases ox_some hr with ⟨E9, S9, hw1, rfl⟩ | ⟨w1, w1s, hw1, hr⟩
    · exact go_csX mm_162 rfl (av := [.int v1, .int (if (S.1 0 15) = 0 then 0 else 16)]) (rest := []) (nl := 2) rfl (show csX 162 14 158 175 2 2 = true by decide +kernel) rfl rfl rfl (S_175 hw1) (KX_E ⟨rfl, rfl, rfl⟩)
    refine go_csX mm_162 rfl (av := [.int v1, .int (if (S.1 0 15) = 0 then 0 else 16)]) (rest := []) (nl := 2) rfl (show csX 162 14 158 175 2 2 = true by decide +kernel) rfl rfl rfl (S_175 hw1) (KX_R ?_)
    show Go XC (d + 1) 162 0 17 [some (.ref 0), some (.int v1)] [] w1s (RXx vI r)
    refine go_run mm_162 3 (pc' := 22) (ls' := [some (.ref 0), some (.int v1)]) (st' := [.int v1, .ref 139]) (S' := w1s) rfl ?_
    obtain ⟨hb2, hr⟩ := ck_some hr
    refine go_iaload mm_162 (q := (Int32.toNatClampNeg v1)) rfl rfl rfl (ibd_ok hb2) ?_
    show Go XC (d + 1) 162 0 23 [some (.ref 0), some (.int v1)] [.int (w1s.1 139 (Int32.toNatClampNeg v1))] w1s (RXx vI r)
    cases hr
    exact go_ireturn mm_162 rfl rfl ⟨rfl, rfl, rfl⟩
  refine go_if0 mm_162 rfl (p1 := 13) (p2 := 8) rfl (fun (hc1 : (S.1 0 15) = 0) => ?_) (fun (hc1 : ¬ (S.1 0 15) = 0) => ?_)
  · refine go_run mm_162 1 (pc' := 14) (ls' := [some (.ref 0), some (.int v1)]) (st' := [.int 0, .int v1]) (S' := S) rfl ?_
    have e : ((if (S.1 0 15) = 0 then 0 else 16) : Int32) = 0 := by simp [b2i, hc1]
    rw [e] at j3
    exact j3
  · refine go_run mm_162 2 (pc' := 14) (ls' := [some (.ref 0), some (.int v1)]) (st' := [.int 16, .int v1]) (S' := S) rfl ?_
    have e : ((if (S.1 0 15) = 0 then 0 else 16) : Int32) = 16 := by simp [b2i, hc1]
    rw [e] at j3
    exact j3

theorem mm_163 : mtG 163 = some (mi_163, 11, ft_163) := rfl
def F_163 (v1 : Int32) (v2 : Int32) (S : ST) : Option ((String ⊕ Int32) × ST) := ox (F_174 S) (fun w1 w1s => ox (F_175 v1 (w1s.1 21 0) w1s) (fun w2 w2s => ox (F_176 v2 0 99 w2s) (fun w3 w3s => if (w3s.1 3 1) < 6 then (ob (F_9 3 w3s) (fun w4 => ob (F_19 21 v1 w4.2) (fun w5 => ob (F_20 21 v1 w4.2) (fun w6 => ob (F_55 3 w5 w6 v2 w4.2) (fun w7 => some (.inr ((w7.2.1 3 1) - 1), w7.2)))))) else (some (.inl "java/lang/IllegalStateException", w3s)))))
set_option maxRecDepth 20000 in
theorem S_163 {d : Nat} {S : ST} {v1 : Int32} {v2 : Int32} {r} (hr : F_163 v1 v2 S = some r) : Cal XC (d + 2) 163 [.ref 0, .int v1, .int v2] S (RXx vI r) := by
  unfold F_163 at hr
  refine cal_go 0 rfl ?_
  refine go_run mm_163 1 (pc' := 1) (ls' := [some (.ref 0), some (.int v1), some (.int v2)]) (st' := [.ref 0]) (S' := S) rfl ?_
  rcases ox_some hr with ⟨E9, S9, hw1, rfl⟩ | ⟨w1, w1s, hw1, hr⟩
  · exact go_cvX mm_163 rfl (h := 0) (As := []) (rest := []) (nl := 1) rfl rfl (show cvOK 163 1 155 174 0 1 10 = true by decide +kernel) rfl rfl rfl (S_174 hw1) (KX_E ⟨rfl, rfl, rfl⟩)
  refine go_cvX mm_163 rfl (h := 0) (As := []) (rest := []) (nl := 1) rfl rfl (show cvOK 163 1 155 174 0 1 10 = true by decide +kernel) rfl rfl rfl (S_174 hw1) (KX_R ?_)
  show Go XC (d + 2) 163 0 4 [some (.ref 0), some (.int v1), some (.int v2)] [] w1s (RXx vI r)
  refine go_run mm_163 4 (pc' := 12) (ls' := [some (.ref 0), some (.int v1), some (.int v2)]) (st' := [.int (w1s.1 21 0), .int v1]) (S' := w1s) rfl ?_
  rcases ox_some hr with ⟨E9, S9, hw2, rfl⟩ | ⟨w2, w2s, hw2, hr⟩
  · exact go_csX mm_163 rfl (av := [.int v1, .int (w1s.1 21 0)]) (rest := []) (nl := 2) rfl (show csX 163 12 158 175 2 2 = true by decide +kernel) rfl rfl rfl (S_175 hw2) (KX_E ⟨rfl, rfl, rfl⟩)
  refine go_csX mm_163 rfl (av := [.int v1, .int (w1s.1 21 0)]) (rest := []) (nl := 2) rfl (show csX 163 12 158 175 2 2 = true by decide +kernel) rfl rfl rfl (S_175 hw2) (KX_R ?_)
  show Go XC (d + 2) 163 0 15 [some (.ref 0), some (.int v1), some (.int v2)] [] w2s (RXx vI r)
  refine go_run mm_163 3 (pc' := 19) (ls' := [some (.ref 0), some (.int v1), some (.int v2)]) (st' := [.int 99, .int 0, .int v2]) (S' := w2s) rfl ?_
  rcases ox_some hr with ⟨E9, S9, hw3, rfl⟩ | ⟨w3, w3s, hw3, hr⟩
  · exact go_csX mm_163 rfl (av := [.int v2, .int 0, .int 99]) (rest := []) (nl := 3) rfl (show csX 163 19 224 176 3 3 = true by decide +kernel) rfl rfl rfl (S_176 hw3) (KX_E ⟨rfl, rfl, rfl⟩)
  refine go_csX mm_163 rfl (av := [.int v2, .int 0, .int 99]) (rest := []) (nl := 3) rfl (show csX 163 19 224 176 3 3 = true by decide +kernel) rfl rfl rfl (S_176 hw3) (KX_R ?_)
  show Go XC (d + 2) 163 0 22 [some (.ref 0), some (.int v1), some (.int v2)] [] w3s (RXx vI r)
  refine go_run mm_163 4 (pc' := 31) (ls' := [some (.ref 0), some (.int v1), some (.int v2)]) (st' := [.int 6, .int (w3s.1 3 1)]) (S' := w3s) rfl ?_
  refine go_if2 mm_163 rfl (p1 := 45) (p2 := 34) rfl (fun (hc1 : (w3s.1 3 1) < 6) => ?_) (fun (hc1 : ¬ (w3s.1 3 1) < 6) => ?_)
  · rw [if_pos hc1] at hr
    refine go_run mm_163 4 (pc' := 53) (ls' := [some (.ref 0), some (.int v1), some (.int v2)]) (st' := [.ref 3, .ref 47]) (S' := w3s) rfl ?_
    obtain ⟨w4, hw4, hr⟩ := ob_some hr
    refine go_cv mm_163 (h := 47) (As := [.ref 3]) (rest := []) (nl := 3) rfl rfl (show cvOK 163 53 316 9 1 3 1 = true by decide +kernel) rfl rfl rfl (S_9 (plB_ok rfl) hw4) (KP_V ?_)
    show Go XC (d + 2) 163 0 56 [some (.ref 0), some (.int v1), some (.int v2)] [] w4.2 (RXx vI r)
    refine go_run mm_163 5 (pc' := 65) (ls' := [some (.ref 0), some (.int v1), some (.int v2)]) (st' := [.int v1, .ref 21, .ref 3]) (S' := w4.2) rfl ?_
    obtain ⟨w5, hw5, hr⟩ := ob_some hr
    refine go_cv mm_163 (h := 21) (As := [.int v1]) (rest := [.ref 3]) (nl := 2) rfl rfl (show cvOK 163 65 182 19 1 2 3 = true by decide +kernel) rfl rfl rfl (S_19 (ltB_ok rfl) hw5) (KP_V ?_)
    show Go XC (d + 2) 163 0 68 [some (.ref 0), some (.int v1), some (.int v2)] [.int w5, .ref 3] w4.2 (RXx vI r)
    refine go_run mm_163 3 (pc' := 73) (ls' := [some (.ref 0), some (.int v1), some (.int v2)]) (st' := [.int v1, .ref 21, .int w5, .ref 3]) (S' := w4.2) rfl ?_
    obtain ⟨w6, hw6, hr⟩ := ob_some hr
    refine go_cv mm_163 (h := 21) (As := [.int v1]) (rest := [.int w5, .ref 3]) (nl := 2) rfl rfl (show cvOK 163 73 185 20 1 2 3 = true by decide +kernel) rfl rfl rfl (S_20 (ltB_ok rfl) hw6) (KP_V ?_)
    show Go XC (d + 2) 163 0 76 [some (.ref 0), some (.int v1), some (.int v2)] [.int w6, .int w5, .ref 3] w4.2 (RXx vI r)
    refine go_run mm_163 1 (pc' := 77) (ls' := [some (.ref 0), some (.int v1), some (.int v2)]) (st' := [.int v2, .int w6, .int w5, .ref 3]) (S' := w4.2) rfl ?_
    obtain ⟨w7, hw7, hr⟩ := ob_some hr
    refine go_cv mm_163 (h := 3) (As := [.int w5, .int w6, .int v2]) (rest := []) (nl := 4) rfl rfl (show cvOK 163 77 319 55 3 4 5 = true by decide +kernel) rfl rfl rfl (S_55 (plB_ok rfl) hw7) (KP_V ?_)
    show Go XC (d + 2) 163 0 80 [some (.ref 0), some (.int v1), some (.int v2)] [] w7.2 (RXx vI r)
    refine go_run mm_163 5 (pc' := 89) (ls' := [some (.ref 0), some (.int v1), some (.int v2)]) (st' := [.int ((w7.2.1 3 1) - 1)]) (S' := w7.2) rfl ?_
    cases hr
    exact go_ireturn mm_163 rfl rfl ⟨rfl, rfl, rfl⟩
  · rw [if_neg hc1] at hr
    cases hr
    exact go_thr mm_163 rfl (show tbT G0 163 34 = some "java/lang/IllegalStateException" by decide +kernel) rfl (by decide) ⟨rfl, rfl, rfl⟩

theorem mm_164 : mtG 164 = some (mi_164, 11, ft_164) := rfl
def F_164 (v1 : Int32) (S : ST) : Option ((String ⊕ Int32) × ST) := ox (F_174 S) (fun w1 w1s => ox (F_175 v1 (w1s.1 3 1) w1s) (fun w2 w2s => ob (F_9 3 w2s) (fun w3 => ob (F_58 3 v1 w3.2) (fun w4 => some (.inr (w4.2.1 3 1), w4.2)))))
set_option maxRecDepth 20000 in
theorem S_164 {d : Nat} {S : ST} {v1 : Int32} {r} (hr : F_164 v1 S = some r) : Cal XC (d + 2) 164 [.ref 0, .int v1] S (RXx vI r) := by
  unfold F_164 at hr
  refine cal_go 0 rfl ?_
  refine go_run mm_164 1 (pc' := 1) (ls' := [some (.ref 0), some (.int v1)]) (st' := [.ref 0]) (S' := S) rfl ?_
  rcases ox_some hr with ⟨E9, S9, hw1, rfl⟩ | ⟨w1, w1s, hw1, hr⟩
  · exact go_cvX mm_164 rfl (h := 0) (As := []) (rest := []) (nl := 1) rfl rfl (show cvOK 164 1 155 174 0 1 10 = true by decide +kernel) rfl rfl rfl (S_174 hw1) (KX_E ⟨rfl, rfl, rfl⟩)
  refine go_cvX mm_164 rfl (h := 0) (As := []) (rest := []) (nl := 1) rfl rfl (show cvOK 164 1 155 174 0 1 10 = true by decide +kernel) rfl rfl rfl (S_174 hw1) (KX_R ?_)
  show Go XC (d + 2) 164 0 4 [some (.ref 0), some (.int v1)] [] w1s (RXx vI r)
  refine go_run mm_164 4 (pc' := 12) (ls' := [some (.ref 0), some (.int v1)]) (st' := [.int (w1s.1 3 1), .int v1]) (S' := w1s) rfl ?_
  rcases ox_some hr with ⟨E9, S9, hw2, rfl⟩ | ⟨w2, w2s, hw2, hr⟩
  · exact go_csX mm_164 rfl (av := [.int v1, .int (w1s.1 3 1)]) (rest := []) (nl := 2) rfl (show csX 164 12 158 175 2 2 = true by decide +kernel) rfl rfl rfl (S_175 hw2) (KX_E ⟨rfl, rfl, rfl⟩)
  refine go_csX mm_164 rfl (av := [.int v1, .int (w1s.1 3 1)]) (rest := []) (nl := 2) rfl (show csX 164 12 158 175 2 2 = true by decide +kernel) rfl rfl rfl (S_175 hw2) (KX_R ?_)
  show Go XC (d + 2) 164 0 15 [some (.ref 0), some (.int v1)] [] w2s (RXx vI r)
  refine go_run mm_164 4 (pc' := 23) (ls' := [some (.ref 0), some (.int v1)]) (st' := [.ref 3, .ref 47]) (S' := w2s) rfl ?_
  obtain ⟨w3, hw3, hr⟩ := ob_some hr
  refine go_cv mm_164 (h := 47) (As := [.ref 3]) (rest := []) (nl := 3) rfl rfl (show cvOK 164 23 316 9 1 3 1 = true by decide +kernel) rfl rfl rfl (S_9 (plB_ok rfl) hw3) (KP_V ?_)
  show Go XC (d + 2) 164 0 26 [some (.ref 0), some (.int v1)] [] w3.2 (RXx vI r)
  refine go_run mm_164 3 (pc' := 31) (ls' := [some (.ref 0), some (.int v1)]) (st' := [.int v1, .ref 3]) (S' := w3.2) rfl ?_
  obtain ⟨w4, hw4, hr⟩ := ob_some hr
  refine go_cv mm_164 (h := 3) (As := [.int v1]) (rest := []) (nl := 3) rfl rfl (show cvOK 164 31 322 58 1 3 5 = true by decide +kernel) rfl rfl rfl (S_58 (plB_ok rfl) hw4) (KP_V ?_)
  show Go XC (d + 2) 164 0 34 [some (.ref 0), some (.int v1)] [] w4.2 (RXx vI r)
  refine go_run mm_164 3 (pc' := 41) (ls' := [some (.ref 0), some (.int v1)]) (st' := [.int (w4.2.1 3 1)]) (S' := w4.2) rfl ?_
  cases hr
  exact go_ireturn mm_164 rfl rfl ⟨rfl, rfl, rfl⟩

theorem mm_165 : mtG 165 = some (mi_165, 11, ft_165) := rfl
def F_165 (v1 : Int32) (v2 : Int32) (S : ST) : Option ((String ⊕ Int32) × ST) := ox (F_174 S) (fun w1 w1s => ox (F_175 v1 (w1s.1 3 1) w1s) (fun w2 w2s => ox (F_175 v2 (w2s.1 21 0) w2s) (fun w3 w3s => ob (F_104 v1 w3s) (fun w4 => ob (F_9 3 w3s) (fun w5 => ob (F_19 21 v2 w5.2) (fun w6 => ob (F_20 21 v2 w5.2) (fun w7 => ob (F_56 3 v1 w6 w7 w5.2) (fun w8 => some (.inr w4, w8.2)))))))))
set_option maxRecDepth 20000 in
theorem S_165 {d : Nat} {S : ST} {v1 : Int32} {v2 : Int32} {r} (hr : F_165 v1 v2 S = some r) : Cal XC (d + 2) 165 [.ref 0, .int v1, .int v2] S (RXx vI r) := by
  unfold F_165 at hr
  refine cal_go 1 rfl ?_
  refine go_run mm_165 1 (pc' := 1) (ls' := [some (.ref 0), some (.int v1), some (.int v2), none]) (st' := [.ref 0]) (S' := S) rfl ?_
  rcases ox_some hr with ⟨E9, S9, hw1, rfl⟩ | ⟨w1, w1s, hw1, hr⟩
  · exact go_cvX mm_165 rfl (h := 0) (As := []) (rest := []) (nl := 1) rfl rfl (show cvOK 165 1 155 174 0 1 10 = true by decide +kernel) rfl rfl rfl (S_174 hw1) (KX_E ⟨rfl, rfl, rfl⟩)
  refine go_cvX mm_165 rfl (h := 0) (As := []) (rest := []) (nl := 1) rfl rfl (show cvOK 165 1 155 174 0 1 10 = true by decide +kernel) rfl rfl rfl (S_174 hw1) (KX_R ?_)
  show Go XC (d + 2) 165 0 4 [some (.ref 0), some (.int v1), some (.int v2), none] [] w1s (RXx vI r)
  refine go_run mm_165 4 (pc' := 12) (ls' := [some (.ref 0), some (.int v1), some (.int v2), none]) (st' := [.int (w1s.1 3 1), .int v1]) (S' := w1s) rfl ?_
  rcases ox_some hr with ⟨E9, S9, hw2, rfl⟩ | ⟨w2, w2s, hw2, hr⟩
  · exact go_csX mm_165 rfl (av := [.int v1, .int (w1s.1 3 1)]) (rest := []) (nl := 2) rfl (show csX 165 12 158 175 2 2 = true by decide +kernel) rfl rfl rfl (S_175 hw2) (KX_E ⟨rfl, rfl, rfl⟩)
  refine go_csX mm_165 rfl (av := [.int v1, .int (w1s.1 3 1)]) (rest := []) (nl := 2) rfl (show csX 165 12 158 175 2 2 = true by decide +kernel) rfl rfl rfl (S_175 hw2) (KX_R ?_)
  show Go XC (d + 2) 165 0 15 [some (.ref 0), some (.int v1), some (.int v2), none] [] w2s (RXx vI r)
  refine go_run mm_165 4 (pc' := 23) (ls' := [some (.ref 0), some (.int v1), some (.int v2), none]) (st' := [.int (w2s.1 21 0), .int v2]) (S' := w2s) rfl ?_
  rcases ox_some hr with ⟨E9, S9, hw3, rfl⟩ | ⟨w3, w3s, hw3, hr⟩
  · exact go_csX mm_165 rfl (av := [.int v2, .int (w2s.1 21 0)]) (rest := []) (nl := 2) rfl (show csX 165 23 158 175 2 2 = true by decide +kernel) rfl rfl rfl (S_175 hw3) (KX_E ⟨rfl, rfl, rfl⟩)
  refine go_csX mm_165 rfl (av := [.int v2, .int (w2s.1 21 0)]) (rest := []) (nl := 2) rfl (show csX 165 23 158 175 2 2 = true by decide +kernel) rfl rfl rfl (S_175 hw3) (KX_R ?_)
  show Go XC (d + 2) 165 0 26 [some (.ref 0), some (.int v1), some (.int v2), none] [] w3s (RXx vI r)
  refine go_run mm_165 3 (pc' := 31) (ls' := [some (.ref 0), some (.int v1), some (.int v2), none]) (st' := [.int v1, .ref 46]) (S' := w3s) rfl ?_
  obtain ⟨w4, hw4, hr⟩ := ob_some hr
  refine go_cv mm_165 (h := 46) (As := [.int v1]) (rest := []) (nl := 2) rfl rfl (show cvOK 165 31 265 104 1 2 9 = true by decide +kernel) rfl rfl rfl (S_104 hw4) (KP_V ?_)
  show Go XC (d + 2) 165 0 34 [some (.ref 0), some (.int v1), some (.int v2), none] [.int w4] w3s (RXx vI r)
  refine go_run mm_165 5 (pc' := 43) (ls' := [some (.ref 0), some (.int v1), some (.int v2), some (.int w4)]) (st' := [.ref 3, .ref 47]) (S' := w3s) rfl ?_
  obtain ⟨w5, hw5, hr⟩ := ob_some hr
  refine go_cv mm_165 (h := 47) (As := [.ref 3]) (rest := []) (nl := 3) rfl rfl (show cvOK 165 43 316 9 1 3 1 = true by decide +kernel) rfl rfl rfl (S_9 (plB_ok rfl) hw5) (KP_V ?_)
  show Go XC (d + 2) 165 0 46 [some (.ref 0), some (.int v1), some (.int v2), some (.int w4)] [] w5.2 (RXx vI r)
  refine go_run mm_165 6 (pc' := 56) (ls' := [some (.ref 0), some (.int v1), some (.int v2), some (.int w4)]) (st' := [.int v2, .ref 21, .int v1, .ref 3]) (S' := w5.2) rfl ?_
  obtain ⟨w6, hw6, hr⟩ := ob_some hr
  refine go_cv mm_165 (h := 21) (As := [.int v2]) (rest := [.int v1, .ref 3]) (nl := 2) rfl rfl (show cvOK 165 56 182 19 1 2 3 = true by decide +kernel) rfl rfl rfl (S_19 (ltB_ok rfl) hw6) (KP_V ?_)
  show Go XC (d + 2) 165 0 59 [some (.ref 0), some (.int v1), some (.int v2), some (.int w4)] [.int w6, .int v1, .ref 3] w5.2 (RXx vI r)
  refine go_run mm_165 3 (pc' := 64) (ls' := [some (.ref 0), some (.int v1), some (.int v2), some (.int w4)]) (st' := [.int v2, .ref 21, .int w6, .int v1, .ref 3]) (S' := w5.2) rfl ?_
  obtain ⟨w7, hw7, hr⟩ := ob_some hr
  refine go_cv mm_165 (h := 21) (As := [.int v2]) (rest := [.int w6, .int v1, .ref 3]) (nl := 2) rfl rfl (show cvOK 165 64 185 20 1 2 3 = true by decide +kernel) rfl rfl rfl (S_20 (ltB_ok rfl) hw7) (KP_V ?_)
  show Go XC (d + 2) 165 0 67 [some (.ref 0), some (.int v1), some (.int v2), some (.int w4)] [.int w7, .int w6, .int v1, .ref 3] w5.2 (RXx vI r)
  obtain ⟨w8, hw8, hr⟩ := ob_some hr
  refine go_cv mm_165 (h := 3) (As := [.int v1, .int w6, .int w7]) (rest := []) (nl := 4) rfl rfl (show cvOK 165 67 325 56 3 4 5 = true by decide +kernel) rfl rfl rfl (S_56 (plB_ok rfl) hw8) (KP_V ?_)
  show Go XC (d + 2) 165 0 70 [some (.ref 0), some (.int v1), some (.int v2), some (.int w4)] [] w8.2 (RXx vI r)
  refine go_run mm_165 1 (pc' := 71) (ls' := [some (.ref 0), some (.int v1), some (.int v2), some (.int w4)]) (st' := [.int w4]) (S' := w8.2) rfl ?_
  cases hr
  exact go_ireturn mm_165 rfl rfl ⟨rfl, rfl, rfl⟩

theorem mm_166 : mtG 166 = some (mi_166, 11, ft_166) := rfl
def F_166 (v1 : Int32) (v2 : Int32) (S : ST) : Option ((String ⊕ Int32) × ST) := ox (F_174 S) (fun w1 w1s => ox (F_175 v1 (w1s.1 3 1) w1s) (fun w2 w2s => ox (F_176 v2 0 99 w2s) (fun w3 w3s => ob (F_54 3 v1 w3s) (fun w4 => ob (F_9 3 w3s) (fun w5 => ob (F_57 3 v1 v2 w5.2) (fun w6 => some (.inr w4, w6.2)))))))
set_option maxRecDepth 20000 in
theorem S_166 {d : Nat} {S : ST} {v1 : Int32} {v2 : Int32} {r} (hr : F_166 v1 v2 S = some r) : Cal XC (d + 2) 166 [.ref 0, .int v1, .int v2] S (RXx vI r) := by
  unfold F_166 at hr
  refine cal_go 1 rfl ?_
  refine go_run mm_166 1 (pc' := 1) (ls' := [some (.ref 0), some (.int v1), some (.int v2), none]) (st' := [.ref 0]) (S' := S) rfl ?_
  rcases ox_some hr with ⟨E9, S9, hw1, rfl⟩ | ⟨w1, w1s, hw1, hr⟩
  · exact go_cvX mm_166 rfl (h := 0) (As := []) (rest := []) (nl := 1) rfl rfl (show cvOK 166 1 155 174 0 1 10 = true by decide +kernel) rfl rfl rfl (S_174 hw1) (KX_E ⟨rfl, rfl, rfl⟩)
  refine go_cvX mm_166 rfl (h := 0) (As := []) (rest := []) (nl := 1) rfl rfl (show cvOK 166 1 155 174 0 1 10 = true by decide +kernel) rfl rfl rfl (S_174 hw1) (KX_R ?_)
  show Go XC (d + 2) 166 0 4 [some (.ref 0), some (.int v1), some (.int v2), none] [] w1s (RXx vI r)
  refine go_run mm_166 4 (pc' := 12) (ls' := [some (.ref 0), some (.int v1), some (.int v2), none]) (st' := [.int (w1s.1 3 1), .int v1]) (S' := w1s) rfl ?_
  rcases ox_some hr with ⟨E9, S9, hw2, rfl⟩ | ⟨w2, w2s, hw2, hr⟩
  · exact go_csX mm_166 rfl (av := [.int v1, .int (w1s.1 3 1)]) (rest := []) (nl := 2) rfl (show csX 166 12 158 175 2 2 = true by decide +kernel) rfl rfl rfl (S_175 hw2) (KX_E ⟨rfl, rfl, rfl⟩)
  refine go_csX mm_166 rfl (av := [.int v1, .int (w1s.1 3 1)]) (rest := []) (nl := 2) rfl (show csX 166 12 158 175 2 2 = true by decide +kernel) rfl rfl rfl (S_175 hw2) (KX_R ?_)
  show Go XC (d + 2) 166 0 15 [some (.ref 0), some (.int v1), some (.int v2), none] [] w2s (RXx vI r)
  refine go_run mm_166 3 (pc' := 19) (ls' := [some (.ref 0), some (.int v1), some (.int v2), none]) (st' := [.int 99, .int 0, .int v2]) (S' := w2s) rfl ?_
  rcases ox_some hr with ⟨E9, S9, hw3, rfl⟩ | ⟨w3, w3s, hw3, hr⟩
  · exact go_csX mm_166 rfl (av := [.int v2, .int 0, .int 99]) (rest := []) (nl := 3) rfl (show csX 166 19 224 176 3 3 = true by decide +kernel) rfl rfl rfl (S_176 hw3) (KX_E ⟨rfl, rfl, rfl⟩)
  refine go_csX mm_166 rfl (av := [.int v2, .int 0, .int 99]) (rest := []) (nl := 3) rfl (show csX 166 19 224 176 3 3 = true by decide +kernel) rfl rfl rfl (S_176 hw3) (KX_R ?_)
  show Go XC (d + 2) 166 0 22 [some (.ref 0), some (.int v1), some (.int v2), none] [] w3s (RXx vI r)
  refine go_run mm_166 3 (pc' := 27) (ls' := [some (.ref 0), some (.int v1), some (.int v2), none]) (st' := [.int v1, .ref 3]) (S' := w3s) rfl ?_
  obtain ⟨w4, hw4, hr⟩ := ob_some hr
  refine go_cv mm_166 (h := 3) (As := [.int v1]) (rest := []) (nl := 2) rfl rfl (show cvOK 166 27 268 54 1 2 5 = true by decide +kernel) rfl rfl rfl (S_54 (plB_ok rfl) hw4) (KP_V ?_)
  show Go XC (d + 2) 166 0 30 [some (.ref 0), some (.int v1), some (.int v2), none] [.int w4] w3s (RXx vI r)
  refine go_run mm_166 5 (pc' := 39) (ls' := [some (.ref 0), some (.int v1), some (.int v2), some (.int w4)]) (st' := [.ref 3, .ref 47]) (S' := w3s) rfl ?_
  obtain ⟨w5, hw5, hr⟩ := ob_some hr
  refine go_cv mm_166 (h := 47) (As := [.ref 3]) (rest := []) (nl := 3) rfl rfl (show cvOK 166 39 316 9 1 3 1 = true by decide +kernel) rfl rfl rfl (S_9 (plB_ok rfl) hw5) (KP_V ?_)
  show Go XC (d + 2) 166 0 42 [some (.ref 0), some (.int v1), some (.int v2), some (.int w4)] [] w5.2 (RXx vI r)
  refine go_run mm_166 4 (pc' := 48) (ls' := [some (.ref 0), some (.int v1), some (.int v2), some (.int w4)]) (st' := [.int v2, .int v1, .ref 3]) (S' := w5.2) rfl ?_
  obtain ⟨w6, hw6, hr⟩ := ob_some hr
  refine go_cv mm_166 (h := 3) (As := [.int v1, .int v2]) (rest := []) (nl := 3) rfl rfl (show cvOK 166 48 328 57 2 3 5 = true by decide +kernel) rfl rfl rfl (S_57 (plB_ok rfl) hw6) (KP_V ?_)
  show Go XC (d + 2) 166 0 51 [some (.ref 0), some (.int v1), some (.int v2), some (.int w4)] [] w6.2 (RXx vI r)
  refine go_run mm_166 1 (pc' := 52) (ls' := [some (.ref 0), some (.int v1), some (.int v2), some (.int w4)]) (st' := [.int w4]) (S' := w6.2) rfl ?_
  cases hr
  exact go_ireturn mm_166 rfl rfl ⟨rfl, rfl, rfl⟩

theorem mm_179 : mtG 179 = some (mi_179, 11, ft_179) := rfl
def F_179 (S : ST) : Option ((String ⊕ Int32) × ST) := ob (F_27 12 S) (fun w1 => if w1 = true then (ob (F_17 25 12 S) (fun w2 => if w2.1 = true then (ob (F_22 25 12 w2.2) (fun w3 => if w3 = true then (ob (F_9 3 w2.2) (fun w4 => ob (F_180 12 w4.2) (fun w5 => some (.inr (w5.2.1 21 0), w5.2)))) else (some (.inl "java/lang/IllegalArgumentException", w2.2)))) else (some (.inl "java/lang/IllegalArgumentException", w2.2)))) else (some (.inl "java/lang/IllegalArgumentException", S)))
set_option maxRecDepth 20000 in
theorem S_179 {d : Nat} {S : ST} {r} (hr : F_179 S = some r) : Cal XC (d + 5) 179 [.ref 0] S (RXx vI r) := by
  unfold F_179 at hr
  refine cal_go 0 rfl ?_
  refine go_run mm_179 2 (pc' := 4) (ls' := [some (.ref 0)]) (st' := [.ref 12]) (S' := S) rfl ?_
  obtain ⟨w1, hw1, hr⟩ := ob_some hr
  refine go_cs mm_179 (av := [.ref 12]) (rest := []) (nl := 3) rfl (show csOK 179 4 366 27 1 3 = true by decide +kernel) rfl rfl rfl (S_27 (plB_ok rfl) hw1) (KP_V ?_)
  show Go XC (d + 5) 179 0 7 [some (.ref 0)] [.int (b2i w1)] S (RXx vI r)
  refine go_ifb mm_179 rfl (p1 := 10) (p2 := 38) rfl (fun (hc1 : w1 = true) => ?_) (fun (hc1 : w1 = false) => ?_)
  · rw [if_pos hc1] at hr
    refine go_run mm_179 4 (pc' := 18) (ls' := [some (.ref 0)]) (st' := [.ref 12, .ref 25]) (S' := S) rfl ?_
    obtain ⟨w2, hw2, hr⟩ := ob_some hr
    refine go_cv mm_179 (h := 25) (As := [.ref 12]) (rest := []) (nl := 5) rfl rfl (show cvOK 179 18 370 17 1 5 3 = true by decide +kernel) rfl rfl rfl (S_17 (ltB_ok rfl) (plB_ok rfl) hw2) (KP_V ?_)
    show Go XC (d + 5) 179 0 21 [some (.ref 0)] [.int (b2i w2.1)] w2.2 (RXx vI r)
    refine go_ifb mm_179 rfl (p1 := 24) (p2 := 38) rfl (fun (hc2 : w2.1 = true) => ?_) (fun (hc2 : w2.1 = false) => ?_)
    · rw [if_pos hc2] at hr
      refine go_run mm_179 4 (pc' := 32) (ls' := [some (.ref 0)]) (st' := [.ref 12, .ref 25]) (S' := w2.2) rfl ?_
      obtain ⟨w3, hw3, hr⟩ := ob_some hr
      refine go_cv mm_179 (h := 25) (As := [.ref 12]) (rest := []) (nl := 3) rfl rfl (show cvOK 179 32 373 22 1 3 3 = true by decide +kernel) rfl rfl rfl (S_22 (ltB_ok rfl) (plB_ok rfl) hw3) (KP_V ?_)
      show Go XC (d + 5) 179 0 35 [some (.ref 0)] [.int (b2i w3)] w2.2 (RXx vI r)
      refine go_ifb mm_179 rfl (p1 := 49) (p2 := 38) rfl (fun (hc3 : w3 = true) => ?_) (fun (hc3 : w3 = false) => ?_)
      · rw [if_pos hc3] at hr
        refine go_run mm_179 4 (pc' := 57) (ls' := [some (.ref 0)]) (st' := [.ref 3, .ref 47]) (S' := w2.2) rfl ?_
        obtain ⟨w4, hw4, hr⟩ := ob_some hr
        refine go_cv mm_179 (h := 47) (As := [.ref 3]) (rest := []) (nl := 3) rfl rfl (show cvOK 179 57 316 9 1 3 1 = true by decide +kernel) rfl rfl rfl (S_9 (plB_ok rfl) hw4) (KP_V ?_)
        show Go XC (d + 5) 179 0 60 [some (.ref 0)] [] w4.2 (RXx vI r)
        refine go_run mm_179 3 (pc' := 65) (ls' := [some (.ref 0)]) (st' := [.ref 12, .ref 0]) (S' := w4.2) rfl ?_
        obtain ⟨w5, hw5, hr⟩ := ob_some hr
        refine go_cv mm_179 (h := 0) (As := [.ref 12]) (rest := []) (nl := 2) rfl rfl (show cvOK 179 65 146 180 1 2 10 = true by decide +kernel) rfl rfl rfl (S_180 (plB_ok rfl) hw5) (KP_V ?_)
        show Go XC (d + 5) 179 0 68 [some (.ref 0)] [] w5.2 (RXx vI r)
        refine go_run mm_179 3 (pc' := 75) (ls' := [some (.ref 0)]) (st' := [.int (w5.2.1 21 0)]) (S' := w5.2) rfl ?_
        cases hr
        exact go_ireturn mm_179 rfl rfl ⟨rfl, rfl, rfl⟩
      · rw [if_neg (bf hc3)] at hr
        cases hr
        exact go_thr mm_179 rfl (show tbT G0 179 38 = some "java/lang/IllegalArgumentException" by decide +kernel) rfl (by decide) ⟨rfl, rfl, rfl⟩
    · rw [if_neg (bf hc2)] at hr
      cases hr
      exact go_thr mm_179 rfl (show tbT G0 179 38 = some "java/lang/IllegalArgumentException" by decide +kernel) rfl (by decide) ⟨rfl, rfl, rfl⟩
  · rw [if_neg (bf hc1)] at hr
    cases hr
    exact go_thr mm_179 rfl (show tbT G0 179 38 = some "java/lang/IllegalArgumentException" by decide +kernel) rfl (by decide) ⟨rfl, rfl, rfl⟩
