/-! methods as functions (printed by a program): 167 moveVertex, 168 insertVertex, 169 deleteVertex, 170 undo, 171 undoable, 178 savedIn, 172 save, 173 restore -/
theorem mm_167 : mtG 167 = some (mi_167, 11, ft_167) := rfl
def F_167 (v1 : Int32) (v2 : Int32) (v3 : Int32) (S : ST) : Option ((String ⊕ Int32) × ST) := ox (F_174 S) (fun w1 w1s => ox (F_175 v1 (w1s.1 3 0) w1s) (fun w2 w2s => ox (F_176 v2 0 15 w2s) (fun w3 w3s => ox (F_176 v3 0 15 w3s) (fun w4 w4s => ob (F_43 12 3 w4s) (fun w5 => ob (F_49 12 v1 v2 v3 w5.2) (fun w6 => ox (F_179 w6.2) (fun w7 w7s => some (.inr w7, w7s))))))))
set_option maxRecDepth 20000 in
theorem S_167 {d : Nat} {S : ST} {v1 : Int32} {v2 : Int32} {v3 : Int32} {r} (hr : F_167 v1 v2 v3 S = some r) : Cal XC (d + 6) 167 [.ref 0, .int v1, .int v2, .int v3] S (RXx vI r) := by
  unfold F_167 at hr
  refine cal_go 0 rfl ?_
  refine go_run mm_167 1 (pc' := 1) (ls' := [some (.ref 0), some (.int v1), some (.int v2), some (.int v3)]) (st' := [.ref 0]) (S' := S) rfl ?_
  rcases ox_some hr with ⟨E9, S9, hw1, rfl⟩ | ⟨w1, w1s, hw1, hr⟩
  · exact go_cvX mm_167 rfl (h := 0) (As := []) (rest := []) (nl := 1) rfl rfl (show cvOK 167 1 155 174 0 1 10 = true by decide +kernel) rfl rfl rfl (S_174 hw1) (KX_E ⟨rfl, rfl, rfl⟩)
  refine go_cvX mm_167 rfl (h := 0) (As := []) (rest := []) (nl := 1) rfl rfl (show cvOK 167 1 155 174 0 1 10 = true by decide +kernel) rfl rfl rfl (S_174 hw1) (KX_R ?_)
  show Go XC (d + 6) 167 0 4 [some (.ref 0), some (.int v1), some (.int v2), some (.int v3)] [] w1s (RXx vI r)
  refine go_run mm_167 4 (pc' := 12) (ls' := [some (.ref 0), some (.int v1), some (.int v2), some (.int v3)]) (st' := [.int (w1s.1 3 0), .int v1]) (S' := w1s) rfl ?_
  rcases ox_some hr with ⟨E9, S9, hw2, rfl⟩ | ⟨w2, w2s, hw2, hr⟩
  · exact go_csX mm_167 rfl (av := [.int v1, .int (w1s.1 3 0)]) (rest := []) (nl := 2) rfl (show csX 167 12 158 175 2 2 = true by decide +kernel) rfl rfl rfl (S_175 hw2) (KX_E ⟨rfl, rfl, rfl⟩)
  refine go_csX mm_167 rfl (av := [.int v1, .int (w1s.1 3 0)]) (rest := []) (nl := 2) rfl (show csX 167 12 158 175 2 2 = true by decide +kernel) rfl rfl rfl (S_175 hw2) (KX_R ?_)
  show Go XC (d + 6) 167 0 15 [some (.ref 0), some (.int v1), some (.int v2), some (.int v3)] [] w2s (RXx vI r)
  refine go_run mm_167 3 (pc' := 19) (ls' := [some (.ref 0), some (.int v1), some (.int v2), some (.int v3)]) (st' := [.int 15, .int 0, .int v2]) (S' := w2s) rfl ?_
  rcases ox_some hr with ⟨E9, S9, hw3, rfl⟩ | ⟨w3, w3s, hw3, hr⟩
  · exact go_csX mm_167 rfl (av := [.int v2, .int 0, .int 15]) (rest := []) (nl := 3) rfl (show csX 167 19 224 176 3 3 = true by decide +kernel) rfl rfl rfl (S_176 hw3) (KX_E ⟨rfl, rfl, rfl⟩)
  refine go_csX mm_167 rfl (av := [.int v2, .int 0, .int 15]) (rest := []) (nl := 3) rfl (show csX 167 19 224 176 3 3 = true by decide +kernel) rfl rfl rfl (S_176 hw3) (KX_R ?_)
  show Go XC (d + 6) 167 0 22 [some (.ref 0), some (.int v1), some (.int v2), some (.int v3)] [] w3s (RXx vI r)
  refine go_run mm_167 3 (pc' := 26) (ls' := [some (.ref 0), some (.int v1), some (.int v2), some (.int v3)]) (st' := [.int 15, .int 0, .int v3]) (S' := w3s) rfl ?_
  rcases ox_some hr with ⟨E9, S9, hw4, rfl⟩ | ⟨w4, w4s, hw4, hr⟩
  · exact go_csX mm_167 rfl (av := [.int v3, .int 0, .int 15]) (rest := []) (nl := 3) rfl (show csX 167 26 224 176 3 3 = true by decide +kernel) rfl rfl rfl (S_176 hw4) (KX_E ⟨rfl, rfl, rfl⟩)
  refine go_csX mm_167 rfl (av := [.int v3, .int 0, .int 15]) (rest := []) (nl := 3) rfl (show csX 167 26 224 176 3 3 = true by decide +kernel) rfl rfl rfl (S_176 hw4) (KX_R ?_)
  show Go XC (d + 6) 167 0 29 [some (.ref 0), some (.int v1), some (.int v2), some (.int v3)] [] w4s (RXx vI r)
  refine go_run mm_167 4 (pc' := 37) (ls' := [some (.ref 0), some (.int v1), some (.int v2), some (.int v3)]) (st' := [.ref 3, .ref 12]) (S' := w4s) rfl ?_
  obtain ⟨w5, hw5, hr⟩ := ob_some hr
  refine go_cv mm_167 (h := 12) (As := [.ref 3]) (rest := []) (nl := 2) rfl rfl (show cvOK 167 37 331 43 1 2 5 = true by decide +kernel) rfl rfl rfl (S_43 (plB_ok rfl) (plB_ok rfl) hw5) (KP_V ?_)
  show Go XC (d + 6) 167 0 40 [some (.ref 0), some (.int v1), some (.int v2), some (.int v3)] [] w5.2 (RXx vI r)
  refine go_run mm_167 5 (pc' := 47) (ls' := [some (.ref 0), some (.int v1), some (.int v2), some (.int v3)]) (st' := [.int v3, .int v2, .int v1, .ref 12]) (S' := w5.2) rfl ?_
  obtain ⟨w6, hw6, hr⟩ := ob_some hr
  refine go_cv mm_167 (h := 12) (As := [.int v1, .int v2, .int v3]) (rest := []) (nl := 4) rfl rfl (show cvOK 167 47 334 49 3 4 5 = true by decide +kernel) rfl rfl rfl (S_49 (plB_ok rfl) hw6) (KP_V ?_)
  show Go XC (d + 6) 167 0 50 [some (.ref 0), some (.int v1), some (.int v2), some (.int v3)] [] w6.2 (RXx vI r)
  refine go_run mm_167 1 (pc' := 51) (ls' := [some (.ref 0), some (.int v1), some (.int v2), some (.int v3)]) (st' := [.ref 0]) (S' := w6.2) rfl ?_
  rcases ox_some hr with ⟨E9, S9, hw7, rfl⟩ | ⟨w7, w7s, hw7, hr⟩
  · exact go_cvX mm_167 rfl (h := 0) (As := []) (rest := []) (nl := 1) rfl rfl (show cvOK 167 51 337 179 0 1 10 = true by decide +kernel) rfl rfl rfl (S_179 hw7) (KX_E ⟨rfl, rfl, rfl⟩)
  refine go_cvX mm_167 rfl (h := 0) (As := []) (rest := []) (nl := 1) rfl rfl (show cvOK 167 51 337 179 0 1 10 = true by decide +kernel) rfl rfl rfl (S_179 hw7) (KX_R ?_)
  show Go XC (d + 6) 167 0 54 [some (.ref 0), some (.int v1), some (.int v2), some (.int v3)] [.int w7] w7s (RXx vI r)
  cases hr
  exact go_ireturn mm_167 rfl rfl ⟨rfl, rfl, rfl⟩

theorem mm_168 : mtG 168 = some (mi_168, 11, ft_168) := rfl
def F_168 (v1 : Int32) (v2 : Int32) (v3 : Int32) (S : ST) : Option ((String ⊕ Int32) × ST) := ox (F_174 S) (fun w1 w1s => ox (F_175 v1 (w1s.1 3 0) w1s) (fun w2 w2s => ox (F_176 v2 0 15 w2s) (fun w3 w3s => ox (F_176 v3 0 15 w3s) (fun w4 w4s => if (w4s.1 3 0) < 12 then (ob (F_43 12 3 w4s) (fun w5 => ob (F_48 12 (v1 + 1) v2 v3 w5.2) (fun w6 => ox (F_179 w6.2) (fun w7 w7s => some (.inr w7, w7s))))) else (some (.inl "java/lang/IllegalArgumentException", w4s))))))
set_option maxRecDepth 20000 in
theorem S_168 {d : Nat} {S : ST} {v1 : Int32} {v2 : Int32} {v3 : Int32} {r} (hr : F_168 v1 v2 v3 S = some r) : Cal XC (d + 6) 168 [.ref 0, .int v1, .int v2, .int v3] S (RXx vI r) := by
  unfold F_168 at hr
  refine cal_go 0 rfl ?_
  refine go_run mm_168 1 (pc' := 1) (ls' := [some (.ref 0), some (.int v1), some (.int v2), some (.int v3)]) (st' := [.ref 0]) (S' := S) rfl ?_
  rcases ox_some hr with ⟨E9, S9, hw1, rfl⟩ | ⟨w1, w1s, hw1, hr⟩
  · exact go_cvX mm_168 rfl (h := 0) (As := []) (rest := []) (nl := 1) rfl rfl (show cvOK 168 1 155 174 0 1 10 = true by decide +kernel) rfl rfl rfl (S_174 hw1) (KX_E ⟨rfl, rfl, rfl⟩)
  refine go_cvX mm_168 rfl (h := 0) (As := []) (rest := []) (nl := 1) rfl rfl (show cvOK 168 1 155 174 0 1 10 = true by decide +kernel) rfl rfl rfl (S_174 hw1) (KX_R ?_)
  show Go XC (d + 6) 168 0 4 [some (.ref 0), some (.int v1), some (.int v2), some (.int v3)] [] w1s (RXx vI r)
  refine go_run mm_168 4 (pc' := 12) (ls' := [some (.ref 0), some (.int v1), some (.int v2), some (.int v3)]) (st' := [.int (w1s.1 3 0), .int v1]) (S' := w1s) rfl ?_
  rcases ox_some hr with ⟨E9, S9, hw2, rfl⟩ | ⟨w2, w2s, hw2, hr⟩
  · exact go_csX mm_168 rfl (av := [.int v1, .int (w1s.1 3 0)]) (rest := []) (nl := 2) rfl (show csX 168 12 158 175 2 2 = true by decide +kernel) rfl rfl rfl (S_175 hw2) (KX_E ⟨rfl, rfl, rfl⟩)
  refine go_csX mm_168 rfl (av := [.int v1, .int (w1s.1 3 0)]) (rest := []) (nl := 2) rfl (show csX 168 12 158 175 2 2 = true by decide +kernel) rfl rfl rfl (S_175 hw2) (KX_R ?_)
  show Go XC (d + 6) 168 0 15 [some (.ref 0), some (.int v1), some (.int v2), some (.int v3)] [] w2s (RXx vI r)
  refine go_run mm_168 3 (pc' := 19) (ls' := [some (.ref 0), some (.int v1), some (.int v2), some (.int v3)]) (st' := [.int 15, .int 0, .int v2]) (S' := w2s) rfl ?_
  rcases ox_some hr with ⟨E9, S9, hw3, rfl⟩ | ⟨w3, w3s, hw3, hr⟩
  · exact go_csX mm_168 rfl (av := [.int v2, .int 0, .int 15]) (rest := []) (nl := 3) rfl (show csX 168 19 224 176 3 3 = true by decide +kernel) rfl rfl rfl (S_176 hw3) (KX_E ⟨rfl, rfl, rfl⟩)
  refine go_csX mm_168 rfl (av := [.int v2, .int 0, .int 15]) (rest := []) (nl := 3) rfl (show csX 168 19 224 176 3 3 = true by decide +kernel) rfl rfl rfl (S_176 hw3) (KX_R ?_)
  show Go XC (d + 6) 168 0 22 [some (.ref 0), some (.int v1), some (.int v2), some (.int v3)] [] w3s (RXx vI r)
  refine go_run mm_168 3 (pc' := 26) (ls' := [some (.ref 0), some (.int v1), some (.int v2), some (.int v3)]) (st' := [.int 15, .int 0, .int v3]) (S' := w3s) rfl ?_
  rcases ox_some hr with ⟨E9, S9, hw4, rfl⟩ | ⟨w4, w4s, hw4, hr⟩
  · exact go_csX mm_168 rfl (av := [.int v3, .int 0, .int 15]) (rest := []) (nl := 3) rfl (show csX 168 26 224 176 3 3 = true by decide +kernel) rfl rfl rfl (S_176 hw4) (KX_E ⟨rfl, rfl, rfl⟩)
  refine go_csX mm_168 rfl (av := [.int v3, .int 0, .int 15]) (rest := []) (nl := 3) rfl (show csX 168 26 224 176 3 3 = true by decide +kernel) rfl rfl rfl (S_176 hw4) (KX_R ?_)
  show Go XC (d + 6) 168 0 29 [some (.ref 0), some (.int v1), some (.int v2), some (.int v3)] [] w4s (RXx vI r)
  refine go_run mm_168 4 (pc' := 38) (ls' := [some (.ref 0), some (.int v1), some (.int v2), some (.int v3)]) (st' := [.int 12, .int (w4s.1 3 0)]) (S' := w4s) rfl ?_
  refine go_if2 mm_168 rfl (p1 := 52) (p2 := 41) rfl (fun (hc1 : (w4s.1 3 0) < 12) => ?_) (fun (hc1 : ¬ (w4s.1 3 0) < 12) => ?_)
  · rw [if_pos hc1] at hr
    refine go_run mm_168 4 (pc' := 60) (ls' := [some (.ref 0), some (.int v1), some (.int v2), some (.int v3)]) (st' := [.ref 3, .ref 12]) (S' := w4s) rfl ?_
    obtain ⟨w5, hw5, hr⟩ := ob_some hr
    refine go_cv mm_168 (h := 12) (As := [.ref 3]) (rest := []) (nl := 2) rfl rfl (show cvOK 168 60 331 43 1 2 5 = true by decide +kernel) rfl rfl rfl (S_43 (plB_ok rfl) (plB_ok rfl) hw5) (KP_V ?_)
    show Go XC (d + 6) 168 0 63 [some (.ref 0), some (.int v1), some (.int v2), some (.int v3)] [] w5.2 (RXx vI r)
    refine go_run mm_168 7 (pc' := 72) (ls' := [some (.ref 0), some (.int v1), some (.int v2), some (.int v3)]) (st' := [.int v3, .int v2, .int (v1 + 1), .ref 12]) (S' := w5.2) rfl ?_
    obtain ⟨w6, hw6, hr⟩ := ob_some hr
    refine go_cv mm_168 (h := 12) (As := [.int (v1 + 1), .int v2, .int v3]) (rest := []) (nl := 5) rfl rfl (show cvOK 168 72 342 48 3 5 5 = true by decide +kernel) rfl rfl rfl (S_48 (plB_ok rfl) hw6) (KP_V ?_)
    show Go XC (d + 6) 168 0 75 [some (.ref 0), some (.int v1), some (.int v2), some (.int v3)] [] w6.2 (RXx vI r)
    refine go_run mm_168 1 (pc' := 76) (ls' := [some (.ref 0), some (.int v1), some (.int v2), some (.int v3)]) (st' := [.ref 0]) (S' := w6.2) rfl ?_
    rcases ox_some hr with ⟨E9, S9, hw7, rfl⟩ | ⟨w7, w7s, hw7, hr⟩
    · exact go_cvX mm_168 rfl (h := 0) (As := []) (rest := []) (nl := 1) rfl rfl (show cvOK 168 76 337 179 0 1 10 = true by decide +kernel) rfl rfl rfl (S_179 hw7) (KX_E ⟨rfl, rfl, rfl⟩)
    refine go_cvX mm_168 rfl (h := 0) (As := []) (rest := []) (nl := 1) rfl rfl (show cvOK 168 76 337 179 0 1 10 = true by decide +kernel) rfl rfl rfl (S_179 hw7) (KX_R ?_)
    show Go XC (d + 6) 168 0 79 [some (.ref 0), some (.int v1), some (.int v2), some (.int v3)] [.int w7] w7s (RXx vI r)
    cases hr
    exact go_ireturn mm_168 rfl rfl ⟨rfl, rfl, rfl⟩
  · rw [if_neg hc1] at hr
    cases hr
    exact go_thr mm_168 rfl (show tbT G0 168 41 = some "java/lang/IllegalArgumentException" by decide +kernel) rfl (by decide) ⟨rfl, rfl, rfl⟩

theorem mm_169 : mtG 169 = some (mi_169, 11, ft_169) := rfl
def F_169 (v1 : Int32) (S : ST) : Option ((String ⊕ Int32) × ST) := ox (F_174 S) (fun w1 w1s => ox (F_175 v1 (w1s.1 3 0) w1s) (fun w2 w2s => ob (F_43 12 3 w2s) (fun w3 => ob (F_50 12 v1 w3.2) (fun w4 => ox (F_179 w4.2) (fun w5 w5s => some (.inr w5, w5s))))))
set_option maxRecDepth 20000 in
theorem S_169 {d : Nat} {S : ST} {v1 : Int32} {r} (hr : F_169 v1 S = some r) : Cal XC (d + 6) 169 [.ref 0, .int v1] S (RXx vI r) := by
  unfold F_169 at hr
  refine cal_go 0 rfl ?_
  refine go_run mm_169 1 (pc' := 1) (ls' := [some (.ref 0), some (.int v1)]) (st' := [.ref 0]) (S' := S) rfl ?_
  rcases ox_some hr with ⟨E9, S9, hw1, rfl⟩ | ⟨w1, w1s, hw1, hr⟩
  · exact go_cvX mm_169 rfl (h := 0) (As := []) (rest := []) (nl := 1) rfl rfl (show cvOK 169 1 155 174 0 1 10 = true by decide +kernel) rfl rfl rfl (S_174 hw1) (KX_E ⟨rfl, rfl, rfl⟩)
  refine go_cvX mm_169 rfl (h := 0) (As := []) (rest := []) (nl := 1) rfl rfl (show cvOK 169 1 155 174 0 1 10 = true by decide +kernel) rfl rfl rfl (S_174 hw1) (KX_R ?_)
  show Go XC (d + 6) 169 0 4 [some (.ref 0), some (.int v1)] [] w1s (RXx vI r)
  refine go_run mm_169 4 (pc' := 12) (ls' := [some (.ref 0), some (.int v1)]) (st' := [.int (w1s.1 3 0), .int v1]) (S' := w1s) rfl ?_
  rcases ox_some hr with ⟨E9, S9, hw2, rfl⟩ | ⟨w2, w2s, hw2, hr⟩
  · exact go_csX mm_169 rfl (av := [.int v1, .int (w1s.1 3 0)]) (rest := []) (nl := 2) rfl (show csX 169 12 158 175 2 2 = true by decide +kernel) rfl rfl rfl (S_175 hw2) (KX_E ⟨rfl, rfl, rfl⟩)
  refine go_csX mm_169 rfl (av := [.int v1, .int (w1s.1 3 0)]) (rest := []) (nl := 2) rfl (show csX 169 12 158 175 2 2 = true by decide +kernel) rfl rfl rfl (S_175 hw2) (KX_R ?_)
  show Go XC (d + 6) 169 0 15 [some (.ref 0), some (.int v1)] [] w2s (RXx vI r)
  refine go_run mm_169 4 (pc' := 23) (ls' := [some (.ref 0), some (.int v1)]) (st' := [.ref 3, .ref 12]) (S' := w2s) rfl ?_
  obtain ⟨w3, hw3, hr⟩ := ob_some hr
  refine go_cv mm_169 (h := 12) (As := [.ref 3]) (rest := []) (nl := 2) rfl rfl (show cvOK 169 23 331 43 1 2 5 = true by decide +kernel) rfl rfl rfl (S_43 (plB_ok rfl) (plB_ok rfl) hw3) (KP_V ?_)
  show Go XC (d + 6) 169 0 26 [some (.ref 0), some (.int v1)] [] w3.2 (RXx vI r)
  refine go_run mm_169 3 (pc' := 31) (ls' := [some (.ref 0), some (.int v1)]) (st' := [.int v1, .ref 12]) (S' := w3.2) rfl ?_
  obtain ⟨w4, hw4, hr⟩ := ob_some hr
  refine go_cv mm_169 (h := 12) (As := [.int v1]) (rest := []) (nl := 3) rfl rfl (show cvOK 169 31 345 50 1 3 5 = true by decide +kernel) rfl rfl rfl (S_50 (plB_ok rfl) hw4) (KP_V ?_)
  show Go XC (d + 6) 169 0 34 [some (.ref 0), some (.int v1)] [] w4.2 (RXx vI r)
  refine go_run mm_169 1 (pc' := 35) (ls' := [some (.ref 0), some (.int v1)]) (st' := [.ref 0]) (S' := w4.2) rfl ?_
  rcases ox_some hr with ⟨E9, S9, hw5, rfl⟩ | ⟨w5, w5s, hw5, hr⟩
  · exact go_cvX mm_169 rfl (h := 0) (As := []) (rest := []) (nl := 1) rfl rfl (show cvOK 169 35 337 179 0 1 10 = true by decide +kernel) rfl rfl rfl (S_179 hw5) (KX_E ⟨rfl, rfl, rfl⟩)
  refine go_cvX mm_169 rfl (h := 0) (As := []) (rest := []) (nl := 1) rfl rfl (show cvOK 169 35 337 179 0 1 10 = true by decide +kernel) rfl rfl rfl (S_179 hw5) (KX_R ?_)
  show Go XC (d + 6) 169 0 38 [some (.ref 0), some (.int v1)] [.int w5] w5s (RXx vI r)
  cases hr
  exact go_ireturn mm_169 rfl rfl ⟨rfl, rfl, rfl⟩

theorem mm_170 : mtG 170 = some (mi_170, 11, ft_170) := rfl
def F_170 (S : ST) : Option ((String ⊕ Int32) × ST) := if (S.1 47 0) = 0 then (some (.inl "java/lang/IllegalStateException", S)) else (ob (F_10 12 S) (fun w1 => ob (F_180 12 w1.2) (fun w2 => some (.inr (w2.2.1 47 0), w2.2))))
set_option maxRecDepth 20000 in
theorem S_170 {d : Nat} {S : ST} {r} (hr : F_170 S = some r) : Cal XC (d + 5) 170 [.ref 0] S (RXx vI r) := by
  unfold F_170 at hr
  refine cal_go 0 rfl ?_
  refine go_run mm_170 3 (pc' := 7) (ls' := [some (.ref 0)]) (st' := [.int (S.1 47 0)]) (S' := S) rfl ?_
  refine go_if0 mm_170 rfl (p1 := 10) (p2 := 21) rfl (fun (hc1 : (S.1 47 0) = 0) => ?_) (fun (hc1 : ¬ (S.1 47 0) = 0) => ?_)
  · rw [if_pos hc1] at hr
    cases hr
    exact go_thr mm_170 rfl (show tbT G0 170 10 = some "java/lang/IllegalStateException" by decide +kernel) rfl (by decide) ⟨rfl, rfl, rfl⟩
  · rw [if_neg hc1] at hr
    refine go_run mm_170 4 (pc' := 29) (ls' := [some (.ref 0)]) (st' := [.ref 12, .ref 47]) (S' := S) rfl ?_
    obtain ⟨w1, hw1, hr⟩ := ob_some hr
    refine go_cv mm_170 (h := 47) (As := [.ref 12]) (rest := []) (nl := 3) rfl rfl (show cvOK 170 29 351 10 1 3 1 = true by decide +kernel) rfl rfl rfl (S_10 (plB_ok rfl) hw1) (KP_V ?_)
    show Go XC (d + 5) 170 0 32 [some (.ref 0)] [] w1.2 (RXx vI r)
    refine go_run mm_170 3 (pc' := 37) (ls' := [some (.ref 0)]) (st' := [.ref 12, .ref 0]) (S' := w1.2) rfl ?_
    obtain ⟨w2, hw2, hr⟩ := ob_some hr
    refine go_cv mm_170 (h := 0) (As := [.ref 12]) (rest := []) (nl := 2) rfl rfl (show cvOK 170 37 146 180 1 2 10 = true by decide +kernel) rfl rfl rfl (S_180 (plB_ok rfl) hw2) (KP_V ?_)
    show Go XC (d + 5) 170 0 40 [some (.ref 0)] [] w2.2 (RXx vI r)
    refine go_run mm_170 3 (pc' := 47) (ls' := [some (.ref 0)]) (st' := [.int (w2.2.1 47 0)]) (S' := w2.2) rfl ?_
    cases hr
    exact go_ireturn mm_170 rfl rfl ⟨rfl, rfl, rfl⟩

theorem mm_171 : mtG 171 = some (mi_171, 11, ft_171) := rfl
def F_171 (S : ST) : Int32 := S.1 47 0
set_option maxRecDepth 20000 in
theorem S_171 {d : Nat} {S : ST} {r} (hr : F_171 S = r) : Cal XC d 171 [.ref 0] S (RV (vI r) S) := by
  unfold F_171 at hr
  refine cal_go 0 rfl ?_
  refine go_run mm_171 3 (pc' := 7) (ls' := [some (.ref 0)]) (st' := [.int (S.1 47 0)]) (S' := S) rfl ?_
  cases hr
  exact go_ireturn mm_171 rfl rfl ⟨rfl, rfl, rfl⟩

theorem mm_178 : mtG 178 = some (mi_178, 11, ft_178) := rfl
def F_178 (v1 : Int32) : Nat := if v1 = 0 then (121) else (130)
set_option maxRecDepth 20000 in
theorem S_178 {d : Nat} {S : ST} {v1 : Int32} {r} (hr : F_178 v1 = r) : Cal XC d 178 [.ref 0, .int v1] S (RV (vR r) S) := by
  unfold F_178 at hr
  refine cal_go 0 rfl ?_
  refine go_run mm_178 1 (pc' := 1) (ls' := [some (.ref 0), some (.int v1)]) (st' := [.int v1]) (S' := S) rfl ?_
  refine go_if0 mm_178 rfl (p1 := 4) (p2 := 11) rfl (fun (hc1 : v1 = 0) => ?_) (fun (hc1 : ¬ v1 = 0) => ?_)
  · rw [if_pos hc1] at hr
    refine go_run mm_178 3 (pc' := 15) (ls' := [some (.ref 0), some (.int v1)]) (st' := [.ref 121]) (S' := S) rfl ?_
    cases hr
    exact go_rt mm_178 rfl (Or.inr (Or.inr (Or.inl rfl))) rfl ⟨rfl, rfl, rfl⟩
  · rw [if_neg hc1] at hr
    refine go_run mm_178 2 (pc' := 15) (ls' := [some (.ref 0), some (.int v1)]) (st' := [.ref 130]) (S' := S) rfl ?_
    cases hr
    exact go_rt mm_178 rfl (Or.inr (Or.inr (Or.inl rfl))) rfl ⟨rfl, rfl, rfl⟩
theorem pl_178 (v : Int32) : PLH (F_178 v) := by
  unfold F_178
  split
  · exact plB_ok rfl
  · exact plB_ok rfl

theorem mm_172 : mtG 172 = some (mi_172, 11, ft_172) := rfl
def F_172 (v1 : Int32) (S : ST) : Option ((String ⊕ Int32) × ST) := ox (F_174 S) (fun w1 w1s => ox (F_175 v1 2 w1s) (fun w2 w2s => ob (F_43 (F_178 v1) 3 w2s) (fun w3 => some (.inr (w3.2.1 21 0), w3.2))))
set_option maxRecDepth 20000 in
theorem S_172 {d : Nat} {S : ST} {v1 : Int32} {r} (hr : F_172 v1 S = some r) : Cal XC (d + 1) 172 [.ref 0, .int v1] S (RXx vI r) := by
  unfold F_172 at hr
  refine cal_go 0 rfl ?_
  refine go_run mm_172 1 (pc' := 1) (ls' := [some (.ref 0), some (.int v1)]) (st' := [.ref 0]) (S' := S) rfl ?_
  rcases ox_some hr with ⟨E9, S9, hw1, rfl⟩ | ⟨w1, w1s, hw1, hr⟩
  · exact go_cvX mm_172 rfl (h := 0) (As := []) (rest := []) (nl := 1) rfl rfl (show cvOK 172 1 155 174 0 1 10 = true by decide +kernel) rfl rfl rfl (S_174 hw1) (KX_E ⟨rfl, rfl, rfl⟩)
  refine go_cvX mm_172 rfl (h := 0) (As := []) (rest := []) (nl := 1) rfl rfl (show cvOK 172 1 155 174 0 1 10 = true by decide +kernel) rfl rfl rfl (S_174 hw1) (KX_R ?_)
  show Go XC (d + 1) 172 0 4 [some (.ref 0), some (.int v1)] [] w1s (RXx vI r)
  refine go_run mm_172 2 (pc' := 6) (ls' := [some (.ref 0), some (.int v1)]) (st' := [.int 2, .int v1]) (S' := w1s) rfl ?_
  rcases ox_some hr with ⟨E9, S9, hw2, rfl⟩ | ⟨w2, w2s, hw2, hr⟩
  · exact go_csX mm_172 rfl (av := [.int v1, .int 2]) (rest := []) (nl := 2) rfl (show csX 172 6 158 175 2 2 = true by decide +kernel) rfl rfl rfl (S_175 hw2) (KX_E ⟨rfl, rfl, rfl⟩)
  refine go_csX mm_172 rfl (av := [.int v1, .int 2]) (rest := []) (nl := 2) rfl (show csX 172 6 158 175 2 2 = true by decide +kernel) rfl rfl rfl (S_175 hw2) (KX_R ?_)
  show Go XC (d + 1) 172 0 9 [some (.ref 0), some (.int v1)] [] w2s (RXx vI r)
  refine go_run mm_172 2 (pc' := 11) (ls' := [some (.ref 0), some (.int v1)]) (st' := [.int v1, .ref 0]) (S' := w2s) rfl ?_
  refine go_cv mm_172 (h := 0) (As := [.int v1]) (rest := []) (nl := 2) rfl rfl (show cvOK 172 11 354 178 1 2 10 = true by decide +kernel) rfl rfl rfl (S_178 rfl) (KP_V ?_)
  show Go XC (d + 1) 172 0 14 [some (.ref 0), some (.int v1)] [.ref (F_178 v1)] w2s (RXx vI r)
  refine go_run mm_172 2 (pc' := 18) (ls' := [some (.ref 0), some (.int v1)]) (st' := [.ref 3, .ref (F_178 v1)]) (S' := w2s) rfl ?_
  obtain ⟨w3, hw3, hr⟩ := ob_some hr
  refine go_cv mm_172 (h := (F_178 v1)) (As := [.ref 3]) (rest := []) (nl := 2) rfl (pl_178 _).1 (show cvOK 172 18 331 43 1 2 5 = true by decide +kernel) rfl rfl rfl (S_43 (pl_178 _) (plB_ok rfl) hw3) (KP_V ?_)
  show Go XC (d + 1) 172 0 21 [some (.ref 0), some (.int v1)] [] w3.2 (RXx vI r)
  refine go_run mm_172 3 (pc' := 28) (ls' := [some (.ref 0), some (.int v1)]) (st' := [.int (w3.2.1 21 0)]) (S' := w3.2) rfl ?_
  cases hr
  exact go_ireturn mm_172 rfl rfl ⟨rfl, rfl, rfl⟩

theorem mm_173 : mtG 173 = some (mi_173, 11, ft_173) := rfl
def F_173 (v1 : Int32) (S : ST) : Option ((String ⊕ Int32) × ST) := ox (F_175 v1 2 S) (fun w1 w1s => if (w1s.1 (F_178 v1) 0) = 0 then (some (.inl "java/lang/IllegalStateException", w1s)) else (ob (F_8 w1s) (fun w2 => ob (F_180 (F_178 v1) w2.2) (fun w3 => some (.inr (w3.2.1 21 0), w3.2)))))
set_option maxRecDepth 20000 in
theorem S_173 {d : Nat} {S : ST} {v1 : Int32} {r} (hr : F_173 v1 S = some r) : Cal XC (d + 5) 173 [.ref 0, .int v1] S (RXx vI r) := by
  unfold F_173 at hr
  refine cal_go 0 rfl ?_
  refine go_run mm_173 2 (pc' := 2) (ls' := [some (.ref 0), some (.int v1)]) (st' := [.int 2, .int v1]) (S' := S) rfl ?_
  rcases ox_some hr with ⟨E9, S9, hw1, rfl⟩ | ⟨w1, w1s, hw1, hr⟩
  · exact go_csX mm_173 rfl (av := [.int v1, .int 2]) (rest := []) (nl := 2) rfl (show csX 173 2 158 175 2 2 = true by decide +kernel) rfl rfl rfl (S_175 hw1) (KX_E ⟨rfl, rfl, rfl⟩)
  refine go_csX mm_173 rfl (av := [.int v1, .int 2]) (rest := []) (nl := 2) rfl (show csX 173 2 158 175 2 2 = true by decide +kernel) rfl rfl rfl (S_175 hw1) (KX_R ?_)
  show Go XC (d + 5) 173 0 5 [some (.ref 0), some (.int v1)] [] w1s (RXx vI r)
  refine go_run mm_173 2 (pc' := 7) (ls' := [some (.ref 0), some (.int v1)]) (st' := [.int v1, .ref 0]) (S' := w1s) rfl ?_
  refine go_cv mm_173 (h := 0) (As := [.int v1]) (rest := []) (nl := 2) rfl rfl (show cvOK 173 7 354 178 1 2 10 = true by decide +kernel) rfl rfl rfl (S_178 rfl) (KP_V ?_)
  show Go XC (d + 5) 173 0 10 [some (.ref 0), some (.int v1)] [.ref (F_178 v1)] w1s (RXx vI r)
  refine go_getf mm_173 (h := (F_178 v1)) rfl (pl_178 _).1 rfl ?_
  show Go XC (d + 5) 173 0 13 [some (.ref 0), some (.int v1)] [.int (w1s.1 (F_178 v1) 0)] w1s (RXx vI r)
  refine go_if0 mm_173 rfl (p1 := 16) (p2 := 27) rfl (fun (hc1 : (w1s.1 (F_178 v1) 0) = 0) => ?_) (fun (hc1 : ¬ (w1s.1 (F_178 v1) 0) = 0) => ?_)
  · rw [if_pos hc1] at hr
    cases hr
    exact go_thr mm_173 rfl (show tbT G0 173 16 = some "java/lang/IllegalStateException" by decide +kernel) rfl (by decide) ⟨rfl, rfl, rfl⟩
  · rw [if_neg hc1] at hr
    refine go_run mm_173 2 (pc' := 31) (ls' := [some (.ref 0), some (.int v1)]) (st' := [.ref 47]) (S' := w1s) rfl ?_
    obtain ⟨w2, hw2, hr⟩ := ob_some hr
    refine go_cv mm_173 (h := 47) (As := []) (rest := []) (nl := 1) rfl rfl (show cvOK 173 31 142 8 0 1 1 = true by decide +kernel) rfl rfl rfl (S_8 hw2) (KP_V ?_)
    show Go XC (d + 5) 173 0 34 [some (.ref 0), some (.int v1)] [] w2.2 (RXx vI r)
    refine go_run mm_173 3 (pc' := 37) (ls' := [some (.ref 0), some (.int v1)]) (st' := [.int v1, .ref 0, .ref 0]) (S' := w2.2) rfl ?_
    refine go_cv mm_173 (h := 0) (As := [.int v1]) (rest := [.ref 0]) (nl := 2) rfl rfl (show cvOK 173 37 354 178 1 2 10 = true by decide +kernel) rfl rfl rfl (S_178 rfl) (KP_V ?_)
    show Go XC (d + 5) 173 0 40 [some (.ref 0), some (.int v1)] [.ref (F_178 v1), .ref 0] w2.2 (RXx vI r)
    obtain ⟨w3, hw3, hr⟩ := ob_some hr
    refine go_cv mm_173 (h := 0) (As := [.ref (F_178 v1)]) (rest := []) (nl := 2) rfl rfl (show cvOK 173 40 146 180 1 2 10 = true by decide +kernel) rfl rfl rfl (S_180 (pl_178 _) hw3) (KP_V ?_)
    show Go XC (d + 5) 173 0 43 [some (.ref 0), some (.int v1)] [] w3.2 (RXx vI r)
    refine go_run mm_173 3 (pc' := 50) (ls' := [some (.ref 0), some (.int v1)]) (st' := [.int (w3.2.1 21 0)]) (S' := w3.2) rfl ?_
    cases hr
    exact go_ireturn mm_173 rfl rfl ⟨rfl, rfl, rfl⟩
