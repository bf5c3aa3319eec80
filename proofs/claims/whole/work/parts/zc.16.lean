/-! methods as functions (printed by a program): 126 pointX, 127 pointY, 128 pointAt, 129 boundary, 130 sees, 131 visible, 132 kernel, 133 linkDistance, 134 diameter, 135 farthest, 136 seenFromEdge, 176 needRange, 137 triangleVertex, 138 triangleArea, 139 colour, 140 colourGuards, 141 vertexGuards, 142 edgeGuards, 143 guardNumber, 144 guardPoint, 145 witnessNumber, 146 witness, 147 hiddenNumber, 148 guards, 149 guardAt, 150 guardRange -/
theorem mm_126 : mtG 126 = some (mi_126, 11, ft_126) := rfl
def F_126 (v1 : Int32) (S : ST) : Option ((String ⊕ Int32) × ST) := ox (F_174 S) (fun w1 w1s => ox (F_175 v1 (w1s.1 21 0) w1s) (fun w2 w2s => ob (F_19 21 v1 w2s) (fun w3 => some (.inr w3, w2s))))
set_option maxRecDepth 20000 in
theorem S_126 {d : Nat} {S : ST} {v1 : Int32} {r} (hr : F_126 v1 S = some r) : Cal XC (d + 1) 126 [.ref 0, .int v1] S (RXx vI r) := by
  unfold F_126 at hr
  refine cal_go 0 rfl ?_
  refine go_run mm_126 1 (pc' := 1) (ls' := [some (.ref 0), some (.int v1)]) (st' := [.ref 0]) (S' := S) rfl ?_
  rcases ox_some hr with ⟨E9, S9, hw1, rfl⟩ | ⟨w1, w1s, hw1, hr⟩
  · exact go_cvX mm_126 rfl (h := 0) (As := []) (rest := []) (nl := 1) rfl rfl (show cvOK 126 1 155 174 0 1 10 = true by decide +kernel) rfl rfl rfl (S_174 hw1) (KX_E ⟨rfl, rfl, rfl⟩)
  refine go_cvX mm_126 rfl (h := 0) (As := []) (rest := []) (nl := 1) rfl rfl (show cvOK 126 1 155 174 0 1 10 = true by decide +kernel) rfl rfl rfl (S_174 hw1) (KX_R ?_)
  show Go XC (d + 1) 126 0 4 [some (.ref 0), some (.int v1)] [] w1s (RXx vI r)
  refine go_run mm_126 4 (pc' := 12) (ls' := [some (.ref 0), some (.int v1)]) (st' := [.int (w1s.1 21 0), .int v1]) (S' := w1s) rfl ?_
  rcases ox_some hr with ⟨E9, S9, hw2, rfl⟩ | ⟨w2, w2s, hw2, hr⟩
  · exact go_csX mm_126 rfl (av := [.int v1, .int (w1s.1 21 0)]) (rest := []) (nl := 2) rfl (show csX 126 12 158 175 2 2 = true by decide +kernel) rfl rfl rfl (S_175 hw2) (KX_E ⟨rfl, rfl, rfl⟩)
  refine go_csX mm_126 rfl (av := [.int v1, .int (w1s.1 21 0)]) (rest := []) (nl := 2) rfl (show csX 126 12 158 175 2 2 = true by decide +kernel) rfl rfl rfl (S_175 hw2) (KX_R ?_)
  show Go XC (d + 1) 126 0 15 [some (.ref 0), some (.int v1)] [] w2s (RXx vI r)
  refine go_run mm_126 3 (pc' := 20) (ls' := [some (.ref 0), some (.int v1)]) (st' := [.int v1, .ref 21]) (S' := w2s) rfl ?_
  obtain ⟨w3, hw3, hr⟩ := ob_some hr
  refine go_cv mm_126 (h := 21) (As := [.int v1]) (rest := []) (nl := 2) rfl rfl (show cvOK 126 20 182 19 1 2 3 = true by decide +kernel) rfl rfl rfl (S_19 (ltB_ok rfl) hw3) (KP_V ?_)
  show Go XC (d + 1) 126 0 23 [some (.ref 0), some (.int v1)] [.int w3] w2s (RXx vI r)
  cases hr
  exact go_ireturn mm_126 rfl rfl ⟨rfl, rfl, rfl⟩

theorem mm_127 : mtG 127 = some (mi_127, 11, ft_127) := rfl
def F_127 (v1 : Int32) (S : ST) : Option ((String ⊕ Int32) × ST) := ox (F_174 S) (fun w1 w1s => ox (F_175 v1 (w1s.1 21 0) w1s) (fun w2 w2s => ob (F_20 21 v1 w2s) (fun w3 => some (.inr w3, w2s))))
set_option maxRecDepth 20000 in
theorem S_127 {d : Nat} {S : ST} {v1 : Int32} {r} (hr : F_127 v1 S = some r) : Cal XC (d + 1) 127 [.ref 0, .int v1] S (RXx vI r) := by
  unfold F_127 at hr
  refine cal_go 0 rfl ?_
  refine go_run mm_127 1 (pc' := 1) (ls' := [some (.ref 0), some (.int v1)]) (st' := [.ref 0]) (S' := S) rfl ?_
  rcases ox_some hr with ⟨E9, S9, hw1, rfl⟩ | ⟨w1, w1s, hw1, hr⟩
  · exact go_cvX mm_127 rfl (h := 0) (As := []) (rest := []) (nl := 1) rfl rfl (show cvOK 127 1 155 174 0 1 10 = true by decide +kernel) rfl rfl rfl (S_174 hw1) (KX_E ⟨rfl, rfl, rfl⟩)
  refine go_cvX mm_127 rfl (h := 0) (As := []) (rest := []) (nl := 1) rfl rfl (show cvOK 127 1 155 174 0 1 10 = true by decide +kernel) rfl rfl rfl (S_174 hw1) (KX_R ?_)
  show Go XC (d + 1) 127 0 4 [some (.ref 0), some (.int v1)] [] w1s (RXx vI r)
  refine go_run mm_127 4 (pc' := 12) (ls' := [some (.ref 0), some (.int v1)]) (st' := [.int (w1s.1 21 0), .int v1]) (S' := w1s) rfl ?_
  rcases ox_some hr with ⟨E9, S9, hw2, rfl⟩ | ⟨w2, w2s, hw2, hr⟩
  · exact go_csX mm_127 rfl (av := [.int v1, .int (w1s.1 21 0)]) (rest := []) (nl := 2) rfl (show csX 127 12 158 175 2 2 = true by decide +kernel) rfl rfl rfl (S_175 hw2) (KX_E ⟨rfl, rfl, rfl⟩)
  refine go_csX mm_127 rfl (av := [.int v1, .int (w1s.1 21 0)]) (rest := []) (nl := 2) rfl (show csX 127 12 158 175 2 2 = true by decide +kernel) rfl rfl rfl (S_175 hw2) (KX_R ?_)
  show Go XC (d + 1) 127 0 15 [some (.ref 0), some (.int v1)] [] w2s (RXx vI r)
  refine go_run mm_127 3 (pc' := 20) (ls' := [some (.ref 0), some (.int v1)]) (st' := [.int v1, .ref 21]) (S' := w2s) rfl ?_
  obtain ⟨w3, hw3, hr⟩ := ob_some hr
  refine go_cv mm_127 (h := 21) (As := [.int v1]) (rest := []) (nl := 2) rfl rfl (show cvOK 127 20 185 20 1 2 3 = true by decide +kernel) rfl rfl rfl (S_20 (ltB_ok rfl) hw3) (KP_V ?_)
  show Go XC (d + 1) 127 0 23 [some (.ref 0), some (.int v1)] [.int w3] w2s (RXx vI r)
  cases hr
  exact go_ireturn mm_127 rfl rfl ⟨rfl, rfl, rfl⟩

theorem mm_128 : mtG 128 = some (mi_128, 11, ft_128) := rfl
def F_128 (v1 : Int32) (v2 : Int32) (S : ST) : Option ((String ⊕ Int32) × ST) := ox (F_174 S) (fun w1 w1s => ob (F_18 21 v1 v2 w1s) (fun w2 => some (.inr w2, w1s)))
set_option maxRecDepth 20000 in
theorem S_128 {d : Nat} {S : ST} {v1 : Int32} {v2 : Int32} {r} (hr : F_128 v1 v2 S = some r) : Cal XC (d + 1) 128 [.ref 0, .int v1, .int v2] S (RXx vI r) := by
  unfold F_128 at hr
  refine cal_go 0 rfl ?_
  refine go_run mm_128 1 (pc' := 1) (ls' := [some (.ref 0), some (.int v1), some (.int v2)]) (st' := [.ref 0]) (S' := S) rfl ?_
  rcases ox_some hr with ⟨E9, S9, hw1, rfl⟩ | ⟨w1, w1s, hw1, hr⟩
  · exact go_cvX mm_128 rfl (h := 0) (As := []) (rest := []) (nl := 1) rfl rfl (show cvOK 128 1 155 174 0 1 10 = true by decide +kernel) rfl rfl rfl (S_174 hw1) (KX_E ⟨rfl, rfl, rfl⟩)
  refine go_cvX mm_128 rfl (h := 0) (As := []) (rest := []) (nl := 1) rfl rfl (show cvOK 128 1 155 174 0 1 10 = true by decide +kernel) rfl rfl rfl (S_174 hw1) (KX_R ?_)
  show Go XC (d + 1) 128 0 4 [some (.ref 0), some (.int v1), some (.int v2)] [] w1s (RXx vI r)
  refine go_run mm_128 4 (pc' := 10) (ls' := [some (.ref 0), some (.int v1), some (.int v2)]) (st' := [.int v2, .int v1, .ref 21]) (S' := w1s) rfl ?_
  obtain ⟨w2, hw2, hr⟩ := ob_some hr
  refine go_cv mm_128 (h := 21) (As := [.int v1, .int v2]) (rest := []) (nl := 3) rfl rfl (show cvOK 128 10 188 18 2 3 3 = true by decide +kernel) rfl rfl rfl (S_18 (ltB_ok rfl) hw2) (KP_V ?_)
  show Go XC (d + 1) 128 0 13 [some (.ref 0), some (.int v1), some (.int v2)] [.int w2] w1s (RXx vI r)
  cases hr
  exact go_ireturn mm_128 rfl rfl ⟨rfl, rfl, rfl⟩

theorem mm_129 : mtG 129 = some (mi_129, 11, ft_129) := rfl
def F_129 (S : ST) : Option ((String ⊕ Int64) × ST) := ox (F_174 S) (fun w1 w1s => some (.inr (w1s.2 21 1), w1s))
set_option maxRecDepth 20000 in
theorem S_129 {d : Nat} {S : ST} {r} (hr : F_129 S = some r) : Cal XC (d + 1) 129 [.ref 0] S (RXx vJ r) := by
  unfold F_129 at hr
  refine cal_go 0 rfl ?_
  refine go_run mm_129 1 (pc' := 1) (ls' := [some (.ref 0)]) (st' := [.ref 0]) (S' := S) rfl ?_
  rcases ox_some hr with ⟨E9, S9, hw1, rfl⟩ | ⟨w1, w1s, hw1, hr⟩
  · exact go_cvX mm_129 rfl (h := 0) (As := []) (rest := []) (nl := 1) rfl rfl (show cvOK 129 1 155 174 0 1 10 = true by decide +kernel) rfl rfl rfl (S_174 hw1) (KX_E ⟨rfl, rfl, rfl⟩)
  refine go_cvX mm_129 rfl (h := 0) (As := []) (rest := []) (nl := 1) rfl rfl (show cvOK 129 1 155 174 0 1 10 = true by decide +kernel) rfl rfl rfl (S_174 hw1) (KX_R ?_)
  show Go XC (d + 1) 129 0 4 [some (.ref 0)] [] w1s (RXx vJ r)
  refine go_run mm_129 3 (pc' := 11) (ls' := [some (.ref 0)]) (st' := [.long (w1s.2 21 1)]) (S' := w1s) rfl ?_
  cases hr
  exact go_lreturn mm_129 rfl rfl ⟨rfl, rfl, rfl⟩

theorem mm_130 : mtG 130 = some (mi_130, 11, ft_130) := rfl
def F_130 (v1 : Int32) (v2 : Int32) (S : ST) : Option ((String ⊕ Bool) × ST) := ox (F_174 S) (fun w1 w1s => ox (F_175 v1 (w1s.1 21 0) w1s) (fun w2 w2s => ox (F_175 v2 (w2s.1 21 0) w2s) (fun w3 w3s => ob (F_66 w3s) (fun w4 => ob (F_73 v1 w4.2) (fun w5 => some (.inr (F_177 w5 v2), w4.2))))))
set_option maxRecDepth 20000 in
theorem S_130 {d : Nat} {S : ST} {v1 : Int32} {v2 : Int32} {r} (hr : F_130 v1 v2 S = some r) : Cal XC (d + 6) 130 [.ref 0, .int v1, .int v2] S (RXx vZ r) := by
  unfold F_130 at hr
  refine cal_go 0 rfl ?_
  refine go_run mm_130 1 (pc' := 1) (ls' := [some (.ref 0), some (.int v1), some (.int v2)]) (st' := [.ref 0]) (S' := S) rfl ?_
  rcases ox_some hr with ⟨E9, S9, hw1, rfl⟩ | ⟨w1, w1s, hw1, hr⟩
  · exact go_cvX mm_130 rfl (h := 0) (As := []) (rest := []) (nl := 1) rfl rfl (show cvOK 130 1 155 174 0 1 10 = true by decide +kernel) rfl rfl rfl (S_174 hw1) (KX_E ⟨rfl, rfl, rfl⟩)
  refine go_cvX mm_130 rfl (h := 0) (As := []) (rest := []) (nl := 1) rfl rfl (show cvOK 130 1 155 174 0 1 10 = true by decide +kernel) rfl rfl rfl (S_174 hw1) (KX_R ?_)
  show Go XC (d + 6) 130 0 4 [some (.ref 0), some (.int v1), some (.int v2)] [] w1s (RXx vZ r)
  refine go_run mm_130 4 (pc' := 12) (ls' := [some (.ref 0), some (.int v1), some (.int v2)]) (st' := [.int (w1s.1 21 0), .int v1]) (S' := w1s) rfl ?_
  rcases ox_some hr with ⟨E9, S9, hw2, rfl⟩ | ⟨w2, w2s, hw2, hr⟩
  · exact go_csX mm_130 rfl (av := [.int v1, .int (w1s.1 21 0)]) (rest := []) (nl := 2) rfl (show csX 130 12 158 175 2 2 = true by decide +kernel) rfl rfl rfl (S_175 hw2) (KX_E ⟨rfl, rfl, rfl⟩)
  refine go_csX mm_130 rfl (av := [.int v1, .int (w1s.1 21 0)]) (rest := []) (nl := 2) rfl (show csX 130 12 158 175 2 2 = true by decide +kernel) rfl rfl rfl (S_175 hw2) (KX_R ?_)
  show Go XC (d + 6) 130 0 15 [some (.ref 0), some (.int v1), some (.int v2)] [] w2s (RXx vZ r)
  refine go_run mm_130 4 (pc' := 23) (ls' := [some (.ref 0), some (.int v1), some (.int v2)]) (st' := [.int (w2s.1 21 0), .int v2]) (S' := w2s) rfl ?_
  rcases ox_some hr with ⟨E9, S9, hw3, rfl⟩ | ⟨w3, w3s, hw3, hr⟩
  · exact go_csX mm_130 rfl (av := [.int v2, .int (w2s.1 21 0)]) (rest := []) (nl := 2) rfl (show csX 130 23 158 175 2 2 = true by decide +kernel) rfl rfl rfl (S_175 hw3) (KX_E ⟨rfl, rfl, rfl⟩)
  refine go_csX mm_130 rfl (av := [.int v2, .int (w2s.1 21 0)]) (rest := []) (nl := 2) rfl (show csX 130 23 158 175 2 2 = true by decide +kernel) rfl rfl rfl (S_175 hw3) (KX_R ?_)
  show Go XC (d + 6) 130 0 26 [some (.ref 0), some (.int v1), some (.int v2)] [] w3s (RXx vZ r)
  refine go_run mm_130 2 (pc' := 30) (ls' := [some (.ref 0), some (.int v1), some (.int v2)]) (st' := [.ref 30]) (S' := w3s) rfl ?_
  obtain ⟨w4, hw4, hr⟩ := ob_some hr
  refine go_cv mm_130 (h := 30) (As := []) (rest := []) (nl := 2) rfl rfl (show cvOK 130 30 196 66 0 2 6 = true by decide +kernel) rfl rfl rfl (S_66 hw4) (KP_V ?_)
  show Go XC (d + 6) 130 0 33 [some (.ref 0), some (.int v1), some (.int v2)] [] w4.2 (RXx vZ r)
  refine go_run mm_130 3 (pc' := 38) (ls' := [some (.ref 0), some (.int v1), some (.int v2)]) (st' := [.int v1, .ref 30]) (S' := w4.2) rfl ?_
  obtain ⟨w5, hw5, hr⟩ := ob_some hr
  refine go_cv mm_130 (h := 30) (As := [.int v1]) (rest := []) (nl := 2) rfl rfl (show cvOK 130 38 199 73 1 2 6 = true by decide +kernel) rfl rfl rfl (S_73 hw5) (KP_V ?_)
  show Go XC (d + 6) 130 0 41 [some (.ref 0), some (.int v1), some (.int v2)] [.long w5] w4.2 (RXx vZ r)
  refine go_run mm_130 1 (pc' := 42) (ls' := [some (.ref 0), some (.int v1), some (.int v2)]) (st' := [.int v2, .long w5]) (S' := w4.2) rfl ?_
  refine go_cs mm_130 (av := [.long w5, .int v2]) (rest := []) (nl := 3) rfl (show csOK 130 42 203 177 2 3 = true by decide +kernel) rfl rfl rfl (S_177 rfl) (KP_V ?_)
  show Go XC (d + 6) 130 0 45 [some (.ref 0), some (.int v1), some (.int v2)] [.int (b2i (F_177 w5 v2))] w4.2 (RXx vZ r)
  cases hr
  exact go_zreturn mm_130 rfl rfl (b2i_01 _) ⟨rfl, rfl, rfl⟩

theorem mm_131 : mtG 131 = some (mi_131, 11, ft_131) := rfl
def F_131 (v1 : Int32) (S : ST) : Option ((String ⊕ Int64) × ST) := ox (F_174 S) (fun w1 w1s => ox (F_175 v1 (w1s.1 21 0) w1s) (fun w2 w2s => ob (F_66 w2s) (fun w3 => ob (F_73 v1 w3.2) (fun w4 => some (.inr w4, w3.2)))))
set_option maxRecDepth 20000 in
theorem S_131 {d : Nat} {S : ST} {v1 : Int32} {r} (hr : F_131 v1 S = some r) : Cal XC (d + 6) 131 [.ref 0, .int v1] S (RXx vJ r) := by
  unfold F_131 at hr
  refine cal_go 0 rfl ?_
  refine go_run mm_131 1 (pc' := 1) (ls' := [some (.ref 0), some (.int v1)]) (st' := [.ref 0]) (S' := S) rfl ?_
  rcases ox_some hr with ⟨E9, S9, hw1, rfl⟩ | ⟨w1, w1s, hw1, hr⟩
  · exact go_cvX mm_131 rfl (h := 0) (As := []) (rest := []) (nl := 1) rfl rfl (show cvOK 131 1 155 174 0 1 10 = true by decide +kernel) rfl rfl rfl (S_174 hw1) (KX_E ⟨rfl, rfl, rfl⟩)
  refine go_cvX mm_131 rfl (h := 0) (As := []) (rest := []) (nl := 1) rfl rfl (show cvOK 131 1 155 174 0 1 10 = true by decide +kernel) rfl rfl rfl (S_174 hw1) (KX_R ?_)
  show Go XC (d + 6) 131 0 4 [some (.ref 0), some (.int v1)] [] w1s (RXx vJ r)
  refine go_run mm_131 4 (pc' := 12) (ls' := [some (.ref 0), some (.int v1)]) (st' := [.int (w1s.1 21 0), .int v1]) (S' := w1s) rfl ?_
  rcases ox_some hr with ⟨E9, S9, hw2, rfl⟩ | ⟨w2, w2s, hw2, hr⟩
  · exact go_csX mm_131 rfl (av := [.int v1, .int (w1s.1 21 0)]) (rest := []) (nl := 2) rfl (show csX 131 12 158 175 2 2 = true by decide +kernel) rfl rfl rfl (S_175 hw2) (KX_E ⟨rfl, rfl, rfl⟩)
  refine go_csX mm_131 rfl (av := [.int v1, .int (w1s.1 21 0)]) (rest := []) (nl := 2) rfl (show csX 131 12 158 175 2 2 = true by decide +kernel) rfl rfl rfl (S_175 hw2) (KX_R ?_)
  show Go XC (d + 6) 131 0 15 [some (.ref 0), some (.int v1)] [] w2s (RXx vJ r)
  refine go_run mm_131 2 (pc' := 19) (ls' := [some (.ref 0), some (.int v1)]) (st' := [.ref 30]) (S' := w2s) rfl ?_
  obtain ⟨w3, hw3, hr⟩ := ob_some hr
  refine go_cv mm_131 (h := 30) (As := []) (rest := []) (nl := 2) rfl rfl (show cvOK 131 19 196 66 0 2 6 = true by decide +kernel) rfl rfl rfl (S_66 hw3) (KP_V ?_)
  show Go XC (d + 6) 131 0 22 [some (.ref 0), some (.int v1)] [] w3.2 (RXx vJ r)
  refine go_run mm_131 3 (pc' := 27) (ls' := [some (.ref 0), some (.int v1)]) (st' := [.int v1, .ref 30]) (S' := w3.2) rfl ?_
  obtain ⟨w4, hw4, hr⟩ := ob_some hr
  refine go_cv mm_131 (h := 30) (As := [.int v1]) (rest := []) (nl := 2) rfl rfl (show cvOK 131 27 199 73 1 2 6 = true by decide +kernel) rfl rfl rfl (S_73 hw4) (KP_V ?_)
  show Go XC (d + 6) 131 0 30 [some (.ref 0), some (.int v1)] [.long w4] w3.2 (RXx vJ r)
  cases hr
  exact go_lreturn mm_131 rfl rfl ⟨rfl, rfl, rfl⟩

theorem mm_132 : mtG 132 = some (mi_132, 11, ft_132) := rfl
def F_132 (S : ST) : Option ((String ⊕ Int64) × ST) := ox (F_174 S) (fun w1 w1s => ob (F_66 w1s) (fun w2 => ob (F_76 w2.2) (fun w3 => some (.inr w3, w2.2))))
set_option maxRecDepth 20000 in
theorem S_132 {d : Nat} {S : ST} {r} (hr : F_132 S = some r) : Cal XC (d + 6) 132 [.ref 0] S (RXx vJ r) := by
  unfold F_132 at hr
  refine cal_go 0 rfl ?_
  refine go_run mm_132 1 (pc' := 1) (ls' := [some (.ref 0)]) (st' := [.ref 0]) (S' := S) rfl ?_
  rcases ox_some hr with ⟨E9, S9, hw1, rfl⟩ | ⟨w1, w1s, hw1, hr⟩
  · exact go_cvX mm_132 rfl (h := 0) (As := []) (rest := []) (nl := 1) rfl rfl (show cvOK 132 1 155 174 0 1 10 = true by decide +kernel) rfl rfl rfl (S_174 hw1) (KX_E ⟨rfl, rfl, rfl⟩)
  refine go_cvX mm_132 rfl (h := 0) (As := []) (rest := []) (nl := 1) rfl rfl (show cvOK 132 1 155 174 0 1 10 = true by decide +kernel) rfl rfl rfl (S_174 hw1) (KX_R ?_)
  show Go XC (d + 6) 132 0 4 [some (.ref 0)] [] w1s (RXx vJ r)
  refine go_run mm_132 2 (pc' := 8) (ls' := [some (.ref 0)]) (st' := [.ref 30]) (S' := w1s) rfl ?_
  obtain ⟨w2, hw2, hr⟩ := ob_some hr
  refine go_cv mm_132 (h := 30) (As := []) (rest := []) (nl := 2) rfl rfl (show cvOK 132 8 196 66 0 2 6 = true by decide +kernel) rfl rfl rfl (S_66 hw2) (KP_V ?_)
  show Go XC (d + 6) 132 0 11 [some (.ref 0)] [] w2.2 (RXx vJ r)
  refine go_run mm_132 2 (pc' := 15) (ls' := [some (.ref 0)]) (st' := [.ref 30]) (S' := w2.2) rfl ?_
  obtain ⟨w3, hw3, hr⟩ := ob_some hr
  refine go_cv mm_132 (h := 30) (As := []) (rest := []) (nl := 4) rfl rfl (show cvOK 132 15 207 76 0 4 6 = true by decide +kernel) rfl rfl rfl (S_76 hw3) (KP_V ?_)
  show Go XC (d + 6) 132 0 18 [some (.ref 0)] [.long w3] w2.2 (RXx vJ r)
  cases hr
  exact go_lreturn mm_132 rfl rfl ⟨rfl, rfl, rfl⟩

theorem mm_133 : mtG 133 = some (mi_133, 11, ft_133) := rfl
def F_133 (v1 : Int32) (v2 : Int32) (S : ST) : Option ((String ⊕ Int32) × ST) := ox (F_174 S) (fun w1 w1s => ox (F_175 v1 (w1s.1 21 0) w1s) (fun w2 w2s => ox (F_175 v2 (w2s.1 21 0) w2s) (fun w3 w3s => ob (F_66 w3s) (fun w4 => ob (F_77 v1 v2 w4.2) (fun w5 => some (.inr w5, w4.2))))))
set_option maxRecDepth 20000 in
theorem S_133 {d : Nat} {S : ST} {v1 : Int32} {v2 : Int32} {r} (hr : F_133 v1 v2 S = some r) : Cal XC (d + 6) 133 [.ref 0, .int v1, .int v2] S (RXx vI r) := by
  unfold F_133 at hr
  refine cal_go 0 rfl ?_
  refine go_run mm_133 1 (pc' := 1) (ls' := [some (.ref 0), some (.int v1), some (.int v2)]) (st' := [.ref 0]) (S' := S) rfl ?_
  rcases ox_some hr with ⟨E9, S9, hw1, rfl⟩ | ⟨w1, w1s, hw1, hr⟩
  · exact go_cvX mm_133 rfl (h := 0) (As := []) (rest := []) (nl := 1) rfl rfl (show cvOK 133 1 155 174 0 1 10 = true by decide +kernel) rfl rfl rfl (S_174 hw1) (KX_E ⟨rfl, rfl, rfl⟩)
  refine go_cvX mm_133 rfl (h := 0) (As := []) (rest := []) (nl := 1) rfl rfl (show cvOK 133 1 155 174 0 1 10 = true by decide +kernel) rfl rfl rfl (S_174 hw1) (KX_R ?_)
  show Go XC (d + 6) 133 0 4 [some (.ref 0), some (.int v1), some (.int v2)] [] w1s (RXx vI r)
  refine go_run mm_133 4 (pc' := 12) (ls' := [some (.ref 0), some (.int v1), some (.int v2)]) (st' := [.int (w1s.1 21 0), .int v1]) (S' := w1s) rfl ?_
  rcases ox_some hr with ⟨E9, S9, hw2, rfl⟩ | ⟨w2, w2s, hw2, hr⟩
  · exact go_csX mm_133 rfl (av := [.int v1, .int (w1s.1 21 0)]) (rest := []) (nl := 2) rfl (show csX 133 12 158 175 2 2 = true by decide +kernel) rfl rfl rfl (S_175 hw2) (KX_E ⟨rfl, rfl, rfl⟩)
  refine go_csX mm_133 rfl (av := [.int v1, .int (w1s.1 21 0)]) (rest := []) (nl := 2) rfl (show csX 133 12 158 175 2 2 = true by decide +kernel) rfl rfl rfl (S_175 hw2) (KX_R ?_)
  show Go XC (d + 6) 133 0 15 [some (.ref 0), some (.int v1), some (.int v2)] [] w2s (RXx vI r)
  refine go_run mm_133 4 (pc' := 23) (ls' := [some (.ref 0), some (.int v1), some (.int v2)]) (st' := [.int (w2s.1 21 0), .int v2]) (S' := w2s) rfl ?_
  rcases ox_some hr with ⟨E9, S9, hw3, rfl⟩ | ⟨w3, w3s, hw3, hr⟩
  · exact go_csX mm_133 rfl (av := [.int v2, .int (w2s.1 21 0)]) (rest := []) (nl := 2) rfl (show csX 133 23 158 175 2 2 = true by decide +kernel) rfl rfl rfl (S_175 hw3) (KX_E ⟨rfl, rfl, rfl⟩)
  refine go_csX mm_133 rfl (av := [.int v2, .int (w2s.1 21 0)]) (rest := []) (nl := 2) rfl (show csX 133 23 158 175 2 2 = true by decide +kernel) rfl rfl rfl (S_175 hw3) (KX_R ?_)
  show Go XC (d + 6) 133 0 26 [some (.ref 0), some (.int v1), some (.int v2)] [] w3s (RXx vI r)
  refine go_run mm_133 2 (pc' := 30) (ls' := [some (.ref 0), some (.int v1), some (.int v2)]) (st' := [.ref 30]) (S' := w3s) rfl ?_
  obtain ⟨w4, hw4, hr⟩ := ob_some hr
  refine go_cv mm_133 (h := 30) (As := []) (rest := []) (nl := 2) rfl rfl (show cvOK 133 30 196 66 0 2 6 = true by decide +kernel) rfl rfl rfl (S_66 hw4) (KP_V ?_)
  show Go XC (d + 6) 133 0 33 [some (.ref 0), some (.int v1), some (.int v2)] [] w4.2 (RXx vI r)
  refine go_run mm_133 4 (pc' := 39) (ls' := [some (.ref 0), some (.int v1), some (.int v2)]) (st' := [.int v2, .int v1, .ref 30]) (S' := w4.2) rfl ?_
  obtain ⟨w5, hw5, hr⟩ := ob_some hr
  refine go_cv mm_133 (h := 30) (As := [.int v1, .int v2]) (rest := []) (nl := 6) rfl rfl (show cvOK 133 39 211 77 2 6 6 = true by decide +kernel) rfl rfl rfl (S_77 hw5) (KP_V ?_)
  show Go XC (d + 6) 133 0 42 [some (.ref 0), some (.int v1), some (.int v2)] [.int w5] w4.2 (RXx vI r)
  cases hr
  exact go_ireturn mm_133 rfl rfl ⟨rfl, rfl, rfl⟩

theorem mm_134 : mtG 134 = some (mi_134, 11, ft_134) := rfl
def F_134 (S : ST) : Option ((String ⊕ Int32) × ST) := ox (F_174 S) (fun w1 w1s => ob (F_66 w1s) (fun w2 => ob (F_79 w2.2) (fun w3 => some (.inr w3, w2.2))))
set_option maxRecDepth 20000 in
theorem S_134 {d : Nat} {S : ST} {r} (hr : F_134 S = some r) : Cal XC (d + 6) 134 [.ref 0] S (RXx vI r) := by
  unfold F_134 at hr
  refine cal_go 0 rfl ?_
  refine go_run mm_134 1 (pc' := 1) (ls' := [some (.ref 0)]) (st' := [.ref 0]) (S' := S) rfl ?_
  rcases ox_some hr with ⟨E9, S9, hw1, rfl⟩ | ⟨w1, w1s, hw1, hr⟩
  · exact go_cvX mm_134 rfl (h := 0) (As := []) (rest := []) (nl := 1) rfl rfl (show cvOK 134 1 155 174 0 1 10 = true by decide +kernel) rfl rfl rfl (S_174 hw1) (KX_E ⟨rfl, rfl, rfl⟩)
  refine go_cvX mm_134 rfl (h := 0) (As := []) (rest := []) (nl := 1) rfl rfl (show cvOK 134 1 155 174 0 1 10 = true by decide +kernel) rfl rfl rfl (S_174 hw1) (KX_R ?_)
  show Go XC (d + 6) 134 0 4 [some (.ref 0)] [] w1s (RXx vI r)
  refine go_run mm_134 2 (pc' := 8) (ls' := [some (.ref 0)]) (st' := [.ref 30]) (S' := w1s) rfl ?_
  obtain ⟨w2, hw2, hr⟩ := ob_some hr
  refine go_cv mm_134 (h := 30) (As := []) (rest := []) (nl := 2) rfl rfl (show cvOK 134 8 196 66 0 2 6 = true by decide +kernel) rfl rfl rfl (S_66 hw2) (KP_V ?_)
  show Go XC (d + 6) 134 0 11 [some (.ref 0)] [] w2.2 (RXx vI r)
  refine go_run mm_134 2 (pc' := 15) (ls' := [some (.ref 0)]) (st' := [.ref 30]) (S' := w2.2) rfl ?_
  obtain ⟨w3, hw3, hr⟩ := ob_some hr
  refine go_cv mm_134 (h := 30) (As := []) (rest := []) (nl := 3) rfl rfl (show cvOK 134 15 214 79 0 3 6 = true by decide +kernel) rfl rfl rfl (S_79 hw3) (KP_V ?_)
  show Go XC (d + 6) 134 0 18 [some (.ref 0)] [.int w3] w2.2 (RXx vI r)
  cases hr
  exact go_ireturn mm_134 rfl rfl ⟨rfl, rfl, rfl⟩

theorem mm_135 : mtG 135 = some (mi_135, 11, ft_135) := rfl
def F_135 (v1 : Int32) (S : ST) : Option ((String ⊕ Int32) × ST) := ox (F_174 S) (fun w1 w1s => ox (F_175 v1 (w1s.1 21 0) w1s) (fun w2 w2s => ob (F_66 w2s) (fun w3 => ob (F_78 v1 w3.2) (fun w4 => some (.inr w4, w3.2)))))
set_option maxRecDepth 20000 in
theorem S_135 {d : Nat} {S : ST} {v1 : Int32} {r} (hr : F_135 v1 S = some r) : Cal XC (d + 6) 135 [.ref 0, .int v1] S (RXx vI r) := by
  unfold F_135 at hr
  refine cal_go 0 rfl ?_
  refine go_run mm_135 1 (pc' := 1) (ls' := [some (.ref 0), some (.int v1)]) (st' := [.ref 0]) (S' := S) rfl ?_
  rcases ox_some hr with ⟨E9, S9, hw1, rfl⟩ | ⟨w1, w1s, hw1, hr⟩
  · exact go_cvX mm_135 rfl (h := 0) (As := []) (rest := []) (nl := 1) rfl rfl (show cvOK 135 1 155 174 0 1 10 = true by decide +kernel) rfl rfl rfl (S_174 hw1) (KX_E ⟨rfl, rfl, rfl⟩)
  refine go_cvX mm_135 rfl (h := 0) (As := []) (rest := []) (nl := 1) rfl rfl (show cvOK 135 1 155 174 0 1 10 = true by decide +kernel) rfl rfl rfl (S_174 hw1) (KX_R ?_)
  show Go XC (d + 6) 135 0 4 [some (.ref 0), some (.int v1)] [] w1s (RXx vI r)
  refine go_run mm_135 4 (pc' := 12) (ls' := [some (.ref 0), some (.int v1)]) (st' := [.int (w1s.1 21 0), .int v1]) (S' := w1s) rfl ?_
  rcases ox_some hr with ⟨E9, S9, hw2, rfl⟩ | ⟨w2, w2s, hw2, hr⟩
  · exact go_csX mm_135 rfl (av := [.int v1, .int (w1s.1 21 0)]) (rest := []) (nl := 2) rfl (show csX 135 12 158 175 2 2 = true by decide +kernel) rfl rfl rfl (S_175 hw2) (KX_E ⟨rfl, rfl, rfl⟩)
  refine go_csX mm_135 rfl (av := [.int v1, .int (w1s.1 21 0)]) (rest := []) (nl := 2) rfl (show csX 135 12 158 175 2 2 = true by decide +kernel) rfl rfl rfl (S_175 hw2) (KX_R ?_)
  show Go XC (d + 6) 135 0 15 [some (.ref 0), some (.int v1)] [] w2s (RXx vI r)
  refine go_run mm_135 2 (pc' := 19) (ls' := [some (.ref 0), some (.int v1)]) (st' := [.ref 30]) (S' := w2s) rfl ?_
  obtain ⟨w3, hw3, hr⟩ := ob_some hr
  refine go_cv mm_135 (h := 30) (As := []) (rest := []) (nl := 2) rfl rfl (show cvOK 135 19 196 66 0 2 6 = true by decide +kernel) rfl rfl rfl (S_66 hw3) (KP_V ?_)
  show Go XC (d + 6) 135 0 22 [some (.ref 0), some (.int v1)] [] w3.2 (RXx vI r)
  refine go_run mm_135 3 (pc' := 27) (ls' := [some (.ref 0), some (.int v1)]) (st' := [.int v1, .ref 30]) (S' := w3.2) rfl ?_
  obtain ⟨w4, hw4, hr⟩ := ob_some hr
  refine go_cv mm_135 (h := 30) (As := [.int v1]) (rest := []) (nl := 7) rfl rfl (show cvOK 135 27 218 78 1 7 6 = true by decide +kernel) rfl rfl rfl (S_78 hw4) (KP_V ?_)
  show Go XC (d + 6) 135 0 30 [some (.ref 0), some (.int v1)] [.int w4] w3.2 (RXx vI r)
  cases hr
  exact go_ireturn mm_135 rfl rfl ⟨rfl, rfl, rfl⟩

theorem mm_136 : mtG 136 = some (mi_136, 11, ft_136) := rfl
def F_136 (v1 : Int32) (S : ST) : Option ((String ⊕ Int64) × ST) := ox (F_174 S) (fun w1 w1s => ox (F_175 v1 (w1s.1 3 0) w1s) (fun w2 w2s => ob (F_66 w2s) (fun w3 => ob (F_75 v1 w3.2) (fun w4 => some (.inr w4, w3.2)))))
set_option maxRecDepth 20000 in
theorem S_136 {d : Nat} {S : ST} {v1 : Int32} {r} (hr : F_136 v1 S = some r) : Cal XC (d + 6) 136 [.ref 0, .int v1] S (RXx vJ r) := by
  unfold F_136 at hr
  refine cal_go 0 rfl ?_
  refine go_run mm_136 1 (pc' := 1) (ls' := [some (.ref 0), some (.int v1)]) (st' := [.ref 0]) (S' := S) rfl ?_
  rcases ox_some hr with ⟨E9, S9, hw1, rfl⟩ | ⟨w1, w1s, hw1, hr⟩
  · exact go_cvX mm_136 rfl (h := 0) (As := []) (rest := []) (nl := 1) rfl rfl (show cvOK 136 1 155 174 0 1 10 = true by decide +kernel) rfl rfl rfl (S_174 hw1) (KX_E ⟨rfl, rfl, rfl⟩)
  refine go_cvX mm_136 rfl (h := 0) (As := []) (rest := []) (nl := 1) rfl rfl (show cvOK 136 1 155 174 0 1 10 = true by decide +kernel) rfl rfl rfl (S_174 hw1) (KX_R ?_)
  show Go XC (d + 6) 136 0 4 [some (.ref 0), some (.int v1)] [] w1s (RXx vJ r)
  refine go_run mm_136 4 (pc' := 12) (ls' := [some (.ref 0), some (.int v1)]) (st' := [.int (w1s.1 3 0), .int v1]) (S' := w1s) rfl ?_
  rcases ox_some hr with ⟨E9, S9, hw2, rfl⟩ | ⟨w2, w2s, hw2, hr⟩
  · exact go_csX mm_136 rfl (av := [.int v1, .int (w1s.1 3 0)]) (rest := []) (nl := 2) rfl (show csX 136 12 158 175 2 2 = true by decide +kernel) rfl rfl rfl (S_175 hw2) (KX_E ⟨rfl, rfl, rfl⟩)
  refine go_csX mm_136 rfl (av := [.int v1, .int (w1s.1 3 0)]) (rest := []) (nl := 2) rfl (show csX 136 12 158 175 2 2 = true by decide +kernel) rfl rfl rfl (S_175 hw2) (KX_R ?_)
  show Go XC (d + 6) 136 0 15 [some (.ref 0), some (.int v1)] [] w2s (RXx vJ r)
  refine go_run mm_136 2 (pc' := 19) (ls' := [some (.ref 0), some (.int v1)]) (st' := [.ref 30]) (S' := w2s) rfl ?_
  obtain ⟨w3, hw3, hr⟩ := ob_some hr
  refine go_cv mm_136 (h := 30) (As := []) (rest := []) (nl := 2) rfl rfl (show cvOK 136 19 196 66 0 2 6 = true by decide +kernel) rfl rfl rfl (S_66 hw3) (KP_V ?_)
  show Go XC (d + 6) 136 0 22 [some (.ref 0), some (.int v1)] [] w3.2 (RXx vJ r)
  refine go_run mm_136 3 (pc' := 27) (ls' := [some (.ref 0), some (.int v1)]) (st' := [.int v1, .ref 30]) (S' := w3.2) rfl ?_
  obtain ⟨w4, hw4, hr⟩ := ob_some hr
  refine go_cv mm_136 (h := 30) (As := [.int v1]) (rest := []) (nl := 5) rfl rfl (show cvOK 136 27 221 75 1 5 6 = true by decide +kernel) rfl rfl rfl (S_75 hw4) (KP_V ?_)
  show Go XC (d + 6) 136 0 30 [some (.ref 0), some (.int v1)] [.long w4] w3.2 (RXx vJ r)
  cases hr
  exact go_lreturn mm_136 rfl rfl ⟨rfl, rfl, rfl⟩

theorem mm_176 : mtG 176 = some (mi_176, 11, ft_176) := rfl
def F_176 (v0 : Int32) (v1 : Int32) (v2 : Int32) (S : ST) : Option ((String ⊕ Unit) × ST) := if v0 < v1 then (some (.inl "java/lang/IllegalArgumentException", S)) else (if v2 < v0 then (some (.inl "java/lang/IllegalArgumentException", S)) else (some (.inr (), S)))
set_option maxRecDepth 20000 in
theorem S_176 {d : Nat} {S : ST} {v0 : Int32} {v1 : Int32} {v2 : Int32} {r} (hr : F_176 v0 v1 v2 S = some r) : Cal XC d 176 [.int v0, .int v1, .int v2] S (RXx vU r) := by
  unfold F_176 at hr
  refine cal_go 0 rfl ?_
  refine go_run mm_176 2 (pc' := 2) (ls' := [some (.int v0), some (.int v1), some (.int v2)]) (st' := [.int v1, .int v0]) (S' := S) rfl ?_
  refine go_if2 mm_176 rfl (p1 := 10) (p2 := 5) rfl (fun (hc1 : v0 < v1) => ?_) (fun (hc1 : ¬ v0 < v1) => ?_)
  · rw [if_pos hc1] at hr
    cases hr
    exact go_thr mm_176 rfl (show tbT G0 176 10 = some "java/lang/IllegalArgumentException" by decide +kernel) rfl (by decide) ⟨rfl, rfl, rfl⟩
  · rw [if_neg hc1] at hr
    refine go_run mm_176 2 (pc' := 7) (ls' := [some (.int v0), some (.int v1), some (.int v2)]) (st' := [.int v2, .int v0]) (S' := S) rfl ?_
    refine go_if2 mm_176 rfl (p1 := 10) (p2 := 21) rfl (fun (hc2 : v2 < v0) => ?_) (fun (hc2 : ¬ v2 < v0) => ?_)
    · rw [if_pos hc2] at hr
      cases hr
      exact go_thr mm_176 rfl (show tbT G0 176 10 = some "java/lang/IllegalArgumentException" by decide +kernel) rfl (by decide) ⟨rfl, rfl, rfl⟩
    · rw [if_neg hc2] at hr
      cases hr
      exact go_vreturn mm_176 rfl rfl ⟨rfl, rfl, rfl⟩

theorem mm_137 : mtG 137 = some (mi_137, 11, ft_137) := rfl
def F_137 (v1 : Int32) (v2 : Int32) (S : ST) : Option ((String ⊕ Int32) × ST) := ox (F_174 S) (fun w1 w1s => ox (F_175 v1 ((w1s.1 3 0) - 2) w1s) (fun w2 w2s => ox (F_176 v2 0 2 w2s) (fun w3 w3s => ob (F_95 w3s) (fun w4 => ob (F_90 v1 v2 w4.2) (fun w5 => some (.inr w5, w4.2))))))
set_option maxRecDepth 20000 in
theorem S_137 {d : Nat} {S : ST} {v1 : Int32} {v2 : Int32} {r} (hr : F_137 v1 v2 S = some r) : Cal XC (d + 6) 137 [.ref 0, .int v1, .int v2] S (RXx vI r) := by
  unfold F_137 at hr
  refine cal_go 0 rfl ?_
  refine go_run mm_137 1 (pc' := 1) (ls' := [some (.ref 0), some (.int v1), some (.int v2)]) (st' := [.ref 0]) (S' := S) rfl ?_
  rcases ox_some hr with ⟨E9, S9, hw1, rfl⟩ | ⟨w1, w1s, hw1, hr⟩
  · exact go_cvX mm_137 rfl (h := 0) (As := []) (rest := []) (nl := 1) rfl rfl (show cvOK 137 1 155 174 0 1 10 = true by decide +kernel) rfl rfl rfl (S_174 hw1) (KX_E ⟨rfl, rfl, rfl⟩)
  refine go_cvX mm_137 rfl (h := 0) (As := []) (rest := []) (nl := 1) rfl rfl (show cvOK 137 1 155 174 0 1 10 = true by decide +kernel) rfl rfl rfl (S_174 hw1) (KX_R ?_)
  show Go XC (d + 6) 137 0 4 [some (.ref 0), some (.int v1), some (.int v2)] [] w1s (RXx vI r)
  refine go_run mm_137 6 (pc' := 14) (ls' := [some (.ref 0), some (.int v1), some (.int v2)]) (st' := [.int ((w1s.1 3 0) - 2), .int v1]) (S' := w1s) rfl ?_
  rcases ox_some hr with ⟨E9, S9, hw2, rfl⟩ | ⟨w2, w2s, hw2, hr⟩
  · exact go_csX mm_137 rfl (av := [.int v1, .int ((w1s.1 3 0) - 2)]) (rest := []) (nl := 2) rfl (show csX 137 14 158 175 2 2 = true by decide +kernel) rfl rfl rfl (S_175 hw2) (KX_E ⟨rfl, rfl, rfl⟩)
  refine go_csX mm_137 rfl (av := [.int v1, .int ((w1s.1 3 0) - 2)]) (rest := []) (nl := 2) rfl (show csX 137 14 158 175 2 2 = true by decide +kernel) rfl rfl rfl (S_175 hw2) (KX_R ?_)
  show Go XC (d + 6) 137 0 17 [some (.ref 0), some (.int v1), some (.int v2)] [] w2s (RXx vI r)
  refine go_run mm_137 3 (pc' := 20) (ls' := [some (.ref 0), some (.int v1), some (.int v2)]) (st' := [.int 2, .int 0, .int v2]) (S' := w2s) rfl ?_
  rcases ox_some hr with ⟨E9, S9, hw3, rfl⟩ | ⟨w3, w3s, hw3, hr⟩
  · exact go_csX mm_137 rfl (av := [.int v2, .int 0, .int 2]) (rest := []) (nl := 3) rfl (show csX 137 20 224 176 3 3 = true by decide +kernel) rfl rfl rfl (S_176 hw3) (KX_E ⟨rfl, rfl, rfl⟩)
  refine go_csX mm_137 rfl (av := [.int v2, .int 0, .int 2]) (rest := []) (nl := 3) rfl (show csX 137 20 224 176 3 3 = true by decide +kernel) rfl rfl rfl (S_176 hw3) (KX_R ?_)
  show Go XC (d + 6) 137 0 23 [some (.ref 0), some (.int v1), some (.int v2)] [] w3s (RXx vI r)
  refine go_run mm_137 2 (pc' := 27) (ls' := [some (.ref 0), some (.int v1), some (.int v2)]) (st' := [.ref 32]) (S' := w3s) rfl ?_
  obtain ⟨w4, hw4, hr⟩ := ob_some hr
  refine go_cv mm_137 (h := 32) (As := []) (rest := []) (nl := 4) rfl rfl (show cvOK 137 27 228 95 0 4 8 = true by decide +kernel) rfl rfl rfl (S_95 hw4) (KP_V ?_)
  show Go XC (d + 6) 137 0 30 [some (.ref 0), some (.int v1), some (.int v2)] [] w4.2 (RXx vI r)
  refine go_run mm_137 4 (pc' := 36) (ls' := [some (.ref 0), some (.int v1), some (.int v2)]) (st' := [.int v2, .int v1, .ref 32]) (S' := w4.2) rfl ?_
  obtain ⟨w5, hw5, hr⟩ := ob_some hr
  refine go_cv mm_137 (h := 32) (As := [.int v1, .int v2]) (rest := []) (nl := 3) rfl rfl (show cvOK 137 36 229 90 2 3 8 = true by decide +kernel) rfl rfl rfl (S_90 hw5) (KP_V ?_)
  show Go XC (d + 6) 137 0 39 [some (.ref 0), some (.int v1), some (.int v2)] [.int w5] w4.2 (RXx vI r)
  cases hr
  exact go_ireturn mm_137 rfl rfl ⟨rfl, rfl, rfl⟩

theorem mm_138 : mtG 138 = some (mi_138, 11, ft_138) := rfl
def F_138 (v1 : Int32) (S : ST) : Option ((String ⊕ Int32) × ST) := ox (F_174 S) (fun w1 w1s => ox (F_175 v1 ((w1s.1 3 0) - 2) w1s) (fun w2 w2s => ob (F_95 w2s) (fun w3 => ob (F_91 v1 w3.2) (fun w4 => some (.inr w4, w3.2)))))
set_option maxRecDepth 20000 in
theorem S_138 {d : Nat} {S : ST} {v1 : Int32} {r} (hr : F_138 v1 S = some r) : Cal XC (d + 6) 138 [.ref 0, .int v1] S (RXx vI r) := by
  unfold F_138 at hr
  refine cal_go 0 rfl ?_
  refine go_run mm_138 1 (pc' := 1) (ls' := [some (.ref 0), some (.int v1)]) (st' := [.ref 0]) (S' := S) rfl ?_
  rcases ox_some hr with ⟨E9, S9, hw1, rfl⟩ | ⟨w1, w1s, hw1, hr⟩
  · exact go_cvX mm_138 rfl (h := 0) (As := []) (rest := []) (nl := 1) rfl rfl (show cvOK 138 1 155 174 0 1 10 = true by decide +kernel) rfl rfl rfl (S_174 hw1) (KX_E ⟨rfl, rfl, rfl⟩)
  refine go_cvX mm_138 rfl (h := 0) (As := []) (rest := []) (nl := 1) rfl rfl (show cvOK 138 1 155 174 0 1 10 = true by decide +kernel) rfl rfl rfl (S_174 hw1) (KX_R ?_)
  show Go XC (d + 6) 138 0 4 [some (.ref 0), some (.int v1)] [] w1s (RXx vI r)
  refine go_run mm_138 6 (pc' := 14) (ls' := [some (.ref 0), some (.int v1)]) (st' := [.int ((w1s.1 3 0) - 2), .int v1]) (S' := w1s) rfl ?_
  rcases ox_some hr with ⟨E9, S9, hw2, rfl⟩ | ⟨w2, w2s, hw2, hr⟩
  · exact go_csX mm_138 rfl (av := [.int v1, .int ((w1s.1 3 0) - 2)]) (rest := []) (nl := 2) rfl (show csX 138 14 158 175 2 2 = true by decide +kernel) rfl rfl rfl (S_175 hw2) (KX_E ⟨rfl, rfl, rfl⟩)
  refine go_csX mm_138 rfl (av := [.int v1, .int ((w1s.1 3 0) - 2)]) (rest := []) (nl := 2) rfl (show csX 138 14 158 175 2 2 = true by decide +kernel) rfl rfl rfl (S_175 hw2) (KX_R ?_)
  show Go XC (d + 6) 138 0 17 [some (.ref 0), some (.int v1)] [] w2s (RXx vI r)
  refine go_run mm_138 2 (pc' := 21) (ls' := [some (.ref 0), some (.int v1)]) (st' := [.ref 32]) (S' := w2s) rfl ?_
  obtain ⟨w3, hw3, hr⟩ := ob_some hr
  refine go_cv mm_138 (h := 32) (As := []) (rest := []) (nl := 4) rfl rfl (show cvOK 138 21 228 95 0 4 8 = true by decide +kernel) rfl rfl rfl (S_95 hw3) (KP_V ?_)
  show Go XC (d + 6) 138 0 24 [some (.ref 0), some (.int v1)] [] w3.2 (RXx vI r)
  refine go_run mm_138 3 (pc' := 29) (ls' := [some (.ref 0), some (.int v1)]) (st' := [.int v1, .ref 32]) (S' := w3.2) rfl ?_
  obtain ⟨w4, hw4, hr⟩ := ob_some hr
  refine go_cv mm_138 (h := 32) (As := [.int v1]) (rest := []) (nl := 2) rfl rfl (show cvOK 138 29 232 91 1 2 8 = true by decide +kernel) rfl rfl rfl (S_91 hw4) (KP_V ?_)
  show Go XC (d + 6) 138 0 32 [some (.ref 0), some (.int v1)] [.int w4] w3.2 (RXx vI r)
  cases hr
  exact go_ireturn mm_138 rfl rfl ⟨rfl, rfl, rfl⟩

theorem mm_139 : mtG 139 = some (mi_139, 11, ft_139) := rfl
def F_139 (v1 : Int32) (S : ST) : Option ((String ⊕ Int32) × ST) := ox (F_174 S) (fun w1 w1s => ox (F_175 v1 (w1s.1 3 0) w1s) (fun w2 w2s => ob (F_95 w2s) (fun w3 => ob (F_92 v1 w3.2) (fun w4 => some (.inr w4, w3.2)))))
set_option maxRecDepth 20000 in
theorem S_139 {d : Nat} {S : ST} {v1 : Int32} {r} (hr : F_139 v1 S = some r) : Cal XC (d + 6) 139 [.ref 0, .int v1] S (RXx vI r) := by
  unfold F_139 at hr
  refine cal_go 0 rfl ?_
  refine go_run mm_139 1 (pc' := 1) (ls' := [some (.ref 0), some (.int v1)]) (st' := [.ref 0]) (S' := S) rfl ?_
  rcases ox_some hr with ⟨E9, S9, hw1, rfl⟩ | ⟨w1, w1s, hw1, hr⟩
  · exact go_cvX mm_139 rfl (h := 0) (As := []) (rest := []) (nl := 1) rfl rfl (show cvOK 139 1 155 174 0 1 10 = true by decide +kernel) rfl rfl rfl (S_174 hw1) (KX_E ⟨rfl, rfl, rfl⟩)
  refine go_cvX mm_139 rfl (h := 0) (As := []) (rest := []) (nl := 1) rfl rfl (show cvOK 139 1 155 174 0 1 10 = true by decide +kernel) rfl rfl rfl (S_174 hw1) (KX_R ?_)
  show Go XC (d + 6) 139 0 4 [some (.ref 0), some (.int v1)] [] w1s (RXx vI r)
  refine go_run mm_139 4 (pc' := 12) (ls' := [some (.ref 0), some (.int v1)]) (st' := [.int (w1s.1 3 0), .int v1]) (S' := w1s) rfl ?_
  rcases ox_some hr with ⟨E9, S9, hw2, rfl⟩ | ⟨w2, w2s, hw2, hr⟩
  · exact go_csX mm_139 rfl (av := [.int v1, .int (w1s.1 3 0)]) (rest := []) (nl := 2) rfl (show csX 139 12 158 175 2 2 = true by decide +kernel) rfl rfl rfl (S_175 hw2) (KX_E ⟨rfl, rfl, rfl⟩)
  refine go_csX mm_139 rfl (av := [.int v1, .int (w1s.1 3 0)]) (rest := []) (nl := 2) rfl (show csX 139 12 158 175 2 2 = true by decide +kernel) rfl rfl rfl (S_175 hw2) (KX_R ?_)
  show Go XC (d + 6) 139 0 15 [some (.ref 0), some (.int v1)] [] w2s (RXx vI r)
  refine go_run mm_139 2 (pc' := 19) (ls' := [some (.ref 0), some (.int v1)]) (st' := [.ref 32]) (S' := w2s) rfl ?_
  obtain ⟨w3, hw3, hr⟩ := ob_some hr
  refine go_cv mm_139 (h := 32) (As := []) (rest := []) (nl := 4) rfl rfl (show cvOK 139 19 228 95 0 4 8 = true by decide +kernel) rfl rfl rfl (S_95 hw3) (KP_V ?_)
  show Go XC (d + 6) 139 0 22 [some (.ref 0), some (.int v1)] [] w3.2 (RXx vI r)
  refine go_run mm_139 3 (pc' := 27) (ls' := [some (.ref 0), some (.int v1)]) (st' := [.int v1, .ref 32]) (S' := w3.2) rfl ?_
  obtain ⟨w4, hw4, hr⟩ := ob_some hr
  refine go_cv mm_139 (h := 32) (As := [.int v1]) (rest := []) (nl := 2) rfl rfl (show cvOK 139 27 235 92 1 2 8 = true by decide +kernel) rfl rfl rfl (S_92 hw4) (KP_V ?_)
  show Go XC (d + 6) 139 0 30 [some (.ref 0), some (.int v1)] [.int w4] w3.2 (RXx vI r)
  cases hr
  exact go_ireturn mm_139 rfl rfl ⟨rfl, rfl, rfl⟩

theorem mm_140 : mtG 140 = some (mi_140, 11, ft_140) := rfl
def F_140 (S : ST) : Option ((String ⊕ Int32) × ST) := ox (F_174 S) (fun w1 w1s => ob (F_95 w1s) (fun w2 => ob (F_93 w2.2) (fun w3 => some (.inr w3, w2.2))))
set_option maxRecDepth 20000 in
theorem S_140 {d : Nat} {S : ST} {r} (hr : F_140 S = some r) : Cal XC (d + 6) 140 [.ref 0] S (RXx vI r) := by
  unfold F_140 at hr
  refine cal_go 0 rfl ?_
  refine go_run mm_140 1 (pc' := 1) (ls' := [some (.ref 0)]) (st' := [.ref 0]) (S' := S) rfl ?_
  rcases ox_some hr with ⟨E9, S9, hw1, rfl⟩ | ⟨w1, w1s, hw1, hr⟩
  · exact go_cvX mm_140 rfl (h := 0) (As := []) (rest := []) (nl := 1) rfl rfl (show cvOK 140 1 155 174 0 1 10 = true by decide +kernel) rfl rfl rfl (S_174 hw1) (KX_E ⟨rfl, rfl, rfl⟩)
  refine go_cvX mm_140 rfl (h := 0) (As := []) (rest := []) (nl := 1) rfl rfl (show cvOK 140 1 155 174 0 1 10 = true by decide +kernel) rfl rfl rfl (S_174 hw1) (KX_R ?_)
  show Go XC (d + 6) 140 0 4 [some (.ref 0)] [] w1s (RXx vI r)
  refine go_run mm_140 2 (pc' := 8) (ls' := [some (.ref 0)]) (st' := [.ref 32]) (S' := w1s) rfl ?_
  obtain ⟨w2, hw2, hr⟩ := ob_some hr
  refine go_cv mm_140 (h := 32) (As := []) (rest := []) (nl := 4) rfl rfl (show cvOK 140 8 228 95 0 4 8 = true by decide +kernel) rfl rfl rfl (S_95 hw2) (KP_V ?_)
  show Go XC (d + 6) 140 0 11 [some (.ref 0)] [] w2.2 (RXx vI r)
  refine go_run mm_140 2 (pc' := 15) (ls' := [some (.ref 0)]) (st' := [.ref 32]) (S' := w2.2) rfl ?_
  obtain ⟨w3, hw3, hr⟩ := ob_some hr
  refine go_cv mm_140 (h := 32) (As := []) (rest := []) (nl := 4) rfl rfl (show cvOK 140 15 238 93 0 4 8 = true by decide +kernel) rfl rfl rfl (S_93 hw3) (KP_V ?_)
  show Go XC (d + 6) 140 0 18 [some (.ref 0)] [.int w3] w2.2 (RXx vI r)
  cases hr
  exact go_ireturn mm_140 rfl rfl ⟨rfl, rfl, rfl⟩

theorem mm_141 : mtG 141 = some (mi_141, 11, ft_141) := rfl
def F_141 (S : ST) : Option ((String ⊕ Int32) × ST) := ox (F_174 S) (fun w1 w1s => ob (F_66 w1s) (fun w2 => ob (F_1 w2.2) (fun w3 => some (.inr w3.1, w3.2))))
set_option maxRecDepth 20000 in
theorem S_141 {d : Nat} {S : ST} {r} (hr : F_141 S = some r) : Cal XC (d + 6) 141 [.ref 0] S (RXx vI r) := by
  unfold F_141 at hr
  refine cal_go 0 rfl ?_
  refine go_run mm_141 1 (pc' := 1) (ls' := [some (.ref 0)]) (st' := [.ref 0]) (S' := S) rfl ?_
  rcases ox_some hr with ⟨E9, S9, hw1, rfl⟩ | ⟨w1, w1s, hw1, hr⟩
  · exact go_cvX mm_141 rfl (h := 0) (As := []) (rest := []) (nl := 1) rfl rfl (show cvOK 141 1 155 174 0 1 10 = true by decide +kernel) rfl rfl rfl (S_174 hw1) (KX_E ⟨rfl, rfl, rfl⟩)
  refine go_cvX mm_141 rfl (h := 0) (As := []) (rest := []) (nl := 1) rfl rfl (show cvOK 141 1 155 174 0 1 10 = true by decide +kernel) rfl rfl rfl (S_174 hw1) (KX_R ?_)
  show Go XC (d + 6) 141 0 4 [some (.ref 0)] [] w1s (RXx vI r)
  refine go_run mm_141 2 (pc' := 8) (ls' := [some (.ref 0)]) (st' := [.ref 30]) (S' := w1s) rfl ?_
  obtain ⟨w2, hw2, hr⟩ := ob_some hr
  refine go_cv mm_141 (h := 30) (As := []) (rest := []) (nl := 2) rfl rfl (show cvOK 141 8 196 66 0 2 6 = true by decide +kernel) rfl rfl rfl (S_66 hw2) (KP_V ?_)
  show Go XC (d + 6) 141 0 11 [some (.ref 0)] [] w2.2 (RXx vI r)
  refine go_run mm_141 2 (pc' := 15) (ls' := [some (.ref 0)]) (st' := [.ref 39]) (S' := w2.2) rfl ?_
  obtain ⟨w3, hw3, hr⟩ := ob_some hr
  refine go_cv mm_141 (h := 39) (As := []) (rest := []) (nl := 2) rfl rfl (show cvOK 141 15 241 1 0 2 0 = true by decide +kernel) rfl rfl rfl (S_1 hw3) (KP_V ?_)
  show Go XC (d + 6) 141 0 18 [some (.ref 0)] [.int w3.1] w3.2 (RXx vI r)
  cases hr
  exact go_ireturn mm_141 rfl rfl ⟨rfl, rfl, rfl⟩

theorem mm_142 : mtG 142 = some (mi_142, 11, ft_142) := rfl
def F_142 (S : ST) : Option ((String ⊕ Int32) × ST) := ox (F_174 S) (fun w1 w1s => ob (F_66 w1s) (fun w2 => ob (F_2 w2.2) (fun w3 => some (.inr w3.1, w3.2))))
set_option maxRecDepth 20000 in
theorem S_142 {d : Nat} {S : ST} {r} (hr : F_142 S = some r) : Cal XC (d + 6) 142 [.ref 0] S (RXx vI r) := by
  unfold F_142 at hr
  refine cal_go 0 rfl ?_
  refine go_run mm_142 1 (pc' := 1) (ls' := [some (.ref 0)]) (st' := [.ref 0]) (S' := S) rfl ?_
  rcases ox_some hr with ⟨E9, S9, hw1, rfl⟩ | ⟨w1, w1s, hw1, hr⟩
  · exact go_cvX mm_142 rfl (h := 0) (As := []) (rest := []) (nl := 1) rfl rfl (show cvOK 142 1 155 174 0 1 10 = true by decide +kernel) rfl rfl rfl (S_174 hw1) (KX_E ⟨rfl, rfl, rfl⟩)
  refine go_cvX mm_142 rfl (h := 0) (As := []) (rest := []) (nl := 1) rfl rfl (show cvOK 142 1 155 174 0 1 10 = true by decide +kernel) rfl rfl rfl (S_174 hw1) (KX_R ?_)
  show Go XC (d + 6) 142 0 4 [some (.ref 0)] [] w1s (RXx vI r)
  refine go_run mm_142 2 (pc' := 8) (ls' := [some (.ref 0)]) (st' := [.ref 30]) (S' := w1s) rfl ?_
  obtain ⟨w2, hw2, hr⟩ := ob_some hr
  refine go_cv mm_142 (h := 30) (As := []) (rest := []) (nl := 2) rfl rfl (show cvOK 142 8 196 66 0 2 6 = true by decide +kernel) rfl rfl rfl (S_66 hw2) (KP_V ?_)
  show Go XC (d + 6) 142 0 11 [some (.ref 0)] [] w2.2 (RXx vI r)
  refine go_run mm_142 2 (pc' := 15) (ls' := [some (.ref 0)]) (st' := [.ref 39]) (S' := w2.2) rfl ?_
  obtain ⟨w3, hw3, hr⟩ := ob_some hr
  refine go_cv mm_142 (h := 39) (As := []) (rest := []) (nl := 2) rfl rfl (show cvOK 142 15 244 2 0 2 0 = true by decide +kernel) rfl rfl rfl (S_2 hw3) (KP_V ?_)
  show Go XC (d + 6) 142 0 18 [some (.ref 0)] [.int w3.1] w3.2 (RXx vI r)
  cases hr
  exact go_ireturn mm_142 rfl rfl ⟨rfl, rfl, rfl⟩

theorem mm_143 : mtG 143 = some (mi_143, 11, ft_143) := rfl
def F_143 (S : ST) : Option ((String ⊕ Int32) × ST) := ox (F_174 S) (fun w1 w1s => ob (F_66 w1s) (fun w2 => ob (F_5 w2.2) (fun w3 => some (.inr w3.1, w3.2))))
set_option maxRecDepth 20000 in
theorem S_143 {d : Nat} {S : ST} {r} (hr : F_143 S = some r) : Cal XC (d + 9) 143 [.ref 0] S (RXx vI r) := by
  unfold F_143 at hr
  refine cal_go 0 rfl ?_
  refine go_run mm_143 1 (pc' := 1) (ls' := [some (.ref 0)]) (st' := [.ref 0]) (S' := S) rfl ?_
  rcases ox_some hr with ⟨E9, S9, hw1, rfl⟩ | ⟨w1, w1s, hw1, hr⟩
  · exact go_cvX mm_143 rfl (h := 0) (As := []) (rest := []) (nl := 1) rfl rfl (show cvOK 143 1 155 174 0 1 10 = true by decide +kernel) rfl rfl rfl (S_174 hw1) (KX_E ⟨rfl, rfl, rfl⟩)
  refine go_cvX mm_143 rfl (h := 0) (As := []) (rest := []) (nl := 1) rfl rfl (show cvOK 143 1 155 174 0 1 10 = true by decide +kernel) rfl rfl rfl (S_174 hw1) (KX_R ?_)
  show Go XC (d + 9) 143 0 4 [some (.ref 0)] [] w1s (RXx vI r)
  refine go_run mm_143 2 (pc' := 8) (ls' := [some (.ref 0)]) (st' := [.ref 30]) (S' := w1s) rfl ?_
  obtain ⟨w2, hw2, hr⟩ := ob_some hr
  refine go_cv mm_143 (h := 30) (As := []) (rest := []) (nl := 2) rfl rfl (show cvOK 143 8 196 66 0 2 6 = true by decide +kernel) rfl rfl rfl (S_66 hw2) (KP_V ?_)
  show Go XC (d + 9) 143 0 11 [some (.ref 0)] [] w2.2 (RXx vI r)
  refine go_run mm_143 2 (pc' := 15) (ls' := [some (.ref 0)]) (st' := [.ref 39]) (S' := w2.2) rfl ?_
  obtain ⟨w3, hw3, hr⟩ := ob_some hr
  refine go_cv mm_143 (h := 39) (As := []) (rest := []) (nl := 2) rfl rfl (show cvOK 143 15 247 5 0 2 0 = true by decide +kernel) rfl rfl rfl (S_5 hw3) (KP_V ?_)
  show Go XC (d + 9) 143 0 18 [some (.ref 0)] [.int w3.1] w3.2 (RXx vI r)
  cases hr
  exact go_ireturn mm_143 rfl rfl ⟨rfl, rfl, rfl⟩

theorem mm_144 : mtG 144 = some (mi_144, 11, ft_144) := rfl
def F_144 (v1 : Int32) (S : ST) : Option ((String ⊕ Int32) × ST) := ox (F_174 S) (fun w1 w1s => ob (F_66 w1s) (fun w2 => ob (F_5 w2.2) (fun w3 => ox (F_175 v1 w3.1 w3.2) (fun w4 w4s => ob (F_6 v1 w4s) (fun w5 => some (.inr w5, w4s))))))
set_option maxRecDepth 20000 in
theorem S_144 {d : Nat} {S : ST} {v1 : Int32} {r} (hr : F_144 v1 S = some r) : Cal XC (d + 9) 144 [.ref 0, .int v1] S (RXx vI r) := by
  unfold F_144 at hr
  refine cal_go 0 rfl ?_
  refine go_run mm_144 1 (pc' := 1) (ls' := [some (.ref 0), some (.int v1)]) (st' := [.ref 0]) (S' := S) rfl ?_
  rcases ox_some hr with ⟨E9, S9, hw1, rfl⟩ | ⟨w1, w1s, hw1, hr⟩
  · exact go_cvX mm_144 rfl (h := 0) (As := []) (rest := []) (nl := 1) rfl rfl (show cvOK 144 1 155 174 0 1 10 = true by decide +kernel) rfl rfl rfl (S_174 hw1) (KX_E ⟨rfl, rfl, rfl⟩)
  refine go_cvX mm_144 rfl (h := 0) (As := []) (rest := []) (nl := 1) rfl rfl (show cvOK 144 1 155 174 0 1 10 = true by decide +kernel) rfl rfl rfl (S_174 hw1) (KX_R ?_)
  show Go XC (d + 9) 144 0 4 [some (.ref 0), some (.int v1)] [] w1s (RXx vI r)
  refine go_run mm_144 2 (pc' := 8) (ls' := [some (.ref 0), some (.int v1)]) (st' := [.ref 30]) (S' := w1s) rfl ?_
  obtain ⟨w2, hw2, hr⟩ := ob_some hr
  refine go_cv mm_144 (h := 30) (As := []) (rest := []) (nl := 2) rfl rfl (show cvOK 144 8 196 66 0 2 6 = true by decide +kernel) rfl rfl rfl (S_66 hw2) (KP_V ?_)
  show Go XC (d + 9) 144 0 11 [some (.ref 0), some (.int v1)] [] w2.2 (RXx vI r)
  refine go_run mm_144 3 (pc' := 16) (ls' := [some (.ref 0), some (.int v1)]) (st' := [.ref 39, .int v1]) (S' := w2.2) rfl ?_
  obtain ⟨w3, hw3, hr⟩ := ob_some hr
  refine go_cv mm_144 (h := 39) (As := []) (rest := [.int v1]) (nl := 2) rfl rfl (show cvOK 144 16 247 5 0 2 0 = true by decide +kernel) rfl rfl rfl (S_5 hw3) (KP_V ?_)
  show Go XC (d + 9) 144 0 19 [some (.ref 0), some (.int v1)] [.int w3.1, .int v1] w3.2 (RXx vI r)
  rcases ox_some hr with ⟨E9, S9, hw4, rfl⟩ | ⟨w4, w4s, hw4, hr⟩
  · exact go_csX mm_144 rfl (av := [.int v1, .int w3.1]) (rest := []) (nl := 2) rfl (show csX 144 19 158 175 2 2 = true by decide +kernel) rfl rfl rfl (S_175 hw4) (KX_E ⟨rfl, rfl, rfl⟩)
  refine go_csX mm_144 rfl (av := [.int v1, .int w3.1]) (rest := []) (nl := 2) rfl (show csX 144 19 158 175 2 2 = true by decide +kernel) rfl rfl rfl (S_175 hw4) (KX_R ?_)
  show Go XC (d + 9) 144 0 22 [some (.ref 0), some (.int v1)] [] w4s (RXx vI r)
  refine go_run mm_144 3 (pc' := 27) (ls' := [some (.ref 0), some (.int v1)]) (st' := [.int v1, .ref 39]) (S' := w4s) rfl ?_
  obtain ⟨w5, hw5, hr⟩ := ob_some hr
  refine go_cv mm_144 (h := 39) (As := [.int v1]) (rest := []) (nl := 2) rfl rfl (show cvOK 144 27 250 6 1 2 0 = true by decide +kernel) rfl rfl rfl (S_6 hw5) (KP_V ?_)
  show Go XC (d + 9) 144 0 30 [some (.ref 0), some (.int v1)] [.int w5] w4s (RXx vI r)
  cases hr
  exact go_ireturn mm_144 rfl rfl ⟨rfl, rfl, rfl⟩

theorem mm_145 : mtG 145 = some (mi_145, 11, ft_145) := rfl
def F_145 (S : ST) : Option ((String ⊕ Int32) × ST) := ox (F_174 S) (fun w1 w1s => ob (F_66 w1s) (fun w2 => ob (F_81 w2.2) (fun w3 => some (.inr w3.1, w3.2))))
set_option maxRecDepth 20000 in
theorem S_145 {d : Nat} {S : ST} {r} (hr : F_145 S = some r) : Cal XC (d + 9) 145 [.ref 0] S (RXx vI r) := by
  unfold F_145 at hr
  refine cal_go 0 rfl ?_
  refine go_run mm_145 1 (pc' := 1) (ls' := [some (.ref 0)]) (st' := [.ref 0]) (S' := S) rfl ?_
  rcases ox_some hr with ⟨E9, S9, hw1, rfl⟩ | ⟨w1, w1s, hw1, hr⟩
  · exact go_cvX mm_145 rfl (h := 0) (As := []) (rest := []) (nl := 1) rfl rfl (show cvOK 145 1 155 174 0 1 10 = true by decide +kernel) rfl rfl rfl (S_174 hw1) (KX_E ⟨rfl, rfl, rfl⟩)
  refine go_cvX mm_145 rfl (h := 0) (As := []) (rest := []) (nl := 1) rfl rfl (show cvOK 145 1 155 174 0 1 10 = true by decide +kernel) rfl rfl rfl (S_174 hw1) (KX_R ?_)
  show Go XC (d + 9) 145 0 4 [some (.ref 0)] [] w1s (RXx vI r)
  refine go_run mm_145 2 (pc' := 8) (ls' := [some (.ref 0)]) (st' := [.ref 30]) (S' := w1s) rfl ?_
  obtain ⟨w2, hw2, hr⟩ := ob_some hr
  refine go_cv mm_145 (h := 30) (As := []) (rest := []) (nl := 2) rfl rfl (show cvOK 145 8 196 66 0 2 6 = true by decide +kernel) rfl rfl rfl (S_66 hw2) (KP_V ?_)
  show Go XC (d + 9) 145 0 11 [some (.ref 0)] [] w2.2 (RXx vI r)
  refine go_run mm_145 2 (pc' := 15) (ls' := [some (.ref 0)]) (st' := [.ref 43]) (S' := w2.2) rfl ?_
  obtain ⟨w3, hw3, hr⟩ := ob_some hr
  refine go_cv mm_145 (h := 43) (As := []) (rest := []) (nl := 2) rfl rfl (show cvOK 145 15 253 81 0 2 7 = true by decide +kernel) rfl rfl rfl (S_81 hw3) (KP_V ?_)
  show Go XC (d + 9) 145 0 18 [some (.ref 0)] [.int w3.1] w3.2 (RXx vI r)
  cases hr
  exact go_ireturn mm_145 rfl rfl ⟨rfl, rfl, rfl⟩

theorem mm_146 : mtG 146 = some (mi_146, 11, ft_146) := rfl
def F_146 (v1 : Int32) (S : ST) : Option ((String ⊕ Int32) × ST) := ox (F_174 S) (fun w1 w1s => ob (F_66 w1s) (fun w2 => ob (F_81 w2.2) (fun w3 => ox (F_175 v1 w3.1 w3.2) (fun w4 w4s => ob (F_82 v1 w4s) (fun w5 => some (.inr w5, w4s))))))
set_option maxRecDepth 20000 in
theorem S_146 {d : Nat} {S : ST} {v1 : Int32} {r} (hr : F_146 v1 S = some r) : Cal XC (d + 9) 146 [.ref 0, .int v1] S (RXx vI r) := by
  unfold F_146 at hr
  refine cal_go 0 rfl ?_
  refine go_run mm_146 1 (pc' := 1) (ls' := [some (.ref 0), some (.int v1)]) (st' := [.ref 0]) (S' := S) rfl ?_
  rcases ox_some hr with ⟨E9, S9, hw1, rfl⟩ | ⟨w1, w1s, hw1, hr⟩
  · exact go_cvX mm_146 rfl (h := 0) (As := []) (rest := []) (nl := 1) rfl rfl (show cvOK 146 1 155 174 0 1 10 = true by decide +kernel) rfl rfl rfl (S_174 hw1) (KX_E ⟨rfl, rfl, rfl⟩)
  refine go_cvX mm_146 rfl (h := 0) (As := []) (rest := []) (nl := 1) rfl rfl (show cvOK 146 1 155 174 0 1 10 = true by decide +kernel) rfl rfl rfl (S_174 hw1) (KX_R ?_)
  show Go XC (d + 9) 146 0 4 [some (.ref 0), some (.int v1)] [] w1s (RXx vI r)
  refine go_run mm_146 2 (pc' := 8) (ls' := [some (.ref 0), some (.int v1)]) (st' := [.ref 30]) (S' := w1s) rfl ?_
  obtain ⟨w2, hw2, hr⟩ := ob_some hr
  refine go_cv mm_146 (h := 30) (As := []) (rest := []) (nl := 2) rfl rfl (show cvOK 146 8 196 66 0 2 6 = true by decide +kernel) rfl rfl rfl (S_66 hw2) (KP_V ?_)
  show Go XC (d + 9) 146 0 11 [some (.ref 0), some (.int v1)] [] w2.2 (RXx vI r)
  refine go_run mm_146 3 (pc' := 16) (ls' := [some (.ref 0), some (.int v1)]) (st' := [.ref 43, .int v1]) (S' := w2.2) rfl ?_
  obtain ⟨w3, hw3, hr⟩ := ob_some hr
  refine go_cv mm_146 (h := 43) (As := []) (rest := [.int v1]) (nl := 2) rfl rfl (show cvOK 146 16 253 81 0 2 7 = true by decide +kernel) rfl rfl rfl (S_81 hw3) (KP_V ?_)
  show Go XC (d + 9) 146 0 19 [some (.ref 0), some (.int v1)] [.int w3.1, .int v1] w3.2 (RXx vI r)
  rcases ox_some hr with ⟨E9, S9, hw4, rfl⟩ | ⟨w4, w4s, hw4, hr⟩
  · exact go_csX mm_146 rfl (av := [.int v1, .int w3.1]) (rest := []) (nl := 2) rfl (show csX 146 19 158 175 2 2 = true by decide +kernel) rfl rfl rfl (S_175 hw4) (KX_E ⟨rfl, rfl, rfl⟩)
  refine go_csX mm_146 rfl (av := [.int v1, .int w3.1]) (rest := []) (nl := 2) rfl (show csX 146 19 158 175 2 2 = true by decide +kernel) rfl rfl rfl (S_175 hw4) (KX_R ?_)
  show Go XC (d + 9) 146 0 22 [some (.ref 0), some (.int v1)] [] w4s (RXx vI r)
  refine go_run mm_146 3 (pc' := 27) (ls' := [some (.ref 0), some (.int v1)]) (st' := [.int v1, .ref 43]) (S' := w4s) rfl ?_
  obtain ⟨w5, hw5, hr⟩ := ob_some hr
  refine go_cv mm_146 (h := 43) (As := [.int v1]) (rest := []) (nl := 2) rfl rfl (show cvOK 146 27 256 82 1 2 7 = true by decide +kernel) rfl rfl rfl (S_82 hw5) (KP_V ?_)
  show Go XC (d + 9) 146 0 30 [some (.ref 0), some (.int v1)] [.int w5] w4s (RXx vI r)
  cases hr
  exact go_ireturn mm_146 rfl rfl ⟨rfl, rfl, rfl⟩

theorem mm_147 : mtG 147 = some (mi_147, 11, ft_147) := rfl
def F_147 (S : ST) : Option ((String ⊕ Int32) × ST) := ox (F_174 S) (fun w1 w1s => ob (F_66 w1s) (fun w2 => ob (F_84 w2.2) (fun w3 => some (.inr w3.1, w3.2))))
set_option maxRecDepth 20000 in
theorem S_147 {d : Nat} {S : ST} {r} (hr : F_147 S = some r) : Cal XC (d + 21) 147 [.ref 0] S (RXx vI r) := by
  unfold F_147 at hr
  refine cal_go 0 rfl ?_
  refine go_run mm_147 1 (pc' := 1) (ls' := [some (.ref 0)]) (st' := [.ref 0]) (S' := S) rfl ?_
  rcases ox_some hr with ⟨E9, S9, hw1, rfl⟩ | ⟨w1, w1s, hw1, hr⟩
  · exact go_cvX mm_147 rfl (h := 0) (As := []) (rest := []) (nl := 1) rfl rfl (show cvOK 147 1 155 174 0 1 10 = true by decide +kernel) rfl rfl rfl (S_174 hw1) (KX_E ⟨rfl, rfl, rfl⟩)
  refine go_cvX mm_147 rfl (h := 0) (As := []) (rest := []) (nl := 1) rfl rfl (show cvOK 147 1 155 174 0 1 10 = true by decide +kernel) rfl rfl rfl (S_174 hw1) (KX_R ?_)
  show Go XC (d + 21) 147 0 4 [some (.ref 0)] [] w1s (RXx vI r)
  refine go_run mm_147 2 (pc' := 8) (ls' := [some (.ref 0)]) (st' := [.ref 30]) (S' := w1s) rfl ?_
  obtain ⟨w2, hw2, hr⟩ := ob_some hr
  refine go_cv mm_147 (h := 30) (As := []) (rest := []) (nl := 2) rfl rfl (show cvOK 147 8 196 66 0 2 6 = true by decide +kernel) rfl rfl rfl (S_66 hw2) (KP_V ?_)
  show Go XC (d + 21) 147 0 11 [some (.ref 0)] [] w2.2 (RXx vI r)
  refine go_run mm_147 2 (pc' := 15) (ls' := [some (.ref 0)]) (st' := [.ref 43]) (S' := w2.2) rfl ?_
  obtain ⟨w3, hw3, hr⟩ := ob_some hr
  refine go_cv mm_147 (h := 43) (As := []) (rest := []) (nl := 1) rfl rfl (show cvOK 147 15 259 84 0 1 7 = true by decide +kernel) rfl rfl rfl (S_84 hw3) (KP_V ?_)
  show Go XC (d + 21) 147 0 18 [some (.ref 0)] [.int w3.1] w3.2 (RXx vI r)
  cases hr
  exact go_ireturn mm_147 rfl rfl ⟨rfl, rfl, rfl⟩

theorem mm_148 : mtG 148 = some (mi_148, 11, ft_148) := rfl
def F_148 (S : ST) : Int32 := S.1 3 1
set_option maxRecDepth 20000 in
theorem S_148 {d : Nat} {S : ST} {r} (hr : F_148 S = r) : Cal XC d 148 [.ref 0] S (RV (vI r) S) := by
  unfold F_148 at hr
  refine cal_go 0 rfl ?_
  refine go_run mm_148 3 (pc' := 7) (ls' := [some (.ref 0)]) (st' := [.int (S.1 3 1)]) (S' := S) rfl ?_
  cases hr
  exact go_ireturn mm_148 rfl rfl ⟨rfl, rfl, rfl⟩

theorem mm_149 : mtG 149 = some (mi_149, 11, ft_149) := rfl
def F_149 (v1 : Int32) (S : ST) : Option ((String ⊕ Int32) × ST) := ox (F_174 S) (fun w1 w1s => ox (F_175 v1 (w1s.1 3 1) w1s) (fun w2 w2s => ob (F_104 v1 w2s) (fun w3 => some (.inr w3, w2s))))
set_option maxRecDepth 20000 in
theorem S_149 {d : Nat} {S : ST} {v1 : Int32} {r} (hr : F_149 v1 S = some r) : Cal XC (d + 2) 149 [.ref 0, .int v1] S (RXx vI r) := by
  unfold F_149 at hr
  refine cal_go 0 rfl ?_
  refine go_run mm_149 1 (pc' := 1) (ls' := [some (.ref 0), some (.int v1)]) (st' := [.ref 0]) (S' := S) rfl ?_
  rcases ox_some hr with ⟨E9, S9, hw1, rfl⟩ | ⟨w1, w1s, hw1, hr⟩
  · exact go_cvX mm_149 rfl (h := 0) (As := []) (rest := []) (nl := 1) rfl rfl (show cvOK 149 1 155 174 0 1 10 = true by decide +kernel) rfl rfl rfl (S_174 hw1) (KX_E ⟨rfl, rfl, rfl⟩)
  refine go_cvX mm_149 rfl (h := 0) (As := []) (rest := []) (nl := 1) rfl rfl (show cvOK 149 1 155 174 0 1 10 = true by decide +kernel) rfl rfl rfl (S_174 hw1) (KX_R ?_)
  show Go XC (d + 2) 149 0 4 [some (.ref 0), some (.int v1)] [] w1s (RXx vI r)
  refine go_run mm_149 4 (pc' := 12) (ls' := [some (.ref 0), some (.int v1)]) (st' := [.int (w1s.1 3 1), .int v1]) (S' := w1s) rfl ?_
  rcases ox_some hr with ⟨E9, S9, hw2, rfl⟩ | ⟨w2, w2s, hw2, hr⟩
  · exact go_csX mm_149 rfl (av := [.int v1, .int (w1s.1 3 1)]) (rest := []) (nl := 2) rfl (show csX 149 12 158 175 2 2 = true by decide +kernel) rfl rfl rfl (S_175 hw2) (KX_E ⟨rfl, rfl, rfl⟩)
  refine go_csX mm_149 rfl (av := [.int v1, .int (w1s.1 3 1)]) (rest := []) (nl := 2) rfl (show csX 149 12 158 175 2 2 = true by decide +kernel) rfl rfl rfl (S_175 hw2) (KX_R ?_)
  show Go XC (d + 2) 149 0 15 [some (.ref 0), some (.int v1)] [] w2s (RXx vI r)
  refine go_run mm_149 3 (pc' := 20) (ls' := [some (.ref 0), some (.int v1)]) (st' := [.int v1, .ref 46]) (S' := w2s) rfl ?_
  obtain ⟨w3, hw3, hr⟩ := ob_some hr
  refine go_cv mm_149 (h := 46) (As := [.int v1]) (rest := []) (nl := 2) rfl rfl (show cvOK 149 20 265 104 1 2 9 = true by decide +kernel) rfl rfl rfl (S_104 hw3) (KP_V ?_)
  show Go XC (d + 2) 149 0 23 [some (.ref 0), some (.int v1)] [.int w3] w2s (RXx vI r)
  cases hr
  exact go_ireturn mm_149 rfl rfl ⟨rfl, rfl, rfl⟩

theorem mm_150 : mtG 150 = some (mi_150, 11, ft_150) := rfl
def F_150 (v1 : Int32) (S : ST) : Option ((String ⊕ Int32) × ST) := ox (F_174 S) (fun w1 w1s => ox (F_175 v1 (w1s.1 3 1) w1s) (fun w2 w2s => ob (F_54 3 v1 w2s) (fun w3 => some (.inr w3, w2s))))
set_option maxRecDepth 20000 in
theorem S_150 {d : Nat} {S : ST} {v1 : Int32} {r} (hr : F_150 v1 S = some r) : Cal XC (d + 1) 150 [.ref 0, .int v1] S (RXx vI r) := by
  unfold F_150 at hr
  refine cal_go 0 rfl ?_
  refine go_run mm_150 1 (pc' := 1) (ls' := [some (.ref 0), some (.int v1)]) (st' := [.ref 0]) (S' := S) rfl ?_
  rcases ox_some hr with ⟨E9, S9, hw1, rfl⟩ | ⟨w1, w1s, hw1, hr⟩
  · exact go_cvX mm_150 rfl (h := 0) (As := []) (rest := []) (nl := 1) rfl rfl (show cvOK 150 1 155 174 0 1 10 = true by decide +kernel) rfl rfl rfl (S_174 hw1) (KX_E ⟨rfl, rfl, rfl⟩)
  refine go_cvX mm_150 rfl (h := 0) (As := []) (rest := []) (nl := 1) rfl rfl (show cvOK 150 1 155 174 0 1 10 = true by decide +kernel) rfl rfl rfl (S_174 hw1) (KX_R ?_)
  show Go XC (d + 1) 150 0 4 [some (.ref 0), some (.int v1)] [] w1s (RXx vI r)
  refine go_run mm_150 4 (pc' := 12) (ls' := [some (.ref 0), some (.int v1)]) (st' := [.int (w1s.1 3 1), .int v1]) (S' := w1s) rfl ?_
  rcases ox_some hr with ⟨E9, S9, hw2, rfl⟩ | ⟨w2, w2s, hw2, hr⟩
  · exact go_csX mm_150 rfl (av := [.int v1, .int (w1s.1 3 1)]) (rest := []) (nl := 2) rfl (show csX 150 12 158 175 2 2 = true by decide +kernel) rfl rfl rfl (S_175 hw2) (KX_E ⟨rfl, rfl, rfl⟩)
  refine go_csX mm_150 rfl (av := [.int v1, .int (w1s.1 3 1)]) (rest := []) (nl := 2) rfl (show csX 150 12 158 175 2 2 = true by decide +kernel) rfl rfl rfl (S_175 hw2) (KX_R ?_)
  show Go XC (d + 1) 150 0 15 [some (.ref 0), some (.int v1)] [] w2s (RXx vI r)
  refine go_run mm_150 3 (pc' := 20) (ls' := [some (.ref 0), some (.int v1)]) (st' := [.int v1, .ref 3]) (S' := w2s) rfl ?_
  obtain ⟨w3, hw3, hr⟩ := ob_some hr
  refine go_cv mm_150 (h := 3) (As := [.int v1]) (rest := []) (nl := 2) rfl rfl (show cvOK 150 20 268 54 1 2 5 = true by decide +kernel) rfl rfl rfl (S_54 (plB_ok rfl) hw3) (KP_V ?_)
  show Go XC (d + 1) 150 0 23 [some (.ref 0), some (.int v1)] [.int w3] w2s (RXx vI r)
  cases hr
  exact go_ireturn mm_150 rfl rfl ⟨rfl, rfl, rfl⟩
