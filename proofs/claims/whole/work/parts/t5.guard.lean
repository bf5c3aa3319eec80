/-! guards, witnesses, hidden points: the searches end -/
/-- the number of a place of the polygon -/
theorem at_pt {S : ST} (h : Ld S) {x y : Int32} (hc : ge_cl 1 (rL S 141) (x.toInt, y.toInt)) : ∃ p, p < nP S ∧ f_215 S x y = nJ p ∧ pt S p = (x.toInt, y.toInt) := by
  obtain ⟨g1, g2, g3⟩ := GR_simple h.1
  have b := cl_box g2 g1 (GR_box h.1) hc
  have b1 : 0 ≤ x.toInt := b.1
  have b2 : x.toInt ≤ 15 := b.2.1
  have b3 : 0 ≤ y.toInt := b.2.2.1
  have b4 : y.toInt ≤ 15 := b.2.2.2
  have ex : x = nJ x.toInt.toNat := nJ_of b1
  have ey : y = nJ y.toInt.toNat := nJ_of b3
  generalize hxn : x.toInt.toNat = X at *
  generalize hyn : y.toInt.toNat = Y at *
  have ht : 16 * Y + X < 256 := by omega
  have el : lxy (16 * Y + X) = (x.toInt, y.toInt) := by
    unfold lxy
    refine Prod.ext ?_ ?_
    · show (((16 * Y + X) % 16 : Nat) : Int) = x.toInt
      omega
    · show (((16 * Y + X) / 16 : Nat) : Int) = y.toInt
      omega
  have hin : inp S 141 (16 * Y + X) = true := (inp_t h.1 ht).mpr (by rw [el]; exact hc)
  obtain ⟨a1, a2, a3⟩ := (h.2.2.1 _ ht).1 hin
  refine ⟨rk (inp S 141) (16 * Y + X), rk_lt ht hin, ?_, ?_⟩
  · unfold f_215
    have q1 : f_182 x 0 15 = true := f182_t.mpr ⟨b1, b2⟩
    have q2 : f_182 y 0 15 = true := f182_t.mpr ⟨b3, b4⟩
    rw [if_pos q1, if_pos q2, ex, ey]
    show S.1 149 (Int32.toNatClampNeg ((nJ 16 * nJ Y) + nJ X)) = _
    rw [nJ_mul, nJ_add, nJ_ix (by omega), a3]
  · unfold pt
    rw [a1, a2, nJ_toInt (by omega), nJ_toInt (by omega)]
    exact el
theorem vx_cl {S : ST} {h i : Nat} (g : GR S h) (hi : i < rN S h) : ge_cl 1 (rL S h) (rP S h i) := by
  have := ge_cl_v (k := 1) (by have := (GR_simple g).2.1; omega) (show rP S h i ∈ rL S h from ge_pl_mem.mpr ⟨i, hi, rfl⟩)
  rw [ge_s_1] at this
  exact this
theorem mm_240 : mtG 240 = some (mi_240, 12, ft_240) := rfl
def f_240 (S : ST) (v1 : Int32) : Int32 := f_215 S (ra S 141 (3 + v1)) (ra S 141 (15 + v1))
theorem b_240_0 {d c : Nat} {R : RT} {S : ST} {v1 : Int32} (o1 : inB (3 + v1) 63) (o2 : inB (15 + v1) 63) (e1 : R c (.inr (some (.int (f_215 S (ra S 141 (3 + v1)) (ra S 141 (15 + v1)))))) S) : Go XM (d + 2) 240 c 0 [some (.ref 140), some (.int v1)] [] S R := by
  refine go_run mm_240 6 (pc' := 8) (ls' := [some (.ref 140), some (.int v1)]) (st' := [.int (3 + v1), .ref 141, .ref 140]) (S' := S) rfl ?_
  refine go_iaload mm_240 (q := (Int32.toNatClampNeg (3 + v1))) rfl rfl rfl (o1) ?_
  refine go_run mm_240 5 (pc' := 17) (ls' := [some (.ref 140), some (.int v1)]) (st' := [.int (15 + v1), .ref 141, .int (ra S 141 (3 + v1)), .ref 140]) (S' := S) rfl ?_
  refine go_iaload mm_240 (q := (Int32.toNatClampNeg (15 + v1))) rfl rfl rfl (o2) ?_
  refine go_cv mm_240 (h := 140) (As := [.int (ra S 141 (3 + v1)), .int (ra S 141 (15 + v1))]) (rest := []) (nl := 3) rfl XM_140 (show cvOK 240 18 257 215 2 3 11 = true by decide +kernel) rfl rfl rfl (sq_215) (KP_V ?_)
  exact go_ireturn mm_240 rfl rfl (e1)
theorem sp_240 {d : Nat} {S : ST} {v1 : Int32} (o1 : inB (3 + v1) 63) (o2 : inB (15 + v1) 63) : Cal XM (d + 2) 240 [.ref 140, .int v1] S (RV (some (.int (f_240 S v1))) S) := by
  refine cal_go 0 rfl (b_240_0 o1 o2 ?_)
  · exact ⟨rfl, rfl, rfl⟩
theorem sq_240 {d : Nat} {S : ST} {v1 : Int32} (h : RI S 141 v1) : Cal XM (d + 2) 240 [.ref 140, .int v1] S (RV (some (.int (f_240 S v1))) S) := sp_240 (RI_3 h) (RI_15 h)
theorem f240_t {S : ST} (h : Ld S) {i : Nat} (hi : i < rN S 141) : ∃ p, p < nP S ∧ f_240 S (nJ i) = nJ p := by
  have h12 := h.1.1.2
  obtain ⟨p, p1, p2, -⟩ := at_pt h (x := S.1 141 (3 + i)) (y := S.1 141 (15 + i)) (vx_cl h.1 hi)
  refine ⟨p, p1, ?_⟩
  unfold f_240
  rw [ra_3 S 141 (by omega), ra_15 S 141 (by omega)]
  exact p2
theorem mm_259 : mtG 259 = some (mi_259, 12, ft_259) := rfl
set_option maxRecDepth 20000 in
theorem b_259_0 {d c : Nat} {R : RT} {S : ST} {v1 : Bool} (e1 : Go XM (d + 7) 259 c 1 [some (.ref 140), some (.int (b2i v1)), none, none, none, none, none] [.ref 140] S R) : Go XM (d + 7) 259 c 0 [some (.ref 140), some (.int (b2i v1)), none, none, none, none, none] [] S R := by
  refine go_run mm_259 1 (pc' := 1) (ls' := [some (.ref 140), some (.int (b2i v1)), none, none, none, none, none]) (st' := [.ref 140]) (S' := S) rfl ?_
  exact e1
set_option maxRecDepth 20000 in
theorem b_259_4 {d c : Nat} {R : RT} {S : ST} {v1 : Bool} (e1 : Go XM (d + 7) 259 c 8 [some (.ref 140), some (.int (b2i v1)), some (.int 0), some (.int 1), none, none, none] [] S R) : Go XM (d + 7) 259 c 4 [some (.ref 140), some (.int (b2i v1)), none, none, none, none, none] [] S R := by
  refine go_run mm_259 4 (pc' := 8) (ls' := [some (.ref 140), some (.int (b2i v1)), some (.int 0), some (.int 1), none, none, none]) (st' := []) (S' := S) rfl ?_
  exact e1
set_option maxRecDepth 20000 in
theorem b_259_8 {d c : Nat} {R : RT} {S : ST} {v1 : Bool} {v2 : Int32} {v3 : Int32} (e1 : v3 < (1 <<< ((S.1 141 0) &&& 31)) → v2 = 0 → Go XM (d + 7) 259 c 46 [some (.ref 140), some (.int (b2i v1)), some (.int v2), some (.int v3), some (.long 0), none, some (.int 0)] [] S R) (e2 : v3 < (1 <<< ((S.1 141 0) &&& 31)) → ¬ v2 = 0 → (f_218 (Int32.toInt64 v3)) < (f_218 (Int32.toInt64 v2)) → Go XM (d + 7) 259 c 46 [some (.ref 140), some (.int (b2i v1)), some (.int v2), some (.int v3), some (.long 0), none, some (.int 0)] [] S R) (e3 : v3 < (1 <<< ((S.1 141 0) &&& 31)) → ¬ v2 = 0 → ¬ (f_218 (Int32.toInt64 v3)) < (f_218 (Int32.toInt64 v2)) → Go XM (d + 7) 259 c 8 [some (.ref 140), some (.int (b2i v1)), some (.int v2), some (.int (v3 + 1)), none, none, none] [] S R) (e4 : ¬ v3 < (1 <<< ((S.1 141 0) &&& 31)) → R c (.inr (some (.int v2))) S) : Go XM (d + 7) 259 c 8 [some (.ref 140), some (.int (b2i v1)), some (.int v2), some (.int v3), none, none, none] [] S R := by
  refine go_run mm_259 5 (pc' := 15) (ls' := [some (.ref 140), some (.int (b2i v1)), some (.int v2), some (.int v3), none, none, none]) (st' := [.int 0, .ref 141, .int 1, .int v3]) (S' := S) rfl ?_
  refine go_iaload mm_259 (q := 0) rfl rfl rfl (inB_lit rfl) ?_
  refine go_run mm_259 1 (pc' := 17) (ls' := [some (.ref 140), some (.int (b2i v1)), some (.int v2), some (.int v3), none, none, none]) (st' := [.int (1 <<< ((S.1 141 0) &&& 31)), .int v3]) (S' := S) rfl ?_
  refine go_if2 mm_259 rfl (p1 := 20) (p2 := 129) rfl (fun (hc1 : v3 < (1 <<< ((S.1 141 0) &&& 31))) => ?_) (fun (hc1 : ¬ v3 < (1 <<< ((S.1 141 0) &&& 31))) => ?_)
  · refine go_run mm_259 1 (pc' := 21) (ls' := [some (.ref 140), some (.int (b2i v1)), some (.int v2), some (.int v3), none, none, none]) (st' := [.int v2]) (S' := S) rfl ?_
    refine go_if0 mm_259 rfl (p1 := 40) (p2 := 24) rfl (fun (hc2 : v2 = 0) => ?_) (fun (hc2 : ¬ v2 = 0) => ?_)
    · refine go_run mm_259 4 (pc' := 46) (ls' := [some (.ref 140), some (.int (b2i v1)), some (.int v2), some (.int v3), some (.long 0), none, some (.int 0)]) (st' := []) (S' := S) rfl ?_
      exact e1 hc1 hc2
    · refine go_run mm_259 2 (pc' := 26) (ls' := [some (.ref 140), some (.int (b2i v1)), some (.int v2), some (.int v3), none, none, none]) (st' := [.long (Int32.toInt64 v3)]) (S' := S) rfl ?_
      refine go_cs mm_259 (av := [.long (Int32.toInt64 v3)]) (rest := []) (nl := 5) rfl (show csOK 259 26 313 218 1 5 = true by decide +kernel) rfl rfl rfl (sq_218) (KP_V ?_)
      refine go_run mm_259 2 (pc' := 31) (ls' := [some (.ref 140), some (.int (b2i v1)), some (.int v2), some (.int v3), none, none, none]) (st' := [.long (Int32.toInt64 v2), .int (f_218 (Int32.toInt64 v3))]) (S' := S) rfl ?_
      refine go_cs mm_259 (av := [.long (Int32.toInt64 v2)]) (rest := [.int (f_218 (Int32.toInt64 v3))]) (nl := 5) rfl (show csOK 259 31 313 218 1 5 = true by decide +kernel) rfl rfl rfl (sq_218) (KP_V ?_)
      refine go_if2 mm_259 rfl (p1 := 40) (p2 := 37) rfl (fun (hc3 : (f_218 (Int32.toInt64 v3)) < (f_218 (Int32.toInt64 v2))) => ?_) (fun (hc3 : ¬ (f_218 (Int32.toInt64 v3)) < (f_218 (Int32.toInt64 v2))) => ?_)
      · refine go_run mm_259 4 (pc' := 46) (ls' := [some (.ref 140), some (.int (b2i v1)), some (.int v2), some (.int v3), some (.long 0), none, some (.int 0)]) (st' := []) (S' := S) rfl ?_
        exact e2 hc1 hc2 hc3
      · refine go_run mm_259 3 (pc' := 8) (ls' := [some (.ref 140), some (.int (b2i v1)), some (.int v2), some (.int (v3 + 1)), none, none, none]) (st' := []) (S' := S) rfl ?_
        exact e3 hc1 hc2 hc3
  · refine go_run mm_259 1 (pc' := 130) (ls' := [some (.ref 140), some (.int (b2i v1)), some (.int v2), some (.int v3), none, none, none]) (st' := [.int v2]) (S' := S) rfl ?_
    exact go_ireturn mm_259 rfl rfl (e4 hc1)
set_option maxRecDepth 20000 in
theorem b_259_46 {d c : Nat} {R : RT} {S : ST} {v1 : Bool} {v2 : Int32} {v3 : Int32} {v4 : Int64} {v6 : Int32} (o1 : v6 < (S.1 141 0) → (f_217 (Int32.toInt64 v3) v6) = true → v1 = true → inB v6 12) (o2 : v6 < (S.1 141 0) → (f_217 (Int32.toInt64 v3) v6) = true → v1 = false → RI S 141 v6) (o3 : v6 < (S.1 141 0) → (f_217 (Int32.toInt64 v3) v6) = true → v1 = false → inB (f_240 S v6) 64) (e1 : v6 < (S.1 141 0) → Go XM (d + 7) 259 c 46 [some (.ref 140), some (.int (b2i v1)), some (.int v2), some (.int v3), some (.long (v4 ||| (if (f_217 (Int32.toInt64 v3) v6) = true then (if v1 = true then rl S 154 v6 else rl S 153 (f_240 S v6)) else 0))), none, some (.int (v6 + 1))] [] S R) (e2 : ¬ v6 < (S.1 141 0) → Go XM (d + 7) 259 c 8 [some (.ref 140), some (.int (b2i v1)), some (.int (if v4 = (f_216 S) then v3 else v2)), some (.int (v3 + 1)), some (.long v4), none, some (.int v6)] [] S R) : Go XM (d + 7) 259 c 46 [some (.ref 140), some (.int (b2i v1)), some (.int v2), some (.int v3), some (.long v4), none, some (.int v6)] [] S R := by
  refine go_run mm_259 4 (pc' := 53) (ls' := [some (.ref 140), some (.int (b2i v1)), some (.int v2), some (.int v3), some (.long v4), none, some (.int v6)]) (st' := [.int 0, .ref 141, .int v6]) (S' := S) rfl ?_
  refine go_iaload mm_259 (q := 0) rfl rfl rfl (inB_lit rfl) ?_
  refine go_if2 mm_259 rfl (p1 := 57) (p2 := 107) rfl (fun (hc1 : v6 < (S.1 141 0)) => ?_) (fun (hc1 : ¬ v6 < (S.1 141 0)) => ?_)
  · refine go_run mm_259 4 (pc' := 63) (ls' := [some (.ref 140), some (.int (b2i v1)), some (.int v2), some (.int v3), some (.long v4), none, some (.int v6)]) (st' := [.int v6, .long (Int32.toInt64 v3), .long v4]) (S' := S) rfl ?_
    refine go_cs mm_259 (av := [.long (Int32.toInt64 v3), .int v6]) (rest := [.long v4]) (nl := 3) rfl (show csOK 259 63 282 217 2 3 = true by decide +kernel) rfl rfl rfl (sp_217) (KP_V ?_)
    have j2 : Go XM (d + 7) 259 c 98 [some (.ref 140), some (.int (b2i v1)), some (.int v2), some (.int v3), some (.long v4), none, some (.int v6)] [.long (if (f_217 (Int32.toInt64 v3) v6) = true then (if v1 = true then rl S 154 v6 else rl S 153 (f_240 S v6)) else 0), .long v4] S R := by
      refine go_run mm_259 4 (pc' := 46) (ls' := [some (.ref 140), some (.int (b2i v1)), some (.int v2), some (.int v3), some (.long (v4 ||| (if (f_217 (Int32.toInt64 v3) v6) = true then (if v1 = true then rl S 154 v6 else rl S 153 (f_240 S v6)) else 0))), none, some (.int (v6 + 1))]) (st' := []) (S' := S) rfl ?_
      exact e1 hc1
    refine go_ifb mm_259 rfl (p1 := 69) (p2 := 97) rfl (fun (hc2 : (f_217 (Int32.toInt64 v3) v6) = true) => ?_) (fun (hc2 : (f_217 (Int32.toInt64 v3) v6) = false) => ?_)
    · refine go_run mm_259 1 (pc' := 70) (ls' := [some (.ref 140), some (.int (b2i v1)), some (.int v2), some (.int v3), some (.long v4), none, some (.int v6)]) (st' := [.int (b2i v1), .long v4]) (S' := S) rfl ?_
      have j1 : Go XM (d + 7) 259 c 98 [some (.ref 140), some (.int (b2i v1)), some (.int v2), some (.int v3), some (.long v4), none, some (.int v6)] [.long (if v1 = true then rl S 154 v6 else rl S 153 (f_240 S v6)), .long v4] S R := by
        have e : ((if (f_217 (Int32.toInt64 v3) v6) = true then (if v1 = true then rl S 154 v6 else rl S 153 (f_240 S v6)) else 0) : Int64) = (if v1 = true then rl S 154 v6 else rl S 153 (f_240 S v6)) := by simp [hc2]
        rw [e] at j2
        exact j2
      refine go_ifb mm_259 rfl (p1 := 73) (p2 := 83) rfl (fun (hc3 : v1 = true) => ?_) (fun (hc3 : v1 = false) => ?_)
      · refine go_run mm_259 3 (pc' := 79) (ls' := [some (.ref 140), some (.int (b2i v1)), some (.int v2), some (.int v3), some (.long v4), none, some (.int v6)]) (st' := [.int v6, .ref 154, .long v4]) (S' := S) rfl ?_
        refine go_laload mm_259 (q := (Int32.toNatClampNeg v6)) rfl rfl rfl (o1 hc1 hc2 hc3) ?_
        refine go_run mm_259 1 (pc' := 98) (ls' := [some (.ref 140), some (.int (b2i v1)), some (.int v2), some (.int v3), some (.long v4), none, some (.int v6)]) (st' := [.long (rl S 154 v6), .long v4]) (S' := S) rfl ?_
        have e : ((if v1 = true then rl S 154 v6 else rl S 153 (f_240 S v6)) : Int64) = rl S 154 v6 := by simp [hc3]
        rw [e] at j1
        exact j1
      · refine go_run mm_259 4 (pc' := 90) (ls' := [some (.ref 140), some (.int (b2i v1)), some (.int v2), some (.int v3), some (.long v4), none, some (.int v6)]) (st' := [.int v6, .ref 140, .ref 153, .long v4]) (S' := S) rfl ?_
        refine go_cv mm_259 (h := 140) (As := [.int v6]) (rest := [.ref 153, .long v4]) (nl := 2) rfl XM_140 (show cvOK 259 90 316 240 1 2 11 = true by decide +kernel) rfl rfl rfl (sq_240 (o2 hc1 hc2 hc3)) (KP_V ?_)
        refine go_laload mm_259 (q := (Int32.toNatClampNeg (f_240 S v6))) rfl rfl rfl (o3 hc1 hc2 hc3) ?_
        refine go_run mm_259 1 (pc' := 98) (ls' := [some (.ref 140), some (.int (b2i v1)), some (.int v2), some (.int v3), some (.long v4), none, some (.int v6)]) (st' := [.long (rl S 153 (f_240 S v6)), .long v4]) (S' := S) rfl ?_
        have e : ((if v1 = true then rl S 154 v6 else rl S 153 (f_240 S v6)) : Int64) = rl S 153 (f_240 S v6) := by simp [hc3]
        rw [e] at j1
        exact j1
    · refine go_run mm_259 1 (pc' := 98) (ls' := [some (.ref 140), some (.int (b2i v1)), some (.int v2), some (.int v3), some (.long v4), none, some (.int v6)]) (st' := [.long 0, .long v4]) (S' := S) rfl ?_
      have e : ((if (f_217 (Int32.toInt64 v3) v6) = true then (if v1 = true then rl S 154 v6 else rl S 153 (f_240 S v6)) else 0) : Int64) = 0 := by simp [hc2]
      rw [e] at j2
      exact j2
  · refine go_run mm_259 2 (pc' := 110) (ls' := [some (.ref 140), some (.int (b2i v1)), some (.int v2), some (.int v3), some (.long v4), none, some (.int v6)]) (st' := [.ref 140, .long v4]) (S' := S) rfl ?_
    refine go_cv mm_259 (h := 140) (As := []) (rest := [.long v4]) (nl := 1) rfl XM_140 (show cvOK 259 110 286 216 0 1 11 = true by decide +kernel) rfl rfl rfl (sp_216) (KP_V ?_)
    have j3 : Go XM (d + 7) 259 c 122 [some (.ref 140), some (.int (b2i v1)), some (.int v2), some (.int v3), some (.long v4), none, some (.int v6)] [.int (if v4 = (f_216 S) then v3 else v2)] S R := by
      refine go_run mm_259 3 (pc' := 8) (ls' := [some (.ref 140), some (.int (b2i v1)), some (.int (if v4 = (f_216 S) then v3 else v2)), some (.int (v3 + 1)), some (.long v4), none, some (.int v6)]) (st' := []) (S' := S) rfl ?_
      exact e2 hc1
    refine go_lif mm_259 rfl rfl (p1 := 117) (p2 := 121) rfl (fun (hc2 : v4 = (f_216 S)) => ?_) (fun (hc2 : ¬ v4 = (f_216 S)) => ?_)
    · refine go_run mm_259 2 (pc' := 122) (ls' := [some (.ref 140), some (.int (b2i v1)), some (.int v2), some (.int v3), some (.long v4), none, some (.int v6)]) (st' := [.int v3]) (S' := S) rfl ?_
      have e : ((if v4 = (f_216 S) then v3 else v2) : Int32) = v3 := by simp [b2i, hc2]
      rw [e] at j3
      exact j3
    · refine go_run mm_259 1 (pc' := 122) (ls' := [some (.ref 140), some (.int (b2i v1)), some (.int v2), some (.int v3), some (.long v4), none, some (.int v6)]) (st' := [.int v2]) (S' := S) rfl ?_
      have e : ((if v4 = (f_216 S) then v3 else v2) : Int32) = v2 := by simp [b2i, hc2]
      rw [e] at j3
      exact j3
theorem shl_N : ∀ N, N < 13 → (1 : Int32) <<< (nJ N &&& 31) = nJ (2 ^ N) := by decide +kernel
theorem sq_259 {d : Nat} {S : ST} {v1 : Bool} (h : Qp S) : Cal XM (d + 7) 259 [.ref 140, .int (b2i v1)] S (RQi S) := by
  refine cal_go 5 rfl (b_259_0 ?_)
  refine go_cv mm_259 (h := 140) (As := []) (rest := []) (nl := 3) rfl XM_140 (show cvOK 259 1 279 239 0 3 11 = true by decide +kernel) rfl rfl rfl (sr_239 h) (KP_P (fun v S1 k1 => ?_))
  obtain ⟨rfl, q1, s1⟩ := k1
  have hL := (Qp.ld ⟨s1.1, s1.2.1⟩).1
  have hW := hL.1.1
  have h12 := hW.2
  obtain ⟨hP, h64⟩ := Ld_P hL
  have hpow : 2 ^ rN S1 141 ≤ 4096 := Nat.le_trans (Nat.pow_le_pow_right (n := 2) (by decide) h12) (by decide)
  have hsh : (1 : Int32) <<< ((S1.1 141 0) &&& 31) = nJ (2 ^ rN S1 141) := by rw [hW.1]; exact shl_N _ (by omega)
  refine b_259_4 ?_
  have key : ∀ m s best, s + m = 2 ^ rN S1 141 → Go XM (d + 7) 259 0 8 [some (.ref 140), some (.int (b2i v1)), some (.int best), some (.int (nJ s)), none, none, none] [] S1 (RQi S) := by
    intro m
    induction m with
    | zero =>
      intro s best hs
      have hn : ¬ nJ s < 1 <<< ((S1.1 141 0) &&& 31) := by rw [hsh, nJ_lt (by omega) (by omega)]; omega
      exact b_259_8 (fun q => absurd q hn) (fun q => absurd q hn) (fun q => absurd q hn) (fun _ => Qi_q q1)
    | succ m ih =>
      intro s best hs
      have hlt : nJ s < 1 <<< ((S1.1 141 0) &&& 31) := by rw [hsh, nJ_lt (by omega) (by omega)]; omega
      have inner : ∀ m' i acc, i + m' = rN S1 141 → Go XM (d + 7) 259 0 46 [some (.ref 140), some (.int (b2i v1)), some (.int best), some (.int (nJ s)), some (.long acc), none, some (.int (nJ i))] [] S1 (RQi S) := by
        intro m'
        induction m' with
        | zero =>
          intro i acc hi
          have hn : ¬ nJ i < S1.1 141 0 := by rw [hW.1, nJ_lt (by omega) (by omega)]; omega
          refine b_259_46 (fun q => absurd q hn) (fun q => absurd q hn) (fun q => absurd q hn) (fun q => absurd q hn) (fun _ => ?_)
          rw [nJ_succ]
          exact Go.le (ih (s + 1) _ (by omega)) (by repeat first | exact True.intro | refine And.intro rfl ?_)
        | succ m' ih' =>
          intro i acc hi
          have hl : nJ i < S1.1 141 0 := by rw [hW.1, nJ_lt (by omega) (by omega)]; omega
          refine b_259_46 (fun _ _ _ => nJ_inB (by omega) (by omega)) (fun _ _ _ => ⟨hW, i, rfl, by omega⟩) (fun _ _ _ => ?_) (fun _ => ?_) (fun q => absurd hl q)
          · obtain ⟨p, p1, p2⟩ := f240_t hL (show i < rN S1 141 by omega)
            rw [p2]
            exact nJ_inB (by omega) (by omega)
          · rw [nJ_succ]
            exact ih' (i + 1) _ (by omega)
      refine b_259_8 (fun _ _ => inner (rN S1 141) 0 0 (by omega)) (fun _ _ _ => inner (rN S1 141) 0 0 (by omega)) (fun _ _ _ => ?_) (fun q => absurd hlt q)
      rw [nJ_succ]
      exact ih (s + 1) best (by omega)
  have : 1 ≤ 2 ^ rN S1 141 := Nat.one_le_two_pow
  exact key (2 ^ rN S1 141 - 1) 1 0 (by omega)
theorem mm_260 : mtG 260 = some (mi_260, 12, ft_260) := rfl
theorem b_260_0 {d c : Nat} {R : RT} {S : ST} (e1 : (decide (S.1 140 1 = 0)) = true → R c (.inr (some (.int 0))) (wI S 140 0 (tz (decide (S.1 140 1 = 0)) 1))) (e2 : (decide (S.1 140 1 = 0)) = false → Go XM (d + 8) 260 c 13 [some (.ref 140)] [.int 0, .ref 140] (wI S 140 0 (tz (decide (S.1 140 1 = 0)) 1)) R) : Go XM (d + 8) 260 c 0 [some (.ref 140)] [] S R := by
  refine go_run mm_260 1 (pc' := 1) (ls' := [some (.ref 140)]) (st' := [.ref 140]) (S' := S) rfl ?_
  refine go_cv mm_260 (h := 140) (As := []) (rest := []) (nl := 1) rfl XM_140 (show cvOK 260 1 247 184 0 1 11 = true by decide +kernel) rfl rfl rfl (sq_184) (KP_V ?_)
  refine go_ifb mm_260 rfl (p1 := 7) (p2 := 11) rfl (fun (hc1 : (decide (S.1 140 1 = 0)) = true) => ?_) (fun (hc1 : (decide (S.1 140 1 = 0)) = false) => ?_)
  · refine go_run mm_260 2 (pc' := 16) (ls' := [some (.ref 140)]) (st' := [.int 0]) (S' := (wI S 140 0 (tz (decide (S.1 140 1 = 0)) 1))) rfl ?_
    exact go_ireturn mm_260 rfl rfl (e1 hc1)
  · refine go_run mm_260 2 (pc' := 13) (ls' := [some (.ref 140)]) (st' := [.int 0, .ref 140]) (S' := (wI S 140 0 (tz (decide (S.1 140 1 = 0)) 1))) rfl ?_
    exact e2 hc1
theorem b_260_16 {d c : Nat} {R : RT} {S : ST} {w0 : Int32} (e1 : R c (.inr (some (.int w0))) S) : Go XM (d + 8) 260 c 16 [some (.ref 140)] [.int w0] S R := by
  exact go_ireturn mm_260 rfl rfl (e1)
theorem mm_261 : mtG 261 = some (mi_261, 12, ft_261) := rfl
theorem b_261_0 {d c : Nat} {R : RT} {S : ST} (e1 : (decide (S.1 140 1 = 0)) = true → R c (.inr (some (.int 0))) (wI S 140 0 (tz (decide (S.1 140 1 = 0)) 1))) (e2 : (decide (S.1 140 1 = 0)) = false → Go XM (d + 8) 261 c 13 [some (.ref 140)] [.int 1, .ref 140] (wI S 140 0 (tz (decide (S.1 140 1 = 0)) 1)) R) : Go XM (d + 8) 261 c 0 [some (.ref 140)] [] S R := by
  refine go_run mm_261 1 (pc' := 1) (ls' := [some (.ref 140)]) (st' := [.ref 140]) (S' := S) rfl ?_
  refine go_cv mm_261 (h := 140) (As := []) (rest := []) (nl := 1) rfl XM_140 (show cvOK 261 1 247 184 0 1 11 = true by decide +kernel) rfl rfl rfl (sq_184) (KP_V ?_)
  refine go_ifb mm_261 rfl (p1 := 7) (p2 := 11) rfl (fun (hc1 : (decide (S.1 140 1 = 0)) = true) => ?_) (fun (hc1 : (decide (S.1 140 1 = 0)) = false) => ?_)
  · refine go_run mm_261 2 (pc' := 16) (ls' := [some (.ref 140)]) (st' := [.int 0]) (S' := (wI S 140 0 (tz (decide (S.1 140 1 = 0)) 1))) rfl ?_
    exact go_ireturn mm_261 rfl rfl (e1 hc1)
  · refine go_run mm_261 2 (pc' := 13) (ls' := [some (.ref 140)]) (st' := [.int 1, .ref 140]) (S' := (wI S 140 0 (tz (decide (S.1 140 1 = 0)) 1))) rfl ?_
    exact e2 hc1
theorem b_261_16 {d c : Nat} {R : RT} {S : ST} {w0 : Int32} (e1 : R c (.inr (some (.int w0))) S) : Go XM (d + 8) 261 c 16 [some (.ref 140)] [.int w0] S R := by
  exact go_ireturn mm_261 rfl rfl (e1)
theorem mm_262 : mtG 262 = some (mi_262, 12, ft_262) := rfl
theorem b_262_0 {d c : Nat} {R : RT} {S : ST} {v1 : Int32} {v2 : Int32} {v3 : Int32} {v4 : Int64} (e1 : v4 = 0 → v1 = v2 → R c (.inr (some (.int 1))) S) (e2 : v4 = 0 → ¬ v1 = v2 → v1 = v2 → R c (.inr (some (.int 0))) S) (e3 : v4 = 0 → ¬ v1 = v2 → ¬ v1 = v2 → Go XM d 262 c 24 [some (.ref 140), some (.int v1), some (.int v2), some (.int v3), some (.long v4), none, some (.int v3)] [] S R) (e4 : ¬ v4 = 0 → v1 = v2 → R c (.inr (some (.int 0))) S) (e5 : ¬ v4 = 0 → ¬ v1 = v2 → Go XM d 262 c 24 [some (.ref 140), some (.int v1), some (.int v2), some (.int v3), some (.long v4), none, some (.int v3)] [] S R) : Go XM d 262 c 0 [some (.ref 140), some (.int v1), some (.int v2), some (.int v3), some (.long v4), none, none] [] S R := by
  refine go_run mm_262 2 (pc' := 3) (ls' := [some (.ref 140), some (.int v1), some (.int v2), some (.int v3), some (.long v4), none, none]) (st' := [.long 0, .long v4]) (S' := S) rfl ?_
  refine go_lif mm_262 rfl rfl (p1 := 7) (p2 := 14) rfl (fun (hc1 : v4 = 0) => ?_) (fun (hc1 : ¬ v4 = 0) => ?_)
  · refine go_run mm_262 2 (pc' := 9) (ls' := [some (.ref 140), some (.int v1), some (.int v2), some (.int v3), some (.long v4), none, none]) (st' := [.int v2, .int v1]) (S' := S) rfl ?_
    refine go_if2 mm_262 rfl (p1 := 12) (p2 := 14) rfl (fun (hc2 : v1 = v2) => ?_) (fun (hc2 : ¬ v1 = v2) => ?_)
    · refine go_run mm_262 1 (pc' := 13) (ls' := [some (.ref 140), some (.int v1), some (.int v2), some (.int v3), some (.long v4), none, none]) (st' := [.int 1]) (S' := S) rfl ?_
      exact go_zreturn mm_262 rfl rfl (Or.inr rfl) (e1 hc1 hc2)
    · refine go_run mm_262 2 (pc' := 16) (ls' := [some (.ref 140), some (.int v1), some (.int v2), some (.int v3), some (.long v4), none, none]) (st' := [.int v2, .int v1]) (S' := S) rfl ?_
      refine go_if2 mm_262 rfl (p1 := 19) (p2 := 21) rfl (fun (hc3 : v1 = v2) => ?_) (fun (hc3 : ¬ v1 = v2) => ?_)
      · refine go_run mm_262 1 (pc' := 20) (ls' := [some (.ref 140), some (.int v1), some (.int v2), some (.int v3), some (.long v4), none, none]) (st' := [.int 0]) (S' := S) rfl ?_
        exact go_zreturn mm_262 rfl rfl (Or.inl rfl) (e2 hc1 hc2 hc3)
      · refine go_run mm_262 2 (pc' := 24) (ls' := [some (.ref 140), some (.int v1), some (.int v2), some (.int v3), some (.long v4), none, some (.int v3)]) (st' := []) (S' := S) rfl ?_
        exact e3 hc1 hc2 hc3
  · refine go_run mm_262 2 (pc' := 16) (ls' := [some (.ref 140), some (.int v1), some (.int v2), some (.int v3), some (.long v4), none, none]) (st' := [.int v2, .int v1]) (S' := S) rfl ?_
    refine go_if2 mm_262 rfl (p1 := 19) (p2 := 21) rfl (fun (hc2 : v1 = v2) => ?_) (fun (hc2 : ¬ v1 = v2) => ?_)
    · refine go_run mm_262 1 (pc' := 20) (ls' := [some (.ref 140), some (.int v1), some (.int v2), some (.int v3), some (.long v4), none, none]) (st' := [.int 0]) (S' := S) rfl ?_
      exact go_zreturn mm_262 rfl rfl (Or.inl rfl) (e4 hc1 hc2)
    · refine go_run mm_262 2 (pc' := 24) (ls' := [some (.ref 140), some (.int v1), some (.int v2), some (.int v3), some (.long v4), none, some (.int v3)]) (st' := []) (S' := S) rfl ?_
      exact e5 hc1 hc2
theorem b_262_24 {d c : Nat} {R : RT} {S : ST} {v1 : Int32} {v2 : Int32} {v3 : Int32} {v4 : Int64} {v6 : Int32} (o1 : v6 < (S.1 140 20) → inB v1 4) (o2 : v6 < (S.1 140 20) → inB v6 64) (e1 : v6 < (S.1 140 20) → Go XM d 262 c 64 [some (.ref 140), some (.int v1), some (.int v2), some (.int v3), some (.long v4), none, some (.int v6)] [.long (v4 &&& ((rl S 153 v6) ^^^ (-1))), .int (v6 + 1), .int v2, .int (v1 + 1), .ref 140] (wI S 159 (Int32.toNatClampNeg v1) v6) R) (e2 : ¬ v6 < (S.1 140 20) → R c (.inr (some (.int 0))) S) : Go XM d 262 c 24 [some (.ref 140), some (.int v1), some (.int v2), some (.int v3), some (.long v4), none, some (.int v6)] [] S R := by
  refine go_run mm_262 3 (pc' := 30) (ls' := [some (.ref 140), some (.int v1), some (.int v2), some (.int v3), some (.long v4), none, some (.int v6)]) (st' := [.int (S.1 140 20), .int v6]) (S' := S) rfl ?_
  refine go_if2 mm_262 rfl (p1 := 33) (p2 := 78) rfl (fun (hc1 : v6 < (S.1 140 20)) => ?_) (fun (hc1 : ¬ v6 < (S.1 140 20)) => ?_)
  · refine go_run mm_262 4 (pc' := 40) (ls' := [some (.ref 140), some (.int v1), some (.int v2), some (.int v3), some (.long v4), none, some (.int v6)]) (st' := [.int v6, .int v1, .ref 159]) (S' := S) rfl ?_
    refine go_iastore mm_262 (q := (Int32.toNatClampNeg v1)) rfl rfl rfl (o1 hc1) ?_
    refine go_run mm_262 12 (pc' := 58) (ls' := [some (.ref 140), some (.int v1), some (.int v2), some (.int v3), some (.long v4), none, some (.int v6)]) (st' := [.int v6, .ref 153, .long v4, .int (v6 + 1), .int v2, .int (v1 + 1), .ref 140]) (S' := (wI S 159 (Int32.toNatClampNeg v1) v6)) rfl ?_
    refine go_laload mm_262 (q := (Int32.toNatClampNeg v6)) rfl rfl rfl (o2 hc1) ?_
    refine go_run mm_262 3 (pc' := 64) (ls' := [some (.ref 140), some (.int v1), some (.int v2), some (.int v3), some (.long v4), none, some (.int v6)]) (st' := [.long (v4 &&& ((rl S 153 v6) ^^^ (-1))), .int (v6 + 1), .int v2, .int (v1 + 1), .ref 140]) (S' := (wI S 159 (Int32.toNatClampNeg v1) v6)) rfl ?_
    exact e1 hc1
  · refine go_run mm_262 1 (pc' := 79) (ls' := [some (.ref 140), some (.int v1), some (.int v2), some (.int v3), some (.long v4), none, some (.int v6)]) (st' := [.int 0]) (S' := S) rfl ?_
    exact go_zreturn mm_262 rfl rfl (Or.inl rfl) (e2 hc1)
theorem b_262_67 {d c : Nat} {R : RT} {S : ST} {v1 : Int32} {v2 : Int32} {v3 : Int32} {v4 : Int64} {v6 : Int32} {w0 : Bool} (e1 : w0 = true → R c (.inr (some (.int 1))) S) (e2 : w0 = false → Go XM d 262 c 24 [some (.ref 140), some (.int v1), some (.int v2), some (.int v3), some (.long v4), none, some (.int (v6 + 1))] [] S R) : Go XM d 262 c 67 [some (.ref 140), some (.int v1), some (.int v2), some (.int v3), some (.long v4), none, some (.int v6)] [.int (b2i w0)] S R := by
  refine go_ifb mm_262 rfl (p1 := 70) (p2 := 72) rfl (fun (hc1 : w0 = true) => ?_) (fun (hc1 : w0 = false) => ?_)
  · refine go_run mm_262 1 (pc' := 71) (ls' := [some (.ref 140), some (.int v1), some (.int v2), some (.int v3), some (.long v4), none, some (.int v6)]) (st' := [.int 1]) (S' := S) rfl ?_
    exact go_zreturn mm_262 rfl rfl (Or.inr rfl) (e1 hc1)
  · refine go_run mm_262 2 (pc' := 24) (ls' := [some (.ref 140), some (.int v1), some (.int v2), some (.int v3), some (.long v4), none, some (.int (v6 + 1))]) (st' := []) (S' := S) rfl ?_
    exact e2 hc1
theorem mm_263 : mtG 263 = some (mi_263, 12, ft_263) := rfl
theorem b_263_0 {d c : Nat} {R : RT} {S : ST} (e1 : Go XM (d + 9) 263 c 1 [some (.ref 140), none] [.ref 140] S R) : Go XM (d + 9) 263 c 0 [some (.ref 140), none] [] S R := by
  refine go_run mm_263 1 (pc' := 1) (ls' := [some (.ref 140), none]) (st' := [.ref 140]) (S' := S) rfl ?_
  exact e1
theorem b_263_4 {d c : Nat} {R : RT} {S : ST} (e1 : (0 : Int32) < (S.1 140 34) → R c (.inr none) S) (e2 : ¬ (0 : Int32) < (S.1 140 34) → Go XM (d + 9) 263 c 14 [some (.ref 140), some (.int 1)] [] S R) : Go XM (d + 9) 263 c 4 [some (.ref 140), none] [] S R := by
  refine go_run mm_263 2 (pc' := 8) (ls' := [some (.ref 140), none]) (st' := [.int (S.1 140 34)]) (S' := S) rfl ?_
  refine go_if0 mm_263 rfl (p1 := 11) (p2 := 12) rfl (fun (hc1 : (0 : Int32) < (S.1 140 34)) => ?_) (fun (hc1 : ¬ (0 : Int32) < (S.1 140 34)) => ?_)
  · exact go_vreturn mm_263 rfl rfl (e1 hc1)
  · refine go_run mm_263 2 (pc' := 14) (ls' := [some (.ref 140), some (.int 1)]) (st' := []) (S' := S) rfl ?_
    exact e2 hc1
theorem b_263_14 {d c : Nat} {R : RT} {S : ST} {v1 : Int32} (e1 : Go XM (d + 9) 263 c 22 [some (.ref 140), some (.int v1)] [.long (f_216 S), .int 0, .int v1, .int 0, .ref 140] S R) : Go XM (d + 9) 263 c 14 [some (.ref 140), some (.int v1)] [] S R := by
  refine go_run mm_263 5 (pc' := 19) (ls' := [some (.ref 140), some (.int v1)]) (st' := [.ref 140, .int 0, .int v1, .int 0, .ref 140]) (S' := S) rfl ?_
  refine go_cv mm_263 (h := 140) (As := []) (rest := [.int 0, .int v1, .int 0, .ref 140]) (nl := 1) rfl XM_140 (show cvOK 263 19 286 216 0 1 11 = true by decide +kernel) rfl rfl rfl (sp_216) (KP_V ?_)
  exact e1
theorem b_263_25 {d c : Nat} {R : RT} {S : ST} {v1 : Int32} {w0 : Bool} (e1 : w0 = true → R c (.inr none) (wI S 140 34 v1)) (e2 : w0 = false → Go XM (d + 9) 263 c 14 [some (.ref 140), some (.int (v1 + 1))] [] S R) : Go XM (d + 9) 263 c 25 [some (.ref 140), some (.int v1)] [.int (b2i w0)] S R := by
  refine go_ifb mm_263 rfl (p1 := 34) (p2 := 28) rfl (fun (hc1 : w0 = true) => ?_) (fun (hc1 : w0 = false) => ?_)
  · refine go_run mm_263 3 (pc' := 39) (ls' := [some (.ref 140), some (.int v1)]) (st' := []) (S' := (wI S 140 34 v1)) rfl ?_
    exact go_vreturn mm_263 rfl rfl (e1 hc1)
  · refine go_run mm_263 2 (pc' := 14) (ls' := [some (.ref 140), some (.int (v1 + 1))]) (st' := []) (S' := S) rfl ?_
    exact e2 hc1
/-- q points from one on that see the rest -/
def Cov (S : ST) : Nat → Nat → Int64 → Prop
  | 0, _, u => u = 0
  | q + 1, f, u => ∃ p, f ≤ p ∧ p < nP S ∧ Cov S q (p + 1) (u &&& (S.2 153 p ^^^ (-1)))
theorem min_ex : ∀ (P : List Nat), P ≠ [] → ∃ m, m ∈ P ∧ ∀ x ∈ P, m ≤ x
  | [], h => absurd rfl h
  | [a], _ => ⟨a, by simp, fun x hx => by simp at hx; omega⟩
  | a :: b :: r, _ => by
    obtain ⟨m, h1, h2⟩ := min_ex (b :: r) (by simp)
    by_cases q : a ≤ m
    · exact ⟨a, by simp, fun x hx => by
        rcases List.mem_cons.mp hx with rfl | hx
        · exact Nat.le_refl _
        · exact Nat.le_trans q (h2 x hx)⟩
    · exact ⟨m, List.mem_cons_of_mem _ h1, fun x hx => by
        rcases List.mem_cons.mp hx with rfl | hx
        · omega
        · exact h2 x hx⟩
theorem Cov_of {S : ST} : ∀ (q f : Nat) (u : Int64) (P : List Nat), P.length = q → P.Nodup → (∀ x ∈ P, f ≤ x ∧ x < nP S) → (∀ i, i < 64 → bz u i = true → ∃ p ∈ P, bz (S.2 153 p) i = true) → Cov S q f u := by
  intro q
  induction q with
  | zero =>
    intro f u P hl hn hb hc
    have : P = [] := List.length_eq_zero_iff.mp hl
    subst this
    apply bz_ext
    intro i hi
    rw [bz_0]
    cases hz : bz u i with
    | false => rfl
    | true =>
      obtain ⟨p, hp, -⟩ := hc i hi hz
      cases hp
  | succ q ih =>
    intro f u P hl hn hb hc
    obtain ⟨m, h1, h2⟩ := min_ex P (fun z => by rw [z] at hl; cases hl)
    refine ⟨m, (hb m h1).1, (hb m h1).2, ih (m + 1) _ (P.erase m) ?_ (hn.erase m) (fun x hx => ?_) (fun i hi hz => ?_)⟩
    · rw [List.length_erase_of_mem h1, hl]; rfl
    · have hx' := (hn.mem_erase_iff).mp hx
      have := h2 x hx'.2
      exact ⟨by have := hx'.1; omega, (hb x hx'.2).2⟩
    · rw [bz_and, bz_not _ hi, Bool.and_eq_true, Bool.not_eq_true'] at hz
      obtain ⟨p, hp, hpi⟩ := hc i hi hz.1
      refine ⟨p, (hn.mem_erase_iff).mpr ⟨fun e => ?_, hp⟩, hpi⟩
      rw [e, hz.2] at hpi
      cases hpi
/-- at most four points see all -/
theorem Cov_4 {S : ST} (hL : Ld S) (hS : Sv S) : ∃ g, 1 ≤ g ∧ g ≤ 4 ∧ Cov S g 0 (f_216 S) := by
  obtain ⟨g1, g2, g3⟩ := GR_simple hL.1
  obtain ⟨hP, h64⟩ := Ld_P hL
  obtain ⟨G, c1, c2, c3, c4, c5⟩ := ge_four g2 g3 g1
  -- numbers of the points of G
  have num : ∀ G : List GPt, (∀ v ∈ G, v ∈ rL S 141) → G.Nodup → ∃ P : List Nat, P.length = G.length ∧ P.Nodup ∧ (∀ p ∈ P, p < nP S ∧ pt S p ∈ G) ∧ ∀ v ∈ G, ∃ p ∈ P, pt S p = v := by
    intro G
    induction G with
    | nil => intro _ _; exact ⟨[], rfl, List.nodup_nil, fun _ h => (by cases h), fun _ h => (by cases h)⟩
    | cons v G ih =>
      intro hm hn
      obtain ⟨P, p1, p2, p3, p4⟩ := ih (fun w hw => hm w (List.mem_cons_of_mem _ hw)) (List.nodup_cons.mp hn).2
      obtain ⟨i, hi, rfl⟩ := ge_pl_mem.mp (hm v (List.mem_cons_self ..))
      obtain ⟨p, q1, q2⟩ := Ld_of hL (vx_cl hL.1 hi)
      refine ⟨p :: P, by simp [p1], List.nodup_cons.mpr ⟨fun hp => ?_, p2⟩, fun x hx => ?_, fun w hw => ?_⟩
      · have := (p3 p hp).2
        rw [q2] at this
        exact (List.nodup_cons.mp hn).1 this
      · rcases List.mem_cons.mp hx with rfl | hx
        · exact ⟨q1, by rw [q2]; exact List.mem_cons_self ..⟩
        · exact ⟨(p3 x hx).1, List.mem_cons_of_mem _ (p3 x hx).2⟩
      · rcases List.mem_cons.mp hw with rfl | hw
        · exact ⟨p, List.mem_cons_self .., q2⟩
        · obtain ⟨x, x1, x2⟩ := p4 w hw
          exact ⟨x, List.mem_cons_of_mem _ x1, x2⟩
  obtain ⟨P, p1, p2, p3, p4⟩ := num G c4 c3
  refine ⟨G.length, c1, c2, Cov_of G.length 0 _ P p1 p2 (fun x hx => ⟨by omega, (p3 x hx).1⟩) (fun i hi hz => ?_)⟩
  rw [all_t hP h64 hi] at hz
  have hi' : i < nP S := of_decide_eq_true hz
  have hcl := (Ld_pt hL hi').choose_spec.2.2.2.2.2.2
  obtain ⟨g, h1, h2⟩ := c5 _ hcl
  obtain ⟨p, q1, q2⟩ := p4 g h1
  exact ⟨p, q1, (hS p (p3 p q1).1).2.2 i hi' (by rw [q2]; exact h2)⟩
section Gd
variable {d : Nat}
theorem Cov_fm {S S' : ST} (hF : Fm [159] [] S S') : ∀ q f u, Cov S q f u → Cov S' q f u := by
  have e3 := hF.rowL (a := 153) (by decide)
  have en : nP S' = nP S := by unfold nP; rw [inp_r2 (hF.row (a := 141) (by decide) (by decide))]
  intro q
  induction q with
  | zero => intro f u h; exact h
  | succ q ih =>
    rintro f u ⟨p, h1, h2, h3⟩
    exact ⟨p, h1, by rw [en]; exact h2, by rw [e3]; exact ih _ _ h3⟩
/-- the search for guards ends; it finds some if there are some -/
theorem sq_262 {many : Nat} (hm : many ≤ 4) : ∀ q place first u S, place + q = many → first ≤ 64 → Ld S → Cal XM (d + q) 262 [.ref 140, .int (nJ place), .int (nJ many), .int (nJ first), .long u] S (RP (fun v S' => ∃ b : Bool, v = some (.int (b2i b)) ∧ Fm [159] [] S S' ∧ (Cov S q first u → b = true))) := by
  intro q
  induction q with
  | zero =>
    intro place first u S hp hf hL
    have hp : place = many := by omega
    subst hp
    refine cal_go 1 rfl (b_262_0 (fun _ _ => ⟨rfl, _, rfl, true, rfl, Fm.rf, fun _ => rfl⟩) (fun _ h _ => absurd rfl h) (fun _ h => absurd rfl h) (fun hu _ => ⟨rfl, _, rfl, false, rfl, Fm.rf, fun hc => absurd hc hu⟩) (fun _ h => absurd rfl h))
  | succ q ih =>
    intro place first u S hp hf hL
    have hne : ¬ nJ place = nJ many := fun z => by have := (nJ_eq (by omega) (by omega)).mp z; omega
    have loop : ∀ m i S1, i + m = 64 → Fm [159] [] S S1 → first ≤ i → (Cov S (q + 1) first u → Cov S (q + 1) i u) → Go XM (d + (q + 1)) 262 0 24 [some (.ref 140), some (.int (nJ place)), some (.int (nJ many)), some (.int (nJ first)), some (.long u), none, some (.int (nJ i))] [] S1 (RP (fun v S' => ∃ b : Bool, v = some (.int (b2i b)) ∧ Fm [159] [] S S' ∧ (Cov S (q + 1) first u → b = true))) := by
      intro m
      induction m with
      | zero =>
        intro i S1 hi hF hfi hcv
        obtain ⟨hL1, -, en, -⟩ := Ld_fm hL hF (by decide) (by decide) (by decide) (by decide) (by decide) (by decide)
        obtain ⟨hP, h64⟩ := Ld_P hL1
        have hn : ¬ nJ i < S1.1 140 20 := by rw [hP, nJ_lt (by omega) (by omega)]; omega
        refine b_262_24 (fun z => absurd z hn) (fun z => absurd z hn) (fun z => absurd z hn) (fun _ => ⟨rfl, _, rfl, false, rfl, hF, fun hc => ?_⟩)
        obtain ⟨p, h1, h2, -⟩ := hcv hc
        omega
      | succ m ihm =>
        intro i S1 hi hF hfi hcv
        obtain ⟨hL1, -, en, -⟩ := Ld_fm hL hF (by decide) (by decide) (by decide) (by decide) (by decide) (by decide)
        obtain ⟨hP, h64⟩ := Ld_P hL1
        by_cases hiP : i < nP S
        · have hlt : nJ i < S1.1 140 20 := by rw [hP, nJ_lt (by omega) (by omega)]; omega
          refine b_262_24 (fun _ => nJ_inB (by omega) (by omega)) (fun _ => nJ_inB (by omega) (by omega)) (fun _ => ?_) (fun z => absurd hlt z)
          rw [nJ_succ, nJ_succ, nJ_ix (by omega), rl_n S1 153 (by omega)]
          have hF1 : Fm [159] [] S1 (wI S1 159 place (nJ i)) := Fm_a (by decide)
          obtain ⟨hL2, -, en2, -⟩ := Ld_fm hL1 hF1 (by decide) (by decide) (by decide) (by decide) (by decide) (by decide)
          have e3 : S1.2 153 = S.2 153 := hF.rowL (by decide)
          refine go_cv mm_262 (h := 140) (As := [.int (nJ (place + 1)), .int (nJ many), .int (nJ (i + 1)), .long (u &&& (S1.2 153 i ^^^ (-1)))]) (rest := []) (nl := 7) rfl XM_140 (show cvOK 262 64 323 262 4 7 11 = true by decide +kernel) rfl rfl rfl (ih (place + 1) (i + 1) (u &&& (S1.2 153 i ^^^ (-1))) (wI S1 159 place (nJ i)) (by omega) (by omega) hL2) (KP_P (fun v S2 k2 => ?_))
          obtain ⟨b, rfl, hF2, hb⟩ := k2
          have hF02 : Fm [159] [] S S2 := (hF.tr hF1).tr hF2
          refine b_262_67 (w0 := b) (fun h => ⟨rfl, _, rfl, true, rfl, hF02, fun _ => rfl⟩) (fun h => ?_)
          rw [nJ_succ]
          refine ihm (i + 1) S2 (by omega) hF02 (by omega) (fun hc => ?_)
          obtain ⟨p, h1, h2, h3⟩ := hcv hc
          by_cases z : p = i
          · subst z
            rw [e3] at hb
            rw [hb (Cov_fm (hF.tr hF1) _ _ _ h3)] at h
            cases h
          · exact ⟨p, by omega, h2, h3⟩
        · have hn : ¬ nJ i < S1.1 140 20 := by rw [hP, nJ_lt (by omega) (by omega)]; omega
          refine b_262_24 (fun z => absurd z hn) (fun z => absurd z hn) (fun z => absurd z hn) (fun _ => ⟨rfl, _, rfl, false, rfl, hF, fun hc => ?_⟩)
          obtain ⟨p, h1, h2, -⟩ := hcv hc
          omega
    have go := loop (64 - first) first S (by omega) Fm.rf (Nat.le_refl _) id
    exact cal_go 1 rfl (b_262_0 (fun _ h => absurd h hne) (fun _ _ h => absurd h hne) (fun _ _ _ => go) (fun _ h => absurd h hne) (fun _ _ => go))
end Gd
