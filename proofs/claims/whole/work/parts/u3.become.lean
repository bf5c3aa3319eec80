theorem mm_304 : mtG 304 = some (mi_304, 12, ft_304) := rfl
set_option maxRecDepth 20000 in
theorem b_304_0 {d c : Nat} {R : RT} {S : ST} (e1 : Go XM (d + 7) 304 c 10 [some (.ref 140), some (.int (b2i (f_213 S 146))), some (.int 0)] [] S R) : Go XM (d + 7) 304 c 0 [some (.ref 140), none, none] [] S R := by
  refine go_run mm_304 2 (pc' := 4) (ls' := [some (.ref 140), none, none]) (st' := [.ref 146]) (S' := S) rfl ?_
  refine go_cs mm_304 (av := [.ref 146]) (rest := []) (nl := 1) rfl (show csOK 304 4 168 213 1 1 = true by decide +kernel) rfl rfl rfl (sq_213 rfl) (KP_V ?_)
  refine go_run mm_304 3 (pc' := 10) (ls' := [some (.ref 140), some (.int (b2i (f_213 S 146))), some (.int 0)]) (st' := []) (S' := S) rfl ?_
  exact e1
set_option maxRecDepth 20000 in
theorem b_304_10 {d c : Nat} {R : RT} {S : ST} {v1 : Bool} {v2 : Int32} (o1 : v2 < (S.1 146 1) → v1 = true → inB (27 + (3 * v2)) 63) (o2 : v2 < (S.1 146 1) → v1 = true → inB ((27 + (3 * v2)) + 1) 63) (o3 : v2 < (S.1 146 1) → v1 = true → RW S 146) (e1 : v2 < (S.1 146 1) → v1 = true → Go XM (d + 7) 304 c 10 [some (.ref 140), some (.int (b2i (f_208 S 146 (Int32.toInt64 (ra S 146 (27 + (3 * v2)))) (Int32.toInt64 (ra S 146 ((27 + (3 * v2)) + 1))) 1))), some (.int (v2 + 1))] [] S R) (e2 : v2 < (S.1 146 1) → v1 = false → Go XM (d + 7) 304 c 67 [some (.ref 140), some (.int (b2i v1)), some (.int 0)] [] S R) (e3 : ¬ v2 < (S.1 146 1) → Go XM (d + 7) 304 c 67 [some (.ref 140), some (.int (b2i v1)), some (.int 0)] [] S R) : Go XM (d + 7) 304 c 10 [some (.ref 140), some (.int (b2i v1)), some (.int v2)] [] S R := by
  refine go_run mm_304 4 (pc' := 16) (ls' := [some (.ref 140), some (.int (b2i v1)), some (.int v2)]) (st' := [.int 1, .ref 146, .int v2]) (S' := S) rfl ?_
  refine go_iaload mm_304 (q := 1) rfl rfl rfl (inB_lit rfl) ?_
  refine go_if2 mm_304 rfl (p1 := 20) (p2 := 65) rfl (fun (hc1 : v2 < (S.1 146 1)) => ?_) (fun (hc1 : ¬ v2 < (S.1 146 1)) => ?_)
  · refine go_run mm_304 1 (pc' := 21) (ls' := [some (.ref 140), some (.int (b2i v1)), some (.int v2)]) (st' := [.int (b2i v1)]) (S' := S) rfl ?_
    refine go_ifb mm_304 rfl (p1 := 24) (p2 := 65) rfl (fun (hc2 : v1 = true) => ?_) (fun (hc2 : v1 = false) => ?_)
    · refine go_run mm_304 9 (pc' := 38) (ls' := [some (.ref 140), some (.int (b2i v1)), some (.int v2)]) (st' := [.int (27 + (3 * v2)), .ref 146, .ref 146]) (S' := S) rfl ?_
      refine go_iaload mm_304 (q := (Int32.toNatClampNeg (27 + (3 * v2)))) rfl rfl rfl (o1 hc1 hc2) ?_
      refine go_run mm_304 10 (pc' := 52) (ls' := [some (.ref 140), some (.int (b2i v1)), some (.int v2)]) (st' := [.int ((27 + (3 * v2)) + 1), .ref 146, .long (Int32.toInt64 (ra S 146 (27 + (3 * v2)))), .ref 146]) (S' := S) rfl ?_
      refine go_iaload mm_304 (q := (Int32.toNatClampNeg ((27 + (3 * v2)) + 1))) rfl rfl rfl (o2 hc1 hc2) ?_
      refine go_run mm_304 2 (pc' := 55) (ls' := [some (.ref 140), some (.int (b2i v1)), some (.int v2)]) (st' := [.long 1, .long (Int32.toInt64 (ra S 146 ((27 + (3 * v2)) + 1))), .long (Int32.toInt64 (ra S 146 (27 + (3 * v2)))), .ref 146]) (S' := S) rfl ?_
      refine go_cs mm_304 (av := [.ref 146, .long (Int32.toInt64 (ra S 146 (27 + (3 * v2)))), .long (Int32.toInt64 (ra S 146 ((27 + (3 * v2)) + 1))), .long 1]) (rest := []) (nl := 16) rfl (show csOK 304 55 172 208 4 16 = true by decide +kernel) rfl rfl rfl (sq_208 rfl (o3 hc1 hc2)) (KP_V ?_)
      refine go_run mm_304 3 (pc' := 10) (ls' := [some (.ref 140), some (.int (b2i (f_208 S 146 (Int32.toInt64 (ra S 146 (27 + (3 * v2)))) (Int32.toInt64 (ra S 146 ((27 + (3 * v2)) + 1))) 1))), some (.int (v2 + 1))]) (st' := []) (S' := S) rfl ?_
      exact e1 hc1 hc2
    · refine go_run mm_304 2 (pc' := 67) (ls' := [some (.ref 140), some (.int (b2i v1)), some (.int 0)]) (st' := []) (S' := S) rfl ?_
      exact e2 hc1 hc2
  · refine go_run mm_304 2 (pc' := 67) (ls' := [some (.ref 140), some (.int (b2i v1)), some (.int 0)]) (st' := []) (S' := S) rfl ?_
    exact e3 hc1
set_option maxRecDepth 20000 in
theorem b_304_67 {d c : Nat} {R : RT} {S : ST} {v1 : Bool} {v2 : Int32} (o1 : v2 < (S.1 146 2) → v1 = true → inB (45 + (3 * v2)) 63) (o2 : v2 < (S.1 146 2) → v1 = true → inB ((45 + (3 * v2)) + 1) 63) (o3 : v2 < (S.1 146 2) → v1 = true → RW S 146) (e1 : v2 < (S.1 146 2) → v1 = true → Go XM (d + 7) 304 c 67 [some (.ref 140), some (.int (b2i (f_208 S 146 (Int32.toInt64 (ra S 146 (45 + (3 * v2)))) (Int32.toInt64 (ra S 146 ((45 + (3 * v2)) + 1))) 1))), some (.int (v2 + 1))] [] S R) (e2 : v2 < (S.1 146 2) → v1 = false → (!(decide (rf (S.1 140 0) (!v1) 3 = 0))) = true → R c (.inr (some (.int 0))) (wI S 140 0 (rf (S.1 140 0) (!v1) 3))) (e3 : v2 < (S.1 146 2) → v1 = false → (!(decide (rf (S.1 140 0) (!v1) 3 = 0))) = false → Go XM (d + 7) 304 c 142 [some (.ref 140), some (.int (b2i v1)), some (.int v2)] [.ref 140] (wI S 140 0 (rf (S.1 140 0) (!v1) 3)) R) (e4 : ¬ v2 < (S.1 146 2) → (!(decide (rf (S.1 140 0) (!v1) 3 = 0))) = true → R c (.inr (some (.int 0))) (wI S 140 0 (rf (S.1 140 0) (!v1) 3))) (e5 : ¬ v2 < (S.1 146 2) → (!(decide (rf (S.1 140 0) (!v1) 3 = 0))) = false → Go XM (d + 7) 304 c 142 [some (.ref 140), some (.int (b2i v1)), some (.int v2)] [.ref 140] (wI S 140 0 (rf (S.1 140 0) (!v1) 3)) R) : Go XM (d + 7) 304 c 67 [some (.ref 140), some (.int (b2i v1)), some (.int v2)] [] S R := by
  refine go_run mm_304 4 (pc' := 73) (ls' := [some (.ref 140), some (.int (b2i v1)), some (.int v2)]) (st' := [.int 2, .ref 146, .int v2]) (S' := S) rfl ?_
  refine go_iaload mm_304 (q := 2) rfl rfl rfl (inB_lit rfl) ?_
  refine go_if2 mm_304 rfl (p1 := 77) (p2 := 122) rfl (fun (hc1 : v2 < (S.1 146 2)) => ?_) (fun (hc1 : ¬ v2 < (S.1 146 2)) => ?_)
  · refine go_run mm_304 1 (pc' := 78) (ls' := [some (.ref 140), some (.int (b2i v1)), some (.int v2)]) (st' := [.int (b2i v1)]) (S' := S) rfl ?_
    refine go_ifb mm_304 rfl (p1 := 81) (p2 := 122) rfl (fun (hc2 : v1 = true) => ?_) (fun (hc2 : v1 = false) => ?_)
    · refine go_run mm_304 9 (pc' := 95) (ls' := [some (.ref 140), some (.int (b2i v1)), some (.int v2)]) (st' := [.int (45 + (3 * v2)), .ref 146, .ref 146]) (S' := S) rfl ?_
      refine go_iaload mm_304 (q := (Int32.toNatClampNeg (45 + (3 * v2)))) rfl rfl rfl (o1 hc1 hc2) ?_
      refine go_run mm_304 10 (pc' := 109) (ls' := [some (.ref 140), some (.int (b2i v1)), some (.int v2)]) (st' := [.int ((45 + (3 * v2)) + 1), .ref 146, .long (Int32.toInt64 (ra S 146 (45 + (3 * v2)))), .ref 146]) (S' := S) rfl ?_
      refine go_iaload mm_304 (q := (Int32.toNatClampNeg ((45 + (3 * v2)) + 1))) rfl rfl rfl (o2 hc1 hc2) ?_
      refine go_run mm_304 2 (pc' := 112) (ls' := [some (.ref 140), some (.int (b2i v1)), some (.int v2)]) (st' := [.long 1, .long (Int32.toInt64 (ra S 146 ((45 + (3 * v2)) + 1))), .long (Int32.toInt64 (ra S 146 (45 + (3 * v2)))), .ref 146]) (S' := S) rfl ?_
      refine go_cs mm_304 (av := [.ref 146, .long (Int32.toInt64 (ra S 146 (45 + (3 * v2)))), .long (Int32.toInt64 (ra S 146 ((45 + (3 * v2)) + 1))), .long 1]) (rest := []) (nl := 16) rfl (show csOK 304 112 172 208 4 16 = true by decide +kernel) rfl rfl rfl (sq_208 rfl (o3 hc1 hc2)) (KP_V ?_)
      refine go_run mm_304 3 (pc' := 67) (ls' := [some (.ref 140), some (.int (b2i (f_208 S 146 (Int32.toInt64 (ra S 146 (45 + (3 * v2)))) (Int32.toInt64 (ra S 146 ((45 + (3 * v2)) + 1))) 1))), some (.int (v2 + 1))]) (st' := []) (S' := S) rfl ?_
      exact e1 hc1 hc2
    · refine go_run mm_304 2 (pc' := 124) (ls' := [some (.ref 140), some (.int (b2i v1)), some (.int v2)]) (st' := [.int (b2i v1), .ref 140]) (S' := S) rfl ?_
      have j1 : Go XM (d + 7) 304 c 132 [some (.ref 140), some (.int (b2i v1)), some (.int v2)] [.int (b2i (!v1)), .ref 140] S R := by
        refine go_run mm_304 1 (pc' := 133) (ls' := [some (.ref 140), some (.int (b2i v1)), some (.int v2)]) (st' := [.int 3, .int (b2i (!v1)), .ref 140]) (S' := S) rfl ?_
        refine go_cv mm_304 (h := 140) (As := [.int (b2i (!v1)), .int 3]) (rest := []) (nl := 3) rfl XM_140 (show cvOK 304 133 86 183 2 3 11 = true by decide +kernel) rfl rfl rfl (sq_183) (KP_V ?_)
        refine go_ifb mm_304 rfl (p1 := 139) (p2 := 141) rfl (fun (hc3 : (!(decide (rf (S.1 140 0) (!v1) 3 = 0))) = true) => ?_) (fun (hc3 : (!(decide (rf (S.1 140 0) (!v1) 3 = 0))) = false) => ?_)
        · refine go_run mm_304 1 (pc' := 140) (ls' := [some (.ref 140), some (.int (b2i v1)), some (.int v2)]) (st' := [.int 0]) (S' := (wI S 140 0 (rf (S.1 140 0) (!v1) 3))) rfl ?_
          exact go_ireturn mm_304 rfl rfl (e2 hc1 hc2 hc3)
        · refine go_run mm_304 1 (pc' := 142) (ls' := [some (.ref 140), some (.int (b2i v1)), some (.int v2)]) (st' := [.ref 140]) (S' := (wI S 140 0 (rf (S.1 140 0) (!v1) 3))) rfl ?_
          exact e3 hc1 hc2 hc3
      refine go_ifb mm_304 rfl (p1 := 131) (p2 := 127) rfl (fun (hc3 : v1 = true) => ?_) (fun (hc3 : v1 = false) => ?_)
      · refine go_run mm_304 1 (pc' := 132) (ls' := [some (.ref 140), some (.int (b2i v1)), some (.int v2)]) (st' := [.int 0, .ref 140]) (S' := S) rfl ?_
        have e : ((b2i (!v1)) : Int32) = 0 := by simp [b2i, hc3]
        rw [e] at j1
        exact j1
      · refine go_run mm_304 2 (pc' := 132) (ls' := [some (.ref 140), some (.int (b2i v1)), some (.int v2)]) (st' := [.int 1, .ref 140]) (S' := S) rfl ?_
        have e : ((b2i (!v1)) : Int32) = 1 := by simp [b2i, hc3]
        rw [e] at j1
        exact j1
  · refine go_run mm_304 2 (pc' := 124) (ls' := [some (.ref 140), some (.int (b2i v1)), some (.int v2)]) (st' := [.int (b2i v1), .ref 140]) (S' := S) rfl ?_
    have j2 : Go XM (d + 7) 304 c 132 [some (.ref 140), some (.int (b2i v1)), some (.int v2)] [.int (b2i (!v1)), .ref 140] S R := by
      refine go_run mm_304 1 (pc' := 133) (ls' := [some (.ref 140), some (.int (b2i v1)), some (.int v2)]) (st' := [.int 3, .int (b2i (!v1)), .ref 140]) (S' := S) rfl ?_
      refine go_cv mm_304 (h := 140) (As := [.int (b2i (!v1)), .int 3]) (rest := []) (nl := 3) rfl XM_140 (show cvOK 304 133 86 183 2 3 11 = true by decide +kernel) rfl rfl rfl (sq_183) (KP_V ?_)
      refine go_ifb mm_304 rfl (p1 := 139) (p2 := 141) rfl (fun (hc2 : (!(decide (rf (S.1 140 0) (!v1) 3 = 0))) = true) => ?_) (fun (hc2 : (!(decide (rf (S.1 140 0) (!v1) 3 = 0))) = false) => ?_)
      · refine go_run mm_304 1 (pc' := 140) (ls' := [some (.ref 140), some (.int (b2i v1)), some (.int v2)]) (st' := [.int 0]) (S' := (wI S 140 0 (rf (S.1 140 0) (!v1) 3))) rfl ?_
        exact go_ireturn mm_304 rfl rfl (e4 hc1 hc2)
      · refine go_run mm_304 1 (pc' := 142) (ls' := [some (.ref 140), some (.int (b2i v1)), some (.int v2)]) (st' := [.ref 140]) (S' := (wI S 140 0 (rf (S.1 140 0) (!v1) 3))) rfl ?_
        exact e5 hc1 hc2
    refine go_ifb mm_304 rfl (p1 := 131) (p2 := 127) rfl (fun (hc2 : v1 = true) => ?_) (fun (hc2 : v1 = false) => ?_)
    · refine go_run mm_304 1 (pc' := 132) (ls' := [some (.ref 140), some (.int (b2i v1)), some (.int v2)]) (st' := [.int 0, .ref 140]) (S' := S) rfl ?_
      have e : ((b2i (!v1)) : Int32) = 0 := by simp [b2i, hc2]
      rw [e] at j2
      exact j2
    · refine go_run mm_304 2 (pc' := 132) (ls' := [some (.ref 140), some (.int (b2i v1)), some (.int v2)]) (st' := [.int 1, .ref 140]) (S' := S) rfl ?_
      have e : ((b2i (!v1)) : Int32) = 1 := by simp [b2i, hc2]
      rw [e] at j2
      exact j2
set_option maxRecDepth 20000 in
theorem b_304_145 {d c : Nat} {R : RT} {S : ST} {v1 : Bool} {v2 : Int32} (e1 : Go XM (d + 7) 304 c 147 [some (.ref 140), some (.int (b2i v1)), some (.int 0)] [] S R) : Go XM (d + 7) 304 c 145 [some (.ref 140), some (.int (b2i v1)), some (.int v2)] [] S R := by
  refine go_run mm_304 2 (pc' := 147) (ls' := [some (.ref 140), some (.int (b2i v1)), some (.int 0)]) (st' := []) (S' := S) rfl ?_
  exact e1
set_option maxRecDepth 20000 in
theorem b_304_147 {d c : Nat} {R : RT} {S : ST} {v1 : Bool} {v2 : Int32} (o1 : v2 < 63 → inB v2 63) (e1 : v2 < 63 → Go XM (d + 7) 304 c 147 [some (.ref 140), some (.int (b2i v1)), some (.int (v2 + 1))] [] (wI S 141 (Int32.toNatClampNeg v2) (ra S 146 v2)) R) (e2 : ¬ v2 < 63 → Go XM (d + 7) 304 c 177 [some (.ref 140), some (.int (b2i v1)), some (.int v2)] [.ref 140] (wI S 140 27 0) R) : Go XM (d + 7) 304 c 147 [some (.ref 140), some (.int (b2i v1)), some (.int v2)] [] S R := by
  refine go_run mm_304 2 (pc' := 150) (ls' := [some (.ref 140), some (.int (b2i v1)), some (.int v2)]) (st' := [.int 63, .int v2]) (S' := S) rfl ?_
  refine go_if2 mm_304 rfl (p1 := 153) (p2 := 171) rfl (fun (hc1 : v2 < 63) => ?_) (fun (hc1 : ¬ v2 < 63) => ?_)
  · refine go_run mm_304 6 (pc' := 163) (ls' := [some (.ref 140), some (.int (b2i v1)), some (.int v2)]) (st' := [.int v2, .ref 146, .int v2, .ref 141]) (S' := S) rfl ?_
    refine go_iaload mm_304 (q := (Int32.toNatClampNeg v2)) rfl rfl rfl (o1 hc1) ?_
    refine go_iastore mm_304 (q := (Int32.toNatClampNeg v2)) rfl rfl rfl (o1 hc1) ?_
    refine go_run mm_304 2 (pc' := 147) (ls' := [some (.ref 140), some (.int (b2i v1)), some (.int (v2 + 1))]) (st' := []) (S' := (wI S 141 (Int32.toNatClampNeg v2) (ra S 146 v2))) rfl ?_
    exact e1 hc1
  · refine go_run mm_304 4 (pc' := 177) (ls' := [some (.ref 140), some (.int (b2i v1)), some (.int v2)]) (st' := [.ref 140]) (S' := (wI S 140 27 0)) rfl ?_
    exact e2 hc1
set_option maxRecDepth 20000 in
theorem b_304_180 {d c : Nat} {R : RT} {S : ST} {v1 : Bool} {v2 : Int32} (e1 : R c (.inr (some (.int (S.1 140 20)))) S) : Go XM (d + 7) 304 c 180 [some (.ref 140), some (.int (b2i v1)), some (.int v2)] [] S R := by
  refine go_run mm_304 2 (pc' := 184) (ls' := [some (.ref 140), some (.int (b2i v1)), some (.int v2)]) (st' := [.int (S.1 140 20)]) (S' := S) rfl ?_
  exact go_ireturn mm_304 rfl rfl (e1)
theorem f213_t {S : ST} {h : Nat} (hB : RB S h) (q : f_213 S h = true) : GR S h := by
  unfold f_213 at q
  simp only [Bool.and_eq_true, Bool.not_eq_true', decide_eq_false_iff_not] at q
  have hW := RW_in q.1
  have h3 := f182_t.mp q.1
  have h3' : (3 : Int) ≤ (S.1 h 0).toInt := h3.1
  refine ⟨hW, ?_, hB, (simp_t hW hB).mp q.2.1, ?_⟩
  · show 3 ≤ (S.1 h 0).toInt.toNat
    omega
  · have := q.2.2
    unfold f_212 at this
    apply Classical.byContradiction
    intro z
    apply this
    have := rk_le (inp S h) 256
    exact (nJ_lt (i := 64) (by omega) (by omega)).mpr (by omega)
/-- guards' and treasures' places are in the square -/
def TBq (S : ST) (h : Nat) : Prop := (∃ G, S.1 h 1 = nJ G ∧ G ≤ 6 ∧ ∀ g, g < G → (0 ≤ (S.1 h (27 + 3 * g)).toInt ∧ (S.1 h (27 + 3 * g)).toInt ≤ 15) ∧ 0 ≤ (S.1 h (28 + 3 * g)).toInt ∧ (S.1 h (28 + 3 * g)).toInt ≤ 15) ∧ ∃ T, S.1 h 2 = nJ T ∧ T ≤ 6 ∧ ∀ t, t < T → (0 ≤ (S.1 h (45 + 3 * t)).toInt ∧ (S.1 h (45 + 3 * t)).toInt ≤ 15) ∧ 0 ≤ (S.1 h (46 + 3 * t)).toInt ∧ (S.1 h (46 + 3 * t)).toInt ≤ 15
theorem TBq_of {S : ST} {h : Nat} (g : GR S h) (ht : Th S h) : TBq S h := by
  obtain ⟨g1, g2, g3⟩ := GR_simple g
  have bx := fun {q : GPt} (hq : ge_cl 1 (rL S h) q) => cl_box g2 g1 (GR_box g) hq
  obtain ⟨⟨G, a1, a2, a3⟩, T, b1, b2, b3⟩ := ht
  refine ⟨⟨G, a1, a2, fun g hg => ?_⟩, T, b1, b2, fun t ht => ?_⟩
  · have := bx (a3 g hg)
    exact ⟨⟨this.1, this.2.1⟩, this.2.2.1, this.2.2.2⟩
  · have := bx (b3 t ht)
    exact ⟨⟨this.1, this.2.1⟩, this.2.2.1, this.2.2.2⟩
theorem TBq_e {S S' : ST} {h h' : Nat} (e : ∀ j, j = 1 ∨ j = 2 ∨ (27 ≤ j ∧ j < 63) → S'.1 h' j = S.1 h j) (ht : TBq S h) : TBq S' h' := by
  obtain ⟨⟨G, a1, a2, a3⟩, T, b1, b2, b3⟩ := ht
  refine ⟨⟨G, by rw [e 1 (by omega)]; exact a1, a2, fun g hg => ?_⟩, T, by rw [e 2 (by omega)]; exact b1, b2, fun t ht => ?_⟩
  · rw [e _ (by omega), e _ (by omega)]; exact a3 g hg
  · rw [e _ (by omega), e _ (by omega)]; exact b3 t ht
/-- isIn at a place of the row -/
theorem in_cl {S : ST} {h : Nat} (g : GR S h) {x y : Int32} (hx : 0 ≤ x.toInt ∧ x.toInt ≤ 15) (hy : 0 ≤ y.toInt ∧ y.toInt ≤ 15) : f_208 S h (Int32.toInt64 x) (Int32.toInt64 y) 1 = true ↔ ge_cl 1 (rL S h) (x.toInt, y.toInt) := by
  have a : (Int32.toInt64 x).toInt = x.toInt := Int32.toInt_toInt64 x
  have b : (Int32.toInt64 y).toInt = y.toInt := Int32.toInt_toInt64 y
  have := isIn_t (S := S) (h := h) (m := 1) (x := Int32.toInt64 x) (y := Int32.toInt64 y) g.1 g.2.2.1 (by decide) (by decide) (by unfold bd; rw [a]; omega) (by unfold bd; rw [b]; omega)
  rw [this, one_t]
  unfold lP
  rw [a, b]
/-- the invariant when a new row has become the state -/
theorem MOK_N {S S' : ST} (M : MOK S) (hF : Fm [141, 147, 148, 149] [20, 27] S S') (h0 : S'.1 140 27 = 0) (hL : Ld S') (ht : Th S' 141) : MOK S' := by
  obtain ⟨a1, a2, a3, a4, a5, a6, a7⟩ := M
  refine ⟨by rw [hF.fld (by decide) (by decide)]; exact a1, fun _ => ⟨hL, ht⟩, ?_, fun j hj h1 => ?_, fun h1 => absurd h0 h1, by rw [hF.fld (by decide) (by decide)]; exact a6, by rw [hF.fld (by decide) (by decide)]; exact a7⟩
  · obtain ⟨c, c1, c2, c3⟩ := a3
    exact ⟨c, by rw [hF.fld (by decide) (by decide)]; exact c1, c2, fun k hk => by rw [sto_fm hF (by decide)]; exact c3 k hk⟩
  · rw [hF.row (a := 143) (by decide) (by decide)] at h1
    rw [sto_fm hF (by decide)]
    exact a4 j hj h1
/-- rows aside don't matter -/
theorem MOK_r {S S' : ST} (M : MOK S) (hF : Fm [146] [0] S S') : MOK S' := by
  obtain ⟨a1, a2, a3, a4, a5, a6, a7⟩ := M
  refine ⟨by rw [hF.fld (by decide) (by decide)]; exact a1, fun h1 => ?_, ?_, fun j hj h1 => ?_, fun h1 => ?_, by rw [hF.fld (by decide) (by decide)]; exact a6, by rw [hF.fld (by decide) (by decide)]; exact a7⟩
  · rw [hF.fld (by decide) (by decide)] at h1
    exact ⟨(Ld_fm (a2 h1).1 hF (by decide) (by decide) (by decide) (by decide) (by decide) (by decide)).1, Th_r2 (hF.row (by decide) (by decide)) (a2 h1).2⟩
  · obtain ⟨c, c1, c2, c3⟩ := a3
    exact ⟨c, by rw [hF.fld (by decide) (by decide)]; exact c1, c2, fun k hk => by rw [sto_fm hF (by decide)]; exact c3 k hk⟩
  · rw [hF.row (a := 143) (by decide) (by decide)] at h1
    rw [sto_fm hF (by decide)]
    exact a4 j hj h1
  · rw [hF.fld (by decide) (by decide)] at h1
    exact Sv_fm (a5 h1) hF (by decide) (by decide) (by decide) (by decide)
section Be
variable {d : Nat} {S : ST}
/-- the row aside becomes the state -/
theorem copy_go (M : MOK S) (g : GTh S 146) {B : ST} (hb : S.1 140 7 = B.1 140 7) (b : Bool) : ∀ m i S1, i + m = 63 → Fm [141] [] S S1 → (∀ j, j < i → S1.1 141 j = S.1 146 j) → Go XM (d + 7) 304 0 147 [some (.ref 140), some (.int (b2i b)), some (.int (nJ i))] [] S1 (RC B) := by
  intro m
  induction m with
  | zero =>
    intro i S1 hi hF hv
    have hi : i = 63 := by omega
    subst hi
    have g1 : GTh (wI S1 140 27 0) 141 := GTh_c (S := S) (h := 146) (fun j hj => hv j hj) g
    refine b_304_147 (fun q => absurd q (by decide)) (fun q => absurd q (by decide)) (fun _ => ?_)
    refine go_cv mm_304 (h := 140) (As := []) (rest := []) (nl := 4) rfl XM_140 (show cvOK 304 177 198 214 0 4 11 = true by decide +kernel) rfl rfl rfl (sq_214 (d := d + 1) g1.1.1 g1.1.2.2.2.2) (KP_V ?_)
    have hl := g214_ld (S := wI S1 140 27 0) g1.1.2.2.2.2
    generalize g_214 (wI S1 140 27 0) = S2 at *
    refine b_304_180 ?_
    have hF2 := hl.2.2
    have e1 := hF2.row (a := 141) (by decide) (by decide)
    have hF3 : Fm [141, 147, 148, 149] [20, 27] S S2 := ((hF.wk (by decide) (by decide)).tr (Fm_f (by decide))).tr (hF2.wk (by decide) (by decide))
    have h27 : S2.1 140 27 = 0 := by rw [hF2.fld (by decide) (by decide)]; rfl
    refine ⟨rfl, _, rfl, ⟨_, rfl⟩, MOK_N M hF3 h27 ⟨GR_r2 e1 g1.1, ?_, ?_, Fm.rf⟩ (Th_r2 e1 g1.2), ?_⟩
    · rw [inp_r2 e1]; exact hl.1
    · rw [inp_r2 e1]; exact hl.2.1
    · rw [hF3.fld (by decide) (by decide)]; exact hb
  | succ m ih =>
    intro i S1 hi hF hv
    have hlt : nJ i < 63 := (nJ_lt (j := 63) (by omega) (by omega)).mpr (by omega)
    refine b_304_147 (fun _ => nJ_inB (by omega) (by omega)) (fun _ => ?_) (fun q => absurd hlt q)
    rw [nJ_succ, nJ_ix (by omega), ra_n S1 146 (by omega), hF.row (a := 146) (by decide) (by decide)]
    refine ih (i + 1) _ (by omega) (hF.tr (Fm_a (by decide))) (fun j hj => ?_)
    by_cases q : j = i
    · subst q; rw [wI_1, if_pos ⟨rfl, rfl⟩]
    · rw [wI_1, if_neg (fun z => q z.2)]; exact hv j (by omega)
theorem ixb {b t : Nat} (hb : b < 1000) (ht : t < 1000) : (nJ b + (3 * nJ t) : Int32) = nJ (b + 3 * t) := by
  show nJ b + (nJ 3 * nJ t) = _
  rw [nJ_mul, nJ_add]
theorem sq_304 (h : Qp S) (hB : RB S 146) (hT : TBq S 146) : Cal XM (d + 7) 304 [.ref 140] S (RC S) := by
  refine cal_go 2 rfl (b_304_0 ?_)
  obtain ⟨⟨G, a1, a2, a3⟩, T, b1, b2, b3⟩ := hT
  -- the end
  have fin : ∀ b v2, (b = true → GTh S 146) → Go XM (d + 7) 304 0 142 [some (.ref 140), some (.int (b2i b)), some (.int v2)] [.ref 140] (wI S 140 0 (rf (S.1 140 0) (!b) 3)) (RC S) ∨ b = false := by
    intro b v2 hg
    cases b with
    | false => exact Or.inr rfl
    | true =>
      refine Or.inl ?_
      have g := hg rfl
      have qt := Qq_t h.1 (rf (S.1 140 0) (!true) 3)
      have hQ : Qp (wI S 140 0 (rf (S.1 140 0) (!true) 3)) := ⟨qt.1, h.2⟩
      refine go_cv mm_304 (h := 140) (As := []) (rest := []) (nl := 2) rfl XM_140 (show cvOK 304 142 385 299 0 2 11 = true by decide +kernel) rfl rfl rfl (sq_299 (d := d + 5) hQ.1.2.2.1 ⟨hQ.ld.1.1, hQ.ld.2⟩) (KP_P (fun v S1 k1 => ?_))
      obtain ⟨rfl, hK⟩ := k1
      refine b_304_145 ?_
      have e6 : S1.1 146 = S.1 146 := PK_row hK (by decide) (by decide)
      exact copy_go (MOK_K hQ.1 hK) (GTh_r2 e6 g) (by rw [hK.1.fld (by decide) (by decide)]; rfl) true 63 0 S1 (by omega) Fm.rf (fun j hj => by omega)
  have lp2 : ∀ m t b, t + m = T → (b = true → GR S 146 ∧ (∀ g, g < G → ge_cl 1 (rL S 146) ((S.1 146 (27 + 3 * g)).toInt, (S.1 146 (28 + 3 * g)).toInt)) ∧ ∀ u, u < t → ge_cl 1 (rL S 146) ((S.1 146 (45 + 3 * u)).toInt, (S.1 146 (46 + 3 * u)).toInt)) → Go XM (d + 7) 304 0 67 [some (.ref 140), some (.int (b2i b)), some (.int (nJ t))] [] S (RC S) := by
    intro m
    induction m with
    | zero =>
      intro t b ht hb
      have hn : ¬ nJ t < S.1 146 2 := by rw [b1, nJ_lt (by omega) (by omega)]; omega
      refine b_304_67 (fun q => absurd q hn) (fun q => absurd q hn) (fun q => absurd q hn) (fun q => absurd q hn) (fun q => absurd q hn) (fun q => absurd q hn) (fun _ _ => RC_q (Qq_t h.1 _)) (fun _ hr => ?_)
      have hbt : b = true := by have := rf_f hr (by decide); cases b <;> simp_all
      subst hbt
      have hg : true = true → GTh S 146 := fun _ => by
        obtain ⟨c1, c2, c3⟩ := hb rfl
        exact ⟨c1, ⟨G, a1, a2, c2⟩, T, b1, b2, fun u hu => c3 u (by omega)⟩
      exact (fin true (nJ t) hg).resolve_right (fun z => by cases z)
    | succ m ih =>
      intro t b ht hb
      have hlt : nJ t < S.1 146 2 := by rw [b1, nJ_lt (by omega) (by omega)]; omega
      have i0 : (45 + (3 * nJ t) : Int32) = nJ (45 + 3 * t) := ixb (b := 45) (by omega) (by omega)
      have i1 : (45 + (3 * nJ t)) + 1 = nJ (46 + 3 * t) := by rw [i0, nJ_succ]; congr 1; omega
      refine b_304_67 (fun _ _ => by rw [i0]; exact nJ_inB (by omega) (by omega)) (fun _ _ => by rw [i1]; exact nJ_inB (by omega) (by omega)) (fun _ z => (hb z).1.1) (fun _ z => ?_) (fun _ z _ => RC_q (Qq_t h.1 _)) (fun _ z hr => ?_) (fun q => absurd hlt q) (fun q => absurd hlt q)
      · rw [nJ_succ, i1, i0, ra_n S 146 (by omega), ra_n S 146 (by omega)]
        obtain ⟨c1, c2, c3⟩ := hb z
        have hin := in_cl c1 (b3 t (by omega)).1 (b3 t (by omega)).2
        refine ih (t + 1) _ (by omega) (fun z2 => ⟨c1, c2, fun u hu => ?_⟩)
        by_cases e : u = t
        · subst e; exact hin.mp z2
        · exact c3 u (by omega)
      · subst z
        have := rf_f hr (by decide)
        cases this
  have lp1 : ∀ m g b, g + m = G → (b = true → GR S 146 ∧ ∀ u, u < g → ge_cl 1 (rL S 146) ((S.1 146 (27 + 3 * u)).toInt, (S.1 146 (28 + 3 * u)).toInt)) → Go XM (d + 7) 304 0 10 [some (.ref 140), some (.int (b2i b)), some (.int (nJ g))] [] S (RC S) := by
    intro m
    induction m with
    | zero =>
      intro g b hg hb
      have hn : ¬ nJ g < S.1 146 1 := by rw [a1, nJ_lt (by omega) (by omega)]; omega
      refine b_304_10 (fun q => absurd q hn) (fun q => absurd q hn) (fun q => absurd q hn) (fun q => absurd q hn) (fun q => absurd q hn) (fun _ => ?_)
      exact lp2 T 0 b (by omega) (fun z => ⟨(hb z).1, fun u hu => (hb z).2 u (by omega), fun u hu => by omega⟩)
    | succ m ih =>
      intro g b hg hb
      have hlt : nJ g < S.1 146 1 := by rw [a1, nJ_lt (by omega) (by omega)]; omega
      have i0 : (27 + (3 * nJ g) : Int32) = nJ (27 + 3 * g) := ixb (b := 27) (by omega) (by omega)
      have i1 : (27 + (3 * nJ g)) + 1 = nJ (28 + 3 * g) := by rw [i0, nJ_succ]; congr 1; omega
      refine b_304_10 (fun _ _ => by rw [i0]; exact nJ_inB (by omega) (by omega)) (fun _ _ => by rw [i1]; exact nJ_inB (by omega) (by omega)) (fun _ z => (hb z).1.1) (fun _ z => ?_) (fun _ z => ?_) (fun q => absurd hlt q)
      · rw [nJ_succ, i1, i0, ra_n S 146 (by omega), ra_n S 146 (by omega)]
        obtain ⟨c1, c2⟩ := hb z
        have hin := in_cl c1 (a3 g (by omega)).1 (a3 g (by omega)).2
        refine ih (g + 1) _ (by omega) (fun z2 => ⟨c1, fun u hu => ?_⟩)
        by_cases e : u = g
        · subst e; exact hin.mp z2
        · exact c2 u (by omega)
      · subst z
        exact lp2 T 0 false (by omega) (fun z => by cases z)
  exact lp1 G 0 (f_213 S 146) (by omega) (fun z => ⟨f213_t hB z, fun u hu => by omega⟩)
end Be
