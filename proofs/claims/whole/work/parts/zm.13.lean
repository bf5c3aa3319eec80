/-! methods as functions (printed by a program): 259 fewest, 260 vertexGuards, 261 edgeGuards, 262 laysGuards, 263 laysGuards, 264 guardNumber, 265 guardPoint, 266 laysWitnesses, 267 laysWitnesses -/
noncomputable def Lm_259_46 (v1 : Bool) (p46_2 : Int32) (p46_3 : Int32) (S : ST) (a46 : Int64 × Int32) : Option ((Int64 × Int32) ⊕ (Int64 × Int32)) := if a46.2 < (S.1 141 0) then (if (F_217 (Int32.toInt64 p46_3) a46.2) = true then (if v1 = true then (ck (ibd a46.2 12) (some (.inl (a46.1 ||| (S.2 154 (Int32.toNatClampNeg a46.2)), a46.2 + 1)))) else (ob (F_240 a46.2 S) (fun w2 => ck (ibd w2 64) (some (.inl (a46.1 ||| (S.2 153 (Int32.toNatClampNeg w2)), a46.2 + 1)))))) else (some (.inl (a46.1 ||| 0, a46.2 + 1)))) else (some (.inr (a46.1, a46.2)))
set_option maxRecDepth 20000 in
theorem LSm_259_46 {d : Nat} {R : RT} {S : ST} {v1 : Bool} {p46_2 : Int32} {p46_3 : Int32} {a46 : Int64 × Int32} {r9} (hr : Lm_259_46 v1 p46_2 p46_3 S a46 = some r9) (hL : ∀ a9, r9 = .inl a9 → (fun a46 => Go XM (d + 7) 259 0 46 [some (.ref 140), some (.int (b2i v1)), some (.int p46_2), some (.int p46_3), some (.long a46.1), none, some (.int a46.2)] [] S R) a9) (hR : ∀ b9, r9 = .inr b9 → (fun e46 => Go XM (d + 7) 259 0 107 [some (.ref 140), some (.int (b2i v1)), some (.int p46_2), some (.int p46_3), some (.long e46.1), none, some (.int e46.2)] [] S R) b9) : Go XM (d + 7) 259 0 46 [some (.ref 140), some (.int (b2i v1)), some (.int p46_2), some (.int p46_3), some (.long a46.1), none, some (.int a46.2)] [] S R := by
  unfold Lm_259_46 at hr
  refine go_run mm_259 4 (pc' := 53) (ls' := [some (.ref 140), some (.int (b2i v1)), some (.int p46_2), some (.int p46_3), some (.long a46.1), none, some (.int a46.2)]) (st' := [.int 0, .ref 141, .int a46.2]) (S' := S) rfl ?_
  refine go_iaload mm_259 (q := 0) rfl rfl rfl (inB_lit rfl) ?_
  show Go XM (d + 7) 259 0 54 [some (.ref 140), some (.int (b2i v1)), some (.int p46_2), some (.int p46_3), some (.long a46.1), none, some (.int a46.2)] [.int (S.1 141 0), .int a46.2] S R
  refine go_if2 mm_259 rfl (p1 := 57) (p2 := 107) rfl (fun (hc3 : a46.2 < (S.1 141 0)) => ?_) (fun (hc3 : ¬ a46.2 < (S.1 141 0)) => ?_)
  · rw [if_pos hc3] at hr
    refine go_run mm_259 4 (pc' := 63) (ls' := [some (.ref 140), some (.int (b2i v1)), some (.int p46_2), some (.int p46_3), some (.long a46.1), none, some (.int a46.2)]) (st' := [.int a46.2, .long (Int32.toInt64 p46_3), .long a46.1]) (S' := S) rfl ?_
    refine go_cs mm_259 (av := [.long (Int32.toInt64 p46_3), .int a46.2]) (rest := [.long a46.1]) (nl := 3) rfl (show csOK 259 63 282 217 2 3 = true by decide +kernel) rfl rfl rfl (S_217 rfl) (KP_V ?_)
    show Go XM (d + 7) 259 0 66 [some (.ref 140), some (.int (b2i v1)), some (.int p46_2), some (.int p46_3), some (.long a46.1), none, some (.int a46.2)] [.int (b2i (F_217 (Int32.toInt64 p46_3) a46.2)), .long a46.1] S R
    refine go_ifb mm_259 rfl (p1 := 69) (p2 := 97) rfl (fun (hc4 : (F_217 (Int32.toInt64 p46_3) a46.2) = true) => ?_) (fun (hc4 : (F_217 (Int32.toInt64 p46_3) a46.2) = false) => ?_)
    · rw [if_pos hc4] at hr
      refine go_run mm_259 1 (pc' := 70) (ls' := [some (.ref 140), some (.int (b2i v1)), some (.int p46_2), some (.int p46_3), some (.long a46.1), none, some (.int a46.2)]) (st' := [.int (b2i v1), .long a46.1]) (S' := S) rfl ?_
      refine go_ifb mm_259 rfl (p1 := 73) (p2 := 83) rfl (fun (hc5 : v1 = true) => ?_) (fun (hc5 : v1 = false) => ?_)
      · rw [if_pos hc5] at hr
        refine go_run mm_259 3 (pc' := 79) (ls' := [some (.ref 140), some (.int (b2i v1)), some (.int p46_2), some (.int p46_3), some (.long a46.1), none, some (.int a46.2)]) (st' := [.int a46.2, .ref 154, .long a46.1]) (S' := S) rfl ?_
        obtain ⟨hb6, hr⟩ := ck_some hr
        refine go_laload mm_259 (q := (Int32.toNatClampNeg a46.2)) rfl rfl rfl (ibd_ok hb6) ?_
        show Go XM (d + 7) 259 0 80 [some (.ref 140), some (.int (b2i v1)), some (.int p46_2), some (.int p46_3), some (.long a46.1), none, some (.int a46.2)] [.long (S.2 154 (Int32.toNatClampNeg a46.2)), .long a46.1] S R
        refine go_run mm_259 5 (pc' := 46) (ls' := [some (.ref 140), some (.int (b2i v1)), some (.int p46_2), some (.int p46_3), some (.long (a46.1 ||| (S.2 154 (Int32.toNatClampNeg a46.2)))), none, some (.int (a46.2 + 1))]) (st' := []) (S' := S) rfl ?_
        cases hr
        have h9 := hL (a46.1 ||| (S.2 154 (Int32.toNatClampNeg a46.2)), a46.2 + 1) rfl
        dsimp only at h9
        exact Go.le h9 (by repeat first | exact True.intro | refine And.intro rfl ?_)
      · rw [if_neg (bf hc5)] at hr
        refine go_run mm_259 4 (pc' := 90) (ls' := [some (.ref 140), some (.int (b2i v1)), some (.int p46_2), some (.int p46_3), some (.long a46.1), none, some (.int a46.2)]) (st' := [.int a46.2, .ref 140, .ref 153, .long a46.1]) (S' := S) rfl ?_
        obtain ⟨w2, hw2, hr⟩ := ob_some hr
        refine go_cv mm_259 (h := 140) (As := [.int a46.2]) (rest := [.ref 153, .long a46.1]) (nl := 2) rfl rfl (show cvOK 259 90 316 240 1 2 11 = true by decide +kernel) rfl rfl rfl (S_240 hw2) (KP_V ?_)
        show Go XM (d + 7) 259 0 93 [some (.ref 140), some (.int (b2i v1)), some (.int p46_2), some (.int p46_3), some (.long a46.1), none, some (.int a46.2)] [.int w2, .ref 153, .long a46.1] S R
        obtain ⟨hb7, hr⟩ := ck_some hr
        refine go_laload mm_259 (q := (Int32.toNatClampNeg w2)) rfl rfl rfl (ibd_ok hb7) ?_
        show Go XM (d + 7) 259 0 94 [some (.ref 140), some (.int (b2i v1)), some (.int p46_2), some (.int p46_3), some (.long a46.1), none, some (.int a46.2)] [.long (S.2 153 (Int32.toNatClampNeg w2)), .long a46.1] S R
        refine go_run mm_259 5 (pc' := 46) (ls' := [some (.ref 140), some (.int (b2i v1)), some (.int p46_2), some (.int p46_3), some (.long (a46.1 ||| (S.2 153 (Int32.toNatClampNeg w2)))), none, some (.int (a46.2 + 1))]) (st' := []) (S' := S) rfl ?_
        cases hr
        have h9 := hL (a46.1 ||| (S.2 153 (Int32.toNatClampNeg w2)), a46.2 + 1) rfl
        dsimp only at h9
        exact Go.le h9 (by repeat first | exact True.intro | refine And.intro rfl ?_)
    · rw [if_neg (bf hc4)] at hr
      refine go_run mm_259 5 (pc' := 46) (ls' := [some (.ref 140), some (.int (b2i v1)), some (.int p46_2), some (.int p46_3), some (.long (a46.1 ||| 0)), none, some (.int (a46.2 + 1))]) (st' := []) (S' := S) rfl ?_
      cases hr
      have h9 := hL (a46.1 ||| 0, a46.2 + 1) rfl
      dsimp only at h9
      exact Go.le h9 (by repeat first | exact True.intro | refine And.intro rfl ?_)
  · rw [if_neg hc3] at hr
    cases hr
    have h9 := hR (a46.1, a46.2) rfl
    dsimp only [Sum.elim_inl] at h9
    exact Go.le h9 (by repeat first | exact True.intro | refine And.intro rfl ?_)
noncomputable def Lm_259_8 (v1 : Bool) (S : ST) (a8 : Int32 × Int32) : Option ((Int32 × Int32) ⊕ (Int32 × Int32)) := if a8.2 < (1 <<< ((S.1 141 0) &&& 31)) then (if a8.1 = 0 then (ob (wh FU (Lm_259_46 v1 a8.1 a8.2 S) (0, 0)) (fun e46 => some (.inl ((if e46.1 = (F_216 S) then a8.2 else a8.1), a8.2 + 1)))) else (if (F_218 (Int32.toInt64 a8.2)) < (F_218 (Int32.toInt64 a8.1)) then (ob (wh FU (Lm_259_46 v1 a8.1 a8.2 S) (0, 0)) (fun e46 => some (.inl ((if e46.1 = (F_216 S) then a8.2 else a8.1), a8.2 + 1)))) else (some (.inl (a8.1, a8.2 + 1))))) else (some (.inr (a8.1, a8.2)))
set_option maxRecDepth 20000 in
theorem LSm_259_8 {d : Nat} {R : RT} {S : ST} {v1 : Bool} {a8 : Int32 × Int32} {r9} (hr : Lm_259_8 v1 S a8 = some r9) (hL : ∀ a9, r9 = .inl a9 → (fun a8 => Go XM (d + 7) 259 0 8 [some (.ref 140), some (.int (b2i v1)), some (.int a8.1), some (.int a8.2), none, none, none] [] S R) a9) (hR : ∀ b9, r9 = .inr b9 → (fun e8 => Go XM (d + 7) 259 0 129 [some (.ref 140), some (.int (b2i v1)), some (.int e8.1), some (.int e8.2), none, none, none] [] S R) b9) : Go XM (d + 7) 259 0 8 [some (.ref 140), some (.int (b2i v1)), some (.int a8.1), some (.int a8.2), none, none, none] [] S R := by
  unfold Lm_259_8 at hr
  refine go_run mm_259 5 (pc' := 15) (ls' := [some (.ref 140), some (.int (b2i v1)), some (.int a8.1), some (.int a8.2), none, none, none]) (st' := [.int 0, .ref 141, .int 1, .int a8.2]) (S' := S) rfl ?_
  refine go_iaload mm_259 (q := 0) rfl rfl rfl (inB_lit rfl) ?_
  show Go XM (d + 7) 259 0 16 [some (.ref 140), some (.int (b2i v1)), some (.int a8.1), some (.int a8.2), none, none, none] [.int (S.1 141 0), .int 1, .int a8.2] S R
  refine go_run mm_259 1 (pc' := 17) (ls' := [some (.ref 140), some (.int (b2i v1)), some (.int a8.1), some (.int a8.2), none, none, none]) (st' := [.int (1 <<< ((S.1 141 0) &&& 31)), .int a8.2]) (S' := S) rfl ?_
  refine go_if2 mm_259 rfl (p1 := 20) (p2 := 129) rfl (fun (hc1 : a8.2 < (1 <<< ((S.1 141 0) &&& 31))) => ?_) (fun (hc1 : ¬ a8.2 < (1 <<< ((S.1 141 0) &&& 31))) => ?_)
  · rw [if_pos hc1] at hr
    refine go_run mm_259 1 (pc' := 21) (ls' := [some (.ref 140), some (.int (b2i v1)), some (.int a8.1), some (.int a8.2), none, none, none]) (st' := [.int a8.1]) (S' := S) rfl ?_
    refine go_if0 mm_259 rfl (p1 := 40) (p2 := 24) rfl (fun (hc2 : a8.1 = 0) => ?_) (fun (hc2 : ¬ a8.1 = 0) => ?_)
    · rw [if_pos hc2] at hr
      refine go_run mm_259 4 (pc' := 46) (ls' := [some (.ref 140), some (.int (b2i v1)), some (.int a8.1), some (.int a8.2), some (.long 0), none, some (.int 0)]) (st' := []) (S' := S) rfl ?_
      obtain ⟨z46, he46, hr⟩ := ob_some hr
      refine Go.le (ls' := [some (.ref 140), some (.int (b2i v1)), some (.int a8.1), some (.int a8.2), some (.long 0), none, some (.int 0)]) ?_ (by repeat first | exact True.intro | refine And.intro rfl ?_)
      refine wh_go (P := fun a46 => Go XM (d + 7) 259 0 46 [some (.ref 140), some (.int (b2i v1)), some (.int a8.1), some (.int a8.2), some (.long a46.1), none, some (.int a46.2)] [] S R) (K := fun e46 => Go XM (d + 7) 259 0 107 [some (.ref 140), some (.int (b2i v1)), some (.int a8.1), some (.int a8.2), some (.long e46.1), none, some (.int e46.2)] [] S R) (fun a9 r9 h9 hL hR => LSm_259_46 h9 hL hR) _ _ _ he46 ?_
      generalize z46 = e46 at hr
      show Go XM (d + 7) 259 0 107 [some (.ref 140), some (.int (b2i v1)), some (.int a8.1), some (.int a8.2), some (.long e46.1), none, some (.int e46.2)] [] S R
      refine go_run mm_259 2 (pc' := 110) (ls' := [some (.ref 140), some (.int (b2i v1)), some (.int a8.1), some (.int a8.2), some (.long e46.1), none, some (.int e46.2)]) (st' := [.ref 140, .long e46.1]) (S' := S) rfl ?_
      refine go_cv mm_259 (h := 140) (As := []) (rest := [.long e46.1]) (nl := 1) rfl rfl (show cvOK 259 110 286 216 0 1 11 = true by decide +kernel) rfl rfl rfl (S_216 rfl) (KP_V ?_)
      show Go XM (d + 7) 259 0 113 [some (.ref 140), some (.int (b2i v1)), some (.int a8.1), some (.int a8.2), some (.long e46.1), none, some (.int e46.2)] [.long (F_216 S), .long e46.1] S R
      have j9 : Go XM (d + 7) 259 0 122 [some (.ref 140), some (.int (b2i v1)), some (.int a8.1), some (.int a8.2), some (.long e46.1), none, some (.int e46.2)] [.int (if e46.1 = (F_216 S) then a8.2 else a8.1)] S R := by
        refine go_run mm_259 3 (pc' := 8) (ls' := [some (.ref 140), some (.int (b2i v1)), some (.int (if e46.1 = (F_216 S) then a8.2 else a8.1)), some (.int (a8.2 + 1)), some (.long e46.1), none, some (.int e46.2)]) (st' := []) (S' := S) rfl ?_
        cases hr
        have h9 := hL ((if e46.1 = (F_216 S) then a8.2 else a8.1), a8.2 + 1) rfl
        dsimp only at h9
        exact Go.le h9 (by repeat first | exact True.intro | refine And.intro rfl ?_)
      refine go_lif mm_259 rfl rfl (p1 := 117) (p2 := 121) rfl (fun (hc8 : e46.1 = (F_216 S)) => ?_) (fun (hc8 : ¬ e46.1 = (F_216 S)) => ?_)
      · refine go_run mm_259 2 (pc' := 122) (ls' := [some (.ref 140), some (.int (b2i v1)), some (.int a8.1), some (.int a8.2), some (.long e46.1), none, some (.int e46.2)]) (st' := [.int a8.2]) (S' := S) rfl ?_
        have e : ((if e46.1 = (F_216 S) then a8.2 else a8.1) : Int32) = a8.2 := by simp [b2i, hc8]
        rw [e] at j9
        exact j9
      · refine go_run mm_259 1 (pc' := 122) (ls' := [some (.ref 140), some (.int (b2i v1)), some (.int a8.1), some (.int a8.2), some (.long e46.1), none, some (.int e46.2)]) (st' := [.int a8.1]) (S' := S) rfl ?_
        have e : ((if e46.1 = (F_216 S) then a8.2 else a8.1) : Int32) = a8.1 := by simp [b2i, hc8]
        rw [e] at j9
        exact j9
    · rw [if_neg hc2] at hr
      refine go_run mm_259 2 (pc' := 26) (ls' := [some (.ref 140), some (.int (b2i v1)), some (.int a8.1), some (.int a8.2), none, none, none]) (st' := [.long (Int32.toInt64 a8.2)]) (S' := S) rfl ?_
      refine go_cs mm_259 (av := [.long (Int32.toInt64 a8.2)]) (rest := []) (nl := 5) rfl (show csOK 259 26 313 218 1 5 = true by decide +kernel) rfl rfl rfl (S_218 rfl) (KP_V ?_)
      show Go XM (d + 7) 259 0 29 [some (.ref 140), some (.int (b2i v1)), some (.int a8.1), some (.int a8.2), none, none, none] [.int (F_218 (Int32.toInt64 a8.2))] S R
      refine go_run mm_259 2 (pc' := 31) (ls' := [some (.ref 140), some (.int (b2i v1)), some (.int a8.1), some (.int a8.2), none, none, none]) (st' := [.long (Int32.toInt64 a8.1), .int (F_218 (Int32.toInt64 a8.2))]) (S' := S) rfl ?_
      refine go_cs mm_259 (av := [.long (Int32.toInt64 a8.1)]) (rest := [.int (F_218 (Int32.toInt64 a8.2))]) (nl := 5) rfl (show csOK 259 31 313 218 1 5 = true by decide +kernel) rfl rfl rfl (S_218 rfl) (KP_V ?_)
      show Go XM (d + 7) 259 0 34 [some (.ref 140), some (.int (b2i v1)), some (.int a8.1), some (.int a8.2), none, none, none] [.int (F_218 (Int32.toInt64 a8.1)), .int (F_218 (Int32.toInt64 a8.2))] S R
      refine go_if2 mm_259 rfl (p1 := 40) (p2 := 37) rfl (fun (hc10 : (F_218 (Int32.toInt64 a8.2)) < (F_218 (Int32.toInt64 a8.1))) => ?_) (fun (hc10 : ¬ (F_218 (Int32.toInt64 a8.2)) < (F_218 (Int32.toInt64 a8.1))) => ?_)
      · rw [if_pos hc10] at hr
        refine go_run mm_259 4 (pc' := 46) (ls' := [some (.ref 140), some (.int (b2i v1)), some (.int a8.1), some (.int a8.2), some (.long 0), none, some (.int 0)]) (st' := []) (S' := S) rfl ?_
        obtain ⟨z46, he46, hr⟩ := ob_some hr
        refine Go.le (ls' := [some (.ref 140), some (.int (b2i v1)), some (.int a8.1), some (.int a8.2), some (.long 0), none, some (.int 0)]) ?_ (by repeat first | exact True.intro | refine And.intro rfl ?_)
        refine wh_go (P := fun a46 => Go XM (d + 7) 259 0 46 [some (.ref 140), some (.int (b2i v1)), some (.int a8.1), some (.int a8.2), some (.long a46.1), none, some (.int a46.2)] [] S R) (K := fun e46 => Go XM (d + 7) 259 0 107 [some (.ref 140), some (.int (b2i v1)), some (.int a8.1), some (.int a8.2), some (.long e46.1), none, some (.int e46.2)] [] S R) (fun a9 r9 h9 hL hR => LSm_259_46 h9 hL hR) _ _ _ he46 ?_
        generalize z46 = e46 at hr
        show Go XM (d + 7) 259 0 107 [some (.ref 140), some (.int (b2i v1)), some (.int a8.1), some (.int a8.2), some (.long e46.1), none, some (.int e46.2)] [] S R
        refine go_run mm_259 2 (pc' := 110) (ls' := [some (.ref 140), some (.int (b2i v1)), some (.int a8.1), some (.int a8.2), some (.long e46.1), none, some (.int e46.2)]) (st' := [.ref 140, .long e46.1]) (S' := S) rfl ?_
        refine go_cv mm_259 (h := 140) (As := []) (rest := [.long e46.1]) (nl := 1) rfl rfl (show cvOK 259 110 286 216 0 1 11 = true by decide +kernel) rfl rfl rfl (S_216 rfl) (KP_V ?_)
        show Go XM (d + 7) 259 0 113 [some (.ref 140), some (.int (b2i v1)), some (.int a8.1), some (.int a8.2), some (.long e46.1), none, some (.int e46.2)] [.long (F_216 S), .long e46.1] S R
        have j17 : Go XM (d + 7) 259 0 122 [some (.ref 140), some (.int (b2i v1)), some (.int a8.1), some (.int a8.2), some (.long e46.1), none, some (.int e46.2)] [.int (if e46.1 = (F_216 S) then a8.2 else a8.1)] S R := by
          refine go_run mm_259 3 (pc' := 8) (ls' := [some (.ref 140), some (.int (b2i v1)), some (.int (if e46.1 = (F_216 S) then a8.2 else a8.1)), some (.int (a8.2 + 1)), some (.long e46.1), none, some (.int e46.2)]) (st' := []) (S' := S) rfl ?_
          cases hr
          have h9 := hL ((if e46.1 = (F_216 S) then a8.2 else a8.1), a8.2 + 1) rfl
          dsimp only at h9
          exact Go.le h9 (by repeat first | exact True.intro | refine And.intro rfl ?_)
        refine go_lif mm_259 rfl rfl (p1 := 117) (p2 := 121) rfl (fun (hc16 : e46.1 = (F_216 S)) => ?_) (fun (hc16 : ¬ e46.1 = (F_216 S)) => ?_)
        · refine go_run mm_259 2 (pc' := 122) (ls' := [some (.ref 140), some (.int (b2i v1)), some (.int a8.1), some (.int a8.2), some (.long e46.1), none, some (.int e46.2)]) (st' := [.int a8.2]) (S' := S) rfl ?_
          have e : ((if e46.1 = (F_216 S) then a8.2 else a8.1) : Int32) = a8.2 := by simp [b2i, hc16]
          rw [e] at j17
          exact j17
        · refine go_run mm_259 1 (pc' := 122) (ls' := [some (.ref 140), some (.int (b2i v1)), some (.int a8.1), some (.int a8.2), some (.long e46.1), none, some (.int e46.2)]) (st' := [.int a8.1]) (S' := S) rfl ?_
          have e : ((if e46.1 = (F_216 S) then a8.2 else a8.1) : Int32) = a8.1 := by simp [b2i, hc16]
          rw [e] at j17
          exact j17
      · rw [if_neg hc10] at hr
        refine go_run mm_259 3 (pc' := 8) (ls' := [some (.ref 140), some (.int (b2i v1)), some (.int a8.1), some (.int (a8.2 + 1)), none, none, none]) (st' := []) (S' := S) rfl ?_
        cases hr
        have h9 := hL (a8.1, a8.2 + 1) rfl
        dsimp only at h9
        exact Go.le h9 (by repeat first | exact True.intro | refine And.intro rfl ?_)
  · rw [if_neg hc1] at hr
    cases hr
    have h9 := hR (a8.1, a8.2) rfl
    dsimp only [Sum.elim_inl] at h9
    exact Go.le h9 (by repeat first | exact True.intro | refine And.intro rfl ?_)
noncomputable def F_259 (v1 : Bool) (S : ST) : Option (Int32 × ST) := ob (F_239 S) (fun w1 => ob (wh FU (Lm_259_8 v1 w1.2) (0, 1)) (fun e8 => some (e8.1, w1.2)))
set_option maxRecDepth 20000 in
theorem S_259 {d : Nat} {S : ST} {v1 : Bool} {r} (hr : F_259 v1 S = some r) : Cal XM (d + 7) 259 [.ref 140, .int (b2i v1)] S (RV (vI r.1) r.2) := by
  unfold F_259 at hr
  refine cal_go 5 rfl ?_
  refine go_run mm_259 1 (pc' := 1) (ls' := [some (.ref 140), some (.int (b2i v1)), none, none, none, none, none]) (st' := [.ref 140]) (S' := S) rfl ?_
  obtain ⟨w1, hw1, hr⟩ := ob_some hr
  refine go_cv mm_259 (h := 140) (As := []) (rest := []) (nl := 3) rfl rfl (show cvOK 259 1 279 239 0 3 11 = true by decide +kernel) rfl rfl rfl (S_239 hw1) (KP_V ?_)
  show Go XM (d + 7) 259 0 4 [some (.ref 140), some (.int (b2i v1)), none, none, none, none, none] [] w1.2 (RV (vI r.1) r.2)
  refine go_run mm_259 4 (pc' := 8) (ls' := [some (.ref 140), some (.int (b2i v1)), some (.int 0), some (.int 1), none, none, none]) (st' := []) (S' := w1.2) rfl ?_
  obtain ⟨z8, he8, hr⟩ := ob_some hr
  refine Go.le (ls' := [some (.ref 140), some (.int (b2i v1)), some (.int 0), some (.int 1), none, none, none]) ?_ (by repeat first | exact True.intro | refine And.intro rfl ?_)
  refine wh_go (P := fun a8 => Go XM (d + 7) 259 0 8 [some (.ref 140), some (.int (b2i v1)), some (.int a8.1), some (.int a8.2), none, none, none] [] w1.2 (RV (vI r.1) r.2)) (K := fun e8 => Go XM (d + 7) 259 0 129 [some (.ref 140), some (.int (b2i v1)), some (.int e8.1), some (.int e8.2), none, none, none] [] w1.2 (RV (vI r.1) r.2)) (fun a9 r9 h9 hL hR => LSm_259_8 h9 hL hR) _ _ _ he8 ?_
  generalize z8 = e8 at hr
  show Go XM (d + 7) 259 0 129 [some (.ref 140), some (.int (b2i v1)), some (.int e8.1), some (.int e8.2), none, none, none] [] w1.2 (RV (vI r.1) r.2)
  refine go_run mm_259 1 (pc' := 130) (ls' := [some (.ref 140), some (.int (b2i v1)), some (.int e8.1), some (.int e8.2), none, none, none]) (st' := [.int e8.1]) (S' := w1.2) rfl ?_
  cases hr
  exact go_ireturn mm_259 rfl rfl ⟨rfl, rfl, rfl⟩

noncomputable def F_260 (S : ST) : Option (Int32 × ST) := ob (F_184 S) (fun w1 => if w1.1 = true then (some (0, w1.2)) else (ob (F_259 false w1.2) (fun w2 => some (w2.1, w2.2))))
set_option maxRecDepth 20000 in
theorem S_260 {d : Nat} {S : ST} {r} (hr : F_260 S = some r) : Cal XM (d + 8) 260 [.ref 140] S (RV (vI r.1) r.2) := by
  unfold F_260 at hr
  refine cal_go 0 rfl ?_
  refine go_run mm_260 1 (pc' := 1) (ls' := [some (.ref 140)]) (st' := [.ref 140]) (S' := S) rfl ?_
  obtain ⟨w1, hw1, hr⟩ := ob_some hr
  refine go_cv mm_260 (h := 140) (As := []) (rest := []) (nl := 1) rfl rfl (show cvOK 260 1 247 184 0 1 11 = true by decide +kernel) rfl rfl rfl (S_184 hw1) (KP_V ?_)
  show Go XM (d + 8) 260 0 4 [some (.ref 140)] [.int (b2i w1.1)] w1.2 (RV (vI r.1) r.2)
  refine go_ifb mm_260 rfl (p1 := 7) (p2 := 11) rfl (fun (hc1 : w1.1 = true) => ?_) (fun (hc1 : w1.1 = false) => ?_)
  · rw [if_pos hc1] at hr
    refine go_run mm_260 2 (pc' := 16) (ls' := [some (.ref 140)]) (st' := [.int 0]) (S' := w1.2) rfl ?_
    cases hr
    exact go_ireturn mm_260 rfl rfl ⟨rfl, rfl, rfl⟩
  · rw [if_neg (bf hc1)] at hr
    refine go_run mm_260 2 (pc' := 13) (ls' := [some (.ref 140)]) (st' := [.int 0, .ref 140]) (S' := w1.2) rfl ?_
    obtain ⟨w2, hw2, hr⟩ := ob_some hr
    refine go_cv mm_260 (h := 140) (As := [.int (b2i false)]) (rest := []) (nl := 7) rfl rfl (show cvOK 260 13 319 259 1 7 11 = true by decide +kernel) rfl rfl rfl (S_259 hw2) (KP_V ?_)
    show Go XM (d + 8) 260 0 16 [some (.ref 140)] [.int w2.1] w2.2 (RV (vI r.1) r.2)
    cases hr
    exact go_ireturn mm_260 rfl rfl ⟨rfl, rfl, rfl⟩

noncomputable def F_261 (S : ST) : Option (Int32 × ST) := ob (F_184 S) (fun w1 => if w1.1 = true then (some (0, w1.2)) else (ob (F_259 true w1.2) (fun w2 => some (w2.1, w2.2))))
set_option maxRecDepth 20000 in
theorem S_261 {d : Nat} {S : ST} {r} (hr : F_261 S = some r) : Cal XM (d + 8) 261 [.ref 140] S (RV (vI r.1) r.2) := by
  unfold F_261 at hr
  refine cal_go 0 rfl ?_
  refine go_run mm_261 1 (pc' := 1) (ls' := [some (.ref 140)]) (st' := [.ref 140]) (S' := S) rfl ?_
  obtain ⟨w1, hw1, hr⟩ := ob_some hr
  refine go_cv mm_261 (h := 140) (As := []) (rest := []) (nl := 1) rfl rfl (show cvOK 261 1 247 184 0 1 11 = true by decide +kernel) rfl rfl rfl (S_184 hw1) (KP_V ?_)
  show Go XM (d + 8) 261 0 4 [some (.ref 140)] [.int (b2i w1.1)] w1.2 (RV (vI r.1) r.2)
  refine go_ifb mm_261 rfl (p1 := 7) (p2 := 11) rfl (fun (hc1 : w1.1 = true) => ?_) (fun (hc1 : w1.1 = false) => ?_)
  · rw [if_pos hc1] at hr
    refine go_run mm_261 2 (pc' := 16) (ls' := [some (.ref 140)]) (st' := [.int 0]) (S' := w1.2) rfl ?_
    cases hr
    exact go_ireturn mm_261 rfl rfl ⟨rfl, rfl, rfl⟩
  · rw [if_neg (bf hc1)] at hr
    refine go_run mm_261 2 (pc' := 13) (ls' := [some (.ref 140)]) (st' := [.int 1, .ref 140]) (S' := w1.2) rfl ?_
    obtain ⟨w2, hw2, hr⟩ := ob_some hr
    refine go_cv mm_261 (h := 140) (As := [.int (b2i true)]) (rest := []) (nl := 7) rfl rfl (show cvOK 261 13 319 259 1 7 11 = true by decide +kernel) rfl rfl rfl (S_259 hw2) (KP_V ?_)
    show Go XM (d + 8) 261 0 16 [some (.ref 140)] [.int w2.1] w2.2 (RV (vI r.1) r.2)
    cases hr
    exact go_ireturn mm_261 rfl rfl ⟨rfl, rfl, rfl⟩

noncomputable def Lm_262_24 (rec : Int32 → Int32 → Int32 → Int64 → ST → Option (Bool × ST)) (v1 : Int32) (v2 : Int32) (v3 : Int32) (v4 : Int64) (a24 : Int32 × ST) : Option ((Int32 × ST) ⊕ ((Int32 × ST) ⊕ (Bool × ST))) := if a24.1 < (a24.2.1 140 20) then (ck (ibd v1 4) (sbn ((wI a24.2 159 (Int32.toNatClampNeg v1) a24.1)) (fun s6 => ck (ibd a24.1 64) (ob (rec (v1 + 1) v2 (a24.1 + 1) (v4 &&& ((s6.2 153 (Int32.toNatClampNeg a24.1)) ^^^ (-1))) s6) (fun w1 => if w1.1 = true then (some (.inr (.inr (true, w1.2)))) else (some (.inl (a24.1 + 1, w1.2)))))))) else (some (.inr (.inl (a24.1, a24.2))))
set_option maxRecDepth 20000 in
theorem LSm_262_24 {d : Nat} {R : RT} {rec : Int32 → Int32 → Int32 → Int64 → ST → Option (Bool × ST)} {v1 : Int32} {v2 : Int32} {v3 : Int32} {v4 : Int64} {a24 : Int32 × ST} {r9} (hrec : ∀ {v1 : Int32} {v2 : Int32} {v3 : Int32} {v4 : Int64} {S : ST} {r}, rec v1 v2 v3 v4 S = some r → Cal XM d 262 [.ref 140, .int v1, .int v2, .int v3, .long v4] S (RV (vZ r.1) r.2)) (hr : Lm_262_24 rec v1 v2 v3 v4 a24 = some r9) (hL : ∀ a9, r9 = .inl a9 → (fun a24 => Go XM (d + 1) 262 0 24 [some (.ref 140), some (.int v1), some (.int v2), some (.int v3), some (.long v4), none, some (.int a24.1)] [] a24.2 R) a9) (hR : ∀ b9, r9 = .inr b9 → Sum.elim (fun e24 => Go XM (d + 1) 262 0 78 [some (.ref 140), some (.int v1), some (.int v2), some (.int v3), some (.long v4), none, some (.int e24.1)] [] e24.2 R) (fun o => R 0 (.inr (vZ o.1)) o.2) b9) : Go XM (d + 1) 262 0 24 [some (.ref 140), some (.int v1), some (.int v2), some (.int v3), some (.long v4), none, some (.int a24.1)] [] a24.2 R := by
  unfold Lm_262_24 at hr
  refine go_run mm_262 3 (pc' := 30) (ls' := [some (.ref 140), some (.int v1), some (.int v2), some (.int v3), some (.long v4), none, some (.int a24.1)]) (st' := [.int (a24.2.1 140 20), .int a24.1]) (S' := a24.2) rfl ?_
  refine go_if2 mm_262 rfl (p1 := 33) (p2 := 78) rfl (fun (hc4 : a24.1 < (a24.2.1 140 20)) => ?_) (fun (hc4 : ¬ a24.1 < (a24.2.1 140 20)) => ?_)
  · rw [if_pos hc4] at hr
    refine go_run mm_262 4 (pc' := 40) (ls' := [some (.ref 140), some (.int v1), some (.int v2), some (.int v3), some (.long v4), none, some (.int a24.1)]) (st' := [.int a24.1, .int v1, .ref 159]) (S' := a24.2) rfl ?_
    obtain ⟨hb5, hr⟩ := ck_some hr
    refine go_iastore mm_262 (q := (Int32.toNatClampNeg v1)) rfl rfl rfl (ibd_ok hb5) ?_
    show Go XM (d + 1) 262 0 41 [some (.ref 140), some (.int v1), some (.int v2), some (.int v3), some (.long v4), none, some (.int a24.1)] [] (wI a24.2 159 (Int32.toNatClampNeg v1) a24.1) R
    obtain ⟨s6, es6, hr⟩ := sbn_some hr
    rw [← es6]
    refine go_run mm_262 12 (pc' := 58) (ls' := [some (.ref 140), some (.int v1), some (.int v2), some (.int v3), some (.long v4), none, some (.int a24.1)]) (st' := [.int a24.1, .ref 153, .long v4, .int (a24.1 + 1), .int v2, .int (v1 + 1), .ref 140]) (S' := s6) rfl ?_
    obtain ⟨hb7, hr⟩ := ck_some hr
    refine go_laload mm_262 (q := (Int32.toNatClampNeg a24.1)) rfl rfl rfl (ibd_ok hb7) ?_
    show Go XM (d + 1) 262 0 59 [some (.ref 140), some (.int v1), some (.int v2), some (.int v3), some (.long v4), none, some (.int a24.1)] [.long (s6.2 153 (Int32.toNatClampNeg a24.1)), .long v4, .int (a24.1 + 1), .int v2, .int (v1 + 1), .ref 140] s6 R
    refine go_run mm_262 3 (pc' := 64) (ls' := [some (.ref 140), some (.int v1), some (.int v2), some (.int v3), some (.long v4), none, some (.int a24.1)]) (st' := [.long (v4 &&& ((s6.2 153 (Int32.toNatClampNeg a24.1)) ^^^ (-1))), .int (a24.1 + 1), .int v2, .int (v1 + 1), .ref 140]) (S' := s6) rfl ?_
    obtain ⟨w1, hw1, hr⟩ := ob_some hr
    refine go_cv mm_262 (h := 140) (As := [.int (v1 + 1), .int v2, .int (a24.1 + 1), .long (v4 &&& ((s6.2 153 (Int32.toNatClampNeg a24.1)) ^^^ (-1)))]) (rest := []) (nl := 7) rfl rfl (show cvOK 262 64 323 262 4 7 11 = true by decide +kernel) rfl rfl rfl (Cal.up (hrec hw1) (Nat.le_refl _)) (KP_V ?_)
    show Go XM (d + 1) 262 0 67 [some (.ref 140), some (.int v1), some (.int v2), some (.int v3), some (.long v4), none, some (.int a24.1)] [.int (b2i w1.1)] w1.2 R
    refine go_ifb mm_262 rfl (p1 := 70) (p2 := 72) rfl (fun (hc8 : w1.1 = true) => ?_) (fun (hc8 : w1.1 = false) => ?_)
    · rw [if_pos hc8] at hr
      refine go_run mm_262 1 (pc' := 71) (ls' := [some (.ref 140), some (.int v1), some (.int v2), some (.int v3), some (.long v4), none, some (.int a24.1)]) (st' := [.int 1]) (S' := w1.2) rfl ?_
      cases hr
      have h9 : R 0 (.inr (vZ true)) w1.2 := hR _ rfl
      exact go_zreturn mm_262 rfl rfl (Or.inr rfl) h9
    · rw [if_neg (bf hc8)] at hr
      refine go_run mm_262 2 (pc' := 24) (ls' := [some (.ref 140), some (.int v1), some (.int v2), some (.int v3), some (.long v4), none, some (.int (a24.1 + 1))]) (st' := []) (S' := w1.2) rfl ?_
      cases hr
      have h9 := hL (a24.1 + 1, w1.2) rfl
      dsimp only at h9
      exact Go.le h9 (by repeat first | exact True.intro | refine And.intro rfl ?_)
  · rw [if_neg hc4] at hr
    cases hr
    have h9 := hR (.inl (a24.1, a24.2)) rfl
    dsimp only [Sum.elim_inl] at h9
    exact Go.le h9 (by repeat first | exact True.intro | refine And.intro rfl ?_)
noncomputable def B_262 (rec : Int32 → Int32 → Int32 → Int64 → ST → Option (Bool × ST)) (v1 : Int32) (v2 : Int32) (v3 : Int32) (v4 : Int64) (S : ST) : Option (Bool × ST) := if v4 = 0 then (if v1 = v2 then (some (true, S)) else (if v1 = v2 then (some (false, S)) else (ob (wh FU (Lm_262_24 rec v1 v2 v3 v4) (v3, S)) (fun z => Sum.elim (fun e24 => some (false, e24.2)) (fun o => some o) z)))) else (if v1 = v2 then (some (false, S)) else (ob (wh FU (Lm_262_24 rec v1 v2 v3 v4) (v3, S)) (fun z => Sum.elim (fun e24 => some (false, e24.2)) (fun o => some o) z)))
noncomputable def F_262 : Nat → Int32 → Int32 → Int32 → Int64 → ST → Option (Bool × ST)
  | 0, _, _, _, _ => fun _ => none
  | n + 1, v1, v2, v3, v4 => fun S => B_262 (F_262 n) v1 v2 v3 v4 S
set_option maxRecDepth 20000 in
theorem S_262 : ∀ (n : Nat) {d : Nat} {v1 : Int32} {v2 : Int32} {v3 : Int32} {v4 : Int64} {S : ST} {r} (_ : F_262 n v1 v2 v3 v4 S = some r), Cal XM (d + n + 1) 262 [.ref 140, .int v1, .int v2, .int v3, .long v4] S (RV (vZ r.1) r.2) := by
  intro n
  induction n with
  | zero => intro d v1 v2 v3 v4 S r hr; cases hr
  | succ n ih =>
    intro d v1 v2 v3 v4 S r hr
    have hr : B_262 (F_262 n) v1 v2 v3 v4 S = some r := hr
    unfold B_262 at hr
    have hrec : ∀ {v1 : Int32} {v2 : Int32} {v3 : Int32} {v4 : Int64} {S : ST} {r}, F_262 n v1 v2 v3 v4 S = some r → Cal XM (d + (n + 1) + 0) 262 [.ref 140, .int v1, .int v2, .int v3, .long v4] S (RV (vZ r.1) r.2) := fun h => Cal.up (ih (d := d) h) (Nat.le_of_eq (by omega))
    refine cal_go 1 rfl ?_
    refine go_run mm_262 2 (pc' := 3) (ls' := [some (.ref 140), some (.int v1), some (.int v2), some (.int v3), some (.long v4), none, none]) (st' := [.long 0, .long v4]) (S' := S) rfl ?_
    refine go_lif mm_262 rfl rfl (p1 := 7) (p2 := 14) rfl (fun (hc1 : v4 = 0) => ?_) (fun (hc1 : ¬ v4 = 0) => ?_)
    · rw [if_pos hc1] at hr
      refine go_run mm_262 2 (pc' := 9) (ls' := [some (.ref 140), some (.int v1), some (.int v2), some (.int v3), some (.long v4), none, none]) (st' := [.int v2, .int v1]) (S' := S) rfl ?_
      refine go_if2 mm_262 rfl (p1 := 12) (p2 := 14) rfl (fun (hc2 : v1 = v2) => ?_) (fun (hc2 : ¬ v1 = v2) => ?_)
      · rw [if_pos hc2] at hr
        refine go_run mm_262 1 (pc' := 13) (ls' := [some (.ref 140), some (.int v1), some (.int v2), some (.int v3), some (.long v4), none, none]) (st' := [.int 1]) (S' := S) rfl ?_
        cases hr
        exact go_zreturn mm_262 rfl rfl (Or.inr rfl) ⟨rfl, rfl, rfl⟩
      · rw [if_neg hc2] at hr
        refine go_run mm_262 2 (pc' := 16) (ls' := [some (.ref 140), some (.int v1), some (.int v2), some (.int v3), some (.long v4), none, none]) (st' := [.int v2, .int v1]) (S' := S) rfl ?_
        refine go_if2 mm_262 rfl (p1 := 19) (p2 := 21) rfl (fun (hc3 : v1 = v2) => ?_) (fun (hc3 : ¬ v1 = v2) => ?_)
        · rw [if_pos hc3] at hr
          refine go_run mm_262 1 (pc' := 20) (ls' := [some (.ref 140), some (.int v1), some (.int v2), some (.int v3), some (.long v4), none, none]) (st' := [.int 0]) (S' := S) rfl ?_
          cases hr
          exact go_zreturn mm_262 rfl rfl (Or.inl rfl) ⟨rfl, rfl, rfl⟩
        · rw [if_neg hc3] at hr
          refine go_run mm_262 2 (pc' := 24) (ls' := [some (.ref 140), some (.int v1), some (.int v2), some (.int v3), some (.long v4), none, some (.int v3)]) (st' := []) (S' := S) rfl ?_
          obtain ⟨z24, he24, hr⟩ := ob_some hr
          refine Go.le (ls' := [some (.ref 140), some (.int v1), some (.int v2), some (.int v3), some (.long v4), none, some (.int v3)]) ?_ (by repeat first | exact True.intro | refine And.intro rfl ?_)
          refine wh_go (P := fun a24 => Go XM (d + (n + 1) + 1) 262 0 24 [some (.ref 140), some (.int v1), some (.int v2), some (.int v3), some (.long v4), none, some (.int a24.1)] [] a24.2 (RV (vZ r.1) r.2)) (K := fun z => Sum.elim (fun e24 => Go XM (d + (n + 1) + 1) 262 0 78 [some (.ref 140), some (.int v1), some (.int v2), some (.int v3), some (.long v4), none, some (.int e24.1)] [] e24.2 (RV (vZ r.1) r.2)) (fun o => (RV (vZ r.1) r.2) 0 (.inr (vZ o.1)) o.2) z) (fun a9 r9 h9 hL hR => LSm_262_24 hrec h9 hL hR) _ _ _ he24 ?_
          rcases z24 with e24 | o
          rotate_left
          · simp only [Sum.elim_inr] at hr
            cases hr
            exact ⟨rfl, rfl, rfl⟩
          simp only [Sum.elim_inl] at hr
          show Go XM (d + (n + 1) + 1) 262 0 78 [some (.ref 140), some (.int v1), some (.int v2), some (.int v3), some (.long v4), none, some (.int e24.1)] [] e24.2 (RV (vZ r.1) r.2)
          refine go_run mm_262 1 (pc' := 79) (ls' := [some (.ref 140), some (.int v1), some (.int v2), some (.int v3), some (.long v4), none, some (.int e24.1)]) (st' := [.int 0]) (S' := e24.2) rfl ?_
          cases hr
          exact go_zreturn mm_262 rfl rfl (Or.inl rfl) ⟨rfl, rfl, rfl⟩
    · rw [if_neg hc1] at hr
      refine go_run mm_262 2 (pc' := 16) (ls' := [some (.ref 140), some (.int v1), some (.int v2), some (.int v3), some (.long v4), none, none]) (st' := [.int v2, .int v1]) (S' := S) rfl ?_
      refine go_if2 mm_262 rfl (p1 := 19) (p2 := 21) rfl (fun (hc9 : v1 = v2) => ?_) (fun (hc9 : ¬ v1 = v2) => ?_)
      · rw [if_pos hc9] at hr
        refine go_run mm_262 1 (pc' := 20) (ls' := [some (.ref 140), some (.int v1), some (.int v2), some (.int v3), some (.long v4), none, none]) (st' := [.int 0]) (S' := S) rfl ?_
        cases hr
        exact go_zreturn mm_262 rfl rfl (Or.inl rfl) ⟨rfl, rfl, rfl⟩
      · rw [if_neg hc9] at hr
        refine go_run mm_262 2 (pc' := 24) (ls' := [some (.ref 140), some (.int v1), some (.int v2), some (.int v3), some (.long v4), none, some (.int v3)]) (st' := []) (S' := S) rfl ?_
        obtain ⟨z24, he24, hr⟩ := ob_some hr
        refine Go.le (ls' := [some (.ref 140), some (.int v1), some (.int v2), some (.int v3), some (.long v4), none, some (.int v3)]) ?_ (by repeat first | exact True.intro | refine And.intro rfl ?_)
        refine wh_go (P := fun a24 => Go XM (d + (n + 1) + 1) 262 0 24 [some (.ref 140), some (.int v1), some (.int v2), some (.int v3), some (.long v4), none, some (.int a24.1)] [] a24.2 (RV (vZ r.1) r.2)) (K := fun z => Sum.elim (fun e24 => Go XM (d + (n + 1) + 1) 262 0 78 [some (.ref 140), some (.int v1), some (.int v2), some (.int v3), some (.long v4), none, some (.int e24.1)] [] e24.2 (RV (vZ r.1) r.2)) (fun o => (RV (vZ r.1) r.2) 0 (.inr (vZ o.1)) o.2) z) (fun a9 r9 h9 hL hR => LSm_262_24 hrec h9 hL hR) _ _ _ he24 ?_
        rcases z24 with e24 | o
        rotate_left
        · simp only [Sum.elim_inr] at hr
          cases hr
          exact ⟨rfl, rfl, rfl⟩
        simp only [Sum.elim_inl] at hr
        show Go XM (d + (n + 1) + 1) 262 0 78 [some (.ref 140), some (.int v1), some (.int v2), some (.int v3), some (.long v4), none, some (.int e24.1)] [] e24.2 (RV (vZ r.1) r.2)
        refine go_run mm_262 1 (pc' := 79) (ls' := [some (.ref 140), some (.int v1), some (.int v2), some (.int v3), some (.long v4), none, some (.int e24.1)]) (st' := [.int 0]) (S' := e24.2) rfl ?_
        cases hr
        exact go_zreturn mm_262 rfl rfl (Or.inl rfl) ⟨rfl, rfl, rfl⟩

noncomputable def Lm_263_14 (a14 : Int32 × ST) : Option ((Int32 × ST) ⊕ (Int32 × ST)) := ob (F_262 6 0 a14.1 0 (F_216 a14.2) a14.2) (fun w2 => if w2.1 = true then (some (.inr (a14.1, w2.2))) else (some (.inl (a14.1 + 1, w2.2))))
set_option maxRecDepth 20000 in
theorem LSm_263_14 {d : Nat} {R : RT} {a14 : Int32 × ST} {r9} (hr : Lm_263_14 a14 = some r9) (hL : ∀ a9, r9 = .inl a9 → (fun a14 => Go XM (d + 8) 263 0 14 [some (.ref 140), some (.int a14.1)] [] a14.2 R) a9) (hR : ∀ b9, r9 = .inr b9 → (fun e14 => Go XM (d + 8) 263 0 34 [some (.ref 140), some (.int e14.1)] [] e14.2 R) b9) : Go XM (d + 8) 263 0 14 [some (.ref 140), some (.int a14.1)] [] a14.2 R := by
  unfold Lm_263_14 at hr
  refine go_run mm_263 5 (pc' := 19) (ls' := [some (.ref 140), some (.int a14.1)]) (st' := [.ref 140, .int 0, .int a14.1, .int 0, .ref 140]) (S' := a14.2) rfl ?_
  refine go_cv mm_263 (h := 140) (As := []) (rest := [.int 0, .int a14.1, .int 0, .ref 140]) (nl := 1) rfl rfl (show cvOK 263 19 286 216 0 1 11 = true by decide +kernel) rfl rfl rfl (S_216 rfl) (KP_V ?_)
  show Go XM (d + 8) 263 0 22 [some (.ref 140), some (.int a14.1)] [.long (F_216 a14.2), .int 0, .int a14.1, .int 0, .ref 140] a14.2 R
  obtain ⟨w2, hw2, hr⟩ := ob_some hr
  refine go_cv mm_263 (h := 140) (As := [.int 0, .int a14.1, .int 0, .long (F_216 a14.2)]) (rest := []) (nl := 7) rfl rfl (show cvOK 263 22 323 262 4 7 11 = true by decide +kernel) rfl rfl rfl (S_262 _ hw2) (KP_V ?_)
  show Go XM (d + 8) 263 0 25 [some (.ref 140), some (.int a14.1)] [.int (b2i w2.1)] w2.2 R
  refine go_ifb mm_263 rfl (p1 := 34) (p2 := 28) rfl (fun (hc2 : w2.1 = true) => ?_) (fun (hc2 : w2.1 = false) => ?_)
  · rw [if_pos hc2] at hr
    cases hr
    have h9 := hR (a14.1, w2.2) rfl
    dsimp only [Sum.elim_inl] at h9
    exact Go.le h9 (by repeat first | exact True.intro | refine And.intro rfl ?_)
  · rw [if_neg (bf hc2)] at hr
    refine go_run mm_263 2 (pc' := 14) (ls' := [some (.ref 140), some (.int (a14.1 + 1))]) (st' := []) (S' := w2.2) rfl ?_
    cases hr
    have h9 := hL (a14.1 + 1, w2.2) rfl
    dsimp only at h9
    exact Go.le h9 (by repeat first | exact True.intro | refine And.intro rfl ?_)
noncomputable def F_263 (S : ST) : Option (Unit × ST) := ob (F_239 S) (fun w1 => if (0 : Int32) < (w1.2.1 140 34) then (some ((), w1.2)) else (ob (wh FU (Lm_263_14) (1, w1.2)) (fun e14 => some ((), (wI e14.2 140 34 e14.1)))))
set_option maxRecDepth 20000 in
theorem S_263 {d : Nat} {S : ST} {r} (hr : F_263 S = some r) : Cal XM (d + 8) 263 [.ref 140] S (RV (vU r.1) r.2) := by
  unfold F_263 at hr
  refine cal_go 1 rfl ?_
  refine go_run mm_263 1 (pc' := 1) (ls' := [some (.ref 140), none]) (st' := [.ref 140]) (S' := S) rfl ?_
  obtain ⟨w1, hw1, hr⟩ := ob_some hr
  refine go_cv mm_263 (h := 140) (As := []) (rest := []) (nl := 3) rfl rfl (show cvOK 263 1 279 239 0 3 11 = true by decide +kernel) rfl rfl rfl (S_239 hw1) (KP_V ?_)
  show Go XM (d + 8) 263 0 4 [some (.ref 140), none] [] w1.2 (RV (vU r.1) r.2)
  refine go_run mm_263 2 (pc' := 8) (ls' := [some (.ref 140), none]) (st' := [.int (w1.2.1 140 34)]) (S' := w1.2) rfl ?_
  refine go_if0 mm_263 rfl (p1 := 11) (p2 := 12) rfl (fun (hc1 : (0 : Int32) < (w1.2.1 140 34)) => ?_) (fun (hc1 : ¬ (0 : Int32) < (w1.2.1 140 34)) => ?_)
  · rw [if_pos hc1] at hr
    cases hr
    exact go_vreturn mm_263 rfl rfl ⟨rfl, rfl, rfl⟩
  · rw [if_neg hc1] at hr
    refine go_run mm_263 2 (pc' := 14) (ls' := [some (.ref 140), some (.int 1)]) (st' := []) (S' := w1.2) rfl ?_
    obtain ⟨z14, he14, hr⟩ := ob_some hr
    refine Go.le (ls' := [some (.ref 140), some (.int 1)]) ?_ (by repeat first | exact True.intro | refine And.intro rfl ?_)
    refine wh_go (P := fun a14 => Go XM (d + 8) 263 0 14 [some (.ref 140), some (.int a14.1)] [] a14.2 (RV (vU r.1) r.2)) (K := fun e14 => Go XM (d + 8) 263 0 34 [some (.ref 140), some (.int e14.1)] [] e14.2 (RV (vU r.1) r.2)) (fun a9 r9 h9 hL hR => LSm_263_14 h9 hL hR) _ _ _ he14 ?_
    generalize z14 = e14 at hr
    show Go XM (d + 8) 263 0 34 [some (.ref 140), some (.int e14.1)] [] e14.2 (RV (vU r.1) r.2)
    refine go_run mm_263 3 (pc' := 39) (ls' := [some (.ref 140), some (.int e14.1)]) (st' := []) (S' := (wI e14.2 140 34 e14.1)) rfl ?_
    cases hr
    exact go_vreturn mm_263 rfl rfl ⟨rfl, rfl, rfl⟩

noncomputable def F_264 (S : ST) : Option (Int32 × ST) := ob (F_184 S) (fun w1 => if w1.1 = true then (some (0, w1.2)) else (ob (F_263 w1.2) (fun w2 => some (w2.2.1 140 34, w2.2))))
set_option maxRecDepth 20000 in
theorem S_264 {d : Nat} {S : ST} {r} (hr : F_264 S = some r) : Cal XM (d + 9) 264 [.ref 140] S (RV (vI r.1) r.2) := by
  unfold F_264 at hr
  refine cal_go 0 rfl ?_
  refine go_run mm_264 1 (pc' := 1) (ls' := [some (.ref 140)]) (st' := [.ref 140]) (S' := S) rfl ?_
  obtain ⟨w1, hw1, hr⟩ := ob_some hr
  refine go_cv mm_264 (h := 140) (As := []) (rest := []) (nl := 1) rfl rfl (show cvOK 264 1 247 184 0 1 11 = true by decide +kernel) rfl rfl rfl (S_184 hw1) (KP_V ?_)
  show Go XM (d + 9) 264 0 4 [some (.ref 140)] [.int (b2i w1.1)] w1.2 (RV (vI r.1) r.2)
  refine go_ifb mm_264 rfl (p1 := 7) (p2 := 9) rfl (fun (hc1 : w1.1 = true) => ?_) (fun (hc1 : w1.1 = false) => ?_)
  · rw [if_pos hc1] at hr
    refine go_run mm_264 1 (pc' := 8) (ls' := [some (.ref 140)]) (st' := [.int 0]) (S' := w1.2) rfl ?_
    cases hr
    exact go_ireturn mm_264 rfl rfl ⟨rfl, rfl, rfl⟩
  · rw [if_neg (bf hc1)] at hr
    refine go_run mm_264 1 (pc' := 10) (ls' := [some (.ref 140)]) (st' := [.ref 140]) (S' := w1.2) rfl ?_
    obtain ⟨w2, hw2, hr⟩ := ob_some hr
    refine go_cv mm_264 (h := 140) (As := []) (rest := []) (nl := 2) rfl rfl (show cvOK 264 10 327 263 0 2 11 = true by decide +kernel) rfl rfl rfl (S_263 hw2) (KP_V ?_)
    show Go XM (d + 9) 264 0 13 [some (.ref 140)] [] w2.2 (RV (vI r.1) r.2)
    refine go_run mm_264 2 (pc' := 17) (ls' := [some (.ref 140)]) (st' := [.int (w2.2.1 140 34)]) (S' := w2.2) rfl ?_
    cases hr
    exact go_ireturn mm_264 rfl rfl ⟨rfl, rfl, rfl⟩

noncomputable def F_265 (v1 : Int32) (S : ST) : Option (Int32 × ST) := ob (F_184 S) (fun w1 => if w1.1 = true then (some (0, w1.2)) else (ob (F_263 w1.2) (fun w2 => ob (F_183 (!(F_182 v1 0 ((w2.2.1 140 34) - 1))) 2 w2.2) (fun w3 => if w3.1 = true then (some (0, w3.2)) else (ck (ibd v1 4) (some (w3.2.1 159 (Int32.toNatClampNeg v1), w3.2)))))))
set_option maxRecDepth 20000 in
theorem S_265 {d : Nat} {S : ST} {v1 : Int32} {r} (hr : F_265 v1 S = some r) : Cal XM (d + 9) 265 [.ref 140, .int v1] S (RV (vI r.1) r.2) := by
  unfold F_265 at hr
  refine cal_go 0 rfl ?_
  refine go_run mm_265 1 (pc' := 1) (ls' := [some (.ref 140), some (.int v1)]) (st' := [.ref 140]) (S' := S) rfl ?_
  obtain ⟨w1, hw1, hr⟩ := ob_some hr
  refine go_cv mm_265 (h := 140) (As := []) (rest := []) (nl := 1) rfl rfl (show cvOK 265 1 247 184 0 1 11 = true by decide +kernel) rfl rfl rfl (S_184 hw1) (KP_V ?_)
  show Go XM (d + 9) 265 0 4 [some (.ref 140), some (.int v1)] [.int (b2i w1.1)] w1.2 (RV (vI r.1) r.2)
  refine go_ifb mm_265 rfl (p1 := 7) (p2 := 9) rfl (fun (hc1 : w1.1 = true) => ?_) (fun (hc1 : w1.1 = false) => ?_)
  · rw [if_pos hc1] at hr
    refine go_run mm_265 1 (pc' := 8) (ls' := [some (.ref 140), some (.int v1)]) (st' := [.int 0]) (S' := w1.2) rfl ?_
    cases hr
    exact go_ireturn mm_265 rfl rfl ⟨rfl, rfl, rfl⟩
  · rw [if_neg (bf hc1)] at hr
    refine go_run mm_265 1 (pc' := 10) (ls' := [some (.ref 140), some (.int v1)]) (st' := [.ref 140]) (S' := w1.2) rfl ?_
    obtain ⟨w2, hw2, hr⟩ := ob_some hr
    refine go_cv mm_265 (h := 140) (As := []) (rest := []) (nl := 2) rfl rfl (show cvOK 265 10 327 263 0 2 11 = true by decide +kernel) rfl rfl rfl (S_263 hw2) (KP_V ?_)
    show Go XM (d + 9) 265 0 13 [some (.ref 140), some (.int v1)] [] w2.2 (RV (vI r.1) r.2)
    refine go_run mm_265 7 (pc' := 22) (ls' := [some (.ref 140), some (.int v1)]) (st' := [.int ((w2.2.1 140 34) - 1), .int 0, .int v1, .ref 140]) (S' := w2.2) rfl ?_
    refine go_cs mm_265 (av := [.int v1, .int 0, .int ((w2.2.1 140 34) - 1)]) (rest := [.ref 140]) (nl := 3) rfl (show csOK 265 22 148 182 3 3 = true by decide +kernel) rfl rfl rfl (S_182 rfl) (KP_V ?_)
    show Go XM (d + 9) 265 0 25 [some (.ref 140), some (.int v1)] [.int (b2i (F_182 v1 0 ((w2.2.1 140 34) - 1))), .ref 140] w2.2 (RV (vI r.1) r.2)
    have j5 : Go XM (d + 9) 265 0 33 [some (.ref 140), some (.int v1)] [.int (b2i (!(F_182 v1 0 ((w2.2.1 140 34) - 1)))), .ref 140] w2.2 (RV (vI r.1) r.2) := by
      refine go_run mm_265 1 (pc' := 34) (ls' := [some (.ref 140), some (.int v1)]) (st' := [.int 2, .int (b2i (!(F_182 v1 0 ((w2.2.1 140 34) - 1)))), .ref 140]) (S' := w2.2) rfl ?_
      obtain ⟨w3, hw3, hr⟩ := ob_some hr
      refine go_cv mm_265 (h := 140) (As := [.int (b2i (!(F_182 v1 0 ((w2.2.1 140 34) - 1)))), .int 2]) (rest := []) (nl := 3) rfl rfl (show cvOK 265 34 86 183 2 3 11 = true by decide +kernel) rfl rfl rfl (S_183 hw3) (KP_V ?_)
      show Go XM (d + 9) 265 0 37 [some (.ref 140), some (.int v1)] [.int (b2i w3.1)] w3.2 (RV (vI r.1) r.2)
      refine go_ifb mm_265 rfl (p1 := 40) (p2 := 44) rfl (fun (hc3 : w3.1 = true) => ?_) (fun (hc3 : w3.1 = false) => ?_)
      · rw [if_pos hc3] at hr
        refine go_run mm_265 2 (pc' := 50) (ls' := [some (.ref 140), some (.int v1)]) (st' := [.int 0]) (S' := w3.2) rfl ?_
        cases hr
        exact go_ireturn mm_265 rfl rfl ⟨rfl, rfl, rfl⟩
      · rw [if_neg (bf hc3)] at hr
        refine go_run mm_265 3 (pc' := 49) (ls' := [some (.ref 140), some (.int v1)]) (st' := [.int v1, .ref 159]) (S' := w3.2) rfl ?_
        obtain ⟨hb4, hr⟩ := ck_some hr
        refine go_iaload mm_265 (q := (Int32.toNatClampNeg v1)) rfl rfl rfl (ibd_ok hb4) ?_
        show Go XM (d + 9) 265 0 50 [some (.ref 140), some (.int v1)] [.int (w3.2.1 159 (Int32.toNatClampNeg v1))] w3.2 (RV (vI r.1) r.2)
        cases hr
        exact go_ireturn mm_265 rfl rfl ⟨rfl, rfl, rfl⟩
    refine go_ifb mm_265 rfl (p1 := 32) (p2 := 28) rfl (fun (hc2 : (F_182 v1 0 ((w2.2.1 140 34) - 1)) = true) => ?_) (fun (hc2 : (F_182 v1 0 ((w2.2.1 140 34) - 1)) = false) => ?_)
    · refine go_run mm_265 1 (pc' := 33) (ls' := [some (.ref 140), some (.int v1)]) (st' := [.int 0, .ref 140]) (S' := w2.2) rfl ?_
      have e : ((b2i (!(F_182 v1 0 ((w2.2.1 140 34) - 1)))) : Int32) = 0 := by simp [b2i, hc2]
      rw [e] at j5
      exact j5
    · refine go_run mm_265 2 (pc' := 33) (ls' := [some (.ref 140), some (.int v1)]) (st' := [.int 1, .ref 140]) (S' := w2.2) rfl ?_
      have e : ((b2i (!(F_182 v1 0 ((w2.2.1 140 34) - 1)))) : Int32) = 1 := by simp [b2i, hc2]
      rw [e] at j5
      exact j5

noncomputable def Lm_266_10 (rec : Int32 → Int32 → Int32 → Int64 → ST → Option (Bool × ST)) (v1 : Int32) (v2 : Int32) (v3 : Int32) (v4 : Int64) (a10 : Int32 × ST) : Option ((Int32 × ST) ⊕ ((Int32 × ST) ⊕ (Bool × ST))) := if a10.1 < (a10.2.1 140 20) then (ck (ibd a10.1 64) (if ((a10.2.2 153 (Int32.toNatClampNeg a10.1)) &&& v4) = 0 then (ck (ibd v1 4) (sbn ((wI a10.2 160 (Int32.toNatClampNeg v1) a10.1)) (fun s6 => ck (ibd a10.1 64) (ob (rec (v1 + 1) v2 (a10.1 + 1) (v4 ||| (s6.2 153 (Int32.toNatClampNeg a10.1))) s6) (fun w1 => if w1.1 = true then (some (.inr (.inr (true, w1.2)))) else (some (.inl (a10.1 + 1, w1.2)))))))) else (some (.inl (a10.1 + 1, a10.2))))) else (some (.inr (.inl (a10.1, a10.2))))
set_option maxRecDepth 20000 in
theorem LSm_266_10 {d : Nat} {R : RT} {rec : Int32 → Int32 → Int32 → Int64 → ST → Option (Bool × ST)} {v1 : Int32} {v2 : Int32} {v3 : Int32} {v4 : Int64} {a10 : Int32 × ST} {r9} (hrec : ∀ {v1 : Int32} {v2 : Int32} {v3 : Int32} {v4 : Int64} {S : ST} {r}, rec v1 v2 v3 v4 S = some r → Cal XM d 266 [.ref 140, .int v1, .int v2, .int v3, .long v4] S (RV (vZ r.1) r.2)) (hr : Lm_266_10 rec v1 v2 v3 v4 a10 = some r9) (hL : ∀ a9, r9 = .inl a9 → (fun a10 => Go XM (d + 1) 266 0 10 [some (.ref 140), some (.int v1), some (.int v2), some (.int v3), some (.long v4), none, some (.int a10.1)] [] a10.2 R) a9) (hR : ∀ b9, r9 = .inr b9 → Sum.elim (fun e10 => Go XM (d + 1) 266 0 78 [some (.ref 140), some (.int v1), some (.int v2), some (.int v3), some (.long v4), none, some (.int e10.1)] [] e10.2 R) (fun o => R 0 (.inr (vZ o.1)) o.2) b9) : Go XM (d + 1) 266 0 10 [some (.ref 140), some (.int v1), some (.int v2), some (.int v3), some (.long v4), none, some (.int a10.1)] [] a10.2 R := by
  unfold Lm_266_10 at hr
  refine go_run mm_266 3 (pc' := 16) (ls' := [some (.ref 140), some (.int v1), some (.int v2), some (.int v3), some (.long v4), none, some (.int a10.1)]) (st' := [.int (a10.2.1 140 20), .int a10.1]) (S' := a10.2) rfl ?_
  refine go_if2 mm_266 rfl (p1 := 19) (p2 := 78) rfl (fun (hc2 : a10.1 < (a10.2.1 140 20)) => ?_) (fun (hc2 : ¬ a10.1 < (a10.2.1 140 20)) => ?_)
  · rw [if_pos hc2] at hr
    refine go_run mm_266 3 (pc' := 25) (ls' := [some (.ref 140), some (.int v1), some (.int v2), some (.int v3), some (.long v4), none, some (.int a10.1)]) (st' := [.int a10.1, .ref 153]) (S' := a10.2) rfl ?_
    obtain ⟨hb3, hr⟩ := ck_some hr
    refine go_laload mm_266 (q := (Int32.toNatClampNeg a10.1)) rfl rfl rfl (ibd_ok hb3) ?_
    show Go XM (d + 1) 266 0 26 [some (.ref 140), some (.int v1), some (.int v2), some (.int v3), some (.long v4), none, some (.int a10.1)] [.long (a10.2.2 153 (Int32.toNatClampNeg a10.1))] a10.2 R
    refine go_run mm_266 3 (pc' := 30) (ls' := [some (.ref 140), some (.int v1), some (.int v2), some (.int v3), some (.long v4), none, some (.int a10.1)]) (st' := [.long 0, .long ((a10.2.2 153 (Int32.toNatClampNeg a10.1)) &&& v4)]) (S' := a10.2) rfl ?_
    refine go_lif mm_266 rfl rfl (p1 := 37) (p2 := 34) rfl (fun (hc4 : ((a10.2.2 153 (Int32.toNatClampNeg a10.1)) &&& v4) = 0) => ?_) (fun (hc4 : ¬ ((a10.2.2 153 (Int32.toNatClampNeg a10.1)) &&& v4) = 0) => ?_)
    · rw [if_pos hc4] at hr
      refine go_run mm_266 4 (pc' := 44) (ls' := [some (.ref 140), some (.int v1), some (.int v2), some (.int v3), some (.long v4), none, some (.int a10.1)]) (st' := [.int a10.1, .int v1, .ref 160]) (S' := a10.2) rfl ?_
      obtain ⟨hb5, hr⟩ := ck_some hr
      refine go_iastore mm_266 (q := (Int32.toNatClampNeg v1)) rfl rfl rfl (ibd_ok hb5) ?_
      show Go XM (d + 1) 266 0 45 [some (.ref 140), some (.int v1), some (.int v2), some (.int v3), some (.long v4), none, some (.int a10.1)] [] (wI a10.2 160 (Int32.toNatClampNeg v1) a10.1) R
      obtain ⟨s6, es6, hr⟩ := sbn_some hr
      rw [← es6]
      refine go_run mm_266 12 (pc' := 62) (ls' := [some (.ref 140), some (.int v1), some (.int v2), some (.int v3), some (.long v4), none, some (.int a10.1)]) (st' := [.int a10.1, .ref 153, .long v4, .int (a10.1 + 1), .int v2, .int (v1 + 1), .ref 140]) (S' := s6) rfl ?_
      obtain ⟨hb7, hr⟩ := ck_some hr
      refine go_laload mm_266 (q := (Int32.toNatClampNeg a10.1)) rfl rfl rfl (ibd_ok hb7) ?_
      show Go XM (d + 1) 266 0 63 [some (.ref 140), some (.int v1), some (.int v2), some (.int v3), some (.long v4), none, some (.int a10.1)] [.long (s6.2 153 (Int32.toNatClampNeg a10.1)), .long v4, .int (a10.1 + 1), .int v2, .int (v1 + 1), .ref 140] s6 R
      refine go_run mm_266 1 (pc' := 64) (ls' := [some (.ref 140), some (.int v1), some (.int v2), some (.int v3), some (.long v4), none, some (.int a10.1)]) (st' := [.long (v4 ||| (s6.2 153 (Int32.toNatClampNeg a10.1))), .int (a10.1 + 1), .int v2, .int (v1 + 1), .ref 140]) (S' := s6) rfl ?_
      obtain ⟨w1, hw1, hr⟩ := ob_some hr
      refine go_cv mm_266 (h := 140) (As := [.int (v1 + 1), .int v2, .int (a10.1 + 1), .long (v4 ||| (s6.2 153 (Int32.toNatClampNeg a10.1)))]) (rest := []) (nl := 7) rfl rfl (show cvOK 266 64 329 266 4 7 11 = true by decide +kernel) rfl rfl rfl (Cal.up (hrec hw1) (Nat.le_refl _)) (KP_V ?_)
      show Go XM (d + 1) 266 0 67 [some (.ref 140), some (.int v1), some (.int v2), some (.int v3), some (.long v4), none, some (.int a10.1)] [.int (b2i w1.1)] w1.2 R
      refine go_ifb mm_266 rfl (p1 := 70) (p2 := 72) rfl (fun (hc8 : w1.1 = true) => ?_) (fun (hc8 : w1.1 = false) => ?_)
      · rw [if_pos hc8] at hr
        refine go_run mm_266 1 (pc' := 71) (ls' := [some (.ref 140), some (.int v1), some (.int v2), some (.int v3), some (.long v4), none, some (.int a10.1)]) (st' := [.int 1]) (S' := w1.2) rfl ?_
        cases hr
        have h9 : R 0 (.inr (vZ true)) w1.2 := hR _ rfl
        exact go_zreturn mm_266 rfl rfl (Or.inr rfl) h9
      · rw [if_neg (bf hc8)] at hr
        refine go_run mm_266 2 (pc' := 10) (ls' := [some (.ref 140), some (.int v1), some (.int v2), some (.int v3), some (.long v4), none, some (.int (a10.1 + 1))]) (st' := []) (S' := w1.2) rfl ?_
        cases hr
        have h9 := hL (a10.1 + 1, w1.2) rfl
        dsimp only at h9
        exact Go.le h9 (by repeat first | exact True.intro | refine And.intro rfl ?_)
    · rw [if_neg hc4] at hr
      refine go_run mm_266 3 (pc' := 10) (ls' := [some (.ref 140), some (.int v1), some (.int v2), some (.int v3), some (.long v4), none, some (.int (a10.1 + 1))]) (st' := []) (S' := a10.2) rfl ?_
      cases hr
      have h9 := hL (a10.1 + 1, a10.2) rfl
      dsimp only at h9
      exact Go.le h9 (by repeat first | exact True.intro | refine And.intro rfl ?_)
  · rw [if_neg hc2] at hr
    cases hr
    have h9 := hR (.inl (a10.1, a10.2)) rfl
    dsimp only [Sum.elim_inl] at h9
    exact Go.le h9 (by repeat first | exact True.intro | refine And.intro rfl ?_)
noncomputable def B_266 (rec : Int32 → Int32 → Int32 → Int64 → ST → Option (Bool × ST)) (v1 : Int32) (v2 : Int32) (v3 : Int32) (v4 : Int64) (S : ST) : Option (Bool × ST) := if v1 = v2 then (some (true, S)) else (ob (wh FU (Lm_266_10 rec v1 v2 v3 v4) (v3, S)) (fun z => Sum.elim (fun e10 => some (false, e10.2)) (fun o => some o) z))
noncomputable def F_266 : Nat → Int32 → Int32 → Int32 → Int64 → ST → Option (Bool × ST)
  | 0, _, _, _, _ => fun _ => none
  | n + 1, v1, v2, v3, v4 => fun S => B_266 (F_266 n) v1 v2 v3 v4 S
set_option maxRecDepth 20000 in
theorem S_266 : ∀ (n : Nat) {d : Nat} {v1 : Int32} {v2 : Int32} {v3 : Int32} {v4 : Int64} {S : ST} {r} (_ : F_266 n v1 v2 v3 v4 S = some r), Cal XM (d + n + 1) 266 [.ref 140, .int v1, .int v2, .int v3, .long v4] S (RV (vZ r.1) r.2) := by
  intro n
  induction n with
  | zero => intro d v1 v2 v3 v4 S r hr; cases hr
  | succ n ih =>
    intro d v1 v2 v3 v4 S r hr
    have hr : B_266 (F_266 n) v1 v2 v3 v4 S = some r := hr
    unfold B_266 at hr
    have hrec : ∀ {v1 : Int32} {v2 : Int32} {v3 : Int32} {v4 : Int64} {S : ST} {r}, F_266 n v1 v2 v3 v4 S = some r → Cal XM (d + (n + 1) + 0) 266 [.ref 140, .int v1, .int v2, .int v3, .long v4] S (RV (vZ r.1) r.2) := fun h => Cal.up (ih (d := d) h) (Nat.le_of_eq (by omega))
    refine cal_go 1 rfl ?_
    refine go_run mm_266 2 (pc' := 2) (ls' := [some (.ref 140), some (.int v1), some (.int v2), some (.int v3), some (.long v4), none, none]) (st' := [.int v2, .int v1]) (S' := S) rfl ?_
    refine go_if2 mm_266 rfl (p1 := 5) (p2 := 7) rfl (fun (hc1 : v1 = v2) => ?_) (fun (hc1 : ¬ v1 = v2) => ?_)
    · rw [if_pos hc1] at hr
      refine go_run mm_266 1 (pc' := 6) (ls' := [some (.ref 140), some (.int v1), some (.int v2), some (.int v3), some (.long v4), none, none]) (st' := [.int 1]) (S' := S) rfl ?_
      cases hr
      exact go_zreturn mm_266 rfl rfl (Or.inr rfl) ⟨rfl, rfl, rfl⟩
    · rw [if_neg hc1] at hr
      refine go_run mm_266 2 (pc' := 10) (ls' := [some (.ref 140), some (.int v1), some (.int v2), some (.int v3), some (.long v4), none, some (.int v3)]) (st' := []) (S' := S) rfl ?_
      obtain ⟨z10, he10, hr⟩ := ob_some hr
      refine Go.le (ls' := [some (.ref 140), some (.int v1), some (.int v2), some (.int v3), some (.long v4), none, some (.int v3)]) ?_ (by repeat first | exact True.intro | refine And.intro rfl ?_)
      refine wh_go (P := fun a10 => Go XM (d + (n + 1) + 1) 266 0 10 [some (.ref 140), some (.int v1), some (.int v2), some (.int v3), some (.long v4), none, some (.int a10.1)] [] a10.2 (RV (vZ r.1) r.2)) (K := fun z => Sum.elim (fun e10 => Go XM (d + (n + 1) + 1) 266 0 78 [some (.ref 140), some (.int v1), some (.int v2), some (.int v3), some (.long v4), none, some (.int e10.1)] [] e10.2 (RV (vZ r.1) r.2)) (fun o => (RV (vZ r.1) r.2) 0 (.inr (vZ o.1)) o.2) z) (fun a9 r9 h9 hL hR => LSm_266_10 hrec h9 hL hR) _ _ _ he10 ?_
      rcases z10 with e10 | o
      rotate_left
      · simp only [Sum.elim_inr] at hr
        cases hr
        exact ⟨rfl, rfl, rfl⟩
      simp only [Sum.elim_inl] at hr
      show Go XM (d + (n + 1) + 1) 266 0 78 [some (.ref 140), some (.int v1), some (.int v2), some (.int v3), some (.long v4), none, some (.int e10.1)] [] e10.2 (RV (vZ r.1) r.2)
      refine go_run mm_266 1 (pc' := 79) (ls' := [some (.ref 140), some (.int v1), some (.int v2), some (.int v3), some (.long v4), none, some (.int e10.1)]) (st' := [.int 0]) (S' := e10.2) rfl ?_
      cases hr
      exact go_zreturn mm_266 rfl rfl (Or.inl rfl) ⟨rfl, rfl, rfl⟩

noncomputable def Lm_267_14 (a14 : Int32 × ST) : Option ((Int32 × ST) ⊕ (Int32 × ST)) := ob (F_266 6 0 a14.1 0 0 a14.2) (fun w2 => if w2.1 = true then (some (.inr (a14.1, w2.2))) else (some (.inl (a14.1 + (-1), w2.2))))
set_option maxRecDepth 20000 in
theorem LSm_267_14 {d : Nat} {R : RT} {a14 : Int32 × ST} {r9} (hr : Lm_267_14 a14 = some r9) (hL : ∀ a9, r9 = .inl a9 → (fun a14 => Go XM (d + 8) 267 0 14 [some (.ref 140), some (.int a14.1)] [] a14.2 R) a9) (hR : ∀ b9, r9 = .inr b9 → (fun e14 => Go XM (d + 8) 267 0 31 [some (.ref 140), some (.int e14.1)] [] e14.2 R) b9) : Go XM (d + 8) 267 0 14 [some (.ref 140), some (.int a14.1)] [] a14.2 R := by
  unfold Lm_267_14 at hr
  refine go_run mm_267 5 (pc' := 19) (ls' := [some (.ref 140), some (.int a14.1)]) (st' := [.long 0, .int 0, .int a14.1, .int 0, .ref 140]) (S' := a14.2) rfl ?_
  obtain ⟨w2, hw2, hr⟩ := ob_some hr
  refine go_cv mm_267 (h := 140) (As := [.int 0, .int a14.1, .int 0, .long 0]) (rest := []) (nl := 7) rfl rfl (show cvOK 267 19 329 266 4 7 11 = true by decide +kernel) rfl rfl rfl (S_266 _ hw2) (KP_V ?_)
  show Go XM (d + 8) 267 0 22 [some (.ref 140), some (.int a14.1)] [.int (b2i w2.1)] w2.2 R
  refine go_ifb mm_267 rfl (p1 := 31) (p2 := 25) rfl (fun (hc2 : w2.1 = true) => ?_) (fun (hc2 : w2.1 = false) => ?_)
  · rw [if_pos hc2] at hr
    cases hr
    have h9 := hR (a14.1, w2.2) rfl
    dsimp only [Sum.elim_inl] at h9
    exact Go.le h9 (by repeat first | exact True.intro | refine And.intro rfl ?_)
  · rw [if_neg (bf hc2)] at hr
    refine go_run mm_267 2 (pc' := 14) (ls' := [some (.ref 140), some (.int (a14.1 + (-1)))]) (st' := []) (S' := w2.2) rfl ?_
    cases hr
    have h9 := hL (a14.1 + (-1), w2.2) rfl
    dsimp only at h9
    exact Go.le h9 (by repeat first | exact True.intro | refine And.intro rfl ?_)
noncomputable def F_267 (S : ST) : Option (Unit × ST) := ob (F_239 S) (fun w1 => if (0 : Int32) < (w1.2.1 140 36) then (some ((), w1.2)) else (ob (wh FU (Lm_267_14) (4, w1.2)) (fun e14 => some ((), (wI e14.2 140 36 e14.1)))))
set_option maxRecDepth 20000 in
theorem S_267 {d : Nat} {S : ST} {r} (hr : F_267 S = some r) : Cal XM (d + 8) 267 [.ref 140] S (RV (vU r.1) r.2) := by
  unfold F_267 at hr
  refine cal_go 1 rfl ?_
  refine go_run mm_267 1 (pc' := 1) (ls' := [some (.ref 140), none]) (st' := [.ref 140]) (S' := S) rfl ?_
  obtain ⟨w1, hw1, hr⟩ := ob_some hr
  refine go_cv mm_267 (h := 140) (As := []) (rest := []) (nl := 3) rfl rfl (show cvOK 267 1 279 239 0 3 11 = true by decide +kernel) rfl rfl rfl (S_239 hw1) (KP_V ?_)
  show Go XM (d + 8) 267 0 4 [some (.ref 140), none] [] w1.2 (RV (vU r.1) r.2)
  refine go_run mm_267 2 (pc' := 8) (ls' := [some (.ref 140), none]) (st' := [.int (w1.2.1 140 36)]) (S' := w1.2) rfl ?_
  refine go_if0 mm_267 rfl (p1 := 11) (p2 := 12) rfl (fun (hc1 : (0 : Int32) < (w1.2.1 140 36)) => ?_) (fun (hc1 : ¬ (0 : Int32) < (w1.2.1 140 36)) => ?_)
  · rw [if_pos hc1] at hr
    cases hr
    exact go_vreturn mm_267 rfl rfl ⟨rfl, rfl, rfl⟩
  · rw [if_neg hc1] at hr
    refine go_run mm_267 2 (pc' := 14) (ls' := [some (.ref 140), some (.int 4)]) (st' := []) (S' := w1.2) rfl ?_
    obtain ⟨z14, he14, hr⟩ := ob_some hr
    refine Go.le (ls' := [some (.ref 140), some (.int 4)]) ?_ (by repeat first | exact True.intro | refine And.intro rfl ?_)
    refine wh_go (P := fun a14 => Go XM (d + 8) 267 0 14 [some (.ref 140), some (.int a14.1)] [] a14.2 (RV (vU r.1) r.2)) (K := fun e14 => Go XM (d + 8) 267 0 31 [some (.ref 140), some (.int e14.1)] [] e14.2 (RV (vU r.1) r.2)) (fun a9 r9 h9 hL hR => LSm_267_14 h9 hL hR) _ _ _ he14 ?_
    generalize z14 = e14 at hr
    show Go XM (d + 8) 267 0 31 [some (.ref 140), some (.int e14.1)] [] e14.2 (RV (vU r.1) r.2)
    refine go_run mm_267 3 (pc' := 36) (ls' := [some (.ref 140), some (.int e14.1)]) (st' := []) (S' := (wI e14.2 140 36 e14.1)) rfl ?_
    cases hr
    exact go_vreturn mm_267 rfl rfl ⟨rfl, rfl, rfl⟩
