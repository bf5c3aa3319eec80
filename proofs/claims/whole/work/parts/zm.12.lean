/-! methods as functions (printed by a program): 255 laysColours, 256 colour, 257 ofColour, 258 colourGuards -/
noncomputable def Lm_255_71 (p71_1 : Int32) (p71_2 : Int32) (S : ST) (a71 : Int32 × Int32 × Int32 × Int32) : Option ((Int32 × Int32 × Int32 × Int32) ⊕ (Int32 × Int32 × Int32 × Int32)) := if a71.2.2.2 < 3 then (ck (ibd ((3 * p71_2) + a71.2.2.2) 30) (ck (ibd (S.1 157 (Int32.toNatClampNeg ((3 * p71_2) + a71.2.2.2))) 12) (ck (ibd (S.1 157 (Int32.toNatClampNeg ((3 * p71_2) + a71.2.2.2))) 12) (ck (ibd (S.1 157 (Int32.toNatClampNeg ((3 * p71_2) + a71.2.2.2))) 12) (if (S.1 158 (Int32.toNatClampNeg (S.1 157 (Int32.toNatClampNeg ((3 * p71_2) + a71.2.2.2))))) = (-1) then (some (.inl ((if (S.1 158 (Int32.toNatClampNeg (S.1 157 (Int32.toNatClampNeg ((3 * p71_2) + a71.2.2.2))))) = (-1) then S.1 157 (Int32.toNatClampNeg ((3 * p71_2) + a71.2.2.2)) else a71.1), a71.2.1 + 0, a71.2.2.1 + (b2i (!(decide ((S.1 158 (Int32.toNatClampNeg (S.1 157 (Int32.toNatClampNeg ((3 * p71_2) + a71.2.2.2))))) = (-1))))), a71.2.2.2 + 1))) else (ck (ibd (S.1 157 (Int32.toNatClampNeg ((3 * p71_2) + a71.2.2.2))) 12) (some (.inl ((if (S.1 158 (Int32.toNatClampNeg (S.1 157 (Int32.toNatClampNeg ((3 * p71_2) + a71.2.2.2))))) = (-1) then S.1 157 (Int32.toNatClampNeg ((3 * p71_2) + a71.2.2.2)) else a71.1), a71.2.1 + (S.1 158 (Int32.toNatClampNeg (S.1 157 (Int32.toNatClampNeg ((3 * p71_2) + a71.2.2.2))))), a71.2.2.1 + (b2i (!(decide ((S.1 158 (Int32.toNatClampNeg (S.1 157 (Int32.toNatClampNeg ((3 * p71_2) + a71.2.2.2))))) = (-1))))), a71.2.2.2 + 1))))))))) else (some (.inr (a71.1, a71.2.1, a71.2.2.1, a71.2.2.2)))
set_option maxRecDepth 20000 in
theorem LSm_255_71 {d : Nat} {R : RT} {S : ST} {p71_1 : Int32} {p71_2 : Int32} {a71 : Int32 × Int32 × Int32 × Int32} {r9} (hr : Lm_255_71 p71_1 p71_2 S a71 = some r9) (hL : ∀ a9, r9 = .inl a9 → (fun a71 => Go XM (d + 5) 255 0 71 [some (.ref 140), some (.int p71_1), some (.int p71_2), some (.int a71.1), some (.int a71.2.1), some (.int a71.2.2.1), some (.int a71.2.2.2), none] [] S R) a9) (hR : ∀ b9, r9 = .inr b9 → (fun e71 => Go XM (d + 5) 255 0 162 [some (.ref 140), some (.int p71_1), some (.int p71_2), some (.int e71.1), some (.int e71.2.1), some (.int e71.2.2.1), some (.int e71.2.2.2), none] [] S R) b9) : Go XM (d + 5) 255 0 71 [some (.ref 140), some (.int p71_1), some (.int p71_2), some (.int a71.1), some (.int a71.2.1), some (.int a71.2.2.1), some (.int a71.2.2.2), none] [] S R := by
  unfold Lm_255_71 at hr
  refine go_run mm_255 2 (pc' := 74) (ls' := [some (.ref 140), some (.int p71_1), some (.int p71_2), some (.int a71.1), some (.int a71.2.1), some (.int a71.2.2.1), some (.int a71.2.2.2), none]) (st' := [.int 3, .int a71.2.2.2]) (S' := S) rfl ?_
  refine go_if2 mm_255 rfl (p1 := 77) (p2 := 162) rfl (fun (hc8 : a71.2.2.2 < 3) => ?_) (fun (hc8 : ¬ a71.2.2.2 < 3) => ?_)
  · rw [if_pos hc8] at hr
    refine go_run mm_255 7 (pc' := 87) (ls' := [some (.ref 140), some (.int p71_1), some (.int p71_2), some (.int a71.1), some (.int a71.2.1), some (.int a71.2.2.1), some (.int a71.2.2.2), none]) (st' := [.int ((3 * p71_2) + a71.2.2.2), .ref 157]) (S' := S) rfl ?_
    obtain ⟨hb9, hr⟩ := ck_some hr
    refine go_iaload mm_255 (q := (Int32.toNatClampNeg ((3 * p71_2) + a71.2.2.2))) rfl rfl rfl (ibd_ok hb9) ?_
    show Go XM (d + 5) 255 0 88 [some (.ref 140), some (.int p71_1), some (.int p71_2), some (.int a71.1), some (.int a71.2.1), some (.int a71.2.2.1), some (.int a71.2.2.2), none] [.int (S.1 157 (Int32.toNatClampNeg ((3 * p71_2) + a71.2.2.2)))] S R
    refine go_run mm_255 4 (pc' := 96) (ls' := [some (.ref 140), some (.int p71_1), some (.int p71_2), some (.int a71.1), some (.int a71.2.1), some (.int a71.2.2.1), some (.int a71.2.2.2), some (.int (S.1 157 (Int32.toNatClampNeg ((3 * p71_2) + a71.2.2.2))))]) (st' := [.int (S.1 157 (Int32.toNatClampNeg ((3 * p71_2) + a71.2.2.2))), .ref 158]) (S' := S) rfl ?_
    obtain ⟨hb10, hr⟩ := ck_some hr
    refine go_iaload mm_255 (q := (Int32.toNatClampNeg (S.1 157 (Int32.toNatClampNeg ((3 * p71_2) + a71.2.2.2))))) rfl rfl rfl (ibd_ok hb10) ?_
    show Go XM (d + 5) 255 0 97 [some (.ref 140), some (.int p71_1), some (.int p71_2), some (.int a71.1), some (.int a71.2.1), some (.int a71.2.2.1), some (.int a71.2.2.2), some (.int (S.1 157 (Int32.toNatClampNeg ((3 * p71_2) + a71.2.2.2))))] [.int (S.1 158 (Int32.toNatClampNeg (S.1 157 (Int32.toNatClampNeg ((3 * p71_2) + a71.2.2.2)))))] S R
    refine go_run mm_255 1 (pc' := 98) (ls' := [some (.ref 140), some (.int p71_1), some (.int p71_2), some (.int a71.1), some (.int a71.2.1), some (.int a71.2.2.1), some (.int a71.2.2.2), some (.int (S.1 157 (Int32.toNatClampNeg ((3 * p71_2) + a71.2.2.2))))]) (st' := [.int (-1), .int (S.1 158 (Int32.toNatClampNeg (S.1 157 (Int32.toNatClampNeg ((3 * p71_2) + a71.2.2.2)))))]) (S' := S) rfl ?_
    have j18 : Go XM (d + 5) 255 0 107 [some (.ref 140), some (.int p71_1), some (.int p71_2), some (.int a71.1), some (.int a71.2.1), some (.int a71.2.2.1), some (.int a71.2.2.2), some (.int (S.1 157 (Int32.toNatClampNeg ((3 * p71_2) + a71.2.2.2))))] [.int (if (S.1 158 (Int32.toNatClampNeg (S.1 157 (Int32.toNatClampNeg ((3 * p71_2) + a71.2.2.2))))) = (-1) then S.1 157 (Int32.toNatClampNeg ((3 * p71_2) + a71.2.2.2)) else a71.1)] S R := by
      refine go_run mm_255 5 (pc' := 116) (ls' := [some (.ref 140), some (.int p71_1), some (.int p71_2), some (.int (if (S.1 158 (Int32.toNatClampNeg (S.1 157 (Int32.toNatClampNeg ((3 * p71_2) + a71.2.2.2))))) = (-1) then S.1 157 (Int32.toNatClampNeg ((3 * p71_2) + a71.2.2.2)) else a71.1)), some (.int a71.2.1), some (.int a71.2.2.1), some (.int a71.2.2.2), some (.int (S.1 157 (Int32.toNatClampNeg ((3 * p71_2) + a71.2.2.2))))]) (st' := [.int (S.1 157 (Int32.toNatClampNeg ((3 * p71_2) + a71.2.2.2))), .ref 158, .int a71.2.2.1]) (S' := S) rfl ?_
      obtain ⟨hb12, hr⟩ := ck_some hr
      refine go_iaload mm_255 (q := (Int32.toNatClampNeg (S.1 157 (Int32.toNatClampNeg ((3 * p71_2) + a71.2.2.2))))) rfl rfl rfl (ibd_ok hb12) ?_
      show Go XM (d + 5) 255 0 117 [some (.ref 140), some (.int p71_1), some (.int p71_2), some (.int (if (S.1 158 (Int32.toNatClampNeg (S.1 157 (Int32.toNatClampNeg ((3 * p71_2) + a71.2.2.2))))) = (-1) then S.1 157 (Int32.toNatClampNeg ((3 * p71_2) + a71.2.2.2)) else a71.1)), some (.int a71.2.1), some (.int a71.2.2.1), some (.int a71.2.2.2), some (.int (S.1 157 (Int32.toNatClampNeg ((3 * p71_2) + a71.2.2.2))))] [.int (S.1 158 (Int32.toNatClampNeg (S.1 157 (Int32.toNatClampNeg ((3 * p71_2) + a71.2.2.2))))), .int a71.2.2.1] S R
      refine go_run mm_255 1 (pc' := 118) (ls' := [some (.ref 140), some (.int p71_1), some (.int p71_2), some (.int (if (S.1 158 (Int32.toNatClampNeg (S.1 157 (Int32.toNatClampNeg ((3 * p71_2) + a71.2.2.2))))) = (-1) then S.1 157 (Int32.toNatClampNeg ((3 * p71_2) + a71.2.2.2)) else a71.1)), some (.int a71.2.1), some (.int a71.2.2.1), some (.int a71.2.2.2), some (.int (S.1 157 (Int32.toNatClampNeg ((3 * p71_2) + a71.2.2.2))))]) (st' := [.int (-1), .int (S.1 158 (Int32.toNatClampNeg (S.1 157 (Int32.toNatClampNeg ((3 * p71_2) + a71.2.2.2))))), .int a71.2.2.1]) (S' := S) rfl ?_
      have j17 : Go XM (d + 5) 255 0 126 [some (.ref 140), some (.int p71_1), some (.int p71_2), some (.int (if (S.1 158 (Int32.toNatClampNeg (S.1 157 (Int32.toNatClampNeg ((3 * p71_2) + a71.2.2.2))))) = (-1) then S.1 157 (Int32.toNatClampNeg ((3 * p71_2) + a71.2.2.2)) else a71.1)), some (.int a71.2.1), some (.int a71.2.2.1), some (.int a71.2.2.2), some (.int (S.1 157 (Int32.toNatClampNeg ((3 * p71_2) + a71.2.2.2))))] [.int (b2i (!(decide ((S.1 158 (Int32.toNatClampNeg (S.1 157 (Int32.toNatClampNeg ((3 * p71_2) + a71.2.2.2))))) = (-1))))), .int a71.2.2.1] S R := by
        refine go_run mm_255 6 (pc' := 137) (ls' := [some (.ref 140), some (.int p71_1), some (.int p71_2), some (.int (if (S.1 158 (Int32.toNatClampNeg (S.1 157 (Int32.toNatClampNeg ((3 * p71_2) + a71.2.2.2))))) = (-1) then S.1 157 (Int32.toNatClampNeg ((3 * p71_2) + a71.2.2.2)) else a71.1)), some (.int a71.2.1), some (.int (a71.2.2.1 + (b2i (!(decide ((S.1 158 (Int32.toNatClampNeg (S.1 157 (Int32.toNatClampNeg ((3 * p71_2) + a71.2.2.2))))) = (-1))))))), some (.int a71.2.2.2), some (.int (S.1 157 (Int32.toNatClampNeg ((3 * p71_2) + a71.2.2.2))))]) (st' := [.int (S.1 157 (Int32.toNatClampNeg ((3 * p71_2) + a71.2.2.2))), .ref 158, .int a71.2.1]) (S' := S) rfl ?_
        obtain ⟨hb14, hr⟩ := ck_some hr
        refine go_iaload mm_255 (q := (Int32.toNatClampNeg (S.1 157 (Int32.toNatClampNeg ((3 * p71_2) + a71.2.2.2))))) rfl rfl rfl (ibd_ok hb14) ?_
        show Go XM (d + 5) 255 0 138 [some (.ref 140), some (.int p71_1), some (.int p71_2), some (.int (if (S.1 158 (Int32.toNatClampNeg (S.1 157 (Int32.toNatClampNeg ((3 * p71_2) + a71.2.2.2))))) = (-1) then S.1 157 (Int32.toNatClampNeg ((3 * p71_2) + a71.2.2.2)) else a71.1)), some (.int a71.2.1), some (.int (a71.2.2.1 + (b2i (!(decide ((S.1 158 (Int32.toNatClampNeg (S.1 157 (Int32.toNatClampNeg ((3 * p71_2) + a71.2.2.2))))) = (-1))))))), some (.int a71.2.2.2), some (.int (S.1 157 (Int32.toNatClampNeg ((3 * p71_2) + a71.2.2.2))))] [.int (S.1 158 (Int32.toNatClampNeg (S.1 157 (Int32.toNatClampNeg ((3 * p71_2) + a71.2.2.2))))), .int a71.2.1] S R
        refine go_run mm_255 1 (pc' := 139) (ls' := [some (.ref 140), some (.int p71_1), some (.int p71_2), some (.int (if (S.1 158 (Int32.toNatClampNeg (S.1 157 (Int32.toNatClampNeg ((3 * p71_2) + a71.2.2.2))))) = (-1) then S.1 157 (Int32.toNatClampNeg ((3 * p71_2) + a71.2.2.2)) else a71.1)), some (.int a71.2.1), some (.int (a71.2.2.1 + (b2i (!(decide ((S.1 158 (Int32.toNatClampNeg (S.1 157 (Int32.toNatClampNeg ((3 * p71_2) + a71.2.2.2))))) = (-1))))))), some (.int a71.2.2.2), some (.int (S.1 157 (Int32.toNatClampNeg ((3 * p71_2) + a71.2.2.2))))]) (st' := [.int (-1), .int (S.1 158 (Int32.toNatClampNeg (S.1 157 (Int32.toNatClampNeg ((3 * p71_2) + a71.2.2.2))))), .int a71.2.1]) (S' := S) rfl ?_
        refine go_if2 mm_255 rfl (p1 := 142) (p2 := 146) rfl (fun (hc15 : (S.1 158 (Int32.toNatClampNeg (S.1 157 (Int32.toNatClampNeg ((3 * p71_2) + a71.2.2.2))))) = (-1)) => ?_) (fun (hc15 : ¬ (S.1 158 (Int32.toNatClampNeg (S.1 157 (Int32.toNatClampNeg ((3 * p71_2) + a71.2.2.2))))) = (-1)) => ?_)
        · rw [if_pos hc15] at hr
          refine go_run mm_255 6 (pc' := 71) (ls' := [some (.ref 140), some (.int p71_1), some (.int p71_2), some (.int (if (S.1 158 (Int32.toNatClampNeg (S.1 157 (Int32.toNatClampNeg ((3 * p71_2) + a71.2.2.2))))) = (-1) then S.1 157 (Int32.toNatClampNeg ((3 * p71_2) + a71.2.2.2)) else a71.1)), some (.int (a71.2.1 + 0)), some (.int (a71.2.2.1 + (b2i (!(decide ((S.1 158 (Int32.toNatClampNeg (S.1 157 (Int32.toNatClampNeg ((3 * p71_2) + a71.2.2.2))))) = (-1))))))), some (.int (a71.2.2.2 + 1)), some (.int (S.1 157 (Int32.toNatClampNeg ((3 * p71_2) + a71.2.2.2))))]) (st' := []) (S' := S) rfl ?_
          cases hr
          have h9 := hL ((if (S.1 158 (Int32.toNatClampNeg (S.1 157 (Int32.toNatClampNeg ((3 * p71_2) + a71.2.2.2))))) = (-1) then S.1 157 (Int32.toNatClampNeg ((3 * p71_2) + a71.2.2.2)) else a71.1), a71.2.1 + 0, a71.2.2.1 + (b2i (!(decide ((S.1 158 (Int32.toNatClampNeg (S.1 157 (Int32.toNatClampNeg ((3 * p71_2) + a71.2.2.2))))) = (-1))))), a71.2.2.2 + 1) rfl
          dsimp only at h9
          exact Go.le h9 (by repeat first | exact True.intro | refine And.intro rfl ?_)
        · rw [if_neg hc15] at hr
          refine go_run mm_255 3 (pc' := 152) (ls' := [some (.ref 140), some (.int p71_1), some (.int p71_2), some (.int (if (S.1 158 (Int32.toNatClampNeg (S.1 157 (Int32.toNatClampNeg ((3 * p71_2) + a71.2.2.2))))) = (-1) then S.1 157 (Int32.toNatClampNeg ((3 * p71_2) + a71.2.2.2)) else a71.1)), some (.int a71.2.1), some (.int (a71.2.2.1 + (b2i (!(decide ((S.1 158 (Int32.toNatClampNeg (S.1 157 (Int32.toNatClampNeg ((3 * p71_2) + a71.2.2.2))))) = (-1))))))), some (.int a71.2.2.2), some (.int (S.1 157 (Int32.toNatClampNeg ((3 * p71_2) + a71.2.2.2))))]) (st' := [.int (S.1 157 (Int32.toNatClampNeg ((3 * p71_2) + a71.2.2.2))), .ref 158, .int a71.2.1]) (S' := S) rfl ?_
          obtain ⟨hb16, hr⟩ := ck_some hr
          refine go_iaload mm_255 (q := (Int32.toNatClampNeg (S.1 157 (Int32.toNatClampNeg ((3 * p71_2) + a71.2.2.2))))) rfl rfl rfl (ibd_ok hb16) ?_
          show Go XM (d + 5) 255 0 153 [some (.ref 140), some (.int p71_1), some (.int p71_2), some (.int (if (S.1 158 (Int32.toNatClampNeg (S.1 157 (Int32.toNatClampNeg ((3 * p71_2) + a71.2.2.2))))) = (-1) then S.1 157 (Int32.toNatClampNeg ((3 * p71_2) + a71.2.2.2)) else a71.1)), some (.int a71.2.1), some (.int (a71.2.2.1 + (b2i (!(decide ((S.1 158 (Int32.toNatClampNeg (S.1 157 (Int32.toNatClampNeg ((3 * p71_2) + a71.2.2.2))))) = (-1))))))), some (.int a71.2.2.2), some (.int (S.1 157 (Int32.toNatClampNeg ((3 * p71_2) + a71.2.2.2))))] [.int (S.1 158 (Int32.toNatClampNeg (S.1 157 (Int32.toNatClampNeg ((3 * p71_2) + a71.2.2.2))))), .int a71.2.1] S R
          refine go_run mm_255 4 (pc' := 71) (ls' := [some (.ref 140), some (.int p71_1), some (.int p71_2), some (.int (if (S.1 158 (Int32.toNatClampNeg (S.1 157 (Int32.toNatClampNeg ((3 * p71_2) + a71.2.2.2))))) = (-1) then S.1 157 (Int32.toNatClampNeg ((3 * p71_2) + a71.2.2.2)) else a71.1)), some (.int (a71.2.1 + (S.1 158 (Int32.toNatClampNeg (S.1 157 (Int32.toNatClampNeg ((3 * p71_2) + a71.2.2.2))))))), some (.int (a71.2.2.1 + (b2i (!(decide ((S.1 158 (Int32.toNatClampNeg (S.1 157 (Int32.toNatClampNeg ((3 * p71_2) + a71.2.2.2))))) = (-1))))))), some (.int (a71.2.2.2 + 1)), some (.int (S.1 157 (Int32.toNatClampNeg ((3 * p71_2) + a71.2.2.2))))]) (st' := []) (S' := S) rfl ?_
          cases hr
          have h9 := hL ((if (S.1 158 (Int32.toNatClampNeg (S.1 157 (Int32.toNatClampNeg ((3 * p71_2) + a71.2.2.2))))) = (-1) then S.1 157 (Int32.toNatClampNeg ((3 * p71_2) + a71.2.2.2)) else a71.1), a71.2.1 + (S.1 158 (Int32.toNatClampNeg (S.1 157 (Int32.toNatClampNeg ((3 * p71_2) + a71.2.2.2))))), a71.2.2.1 + (b2i (!(decide ((S.1 158 (Int32.toNatClampNeg (S.1 157 (Int32.toNatClampNeg ((3 * p71_2) + a71.2.2.2))))) = (-1))))), a71.2.2.2 + 1) rfl
          dsimp only at h9
          exact Go.le h9 (by repeat first | exact True.intro | refine And.intro rfl ?_)
      refine go_if2 mm_255 rfl (p1 := 121) (p2 := 125) rfl (fun (hc13 : (S.1 158 (Int32.toNatClampNeg (S.1 157 (Int32.toNatClampNeg ((3 * p71_2) + a71.2.2.2))))) = (-1)) => ?_) (fun (hc13 : ¬ (S.1 158 (Int32.toNatClampNeg (S.1 157 (Int32.toNatClampNeg ((3 * p71_2) + a71.2.2.2))))) = (-1)) => ?_)
      · refine go_run mm_255 2 (pc' := 126) (ls' := [some (.ref 140), some (.int p71_1), some (.int p71_2), some (.int (if (S.1 158 (Int32.toNatClampNeg (S.1 157 (Int32.toNatClampNeg ((3 * p71_2) + a71.2.2.2))))) = (-1) then S.1 157 (Int32.toNatClampNeg ((3 * p71_2) + a71.2.2.2)) else a71.1)), some (.int a71.2.1), some (.int a71.2.2.1), some (.int a71.2.2.2), some (.int (S.1 157 (Int32.toNatClampNeg ((3 * p71_2) + a71.2.2.2))))]) (st' := [.int 0, .int a71.2.2.1]) (S' := S) rfl ?_
        have e : ((b2i (!(decide ((S.1 158 (Int32.toNatClampNeg (S.1 157 (Int32.toNatClampNeg ((3 * p71_2) + a71.2.2.2))))) = (-1))))) : Int32) = 0 := by simp [b2i, hc13]
        rw [e] at j17
        exact j17
      · refine go_run mm_255 1 (pc' := 126) (ls' := [some (.ref 140), some (.int p71_1), some (.int p71_2), some (.int (if (S.1 158 (Int32.toNatClampNeg (S.1 157 (Int32.toNatClampNeg ((3 * p71_2) + a71.2.2.2))))) = (-1) then S.1 157 (Int32.toNatClampNeg ((3 * p71_2) + a71.2.2.2)) else a71.1)), some (.int a71.2.1), some (.int a71.2.2.1), some (.int a71.2.2.2), some (.int (S.1 157 (Int32.toNatClampNeg ((3 * p71_2) + a71.2.2.2))))]) (st' := [.int 1, .int a71.2.2.1]) (S' := S) rfl ?_
        have e : ((b2i (!(decide ((S.1 158 (Int32.toNatClampNeg (S.1 157 (Int32.toNatClampNeg ((3 * p71_2) + a71.2.2.2))))) = (-1))))) : Int32) = 1 := by simp [b2i, hc13]
        rw [e] at j17
        exact j17
    refine go_if2 mm_255 rfl (p1 := 101) (p2 := 106) rfl (fun (hc11 : (S.1 158 (Int32.toNatClampNeg (S.1 157 (Int32.toNatClampNeg ((3 * p71_2) + a71.2.2.2))))) = (-1)) => ?_) (fun (hc11 : ¬ (S.1 158 (Int32.toNatClampNeg (S.1 157 (Int32.toNatClampNeg ((3 * p71_2) + a71.2.2.2))))) = (-1)) => ?_)
    · refine go_run mm_255 2 (pc' := 107) (ls' := [some (.ref 140), some (.int p71_1), some (.int p71_2), some (.int a71.1), some (.int a71.2.1), some (.int a71.2.2.1), some (.int a71.2.2.2), some (.int (S.1 157 (Int32.toNatClampNeg ((3 * p71_2) + a71.2.2.2))))]) (st' := [.int (S.1 157 (Int32.toNatClampNeg ((3 * p71_2) + a71.2.2.2)))]) (S' := S) rfl ?_
      have e : ((if (S.1 158 (Int32.toNatClampNeg (S.1 157 (Int32.toNatClampNeg ((3 * p71_2) + a71.2.2.2))))) = (-1) then S.1 157 (Int32.toNatClampNeg ((3 * p71_2) + a71.2.2.2)) else a71.1) : Int32) = S.1 157 (Int32.toNatClampNeg ((3 * p71_2) + a71.2.2.2)) := by simp [b2i, hc11]
      rw [e] at j18
      exact j18
    · refine go_run mm_255 1 (pc' := 107) (ls' := [some (.ref 140), some (.int p71_1), some (.int p71_2), some (.int a71.1), some (.int a71.2.1), some (.int a71.2.2.1), some (.int a71.2.2.2), some (.int (S.1 157 (Int32.toNatClampNeg ((3 * p71_2) + a71.2.2.2))))]) (st' := [.int a71.1]) (S' := S) rfl ?_
      have e : ((if (S.1 158 (Int32.toNatClampNeg (S.1 157 (Int32.toNatClampNeg ((3 * p71_2) + a71.2.2.2))))) = (-1) then S.1 157 (Int32.toNatClampNeg ((3 * p71_2) + a71.2.2.2)) else a71.1) : Int32) = a71.1 := by simp [b2i, hc11]
      rw [e] at j18
      exact j18
  · rw [if_neg hc8] at hr
    cases hr
    have h9 := hR (a71.1, a71.2.1, a71.2.2.1, a71.2.2.2) rfl
    dsimp only [Sum.elim_inl] at h9
    exact Go.le h9 (by repeat first | exact True.intro | refine And.intro rfl ?_)
noncomputable def Lm_255_48 (a48 : Int32 × Int32 × ST) : Option ((Int32 × Int32 × ST) ⊕ (Int32 × Int32 × ST)) := if a48.2.1 < ((a48.2.2.1 141 0) - 2) then (ob (wh FU (Lm_255_71 a48.1 a48.2.1 a48.2.2) ((-1), 0, 0, 0)) (fun e71 => if e71.2.2.1 = 2 then (ck (ibd e71.1 12) (sbn ((wI a48.2.2 158 (Int32.toNatClampNeg e71.1) (3 - e71.2.1))) (fun s21 => some (.inl (1, a48.2.1 + 1, s21))))) else (some (.inl (a48.1, a48.2.1 + 1, a48.2.2))))) else (some (.inr (a48.1, a48.2.1, a48.2.2)))
set_option maxRecDepth 20000 in
theorem LSm_255_48 {d : Nat} {R : RT} {a48 : Int32 × Int32 × ST} {r9} (hr : Lm_255_48 a48 = some r9) (hL : ∀ a9, r9 = .inl a9 → (fun a48 => Go XM (d + 5) 255 0 48 [some (.ref 140), some (.int a48.1), some (.int a48.2.1), none, none, none, none, none] [] a48.2.2 R) a9) (hR : ∀ b9, r9 = .inr b9 → (fun e48 => Go XM (d + 5) 255 0 186 [some (.ref 140), some (.int e48.1), some (.int e48.2.1), none, none, none, none, none] [] e48.2.2 R) b9) : Go XM (d + 5) 255 0 48 [some (.ref 140), some (.int a48.1), some (.int a48.2.1), none, none, none, none, none] [] a48.2.2 R := by
  unfold Lm_255_48 at hr
  refine go_run mm_255 4 (pc' := 54) (ls' := [some (.ref 140), some (.int a48.1), some (.int a48.2.1), none, none, none, none, none]) (st' := [.int 0, .ref 141, .int a48.2.1]) (S' := a48.2.2) rfl ?_
  refine go_iaload mm_255 (q := 0) rfl rfl rfl (inB_lit rfl) ?_
  show Go XM (d + 5) 255 0 55 [some (.ref 140), some (.int a48.1), some (.int a48.2.1), none, none, none, none, none] [.int (a48.2.2.1 141 0), .int a48.2.1] a48.2.2 R
  refine go_run mm_255 2 (pc' := 57) (ls' := [some (.ref 140), some (.int a48.1), some (.int a48.2.1), none, none, none, none, none]) (st' := [.int ((a48.2.2.1 141 0) - 2), .int a48.2.1]) (S' := a48.2.2) rfl ?_
  refine go_if2 mm_255 rfl (p1 := 60) (p2 := 186) rfl (fun (hc7 : a48.2.1 < ((a48.2.2.1 141 0) - 2)) => ?_) (fun (hc7 : ¬ a48.2.1 < ((a48.2.2.1 141 0) - 2)) => ?_)
  · rw [if_pos hc7] at hr
    refine go_run mm_255 8 (pc' := 71) (ls' := [some (.ref 140), some (.int a48.1), some (.int a48.2.1), some (.int (-1)), some (.int 0), some (.int 0), some (.int 0), none]) (st' := []) (S' := a48.2.2) rfl ?_
    obtain ⟨z71, he71, hr⟩ := ob_some hr
    refine Go.le (ls' := [some (.ref 140), some (.int a48.1), some (.int a48.2.1), some (.int (-1)), some (.int 0), some (.int 0), some (.int 0), none]) ?_ (by repeat first | exact True.intro | refine And.intro rfl ?_)
    refine wh_go (P := fun a71 => Go XM (d + 5) 255 0 71 [some (.ref 140), some (.int a48.1), some (.int a48.2.1), some (.int a71.1), some (.int a71.2.1), some (.int a71.2.2.1), some (.int a71.2.2.2), none] [] a48.2.2 R) (K := fun e71 => Go XM (d + 5) 255 0 162 [some (.ref 140), some (.int a48.1), some (.int a48.2.1), some (.int e71.1), some (.int e71.2.1), some (.int e71.2.2.1), some (.int e71.2.2.2), none] [] a48.2.2 R) (fun a9 r9 h9 hL hR => LSm_255_71 h9 hL hR) _ _ _ he71 ?_
    generalize z71 = e71 at hr
    show Go XM (d + 5) 255 0 162 [some (.ref 140), some (.int a48.1), some (.int a48.2.1), some (.int e71.1), some (.int e71.2.1), some (.int e71.2.2.1), some (.int e71.2.2.2), none] [] a48.2.2 R
    refine go_run mm_255 2 (pc' := 165) (ls' := [some (.ref 140), some (.int a48.1), some (.int a48.2.1), some (.int e71.1), some (.int e71.2.1), some (.int e71.2.2.1), some (.int e71.2.2.2), none]) (st' := [.int 2, .int e71.2.2.1]) (S' := a48.2.2) rfl ?_
    refine go_if2 mm_255 rfl (p1 := 168) (p2 := 180) rfl (fun (hc19 : e71.2.2.1 = 2) => ?_) (fun (hc19 : ¬ e71.2.2.1 = 2) => ?_)
    · rw [if_pos hc19] at hr
      refine go_run mm_255 6 (pc' := 177) (ls' := [some (.ref 140), some (.int a48.1), some (.int a48.2.1), some (.int e71.1), some (.int e71.2.1), some (.int e71.2.2.1), some (.int e71.2.2.2), none]) (st' := [.int (3 - e71.2.1), .int e71.1, .ref 158]) (S' := a48.2.2) rfl ?_
      obtain ⟨hb20, hr⟩ := ck_some hr
      refine go_iastore mm_255 (q := (Int32.toNatClampNeg e71.1)) rfl rfl rfl (ibd_ok hb20) ?_
      show Go XM (d + 5) 255 0 178 [some (.ref 140), some (.int a48.1), some (.int a48.2.1), some (.int e71.1), some (.int e71.2.1), some (.int e71.2.2.1), some (.int e71.2.2.2), none] [] (wI a48.2.2 158 (Int32.toNatClampNeg e71.1) (3 - e71.2.1)) R
      obtain ⟨s21, es21, hr⟩ := sbn_some hr
      rw [← es21]
      refine go_run mm_255 4 (pc' := 48) (ls' := [some (.ref 140), some (.int 1), some (.int (a48.2.1 + 1)), some (.int e71.1), some (.int e71.2.1), some (.int e71.2.2.1), some (.int e71.2.2.2), none]) (st' := []) (S' := s21) rfl ?_
      cases hr
      have h9 := hL (1, a48.2.1 + 1, s21) rfl
      dsimp only at h9
      exact Go.le h9 (by repeat first | exact True.intro | refine And.intro rfl ?_)
    · rw [if_neg hc19] at hr
      refine go_run mm_255 2 (pc' := 48) (ls' := [some (.ref 140), some (.int a48.1), some (.int (a48.2.1 + 1)), some (.int e71.1), some (.int e71.2.1), some (.int e71.2.2.1), some (.int e71.2.2.2), none]) (st' := []) (S' := a48.2.2) rfl ?_
      cases hr
      have h9 := hL (a48.1, a48.2.1 + 1, a48.2.2) rfl
      dsimp only at h9
      exact Go.le h9 (by repeat first | exact True.intro | refine And.intro rfl ?_)
  · rw [if_neg hc7] at hr
    cases hr
    have h9 := hR (a48.1, a48.2.1, a48.2.2) rfl
    dsimp only [Sum.elim_inl] at h9
    exact Go.le h9 (by repeat first | exact True.intro | refine And.intro rfl ?_)
noncomputable def Lm_255_6 (a6 : Int32 × ST) : Option ((Int32 × ST) ⊕ (Int32 × ST)) := if a6.1 < (a6.2.1 141 0) then (ck (ibd a6.1 12) (sbn ((wI a6.2 158 (Int32.toNatClampNeg a6.1) (if a6.1 < 2 then a6.1 else (-1)))) (fun s4 => some (.inl (a6.1 + 1, s4))))) else (some (.inr (a6.1, a6.2)))
set_option maxRecDepth 20000 in
theorem LSm_255_6 {d : Nat} {R : RT} {a6 : Int32 × ST} {r9} (hr : Lm_255_6 a6 = some r9) (hL : ∀ a9, r9 = .inl a9 → (fun a6 => Go XM (d + 5) 255 0 6 [some (.ref 140), some (.int a6.1), none, none, none, none, none, none] [] a6.2 R) a9) (hR : ∀ b9, r9 = .inr b9 → (fun e6 => Go XM (d + 5) 255 0 38 [some (.ref 140), some (.int e6.1), none, none, none, none, none, none] [] e6.2 R) b9) : Go XM (d + 5) 255 0 6 [some (.ref 140), some (.int a6.1), none, none, none, none, none, none] [] a6.2 R := by
  unfold Lm_255_6 at hr
  refine go_run mm_255 4 (pc' := 12) (ls' := [some (.ref 140), some (.int a6.1), none, none, none, none, none, none]) (st' := [.int 0, .ref 141, .int a6.1]) (S' := a6.2) rfl ?_
  refine go_iaload mm_255 (q := 0) rfl rfl rfl (inB_lit rfl) ?_
  show Go XM (d + 5) 255 0 13 [some (.ref 140), some (.int a6.1), none, none, none, none, none, none] [.int (a6.2.1 141 0), .int a6.1] a6.2 R
  refine go_if2 mm_255 rfl (p1 := 16) (p2 := 38) rfl (fun (hc1 : a6.1 < (a6.2.1 141 0)) => ?_) (fun (hc1 : ¬ a6.1 < (a6.2.1 141 0)) => ?_)
  · rw [if_pos hc1] at hr
    refine go_run mm_255 5 (pc' := 23) (ls' := [some (.ref 140), some (.int a6.1), none, none, none, none, none, none]) (st' := [.int 2, .int a6.1, .int a6.1, .ref 158]) (S' := a6.2) rfl ?_
    have j5 : Go XM (d + 5) 255 0 31 [some (.ref 140), some (.int a6.1), none, none, none, none, none, none] [.int (if a6.1 < 2 then a6.1 else (-1)), .int a6.1, .ref 158] a6.2 R := by
      obtain ⟨hb3, hr⟩ := ck_some hr
      refine go_iastore mm_255 (q := (Int32.toNatClampNeg a6.1)) rfl rfl rfl (ibd_ok hb3) ?_
      show Go XM (d + 5) 255 0 32 [some (.ref 140), some (.int a6.1), none, none, none, none, none, none] [] (wI a6.2 158 (Int32.toNatClampNeg a6.1) (if a6.1 < 2 then a6.1 else (-1))) R
      obtain ⟨s4, es4, hr⟩ := sbn_some hr
      rw [← es4]
      refine go_run mm_255 2 (pc' := 6) (ls' := [some (.ref 140), some (.int (a6.1 + 1)), none, none, none, none, none, none]) (st' := []) (S' := s4) rfl ?_
      cases hr
      have h9 := hL (a6.1 + 1, s4) rfl
      dsimp only at h9
      exact Go.le h9 (by repeat first | exact True.intro | refine And.intro rfl ?_)
    refine go_if2 mm_255 rfl (p1 := 26) (p2 := 30) rfl (fun (hc2 : a6.1 < 2) => ?_) (fun (hc2 : ¬ a6.1 < 2) => ?_)
    · refine go_run mm_255 2 (pc' := 31) (ls' := [some (.ref 140), some (.int a6.1), none, none, none, none, none, none]) (st' := [.int a6.1, .int a6.1, .ref 158]) (S' := a6.2) rfl ?_
      have e : ((if a6.1 < 2 then a6.1 else (-1)) : Int32) = a6.1 := by simp [b2i, hc2]
      rw [e] at j5
      exact j5
    · refine go_run mm_255 1 (pc' := 31) (ls' := [some (.ref 140), some (.int a6.1), none, none, none, none, none, none]) (st' := [.int (-1), .int a6.1, .ref 158]) (S' := a6.2) rfl ?_
      have e : ((if a6.1 < 2 then a6.1 else (-1)) : Int32) = (-1) := by simp [b2i, hc2]
      rw [e] at j5
      exact j5
  · rw [if_neg hc1] at hr
    cases hr
    have h9 := hR (a6.1, a6.2) rfl
    dsimp only [Sum.elim_inl] at h9
    exact Go.le h9 (by repeat first | exact True.intro | refine And.intro rfl ?_)
noncomputable def Lm_255_40 (a40 : Int32 × ST) : Option ((Int32 × ST) ⊕ (Int32 × ST)) := if a40.1 = 0 then (some (.inr (a40.1, a40.2))) else (ob (wh FU (Lm_255_48) (0, 0, a40.2)) (fun e48 => some (.inl (e48.1, e48.2.2))))
set_option maxRecDepth 20000 in
theorem LSm_255_40 {d : Nat} {R : RT} {a40 : Int32 × ST} {r9} (hr : Lm_255_40 a40 = some r9) (hL : ∀ a9, r9 = .inl a9 → (fun a40 => Go XM (d + 5) 255 0 40 [some (.ref 140), some (.int a40.1), none, none, none, none, none, none] [] a40.2 R) a9) (hR : ∀ b9, r9 = .inr b9 → (fun e40 => Go XM (d + 5) 255 0 189 [some (.ref 140), some (.int e40.1), none, none, none, none, none, none] [] e40.2 R) b9) : Go XM (d + 5) 255 0 40 [some (.ref 140), some (.int a40.1), none, none, none, none, none, none] [] a40.2 R := by
  unfold Lm_255_40 at hr
  refine go_run mm_255 1 (pc' := 41) (ls' := [some (.ref 140), some (.int a40.1), none, none, none, none, none, none]) (st' := [.int a40.1]) (S' := a40.2) rfl ?_
  refine go_if0 mm_255 rfl (p1 := 189) (p2 := 44) rfl (fun (hc6 : a40.1 = 0) => ?_) (fun (hc6 : ¬ a40.1 = 0) => ?_)
  · rw [if_pos hc6] at hr
    cases hr
    have h9 := hR (a40.1, a40.2) rfl
    dsimp only [Sum.elim_inl] at h9
    exact Go.le h9 (by repeat first | exact True.intro | refine And.intro rfl ?_)
  · rw [if_neg hc6] at hr
    refine go_run mm_255 4 (pc' := 48) (ls' := [some (.ref 140), some (.int 0), some (.int 0), none, none, none, none, none]) (st' := []) (S' := a40.2) rfl ?_
    obtain ⟨z48, he48, hr⟩ := ob_some hr
    refine Go.le (ls' := [some (.ref 140), some (.int 0), some (.int 0), none, none, none, none, none]) ?_ (by repeat first | exact True.intro | refine And.intro rfl ?_)
    refine wh_go (P := fun a48 => Go XM (d + 5) 255 0 48 [some (.ref 140), some (.int a48.1), some (.int a48.2.1), none, none, none, none, none] [] a48.2.2 R) (K := fun e48 => Go XM (d + 5) 255 0 186 [some (.ref 140), some (.int e48.1), some (.int e48.2.1), none, none, none, none, none] [] e48.2.2 R) (fun a9 r9 h9 hL hR => LSm_255_48 h9 hL hR) _ _ _ he48 ?_
    generalize z48 = e48 at hr
    show Go XM (d + 5) 255 0 186 [some (.ref 140), some (.int e48.1), some (.int e48.2.1), none, none, none, none, none] [] e48.2.2 R
    refine go_run mm_255 1 (pc' := 40) (ls' := [some (.ref 140), some (.int e48.1), some (.int e48.2.1), none, none, none, none, none]) (st' := []) (S' := e48.2.2) rfl ?_
    cases hr
    have h9 := hL (e48.1, e48.2.2) rfl
    dsimp only at h9
    exact Go.le h9 (by repeat first | exact True.intro | refine And.intro rfl ?_)
noncomputable def F_255 (S : ST) : Option (Unit × ST) := ob (F_251 S) (fun w1 => ob (wh FU (Lm_255_6) (0, w1.2)) (fun e6 => ob (wh FU (Lm_255_40) (1, e6.2)) (fun e40 => some ((), e40.2))))
set_option maxRecDepth 20000 in
theorem S_255 {d : Nat} {S : ST} {r} (hr : F_255 S = some r) : Cal XM (d + 5) 255 [.ref 140] S (RV (vU r.1) r.2) := by
  unfold F_255 at hr
  refine cal_go 7 rfl ?_
  refine go_run mm_255 1 (pc' := 1) (ls' := [some (.ref 140), none, none, none, none, none, none, none]) (st' := [.ref 140]) (S' := S) rfl ?_
  obtain ⟨w1, hw1, hr⟩ := ob_some hr
  refine go_cv mm_255 (h := 140) (As := []) (rest := []) (nl := 5) rfl rfl (show cvOK 255 1 304 251 0 5 11 = true by decide +kernel) rfl rfl rfl (S_251 hw1) (KP_V ?_)
  show Go XM (d + 5) 255 0 4 [some (.ref 140), none, none, none, none, none, none, none] [] w1.2 (RV (vU r.1) r.2)
  refine go_run mm_255 2 (pc' := 6) (ls' := [some (.ref 140), some (.int 0), none, none, none, none, none, none]) (st' := []) (S' := w1.2) rfl ?_
  obtain ⟨z6, he6, hr⟩ := ob_some hr
  refine Go.le (ls' := [some (.ref 140), some (.int 0), none, none, none, none, none, none]) ?_ (by repeat first | exact True.intro | refine And.intro rfl ?_)
  refine wh_go (P := fun a6 => Go XM (d + 5) 255 0 6 [some (.ref 140), some (.int a6.1), none, none, none, none, none, none] [] a6.2 (RV (vU r.1) r.2)) (K := fun e6 => Go XM (d + 5) 255 0 38 [some (.ref 140), some (.int e6.1), none, none, none, none, none, none] [] e6.2 (RV (vU r.1) r.2)) (fun a9 r9 h9 hL hR => LSm_255_6 h9 hL hR) _ _ _ he6 ?_
  generalize z6 = e6 at hr
  show Go XM (d + 5) 255 0 38 [some (.ref 140), some (.int e6.1), none, none, none, none, none, none] [] e6.2 (RV (vU r.1) r.2)
  refine go_run mm_255 2 (pc' := 40) (ls' := [some (.ref 140), some (.int 1), none, none, none, none, none, none]) (st' := []) (S' := e6.2) rfl ?_
  obtain ⟨z40, he40, hr⟩ := ob_some hr
  refine Go.le (ls' := [some (.ref 140), some (.int 1), none, none, none, none, none, none]) ?_ (by repeat first | exact True.intro | refine And.intro rfl ?_)
  refine wh_go (P := fun a40 => Go XM (d + 5) 255 0 40 [some (.ref 140), some (.int a40.1), none, none, none, none, none, none] [] a40.2 (RV (vU r.1) r.2)) (K := fun e40 => Go XM (d + 5) 255 0 189 [some (.ref 140), some (.int e40.1), none, none, none, none, none, none] [] e40.2 (RV (vU r.1) r.2)) (fun a9 r9 h9 hL hR => LSm_255_40 h9 hL hR) _ _ _ he40 ?_
  generalize z40 = e40 at hr
  show Go XM (d + 5) 255 0 189 [some (.ref 140), some (.int e40.1), none, none, none, none, none, none] [] e40.2 (RV (vU r.1) r.2)
  cases hr
  exact go_vreturn mm_255 rfl rfl ⟨rfl, rfl, rfl⟩

noncomputable def F_256 (v1 : Int32) (S : ST) : Option (Int32 × ST) := ob (F_225 v1 S) (fun w1 => if w1.1 = true then (some (0, w1.2)) else (ob (F_255 w1.2) (fun w2 => ck (ibd v1 12) (some (w2.2.1 158 (Int32.toNatClampNeg v1), w2.2)))))
set_option maxRecDepth 20000 in
theorem S_256 {d : Nat} {S : ST} {v1 : Int32} {r} (hr : F_256 v1 S = some r) : Cal XM (d + 6) 256 [.ref 140, .int v1] S (RV (vI r.1) r.2) := by
  unfold F_256 at hr
  refine cal_go 0 rfl ?_
  refine go_run mm_256 2 (pc' := 2) (ls' := [some (.ref 140), some (.int v1)]) (st' := [.int v1, .ref 140]) (S' := S) rfl ?_
  obtain ⟨w1, hw1, hr⟩ := ob_some hr
  refine go_cv mm_256 (h := 140) (As := [.int v1]) (rest := []) (nl := 2) rfl rfl (show cvOK 256 2 251 225 1 2 11 = true by decide +kernel) rfl rfl rfl (S_225 hw1) (KP_V ?_)
  show Go XM (d + 6) 256 0 5 [some (.ref 140), some (.int v1)] [.int (b2i w1.1)] w1.2 (RV (vI r.1) r.2)
  refine go_ifb mm_256 rfl (p1 := 8) (p2 := 10) rfl (fun (hc1 : w1.1 = true) => ?_) (fun (hc1 : w1.1 = false) => ?_)
  · rw [if_pos hc1] at hr
    refine go_run mm_256 1 (pc' := 9) (ls' := [some (.ref 140), some (.int v1)]) (st' := [.int 0]) (S' := w1.2) rfl ?_
    cases hr
    exact go_ireturn mm_256 rfl rfl ⟨rfl, rfl, rfl⟩
  · rw [if_neg (bf hc1)] at hr
    refine go_run mm_256 1 (pc' := 11) (ls' := [some (.ref 140), some (.int v1)]) (st' := [.ref 140]) (S' := w1.2) rfl ?_
    obtain ⟨w2, hw2, hr⟩ := ob_some hr
    refine go_cv mm_256 (h := 140) (As := []) (rest := []) (nl := 8) rfl rfl (show cvOK 256 11 307 255 0 8 11 = true by decide +kernel) rfl rfl rfl (S_255 hw2) (KP_V ?_)
    show Go XM (d + 6) 256 0 14 [some (.ref 140), some (.int v1)] [] w2.2 (RV (vI r.1) r.2)
    refine go_run mm_256 3 (pc' := 19) (ls' := [some (.ref 140), some (.int v1)]) (st' := [.int v1, .ref 158]) (S' := w2.2) rfl ?_
    obtain ⟨hb2, hr⟩ := ck_some hr
    refine go_iaload mm_256 (q := (Int32.toNatClampNeg v1)) rfl rfl rfl (ibd_ok hb2) ?_
    show Go XM (d + 6) 256 0 20 [some (.ref 140), some (.int v1)] [.int (w2.2.1 158 (Int32.toNatClampNeg v1))] w2.2 (RV (vI r.1) r.2)
    cases hr
    exact go_ireturn mm_256 rfl rfl ⟨rfl, rfl, rfl⟩

noncomputable def F_257 (v1 : Int32) (S : ST) : Option Int32 := ck (chB (RW S 141)) (some (f_257 S v1))
theorem S_257 {d : Nat} {S : ST} {v1 : Int32} {r} (hr : F_257 v1 S = some r) : Cal XM d 257 [.ref 140, .int v1] S (RV (vI r) S) := by
  unfold F_257 at hr
  obtain ⟨q, hr⟩ := ck_some hr
  have q := chB_t.mp q
  cases hr
  exact sq_257 q

noncomputable def Lm_258_21 (S : ST) (a21 : Int32 × Int32) : Option ((Int32 × Int32) ⊕ (Int32 × Int32)) := if a21.2 < 3 then (ob (F_257 a21.2 S) (fun w4 => if (F_218 (Int32.toInt64 w4)) < (F_218 (Int32.toInt64 a21.1)) then (ob (F_257 a21.2 S) (fun w5 => some (.inl (w5, a21.2 + 1)))) else (some (.inl (a21.1, a21.2 + 1))))) else (some (.inr (a21.1, a21.2)))
set_option maxRecDepth 20000 in
theorem LSm_258_21 {d : Nat} {R : RT} {S : ST} {a21 : Int32 × Int32} {r9} (hr : Lm_258_21 S a21 = some r9) (hL : ∀ a9, r9 = .inl a9 → (fun a21 => Go XM (d + 6) 258 0 21 [some (.ref 140), some (.int a21.1), some (.int a21.2)] [] S R) a9) (hR : ∀ b9, r9 = .inr b9 → (fun e21 => Go XM (d + 6) 258 0 59 [some (.ref 140), some (.int e21.1), some (.int e21.2)] [] S R) b9) : Go XM (d + 6) 258 0 21 [some (.ref 140), some (.int a21.1), some (.int a21.2)] [] S R := by
  unfold Lm_258_21 at hr
  refine go_run mm_258 2 (pc' := 23) (ls' := [some (.ref 140), some (.int a21.1), some (.int a21.2)]) (st' := [.int 3, .int a21.2]) (S' := S) rfl ?_
  refine go_if2 mm_258 rfl (p1 := 26) (p2 := 59) rfl (fun (hc2 : a21.2 < 3) => ?_) (fun (hc2 : ¬ a21.2 < 3) => ?_)
  · rw [if_pos hc2] at hr
    refine go_run mm_258 2 (pc' := 28) (ls' := [some (.ref 140), some (.int a21.1), some (.int a21.2)]) (st' := [.int a21.2, .ref 140]) (S' := S) rfl ?_
    obtain ⟨w4, hw4, hr⟩ := ob_some hr
    refine go_cv mm_258 (h := 140) (As := [.int a21.2]) (rest := []) (nl := 4) rfl rfl (show cvOK 258 28 310 257 1 4 11 = true by decide +kernel) rfl rfl rfl (S_257 hw4) (KP_V ?_)
    show Go XM (d + 6) 258 0 31 [some (.ref 140), some (.int a21.1), some (.int a21.2)] [.int w4] S R
    refine go_run mm_258 1 (pc' := 32) (ls' := [some (.ref 140), some (.int a21.1), some (.int a21.2)]) (st' := [.long (Int32.toInt64 w4)]) (S' := S) rfl ?_
    refine go_cs mm_258 (av := [.long (Int32.toInt64 w4)]) (rest := []) (nl := 5) rfl (show csOK 258 32 313 218 1 5 = true by decide +kernel) rfl rfl rfl (S_218 rfl) (KP_V ?_)
    show Go XM (d + 6) 258 0 35 [some (.ref 140), some (.int a21.1), some (.int a21.2)] [.int (F_218 (Int32.toInt64 w4))] S R
    refine go_run mm_258 2 (pc' := 37) (ls' := [some (.ref 140), some (.int a21.1), some (.int a21.2)]) (st' := [.long (Int32.toInt64 a21.1), .int (F_218 (Int32.toInt64 w4))]) (S' := S) rfl ?_
    refine go_cs mm_258 (av := [.long (Int32.toInt64 a21.1)]) (rest := [.int (F_218 (Int32.toInt64 w4))]) (nl := 5) rfl (show csOK 258 37 313 218 1 5 = true by decide +kernel) rfl rfl rfl (S_218 rfl) (KP_V ?_)
    show Go XM (d + 6) 258 0 40 [some (.ref 140), some (.int a21.1), some (.int a21.2)] [.int (F_218 (Int32.toInt64 a21.1)), .int (F_218 (Int32.toInt64 w4))] S R
    refine go_if2 mm_258 rfl (p1 := 43) (p2 := 51) rfl (fun (hc3 : (F_218 (Int32.toInt64 w4)) < (F_218 (Int32.toInt64 a21.1))) => ?_) (fun (hc3 : ¬ (F_218 (Int32.toInt64 w4)) < (F_218 (Int32.toInt64 a21.1))) => ?_)
    · rw [if_pos hc3] at hr
      refine go_run mm_258 2 (pc' := 45) (ls' := [some (.ref 140), some (.int a21.1), some (.int a21.2)]) (st' := [.int a21.2, .ref 140]) (S' := S) rfl ?_
      obtain ⟨w5, hw5, hr⟩ := ob_some hr
      refine go_cv mm_258 (h := 140) (As := [.int a21.2]) (rest := []) (nl := 4) rfl rfl (show cvOK 258 45 310 257 1 4 11 = true by decide +kernel) rfl rfl rfl (S_257 hw5) (KP_V ?_)
      show Go XM (d + 6) 258 0 48 [some (.ref 140), some (.int a21.1), some (.int a21.2)] [.int w5] S R
      refine go_run mm_258 4 (pc' := 21) (ls' := [some (.ref 140), some (.int w5), some (.int (a21.2 + 1))]) (st' := []) (S' := S) rfl ?_
      cases hr
      have h9 := hL (w5, a21.2 + 1) rfl
      dsimp only at h9
      exact Go.le h9 (by repeat first | exact True.intro | refine And.intro rfl ?_)
    · rw [if_neg hc3] at hr
      refine go_run mm_258 4 (pc' := 21) (ls' := [some (.ref 140), some (.int a21.1), some (.int (a21.2 + 1))]) (st' := []) (S' := S) rfl ?_
      cases hr
      have h9 := hL (a21.1, a21.2 + 1) rfl
      dsimp only at h9
      exact Go.le h9 (by repeat first | exact True.intro | refine And.intro rfl ?_)
  · rw [if_neg hc2] at hr
    cases hr
    have h9 := hR (a21.1, a21.2) rfl
    dsimp only [Sum.elim_inl] at h9
    exact Go.le h9 (by repeat first | exact True.intro | refine And.intro rfl ?_)
noncomputable def F_258 (S : ST) : Option (Int32 × ST) := ob (F_184 S) (fun w1 => if w1.1 = true then (some (0, w1.2)) else (ob (F_255 w1.2) (fun w2 => ob (F_257 0 w2.2) (fun w3 => ob (wh FU (Lm_258_21 w2.2) (w3, 1)) (fun e21 => some (e21.1, w2.2))))))
set_option maxRecDepth 20000 in
theorem S_258 {d : Nat} {S : ST} {r} (hr : F_258 S = some r) : Cal XM (d + 6) 258 [.ref 140] S (RV (vI r.1) r.2) := by
  unfold F_258 at hr
  refine cal_go 2 rfl ?_
  refine go_run mm_258 1 (pc' := 1) (ls' := [some (.ref 140), none, none]) (st' := [.ref 140]) (S' := S) rfl ?_
  obtain ⟨w1, hw1, hr⟩ := ob_some hr
  refine go_cv mm_258 (h := 140) (As := []) (rest := []) (nl := 1) rfl rfl (show cvOK 258 1 247 184 0 1 11 = true by decide +kernel) rfl rfl rfl (S_184 hw1) (KP_V ?_)
  show Go XM (d + 6) 258 0 4 [some (.ref 140), none, none] [.int (b2i w1.1)] w1.2 (RV (vI r.1) r.2)
  refine go_ifb mm_258 rfl (p1 := 7) (p2 := 9) rfl (fun (hc1 : w1.1 = true) => ?_) (fun (hc1 : w1.1 = false) => ?_)
  · rw [if_pos hc1] at hr
    refine go_run mm_258 1 (pc' := 8) (ls' := [some (.ref 140), none, none]) (st' := [.int 0]) (S' := w1.2) rfl ?_
    cases hr
    exact go_ireturn mm_258 rfl rfl ⟨rfl, rfl, rfl⟩
  · rw [if_neg (bf hc1)] at hr
    refine go_run mm_258 1 (pc' := 10) (ls' := [some (.ref 140), none, none]) (st' := [.ref 140]) (S' := w1.2) rfl ?_
    obtain ⟨w2, hw2, hr⟩ := ob_some hr
    refine go_cv mm_258 (h := 140) (As := []) (rest := []) (nl := 8) rfl rfl (show cvOK 258 10 307 255 0 8 11 = true by decide +kernel) rfl rfl rfl (S_255 hw2) (KP_V ?_)
    show Go XM (d + 6) 258 0 13 [some (.ref 140), none, none] [] w2.2 (RV (vI r.1) r.2)
    refine go_run mm_258 2 (pc' := 15) (ls' := [some (.ref 140), none, none]) (st' := [.int 0, .ref 140]) (S' := w2.2) rfl ?_
    obtain ⟨w3, hw3, hr⟩ := ob_some hr
    refine go_cv mm_258 (h := 140) (As := [.int 0]) (rest := []) (nl := 4) rfl rfl (show cvOK 258 15 310 257 1 4 11 = true by decide +kernel) rfl rfl rfl (S_257 hw3) (KP_V ?_)
    show Go XM (d + 6) 258 0 18 [some (.ref 140), none, none] [.int w3] w2.2 (RV (vI r.1) r.2)
    refine go_run mm_258 3 (pc' := 21) (ls' := [some (.ref 140), some (.int w3), some (.int 1)]) (st' := []) (S' := w2.2) rfl ?_
    obtain ⟨z21, he21, hr⟩ := ob_some hr
    refine Go.le (ls' := [some (.ref 140), some (.int w3), some (.int 1)]) ?_ (by repeat first | exact True.intro | refine And.intro rfl ?_)
    refine wh_go (P := fun a21 => Go XM (d + 6) 258 0 21 [some (.ref 140), some (.int a21.1), some (.int a21.2)] [] w2.2 (RV (vI r.1) r.2)) (K := fun e21 => Go XM (d + 6) 258 0 59 [some (.ref 140), some (.int e21.1), some (.int e21.2)] [] w2.2 (RV (vI r.1) r.2)) (fun a9 r9 h9 hL hR => LSm_258_21 h9 hL hR) _ _ _ he21 ?_
    generalize z21 = e21 at hr
    show Go XM (d + 6) 258 0 59 [some (.ref 140), some (.int e21.1), some (.int e21.2)] [] w2.2 (RV (vI r.1) r.2)
    refine go_run mm_258 1 (pc' := 60) (ls' := [some (.ref 140), some (.int e21.1), some (.int e21.2)]) (st' := [.int e21.1]) (S' := w2.2) rfl ?_
    cases hr
    exact go_ireturn mm_258 rfl rfl ⟨rfl, rfl, rfl⟩
