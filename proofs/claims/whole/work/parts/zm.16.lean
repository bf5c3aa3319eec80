/-! methods as functions (printed by a program): 295 draw, 296 drawnByte, 297 lays, 298 fetches, 299 keeps, 300 addGuard, 301 removeGuard -/
noncomputable def Lm_295_49 (v1 : Int32) (p49_2 : Int64) (a49 : Int32 × Int32 × ST) : Option ((Int32 × Int32 × ST) ⊕ (Int32 × Int32 × ST)) := if a49.2.1 < 16 then (if (F_215 a49.2.1 v1 a49.2.2) = (-1) then (ck (ibd a49.2.1 16) (sbn ((wI a49.2.2 161 (Int32.toNatClampNeg a49.2.1) 32)) (fun s8 => some (.inl (a49.1 + (b2i (!(decide ((F_215 a49.2.1 v1 a49.2.2) = (-1))))), a49.2.1 + 1, s8))))) else (ob (F_292 a49.2.1 v1 a49.2.2) (fun w4 => if w4 = true then (ck (ibd a49.2.1 16) (sbn ((wI a49.2.2 161 (Int32.toNatClampNeg a49.2.1) 71)) (fun s11 => some (.inl (a49.1 + (b2i (!(decide ((F_215 a49.2.1 v1 a49.2.2) = (-1))))), a49.2.1 + 1, s11))))) else (ob (F_293 a49.2.1 v1 a49.2.2) (fun w5 => if w5 = true then (ck (ibd a49.2.1 16) (sbn ((wI a49.2.2 161 (Int32.toNatClampNeg a49.2.1) 84)) (fun s14 => some (.inl (a49.1 + (b2i (!(decide ((F_215 a49.2.1 v1 a49.2.2) = (-1))))), a49.2.1 + 1, s14))))) else (ob (F_294 a49.2.1 v1 a49.2.2) (fun w6 => if w6 = true then (ck (ibd a49.2.1 16) (sbn ((wI a49.2.2 161 (Int32.toNatClampNeg a49.2.1) 86)) (fun s17 => some (.inl (a49.1 + (b2i (!(decide ((F_215 a49.2.1 v1 a49.2.2) = (-1))))), a49.2.1 + 1, s17))))) else (ck (ibd a49.2.1 16) (sbn ((wI a49.2.2 161 (Int32.toNatClampNeg a49.2.1) (if (F_217 p49_2 (F_215 a49.2.1 v1 a49.2.2)) = true then 43 else 45))) (fun s20 => some (.inl (a49.1 + (b2i (!(decide ((F_215 a49.2.1 v1 a49.2.2) = (-1))))), a49.2.1 + 1, s20)))))))))))) else (some (.inr (a49.1, a49.2.1, a49.2.2)))
set_option maxRecDepth 20000 in
theorem LSm_295_49 {d : Nat} {R : RT} {v1 : Int32} {p49_2 : Int64} {a49 : Int32 × Int32 × ST} {r9} (hr : Lm_295_49 v1 p49_2 a49 = some r9) (hL : ∀ a9, r9 = .inl a9 → (fun a49 => Go XM (d + 8) 295 0 49 [some (.ref 140), some (.int v1), some (.long p49_2), none, some (.int a49.1), some (.int a49.2.1), none] [] a49.2.2 R) a9) (hR : ∀ b9, r9 = .inr b9 → (fun e49 => Go XM (d + 8) 295 0 194 [some (.ref 140), some (.int v1), some (.long p49_2), none, some (.int e49.1), some (.int e49.2.1), none] [] e49.2.2 R) b9) : Go XM (d + 8) 295 0 49 [some (.ref 140), some (.int v1), some (.long p49_2), none, some (.int a49.1), some (.int a49.2.1), none] [] a49.2.2 R := by
  unfold Lm_295_49 at hr
  refine go_run mm_295 2 (pc' := 53) (ls' := [some (.ref 140), some (.int v1), some (.long p49_2), none, some (.int a49.1), some (.int a49.2.1), none]) (st' := [.int 16, .int a49.2.1]) (S' := a49.2.2) rfl ?_
  refine go_if2 mm_295 rfl (p1 := 56) (p2 := 194) rfl (fun (hc4 : a49.2.1 < 16) => ?_) (fun (hc4 : ¬ a49.2.1 < 16) => ?_)
  · rw [if_pos hc4] at hr
    refine go_run mm_295 3 (pc' := 60) (ls' := [some (.ref 140), some (.int v1), some (.long p49_2), none, some (.int a49.1), some (.int a49.2.1), none]) (st' := [.int v1, .int a49.2.1, .ref 140]) (S' := a49.2.2) rfl ?_
    refine go_cv mm_295 (h := 140) (As := [.int a49.2.1, .int v1]) (rest := []) (nl := 3) rfl rfl (show cvOK 295 60 257 215 2 3 11 = true by decide +kernel) rfl rfl rfl (S_215 rfl) (KP_V ?_)
    show Go XM (d + 8) 295 0 63 [some (.ref 140), some (.int v1), some (.long p49_2), none, some (.int a49.1), some (.int a49.2.1), none] [.int (F_215 a49.2.1 v1 a49.2.2)] a49.2.2 R
    refine go_run mm_295 4 (pc' := 70) (ls' := [some (.ref 140), some (.int v1), some (.long p49_2), none, some (.int a49.1), some (.int a49.2.1), some (.int (F_215 a49.2.1 v1 a49.2.2))]) (st' := [.int (-1), .int (F_215 a49.2.1 v1 a49.2.2), .int a49.1]) (S' := a49.2.2) rfl ?_
    have j22 : Go XM (d + 8) 295 0 78 [some (.ref 140), some (.int v1), some (.long p49_2), none, some (.int a49.1), some (.int a49.2.1), some (.int (F_215 a49.2.1 v1 a49.2.2))] [.int (b2i (!(decide ((F_215 a49.2.1 v1 a49.2.2) = (-1))))), .int a49.1] a49.2.2 R := by
      refine go_run mm_295 4 (pc' := 84) (ls' := [some (.ref 140), some (.int v1), some (.long p49_2), none, some (.int (a49.1 + (b2i (!(decide ((F_215 a49.2.1 v1 a49.2.2) = (-1))))))), some (.int a49.2.1), some (.int (F_215 a49.2.1 v1 a49.2.2))]) (st' := [.int (-1), .int (F_215 a49.2.1 v1 a49.2.2)]) (S' := a49.2.2) rfl ?_
      refine go_if2 mm_295 rfl (p1 := 87) (p2 := 99) rfl (fun (hc6 : (F_215 a49.2.1 v1 a49.2.2) = (-1)) => ?_) (fun (hc6 : ¬ (F_215 a49.2.1 v1 a49.2.2) = (-1)) => ?_)
      · rw [if_pos hc6] at hr
        refine go_run mm_295 4 (pc' := 95) (ls' := [some (.ref 140), some (.int v1), some (.long p49_2), none, some (.int (a49.1 + (b2i (!(decide ((F_215 a49.2.1 v1 a49.2.2) = (-1))))))), some (.int a49.2.1), some (.int (F_215 a49.2.1 v1 a49.2.2))]) (st' := [.int 32, .int a49.2.1, .ref 161]) (S' := a49.2.2) rfl ?_
        obtain ⟨hb7, hr⟩ := ck_some hr
        refine go_iastore mm_295 (q := (Int32.toNatClampNeg a49.2.1)) rfl rfl rfl (ibd_ok hb7) ?_
        show Go XM (d + 8) 295 0 96 [some (.ref 140), some (.int v1), some (.long p49_2), none, some (.int (a49.1 + (b2i (!(decide ((F_215 a49.2.1 v1 a49.2.2) = (-1))))))), some (.int a49.2.1), some (.int (F_215 a49.2.1 v1 a49.2.2))] [] (wI a49.2.2 161 (Int32.toNatClampNeg a49.2.1) 32) R
        obtain ⟨s8, es8, hr⟩ := sbn_some hr
        rw [← es8]
        refine go_run mm_295 3 (pc' := 49) (ls' := [some (.ref 140), some (.int v1), some (.long p49_2), none, some (.int (a49.1 + (b2i (!(decide ((F_215 a49.2.1 v1 a49.2.2) = (-1))))))), some (.int (a49.2.1 + 1)), some (.int (F_215 a49.2.1 v1 a49.2.2))]) (st' := []) (S' := s8) rfl ?_
        cases hr
        have h9 := hL (a49.1 + (b2i (!(decide ((F_215 a49.2.1 v1 a49.2.2) = (-1))))), a49.2.1 + 1, s8) rfl
        dsimp only at h9
        exact Go.le h9 (by repeat first | exact True.intro | refine And.intro rfl ?_)
      · rw [if_neg hc6] at hr
        refine go_run mm_295 3 (pc' := 103) (ls' := [some (.ref 140), some (.int v1), some (.long p49_2), none, some (.int (a49.1 + (b2i (!(decide ((F_215 a49.2.1 v1 a49.2.2) = (-1))))))), some (.int a49.2.1), some (.int (F_215 a49.2.1 v1 a49.2.2))]) (st' := [.int v1, .int a49.2.1, .ref 140]) (S' := a49.2.2) rfl ?_
        obtain ⟨w4, hw4, hr⟩ := ob_some hr
        refine go_cv mm_295 (h := 140) (As := [.int a49.2.1, .int v1]) (rest := []) (nl := 4) rfl rfl (show cvOK 295 103 373 292 2 4 11 = true by decide +kernel) rfl rfl rfl (S_292 hw4) (KP_V ?_)
        show Go XM (d + 8) 295 0 106 [some (.ref 140), some (.int v1), some (.long p49_2), none, some (.int (a49.1 + (b2i (!(decide ((F_215 a49.2.1 v1 a49.2.2) = (-1))))))), some (.int a49.2.1), some (.int (F_215 a49.2.1 v1 a49.2.2))] [.int (b2i w4)] a49.2.2 R
        refine go_ifb mm_295 rfl (p1 := 109) (p2 := 121) rfl (fun (hc9 : w4 = true) => ?_) (fun (hc9 : w4 = false) => ?_)
        · rw [if_pos hc9] at hr
          refine go_run mm_295 4 (pc' := 117) (ls' := [some (.ref 140), some (.int v1), some (.long p49_2), none, some (.int (a49.1 + (b2i (!(decide ((F_215 a49.2.1 v1 a49.2.2) = (-1))))))), some (.int a49.2.1), some (.int (F_215 a49.2.1 v1 a49.2.2))]) (st' := [.int 71, .int a49.2.1, .ref 161]) (S' := a49.2.2) rfl ?_
          obtain ⟨hb10, hr⟩ := ck_some hr
          refine go_iastore mm_295 (q := (Int32.toNatClampNeg a49.2.1)) rfl rfl rfl (ibd_ok hb10) ?_
          show Go XM (d + 8) 295 0 118 [some (.ref 140), some (.int v1), some (.long p49_2), none, some (.int (a49.1 + (b2i (!(decide ((F_215 a49.2.1 v1 a49.2.2) = (-1))))))), some (.int a49.2.1), some (.int (F_215 a49.2.1 v1 a49.2.2))] [] (wI a49.2.2 161 (Int32.toNatClampNeg a49.2.1) 71) R
          obtain ⟨s11, es11, hr⟩ := sbn_some hr
          rw [← es11]
          refine go_run mm_295 3 (pc' := 49) (ls' := [some (.ref 140), some (.int v1), some (.long p49_2), none, some (.int (a49.1 + (b2i (!(decide ((F_215 a49.2.1 v1 a49.2.2) = (-1))))))), some (.int (a49.2.1 + 1)), some (.int (F_215 a49.2.1 v1 a49.2.2))]) (st' := []) (S' := s11) rfl ?_
          cases hr
          have h9 := hL (a49.1 + (b2i (!(decide ((F_215 a49.2.1 v1 a49.2.2) = (-1))))), a49.2.1 + 1, s11) rfl
          dsimp only at h9
          exact Go.le h9 (by repeat first | exact True.intro | refine And.intro rfl ?_)
        · rw [if_neg (bf hc9)] at hr
          refine go_run mm_295 3 (pc' := 125) (ls' := [some (.ref 140), some (.int v1), some (.long p49_2), none, some (.int (a49.1 + (b2i (!(decide ((F_215 a49.2.1 v1 a49.2.2) = (-1))))))), some (.int a49.2.1), some (.int (F_215 a49.2.1 v1 a49.2.2))]) (st' := [.int v1, .int a49.2.1, .ref 140]) (S' := a49.2.2) rfl ?_
          obtain ⟨w5, hw5, hr⟩ := ob_some hr
          refine go_cv mm_295 (h := 140) (As := [.int a49.2.1, .int v1]) (rest := []) (nl := 4) rfl rfl (show cvOK 295 125 376 293 2 4 11 = true by decide +kernel) rfl rfl rfl (S_293 hw5) (KP_V ?_)
          show Go XM (d + 8) 295 0 128 [some (.ref 140), some (.int v1), some (.long p49_2), none, some (.int (a49.1 + (b2i (!(decide ((F_215 a49.2.1 v1 a49.2.2) = (-1))))))), some (.int a49.2.1), some (.int (F_215 a49.2.1 v1 a49.2.2))] [.int (b2i w5)] a49.2.2 R
          refine go_ifb mm_295 rfl (p1 := 131) (p2 := 143) rfl (fun (hc12 : w5 = true) => ?_) (fun (hc12 : w5 = false) => ?_)
          · rw [if_pos hc12] at hr
            refine go_run mm_295 4 (pc' := 139) (ls' := [some (.ref 140), some (.int v1), some (.long p49_2), none, some (.int (a49.1 + (b2i (!(decide ((F_215 a49.2.1 v1 a49.2.2) = (-1))))))), some (.int a49.2.1), some (.int (F_215 a49.2.1 v1 a49.2.2))]) (st' := [.int 84, .int a49.2.1, .ref 161]) (S' := a49.2.2) rfl ?_
            obtain ⟨hb13, hr⟩ := ck_some hr
            refine go_iastore mm_295 (q := (Int32.toNatClampNeg a49.2.1)) rfl rfl rfl (ibd_ok hb13) ?_
            show Go XM (d + 8) 295 0 140 [some (.ref 140), some (.int v1), some (.long p49_2), none, some (.int (a49.1 + (b2i (!(decide ((F_215 a49.2.1 v1 a49.2.2) = (-1))))))), some (.int a49.2.1), some (.int (F_215 a49.2.1 v1 a49.2.2))] [] (wI a49.2.2 161 (Int32.toNatClampNeg a49.2.1) 84) R
            obtain ⟨s14, es14, hr⟩ := sbn_some hr
            rw [← es14]
            refine go_run mm_295 3 (pc' := 49) (ls' := [some (.ref 140), some (.int v1), some (.long p49_2), none, some (.int (a49.1 + (b2i (!(decide ((F_215 a49.2.1 v1 a49.2.2) = (-1))))))), some (.int (a49.2.1 + 1)), some (.int (F_215 a49.2.1 v1 a49.2.2))]) (st' := []) (S' := s14) rfl ?_
            cases hr
            have h9 := hL (a49.1 + (b2i (!(decide ((F_215 a49.2.1 v1 a49.2.2) = (-1))))), a49.2.1 + 1, s14) rfl
            dsimp only at h9
            exact Go.le h9 (by repeat first | exact True.intro | refine And.intro rfl ?_)
          · rw [if_neg (bf hc12)] at hr
            refine go_run mm_295 3 (pc' := 147) (ls' := [some (.ref 140), some (.int v1), some (.long p49_2), none, some (.int (a49.1 + (b2i (!(decide ((F_215 a49.2.1 v1 a49.2.2) = (-1))))))), some (.int a49.2.1), some (.int (F_215 a49.2.1 v1 a49.2.2))]) (st' := [.int v1, .int a49.2.1, .ref 140]) (S' := a49.2.2) rfl ?_
            obtain ⟨w6, hw6, hr⟩ := ob_some hr
            refine go_cv mm_295 (h := 140) (As := [.int a49.2.1, .int v1]) (rest := []) (nl := 4) rfl rfl (show cvOK 295 147 379 294 2 4 11 = true by decide +kernel) rfl rfl rfl (S_294 hw6) (KP_V ?_)
            show Go XM (d + 8) 295 0 150 [some (.ref 140), some (.int v1), some (.long p49_2), none, some (.int (a49.1 + (b2i (!(decide ((F_215 a49.2.1 v1 a49.2.2) = (-1))))))), some (.int a49.2.1), some (.int (F_215 a49.2.1 v1 a49.2.2))] [.int (b2i w6)] a49.2.2 R
            refine go_ifb mm_295 rfl (p1 := 153) (p2 := 165) rfl (fun (hc15 : w6 = true) => ?_) (fun (hc15 : w6 = false) => ?_)
            · rw [if_pos hc15] at hr
              refine go_run mm_295 4 (pc' := 161) (ls' := [some (.ref 140), some (.int v1), some (.long p49_2), none, some (.int (a49.1 + (b2i (!(decide ((F_215 a49.2.1 v1 a49.2.2) = (-1))))))), some (.int a49.2.1), some (.int (F_215 a49.2.1 v1 a49.2.2))]) (st' := [.int 86, .int a49.2.1, .ref 161]) (S' := a49.2.2) rfl ?_
              obtain ⟨hb16, hr⟩ := ck_some hr
              refine go_iastore mm_295 (q := (Int32.toNatClampNeg a49.2.1)) rfl rfl rfl (ibd_ok hb16) ?_
              show Go XM (d + 8) 295 0 162 [some (.ref 140), some (.int v1), some (.long p49_2), none, some (.int (a49.1 + (b2i (!(decide ((F_215 a49.2.1 v1 a49.2.2) = (-1))))))), some (.int a49.2.1), some (.int (F_215 a49.2.1 v1 a49.2.2))] [] (wI a49.2.2 161 (Int32.toNatClampNeg a49.2.1) 86) R
              obtain ⟨s17, es17, hr⟩ := sbn_some hr
              rw [← es17]
              refine go_run mm_295 3 (pc' := 49) (ls' := [some (.ref 140), some (.int v1), some (.long p49_2), none, some (.int (a49.1 + (b2i (!(decide ((F_215 a49.2.1 v1 a49.2.2) = (-1))))))), some (.int (a49.2.1 + 1)), some (.int (F_215 a49.2.1 v1 a49.2.2))]) (st' := []) (S' := s17) rfl ?_
              cases hr
              have h9 := hL (a49.1 + (b2i (!(decide ((F_215 a49.2.1 v1 a49.2.2) = (-1))))), a49.2.1 + 1, s17) rfl
              dsimp only at h9
              exact Go.le h9 (by repeat first | exact True.intro | refine And.intro rfl ?_)
            · rw [if_neg (bf hc15)] at hr
              refine go_run mm_295 5 (pc' := 174) (ls' := [some (.ref 140), some (.int v1), some (.long p49_2), none, some (.int (a49.1 + (b2i (!(decide ((F_215 a49.2.1 v1 a49.2.2) = (-1))))))), some (.int a49.2.1), some (.int (F_215 a49.2.1 v1 a49.2.2))]) (st' := [.int (F_215 a49.2.1 v1 a49.2.2), .long p49_2, .int a49.2.1, .ref 161]) (S' := a49.2.2) rfl ?_
              refine go_cs mm_295 (av := [.long p49_2, .int (F_215 a49.2.1 v1 a49.2.2)]) (rest := [.int a49.2.1, .ref 161]) (nl := 3) rfl (show csOK 295 174 282 217 2 3 = true by decide +kernel) rfl rfl rfl (S_217 rfl) (KP_V ?_)
              show Go XM (d + 8) 295 0 177 [some (.ref 140), some (.int v1), some (.long p49_2), none, some (.int (a49.1 + (b2i (!(decide ((F_215 a49.2.1 v1 a49.2.2) = (-1))))))), some (.int a49.2.1), some (.int (F_215 a49.2.1 v1 a49.2.2))] [.int (b2i (F_217 p49_2 (F_215 a49.2.1 v1 a49.2.2))), .int a49.2.1, .ref 161] a49.2.2 R
              have j21 : Go XM (d + 8) 295 0 187 [some (.ref 140), some (.int v1), some (.long p49_2), none, some (.int (a49.1 + (b2i (!(decide ((F_215 a49.2.1 v1 a49.2.2) = (-1))))))), some (.int a49.2.1), some (.int (F_215 a49.2.1 v1 a49.2.2))] [.int (if (F_217 p49_2 (F_215 a49.2.1 v1 a49.2.2)) = true then 43 else 45), .int a49.2.1, .ref 161] a49.2.2 R := by
                obtain ⟨hb19, hr⟩ := ck_some hr
                refine go_iastore mm_295 (q := (Int32.toNatClampNeg a49.2.1)) rfl rfl rfl (ibd_ok hb19) ?_
                show Go XM (d + 8) 295 0 188 [some (.ref 140), some (.int v1), some (.long p49_2), none, some (.int (a49.1 + (b2i (!(decide ((F_215 a49.2.1 v1 a49.2.2) = (-1))))))), some (.int a49.2.1), some (.int (F_215 a49.2.1 v1 a49.2.2))] [] (wI a49.2.2 161 (Int32.toNatClampNeg a49.2.1) (if (F_217 p49_2 (F_215 a49.2.1 v1 a49.2.2)) = true then 43 else 45)) R
                obtain ⟨s20, es20, hr⟩ := sbn_some hr
                rw [← es20]
                refine go_run mm_295 2 (pc' := 49) (ls' := [some (.ref 140), some (.int v1), some (.long p49_2), none, some (.int (a49.1 + (b2i (!(decide ((F_215 a49.2.1 v1 a49.2.2) = (-1))))))), some (.int (a49.2.1 + 1)), some (.int (F_215 a49.2.1 v1 a49.2.2))]) (st' := []) (S' := s20) rfl ?_
                cases hr
                have h9 := hL (a49.1 + (b2i (!(decide ((F_215 a49.2.1 v1 a49.2.2) = (-1))))), a49.2.1 + 1, s20) rfl
                dsimp only at h9
                exact Go.le h9 (by repeat first | exact True.intro | refine And.intro rfl ?_)
              refine go_ifb mm_295 rfl (p1 := 180) (p2 := 185) rfl (fun (hc18 : (F_217 p49_2 (F_215 a49.2.1 v1 a49.2.2)) = true) => ?_) (fun (hc18 : (F_217 p49_2 (F_215 a49.2.1 v1 a49.2.2)) = false) => ?_)
              · refine go_run mm_295 2 (pc' := 187) (ls' := [some (.ref 140), some (.int v1), some (.long p49_2), none, some (.int (a49.1 + (b2i (!(decide ((F_215 a49.2.1 v1 a49.2.2) = (-1))))))), some (.int a49.2.1), some (.int (F_215 a49.2.1 v1 a49.2.2))]) (st' := [.int 43, .int a49.2.1, .ref 161]) (S' := a49.2.2) rfl ?_
                have e : ((if (F_217 p49_2 (F_215 a49.2.1 v1 a49.2.2)) = true then 43 else 45) : Int32) = 43 := by simp [b2i, hc18]
                rw [e] at j21
                exact j21
              · refine go_run mm_295 1 (pc' := 187) (ls' := [some (.ref 140), some (.int v1), some (.long p49_2), none, some (.int (a49.1 + (b2i (!(decide ((F_215 a49.2.1 v1 a49.2.2) = (-1))))))), some (.int a49.2.1), some (.int (F_215 a49.2.1 v1 a49.2.2))]) (st' := [.int 45, .int a49.2.1, .ref 161]) (S' := a49.2.2) rfl ?_
                have e : ((if (F_217 p49_2 (F_215 a49.2.1 v1 a49.2.2)) = true then 43 else 45) : Int32) = 45 := by simp [b2i, hc18]
                rw [e] at j21
                exact j21
    refine go_if2 mm_295 rfl (p1 := 73) (p2 := 77) rfl (fun (hc5 : (F_215 a49.2.1 v1 a49.2.2) = (-1)) => ?_) (fun (hc5 : ¬ (F_215 a49.2.1 v1 a49.2.2) = (-1)) => ?_)
    · refine go_run mm_295 2 (pc' := 78) (ls' := [some (.ref 140), some (.int v1), some (.long p49_2), none, some (.int a49.1), some (.int a49.2.1), some (.int (F_215 a49.2.1 v1 a49.2.2))]) (st' := [.int 0, .int a49.1]) (S' := a49.2.2) rfl ?_
      have e : ((b2i (!(decide ((F_215 a49.2.1 v1 a49.2.2) = (-1))))) : Int32) = 0 := by simp [b2i, hc5]
      rw [e] at j22
      exact j22
    · refine go_run mm_295 1 (pc' := 78) (ls' := [some (.ref 140), some (.int v1), some (.long p49_2), none, some (.int a49.1), some (.int a49.2.1), some (.int (F_215 a49.2.1 v1 a49.2.2))]) (st' := [.int 1, .int a49.1]) (S' := a49.2.2) rfl ?_
      have e : ((b2i (!(decide ((F_215 a49.2.1 v1 a49.2.2) = (-1))))) : Int32) = 1 := by simp [b2i, hc5]
      rw [e] at j22
      exact j22
  · rw [if_neg hc4] at hr
    cases hr
    have h9 := hR (a49.1, a49.2.1, a49.2.2) rfl
    dsimp only [Sum.elim_inl] at h9
    exact Go.le h9 (by repeat first | exact True.intro | refine And.intro rfl ?_)
noncomputable def F_295 (v1 : Int32) (S : ST) : Option (Int32 × ST) := ob (F_184 S) (fun w1 => if w1.1 = true then (some (0, w1.2)) else (ob (F_183 (!(F_182 v1 0 15)) 2 w1.2) (fun w2 => if w2.1 = true then (some (0, w2.2)) else (ob (F_277 (-1) (wI w2.2 140 40 1)) (fun w3 => ob (wh FU (Lm_295_49 v1 w3.1) (0, 0, w3.2)) (fun e49 => some (e49.1, e49.2.2)))))))
set_option maxRecDepth 20000 in
theorem S_295 {d : Nat} {S : ST} {v1 : Int32} {r} (hr : F_295 v1 S = some r) : Cal XM (d + 8) 295 [.ref 140, .int v1] S (RV (vI r.1) r.2) := by
  unfold F_295 at hr
  refine cal_go 5 rfl ?_
  refine go_run mm_295 1 (pc' := 1) (ls' := [some (.ref 140), some (.int v1), none, none, none, none, none]) (st' := [.ref 140]) (S' := S) rfl ?_
  obtain ⟨w1, hw1, hr⟩ := ob_some hr
  refine go_cv mm_295 (h := 140) (As := []) (rest := []) (nl := 1) rfl rfl (show cvOK 295 1 247 184 0 1 11 = true by decide +kernel) rfl rfl rfl (S_184 hw1) (KP_V ?_)
  show Go XM (d + 8) 295 0 4 [some (.ref 140), some (.int v1), none, none, none, none, none] [.int (b2i w1.1)] w1.2 (RV (vI r.1) r.2)
  refine go_ifb mm_295 rfl (p1 := 30) (p2 := 7) rfl (fun (hc1 : w1.1 = true) => ?_) (fun (hc1 : w1.1 = false) => ?_)
  · rw [if_pos hc1] at hr
    refine go_run mm_295 1 (pc' := 31) (ls' := [some (.ref 140), some (.int v1), none, none, none, none, none]) (st' := [.int 0]) (S' := w1.2) rfl ?_
    cases hr
    exact go_ireturn mm_295 rfl rfl ⟨rfl, rfl, rfl⟩
  · rw [if_neg (bf hc1)] at hr
    refine go_run mm_295 4 (pc' := 12) (ls' := [some (.ref 140), some (.int v1), none, none, none, none, none]) (st' := [.int 15, .int 0, .int v1, .ref 140]) (S' := w1.2) rfl ?_
    refine go_cs mm_295 (av := [.int v1, .int 0, .int 15]) (rest := [.ref 140]) (nl := 3) rfl (show csOK 295 12 148 182 3 3 = true by decide +kernel) rfl rfl rfl (S_182 rfl) (KP_V ?_)
    show Go XM (d + 8) 295 0 15 [some (.ref 140), some (.int v1), none, none, none, none, none] [.int (b2i (F_182 v1 0 15)), .ref 140] w1.2 (RV (vI r.1) r.2)
    have j23 : Go XM (d + 8) 295 0 23 [some (.ref 140), some (.int v1), none, none, none, none, none] [.int (b2i (!(F_182 v1 0 15))), .ref 140] w1.2 (RV (vI r.1) r.2) := by
      refine go_run mm_295 1 (pc' := 24) (ls' := [some (.ref 140), some (.int v1), none, none, none, none, none]) (st' := [.int 2, .int (b2i (!(F_182 v1 0 15))), .ref 140]) (S' := w1.2) rfl ?_
      obtain ⟨w2, hw2, hr⟩ := ob_some hr
      refine go_cv mm_295 (h := 140) (As := [.int (b2i (!(F_182 v1 0 15))), .int 2]) (rest := []) (nl := 3) rfl rfl (show cvOK 295 24 86 183 2 3 11 = true by decide +kernel) rfl rfl rfl (S_183 hw2) (KP_V ?_)
      show Go XM (d + 8) 295 0 27 [some (.ref 140), some (.int v1), none, none, none, none, none] [.int (b2i w2.1)] w2.2 (RV (vI r.1) r.2)
      refine go_ifb mm_295 rfl (p1 := 30) (p2 := 32) rfl (fun (hc3 : w2.1 = true) => ?_) (fun (hc3 : w2.1 = false) => ?_)
      · rw [if_pos hc3] at hr
        refine go_run mm_295 1 (pc' := 31) (ls' := [some (.ref 140), some (.int v1), none, none, none, none, none]) (st' := [.int 0]) (S' := w2.2) rfl ?_
        cases hr
        exact go_ireturn mm_295 rfl rfl ⟨rfl, rfl, rfl⟩
      · rw [if_neg (bf hc3)] at hr
        refine go_run mm_295 5 (pc' := 39) (ls' := [some (.ref 140), some (.int v1), none, none, none, none, none]) (st' := [.int (-1), .ref 140]) (S' := (wI w2.2 140 40 1)) rfl ?_
        obtain ⟨w3, hw3, hr⟩ := ob_some hr
        refine go_cv mm_295 (h := 140) (As := [.int (-1)]) (rest := []) (nl := 5) rfl rfl (show cvOK 295 39 359 277 1 5 11 = true by decide +kernel) rfl rfl rfl (S_277 hw3) (KP_V ?_)
        show Go XM (d + 8) 295 0 42 [some (.ref 140), some (.int v1), none, none, none, none, none] [.long w3.1] w3.2 (RV (vI r.1) r.2)
        refine go_run mm_295 5 (pc' := 49) (ls' := [some (.ref 140), some (.int v1), some (.long w3.1), none, some (.int 0), some (.int 0), none]) (st' := []) (S' := w3.2) rfl ?_
        obtain ⟨z49, he49, hr⟩ := ob_some hr
        refine Go.le (ls' := [some (.ref 140), some (.int v1), some (.long w3.1), none, some (.int 0), some (.int 0), none]) ?_ (by repeat first | exact True.intro | refine And.intro rfl ?_)
        refine wh_go (P := fun a49 => Go XM (d + 8) 295 0 49 [some (.ref 140), some (.int v1), some (.long w3.1), none, some (.int a49.1), some (.int a49.2.1), none] [] a49.2.2 (RV (vI r.1) r.2)) (K := fun e49 => Go XM (d + 8) 295 0 194 [some (.ref 140), some (.int v1), some (.long w3.1), none, some (.int e49.1), some (.int e49.2.1), none] [] e49.2.2 (RV (vI r.1) r.2)) (fun a9 r9 h9 hL hR => LSm_295_49 h9 hL hR) _ _ _ he49 ?_
        generalize z49 = e49 at hr
        show Go XM (d + 8) 295 0 194 [some (.ref 140), some (.int v1), some (.long w3.1), none, some (.int e49.1), some (.int e49.2.1), none] [] e49.2.2 (RV (vI r.1) r.2)
        refine go_run mm_295 1 (pc' := 196) (ls' := [some (.ref 140), some (.int v1), some (.long w3.1), none, some (.int e49.1), some (.int e49.2.1), none]) (st' := [.int e49.1]) (S' := e49.2.2) rfl ?_
        cases hr
        exact go_ireturn mm_295 rfl rfl ⟨rfl, rfl, rfl⟩
    refine go_ifb mm_295 rfl (p1 := 22) (p2 := 18) rfl (fun (hc2 : (F_182 v1 0 15) = true) => ?_) (fun (hc2 : (F_182 v1 0 15) = false) => ?_)
    · refine go_run mm_295 1 (pc' := 23) (ls' := [some (.ref 140), some (.int v1), none, none, none, none, none]) (st' := [.int 0, .ref 140]) (S' := w1.2) rfl ?_
      have e : ((b2i (!(F_182 v1 0 15))) : Int32) = 0 := by simp [b2i, hc2]
      rw [e] at j23
      exact j23
    · refine go_run mm_295 2 (pc' := 23) (ls' := [some (.ref 140), some (.int v1), none, none, none, none, none]) (st' := [.int 1, .ref 140]) (S' := w1.2) rfl ?_
      have e : ((b2i (!(F_182 v1 0 15))) : Int32) = 1 := by simp [b2i, hc2]
      rw [e] at j23
      exact j23

noncomputable def F_296 (v1 : Int32) (S : ST) : Option (Int32 × ST) := ob (F_183 (decide ((S.1 140 40) = 0) || (!(F_182 v1 0 15))) 1 (wI S 140 0 0)) (fun w1 => if w1.1 = true then (some (0, w1.2)) else (ck (ibd v1 16) (some (w1.2.1 161 (Int32.toNatClampNeg v1), w1.2))))
set_option maxRecDepth 20000 in
theorem S_296 {d : Nat} {S : ST} {v1 : Int32} {r} (hr : F_296 v1 S = some r) : Cal XM (d + 1) 296 [.ref 140, .int v1] S (RV (vI r.1) r.2) := by
  unfold F_296 at hr
  refine cal_go 0 rfl ?_
  refine go_run mm_296 6 (pc' := 10) (ls' := [some (.ref 140), some (.int v1)]) (st' := [.int (S.1 140 40), .ref 140]) (S' := (wI S 140 0 0)) rfl ?_
  have j6 : Go XM (d + 1) 296 0 28 [some (.ref 140), some (.int v1)] [.int (b2i (decide ((S.1 140 40) = 0) || (!(F_182 v1 0 15)))), .ref 140] (wI S 140 0 0) (RV (vI r.1) r.2) := by
    refine go_run mm_296 1 (pc' := 29) (ls' := [some (.ref 140), some (.int v1)]) (st' := [.int 1, .int (b2i (decide ((S.1 140 40) = 0) || (!(F_182 v1 0 15)))), .ref 140]) (S' := (wI S 140 0 0)) rfl ?_
    obtain ⟨w1, hw1, hr⟩ := ob_some hr
    refine go_cv mm_296 (h := 140) (As := [.int (b2i (decide ((S.1 140 40) = 0) || (!(F_182 v1 0 15)))), .int 1]) (rest := []) (nl := 3) rfl rfl (show cvOK 296 29 86 183 2 3 11 = true by decide +kernel) rfl rfl rfl (S_183 hw1) (KP_V ?_)
    show Go XM (d + 1) 296 0 32 [some (.ref 140), some (.int v1)] [.int (b2i w1.1)] w1.2 (RV (vI r.1) r.2)
    refine go_ifb mm_296 rfl (p1 := 35) (p2 := 39) rfl (fun (hc4 : w1.1 = true) => ?_) (fun (hc4 : w1.1 = false) => ?_)
    · rw [if_pos hc4] at hr
      refine go_run mm_296 2 (pc' := 45) (ls' := [some (.ref 140), some (.int v1)]) (st' := [.int 0]) (S' := w1.2) rfl ?_
      cases hr
      exact go_ireturn mm_296 rfl rfl ⟨rfl, rfl, rfl⟩
    · rw [if_neg (bf hc4)] at hr
      refine go_run mm_296 3 (pc' := 44) (ls' := [some (.ref 140), some (.int v1)]) (st' := [.int v1, .ref 161]) (S' := w1.2) rfl ?_
      obtain ⟨hb5, hr⟩ := ck_some hr
      refine go_iaload mm_296 (q := (Int32.toNatClampNeg v1)) rfl rfl rfl (ibd_ok hb5) ?_
      show Go XM (d + 1) 296 0 45 [some (.ref 140), some (.int v1)] [.int (w1.2.1 161 (Int32.toNatClampNeg v1))] w1.2 (RV (vI r.1) r.2)
      cases hr
      exact go_ireturn mm_296 rfl rfl ⟨rfl, rfl, rfl⟩
  refine go_if0 mm_296 rfl (p1 := 23) (p2 := 13) rfl (fun (hc1 : (S.1 140 40) = 0) => ?_) (fun (hc1 : ¬ (S.1 140 40) = 0) => ?_)
  · refine go_run mm_296 2 (pc' := 28) (ls' := [some (.ref 140), some (.int v1)]) (st' := [.int 1, .ref 140]) (S' := (wI S 140 0 0)) rfl ?_
    have e : ((b2i (decide ((S.1 140 40) = 0) || (!(F_182 v1 0 15)))) : Int32) = 1 := by simp [b2i, hc1]
    rw [e] at j6
    exact j6
  · refine go_run mm_296 3 (pc' := 17) (ls' := [some (.ref 140), some (.int v1)]) (st' := [.int 15, .int 0, .int v1, .ref 140]) (S' := (wI S 140 0 0)) rfl ?_
    refine go_cs mm_296 (av := [.int v1, .int 0, .int 15]) (rest := [.ref 140]) (nl := 3) rfl (show csOK 296 17 148 182 3 3 = true by decide +kernel) rfl rfl rfl (S_182 rfl) (KP_V ?_)
    show Go XM (d + 1) 296 0 20 [some (.ref 140), some (.int v1)] [.int (b2i (F_182 v1 0 15)), .ref 140] (wI S 140 0 0) (RV (vI r.1) r.2)
    have j3 : Go XM (d + 1) 296 0 28 [some (.ref 140), some (.int v1)] [.int (b2i (!(F_182 v1 0 15))), .ref 140] (wI S 140 0 0) (RV (vI r.1) r.2) := by
      have e : ((b2i (decide ((S.1 140 40) = 0) || (!(F_182 v1 0 15)))) : Int32) = (b2i (!(F_182 v1 0 15))) := by simp [b2i, hc1]
      rw [e] at j6
      exact j6
    refine go_ifb mm_296 rfl (p1 := 27) (p2 := 23) rfl (fun (hc2 : (F_182 v1 0 15) = true) => ?_) (fun (hc2 : (F_182 v1 0 15) = false) => ?_)
    · refine go_run mm_296 1 (pc' := 28) (ls' := [some (.ref 140), some (.int v1)]) (st' := [.int 0, .ref 140]) (S' := (wI S 140 0 0)) rfl ?_
      have e : ((b2i (!(F_182 v1 0 15))) : Int32) = 0 := by simp [b2i, hc2]
      rw [e] at j3
      exact j3
    · refine go_run mm_296 2 (pc' := 28) (ls' := [some (.ref 140), some (.int v1)]) (st' := [.int 1, .ref 140]) (S' := (wI S 140 0 0)) rfl ?_
      have e : ((b2i (!(F_182 v1 0 15))) : Int32) = 1 := by simp [b2i, hc2]
      rw [e] at j3
      exact j3

noncomputable def Lm_297_2 (v1 : Int32) (a2 : Int32 × ST) : Option ((Int32 × ST) ⊕ (Int32 × ST)) := if a2.1 < 63 then (ck (ibd a2.1 63) (ck (ibd ((63 * v1) + a2.1) 693) (sbn ((wI a2.2 142 (Int32.toNatClampNeg ((63 * v1) + a2.1)) (a2.2.1 141 (Int32.toNatClampNeg a2.1)))) (fun s4 => some (.inl (a2.1 + 1, s4)))))) else (some (.inr (a2.1, a2.2)))
set_option maxRecDepth 20000 in
theorem LSm_297_2 {d : Nat} {R : RT} {v1 : Int32} {a2 : Int32 × ST} {r9} (hr : Lm_297_2 v1 a2 = some r9) (hL : ∀ a9, r9 = .inl a9 → (fun a2 => Go XM d 297 0 2 [some (.ref 140), some (.int v1), some (.int a2.1)] [] a2.2 R) a9) (hR : ∀ b9, r9 = .inr b9 → (fun e2 => Go XM d 297 0 31 [some (.ref 140), some (.int v1), some (.int e2.1)] [] e2.2 R) b9) : Go XM d 297 0 2 [some (.ref 140), some (.int v1), some (.int a2.1)] [] a2.2 R := by
  unfold Lm_297_2 at hr
  refine go_run mm_297 2 (pc' := 5) (ls' := [some (.ref 140), some (.int v1), some (.int a2.1)]) (st' := [.int 63, .int a2.1]) (S' := a2.2) rfl ?_
  refine go_if2 mm_297 rfl (p1 := 8) (p2 := 31) rfl (fun (hc1 : a2.1 < 63) => ?_) (fun (hc1 : ¬ a2.1 < 63) => ?_)
  · rw [if_pos hc1] at hr
    refine go_run mm_297 10 (pc' := 23) (ls' := [some (.ref 140), some (.int v1), some (.int a2.1)]) (st' := [.int a2.1, .ref 141, .int ((63 * v1) + a2.1), .ref 142]) (S' := a2.2) rfl ?_
    obtain ⟨hb2, hr⟩ := ck_some hr
    refine go_iaload mm_297 (q := (Int32.toNatClampNeg a2.1)) rfl rfl rfl (ibd_ok hb2) ?_
    show Go XM d 297 0 24 [some (.ref 140), some (.int v1), some (.int a2.1)] [.int (a2.2.1 141 (Int32.toNatClampNeg a2.1)), .int ((63 * v1) + a2.1), .ref 142] a2.2 R
    obtain ⟨hb3, hr⟩ := ck_some hr
    refine go_iastore mm_297 (q := (Int32.toNatClampNeg ((63 * v1) + a2.1))) rfl rfl rfl (ibd_ok hb3) ?_
    show Go XM d 297 0 25 [some (.ref 140), some (.int v1), some (.int a2.1)] [] (wI a2.2 142 (Int32.toNatClampNeg ((63 * v1) + a2.1)) (a2.2.1 141 (Int32.toNatClampNeg a2.1))) R
    obtain ⟨s4, es4, hr⟩ := sbn_some hr
    rw [← es4]
    refine go_run mm_297 2 (pc' := 2) (ls' := [some (.ref 140), some (.int v1), some (.int (a2.1 + 1))]) (st' := []) (S' := s4) rfl ?_
    cases hr
    have h9 := hL (a2.1 + 1, s4) rfl
    dsimp only at h9
    exact Go.le h9 (by repeat first | exact True.intro | refine And.intro rfl ?_)
  · rw [if_neg hc1] at hr
    cases hr
    have h9 := hR (a2.1, a2.2) rfl
    dsimp only [Sum.elim_inl] at h9
    exact Go.le h9 (by repeat first | exact True.intro | refine And.intro rfl ?_)
noncomputable def F_297 (v1 : Int32) (S : ST) : Option (Unit × ST) := ob (wh FU (Lm_297_2 v1) (0, S)) (fun e2 => some ((), e2.2))
set_option maxRecDepth 20000 in
theorem S_297 {d : Nat} {S : ST} {v1 : Int32} {r} (hr : F_297 v1 S = some r) : Cal XM d 297 [.ref 140, .int v1] S (RV (vU r.1) r.2) := by
  unfold F_297 at hr
  refine cal_go 1 rfl ?_
  refine go_run mm_297 2 (pc' := 2) (ls' := [some (.ref 140), some (.int v1), some (.int 0)]) (st' := []) (S' := S) rfl ?_
  obtain ⟨z2, he2, hr⟩ := ob_some hr
  refine Go.le (ls' := [some (.ref 140), some (.int v1), some (.int 0)]) ?_ (by repeat first | exact True.intro | refine And.intro rfl ?_)
  refine wh_go (P := fun a2 => Go XM d 297 0 2 [some (.ref 140), some (.int v1), some (.int a2.1)] [] a2.2 (RV (vU r.1) r.2)) (K := fun e2 => Go XM d 297 0 31 [some (.ref 140), some (.int v1), some (.int e2.1)] [] e2.2 (RV (vU r.1) r.2)) (fun a9 r9 h9 hL hR => LSm_297_2 h9 hL hR) _ _ _ he2 ?_
  generalize z2 = e2 at hr
  show Go XM d 297 0 31 [some (.ref 140), some (.int v1), some (.int e2.1)] [] e2.2 (RV (vU r.1) r.2)
  cases hr
  exact go_vreturn mm_297 rfl rfl ⟨rfl, rfl, rfl⟩

noncomputable def Lm_298_2 (v1 : Int32) (a2 : Int32 × ST) : Option ((Int32 × ST) ⊕ (Int32 × ST)) := if a2.1 < 63 then (ck (ibd ((63 * v1) + a2.1) 693) (ck (ibd a2.1 63) (sbn ((wI a2.2 141 (Int32.toNatClampNeg a2.1) (a2.2.1 142 (Int32.toNatClampNeg ((63 * v1) + a2.1))))) (fun s4 => some (.inl (a2.1 + 1, s4)))))) else (some (.inr (a2.1, a2.2)))
set_option maxRecDepth 20000 in
theorem LSm_298_2 {d : Nat} {R : RT} {v1 : Int32} {a2 : Int32 × ST} {r9} (hr : Lm_298_2 v1 a2 = some r9) (hL : ∀ a9, r9 = .inl a9 → (fun a2 => Go XM (d + 6) 298 0 2 [some (.ref 140), some (.int v1), some (.int a2.1)] [] a2.2 R) a9) (hR : ∀ b9, r9 = .inr b9 → (fun e2 => Go XM (d + 6) 298 0 31 [some (.ref 140), some (.int v1), some (.int e2.1)] [] e2.2 R) b9) : Go XM (d + 6) 298 0 2 [some (.ref 140), some (.int v1), some (.int a2.1)] [] a2.2 R := by
  unfold Lm_298_2 at hr
  refine go_run mm_298 2 (pc' := 5) (ls' := [some (.ref 140), some (.int v1), some (.int a2.1)]) (st' := [.int 63, .int a2.1]) (S' := a2.2) rfl ?_
  refine go_if2 mm_298 rfl (p1 := 8) (p2 := 31) rfl (fun (hc1 : a2.1 < 63) => ?_) (fun (hc1 : ¬ a2.1 < 63) => ?_)
  · rw [if_pos hc1] at hr
    refine go_run mm_298 10 (pc' := 23) (ls' := [some (.ref 140), some (.int v1), some (.int a2.1)]) (st' := [.int ((63 * v1) + a2.1), .ref 142, .int a2.1, .ref 141]) (S' := a2.2) rfl ?_
    obtain ⟨hb2, hr⟩ := ck_some hr
    refine go_iaload mm_298 (q := (Int32.toNatClampNeg ((63 * v1) + a2.1))) rfl rfl rfl (ibd_ok hb2) ?_
    show Go XM (d + 6) 298 0 24 [some (.ref 140), some (.int v1), some (.int a2.1)] [.int (a2.2.1 142 (Int32.toNatClampNeg ((63 * v1) + a2.1))), .int a2.1, .ref 141] a2.2 R
    obtain ⟨hb3, hr⟩ := ck_some hr
    refine go_iastore mm_298 (q := (Int32.toNatClampNeg a2.1)) rfl rfl rfl (ibd_ok hb3) ?_
    show Go XM (d + 6) 298 0 25 [some (.ref 140), some (.int v1), some (.int a2.1)] [] (wI a2.2 141 (Int32.toNatClampNeg a2.1) (a2.2.1 142 (Int32.toNatClampNeg ((63 * v1) + a2.1)))) R
    obtain ⟨s4, es4, hr⟩ := sbn_some hr
    rw [← es4]
    refine go_run mm_298 2 (pc' := 2) (ls' := [some (.ref 140), some (.int v1), some (.int (a2.1 + 1))]) (st' := []) (S' := s4) rfl ?_
    cases hr
    have h9 := hL (a2.1 + 1, s4) rfl
    dsimp only at h9
    exact Go.le h9 (by repeat first | exact True.intro | refine And.intro rfl ?_)
  · rw [if_neg hc1] at hr
    cases hr
    have h9 := hR (a2.1, a2.2) rfl
    dsimp only [Sum.elim_inl] at h9
    exact Go.le h9 (by repeat first | exact True.intro | refine And.intro rfl ?_)
noncomputable def F_298 (v1 : Int32) (S : ST) : Option (Unit × ST) := ob (wh FU (Lm_298_2 v1) (0, S)) (fun e2 => ob (F_214 (wI e2.2 140 27 0)) (fun w1 => some ((), w1.2)))
set_option maxRecDepth 20000 in
theorem S_298 {d : Nat} {S : ST} {v1 : Int32} {r} (hr : F_298 v1 S = some r) : Cal XM (d + 6) 298 [.ref 140, .int v1] S (RV (vU r.1) r.2) := by
  unfold F_298 at hr
  refine cal_go 1 rfl ?_
  refine go_run mm_298 2 (pc' := 2) (ls' := [some (.ref 140), some (.int v1), some (.int 0)]) (st' := []) (S' := S) rfl ?_
  obtain ⟨z2, he2, hr⟩ := ob_some hr
  refine Go.le (ls' := [some (.ref 140), some (.int v1), some (.int 0)]) ?_ (by repeat first | exact True.intro | refine And.intro rfl ?_)
  refine wh_go (P := fun a2 => Go XM (d + 6) 298 0 2 [some (.ref 140), some (.int v1), some (.int a2.1)] [] a2.2 (RV (vU r.1) r.2)) (K := fun e2 => Go XM (d + 6) 298 0 31 [some (.ref 140), some (.int v1), some (.int e2.1)] [] e2.2 (RV (vU r.1) r.2)) (fun a9 r9 h9 hL hR => LSm_298_2 h9 hL hR) _ _ _ he2 ?_
  generalize z2 = e2 at hr
  show Go XM (d + 6) 298 0 31 [some (.ref 140), some (.int v1), some (.int e2.1)] [] e2.2 (RV (vU r.1) r.2)
  refine go_run mm_298 4 (pc' := 37) (ls' := [some (.ref 140), some (.int v1), some (.int e2.1)]) (st' := [.ref 140]) (S' := (wI e2.2 140 27 0)) rfl ?_
  obtain ⟨w1, hw1, hr⟩ := ob_some hr
  refine go_cv mm_298 (h := 140) (As := []) (rest := []) (nl := 4) rfl rfl (show cvOK 298 37 198 214 0 4 11 = true by decide +kernel) rfl rfl rfl (S_214 hw1) (KP_V ?_)
  show Go XM (d + 6) 298 0 40 [some (.ref 140), some (.int v1), some (.int e2.1)] [] w1.2 (RV (vU r.1) r.2)
  cases hr
  exact go_vreturn mm_298 rfl rfl ⟨rfl, rfl, rfl⟩

noncomputable def Lm_299_12 (a12 : Int32 × ST) : Option ((Int32 × ST) ⊕ (Int32 × ST)) := if a12.1 < 504 then (ck (ibd (a12.1 + 63) 693) (ck (ibd a12.1 693) (sbn ((wI a12.2 142 (Int32.toNatClampNeg a12.1) (a12.2.1 142 (Int32.toNatClampNeg (a12.1 + 63))))) (fun s5 => some (.inl (a12.1 + 1, s5)))))) else (some (.inr (a12.1, a12.2)))
set_option maxRecDepth 20000 in
theorem LSm_299_12 {d : Nat} {R : RT} {a12 : Int32 × ST} {r9} (hr : Lm_299_12 a12 = some r9) (hL : ∀ a9, r9 = .inl a9 → (fun a12 => Go XM (d + 1) 299 0 12 [some (.ref 140), some (.int a12.1)] [] a12.2 R) a9) (hR : ∀ b9, r9 = .inr b9 → (fun e12 => Go XM (d + 1) 299 0 40 [some (.ref 140), some (.int e12.1)] [] e12.2 R) b9) : Go XM (d + 1) 299 0 12 [some (.ref 140), some (.int a12.1)] [] a12.2 R := by
  unfold Lm_299_12 at hr
  refine go_run mm_299 2 (pc' := 16) (ls' := [some (.ref 140), some (.int a12.1)]) (st' := [.int 504, .int a12.1]) (S' := a12.2) rfl ?_
  refine go_if2 mm_299 rfl (p1 := 19) (p2 := 40) rfl (fun (hc2 : a12.1 < 504) => ?_) (fun (hc2 : ¬ a12.1 < 504) => ?_)
  · rw [if_pos hc2] at hr
    refine go_run mm_299 8 (pc' := 32) (ls' := [some (.ref 140), some (.int a12.1)]) (st' := [.int (a12.1 + 63), .ref 142, .int a12.1, .ref 142]) (S' := a12.2) rfl ?_
    obtain ⟨hb3, hr⟩ := ck_some hr
    refine go_iaload mm_299 (q := (Int32.toNatClampNeg (a12.1 + 63))) rfl rfl rfl (ibd_ok hb3) ?_
    show Go XM (d + 1) 299 0 33 [some (.ref 140), some (.int a12.1)] [.int (a12.2.1 142 (Int32.toNatClampNeg (a12.1 + 63))), .int a12.1, .ref 142] a12.2 R
    obtain ⟨hb4, hr⟩ := ck_some hr
    refine go_iastore mm_299 (q := (Int32.toNatClampNeg a12.1)) rfl rfl rfl (ibd_ok hb4) ?_
    show Go XM (d + 1) 299 0 34 [some (.ref 140), some (.int a12.1)] [] (wI a12.2 142 (Int32.toNatClampNeg a12.1) (a12.2.1 142 (Int32.toNatClampNeg (a12.1 + 63)))) R
    obtain ⟨s5, es5, hr⟩ := sbn_some hr
    rw [← es5]
    refine go_run mm_299 2 (pc' := 12) (ls' := [some (.ref 140), some (.int (a12.1 + 1))]) (st' := []) (S' := s5) rfl ?_
    cases hr
    have h9 := hL (a12.1 + 1, s5) rfl
    dsimp only at h9
    exact Go.le h9 (by repeat first | exact True.intro | refine And.intro rfl ?_)
  · rw [if_neg hc2] at hr
    cases hr
    have h9 := hR (a12.1, a12.2) rfl
    dsimp only [Sum.elim_inl] at h9
    exact Go.le h9 (by repeat first | exact True.intro | refine And.intro rfl ?_)
noncomputable def F_299 (S : ST) : Option (Unit × ST) := if (S.1 140 4) = 8 then (ob (wh FU (Lm_299_12) (63, S)) (fun e12 => ob (F_297 (1 + ((e12.2.1 140 4) - 1)) (wI e12.2 140 4 ((e12.2.1 140 4) - 1))) (fun w1 => some ((), (wI w1.2 140 4 ((w1.2.1 140 4) + 1)))))) else (ob (F_297 (1 + (S.1 140 4)) S) (fun w2 => some ((), (wI w2.2 140 4 ((w2.2.1 140 4) + 1)))))
set_option maxRecDepth 20000 in
theorem S_299 {d : Nat} {S : ST} {r} (hr : F_299 S = some r) : Cal XM (d + 1) 299 [.ref 140] S (RV (vU r.1) r.2) := by
  unfold F_299 at hr
  refine cal_go 1 rfl ?_
  refine go_run mm_299 3 (pc' := 6) (ls' := [some (.ref 140), none]) (st' := [.int 8, .int (S.1 140 4)]) (S' := S) rfl ?_
  refine go_if2 mm_299 rfl (p1 := 9) (p2 := 50) rfl (fun (hc1 : (S.1 140 4) = 8) => ?_) (fun (hc1 : ¬ (S.1 140 4) = 8) => ?_)
  · rw [if_pos hc1] at hr
    refine go_run mm_299 2 (pc' := 12) (ls' := [some (.ref 140), some (.int 63)]) (st' := []) (S' := S) rfl ?_
    obtain ⟨z12, he12, hr⟩ := ob_some hr
    refine Go.le (ls' := [some (.ref 140), some (.int 63)]) ?_ (by repeat first | exact True.intro | refine And.intro rfl ?_)
    refine wh_go (P := fun a12 => Go XM (d + 1) 299 0 12 [some (.ref 140), some (.int a12.1)] [] a12.2 (RV (vU r.1) r.2)) (K := fun e12 => Go XM (d + 1) 299 0 40 [some (.ref 140), some (.int e12.1)] [] e12.2 (RV (vU r.1) r.2)) (fun a9 r9 h9 hL hR => LSm_299_12 h9 hL hR) _ _ _ he12 ?_
    generalize z12 = e12 at hr
    show Go XM (d + 1) 299 0 40 [some (.ref 140), some (.int e12.1)] [] e12.2 (RV (vU r.1) r.2)
    refine go_run mm_299 11 (pc' := 57) (ls' := [some (.ref 140), some (.int e12.1)]) (st' := [.int (1 + ((e12.2.1 140 4) - 1)), .ref 140]) (S' := (wI e12.2 140 4 ((e12.2.1 140 4) - 1))) rfl ?_
    obtain ⟨w1, hw1, hr⟩ := ob_some hr
    refine go_cv mm_299 (h := 140) (As := [.int (1 + ((e12.2.1 140 4) - 1))]) (rest := []) (nl := 3) rfl rfl (show cvOK 299 57 382 297 1 3 11 = true by decide +kernel) rfl rfl rfl (S_297 hw1) (KP_V ?_)
    show Go XM (d + 1) 299 0 60 [some (.ref 140), some (.int e12.1)] [] w1.2 (RV (vU r.1) r.2)
    refine go_run mm_299 6 (pc' := 70) (ls' := [some (.ref 140), some (.int e12.1)]) (st' := []) (S' := (wI w1.2 140 4 ((w1.2.1 140 4) + 1))) rfl ?_
    cases hr
    exact go_vreturn mm_299 rfl rfl ⟨rfl, rfl, rfl⟩
  · rw [if_neg hc1] at hr
    refine go_run mm_299 5 (pc' := 57) (ls' := [some (.ref 140), none]) (st' := [.int (1 + (S.1 140 4)), .ref 140]) (S' := S) rfl ?_
    obtain ⟨w2, hw2, hr⟩ := ob_some hr
    refine go_cv mm_299 (h := 140) (As := [.int (1 + (S.1 140 4))]) (rest := []) (nl := 3) rfl rfl (show cvOK 299 57 382 297 1 3 11 = true by decide +kernel) rfl rfl rfl (S_297 hw2) (KP_V ?_)
    show Go XM (d + 1) 299 0 60 [some (.ref 140), none] [] w2.2 (RV (vU r.1) r.2)
    refine go_run mm_299 6 (pc' := 70) (ls' := [some (.ref 140), none]) (st' := []) (S' := (wI w2.2 140 4 ((w2.2.1 140 4) + 1))) rfl ?_
    cases hr
    exact go_vreturn mm_299 rfl rfl ⟨rfl, rfl, rfl⟩

noncomputable def F_300 (v1 : Int32) (v2 : Int32) (S : ST) : Option (Int32 × ST) := ob (F_226 v1 S) (fun w1 => if w1.1 = true then (some (0, w1.2)) else (ob (F_183 (!(F_182 v2 0 99)) 3 w1.2) (fun w2 => if w2.1 = true then (some (0, w2.2)) else (ob (F_183 (decide ((w2.2.1 141 1) = 6)) 1 w2.2) (fun w3 => if w3.1 = true then (some (0, w3.2)) else (ob (F_299 w3.2) (fun w4 => ck (ibd v1 64) (ck (ibd (27 + (3 * (w4.2.1 141 1))) 63) (sbn ((wI w4.2 141 (Int32.toNatClampNeg (27 + (3 * (w4.2.1 141 1)))) (w4.2.1 147 (Int32.toNatClampNeg v1)))) (fun s8 => ck (ibd v1 64) (ck (ibd ((27 + (3 * (w4.2.1 141 1))) + 1) 63) (sbn ((wI s8 141 (Int32.toNatClampNeg ((27 + (3 * (w4.2.1 141 1))) + 1)) (s8.1 148 (Int32.toNatClampNeg v1)))) (fun s11 => ck (ibd ((27 + (3 * (w4.2.1 141 1))) + 2) 63) (sbn ((wI s11 141 (Int32.toNatClampNeg ((27 + (3 * (w4.2.1 141 1))) + 2)) v2)) (fun s13 => some (((s13.1 141 1) + 1) - 1, (wI s13 141 1 ((s13.1 141 1) + 1))))))))))))))))))
set_option maxRecDepth 20000 in
theorem S_300 {d : Nat} {S : ST} {v1 : Int32} {v2 : Int32} {r} (hr : F_300 v1 v2 S = some r) : Cal XM (d + 3) 300 [.ref 140, .int v1, .int v2] S (RV (vI r.1) r.2) := by
  unfold F_300 at hr
  refine cal_go 1 rfl ?_
  refine go_run mm_300 2 (pc' := 2) (ls' := [some (.ref 140), some (.int v1), some (.int v2), none]) (st' := [.int v1, .ref 140]) (S' := S) rfl ?_
  obtain ⟨w1, hw1, hr⟩ := ob_some hr
  refine go_cv mm_300 (h := 140) (As := [.int v1]) (rest := []) (nl := 2) rfl rfl (show cvOK 300 2 254 226 1 2 11 = true by decide +kernel) rfl rfl rfl (S_226 hw1) (KP_V ?_)
  show Go XM (d + 3) 300 0 5 [some (.ref 140), some (.int v1), some (.int v2), none] [.int (b2i w1.1)] w1.2 (RV (vI r.1) r.2)
  refine go_ifb mm_300 rfl (p1 := 55) (p2 := 8) rfl (fun (hc1 : w1.1 = true) => ?_) (fun (hc1 : w1.1 = false) => ?_)
  · rw [if_pos hc1] at hr
    refine go_run mm_300 1 (pc' := 56) (ls' := [some (.ref 140), some (.int v1), some (.int v2), none]) (st' := [.int 0]) (S' := w1.2) rfl ?_
    cases hr
    exact go_ireturn mm_300 rfl rfl ⟨rfl, rfl, rfl⟩
  · rw [if_neg (bf hc1)] at hr
    refine go_run mm_300 4 (pc' := 13) (ls' := [some (.ref 140), some (.int v1), some (.int v2), none]) (st' := [.int 99, .int 0, .int v2, .ref 140]) (S' := w1.2) rfl ?_
    refine go_cs mm_300 (av := [.int v2, .int 0, .int 99]) (rest := [.ref 140]) (nl := 3) rfl (show csOK 300 13 148 182 3 3 = true by decide +kernel) rfl rfl rfl (S_182 rfl) (KP_V ?_)
    show Go XM (d + 3) 300 0 16 [some (.ref 140), some (.int v1), some (.int v2), none] [.int (b2i (F_182 v2 0 99)), .ref 140] w1.2 (RV (vI r.1) r.2)
    have j15 : Go XM (d + 3) 300 0 24 [some (.ref 140), some (.int v1), some (.int v2), none] [.int (b2i (!(F_182 v2 0 99))), .ref 140] w1.2 (RV (vI r.1) r.2) := by
      refine go_run mm_300 1 (pc' := 25) (ls' := [some (.ref 140), some (.int v1), some (.int v2), none]) (st' := [.int 3, .int (b2i (!(F_182 v2 0 99))), .ref 140]) (S' := w1.2) rfl ?_
      obtain ⟨w2, hw2, hr⟩ := ob_some hr
      refine go_cv mm_300 (h := 140) (As := [.int (b2i (!(F_182 v2 0 99))), .int 3]) (rest := []) (nl := 3) rfl rfl (show cvOK 300 25 86 183 2 3 11 = true by decide +kernel) rfl rfl rfl (S_183 hw2) (KP_V ?_)
      show Go XM (d + 3) 300 0 28 [some (.ref 140), some (.int v1), some (.int v2), none] [.int (b2i w2.1)] w2.2 (RV (vI r.1) r.2)
      refine go_ifb mm_300 rfl (p1 := 55) (p2 := 31) rfl (fun (hc3 : w2.1 = true) => ?_) (fun (hc3 : w2.1 = false) => ?_)
      · rw [if_pos hc3] at hr
        refine go_run mm_300 1 (pc' := 56) (ls' := [some (.ref 140), some (.int v1), some (.int v2), none]) (st' := [.int 0]) (S' := w2.2) rfl ?_
        cases hr
        exact go_ireturn mm_300 rfl rfl ⟨rfl, rfl, rfl⟩
      · rw [if_neg (bf hc3)] at hr
        refine go_run mm_300 4 (pc' := 37) (ls' := [some (.ref 140), some (.int v1), some (.int v2), none]) (st' := [.int 1, .ref 141, .ref 140]) (S' := w2.2) rfl ?_
        refine go_iaload mm_300 (q := 1) rfl rfl rfl (inB_lit rfl) ?_
        show Go XM (d + 3) 300 0 38 [some (.ref 140), some (.int v1), some (.int v2), none] [.int (w2.2.1 141 1), .ref 140] w2.2 (RV (vI r.1) r.2)
        refine go_run mm_300 1 (pc' := 40) (ls' := [some (.ref 140), some (.int v1), some (.int v2), none]) (st' := [.int 6, .int (w2.2.1 141 1), .ref 140]) (S' := w2.2) rfl ?_
        have j14 : Go XM (d + 3) 300 0 48 [some (.ref 140), some (.int v1), some (.int v2), none] [.int (b2i (decide ((w2.2.1 141 1) = 6))), .ref 140] w2.2 (RV (vI r.1) r.2) := by
          refine go_run mm_300 1 (pc' := 49) (ls' := [some (.ref 140), some (.int v1), some (.int v2), none]) (st' := [.int 1, .int (b2i (decide ((w2.2.1 141 1) = 6))), .ref 140]) (S' := w2.2) rfl ?_
          obtain ⟨w3, hw3, hr⟩ := ob_some hr
          refine go_cv mm_300 (h := 140) (As := [.int (b2i (decide ((w2.2.1 141 1) = 6))), .int 1]) (rest := []) (nl := 3) rfl rfl (show cvOK 300 49 86 183 2 3 11 = true by decide +kernel) rfl rfl rfl (S_183 hw3) (KP_V ?_)
          show Go XM (d + 3) 300 0 52 [some (.ref 140), some (.int v1), some (.int v2), none] [.int (b2i w3.1)] w3.2 (RV (vI r.1) r.2)
          refine go_ifb mm_300 rfl (p1 := 55) (p2 := 57) rfl (fun (hc5 : w3.1 = true) => ?_) (fun (hc5 : w3.1 = false) => ?_)
          · rw [if_pos hc5] at hr
            refine go_run mm_300 1 (pc' := 56) (ls' := [some (.ref 140), some (.int v1), some (.int v2), none]) (st' := [.int 0]) (S' := w3.2) rfl ?_
            cases hr
            exact go_ireturn mm_300 rfl rfl ⟨rfl, rfl, rfl⟩
          · rw [if_neg (bf hc5)] at hr
            refine go_run mm_300 1 (pc' := 58) (ls' := [some (.ref 140), some (.int v1), some (.int v2), none]) (st' := [.ref 140]) (S' := w3.2) rfl ?_
            obtain ⟨w4, hw4, hr⟩ := ob_some hr
            refine go_cv mm_300 (h := 140) (As := []) (rest := []) (nl := 2) rfl rfl (show cvOK 300 58 385 299 0 2 11 = true by decide +kernel) rfl rfl rfl (S_299 hw4) (KP_V ?_)
            show Go XM (d + 3) 300 0 61 [some (.ref 140), some (.int v1), some (.int v2), none] [] w4.2 (RV (vI r.1) r.2)
            refine go_run mm_300 5 (pc' := 69) (ls' := [some (.ref 140), some (.int v1), some (.int v2), none]) (st' := [.int 1, .ref 141, .int 3, .int 27]) (S' := w4.2) rfl ?_
            refine go_iaload mm_300 (q := 1) rfl rfl rfl (inB_lit rfl) ?_
            show Go XM (d + 3) 300 0 70 [some (.ref 140), some (.int v1), some (.int v2), none] [.int (w4.2.1 141 1), .int 3, .int 27] w4.2 (RV (vI r.1) r.2)
            refine go_run mm_300 9 (pc' := 83) (ls' := [some (.ref 140), some (.int v1), some (.int v2), some (.int (27 + (3 * (w4.2.1 141 1))))]) (st' := [.int v1, .ref 147, .int (27 + (3 * (w4.2.1 141 1))), .ref 141]) (S' := w4.2) rfl ?_
            obtain ⟨hb6, hr⟩ := ck_some hr
            refine go_iaload mm_300 (q := (Int32.toNatClampNeg v1)) rfl rfl rfl (ibd_ok hb6) ?_
            show Go XM (d + 3) 300 0 84 [some (.ref 140), some (.int v1), some (.int v2), some (.int (27 + (3 * (w4.2.1 141 1))))] [.int (w4.2.1 147 (Int32.toNatClampNeg v1)), .int (27 + (3 * (w4.2.1 141 1))), .ref 141] w4.2 (RV (vI r.1) r.2)
            obtain ⟨hb7, hr⟩ := ck_some hr
            refine go_iastore mm_300 (q := (Int32.toNatClampNeg (27 + (3 * (w4.2.1 141 1))))) rfl rfl rfl (ibd_ok hb7) ?_
            show Go XM (d + 3) 300 0 85 [some (.ref 140), some (.int v1), some (.int v2), some (.int (27 + (3 * (w4.2.1 141 1))))] [] (wI w4.2 141 (Int32.toNatClampNeg (27 + (3 * (w4.2.1 141 1)))) (w4.2.1 147 (Int32.toNatClampNeg v1))) (RV (vI r.1) r.2)
            obtain ⟨s8, es8, hr⟩ := sbn_some hr
            rw [← es8]
            refine go_run mm_300 8 (pc' := 97) (ls' := [some (.ref 140), some (.int v1), some (.int v2), some (.int (27 + (3 * (w4.2.1 141 1))))]) (st' := [.int v1, .ref 148, .int ((27 + (3 * (w4.2.1 141 1))) + 1), .ref 141]) (S' := s8) rfl ?_
            obtain ⟨hb9, hr⟩ := ck_some hr
            refine go_iaload mm_300 (q := (Int32.toNatClampNeg v1)) rfl rfl rfl (ibd_ok hb9) ?_
            show Go XM (d + 3) 300 0 98 [some (.ref 140), some (.int v1), some (.int v2), some (.int (27 + (3 * (w4.2.1 141 1))))] [.int (s8.1 148 (Int32.toNatClampNeg v1)), .int ((27 + (3 * (w4.2.1 141 1))) + 1), .ref 141] s8 (RV (vI r.1) r.2)
            obtain ⟨hb10, hr⟩ := ck_some hr
            refine go_iastore mm_300 (q := (Int32.toNatClampNeg ((27 + (3 * (w4.2.1 141 1))) + 1))) rfl rfl rfl (ibd_ok hb10) ?_
            show Go XM (d + 3) 300 0 99 [some (.ref 140), some (.int v1), some (.int v2), some (.int (27 + (3 * (w4.2.1 141 1))))] [] (wI s8 141 (Int32.toNatClampNeg ((27 + (3 * (w4.2.1 141 1))) + 1)) (s8.1 148 (Int32.toNatClampNeg v1))) (RV (vI r.1) r.2)
            obtain ⟨s11, es11, hr⟩ := sbn_some hr
            rw [← es11]
            refine go_run mm_300 6 (pc' := 107) (ls' := [some (.ref 140), some (.int v1), some (.int v2), some (.int (27 + (3 * (w4.2.1 141 1))))]) (st' := [.int v2, .int ((27 + (3 * (w4.2.1 141 1))) + 2), .ref 141]) (S' := s11) rfl ?_
            obtain ⟨hb12, hr⟩ := ck_some hr
            refine go_iastore mm_300 (q := (Int32.toNatClampNeg ((27 + (3 * (w4.2.1 141 1))) + 2))) rfl rfl rfl (ibd_ok hb12) ?_
            show Go XM (d + 3) 300 0 108 [some (.ref 140), some (.int v1), some (.int v2), some (.int (27 + (3 * (w4.2.1 141 1))))] [] (wI s11 141 (Int32.toNatClampNeg ((27 + (3 * (w4.2.1 141 1))) + 2)) v2) (RV (vI r.1) r.2)
            obtain ⟨s13, es13, hr⟩ := sbn_some hr
            rw [← es13]
            refine go_run mm_300 4 (pc' := 114) (ls' := [some (.ref 140), some (.int v1), some (.int v2), some (.int (27 + (3 * (w4.2.1 141 1))))]) (st' := [.int 1, .ref 141, .int 1, .ref 141]) (S' := s13) rfl ?_
            refine go_iaload mm_300 (q := 1) rfl rfl rfl (inB_lit rfl) ?_
            show Go XM (d + 3) 300 0 115 [some (.ref 140), some (.int v1), some (.int v2), some (.int (27 + (3 * (w4.2.1 141 1))))] [.int (s13.1 141 1), .int 1, .ref 141] s13 (RV (vI r.1) r.2)
            refine go_run mm_300 2 (pc' := 117) (ls' := [some (.ref 140), some (.int v1), some (.int v2), some (.int (27 + (3 * (w4.2.1 141 1))))]) (st' := [.int ((s13.1 141 1) + 1), .int 1, .ref 141]) (S' := s13) rfl ?_
            refine go_iastore mm_300 (q := 1) rfl rfl rfl (inB_lit rfl) ?_
            show Go XM (d + 3) 300 0 118 [some (.ref 140), some (.int v1), some (.int v2), some (.int (27 + (3 * (w4.2.1 141 1))))] [] (wI s13 141 1 ((s13.1 141 1) + 1)) (RV (vI r.1) r.2)
            refine go_run mm_300 3 (pc' := 123) (ls' := [some (.ref 140), some (.int v1), some (.int v2), some (.int (27 + (3 * (w4.2.1 141 1))))]) (st' := [.int 1, .ref 141]) (S' := (wI s13 141 1 ((s13.1 141 1) + 1))) rfl ?_
            refine go_iaload mm_300 (q := 1) rfl rfl rfl (inB_lit rfl) ?_
            show Go XM (d + 3) 300 0 124 [some (.ref 140), some (.int v1), some (.int v2), some (.int (27 + (3 * (w4.2.1 141 1))))] [.int ((s13.1 141 1) + 1)] (wI s13 141 1 ((s13.1 141 1) + 1)) (RV (vI r.1) r.2)
            refine go_run mm_300 2 (pc' := 126) (ls' := [some (.ref 140), some (.int v1), some (.int v2), some (.int (27 + (3 * (w4.2.1 141 1))))]) (st' := [.int (((s13.1 141 1) + 1) - 1)]) (S' := (wI s13 141 1 ((s13.1 141 1) + 1))) rfl ?_
            cases hr
            exact go_ireturn mm_300 rfl rfl ⟨rfl, rfl, rfl⟩
        refine go_if2 mm_300 rfl (p1 := 43) (p2 := 47) rfl (fun (hc4 : (w2.2.1 141 1) = 6) => ?_) (fun (hc4 : ¬ (w2.2.1 141 1) = 6) => ?_)
        · refine go_run mm_300 2 (pc' := 48) (ls' := [some (.ref 140), some (.int v1), some (.int v2), none]) (st' := [.int 1, .ref 140]) (S' := w2.2) rfl ?_
          have e : ((b2i (decide ((w2.2.1 141 1) = 6))) : Int32) = 1 := by simp [b2i, hc4]
          rw [e] at j14
          exact j14
        · refine go_run mm_300 1 (pc' := 48) (ls' := [some (.ref 140), some (.int v1), some (.int v2), none]) (st' := [.int 0, .ref 140]) (S' := w2.2) rfl ?_
          have e : ((b2i (decide ((w2.2.1 141 1) = 6))) : Int32) = 0 := by simp [b2i, hc4]
          rw [e] at j14
          exact j14
    refine go_ifb mm_300 rfl (p1 := 23) (p2 := 19) rfl (fun (hc2 : (F_182 v2 0 99) = true) => ?_) (fun (hc2 : (F_182 v2 0 99) = false) => ?_)
    · refine go_run mm_300 1 (pc' := 24) (ls' := [some (.ref 140), some (.int v1), some (.int v2), none]) (st' := [.int 0, .ref 140]) (S' := w1.2) rfl ?_
      have e : ((b2i (!(F_182 v2 0 99))) : Int32) = 0 := by simp [b2i, hc2]
      rw [e] at j15
      exact j15
    · refine go_run mm_300 2 (pc' := 24) (ls' := [some (.ref 140), some (.int v1), some (.int v2), none]) (st' := [.int 1, .ref 140]) (S' := w1.2) rfl ?_
      have e : ((b2i (!(F_182 v2 0 99))) : Int32) = 1 := by simp [b2i, hc2]
      rw [e] at j15
      exact j15

noncomputable def Lm_301_31 (v1 : Int32) (a31 : Int32 × ST) : Option ((Int32 × ST) ⊕ (Int32 × ST)) := if a31.1 < (27 + (3 * (a31.2.1 141 1))) then (ck (ibd (a31.1 + 3) 63) (ck (ibd a31.1 63) (sbn ((wI a31.2 141 (Int32.toNatClampNeg a31.1) (a31.2.1 141 (Int32.toNatClampNeg (a31.1 + 3))))) (fun s5 => some (.inl (a31.1 + 1, s5)))))) else (some (.inr (a31.1, a31.2)))
set_option maxRecDepth 20000 in
theorem LSm_301_31 {d : Nat} {R : RT} {v1 : Int32} {a31 : Int32 × ST} {r9} (hr : Lm_301_31 v1 a31 = some r9) (hL : ∀ a9, r9 = .inl a9 → (fun a31 => Go XM (d + 3) 301 0 31 [some (.ref 140), some (.int v1), some (.int a31.1)] [] a31.2 R) a9) (hR : ∀ b9, r9 = .inr b9 → (fun e31 => Go XM (d + 3) 301 0 66 [some (.ref 140), some (.int v1), some (.int e31.1)] [] e31.2 R) b9) : Go XM (d + 3) 301 0 31 [some (.ref 140), some (.int v1), some (.int a31.1)] [] a31.2 R := by
  unfold Lm_301_31 at hr
  refine go_run mm_301 6 (pc' := 40) (ls' := [some (.ref 140), some (.int v1), some (.int a31.1)]) (st' := [.int 1, .ref 141, .int 3, .int 27, .int a31.1]) (S' := a31.2) rfl ?_
  refine go_iaload mm_301 (q := 1) rfl rfl rfl (inB_lit rfl) ?_
  show Go XM (d + 3) 301 0 41 [some (.ref 140), some (.int v1), some (.int a31.1)] [.int (a31.2.1 141 1), .int 3, .int 27, .int a31.1] a31.2 R
  refine go_run mm_301 2 (pc' := 43) (ls' := [some (.ref 140), some (.int v1), some (.int a31.1)]) (st' := [.int (27 + (3 * (a31.2.1 141 1))), .int a31.1]) (S' := a31.2) rfl ?_
  refine go_if2 mm_301 rfl (p1 := 46) (p2 := 66) rfl (fun (hc2 : a31.1 < (27 + (3 * (a31.2.1 141 1)))) => ?_) (fun (hc2 : ¬ a31.1 < (27 + (3 * (a31.2.1 141 1)))) => ?_)
  · rw [if_pos hc2] at hr
    refine go_run mm_301 8 (pc' := 58) (ls' := [some (.ref 140), some (.int v1), some (.int a31.1)]) (st' := [.int (a31.1 + 3), .ref 141, .int a31.1, .ref 141]) (S' := a31.2) rfl ?_
    obtain ⟨hb3, hr⟩ := ck_some hr
    refine go_iaload mm_301 (q := (Int32.toNatClampNeg (a31.1 + 3))) rfl rfl rfl (ibd_ok hb3) ?_
    show Go XM (d + 3) 301 0 59 [some (.ref 140), some (.int v1), some (.int a31.1)] [.int (a31.2.1 141 (Int32.toNatClampNeg (a31.1 + 3))), .int a31.1, .ref 141] a31.2 R
    obtain ⟨hb4, hr⟩ := ck_some hr
    refine go_iastore mm_301 (q := (Int32.toNatClampNeg a31.1)) rfl rfl rfl (ibd_ok hb4) ?_
    show Go XM (d + 3) 301 0 60 [some (.ref 140), some (.int v1), some (.int a31.1)] [] (wI a31.2 141 (Int32.toNatClampNeg a31.1) (a31.2.1 141 (Int32.toNatClampNeg (a31.1 + 3)))) R
    obtain ⟨s5, es5, hr⟩ := sbn_some hr
    rw [← es5]
    refine go_run mm_301 2 (pc' := 31) (ls' := [some (.ref 140), some (.int v1), some (.int (a31.1 + 1))]) (st' := []) (S' := s5) rfl ?_
    cases hr
    have h9 := hL (a31.1 + 1, s5) rfl
    dsimp only at h9
    exact Go.le h9 (by repeat first | exact True.intro | refine And.intro rfl ?_)
  · rw [if_neg hc2] at hr
    cases hr
    have h9 := hR (a31.1, a31.2) rfl
    dsimp only [Sum.elim_inl] at h9
    exact Go.le h9 (by repeat first | exact True.intro | refine And.intro rfl ?_)
noncomputable def F_301 (v1 : Int32) (S : ST) : Option (Int32 × ST) := ob (F_227 v1 S) (fun w1 => if w1.1 = true then (some (0, w1.2)) else (ob (F_299 w1.2) (fun w2 => ob (wh FU (Lm_301_31 v1) (27 + (3 * v1), (wI w2.2 141 1 ((w2.2.1 141 1) - 1)))) (fun e31 => some (e31.2.1 141 1, e31.2)))))
set_option maxRecDepth 20000 in
theorem S_301 {d : Nat} {S : ST} {v1 : Int32} {r} (hr : F_301 v1 S = some r) : Cal XM (d + 3) 301 [.ref 140, .int v1] S (RV (vI r.1) r.2) := by
  unfold F_301 at hr
  refine cal_go 1 rfl ?_
  refine go_run mm_301 2 (pc' := 2) (ls' := [some (.ref 140), some (.int v1), none]) (st' := [.int v1, .ref 140]) (S' := S) rfl ?_
  obtain ⟨w1, hw1, hr⟩ := ob_some hr
  refine go_cv mm_301 (h := 140) (As := [.int v1]) (rest := []) (nl := 2) rfl rfl (show cvOK 301 2 356 227 1 2 11 = true by decide +kernel) rfl rfl rfl (S_227 hw1) (KP_V ?_)
  show Go XM (d + 3) 301 0 5 [some (.ref 140), some (.int v1), none] [.int (b2i w1.1)] w1.2 (RV (vI r.1) r.2)
  refine go_ifb mm_301 rfl (p1 := 8) (p2 := 10) rfl (fun (hc1 : w1.1 = true) => ?_) (fun (hc1 : w1.1 = false) => ?_)
  · rw [if_pos hc1] at hr
    refine go_run mm_301 1 (pc' := 9) (ls' := [some (.ref 140), some (.int v1), none]) (st' := [.int 0]) (S' := w1.2) rfl ?_
    cases hr
    exact go_ireturn mm_301 rfl rfl ⟨rfl, rfl, rfl⟩
  · rw [if_neg (bf hc1)] at hr
    refine go_run mm_301 1 (pc' := 11) (ls' := [some (.ref 140), some (.int v1), none]) (st' := [.ref 140]) (S' := w1.2) rfl ?_
    obtain ⟨w2, hw2, hr⟩ := ob_some hr
    refine go_cv mm_301 (h := 140) (As := []) (rest := []) (nl := 2) rfl rfl (show cvOK 301 11 385 299 0 2 11 = true by decide +kernel) rfl rfl rfl (S_299 hw2) (KP_V ?_)
    show Go XM (d + 3) 301 0 14 [some (.ref 140), some (.int v1), none] [] w2.2 (RV (vI r.1) r.2)
    refine go_run mm_301 4 (pc' := 20) (ls' := [some (.ref 140), some (.int v1), none]) (st' := [.int 1, .ref 141, .int 1, .ref 141]) (S' := w2.2) rfl ?_
    refine go_iaload mm_301 (q := 1) rfl rfl rfl (inB_lit rfl) ?_
    show Go XM (d + 3) 301 0 21 [some (.ref 140), some (.int v1), none] [.int (w2.2.1 141 1), .int 1, .ref 141] w2.2 (RV (vI r.1) r.2)
    refine go_run mm_301 2 (pc' := 23) (ls' := [some (.ref 140), some (.int v1), none]) (st' := [.int ((w2.2.1 141 1) - 1), .int 1, .ref 141]) (S' := w2.2) rfl ?_
    refine go_iastore mm_301 (q := 1) rfl rfl rfl (inB_lit rfl) ?_
    show Go XM (d + 3) 301 0 24 [some (.ref 140), some (.int v1), none] [] (wI w2.2 141 1 ((w2.2.1 141 1) - 1)) (RV (vI r.1) r.2)
    refine go_run mm_301 6 (pc' := 31) (ls' := [some (.ref 140), some (.int v1), some (.int (27 + (3 * v1)))]) (st' := []) (S' := (wI w2.2 141 1 ((w2.2.1 141 1) - 1))) rfl ?_
    obtain ⟨z31, he31, hr⟩ := ob_some hr
    refine Go.le (ls' := [some (.ref 140), some (.int v1), some (.int (27 + (3 * v1)))]) ?_ (by repeat first | exact True.intro | refine And.intro rfl ?_)
    refine wh_go (P := fun a31 => Go XM (d + 3) 301 0 31 [some (.ref 140), some (.int v1), some (.int a31.1)] [] a31.2 (RV (vI r.1) r.2)) (K := fun e31 => Go XM (d + 3) 301 0 66 [some (.ref 140), some (.int v1), some (.int e31.1)] [] e31.2 (RV (vI r.1) r.2)) (fun a9 r9 h9 hL hR => LSm_301_31 h9 hL hR) _ _ _ he31 ?_
    generalize z31 = e31 at hr
    show Go XM (d + 3) 301 0 66 [some (.ref 140), some (.int v1), some (.int e31.1)] [] e31.2 (RV (vI r.1) r.2)
    refine go_run mm_301 3 (pc' := 71) (ls' := [some (.ref 140), some (.int v1), some (.int e31.1)]) (st' := [.int 1, .ref 141]) (S' := e31.2) rfl ?_
    refine go_iaload mm_301 (q := 1) rfl rfl rfl (inB_lit rfl) ?_
    show Go XM (d + 3) 301 0 72 [some (.ref 140), some (.int v1), some (.int e31.1)] [.int (e31.2.1 141 1)] e31.2 (RV (vI r.1) r.2)
    cases hr
    exact go_ireturn mm_301 rfl rfl ⟨rfl, rfl, rfl⟩
