/-! the reference's parser: texts, tokens -/
section TxR
variable {X : XT} {d k c pc pc' : Nat} {ls : LSt} {st r : List Value} {S : ST} {R : RT} {M : MI} {o : Nat} {cd : List (Nat × Instr)}
theorem go_xx (hx : ∀ lv σ, XX d k pc lv st σ = some (pc', lv, r, σ)) (hn : Go X d k c pc' ls r S R) : Go X d k c pc ls st S R := by
  intro lv σ hl hV
  obtain ⟨f, c', o', S2, σ2, e2, q1, q2, q3⟩ := hn lv σ hl hV
  refine ⟨f + 1, c', o', S2, σ2, ?_, q1, q2, q3⟩
  have hx' : tbX G0 d k pc lv st σ = some (pc', lv, r, σ) := hx lv σ
  rw [ev_x hx']
  exact e2
theorem mt_f {i : Instr} (hm : mtG k = some (M, o, cd)) (hi : lkp cd pc = some i) : ntF k pc = some i := by
  unfold ntF
  rw [hm]
  exact hi
theorem go_ldcS {ix j : Nat} (hm : mtG k = some (M, o, cd)) (hi : lkp cd pc = some (.ldc ix)) (hj : lkp ((OSR[o]?).getD []) ix = some j) (hn : Go X d k c (pc + 2) ls (.ref (300 + j) :: st) S R) : Go X d k c pc ls st S R := by
  refine go_xx (fun lv σ => ?_) hn
  have hF := mt_f hm hi
  have h1 : xM k pc lv st σ = none := by
    unfold xM
    rw [hF]
  have h2 : ntS k = (OSR[o]?).getD [] := by
    unfold ntS
    rw [hm]
  unfold XX
  rw [h1]
  unfold xT
  rw [hF]
  dsimp only
  rw [h2, hj]
  rfl
theorem xT_v {ix n : Nat} {lv : LV} {σ : SG} (hm : mtG k = some (M, o, cd)) (hi : lkp cd pc = some (.invokevirtual ix)) (hj : lkp ((OSV[o]?).getD []) ix = some n) : XX d k pc lv st σ = if n = 0 then xL pc lv st σ else xA pc lv st σ := by
  have hF := mt_f hm hi
  have h1 : xM k pc lv st σ = none := by
    unfold xM
    rw [hF]
  have h2 : ntV k = (OSV[o]?).getD [] := by
    unfold ntV
    rw [hm]
  unfold XX
  rw [h1]
  unfold xT
  rw [hF]
  dsimp only
  rw [h2, hj]
theorem go_len {ix t : Nat} {tx : List Int32} (hm : mtG k = some (M, o, cd)) (hi : lkp cd pc = some (.invokevirtual ix)) (hj : lkp ((OSV[o]?).getD []) ix = some 0) (ht : txt t = some tx) (h8 : Nat.ble (cats r) 8 = true) (hn : Go X d k c (pc + 3) ls (.int (Int32.ofNat tx.length) :: r) S R) : Go X d k c pc ls (.ref t :: r) S R := by
  refine go_xx (fun lv σ => ?_) hn
  rw [xT_v hm hi hj, if_pos rfl]
  unfold xL
  dsimp only
  rw [ht]
  dsimp only
  rw [if_pos (Nat.le_of_ble_eq_true h8)]
theorem go_chr {ix t : Nat} {tx : List Int32} {x : Int32} (hm : mtG k = some (M, o, cd)) (hi : lkp cd pc = some (.invokevirtual ix)) (hj : lkp ((OSV[o]?).getD []) ix = some 1) (ht : txt t = some tx) (h8 : Nat.ble (cats r) 8 = true) (hx : inB x tx.length) (hn : Go X d k c (pc + 3) ls (.int (tx.getD x.toNatClampNeg 0) :: r) S R) : Go X d k c pc ls (.int x :: .ref t :: r) S R := by
  refine go_xx (fun lv σ => ?_) hn
  rw [xT_v hm hi hj, if_neg (by decide)]
  unfold xA
  dsimp only
  rw [ht]
  dsimp only
  rw [if_pos ⟨inB_ok hx, Nat.le_of_ble_eq_true h8⟩]
end TxR
theorem mm_185 : mtG 185 = some (mi_185, 12, ft_185) := rfl
set_option maxRecDepth 20000 in
theorem b_185_0 {d c : Nat} {R : RT} {S : ST} {v1 : Int32} {v2 : Int32} {v3 : Int32} {v4 : Int32} {v5 : Int32} (e1 : (600 : Int32) < ((S.1 140 7) + 20) → R c (.inr (some (.int (-1)))) (wI S 140 0 0)) (e2 : ¬ (600 : Int32) < ((S.1 140 7) + 20) → Go XM d 185 c 23 [some (.ref 140), some (.int v1), some (.int v2), some (.int v3), some (.int v4), some (.int v5), some (.int 0), none] [] (wI S 140 0 0) R) : Go XM d 185 c 0 [some (.ref 140), some (.int v1), some (.int v2), some (.int v3), some (.int v4), some (.int v5), none, none] [] S R := by
  refine go_run mm_185 8 (pc' := 15) (ls' := [some (.ref 140), some (.int v1), some (.int v2), some (.int v3), some (.int v4), some (.int v5), none, none]) (st' := [.int 600, .int ((S.1 140 7) + 20)]) (S' := (wI S 140 0 0)) rfl ?_
  refine go_if2 mm_185 rfl (p1 := 18) (p2 := 20) rfl (fun (hc1 : (600 : Int32) < ((S.1 140 7) + 20)) => ?_) (fun (hc1 : ¬ (600 : Int32) < ((S.1 140 7) + 20)) => ?_)
  · refine go_run mm_185 1 (pc' := 19) (ls' := [some (.ref 140), some (.int v1), some (.int v2), some (.int v3), some (.int v4), some (.int v5), none, none]) (st' := [.int (-1)]) (S' := (wI S 140 0 0)) rfl ?_
    exact go_ireturn mm_185 rfl rfl (e1 hc1)
  · refine go_run mm_185 2 (pc' := 23) (ls' := [some (.ref 140), some (.int v1), some (.int v2), some (.int v3), some (.int v4), some (.int v5), some (.int 0), none]) (st' := []) (S' := (wI S 140 0 0)) rfl ?_
    exact e2 hc1
set_option maxRecDepth 20000 in
theorem b_185_23 {d c : Nat} {R : RT} {S : ST} {v1 : Int32} {v2 : Int32} {v3 : Int32} {v4 : Int32} {v5 : Int32} {v6 : Int32} (o1 : v6 < 20 → inB ((S.1 140 7) + v6) 600) (e1 : v6 < 20 → Go XM d 185 c 23 [some (.ref 140), some (.int v1), some (.int v2), some (.int v3), some (.int v4), some (.int v5), some (.int (v6 + 1)), some (.int (if v6 < 4 then v1 else (if v6 < 8 then v2 else (if v6 < 12 then v3 else (if v6 < 16 then v4 else v5)))))] [] (wI S 144 (Int32.toNatClampNeg ((S.1 140 7) + v6)) (((if v6 < 4 then v1 else (if v6 < 8 then v2 else (if v6 < 12 then v3 else (if v6 < 16 then v4 else v5)))) >>> ((24 - (8 * (v6 - v6 / 4 * 4))) &&& 31)) &&& 255)) R) (e2 : ¬ v6 < 20 → R c (.inr (some (.int ((S.1 140 7) + 20)))) (wI S 140 7 ((S.1 140 7) + 20))) : Go XM d 185 c 23 [some (.ref 140), some (.int v1), some (.int v2), some (.int v3), some (.int v4), some (.int v5), some (.int v6), none] [] S R := by
  refine go_run mm_185 2 (pc' := 27) (ls' := [some (.ref 140), some (.int v1), some (.int v2), some (.int v3), some (.int v4), some (.int v5), some (.int v6), none]) (st' := [.int 20, .int v6]) (S' := S) rfl ?_
  refine go_if2 mm_185 rfl (p1 := 30) (p2 := 113) rfl (fun (hc1 : v6 < 20) => ?_) (fun (hc1 : ¬ v6 < 20) => ?_)
  · refine go_run mm_185 2 (pc' := 33) (ls' := [some (.ref 140), some (.int v1), some (.int v2), some (.int v3), some (.int v4), some (.int v5), some (.int v6), none]) (st' := [.int 4, .int v6]) (S' := S) rfl ?_
    have j4 : Go XM d 185 c 76 [some (.ref 140), some (.int v1), some (.int v2), some (.int v3), some (.int v4), some (.int v5), some (.int v6), none] [.int (if v6 < 4 then v1 else (if v6 < 8 then v2 else (if v6 < 12 then v3 else (if v6 < 16 then v4 else v5))))] S R := by
      refine go_run mm_185 18 (pc' := 106) (ls' := [some (.ref 140), some (.int v1), some (.int v2), some (.int v3), some (.int v4), some (.int v5), some (.int v6), some (.int (if v6 < 4 then v1 else (if v6 < 8 then v2 else (if v6 < 12 then v3 else (if v6 < 16 then v4 else v5)))))]) (st' := [.int (((if v6 < 4 then v1 else (if v6 < 8 then v2 else (if v6 < 12 then v3 else (if v6 < 16 then v4 else v5)))) >>> ((24 - (8 * (v6 - v6 / 4 * 4))) &&& 31)) &&& 255), .int ((S.1 140 7) + v6), .ref 144]) (S' := S) rfl ?_
      refine go_iastore mm_185 (q := (Int32.toNatClampNeg ((S.1 140 7) + v6))) rfl rfl rfl (o1 hc1) ?_
      refine go_run mm_185 2 (pc' := 23) (ls' := [some (.ref 140), some (.int v1), some (.int v2), some (.int v3), some (.int v4), some (.int v5), some (.int (v6 + 1)), some (.int (if v6 < 4 then v1 else (if v6 < 8 then v2 else (if v6 < 12 then v3 else (if v6 < 16 then v4 else v5)))))]) (st' := []) (S' := (wI S 144 (Int32.toNatClampNeg ((S.1 140 7) + v6)) (((if v6 < 4 then v1 else (if v6 < 8 then v2 else (if v6 < 12 then v3 else (if v6 < 16 then v4 else v5)))) >>> ((24 - (8 * (v6 - v6 / 4 * 4))) &&& 31)) &&& 255))) rfl ?_
      exact e1 hc1
    refine go_if2 mm_185 rfl (p1 := 36) (p2 := 40) rfl (fun (hc2 : v6 < 4) => ?_) (fun (hc2 : ¬ v6 < 4) => ?_)
    · refine go_run mm_185 2 (pc' := 76) (ls' := [some (.ref 140), some (.int v1), some (.int v2), some (.int v3), some (.int v4), some (.int v5), some (.int v6), none]) (st' := [.int v1]) (S' := S) rfl ?_
      have e : ((if v6 < 4 then v1 else (if v6 < 8 then v2 else (if v6 < 12 then v3 else (if v6 < 16 then v4 else v5)))) : Int32) = v1 := by simp [b2i, hc2]
      rw [e] at j4
      exact j4
    · refine go_run mm_185 2 (pc' := 44) (ls' := [some (.ref 140), some (.int v1), some (.int v2), some (.int v3), some (.int v4), some (.int v5), some (.int v6), none]) (st' := [.int 8, .int v6]) (S' := S) rfl ?_
      have j3 : Go XM d 185 c 76 [some (.ref 140), some (.int v1), some (.int v2), some (.int v3), some (.int v4), some (.int v5), some (.int v6), none] [.int (if v6 < 8 then v2 else (if v6 < 12 then v3 else (if v6 < 16 then v4 else v5)))] S R := by
        have e : ((if v6 < 4 then v1 else (if v6 < 8 then v2 else (if v6 < 12 then v3 else (if v6 < 16 then v4 else v5)))) : Int32) = (if v6 < 8 then v2 else (if v6 < 12 then v3 else (if v6 < 16 then v4 else v5))) := by simp [b2i, hc2]
        rw [e] at j4
        exact j4
      refine go_if2 mm_185 rfl (p1 := 47) (p2 := 51) rfl (fun (hc3 : v6 < 8) => ?_) (fun (hc3 : ¬ v6 < 8) => ?_)
      · refine go_run mm_185 2 (pc' := 76) (ls' := [some (.ref 140), some (.int v1), some (.int v2), some (.int v3), some (.int v4), some (.int v5), some (.int v6), none]) (st' := [.int v2]) (S' := S) rfl ?_
        have e : ((if v6 < 8 then v2 else (if v6 < 12 then v3 else (if v6 < 16 then v4 else v5))) : Int32) = v2 := by simp [b2i, hc3]
        rw [e] at j3
        exact j3
      · refine go_run mm_185 2 (pc' := 55) (ls' := [some (.ref 140), some (.int v1), some (.int v2), some (.int v3), some (.int v4), some (.int v5), some (.int v6), none]) (st' := [.int 12, .int v6]) (S' := S) rfl ?_
        have j2 : Go XM d 185 c 76 [some (.ref 140), some (.int v1), some (.int v2), some (.int v3), some (.int v4), some (.int v5), some (.int v6), none] [.int (if v6 < 12 then v3 else (if v6 < 16 then v4 else v5))] S R := by
          have e : ((if v6 < 8 then v2 else (if v6 < 12 then v3 else (if v6 < 16 then v4 else v5))) : Int32) = (if v6 < 12 then v3 else (if v6 < 16 then v4 else v5)) := by simp [b2i, hc3]
          rw [e] at j3
          exact j3
        refine go_if2 mm_185 rfl (p1 := 58) (p2 := 62) rfl (fun (hc4 : v6 < 12) => ?_) (fun (hc4 : ¬ v6 < 12) => ?_)
        · refine go_run mm_185 2 (pc' := 76) (ls' := [some (.ref 140), some (.int v1), some (.int v2), some (.int v3), some (.int v4), some (.int v5), some (.int v6), none]) (st' := [.int v3]) (S' := S) rfl ?_
          have e : ((if v6 < 12 then v3 else (if v6 < 16 then v4 else v5)) : Int32) = v3 := by simp [b2i, hc4]
          rw [e] at j2
          exact j2
        · refine go_run mm_185 2 (pc' := 66) (ls' := [some (.ref 140), some (.int v1), some (.int v2), some (.int v3), some (.int v4), some (.int v5), some (.int v6), none]) (st' := [.int 16, .int v6]) (S' := S) rfl ?_
          have j1 : Go XM d 185 c 76 [some (.ref 140), some (.int v1), some (.int v2), some (.int v3), some (.int v4), some (.int v5), some (.int v6), none] [.int (if v6 < 16 then v4 else v5)] S R := by
            have e : ((if v6 < 12 then v3 else (if v6 < 16 then v4 else v5)) : Int32) = (if v6 < 16 then v4 else v5) := by simp [b2i, hc4]
            rw [e] at j2
            exact j2
          refine go_if2 mm_185 rfl (p1 := 69) (p2 := 74) rfl (fun (hc5 : v6 < 16) => ?_) (fun (hc5 : ¬ v6 < 16) => ?_)
          · refine go_run mm_185 2 (pc' := 76) (ls' := [some (.ref 140), some (.int v1), some (.int v2), some (.int v3), some (.int v4), some (.int v5), some (.int v6), none]) (st' := [.int v4]) (S' := S) rfl ?_
            have e : ((if v6 < 16 then v4 else v5) : Int32) = v4 := by simp [b2i, hc5]
            rw [e] at j1
            exact j1
          · refine go_run mm_185 1 (pc' := 76) (ls' := [some (.ref 140), some (.int v1), some (.int v2), some (.int v3), some (.int v4), some (.int v5), some (.int v6), none]) (st' := [.int v5]) (S' := S) rfl ?_
            have e : ((if v6 < 16 then v4 else v5) : Int32) = v5 := by simp [b2i, hc5]
            rw [e] at j1
            exact j1
  · refine go_run mm_185 8 (pc' := 128) (ls' := [some (.ref 140), some (.int v1), some (.int v2), some (.int v3), some (.int v4), some (.int v5), some (.int v6), none]) (st' := [.int ((S.1 140 7) + 20)]) (S' := (wI S 140 7 ((S.1 140 7) + 20))) rfl ?_
    exact go_ireturn mm_185 rfl rfl (e2 hc1)
theorem mm_189 : mtG 189 = some (mi_189, 12, ft_189) := rfl
theorem b_189_0 {d c : Nat} {R : RT} {S : ST} {v1 : Int32} (o1 : v1 < (S.1 140 10) → inB v1 600) (e1 : R c (.inr (some (.int (if v1 < (S.1 140 10) then ra S 144 v1 else (-1))))) S) : Go XM d 189 c 0 [some (.ref 140), some (.int v1)] [] S R := by
  refine go_run mm_189 3 (pc' := 5) (ls' := [some (.ref 140), some (.int v1)]) (st' := [.int (S.1 140 10), .int v1]) (S' := S) rfl ?_
  have j1 : Go XM d 189 c 18 [some (.ref 140), some (.int v1)] [.int (if v1 < (S.1 140 10) then ra S 144 v1 else (-1))] S R := by
    exact go_ireturn mm_189 rfl rfl (e1)
  refine go_if2 mm_189 rfl (p1 := 8) (p2 := 17) rfl (fun (hc1 : v1 < (S.1 140 10)) => ?_) (fun (hc1 : ¬ v1 < (S.1 140 10)) => ?_)
  · refine go_run mm_189 3 (pc' := 13) (ls' := [some (.ref 140), some (.int v1)]) (st' := [.int v1, .ref 144]) (S' := S) rfl ?_
    refine go_iaload mm_189 (q := (Int32.toNatClampNeg v1)) rfl rfl rfl (o1 hc1) ?_
    refine go_run mm_189 1 (pc' := 18) (ls' := [some (.ref 140), some (.int v1)]) (st' := [.int (ra S 144 v1)]) (S' := S) rfl ?_
    have e : ((if v1 < (S.1 140 10) then ra S 144 v1 else (-1)) : Int32) = ra S 144 v1 := by simp [b2i, hc1]
    rw [e] at j1
    exact j1
  · refine go_run mm_189 1 (pc' := 18) (ls' := [some (.ref 140), some (.int v1)]) (st' := [.int (-1)]) (S' := S) rfl ?_
    have e : ((if v1 < (S.1 140 10) then ra S 144 v1 else (-1)) : Int32) = (-1) := by simp [b2i, hc1]
    rw [e] at j1
    exact j1
theorem mm_192 : mtG 192 = some (mi_192, 12, ft_192) := rfl
set_option maxRecDepth 20000 in
theorem b_192_0 {d c : Nat} {R : RT} {S : ST} (e1 : Go XM (d + 1) 192 c 5 [some (.ref 140), none, none] [.int (S.1 140 11), .ref 140] S R) : Go XM (d + 1) 192 c 0 [some (.ref 140), none, none] [] S R := by
  refine go_run mm_192 3 (pc' := 5) (ls' := [some (.ref 140), none, none]) (st' := [.int (S.1 140 11), .ref 140]) (S' := S) rfl ?_
  exact e1
set_option maxRecDepth 20000 in
theorem b_192_8 {d c : Nat} {R : RT} {S : ST} {w0 : Int32} (e1 : w0 = 32 → Go XM (d + 1) 192 c 0 [some (.ref 140), none, none] [] (wI S 140 11 ((S.1 140 11) + 1)) R) (e2 : ¬ w0 = 32 → Go XM (d + 1) 192 c 39 [some (.ref 140), none, none] [.int (S.1 140 11), .ref 140] (wI S 140 12 (S.1 140 11)) R) : Go XM (d + 1) 192 c 8 [some (.ref 140), none, none] [.int w0] S R := by
  refine go_run mm_192 1 (pc' := 10) (ls' := [some (.ref 140), none, none]) (st' := [.int 32, .int w0]) (S' := S) rfl ?_
  refine go_if2 mm_192 rfl (p1 := 13) (p2 := 26) rfl (fun (hc1 : w0 = 32) => ?_) (fun (hc1 : ¬ w0 = 32) => ?_)
  · refine go_run mm_192 7 (pc' := 0) (ls' := [some (.ref 140), none, none]) (st' := []) (S' := (wI S 140 11 ((S.1 140 11) + 1))) rfl ?_
    exact e1 hc1
  · refine go_run mm_192 7 (pc' := 39) (ls' := [some (.ref 140), none, none]) (st' := [.int (S.1 140 11), .ref 140]) (S' := (wI S 140 12 (S.1 140 11))) rfl ?_
    exact e2 hc1
set_option maxRecDepth 20000 in
theorem b_192_42 {d c : Nat} {R : RT} {S : ST} {w0 : Int32} (e1 : w0 = (-1) → R c (.inr none) (wI S 140 13 0)) (e2 : ¬ w0 = (-1) → (f_190 w0) = true → Go XM (d + 1) 192 c 68 [some (.ref 140), some (.int w0), none] [] (wI S 140 15 0) R) (e3 : ¬ w0 = (-1) → (f_190 w0) = false → (f_191 w0) = true → Go XM (d + 1) 192 c 166 [some (.ref 140), some (.int w0), some (.int 0)] [] (wI S 140 16 0) R) (e4 : ¬ w0 = (-1) → (f_190 w0) = false → (f_191 w0) = false → R c (.inr none) (wI (wI S 140 13 (if w0 = 59 then 3 else 4)) 140 11 ((S.1 140 11) + 1))) : Go XM (d + 1) 192 c 42 [some (.ref 140), none, none] [.int w0] S R := by
  refine go_run mm_192 3 (pc' := 45) (ls' := [some (.ref 140), some (.int w0), none]) (st' := [.int (-1), .int w0]) (S' := S) rfl ?_
  refine go_if2 mm_192 rfl (p1 := 48) (p2 := 56) rfl (fun (hc1 : w0 = (-1)) => ?_) (fun (hc1 : ¬ w0 = (-1)) => ?_)
  · refine go_run mm_192 4 (pc' := 270) (ls' := [some (.ref 140), some (.int w0), none]) (st' := []) (S' := (wI S 140 13 0)) rfl ?_
    exact go_vreturn mm_192 rfl rfl (e1 hc1)
  · refine go_run mm_192 1 (pc' := 57) (ls' := [some (.ref 140), some (.int w0), none]) (st' := [.int w0]) (S' := S) rfl ?_
    refine go_cs mm_192 (av := [.int w0]) (rest := []) (nl := 1) rfl (show csOK 192 57 112 190 1 1 = true by decide +kernel) rfl rfl rfl (sp_190) (KP_V ?_)
    refine go_ifb mm_192 rfl (p1 := 63) (p2 := 152) rfl (fun (hc2 : (f_190 w0) = true) => ?_) (fun (hc2 : (f_190 w0) = false) => ?_)
    · refine go_run mm_192 3 (pc' := 68) (ls' := [some (.ref 140), some (.int w0), none]) (st' := []) (S' := (wI S 140 15 0)) rfl ?_
      exact e2 hc1 hc2
    · refine go_run mm_192 1 (pc' := 153) (ls' := [some (.ref 140), some (.int w0), none]) (st' := [.int w0]) (S' := S) rfl ?_
      refine go_cs mm_192 (av := [.int w0]) (rest := []) (nl := 1) rfl (show csOK 192 153 119 191 1 1 = true by decide +kernel) rfl rfl rfl (sp_191) (KP_V ?_)
      refine go_ifb mm_192 rfl (p1 := 159) (p2 := 245) rfl (fun (hc3 : (f_191 w0) = true) => ?_) (fun (hc3 : (f_191 w0) = false) => ?_)
      · refine go_run mm_192 5 (pc' := 166) (ls' := [some (.ref 140), some (.int w0), some (.int 0)]) (st' := []) (S' := (wI S 140 16 0)) rfl ?_
        exact e3 hc1 hc2 hc3
      · refine go_run mm_192 3 (pc' := 249) (ls' := [some (.ref 140), some (.int w0), none]) (st' := [.int 59, .int w0, .ref 140]) (S' := S) rfl ?_
        have j1 : Go XM (d + 1) 192 c 257 [some (.ref 140), some (.int w0), none] [.int (if w0 = 59 then 3 else 4), .ref 140] S R := by
          refine go_run mm_192 7 (pc' := 270) (ls' := [some (.ref 140), some (.int w0), none]) (st' := []) (S' := (wI (wI S 140 13 (if w0 = 59 then 3 else 4)) 140 11 ((S.1 140 11) + 1))) rfl ?_
          exact go_vreturn mm_192 rfl rfl (e4 hc1 hc2 hc3)
        refine go_if2 mm_192 rfl (p1 := 252) (p2 := 256) rfl (fun (hc4 : w0 = 59) => ?_) (fun (hc4 : ¬ w0 = 59) => ?_)
        · refine go_run mm_192 2 (pc' := 257) (ls' := [some (.ref 140), some (.int w0), none]) (st' := [.int 3, .ref 140]) (S' := S) rfl ?_
          have e : ((if w0 = 59 then 3 else 4) : Int32) = 3 := by simp [b2i, hc4]
          rw [e] at j1
          exact j1
        · refine go_run mm_192 1 (pc' := 257) (ls' := [some (.ref 140), some (.int w0), none]) (st' := [.int 4, .ref 140]) (S' := S) rfl ?_
          have e : ((if w0 = 59 then 3 else 4) : Int32) = 4 := by simp [b2i, hc4]
          rw [e] at j1
          exact j1
set_option maxRecDepth 20000 in
theorem b_192_68 {d c : Nat} {R : RT} {S : ST} {v1 : Int32} (e1 : Go XM (d + 1) 192 c 73 [some (.ref 140), some (.int v1), none] [.int (S.1 140 11), .ref 140] S R) : Go XM (d + 1) 192 c 68 [some (.ref 140), some (.int v1), none] [] S R := by
  refine go_run mm_192 3 (pc' := 73) (ls' := [some (.ref 140), some (.int v1), none]) (st' := [.int (S.1 140 11), .ref 140]) (S' := S) rfl ?_
  exact e1
set_option maxRecDepth 20000 in
theorem b_192_76 {d c : Nat} {R : RT} {S : ST} {v1 : Int32} {w0 : Int32} (e1 : (f_190 w0) = true → (S.1 140 15) < 8 → Go XM (d + 1) 192 c 104 [some (.ref 140), some (.int v1), none] [.int (S.1 140 11), .ref 140, .int (S.1 140 15), .ref 145] S R) (e2 : (f_190 w0) = true → ¬ (S.1 140 15) < 8 → Go XM (d + 1) 192 c 68 [some (.ref 140), some (.int v1), none] [] (wI (wI S 140 15 ((S.1 140 15) + 1)) 140 11 ((S.1 140 11) + 1)) R) (e3 : (f_190 w0) = false → R c (.inr none) (wI S 140 13 (if (8 : Int32) < (S.1 140 15) then 4 else 1))) : Go XM (d + 1) 192 c 76 [some (.ref 140), some (.int v1), none] [.int w0] S R := by
  refine go_cs mm_192 (av := [.int w0]) (rest := []) (nl := 1) rfl (show csOK 192 76 112 190 1 1 = true by decide +kernel) rfl rfl rfl (sp_190) (KP_V ?_)
  refine go_ifb mm_192 rfl (p1 := 82) (p2 := 131) rfl (fun (hc1 : (f_190 w0) = true) => ?_) (fun (hc1 : (f_190 w0) = false) => ?_)
  · refine go_run mm_192 3 (pc' := 88) (ls' := [some (.ref 140), some (.int v1), none]) (st' := [.int 8, .int (S.1 140 15)]) (S' := S) rfl ?_
    refine go_if2 mm_192 rfl (p1 := 91) (p2 := 108) rfl (fun (hc2 : (S.1 140 15) < 8) => ?_) (fun (hc2 : ¬ (S.1 140 15) < 8) => ?_)
    · refine go_run mm_192 7 (pc' := 104) (ls' := [some (.ref 140), some (.int v1), none]) (st' := [.int (S.1 140 11), .ref 140, .int (S.1 140 15), .ref 145]) (S' := S) rfl ?_
      exact e1 hc1 hc2
    · refine go_run mm_192 13 (pc' := 68) (ls' := [some (.ref 140), some (.int v1), none]) (st' := []) (S' := (wI (wI S 140 15 ((S.1 140 15) + 1)) 140 11 ((S.1 140 11) + 1))) rfl ?_
      exact e2 hc1 hc2
  · refine go_run mm_192 4 (pc' := 138) (ls' := [some (.ref 140), some (.int v1), none]) (st' := [.int 8, .int (S.1 140 15), .ref 140]) (S' := S) rfl ?_
    have j1 : Go XM (d + 1) 192 c 146 [some (.ref 140), some (.int v1), none] [.int (if (8 : Int32) < (S.1 140 15) then 4 else 1), .ref 140] S R := by
      refine go_run mm_192 2 (pc' := 270) (ls' := [some (.ref 140), some (.int v1), none]) (st' := []) (S' := (wI S 140 13 (if (8 : Int32) < (S.1 140 15) then 4 else 1))) rfl ?_
      exact go_vreturn mm_192 rfl rfl (e3 hc1)
    refine go_if2 mm_192 rfl (p1 := 141) (p2 := 145) rfl (fun (hc2 : (8 : Int32) < (S.1 140 15)) => ?_) (fun (hc2 : ¬ (8 : Int32) < (S.1 140 15)) => ?_)
    · refine go_run mm_192 2 (pc' := 146) (ls' := [some (.ref 140), some (.int v1), none]) (st' := [.int 4, .ref 140]) (S' := S) rfl ?_
      have e : ((if (8 : Int32) < (S.1 140 15) then 4 else 1) : Int32) = 4 := by simp [b2i, hc2]
      rw [e] at j1
      exact j1
    · refine go_run mm_192 1 (pc' := 146) (ls' := [some (.ref 140), some (.int v1), none]) (st' := [.int 1, .ref 140]) (S' := S) rfl ?_
      have e : ((if (8 : Int32) < (S.1 140 15) then 4 else 1) : Int32) = 1 := by simp [b2i, hc2]
      rw [e] at j1
      exact j1
set_option maxRecDepth 20000 in
theorem b_192_107 {d c : Nat} {R : RT} {S : ST} {v1 : Int32} {w1 : Int32} {w2 : Int32} (o1 : inB w1 8) (e1 : Go XM (d + 1) 192 c 68 [some (.ref 140), some (.int v1), none] [] (wI (wI (wI S 145 (Int32.toNatClampNeg w1) w2) 140 15 ((S.1 140 15) + 1)) 140 11 ((S.1 140 11) + 1)) R) : Go XM (d + 1) 192 c 107 [some (.ref 140), some (.int v1), none] [.int w2, .int w1, .ref 145] S R := by
  refine go_iastore mm_192 (q := (Int32.toNatClampNeg w1)) rfl rfl rfl (o1) ?_
  refine go_run mm_192 13 (pc' := 68) (ls' := [some (.ref 140), some (.int v1), none]) (st' := []) (S' := (wI (wI (wI S 145 (Int32.toNatClampNeg w1) w2) 140 15 ((S.1 140 15) + 1)) 140 11 ((S.1 140 11) + 1))) rfl ?_
  exact e1
set_option maxRecDepth 20000 in
theorem b_192_166 {d c : Nat} {R : RT} {S : ST} {v1 : Int32} {v2 : Int32} (e1 : Go XM (d + 1) 192 c 171 [some (.ref 140), some (.int v1), some (.int v2)] [.int (S.1 140 11), .ref 140] S R) : Go XM (d + 1) 192 c 166 [some (.ref 140), some (.int v1), some (.int v2)] [] S R := by
  refine go_run mm_192 3 (pc' := 171) (ls' := [some (.ref 140), some (.int v1), some (.int v2)]) (st' := [.int (S.1 140 11), .ref 140]) (S' := S) rfl ?_
  exact e1
set_option maxRecDepth 20000 in
theorem b_192_174 {d c : Nat} {R : RT} {S : ST} {v1 : Int32} {v2 : Int32} {w0 : Int32} (e1 : (f_191 w0) = true → v2 < 4 → Go XM (d + 1) 192 c 198 [some (.ref 140), some (.int v1), some (.int v2)] [.int (S.1 140 11), .ref 140, .int (10 * (S.1 140 16)), .ref 140] S R) (e2 : (f_191 w0) = true → ¬ v2 < 4 → Go XM (d + 1) 192 c 166 [some (.ref 140), some (.int v1), some (.int (v2 + 1))] [] (wI (wI S 140 16 0) 140 11 ((S.1 140 11) + 1)) R) (e3 : (f_191 w0) = false → R c (.inr none) (wI S 140 13 (if (4 : Int32) < v2 then 4 else 2))) : Go XM (d + 1) 192 c 174 [some (.ref 140), some (.int v1), some (.int v2)] [.int w0] S R := by
  refine go_cs mm_192 (av := [.int w0]) (rest := []) (nl := 1) rfl (show csOK 192 174 119 191 1 1 = true by decide +kernel) rfl rfl rfl (sp_191) (KP_V ?_)
  refine go_ifb mm_192 rfl (p1 := 180) (p2 := 228) rfl (fun (hc1 : (f_191 w0) = true) => ?_) (fun (hc1 : (f_191 w0) = false) => ?_)
  · refine go_run mm_192 3 (pc' := 183) (ls' := [some (.ref 140), some (.int v1), some (.int v2)]) (st' := [.int 4, .int v2, .ref 140]) (S' := S) rfl ?_
    refine go_if2 mm_192 rfl (p1 := 186) (p2 := 208) rfl (fun (hc2 : v2 < 4) => ?_) (fun (hc2 : ¬ v2 < 4) => ?_)
    · refine go_run mm_192 7 (pc' := 198) (ls' := [some (.ref 140), some (.int v1), some (.int v2)]) (st' := [.int (S.1 140 11), .ref 140, .int (10 * (S.1 140 16)), .ref 140]) (S' := S) rfl ?_
      exact e1 hc1 hc2
    · refine go_run mm_192 10 (pc' := 166) (ls' := [some (.ref 140), some (.int v1), some (.int (v2 + 1))]) (st' := []) (S' := (wI (wI S 140 16 0) 140 11 ((S.1 140 11) + 1))) rfl ?_
      exact e2 hc1 hc2
  · refine go_run mm_192 3 (pc' := 231) (ls' := [some (.ref 140), some (.int v1), some (.int v2)]) (st' := [.int 4, .int v2, .ref 140]) (S' := S) rfl ?_
    have j1 : Go XM (d + 1) 192 c 239 [some (.ref 140), some (.int v1), some (.int v2)] [.int (if (4 : Int32) < v2 then 4 else 2), .ref 140] S R := by
      refine go_run mm_192 2 (pc' := 270) (ls' := [some (.ref 140), some (.int v1), some (.int v2)]) (st' := []) (S' := (wI S 140 13 (if (4 : Int32) < v2 then 4 else 2))) rfl ?_
      exact go_vreturn mm_192 rfl rfl (e3 hc1)
    refine go_if2 mm_192 rfl (p1 := 234) (p2 := 238) rfl (fun (hc2 : (4 : Int32) < v2) => ?_) (fun (hc2 : ¬ (4 : Int32) < v2) => ?_)
    · refine go_run mm_192 2 (pc' := 239) (ls' := [some (.ref 140), some (.int v1), some (.int v2)]) (st' := [.int 4, .ref 140]) (S' := S) rfl ?_
      have e : ((if (4 : Int32) < v2 then 4 else 2) : Int32) = 4 := by simp [b2i, hc2]
      rw [e] at j1
      exact j1
    · refine go_run mm_192 1 (pc' := 239) (ls' := [some (.ref 140), some (.int v1), some (.int v2)]) (st' := [.int 2, .ref 140]) (S' := S) rfl ?_
      have e : ((if (4 : Int32) < v2 then 4 else 2) : Int32) = 2 := by simp [b2i, hc2]
      rw [e] at j1
      exact j1
set_option maxRecDepth 20000 in
theorem b_192_201 {d c : Nat} {R : RT} {S : ST} {v1 : Int32} {v2 : Int32} {w1 : Int32} {w2 : Int32} (e1 : Go XM (d + 1) 192 c 166 [some (.ref 140), some (.int v1), some (.int (v2 + 1))] [] (wI (wI S 140 16 ((w1 + w2) - 48)) 140 11 ((S.1 140 11) + 1)) R) : Go XM (d + 1) 192 c 201 [some (.ref 140), some (.int v1), some (.int v2)] [.int w2, .int w1, .ref 140] S R := by
  refine go_run mm_192 13 (pc' := 166) (ls' := [some (.ref 140), some (.int v1), some (.int (v2 + 1))]) (st' := []) (S' := (wI (wI S 140 16 ((w1 + w2) - 48)) 140 11 ((S.1 140 11) + 1))) rfl ?_
  exact e1
theorem mm_194 : mtG 194 = some (mi_194, 12, ft_194) := rfl
theorem b_194_0 {d c : Nat} {R : RT} {S : ST} (e1 : (S.1 140 17) = 0 → Go XM (d + 2) 194 c 8 [some (.ref 140)] [.ref 140] S R) (e2 : ¬ (S.1 140 17) = 0 → R c (.inr none) S) : Go XM (d + 2) 194 c 0 [some (.ref 140)] [] S R := by
  refine go_run mm_194 2 (pc' := 4) (ls' := [some (.ref 140)]) (st' := [.int (S.1 140 17)]) (S' := S) rfl ?_
  refine go_if0 mm_194 rfl (p1 := 7) (p2 := 11) rfl (fun (hc1 : (S.1 140 17) = 0) => ?_) (fun (hc1 : ¬ (S.1 140 17) = 0) => ?_)
  · refine go_run mm_194 1 (pc' := 8) (ls' := [some (.ref 140)]) (st' := [.ref 140]) (S' := S) rfl ?_
    exact e1 hc1
  · exact go_vreturn mm_194 rfl rfl (e2 hc1)
theorem b_194_11 {d c : Nat} {R : RT} {S : ST} (e1 : R c (.inr none) S) : Go XM (d + 2) 194 c 11 [some (.ref 140)] [] S R := by
  exact go_vreturn mm_194 rfl rfl (e1)
theorem mm_195 : mtG 195 = some (mi_195, 12, ft_195) := rfl
theorem b_195_0 {d c : Nat} {R : RT} {S : ST} {t1 : Nat} {tx : List Int32} (y1 : txt t1 = some tx) (e1 : (S.1 140 17) = 0 → (S.1 140 13) = 1 → (S.1 140 15) = (Int32.ofNat tx.length) → Go XM d 195 c 30 [some (.ref 140), some (.ref t1), some (.int 0)] [] S R) (e2 : (S.1 140 17) = 0 → (S.1 140 13) = 1 → ¬ (S.1 140 15) = (Int32.ofNat tx.length) → R c (.inr (some (.int 0))) S) (e3 : (S.1 140 17) = 0 → ¬ (S.1 140 13) = 1 → R c (.inr (some (.int 0))) S) (e4 : ¬ (S.1 140 17) = 0 → R c (.inr (some (.int 0))) S) : Go XM d 195 c 0 [some (.ref 140), some (.ref t1), none] [] S R := by
  refine go_run mm_195 2 (pc' := 4) (ls' := [some (.ref 140), some (.ref t1), none]) (st' := [.int (S.1 140 17)]) (S' := S) rfl ?_
  refine go_if0 mm_195 rfl (p1 := 7) (p2 := 26) rfl (fun (hc1 : (S.1 140 17) = 0) => ?_) (fun (hc1 : ¬ (S.1 140 17) = 0) => ?_)
  · refine go_run mm_195 3 (pc' := 12) (ls' := [some (.ref 140), some (.ref t1), none]) (st' := [.int 1, .int (S.1 140 13)]) (S' := S) rfl ?_
    refine go_if2 mm_195 rfl (p1 := 15) (p2 := 26) rfl (fun (hc2 : (S.1 140 13) = 1) => ?_) (fun (hc2 : ¬ (S.1 140 13) = 1) => ?_)
    · refine go_run mm_195 3 (pc' := 20) (ls' := [some (.ref 140), some (.ref t1), none]) (st' := [.ref t1, .int (S.1 140 15)]) (S' := S) rfl ?_
      refine go_len mm_195 (tx := tx) rfl rfl y1 rfl ?_
      refine go_if2 mm_195 rfl (p1 := 28) (p2 := 26) rfl (fun (hc3 : (S.1 140 15) = (Int32.ofNat tx.length)) => ?_) (fun (hc3 : ¬ (S.1 140 15) = (Int32.ofNat tx.length)) => ?_)
      · refine go_run mm_195 2 (pc' := 30) (ls' := [some (.ref 140), some (.ref t1), some (.int 0)]) (st' := []) (S' := S) rfl ?_
        exact e1 hc1 hc2 hc3
      · refine go_run mm_195 1 (pc' := 27) (ls' := [some (.ref 140), some (.ref t1), none]) (st' := [.int 0]) (S' := S) rfl ?_
        exact go_zreturn mm_195 rfl rfl (Or.inl rfl) (e2 hc1 hc2 hc3)
    · refine go_run mm_195 1 (pc' := 27) (ls' := [some (.ref 140), some (.ref t1), none]) (st' := [.int 0]) (S' := S) rfl ?_
      exact go_zreturn mm_195 rfl rfl (Or.inl rfl) (e3 hc1 hc2)
  · refine go_run mm_195 1 (pc' := 27) (ls' := [some (.ref 140), some (.ref t1), none]) (st' := [.int 0]) (S' := S) rfl ?_
    exact go_zreturn mm_195 rfl rfl (Or.inl rfl) (e4 hc1)
theorem b_195_30 {d c : Nat} {R : RT} {S : ST} {t1 : Nat} {tx : List Int32} {v2 : Int32} (y1 : txt t1 = some tx) (o1 : v2 < (S.1 140 15) → inB v2 8) (o2 : v2 < (S.1 140 15) → inB v2 tx.length) (e1 : v2 < (S.1 140 15) → (ra S 145 v2) = (tx.getD (Int32.toNatClampNeg v2) 0) → Go XM d 195 c 30 [some (.ref 140), some (.ref t1), some (.int (v2 + 1))] [] S R) (e2 : v2 < (S.1 140 15) → ¬ (ra S 145 v2) = (tx.getD (Int32.toNatClampNeg v2) 0) → R c (.inr (some (.int 0))) S) (e3 : ¬ v2 < (S.1 140 15) → R c (.inr (some (.int 1))) S) : Go XM d 195 c 30 [some (.ref 140), some (.ref t1), some (.int v2)] [] S R := by
  refine go_run mm_195 3 (pc' := 35) (ls' := [some (.ref 140), some (.ref t1), some (.int v2)]) (st' := [.int (S.1 140 15), .int v2]) (S' := S) rfl ?_
  refine go_if2 mm_195 rfl (p1 := 38) (p2 := 60) rfl (fun (hc1 : v2 < (S.1 140 15)) => ?_) (fun (hc1 : ¬ v2 < (S.1 140 15)) => ?_)
  · refine go_run mm_195 3 (pc' := 43) (ls' := [some (.ref 140), some (.ref t1), some (.int v2)]) (st' := [.int v2, .ref 145]) (S' := S) rfl ?_
    refine go_iaload mm_195 (q := (Int32.toNatClampNeg v2)) rfl rfl rfl (o1 hc1) ?_
    refine go_run mm_195 2 (pc' := 46) (ls' := [some (.ref 140), some (.ref t1), some (.int v2)]) (st' := [.int v2, .ref t1, .int (ra S 145 v2)]) (S' := S) rfl ?_
    refine go_chr mm_195 (tx := tx) rfl rfl y1 rfl (o2 hc1) ?_
    refine go_if2 mm_195 rfl (p1 := 54) (p2 := 52) rfl (fun (hc2 : (ra S 145 v2) = (tx.getD (Int32.toNatClampNeg v2) 0)) => ?_) (fun (hc2 : ¬ (ra S 145 v2) = (tx.getD (Int32.toNatClampNeg v2) 0)) => ?_)
    · refine go_run mm_195 2 (pc' := 30) (ls' := [some (.ref 140), some (.ref t1), some (.int (v2 + 1))]) (st' := []) (S' := S) rfl ?_
      exact e1 hc1 hc2
    · refine go_run mm_195 1 (pc' := 53) (ls' := [some (.ref 140), some (.ref t1), some (.int v2)]) (st' := [.int 0]) (S' := S) rfl ?_
      exact go_zreturn mm_195 rfl rfl (Or.inl rfl) (e2 hc1 hc2)
  · refine go_run mm_195 1 (pc' := 61) (ls' := [some (.ref 140), some (.ref t1), some (.int v2)]) (st' := [.int 1]) (S' := S) rfl ?_
    exact go_zreturn mm_195 rfl rfl (Or.inr rfl) (e3 hc1)
theorem mm_197 : mtG 197 = some (mi_197, 12, ft_197) := rfl
theorem b_197_0 {d c : Nat} {R : RT} {S : ST} {v1 : Int32} {v2 : Int32} (e1 : Go XM (d + 3) 197 c 8 [some (.ref 140), some (.int v1), some (.int v2), some (.int (f_196 S v1 v2))] [.ref 140] (g_196 S v1 v2) R) : Go XM (d + 3) 197 c 0 [some (.ref 140), some (.int v1), some (.int v2), none] [] S R := by
  refine go_run mm_197 3 (pc' := 3) (ls' := [some (.ref 140), some (.int v1), some (.int v2), none]) (st' := [.int v2, .int v1, .ref 140]) (S' := S) rfl ?_
  refine go_cv mm_197 (h := 140) (As := [.int v1, .int v2]) (rest := []) (nl := 3) rfl XM_140 (show cvOK 197 3 152 196 2 3 11 = true by decide +kernel) rfl rfl rfl (sp_196) (KP_V ?_)
  refine go_run mm_197 2 (pc' := 8) (ls' := [some (.ref 140), some (.int v1), some (.int v2), some (.int (f_196 S v1 v2))]) (st' := [.ref 140]) (S' := (g_196 S v1 v2)) rfl ?_
  exact e1
theorem b_197_11 {d c : Nat} {R : RT} {S : ST} {v1 : Int32} {v2 : Int32} {v3 : Int32} (e1 : R c (.inr (some (.int v3))) S) : Go XM (d + 3) 197 c 11 [some (.ref 140), some (.int v1), some (.int v2), some (.int v3)] [] S R := by
  refine go_run mm_197 1 (pc' := 12) (ls' := [some (.ref 140), some (.int v1), some (.int v2), some (.int v3)]) (st' := [.int v3]) (S' := S) rfl ?_
  exact go_ireturn mm_197 rfl rfl (e1)
section Tok
variable {d : Nat} {S : ST}
theorem MOK_7 {S : ST} (M : MOK S) {S' : ST} (hF : Fm [144] [0, 7] S S') (h7 : 0 ≤ (S'.1 140 7).toInt ∧ (S'.1 140 7).toInt ≤ 600) : MOK S' := by
  obtain ⟨a1, a2, a3, a4, a5, a6, a7⟩ := M
  refine ⟨h7, fun h1 => ?_, ?_, fun j hj h1 => ?_, fun h1 => ?_, by rw [hF.fld (by decide) (by decide)]; exact a6, by rw [hF.fld (by decide) (by decide)]; exact a7⟩
  · rw [hF.fld (by decide) (by decide)] at h1
    exact ⟨(Ld_fm (a2 h1).1 hF (by decide) (by decide) (by decide) (by decide) (by decide) (by decide)).1, Th_r2 (hF.row (by decide) (by decide)) (a2 h1).2⟩
  · obtain ⟨c, c1, c2, c3⟩ := a3
    exact ⟨c, by rw [hF.fld (by decide) (by decide)]; exact c1, c2, fun k hk => by rw [sto_fm hF (by decide)]; exact c3 k hk⟩
  · rw [hF.row (a := 143) (by decide) (by decide)] at h1
    rw [sto_fm hF (by decide)]
    exact a4 j hj h1
  · rw [hF.fld (by decide) (by decide)] at h1
    exact Sv_fm (a5 h1) hF (by decide) (by decide) (by decide) (by decide)
theorem MOK_bf (M : MOK S) : ∃ b, S.1 140 7 = nJ b ∧ b ≤ 600 := by
  refine ⟨(S.1 140 7).toNatClampNeg, nJ_of M.1.1, ?_⟩
  have := M.1.2
  show (S.1 140 7).toInt.toNat ≤ 600
  omega
/-- append: the buffer takes 20 more, or none -/
def Rap (S : ST) (b : Nat) : RT := RP (fun v S' => MOK S' ∧ (if 600 < b + 20 then v = some (.int (-1)) ∧ S'.1 140 7 = nJ b else v = some (.int (nJ (b + 20))) ∧ S'.1 140 7 = nJ (b + 20)))
theorem q_185 (M : MOK S) {b : Nat} (hb : S.1 140 7 = nJ b) (hb6 : b ≤ 600) {v1 v2 v3 v4 v5 : Int32} : Cal XM d 185 [.ref 140, .int v1, .int v2, .int v3, .int v4, .int v5] S (Rap S b) := by
  have e20 : S.1 140 7 + 20 = nJ (b + 20) := by rw [hb]; exact nJ_add b 20
  have hlt : (600 : Int32) < S.1 140 7 + 20 ↔ 600 < b + 20 := by rw [e20]; exact nJ_lt (i := 600) (by omega) (by omega)
  refine cal_go 2 rfl (b_185_0 (fun q => ⟨rfl, _, rfl, (Qq_t M _).1, ?_⟩) (fun q => ?_))
  · rw [if_pos (hlt.mp q)]
    exact ⟨rfl, hb⟩
  · have hle : ¬ 600 < b + 20 := fun z => q (hlt.mpr z)
    have key : ∀ m i S1, i + m = 20 → Fm [144] [0] S S1 → Go XM d 185 0 23 [some (.ref 140), some (.int v1), some (.int v2), some (.int v3), some (.int v4), some (.int v5), some (.int (nJ i)), none] [] S1 (Rap S b) := by
      intro m
      induction m with
      | zero =>
        intro i S1 hi hF
        have hi : i = 20 := by omega
        subst hi
        have e7 : S1.1 140 7 = S.1 140 7 := hF.fld (by decide) (by decide)
        refine b_185_23 (fun z => absurd z (by decide)) (fun z => absurd z (by decide)) (fun _ => ?_)
        rw [e7, e20]
        refine ⟨rfl, _, rfl, MOK_7 M ((hF.wk (by decide) (by decide)).tr (Fm_f (by decide))) ?_, ?_⟩
        · rw [wI_1, if_pos ⟨rfl, rfl⟩, nJ_toInt (by omega)]
          omega
        · rw [if_neg hle]
          exact ⟨rfl, by rw [wI_1, if_pos ⟨rfl, rfl⟩]⟩
      | succ m ih =>
        intro i S1 hi hF
        have e7 : S1.1 140 7 = S.1 140 7 := hF.fld (by decide) (by decide)
        have hl : nJ i < 20 := (nJ_lt (j := 20) (by omega) (by omega)).mpr (by omega)
        refine b_185_23 (fun _ => by rw [e7, hb, nJ_add]; exact nJ_inB (by omega) (by omega)) (fun _ => ?_) (fun z => absurd hl z)
        rw [nJ_succ]
        exact Go.le (ih (i + 1) _ (by omega) (hF.tr (Fm_a (by decide)))) (by repeat first | exact True.intro | refine And.intro rfl ?_)
    exact key 20 0 _ rfl (Fm_f (by decide))
/-- the reader's place: next is at most size -/
def PB (S : ST) : Prop := ∃ n k, S.1 140 10 = nJ n ∧ n ≤ 600 ∧ S.1 140 11 = nJ k ∧ k ≤ n
def sv (S : ST) (n k : Nat) : Int32 := if k < n then S.1 144 k else -1
theorem sv_lt {n k : Nat} {x : Int32} (h : sv S n k = x) (hx : ¬ x = -1) : k < n := by
  apply Classical.byContradiction
  intro q
  unfold sv at h
  rw [if_neg q] at h
  exact hx h.symm
theorem sq_189 {n k : Nat} (hn : S.1 140 10 = nJ n) (h6 : n ≤ 600) (hk : k ≤ 600) : Cal XM d 189 [.ref 140, .int (nJ k)] S (RV (some (.int (sv S n k))) S) := by
  have hlt : nJ k < S.1 140 10 ↔ k < n := by rw [hn]; exact nJ_lt (by omega) (by omega)
  refine cal_go 0 rfl (b_189_0 (fun q => nJ_inB (by have := hlt.mp q; omega) (by omega)) ⟨rfl, ?_, rfl⟩)
  unfold sv
  by_cases q : k < n
  · rw [if_pos q, if_pos (hlt.mpr q), ra_n S 144 (by omega)]
  · rw [if_neg q, if_neg (fun z => q (hlt.mp z))]
def TKf : List Nat := [11, 12, 13, 15, 16]
def TKQ (S : ST) (n : Nat) (S1 : ST) (k : Nat) : Prop := Fm [145] TKf S S1 ∧ S1.1 140 11 = nJ k ∧ k ≤ n
theorem TKQ_w {n k q : Nat} {S1 : ST} {v : Int32} (h : TKQ S n S1 k) (hq : q ∈ TKf ∧ ¬ 11 = q) : TKQ S n (wI S1 140 q v) k := ⟨h.1.tr (Fm_f hq.1), by rw [wI_1, if_neg (fun z => hq.2 z.2)]; exact h.2.1, h.2.2⟩
theorem TKQ_n {n k : Nat} {S1 : ST} {v : Int32} (h : TKQ S n S1 k) (hk : k + 1 ≤ n) (hv : v = nJ (k + 1)) : TKQ S n (wI S1 140 11 v) (k + 1) := ⟨h.1.tr (Fm_f (by decide)), by rw [wI_1, if_pos ⟨rfl, rfl⟩]; exact hv, hk⟩
theorem TKQ_a {n k q : Nat} {S1 : ST} {v : Int32} (h : TKQ S n S1 k) : TKQ S n (wI S1 145 q v) k := ⟨h.1.tr (Fm_a (by decide)), by rw [wI_1, if_neg (fun z => by have := z.1; omega)]; exact h.2.1, h.2.2⟩
theorem TKQ_10 {n k : Nat} {S1 : ST} (h : TKQ S n S1 k) (hn : S.1 140 10 = nJ n) : S1.1 140 10 = nJ n := by rw [h.1.fld (by decide) (by decide)]; exact hn
def Rt (S : ST) (n : Nat) : RT := RP (fun v S' => v = none ∧ ∃ k, TKQ S n S' k)
theorem tok_w {n : Nat} (hn : S.1 140 10 = nJ n) (h6 : n ≤ 600) {v1 : Int32} : ∀ m k w S1, k + m = n → w ≤ k → TKQ S n S1 k → S1.1 140 15 = nJ w → Go XM (d + 1) 192 0 68 [some (.ref 140), some (.int v1), none] [] S1 (Rt S n) := by
  intro m
  induction m with
  | zero =>
    intro k w S1 hk hw h h15
    refine b_192_68 ?_
    rw [h.2.1]
    refine go_cv mm_192 (h := 140) (As := [.int (nJ k)]) (rest := []) (nl := 2) rfl XM_140 (show cvOK 192 73 102 189 1 2 11 = true by decide +kernel) rfl rfl rfl (sq_189 (TKQ_10 h hn) h6 (by omega)) (KP_V ?_)
    have e : sv S1 n k = -1 := if_neg (by omega)
    rw [e]
    exact b_192_76 (fun q => absurd q (by decide)) (fun q => absurd q (by decide)) (fun _ => ⟨rfl, _, rfl, rfl, k, TKQ_w h (by decide)⟩)
  | succ m ih =>
    intro k w S1 hk hw h h15
    refine b_192_68 ?_
    rw [h.2.1]
    refine go_cv mm_192 (h := 140) (As := [.int (nJ k)]) (rest := []) (nl := 2) rfl XM_140 (show cvOK 192 73 102 189 1 2 11 = true by decide +kernel) rfl rfl rfl (sq_189 (TKQ_10 h hn) h6 (by omega)) (KP_V ?_)
    refine b_192_76 (fun q1 q2 => ?_) (fun q1 q2 => ?_) (fun _ => ⟨rfl, _, rfl, rfl, k, TKQ_w h (by decide)⟩)
    · have h8 : w < 8 := by rw [h15] at q2; exact (nJ_lt (j := 8) (by omega) (by omega)).mp q2
      rw [h.2.1, h15]
      refine go_cv mm_192 (h := 140) (As := [.int (nJ k)]) (rest := [.int (nJ w), .ref 145]) (nl := 2) rfl XM_140 (show cvOK 192 104 102 189 1 2 11 = true by decide +kernel) rfl rfl rfl (sq_189 (TKQ_10 h hn) h6 (by omega)) (KP_V ?_)
      refine b_192_107 (nJ_inB (by omega) (by omega)) ?_
      rw [h.2.1, h15, nJ_succ, nJ_succ]
      exact ih (k + 1) (w + 1) _ (by omega) (by omega) (TKQ_n (TKQ_w (TKQ_a h) (by decide)) (by omega) rfl) (by rw [wI_1, if_neg (by decide), wI_1, if_pos ⟨rfl, rfl⟩])
    · rw [h.2.1, h15, nJ_succ, nJ_succ]
      exact ih (k + 1) (w + 1) _ (by omega) (by omega) (TKQ_n (TKQ_w h (by decide)) (by omega) rfl) (by rw [wI_1, if_neg (by decide), wI_1, if_pos ⟨rfl, rfl⟩])
theorem tok_n {n : Nat} (hn : S.1 140 10 = nJ n) (h6 : n ≤ 600) {v1 : Int32} : ∀ m k v2 S1, k + m = n → TKQ S n S1 k → Go XM (d + 1) 192 0 166 [some (.ref 140), some (.int v1), some (.int v2)] [] S1 (Rt S n) := by
  intro m
  induction m with
  | zero =>
    intro k v2 S1 hk h
    refine b_192_166 ?_
    rw [h.2.1]
    refine go_cv mm_192 (h := 140) (As := [.int (nJ k)]) (rest := []) (nl := 2) rfl XM_140 (show cvOK 192 171 102 189 1 2 11 = true by decide +kernel) rfl rfl rfl (sq_189 (TKQ_10 h hn) h6 (by omega)) (KP_V ?_)
    have e : sv S1 n k = -1 := if_neg (by omega)
    rw [e]
    exact b_192_174 (fun q => absurd q (by decide)) (fun q => absurd q (by decide)) (fun _ => ⟨rfl, _, rfl, rfl, k, TKQ_w h (by decide)⟩)
  | succ m ih =>
    intro k v2 S1 hk h
    refine b_192_166 ?_
    rw [h.2.1]
    refine go_cv mm_192 (h := 140) (As := [.int (nJ k)]) (rest := []) (nl := 2) rfl XM_140 (show cvOK 192 171 102 189 1 2 11 = true by decide +kernel) rfl rfl rfl (sq_189 (TKQ_10 h hn) h6 (by omega)) (KP_V ?_)
    refine b_192_174 (fun q1 q2 => ?_) (fun q1 q2 => ?_) (fun _ => ⟨rfl, _, rfl, rfl, k, TKQ_w h (by decide)⟩)
    · rw [h.2.1]
      refine go_cv mm_192 (h := 140) (As := [.int (nJ k)]) (rest := [.int (10 * S1.1 140 16), .ref 140]) (nl := 2) rfl XM_140 (show cvOK 192 198 102 189 1 2 11 = true by decide +kernel) rfl rfl rfl (sq_189 (TKQ_10 h hn) h6 (by omega)) (KP_V ?_)
      refine b_192_201 ?_
      rw [h.2.1, nJ_succ]
      exact ih (k + 1) _ _ (by omega) (TKQ_n (TKQ_w h (by decide)) (by omega) rfl)
    · rw [h.2.1, nJ_succ]
      exact ih (k + 1) _ _ (by omega) (TKQ_n (TKQ_w h (by decide)) (by omega) rfl)
theorem tok_s {n : Nat} (hn : S.1 140 10 = nJ n) (h6 : n ≤ 600) : ∀ m k S1, k + m = n → TKQ S n S1 k → Go XM (d + 1) 192 0 0 [some (.ref 140), none, none] [] S1 (Rt S n) := by
  have go : ∀ k S1, k ≤ n → TKQ S n S1 k → (sv S1 n k = 32 → Go XM (d + 1) 192 0 0 [some (.ref 140), none, none] [] (wI S1 140 11 (nJ (k + 1))) (Rt S n)) → Go XM (d + 1) 192 0 0 [some (.ref 140), none, none] [] S1 (Rt S n) := by
    intro k S1 hk h hg
    refine b_192_0 ?_
    rw [h.2.1]
    refine go_cv mm_192 (h := 140) (As := [.int (nJ k)]) (rest := []) (nl := 2) rfl XM_140 (show cvOK 192 5 102 189 1 2 11 = true by decide +kernel) rfl rfl rfl (sq_189 (TKQ_10 h hn) h6 (by omega)) (KP_V ?_)
    refine b_192_8 (fun q => ?_) (fun q => ?_)
    · rw [h.2.1, nJ_succ]
      exact hg q
    · have h2 : TKQ S n (wI S1 140 12 (S1.1 140 11)) k := TKQ_w h (by decide)
      generalize wI S1 140 12 (S1.1 140 11) = S2 at h2 ⊢
      rw [h.2.1]
      refine go_cv mm_192 (h := 140) (As := [.int (nJ k)]) (rest := []) (nl := 2) rfl XM_140 (show cvOK 192 39 102 189 1 2 11 = true by decide +kernel) rfl rfl rfl (sq_189 (TKQ_10 h2 hn) h6 (by omega)) (KP_V ?_)
      refine b_192_42 (fun _ => ⟨rfl, _, rfl, rfl, k, TKQ_w h2 (by decide)⟩) (fun z _ => ?_) (fun z _ _ => ?_) (fun z _ _ => ⟨rfl, _, rfl, rfl, k + 1, ?_⟩)
      · exact tok_w hn h6 (n - k) k 0 _ (by omega) (by omega) (TKQ_w h2 (by decide)) rfl
      · exact tok_n hn h6 (n - k) k 0 _ (by omega) (TKQ_w h2 (by decide))
      · have := sv_lt rfl z
        exact TKQ_n (TKQ_w h2 (by decide)) (by omega) (by rw [h2.2.1, nJ_succ])
  intro m
  induction m with
  | zero =>
    intro k S1 hk h
    refine go k S1 h.2.2 h (fun q => ?_)
    have := sv_lt q (by decide)
    omega
  | succ m ih =>
    intro k S1 hk h
    exact go k S1 h.2.2 h (fun q => ih (k + 1) _ (by omega) (TKQ_n h (by omega) rfl))
/-- a step of the reader: nothing but its own fields has moved, an error stays -/
def PSf : List Nat := [11, 12, 13, 15, 16, 17, 18]
def PSt (S S' : ST) : Prop := Fm [145] PSf S S' ∧ PB S' ∧ (S'.1 140 17 = 0 → S.1 140 17 = 0)
theorem PSt.tr {S1 S2 : ST} (h : PSt S S1) (h' : PSt S1 S2) : PSt S S2 := ⟨h.1.tr h'.1, h'.2.1, fun q => h.2.2 (h'.2.2 q)⟩
theorem PSt.rf (h : PB S) : PSt S S := ⟨Fm.rf, h, id⟩
theorem sq_192 (h : PB S) : Cal XM (d + 1) 192 [.ref 140] S (RP (fun v S' => v = none ∧ PSt S S' ∧ S'.1 140 17 = S.1 140 17)) := by
  obtain ⟨n, k, h1, h2, h3, h4⟩ := h
  refine Cal.im (cal_go 2 rfl (tok_s h1 h2 (n - k) k S (by omega) ⟨Fm.rf, h3, h4⟩)) ?_
  rintro c o S' ⟨rfl, v, rfl, rfl, k', q⟩
  have e := q.1.fld (k := 17) (by decide) (by decide)
  exact ⟨rfl, _, rfl, rfl, ⟨q.1.wk (by decide) (by decide), ⟨n, k', TKQ_10 q h1, h2, q.2.1, q.2.2⟩, fun z => e.symm.trans z⟩, e⟩
theorem sq_194 (h : PB S) : Cal XM (d + 2) 194 [.ref 140] S (RP (fun v S' => v = none ∧ PSt S S')) := by
  refine cal_go 0 rfl (b_194_0 (fun _ => ?_) (fun _ => ⟨rfl, _, rfl, rfl, PSt.rf h⟩))
  refine go_cv mm_194 (h := 140) (As := []) (rest := []) (nl := 3) rfl XM_140 (show cvOK 194 8 131 192 0 3 11 = true by decide +kernel) rfl rfl rfl (sq_192 h) (KP_P (fun v S1 k1 => ?_))
  obtain ⟨rfl, k2, -⟩ := k1
  exact b_194_11 ⟨rfl, _, rfl, rfl, k2⟩
theorem sq_195 {t : Nat} {tx : List Int32} (y1 : txt t = some tx) (hl : tx.length ≤ 8) : Cal XM d 195 [.ref 140, .ref t] S (RP (fun v S' => (∃ b, v = some (.int (b2i b))) ∧ S' = S)) := by
  have key : ∀ m i, i + m = tx.length → S.1 140 15 = Int32.ofNat tx.length → Go XM d 195 0 30 [some (.ref 140), some (.ref t), some (.int (nJ i))] [] S (RP (fun v S' => (∃ b, v = some (.int (b2i b))) ∧ S' = S)) := by
    intro m
    induction m with
    | zero =>
      intro i hi h
      have hn : ¬ nJ i < S.1 140 15 := by rw [h]; show ¬ nJ i < nJ tx.length; rw [nJ_lt (by omega) (by omega)]; omega
      exact b_195_30 y1 (fun q => absurd q hn) (fun q => absurd q hn) (fun q => absurd q hn) (fun q => absurd q hn) (fun _ => ⟨rfl, _, rfl, ⟨true, rfl⟩, rfl⟩)
    | succ m ih =>
      intro i hi h
      have hlt : nJ i < S.1 140 15 := by rw [h]; show nJ i < nJ tx.length; rw [nJ_lt (by omega) (by omega)]; omega
      refine b_195_30 y1 (fun _ => nJ_inB (by omega) (by omega)) (fun _ => nJ_inB (by omega) (by omega)) (fun _ _ => ?_) (fun _ _ => ⟨rfl, _, rfl, ⟨false, rfl⟩, rfl⟩) (fun q => absurd hlt q)
      rw [nJ_succ]
      exact ih (i + 1) (by omega) h
  exact cal_go 1 rfl (b_195_0 y1 (fun _ _ h => key tx.length 0 (by omega) h) (fun _ _ _ => ⟨rfl, _, rfl, ⟨false, rfl⟩, rfl⟩) (fun _ _ => ⟨rfl, _, rfl, ⟨false, rfl⟩, rfl⟩) (fun _ => ⟨rfl, _, rfl, ⟨false, rfl⟩, rfl⟩))
theorem g193_w {v : Int32} (hv : ¬ v = 0) : ¬ (g_193 S v).1 140 17 = 0 := by
  unfold g_193
  split
  · rw [wI_1, if_neg (by decide), wI_1, if_pos ⟨rfl, rfl⟩]
    exact hv
  · assumption
theorem g193_F {v : Int32} : Fm [] [17, 18] S (g_193 S v) := by
  unfold g_193
  split
  · exact (Fm_f (by decide)).tr (Fm_f (by decide))
  · exact Fm.rf
theorem PB_F {S' : ST} {hs fs : List Nat} (h : PB S) (hF : Fm hs fs S S') (h0 : 140 ∉ hs) (h1 : 10 ∉ fs) (h2 : 11 ∉ fs) : PB S' := by
  obtain ⟨n, k, a1, a2, a3, a4⟩ := h
  exact ⟨n, k, by rw [hF.fld h0 h1]; exact a1, a2, by rw [hF.fld h0 h2]; exact a3, a4⟩
theorem PSt_193 (h : PB S) {v : Int32} (hv : ¬ v = 0) : PSt S (g_193 S v) := ⟨g193_F.wk (by decide) (by decide), PB_F h g193_F (by decide) (by decide) (by decide), fun q => absurd q (g193_w hv)⟩
theorem PSt_196 (h : PB S) {a b : Int32} : PSt S (g_196 S a b) := by
  unfold g_196
  split
  · split
    · exact PSt.rf h
    · exact PSt_193 h (by decide)
  · exact PSt_193 h (by decide)
theorem f196_in {a b : Int32} (hab : a.toInt ≤ b.toInt) : a.toInt ≤ (f_196 S a b).toInt ∧ (f_196 S a b).toInt ≤ b.toInt := by
  have hA : a.toInt ≤ a.toInt ∧ a.toInt ≤ b.toInt := ⟨Int.le_refl _, hab⟩
  unfold f_196
  split
  · split
    · next h1 =>
      split
      · exact f182_t.mp h1
      · exact hA
    · rw [if_neg (g193_w (by decide))]; exact hA
  · rw [if_neg (g193_w (by decide))]; exact hA
theorem sq_197 (h : PB S) {a b : Int32} (hab : a.toInt ≤ b.toInt) : Cal XM (d + 3) 197 [.ref 140, .int a, .int b] S (RP (fun v S' => ∃ x : Int32, v = some (.int x) ∧ (a.toInt ≤ x.toInt ∧ x.toInt ≤ b.toInt) ∧ PSt S S')) := by
  refine cal_go 1 rfl (b_197_0 ?_)
  have h1 := PSt_196 h (a := a) (b := b)
  refine go_cv mm_197 (h := 140) (As := []) (rest := []) (nl := 1) rfl XM_140 (show cvOK 197 8 156 194 0 1 11 = true by decide +kernel) rfl rfl rfl (sq_194 h1.2.1) (KP_P (fun v S1 k1 => ?_))
  obtain ⟨rfl, k2⟩ := k1
  exact b_197_11 ⟨rfl, _, rfl, _, rfl, f196_in hab, h1.tr k2⟩
end Tok
