/-! methods as functions (printed by a program): 51 hasCornerAt, 54 reachOf, 56 postGuard, 57 giveReach, 58 dropGuard, 59 hasGuardAt, 62 worthOf, 64 hasTreasureAt, 65 forget, 68 isClear -/
theorem mm_51 : mtG 51 = some (mi_51, 6, ft_51) := rfl
def L_51_2 (h0 : Nat) (v1 : Int32) (v2 : Int32) (S : ST) (a2 : Int32) : Option ((Int32) ⊕ ((Int32) ⊕ Bool)) := if a2 < (S.1 h0 0) then (ck (ibd a2 12) (if (S.1 (h0 + 1) (Int32.toNatClampNeg a2)) = v1 then (ck (ibd a2 12) (if (S.1 (h0 + 2) (Int32.toNatClampNeg a2)) = v2 then (some (.inr (.inr true))) else (some (.inl (a2 + 1))))) else (some (.inl (a2 + 1))))) else (some (.inr (.inl (a2))))
set_option maxRecDepth 20000 in
theorem LS_51_2 {d : Nat} {R : RT} {S : ST} {h0 : Nat} {v1 : Int32} {v2 : Int32} (hp0 : PLH h0) {a2 : Int32} {r9} (hr : L_51_2 h0 v1 v2 S a2 = some r9) (hL : ∀ a9, r9 = .inl a9 → (fun a2 => Go XC d 51 0 2 [some (.ref h0), some (.int v1), some (.int v2), some (.int a2)] [] S R) a9) (hR : ∀ b9, r9 = .inr b9 → Sum.elim (fun e2 => Go XC d 51 0 38 [some (.ref h0), some (.int v1), some (.int v2), some (.int e2)] [] S R) (fun o => R 0 (.inr (vZ o)) S) b9) : Go XC d 51 0 2 [some (.ref h0), some (.int v1), some (.int v2), some (.int a2)] [] S R := by
  unfold L_51_2 at hr
  refine go_run mm_51 2 (pc' := 4) (ls' := [some (.ref h0), some (.int v1), some (.int v2), some (.int a2)]) (st' := [.ref h0, .int a2]) (S' := S) rfl ?_
  refine go_getf mm_51 (h := h0) rfl hp0.1 rfl ?_
  show Go XC d 51 0 7 [some (.ref h0), some (.int v1), some (.int v2), some (.int a2)] [.int (S.1 h0 0), .int a2] S R
  refine go_if2 mm_51 rfl (p1 := 10) (p2 := 38) rfl (fun (hc1 : a2 < (S.1 h0 0)) => ?_) (fun (hc1 : ¬ a2 < (S.1 h0 0)) => ?_)
  · rw [if_pos hc1] at hr
    refine go_run mm_51 1 (pc' := 11) (ls' := [some (.ref h0), some (.int v1), some (.int v2), some (.int a2)]) (st' := [.ref h0]) (S' := S) rfl ?_
    refine go_getf mm_51 (h := h0) rfl hp0.1 rfl ?_
    show Go XC d 51 0 14 [some (.ref h0), some (.int v1), some (.int v2), some (.int a2)] [.ref (h0 + 1)] S R
    refine go_run mm_51 1 (pc' := 15) (ls' := [some (.ref h0), some (.int v1), some (.int v2), some (.int a2)]) (st' := [.int a2, .ref (h0 + 1)]) (S' := S) rfl ?_
    obtain ⟨hb2, hr⟩ := ck_some hr
    refine go_iaload mm_51 (q := (Int32.toNatClampNeg a2)) rfl (hp0.2.1) rfl (ibd_ok hb2) ?_
    show Go XC d 51 0 16 [some (.ref h0), some (.int v1), some (.int v2), some (.int a2)] [.int (S.1 (h0 + 1) (Int32.toNatClampNeg a2))] S R
    refine go_run mm_51 1 (pc' := 17) (ls' := [some (.ref h0), some (.int v1), some (.int v2), some (.int a2)]) (st' := [.int v1, .int (S.1 (h0 + 1) (Int32.toNatClampNeg a2))]) (S' := S) rfl ?_
    refine go_if2 mm_51 rfl (p1 := 20) (p2 := 32) rfl (fun (hc3 : (S.1 (h0 + 1) (Int32.toNatClampNeg a2)) = v1) => ?_) (fun (hc3 : ¬ (S.1 (h0 + 1) (Int32.toNatClampNeg a2)) = v1) => ?_)
    · rw [if_pos hc3] at hr
      refine go_run mm_51 1 (pc' := 21) (ls' := [some (.ref h0), some (.int v1), some (.int v2), some (.int a2)]) (st' := [.ref h0]) (S' := S) rfl ?_
      refine go_getf mm_51 (h := h0) rfl hp0.1 rfl ?_
      show Go XC d 51 0 24 [some (.ref h0), some (.int v1), some (.int v2), some (.int a2)] [.ref (h0 + 2)] S R
      refine go_run mm_51 1 (pc' := 25) (ls' := [some (.ref h0), some (.int v1), some (.int v2), some (.int a2)]) (st' := [.int a2, .ref (h0 + 2)]) (S' := S) rfl ?_
      obtain ⟨hb4, hr⟩ := ck_some hr
      refine go_iaload mm_51 (q := (Int32.toNatClampNeg a2)) rfl (hp0.2.2.1) rfl (ibd_ok hb4) ?_
      show Go XC d 51 0 26 [some (.ref h0), some (.int v1), some (.int v2), some (.int a2)] [.int (S.1 (h0 + 2) (Int32.toNatClampNeg a2))] S R
      refine go_run mm_51 1 (pc' := 27) (ls' := [some (.ref h0), some (.int v1), some (.int v2), some (.int a2)]) (st' := [.int v2, .int (S.1 (h0 + 2) (Int32.toNatClampNeg a2))]) (S' := S) rfl ?_
      refine go_if2 mm_51 rfl (p1 := 30) (p2 := 32) rfl (fun (hc5 : (S.1 (h0 + 2) (Int32.toNatClampNeg a2)) = v2) => ?_) (fun (hc5 : ¬ (S.1 (h0 + 2) (Int32.toNatClampNeg a2)) = v2) => ?_)
      · rw [if_pos hc5] at hr
        refine go_run mm_51 1 (pc' := 31) (ls' := [some (.ref h0), some (.int v1), some (.int v2), some (.int a2)]) (st' := [.int 1]) (S' := S) rfl ?_
        cases hr
        have h9 : R 0 (.inr (vZ true)) S := hR _ rfl
        exact go_zreturn mm_51 rfl rfl (Or.inr rfl) h9
      · rw [if_neg hc5] at hr
        refine go_run mm_51 2 (pc' := 2) (ls' := [some (.ref h0), some (.int v1), some (.int v2), some (.int (a2 + 1))]) (st' := []) (S' := S) rfl ?_
        cases hr
        have h9 := hL (a2 + 1) rfl
        dsimp only at h9
        exact Go.le h9 (by repeat first | exact True.intro | refine And.intro rfl ?_)
    · rw [if_neg hc3] at hr
      refine go_run mm_51 2 (pc' := 2) (ls' := [some (.ref h0), some (.int v1), some (.int v2), some (.int (a2 + 1))]) (st' := []) (S' := S) rfl ?_
      cases hr
      have h9 := hL (a2 + 1) rfl
      dsimp only at h9
      exact Go.le h9 (by repeat first | exact True.intro | refine And.intro rfl ?_)
  · rw [if_neg hc1] at hr
    cases hr
    have h9 := hR (.inl (a2)) rfl
    dsimp only [Sum.elim_inl] at h9
    exact Go.le h9 (by repeat first | exact True.intro | refine And.intro rfl ?_)
def F_51 (h0 : Nat) (v1 : Int32) (v2 : Int32) (S : ST) : Option Bool := ob (wh FU (L_51_2 h0 v1 v2 S) (0)) (fun z => Sum.elim (fun e2 => some false) (fun o => some o) z)
set_option maxRecDepth 20000 in
theorem S_51 {d : Nat} {S : ST} {h0 : Nat} {v1 : Int32} {v2 : Int32} {r} (hp0 : PLH h0) (hr : F_51 h0 v1 v2 S = some r) : Cal XC d 51 [.ref h0, .int v1, .int v2] S (RV (vZ r) S) := by
  unfold F_51 at hr
  refine cal_go 1 rfl ?_
  refine go_run mm_51 2 (pc' := 2) (ls' := [some (.ref h0), some (.int v1), some (.int v2), some (.int 0)]) (st' := []) (S' := S) rfl ?_
  obtain ⟨z2, he2, hr⟩ := ob_some hr
  refine Go.le (ls' := [some (.ref h0), some (.int v1), some (.int v2), some (.int 0)]) ?_ (by repeat first | exact True.intro | refine And.intro rfl ?_)
  refine wh_go (P := fun a2 => Go XC d 51 0 2 [some (.ref h0), some (.int v1), some (.int v2), some (.int a2)] [] S (RV (vZ r) S)) (K := fun z => Sum.elim (fun e2 => Go XC d 51 0 38 [some (.ref h0), some (.int v1), some (.int v2), some (.int e2)] [] S (RV (vZ r) S)) (fun o => (RV (vZ r) S) 0 (.inr (vZ o)) S) z) (fun a9 r9 h9 hL hR => LS_51_2 hp0 h9 hL hR) _ _ _ he2 ?_
  rcases z2 with e2 | o
  rotate_left
  · simp only [Sum.elim_inr] at hr
    cases hr
    exact ⟨rfl, rfl, rfl⟩
  simp only [Sum.elim_inl] at hr
  show Go XC d 51 0 38 [some (.ref h0), some (.int v1), some (.int v2), some (.int e2)] [] S (RV (vZ r) S)
  refine go_run mm_51 1 (pc' := 39) (ls' := [some (.ref h0), some (.int v1), some (.int v2), some (.int e2)]) (st' := [.int 0]) (S' := S) rfl ?_
  cases hr
  exact go_zreturn mm_51 rfl rfl (Or.inl rfl) ⟨rfl, rfl, rfl⟩

theorem mm_54 : mtG 54 = some (mi_54, 6, ft_54) := rfl
def F_54 (h0 : Nat) (v1 : Int32) (S : ST) : Option Int32 := if v1 < 0 then (some 0) else (if v1 < (S.1 h0 1) then (ck (ibd v1 6) (some (S.1 (h0 + 5) (Int32.toNatClampNeg v1)))) else (some 0))
set_option maxRecDepth 20000 in
theorem S_54 {d : Nat} {S : ST} {h0 : Nat} {v1 : Int32} {r} (hp0 : PLH h0) (hr : F_54 h0 v1 S = some r) : Cal XC d 54 [.ref h0, .int v1] S (RV (vI r) S) := by
  unfold F_54 at hr
  refine cal_go 0 rfl ?_
  refine go_run mm_54 1 (pc' := 1) (ls' := [some (.ref h0), some (.int v1)]) (st' := [.int v1]) (S' := S) rfl ?_
  refine go_if0 mm_54 rfl (p1 := 21) (p2 := 4) rfl (fun (hc1 : v1 < 0) => ?_) (fun (hc1 : ¬ v1 < 0) => ?_)
  · rw [if_pos hc1] at hr
    refine go_run mm_54 1 (pc' := 22) (ls' := [some (.ref h0), some (.int v1)]) (st' := [.int 0]) (S' := S) rfl ?_
    cases hr
    exact go_ireturn mm_54 rfl rfl ⟨rfl, rfl, rfl⟩
  · rw [if_neg hc1] at hr
    refine go_run mm_54 2 (pc' := 6) (ls' := [some (.ref h0), some (.int v1)]) (st' := [.ref h0, .int v1]) (S' := S) rfl ?_
    refine go_getf mm_54 (h := h0) rfl hp0.1 rfl ?_
    show Go XC d 54 0 9 [some (.ref h0), some (.int v1)] [.int (S.1 h0 1), .int v1] S (RV (vI r) S)
    refine go_if2 mm_54 rfl (p1 := 12) (p2 := 21) rfl (fun (hc2 : v1 < (S.1 h0 1)) => ?_) (fun (hc2 : ¬ v1 < (S.1 h0 1)) => ?_)
    · rw [if_pos hc2] at hr
      refine go_run mm_54 1 (pc' := 13) (ls' := [some (.ref h0), some (.int v1)]) (st' := [.ref h0]) (S' := S) rfl ?_
      refine go_getf mm_54 (h := h0) rfl hp0.1 rfl ?_
      show Go XC d 54 0 16 [some (.ref h0), some (.int v1)] [.ref (h0 + 5)] S (RV (vI r) S)
      refine go_run mm_54 1 (pc' := 17) (ls' := [some (.ref h0), some (.int v1)]) (st' := [.int v1, .ref (h0 + 5)]) (S' := S) rfl ?_
      obtain ⟨hb3, hr⟩ := ck_some hr
      refine go_iaload mm_54 (q := (Int32.toNatClampNeg v1)) rfl (hp0.2.2.2.2.2.1) rfl (ibd_ok hb3) ?_
      show Go XC d 54 0 18 [some (.ref h0), some (.int v1)] [.int (S.1 (h0 + 5) (Int32.toNatClampNeg v1))] S (RV (vI r) S)
      refine go_run mm_54 1 (pc' := 22) (ls' := [some (.ref h0), some (.int v1)]) (st' := [.int (S.1 (h0 + 5) (Int32.toNatClampNeg v1))]) (S' := S) rfl ?_
      cases hr
      exact go_ireturn mm_54 rfl rfl ⟨rfl, rfl, rfl⟩
    · rw [if_neg hc2] at hr
      refine go_run mm_54 1 (pc' := 22) (ls' := [some (.ref h0), some (.int v1)]) (st' := [.int 0]) (S' := S) rfl ?_
      cases hr
      exact go_ireturn mm_54 rfl rfl ⟨rfl, rfl, rfl⟩

theorem mm_56 : mtG 56 = some (mi_56, 6, ft_56) := rfl
def F_56 (h0 : Nat) (v1 : Int32) (v2 : Int32) (v3 : Int32) (S : ST) : Option (Unit × ST) := if v1 < 0 then (some ((), S)) else (if v1 < (S.1 h0 1) then (ck (ibd v1 6) (sbn ((wI S (h0 + 3) (Int32.toNatClampNeg v1) v2)) (fun s4 => ck (ibd v1 6) (sbn ((wI s4 (h0 + 4) (Int32.toNatClampNeg v1) v3)) (fun s6 => some ((), s6)))))) else (some ((), S)))
set_option maxRecDepth 20000 in
theorem S_56 {d : Nat} {S : ST} {h0 : Nat} {v1 : Int32} {v2 : Int32} {v3 : Int32} {r} (hp0 : PLH h0) (hr : F_56 h0 v1 v2 v3 S = some r) : Cal XC d 56 [.ref h0, .int v1, .int v2, .int v3] S (RV (vU r.1) r.2) := by
  unfold F_56 at hr
  refine cal_go 0 rfl ?_
  refine go_run mm_56 1 (pc' := 1) (ls' := [some (.ref h0), some (.int v1), some (.int v2), some (.int v3)]) (st' := [.int v1]) (S' := S) rfl ?_
  refine go_if0 mm_56 rfl (p1 := 26) (p2 := 4) rfl (fun (hc1 : v1 < 0) => ?_) (fun (hc1 : ¬ v1 < 0) => ?_)
  · rw [if_pos hc1] at hr
    cases hr
    exact go_vreturn mm_56 rfl rfl ⟨rfl, rfl, rfl⟩
  · rw [if_neg hc1] at hr
    refine go_run mm_56 2 (pc' := 6) (ls' := [some (.ref h0), some (.int v1), some (.int v2), some (.int v3)]) (st' := [.ref h0, .int v1]) (S' := S) rfl ?_
    refine go_getf mm_56 (h := h0) rfl hp0.1 rfl ?_
    show Go XC d 56 0 9 [some (.ref h0), some (.int v1), some (.int v2), some (.int v3)] [.int (S.1 h0 1), .int v1] S (RV (vU r.1) r.2)
    refine go_if2 mm_56 rfl (p1 := 12) (p2 := 26) rfl (fun (hc2 : v1 < (S.1 h0 1)) => ?_) (fun (hc2 : ¬ v1 < (S.1 h0 1)) => ?_)
    · rw [if_pos hc2] at hr
      refine go_run mm_56 1 (pc' := 13) (ls' := [some (.ref h0), some (.int v1), some (.int v2), some (.int v3)]) (st' := [.ref h0]) (S' := S) rfl ?_
      refine go_getf mm_56 (h := h0) rfl hp0.1 rfl ?_
      show Go XC d 56 0 16 [some (.ref h0), some (.int v1), some (.int v2), some (.int v3)] [.ref (h0 + 3)] S (RV (vU r.1) r.2)
      refine go_run mm_56 2 (pc' := 18) (ls' := [some (.ref h0), some (.int v1), some (.int v2), some (.int v3)]) (st' := [.int v2, .int v1, .ref (h0 + 3)]) (S' := S) rfl ?_
      obtain ⟨hb3, hr⟩ := ck_some hr
      refine go_iastore mm_56 (q := (Int32.toNatClampNeg v1)) rfl (hp0.2.2.2.1) rfl (ibd_ok hb3) ?_
      show Go XC d 56 0 19 [some (.ref h0), some (.int v1), some (.int v2), some (.int v3)] [] (wI S (h0 + 3) (Int32.toNatClampNeg v1) v2) (RV (vU r.1) r.2)
      obtain ⟨s4, es4, hr⟩ := sbn_some hr
      rw [← es4]
      refine go_run mm_56 1 (pc' := 20) (ls' := [some (.ref h0), some (.int v1), some (.int v2), some (.int v3)]) (st' := [.ref h0]) (S' := s4) rfl ?_
      refine go_getf mm_56 (h := h0) rfl hp0.1 rfl ?_
      show Go XC d 56 0 23 [some (.ref h0), some (.int v1), some (.int v2), some (.int v3)] [.ref (h0 + 4)] s4 (RV (vU r.1) r.2)
      refine go_run mm_56 2 (pc' := 25) (ls' := [some (.ref h0), some (.int v1), some (.int v2), some (.int v3)]) (st' := [.int v3, .int v1, .ref (h0 + 4)]) (S' := s4) rfl ?_
      obtain ⟨hb5, hr⟩ := ck_some hr
      refine go_iastore mm_56 (q := (Int32.toNatClampNeg v1)) rfl (hp0.2.2.2.2.1) rfl (ibd_ok hb5) ?_
      show Go XC d 56 0 26 [some (.ref h0), some (.int v1), some (.int v2), some (.int v3)] [] (wI s4 (h0 + 4) (Int32.toNatClampNeg v1) v3) (RV (vU r.1) r.2)
      obtain ⟨s6, es6, hr⟩ := sbn_some hr
      rw [← es6]
      cases hr
      exact go_vreturn mm_56 rfl rfl ⟨rfl, rfl, rfl⟩
    · rw [if_neg hc2] at hr
      cases hr
      exact go_vreturn mm_56 rfl rfl ⟨rfl, rfl, rfl⟩

theorem mm_57 : mtG 57 = some (mi_57, 6, ft_57) := rfl
def F_57 (h0 : Nat) (v1 : Int32) (v2 : Int32) (S : ST) : Option (Unit × ST) := if v1 < 0 then (some ((), S)) else (if v1 < (S.1 h0 1) then (ck (ibd v1 6) (sbn ((wI S (h0 + 5) (Int32.toNatClampNeg v1) v2)) (fun s4 => some ((), s4)))) else (some ((), S)))
set_option maxRecDepth 20000 in
theorem S_57 {d : Nat} {S : ST} {h0 : Nat} {v1 : Int32} {v2 : Int32} {r} (hp0 : PLH h0) (hr : F_57 h0 v1 v2 S = some r) : Cal XC d 57 [.ref h0, .int v1, .int v2] S (RV (vU r.1) r.2) := by
  unfold F_57 at hr
  refine cal_go 0 rfl ?_
  refine go_run mm_57 1 (pc' := 1) (ls' := [some (.ref h0), some (.int v1), some (.int v2)]) (st' := [.int v1]) (S' := S) rfl ?_
  refine go_if0 mm_57 rfl (p1 := 19) (p2 := 4) rfl (fun (hc1 : v1 < 0) => ?_) (fun (hc1 : ¬ v1 < 0) => ?_)
  · rw [if_pos hc1] at hr
    cases hr
    exact go_vreturn mm_57 rfl rfl ⟨rfl, rfl, rfl⟩
  · rw [if_neg hc1] at hr
    refine go_run mm_57 2 (pc' := 6) (ls' := [some (.ref h0), some (.int v1), some (.int v2)]) (st' := [.ref h0, .int v1]) (S' := S) rfl ?_
    refine go_getf mm_57 (h := h0) rfl hp0.1 rfl ?_
    show Go XC d 57 0 9 [some (.ref h0), some (.int v1), some (.int v2)] [.int (S.1 h0 1), .int v1] S (RV (vU r.1) r.2)
    refine go_if2 mm_57 rfl (p1 := 12) (p2 := 19) rfl (fun (hc2 : v1 < (S.1 h0 1)) => ?_) (fun (hc2 : ¬ v1 < (S.1 h0 1)) => ?_)
    · rw [if_pos hc2] at hr
      refine go_run mm_57 1 (pc' := 13) (ls' := [some (.ref h0), some (.int v1), some (.int v2)]) (st' := [.ref h0]) (S' := S) rfl ?_
      refine go_getf mm_57 (h := h0) rfl hp0.1 rfl ?_
      show Go XC d 57 0 16 [some (.ref h0), some (.int v1), some (.int v2)] [.ref (h0 + 5)] S (RV (vU r.1) r.2)
      refine go_run mm_57 2 (pc' := 18) (ls' := [some (.ref h0), some (.int v1), some (.int v2)]) (st' := [.int v2, .int v1, .ref (h0 + 5)]) (S' := S) rfl ?_
      obtain ⟨hb3, hr⟩ := ck_some hr
      refine go_iastore mm_57 (q := (Int32.toNatClampNeg v1)) rfl (hp0.2.2.2.2.2.1) rfl (ibd_ok hb3) ?_
      show Go XC d 57 0 19 [some (.ref h0), some (.int v1), some (.int v2)] [] (wI S (h0 + 5) (Int32.toNatClampNeg v1) v2) (RV (vU r.1) r.2)
      obtain ⟨s4, es4, hr⟩ := sbn_some hr
      rw [← es4]
      cases hr
      exact go_vreturn mm_57 rfl rfl ⟨rfl, rfl, rfl⟩
    · rw [if_neg hc2] at hr
      cases hr
      exact go_vreturn mm_57 rfl rfl ⟨rfl, rfl, rfl⟩

theorem mm_58 : mtG 58 = some (mi_58, 6, ft_58) := rfl
def L_58_15 (h0 : Nat) (v1 : Int32) (a15 : Int32 × ST) : Option ((Int32 × ST) ⊕ (Int32 × ST)) := if (a15.1 + 1) < (a15.2.1 h0 1) then (ck (ibd (a15.1 + 1) 6) (ck (ibd a15.1 6) (sbn ((wI a15.2 (h0 + 3) (Int32.toNatClampNeg a15.1) (a15.2.1 (h0 + 3) (Int32.toNatClampNeg (a15.1 + 1))))) (fun s6 => ck (ibd (a15.1 + 1) 6) (ck (ibd a15.1 6) (sbn ((wI s6 (h0 + 4) (Int32.toNatClampNeg a15.1) (s6.1 (h0 + 4) (Int32.toNatClampNeg (a15.1 + 1))))) (fun s9 => ck (ibd (a15.1 + 1) 6) (ck (ibd a15.1 6) (sbn ((wI s9 (h0 + 5) (Int32.toNatClampNeg a15.1) (s9.1 (h0 + 5) (Int32.toNatClampNeg (a15.1 + 1))))) (fun s12 => some (.inl (a15.1 + 1, s12)))))))))))) else (some (.inr (a15.1, a15.2)))
set_option maxRecDepth 20000 in
theorem LS_58_15 {d : Nat} {R : RT} {h0 : Nat} {v1 : Int32} (hp0 : PLH h0) {a15 : Int32 × ST} {r9} (hr : L_58_15 h0 v1 a15 = some r9) (hL : ∀ a9, r9 = .inl a9 → (fun a15 => Go XC d 58 0 15 [some (.ref h0), some (.int v1), some (.int a15.1)] [] a15.2 R) a9) (hR : ∀ b9, r9 = .inr b9 → (fun e15 => Go XC d 58 0 73 [some (.ref h0), some (.int v1), some (.int e15.1)] [] e15.2 R) b9) : Go XC d 58 0 15 [some (.ref h0), some (.int v1), some (.int a15.1)] [] a15.2 R := by
  unfold L_58_15 at hr
  refine go_run mm_58 4 (pc' := 19) (ls' := [some (.ref h0), some (.int v1), some (.int a15.1)]) (st' := [.ref h0, .int (a15.1 + 1)]) (S' := a15.2) rfl ?_
  refine go_getf mm_58 (h := h0) rfl hp0.1 rfl ?_
  show Go XC d 58 0 22 [some (.ref h0), some (.int v1), some (.int a15.1)] [.int (a15.2.1 h0 1), .int (a15.1 + 1)] a15.2 R
  refine go_if2 mm_58 rfl (p1 := 25) (p2 := 73) rfl (fun (hc3 : (a15.1 + 1) < (a15.2.1 h0 1)) => ?_) (fun (hc3 : ¬ (a15.1 + 1) < (a15.2.1 h0 1)) => ?_)
  · rw [if_pos hc3] at hr
    refine go_run mm_58 1 (pc' := 26) (ls' := [some (.ref h0), some (.int v1), some (.int a15.1)]) (st' := [.ref h0]) (S' := a15.2) rfl ?_
    refine go_getf mm_58 (h := h0) rfl hp0.1 rfl ?_
    show Go XC d 58 0 29 [some (.ref h0), some (.int v1), some (.int a15.1)] [.ref (h0 + 3)] a15.2 R
    refine go_run mm_58 2 (pc' := 31) (ls' := [some (.ref h0), some (.int v1), some (.int a15.1)]) (st' := [.ref h0, .int a15.1, .ref (h0 + 3)]) (S' := a15.2) rfl ?_
    refine go_getf mm_58 (h := h0) rfl hp0.1 rfl ?_
    show Go XC d 58 0 34 [some (.ref h0), some (.int v1), some (.int a15.1)] [.ref (h0 + 3), .int a15.1, .ref (h0 + 3)] a15.2 R
    refine go_run mm_58 3 (pc' := 37) (ls' := [some (.ref h0), some (.int v1), some (.int a15.1)]) (st' := [.int (a15.1 + 1), .ref (h0 + 3), .int a15.1, .ref (h0 + 3)]) (S' := a15.2) rfl ?_
    obtain ⟨hb4, hr⟩ := ck_some hr
    refine go_iaload mm_58 (q := (Int32.toNatClampNeg (a15.1 + 1))) rfl (hp0.2.2.2.1) rfl (ibd_ok hb4) ?_
    show Go XC d 58 0 38 [some (.ref h0), some (.int v1), some (.int a15.1)] [.int (a15.2.1 (h0 + 3) (Int32.toNatClampNeg (a15.1 + 1))), .int a15.1, .ref (h0 + 3)] a15.2 R
    obtain ⟨hb5, hr⟩ := ck_some hr
    refine go_iastore mm_58 (q := (Int32.toNatClampNeg a15.1)) rfl (hp0.2.2.2.1) rfl (ibd_ok hb5) ?_
    show Go XC d 58 0 39 [some (.ref h0), some (.int v1), some (.int a15.1)] [] (wI a15.2 (h0 + 3) (Int32.toNatClampNeg a15.1) (a15.2.1 (h0 + 3) (Int32.toNatClampNeg (a15.1 + 1)))) R
    obtain ⟨s6, es6, hr⟩ := sbn_some hr
    rw [← es6]
    refine go_run mm_58 1 (pc' := 40) (ls' := [some (.ref h0), some (.int v1), some (.int a15.1)]) (st' := [.ref h0]) (S' := s6) rfl ?_
    refine go_getf mm_58 (h := h0) rfl hp0.1 rfl ?_
    show Go XC d 58 0 43 [some (.ref h0), some (.int v1), some (.int a15.1)] [.ref (h0 + 4)] s6 R
    refine go_run mm_58 2 (pc' := 45) (ls' := [some (.ref h0), some (.int v1), some (.int a15.1)]) (st' := [.ref h0, .int a15.1, .ref (h0 + 4)]) (S' := s6) rfl ?_
    refine go_getf mm_58 (h := h0) rfl hp0.1 rfl ?_
    show Go XC d 58 0 48 [some (.ref h0), some (.int v1), some (.int a15.1)] [.ref (h0 + 4), .int a15.1, .ref (h0 + 4)] s6 R
    refine go_run mm_58 3 (pc' := 51) (ls' := [some (.ref h0), some (.int v1), some (.int a15.1)]) (st' := [.int (a15.1 + 1), .ref (h0 + 4), .int a15.1, .ref (h0 + 4)]) (S' := s6) rfl ?_
    obtain ⟨hb7, hr⟩ := ck_some hr
    refine go_iaload mm_58 (q := (Int32.toNatClampNeg (a15.1 + 1))) rfl (hp0.2.2.2.2.1) rfl (ibd_ok hb7) ?_
    show Go XC d 58 0 52 [some (.ref h0), some (.int v1), some (.int a15.1)] [.int (s6.1 (h0 + 4) (Int32.toNatClampNeg (a15.1 + 1))), .int a15.1, .ref (h0 + 4)] s6 R
    obtain ⟨hb8, hr⟩ := ck_some hr
    refine go_iastore mm_58 (q := (Int32.toNatClampNeg a15.1)) rfl (hp0.2.2.2.2.1) rfl (ibd_ok hb8) ?_
    show Go XC d 58 0 53 [some (.ref h0), some (.int v1), some (.int a15.1)] [] (wI s6 (h0 + 4) (Int32.toNatClampNeg a15.1) (s6.1 (h0 + 4) (Int32.toNatClampNeg (a15.1 + 1)))) R
    obtain ⟨s9, es9, hr⟩ := sbn_some hr
    rw [← es9]
    refine go_run mm_58 1 (pc' := 54) (ls' := [some (.ref h0), some (.int v1), some (.int a15.1)]) (st' := [.ref h0]) (S' := s9) rfl ?_
    refine go_getf mm_58 (h := h0) rfl hp0.1 rfl ?_
    show Go XC d 58 0 57 [some (.ref h0), some (.int v1), some (.int a15.1)] [.ref (h0 + 5)] s9 R
    refine go_run mm_58 2 (pc' := 59) (ls' := [some (.ref h0), some (.int v1), some (.int a15.1)]) (st' := [.ref h0, .int a15.1, .ref (h0 + 5)]) (S' := s9) rfl ?_
    refine go_getf mm_58 (h := h0) rfl hp0.1 rfl ?_
    show Go XC d 58 0 62 [some (.ref h0), some (.int v1), some (.int a15.1)] [.ref (h0 + 5), .int a15.1, .ref (h0 + 5)] s9 R
    refine go_run mm_58 3 (pc' := 65) (ls' := [some (.ref h0), some (.int v1), some (.int a15.1)]) (st' := [.int (a15.1 + 1), .ref (h0 + 5), .int a15.1, .ref (h0 + 5)]) (S' := s9) rfl ?_
    obtain ⟨hb10, hr⟩ := ck_some hr
    refine go_iaload mm_58 (q := (Int32.toNatClampNeg (a15.1 + 1))) rfl (hp0.2.2.2.2.2.1) rfl (ibd_ok hb10) ?_
    show Go XC d 58 0 66 [some (.ref h0), some (.int v1), some (.int a15.1)] [.int (s9.1 (h0 + 5) (Int32.toNatClampNeg (a15.1 + 1))), .int a15.1, .ref (h0 + 5)] s9 R
    obtain ⟨hb11, hr⟩ := ck_some hr
    refine go_iastore mm_58 (q := (Int32.toNatClampNeg a15.1)) rfl (hp0.2.2.2.2.2.1) rfl (ibd_ok hb11) ?_
    show Go XC d 58 0 67 [some (.ref h0), some (.int v1), some (.int a15.1)] [] (wI s9 (h0 + 5) (Int32.toNatClampNeg a15.1) (s9.1 (h0 + 5) (Int32.toNatClampNeg (a15.1 + 1)))) R
    obtain ⟨s12, es12, hr⟩ := sbn_some hr
    rw [← es12]
    refine go_run mm_58 2 (pc' := 15) (ls' := [some (.ref h0), some (.int v1), some (.int (a15.1 + 1))]) (st' := []) (S' := s12) rfl ?_
    cases hr
    have h9 := hL (a15.1 + 1, s12) rfl
    dsimp only at h9
    exact Go.le h9 (by repeat first | exact True.intro | refine And.intro rfl ?_)
  · rw [if_neg hc3] at hr
    cases hr
    have h9 := hR (a15.1, a15.2) rfl
    dsimp only [Sum.elim_inl] at h9
    exact Go.le h9 (by repeat first | exact True.intro | refine And.intro rfl ?_)
def F_58 (h0 : Nat) (v1 : Int32) (S : ST) : Option (Unit × ST) := if v1 < 0 then (some ((), S)) else (if v1 < (S.1 h0 1) then (ob (wh FU (L_58_15 h0 v1) (v1, S)) (fun e15 => sbn ((wI e15.2 h0 1 ((e15.2.1 h0 1) - 1))) (fun s13 => some ((), s13)))) else (some ((), S)))
set_option maxRecDepth 20000 in
theorem S_58 {d : Nat} {S : ST} {h0 : Nat} {v1 : Int32} {r} (hp0 : PLH h0) (hr : F_58 h0 v1 S = some r) : Cal XC d 58 [.ref h0, .int v1] S (RV (vU r.1) r.2) := by
  unfold F_58 at hr
  refine cal_go 1 rfl ?_
  refine go_run mm_58 1 (pc' := 1) (ls' := [some (.ref h0), some (.int v1), none]) (st' := [.int v1]) (S' := S) rfl ?_
  refine go_if0 mm_58 rfl (p1 := 12) (p2 := 4) rfl (fun (hc1 : v1 < 0) => ?_) (fun (hc1 : ¬ v1 < 0) => ?_)
  · rw [if_pos hc1] at hr
    cases hr
    exact go_vreturn mm_58 rfl rfl ⟨rfl, rfl, rfl⟩
  · rw [if_neg hc1] at hr
    refine go_run mm_58 2 (pc' := 6) (ls' := [some (.ref h0), some (.int v1), none]) (st' := [.ref h0, .int v1]) (S' := S) rfl ?_
    refine go_getf mm_58 (h := h0) rfl hp0.1 rfl ?_
    show Go XC d 58 0 9 [some (.ref h0), some (.int v1), none] [.int (S.1 h0 1), .int v1] S (RV (vU r.1) r.2)
    refine go_if2 mm_58 rfl (p1 := 13) (p2 := 12) rfl (fun (hc2 : v1 < (S.1 h0 1)) => ?_) (fun (hc2 : ¬ v1 < (S.1 h0 1)) => ?_)
    · rw [if_pos hc2] at hr
      refine go_run mm_58 2 (pc' := 15) (ls' := [some (.ref h0), some (.int v1), some (.int v1)]) (st' := []) (S' := S) rfl ?_
      obtain ⟨z15, he15, hr⟩ := ob_some hr
      refine Go.le (ls' := [some (.ref h0), some (.int v1), some (.int v1)]) ?_ (by repeat first | exact True.intro | refine And.intro rfl ?_)
      refine wh_go (P := fun a15 => Go XC d 58 0 15 [some (.ref h0), some (.int v1), some (.int a15.1)] [] a15.2 (RV (vU r.1) r.2)) (K := fun e15 => Go XC d 58 0 73 [some (.ref h0), some (.int v1), some (.int e15.1)] [] e15.2 (RV (vU r.1) r.2)) (fun a9 r9 h9 hL hR => LS_58_15 hp0 h9 hL hR) _ _ _ he15 ?_
      generalize z15 = e15 at hr
      show Go XC d 58 0 73 [some (.ref h0), some (.int v1), some (.int e15.1)] [] e15.2 (RV (vU r.1) r.2)
      refine go_run mm_58 2 (pc' := 75) (ls' := [some (.ref h0), some (.int v1), some (.int e15.1)]) (st' := [.ref h0, .ref h0]) (S' := e15.2) rfl ?_
      refine go_getf mm_58 (h := h0) rfl hp0.1 rfl ?_
      show Go XC d 58 0 78 [some (.ref h0), some (.int v1), some (.int e15.1)] [.int (e15.2.1 h0 1), .ref h0] e15.2 (RV (vU r.1) r.2)
      refine go_run mm_58 2 (pc' := 80) (ls' := [some (.ref h0), some (.int v1), some (.int e15.1)]) (st' := [.int ((e15.2.1 h0 1) - 1), .ref h0]) (S' := e15.2) rfl ?_
      refine go_putI mm_58 (h := h0) rfl hp0.1 rfl ?_
      show Go XC d 58 0 83 [some (.ref h0), some (.int v1), some (.int e15.1)] [] (wI e15.2 h0 1 ((e15.2.1 h0 1) - 1)) (RV (vU r.1) r.2)
      obtain ⟨s13, es13, hr⟩ := sbn_some hr
      rw [← es13]
      cases hr
      exact go_vreturn mm_58 rfl rfl ⟨rfl, rfl, rfl⟩
    · rw [if_neg hc2] at hr
      cases hr
      exact go_vreturn mm_58 rfl rfl ⟨rfl, rfl, rfl⟩

theorem mm_59 : mtG 59 = some (mi_59, 6, ft_59) := rfl
def L_59_2 (h0 : Nat) (v1 : Int32) (v2 : Int32) (S : ST) (a2 : Int32) : Option ((Int32) ⊕ ((Int32) ⊕ Bool)) := if a2 < (S.1 h0 1) then (ck (ibd a2 6) (if (S.1 (h0 + 3) (Int32.toNatClampNeg a2)) = v1 then (ck (ibd a2 6) (if (S.1 (h0 + 4) (Int32.toNatClampNeg a2)) = v2 then (some (.inr (.inr true))) else (some (.inl (a2 + 1))))) else (some (.inl (a2 + 1))))) else (some (.inr (.inl (a2))))
set_option maxRecDepth 20000 in
theorem LS_59_2 {d : Nat} {R : RT} {S : ST} {h0 : Nat} {v1 : Int32} {v2 : Int32} (hp0 : PLH h0) {a2 : Int32} {r9} (hr : L_59_2 h0 v1 v2 S a2 = some r9) (hL : ∀ a9, r9 = .inl a9 → (fun a2 => Go XC d 59 0 2 [some (.ref h0), some (.int v1), some (.int v2), some (.int a2)] [] S R) a9) (hR : ∀ b9, r9 = .inr b9 → Sum.elim (fun e2 => Go XC d 59 0 38 [some (.ref h0), some (.int v1), some (.int v2), some (.int e2)] [] S R) (fun o => R 0 (.inr (vZ o)) S) b9) : Go XC d 59 0 2 [some (.ref h0), some (.int v1), some (.int v2), some (.int a2)] [] S R := by
  unfold L_59_2 at hr
  refine go_run mm_59 2 (pc' := 4) (ls' := [some (.ref h0), some (.int v1), some (.int v2), some (.int a2)]) (st' := [.ref h0, .int a2]) (S' := S) rfl ?_
  refine go_getf mm_59 (h := h0) rfl hp0.1 rfl ?_
  show Go XC d 59 0 7 [some (.ref h0), some (.int v1), some (.int v2), some (.int a2)] [.int (S.1 h0 1), .int a2] S R
  refine go_if2 mm_59 rfl (p1 := 10) (p2 := 38) rfl (fun (hc1 : a2 < (S.1 h0 1)) => ?_) (fun (hc1 : ¬ a2 < (S.1 h0 1)) => ?_)
  · rw [if_pos hc1] at hr
    refine go_run mm_59 1 (pc' := 11) (ls' := [some (.ref h0), some (.int v1), some (.int v2), some (.int a2)]) (st' := [.ref h0]) (S' := S) rfl ?_
    refine go_getf mm_59 (h := h0) rfl hp0.1 rfl ?_
    show Go XC d 59 0 14 [some (.ref h0), some (.int v1), some (.int v2), some (.int a2)] [.ref (h0 + 3)] S R
    refine go_run mm_59 1 (pc' := 15) (ls' := [some (.ref h0), some (.int v1), some (.int v2), some (.int a2)]) (st' := [.int a2, .ref (h0 + 3)]) (S' := S) rfl ?_
    obtain ⟨hb2, hr⟩ := ck_some hr
    refine go_iaload mm_59 (q := (Int32.toNatClampNeg a2)) rfl (hp0.2.2.2.1) rfl (ibd_ok hb2) ?_
    show Go XC d 59 0 16 [some (.ref h0), some (.int v1), some (.int v2), some (.int a2)] [.int (S.1 (h0 + 3) (Int32.toNatClampNeg a2))] S R
    refine go_run mm_59 1 (pc' := 17) (ls' := [some (.ref h0), some (.int v1), some (.int v2), some (.int a2)]) (st' := [.int v1, .int (S.1 (h0 + 3) (Int32.toNatClampNeg a2))]) (S' := S) rfl ?_
    refine go_if2 mm_59 rfl (p1 := 20) (p2 := 32) rfl (fun (hc3 : (S.1 (h0 + 3) (Int32.toNatClampNeg a2)) = v1) => ?_) (fun (hc3 : ¬ (S.1 (h0 + 3) (Int32.toNatClampNeg a2)) = v1) => ?_)
    · rw [if_pos hc3] at hr
      refine go_run mm_59 1 (pc' := 21) (ls' := [some (.ref h0), some (.int v1), some (.int v2), some (.int a2)]) (st' := [.ref h0]) (S' := S) rfl ?_
      refine go_getf mm_59 (h := h0) rfl hp0.1 rfl ?_
      show Go XC d 59 0 24 [some (.ref h0), some (.int v1), some (.int v2), some (.int a2)] [.ref (h0 + 4)] S R
      refine go_run mm_59 1 (pc' := 25) (ls' := [some (.ref h0), some (.int v1), some (.int v2), some (.int a2)]) (st' := [.int a2, .ref (h0 + 4)]) (S' := S) rfl ?_
      obtain ⟨hb4, hr⟩ := ck_some hr
      refine go_iaload mm_59 (q := (Int32.toNatClampNeg a2)) rfl (hp0.2.2.2.2.1) rfl (ibd_ok hb4) ?_
      show Go XC d 59 0 26 [some (.ref h0), some (.int v1), some (.int v2), some (.int a2)] [.int (S.1 (h0 + 4) (Int32.toNatClampNeg a2))] S R
      refine go_run mm_59 1 (pc' := 27) (ls' := [some (.ref h0), some (.int v1), some (.int v2), some (.int a2)]) (st' := [.int v2, .int (S.1 (h0 + 4) (Int32.toNatClampNeg a2))]) (S' := S) rfl ?_
      refine go_if2 mm_59 rfl (p1 := 30) (p2 := 32) rfl (fun (hc5 : (S.1 (h0 + 4) (Int32.toNatClampNeg a2)) = v2) => ?_) (fun (hc5 : ¬ (S.1 (h0 + 4) (Int32.toNatClampNeg a2)) = v2) => ?_)
      · rw [if_pos hc5] at hr
        refine go_run mm_59 1 (pc' := 31) (ls' := [some (.ref h0), some (.int v1), some (.int v2), some (.int a2)]) (st' := [.int 1]) (S' := S) rfl ?_
        cases hr
        have h9 : R 0 (.inr (vZ true)) S := hR _ rfl
        exact go_zreturn mm_59 rfl rfl (Or.inr rfl) h9
      · rw [if_neg hc5] at hr
        refine go_run mm_59 2 (pc' := 2) (ls' := [some (.ref h0), some (.int v1), some (.int v2), some (.int (a2 + 1))]) (st' := []) (S' := S) rfl ?_
        cases hr
        have h9 := hL (a2 + 1) rfl
        dsimp only at h9
        exact Go.le h9 (by repeat first | exact True.intro | refine And.intro rfl ?_)
    · rw [if_neg hc3] at hr
      refine go_run mm_59 2 (pc' := 2) (ls' := [some (.ref h0), some (.int v1), some (.int v2), some (.int (a2 + 1))]) (st' := []) (S' := S) rfl ?_
      cases hr
      have h9 := hL (a2 + 1) rfl
      dsimp only at h9
      exact Go.le h9 (by repeat first | exact True.intro | refine And.intro rfl ?_)
  · rw [if_neg hc1] at hr
    cases hr
    have h9 := hR (.inl (a2)) rfl
    dsimp only [Sum.elim_inl] at h9
    exact Go.le h9 (by repeat first | exact True.intro | refine And.intro rfl ?_)
def F_59 (h0 : Nat) (v1 : Int32) (v2 : Int32) (S : ST) : Option Bool := ob (wh FU (L_59_2 h0 v1 v2 S) (0)) (fun z => Sum.elim (fun e2 => some false) (fun o => some o) z)
set_option maxRecDepth 20000 in
theorem S_59 {d : Nat} {S : ST} {h0 : Nat} {v1 : Int32} {v2 : Int32} {r} (hp0 : PLH h0) (hr : F_59 h0 v1 v2 S = some r) : Cal XC d 59 [.ref h0, .int v1, .int v2] S (RV (vZ r) S) := by
  unfold F_59 at hr
  refine cal_go 1 rfl ?_
  refine go_run mm_59 2 (pc' := 2) (ls' := [some (.ref h0), some (.int v1), some (.int v2), some (.int 0)]) (st' := []) (S' := S) rfl ?_
  obtain ⟨z2, he2, hr⟩ := ob_some hr
  refine Go.le (ls' := [some (.ref h0), some (.int v1), some (.int v2), some (.int 0)]) ?_ (by repeat first | exact True.intro | refine And.intro rfl ?_)
  refine wh_go (P := fun a2 => Go XC d 59 0 2 [some (.ref h0), some (.int v1), some (.int v2), some (.int a2)] [] S (RV (vZ r) S)) (K := fun z => Sum.elim (fun e2 => Go XC d 59 0 38 [some (.ref h0), some (.int v1), some (.int v2), some (.int e2)] [] S (RV (vZ r) S)) (fun o => (RV (vZ r) S) 0 (.inr (vZ o)) S) z) (fun a9 r9 h9 hL hR => LS_59_2 hp0 h9 hL hR) _ _ _ he2 ?_
  rcases z2 with e2 | o
  rotate_left
  · simp only [Sum.elim_inr] at hr
    cases hr
    exact ⟨rfl, rfl, rfl⟩
  simp only [Sum.elim_inl] at hr
  show Go XC d 59 0 38 [some (.ref h0), some (.int v1), some (.int v2), some (.int e2)] [] S (RV (vZ r) S)
  refine go_run mm_59 1 (pc' := 39) (ls' := [some (.ref h0), some (.int v1), some (.int v2), some (.int e2)]) (st' := [.int 0]) (S' := S) rfl ?_
  cases hr
  exact go_zreturn mm_59 rfl rfl (Or.inl rfl) ⟨rfl, rfl, rfl⟩

theorem mm_62 : mtG 62 = some (mi_62, 6, ft_62) := rfl
def F_62 (h0 : Nat) (v1 : Int32) (S : ST) : Option Int32 := if v1 < 0 then (some 0) else (if v1 < (S.1 h0 2) then (ck (ibd v1 6) (some (S.1 (h0 + 8) (Int32.toNatClampNeg v1)))) else (some 0))
set_option maxRecDepth 20000 in
theorem S_62 {d : Nat} {S : ST} {h0 : Nat} {v1 : Int32} {r} (hp0 : PLH h0) (hr : F_62 h0 v1 S = some r) : Cal XC d 62 [.ref h0, .int v1] S (RV (vI r) S) := by
  unfold F_62 at hr
  refine cal_go 0 rfl ?_
  refine go_run mm_62 1 (pc' := 1) (ls' := [some (.ref h0), some (.int v1)]) (st' := [.int v1]) (S' := S) rfl ?_
  refine go_if0 mm_62 rfl (p1 := 21) (p2 := 4) rfl (fun (hc1 : v1 < 0) => ?_) (fun (hc1 : ¬ v1 < 0) => ?_)
  · rw [if_pos hc1] at hr
    refine go_run mm_62 1 (pc' := 22) (ls' := [some (.ref h0), some (.int v1)]) (st' := [.int 0]) (S' := S) rfl ?_
    cases hr
    exact go_ireturn mm_62 rfl rfl ⟨rfl, rfl, rfl⟩
  · rw [if_neg hc1] at hr
    refine go_run mm_62 2 (pc' := 6) (ls' := [some (.ref h0), some (.int v1)]) (st' := [.ref h0, .int v1]) (S' := S) rfl ?_
    refine go_getf mm_62 (h := h0) rfl hp0.1 rfl ?_
    show Go XC d 62 0 9 [some (.ref h0), some (.int v1)] [.int (S.1 h0 2), .int v1] S (RV (vI r) S)
    refine go_if2 mm_62 rfl (p1 := 12) (p2 := 21) rfl (fun (hc2 : v1 < (S.1 h0 2)) => ?_) (fun (hc2 : ¬ v1 < (S.1 h0 2)) => ?_)
    · rw [if_pos hc2] at hr
      refine go_run mm_62 1 (pc' := 13) (ls' := [some (.ref h0), some (.int v1)]) (st' := [.ref h0]) (S' := S) rfl ?_
      refine go_getf mm_62 (h := h0) rfl hp0.1 rfl ?_
      show Go XC d 62 0 16 [some (.ref h0), some (.int v1)] [.ref (h0 + 8)] S (RV (vI r) S)
      refine go_run mm_62 1 (pc' := 17) (ls' := [some (.ref h0), some (.int v1)]) (st' := [.int v1, .ref (h0 + 8)]) (S' := S) rfl ?_
      obtain ⟨hb3, hr⟩ := ck_some hr
      refine go_iaload mm_62 (q := (Int32.toNatClampNeg v1)) rfl (hp0.2.2.2.2.2.2.2.2) rfl (ibd_ok hb3) ?_
      show Go XC d 62 0 18 [some (.ref h0), some (.int v1)] [.int (S.1 (h0 + 8) (Int32.toNatClampNeg v1))] S (RV (vI r) S)
      refine go_run mm_62 1 (pc' := 22) (ls' := [some (.ref h0), some (.int v1)]) (st' := [.int (S.1 (h0 + 8) (Int32.toNatClampNeg v1))]) (S' := S) rfl ?_
      cases hr
      exact go_ireturn mm_62 rfl rfl ⟨rfl, rfl, rfl⟩
    · rw [if_neg hc2] at hr
      refine go_run mm_62 1 (pc' := 22) (ls' := [some (.ref h0), some (.int v1)]) (st' := [.int 0]) (S' := S) rfl ?_
      cases hr
      exact go_ireturn mm_62 rfl rfl ⟨rfl, rfl, rfl⟩

theorem mm_64 : mtG 64 = some (mi_64, 6, ft_64) := rfl
def L_64_2 (h0 : Nat) (v1 : Int32) (v2 : Int32) (S : ST) (a2 : Int32) : Option ((Int32) ⊕ ((Int32) ⊕ Bool)) := if a2 < (S.1 h0 2) then (ck (ibd a2 6) (if (S.1 (h0 + 6) (Int32.toNatClampNeg a2)) = v1 then (ck (ibd a2 6) (if (S.1 (h0 + 7) (Int32.toNatClampNeg a2)) = v2 then (some (.inr (.inr true))) else (some (.inl (a2 + 1))))) else (some (.inl (a2 + 1))))) else (some (.inr (.inl (a2))))
set_option maxRecDepth 20000 in
theorem LS_64_2 {d : Nat} {R : RT} {S : ST} {h0 : Nat} {v1 : Int32} {v2 : Int32} (hp0 : PLH h0) {a2 : Int32} {r9} (hr : L_64_2 h0 v1 v2 S a2 = some r9) (hL : ∀ a9, r9 = .inl a9 → (fun a2 => Go XC d 64 0 2 [some (.ref h0), some (.int v1), some (.int v2), some (.int a2)] [] S R) a9) (hR : ∀ b9, r9 = .inr b9 → Sum.elim (fun e2 => Go XC d 64 0 38 [some (.ref h0), some (.int v1), some (.int v2), some (.int e2)] [] S R) (fun o => R 0 (.inr (vZ o)) S) b9) : Go XC d 64 0 2 [some (.ref h0), some (.int v1), some (.int v2), some (.int a2)] [] S R := by
  unfold L_64_2 at hr
  refine go_run mm_64 2 (pc' := 4) (ls' := [some (.ref h0), some (.int v1), some (.int v2), some (.int a2)]) (st' := [.ref h0, .int a2]) (S' := S) rfl ?_
  refine go_getf mm_64 (h := h0) rfl hp0.1 rfl ?_
  show Go XC d 64 0 7 [some (.ref h0), some (.int v1), some (.int v2), some (.int a2)] [.int (S.1 h0 2), .int a2] S R
  refine go_if2 mm_64 rfl (p1 := 10) (p2 := 38) rfl (fun (hc1 : a2 < (S.1 h0 2)) => ?_) (fun (hc1 : ¬ a2 < (S.1 h0 2)) => ?_)
  · rw [if_pos hc1] at hr
    refine go_run mm_64 1 (pc' := 11) (ls' := [some (.ref h0), some (.int v1), some (.int v2), some (.int a2)]) (st' := [.ref h0]) (S' := S) rfl ?_
    refine go_getf mm_64 (h := h0) rfl hp0.1 rfl ?_
    show Go XC d 64 0 14 [some (.ref h0), some (.int v1), some (.int v2), some (.int a2)] [.ref (h0 + 6)] S R
    refine go_run mm_64 1 (pc' := 15) (ls' := [some (.ref h0), some (.int v1), some (.int v2), some (.int a2)]) (st' := [.int a2, .ref (h0 + 6)]) (S' := S) rfl ?_
    obtain ⟨hb2, hr⟩ := ck_some hr
    refine go_iaload mm_64 (q := (Int32.toNatClampNeg a2)) rfl (hp0.2.2.2.2.2.2.1) rfl (ibd_ok hb2) ?_
    show Go XC d 64 0 16 [some (.ref h0), some (.int v1), some (.int v2), some (.int a2)] [.int (S.1 (h0 + 6) (Int32.toNatClampNeg a2))] S R
    refine go_run mm_64 1 (pc' := 17) (ls' := [some (.ref h0), some (.int v1), some (.int v2), some (.int a2)]) (st' := [.int v1, .int (S.1 (h0 + 6) (Int32.toNatClampNeg a2))]) (S' := S) rfl ?_
    refine go_if2 mm_64 rfl (p1 := 20) (p2 := 32) rfl (fun (hc3 : (S.1 (h0 + 6) (Int32.toNatClampNeg a2)) = v1) => ?_) (fun (hc3 : ¬ (S.1 (h0 + 6) (Int32.toNatClampNeg a2)) = v1) => ?_)
    · rw [if_pos hc3] at hr
      refine go_run mm_64 1 (pc' := 21) (ls' := [some (.ref h0), some (.int v1), some (.int v2), some (.int a2)]) (st' := [.ref h0]) (S' := S) rfl ?_
      refine go_getf mm_64 (h := h0) rfl hp0.1 rfl ?_
      show Go XC d 64 0 24 [some (.ref h0), some (.int v1), some (.int v2), some (.int a2)] [.ref (h0 + 7)] S R
      refine go_run mm_64 1 (pc' := 25) (ls' := [some (.ref h0), some (.int v1), some (.int v2), some (.int a2)]) (st' := [.int a2, .ref (h0 + 7)]) (S' := S) rfl ?_
      obtain ⟨hb4, hr⟩ := ck_some hr
      refine go_iaload mm_64 (q := (Int32.toNatClampNeg a2)) rfl (hp0.2.2.2.2.2.2.2.1) rfl (ibd_ok hb4) ?_
      show Go XC d 64 0 26 [some (.ref h0), some (.int v1), some (.int v2), some (.int a2)] [.int (S.1 (h0 + 7) (Int32.toNatClampNeg a2))] S R
      refine go_run mm_64 1 (pc' := 27) (ls' := [some (.ref h0), some (.int v1), some (.int v2), some (.int a2)]) (st' := [.int v2, .int (S.1 (h0 + 7) (Int32.toNatClampNeg a2))]) (S' := S) rfl ?_
      refine go_if2 mm_64 rfl (p1 := 30) (p2 := 32) rfl (fun (hc5 : (S.1 (h0 + 7) (Int32.toNatClampNeg a2)) = v2) => ?_) (fun (hc5 : ¬ (S.1 (h0 + 7) (Int32.toNatClampNeg a2)) = v2) => ?_)
      · rw [if_pos hc5] at hr
        refine go_run mm_64 1 (pc' := 31) (ls' := [some (.ref h0), some (.int v1), some (.int v2), some (.int a2)]) (st' := [.int 1]) (S' := S) rfl ?_
        cases hr
        have h9 : R 0 (.inr (vZ true)) S := hR _ rfl
        exact go_zreturn mm_64 rfl rfl (Or.inr rfl) h9
      · rw [if_neg hc5] at hr
        refine go_run mm_64 2 (pc' := 2) (ls' := [some (.ref h0), some (.int v1), some (.int v2), some (.int (a2 + 1))]) (st' := []) (S' := S) rfl ?_
        cases hr
        have h9 := hL (a2 + 1) rfl
        dsimp only at h9
        exact Go.le h9 (by repeat first | exact True.intro | refine And.intro rfl ?_)
    · rw [if_neg hc3] at hr
      refine go_run mm_64 2 (pc' := 2) (ls' := [some (.ref h0), some (.int v1), some (.int v2), some (.int (a2 + 1))]) (st' := []) (S' := S) rfl ?_
      cases hr
      have h9 := hL (a2 + 1) rfl
      dsimp only at h9
      exact Go.le h9 (by repeat first | exact True.intro | refine And.intro rfl ?_)
  · rw [if_neg hc1] at hr
    cases hr
    have h9 := hR (.inl (a2)) rfl
    dsimp only [Sum.elim_inl] at h9
    exact Go.le h9 (by repeat first | exact True.intro | refine And.intro rfl ?_)
def F_64 (h0 : Nat) (v1 : Int32) (v2 : Int32) (S : ST) : Option Bool := ob (wh FU (L_64_2 h0 v1 v2 S) (0)) (fun z => Sum.elim (fun e2 => some false) (fun o => some o) z)
set_option maxRecDepth 20000 in
theorem S_64 {d : Nat} {S : ST} {h0 : Nat} {v1 : Int32} {v2 : Int32} {r} (hp0 : PLH h0) (hr : F_64 h0 v1 v2 S = some r) : Cal XC d 64 [.ref h0, .int v1, .int v2] S (RV (vZ r) S) := by
  unfold F_64 at hr
  refine cal_go 1 rfl ?_
  refine go_run mm_64 2 (pc' := 2) (ls' := [some (.ref h0), some (.int v1), some (.int v2), some (.int 0)]) (st' := []) (S' := S) rfl ?_
  obtain ⟨z2, he2, hr⟩ := ob_some hr
  refine Go.le (ls' := [some (.ref h0), some (.int v1), some (.int v2), some (.int 0)]) ?_ (by repeat first | exact True.intro | refine And.intro rfl ?_)
  refine wh_go (P := fun a2 => Go XC d 64 0 2 [some (.ref h0), some (.int v1), some (.int v2), some (.int a2)] [] S (RV (vZ r) S)) (K := fun z => Sum.elim (fun e2 => Go XC d 64 0 38 [some (.ref h0), some (.int v1), some (.int v2), some (.int e2)] [] S (RV (vZ r) S)) (fun o => (RV (vZ r) S) 0 (.inr (vZ o)) S) z) (fun a9 r9 h9 hL hR => LS_64_2 hp0 h9 hL hR) _ _ _ he2 ?_
  rcases z2 with e2 | o
  rotate_left
  · simp only [Sum.elim_inr] at hr
    cases hr
    exact ⟨rfl, rfl, rfl⟩
  simp only [Sum.elim_inl] at hr
  show Go XC d 64 0 38 [some (.ref h0), some (.int v1), some (.int v2), some (.int e2)] [] S (RV (vZ r) S)
  refine go_run mm_64 1 (pc' := 39) (ls' := [some (.ref h0), some (.int v1), some (.int v2), some (.int e2)]) (st' := [.int 0]) (S' := S) rfl ?_
  cases hr
  exact go_zreturn mm_64 rfl rfl (Or.inl rfl) ⟨rfl, rfl, rfl⟩

theorem mm_65 : mtG 65 = some (mi_65, 7, ft_65) := rfl
def F_65 (S : ST) : Option (Unit × ST) := some ((), (wI S 30 3 0))
set_option maxRecDepth 20000 in
theorem S_65 {d : Nat} {S : ST} {r} (hr : F_65 S = some r) : Cal XC d 65 [.ref 30] S (RV (vU r.1) r.2) := by
  unfold F_65 at hr
  refine cal_go 0 rfl ?_
  refine go_run mm_65 3 (pc' := 5) (ls' := [some (.ref 30)]) (st' := []) (S' := (wI S 30 3 0)) rfl ?_
  cases hr
  exact go_vreturn mm_65 rfl rfl ⟨rfl, rfl, rfl⟩

theorem mm_68 : mtG 68 = some (mi_68, 7, ft_68) := rfl
def L_68_42 (v1 : Int32) (v2 : Int32) (p42_3 : Int32) (p42_4 : Int32) (p42_5 : Int32) (p42_6 : Int32) (S : ST) (a42 : Int32) : Option ((Int32) ⊕ ((Int32) ⊕ Bool)) := if a42 < (S.1 3 0) then (ob (F_30 3 a42 p42_3 p42_4 p42_5 p42_6 S) (fun w5 => if w5 = true then (some (.inr (.inr false))) else (some (.inl (a42 + 1))))) else (some (.inr (.inl (a42))))
set_option maxRecDepth 20000 in
theorem LS_68_42 {d : Nat} {R : RT} {S : ST} {v1 : Int32} {v2 : Int32} {p42_3 : Int32} {p42_4 : Int32} {p42_5 : Int32} {p42_6 : Int32} {a42 : Int32} {r9} (hr : L_68_42 v1 v2 p42_3 p42_4 p42_5 p42_6 S a42 = some r9) (hL : ∀ a9, r9 = .inl a9 → (fun a42 => Go XC (d + 3) 68 0 42 [some (.ref 30), some (.int v1), some (.int v2), some (.int p42_3), some (.int p42_4), some (.int p42_5), some (.int p42_6), some (.int a42)] [] S R) a9) (hR : ∀ b9, r9 = .inr b9 → Sum.elim (fun e42 => Go XC (d + 3) 68 0 81 [some (.ref 30), some (.int v1), some (.int v2), some (.int p42_3), some (.int p42_4), some (.int p42_5), some (.int p42_6), some (.int e42)] [] S R) (fun o => R 0 (.inr (vZ o)) S) b9) : Go XC (d + 3) 68 0 42 [some (.ref 30), some (.int v1), some (.int v2), some (.int p42_3), some (.int p42_4), some (.int p42_5), some (.int p42_6), some (.int a42)] [] S R := by
  unfold L_68_42 at hr
  refine go_run mm_68 4 (pc' := 51) (ls' := [some (.ref 30), some (.int v1), some (.int v2), some (.int p42_3), some (.int p42_4), some (.int p42_5), some (.int p42_6), some (.int a42)]) (st' := [.int (S.1 3 0), .int a42]) (S' := S) rfl ?_
  refine go_if2 mm_68 rfl (p1 := 54) (p2 := 81) rfl (fun (hc1 : a42 < (S.1 3 0)) => ?_) (fun (hc1 : ¬ a42 < (S.1 3 0)) => ?_)
  · rw [if_pos hc1] at hr
    refine go_run mm_68 7 (pc' := 67) (ls' := [some (.ref 30), some (.int v1), some (.int v2), some (.int p42_3), some (.int p42_4), some (.int p42_5), some (.int p42_6), some (.int a42)]) (st' := [.int p42_6, .int p42_5, .int p42_4, .int p42_3, .int a42, .ref 3]) (S' := S) rfl ?_
    obtain ⟨w5, hw5, hr⟩ := ob_some hr
    refine go_cs mm_68 (av := [.ref 3, .int a42, .int p42_3, .int p42_4, .int p42_5, .int p42_6]) (rest := []) (nl := 11) rfl (show csOK 68 67 61 30 6 11 = true by decide +kernel) rfl rfl rfl (S_30 (plB_ok rfl) hw5) (KP_V ?_)
    show Go XC (d + 3) 68 0 70 [some (.ref 30), some (.int v1), some (.int v2), some (.int p42_3), some (.int p42_4), some (.int p42_5), some (.int p42_6), some (.int a42)] [.int (b2i w5)] S R
    refine go_ifb mm_68 rfl (p1 := 73) (p2 := 75) rfl (fun (hc2 : w5 = true) => ?_) (fun (hc2 : w5 = false) => ?_)
    · rw [if_pos hc2] at hr
      refine go_run mm_68 1 (pc' := 74) (ls' := [some (.ref 30), some (.int v1), some (.int v2), some (.int p42_3), some (.int p42_4), some (.int p42_5), some (.int p42_6), some (.int a42)]) (st' := [.int 0]) (S' := S) rfl ?_
      cases hr
      have h9 : R 0 (.inr (vZ false)) S := hR _ rfl
      exact go_zreturn mm_68 rfl rfl (Or.inl rfl) h9
    · rw [if_neg (bf hc2)] at hr
      refine go_run mm_68 2 (pc' := 42) (ls' := [some (.ref 30), some (.int v1), some (.int v2), some (.int p42_3), some (.int p42_4), some (.int p42_5), some (.int p42_6), some (.int (a42 + 1))]) (st' := []) (S' := S) rfl ?_
      cases hr
      have h9 := hL (a42 + 1) rfl
      dsimp only at h9
      exact Go.le h9 (by repeat first | exact True.intro | refine And.intro rfl ?_)
  · rw [if_neg hc1] at hr
    cases hr
    have h9 := hR (.inl (a42)) rfl
    dsimp only [Sum.elim_inl] at h9
    exact Go.le h9 (by repeat first | exact True.intro | refine And.intro rfl ?_)
def F_68 (v1 : Int32) (v2 : Int32) (S : ST) : Option Bool := ob (F_19 21 v1 S) (fun w1 => ob (F_20 21 v1 S) (fun w2 => ob (F_19 21 v2 S) (fun w3 => ob (F_20 21 v2 S) (fun w4 => ob (wh FU (L_68_42 v1 v2 w1 w2 w3 w4 S) (0)) (fun z => Sum.elim (fun e42 => ob (F_33 3 (w1 + w3) (w2 + w4) S) (fun w6 => some (!(decide (w6 = 0))))) (fun o => some o) z)))))
set_option maxRecDepth 20000 in
theorem S_68 {d : Nat} {S : ST} {v1 : Int32} {v2 : Int32} {r} (hr : F_68 v1 v2 S = some r) : Cal XC (d + 3) 68 [.ref 30, .int v1, .int v2] S (RV (vZ r) S) := by
  unfold F_68 at hr
  refine cal_go 5 rfl ?_
  refine go_run mm_68 3 (pc' := 5) (ls' := [some (.ref 30), some (.int v1), some (.int v2), none, none, none, none, none]) (st' := [.int v1, .ref 21]) (S' := S) rfl ?_
  obtain ⟨w1, hw1, hr⟩ := ob_some hr
  refine go_cv mm_68 (h := 21) (As := [.int v1]) (rest := []) (nl := 2) rfl rfl (show cvOK 68 5 37 19 1 2 3 = true by decide +kernel) rfl rfl rfl (S_19 (ltB_ok rfl) hw1) (KP_V ?_)
  show Go XC (d + 3) 68 0 8 [some (.ref 30), some (.int v1), some (.int v2), none, none, none, none, none] [.int w1] S (RV (vZ r) S)
  refine go_run mm_68 4 (pc' := 14) (ls' := [some (.ref 30), some (.int v1), some (.int v2), some (.int w1), none, none, none, none]) (st' := [.int v1, .ref 21]) (S' := S) rfl ?_
  obtain ⟨w2, hw2, hr⟩ := ob_some hr
  refine go_cv mm_68 (h := 21) (As := [.int v1]) (rest := []) (nl := 2) rfl rfl (show cvOK 68 14 41 20 1 2 3 = true by decide +kernel) rfl rfl rfl (S_20 (ltB_ok rfl) hw2) (KP_V ?_)
  show Go XC (d + 3) 68 0 17 [some (.ref 30), some (.int v1), some (.int v2), some (.int w1), none, none, none, none] [.int w2] S (RV (vZ r) S)
  refine go_run mm_68 4 (pc' := 24) (ls' := [some (.ref 30), some (.int v1), some (.int v2), some (.int w1), some (.int w2), none, none, none]) (st' := [.int v2, .ref 21]) (S' := S) rfl ?_
  obtain ⟨w3, hw3, hr⟩ := ob_some hr
  refine go_cv mm_68 (h := 21) (As := [.int v2]) (rest := []) (nl := 2) rfl rfl (show cvOK 68 24 37 19 1 2 3 = true by decide +kernel) rfl rfl rfl (S_19 (ltB_ok rfl) hw3) (KP_V ?_)
  show Go XC (d + 3) 68 0 27 [some (.ref 30), some (.int v1), some (.int v2), some (.int w1), some (.int w2), none, none, none] [.int w3] S (RV (vZ r) S)
  refine go_run mm_68 4 (pc' := 34) (ls' := [some (.ref 30), some (.int v1), some (.int v2), some (.int w1), some (.int w2), some (.int w3), none, none]) (st' := [.int v2, .ref 21]) (S' := S) rfl ?_
  obtain ⟨w4, hw4, hr⟩ := ob_some hr
  refine go_cv mm_68 (h := 21) (As := [.int v2]) (rest := []) (nl := 2) rfl rfl (show cvOK 68 34 41 20 1 2 3 = true by decide +kernel) rfl rfl rfl (S_20 (ltB_ok rfl) hw4) (KP_V ?_)
  show Go XC (d + 3) 68 0 37 [some (.ref 30), some (.int v1), some (.int v2), some (.int w1), some (.int w2), some (.int w3), none, none] [.int w4] S (RV (vZ r) S)
  refine go_run mm_68 3 (pc' := 42) (ls' := [some (.ref 30), some (.int v1), some (.int v2), some (.int w1), some (.int w2), some (.int w3), some (.int w4), some (.int 0)]) (st' := []) (S' := S) rfl ?_
  obtain ⟨z42, he42, hr⟩ := ob_some hr
  refine Go.le (ls' := [some (.ref 30), some (.int v1), some (.int v2), some (.int w1), some (.int w2), some (.int w3), some (.int w4), some (.int 0)]) ?_ (by repeat first | exact True.intro | refine And.intro rfl ?_)
  refine wh_go (P := fun a42 => Go XC (d + 3) 68 0 42 [some (.ref 30), some (.int v1), some (.int v2), some (.int w1), some (.int w2), some (.int w3), some (.int w4), some (.int a42)] [] S (RV (vZ r) S)) (K := fun z => Sum.elim (fun e42 => Go XC (d + 3) 68 0 81 [some (.ref 30), some (.int v1), some (.int v2), some (.int w1), some (.int w2), some (.int w3), some (.int w4), some (.int e42)] [] S (RV (vZ r) S)) (fun o => (RV (vZ r) S) 0 (.inr (vZ o)) S) z) (fun a9 r9 h9 hL hR => LS_68_42 h9 hL hR) _ _ _ he42 ?_
  rcases z42 with e42 | o
  rotate_left
  · simp only [Sum.elim_inr] at hr
    cases hr
    exact ⟨rfl, rfl, rfl⟩
  simp only [Sum.elim_inl] at hr
  show Go XC (d + 3) 68 0 81 [some (.ref 30), some (.int v1), some (.int v2), some (.int w1), some (.int w2), some (.int w3), some (.int w4), some (.int e42)] [] S (RV (vZ r) S)
  refine go_run mm_68 8 (pc' := 94) (ls' := [some (.ref 30), some (.int v1), some (.int v2), some (.int w1), some (.int w2), some (.int w3), some (.int w4), some (.int e42)]) (st' := [.int (w2 + w4), .int (w1 + w3), .ref 3]) (S' := S) rfl ?_
  obtain ⟨w6, hw6, hr⟩ := ob_some hr
  refine go_cs mm_68 (av := [.ref 3, .int (w1 + w3), .int (w2 + w4)]) (rest := []) (nl := 5) rfl (show csOK 68 94 67 33 3 5 = true by decide +kernel) rfl rfl rfl (S_33 (plB_ok rfl) hw6) (KP_V ?_)
  show Go XC (d + 3) 68 0 97 [some (.ref 30), some (.int v1), some (.int v2), some (.int w1), some (.int w2), some (.int w3), some (.int w4), some (.int e42)] [.int w6] S (RV (vZ r) S)
  have j4 : Go XC (d + 3) 68 0 105 [some (.ref 30), some (.int v1), some (.int v2), some (.int w1), some (.int w2), some (.int w3), some (.int w4), some (.int e42)] [.int (b2i (!(decide (w6 = 0))))] S (RV (vZ r) S) := by
    cases hr
    exact go_zreturn mm_68 rfl rfl (b2i_01 _) ⟨rfl, rfl, rfl⟩
  refine go_if0 mm_68 rfl (p1 := 104) (p2 := 100) rfl (fun (hc3 : w6 = 0) => ?_) (fun (hc3 : ¬ w6 = 0) => ?_)
  · refine go_run mm_68 1 (pc' := 105) (ls' := [some (.ref 30), some (.int v1), some (.int v2), some (.int w1), some (.int w2), some (.int w3), some (.int w4), some (.int e42)]) (st' := [.int 0]) (S' := S) rfl ?_
    have e : ((b2i (!(decide (w6 = 0)))) : Int32) = 0 := by simp [b2i, hc3]
    rw [e] at j4
    exact j4
  · refine go_run mm_68 2 (pc' := 105) (ls' := [some (.ref 30), some (.int v1), some (.int v2), some (.int w1), some (.int w2), some (.int w3), some (.int w4), some (.int e42)]) (st' := [.int 1]) (S' := S) rfl ?_
    have e : ((b2i (!(decide (w6 = 0)))) : Int32) = 1 := by simp [b2i, hc3]
    rw [e] at j4
    exact j4
