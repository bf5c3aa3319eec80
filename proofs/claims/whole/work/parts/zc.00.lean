/-! methods as functions (printed by a program): 0 forget, 177 has, 4 viewOf, 21 everyPoint, 364 bitCount, 3 fewestViews, 18 numberAt, 44 cornerX, 45 cornerY, 73 from, 1 fewestVertices, 19 xOf, 20 yOf, 23 turn, 46 after -/
theorem mm_0 : mtG 0 = some (mi_0, 0, ft_0) := rfl
def F_0 (S : ST) : Option (Unit × ST) := some ((), (wI (wI (wI S 39 6 0) 39 7 0) 39 8 0))
set_option maxRecDepth 20000 in
theorem S_0 {d : Nat} {S : ST} {r} (hr : F_0 S = some r) : Cal XC d 0 [.ref 39] S (RV (vU r.1) r.2) := by
  unfold F_0 at hr
  refine cal_go 0 rfl ?_
  refine go_run mm_0 9 (pc' := 15) (ls' := [some (.ref 39)]) (st' := []) (S' := (wI (wI (wI S 39 6 0) 39 7 0) 39 8 0)) rfl ?_
  cases hr
  exact go_vreturn mm_0 rfl rfl ⟨rfl, rfl, rfl⟩

theorem mm_177 : mtG 177 = some (mi_177, 11, ft_177) := rfl
def F_177 (v0 : Int64) (v2 : Int32) : Bool := (!(decide (((((Int64.toUInt64 v0) >>> ((Int64.toUInt64 (Int32.toInt64 v2)) &&& Int64.toUInt64 63)).toInt64) &&& 1) = 0)))
set_option maxRecDepth 20000 in
theorem S_177 {d : Nat} {S : ST} {v0 : Int64} {v2 : Int32} {r} (hr : F_177 v0 v2 = r) : Cal XC d 177 [.long v0, .int v2] S (RV (vZ r) S) := by
  unfold F_177 at hr
  refine cal_go 0 rfl ?_
  refine go_run mm_177 6 (pc' := 6) (ls' := [some (.long v0), none, some (.int v2)]) (st' := [.long 0, .long ((((Int64.toUInt64 v0) >>> ((Int64.toUInt64 (Int32.toInt64 v2)) &&& Int64.toUInt64 63)).toInt64) &&& 1)]) (S' := S) rfl ?_
  have j2 : Go XC d 177 0 15 [some (.long v0), none, some (.int v2)] [.int (b2i (!(decide (((((Int64.toUInt64 v0) >>> ((Int64.toUInt64 (Int32.toInt64 v2)) &&& Int64.toUInt64 63)).toInt64) &&& 1) = 0))))] S (RV (vZ r) S) := by
    cases hr
    exact go_zreturn mm_177 rfl rfl (b2i_01 _) ⟨rfl, rfl, rfl⟩
  refine go_lif mm_177 rfl rfl (p1 := 14) (p2 := 10) rfl (fun (hc1 : ((((Int64.toUInt64 v0) >>> ((Int64.toUInt64 (Int32.toInt64 v2)) &&& Int64.toUInt64 63)).toInt64) &&& 1) = 0) => ?_) (fun (hc1 : ¬ ((((Int64.toUInt64 v0) >>> ((Int64.toUInt64 (Int32.toInt64 v2)) &&& Int64.toUInt64 63)).toInt64) &&& 1) = 0) => ?_)
  · refine go_run mm_177 1 (pc' := 15) (ls' := [some (.long v0), none, some (.int v2)]) (st' := [.int 0]) (S' := S) rfl ?_
    have e : ((b2i (!(decide (((((Int64.toUInt64 v0) >>> ((Int64.toUInt64 (Int32.toInt64 v2)) &&& Int64.toUInt64 63)).toInt64) &&& 1) = 0)))) : Int32) = 0 := by simp [b2i, hc1]
    rw [e] at j2
    exact j2
  · refine go_run mm_177 2 (pc' := 15) (ls' := [some (.long v0), none, some (.int v2)]) (st' := [.int 1]) (S' := S) rfl ?_
    have e : ((b2i (!(decide (((((Int64.toUInt64 v0) >>> ((Int64.toUInt64 (Int32.toInt64 v2)) &&& Int64.toUInt64 63)).toInt64) &&& 1) = 0)))) : Int32) = 1 := by simp [b2i, hc1]
    rw [e] at j2
    exact j2

theorem mm_4 : mtG 4 = some (mi_4, 0, ft_4) := rfl
def L_4_5 (v1 : Int32) (S : ST) (a5 : Int64 × Int32) : Option ((Int64 × Int32) ⊕ (Int64 × Int32)) := if a5.2 < 12 then (if (F_177 (Int32.toInt64 v1) a5.2) = true then (ck (ibd a5.2 12) (some (.inl (a5.1 ||| (S.2 40 (Int32.toNatClampNeg a5.2)), a5.2 + 1)))) else (some (.inl (a5.1, a5.2 + 1)))) else (some (.inr (a5.1, a5.2)))
set_option maxRecDepth 20000 in
theorem LS_4_5 {d : Nat} {R : RT} {S : ST} {v1 : Int32} {a5 : Int64 × Int32} {r9} (hr : L_4_5 v1 S a5 = some r9) (hL : ∀ a9, r9 = .inl a9 → (fun a5 => Go XC (d + 1) 4 0 5 [some (.ref 39), some (.int v1), some (.long a5.1), none, some (.int a5.2)] [] S R) a9) (hR : ∀ b9, r9 = .inr b9 → (fun e5 => Go XC (d + 1) 4 0 38 [some (.ref 39), some (.int v1), some (.long e5.1), none, some (.int e5.2)] [] S R) b9) : Go XC (d + 1) 4 0 5 [some (.ref 39), some (.int v1), some (.long a5.1), none, some (.int a5.2)] [] S R := by
  unfold L_4_5 at hr
  refine go_run mm_4 2 (pc' := 9) (ls' := [some (.ref 39), some (.int v1), some (.long a5.1), none, some (.int a5.2)]) (st' := [.int 12, .int a5.2]) (S' := S) rfl ?_
  refine go_if2 mm_4 rfl (p1 := 12) (p2 := 38) rfl (fun (hc1 : a5.2 < 12) => ?_) (fun (hc1 : ¬ a5.2 < 12) => ?_)
  · rw [if_pos hc1] at hr
    refine go_run mm_4 3 (pc' := 16) (ls' := [some (.ref 39), some (.int v1), some (.long a5.1), none, some (.int a5.2)]) (st' := [.int a5.2, .long (Int32.toInt64 v1)]) (S' := S) rfl ?_
    refine go_cs mm_4 (av := [.long (Int32.toInt64 v1), .int a5.2]) (rest := []) (nl := 3) rfl (show csOK 4 16 92 177 2 3 = true by decide +kernel) rfl rfl rfl (S_177 rfl) (KP_V ?_)
    show Go XC (d + 1) 4 0 19 [some (.ref 39), some (.int v1), some (.long a5.1), none, some (.int a5.2)] [.int (b2i (F_177 (Int32.toInt64 v1) a5.2))] S R
    refine go_ifb mm_4 rfl (p1 := 22) (p2 := 32) rfl (fun (hc2 : (F_177 (Int32.toInt64 v1) a5.2) = true) => ?_) (fun (hc2 : (F_177 (Int32.toInt64 v1) a5.2) = false) => ?_)
    · rw [if_pos hc2] at hr
      refine go_run mm_4 4 (pc' := 29) (ls' := [some (.ref 39), some (.int v1), some (.long a5.1), none, some (.int a5.2)]) (st' := [.int a5.2, .ref 40, .long a5.1]) (S' := S) rfl ?_
      obtain ⟨hb3, hr⟩ := ck_some hr
      refine go_laload mm_4 (q := (Int32.toNatClampNeg a5.2)) rfl rfl rfl (ibd_ok hb3) ?_
      show Go XC (d + 1) 4 0 30 [some (.ref 39), some (.int v1), some (.long a5.1), none, some (.int a5.2)] [.long (S.2 40 (Int32.toNatClampNeg a5.2)), .long a5.1] S R
      refine go_run mm_4 4 (pc' := 5) (ls' := [some (.ref 39), some (.int v1), some (.long (a5.1 ||| (S.2 40 (Int32.toNatClampNeg a5.2)))), none, some (.int (a5.2 + 1))]) (st' := []) (S' := S) rfl ?_
      cases hr
      have h9 := hL (a5.1 ||| (S.2 40 (Int32.toNatClampNeg a5.2)), a5.2 + 1) rfl
      dsimp only at h9
      exact Go.le h9 (by repeat first | exact True.intro | refine And.intro rfl ?_)
    · rw [if_neg (bf hc2)] at hr
      refine go_run mm_4 2 (pc' := 5) (ls' := [some (.ref 39), some (.int v1), some (.long a5.1), none, some (.int (a5.2 + 1))]) (st' := []) (S' := S) rfl ?_
      cases hr
      have h9 := hL (a5.1, a5.2 + 1) rfl
      dsimp only at h9
      exact Go.le h9 (by repeat first | exact True.intro | refine And.intro rfl ?_)
  · rw [if_neg hc1] at hr
    cases hr
    have h9 := hR (a5.1, a5.2) rfl
    dsimp only [Sum.elim_inl] at h9
    exact Go.le h9 (by repeat first | exact True.intro | refine And.intro rfl ?_)
def F_4 (v1 : Int32) (S : ST) : Option Int64 := ob (wh FU (L_4_5 v1 S) (0, 0)) (fun e5 => some e5.1)
set_option maxRecDepth 20000 in
theorem S_4 {d : Nat} {S : ST} {v1 : Int32} {r} (hr : F_4 v1 S = some r) : Cal XC (d + 1) 4 [.ref 39, .int v1] S (RV (vJ r) S) := by
  unfold F_4 at hr
  refine cal_go 3 rfl ?_
  refine go_run mm_4 4 (pc' := 5) (ls' := [some (.ref 39), some (.int v1), some (.long 0), none, some (.int 0)]) (st' := []) (S' := S) rfl ?_
  obtain ⟨z5, he5, hr⟩ := ob_some hr
  refine Go.le (ls' := [some (.ref 39), some (.int v1), some (.long 0), none, some (.int 0)]) ?_ (by repeat first | exact True.intro | refine And.intro rfl ?_)
  refine wh_go (P := fun a5 => Go XC (d + 1) 4 0 5 [some (.ref 39), some (.int v1), some (.long a5.1), none, some (.int a5.2)] [] S (RV (vJ r) S)) (K := fun e5 => Go XC (d + 1) 4 0 38 [some (.ref 39), some (.int v1), some (.long e5.1), none, some (.int e5.2)] [] S (RV (vJ r) S)) (fun a9 r9 h9 hL hR => LS_4_5 h9 hL hR) _ _ _ he5 ?_
  generalize z5 = e5 at hr
  show Go XC (d + 1) 4 0 38 [some (.ref 39), some (.int v1), some (.long e5.1), none, some (.int e5.2)] [] S (RV (vJ r) S)
  refine go_run mm_4 1 (pc' := 39) (ls' := [some (.ref 39), some (.int v1), some (.long e5.1), none, some (.int e5.2)]) (st' := [.long e5.1]) (S' := S) rfl ?_
  cases hr
  exact go_lreturn mm_4 rfl rfl ⟨rfl, rfl, rfl⟩

theorem mm_21 : mtG 21 = some (mi_21, 3, ft_21) := rfl
def F_21 (h0 : Nat) (S : ST) : Int64 := (if (S.1 h0 0) < 64 then (1 <<< (Int32.toInt64 (S.1 h0 0) &&& 63)) - 1 else (-1))
set_option maxRecDepth 20000 in
theorem S_21 {d : Nat} {S : ST} {h0 : Nat} {r} (hp0 : LTH h0) (hr : F_21 h0 S = r) : Cal XC d 21 [.ref h0] S (RV (vJ r) S) := by
  unfold F_21 at hr
  refine cal_go 0 rfl ?_
  refine go_run mm_21 1 (pc' := 1) (ls' := [some (.ref h0)]) (st' := [.ref h0]) (S' := S) rfl ?_
  refine go_getf mm_21 (h := h0) rfl hp0.1 rfl ?_
  show Go XC d 21 0 4 [some (.ref h0)] [.int (S.1 h0 0)] S (RV (vJ r) S)
  refine go_run mm_21 1 (pc' := 6) (ls' := [some (.ref h0)]) (st' := [.int 64, .int (S.1 h0 0)]) (S' := S) rfl ?_
  have j2 : Go XC d 21 0 23 [some (.ref h0)] [.long (if (S.1 h0 0) < 64 then (1 <<< (Int32.toInt64 (S.1 h0 0) &&& 63)) - 1 else (-1))] S (RV (vJ r) S) := by
    cases hr
    exact go_lreturn mm_21 rfl rfl ⟨rfl, rfl, rfl⟩
  refine go_if2 mm_21 rfl (p1 := 15) (p2 := 9) rfl (fun (hc1 : (S.1 h0 0) < 64) => ?_) (fun (hc1 : ¬ (S.1 h0 0) < 64) => ?_)
  · refine go_run mm_21 2 (pc' := 17) (ls' := [some (.ref h0)]) (st' := [.ref h0, .long 1]) (S' := S) rfl ?_
    refine go_getf mm_21 (h := h0) rfl hp0.1 rfl ?_
    show Go XC d 21 0 20 [some (.ref h0)] [.int (S.1 h0 0), .long 1] S (RV (vJ r) S)
    refine go_run mm_21 3 (pc' := 23) (ls' := [some (.ref h0)]) (st' := [.long ((1 <<< (Int32.toInt64 (S.1 h0 0) &&& 63)) - 1)]) (S' := S) rfl ?_
    have e : ((if (S.1 h0 0) < 64 then (1 <<< (Int32.toInt64 (S.1 h0 0) &&& 63)) - 1 else (-1)) : Int64) = (1 <<< (Int32.toInt64 (S.1 h0 0) &&& 63)) - 1 := by simp [hc1]
    rw [e] at j2
    exact j2
  · refine go_run mm_21 2 (pc' := 23) (ls' := [some (.ref h0)]) (st' := [.long (-1)]) (S' := S) rfl ?_
    have e : ((if (S.1 h0 0) < 64 then (1 <<< (Int32.toInt64 (S.1 h0 0) &&& 63)) - 1 else (-1)) : Int64) = (-1) := by simp [hc1]
    rw [e] at j2
    exact j2

theorem mm_364 : mtG 364 = some (mi_364, 14, ft_364) := rfl
def F_364 (v0 : Int32) : Int32 := (((((((v0 - ((((Int32.toUInt32 v0) >>> ((Int32.toUInt32 1) &&& Int32.toUInt32 31)).toInt32) &&& 1431655765)) &&& 858993459) + ((((Int32.toUInt32 (v0 - ((((Int32.toUInt32 v0) >>> ((Int32.toUInt32 1) &&& Int32.toUInt32 31)).toInt32) &&& 1431655765))) >>> ((Int32.toUInt32 2) &&& Int32.toUInt32 31)).toInt32) &&& 858993459)) + (((Int32.toUInt32 (((v0 - ((((Int32.toUInt32 v0) >>> ((Int32.toUInt32 1) &&& Int32.toUInt32 31)).toInt32) &&& 1431655765)) &&& 858993459) + ((((Int32.toUInt32 (v0 - ((((Int32.toUInt32 v0) >>> ((Int32.toUInt32 1) &&& Int32.toUInt32 31)).toInt32) &&& 1431655765))) >>> ((Int32.toUInt32 2) &&& Int32.toUInt32 31)).toInt32) &&& 858993459))) >>> ((Int32.toUInt32 4) &&& Int32.toUInt32 31)).toInt32)) &&& 252645135) + (((Int32.toUInt32 (((((v0 - ((((Int32.toUInt32 v0) >>> ((Int32.toUInt32 1) &&& Int32.toUInt32 31)).toInt32) &&& 1431655765)) &&& 858993459) + ((((Int32.toUInt32 (v0 - ((((Int32.toUInt32 v0) >>> ((Int32.toUInt32 1) &&& Int32.toUInt32 31)).toInt32) &&& 1431655765))) >>> ((Int32.toUInt32 2) &&& Int32.toUInt32 31)).toInt32) &&& 858993459)) + (((Int32.toUInt32 (((v0 - ((((Int32.toUInt32 v0) >>> ((Int32.toUInt32 1) &&& Int32.toUInt32 31)).toInt32) &&& 1431655765)) &&& 858993459) + ((((Int32.toUInt32 (v0 - ((((Int32.toUInt32 v0) >>> ((Int32.toUInt32 1) &&& Int32.toUInt32 31)).toInt32) &&& 1431655765))) >>> ((Int32.toUInt32 2) &&& Int32.toUInt32 31)).toInt32) &&& 858993459))) >>> ((Int32.toUInt32 4) &&& Int32.toUInt32 31)).toInt32)) &&& 252645135)) >>> ((Int32.toUInt32 8) &&& Int32.toUInt32 31)).toInt32)) + (((Int32.toUInt32 ((((((v0 - ((((Int32.toUInt32 v0) >>> ((Int32.toUInt32 1) &&& Int32.toUInt32 31)).toInt32) &&& 1431655765)) &&& 858993459) + ((((Int32.toUInt32 (v0 - ((((Int32.toUInt32 v0) >>> ((Int32.toUInt32 1) &&& Int32.toUInt32 31)).toInt32) &&& 1431655765))) >>> ((Int32.toUInt32 2) &&& Int32.toUInt32 31)).toInt32) &&& 858993459)) + (((Int32.toUInt32 (((v0 - ((((Int32.toUInt32 v0) >>> ((Int32.toUInt32 1) &&& Int32.toUInt32 31)).toInt32) &&& 1431655765)) &&& 858993459) + ((((Int32.toUInt32 (v0 - ((((Int32.toUInt32 v0) >>> ((Int32.toUInt32 1) &&& Int32.toUInt32 31)).toInt32) &&& 1431655765))) >>> ((Int32.toUInt32 2) &&& Int32.toUInt32 31)).toInt32) &&& 858993459))) >>> ((Int32.toUInt32 4) &&& Int32.toUInt32 31)).toInt32)) &&& 252645135) + (((Int32.toUInt32 (((((v0 - ((((Int32.toUInt32 v0) >>> ((Int32.toUInt32 1) &&& Int32.toUInt32 31)).toInt32) &&& 1431655765)) &&& 858993459) + ((((Int32.toUInt32 (v0 - ((((Int32.toUInt32 v0) >>> ((Int32.toUInt32 1) &&& Int32.toUInt32 31)).toInt32) &&& 1431655765))) >>> ((Int32.toUInt32 2) &&& Int32.toUInt32 31)).toInt32) &&& 858993459)) + (((Int32.toUInt32 (((v0 - ((((Int32.toUInt32 v0) >>> ((Int32.toUInt32 1) &&& Int32.toUInt32 31)).toInt32) &&& 1431655765)) &&& 858993459) + ((((Int32.toUInt32 (v0 - ((((Int32.toUInt32 v0) >>> ((Int32.toUInt32 1) &&& Int32.toUInt32 31)).toInt32) &&& 1431655765))) >>> ((Int32.toUInt32 2) &&& Int32.toUInt32 31)).toInt32) &&& 858993459))) >>> ((Int32.toUInt32 4) &&& Int32.toUInt32 31)).toInt32)) &&& 252645135)) >>> ((Int32.toUInt32 8) &&& Int32.toUInt32 31)).toInt32))) >>> ((Int32.toUInt32 16) &&& Int32.toUInt32 31)).toInt32)) &&& 63
set_option maxRecDepth 20000 in
theorem S_364 {d : Nat} {S : ST} {v0 : Int32} {r} (hr : F_364 v0 = r) : Cal XC d 364 [.int v0] S (RV (vI r) S) := by
  unfold F_364 at hr
  refine cal_go 0 rfl ?_
  refine go_run mm_364 4 (pc' := 4) (ls' := [some (.int v0)]) (st' := [.int (((Int32.toUInt32 v0) >>> ((Int32.toUInt32 1) &&& Int32.toUInt32 31)).toInt32), .int v0]) (S' := S) rfl ?_
  refine go_ldw mm_364 rfl rfl ?_
  show Go XC d 364 0 7 [some (.int v0)] [.int 1431655765, .int (((Int32.toUInt32 v0) >>> ((Int32.toUInt32 1) &&& Int32.toUInt32 31)).toInt32), .int v0] S (RV (vI r) S)
  refine go_run mm_364 4 (pc' := 11) (ls' := [some (.int (v0 - ((((Int32.toUInt32 v0) >>> ((Int32.toUInt32 1) &&& Int32.toUInt32 31)).toInt32) &&& 1431655765)))]) (st' := [.int (v0 - ((((Int32.toUInt32 v0) >>> ((Int32.toUInt32 1) &&& Int32.toUInt32 31)).toInt32) &&& 1431655765))]) (S' := S) rfl ?_
  refine go_ldw mm_364 rfl rfl ?_
  show Go XC d 364 0 14 [some (.int (v0 - ((((Int32.toUInt32 v0) >>> ((Int32.toUInt32 1) &&& Int32.toUInt32 31)).toInt32) &&& 1431655765)))] [.int 858993459, .int (v0 - ((((Int32.toUInt32 v0) >>> ((Int32.toUInt32 1) &&& Int32.toUInt32 31)).toInt32) &&& 1431655765))] S (RV (vI r) S)
  refine go_run mm_364 4 (pc' := 18) (ls' := [some (.int (v0 - ((((Int32.toUInt32 v0) >>> ((Int32.toUInt32 1) &&& Int32.toUInt32 31)).toInt32) &&& 1431655765)))]) (st' := [.int (((Int32.toUInt32 (v0 - ((((Int32.toUInt32 v0) >>> ((Int32.toUInt32 1) &&& Int32.toUInt32 31)).toInt32) &&& 1431655765))) >>> ((Int32.toUInt32 2) &&& Int32.toUInt32 31)).toInt32), .int ((v0 - ((((Int32.toUInt32 v0) >>> ((Int32.toUInt32 1) &&& Int32.toUInt32 31)).toInt32) &&& 1431655765)) &&& 858993459)]) (S' := S) rfl ?_
  refine go_ldw mm_364 rfl rfl ?_
  show Go XC d 364 0 21 [some (.int (v0 - ((((Int32.toUInt32 v0) >>> ((Int32.toUInt32 1) &&& Int32.toUInt32 31)).toInt32) &&& 1431655765)))] [.int 858993459, .int (((Int32.toUInt32 (v0 - ((((Int32.toUInt32 v0) >>> ((Int32.toUInt32 1) &&& Int32.toUInt32 31)).toInt32) &&& 1431655765))) >>> ((Int32.toUInt32 2) &&& Int32.toUInt32 31)).toInt32), .int ((v0 - ((((Int32.toUInt32 v0) >>> ((Int32.toUInt32 1) &&& Int32.toUInt32 31)).toInt32) &&& 1431655765)) &&& 858993459)] S (RV (vI r) S)
  refine go_run mm_364 8 (pc' := 29) (ls' := [some (.int (((v0 - ((((Int32.toUInt32 v0) >>> ((Int32.toUInt32 1) &&& Int32.toUInt32 31)).toInt32) &&& 1431655765)) &&& 858993459) + ((((Int32.toUInt32 (v0 - ((((Int32.toUInt32 v0) >>> ((Int32.toUInt32 1) &&& Int32.toUInt32 31)).toInt32) &&& 1431655765))) >>> ((Int32.toUInt32 2) &&& Int32.toUInt32 31)).toInt32) &&& 858993459)))]) (st' := [.int ((((v0 - ((((Int32.toUInt32 v0) >>> ((Int32.toUInt32 1) &&& Int32.toUInt32 31)).toInt32) &&& 1431655765)) &&& 858993459) + ((((Int32.toUInt32 (v0 - ((((Int32.toUInt32 v0) >>> ((Int32.toUInt32 1) &&& Int32.toUInt32 31)).toInt32) &&& 1431655765))) >>> ((Int32.toUInt32 2) &&& Int32.toUInt32 31)).toInt32) &&& 858993459)) + (((Int32.toUInt32 (((v0 - ((((Int32.toUInt32 v0) >>> ((Int32.toUInt32 1) &&& Int32.toUInt32 31)).toInt32) &&& 1431655765)) &&& 858993459) + ((((Int32.toUInt32 (v0 - ((((Int32.toUInt32 v0) >>> ((Int32.toUInt32 1) &&& Int32.toUInt32 31)).toInt32) &&& 1431655765))) >>> ((Int32.toUInt32 2) &&& Int32.toUInt32 31)).toInt32) &&& 858993459))) >>> ((Int32.toUInt32 4) &&& Int32.toUInt32 31)).toInt32))]) (S' := S) rfl ?_
  refine go_ldw mm_364 rfl rfl ?_
  show Go XC d 364 0 32 [some (.int (((v0 - ((((Int32.toUInt32 v0) >>> ((Int32.toUInt32 1) &&& Int32.toUInt32 31)).toInt32) &&& 1431655765)) &&& 858993459) + ((((Int32.toUInt32 (v0 - ((((Int32.toUInt32 v0) >>> ((Int32.toUInt32 1) &&& Int32.toUInt32 31)).toInt32) &&& 1431655765))) >>> ((Int32.toUInt32 2) &&& Int32.toUInt32 31)).toInt32) &&& 858993459)))] [.int 252645135, .int ((((v0 - ((((Int32.toUInt32 v0) >>> ((Int32.toUInt32 1) &&& Int32.toUInt32 31)).toInt32) &&& 1431655765)) &&& 858993459) + ((((Int32.toUInt32 (v0 - ((((Int32.toUInt32 v0) >>> ((Int32.toUInt32 1) &&& Int32.toUInt32 31)).toInt32) &&& 1431655765))) >>> ((Int32.toUInt32 2) &&& Int32.toUInt32 31)).toInt32) &&& 858993459)) + (((Int32.toUInt32 (((v0 - ((((Int32.toUInt32 v0) >>> ((Int32.toUInt32 1) &&& Int32.toUInt32 31)).toInt32) &&& 1431655765)) &&& 858993459) + ((((Int32.toUInt32 (v0 - ((((Int32.toUInt32 v0) >>> ((Int32.toUInt32 1) &&& Int32.toUInt32 31)).toInt32) &&& 1431655765))) >>> ((Int32.toUInt32 2) &&& Int32.toUInt32 31)).toInt32) &&& 858993459))) >>> ((Int32.toUInt32 4) &&& Int32.toUInt32 31)).toInt32))] S (RV (vI r) S)
  refine go_run mm_364 17 (pc' := 52) (ls' := [some (.int (((((((v0 - ((((Int32.toUInt32 v0) >>> ((Int32.toUInt32 1) &&& Int32.toUInt32 31)).toInt32) &&& 1431655765)) &&& 858993459) + ((((Int32.toUInt32 (v0 - ((((Int32.toUInt32 v0) >>> ((Int32.toUInt32 1) &&& Int32.toUInt32 31)).toInt32) &&& 1431655765))) >>> ((Int32.toUInt32 2) &&& Int32.toUInt32 31)).toInt32) &&& 858993459)) + (((Int32.toUInt32 (((v0 - ((((Int32.toUInt32 v0) >>> ((Int32.toUInt32 1) &&& Int32.toUInt32 31)).toInt32) &&& 1431655765)) &&& 858993459) + ((((Int32.toUInt32 (v0 - ((((Int32.toUInt32 v0) >>> ((Int32.toUInt32 1) &&& Int32.toUInt32 31)).toInt32) &&& 1431655765))) >>> ((Int32.toUInt32 2) &&& Int32.toUInt32 31)).toInt32) &&& 858993459))) >>> ((Int32.toUInt32 4) &&& Int32.toUInt32 31)).toInt32)) &&& 252645135) + (((Int32.toUInt32 (((((v0 - ((((Int32.toUInt32 v0) >>> ((Int32.toUInt32 1) &&& Int32.toUInt32 31)).toInt32) &&& 1431655765)) &&& 858993459) + ((((Int32.toUInt32 (v0 - ((((Int32.toUInt32 v0) >>> ((Int32.toUInt32 1) &&& Int32.toUInt32 31)).toInt32) &&& 1431655765))) >>> ((Int32.toUInt32 2) &&& Int32.toUInt32 31)).toInt32) &&& 858993459)) + (((Int32.toUInt32 (((v0 - ((((Int32.toUInt32 v0) >>> ((Int32.toUInt32 1) &&& Int32.toUInt32 31)).toInt32) &&& 1431655765)) &&& 858993459) + ((((Int32.toUInt32 (v0 - ((((Int32.toUInt32 v0) >>> ((Int32.toUInt32 1) &&& Int32.toUInt32 31)).toInt32) &&& 1431655765))) >>> ((Int32.toUInt32 2) &&& Int32.toUInt32 31)).toInt32) &&& 858993459))) >>> ((Int32.toUInt32 4) &&& Int32.toUInt32 31)).toInt32)) &&& 252645135)) >>> ((Int32.toUInt32 8) &&& Int32.toUInt32 31)).toInt32)) + (((Int32.toUInt32 ((((((v0 - ((((Int32.toUInt32 v0) >>> ((Int32.toUInt32 1) &&& Int32.toUInt32 31)).toInt32) &&& 1431655765)) &&& 858993459) + ((((Int32.toUInt32 (v0 - ((((Int32.toUInt32 v0) >>> ((Int32.toUInt32 1) &&& Int32.toUInt32 31)).toInt32) &&& 1431655765))) >>> ((Int32.toUInt32 2) &&& Int32.toUInt32 31)).toInt32) &&& 858993459)) + (((Int32.toUInt32 (((v0 - ((((Int32.toUInt32 v0) >>> ((Int32.toUInt32 1) &&& Int32.toUInt32 31)).toInt32) &&& 1431655765)) &&& 858993459) + ((((Int32.toUInt32 (v0 - ((((Int32.toUInt32 v0) >>> ((Int32.toUInt32 1) &&& Int32.toUInt32 31)).toInt32) &&& 1431655765))) >>> ((Int32.toUInt32 2) &&& Int32.toUInt32 31)).toInt32) &&& 858993459))) >>> ((Int32.toUInt32 4) &&& Int32.toUInt32 31)).toInt32)) &&& 252645135) + (((Int32.toUInt32 (((((v0 - ((((Int32.toUInt32 v0) >>> ((Int32.toUInt32 1) &&& Int32.toUInt32 31)).toInt32) &&& 1431655765)) &&& 858993459) + ((((Int32.toUInt32 (v0 - ((((Int32.toUInt32 v0) >>> ((Int32.toUInt32 1) &&& Int32.toUInt32 31)).toInt32) &&& 1431655765))) >>> ((Int32.toUInt32 2) &&& Int32.toUInt32 31)).toInt32) &&& 858993459)) + (((Int32.toUInt32 (((v0 - ((((Int32.toUInt32 v0) >>> ((Int32.toUInt32 1) &&& Int32.toUInt32 31)).toInt32) &&& 1431655765)) &&& 858993459) + ((((Int32.toUInt32 (v0 - ((((Int32.toUInt32 v0) >>> ((Int32.toUInt32 1) &&& Int32.toUInt32 31)).toInt32) &&& 1431655765))) >>> ((Int32.toUInt32 2) &&& Int32.toUInt32 31)).toInt32) &&& 858993459))) >>> ((Int32.toUInt32 4) &&& Int32.toUInt32 31)).toInt32)) &&& 252645135)) >>> ((Int32.toUInt32 8) &&& Int32.toUInt32 31)).toInt32))) >>> ((Int32.toUInt32 16) &&& Int32.toUInt32 31)).toInt32)))]) (st' := [.int ((((((((v0 - ((((Int32.toUInt32 v0) >>> ((Int32.toUInt32 1) &&& Int32.toUInt32 31)).toInt32) &&& 1431655765)) &&& 858993459) + ((((Int32.toUInt32 (v0 - ((((Int32.toUInt32 v0) >>> ((Int32.toUInt32 1) &&& Int32.toUInt32 31)).toInt32) &&& 1431655765))) >>> ((Int32.toUInt32 2) &&& Int32.toUInt32 31)).toInt32) &&& 858993459)) + (((Int32.toUInt32 (((v0 - ((((Int32.toUInt32 v0) >>> ((Int32.toUInt32 1) &&& Int32.toUInt32 31)).toInt32) &&& 1431655765)) &&& 858993459) + ((((Int32.toUInt32 (v0 - ((((Int32.toUInt32 v0) >>> ((Int32.toUInt32 1) &&& Int32.toUInt32 31)).toInt32) &&& 1431655765))) >>> ((Int32.toUInt32 2) &&& Int32.toUInt32 31)).toInt32) &&& 858993459))) >>> ((Int32.toUInt32 4) &&& Int32.toUInt32 31)).toInt32)) &&& 252645135) + (((Int32.toUInt32 (((((v0 - ((((Int32.toUInt32 v0) >>> ((Int32.toUInt32 1) &&& Int32.toUInt32 31)).toInt32) &&& 1431655765)) &&& 858993459) + ((((Int32.toUInt32 (v0 - ((((Int32.toUInt32 v0) >>> ((Int32.toUInt32 1) &&& Int32.toUInt32 31)).toInt32) &&& 1431655765))) >>> ((Int32.toUInt32 2) &&& Int32.toUInt32 31)).toInt32) &&& 858993459)) + (((Int32.toUInt32 (((v0 - ((((Int32.toUInt32 v0) >>> ((Int32.toUInt32 1) &&& Int32.toUInt32 31)).toInt32) &&& 1431655765)) &&& 858993459) + ((((Int32.toUInt32 (v0 - ((((Int32.toUInt32 v0) >>> ((Int32.toUInt32 1) &&& Int32.toUInt32 31)).toInt32) &&& 1431655765))) >>> ((Int32.toUInt32 2) &&& Int32.toUInt32 31)).toInt32) &&& 858993459))) >>> ((Int32.toUInt32 4) &&& Int32.toUInt32 31)).toInt32)) &&& 252645135)) >>> ((Int32.toUInt32 8) &&& Int32.toUInt32 31)).toInt32)) + (((Int32.toUInt32 ((((((v0 - ((((Int32.toUInt32 v0) >>> ((Int32.toUInt32 1) &&& Int32.toUInt32 31)).toInt32) &&& 1431655765)) &&& 858993459) + ((((Int32.toUInt32 (v0 - ((((Int32.toUInt32 v0) >>> ((Int32.toUInt32 1) &&& Int32.toUInt32 31)).toInt32) &&& 1431655765))) >>> ((Int32.toUInt32 2) &&& Int32.toUInt32 31)).toInt32) &&& 858993459)) + (((Int32.toUInt32 (((v0 - ((((Int32.toUInt32 v0) >>> ((Int32.toUInt32 1) &&& Int32.toUInt32 31)).toInt32) &&& 1431655765)) &&& 858993459) + ((((Int32.toUInt32 (v0 - ((((Int32.toUInt32 v0) >>> ((Int32.toUInt32 1) &&& Int32.toUInt32 31)).toInt32) &&& 1431655765))) >>> ((Int32.toUInt32 2) &&& Int32.toUInt32 31)).toInt32) &&& 858993459))) >>> ((Int32.toUInt32 4) &&& Int32.toUInt32 31)).toInt32)) &&& 252645135) + (((Int32.toUInt32 (((((v0 - ((((Int32.toUInt32 v0) >>> ((Int32.toUInt32 1) &&& Int32.toUInt32 31)).toInt32) &&& 1431655765)) &&& 858993459) + ((((Int32.toUInt32 (v0 - ((((Int32.toUInt32 v0) >>> ((Int32.toUInt32 1) &&& Int32.toUInt32 31)).toInt32) &&& 1431655765))) >>> ((Int32.toUInt32 2) &&& Int32.toUInt32 31)).toInt32) &&& 858993459)) + (((Int32.toUInt32 (((v0 - ((((Int32.toUInt32 v0) >>> ((Int32.toUInt32 1) &&& Int32.toUInt32 31)).toInt32) &&& 1431655765)) &&& 858993459) + ((((Int32.toUInt32 (v0 - ((((Int32.toUInt32 v0) >>> ((Int32.toUInt32 1) &&& Int32.toUInt32 31)).toInt32) &&& 1431655765))) >>> ((Int32.toUInt32 2) &&& Int32.toUInt32 31)).toInt32) &&& 858993459))) >>> ((Int32.toUInt32 4) &&& Int32.toUInt32 31)).toInt32)) &&& 252645135)) >>> ((Int32.toUInt32 8) &&& Int32.toUInt32 31)).toInt32))) >>> ((Int32.toUInt32 16) &&& Int32.toUInt32 31)).toInt32)) &&& 63)]) (S' := S) rfl ?_
  cases hr
  exact go_ireturn mm_364 rfl rfl ⟨rfl, rfl, rfl⟩

theorem mm_3 : mtG 3 = some (mi_3, 0, ft_3) := rfl
def L_3_21 (p21_1 : Int32) (S : ST) (a21 : Int32 × Int32) : Option ((Int32 × Int32) ⊕ (Int32 × Int32)) := if a21.2 < p21_1 then (if (F_364 a21.2) < (F_364 a21.1) then (ob (F_4 a21.2 S) (fun w1 => if w1 = (F_21 21 S) then (some (.inl (a21.2, a21.2 + 1))) else (some (.inl (a21.1, a21.2 + 1))))) else (some (.inl (a21.1, a21.2 + 1)))) else (some (.inr (a21.1, a21.2)))
set_option maxRecDepth 20000 in
theorem LS_3_21 {d : Nat} {R : RT} {S : ST} {p21_1 : Int32} {a21 : Int32 × Int32} {r9} (hr : L_3_21 p21_1 S a21 = some r9) (hL : ∀ a9, r9 = .inl a9 → (fun a21 => Go XC (d + 2) 3 0 21 [some (.ref 39), some (.int p21_1), some (.int a21.1), some (.int a21.2)] [] S R) a9) (hR : ∀ b9, r9 = .inr b9 → (fun e21 => Go XC (d + 2) 3 0 61 [some (.ref 39), some (.int p21_1), some (.int e21.1), some (.int e21.2)] [] S R) b9) : Go XC (d + 2) 3 0 21 [some (.ref 39), some (.int p21_1), some (.int a21.1), some (.int a21.2)] [] S R := by
  unfold L_3_21 at hr
  refine go_run mm_3 2 (pc' := 23) (ls' := [some (.ref 39), some (.int p21_1), some (.int a21.1), some (.int a21.2)]) (st' := [.int p21_1, .int a21.2]) (S' := S) rfl ?_
  refine go_if2 mm_3 rfl (p1 := 26) (p2 := 61) rfl (fun (hc1 : a21.2 < p21_1) => ?_) (fun (hc1 : ¬ a21.2 < p21_1) => ?_)
  · rw [if_pos hc1] at hr
    refine go_run mm_3 1 (pc' := 27) (ls' := [some (.ref 39), some (.int p21_1), some (.int a21.1), some (.int a21.2)]) (st' := [.int a21.2]) (S' := S) rfl ?_
    refine go_cs mm_3 (av := [.int a21.2]) (rest := []) (nl := 1) rfl (show csOK 3 27 80 364 1 1 = true by decide +kernel) rfl rfl rfl (S_364 rfl) (KP_V ?_)
    show Go XC (d + 2) 3 0 30 [some (.ref 39), some (.int p21_1), some (.int a21.1), some (.int a21.2)] [.int (F_364 a21.2)] S R
    refine go_run mm_3 1 (pc' := 31) (ls' := [some (.ref 39), some (.int p21_1), some (.int a21.1), some (.int a21.2)]) (st' := [.int a21.1, .int (F_364 a21.2)]) (S' := S) rfl ?_
    refine go_cs mm_3 (av := [.int a21.1]) (rest := [.int (F_364 a21.2)]) (nl := 1) rfl (show csOK 3 31 80 364 1 1 = true by decide +kernel) rfl rfl rfl (S_364 rfl) (KP_V ?_)
    show Go XC (d + 2) 3 0 34 [some (.ref 39), some (.int p21_1), some (.int a21.1), some (.int a21.2)] [.int (F_364 a21.1), .int (F_364 a21.2)] S R
    refine go_if2 mm_3 rfl (p1 := 37) (p2 := 55) rfl (fun (hc2 : (F_364 a21.2) < (F_364 a21.1)) => ?_) (fun (hc2 : ¬ (F_364 a21.2) < (F_364 a21.1)) => ?_)
    · rw [if_pos hc2] at hr
      refine go_run mm_3 2 (pc' := 39) (ls' := [some (.ref 39), some (.int p21_1), some (.int a21.1), some (.int a21.2)]) (st' := [.int a21.2, .ref 39]) (S' := S) rfl ?_
      obtain ⟨w1, hw1, hr⟩ := ob_some hr
      refine go_cv mm_3 (h := 39) (As := [.int a21.2]) (rest := []) (nl := 5) rfl rfl (show cvOK 3 39 85 4 1 5 0 = true by decide +kernel) rfl rfl rfl (S_4 hw1) (KP_V ?_)
      show Go XC (d + 2) 3 0 42 [some (.ref 39), some (.int p21_1), some (.int a21.1), some (.int a21.2)] [.long w1] S R
      refine go_run mm_3 2 (pc' := 46) (ls' := [some (.ref 39), some (.int p21_1), some (.int a21.1), some (.int a21.2)]) (st' := [.ref 21, .long w1]) (S' := S) rfl ?_
      refine go_cv mm_3 (h := 21) (As := []) (rest := [.long w1]) (nl := 1) rfl rfl (show cvOK 3 46 88 21 0 1 3 = true by decide +kernel) rfl rfl rfl (S_21 (ltB_ok rfl) rfl) (KP_V ?_)
      show Go XC (d + 2) 3 0 49 [some (.ref 39), some (.int p21_1), some (.int a21.1), some (.int a21.2)] [.long (F_21 21 S), .long w1] S R
      refine go_lif mm_3 rfl rfl (p1 := 53) (p2 := 55) rfl (fun (hc3 : w1 = (F_21 21 S)) => ?_) (fun (hc3 : ¬ w1 = (F_21 21 S)) => ?_)
      · rw [if_pos hc3] at hr
        refine go_run mm_3 4 (pc' := 21) (ls' := [some (.ref 39), some (.int p21_1), some (.int a21.2), some (.int (a21.2 + 1))]) (st' := []) (S' := S) rfl ?_
        cases hr
        have h9 := hL (a21.2, a21.2 + 1) rfl
        dsimp only at h9
        exact Go.le h9 (by repeat first | exact True.intro | refine And.intro rfl ?_)
      · rw [if_neg hc3] at hr
        refine go_run mm_3 2 (pc' := 21) (ls' := [some (.ref 39), some (.int p21_1), some (.int a21.1), some (.int (a21.2 + 1))]) (st' := []) (S' := S) rfl ?_
        cases hr
        have h9 := hL (a21.1, a21.2 + 1) rfl
        dsimp only at h9
        exact Go.le h9 (by repeat first | exact True.intro | refine And.intro rfl ?_)
    · rw [if_neg hc2] at hr
      refine go_run mm_3 2 (pc' := 21) (ls' := [some (.ref 39), some (.int p21_1), some (.int a21.1), some (.int (a21.2 + 1))]) (st' := []) (S' := S) rfl ?_
      cases hr
      have h9 := hL (a21.1, a21.2 + 1) rfl
      dsimp only at h9
      exact Go.le h9 (by repeat first | exact True.intro | refine And.intro rfl ?_)
  · rw [if_neg hc1] at hr
    cases hr
    have h9 := hR (a21.1, a21.2) rfl
    dsimp only [Sum.elim_inl] at h9
    exact Go.le h9 (by repeat first | exact True.intro | refine And.intro rfl ?_)
def F_3 (S : ST) : Option Int32 := ob (wh FU (L_3_21 (1 <<< ((if 12 < (S.1 3 0) then 12 else (S.1 3 0)) &&& 31)) S) ((1 <<< ((if 12 < (S.1 3 0) then 12 else (S.1 3 0)) &&& 31)) - 1, 1)) (fun e21 => some e21.1)
set_option maxRecDepth 20000 in
theorem S_3 {d : Nat} {S : ST} {r} (hr : F_3 S = some r) : Cal XC (d + 2) 3 [.ref 39] S (RV (vI r) S) := by
  unfold F_3 at hr
  refine cal_go 3 rfl ?_
  refine go_run mm_3 5 (pc' := 10) (ls' := [some (.ref 39), none, none, none]) (st' := [.int 12, .int (S.1 3 0), .int 1]) (S' := S) rfl ?_
  refine go_mm (pc' := 13) (st' := [.int (if 12 < (S.1 3 0) then 12 else (S.1 3 0)), .int 1]) (fun lv σ => rfl) ?_
  show Go XC (d + 2) 3 0 13 [some (.ref 39), none, none, none] [.int (if 12 < (S.1 3 0) then 12 else (S.1 3 0)), .int 1] S (RV (vI r) S)
  refine go_run mm_3 8 (pc' := 21) (ls' := [some (.ref 39), some (.int (1 <<< ((if 12 < (S.1 3 0) then 12 else (S.1 3 0)) &&& 31))), some (.int ((1 <<< ((if 12 < (S.1 3 0) then 12 else (S.1 3 0)) &&& 31)) - 1)), some (.int 1)]) (st' := []) (S' := S) rfl ?_
  obtain ⟨z21, he21, hr⟩ := ob_some hr
  refine Go.le (ls' := [some (.ref 39), some (.int (1 <<< ((if 12 < (S.1 3 0) then 12 else (S.1 3 0)) &&& 31))), some (.int ((1 <<< ((if 12 < (S.1 3 0) then 12 else (S.1 3 0)) &&& 31)) - 1)), some (.int 1)]) ?_ (by repeat first | exact True.intro | refine And.intro rfl ?_)
  refine wh_go (P := fun a21 => Go XC (d + 2) 3 0 21 [some (.ref 39), some (.int (1 <<< ((if 12 < (S.1 3 0) then 12 else (S.1 3 0)) &&& 31))), some (.int a21.1), some (.int a21.2)] [] S (RV (vI r) S)) (K := fun e21 => Go XC (d + 2) 3 0 61 [some (.ref 39), some (.int (1 <<< ((if 12 < (S.1 3 0) then 12 else (S.1 3 0)) &&& 31))), some (.int e21.1), some (.int e21.2)] [] S (RV (vI r) S)) (fun a9 r9 h9 hL hR => LS_3_21 h9 hL hR) _ _ _ he21 ?_
  generalize z21 = e21 at hr
  show Go XC (d + 2) 3 0 61 [some (.ref 39), some (.int (1 <<< ((if 12 < (S.1 3 0) then 12 else (S.1 3 0)) &&& 31))), some (.int e21.1), some (.int e21.2)] [] S (RV (vI r) S)
  refine go_run mm_3 1 (pc' := 62) (ls' := [some (.ref 39), some (.int (1 <<< ((if 12 < (S.1 3 0) then 12 else (S.1 3 0)) &&& 31))), some (.int e21.1), some (.int e21.2)]) (st' := [.int e21.1]) (S' := S) rfl ?_
  cases hr
  exact go_ireturn mm_3 rfl rfl ⟨rfl, rfl, rfl⟩

theorem mm_18 : mtG 18 = some (mi_18, 3, ft_18) := rfl
def F_18 (h0 : Nat) (v1 : Int32) (v2 : Int32) (S : ST) : Option Int32 := if v1 < 0 then (some (-1)) else (if v1 < 16 then (if v2 < 0 then (some (-1)) else (if v2 < 16 then (ck (ibd ((v2 * 16) + v1) 256) (some (S.1 (h0 + 3) (Int32.toNatClampNeg ((v2 * 16) + v1))))) else (some (-1)))) else (some (-1)))
set_option maxRecDepth 20000 in
theorem S_18 {d : Nat} {S : ST} {h0 : Nat} {v1 : Int32} {v2 : Int32} {r} (hp0 : LTH h0) (hr : F_18 h0 v1 v2 S = some r) : Cal XC d 18 [.ref h0, .int v1, .int v2] S (RV (vI r) S) := by
  unfold F_18 at hr
  refine cal_go 0 rfl ?_
  refine go_run mm_18 1 (pc' := 1) (ls' := [some (.ref h0), some (.int v1), some (.int v2)]) (st' := [.int v1]) (S' := S) rfl ?_
  refine go_if0 mm_18 rfl (p1 := 34) (p2 := 4) rfl (fun (hc1 : v1 < 0) => ?_) (fun (hc1 : ¬ v1 < 0) => ?_)
  · rw [if_pos hc1] at hr
    refine go_run mm_18 1 (pc' := 35) (ls' := [some (.ref h0), some (.int v1), some (.int v2)]) (st' := [.int (-1)]) (S' := S) rfl ?_
    cases hr
    exact go_ireturn mm_18 rfl rfl ⟨rfl, rfl, rfl⟩
  · rw [if_neg hc1] at hr
    refine go_run mm_18 2 (pc' := 7) (ls' := [some (.ref h0), some (.int v1), some (.int v2)]) (st' := [.int 16, .int v1]) (S' := S) rfl ?_
    refine go_if2 mm_18 rfl (p1 := 10) (p2 := 34) rfl (fun (hc2 : v1 < 16) => ?_) (fun (hc2 : ¬ v1 < 16) => ?_)
    · rw [if_pos hc2] at hr
      refine go_run mm_18 1 (pc' := 11) (ls' := [some (.ref h0), some (.int v1), some (.int v2)]) (st' := [.int v2]) (S' := S) rfl ?_
      refine go_if0 mm_18 rfl (p1 := 34) (p2 := 14) rfl (fun (hc3 : v2 < 0) => ?_) (fun (hc3 : ¬ v2 < 0) => ?_)
      · rw [if_pos hc3] at hr
        refine go_run mm_18 1 (pc' := 35) (ls' := [some (.ref h0), some (.int v1), some (.int v2)]) (st' := [.int (-1)]) (S' := S) rfl ?_
        cases hr
        exact go_ireturn mm_18 rfl rfl ⟨rfl, rfl, rfl⟩
      · rw [if_neg hc3] at hr
        refine go_run mm_18 2 (pc' := 17) (ls' := [some (.ref h0), some (.int v1), some (.int v2)]) (st' := [.int 16, .int v2]) (S' := S) rfl ?_
        refine go_if2 mm_18 rfl (p1 := 20) (p2 := 34) rfl (fun (hc4 : v2 < 16) => ?_) (fun (hc4 : ¬ v2 < 16) => ?_)
        · rw [if_pos hc4] at hr
          refine go_run mm_18 1 (pc' := 21) (ls' := [some (.ref h0), some (.int v1), some (.int v2)]) (st' := [.ref h0]) (S' := S) rfl ?_
          refine go_getf mm_18 (h := h0) rfl hp0.1 rfl ?_
          show Go XC d 18 0 24 [some (.ref h0), some (.int v1), some (.int v2)] [.ref (h0 + 3)] S (RV (vI r) S)
          refine go_run mm_18 5 (pc' := 30) (ls' := [some (.ref h0), some (.int v1), some (.int v2)]) (st' := [.int ((v2 * 16) + v1), .ref (h0 + 3)]) (S' := S) rfl ?_
          obtain ⟨hb5, hr⟩ := ck_some hr
          refine go_iaload mm_18 (q := (Int32.toNatClampNeg ((v2 * 16) + v1))) rfl (hp0.2.2.2) rfl (ibd_ok hb5) ?_
          show Go XC d 18 0 31 [some (.ref h0), some (.int v1), some (.int v2)] [.int (S.1 (h0 + 3) (Int32.toNatClampNeg ((v2 * 16) + v1)))] S (RV (vI r) S)
          refine go_run mm_18 1 (pc' := 35) (ls' := [some (.ref h0), some (.int v1), some (.int v2)]) (st' := [.int (S.1 (h0 + 3) (Int32.toNatClampNeg ((v2 * 16) + v1)))]) (S' := S) rfl ?_
          cases hr
          exact go_ireturn mm_18 rfl rfl ⟨rfl, rfl, rfl⟩
        · rw [if_neg hc4] at hr
          refine go_run mm_18 1 (pc' := 35) (ls' := [some (.ref h0), some (.int v1), some (.int v2)]) (st' := [.int (-1)]) (S' := S) rfl ?_
          cases hr
          exact go_ireturn mm_18 rfl rfl ⟨rfl, rfl, rfl⟩
    · rw [if_neg hc2] at hr
      refine go_run mm_18 1 (pc' := 35) (ls' := [some (.ref h0), some (.int v1), some (.int v2)]) (st' := [.int (-1)]) (S' := S) rfl ?_
      cases hr
      exact go_ireturn mm_18 rfl rfl ⟨rfl, rfl, rfl⟩

theorem mm_44 : mtG 44 = some (mi_44, 6, ft_44) := rfl
def F_44 (h0 : Nat) (v1 : Int32) (S : ST) : Option Int32 := if v1 < 0 then (some (-1)) else (if v1 < (S.1 h0 0) then (ck (ibd v1 12) (some (S.1 (h0 + 1) (Int32.toNatClampNeg v1)))) else (some (-1)))
set_option maxRecDepth 20000 in
theorem S_44 {d : Nat} {S : ST} {h0 : Nat} {v1 : Int32} {r} (hp0 : PLH h0) (hr : F_44 h0 v1 S = some r) : Cal XC d 44 [.ref h0, .int v1] S (RV (vI r) S) := by
  unfold F_44 at hr
  refine cal_go 0 rfl ?_
  refine go_run mm_44 1 (pc' := 1) (ls' := [some (.ref h0), some (.int v1)]) (st' := [.int v1]) (S' := S) rfl ?_
  refine go_if0 mm_44 rfl (p1 := 21) (p2 := 4) rfl (fun (hc1 : v1 < 0) => ?_) (fun (hc1 : ¬ v1 < 0) => ?_)
  · rw [if_pos hc1] at hr
    refine go_run mm_44 1 (pc' := 22) (ls' := [some (.ref h0), some (.int v1)]) (st' := [.int (-1)]) (S' := S) rfl ?_
    cases hr
    exact go_ireturn mm_44 rfl rfl ⟨rfl, rfl, rfl⟩
  · rw [if_neg hc1] at hr
    refine go_run mm_44 2 (pc' := 6) (ls' := [some (.ref h0), some (.int v1)]) (st' := [.ref h0, .int v1]) (S' := S) rfl ?_
    refine go_getf mm_44 (h := h0) rfl hp0.1 rfl ?_
    show Go XC d 44 0 9 [some (.ref h0), some (.int v1)] [.int (S.1 h0 0), .int v1] S (RV (vI r) S)
    refine go_if2 mm_44 rfl (p1 := 12) (p2 := 21) rfl (fun (hc2 : v1 < (S.1 h0 0)) => ?_) (fun (hc2 : ¬ v1 < (S.1 h0 0)) => ?_)
    · rw [if_pos hc2] at hr
      refine go_run mm_44 1 (pc' := 13) (ls' := [some (.ref h0), some (.int v1)]) (st' := [.ref h0]) (S' := S) rfl ?_
      refine go_getf mm_44 (h := h0) rfl hp0.1 rfl ?_
      show Go XC d 44 0 16 [some (.ref h0), some (.int v1)] [.ref (h0 + 1)] S (RV (vI r) S)
      refine go_run mm_44 1 (pc' := 17) (ls' := [some (.ref h0), some (.int v1)]) (st' := [.int v1, .ref (h0 + 1)]) (S' := S) rfl ?_
      obtain ⟨hb3, hr⟩ := ck_some hr
      refine go_iaload mm_44 (q := (Int32.toNatClampNeg v1)) rfl (hp0.2.1) rfl (ibd_ok hb3) ?_
      show Go XC d 44 0 18 [some (.ref h0), some (.int v1)] [.int (S.1 (h0 + 1) (Int32.toNatClampNeg v1))] S (RV (vI r) S)
      refine go_run mm_44 1 (pc' := 22) (ls' := [some (.ref h0), some (.int v1)]) (st' := [.int (S.1 (h0 + 1) (Int32.toNatClampNeg v1))]) (S' := S) rfl ?_
      cases hr
      exact go_ireturn mm_44 rfl rfl ⟨rfl, rfl, rfl⟩
    · rw [if_neg hc2] at hr
      refine go_run mm_44 1 (pc' := 22) (ls' := [some (.ref h0), some (.int v1)]) (st' := [.int (-1)]) (S' := S) rfl ?_
      cases hr
      exact go_ireturn mm_44 rfl rfl ⟨rfl, rfl, rfl⟩

theorem mm_45 : mtG 45 = some (mi_45, 6, ft_45) := rfl
def F_45 (h0 : Nat) (v1 : Int32) (S : ST) : Option Int32 := if v1 < 0 then (some (-1)) else (if v1 < (S.1 h0 0) then (ck (ibd v1 12) (some (S.1 (h0 + 2) (Int32.toNatClampNeg v1)))) else (some (-1)))
set_option maxRecDepth 20000 in
theorem S_45 {d : Nat} {S : ST} {h0 : Nat} {v1 : Int32} {r} (hp0 : PLH h0) (hr : F_45 h0 v1 S = some r) : Cal XC d 45 [.ref h0, .int v1] S (RV (vI r) S) := by
  unfold F_45 at hr
  refine cal_go 0 rfl ?_
  refine go_run mm_45 1 (pc' := 1) (ls' := [some (.ref h0), some (.int v1)]) (st' := [.int v1]) (S' := S) rfl ?_
  refine go_if0 mm_45 rfl (p1 := 21) (p2 := 4) rfl (fun (hc1 : v1 < 0) => ?_) (fun (hc1 : ¬ v1 < 0) => ?_)
  · rw [if_pos hc1] at hr
    refine go_run mm_45 1 (pc' := 22) (ls' := [some (.ref h0), some (.int v1)]) (st' := [.int (-1)]) (S' := S) rfl ?_
    cases hr
    exact go_ireturn mm_45 rfl rfl ⟨rfl, rfl, rfl⟩
  · rw [if_neg hc1] at hr
    refine go_run mm_45 2 (pc' := 6) (ls' := [some (.ref h0), some (.int v1)]) (st' := [.ref h0, .int v1]) (S' := S) rfl ?_
    refine go_getf mm_45 (h := h0) rfl hp0.1 rfl ?_
    show Go XC d 45 0 9 [some (.ref h0), some (.int v1)] [.int (S.1 h0 0), .int v1] S (RV (vI r) S)
    refine go_if2 mm_45 rfl (p1 := 12) (p2 := 21) rfl (fun (hc2 : v1 < (S.1 h0 0)) => ?_) (fun (hc2 : ¬ v1 < (S.1 h0 0)) => ?_)
    · rw [if_pos hc2] at hr
      refine go_run mm_45 1 (pc' := 13) (ls' := [some (.ref h0), some (.int v1)]) (st' := [.ref h0]) (S' := S) rfl ?_
      refine go_getf mm_45 (h := h0) rfl hp0.1 rfl ?_
      show Go XC d 45 0 16 [some (.ref h0), some (.int v1)] [.ref (h0 + 2)] S (RV (vI r) S)
      refine go_run mm_45 1 (pc' := 17) (ls' := [some (.ref h0), some (.int v1)]) (st' := [.int v1, .ref (h0 + 2)]) (S' := S) rfl ?_
      obtain ⟨hb3, hr⟩ := ck_some hr
      refine go_iaload mm_45 (q := (Int32.toNatClampNeg v1)) rfl (hp0.2.2.1) rfl (ibd_ok hb3) ?_
      show Go XC d 45 0 18 [some (.ref h0), some (.int v1)] [.int (S.1 (h0 + 2) (Int32.toNatClampNeg v1))] S (RV (vI r) S)
      refine go_run mm_45 1 (pc' := 22) (ls' := [some (.ref h0), some (.int v1)]) (st' := [.int (S.1 (h0 + 2) (Int32.toNatClampNeg v1))]) (S' := S) rfl ?_
      cases hr
      exact go_ireturn mm_45 rfl rfl ⟨rfl, rfl, rfl⟩
    · rw [if_neg hc2] at hr
      refine go_run mm_45 1 (pc' := 22) (ls' := [some (.ref h0), some (.int v1)]) (st' := [.int (-1)]) (S' := S) rfl ?_
      cases hr
      exact go_ireturn mm_45 rfl rfl ⟨rfl, rfl, rfl⟩

theorem mm_73 : mtG 73 = some (mi_73, 7, ft_73) := rfl
def F_73 (v1 : Int32) (S : ST) : Option Int64 := if v1 < 0 then (some 0) else (if v1 < 64 then (ck (ibd v1 64) (some (S.2 31 (Int32.toNatClampNeg v1)))) else (some 0))
set_option maxRecDepth 20000 in
theorem S_73 {d : Nat} {S : ST} {v1 : Int32} {r} (hr : F_73 v1 S = some r) : Cal XC d 73 [.ref 30, .int v1] S (RV (vJ r) S) := by
  unfold F_73 at hr
  refine cal_go 0 rfl ?_
  refine go_run mm_73 1 (pc' := 1) (ls' := [some (.ref 30), some (.int v1)]) (st' := [.int v1]) (S' := S) rfl ?_
  refine go_if0 mm_73 rfl (p1 := 19) (p2 := 4) rfl (fun (hc1 : v1 < 0) => ?_) (fun (hc1 : ¬ v1 < 0) => ?_)
  · rw [if_pos hc1] at hr
    refine go_run mm_73 1 (pc' := 20) (ls' := [some (.ref 30), some (.int v1)]) (st' := [.long 0]) (S' := S) rfl ?_
    cases hr
    exact go_lreturn mm_73 rfl rfl ⟨rfl, rfl, rfl⟩
  · rw [if_neg hc1] at hr
    refine go_run mm_73 2 (pc' := 7) (ls' := [some (.ref 30), some (.int v1)]) (st' := [.int 64, .int v1]) (S' := S) rfl ?_
    refine go_if2 mm_73 rfl (p1 := 10) (p2 := 19) rfl (fun (hc2 : v1 < 64) => ?_) (fun (hc2 : ¬ v1 < 64) => ?_)
    · rw [if_pos hc2] at hr
      refine go_run mm_73 3 (pc' := 15) (ls' := [some (.ref 30), some (.int v1)]) (st' := [.int v1, .ref 31]) (S' := S) rfl ?_
      obtain ⟨hb3, hr⟩ := ck_some hr
      refine go_laload mm_73 (q := (Int32.toNatClampNeg v1)) rfl rfl rfl (ibd_ok hb3) ?_
      show Go XC d 73 0 16 [some (.ref 30), some (.int v1)] [.long (S.2 31 (Int32.toNatClampNeg v1))] S (RV (vJ r) S)
      refine go_run mm_73 1 (pc' := 20) (ls' := [some (.ref 30), some (.int v1)]) (st' := [.long (S.2 31 (Int32.toNatClampNeg v1))]) (S' := S) rfl ?_
      cases hr
      exact go_lreturn mm_73 rfl rfl ⟨rfl, rfl, rfl⟩
    · rw [if_neg hc2] at hr
      refine go_run mm_73 1 (pc' := 20) (ls' := [some (.ref 30), some (.int v1)]) (st' := [.long 0]) (S' := S) rfl ?_
      cases hr
      exact go_lreturn mm_73 rfl rfl ⟨rfl, rfl, rfl⟩

theorem mm_1 : mtG 1 = some (mi_1, 0, ft_1) := rfl
def L_1_9 (a9 : Int32 × ST) : Option ((Int32 × ST) ⊕ (Int32 × ST)) := if a9.1 < (a9.2.1 3 0) then (if a9.1 < 12 then (ob (F_44 3 a9.1 a9.2) (fun w1 => ob (F_45 3 a9.1 a9.2) (fun w2 => ob (F_18 21 w1 w2 a9.2) (fun w3 => ob (F_73 w3 a9.2) (fun w4 => ck (ibd a9.1 12) (sbn ((wL a9.2 40 (Int32.toNatClampNeg a9.1) w4)) (fun s5 => some (.inl (a9.1 + 1, s5))))))))) else (some (.inr (a9.1, a9.2)))) else (some (.inr (a9.1, a9.2)))
set_option maxRecDepth 20000 in
theorem LS_1_9 {d : Nat} {R : RT} {a9 : Int32 × ST} {r9} (hr : L_1_9 a9 = some r9) (hL : ∀ a9, r9 = .inl a9 → (fun a9 => Go XC (d + 3) 1 0 9 [some (.ref 39), some (.int a9.1)] [] a9.2 R) a9) (hR : ∀ b9, r9 = .inr b9 → (fun e9 => Go XC (d + 3) 1 0 68 [some (.ref 39), some (.int e9.1)] [] e9.2 R) b9) : Go XC (d + 3) 1 0 9 [some (.ref 39), some (.int a9.1)] [] a9.2 R := by
  unfold L_1_9 at hr
  refine go_run mm_1 4 (pc' := 17) (ls' := [some (.ref 39), some (.int a9.1)]) (st' := [.int (a9.2.1 3 0), .int a9.1]) (S' := a9.2) rfl ?_
  refine go_if2 mm_1 rfl (p1 := 20) (p2 := 68) rfl (fun (hc2 : a9.1 < (a9.2.1 3 0)) => ?_) (fun (hc2 : ¬ a9.1 < (a9.2.1 3 0)) => ?_)
  · rw [if_pos hc2] at hr
    refine go_run mm_1 2 (pc' := 23) (ls' := [some (.ref 39), some (.int a9.1)]) (st' := [.int 12, .int a9.1]) (S' := a9.2) rfl ?_
    refine go_if2 mm_1 rfl (p1 := 26) (p2 := 68) rfl (fun (hc3 : a9.1 < 12) => ?_) (fun (hc3 : ¬ a9.1 < 12) => ?_)
    · rw [if_pos hc3] at hr
      refine go_run mm_1 10 (pc' := 44) (ls' := [some (.ref 39), some (.int a9.1)]) (st' := [.int a9.1, .ref 3, .ref 21, .ref 30, .int a9.1, .ref 40]) (S' := a9.2) rfl ?_
      obtain ⟨w1, hw1, hr⟩ := ob_some hr
      refine go_cv mm_1 (h := 3) (As := [.int a9.1]) (rest := [.ref 21, .ref 30, .int a9.1, .ref 40]) (nl := 2) rfl rfl (show cvOK 1 44 49 44 1 2 5 = true by decide +kernel) rfl rfl rfl (S_44 (plB_ok rfl) hw1) (KP_V ?_)
      show Go XC (d + 3) 1 0 47 [some (.ref 39), some (.int a9.1)] [.int w1, .ref 21, .ref 30, .int a9.1, .ref 40] a9.2 R
      refine go_run mm_1 3 (pc' := 52) (ls' := [some (.ref 39), some (.int a9.1)]) (st' := [.int a9.1, .ref 3, .int w1, .ref 21, .ref 30, .int a9.1, .ref 40]) (S' := a9.2) rfl ?_
      obtain ⟨w2, hw2, hr⟩ := ob_some hr
      refine go_cv mm_1 (h := 3) (As := [.int a9.1]) (rest := [.int w1, .ref 21, .ref 30, .int a9.1, .ref 40]) (nl := 2) rfl rfl (show cvOK 1 52 53 45 1 2 5 = true by decide +kernel) rfl rfl rfl (S_45 (plB_ok rfl) hw2) (KP_V ?_)
      show Go XC (d + 3) 1 0 55 [some (.ref 39), some (.int a9.1)] [.int w2, .int w1, .ref 21, .ref 30, .int a9.1, .ref 40] a9.2 R
      obtain ⟨w3, hw3, hr⟩ := ob_some hr
      refine go_cv mm_1 (h := 21) (As := [.int w1, .int w2]) (rest := [.ref 30, .int a9.1, .ref 40]) (nl := 3) rfl rfl (show cvOK 1 55 56 18 2 3 3 = true by decide +kernel) rfl rfl rfl (S_18 (ltB_ok rfl) hw3) (KP_V ?_)
      show Go XC (d + 3) 1 0 58 [some (.ref 39), some (.int a9.1)] [.int w3, .ref 30, .int a9.1, .ref 40] a9.2 R
      obtain ⟨w4, hw4, hr⟩ := ob_some hr
      refine go_cv mm_1 (h := 30) (As := [.int w3]) (rest := [.int a9.1, .ref 40]) (nl := 2) rfl rfl (show cvOK 1 58 62 73 1 2 6 = true by decide +kernel) rfl rfl rfl (S_73 hw4) (KP_V ?_)
      show Go XC (d + 3) 1 0 61 [some (.ref 39), some (.int a9.1)] [.long w4, .int a9.1, .ref 40] a9.2 R
      obtain ⟨hb4, hr⟩ := ck_some hr
      refine go_lastore mm_1 (q := (Int32.toNatClampNeg a9.1)) rfl rfl rfl (ibd_ok hb4) ?_
      show Go XC (d + 3) 1 0 62 [some (.ref 39), some (.int a9.1)] [] (wL a9.2 40 (Int32.toNatClampNeg a9.1) w4) R
      obtain ⟨s5, es5, hr⟩ := sbn_some hr
      rw [← es5]
      refine go_run mm_1 2 (pc' := 9) (ls' := [some (.ref 39), some (.int (a9.1 + 1))]) (st' := []) (S' := s5) rfl ?_
      cases hr
      have h9 := hL (a9.1 + 1, s5) rfl
      dsimp only at h9
      exact Go.le h9 (by repeat first | exact True.intro | refine And.intro rfl ?_)
    · rw [if_neg hc3] at hr
      cases hr
      have h9 := hR (a9.1, a9.2) rfl
      dsimp only [Sum.elim_inl] at h9
      exact Go.le h9 (by repeat first | exact True.intro | refine And.intro rfl ?_)
  · rw [if_neg hc2] at hr
    cases hr
    have h9 := hR (a9.1, a9.2) rfl
    dsimp only [Sum.elim_inl] at h9
    exact Go.le h9 (by repeat first | exact True.intro | refine And.intro rfl ?_)
def F_1 (S : ST) : Option (Int32 × ST) := if (S.1 39 6) = 0 then (ob (wh FU (L_1_9) (0, S)) (fun e9 => ob (F_3 e9.2) (fun w5 => some (w5, (wI e9.2 39 6 w5))))) else (some (S.1 39 6, S))
set_option maxRecDepth 20000 in
theorem S_1 {d : Nat} {S : ST} {r} (hr : F_1 S = some r) : Cal XC (d + 3) 1 [.ref 39] S (RV (vI r.1) r.2) := by
  unfold F_1 at hr
  refine cal_go 1 rfl ?_
  refine go_run mm_1 2 (pc' := 4) (ls' := [some (.ref 39), none]) (st' := [.int (S.1 39 6)]) (S' := S) rfl ?_
  refine go_if0 mm_1 rfl (p1 := 7) (p2 := 76) rfl (fun (hc1 : (S.1 39 6) = 0) => ?_) (fun (hc1 : ¬ (S.1 39 6) = 0) => ?_)
  · rw [if_pos hc1] at hr
    refine go_run mm_1 2 (pc' := 9) (ls' := [some (.ref 39), some (.int 0)]) (st' := []) (S' := S) rfl ?_
    obtain ⟨z9, he9, hr⟩ := ob_some hr
    refine Go.le (ls' := [some (.ref 39), some (.int 0)]) ?_ (by repeat first | exact True.intro | refine And.intro rfl ?_)
    refine wh_go (P := fun a9 => Go XC (d + 3) 1 0 9 [some (.ref 39), some (.int a9.1)] [] a9.2 (RV (vI r.1) r.2)) (K := fun e9 => Go XC (d + 3) 1 0 68 [some (.ref 39), some (.int e9.1)] [] e9.2 (RV (vI r.1) r.2)) (fun a9 r9 h9 hL hR => LS_1_9 h9 hL hR) _ _ _ he9 ?_
    generalize z9 = e9 at hr
    show Go XC (d + 3) 1 0 68 [some (.ref 39), some (.int e9.1)] [] e9.2 (RV (vI r.1) r.2)
    refine go_run mm_1 2 (pc' := 70) (ls' := [some (.ref 39), some (.int e9.1)]) (st' := [.ref 39, .ref 39]) (S' := e9.2) rfl ?_
    obtain ⟨w5, hw5, hr⟩ := ob_some hr
    refine go_cv mm_1 (h := 39) (As := []) (rest := [.ref 39]) (nl := 4) rfl rfl (show cvOK 1 70 68 3 0 4 0 = true by decide +kernel) rfl rfl rfl (S_3 hw5) (KP_V ?_)
    show Go XC (d + 3) 1 0 73 [some (.ref 39), some (.int e9.1)] [.int w5, .ref 39] e9.2 (RV (vI r.1) r.2)
    refine go_run mm_1 3 (pc' := 80) (ls' := [some (.ref 39), some (.int e9.1)]) (st' := [.int w5]) (S' := (wI e9.2 39 6 w5)) rfl ?_
    cases hr
    exact go_ireturn mm_1 rfl rfl ⟨rfl, rfl, rfl⟩
  · rw [if_neg hc1] at hr
    refine go_run mm_1 2 (pc' := 80) (ls' := [some (.ref 39), none]) (st' := [.int (S.1 39 6)]) (S' := S) rfl ?_
    cases hr
    exact go_ireturn mm_1 rfl rfl ⟨rfl, rfl, rfl⟩

theorem mm_19 : mtG 19 = some (mi_19, 3, ft_19) := rfl
def F_19 (h0 : Nat) (v1 : Int32) (S : ST) : Option Int32 := if v1 < 0 then (some (-1)) else (if v1 < (S.1 h0 0) then (if v1 < 64 then (ck (ibd v1 64) (some (S.1 (h0 + 1) (Int32.toNatClampNeg v1)))) else (some (-1))) else (some (-1)))
set_option maxRecDepth 20000 in
theorem S_19 {d : Nat} {S : ST} {h0 : Nat} {v1 : Int32} {r} (hp0 : LTH h0) (hr : F_19 h0 v1 S = some r) : Cal XC d 19 [.ref h0, .int v1] S (RV (vI r) S) := by
  unfold F_19 at hr
  refine cal_go 0 rfl ?_
  refine go_run mm_19 1 (pc' := 1) (ls' := [some (.ref h0), some (.int v1)]) (st' := [.int v1]) (S' := S) rfl ?_
  refine go_if0 mm_19 rfl (p1 := 27) (p2 := 4) rfl (fun (hc1 : v1 < 0) => ?_) (fun (hc1 : ¬ v1 < 0) => ?_)
  · rw [if_pos hc1] at hr
    refine go_run mm_19 1 (pc' := 28) (ls' := [some (.ref h0), some (.int v1)]) (st' := [.int (-1)]) (S' := S) rfl ?_
    cases hr
    exact go_ireturn mm_19 rfl rfl ⟨rfl, rfl, rfl⟩
  · rw [if_neg hc1] at hr
    refine go_run mm_19 2 (pc' := 6) (ls' := [some (.ref h0), some (.int v1)]) (st' := [.ref h0, .int v1]) (S' := S) rfl ?_
    refine go_getf mm_19 (h := h0) rfl hp0.1 rfl ?_
    show Go XC d 19 0 9 [some (.ref h0), some (.int v1)] [.int (S.1 h0 0), .int v1] S (RV (vI r) S)
    refine go_if2 mm_19 rfl (p1 := 12) (p2 := 27) rfl (fun (hc2 : v1 < (S.1 h0 0)) => ?_) (fun (hc2 : ¬ v1 < (S.1 h0 0)) => ?_)
    · rw [if_pos hc2] at hr
      refine go_run mm_19 2 (pc' := 15) (ls' := [some (.ref h0), some (.int v1)]) (st' := [.int 64, .int v1]) (S' := S) rfl ?_
      refine go_if2 mm_19 rfl (p1 := 18) (p2 := 27) rfl (fun (hc3 : v1 < 64) => ?_) (fun (hc3 : ¬ v1 < 64) => ?_)
      · rw [if_pos hc3] at hr
        refine go_run mm_19 1 (pc' := 19) (ls' := [some (.ref h0), some (.int v1)]) (st' := [.ref h0]) (S' := S) rfl ?_
        refine go_getf mm_19 (h := h0) rfl hp0.1 rfl ?_
        show Go XC d 19 0 22 [some (.ref h0), some (.int v1)] [.ref (h0 + 1)] S (RV (vI r) S)
        refine go_run mm_19 1 (pc' := 23) (ls' := [some (.ref h0), some (.int v1)]) (st' := [.int v1, .ref (h0 + 1)]) (S' := S) rfl ?_
        obtain ⟨hb4, hr⟩ := ck_some hr
        refine go_iaload mm_19 (q := (Int32.toNatClampNeg v1)) rfl (hp0.2.1) rfl (ibd_ok hb4) ?_
        show Go XC d 19 0 24 [some (.ref h0), some (.int v1)] [.int (S.1 (h0 + 1) (Int32.toNatClampNeg v1))] S (RV (vI r) S)
        refine go_run mm_19 1 (pc' := 28) (ls' := [some (.ref h0), some (.int v1)]) (st' := [.int (S.1 (h0 + 1) (Int32.toNatClampNeg v1))]) (S' := S) rfl ?_
        cases hr
        exact go_ireturn mm_19 rfl rfl ⟨rfl, rfl, rfl⟩
      · rw [if_neg hc3] at hr
        refine go_run mm_19 1 (pc' := 28) (ls' := [some (.ref h0), some (.int v1)]) (st' := [.int (-1)]) (S' := S) rfl ?_
        cases hr
        exact go_ireturn mm_19 rfl rfl ⟨rfl, rfl, rfl⟩
    · rw [if_neg hc2] at hr
      refine go_run mm_19 1 (pc' := 28) (ls' := [some (.ref h0), some (.int v1)]) (st' := [.int (-1)]) (S' := S) rfl ?_
      cases hr
      exact go_ireturn mm_19 rfl rfl ⟨rfl, rfl, rfl⟩

theorem mm_20 : mtG 20 = some (mi_20, 3, ft_20) := rfl
def F_20 (h0 : Nat) (v1 : Int32) (S : ST) : Option Int32 := if v1 < 0 then (some (-1)) else (if v1 < (S.1 h0 0) then (if v1 < 64 then (ck (ibd v1 64) (some (S.1 (h0 + 2) (Int32.toNatClampNeg v1)))) else (some (-1))) else (some (-1)))
set_option maxRecDepth 20000 in
theorem S_20 {d : Nat} {S : ST} {h0 : Nat} {v1 : Int32} {r} (hp0 : LTH h0) (hr : F_20 h0 v1 S = some r) : Cal XC d 20 [.ref h0, .int v1] S (RV (vI r) S) := by
  unfold F_20 at hr
  refine cal_go 0 rfl ?_
  refine go_run mm_20 1 (pc' := 1) (ls' := [some (.ref h0), some (.int v1)]) (st' := [.int v1]) (S' := S) rfl ?_
  refine go_if0 mm_20 rfl (p1 := 27) (p2 := 4) rfl (fun (hc1 : v1 < 0) => ?_) (fun (hc1 : ¬ v1 < 0) => ?_)
  · rw [if_pos hc1] at hr
    refine go_run mm_20 1 (pc' := 28) (ls' := [some (.ref h0), some (.int v1)]) (st' := [.int (-1)]) (S' := S) rfl ?_
    cases hr
    exact go_ireturn mm_20 rfl rfl ⟨rfl, rfl, rfl⟩
  · rw [if_neg hc1] at hr
    refine go_run mm_20 2 (pc' := 6) (ls' := [some (.ref h0), some (.int v1)]) (st' := [.ref h0, .int v1]) (S' := S) rfl ?_
    refine go_getf mm_20 (h := h0) rfl hp0.1 rfl ?_
    show Go XC d 20 0 9 [some (.ref h0), some (.int v1)] [.int (S.1 h0 0), .int v1] S (RV (vI r) S)
    refine go_if2 mm_20 rfl (p1 := 12) (p2 := 27) rfl (fun (hc2 : v1 < (S.1 h0 0)) => ?_) (fun (hc2 : ¬ v1 < (S.1 h0 0)) => ?_)
    · rw [if_pos hc2] at hr
      refine go_run mm_20 2 (pc' := 15) (ls' := [some (.ref h0), some (.int v1)]) (st' := [.int 64, .int v1]) (S' := S) rfl ?_
      refine go_if2 mm_20 rfl (p1 := 18) (p2 := 27) rfl (fun (hc3 : v1 < 64) => ?_) (fun (hc3 : ¬ v1 < 64) => ?_)
      · rw [if_pos hc3] at hr
        refine go_run mm_20 1 (pc' := 19) (ls' := [some (.ref h0), some (.int v1)]) (st' := [.ref h0]) (S' := S) rfl ?_
        refine go_getf mm_20 (h := h0) rfl hp0.1 rfl ?_
        show Go XC d 20 0 22 [some (.ref h0), some (.int v1)] [.ref (h0 + 2)] S (RV (vI r) S)
        refine go_run mm_20 1 (pc' := 23) (ls' := [some (.ref h0), some (.int v1)]) (st' := [.int v1, .ref (h0 + 2)]) (S' := S) rfl ?_
        obtain ⟨hb4, hr⟩ := ck_some hr
        refine go_iaload mm_20 (q := (Int32.toNatClampNeg v1)) rfl (hp0.2.2.1) rfl (ibd_ok hb4) ?_
        show Go XC d 20 0 24 [some (.ref h0), some (.int v1)] [.int (S.1 (h0 + 2) (Int32.toNatClampNeg v1))] S (RV (vI r) S)
        refine go_run mm_20 1 (pc' := 28) (ls' := [some (.ref h0), some (.int v1)]) (st' := [.int (S.1 (h0 + 2) (Int32.toNatClampNeg v1))]) (S' := S) rfl ?_
        cases hr
        exact go_ireturn mm_20 rfl rfl ⟨rfl, rfl, rfl⟩
      · rw [if_neg hc3] at hr
        refine go_run mm_20 1 (pc' := 28) (ls' := [some (.ref h0), some (.int v1)]) (st' := [.int (-1)]) (S' := S) rfl ?_
        cases hr
        exact go_ireturn mm_20 rfl rfl ⟨rfl, rfl, rfl⟩
    · rw [if_neg hc2] at hr
      refine go_run mm_20 1 (pc' := 28) (ls' := [some (.ref h0), some (.int v1)]) (st' := [.int (-1)]) (S' := S) rfl ?_
      cases hr
      exact go_ireturn mm_20 rfl rfl ⟨rfl, rfl, rfl⟩

theorem mm_23 : mtG 23 = some (mi_23, 4, ft_23) := rfl
def F_23 (v0 : Int32) (v1 : Int32) (v2 : Int32) (v3 : Int32) (v4 : Int32) (v5 : Int32) : Int32 := ((v2 - v0) * (v5 - v1)) - ((v3 - v1) * (v4 - v0))
set_option maxRecDepth 20000 in
theorem S_23 {d : Nat} {S : ST} {v0 : Int32} {v1 : Int32} {v2 : Int32} {v3 : Int32} {v4 : Int32} {v5 : Int32} {r} (hr : F_23 v0 v1 v2 v3 v4 v5 = r) : Cal XC d 23 [.int v0, .int v1, .int v2, .int v3, .int v4, .int v5] S (RV (vI r) S) := by
  unfold F_23 at hr
  refine cal_go 0 rfl ?_
  refine go_run mm_23 15 (pc' := 17) (ls' := [some (.int v0), some (.int v1), some (.int v2), some (.int v3), some (.int v4), some (.int v5)]) (st' := [.int (((v2 - v0) * (v5 - v1)) - ((v3 - v1) * (v4 - v0)))]) (S' := S) rfl ?_
  cases hr
  exact go_ireturn mm_23 rfl rfl ⟨rfl, rfl, rfl⟩

theorem mm_46 : mtG 46 = some (mi_46, 6, ft_46) := rfl
def F_46 (h0 : Nat) (v1 : Int32) (S : ST) : Int32 := (if (v1 + 1) < (S.1 h0 0) then v1 + 1 else 0)
set_option maxRecDepth 20000 in
theorem S_46 {d : Nat} {S : ST} {h0 : Nat} {v1 : Int32} {r} (hp0 : PLH h0) (hr : F_46 h0 v1 S = r) : Cal XC d 46 [.ref h0, .int v1] S (RV (vI r) S) := by
  unfold F_46 at hr
  refine cal_go 0 rfl ?_
  refine go_run mm_46 4 (pc' := 4) (ls' := [some (.ref h0), some (.int v1)]) (st' := [.ref h0, .int (v1 + 1)]) (S' := S) rfl ?_
  refine go_getf mm_46 (h := h0) rfl hp0.1 rfl ?_
  show Go XC d 46 0 7 [some (.ref h0), some (.int v1)] [.int (S.1 h0 0), .int (v1 + 1)] S (RV (vI r) S)
  have j2 : Go XC d 46 0 17 [some (.ref h0), some (.int v1)] [.int (if (v1 + 1) < (S.1 h0 0) then v1 + 1 else 0)] S (RV (vI r) S) := by
    cases hr
    exact go_ireturn mm_46 rfl rfl ⟨rfl, rfl, rfl⟩
  refine go_if2 mm_46 rfl (p1 := 10) (p2 := 16) rfl (fun (hc1 : (v1 + 1) < (S.1 h0 0)) => ?_) (fun (hc1 : ¬ (v1 + 1) < (S.1 h0 0)) => ?_)
  · refine go_run mm_46 4 (pc' := 17) (ls' := [some (.ref h0), some (.int v1)]) (st' := [.int (v1 + 1)]) (S' := S) rfl ?_
    have e : ((if (v1 + 1) < (S.1 h0 0) then v1 + 1 else 0) : Int32) = v1 + 1 := by simp [b2i, hc1]
    rw [e] at j2
    exact j2
  · refine go_run mm_46 1 (pc' := 17) (ls' := [some (.ref h0), some (.int v1)]) (st' := [.int 0]) (S' := S) rfl ?_
    have e : ((if (v1 + 1) < (S.1 h0 0) then v1 + 1 else 0) : Int32) = 0 := by simp [b2i, hc1]
    rw [e] at j2
    exact j2
