/-! the reference's points: how many, where, their numbers -/
theorem ne_t {b : Bool} (h : b = false) : ¬ b = true := by rw [h]; exact Bool.false_ne_true
def li (x : Nat) : Int64 := Int32.toInt64 (nJ x)
theorem li_t {x : Nat} (h : x < 2147483648) : (li x).toInt = x := by unfold li; rw [Int32.toInt_toInt64, nJ_toInt h]
/-- how many of the first t have p -/
def rk (p : Nat → Bool) : Nat → Nat
  | 0 => 0
  | t + 1 => rk p t + (if p t = true then 1 else 0)
theorem rk_le (p : Nat → Bool) : ∀ t, rk p t ≤ t
  | 0 => Nat.le_refl _
  | t + 1 => by
    have := rk_le p t
    show rk p t + (if p t = true then 1 else 0) ≤ t + 1
    split <;> omega
theorem rk_mono (p : Nat → Bool) {s t : Nat} (h : s ≤ t) : rk p s ≤ rk p t := by
  induction t with
  | zero => have : s = 0 := by omega
            subst this; exact Nat.le_refl _
  | succ t ih =>
    by_cases hs : s = t + 1
    · subst hs; exact Nat.le_refl _
    · have := ih (by omega)
      show _ ≤ rk p t + (if p t = true then 1 else 0)
      omega
theorem rk_lt {p : Nat → Bool} {s t : Nat} (h : s < t) (hp : p s = true) : rk p s < rk p t := by
  have h1 := rk_mono p (show s + 1 ≤ t from h)
  have h2 : rk p (s + 1) = rk p s + 1 := by
    show rk p s + (if p s = true then 1 else 0) = _
    rw [if_pos hp]
  omega
theorem rk_inj {p : Nat → Bool} {s t : Nat} (hs : p s = true) (ht : p t = true) (h : rk p s = rk p t) : s = t := by
  rcases Nat.lt_trichotomy s t with q | q | q
  · have := rk_lt q hs; omega
  · exact q
  · have := rk_lt q ht; omega
theorem rk_ex (p : Nat → Bool) : ∀ {t j : Nat}, j < rk p t → ∃ s, s < t ∧ p s = true ∧ rk p s = j
  | 0, j, h => by cases h
  | t + 1, j, h => by
    by_cases hj : j < rk p t
    · obtain ⟨s, h1, h2, h3⟩ := rk_ex p hj
      exact ⟨s, by omega, h2, h3⟩
    · have h' : j < rk p t + (if p t = true then 1 else 0) := h
      by_cases hp : p t = true
      · rw [if_pos hp] at h'
        exact ⟨t, by omega, hp, by omega⟩
      · rw [if_neg hp] at h'
        omega
theorem rk_cong {p q : Nat → Bool} : ∀ {t : Nat}, (∀ s, s < t → p s = q s) → rk p t = rk q t
  | 0, _ => rfl
  | t + 1, h => by
    show rk p t + (if p t = true then 1 else 0) = rk q t + (if q t = true then 1 else 0)
    rw [rk_cong (fun s hs => h s (by omega)), h t (by omega)]
/-- the t-th place of the square belongs to the row's polygon -/
def inp (S : ST) (h : Nat) (t : Nat) : Bool := f_208 S h (li (t % 16)) (li (t / 16)) 1
theorem inp_xy (S : ST) (h : Nat) {x y : Nat} (hx : x < 16) : inp S h (16 * y + x) = f_208 S h (li x) (li y) 1 := by
  unfold inp
  rw [show (16 * y + x) % 16 = x by omega, show (16 * y + x) / 16 = y by omega]
theorem nJ_b (n : Nat) (b : Bool) : nJ n + b2i b = nJ (n + (if b = true then 1 else 0)) := by
  cases b
  · exact nJ_add n 0
  · exact nJ_add n 1
theorem mm_212 : mtG 212 = some (mi_212, 12, ft_212) := rfl
theorem b_212_0 {d c : Nat} {R : RT} {S : ST} {h0 : Nat} (x0 : XM h0 = some (.inr (0, 63))) (e1 : Go XM (d + 5) 212 c 4 [some (.ref h0), some (.int 0), some (.int 0), none] [] S R) : Go XM (d + 5) 212 c 0 [some (.ref h0), none, none, none] [] S R := by
  refine go_run mm_212 4 (pc' := 4) (ls' := [some (.ref h0), some (.int 0), some (.int 0), none]) (st' := []) (S' := S) rfl ?_
  exact e1
theorem b_212_4 {d c : Nat} {R : RT} {S : ST} {h0 : Nat} {v1 : Int32} {v2 : Int32} (x0 : XM h0 = some (.inr (0, 63))) (e1 : v2 < 16 → Go XM (d + 5) 212 c 12 [some (.ref h0), some (.int v1), some (.int v2), some (.int 0)] [] S R) (e2 : ¬ v2 < 16 → R c (.inr (some (.int v1))) S) : Go XM (d + 5) 212 c 4 [some (.ref h0), some (.int v1), some (.int v2), none] [] S R := by
  refine go_run mm_212 2 (pc' := 7) (ls' := [some (.ref h0), some (.int v1), some (.int v2), none]) (st' := [.int 16, .int v2]) (S' := S) rfl ?_
  refine go_if2 mm_212 rfl (p1 := 10) (p2 := 50) rfl (fun (hc1 : v2 < 16) => ?_) (fun (hc1 : ¬ v2 < 16) => ?_)
  · refine go_run mm_212 2 (pc' := 12) (ls' := [some (.ref h0), some (.int v1), some (.int v2), some (.int 0)]) (st' := []) (S' := S) rfl ?_
    exact e1 hc1
  · refine go_run mm_212 1 (pc' := 51) (ls' := [some (.ref h0), some (.int v1), some (.int v2), none]) (st' := [.int v1]) (S' := S) rfl ?_
    exact go_ireturn mm_212 rfl rfl (e2 hc1)
theorem b_212_12 {d c : Nat} {R : RT} {S : ST} {h0 : Nat} {v1 : Int32} {v2 : Int32} {v3 : Int32} (x0 : XM h0 = some (.inr (0, 63))) (o1 : v3 < 16 → RW S h0) (e1 : v3 < 16 → Go XM (d + 5) 212 c 12 [some (.ref h0), some (.int (v1 + (b2i (f_208 S h0 (Int32.toInt64 v3) (Int32.toInt64 v2) 1)))), some (.int v2), some (.int (v3 + 1))] [] S R) (e2 : ¬ v3 < 16 → Go XM (d + 5) 212 c 4 [some (.ref h0), some (.int v1), some (.int (v2 + 1)), some (.int v3)] [] S R) : Go XM (d + 5) 212 c 12 [some (.ref h0), some (.int v1), some (.int v2), some (.int v3)] [] S R := by
  refine go_run mm_212 2 (pc' := 15) (ls' := [some (.ref h0), some (.int v1), some (.int v2), some (.int v3)]) (st' := [.int 16, .int v3]) (S' := S) rfl ?_
  refine go_if2 mm_212 rfl (p1 := 18) (p2 := 44) rfl (fun (hc1 : v3 < 16) => ?_) (fun (hc1 : ¬ v3 < 16) => ?_)
  · refine go_run mm_212 7 (pc' := 25) (ls' := [some (.ref h0), some (.int v1), some (.int v2), some (.int v3)]) (st' := [.long 1, .long (Int32.toInt64 v2), .long (Int32.toInt64 v3), .ref h0, .int v1]) (S' := S) rfl ?_
    refine go_cs mm_212 (av := [.ref h0, .long (Int32.toInt64 v3), .long (Int32.toInt64 v2), .long 1]) (rest := [.int v1]) (nl := 16) rfl (show csOK 212 25 172 208 4 16 = true by decide +kernel) rfl rfl rfl (sq_208 x0 (o1 hc1)) (KP_V ?_)
    have j1 : Go XM (d + 5) 212 c 36 [some (.ref h0), some (.int v1), some (.int v2), some (.int v3)] [.int (b2i (f_208 S h0 (Int32.toInt64 v3) (Int32.toInt64 v2) 1)), .int v1] S R := by
      refine go_run mm_212 4 (pc' := 12) (ls' := [some (.ref h0), some (.int (v1 + (b2i (f_208 S h0 (Int32.toInt64 v3) (Int32.toInt64 v2) 1)))), some (.int v2), some (.int (v3 + 1))]) (st' := []) (S' := S) rfl ?_
      exact e1 hc1
    refine go_ifb mm_212 rfl (p1 := 31) (p2 := 35) rfl (fun (hc2 : (f_208 S h0 (Int32.toInt64 v3) (Int32.toInt64 v2) 1) = true) => ?_) (fun (hc2 : (f_208 S h0 (Int32.toInt64 v3) (Int32.toInt64 v2) 1) = false) => ?_)
    · refine go_run mm_212 2 (pc' := 36) (ls' := [some (.ref h0), some (.int v1), some (.int v2), some (.int v3)]) (st' := [.int 1, .int v1]) (S' := S) rfl ?_
      have e : ((b2i (f_208 S h0 (Int32.toInt64 v3) (Int32.toInt64 v2) 1)) : Int32) = 1 := by simp [b2i, hc2]
      rw [e] at j1
      exact j1
    · refine go_run mm_212 1 (pc' := 36) (ls' := [some (.ref h0), some (.int v1), some (.int v2), some (.int v3)]) (st' := [.int 0, .int v1]) (S' := S) rfl ?_
      have e : ((b2i (f_208 S h0 (Int32.toInt64 v3) (Int32.toInt64 v2) 1)) : Int32) = 0 := by simp [b2i, hc2]
      rw [e] at j1
      exact j1
  · refine go_run mm_212 2 (pc' := 4) (ls' := [some (.ref h0), some (.int v1), some (.int (v2 + 1)), some (.int v3)]) (st' := []) (S' := S) rfl ?_
    exact e2 hc1
def f_212 (S : ST) (h0 : Nat) : Int32 := nJ (rk (inp S h0) 256)
theorem sq_212 {d : Nat} {S : ST} {h0 : Nat} (x0 : XM h0 = some (.inr (0, 63))) (hW : RW S h0) : Cal XM (d + 5) 212 [.ref h0] S (RV (some (.int (f_212 S h0))) S) := by
  refine cal_go 3 rfl (b_212_0 x0 ?_)
  have outer : ∀ m y, y + m = 16 → Go XM (d + 5) 212 0 4 [some (.ref h0), some (.int (nJ (rk (inp S h0) (16 * y)))), some (.int (nJ y)), none] [] S (RV (some (.int (f_212 S h0))) S) := by
    intro m
    induction m with
    | zero =>
      intro y hy
      have : y = 16 := by omega
      subst this
      exact b_212_4 x0 (fun hc => absurd hc (by decide)) (fun _ => ⟨rfl, rfl, rfl⟩)
    | succ m ih =>
      intro y hy
      have hlt : nJ y < 16 := (nJ_lt (j := 16) (by omega) (by omega)).mpr (by omega)
      refine b_212_4 x0 (fun _ => ?_) (fun hc => absurd hlt hc)
      have inner : ∀ m' x, x + m' = 16 → Go XM (d + 5) 212 0 12 [some (.ref h0), some (.int (nJ (rk (inp S h0) (16 * y + x)))), some (.int (nJ y)), some (.int (nJ x))] [] S (RV (some (.int (f_212 S h0))) S) := by
        intro m'
        induction m' with
        | zero =>
          intro x hx
          have : x = 16 := by omega
          subst this
          refine b_212_12 x0 (fun hc => absurd hc (by decide)) (fun hc => absurd hc (by decide)) (fun _ => ?_)
          rw [nJ_succ]
          refine Go.le (ih (y + 1) (by omega)) ?_
          rw [show 16 * (y + 1) = 16 * y + 16 by omega]
          exact (by repeat first | exact True.intro | refine And.intro rfl ?_)
        | succ m' ih' =>
          intro x hx
          have hlx : nJ x < 16 := (nJ_lt (j := 16) (by omega) (by omega)).mpr (by omega)
          refine b_212_12 x0 (fun _ => hW) (fun _ => ?_) (fun hc => absurd hlx hc)
          have e : nJ (rk (inp S h0) (16 * y + x)) + b2i (f_208 S h0 (Int32.toInt64 (nJ x)) (Int32.toInt64 (nJ y)) 1) = nJ (rk (inp S h0) (16 * y + (x + 1))) := by
            rw [nJ_b]
            show nJ _ = nJ (rk (inp S h0) (16 * y + x) + (if inp S h0 (16 * y + x) = true then 1 else 0))
            rw [inp_xy S h0 (by omega)]
            rfl
          rw [e, nJ_succ]
          exact ih' (x + 1) (by omega)
      exact inner 16 0 rfl
  exact outer 16 0 rfl
theorem mm_213 : mtG 213 = some (mi_213, 12, ft_213) := rfl
def f_213 (S : ST) (h0 : Nat) : Bool := ((f_182 (S.1 h0 0) 3 12) && ((f_211 S h0) && (!(decide ((64 : Int32) < (f_212 S h0))))))
theorem b_213_0 {d c : Nat} {R : RT} {S : ST} {h0 : Nat} (x0 : XM h0 = some (.inr (0, 63))) (o1 : (f_182 (S.1 h0 0) 3 12) = true → RW S h0) (o2 : (f_182 (S.1 h0 0) 3 12) = true → (f_211 S h0) = true → RW S h0) (e1 : R c (.inr (some (.int (b2i ((f_182 (S.1 h0 0) 3 12) && ((f_211 S h0) && (!(decide ((64 : Int32) < (f_212 S h0)))))))))) S) : Go XM (d + 6) 213 c 0 [some (.ref h0)] [] S R := by
  refine go_run mm_213 2 (pc' := 2) (ls' := [some (.ref h0)]) (st' := [.int 0, .ref h0]) (S' := S) rfl ?_
  refine go_iaload mm_213 (q := 0) rfl x0 rfl (inB_lit rfl) ?_
  refine go_run mm_213 2 (pc' := 6) (ls' := [some (.ref h0)]) (st' := [.int 12, .int 3, .int (S.1 h0 0)]) (S' := S) rfl ?_
  refine go_cs mm_213 (av := [.int (S.1 h0 0), .int 3, .int 12]) (rest := []) (nl := 3) rfl (show csOK 213 6 148 182 3 3 = true by decide +kernel) rfl rfl rfl (sp_182) (KP_V ?_)
  have j3 : Go XM (d + 6) 213 c 33 [some (.ref h0)] [.int (b2i ((f_182 (S.1 h0 0) 3 12) && ((f_211 S h0) && (!(decide ((64 : Int32) < (f_212 S h0)))))))] S R := by
    exact go_zreturn mm_213 rfl rfl (b2i_01 _) (e1)
  refine go_ifb mm_213 rfl (p1 := 12) (p2 := 32) rfl (fun (hc1 : (f_182 (S.1 h0 0) 3 12) = true) => ?_) (fun (hc1 : (f_182 (S.1 h0 0) 3 12) = false) => ?_)
  · refine go_run mm_213 1 (pc' := 13) (ls' := [some (.ref h0)]) (st' := [.ref h0]) (S' := S) rfl ?_
    refine go_cs mm_213 (av := [.ref h0]) (rest := []) (nl := 4) rfl (show csOK 213 13 235 211 1 4 = true by decide +kernel) rfl rfl rfl (sq_211 x0 (o1 hc1)) (KP_V ?_)
    have j2 : Go XM (d + 6) 213 c 33 [some (.ref h0)] [.int (b2i ((f_211 S h0) && (!(decide ((64 : Int32) < (f_212 S h0))))))] S R := by
      have e : ((b2i ((f_182 (S.1 h0 0) 3 12) && ((f_211 S h0) && (!(decide ((64 : Int32) < (f_212 S h0))))))) : Int32) = (b2i ((f_211 S h0) && (!(decide ((64 : Int32) < (f_212 S h0)))))) := by simp [b2i, hc1]
      rw [e] at j3
      exact j3
    refine go_ifb mm_213 rfl (p1 := 19) (p2 := 32) rfl (fun (hc2 : (f_211 S h0) = true) => ?_) (fun (hc2 : (f_211 S h0) = false) => ?_)
    · refine go_run mm_213 1 (pc' := 20) (ls' := [some (.ref h0)]) (st' := [.ref h0]) (S' := S) rfl ?_
      refine go_cs mm_213 (av := [.ref h0]) (rest := []) (nl := 4) rfl (show csOK 213 20 238 212 1 4 = true by decide +kernel) rfl rfl rfl (sq_212 x0 (o2 hc1 hc2)) (KP_V ?_)
      refine go_run mm_213 1 (pc' := 25) (ls' := [some (.ref h0)]) (st' := [.int 64, .int (f_212 S h0)]) (S' := S) rfl ?_
      have j1 : Go XM (d + 6) 213 c 33 [some (.ref h0)] [.int (b2i (!(decide ((64 : Int32) < (f_212 S h0)))))] S R := by
        have e : ((b2i ((f_211 S h0) && (!(decide ((64 : Int32) < (f_212 S h0)))))) : Int32) = (b2i (!(decide ((64 : Int32) < (f_212 S h0))))) := by simp [b2i, hc2]
        rw [e] at j2
        exact j2
      refine go_if2 mm_213 rfl (p1 := 32) (p2 := 28) rfl (fun (hc3 : (64 : Int32) < (f_212 S h0)) => ?_) (fun (hc3 : ¬ (64 : Int32) < (f_212 S h0)) => ?_)
      · refine go_run mm_213 1 (pc' := 33) (ls' := [some (.ref h0)]) (st' := [.int 0]) (S' := S) rfl ?_
        have e : ((b2i (!(decide ((64 : Int32) < (f_212 S h0))))) : Int32) = 0 := by simp [b2i, hc3]
        rw [e] at j1
        exact j1
      · refine go_run mm_213 2 (pc' := 33) (ls' := [some (.ref h0)]) (st' := [.int 1]) (S' := S) rfl ?_
        have e : ((b2i (!(decide ((64 : Int32) < (f_212 S h0))))) : Int32) = 1 := by simp [b2i, hc3]
        rw [e] at j1
        exact j1
    · refine go_run mm_213 1 (pc' := 33) (ls' := [some (.ref h0)]) (st' := [.int 0]) (S' := S) rfl ?_
      have e : ((b2i ((f_211 S h0) && (!(decide ((64 : Int32) < (f_212 S h0)))))) : Int32) = 0 := by simp [b2i, hc2]
      rw [e] at j2
      exact j2
  · refine go_run mm_213 1 (pc' := 33) (ls' := [some (.ref h0)]) (st' := [.int 0]) (S' := S) rfl ?_
    have e : ((b2i ((f_182 (S.1 h0 0) 3 12) && ((f_211 S h0) && (!(decide ((64 : Int32) < (f_212 S h0))))))) : Int32) = 0 := by simp [b2i, hc1]
    rw [e] at j3
    exact j3
theorem sp_213 {d : Nat} {S : ST} {h0 : Nat} (x0 : XM h0 = some (.inr (0, 63))) (o1 : (f_182 (S.1 h0 0) 3 12) = true → RW S h0) (o2 : (f_182 (S.1 h0 0) 3 12) = true → (f_211 S h0) = true → RW S h0) : Cal XM (d + 6) 213 [.ref h0] S (RV (some (.int (b2i (f_213 S h0)))) S) := by
  refine cal_go 0 rfl (b_213_0 x0 o1 o2 ?_)
  · exact ⟨rfl, rfl, rfl⟩
theorem f182_t {v a b : Int32} : f_182 v a b = true ↔ a.toInt ≤ v.toInt ∧ v.toInt ≤ b.toInt := by
  unfold f_182
  simp only [Bool.and_eq_true, Bool.not_eq_true', decide_eq_false_iff_not, Int32.lt_iff_toInt_lt]
  omega
theorem RW_of {S : ST} {h : Nat} (h0 : 0 ≤ (S.1 h 0).toInt) (h1 : (S.1 h 0).toInt ≤ 12) : RW S h := by
  refine ⟨nJ_of h0, ?_⟩
  show (S.1 h 0).toInt.toNat ≤ 12
  omega
theorem RW_in {S : ST} {h : Nat} (q : f_182 (S.1 h 0) 3 12 = true) : RW S h := by
  have := f182_t.mp q
  have a1 : (3 : Int) ≤ (S.1 h 0).toInt := this.1
  have a2 : (S.1 h 0).toInt ≤ 12 := this.2
  exact RW_of (by omega) a2
theorem sq_213 {d : Nat} {S : ST} {h0 : Nat} (x0 : XM h0 = some (.inr (0, 63))) : Cal XM (d + 6) 213 [.ref h0] S (RV (some (.int (b2i (f_213 S h0)))) S) := by
  exact sp_213 x0 (fun q => RW_in q) (fun q _ => RW_in q)
theorem mm_214 : mtG 214 = some (mi_214, 12, ft_214) := rfl
set_option maxRecDepth 20000 in
theorem b_214_0 {d c : Nat} {R : RT} {S : ST} (e1 : Go XM (d + 5) 214 c 7 [some (.ref 140), some (.int 0), none, none] [] (wI S 140 20 0) R) : Go XM (d + 5) 214 c 0 [some (.ref 140), none, none, none] [] S R := by
  refine go_run mm_214 5 (pc' := 7) (ls' := [some (.ref 140), some (.int 0), none, none]) (st' := []) (S' := (wI S 140 20 0)) rfl ?_
  exact e1
set_option maxRecDepth 20000 in
theorem b_214_7 {d c : Nat} {R : RT} {S : ST} {v1 : Int32} (e1 : v1 < 16 → Go XM (d + 5) 214 c 15 [some (.ref 140), some (.int v1), some (.int 0), none] [] S R) (e2 : ¬ v1 < 16 → R c (.inr none) S) : Go XM (d + 5) 214 c 7 [some (.ref 140), some (.int v1), none, none] [] S R := by
  refine go_run mm_214 2 (pc' := 10) (ls' := [some (.ref 140), some (.int v1), none, none]) (st' := [.int 16, .int v1]) (S' := S) rfl ?_
  refine go_if2 mm_214 rfl (p1 := 13) (p2 := 103) rfl (fun (hc1 : v1 < 16) => ?_) (fun (hc1 : ¬ v1 < 16) => ?_)
  · refine go_run mm_214 2 (pc' := 15) (ls' := [some (.ref 140), some (.int v1), some (.int 0), none]) (st' := []) (S' := S) rfl ?_
    exact e1 hc1
  · exact go_vreturn mm_214 rfl rfl (e2 hc1)
set_option maxRecDepth 20000 in
theorem b_214_15 {d c : Nat} {R : RT} {S : ST} {v1 : Int32} {v2 : Int32} (o1 : v2 < 16 → RW S 141) (o2 : v2 < 16 → inB ((16 * v1) + v2) 256) (o3 : v2 < 16 → (f_208 S 141 (Int32.toInt64 v2) (Int32.toInt64 v1) 1) = true → inB (S.1 140 20) 64) (e1 : v2 < 16 → (f_208 S 141 (Int32.toInt64 v2) (Int32.toInt64 v1) 1) = true → Go XM (d + 5) 214 c 15 [some (.ref 140), some (.int v1), some (.int (v2 + 1)), some (.int (b2i (f_208 S 141 (Int32.toInt64 v2) (Int32.toInt64 v1) 1)))] [] (wI (wI (wI (wI S 149 (Int32.toNatClampNeg ((16 * v1) + v2)) (if (f_208 S 141 (Int32.toInt64 v2) (Int32.toInt64 v1) 1) = true then S.1 140 20 else (-1))) 147 (Int32.toNatClampNeg (S.1 140 20)) v2) 148 (Int32.toNatClampNeg (S.1 140 20)) v1) 140 20 ((S.1 140 20) + 1)) R) (e2 : v2 < 16 → (f_208 S 141 (Int32.toInt64 v2) (Int32.toInt64 v1) 1) = false → Go XM (d + 5) 214 c 15 [some (.ref 140), some (.int v1), some (.int (v2 + 1)), some (.int (b2i (f_208 S 141 (Int32.toInt64 v2) (Int32.toInt64 v1) 1)))] [] (wI S 149 (Int32.toNatClampNeg ((16 * v1) + v2)) (if (f_208 S 141 (Int32.toInt64 v2) (Int32.toInt64 v1) 1) = true then S.1 140 20 else (-1))) R) (e3 : ¬ v2 < 16 → Go XM (d + 5) 214 c 7 [some (.ref 140), some (.int (v1 + 1)), some (.int v2), none] [] S R) : Go XM (d + 5) 214 c 15 [some (.ref 140), some (.int v1), some (.int v2), none] [] S R := by
  refine go_run mm_214 2 (pc' := 18) (ls' := [some (.ref 140), some (.int v1), some (.int v2), none]) (st' := [.int 16, .int v2]) (S' := S) rfl ?_
  refine go_if2 mm_214 rfl (p1 := 21) (p2 := 97) rfl (fun (hc1 : v2 < 16) => ?_) (fun (hc1 : ¬ v2 < 16) => ?_)
  · refine go_run mm_214 7 (pc' := 30) (ls' := [some (.ref 140), some (.int v1), some (.int v2), none]) (st' := [.long 1, .long (Int32.toInt64 v1), .long (Int32.toInt64 v2), .ref 141]) (S' := S) rfl ?_
    refine go_cs mm_214 (av := [.ref 141, .long (Int32.toInt64 v2), .long (Int32.toInt64 v1), .long 1]) (rest := []) (nl := 16) rfl (show csOK 214 30 172 208 4 16 = true by decide +kernel) rfl rfl rfl (sq_208 rfl (o1 hc1)) (KP_V ?_)
    refine go_run mm_214 9 (pc' := 45) (ls' := [some (.ref 140), some (.int v1), some (.int v2), some (.int (b2i (f_208 S 141 (Int32.toInt64 v2) (Int32.toInt64 v1) 1)))]) (st' := [.int (b2i (f_208 S 141 (Int32.toInt64 v2) (Int32.toInt64 v1) 1)), .int ((16 * v1) + v2), .ref 149]) (S' := S) rfl ?_
    have j1 : Go XM (d + 5) 214 c 56 [some (.ref 140), some (.int v1), some (.int v2), some (.int (b2i (f_208 S 141 (Int32.toInt64 v2) (Int32.toInt64 v1) 1)))] [.int (if (f_208 S 141 (Int32.toInt64 v2) (Int32.toInt64 v1) 1) = true then S.1 140 20 else (-1)), .int ((16 * v1) + v2), .ref 149] S R := by
      refine go_iastore mm_214 (q := (Int32.toNatClampNeg ((16 * v1) + v2))) rfl rfl rfl (o2 hc1) ?_
      refine go_run mm_214 1 (pc' := 58) (ls' := [some (.ref 140), some (.int v1), some (.int v2), some (.int (b2i (f_208 S 141 (Int32.toInt64 v2) (Int32.toInt64 v1) 1)))]) (st' := [.int (b2i (f_208 S 141 (Int32.toInt64 v2) (Int32.toInt64 v1) 1))]) (S' := (wI S 149 (Int32.toNatClampNeg ((16 * v1) + v2)) (if (f_208 S 141 (Int32.toInt64 v2) (Int32.toInt64 v1) 1) = true then S.1 140 20 else (-1)))) rfl ?_
      refine go_ifb mm_214 rfl (p1 := 61) (p2 := 91) rfl (fun (hc2 : (f_208 S 141 (Int32.toInt64 v2) (Int32.toInt64 v1) 1) = true) => ?_) (fun (hc2 : (f_208 S 141 (Int32.toInt64 v2) (Int32.toInt64 v1) 1) = false) => ?_)
      · refine go_run mm_214 5 (pc' := 70) (ls' := [some (.ref 140), some (.int v1), some (.int v2), some (.int (b2i (f_208 S 141 (Int32.toInt64 v2) (Int32.toInt64 v1) 1)))]) (st' := [.int v2, .int (S.1 140 20), .ref 147]) (S' := (wI S 149 (Int32.toNatClampNeg ((16 * v1) + v2)) (if (f_208 S 141 (Int32.toInt64 v2) (Int32.toInt64 v1) 1) = true then S.1 140 20 else (-1)))) rfl ?_
        refine go_iastore mm_214 (q := (Int32.toNatClampNeg (S.1 140 20))) rfl rfl rfl (o3 hc1 hc2) ?_
        refine go_run mm_214 5 (pc' := 80) (ls' := [some (.ref 140), some (.int v1), some (.int v2), some (.int (b2i (f_208 S 141 (Int32.toInt64 v2) (Int32.toInt64 v1) 1)))]) (st' := [.int v1, .int (S.1 140 20), .ref 148]) (S' := (wI (wI S 149 (Int32.toNatClampNeg ((16 * v1) + v2)) (if (f_208 S 141 (Int32.toInt64 v2) (Int32.toInt64 v1) 1) = true then S.1 140 20 else (-1))) 147 (Int32.toNatClampNeg (S.1 140 20)) v2)) rfl ?_
        refine go_iastore mm_214 (q := (Int32.toNatClampNeg (S.1 140 20))) rfl rfl rfl (o3 hc1 hc2) ?_
        refine go_run mm_214 8 (pc' := 15) (ls' := [some (.ref 140), some (.int v1), some (.int (v2 + 1)), some (.int (b2i (f_208 S 141 (Int32.toInt64 v2) (Int32.toInt64 v1) 1)))]) (st' := []) (S' := (wI (wI (wI (wI S 149 (Int32.toNatClampNeg ((16 * v1) + v2)) (if (f_208 S 141 (Int32.toInt64 v2) (Int32.toInt64 v1) 1) = true then S.1 140 20 else (-1))) 147 (Int32.toNatClampNeg (S.1 140 20)) v2) 148 (Int32.toNatClampNeg (S.1 140 20)) v1) 140 20 ((S.1 140 20) + 1))) rfl ?_
        exact e1 hc1 hc2
      · refine go_run mm_214 2 (pc' := 15) (ls' := [some (.ref 140), some (.int v1), some (.int (v2 + 1)), some (.int (b2i (f_208 S 141 (Int32.toInt64 v2) (Int32.toInt64 v1) 1)))]) (st' := []) (S' := (wI S 149 (Int32.toNatClampNeg ((16 * v1) + v2)) (if (f_208 S 141 (Int32.toInt64 v2) (Int32.toInt64 v1) 1) = true then S.1 140 20 else (-1)))) rfl ?_
        exact e2 hc1 hc2
    refine go_ifb mm_214 rfl (p1 := 48) (p2 := 55) rfl (fun (hc2 : (f_208 S 141 (Int32.toInt64 v2) (Int32.toInt64 v1) 1) = true) => ?_) (fun (hc2 : (f_208 S 141 (Int32.toInt64 v2) (Int32.toInt64 v1) 1) = false) => ?_)
    · refine go_run mm_214 3 (pc' := 56) (ls' := [some (.ref 140), some (.int v1), some (.int v2), some (.int (b2i (f_208 S 141 (Int32.toInt64 v2) (Int32.toInt64 v1) 1)))]) (st' := [.int (S.1 140 20), .int ((16 * v1) + v2), .ref 149]) (S' := S) rfl ?_
      have e : ((if (f_208 S 141 (Int32.toInt64 v2) (Int32.toInt64 v1) 1) = true then S.1 140 20 else (-1)) : Int32) = S.1 140 20 := by simp [b2i, hc2]
      rw [e] at j1
      exact j1
    · refine go_run mm_214 1 (pc' := 56) (ls' := [some (.ref 140), some (.int v1), some (.int v2), some (.int (b2i (f_208 S 141 (Int32.toInt64 v2) (Int32.toInt64 v1) 1)))]) (st' := [.int (-1), .int ((16 * v1) + v2), .ref 149]) (S' := S) rfl ?_
      have e : ((if (f_208 S 141 (Int32.toInt64 v2) (Int32.toInt64 v1) 1) = true then S.1 140 20 else (-1)) : Int32) = (-1) := by simp [b2i, hc2]
      rw [e] at j1
      exact j1
  · refine go_run mm_214 2 (pc' := 7) (ls' := [some (.ref 140), some (.int (v1 + 1)), some (.int v2), none]) (st' := []) (S' := S) rfl ?_
    exact e3 hc1
def st_214_15 (S : ST) (v1 : Int32) (v2 : Int32) : ST := (if (f_208 S 141 (Int32.toInt64 v2) (Int32.toInt64 v1) 1) = true then (wI (wI (wI (wI S 149 (Int32.toNatClampNeg ((16 * v1) + v2)) (if (f_208 S 141 (Int32.toInt64 v2) (Int32.toInt64 v1) 1) = true then S.1 140 20 else (-1))) 147 (Int32.toNatClampNeg (S.1 140 20)) v2) 148 (Int32.toNatClampNeg (S.1 140 20)) v1) 140 20 ((S.1 140 20) + 1)) else (wI S 149 (Int32.toNatClampNeg ((16 * v1) + v2)) (if (f_208 S 141 (Int32.toInt64 v2) (Int32.toInt64 v1) 1) = true then S.1 140 20 else (-1))))
theorem l_214_15 {d c : Nat} {R : RT} {S : ST} {v1 : Int32} {v2 : Int32} (o1 : v2 < 16 → RW S 141) (o2 : v2 < 16 → inB ((16 * v1) + v2) 256) (o3 : v2 < 16 → (f_208 S 141 (Int32.toInt64 v2) (Int32.toInt64 v1) 1) = true → inB (S.1 140 20) 64) (hb : v2 < 16 → Go XM (d + 5) 214 c 15 [some (.ref 140), some (.int v1), some (.int (v2 + 1)), none] [] (st_214_15 S v1 v2) R) (e3 : ¬ v2 < 16 → Go XM (d + 5) 214 c 7 [some (.ref 140), some (.int (v1 + 1)), some (.int v2), none] [] S R) : Go XM (d + 5) 214 c 15 [some (.ref 140), some (.int v1), some (.int v2), none] [] S R := by
  refine b_214_15 o1 o2 o3 ?_ ?_ e3
  · intro hc1 hc2
    have h := hb hc1
    simp only [st_214_15, if_pos hc2] at h
    try simp only [if_pos hc2]
    exact Go.le h (by repeat first | exact True.intro | refine And.intro rfl ?_)
  · intro hc1 hc2
    have h := hb hc1
    simp only [st_214_15, if_neg (ne_t hc2)] at h
    try simp only [if_neg (ne_t hc2)]
    exact Go.le h (by repeat first | exact True.intro | refine And.intro rfl ?_)
/-- frames: arrays that may move, fields of the model that may move -/
def Fm (hs fs : List Nat) (S S' : ST) : Prop := (∀ h k, h ∉ hs → (h = 140 → k ∉ fs) → S'.1 h k = S.1 h k) ∧ ∀ h k, h ∉ hs → S'.2 h k = S.2 h k
theorem Fm.rf {hs fs : List Nat} {S : ST} : Fm hs fs S S := ⟨fun _ _ _ _ => rfl, fun _ _ _ => rfl⟩
theorem Fm.tr {hs fs : List Nat} {S S1 S2 : ST} (h : Fm hs fs S S1) (h' : Fm hs fs S1 S2) : Fm hs fs S S2 := ⟨fun a b x y => (h'.1 a b x y).trans (h.1 a b x y), fun a b x => (h'.2 a b x).trans (h.2 a b x)⟩
theorem Fm.wk {hs fs hs' fs' : List Nat} {S S' : ST} (h : Fm hs fs S S') (h1 : ∀ x ∈ hs, x ∈ hs') (h2 : ∀ x ∈ fs, x ∈ fs') : Fm hs' fs' S S' := ⟨fun a b x y => h.1 a b (fun q => x (h1 _ q)) (fun e q => y e (h2 _ q)), fun a b x => h.2 a b (fun q => x (h1 _ q))⟩
theorem Fm_a {hs fs : List Nat} {S : ST} {h q : Nat} {v : Int32} (hh : h ∈ hs) : Fm hs fs S (wI S h q v) := ⟨fun a b x _ => by rw [wI_1, if_neg (fun z => x (by rw [z.1]; exact hh))], fun _ _ _ => rfl⟩
theorem Fm_f {hs fs : List Nat} {S : ST} {q : Nat} {v : Int32} (hh : q ∈ fs) : Fm hs fs S (wI S 140 q v) := ⟨fun a b _ y => by rw [wI_1, if_neg (fun z => y z.1 (by rw [z.2]; exact hh))], fun _ _ _ => rfl⟩
theorem Fm_l {hs fs : List Nat} {S : ST} {h q : Nat} {v : Int64} (hh : h ∈ hs) : Fm hs fs S (wL S h q v) := ⟨fun _ _ _ _ => rfl, fun a b x => by rw [wL_2, if_neg (fun z => x (by rw [z.1]; exact hh))]⟩
theorem Fm.row {hs fs : List Nat} {S S' : ST} (h : Fm hs fs S S') {a : Nat} (h1 : a ∉ hs) (h2 : a ≠ 140) : S'.1 a = S.1 a := funext fun k => h.1 a k h1 (fun e => absurd e h2)
theorem Fm.rowL {hs fs : List Nat} {S S' : ST} (h : Fm hs fs S S') {a : Nat} (h1 : a ∉ hs) : S'.2 a = S.2 a := funext fun k => h.2 a k h1
theorem Fm.fld {hs fs : List Nat} {S S' : ST} (h : Fm hs fs S S') (h0 : 140 ∉ hs) {k : Nat} (h1 : k ∉ fs) : S'.1 140 k = S.1 140 k := h.1 140 k h0 (fun _ => h1)
/-- the geometry looks at the row alone -/
theorem f204_row {S S' : ST} {h : Nat} (e : S'.1 h = S.1 h) (v : Int32) : f_204 S' h v = f_204 S h v := by unfold f_204; rw [e]
theorem ra_row {S S' : ST} {h : Nat} (e : S'.1 h = S.1 h) (v : Int32) : ra S' h v = ra S h v := by unfold ra; rw [e]
theorem rN_row {S S' : ST} {h : Nat} (e : S'.1 h = S.1 h) : rN S' h = rN S h := by unfold rN; rw [e]
theorem RW_row {S S' : ST} {h : Nat} (e : S'.1 h = S.1 h) (hW : RW S h) : RW S' h := by
  unfold RW at *
  rw [rN_row e, e]
  exact hW
theorem f206_row {S S' : ST} {h : Nat} (e : S'.1 h = S.1 h) : f_206 S' h = f_206 S h := by
  funext v1 v2 v4 v6
  unfold f_206
  rw [f204_row e, ra_row e, ra_row e, ra_row e, ra_row e]
theorem f208_row {S S' : ST} {h : Nat} (e : S'.1 h = S.1 h) : f_208 S' h = f_208 S h := by
  funext v1 v3 v5
  have e7 : f_207 S' h = f_207 S h := by
    funext v1 v3 v5
    unfold f_207
    rw [f206_row e, rN_row e]
  have e8 : st8 S' h = st8 S h := by
    funext v1 v3 v5 i a
    unfold st8
    rw [f204_row e, ra_row e, ra_row e, ra_row e, ra_row e]
  unfold f_208
  rw [e7, e8, rN_row e]
theorem inp_row {S S' : ST} {h : Nat} (e : S'.1 h = S.1 h) : inp S' h = inp S h := by
  funext t
  unfold inp
  rw [f208_row e]
def g_214 (S : ST) : ST := fr (fun y S => fr (fun x S => st_214_15 S (nJ y) (nJ x)) 0 16 S) 0 16 (wI S 140 20 0)
/-- the first T places are laid -/
def LdT (S S' : ST) (T : Nat) : Prop := S'.1 140 20 = nJ (rk (inp S 141) T) ∧ (∀ t, t < T → (inp S 141 t = true → S'.1 147 (rk (inp S 141) t) = nJ (t % 16) ∧ S'.1 148 (rk (inp S 141) t) = nJ (t / 16) ∧ S'.1 149 t = nJ (rk (inp S 141) t)) ∧ (inp S 141 t = false → S'.1 149 t = -1)) ∧ Fm [147, 148, 149] [20] S S'
theorem LdT_step {S S' : ST} {x y : Nat} (hx : x < 16) (hy : y < 16) (h64 : rk (inp S 141) 256 ≤ 64) (h : LdT S S' (16 * y + x)) : LdT S (st_214_15 S' (nJ y) (nJ x)) (16 * y + (x + 1)) := by
  obtain ⟨h1, h2, h3⟩ := h
  have e := h3.row (a := 141) (by decide) (by decide)
  have hp : f_208 S' 141 (Int32.toInt64 (nJ x)) (Int32.toInt64 (nJ y)) 1 = inp S 141 (16 * y + x) := by rw [f208_row e, inp_xy S 141 hx]; rfl
  have hix : Int32.toNatClampNeg ((16 * nJ y) + nJ x) = 16 * y + x := by
    show Int32.toNatClampNeg ((nJ 16 * nJ y) + nJ x) = _
    rw [nJ_mul, nJ_add, nJ_ix (by omega)]
  have hrk : ∀ t, t ≤ 256 → rk (inp S 141) t ≤ 64 := fun t ht => Nat.le_trans (rk_mono _ ht) h64
  unfold st_214_15
  rw [hp, hix]
  have hs : rk (inp S 141) (16 * y + (x + 1)) = rk (inp S 141) (16 * y + x) + (if inp S 141 (16 * y + x) = true then 1 else 0) := rfl
  unfold LdT
  rw [hs]
  cases hq : inp S 141 (16 * y + x) with
  | true =>
    have hlt := rk_lt (p := inp S 141) (show 16 * y + x < 256 by omega) hq
    simp only [if_true]
    have hn : Int32.toNatClampNeg (S'.1 140 20) = rk (inp S 141) (16 * y + x) := by rw [h1, nJ_ix (by omega)]
    rw [hn]
    refine ⟨?_, fun t ht => ?_, ?_⟩
    · show S'.1 140 20 + 1 = _
      rw [h1, nJ_succ]
    · by_cases hT : t = 16 * y + x
      · subst hT
        refine ⟨fun _ => ⟨?_, ?_, ?_⟩, fun z => by rw [hq] at z; cases z⟩
        · simp [wI_1]
          congr 1
          omega
        · simp [wI_1]
          congr 1
          omega
        · simp [wI_1, h1]
      · obtain ⟨g1, g2⟩ := h2 t (by omega)
        refine ⟨fun z => ?_, fun z => ?_⟩
        · obtain ⟨a1, a2, a3⟩ := g1 z
          have hne : ¬ rk (inp S 141) t = rk (inp S 141) (16 * y + x) := fun q => hT (rk_inj z hq q)
          simp [wI_1, hne, hT, a1, a2, a3]
        · simp [wI_1, hT, g2 z]
    · exact (((h3.tr (Fm_a (by decide))).tr (Fm_a (by decide))).tr (Fm_a (by decide))).tr (Fm_f (by decide))
  | false =>
    simp only [Bool.false_eq_true, if_false]
    refine ⟨by simp [wI_1, h1], fun t ht => ?_, h3.tr (Fm_a (by decide))⟩
    by_cases hT : t = 16 * y + x
    · subst hT
      refine ⟨fun z => (by rw [hq] at z; cases z), fun _ => by simp [wI_1]⟩
    · obtain ⟨g1, g2⟩ := h2 t (by omega)
      refine ⟨fun z => ?_, fun z => by simp [wI_1, hT, g2 z]⟩
      obtain ⟨a1, a2, a3⟩ := g1 z
      simp [wI_1, hT, a1, a2, a3]
theorem LdT_row {S : ST} {y : Nat} (hy : y < 16) (h64 : rk (inp S 141) 256 ≤ 64) {S' : ST} (h : LdT S S' (16 * y)) : LdT S (fr (fun x S => st_214_15 S (nJ y) (nJ x)) 0 16 S') (16 * (y + 1)) := by
  have := fr_inv (f := fun x S => st_214_15 S (nJ y) (nJ x)) (J := fun x S' => LdT S S' (16 * y + x)) (n := 16) (fun x S' hx hJ => LdT_step hx hy h64 hJ) 16 0 S' rfl h
  rw [show 16 * (y + 1) = 16 * y + 16 by omega]
  exact this
theorem LdT_0 (S : ST) : LdT S (wI S 140 20 0) 0 := ⟨rfl, fun t ht => absurd ht (Nat.not_lt_zero t), Fm_f (by decide)⟩
theorem g214_ld {S : ST} (h64 : rk (inp S 141) 256 ≤ 64) : LdT S (g_214 S) 256 :=
  fr_inv (f := fun y S => fr (fun x S => st_214_15 S (nJ y) (nJ x)) 0 16 S) (J := fun y S' => LdT S S' (16 * y)) (n := 16) (fun y S' hy hJ => LdT_row hy h64 hJ) 16 0 (wI S 140 20 0) rfl (LdT_0 S)
theorem sq_214 {d : Nat} {S : ST} (hW : RW S 141) (h64 : rk (inp S 141) 256 ≤ 64) : Cal XM (d + 5) 214 [.ref 140] S (RV none (g_214 S)) := by
  refine cal_go 3 rfl (b_214_0 ?_)
  refine fr_loop (f := fun y S => fr (fun x S => st_214_15 S (nJ y) (nJ x)) 0 16 S) (J := fun y S' => LdT S S' (16 * y)) (n := 16) (H := fun y S' => Go XM (d + 5) 214 0 7 [some (.ref 140), some (.int (nJ y)), none, none] [] S' (RV none (g_214 S))) (fun y S1 hy hJ => ⟨LdT_row hy h64 hJ, fun hn => ?_⟩) 16 0 (wI S 140 20 0) rfl (LdT_0 S) (fun _ => ?_)
  · refine b_214_7 (fun _ => ?_) (fun hc => absurd ((nJ_lt (j := 16) (by omega) (by omega)).mpr hy) hc)
    refine fr_loop (f := fun x S => st_214_15 S (nJ y) (nJ x)) (J := fun x S' => LdT S S' (16 * y + x)) (n := 16) (H := fun x S' => Go XM (d + 5) 214 0 15 [some (.ref 140), some (.int (nJ y)), some (.int (nJ x)), none] [] S' (RV none (g_214 S))) (fun x S2 hx hJ2 => ⟨LdT_step hx hy h64 hJ2, fun hn2 => ?_⟩) 16 0 S1 rfl hJ (fun _ => ?_)
    · have hlx : nJ x < 16 := (nJ_lt (j := 16) (by omega) (by omega)).mpr hx
      have e := hJ2.2.2.row (a := 141) (by decide) (by decide)
      refine l_214_15 (fun _ => RW_row e hW) (fun _ => ?_) (fun _ hin => ?_) (fun _ => ?_) (fun hc => absurd hlx hc)
      · show inB ((nJ 16 * nJ y) + nJ x) 256
        rw [nJ_mul, nJ_add]
        exact nJ_inB (by omega) (by omega)
      · rw [hJ2.1]
        have hin' : inp S 141 (16 * y + x) = true := by
          rw [f208_row e] at hin
          rw [inp_xy S 141 hx]
          exact hin
        have := rk_lt (p := inp S 141) (show 16 * y + x < 256 by omega) hin'
        exact nJ_inB (by omega) (by omega)
      · rw [nJ_succ]
        exact hn2
    · refine l_214_15 (fun hc => absurd hc (by decide)) (fun hc => absurd hc (by decide)) (fun hc => absurd hc (by decide)) (fun hc => absurd hc (by decide)) (fun _ => ?_)
      rw [nJ_succ]
      exact Go.le hn (by repeat first | exact True.intro | refine And.intro rfl ?_)
  · exact b_214_7 (fun hc => absurd hc (by decide)) (fun _ => ⟨rfl, rfl, rfl⟩)
theorem mm_215 : mtG 215 = some (mi_215, 12, ft_215) := rfl
def f_215 (S : ST) (v1 : Int32) (v2 : Int32) : Int32 := (if (f_182 v1 0 15) = true then (if (f_182 v2 0 15) = true then ra S 149 ((16 * v2) + v1) else (-1)) else (-1))
theorem b_215_0 {d c : Nat} {R : RT} {S : ST} {v1 : Int32} {v2 : Int32} (o1 : (f_182 v1 0 15) = true → (f_182 v2 0 15) = true → inB ((16 * v2) + v1) 256) (e1 : R c (.inr (some (.int (if (f_182 v1 0 15) = true then (if (f_182 v2 0 15) = true then ra S 149 ((16 * v2) + v1) else (-1)) else (-1))))) S) : Go XM (d + 1) 215 c 0 [some (.ref 140), some (.int v1), some (.int v2)] [] S R := by
  refine go_run mm_215 3 (pc' := 4) (ls' := [some (.ref 140), some (.int v1), some (.int v2)]) (st' := [.int 15, .int 0, .int v1]) (S' := S) rfl ?_
  refine go_cs mm_215 (av := [.int v1, .int 0, .int 15]) (rest := []) (nl := 3) rfl (show csOK 215 4 148 182 3 3 = true by decide +kernel) rfl rfl rfl (sp_182) (KP_V ?_)
  have j2 : Go XM (d + 1) 215 c 35 [some (.ref 140), some (.int v1), some (.int v2)] [.int (if (f_182 v1 0 15) = true then (if (f_182 v2 0 15) = true then ra S 149 ((16 * v2) + v1) else (-1)) else (-1))] S R := by
    exact go_ireturn mm_215 rfl rfl (e1)
  refine go_ifb mm_215 rfl (p1 := 10) (p2 := 34) rfl (fun (hc1 : (f_182 v1 0 15) = true) => ?_) (fun (hc1 : (f_182 v1 0 15) = false) => ?_)
  · refine go_run mm_215 3 (pc' := 14) (ls' := [some (.ref 140), some (.int v1), some (.int v2)]) (st' := [.int 15, .int 0, .int v2]) (S' := S) rfl ?_
    refine go_cs mm_215 (av := [.int v2, .int 0, .int 15]) (rest := []) (nl := 3) rfl (show csOK 215 14 148 182 3 3 = true by decide +kernel) rfl rfl rfl (sp_182) (KP_V ?_)
    have j1 : Go XM (d + 1) 215 c 35 [some (.ref 140), some (.int v1), some (.int v2)] [.int (if (f_182 v2 0 15) = true then ra S 149 ((16 * v2) + v1) else (-1))] S R := by
      have e : ((if (f_182 v1 0 15) = true then (if (f_182 v2 0 15) = true then ra S 149 ((16 * v2) + v1) else (-1)) else (-1)) : Int32) = (if (f_182 v2 0 15) = true then ra S 149 ((16 * v2) + v1) else (-1)) := by simp [b2i, hc1]
      rw [e] at j2
      exact j2
    refine go_ifb mm_215 rfl (p1 := 20) (p2 := 34) rfl (fun (hc2 : (f_182 v2 0 15) = true) => ?_) (fun (hc2 : (f_182 v2 0 15) = false) => ?_)
    · refine go_run mm_215 7 (pc' := 30) (ls' := [some (.ref 140), some (.int v1), some (.int v2)]) (st' := [.int ((16 * v2) + v1), .ref 149]) (S' := S) rfl ?_
      refine go_iaload mm_215 (q := (Int32.toNatClampNeg ((16 * v2) + v1))) rfl rfl rfl (o1 hc1 hc2) ?_
      refine go_run mm_215 1 (pc' := 35) (ls' := [some (.ref 140), some (.int v1), some (.int v2)]) (st' := [.int (ra S 149 ((16 * v2) + v1))]) (S' := S) rfl ?_
      have e : ((if (f_182 v2 0 15) = true then ra S 149 ((16 * v2) + v1) else (-1)) : Int32) = ra S 149 ((16 * v2) + v1) := by simp [b2i, hc2]
      rw [e] at j1
      exact j1
    · refine go_run mm_215 1 (pc' := 35) (ls' := [some (.ref 140), some (.int v1), some (.int v2)]) (st' := [.int (-1)]) (S' := S) rfl ?_
      have e : ((if (f_182 v2 0 15) = true then ra S 149 ((16 * v2) + v1) else (-1)) : Int32) = (-1) := by simp [b2i, hc2]
      rw [e] at j1
      exact j1
  · refine go_run mm_215 1 (pc' := 35) (ls' := [some (.ref 140), some (.int v1), some (.int v2)]) (st' := [.int (-1)]) (S' := S) rfl ?_
    have e : ((if (f_182 v1 0 15) = true then (if (f_182 v2 0 15) = true then ra S 149 ((16 * v2) + v1) else (-1)) else (-1)) : Int32) = (-1) := by simp [b2i, hc1]
    rw [e] at j2
    exact j2
theorem sp_215 {d : Nat} {S : ST} {v1 : Int32} {v2 : Int32} (o1 : (f_182 v1 0 15) = true → (f_182 v2 0 15) = true → inB ((16 * v2) + v1) 256) : Cal XM (d + 1) 215 [.ref 140, .int v1, .int v2] S (RV (some (.int (f_215 S v1 v2))) S) := by
  refine cal_go 0 rfl (b_215_0 o1 ?_)
  · exact ⟨rfl, rfl, rfl⟩
theorem sq_215 {d : Nat} {S : ST} {v1 v2 : Int32} : Cal XM (d + 1) 215 [.ref 140, .int v1, .int v2] S (RV (some (.int (f_215 S v1 v2))) S) := by
  refine sp_215 (fun q1 q2 => ?_)
  have a1 := f182_t.mp q1
  have a2 := f182_t.mp q2
  have b1 : (0 : Int) ≤ v1.toInt := a1.1
  have b2 : v1.toInt ≤ 15 := a1.2
  have b3 : (0 : Int) ≤ v2.toInt := a2.1
  have b4 : v2.toInt ≤ 15 := a2.2
  have e16 : (16 : Int32).toInt = 16 := rfl
  have m : (16 * v2).toInt = 16 * v2.toInt := by rw [imul_t (by rw [e16]; omega) (by rw [e16]; omega), e16]
  unfold inB
  rw [iadd_t (by omega) (by omega), m]
  omega
