/-! the rings: the least ear is cut, again and again -/
def lst (P : Nat → GPt) (σ : Int) (n : Nat) (r : Nat → Nat) (k : Nat) : Prop := k < n ∧ EarAt P σ n r k ∧ ∀ j, j < k → ¬ EarAt P σ n r j
def okg (P : Nat → GPt) (σ : Int) (N : Nat) (r : Nat → Nat) (n : Nat) : Prop := ge_simple (ge_pl n (fun o => P (r o))) ∧ 0 < σ * ge_ar (ge_pl n (fun o => P (r o))) ∧ (∀ i j, i < n → j < n → r i = r j → i = j) ∧ ∀ o, o < n → r o < N
theorem lst_ex {P : Nat → GPt} {σ : Int} {N n : Nat} {r : Nat → Nat} (hσ : σ = 1 ∨ σ = -1) (hn : 3 ≤ n) (h : okg P σ N r n) : ∃ k, lst P σ n r k := by
  obtain ⟨k, hk, he⟩ := ear_ex hσ hn h.1 h.2.1
  obtain ⟨k', a, b, c⟩ := least_ex (P := fun k => EarAt P σ n r k) k he
  exact ⟨k', by omega, b, fun j hj => c j hj⟩
theorem okg_cut {P : Nat → GPt} {σ : Int} {N n k : Nat} {r : Nat → Nat} (hσ : σ = 1 ∨ σ = -1) (hn : 4 ≤ n) (h : okg P σ N r n) (hk : lst P σ n r k) : okg P σ N (rmv r k) (n - 1) := by
  obtain ⟨a, b⟩ := ear_cut hσ hn hk.1 h.1 h.2.1 hk.2.1
  refine ⟨a, b, fun i j hi hj e => ?_, fun o ho => ?_⟩
  · unfold rmv at e
    split at e <;> split at e
    · exact h.2.2.1 i j (by omega) (by omega) e
    · have := h.2.2.1 i (j + 1) (by omega) (by omega) e; omega
    · have := h.2.2.1 (i + 1) j (by omega) (by omega) e; omega
    · have := h.2.2.1 (i + 1) (j + 1) (by omega) (by omega) e; omega
  · unfold rmv
    split
    · exact h.2.2.2 o (by omega)
    · exact h.2.2.2 (o + 1) (by omega)
def TR (P : Nat → GPt) (σ : Int) (N : Nat) (K : Nat → Nat) (R : Nat → Nat → Nat) : Prop := R 0 = id ∧ (∀ t, t + 3 ≤ N → okg P σ N (R t) (N - t)) ∧ (∀ t, t + 3 < N → lst P σ (N - t) (R t) (K t) ∧ R (t + 1) = rmv (R t) (K t)) ∧ K (N - 3) = 0
noncomputable def pck (P : Nat → GPt) (σ : Int) (n : Nat) (r : Nat → Nat) : Nat := @dite _ (∃ k, lst P σ n r k) (Classical.propDecidable _) (fun h => Classical.choose h) (fun _ => 0)
theorem pck_ok {P : Nat → GPt} {σ : Int} {n : Nat} {r : Nat → Nat} (h : ∃ k, lst P σ n r k) : lst P σ n r (pck P σ n r) := by
  unfold pck
  rw [dif_pos h]
  exact Classical.choose_spec h
noncomputable def Rsq (P : Nat → GPt) (σ : Int) (N : Nat) : Nat → Nat → Nat
  | 0 => id
  | t + 1 => rmv (Rsq P σ N t) (pck P σ (N - t) (Rsq P σ N t))
theorem TR_ex {P : Nat → GPt} {σ : Int} {N : Nat} (hσ : σ = 1 ∨ σ = -1) (hN : 3 ≤ N) (h : okg P σ N id N) : ∃ K R, TR P σ N K R := by
  have ok : ∀ t, t + 3 ≤ N → okg P σ N (Rsq P σ N t) (N - t) := by
    intro t
    induction t with
    | zero => intro _; exact h
    | succ t ih =>
      intro ht
      have h0 := ih (by omega)
      have := okg_cut hσ (by omega) h0 (pck_ok (lst_ex hσ (by omega) h0))
      rw [show N - (t + 1) = N - t - 1 by omega]
      exact this
  refine ⟨fun t => if t + 3 < N then pck P σ (N - t) (Rsq P σ N t) else 0, Rsq P σ N, rfl, ok, fun t ht => ⟨?_, ?_⟩, ?_⟩
  · dsimp only
    rw [if_pos ht]
    exact pck_ok (lst_ex hσ (by omega) (ok t (by omega)))
  · dsimp only
    rw [if_pos ht]
    rfl
  · dsimp only
    rw [if_neg (by omega)]
def lo3 (a b c : Nat) : Nat := min (min a b) c
def hi3 (a b c : Nat) : Nat := max (max a b) c
def md3 (a b c : Nat) : Nat := a + b + c - lo3 a b c - hi3 a b c
/-- the corners at t -/
def kx (N : Nat) (K : Nat → Nat) (R : Nat → Nat → Nat) (t : Nat) : Nat := R t ((K t + (N - t) - 1) % (N - t))
def ky (K : Nat → Nat) (R : Nat → Nat → Nat) (t : Nat) : Nat := R t (K t)
def kz (N : Nat) (K : Nat → Nat) (R : Nat → Nat → Nat) (t : Nat) : Nat := R t ((K t + 1) % (N - t))
theorem nJ_mnt {a b : Nat} (ha : a < 1000) (hb : b < 1000) : (if nJ a < nJ b then nJ a else nJ b) = nJ (min a b) := by
  by_cases h : a < b
  · rw [if_pos ((nJ_lt (by omega) (by omega)).mpr h), Nat.min_eq_left (by omega)]
  · rw [if_neg (fun z => h ((nJ_lt (by omega) (by omega)).mp z)), Nat.min_eq_right (by omega)]
theorem nJ_mxt {a b : Nat} (ha : a < 1000) (hb : b < 1000) : (if nJ a < nJ b then nJ b else nJ a) = nJ (max a b) := by
  by_cases h : a < b
  · rw [if_pos ((nJ_lt (by omega) (by omega)).mpr h), Nat.max_eq_right (by omega)]
  · rw [if_neg (fun z => h ((nJ_lt (by omega) (by omega)).mp z)), Nat.max_eq_left (by omega)]
section Mt
variable {S : ST}
theorem sgA_1 (S : ST) : sgA S = 1 ∨ sgA S = -1 := by unfold sgA; split <;> simp
theorem okg_M (g : GR S 141) : okg (rP S 141) (sgA S) (rN S 141) id (rN S 141) := by
  obtain ⟨hs, h3, -⟩ := GR_simple g
  refine ⟨hs, ?_, fun i j _ _ e => e, fun o ho => ho⟩
  obtain ⟨σ, W, ha, -⟩ := ge_orient h3 hs
  show 0 < sgA S * ge_ar (rL S 141)
  have nz : ge_ar (rL S 141) ≠ 0 := fun z => by rw [z, Int.mul_zero] at ha; omega
  unfold sgA
  split <;> omega
theorem TR_M (g : GR S 141) : ∃ K R, TR (rP S 141) (sgA S) (rN S 141) K R := TR_ex (sgA_1 S) g.2.1 (okg_M g)
theorem r141 {S1 : ST} (e : S1.1 141 = S.1 141) : rN S1 141 = rN S 141 ∧ rP S1 141 = rP S 141 ∧ sgA S1 = sgA S ∧ (GR S 141 → GR S1 141) := by
  refine ⟨rN_r2 e, ?_, ?_, GR_r2 e⟩
  · funext i; unfold rP; rw [e]
  · unfold sgA; rw [rL_r2 e]
theorem F250_eq {a b c t : Nat} (ha : a < 12) (hb : b < 12) (hc : c < 12) (ht : t < 10) : ∃ S', F_250 (nJ t) (nJ a) (nJ b) (nJ c) S = some ((), S') ∧ Fm [157] [] S S' ∧ (∀ j, j < 3 * t → S'.1 157 j = S.1 157 j) ∧ S'.1 157 (3 * t) = nJ (lo3 a b c) ∧ S'.1 157 (3 * t + 1) = nJ (md3 a b c) ∧ S'.1 157 (3 * t + 2) = nJ (hi3 a b c) := by
  have e0 : (3 : Int32) * nJ t = nJ (3 * t) := by
    show nJ 3 * nJ t = _
    rw [nJ_mul]
  have m1 : (if nJ a < nJ b then nJ a else nJ b) = nJ (min a b) := nJ_mnt (by omega) (by omega)
  have m2 : (if nJ a < nJ b then nJ b else nJ a) = nJ (max a b) := nJ_mxt (by omega) (by omega)
  have m3 : (if nJ c < nJ (min a b) then nJ c else nJ (min a b)) = nJ (lo3 a b c) := by
    rw [nJ_mnt (by omega) (by omega)]; exact congrArg nJ (by unfold lo3; omega)
  have m4 : (if nJ (max a b) < nJ c then nJ c else nJ (max a b)) = nJ (hi3 a b c) := nJ_mxt (by omega) (by omega)
  have m5 : (if nJ c < nJ (min a b) then nJ (min a b) else (if nJ c < nJ (max a b) then nJ c else nJ (max a b))) = nJ (md3 a b c) := by
    by_cases h : c < min a b
    · rw [if_pos ((nJ_lt (by omega) (by omega)).mpr h)]; refine congrArg nJ ?_; unfold md3 lo3 hi3; omega
    · rw [if_neg (fun z => h ((nJ_lt (by omega) (by omega)).mp z)), nJ_mnt (by omega) (by omega)]; refine congrArg nJ ?_; unfold md3 lo3 hi3; omega
  unfold F_250
  rw [e0, nJ_succ, show (nJ (3 * t) + 2 : Int32) = nJ (3 * t + 2) from nJ_add (3 * t) 2, m1, m2, m3, m4, m5, ck_t (ibd_n (by omega) (by omega)), sbn_e, ck_t (ibd_n (by omega) (by omega)), sbn_e, ck_t (ibd_n (by omega) (by omega)), sbn_e, nJ_ix (by omega), nJ_ix (by omega), nJ_ix (by omega)]
  refine ⟨_, rfl, ((Fm_a (by simp)).tr (Fm_a (by simp))).tr (Fm_a (by simp)), fun j hj => ?_, ?_, ?_, ?_⟩
  · rw [wI_1, if_neg (by omega), wI_1, if_neg (by omega), wI_1, if_neg (by omega)]
  · rw [wI_1, if_neg (by omega), wI_1, if_neg (by omega), wI_1, if_pos ⟨rfl, rfl⟩]
  · rw [wI_1, if_neg (by omega), wI_1, if_pos ⟨rfl, rfl⟩]
  · rw [wI_1, if_pos ⟨rfl, rfl⟩]
theorem F235_eq (g : GR S 141) {a b c : Nat} (ha : a < rN S 141) (hb : b < rN S 141) (hc : c < rN S 141) : ∃ x, F_235 (nJ a) (nJ b) (nJ c) S = some x ∧ ((0 : Int32) < x ↔ 0 < sgA S * ge_o (rP S 141 a) (rP S 141 b) (rP S 141 c)) ∧ (x < 0 ↔ sgA S * ge_o (rP S 141 a) (rP S 141 b) (rP S 141 c) < 0) := by
  have h12 := g.1.2
  unfold F_235
  rw [ck_t (chB_t.mpr ⟨⟨g.1, a, rfl, ha⟩, ⟨g.1, b, rfl, hb⟩, ⟨g.1, c, rfl, hc⟩⟩)]
  exact ⟨_, rfl, turn_t g.1 g.2.2.1 (by omega) (by omega) (by omega)⟩
/-- an ear, by the reference -/
theorem F249_eq (g : GR S 141) {n k : Nat} {r : Nat → Nat} (hr : Rg S n r) (hn : 3 ≤ n) (hn2 : n ≤ 12) (hk : k < n) : ∃ b, F_249 (nJ k) (nJ n) S = some b ∧ (b = true ↔ EarAt (rP S 141) (sgA S) n r k) := by
  have h12 := g.1.2
  have l1 := Nat.mod_lt (k + n - 1) (show 0 < n by omega)
  have l2 := Nat.mod_lt (k + 1) (show 0 < n by omega)
  have nz : ¬ nJ n = 0 := fun z => by have := (nJ_eq (j := 0) (by omega) (by omega)).mp z; omega
  have nz' : (!(decide (nJ n = 0))) = true := by rw [decide_eq_false nz]; rfl
  unfold F_249 EarAt
  rw [nJ_md1 (by omega) (by omega) (by omega), nJ_md2 (by omega) (by omega), ck_t nz', ck_t (ibd_n (by omega) (by omega)), ck_t (ibd_n (by omega) (by omega)), ck_t nz', ck_t (ibd_n (by omega) (by omega)), nJ_ix (by omega), nJ_ix (by omega), nJ_ix (by omega), (hr _ l1).1, (hr _ hk).1, (hr _ l2).1]
  have b1 := (hr _ l1).2
  have b2 := (hr _ hk).2
  have b3 := (hr _ l2).2
  generalize r ((k + n - 1) % n) = x at *
  generalize r k = y at *
  generalize r ((k + 1) % n) = z at *
  obtain ⟨v, ev, v1, -⟩ := F235_eq g b1 b2 b3
  rw [ev, ob_s]
  by_cases c : (0 : Int32) < v
  · rw [if_pos c]
    have hs : ∀ o, o < n → ((r o ≠ x ∧ r o ≠ y ∧ r o ≠ z ∧ 0 ≤ sgA S * ge_o (rP S 141 x) (rP S 141 y) (rP S 141 (r o)) ∧ 0 ≤ sgA S * ge_o (rP S 141 y) (rP S 141 z) (rP S 141 (r o)) ∧ 0 ≤ sgA S * ge_o (rP S 141 z) (rP S 141 x) (rP S 141 (r o))) ∧ Lm_249_50 (nJ k) (nJ n) (nJ x) (nJ y) (nJ z) S (nJ o) = some (.inr (.inr false))) ∨ (¬ (r o ≠ x ∧ r o ≠ y ∧ r o ≠ z ∧ 0 ≤ sgA S * ge_o (rP S 141 x) (rP S 141 y) (rP S 141 (r o)) ∧ 0 ≤ sgA S * ge_o (rP S 141 y) (rP S 141 z) (rP S 141 (r o)) ∧ 0 ≤ sgA S * ge_o (rP S 141 z) (rP S 141 x) (rP S 141 (r o))) ∧ Lm_249_50 (nJ k) (nJ n) (nJ x) (nJ y) (nJ z) S (nJ o) = some (.inl (nJ (o + 1)))) := by
      intro o ho
      have br := (hr o ho).2
      unfold Lm_249_50
      rw [if_pos ((nJ_lt (by omega) (by omega)).mpr ho), ck_t (ibd_n (by omega) (by omega)), nJ_ix (by omega), (hr o ho).1, nJ_succ]
      by_cases d1 : r o = x
      · rw [d1, if_pos rfl]; exact Or.inr ⟨fun q => q.1 rfl, rfl⟩
      rw [if_neg (fun q => d1 ((nJ_eq (by omega) (by omega)).mp q))]
      by_cases d2 : r o = y
      · rw [d2, if_pos rfl]; exact Or.inr ⟨fun q => q.2.1 rfl, rfl⟩
      rw [if_neg (fun q => d2 ((nJ_eq (by omega) (by omega)).mp q))]
      by_cases d3 : r o = z
      · rw [d3, if_pos rfl]; exact Or.inr ⟨fun q => q.2.2.1 rfl, rfl⟩
      rw [if_neg (fun q => d3 ((nJ_eq (by omega) (by omega)).mp q))]
      obtain ⟨u1, f1, -, n1⟩ := F235_eq g b1 b2 br
      obtain ⟨u2, f2, -, n2⟩ := F235_eq g b2 b3 br
      obtain ⟨u3, f3, -, n3⟩ := F235_eq g b3 b1 br
      rw [f1, ob_s]
      by_cases t1 : u1 < 0
      · rw [if_pos t1]; exact Or.inr ⟨fun q => by have := n1.mp t1; omega, rfl⟩
      rw [if_neg t1, f2, ob_s]
      by_cases t2 : u2 < 0
      · rw [if_pos t2]; exact Or.inr ⟨fun q => by have := n2.mp t2; omega, rfl⟩
      rw [if_neg t2, f3, ob_s]
      by_cases t3 : u3 < 0
      · rw [if_pos t3]; exact Or.inr ⟨fun q => by have := n3.mp t3; omega, rfl⟩
      rw [if_neg t3]
      exact Or.inl ⟨⟨d1, d2, d3, Int.not_lt.mp (fun q => t1 (n1.mpr q)), Int.not_lt.mp (fun q => t2 (n2.mpr q)), Int.not_lt.mp (fun q => t3 (n3.mpr q))⟩, rfl⟩
    have he : ∃ b, Lm_249_50 (nJ k) (nJ n) (nJ x) (nJ y) (nJ z) S (nJ n) = some (.inr b) ∧ ∃ e, b = .inl e := by
      unfold Lm_249_50
      rw [if_neg (fun q => by have := (nJ_lt (by omega) (by omega)).mp q; omega)]
      exact ⟨_, rfl, _, rfl⟩
    obtain ⟨w, ew, hw⟩ := wh_se (f := Lm_249_50 (nJ k) (nJ n) (nJ x) (nJ y) (nJ z) S) (e := nJ) (p := fun o => r o ≠ x ∧ r o ≠ y ∧ r o ≠ z ∧ 0 ≤ sgA S * ge_o (rP S 141 x) (rP S 141 y) (rP S 141 (r o)) ∧ 0 ≤ sgA S * ge_o (rP S 141 y) (rP S 141 z) (rP S 141 (r o)) ∧ 0 ≤ sgA S * ge_o (rP S 141 z) (rP S 141 x) (rP S 141 (r o))) (N := n) (o := fun _ => .inr (false)) (Q := fun q => ∃ e, q = .inl e) (i := 0) (fun o _ ho => hs o ho) (fun o ho => by rw [show o = n by omega]; exact he) (FU_lt (by omega))
    rw [show (0 : Int32) = nJ 0 from rfl, ew, ob_s]
    rcases hw with ⟨o, -, ho, hp, -, rfl⟩ | ⟨⟨e, rfl⟩, hq⟩
    · refine ⟨false, rfl, fun q => (by cases q), fun q => ?_⟩
      exact absurd hp.2.2.2 (q.2 o ho hp.1 hp.2.1 hp.2.2.1)
    · refine ⟨true, rfl, fun _ => ⟨v1.mp c, fun o ho q1 q2 q3 q4 => hq o (by omega) ho ⟨q1, q2, q3, q4⟩⟩, fun _ => rfl⟩
  · rw [if_neg c]
    exact ⟨false, rfl, fun q => (by cases q), fun q => absurd (v1.mpr q.1) c⟩
end Mt
