/-! sets of points: folds, unions of rows; what is the same on both sides once the sight is learned -/
theorem fr_eq {α : Type} {f g : Nat → α → α} {n : Nat} (h : ∀ i a, i < n → f i a = g i a) (a : α) : fr f 0 n a = fr g 0 n a := fr_cong h n 0 a (by omega)
theorem fr_add {α : Type} (f : Nat → α → α) : ∀ (m k i : Nat) (a : α), fr f i (m + k) a = fr f (i + m) k (fr f i m a) := by
  intro m
  induction m with
  | zero => intro k i a; rw [Nat.zero_add]; rfl
  | succ m ih =>
    intro k i a
    rw [show m + 1 + k = (m + k) + 1 by omega]
    show fr f (i + 1) (m + k) (f i a) = _
    rw [ih k (i + 1) (f i a), show i + 1 + m = i + (m + 1) by omega]
    rfl
theorem fr_id {α : Type} {f : Nat → α → α} : ∀ (m i : Nat) (a : α), (∀ j b, i ≤ j → j < i + m → f j b = b) → fr f i m a = a := by
  intro m
  induction m with
  | zero => intro i a _; rfl
  | succ m ih =>
    intro i a h
    show fr f (i + 1) m (f i a) = a
    rw [h i a (by omega) (by omega)]
    exact ih (i + 1) a (fun j b h1 h2 => h j b (by omega) (by omega))
def bt (i : Nat) : Int64 := (1 : Int64) <<< (Int32.toInt64 (nJ i) &&& 63)
theorem bt_bz {k : Nat} (hk : k < 64) (i : Nat) : bz (bt k) i = decide (i = k) := bz_shl hk i
def sFz (c : Nat → Bool) (i : Nat) (a : Int64) : Int64 := if c i = true then a ||| bt i else a
def sSz (n : Nat) (c : Nat → Bool) : Int64 := fr (sFz c) 0 n 0
theorem sS_bz {n : Nat} (h : n ≤ 64) (c : Nat → Bool) {q : Nat} (hq : q < 64) : bz (sSz n c) q = (decide (q < n) && c q) := by
  have := fr_inv (f := sFz c) (J := fun i a => ∀ q, q < 64 → bz a q = (decide (q < i) && c q)) (n := n) (fun i a hi w q hq => by
    unfold sFz
    by_cases z : c i = true
    · rw [if_pos z, bz_or, w q hq, bt_bz (by omega)]
      by_cases e : q = i
      · subst e; simp [z]
      · by_cases l : q < i
        · simp [l, show q < i + 1 by omega, e]
        · simp [l, show ¬ q < i + 1 by omega, e]
    · rw [if_neg z, w q hq]
      by_cases e : q = i
      · subst e; simp [z]
      · by_cases l : q < i
        · simp [l, show q < i + 1 by omega]
        · simp [l, show ¬ q < i + 1 by omega]) n 0 0 (by omega) (fun q hq => by rw [bz_0]; simp)
  exact this q hq
theorem sS_cong {n : Nat} {c c' : Nat → Bool} (h : ∀ i, i < n → c i = c' i) : sSz n c = sSz n c' := fr_eq (fun i a hi => by unfold sFz; rw [h i hi]) 0
def uF (r : Nat → Int64) (s : Int64) (i : Nat) (a : Int64) : Int64 := if bz s i = true then a ||| r i else a
def uni (n : Nat) (r : Nat → Int64) (s : Int64) : Int64 := fr (uF r s) 0 n 0
theorem uni_bz {n : Nat} (r : Nat → Int64) (s : Int64) (q : Nat) : bz (uni n r s) q = true ↔ ∃ p, p < n ∧ bz s p = true ∧ bz (r p) q = true := by
  exact fr_inv (f := uF r s) (J := fun i a => bz a q = true ↔ ∃ p, p < i ∧ bz s p = true ∧ bz (r p) q = true) (n := n) (fun i a hi w => by
    unfold uF
    by_cases z : bz s i = true
    · rw [if_pos z, bz_or, Bool.or_eq_true, w]
      constructor
      · rintro (⟨p, h1, h2⟩ | h)
        · exact ⟨p, by omega, h2⟩
        · exact ⟨i, by omega, z, h⟩
      · rintro ⟨p, h1, h2, h3⟩
        by_cases e : p = i
        · subst e; exact Or.inr h3
        · exact Or.inl ⟨p, by omega, h2, h3⟩
    · rw [if_neg z, w]
      constructor
      · rintro ⟨p, h1, h2⟩; exact ⟨p, by omega, h2⟩
      · rintro ⟨p, h1, h2, h3⟩
        by_cases e : p = i
        · subst e; exact absurd h2 z
        · exact ⟨p, by omega, h2, h3⟩) n 0 0 (by omega) (by
      rw [bz_0]
      constructor
      · intro h; cases h
      · rintro ⟨p, h, _⟩; omega)
theorem uni_cong {n : Nat} {r r' : Nat → Int64} (h : ∀ p, p < n → r p = r' p) (s : Int64) : uni n r s = uni n r' s := fr_eq (fun i a hi => by unfold uF; rw [h i hi]) 0
theorem uni_64 {n : Nat} {r : Nat → Int64} (h64 : n ≤ 64) (h : ∀ p, n ≤ p → p < 64 → r p = 0) (s : Int64) : uni 64 r s = uni n r s := by
  apply bz_ext
  intro q hq
  rw [Bool.eq_iff_iff, uni_bz, uni_bz]
  constructor
  · rintro ⟨p, h1, h2, h3⟩
    by_cases c : p < n
    · exact ⟨p, c, h2, h3⟩
    · rw [h p (by omega) h1, bz_0] at h3; cases h3
  · rintro ⟨p, h1, h2, h3⟩; exact ⟨p, by omega, h2, h3⟩
/-- the sight is learned: the class; the reference -/
def CSz (S M : ST) : Prop := CX S M ∧ SR M (S.2 31) ∧ ∀ a, nP M ≤ a → a < 64 → S.2 31 a = 0
def MS (S : ST) : Prop := Ld S ∧ SR S (S.2 153) ∧ ER S (S.2 153) (S.2 154)
theorem SR_u {M : ST} (h64 : nP M ≤ 64) {r r' : Nat → Int64} (h : SR M r) (h' : SR M r') {p : Nat} (hp : p < nP M) : r p = r' p := by
  apply bz_ext
  intro q hq
  rw [Bool.eq_iff_iff, h p hp q hq, h' p hp q hq]
/-- all points -/
def aL (n : Nat) : Int64 := sSz n (fun _ => true)
theorem aL_bz {n : Nat} (h : n ≤ 64) {q : Nat} (hq : q < 64) : bz (aL n) q = decide (q < n) := by unfold aL; rw [sS_bz h _ hq, Bool.and_true]
section Eq
variable {S M : ST}
theorem F21_eq (h : CX S M) : F_21 21 S = aL (nP M) := by
  have e := h.2.2.2.1
  have h64 := h.2.2.2.2.1
  apply bz_ext
  intro q hq
  rw [aL_bz h64 hq]
  unfold F_21
  rw [e]
  by_cases c : nP M < 64
  · rw [if_pos (show nJ (nP M) < 64 from (nJ_lt (j := 64) (by omega) (by omega)).mpr c)]
    exact all_c _ c q hq
  · rw [if_neg (show ¬ nJ (nP M) < 64 from fun z => c ((nJ_lt (j := 64) (by omega) (by omega)).mp z)), bz_m1 q hq, decide_eq_true (by omega)]
theorem F216_eq (hL : Ld S) : F_216 S = aL (nP S) := by
  have h := Ld_P hL
  apply bz_ext
  intro q hq
  rw [aL_bz h.2 hq]
  exact all_t h.1 h.2 hq
theorem F72_eq (h : CX S M) : F_72 S = nJ (nP M) := by
  have e := h.2.2.2.1
  have h64 := h.2.2.2.2.1
  unfold F_72
  rw [e]
  by_cases c : 64 < nP M
  · omega
  · rw [if_neg (show ¬ (64 : Int32) < nJ (nP M) from fun z => c ((nJ_lt (i := 64) (by omega) (by omega)).mp z))]
theorem F73_eq (S : ST) {p : Nat} (hp : p < 64) : F_73 (nJ p) S = some (S.2 31 p) := by
  unfold F_73
  rw [if_neg (nJ_nn (by omega)), if_pos (show nJ p < 64 from (nJ_lt (j := 64) (by omega) (by omega)).mpr hp), ck_t (ibd_n (by omega) (by omega)), nJ_ix (by omega)]
theorem F74_eq (s : Int64) (S : ST) : F_74 s S = some (uni 64 (S.2 31) s) := by
  unfold F_74
  have := wh_fr (f := L_74_5 s S) (fun i (a : Int64) => (a, nJ i)) (uF (S.2 31) s) 64 (fun a => (a, nJ 64)) (fun i a hi => by
    unfold L_74_5
    dsimp only
    rw [if_pos (show nJ i < 64 from (nJ_lt (j := 64) (by omega) (by omega)).mpr hi), has177 _ hi, nJ_succ]
    unfold uF
    by_cases z : bz s i = true
    · rw [if_pos z, if_pos z, ck_t (ibd_n (by omega) (by omega)), nJ_ix (by omega)]
    · rw [if_neg z, if_neg z]) (fun a => by
    unfold L_74_5
    dsimp only
    rw [if_neg (show ¬ nJ 64 < 64 by decide)]) (FU_lt (by omega)) 0
  rw [show ((0 : Int64), (0 : Int32)) = (0, nJ 0) from rfl, this, ob_s]
  rfl
theorem F74_cs (h : CSz S M) (s : Int64) : F_74 s S = some (uni (nP M) (S.2 31) s) := by
  rw [F74_eq, uni_64 h.1.2.2.2.2.1 h.2.2]
/-- seeingAll -/
theorem F76_eq (h : CSz S M) : F_76 S = some (sSz (nP M) (fun p => decide (S.2 31 p = aL (nP M)))) := by
  have h64 := h.1.2.2.2.2.1
  unfold F_76
  have := wh_fr (f := L_76_4 S) (fun i (a : Int64) => (a, nJ i)) (sFz (fun p => decide (S.2 31 p = aL (nP M)))) (nP M) (fun a => (a, nJ (nP M))) (fun i a hi => by
    unfold L_76_4
    dsimp only
    rw [F72_eq h.1, if_pos ((nJ_lt (by omega) (by omega)).mpr hi), F73_eq S (by omega), ob_s, show F_71 S = aL (nP M) from F21_eq h.1, nJ_succ]
    unfold sFz
    by_cases z : S.2 31 i = aL (nP M)
    · rw [if_pos z, if_pos (decide_eq_true z)]; rfl
    · rw [if_neg z, if_neg (fun y => z (of_decide_eq_true y))]) (fun a => by
    unfold L_76_4
    dsimp only
    rw [F72_eq h.1, if_neg (fun z => by have := (nJ_lt (by omega) (by omega)).mp z; omega)]) (FU_lt (by omega)) 0
  rw [show ((0 : Int64), (0 : Int32)) = (0, nJ 0) from rfl, this, ob_s]
  rfl
theorem M243_eq (h : MS S) : wh FU (Lm_243_17 S) (0, 0) = some (sSz (nP S) (fun p => decide (S.2 153 p = aL (nP S))), nJ (nP S)) := by
  have hP := Ld_P h.1
  have := wh_fr (f := Lm_243_17 S) (fun i (a : Int64) => (a, nJ i)) (sFz (fun p => decide (S.2 153 p = aL (nP S)))) (nP S) (fun a => (a, nJ (nP S))) (fun i a hi => by
    unfold Lm_243_17
    dsimp only
    rw [hP.1, if_pos ((nJ_lt (by omega) (by omega)).mpr hi), ck_t (ibd_n (by omega) (by omega)), nJ_ix (by omega), F216_eq h.1, nJ_succ]
    unfold sFz
    by_cases z : S.2 153 i = aL (nP S)
    · rw [if_pos z, if_pos (decide_eq_true z)]; rfl
    · rw [if_neg z, if_neg (fun y => z (of_decide_eq_true y)), or_0]) (fun a => by
    unfold Lm_243_17
    dsimp only
    rw [hP.1, if_neg (fun z => by have := (nJ_lt (by omega) (by omega)).mp z; omega)]) (FU_lt (by omega)) 0
  rw [show ((0 : Int64), (0 : Int32)) = (0, nJ 0) from rfl, this]
  rfl
/-- an edge's posts -/
theorem F75_eq (h : CSz S M) {e : Nat} (he : e < rN M 141) : ∃ v, F_75 (nJ e) S = some v ∧ ∀ q, q < 64 → (bz v q = true ↔ ∃ p, p < nP M ∧ ge_on (rP M 141 e) (rP M 141 (ge_aft (rN M 141) e)) (pt M p) ∧ bz (S.2 31 p) q = true) := by
  have h64 := h.1.2.2.2.2.1
  obtain ⟨⟨w, bb, l, n, pp⟩, -⟩ := h.1
  have h12 := w.2
  have on : ∀ p, p < nP M → F_32 3 (nJ e) 1 (S.1 22 p) (S.1 23 p) S = some (chB (ge_on (rP M 141 e) (rP M 141 (ge_aft (rN M 141) e)) (pt M p))) := fun p hp => by
    obtain ⟨ep, -, -, bx, by1⟩ := cx_pt h.1 hp
    obtain ⟨b, g, iff⟩ := F32_1 w bb (i := e) (by rw [n]; exact he) (bi_c bx) (bi_c by1)
    rw [ep, pp e he, n, pp _ (ge_aft_lt he)] at iff
    rw [g]
    congr 1
    cases b with
    | true => exact (chB_t.mpr (iff.mp rfl)).symm
    | false => exact (chB_f.mpr (fun z => absurd (iff.mpr z) (by decide))).symm
  unfold F_75
  have := wh_fr (f := L_75_5 (nJ e) S) (fun i (a : Int64) => (a, nJ i)) (sFz (fun p => chB (ge_on (rP M 141 e) (rP M 141 (ge_aft (rN M 141) e)) (pt M p)))) (nP M) (fun a => (a, nJ (nP M))) (fun i a hi => by
    obtain ⟨-, x1, y1, -⟩ := cx_pt h.1 hi
    unfold L_75_5
    dsimp only
    rw [F72_eq h.1, if_pos ((nJ_lt (by omega) (by omega)).mpr hi), x1, ob_s, y1, ob_s, on i hi, ob_s, nJ_succ]
    unfold sFz
    by_cases z : chB (ge_on (rP M 141 e) (rP M 141 (ge_aft (rN M 141) e)) (pt M i)) = true
    · rw [if_pos z, if_pos z]; rfl
    · rw [if_neg z, if_neg z]) (fun a => by
    unfold L_75_5
    dsimp only
    rw [F72_eq h.1, if_neg (fun z => by have := (nJ_lt (by omega) (by omega)).mp z; omega)]) (FU_lt (by omega)) 0
  rw [show ((0 : Int64), (0 : Int32)) = (0, nJ 0) from rfl, this, ob_s]
  dsimp only
  rw [F74_cs h, ob_s]
  refine ⟨_, rfl, fun q hq => ?_⟩
  rw [uni_bz]
  constructor
  · rintro ⟨p, h1, h2, h3⟩
    have h2' : bz (sSz (nP M) (fun p => chB (ge_on (rP M 141 e) (rP M 141 (ge_aft (rN M 141) e)) (pt M p)))) p = true := h2
    rw [sS_bz h64 _ (by omega), Bool.and_eq_true, chB_t] at h2'
    exact ⟨p, h1, h2'.2, h3⟩
  · rintro ⟨p, h1, h2, h3⟩
    refine ⟨p, h1, ?_, h3⟩
    show bz (sSz (nP M) (fun p => chB (ge_on (rP M 141 e) (rP M 141 (ge_aft (rN M 141) e)) (pt M p)))) p = true
    rw [sS_bz h64 _ (by omega), Bool.and_eq_true, chB_t]
    exact ⟨decide_eq_true h1, h2⟩
end Eq
