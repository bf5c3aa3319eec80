/-! the guards' watch on both sides -/
def dW (M : ST) (x y v : Int32) (i : Nat) : Bool := decide ((v * v) < (((M.1 147 i - x) * (M.1 147 i - x)) + ((M.1 148 i - y) * (M.1 148 i - y))))
def vW (M : ST) (r : Nat → Int64) (p : Nat) (x y v : Int32) : Int64 := sSz (nP M) (fun i => bz (r p) i && !dW M x y v i)
/-- the point that a thing stands on -/
def pI (M : ST) (j : Nat) : Nat := (f_215 M (M.1 141 j) (M.1 141 (j + 1))).toNatClampNeg
def wG (M : ST) (r : Nat → Int64) (g : Nat) : Int64 := vW M r (pI M (27 + 3 * g)) (M.1 141 (27 + 3 * g)) (M.1 141 (28 + 3 * g)) (M.1 141 (29 + 3 * g))
def CSG (S M : ST) : Prop := CSz S M ∧ PR S 3 (M.1 141) ∧ GTh M 141
section Ww
variable {S M : ST}
theorem pI_ok (hL : Ld M) {j : Nat} (h : ge_cl 1 (rL M 141) ((M.1 141 j).toInt, (M.1 141 (j + 1)).toInt)) : pI M j < nP M ∧ f_215 M (M.1 141 j) (M.1 141 (j + 1)) = nJ (pI M j) ∧ M.1 147 (pI M j) = M.1 141 j ∧ M.1 148 (pI M j) = M.1 141 (j + 1) := by
  have h64 := (Ld_P hL).2
  obtain ⟨p, p1, p2, p3⟩ := at_pt hL h
  have e : pI M j = p := by unfold pI; rw [p2]; exact nJ_ix (by omega)
  rw [e]
  unfold pt at p3
  obtain ⟨q1, q2⟩ := Prod.mk.inj p3
  exact ⟨p1, p2, Int32.toInt_inj.mp q1, Int32.toInt_inj.mp q2⟩
theorem F106_eq (h : CSz S M) {p : Nat} (hp : p < nP M) (v : Int32) : F_106 (nJ p) v S = some (vW M (S.2 31) p (M.1 147 p) (M.1 148 p) v) := by
  have h64 := h.1.2.2.2.2.1
  have cells := h.1.2.2.2.2.2.1
  obtain ⟨-, e19, e20, -⟩ := cx_pt h.1 hp
  unfold F_106
  rw [F73_eq S (by omega), ob_s]
  have := wh_fr (f := L_106_15 (nJ p) v (S.2 31 p) S) (fun i (a : Int64) => (a, nJ i)) (sFz (fun i => bz (S.2 31 p) i && !dW M (M.1 147 p) (M.1 148 p) v i)) (nP M) (fun a => (a, nJ (nP M))) (fun i a hi => by
    obtain ⟨-, f19, f20, -⟩ := cx_pt h.1 hi
    unfold L_106_15
    dsimp only
    rw [h.1.2.2.2.1, if_pos ((nJ_lt (by omega) (by omega)).mpr hi), if_pos (show nJ i < 64 from (nJ_lt (j := 64) (by omega) (by omega)).mpr (by omega)), f19, ob_s, e19, ob_s, f20, ob_s, e20, ob_s, has177 _ (by omega), nJ_succ, (cells i hi).1, (cells i hi).2, (cells p hp).1, (cells p hp).2]
    unfold sFz dW bt
    dsimp only
    by_cases z : bz (S.2 31 p) i = true
    · rw [if_pos z]
      by_cases d : (v * v) < (((M.1 147 i - M.1 147 p) * (M.1 147 i - M.1 147 p)) + ((M.1 148 i - M.1 148 p) * (M.1 148 i - M.1 148 p)))
      · rw [if_pos d, if_neg (fun q => by rw [decide_eq_true d, Bool.not_true, Bool.and_false] at q; cases q)]
      · rw [if_neg d, if_pos (by rw [z, decide_eq_false d]; rfl)]
    · rw [if_neg z, if_neg (fun q => z ((Bool.and_eq_true _ _).mp q).1)]) (fun a => by
    unfold L_106_15
    dsimp only
    rw [h.1.2.2.2.1, if_neg (fun z => by have := (nJ_lt (by omega) (by omega)).mp z; omega)]) (FU_lt (by omega)) 0
  rw [show ((0 : Int64), (0 : Int32)) = (0, nJ 0) from rfl, this, ob_s]
  rfl
theorem f275_eq (hL : Ld S) (hs : SR S (S.2 153)) {p : Nat} {x y : Int32} (hp : p < nP S) (e : f_215 S x y = nJ p) (v : Int32) : f_275 S x y v = vW S (S.2 153) p x y v := by
  have h64 := (Ld_P hL).2
  have key : ∀ q, q < 64 → ∀ n, n ≤ 64 → bz (fr (st75 S x y v) 0 n (S.2 153 p)) q = (bz (S.2 153 p) q && !(decide (q < n) && dW S x y v q)) := fun q hq n => by
    induction n with
    | zero => intro _; show bz (S.2 153 p) q = _; simp
    | succ n ih =>
      intro hn
      rw [fr_snoc, Nat.zero_add]
      unfold st75
      have ra7 : ra S 147 (nJ n) = S.1 147 n := by unfold ra; rw [nJ_ix (by omega)]
      have ra8 : ra S 148 (nJ n) = S.1 148 n := by unfold ra; rw [nJ_ix (by omega)]
      rw [ra7, ra8]
      have ih' := ih (by omega)
      by_cases d : (v * v) < (((S.1 147 n - x) * (S.1 147 n - x)) + ((S.1 148 n - y) * (S.1 148 n - y)))
      · rw [if_pos d, bz_clr (by omega) hq]
        have ih2 : bz (fr (st75 S x y v) 0 n (S.2 153 p)) q = _ := ih'
        unfold st75 at ih2
        rw [ih2]
        by_cases z : q = n
        · have dn : dW S x y v q = true := by rw [z]; exact decide_eq_true d
          rw [dn, z, decide_eq_true rfl, decide_eq_true (show n < n + 1 by omega)]; simp
        · rw [decide_eq_false z]
          by_cases w : q < n
          · rw [decide_eq_true w, decide_eq_true (show q < n + 1 by omega)]; simp
          · rw [decide_eq_false w, decide_eq_false (show ¬ q < n + 1 by omega)]; simp
      · rw [if_neg d, bz_and, bz_m1 q hq, Bool.and_true]
        have ih2 : bz (fr (st75 S x y v) 0 n (S.2 153 p)) q = _ := ih'
        unfold st75 at ih2
        rw [ih2]
        by_cases z : q = n
        · have dn : dW S x y v q = false := by rw [z]; exact decide_eq_false d
          rw [dn]; simp
        · by_cases w : q < n
          · rw [decide_eq_true w, decide_eq_true (show q < n + 1 by omega)]
          · rw [decide_eq_false w, decide_eq_false (show ¬ q < n + 1 by omega)]
  unfold f_275 vW
  rw [e, show rl S 153 (nJ p) = S.2 153 p by unfold rl; rw [nJ_ix (by omega)]]
  apply bz_ext
  intro q hq
  rw [key q hq (nP S) h64, sS_bz h64 _ hq]
  by_cases z : bz (S.2 153 p) q = true
  · have := ((hs p hp q hq).mp z).1
    rw [z, decide_eq_true this]; simp
  · rw [Bool.eq_false_iff.mpr z]; simp
theorem vW_cg {r r' : Nat → Int64} {p : Nat} (h : r p = r' p) (x y v : Int32) : vW M r p x y v = vW M r' p x y v := by unfold vW; rw [h]
def cG (M : ST) : Nat := (M.1 141 1).toNatClampNeg
def cTz (M : ST) : Nat := (M.1 141 2).toNatClampNeg
theorem GTh_g (h : GTh M 141) : M.1 141 1 = nJ (cG M) ∧ cG M ≤ 6 ∧ ∀ g, g < cG M → ge_cl 1 (rL M 141) ((M.1 141 (27 + 3 * g)).toInt, (M.1 141 (28 + 3 * g)).toInt) := by
  obtain ⟨-, ⟨G, g1, g2, g3⟩, -⟩ := h
  have e : cG M = G := by unfold cG; rw [g1]; exact nJ_ix (by omega)
  rw [e]
  exact ⟨g1, g2, g3⟩
theorem GTh_t (h : GTh M 141) : M.1 141 2 = nJ (cTz M) ∧ cTz M ≤ 6 ∧ ∀ g, g < cTz M → ge_cl 1 (rL M 141) ((M.1 141 (45 + 3 * g)).toInt, (M.1 141 (46 + 3 * g)).toInt) := by
  obtain ⟨-, -, G, g1, g2, g3⟩ := h
  have e : cTz M = G := by unfold cTz; rw [g1]; exact nJ_ix (by omega)
  rw [e]
  exact ⟨g1, g2, g3⟩
theorem F104_eq (h : CSG S M) {g : Nat} (hg : g < cG M) : F_104 (nJ g) S = some (nJ (pI M (27 + 3 * g))) ∧ F_54 3 (nJ g) S = some (M.1 141 (29 + 3 * g)) ∧ pI M (27 + 3 * g) < nP M ∧ M.1 147 (pI M (27 + 3 * g)) = M.1 141 (27 + 3 * g) ∧ M.1 148 (pI M (27 + 3 * g)) = M.1 141 (28 + 3 * g) := by
  obtain ⟨g1, g2, g3⟩ := GTh_g h.2.2
  have e28 : 27 + 3 * g + 1 = 28 + 3 * g := by omega
  have pk := pI_ok h.1.1.2.2.1 (j := 27 + 3 * g) (by rw [e28]; exact g3 g hg)
  rw [e28] at pk
  obtain ⟨p1, p2, p3, p4⟩ := pk
  have cl := h.2.1.2.2.1 g hg
  have e1 : S.1 3 1 = nJ (cG M) := h.2.1.1.2.1.trans g1
  have lt : nJ g < nJ (cG M) := (nJ_lt (by omega) (by omega)).mpr hg
  have ib : ibd (nJ g) 6 = true := ibd_n (by omega) (by omega)
  have ix : Int32.toNatClampNeg (nJ g) = g := nJ_ix (by omega)
  have nn : ¬ nJ g < 0 := nJ_nn (by omega)
  refine ⟨?_, ?_, p1, p3, p4⟩
  · unfold F_104 F_52 F_53
    rw [if_neg nn, if_neg nn, e1, if_pos lt, if_pos lt, ck_t ib, ck_t ib, ob_s, ob_s, ix, F18_cx h.1.1, ob_s]
    show some (f_215 M (S.1 6 g) (S.1 7 g)) = _
    rw [cl.1, cl.2.1]
    exact congrArg some p2
  · unfold F_54
    rw [if_neg nn, e1, if_pos lt, ck_t ib, ix]
    exact congrArg some cl.2.2
theorem F107_eq (h : CSG S M) {g : Nat} (hg : g < cG M) : F_107 (nJ g) S = some (wG M (S.2 31) g) := by
  obtain ⟨a, b, c, d, e⟩ := F104_eq h hg
  unfold F_107
  rw [a, ob_s, b, ob_s, F106_eq h.1 c, ob_s, d, e]
  rfl
/-- the watch of all but one -/
def uS (M : ST) (r : Nat → Int64) (v : Int32) (g : Nat) (a : Int64) : Int64 := if nJ g = v then a else a ||| wG M r g
def uW (M : ST) (r : Nat → Int64) (v : Int32) : Int64 := fr (uS M r v) 0 (cG M) 0
theorem F108_eq (h : CSG S M) (v : Int32) : F_108 v S = some (uW M (S.2 31) v) := by
  obtain ⟨g1, g2, g3⟩ := GTh_g h.2.2
  have e1 : S.1 3 1 = nJ (cG M) := h.2.1.1.2.1.trans g1
  have := wh_fr (f := L_108_5 v S) (fun i (a : Int64) => (a, nJ i)) (uS M (S.2 31) v) (cG M) (fun a => (a, nJ (cG M))) (fun i a hi => by
    unfold L_108_5
    dsimp only
    rw [e1, if_pos ((nJ_lt (by omega) (by omega)).mpr hi), nJ_succ]
    unfold uS
    by_cases z : nJ i = v
    · rw [if_pos z, if_pos z]
    · rw [if_neg z, if_neg z, F107_eq h hi, ob_s]) (fun a => by
    unfold L_108_5
    dsimp only
    rw [e1, if_neg (fun z => by have := (nJ_lt (by omega) (by omega)).mp z; omega)]) (FU_lt (by omega)) 0
  unfold F_108
  rw [show ((0 : Int64), (0 : Int32)) = (0, nJ 0) from rfl, this, ob_s]
  rfl
/-- how many watch a point -/
def kS (M : ST) (r : Nat → Int64) (p g a : Nat) : Nat := if bz (wG M r g) p = true then a + 1 else a
def kW (M : ST) (r : Nat → Int64) (p : Nat) : Nat := fr (kS M r p) 0 (cG M) 0
theorem F109_eq (h : CSG S M) {p : Nat} (hp : p < 64) : F_109 (nJ p) S = some (nJ (kW M (S.2 31) p)) := by
  obtain ⟨g1, g2, g3⟩ := GTh_g h.2.2
  have e1 : S.1 3 1 = nJ (cG M) := h.2.1.1.2.1.trans g1
  have := wh_fr (f := L_109_4 (nJ p) S) (fun i (a : Nat) => (nJ a, nJ i)) (kS M (S.2 31) p) (cG M) (fun a => (nJ a, nJ (cG M))) (fun i a hi => by
    unfold L_109_4
    dsimp only
    rw [e1, if_pos ((nJ_lt (by omega) (by omega)).mpr hi), F107_eq h hi, ob_s, has177 _ hp, nJ_succ i]
    unfold kS
    by_cases z : bz (wG M (S.2 31) i) p = true
    · rw [if_pos z, if_pos z, nJ_succ]
    · rw [if_neg z, if_neg z]) (fun a => by
    unfold L_109_4
    dsimp only
    rw [e1, if_neg (fun z => by have := (nJ_lt (by omega) (by omega)).mp z; omega)]) (FU_lt (by omega)) 0
  unfold F_109
  rw [show ((0 : Int32), (0 : Int32)) = (nJ 0, nJ 0) from rfl, this, ob_s]
  rfl
/-- the guards that may go -/
def dS (M : ST) (r : Nat → Int64) (g a : Nat) : Nat := if uW M r (nJ g) = uW M r (-1) then a ||| 2 ^ g else a
def dN (M : ST) (r : Nat → Int64) : Nat := fr (dS M r) 0 (cG M) 0
theorem F110_eq (h : CSG S M) : F_110 S = some (nJ (dN M (S.2 31))) := by
  obtain ⟨g1, g2, g3⟩ := GTh_g h.2.2
  have e1 : S.1 3 1 = nJ (cG M) := h.2.1.1.2.1.trans g1
  have := wh_fr (f := L_110_11 (uW M (S.2 31) (-1)) S) (fun i (a : Nat) => (nJ a, nJ i)) (dS M (S.2 31)) (cG M) (fun a => (nJ a, nJ (cG M))) (fun i a hi => by
    unfold L_110_11
    dsimp only
    rw [e1, if_pos ((nJ_lt (by omega) (by omega)).mpr hi), F108_eq h, ob_s, nJ_succ]
    unfold dS
    by_cases z : uW M (S.2 31) (nJ i) = uW M (S.2 31) (-1)
    · rw [if_pos z, if_pos z, shl_N i (by omega), nJ_or]
    · rw [if_neg z, if_neg z]) (fun a => by
    unfold L_110_11
    dsimp only
    rw [e1, if_neg (fun z => by have := (nJ_lt (by omega) (by omega)).mp z; omega)]) (FU_lt (by omega)) 0
  unfold F_110
  rw [F108_eq h, ob_s, show ((0 : Int32), (0 : Int32)) = (nJ 0, nJ 0) from rfl, this, ob_s]
  rfl
end Ww
