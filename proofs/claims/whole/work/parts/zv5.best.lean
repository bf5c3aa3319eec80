/-! the best move of one guard -/
def mV (a w : Int32) : Int32 := if a < w then w else a
/-- over all places of one guard -/
def pV (M : ST) (r : Nat → Int64) (V : Int64) (v : Int32) (p : Nat) (a : Int32) : Int32 := mV a (tV M (V ||| vW M r p (M.1 147 p) (M.1 148 p) v))
def gVz (M : ST) (r : Nat → Int64) (g : Nat) (a : Int32) : Int32 := fr (pV M r (uW M r (nJ g)) (M.1 141 (29 + 3 * g))) 0 (nP M) a
def bV (M : ST) (r : Nat → Int64) : Int32 := fr (gVz M r) 0 (cG M) (tV M (uW M r (-1)))
section Wb
variable {S M : ST}
theorem C114_32 (h : CSG S M) {g : Nat} (hg : g < cG M) (V : Int64) (a : Int32) : wh FU (L_114_32 (nJ g) V S) (a, 0) = some (fr (pV M (S.2 31) V (M.1 141 (29 + 3 * g))) 0 (nP M) a, nJ (nP M)) := by
  have h64 := h.1.1.2.2.2.2.1
  have cells := h.1.1.2.2.2.2.2.1
  have := wh_fr (f := L_114_32 (nJ g) V S) (fun i (a : Int32) => (a, nJ i)) (pV M (S.2 31) V (M.1 141 (29 + 3 * g))) (nP M) (fun a => (a, nJ (nP M))) (fun i a hi => by
    unfold L_114_32
    dsimp only
    rw [h.1.1.2.2.2.1, if_pos ((nJ_lt (by omega) (by omega)).mpr hi), (F104_eq h hg).2.1, ob_s, F106_eq h.1 hi, ob_s, F113_eq h, ob_s, nJ_succ]
    rfl) (fun a => by
    unfold L_114_32
    dsimp only
    rw [h.1.1.2.2.2.1, if_neg (fun z => by have := (nJ_lt (by omega) (by omega)).mp z; omega)]) (FU_lt (by omega)) a
  rw [show (0 : Int32) = nJ 0 from rfl, this]
theorem F114_eq (h : CSG S M) : F_114 S = some (bV M (S.2 31)) := by
  obtain ⟨g1, g2, g3⟩ := GTh_g h.2.2
  have e1 : S.1 3 1 = nJ (cG M) := h.2.1.1.2.1.trans g1
  have := wh_fr (f := L_114_12 S) (fun i (a : Int32) => (a, nJ i)) (gVz M (S.2 31)) (cG M) (fun a => (a, nJ (cG M))) (fun i a hi => by
    unfold L_114_12
    dsimp only
    rw [e1, if_pos ((nJ_lt (by omega) (by omega)).mpr hi), F108_eq h, ob_s, C114_32 h hi, ob_s, nJ_succ]
    rfl) (fun a => by
    unfold L_114_12
    dsimp only
    rw [e1, if_neg (fun z => by have := (nJ_lt (by omega) (by omega)).mp z; omega)]) (FU_lt (by omega)) (tV M (uW M (S.2 31) (-1)))
  unfold F_114
  rw [F108_eq h, ob_s, F113_eq h, ob_s, show (0 : Int32) = nJ 0 from rfl, this, ob_s]
  rfl
theorem at_self (hL : Ld S) {p : Nat} (hp : p < nP S) : ge_cl 1 (rL S 141) ((S.1 147 p).toInt, (S.1 148 p).toInt) ∧ f_215 S (S.1 147 p) (S.1 148 p) = nJ p := by
  have hc : ge_cl 1 (rL S 141) ((S.1 147 p).toInt, (S.1 148 p).toInt) := pt_cl hL hp
  obtain ⟨q, q1, q2, q3⟩ := at_pt hL hc
  have : q = p := pt_inj hL q1 hp q3
  rw [this] at q2
  exact ⟨hc, q2⟩
theorem M291_40 (h : MS S) (hg : GTh S 141) (hQ : Qp S) {g : Nat} (hlt : g < cG S) (V : Int64) (a : Int32) : wh FU (Lm_291_40 (nJ g) V S) (a, 0) = some (fr (pV S (S.2 153) V (S.1 141 (29 + 3 * g))) 0 (nP S) a, nJ (nP S)) := by
  have hP := Ld_P h.1
  obtain ⟨g1, g2, g3⟩ := GTh_g hg
  have a2 := F274_eq (S := S) (g := g) (j := 2) (by omega) (by omega)
  rw [show 27 + 3 * g + 2 = 29 + 3 * g by omega] at a2
  have := wh_fr (f := Lm_291_40 (nJ g) V S) (fun i (a : Int32) => (a, nJ i)) (pV S (S.2 153) V (S.1 141 (29 + 3 * g))) (nP S) (fun a => (a, nJ (nP S))) (fun i a hi => by
    obtain ⟨s1, s2⟩ := at_self h.1 hi
    unfold Lm_291_40
    dsimp only
    rw [hP.1, if_pos ((nJ_lt (by omega) (by omega)).mpr hi), ck_t (ibd_n (by omega) (by omega)), ck_t (ibd_n (by omega) (by omega)), show (2 : Int32) = nJ 2 from rfl, a2, ob_s, nJ_ix (by omega), F275_eq h s1 hi s2, ob_s, F289_eq h hg hQ, ob_s, nJ_succ]
    rfl) (fun a => by
    unfold Lm_291_40
    dsimp only
    rw [hP.1, if_neg (fun z => by have := (nJ_lt (by omega) (by omega)).mp z; omega)]) (FU_lt (by omega)) a
  rw [show (0 : Int32) = nJ 0 from rfl, this]
theorem M291_21 (h : MS S) (hg : GTh S 141) (hQ : Qp S) (h27 : ¬ S.1 140 27 = 0) : wh FU Lm_291_21 (tV S (uW S (S.2 153) (-1)), 0, S) = some (bV S (S.2 153), nJ (cG S), S) := by
  obtain ⟨g1, g2, g3⟩ := GTh_g hg
  have := wh_fr (f := Lm_291_21) (fun i (a : Int32) => (a, nJ i, S)) (gVz S (S.2 153)) (cG S) (fun a => (a, nJ (cG S), S)) (fun i a hi => by
    unfold Lm_291_21
    dsimp only
    rw [g1, if_pos ((nJ_lt (by omega) (by omega)).mpr hi), F277_eq h hg h27, ob_s]
    dsimp only
    rw [M291_40 h hg hQ hi, ob_s, nJ_succ]
    rfl) (fun a => by
    unfold Lm_291_21
    dsimp only
    rw [g1, if_neg (fun z => by have := (nJ_lt (by omega) (by omega)).mp z; omega)]) (FU_lt (by omega)) (tV S (uW S (S.2 153) (-1)))
  rw [show (0 : Int32) = nJ 0 from rfl, this]
  rfl
/-! the answers do not hang on which rows of sight are used -/
theorem pI_lt (hL : Ld M) (hg : GTh M 141) {g : Nat} (h : g < cG M) : pI M (27 + 3 * g) < nP M := by
  obtain ⟨g1, g2, g3⟩ := GTh_g hg
  have e28 : 27 + 3 * g + 1 = 28 + 3 * g := by omega
  exact (pI_ok hL (j := 27 + 3 * g) (by rw [e28]; exact g3 g h)).1
theorem wG_cg (hL : Ld M) (hg : GTh M 141) {r r' : Nat → Int64} (h : ∀ p, p < nP M → r p = r' p) {g : Nat} (hlt : g < cG M) : wG M r g = wG M r' g := vW_cg (h _ (pI_lt hL hg hlt)) _ _ _
theorem uW_cg (hL : Ld M) (hg : GTh M 141) {r r' : Nat → Int64} (h : ∀ p, p < nP M → r p = r' p) (v : Int32) : uW M r v = uW M r' v := by
  unfold uW
  refine fr_eq (fun i a hi => ?_) 0
  unfold uS
  rw [wG_cg hL hg h hi]
theorem kW_cg (hL : Ld M) (hg : GTh M 141) {r r' : Nat → Int64} (h : ∀ p, p < nP M → r p = r' p) (p : Nat) : kW M r p = kW M r' p := by
  unfold kW
  refine fr_eq (fun i a hi => ?_) 0
  unfold kS
  rw [wG_cg hL hg h hi]
theorem dN_cg (hL : Ld M) (hg : GTh M 141) {r r' : Nat → Int64} (h : ∀ p, p < nP M → r p = r' p) : dN M r = dN M r' := by
  unfold dN
  refine fr_eq (fun i a hi => ?_) 0
  unfold dS
  rw [uW_cg hL hg h, uW_cg hL hg h]
theorem bV_cg (hL : Ld M) (hg : GTh M 141) {r r' : Nat → Int64} (h : ∀ p, p < nP M → r p = r' p) : bV M r = bV M r' := by
  unfold bV
  rw [uW_cg hL hg h]
  refine fr_eq (fun i a hi => ?_) _
  unfold gVz
  rw [uW_cg hL hg h]
  refine fr_eq (fun p a hp => ?_) _
  unfold pV
  rw [vW_cg (h p hp)]
theorem bF_cg {n : Nat} {r r' : Nat → Int64} (h : ∀ p, p < n → r p = r' p) (V : Int64) {x i : Nat} (hx : x < n) (hi : i < n) : bF r V i x = bF r' V i x ∧ bF r V i x < n := by
  unfold bF
  rw [h x hx, h i hi]
  refine ⟨rfl, ?_⟩
  by_cases z : pn (r' x &&& V) < pn (r' i &&& V)
  · rw [if_pos z]; exact hi
  · rw [if_neg z]; exact hx
theorem bFr_cg {n : Nat} (hn : 1 ≤ n) {r r' : Nat → Int64} (h : ∀ p, p < n → r p = r' p) (V : Int64) : ∀ m, m + 1 ≤ n → fr (bF r V) 1 m 0 = fr (bF r' V) 1 m 0 ∧ fr (bF r V) 1 m 0 < n
  | 0, _ => by
    have e : ∀ f : Nat → Nat → Nat, fr f 1 0 0 = 0 := fun _ => rfl
    rw [e, e]
    exact ⟨rfl, by omega⟩
  | m + 1, hm => by
    obtain ⟨a, b⟩ := bFr_cg hn h V m (by omega)
    have c := bF_cg h V b (show 1 + m < n by omega)
    rw [fr_snoc, fr_snoc, ← a]
    exact c
theorem bP_cg {n : Nat} (hn : 1 ≤ n) {r r' : Nat → Int64} (h : ∀ p, p < n → r p = r' p) (V : Int64) : bP r V n = bP r' V n ∧ bP r V n < n := bFr_cg hn h V (n - 1) (by omega)
theorem gI_cg {n : Nat} (hn : 1 ≤ n) {r r' : Nat → Int64} (h : ∀ p, p < n → r p = r' p) : ∀ k V, gI r n k V = gI r' n k V
  | 0, V => rfl
  | k + 1, V => by
    obtain ⟨a, b⟩ := bP_cg hn h V
    show (if V = 0 then 0 else gI r n k (wo V (r (bP r V n))) + 1) = (if V = 0 then 0 else gI r' n k (wo V (r' (bP r' V n))) + 1)
    rw [← a, h _ b, gI_cg hn h k]
end Wb
