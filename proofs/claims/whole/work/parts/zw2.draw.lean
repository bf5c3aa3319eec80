/-! the picture's rows -/
def thG (M : ST) (x y : Int32) : Bool := ay (fun g => decide (M.1 141 (27 + 3 * g) = x) && decide (M.1 141 (28 + 3 * g) = y)) 0 (cG M)
def thT (M : ST) (x y : Int32) : Bool := ay (fun g => decide (M.1 141 (45 + 3 * g) = x) && decide (M.1 141 (46 + 3 * g) = y)) 0 (cTz M)
def thV (M : ST) (x y : Int32) : Bool := ay (fun g => decide (M.1 141 (3 + g) = x) && decide (M.1 141 (15 + g) = y)) 0 (rN M 141)
theorem ay_cg {p q : Nat → Bool} {n : Nat} (h : ∀ i, i < n → p i = q i) : ay p 0 n = ay q 0 n := by
  rw [Bool.eq_iff_iff, ay_iff, ay_iff]
  constructor
  · rintro ⟨j, a, b, c⟩
    exact ⟨j, a, b, by rw [← h j (by omega)]; exact c⟩
  · rintro ⟨j, a, b, c⟩
    exact ⟨j, a, b, by rw [h j (by omega)]; exact c⟩
/-- a search over two rows of cells -/
theorem ay_two {f : Int32 → Option (Int32 ⊕ (Int32 ⊕ Bool))} {u w : Nat → Int32} {x y : Int32} {n : Nat} (hn : n < 1000) (h : ∀ i, i < n → f (nJ i) = if u i = x then (if w i = y then some (.inr (.inr true)) else some (.inl (nJ (i + 1)))) else some (.inl (nJ (i + 1)))) (he : f (nJ n) = some (.inr (.inl (nJ n)))) : ob (wh FU f 0) (fun z => Sum.elim (fun _ => some false) (fun o => some o) z) = some (ay (fun g => decide (u g = x) && decide (w g = y)) 0 n) := by
  have := wh_ay (f := f) nJ (fun g => decide (u g = x) && decide (w g = y)) n (o := .inr true) (b := .inl (nJ n)) (fun i hi hp => by
    have hp' := (Bool.and_eq_true _ _).mp hp
    rw [h i hi, if_pos (of_decide_eq_true hp'.1), if_pos (of_decide_eq_true hp'.2)]) (fun i hi hp => by
    rw [h i hi]
    by_cases a : u i = x
    · rw [if_pos a]
      by_cases b : w i = y
      · have hp' : (decide (u i = x) && decide (w i = y)) = false := hp
        rw [decide_eq_true a, decide_eq_true b] at hp'
        cases hp'
      · rw [if_neg b]
    · rw [if_neg a]) he 0 n (by omega) (FU_lt (by omega))
  rw [show (0 : Int32) = nJ 0 from rfl, this, ob_s]
  cases ay (fun g => decide (u g = x) && decide (w g = y)) 0 n <;> rfl
section Dr
variable {S M : ST}
theorem F59_eq (h : CSG S M) (x y : Int32) : F_59 3 x y S = some (thG M x y) := by
  obtain ⟨g1, g2, g3⟩ := GTh_g h.2.2
  have e1 : S.1 3 1 = nJ (cG M) := h.2.1.1.2.1.trans g1
  have hh : ∀ i, i < cG M → L_59_2 3 x y S (nJ i) = if (fun g => M.1 141 (27 + 3 * g)) i = x then (if (fun g => M.1 141 (28 + 3 * g)) i = y then some (.inr (.inr true)) else some (.inl (nJ (i + 1)))) else some (.inl (nJ (i + 1))) := by
    intro i hi
    have cl := h.2.1.2.2.1 i (hi)
    have c1 : S.1 (3 + 3) i = (fun g => M.1 141 (27 + 3 * g)) i := cl.1
    have c2 : S.1 (3 + 4) i = (fun g => M.1 141 (28 + 3 * g)) i := cl.2.1
    unfold L_59_2
    rw [e1, if_pos ((nJ_lt (by omega) (by omega)).mpr hi), ck_t (ibd_n (by omega) (by omega)), ck_t (ibd_n (by omega) (by omega)), nJ_ix (by omega), c1, c2, nJ_succ]
  have he : L_59_2 3 x y S (nJ (cG M)) = some (.inr (.inl (nJ (cG M)))) := by
    unfold L_59_2
    rw [e1, if_neg (fun z => by have := (nJ_lt (by omega) (by omega)).mp z; omega)]
  unfold F_59
  exact ay_two (by omega) hh he
theorem F64_eq (h : CSG S M) (x y : Int32) : F_64 3 x y S = some (thT M x y) := by
  obtain ⟨g1, g2, g3⟩ := GTh_t h.2.2
  have e1 : S.1 3 2 = nJ (cTz M) := h.2.1.1.2.2.trans g1
  have hh : ∀ i, i < cTz M → L_64_2 3 x y S (nJ i) = if (fun g => M.1 141 (45 + 3 * g)) i = x then (if (fun g => M.1 141 (46 + 3 * g)) i = y then some (.inr (.inr true)) else some (.inl (nJ (i + 1)))) else some (.inl (nJ (i + 1))) := by
    intro i hi
    have cl := h.2.1.2.2.2 i (hi)
    have c1 : S.1 (3 + 6) i = (fun g => M.1 141 (45 + 3 * g)) i := cl.1
    have c2 : S.1 (3 + 7) i = (fun g => M.1 141 (46 + 3 * g)) i := cl.2.1
    unfold L_64_2
    rw [e1, if_pos ((nJ_lt (by omega) (by omega)).mpr hi), ck_t (ibd_n (by omega) (by omega)), ck_t (ibd_n (by omega) (by omega)), nJ_ix (by omega), c1, c2, nJ_succ]
  have he : L_64_2 3 x y S (nJ (cTz M)) = some (.inr (.inl (nJ (cTz M)))) := by
    unfold L_64_2
    rw [e1, if_neg (fun z => by have := (nJ_lt (by omega) (by omega)).mp z; omega)]
  unfold F_64
  exact ay_two (by omega) hh he
theorem F51_eq (h : CSG S M) (x y : Int32) : F_51 3 x y S = some (thV M x y) := by
  have g := h.2.2.1
  have h12 := g.1.2
  have e1 : S.1 3 0 = nJ (rN M 141) := h.2.1.1.1.trans g.1.1
  have hh : ∀ i, i < rN M 141 → L_51_2 3 x y S (nJ i) = if (fun g => M.1 141 (3 + g)) i = x then (if (fun g => M.1 141 (15 + g)) i = y then some (.inr (.inr true)) else some (.inl (nJ (i + 1)))) else some (.inl (nJ (i + 1))) := by
    intro i hi
    have cl := h.2.1.2.1 i (hi)
    have c1 : S.1 (3 + 1) i = (fun g => M.1 141 (3 + g)) i := cl.1
    have c2 : S.1 (3 + 2) i = (fun g => M.1 141 (15 + g)) i := cl.2
    unfold L_51_2
    rw [e1, if_pos ((nJ_lt (by omega) (by omega)).mpr hi), ck_t (ibd_n (by omega) (by omega)), ck_t (ibd_n (by omega) (by omega)), nJ_ix (by omega), c1, c2, nJ_succ]
  have he : L_51_2 3 x y S (nJ (rN M 141)) = some (.inr (.inl (nJ (rN M 141)))) := by
    unfold L_51_2
    rw [e1, if_neg (fun z => by have := (nJ_lt (by omega) (by omega)).mp z; omega)]
  unfold F_51
  exact ay_two (by omega) hh he
theorem f292_eq (hg : GTh S 141) (x y : Int32) : f_292 S x y = thG S x y := by
  obtain ⟨g1, g2, g3⟩ := GTh_g hg
  unfold f_292 thG
  refine ay_cg (fun i hi => ?_)
  have hi' : i < cG S := hi
  have f : ∀ j, j < 3 → f_274 S (nJ i) (nJ j) = S.1 141 (27 + 3 * i + j) := fun j hj => by
    unfold f_274
    rw [show (27 + (3 * nJ i)) + nJ j = nJ (27 + 3 * i + j) by
      show (nJ 27 + (nJ 3 * nJ i)) + nJ j = _
      rw [nJ_mul, nJ_add, nJ_add]]
    unfold ra
    rw [nJ_ix (by omega)]
  have f0 := f 0 (by omega)
  have f1 := f 1 (by omega)
  rw [Nat.add_zero] at f0
  rw [show 27 + 3 * i + 1 = 28 + 3 * i by omega] at f1
  rw [← f0, ← f1]
  rfl
theorem f293_eq (hg : GTh S 141) (x y : Int32) : f_293 S x y = thT S x y := by
  obtain ⟨g1, g2, g3⟩ := GTh_t hg
  unfold f_293 thT
  refine ay_cg (fun i hi => ?_)
  have hi' : i < cTz S := hi
  have f : ∀ j, j < 3 → f_287 S (nJ i) (nJ j) = S.1 141 (45 + 3 * i + j) := fun j hj => by
    unfold f_287
    rw [show (45 + (3 * nJ i)) + nJ j = nJ (45 + 3 * i + j) by
      show (nJ 45 + (nJ 3 * nJ i)) + nJ j = _
      rw [nJ_mul, nJ_add, nJ_add]]
    unfold ra
    rw [nJ_ix (by omega)]
  have f0 := f 0 (by omega)
  have f1 := f 1 (by omega)
  rw [Nat.add_zero] at f0
  rw [show 45 + 3 * i + 1 = 46 + 3 * i by omega] at f1
  rw [← f0, ← f1]
  rfl
theorem f294_eq (g : GR S 141) (x y : Int32) : f_294 S x y = thV S x y := by
  have h12 := g.1.2
  unfold f_294 thV
  refine ay_cg (fun i hi => ?_)
  rw [ra_3 S 141 (by omega), ra_15 S 141 (by omega)]
/-- what stands at a place -/
def chM (M : ST) (V : Int64) (x y : Int32) : Int32 := if f_215 M x y = -1 then 32 else if thG M x y = true then 71 else if thT M x y = true then 84 else if thV M x y = true then 86 else if bz V (f_215 M x y).toNatClampNeg = true then 43 else 45
def ctM (M : ST) (y : Int32) (i a : Nat) : Nat := if f_215 M (nJ i) y = -1 then a else a + 1
theorem F181_eq (h : CSG S M) (V : Int64) (x y : Int32) : F_181 x y V S = some (chM M V x y) := by
  have h64 := h.1.1.2.2.2.2.1
  unfold F_181 chM
  rw [F18_cx h.1.1, ob_s]
  by_cases c : f_215 M x y = -1
  · rw [if_pos c, if_pos c]
  · rw [if_neg c, if_neg c, F59_eq h, ob_s]
    by_cases c1 : thG M x y = true
    · rw [if_pos c1, if_pos c1]
    · rw [if_neg c1, if_neg c1, F64_eq h, ob_s]
      by_cases c2 : thT M x y = true
      · rw [if_pos c2, if_pos c2]
      · rw [if_neg c2, if_neg c2, F51_eq h, ob_s]
        by_cases c3 : thV M x y = true
        · rw [if_pos c3, if_pos c3]
        · rw [if_neg c3, if_neg c3]
          rcases at_2 h.1.1.2.2.1 x y with ⟨e, -⟩ | ⟨p, p1, p2, -⟩
          · exact absurd e c
          · rw [p2, has177 V (by omega), nJ_ix (by omega)]
theorem CSG_139 (h : CSG S M) {S' : ST} (f : oneR 139 S S') : CSG S' M := by
  have hF : Fp (fun a => a = 139) S S' := fun a ha => ⟨funext fun j => f.1 a j ha, by rw [f.2]⟩
  exact ⟨CS_fp h.1 hF (fun a ha => by unfold cxC at ha; omega), PR_fp h.2.1 hF (fun a ha => by unfold pl9 at ha; omega), h.2.2⟩
theorem C161_33 (h : CSG S M) (y : Int32) (V : Int64) : ∃ z S', wh FU (L_161_33 y V) (0, 0, S) = some (nJ (fr (ctM M y) 0 16 0), z, S') ∧ oneR 139 S S' ∧ ∀ i, i < 16 → S'.1 139 i = chM M V (nJ i) y := by
  have key : ∃ r, wh FU (L_161_33 y V) (nJ 0, nJ 0, S) = some r ∧ r.1 = nJ (fr (ctM M y) 0 16 0) ∧ oneR 139 S r.2.2 ∧ ∀ i, i < 16 → r.2.2.1 139 i = chM M V (nJ i) y := by
    refine wh_inv (I := fun m x => ∃ i, i + m = 16 ∧ x.2.1 = nJ i ∧ x.1 = nJ (fr (ctM M y) 0 i 0) ∧ oneR 139 S x.2.2 ∧ ∀ j, j < i → x.2.2.1 139 j = chM M V (nJ j) y) ?_ FU 16 _ (FU_lt (by omega)) ⟨0, rfl, rfl, rfl, oneR.rf, fun j hj => by omega⟩
    rintro m ⟨a, b, S1⟩ ⟨i, hi, rfl, rfl, f1, w⟩
    dsimp only at f1 w
    unfold L_161_33
    dsimp only
    by_cases c : i < 16
    · have h1 := CSG_139 h f1
      have f2 : oneR 139 S1 (wI S1 139 i (chM M V (nJ i) y)) := oneR_I
      have h2 := CSG_139 h1 f2
      have w2 : ∀ j, j < i + 1 → (wI S1 139 i (chM M V (nJ i) y)).1 139 j = chM M V (nJ j) y := fun j hj => by
        rw [wI_1]
        by_cases d : j = i
        · rw [if_pos ⟨rfl, d⟩, d]
        · rw [if_neg (fun q => d q.2)]; exact w j (by omega)
      rw [if_pos (show nJ i < 16 from (nJ_lt (j := 16) (by omega) (by omega)).mpr c), F181_eq h1, ob_s, ck_t (ibd_n (by omega) (by omega)), sbn_e, nJ_ix (by omega), F18_cx h2.1.1, ob_s, nJ_succ i]
      have cnt : fr (ctM M y) 0 (i + 1) 0 = if f_215 M (nJ i) y = -1 then fr (ctM M y) 0 i 0 else fr (ctM M y) 0 i 0 + 1 := by
        rw [fr_snoc, Nat.zero_add]; rfl
      by_cases d : f_215 M (nJ i) y = -1
      · rw [if_pos d]
        rw [if_pos d] at cnt
        exact Or.inl ⟨_, m - 1, by omega, rfl, i + 1, by omega, rfl, by rw [cnt], f1.tr f2, w2⟩
      · rw [if_neg d, nJ_succ]
        rw [if_neg d] at cnt
        exact Or.inl ⟨_, m - 1, by omega, rfl, i + 1, by omega, rfl, by rw [cnt], f1.tr f2, w2⟩
    · have : i = 16 := by omega
      subst this
      rw [if_neg (show ¬ nJ 16 < 16 by decide)]
      exact Or.inr ⟨_, rfl, rfl, f1, w⟩
  obtain ⟨⟨a, z, S'⟩, e, rfl, f, w⟩ := key
  exact ⟨z, S', e, f, w⟩
end Dr
