/-! hidden sets: the reference's side -/
section Mw
variable {S : ST} {n : Nat}
theorem F270_eq {x : Int64} (h : ¬ x = 0) : F_270 x = some (nJ (lowN x)) := by
  unfold F_270
  rw [ck_t (chB_t.mpr h)]
  rfl
theorem clr_bz {x : Int64} {p i : Nat} (hp : p < 64) (hi : i < 64) : bz (wo x (bt p)) i = (bz x i && !decide (i = p)) := by rw [wo_bz hi, bt_bz hp]
theorem pn_wo {x : Int64} {p : Nat} (hp : bz x p = true) : pn (wo x (bt p)) + 1 = pn x := by
  have p64 := lt64 hp
  rw [pn_rk, pn_rk, ← rk_del p64 hp, rk_cong (fun i hi => clr_bz p64 hi)]
theorem pn_mono {x y : Int64} (h : ∀ i, i < 64 → bz x i = true → bz y i = true) : pn x ≤ pn y := by
  rw [pn_rk, pn_rk]; exact rk_up h
/-- what a count of members is -/
def hdC (c : Int64 → Nat) : Prop := (∀ x, c x ≤ 64) ∧ (∀ x p, bz x p = true → c (wo x (bt p)) + 1 = c x) ∧ ∀ x y, (∀ i, i < 64 → bz x i = true → bz y i = true) → c x ≤ c y
theorem hdC_pn : hdC pn := ⟨pn_le, fun _ _ h => pn_wo h, fun _ _ h => pn_mono h⟩
variable {c : Int64 → Nat}

theorem M271_16 (hc : hdC c) (hG : hdG n (S.2 153)) (v1 : Int64) (pp : Int32) {W : Int64} (hW : ofP n W) (h0 : ¬ W = 0) : ∃ a z, wh FU (Lm_271_16 v1 pp S) (W, W) = some (a, z) ∧ ofP n a ∧ c a < c W ∧ (∀ i, i < 64 → bz a i = true → bz W i = true) ∧ ∀ x y, bz W x = true → bz a x = false → bz W y = true → bz a y = false → bz (S.2 153 x) y = true := by
  have key : ∃ r, wh FU (Lm_271_16 v1 pp S) (W, W) = some r ∧ c r.1 < c W ∧ (∀ i, i < 64 → bz r.1 i = true → bz W i = true) ∧ ∀ x y, bz W x = true → bz r.1 x = false → bz W y = true → bz r.1 y = false → bz (S.2 153 x) y = true := by
    refine wh_inv (I := fun m r => m = c r.2 ∧ (r = (W, W) ∨ c r.1 < c W) ∧ (∀ i, i < 64 → bz r.1 i = true → bz W i = true) ∧ (∀ i, i < 64 → bz r.2 i = true → bz r.1 i = true) ∧ (∀ x y, bz W x = true → bz r.1 x = false → bz W y = true → bz r.1 y = false → bz (S.2 153 x) y = true) ∧ ∀ x y, bz W x = true → bz r.1 x = false → bz r.2 y = true → bz (S.2 153 x) y = true) ?_ FU (c W) _ (FU_lt (by have := hc.1 W; omega)) ⟨rfl, Or.inl rfl, fun _ _ h => h, fun _ _ h => h, fun x y h1 h2 _ _ => absurd (h1.symm.trans h2) (by decide), fun x y h1 h2 _ => absurd (h1.symm.trans h2) (by decide)⟩
    rintro m ⟨a, b⟩ ⟨rfl, c1, c2, c3, c4, c5⟩
    dsimp only at c1 c2 c3 c4 c5
    unfold Lm_271_16
    dsimp only
    by_cases e : b = 0
    · rw [if_pos e]
      refine Or.inr ⟨_, rfl, ?_, c2, c4⟩
      rcases c1 with z | z
      · exact absurd ((congrArg Prod.snd z).symm.trans e) h0
      · exact z
    · rw [if_neg e, F270_eq e, ob_s]
      obtain ⟨w64, wb⟩ := low_ok e
      generalize lowN b = w at w64 wb ⊢
      have wa := c3 w w64 wb
      have wW := c2 w w64 wa
      have wn := hW w wW
      rw [ck_t (ibd_n (by omega) (by omega)), nJ_ix (by omega)]
      have ea : a &&& ((1 <<< (Int32.toInt64 (nJ w) &&& 63)) ^^^ (-1)) = wo a (bt w) := rfl
      have eb : b &&& ((S.2 153 w) &&& ((1 <<< (Int32.toInt64 (nJ w) &&& 63)) ^^^ (-1))) = wo b (bt w) &&& S.2 153 w := by
        show b &&& (S.2 153 w &&& (bt w ^^^ (-1))) = (b &&& (bt w ^^^ (-1))) &&& S.2 153 w
        rw [Int64.and_assoc, Int64.and_comm (S.2 153 w)]
      rw [ea, eb]
      have ga : ∀ {x : Nat}, bz W x = true → bz (wo a (bt w)) x = false → bz a x = false ∨ x = w := fun {x} hx h => by
        rw [clr_bz w64 (lt64 hx)] at h
        cases q : bz a x with
        | false => exact Or.inl rfl
        | true => rw [q] at h; exact Or.inr (by simpa using h)
      have gb : ∀ {x : Nat}, bz (wo b (bt w) &&& S.2 153 w) x = true → bz b x = true ∧ bz (S.2 153 w) x = true := fun {x} h => by
        have x64 := lt64 h
        rw [bz_and, clr_bz w64 x64] at h
        simp only [Bool.and_eq_true] at h
        exact ⟨h.1.1, h.2⟩
      have sw := (hG.2 w wn).2.1
      refine Or.inl ⟨_, _, ?_, rfl, rfl, Or.inr ?_, fun i hi h => ?_, fun i hi h => ?_, fun x y h1 h2 h3 h4 => ?_, fun x y h1 h2 h3 => ?_⟩
      · have h1 := hc.2.1 _ _ wb
        have h2 : c (wo b (bt w) &&& S.2 153 w) ≤ c (wo b (bt w)) := hc.2.2 _ _ (fun i hi h => by rw [bz_and, Bool.and_eq_true] at h; exact h.1)
        show c (wo b (bt w) &&& S.2 153 w) < c b
        omega
      · have h1 := hc.2.1 _ _ wa
        have h2 := hc.2.2 _ _ c2
        show c (wo a (bt w)) < c W
        omega
      · have h' : bz (wo a (bt w)) i = true := h
        rw [clr_bz w64 hi, Bool.and_eq_true] at h'
        exact c2 i hi h'.1
      · have h' : bz (wo b (bt w) &&& S.2 153 w) i = true := h
        show bz (wo a (bt w)) i = true
        rw [bz_and, clr_bz w64 hi] at h'
        simp only [Bool.and_eq_true] at h'
        rw [clr_bz w64 hi, c3 i hi h'.1.1, h'.1.2]; rfl
      · rcases ga h1 h2 with p | p <;> rcases ga h3 h4 with q | q
        · exact c4 x y h1 p h3 q
        · rw [q]; exact c5 x w h1 p wb
        · rw [p, (hG.2 w wn).2.2 y (hW y h3)]; exact c5 y w h3 q wb
        · rw [p, q]; exact sw
      · have g := gb h3
        rcases ga h1 h2 with p | p
        · exact c5 x y h1 p g.1
        · rw [p]; exact g.2
  obtain ⟨⟨a, z⟩, e, k1, k2, k3⟩ := key
  exact ⟨a, z, e, fun q hq => hW q (k2 q (lt64 hq) hq), k1, k2, k3⟩
/-- as many groups as any hidden set has points -/
theorem F271_eqc (hc : hdC c) (hG : hdG n (S.2 153)) {V : Int64} (hV : ofP n V) : ∃ g, F_271 V S = some (nJ g) ∧ g ≤ 64 ∧ ∀ j, idp (S.2 153) V j → j ≤ g := by
  have key : ∃ r, wh FU (Lm_271_5 V S) (nJ 0, V) = some r ∧ ∃ g, r.1 = nJ g ∧ g ≤ 64 ∧ ∀ j, idp (S.2 153) V j → j ≤ g := by
    refine wh_inv (I := fun m r => m = c r.2 ∧ ofP n r.2 ∧ ∃ g, r.1 = nJ g ∧ g + c r.2 ≤ 64 ∧ ∀ j, idp (S.2 153) V j → ∃ j', j ≤ g + j' ∧ idp (S.2 153) r.2 j') ?_ FU (c V) _ (FU_lt (by have := hc.1 V; omega)) ⟨rfl, hV, 0, rfl, by have := hc.1 V; show 0 + c V ≤ 64; omega, fun j hj => ⟨j, by omega, hj⟩⟩
    rintro m ⟨y, W⟩ ⟨rfl, hW, g, rfl, g1, g2⟩
    dsimp only at hW g1 g2
    unfold Lm_271_5
    dsimp only
    by_cases e : W = 0
    · rw [if_pos e]
      refine Or.inr ⟨_, rfl, g, rfl, by omega, fun j hj => ?_⟩
      obtain ⟨j', a, b⟩ := g2 j hj
      rw [e] at b
      have := idp_0 b
      omega
    · rw [if_neg e]
      obtain ⟨a, z, ea, a1, a2, a3, a4⟩ := M271_16 hc hG V (nJ g) hW e
      rw [ea, ob_s, nJ_succ]
      refine Or.inl ⟨_, _, a2, rfl, rfl, a1, g + 1, rfl, by show g + 1 + c a ≤ 64; omega, fun j hj => ?_⟩
      obtain ⟨j', b1, b2⟩ := g2 j hj
      obtain ⟨j'', d1, d2⟩ := idp_grp a3 a4 b2
      exact ⟨j'', by omega, d2⟩
  obtain ⟨r, e, g, eg, w⟩ := key
  refine ⟨g, ?_, w⟩
  unfold F_271
  rw [show (0 : Int32) = nJ 0 from rfl, e, ob_s, eg]
/-- taking the lowest point or leaving it -/
theorem hmx_low {r : Nat → Int64} (hG : hdG n r) {V : Int64} (hV : ofP n V) {p k a b : Nat} (hp : bz V p = true) (h : hmx r V k) (ha : hmx r (wo V (bt p)) a) (hb : hmx r (wo (wo V (bt p)) (r p)) b) : k = max a (b + 1) := by
  have p64 := lt64 hp
  have pn' := hV p hp
  have e : wo (wo V (bt p)) (r p) = wo V (r p) := bz_ext (fun i hi => by
    rw [wo_bz hi, wo_bz hi, wo_bz hi, bt_bz p64]
    by_cases cc : i = p
    · rw [cc, (hG.2 p pn').2.1]; simp
    · rw [decide_eq_false cc]; simp)
  rw [e] at hb
  have h1 := h.2 _ (idp_in hG hV hp hb.1)
  have h2 := h.2 _ (idp_up (fun i hi z => by rw [wo_bz hi, Bool.and_eq_true] at z; exact z.1) ha.1)
  obtain ⟨⟨s, s1, s2⟩, -⟩ := h
  cases sp : s p with
  | true =>
    obtain ⟨j, j1, j2⟩ := idp_rem p64 s1 sp
    have := hb.2 _ j2
    omega
  | false =>
    have : idp r (wo V (bt p)) k := ⟨s, fun i hi hs => ⟨by
      rw [wo_bz hi, (s1 i hi hs).1, bt_bz p64, decide_eq_false (fun z => by rw [z, sp] at hs; cases hs)]; rfl, (s1 i hi hs).2⟩, s2⟩
    have := ha.2 _ this
    omega
theorem Fm_2 {fs : List Nat} {S S' : ST} (h : Fm [] fs S S') : S'.2 = S.2 := by
  funext a
  exact h.rowL (by simp)
theorem F272_eqc (hc : hdC c) (hG : hdG n (S.2 153)) : ∀ (fl : Nat) (V : Int64) (size B k : Nat) (S1 : ST), ofP n V → hmx (S.2 153) V k → c V < fl → size + c V ≤ 64 → B ≤ 200 → S1.2 = S.2 → S1.1 140 38 = nJ B → ∃ S2, F_272 fl V (nJ size) S1 = some ((), S2) ∧ Fm [] [38] S1 S2 ∧ S2.1 140 38 = nJ (max B (size + k)) := by
  intro fl
  induction fl with
  | zero => intro V size B k S1 _ _ h; omega
  | succ fl ih =>
    intro V size B k S1 hV hk hf hs hB f1 e1
    have k64 : k ≤ 64 := by
      obtain ⟨s, -, e⟩ := hk.1
      rw [← e]; exact rk_le s 64
    show ∃ S2, B_272 (F_272 fl) V (nJ size) S1 = _ ∧ _
    unfold B_272
    have e0 : (if S1.1 140 38 < nJ size then nJ size else S1.1 140 38) = nJ (max B size) := by
      rw [e1]
      by_cases cc : B < size
      · rw [if_pos ((nJ_lt (by omega) (by omega)).mpr cc), Nat.max_eq_right (by omega)]
      · rw [if_neg (fun z => cc ((nJ_lt (by omega) (by omega)).mp z)), Nat.max_eq_left (by omega)]
    rw [e0]
    have key : ∃ r, wh FU (Lm_272_23 (F_272 fl) V (nJ size)) (V, wI S1 140 38 (nJ (max B size))) = some r ∧ Fm [] [38] S1 r.2 ∧ r.2.1 140 38 = nJ (max B (size + k)) := by
      refine wh_inv (I := fun m r => m = c r.1 ∧ ofP n r.1 ∧ c r.1 ≤ c V ∧ r.2.2 = S.2 ∧ Fm [] [38] S1 r.2 ∧ ∃ b a, r.2.1 140 38 = nJ b ∧ hmx (S.2 153) r.1 a ∧ size ≤ b ∧ b ≤ 200 ∧ max b (size + a) = max B (size + k)) ?_ FU (c V) _ (FU_lt (by have := hc.1 V; omega)) ⟨rfl, hV, Nat.le_refl _, f1, Fm_f (by simp), max B size, k, by show (wI _ _ _ _).1 140 38 = _; rw [wI_1, if_pos ⟨rfl, rfl⟩], hk, by omega, by omega, by omega⟩
      rintro m ⟨W, S2⟩ ⟨rfl, hW, w0, f2, f3, b, a, eb, ha, b1, b2, b3⟩
      dsimp only at hW w0 f2 f3 eb ha
      have a64 : a ≤ 64 := by
        obtain ⟨s, -, e⟩ := ha.1
        rw [← e]; exact rk_le s 64
      unfold Lm_272_23
      dsimp only
      by_cases e : W = 0
      · rw [if_pos e]
        rw [e] at ha
        have := hmx_u ha (hmx_0 _)
        exact Or.inr ⟨_, rfl, f3, by show S2.1 140 38 = _; rw [eb, ← b3, this, Nat.max_eq_left (by omega)]⟩
      · rw [if_neg e]
        have hG2 : hdG n (S2.2 153) := by rw [f2]; exact hG
        obtain ⟨g, eg, g1, g2⟩ := F271_eqc hc hG2 hW
        rw [f2] at g2
        rw [eg, ob_s, eb, nJ_add]
        by_cases cc : b < size + g
        · rw [if_pos ((nJ_lt (by omega) (by omega)).mpr cc), F270_eq e, ob_s]
          obtain ⟨p64, pW⟩ := low_ok e
          generalize lowN W = p at p64 pW ⊢
          rw [ck_t (ibd_n (by omega) (by omega)), nJ_ix (by omega), f2, nJ_succ]
          have d1 := hc.2.1 _ _ pW
          obtain ⟨a', ha'⟩ := hmx_ex (S.2 153) (wo W (bt p))
          obtain ⟨z', hz'⟩ := hmx_ex (S.2 153) (wo (wo W (bt p)) (S.2 153 p))
          have mxe := hmx_low hG hW pW ha ha' hz'
          have d2 : c (wo (wo W (bt p)) (S.2 153 p)) ≤ c (wo W (bt p)) := hc.2.2 _ _ (fun i hi h => by rw [wo_bz hi, Bool.and_eq_true] at h; exact h.1)
          obtain ⟨S3, e3, f4, q3⟩ := ih (wo (wo W (bt p)) (S.2 153 p)) (size + 1) b z' S2 (wo_of (wo_of hW)) hz' (by omega) (by omega) (by omega) f2 eb
          have e3' : F_272 fl ((W &&& ((1 <<< (Int32.toInt64 (nJ p) &&& 63)) ^^^ (-1))) &&& ((S.2 153 p) ^^^ (-1))) (nJ (size + 1)) S2 = some ((), S3) := e3
          rw [e3', ob_s]
          refine Or.inl ⟨_, _, ?_, rfl, rfl, wo_of hW, ?_, ?_, f3.tr f4, max b (size + 1 + z'), a', q3, ha', by omega, by omega, by omega⟩
          · show c (wo W (bt p)) < c W; omega
          · show c (wo W (bt p)) ≤ c V; omega
          · show S3.2 = S.2
            rw [← f2]
            exact Fm_2 f4
        · rw [if_neg (fun z => cc ((nJ_lt (by omega) (by omega)).mp z))]
          have := g2 _ ha.1
          exact Or.inr ⟨_, rfl, f3, by show S2.1 140 38 = _; rw [eb, ← b3, Nat.max_eq_left (by omega)]⟩
    obtain ⟨r, e, w1, w2⟩ := key
    exact ⟨r.2, by rw [e, ob_s], w1, w2⟩
theorem F271_eq (hG : hdG n (S.2 153)) {V : Int64} (hV : ofP n V) : ∃ g, F_271 V S = some (nJ g) ∧ g ≤ 64 ∧ ∀ j, idp (S.2 153) V j → j ≤ g := F271_eqc hdC_pn hG hV
end Mw
