/-! where a point is: the class's half units, the words ge_par, ge_off at scale 2 -/
theorem on_str {u v p : GPt} (h0 : ge_o u v p = 0) (hs : decide (p.2 < u.2) ≠ decide (p.2 < v.2)) : ge_on u v p := by
  by_cases q : u.2 < v.2
  · refine ge_on_y h0 q ?_ ?_
    · apply Classical.byContradiction; intro z
      exact hs (by rw [decide_eq_true (by omega), decide_eq_true (by omega)])
    · apply Classical.byContradiction; intro z
      exact hs (by rw [decide_eq_false (by omega), decide_eq_false (by omega)])
  · by_cases q' : v.2 < u.2
    · refine ge_on_symm (ge_on_y (by rw [ge_o_swap, h0]; rfl) q' ?_ ?_)
      · apply Classical.byContradiction; intro z
        exact hs (by rw [decide_eq_true (by omega), decide_eq_true (by omega)])
      · apply Classical.byContradiction; intro z
        exact hs (by rw [decide_eq_false (by omega), decide_eq_false (by omega)])
    · exact absurd (by rw [show u.2 = v.2 by omega]) hs
theorem par_fr (m : Int) (n : Nat) (f : Nat → GPt) (p : GPt) : ge_par (ge_S m (ge_pl n f)) p = fr (fun i a => (a != ge_cs (ge_s m (f i)) (ge_s m (f (ge_aft n i))) p)) 0 n false := by
  rw [fr_xor]
  unfold ge_par
  rw [pp_xor]
  show (ge_E (ge_S m (ge_pl n f))).foldr _ false = _
  rw [ge_E_S, ge_E_pl, List.foldr_map, List.foldr_map, ← List.range_eq_range', List.foldr_map]
  simp
section PL
variable {S : ST} {h : Nat}
def clLz (S : ST) (h : Nat) : List GPt := ge_pl (clN S h) (clP S h)
theorem sc2_t {x : Int32} (hx : 0 ≤ x.toInt ∧ x.toInt ≤ 15) : (2 * x).toInt = 2 * x.toInt ∧ bi (2 * x) := by
  have e : (2 * x).toInt = 2 * x.toInt := imul_t (x := 2) (y := x) (by show -2147483648 ≤ 2 * x.toInt; omega) (by show 2 * x.toInt ≤ 2147483647; omega)
  exact ⟨e, by unfold bi; rw [e]; omega⟩
theorem F34_eq (hW : clW S h) (hB : clB S h) {i : Nat} (hi : i < clN S h) {x y : Int32} (hx : bi x) (hy : bi y) (hn : ¬ ge_on (ge_s 2 (clP S h i)) (ge_s 2 (clP S h (ge_aft (clN S h) i))) (iP x y)) : F_34 h (nJ i) x y S = some (ge_cs (ge_s 2 (clP S h i)) (ge_s 2 (clP S h (ge_aft (clN S h) i))) (iP x y)) := by
  have hj := ge_aft_lt hi
  unfold F_34
  rw [F46_eq hW hi, F44_eq hW hi, F45_eq hW hi, F44_eq hW hj, F45_eq hW hj, ge_cs_cr hn]
  generalize hj' : ge_aft (clN S h) i = j at *
  simp only [ob_s]
  have xi := sc2_t (clB_x hB hi)
  have yi := sc2_t (clB_y hB hi)
  have xj := sc2_t (clB_x hB hj)
  have yj := sc2_t (clB_y hB hj)
  have ho := F23_t xi.2 yi.2 xj.2 yj.2 hx hy
  have e1 : iP (2 * S.1 (h + 1) i) (2 * S.1 (h + 2) i) = ge_s 2 (clP S h i) := Prod.ext xi.1 yi.1
  have e2 : iP (2 * S.1 (h + 1) j) (2 * S.1 (h + 2) j) = ge_s 2 (clP S h j) := Prod.ext xj.1 yj.1
  rw [e1, e2] at ho
  have z0 : (0 : Int32).toInt = 0 := rfl
  simp only [i32_lt, yi.1, yj.1, ho, z0]
  have hs : decide ((iP x y).2 < (ge_s 2 (clP S h i)).2) ≠ decide ((iP x y).2 < (ge_s 2 (clP S h j)).2) → ge_o (ge_s 2 (clP S h i)) (ge_s 2 (clP S h j)) (iP x y) ≠ 0 := fun q z => hn (on_str z q)
  unfold ge_cr
  show (if decide ((iP x y).2 < (ge_s 2 (clP S h i)).2) = decide ((iP x y).2 < (ge_s 2 (clP S h j)).2) then some false else some (if (ge_s 2 (clP S h i)).2 < (ge_s 2 (clP S h j)).2 then _ else _)) = _
  by_cases q : decide ((iP x y).2 < (ge_s 2 (clP S h i)).2) = decide ((iP x y).2 < (ge_s 2 (clP S h j)).2)
  · rw [if_pos q, q, bne_self_eq_false, Bool.false_and]
  · rw [if_neg q]
    have hz := hs q
    have hb : (decide ((iP x y).2 < (ge_s 2 (clP S h i)).2) != decide ((iP x y).2 < (ge_s 2 (clP S h j)).2)) = true := by simpa using q
    rw [hb, Bool.true_and]
    congr 1
    by_cases w : (ge_s 2 (clP S h i)).2 < (ge_s 2 (clP S h j)).2
    · rw [if_pos w, decide_eq_true w]
      cases decide (0 < ge_o (ge_s 2 (clP S h i)) (ge_s 2 (clP S h j)) (iP x y)) <;> rfl
    · rw [if_neg w, decide_eq_false w]
      by_cases g : 0 < ge_o (ge_s 2 (clP S h i)) (ge_s 2 (clP S h j)) (iP x y)
      · rw [decide_eq_true g, decide_eq_false (by omega)]; rfl
      · rw [decide_eq_false g, decide_eq_true (by omega)]; rfl
theorem b2i_nt (b : Bool) : b2i (decide (b2i b = 0)) = b2i (!b) := by cases b <;> rfl
theorem F33_eq (hW : clW S h) (hB : clB S h) {x y : Int32} (hx : bi x) (hy : bi y) : ∃ r, F_33 h x y S = some r ∧ ((r = 1 ∧ ¬ ge_off (ge_S 2 (clLz S h)) (iP x y)) ∨ (ge_off (ge_S 2 (clLz S h)) (iP x y) ∧ r = if ge_par (ge_S 2 (clLz S h)) (iP x y) = true then 2 else 0)) := by
  have h12 := hW.2
  let g : Nat → Bool → Bool := fun i a => (a != ge_cs (ge_s 2 (clP S h i)) (ge_s 2 (clP S h (ge_aft (clN S h) i))) (iP x y))
  have key : ∃ b, wh FU (L_33_5 h x y S) (0, 0) = some b ∧ ((b = .inr 1 ∧ ¬ ge_off (ge_S 2 (clLz S h)) (iP x y)) ∨ (ge_off (ge_S 2 (clLz S h)) (iP x y) ∧ ∃ z, b = .inl (b2i (ge_par (ge_S 2 (clLz S h)) (iP x y)), z))) := by
    refine wh_inv (I := fun m a => ∃ i, i + m = clN S h ∧ a = (b2i (fr g 0 i false), nJ i) ∧ ∀ k, k < i → ¬ ge_on (ge_s 2 (clP S h k)) (ge_s 2 (clP S h (ge_aft (clN S h) k))) (iP x y)) ?_ FU (clN S h) (0, 0) (FU_lt (by omega)) ⟨0, by omega, rfl, fun k hk => by omega⟩
    rintro m a ⟨i, hi, rfl, hk⟩
    unfold L_33_5
    rw [hW.1]
    dsimp only
    by_cases q : i < clN S h
    · rw [if_pos ((nJ_lt (by omega) (by omega)).mpr q)]
      obtain ⟨b, e, w⟩ := F32_eq hW hB q (m := 2) (by decide) hx hy
      rw [e, ob_s]
      by_cases hb : b = true
      · rw [if_pos hb]
        refine Or.inr ⟨_, rfl, Or.inl ⟨rfl, fun z => z _ (S_E.mpr ⟨i, q, rfl⟩) (w.mp hb)⟩⟩
      · rw [if_neg hb]
        have hn : ¬ ge_on (ge_s 2 (clP S h i)) (ge_s 2 (clP S h (ge_aft (clN S h) i))) (iP x y) := fun z => hb (w.mpr z)
        rw [F34_eq hW hB q hx hy hn, ob_s]
        have hk' : ∀ k, k < i + 1 → ¬ ge_on (ge_s 2 (clP S h k)) (ge_s 2 (clP S h (ge_aft (clN S h) k))) (iP x y) := fun k hk2 => by
          by_cases z : k = i
          · rw [z]; exact hn
          · exact hk k (by omega)
        have hf : fr g 0 (i + 1) false = g i (fr g 0 i false) := by rw [fr_snoc, Nat.zero_add]
        refine Or.inl ⟨_, m - 1, by omega, ?_, i + 1, by omega, rfl, hk'⟩
        rw [hf]
        show _ = some (Sum.inl (b2i (fr g 0 i false != ge_cs _ _ _), nJ (i + 1)))
        by_cases c : ge_cs (ge_s 2 (clP S h i)) (ge_s 2 (clP S h (ge_aft (clN S h) i))) (iP x y) = true
        · rw [if_pos c, c, b2i_nt, nJ_succ, Bool.bne_true]
        · rw [if_neg c, Bool.eq_false_iff.mpr c, nJ_succ, Bool.bne_false]
    · rw [if_neg (fun z => q ((nJ_lt (by omega) (by omega)).mp z))]
      have e : i = clN S h := by omega
      refine Or.inr ⟨_, rfl, Or.inr ⟨?_, nJ i, ?_⟩⟩
      · intro f hf z
        obtain ⟨k, k1, rfl⟩ := S_E.mp hf
        exact hk k (by omega) z
      · have e2 : fr g 0 i false = fr g 0 (clN S h) false := by rw [e]
        unfold clLz
        rw [par_fr, e2]
  obtain ⟨b, e, w⟩ := key
  unfold F_33
  rw [e, ob_s]
  rcases w with ⟨rfl, w⟩ | ⟨w, z, rfl⟩
  · exact ⟨1, rfl, Or.inl ⟨rfl, w⟩⟩
  · refine ⟨_, rfl, Or.inr ⟨w, ?_⟩⟩
    cases ge_par (ge_S 2 (clLz S h)) (iP x y) <;> rfl
theorem off_s {k : Int} (hk : 0 < k) {l : List GPt} {p : GPt} : ge_off (ge_S k l) (ge_s k p) ↔ ge_off l p := by
  unfold ge_off
  rw [ge_E_S]
  simp only [List.mem_map]
  constructor
  · intro w f hf z
    exact w _ ⟨f, hf, rfl⟩ ((ge_on_s hk _ _ _).mpr z)
  · rintro w g ⟨f, hf, rfl⟩ z
    exact w f hf ((ge_on_s hk _ _ _).mp z)
theorem cl_s {k : Int} (hk : 0 < k) {l : List GPt} {p : GPt} : ge_cl k l (ge_s k p) ↔ ge_cl 1 l p := by
  unfold ge_cl
  rw [off_s hk, ge_par_s hk, ge_S_1]
/-- a lattice point's place -/
theorem F33_l (hW : clW S h) (hB : clB S h) {x y : Nat} (hx : x < 16) (hy : y < 16) : ∃ r, F_33 h (2 * nJ x) (2 * nJ y) S = some r ∧ (r = 0 ∨ r = 1 ∨ r = 2) ∧ (¬ r = 0 ↔ ge_cl 1 (clLz S h) ((x : Int), (y : Int))) ∧ (r = 1 ↔ ¬ ge_off (clLz S h) ((x : Int), (y : Int))) := by
  have ex := sc2_t (x := nJ x) (by rw [nJ_toInt (by omega)]; omega)
  have ey := sc2_t (x := nJ y) (by rw [nJ_toInt (by omega)]; omega)
  have e : iP (2 * nJ x) (2 * nJ y) = ge_s 2 ((x : Int), (y : Int)) := by
    refine Prod.ext ?_ ?_
    · show (2 * nJ x).toInt = 2 * (x : Int); rw [ex.1, nJ_toInt (by omega)]
    · show (2 * nJ y).toInt = 2 * (y : Int); rw [ey.1, nJ_toInt (by omega)]
  obtain ⟨r, g, w⟩ := F33_eq hW hB ex.2 ey.2
  refine ⟨r, g, ?_⟩
  rw [e, off_s (by decide), ge_par_s (by decide)] at w
  unfold ge_cl
  rw [ge_S_1]
  rcases w with ⟨rfl, w⟩ | ⟨w, rfl⟩
  · exact ⟨Or.inr (Or.inl rfl), ⟨fun _ z => absurd z w, fun _ => by decide⟩, ⟨fun _ => w, fun _ => rfl⟩⟩
  · cases q : ge_par (clLz S h) ((x : Int), (y : Int)) with
    | true =>
      rw [if_pos rfl]
      exact ⟨Or.inr (Or.inr rfl), ⟨fun _ _ => rfl, fun _ => by decide⟩, ⟨fun z => absurd z (by decide), fun z => absurd w z⟩⟩
    | false =>
      rw [if_neg (by decide)]
      exact ⟨Or.inl rfl, ⟨fun z => absurd rfl z, fun z => absurd (z w) (by decide)⟩, ⟨fun z => absurd z (by decide), fun z => absurd w z⟩⟩
end PL
