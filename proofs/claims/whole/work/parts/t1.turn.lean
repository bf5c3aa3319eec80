/-! the polygon's turn; ears of a ring -/
theorem ap_sum : ∀ l : List GPt, ge_ap l = ((ge_ed l).map (fun e => e.1.1 * e.2.2 - e.2.1 * e.1.2)).sum
  | [] => rfl
  | [_] => rfl
  | a :: b :: r => by
    show (a.1 * b.2 - b.1 * a.2) + ge_ap (b :: r) = (a.1 * b.2 - b.1 * a.2) + ((ge_ed (b :: r)).map (fun e => e.1.1 * e.2.2 - e.2.1 * e.1.2)).sum
    rw [ap_sum (b :: r)]
theorem fr_sum (g : Nat → Int) : ∀ (m i : Nat) (a : Int), fr (fun i a => a + g i) i m a = a + ((List.range' i m).map g).sum := by
  intro m
  induction m with
  | zero => intro i a; show a = a + 0; omega
  | succ m ih =>
    intro i a
    show fr (fun i a => a + g i) (i + 1) m (a + g i) = _
    rw [ih, List.range'_succ, List.map_cons, List.sum_cons]
    omega
def gA3 (S : ST) (i : Nat) : Int := (rP S 141 i).1 * (rP S 141 (ge_aft (rN S 141) i)).2 - (rP S 141 (ge_aft (rN S 141) i)).1 * (rP S 141 i).2
theorem turned_t {S : ST} (hW : RW S 141) (hB : RB S 141) : (f_233 S).toInt = ge_ar (rL S 141) := by
  have h12 := hW.2
  have key : ∀ i, i ≤ rN S 141 → (fr (st33 S) 0 i 0).toInt = fr (fun i a => a + gA3 S i) 0 i 0 ∧ -(225 * (i : Int)) ≤ (fr (st33 S) 0 i 0).toInt ∧ (fr (st33 S) 0 i 0).toInt ≤ 225 * (i : Int) := by
    intro i
    induction i with
    | zero =>
      intro _
      have z : (fr (st33 S) 0 0 0).toInt = 0 := rfl
      exact ⟨rfl, by rw [z]; omega, by rw [z]; omega⟩
    | succ i ih =>
      intro hi
      obtain ⟨a1, a2, a3⟩ := ih (by omega)
      have hj := ge_aft_lt (show i < rN S 141 by omega)
      rw [fr_snoc, fr_snoc, Nat.zero_add]
      generalize fr (st33 S) 0 i 0 = a at *
      unfold st33
      rw [f204_eq hW (by omega), ra_3 S 141 (by omega), ra_15 S 141 (by omega), ra_3 S 141 (by omega), ra_15 S 141 (by omega)]
      have xi := RB_x hB (i := i) (by omega)
      have yi := RB_y hB (i := i) (by omega)
      have xj := RB_x hB (i := ge_aft (rN S 141) i) (by omega)
      have yj := RB_y hB (i := ge_aft (rN S 141) i) (by omega)
      have p1 := Int.mul_nonneg xi.1 yj.1
      have p2 := Int.mul_nonneg xj.1 yi.1
      have m1 := mul_bd (a := (rP S 141 i).1) (b := (rP S 141 (ge_aft (rN S 141) i)).2) (A := 15) (B := 15) (by omega) (by omega) (by omega) (by omega)
      have m2 := mul_bd (a := (rP S 141 (ge_aft (rN S 141) i)).1) (b := (rP S 141 i).2) (A := 15) (B := 15) (by omega) (by omega) (by omega) (by omega)
      have e1 : (S.1 141 (3 + i) * S.1 141 (15 + ge_aft (rN S 141) i)).toInt = (rP S 141 i).1 * (rP S 141 (ge_aft (rN S 141) i)).2 := imul_t (show _ ≤ (rP S 141 i).1 * (rP S 141 (ge_aft (rN S 141) i)).2 by omega) (show (rP S 141 i).1 * (rP S 141 (ge_aft (rN S 141) i)).2 ≤ _ by omega)
      have e2 : (S.1 141 (3 + ge_aft (rN S 141) i) * S.1 141 (15 + i)).toInt = (rP S 141 (ge_aft (rN S 141) i)).1 * (rP S 141 i).2 := imul_t (show _ ≤ (rP S 141 (ge_aft (rN S 141) i)).1 * (rP S 141 i).2 by omega) (show (rP S 141 (ge_aft (rN S 141) i)).1 * (rP S 141 i).2 ≤ _ by omega)
      generalize S.1 141 (3 + i) * S.1 141 (15 + ge_aft (rN S 141) i) = u at *
      generalize S.1 141 (3 + ge_aft (rN S 141) i) * S.1 141 (15 + i) = v at *
      have e3 : (u - v).toInt = u.toInt - v.toInt := isub_t (by omega) (by omega)
      have e4 : (a + (u - v)).toInt = a.toInt + (u.toInt - v.toInt) := by rw [iadd_t (by omega) (by omega), e3]
      have eg : gA3 S i = u.toInt - v.toInt := by unfold gA3; rw [e1, e2]
      rw [e4, ← a1, eg]
      refine ⟨rfl, ?_, ?_⟩
      · have : ((i + 1 : Nat) : Int) = (i : Int) + 1 := by omega
        rw [this]; omega
      · have : ((i + 1 : Nat) : Int) = (i : Int) + 1 := by omega
        rw [this]; omega
  have k := (key (rN S 141) (Nat.le_refl _)).1
  unfold f_233
  rw [k, fr_sum]
  unfold ge_ar
  rw [ap_sum]
  show 0 + _ = ((ge_E (rL S 141)).map _).sum
  unfold rL
  rw [ge_E_pl, List.map_map, ← List.range_eq_range']
  show 0 + ((List.range (rN S 141)).map (gA3 S)).sum = ((List.range (rN S 141)).map _).sum
  rw [Int.zero_add]
  rfl
/-- the polygon's side -/
def sgA (S : ST) : Int := if ge_ar (rL S 141) < 0 then -1 else 1
theorem i32_p (x : Int32) : (0 : Int32) < x ↔ 0 < x.toInt := Int32.lt_iff_toInt_lt
theorem i32_n (x : Int32) : x < 0 ↔ x.toInt < 0 := Int32.lt_iff_toInt_lt
theorem turn_t {S : ST} (hW : RW S 141) (hB : RB S 141) {a b c : Nat} (ha : a < 12) (hb : b < 12) (hc : c < 12) : ((0 : Int32) < f_235 S (nJ a) (nJ b) (nJ c) ↔ 0 < sgA S * ge_o (rP S 141 a) (rP S 141 b) (rP S 141 c)) ∧ (f_235 S (nJ a) (nJ b) (nJ c) < 0 ↔ sgA S * ge_o (rP S 141 a) (rP S 141 b) (rP S 141 c) < 0) := by
  have hcr := cross_t (rx_t hB ha).2 (ry_t hB ha).2 (rx_t hB hb).2 (ry_t hB hb).2 (rx_t hB hc).2 (ry_t hB hc).2
  rw [rP_t hB ha, rP_t hB hb, rP_t hB hc] at hcr
  have hlt : f_233 S < 0 ↔ ge_ar (rL S 141) < 0 := by rw [i32_n, turned_t hW hB]
  unfold f_235 sgA
  generalize f_202 (Int32.toInt64 (ra S 141 (3 + nJ a))) (Int32.toInt64 (ra S 141 (15 + nJ a))) (Int32.toInt64 (ra S 141 (3 + nJ b))) (Int32.toInt64 (ra S 141 (15 + nJ b))) (Int32.toInt64 (ra S 141 (3 + nJ c))) (Int32.toInt64 (ra S 141 (15 + nJ c))) = x at *
  rw [← hcr]
  by_cases h : ge_ar (rL S 141) < 0
  · rw [if_pos (hlt.mpr h), if_pos h]
    rcases f203_3 x with ⟨p, e⟩ | ⟨p, e⟩ | ⟨p, e⟩ <;> rw [e]
    · exact ⟨⟨fun q => absurd q (by decide), fun q => by omega⟩, ⟨fun _ => by omega, fun _ => by decide⟩⟩
    · exact ⟨⟨fun _ => by omega, fun _ => by decide⟩, ⟨fun q => absurd q (by decide), fun q => by omega⟩⟩
    · exact ⟨⟨fun q => absurd q (by decide), fun q => by omega⟩, ⟨fun q => absurd q (by decide), fun q => by omega⟩⟩
  · rw [if_neg (fun q => h (hlt.mp q)), if_neg h]
    rcases f203_3 x with ⟨p, e⟩ | ⟨p, e⟩ | ⟨p, e⟩ <;> rw [e]
    · exact ⟨⟨fun _ => by omega, fun _ => by decide⟩, ⟨fun q => absurd q (by decide), fun q => by omega⟩⟩
    · exact ⟨⟨fun q => absurd q (by decide), fun q => by omega⟩, ⟨fun _ => by omega, fun _ => by decide⟩⟩
    · exact ⟨⟨fun q => absurd q (by decide), fun q => by omega⟩, ⟨fun q => absurd q (by decide), fun q => by omega⟩⟩
/-- the ring without its k-th -/
def rmv (f : Nat → Nat) (k : Nat) : Nat → Nat := fun o => if o < k then f o else f (o + 1)
/-- ear at place k of a ring of n -/
def EarAt (P : Nat → GPt) (σ : Int) (n : Nat) (r : Nat → Nat) (k : Nat) : Prop := 0 < σ * ge_o (P (r ((k + n - 1) % n))) (P (r k)) (P (r ((k + 1) % n))) ∧ ∀ o, o < n → r o ≠ r ((k + n - 1) % n) → r o ≠ r k → r o ≠ r ((k + 1) % n) → ¬ (0 ≤ σ * ge_o (P (r ((k + n - 1) % n))) (P (r k)) (P (r o)) ∧ 0 ≤ σ * ge_o (P (r k)) (P (r ((k + 1) % n))) (P (r o)) ∧ 0 ≤ σ * ge_o (P (r ((k + 1) % n))) (P (r ((k + n - 1) % n))) (P (r o)))
section Ring
variable {α : Type}
def rgS (f : Nat → α) (k : Nat) : List α := (List.range k).map f
def rgR (f : Nat → α) (n k : Nat) : List α := (List.range' (k + 1) (n - 1 - k)).map f
theorem rg_split (f : Nat → α) {n k : Nat} (hk : k < n) : (List.range n).map f = rgS f k ++ f k :: rgR f n k := by
  have e : List.range n = List.range k ++ k :: List.range' (k + 1) (n - 1 - k) := by
    rw [List.range_eq_range', List.range_eq_range']
    have h1 : List.range' 0 n = List.range' 0 k ++ List.range' (0 + 1 * k) (n - k) := by
      rw [List.range'_append]
      congr 1
      omega
    rw [h1, show n - k = (n - 1 - k) + 1 by omega, List.range'_succ]
    simp
  rw [e, List.map_append, List.map_cons]
  rfl
theorem rg_rot (f : Nat → α) {n k : Nat} (hk : k < n) : rgR f n k ++ rgS f k = (List.range (n - 1)).map (fun j => f ((k + 1 + j) % n)) := by
  unfold rgR rgS
  apply List.ext_getElem
  · simp; omega
  · intro i h1 h2
    have hi : i < n - 1 := by simpa using h2
    rw [List.getElem_map, List.getElem_range]
    by_cases q : i < n - 1 - k
    · rw [List.getElem_append_left (by simpa using q)]
      simp only [List.getElem_map, List.getElem_range']
      congr 1
      rw [Nat.mod_eq_of_lt (by omega)]
      omega
    · rw [List.getElem_append_right (by simpa using q)]
      simp only [List.getElem_map, List.getElem_range, List.length_map, List.length_range']
      congr 1
      have : k + 1 + i = (i - (n - 1 - k)) + n := by omega
      rw [this, Nat.add_mod_right, Nat.mod_eq_of_lt (by omega)]
theorem rg_mid (g : Nat → α) (m : Nat) : (List.range (m + 2)).map g = g 0 :: ((List.range' 1 m).map g ++ [g (m + 1)]) := by
  rw [List.range_eq_range', List.range'_succ, List.map_cons, List.range'_concat, List.map_append]
  simp
  rw [Nat.add_comm]
theorem rg_rmv (f : Nat → α) {n k : Nat} (hk : k < n) : rgS f k ++ rgR f n k = (List.range (n - 1)).map (fun o => if o < k then f o else f (o + 1)) := by
  unfold rgR rgS
  apply List.ext_getElem
  · simp; omega
  · intro i h1 h2
    have hi : i < n - 1 := by simpa using h2
    rw [List.getElem_map, List.getElem_range]
    by_cases q : i < k
    · rw [List.getElem_append_left (by simpa using q), if_pos q]
      simp
    · rw [List.getElem_append_right (by simpa using q), if_neg q]
      simp only [List.getElem_map, List.getElem_range', List.length_map, List.length_range]
      congr 1
      omega
end Ring
theorem tc_sg {σ : Int} (hσ : σ = 1 ∨ σ = -1) {a e c w : GPt} (hF : 0 < σ * ge_o a e c) : ge_tc a e c w ↔ (0 ≤ σ * ge_o a e w ∧ 0 ≤ σ * ge_o e c w ∧ 0 ≤ σ * ge_o c a w) := by
  have s1 := ge_b0 a e c w
  have s2 := ge_b0 c e a w
  have w1 := ge_o_swap a e w
  have w2 := ge_o_swap e c w
  have w3 := ge_o_swap c a w
  have w4 : ge_o c e a = - ge_o a e c := by unfold ge_o; grind
  unfold ge_tc ge_in
  rcases hσ with rfl | rfl
  · constructor
    · rintro (⟨x, y, z⟩ | ⟨x, y, z⟩)
      · exact ⟨by omega, by omega, by omega⟩
      · omega
    · rintro ⟨x, y, z⟩
      exact Or.inl ⟨by omega, by omega, by omega⟩
  · constructor
    · rintro (⟨x, y, z⟩ | ⟨x, y, z⟩)
      · omega
      · exact ⟨by omega, by omega, by omega⟩
    · rintro ⟨x, y, z⟩
      exact Or.inr ⟨by omega, by omega, by omega⟩
theorem pl_inj {f : Nat → GPt} {n : Nat} (nd : (ge_pl n f).Nodup) {i j : Nat} (hi : i < n) (hj : j < n) (e : f i = f j) : i = j := by
  apply Classical.byContradiction
  intro q
  rcases Nat.lt_or_gt_of_ne q with q | q
  · refine List.pairwise_iff_getElem.mp nd i j (by rw [ge_pl_len]; exact hi) (by rw [ge_pl_len]; exact hj) q ?_
    unfold ge_pl
    simp [e]
  · refine List.pairwise_iff_getElem.mp nd j i (by rw [ge_pl_len]; exact hj) (by rw [ge_pl_len]; exact hi) q ?_
    unfold ge_pl
    simp [e]
/-- an ear of the list is an ear of the ring, and the other way round -/
theorem ear_iff {P : Nat → GPt} {r : Nat → Nat} {n k : Nat} {σ : Int} (hσ : σ = 1 ∨ σ = -1) (hn : 3 ≤ n) (hk : k < n) (inj : ∀ i j, i < n → j < n → P (r i) = P (r j) → r i = r j) : EarAt P σ n r k ↔ ge_ear (ge_pl n (fun o => P (r o))) σ (rgS (fun o => P (r o)) k) (rgR (fun o => P (r o)) n k) (P (r ((k + n - 1) % n))) (P (r k)) (P (r ((k + 1) % n))) ((List.range' 1 (n - 3)).map (fun j => P (r ((k + 1 + j) % n)))) := by
  have hsp := rg_split (fun o => P (r o)) hk
  have hrot := rg_rot (fun o => P (r o)) hk
  have hmid := rg_mid (fun j => P (r ((k + 1 + j) % n))) (n - 3)
  rw [show n - 3 + 2 = n - 1 by omega] at hmid
  have e1 : (k + 1 + 0) % n = (k + 1) % n := rfl
  have e2 : (k + 1 + (n - 3 + 1)) % n = (k + n - 1) % n := by congr 1; omega
  rw [e1, e2] at hmid
  have ha : (k + n - 1) % n < n := Nat.mod_lt _ (by omega)
  have hc : (k + 1) % n < n := Nat.mod_lt _ (by omega)
  constructor
  · rintro ⟨h1, h2⟩
    refine ⟨hsp, hrot.trans hmid, h1, fun w hw n1 n2 n3 z => ?_⟩
    obtain ⟨o, ho, rfl⟩ := ge_pl_mem.mp hw
    refine h2 o ho (fun q => n1 (by rw [q])) (fun q => n2 (by rw [q])) (fun q => n3 (by rw [q])) ((tc_sg hσ h1).mp z)
  · rintro ⟨-, -, h1, h2⟩
    refine ⟨h1, fun o ho n1 n2 n3 z => ?_⟩
    refine h2 (P (r o)) (ge_pl_mem.mpr ⟨o, ho, rfl⟩) (fun q => n1 (inj o _ ho ha q)) (fun q => n2 (inj o _ ho hk q)) (fun q => n3 (inj o _ ho hc q)) ((tc_sg hσ h1).mpr z)
/-- in a simple ring there is an ear -/
theorem ear_ex {P : Nat → GPt} {r : Nat → Nat} {n : Nat} {σ : Int} (hσ : σ = 1 ∨ σ = -1) (hn : 3 ≤ n) (hs : ge_simple (ge_pl n (fun o => P (r o)))) (ha : 0 < σ * ge_ar (ge_pl n (fun o => P (r o)))) : ∃ k, k < n ∧ EarAt P σ n r k := by
  have inj : ∀ i j, i < n → j < n → P (r i) = P (r j) → r i = r j := fun i j hi hj e => by rw [pl_inj hs.1 hi hj e]
  obtain ⟨σ', hW, ha', s, rr, a, e, c, mid, he⟩ := ge_orient (by rw [ge_pl_len]; exact hn) hs
  have hσ' : σ' = σ := by
    rcases hσ with rfl | rfl <;> rcases hW.1 with rfl | rfl <;> first | rfl | omega
  subst hσ'
  have hlen := congrArg List.length he.1
  rw [ge_pl_len] at hlen
  simp at hlen
  have hk : s.length < n := by omega
  refine ⟨s.length, hk, ?_⟩
  rw [ear_iff hσ hn hk inj]
  have hsp := rg_split (fun o => P (r o)) hk
  have e0 : rgS (fun o => P (r o)) s.length ++ P (r s.length) :: rgR (fun o => P (r o)) n s.length = s ++ e :: rr := hsp.symm.trans he.1
  obtain ⟨e1, e2⟩ := List.append_inj e0 (by unfold rgS; simp)
  obtain ⟨e3, e4⟩ := List.cons.inj e2
  have hrot := rg_rot (fun o => P (r o)) hk
  have hmid := rg_mid (fun j => P (r ((s.length + 1 + j) % n))) (n - 3)
  rw [show n - 3 + 2 = n - 1 by omega] at hmid
  have f1 : (s.length + 1 + 0) % n = (s.length + 1) % n := rfl
  have f2 : (s.length + 1 + (n - 3 + 1)) % n = (s.length + n - 1) % n := by congr 1; omega
  rw [f1, f2] at hmid
  have g0 := hrot.trans hmid
  rw [e1, e4] at g0 ⊢
  have g1 := g0.symm.trans he.2.1
  obtain ⟨g2, g3⟩ := List.cons.inj g1
  obtain ⟨g4, g5⟩ := List.append_inj' g3 rfl
  have g5 := (List.cons.inj g5).1
  rw [e3, g2, g4, g5]
  exact he
/-- an ear cut off: the rest is simple, and turns the same way -/
theorem ear_cut {P : Nat → GPt} {r : Nat → Nat} {n k : Nat} {σ : Int} (hσ : σ = 1 ∨ σ = -1) (hn : 4 ≤ n) (hk : k < n) (hs : ge_simple (ge_pl n (fun o => P (r o)))) (ha : 0 < σ * ge_ar (ge_pl n (fun o => P (r o)))) (he : EarAt P σ n r k) : ge_simple (ge_pl (n - 1) (fun o => P (rmv r k o))) ∧ 0 < σ * ge_ar (ge_pl (n - 1) (fun o => P (rmv r k o))) := by
  have inj : ∀ i j, i < n → j < n → P (r i) = P (r j) → r i = r j := fun i j hi hj e => by rw [pl_inj hs.1 hi hj e]
  have hg := (ear_iff hσ (by omega) hk inj).mp he
  have hm : (List.range' 1 (n - 3)).map (fun j => P (r ((k + 1 + j) % n))) ≠ [] := by
    intro q
    have := congrArg List.length q
    simp at this
    omega
  have hc := ge_cut_ok hs hσ ha hg hm
  have e := rg_rmv (fun o => P (r o)) hk
  have e2 : ge_pl (n - 1) (fun o => P (rmv r k o)) = rgS (fun o => P (r o)) k ++ rgR (fun o => P (r o)) n k := by
    rw [e]
    unfold ge_pl rmv
    apply List.map_congr_left
    intro o _
    split <;> rfl
  rw [e2]
  exact ⟨hc.1, hc.2.1⟩
