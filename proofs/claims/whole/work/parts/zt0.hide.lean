/-! hidden sets on both sides: the largest independent set -/
def hdG (n : Nat) (r : Nat → Int64) : Prop := n ≤ 64 ∧ ∀ x, x < n → ofP n (r x) ∧ bz (r x) x = true ∧ ∀ y, y < n → bz (r x) y = bz (r y) x
theorem hdG_of {M : ST} {r : Nat → Int64} (h64 : nP M ≤ 64) (h : SR M r) (hi : ∀ p, p < nP M → ge_sees (rL M 141) (pt M p) (pt M p)) : hdG (nP M) r := by
  refine ⟨h64, fun x hx => ⟨fun q hq => ?_, (h x hx x (by omega)).mpr ⟨hx, hi x hx⟩, fun y hy => SR_symm h64 h hx hy⟩⟩
  rcases Nat.lt_or_ge q 64 with z | z
  · exact ((h x hx q z).mp hq).1
  · rw [bz_big z] at hq; cases hq
/-- x without y -/
def wo (x y : Int64) : Int64 := x &&& (y ^^^ (-1))
theorem wo_bz {x y : Int64} {i : Nat} (hi : i < 64) : bz (wo x y) i = (bz x i && !bz y i) := by unfold wo; rw [bz_and, bz_not _ hi]
theorem wo_of {n : Nat} {x y : Int64} (h : ofP n x) : ofP n (wo x y) := fun q hq => by
  unfold wo at hq
  rw [bz_and, Bool.and_eq_true] at hq
  exact h q hq.1
theorem lt64 {x : Int64} {i : Nat} (h : bz x i = true) : i < 64 := by
  rcases Nat.lt_or_ge i 64 with z | z
  · exact z
  · rw [bz_big z] at h; cases h
def IS (r : Nat → Int64) (V : Int64) (s : Nat → Bool) : Prop := ∀ i, i < 64 → s i = true → bz V i = true ∧ ∀ j, j < 64 → s j = true → j ≠ i → bz (r i) j = false
def idp (r : Nat → Int64) (V : Int64) (k : Nat) : Prop := ∃ s, IS r V s ∧ rk s 64 = k
def hmx (r : Nat → Int64) (V : Int64) (k : Nat) : Prop := idp r V k ∧ ∀ j, idp r V j → j ≤ k
theorem hmx_u {r : Nat → Int64} {V : Int64} {k k' : Nat} (h : hmx r V k) (h' : hmx r V k') : k = k' := by
  have := h.2 _ h'.1
  have := h'.2 _ h.1
  omega
theorem rk_no {s : Nat → Bool} : ∀ {m : Nat}, (∀ i, i < m → s i = false) → rk s m = 0
  | 0, _ => rfl
  | m + 1, h => by rw [rk_s, rk_no (fun i hi => h i (by omega)), if_neg (by rw [h m (by omega)]; decide)]
theorem rk_some {s : Nat → Bool} {m : Nat} (h : 0 < rk s m) : ∃ i, i < m ∧ s i = true := by
  obtain ⟨t, t1, t2, -⟩ := rk_ex s h
  exact ⟨t, t1, t2⟩
theorem rk_del {s : Nat → Bool} {p : Nat} : ∀ {m : Nat}, p < m → s p = true → rk (fun i => s i && !decide (i = p)) m + 1 = rk s m
  | 0, h, _ => by omega
  | m + 1, h, hp => by
    rw [rk_s, rk_s]
    by_cases e : p = m
    · subst e
      rw [rk_cong (q := s) (fun i hi => by rw [decide_eq_false (by omega : ¬ i = p), Bool.not_false, Bool.and_true]), if_neg (by rw [decide_eq_true rfl]; simp), if_pos hp]
    · have := rk_del (m := m) (by omega) hp
      rw [decide_eq_false (fun z => e z.symm : ¬ m = p), Bool.not_false, Bool.and_true]
      omega
theorem rk_add {s : Nat → Bool} {p : Nat} : ∀ {m : Nat}, p < m → s p = false → rk (fun i => s i || decide (i = p)) m = rk s m + 1
  | 0, h, _ => by omega
  | m + 1, h, hp => by
    rw [rk_s, rk_s]
    by_cases e : p = m
    · subst e
      rw [rk_cong (q := s) (fun i hi => by rw [decide_eq_false (by omega : ¬ i = p), Bool.or_false]), if_pos (by rw [decide_eq_true rfl, Bool.or_true]), if_neg (by rw [hp]; decide)]
    · have := rk_add (m := m) (by omega) hp
      rw [decide_eq_false (fun z => e z.symm : ¬ m = p), Bool.or_false]
      omega
theorem hmx_ex (r : Nat → Int64) (V : Int64) : ∃ k, hmx r V k := by
  obtain ⟨k, k1, k2, k3⟩ := least_ex (P := fun k => k ≤ 64 ∧ idp r V (64 - k)) 64 ⟨Nat.le_refl _, fun _ => false, fun i _ h => (by cases h), rk_no (fun _ _ => rfl)⟩
  refine ⟨64 - k, k2.2, fun j hj => ?_⟩
  have j64 : j ≤ 64 := by
    obtain ⟨s, -, e⟩ := hj
    rw [← e]; exact rk_le s 64
  apply Classical.byContradiction
  intro hn
  exact k3 (64 - j) (by omega) ⟨by omega, by rw [show 64 - (64 - j) = j by omega]; exact hj⟩
theorem idp_up {r : Nat → Int64} {V W : Int64} {k : Nat} (h : ∀ i, i < 64 → bz V i = true → bz W i = true) (hk : idp r V k) : idp r W k := by
  obtain ⟨s, h1, h2⟩ := hk
  exact ⟨s, fun i hi hs => ⟨h i hi (h1 i hi hs).1, (h1 i hi hs).2⟩, h2⟩
theorem idp_0 {r : Nat → Int64} {k : Nat} (h : idp r 0 k) : k = 0 := by
  obtain ⟨s, h1, h2⟩ := h
  rw [← h2]
  refine rk_no (fun i hi => ?_)
  cases e : s i with
  | false => rfl
  | true => have := (h1 i hi e).1; rw [bz_0] at this; cases this
theorem hmx_0 (r : Nat → Int64) : hmx r 0 0 := by
  obtain ⟨k, hk⟩ := hmx_ex r 0
  rw [idp_0 hk.1] at hk
  exact hk
section Ab
variable {n : Nat} {r : Nat → Int64} {V : Int64}
theorem idp_in (hG : hdG n r) (hV : ofP n V) {u j : Nat} (hu : bz V u = true) (h : idp r (wo V (r u)) j) : idp r V (j + 1) := by
  obtain ⟨s, h1, h2⟩ := h
  have u64 := lt64 hu
  have un := hV u hu
  have su : s u = false := by
    cases e : s u with
    | false => rfl
    | true =>
      have := (h1 u u64 e).1
      rw [wo_bz u64, (hG.2 u un).2.1] at this
      simp at this
  refine ⟨fun i => s i || decide (i = u), fun i hi hs => ?_, by rw [rk_add u64 su, h2]⟩
  have hs' : s i = true ∨ i = u := by simpa using hs
  have far : ∀ j, j < 64 → s j = true → bz V j = true ∧ bz (r u) j = false := fun j hj sj => by
    have := (h1 j hj sj).1
    rw [wo_bz hj] at this
    simpa using this
  rcases hs' with a | a
  · have fi := far i hi a
    refine ⟨fi.1, fun j hj hs2 ne => ?_⟩
    have hs2' : s j = true ∨ j = u := by simpa using hs2
    rcases hs2' with b | b
    · exact (h1 i hi a).2 j hj b ne
    · rw [b, (hG.2 i (hV i fi.1)).2.2 u un]; exact fi.2
  · subst a
    refine ⟨hu, fun j hj hs2 ne => ?_⟩
    have hs2' : s j = true ∨ j = i := by simpa using hs2
    rcases hs2' with b | b
    · exact (far j hj b).2
    · exact absurd b ne
theorem idp_rem {s : Nat → Bool} {u : Nat} (hu : u < 64) (hs : IS r V s) (su : s u = true) : ∃ j, j + 1 = rk s 64 ∧ idp r (wo V (r u)) j := by
  refine ⟨_, rk_del hu su, _, fun i hi h => ?_, rfl⟩
  have h' : s i = true ∧ ¬ i = u := by simpa using h
  have a := hs i hi h'.1
  refine ⟨?_, fun j hj h2 ne => ?_⟩
  · rw [wo_bz hi, a.1, (hs u hu su).2 i hi h'.1 h'.2]; rfl
  · have h2' : s j = true ∧ ¬ j = u := by simpa using h2
    exact a.2 j hj h2'.1 ne
/-- some largest set holds w or one that w sees -/
theorem hmx_br (hG : hdG n r) (hV : ofP n V) {w k : Nat} (hw : bz V w = true) (h : hmx r V k) : ∃ u j, bz (r w) u = true ∧ bz V u = true ∧ j + 1 = k ∧ idp r (wo V (r u)) j := by
  obtain ⟨⟨s, h1, h2⟩, h3⟩ := h
  have w64 := lt64 hw
  have wn := hV w hw
  by_cases c : ∃ u, u < 64 ∧ s u = true ∧ bz (r w) u = true
  · obtain ⟨u, u1, u2, u3⟩ := c
    obtain ⟨j, e, hj⟩ := idp_rem u1 h1 u2
    exact ⟨u, j, u3, (h1 u u1 u2).1, by omega, hj⟩
  · exfalso
    have : idp r V (k + 1) := by
      refine idp_in hG hV hw ⟨s, fun i hi hs => ⟨?_, (h1 i hi hs).2⟩, h2⟩
      rw [wo_bz hi, (h1 i hi hs).1]
      cases e : bz (r w) i with
      | false => rfl
      | true => exact absurd ⟨i, hi, hs, e⟩ c
    have := h3 _ this
    omega
/-- a point that sees all that another sees is not needed -/
theorem hmx_dom (hG : hdG n r) (hV : ofP n V) {p q k : Nat} (hpq : q ≠ p) (hp : bz V p = true) (hq : bz V q = true) (hd : ∀ i, i < 64 → bz (r q) i = true → bz V i = true → bz (r p) i = true) (h : hmx r V k) : hmx r (wo V (bt p)) k := by
  have p64 := lt64 hp
  have q64 := lt64 hq
  have pn' := hV p hp
  have qn := hV q hq
  have sub : ∀ i, i < 64 → bz (wo V (bt p)) i = true → bz V i = true := fun i hi h => by rw [wo_bz hi, Bool.and_eq_true] at h; exact h.1
  refine ⟨?_, fun j hj => h.2 j (idp_up sub hj)⟩
  obtain ⟨⟨s, h1, h2⟩, -⟩ := h
  have inW : ∀ i, i < 64 → bz V i = true → i ≠ p → bz (wo V (bt p)) i = true := fun i hi a b => by
    rw [wo_bz hi, a, bt_bz p64, decide_eq_false b]; rfl
  cases sp : s p with
  | false =>
    refine ⟨s, fun i hi hs => ⟨inW i hi (h1 i hi hs).1 (fun z => ?_), (h1 i hi hs).2⟩, h2⟩
    rw [z, sp] at hs; cases hs
  | true =>
    have pq : bz (r p) q = true := hd q q64 (hG.2 q qn).2.1 hq
    have sq : s q = false := by
      cases e : s q with
      | false => rfl
      | true => rw [(h1 p p64 sp).2 q q64 e hpq] at pq; cases pq
    have far : ∀ i, i < 64 → s i = true → i ≠ p → bz (r q) i = false := fun i hi hs ne => by
      cases e : bz (r q) i with
      | false => rfl
      | true =>
        have a := hd i hi e (h1 i hi hs).1
        rw [(h1 p p64 sp).2 i hi hs ne] at a; cases a
    refine ⟨fun i => (s i && !decide (i = p)) || decide (i = q), fun i hi hs => ?_, ?_⟩
    · have hs' : (s i = true ∧ ¬ i = p) ∨ i = q := by simpa using hs
      rcases hs' with a | a
      · refine ⟨inW i hi (h1 i hi a.1).1 a.2, fun j hj hs2 ne => ?_⟩
        have hs2' : (s j = true ∧ ¬ j = p) ∨ j = q := by simpa using hs2
        rcases hs2' with b | b
        · exact (h1 i hi a.1).2 j hj b.1 ne
        · rw [b, (hG.2 i (hV i (h1 i hi a.1).1)).2.2 q qn]; exact far i hi a.1 a.2
      · subst a
        refine ⟨inW i hi hq hpq, fun j hj hs2 ne => ?_⟩
        have hs2' : (s j = true ∧ ¬ j = p) ∨ j = i := by simpa using hs2
        rcases hs2' with b | b
        · exact far j hj b.1 b.2
        · exact absurd b ne
    · rw [rk_add q64 (by rw [sq]; rfl), rk_del p64 sp, h2]
/-- a group of points that see one another holds at most one of a set -/
theorem idp_grp {W : Int64} (hs : ∀ i, i < 64 → bz W i = true → bz V i = true) (hc : ∀ x y, bz V x = true → bz W x = false → bz V y = true → bz W y = false → bz (r x) y = true) {k : Nat} (h : idp r V k) : ∃ j, k ≤ j + 1 ∧ idp r W j := by
  obtain ⟨s, h1, h2⟩ := h
  by_cases c : ∃ i, i < 64 ∧ s i = true ∧ bz W i = false
  · obtain ⟨p, p1, p2, p3⟩ := c
    refine ⟨rk (fun i => s i && !decide (i = p)) 64, by rw [← h2, ← rk_del p1 p2]; exact Nat.le_refl _, _, fun i hi h => ?_, rfl⟩
    have h' : s i = true ∧ ¬ i = p := by simpa using h
    have a := h1 i hi h'.1
    refine ⟨?_, fun j hj h2 ne => ?_⟩
    · cases e : bz W i with
      | true => rfl
      | false =>
        have := hc p i (h1 p p1 p2).1 p3 a.1 e
        rw [(h1 p p1 p2).2 i hi h'.1 h'.2] at this; cases this
    · have h2' : s j = true ∧ ¬ j = p := by simpa using h2
      exact a.2 j hj h2'.1 ne
  · refine ⟨k, by omega, s, fun i hi hs2 => ⟨?_, (h1 i hi hs2).2⟩, h2⟩
    cases e : bz W i with
    | true => rfl
    | false => exact absurd ⟨i, hi, hs2, e⟩ c
end Ab
section Cw
variable {S M : ST} {n : Nat}
/-- the class: may p be left out -/
theorem F87_so {V : Int64} {p : Nat} (hp : p < 64) : ∃ b, F_87 (nJ p) V S = some b ∧ (b = true → ∃ q, q < 64 ∧ q ≠ p ∧ bz V q = true ∧ ∀ i, i < 64 → bz (S.2 31 q) i = true → bz V i = true → bz (S.2 31 p) i = true) := by
  have key : ∃ z, wh FU (L_87_3 (nJ p) V S) (nJ 0) = some z ∧ ∃ b, Sum.elim (fun _ => some false) (fun o => some o) z = some b ∧ (b = true → ∃ q, q < 64 ∧ q ≠ p ∧ bz V q = true ∧ ∀ i, i < 64 → bz (S.2 31 q) i = true → bz V i = true → bz (S.2 31 p) i = true) := by
    refine wh_inv (I := fun m x => ∃ i, i + m = 64 ∧ x = nJ i) ?_ FU 64 _ (FU_lt (by omega)) ⟨0, rfl, rfl⟩
    rintro m x ⟨i, hi, rfl⟩
    unfold L_87_3
    by_cases c : i < 64
    · rw [if_pos (show nJ i < 64 from (nJ_lt (j := 64) (by omega) (by omega)).mpr c)]
      have go : ∃ a' m', m' < m ∧ some (Sum.inl (nJ i + 1) : Int32 ⊕ (Int32 ⊕ Bool)) = some (.inl a') ∧ ∃ i, i + m' = 64 ∧ a' = nJ i := ⟨_, m - 1, by omega, rfl, i + 1, by omega, nJ_succ i⟩
      by_cases e : i = p
      · rw [if_pos (by rw [e])]; exact Or.inl go
      · rw [if_neg (fun z => e ((nJ_eq (by omega) (by omega)).mp z)), has177 V c]
        by_cases v : bz V i = true
        · rw [if_pos v, F73_eq S c, ob_s, F73_eq S hp, ob_s]
          by_cases d : (S.2 31 i &&& V) &&& (S.2 31 p ^^^ (-1)) = 0
          · rw [if_pos d]
            refine Or.inr ⟨_, rfl, true, rfl, fun _ => ⟨i, c, e, v, fun q hq a b => and_not0.mp d q hq (by rw [bz_and, a, b]; rfl)⟩⟩
          · rw [if_neg d]; exact Or.inl go
        · rw [if_neg v]; exact Or.inl go
    · rw [if_neg (show ¬ nJ i < 64 from fun z => c ((nJ_lt (j := 64) (by omega) (by omega)).mp z))]
      exact Or.inr ⟨_, rfl, false, rfl, fun z => by cases z⟩
  obtain ⟨z, e, b, e2, w⟩ := key
  refine ⟨b, ?_, w⟩
  unfold F_87
  rw [show (0 : Int32) = nJ 0 from rfl, e, ob_s]
  exact e2
theorem F86_eq (hG : hdG n (S.2 31)) {V : Int64} {k : Nat} (hV : ofP n V) (hk : hmx (S.2 31) V k) : ∃ V', F_86 V S = some V' ∧ ofP n V' ∧ hmx (S.2 31) V' k ∧ ∀ i, i < 64 → bz V' i = true → bz V i = true := by
  have key : ∃ z, wh FU (L_86_5 V S) (V, nJ 0) = some z ∧ ofP n z.1 ∧ hmx (S.2 31) z.1 k ∧ ∀ i, i < 64 → bz z.1 i = true → bz V i = true := by
    refine wh_inv (I := fun m x => ∃ i, i + m = 64 ∧ x.2 = nJ i ∧ ofP n x.1 ∧ hmx (S.2 31) x.1 k ∧ ∀ i, i < 64 → bz x.1 i = true → bz V i = true) ?_ FU 64 _ (FU_lt (by omega)) ⟨0, rfl, rfl, hV, hk, fun _ _ h => h⟩
    rintro m ⟨W, y⟩ ⟨i, hi, rfl, h1, h2, h3⟩
    unfold L_86_5
    dsimp only
    by_cases c : i < 64
    · rw [if_pos (show nJ i < 64 from (nJ_lt (j := 64) (by omega) (by omega)).mpr c), has177 W c, nJ_succ]
      by_cases v : bz W i = true
      · rw [if_pos v]
        obtain ⟨b, eb, sb⟩ := F87_so (S := S) (V := W) c
        rw [eb, ob_s]
        by_cases t : b = true
        · rw [if_pos t]
          obtain ⟨q, q1, q2, q3, q4⟩ := sb t
          refine Or.inl ⟨_, m - 1, by omega, rfl, i + 1, by omega, rfl, wo_of h1, hmx_dom hG h1 q2 v q3 q4 h2, fun j hj a => h3 j hj ?_⟩
          have a' : bz (wo W (bt i)) j = true := a
          rw [wo_bz hj, Bool.and_eq_true] at a'
          exact a'.1
        · rw [if_neg t]
          exact Or.inl ⟨_, m - 1, by omega, rfl, i + 1, by omega, rfl, h1, h2, h3⟩
      · rw [if_neg v]
        exact Or.inl ⟨_, m - 1, by omega, rfl, i + 1, by omega, rfl, h1, h2, h3⟩
    · rw [if_neg (show ¬ nJ i < 64 from fun z => c ((nJ_lt (j := 64) (by omega) (by omega)).mp z))]
      exact Or.inr ⟨_, rfl, h1, h2, h3⟩
  obtain ⟨z, e, w⟩ := key
  refine ⟨z.1, ?_, w⟩
  unfold F_86
  rw [show (0 : Int32) = nJ 0 from rfl, e, ob_s]
theorem F88_eq {V : Int64} (h0 : ¬ V = 0) : ∃ w, F_88 V S = some (nJ w) ∧ w < 64 ∧ bz V w = true := by
  have key : ∃ z, wh FU (L_88_9 V S) (-1, nJ 65, nJ 0) = some z ∧ ∃ w, z.1 = nJ w ∧ w < 64 ∧ bz V w = true := by
    refine wh_inv (I := fun m x => ∃ i, i + m = 64 ∧ x.2.2 = nJ i ∧ ((x.2.1 = nJ 65 ∧ ∀ j, j < i → bz V j = false) ∨ (∃ c, c ≤ 64 ∧ x.2.1 = nJ c) ∧ ∃ w, x.1 = nJ w ∧ w < 64 ∧ bz V w = true)) ?_ FU 64 _ (FU_lt (by omega)) ⟨0, rfl, rfl, Or.inl ⟨rfl, fun j hj => by omega⟩⟩
    rintro m ⟨y1, y2, y3⟩ ⟨i, hi, rfl, hc⟩
    unfold L_88_9
    dsimp only at hc ⊢
    by_cases c : i < 64
    · rw [if_pos (show nJ i < 64 from (nJ_lt (j := 64) (by omega) (by omega)).mpr c), has177 V c, nJ_succ]
      by_cases v : bz V i = true
      · rw [if_pos v, F73_eq S c, ob_s, ob_s, F366_t]
        have p64 := pn_le (S.2 31 i &&& V)
        generalize pn (S.2 31 i &&& V) = pc at p64 ⊢
        by_cases l : nJ pc < y2
        · rw [if_pos l]
          exact Or.inl ⟨_, m - 1, by omega, rfl, i + 1, by omega, rfl, Or.inr ⟨⟨_, p64, rfl⟩, i, rfl, c, v⟩⟩
        · rw [if_neg l]
          refine Or.inl ⟨_, m - 1, by omega, rfl, i + 1, by omega, rfl, Or.inr ?_⟩
          rcases hc with ⟨a, b⟩ | a
          · rw [a] at l
            exact absurd ((nJ_lt (by omega) (by omega)).mpr (by omega)) l
          · exact a
      · rw [if_neg v]
        refine Or.inl ⟨_, m - 1, by omega, rfl, i + 1, by omega, rfl, ?_⟩
        rcases hc with ⟨a, b⟩ | a
        · refine Or.inl ⟨a, fun j hj => ?_⟩
          by_cases d : j = i
          · rw [d]; exact Bool.eq_false_iff.mpr v
          · exact b j (by omega)
        · exact Or.inr a
    · rw [if_neg (show ¬ nJ i < 64 from fun z => c ((nJ_lt (j := 64) (by omega) (by omega)).mp z))]
      refine Or.inr ⟨_, rfl, ?_⟩
      rcases hc with ⟨a, b⟩ | ⟨-, a⟩
      · exact absurd (bz_ext (fun j hj => by rw [b j (by omega), bz_0])) h0
      · exact a
  obtain ⟨z, e, w, ew, w2⟩ := key
  refine ⟨w, ?_, w2⟩
  unfold F_88
  rw [show ((-1 : Int32), (65 : Int32), (0 : Int32)) = (-1, nJ 65, nJ 0) from rfl, e, ob_s, ew]
theorem F85_eq (hG : hdG n (S.2 31)) : ∀ (fl d k : Nat) (V : Int64), ofP n V → hmx (S.2 31) V k → k + d ≤ 12 → k < fl → F_85 fl V (nJ d) S = some (nJ k) := by
  intro fl
  induction fl with
  | zero => intro d k V _ _ _ h; omega
  | succ fl ih =>
    intro d k V hV hk hd hf
    show B_85 (F_85 fl) V (nJ d) S = _
    unfold B_85
    by_cases h0 : V = 0
    · rw [if_pos h0]
      subst h0
      rw [hmx_u hk (hmx_0 _)]
      rfl
    · have k1 : 1 ≤ k := by
        obtain ⟨i, hi⟩ : ∃ i, bz V i = true := by
          have := low_ok h0
          exact ⟨_, this.2⟩
        obtain ⟨j, hj⟩ := hmx_ex (S.2 31) (wo V (S.2 31 i))
        have := hk.2 _ (idp_in hG hV hi hj.1)
        omega
      rw [if_neg h0, if_pos (show nJ d < 12 from (nJ_lt (j := 12) (by omega) (by omega)).mpr (by omega))]
      obtain ⟨V', e1, v1, v2, v3⟩ := F86_eq hG hV hk
      rw [e1, ob_s]
      have h0' : ¬ V' = 0 := fun z => by
        rw [z] at v2
        have := hmx_u v2 (hmx_0 _)
        omega
      obtain ⟨w, e2, w1, w2⟩ := F88_eq (S := S) h0'
      rw [e2, ob_s, F73_eq S w1, ob_s]
      obtain ⟨u0, j0, u1, u2, u3, u4⟩ := hmx_br hG v1 w2 v2
      have key : ∃ z, wh FU (L_85_45 (F_85 fl) V (nJ d) V' (S.2 31 w &&& V') S) (nJ 0, nJ 0) = some z ∧ z.1 = nJ k := by
        refine wh_inv (I := fun m x => ∃ i b, i + m = 64 ∧ x = (nJ b, nJ i) ∧ b ≤ k ∧ (u0 < i → k ≤ b)) ?_ FU 64 _ (FU_lt (by omega)) ⟨0, 0, rfl, rfl, by omega, fun z => by omega⟩
        rintro m x ⟨i, b, hi, rfl, b1, b2⟩
        unfold L_85_45
        dsimp only
        by_cases c : i < 64
        · rw [if_pos (show nJ i < 64 from (nJ_lt (j := 64) (by omega) (by omega)).mpr c), has177 _ c, nJ_succ i]
          by_cases o : bz (S.2 31 w &&& V') i = true
          · have o' := o
            rw [bz_and, Bool.and_eq_true] at o'
            rw [if_pos o, F73_eq S c, ob_s]
            obtain ⟨j, hj⟩ := hmx_ex (S.2 31) (wo V' (S.2 31 i))
            have j1 := v2.2 _ (idp_in hG v1 o'.2 hj.1)
            rw [nJ_succ, show V' &&& (S.2 31 i ^^^ (-1)) = wo V' (S.2 31 i) from rfl, ih (d + 1) j _ (wo_of v1) hj (by omega) (by omega), ob_s]
            refine Or.inl ⟨_, m - 1, by omega, rfl, i + 1, if b < 1 + j then 1 + j else b, by omega, ?_, by split <;> omega, fun z => ?_⟩
            · rw [show (1 : Int32) + nJ j = nJ (1 + j) by rw [Nat.add_comm, ← nJ_succ, Int32.add_comm]]
              by_cases l : b < 1 + j
              · rw [if_pos ((nJ_lt (by omega) (by omega)).mpr l), if_pos l]
              · rw [if_neg (fun y => l ((nJ_lt (by omega) (by omega)).mp y)), if_neg l]
            · by_cases q : u0 = i
              · rw [q] at u4
                have := hj.2 _ u4
                split <;> omega
              · have := b2 (by omega)
                split <;> omega
          · rw [if_neg o]
            refine Or.inl ⟨_, m - 1, by omega, rfl, i + 1, b, by omega, rfl, b1, fun z => ?_⟩
            by_cases q : u0 = i
            · rw [bz_and, ← q, u1, u2] at o
              exact absurd rfl o
            · exact b2 (by omega)
        · rw [if_neg (show ¬ nJ i < 64 from fun z => c ((nJ_lt (j := 64) (by omega) (by omega)).mp z))]
          have := b2 (by have := lt64 u2; omega)
          exact Or.inr ⟨_, rfl, by rw [show b = k by omega]⟩
      obtain ⟨z, e, ez⟩ := key
      rw [show ((0 : Int32), (0 : Int32)) = (nJ 0, nJ 0) from rfl, e, ob_s, ez]
end Cw
