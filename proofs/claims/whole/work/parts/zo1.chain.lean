/-! sight by way points; by steps of a chain -/
theorem sg_find {f : Nat → Int} {R : Int} : ∀ n : Nat, 0 < n → f 0 ≤ R → R ≤ f n → ∃ j, j < n ∧ f j ≤ R ∧ R ≤ f (j + 1) := by
  intro n
  induction n with
  | zero => intro h; omega
  | succ n ih =>
    intro _ h0 hN
    by_cases q : f n ≤ R
    · exact ⟨n, by omega, q, hN⟩
    · by_cases hn : n = 0
      · subst hn; omega
      · obtain ⟨j, j1, j2, j3⟩ := ih (by omega) h0 (by omega)
        exact ⟨j, by omega, j2, j3⟩
theorem sg_ways {l : List GPt} {p q : GPt} (hpq : p ≠ q) (hne : ∀ u v : GPt, ge_adj l u v → u ≠ v) (h2 : 2 ≤ l.length) (hx : ∀ u v : GPt, ge_adj l u v → ¬ ge_x u v p q) (hp : ge_cl 1 l p) (hq : ge_cl 1 l q) (n : Nat) (W : Nat → GPt) (hn : 0 < n) (h0 : W 0 = p) (hN : W n = q) (hon : ∀ j, j ≤ n → ge_on p q (W j)) (hs : ∀ j, j < n → sgp p q (W j) ≤ sgp p q (W (j + 1))) (hv : ∀ j, 0 < j → j < n → W j ∈ l) (hall : ∀ v ∈ l, ge_on p q v → ∃ j, j ≤ n ∧ W j = v) (hm : ∀ j, j < n → ge_cl 2 l ((W j).1 + (W (j + 1)).1, (W j).2 + (W (j + 1)).2)) : ge_sees l p q := by
  refine ⟨hx, fun k hk r hr => ?_⟩
  have mono : ∀ j, j ≤ n → ∀ i, i ≤ j → sgp p q (W i) ≤ sgp p q (W j) := by
    intro j
    induction j with
    | zero => intro _ i hi; rw [show i = 0 by omega]; exact Int.le_refl _
    | succ j ih =>
      intro hj i hi
      by_cases e : i = j + 1
      · rw [e]; exact Int.le_refl _
      · exact Int.le_trans (ih (by omega) i (by omega)) (hs j (by omega))
  have wcl : ∀ j, j ≤ n → ge_cl k l (ge_s k (W j)) := fun j hj => by
    by_cases e : j = 0
    · rw [e, h0]; exact (cl_s hk).mpr hp
    · by_cases e2 : j = n
      · rw [e2, hN]; exact (cl_s hk).mpr hq
      · exact ge_cl_v h2 (hv j (by omega) (by omega))
  by_cases hit : ∃ j, j ≤ n ∧ r = ge_s k (W j)
  · obtain ⟨j, hj, e⟩ := hit
    rw [e]; exact wcl j hj
  · have nk := sg_ne_s hk hpq
    have sr := sg_in nk hr
    have pos : ∀ z, sgp (ge_s k p) (ge_s k q) (ge_s k z) = k * (k * sgp p q z) := fun z => sg_pp_s k p q z
    obtain ⟨j, j1, j2, j3⟩ := sg_find (f := fun j => sgp (ge_s k p) (ge_s k q) (ge_s k (W j))) (R := sgp (ge_s k p) (ge_s k q) r) n hn (by
      show sgp (ge_s k p) (ge_s k q) (ge_s k (W 0)) ≤ _
      rw [h0, sg_u]; exact sr.1) (by
      show _ ≤ sgp (ge_s k p) (ge_s k q) (ge_s k (W n))
      rw [hN]; exact sr.2)
    have c1 := hon j (by omega)
    have c2 := hon (j + 1) (by omega)
    have d1 := (ge_on_s hk _ _ _).mpr c1
    have d2 := (ge_on_s hk _ _ _).mpr c2
    have r1 : r ≠ ge_s k (W j) := fun e => hit ⟨j, by omega, e⟩
    have r2 : r ≠ ge_s k (W (j + 1)) := fun e => hit ⟨j + 1, by omega, e⟩
    have ron : ge_on (ge_s k (W j)) (ge_s k (W (j + 1))) r := (sg_on nk d1.1 d2.1 hr.1).mpr (btw_nn j2 j3)
    have hww : W j ≠ W (j + 1) := fun e => by
      rw [e] at ron
      exact r2 (ge_on_pp ron)
    refine sg_free hpq hww c1 c2 hne hx (fun v hv' ho => ?_) (hm j j1) hk ron r1 r2
    have pv := sg_tr hpq c1 c2 ho
    obtain ⟨i, i1, i2⟩ := hall v hv' pv
    have bt := (sg_on hpq c1.1 c2.1 pv.1).mp ho
    have le := hs j j1
    have sv : sgp p q (W j) ≤ sgp p q v ∧ sgp p q v ≤ sgp p q (W (j + 1)) := by
      rcases ge_btw bt with z | z <;> omega
    rcases Nat.lt_or_ge j i with z | z
    · have := mono i i1 (j + 1) (by omega)
      rw [i2] at this
      exact Or.inr (sg_inj hpq pv.1 c2.1 (by omega))
    · have := mono j (by omega) i (by omega)
      rw [i2] at this
      exact Or.inl (sg_inj hpq pv.1 c1.1 (by omega))
theorem sg_sub {l : List GPt} {p q w w' : GPt} (hpq : p ≠ q) (h : ge_sees l p q) (hw : ge_on p q w) (hw' : ge_on p q w') : ge_sees l w w' :=
  ⟨fun u v huv z => h.1 u v huv (sg_xp hpq hw hw' z), fun k hk r hr => h.2 k hk r (sg_tr (sg_ne_s hk hpq) ((ge_on_s hk _ _ _).mpr hw) ((ge_on_s hk _ _ _).mpr hw') hr)⟩
theorem sg_split : ∀ (l : List GPt) (a c : GPt), (a, c) ∈ ge_ed l → ∃ s t, l = s ++ a :: c :: t
  | [], a, c, h => nomatch h
  | [_], a, c, h => nomatch h
  | x :: y :: r, a, c, h => by
    rcases List.mem_cons.mp h with q | q
    · cases q; exact ⟨[], r, rfl⟩
    · obtain ⟨s, t, e⟩ := sg_split (y :: r) a c q
      exact ⟨x :: s, t, by rw [e]; rfl⟩
theorem sg_rot {l : List GPt} (h3 : 3 ≤ l.length) {u v : GPt} (h : (u, v) ∈ ge_E l) : ∃ s r mid, l = s ++ r ∧ r ++ s = v :: (mid ++ [u]) ∧ mid ≠ [] := by
  match l, h3, h with
  | g0 :: t0, h3, h =>
    obtain ⟨s, t, e⟩ := sg_split _ u v h
    have e : (g0 :: t0) ++ [g0] = s ++ u :: v :: t := e
    rcases List.eq_nil_or_concat t with q | ⟨t', y, q⟩
    · subst q
      have e1 : (g0 :: t0) ++ [g0] = (s ++ [u]) ++ [v] := by rw [e]; simp
      obtain ⟨e2, e3⟩ := List.append_inj' e1 rfl
      cases e3
      match s, e2 with
      | [], e2 => simp at e2; rw [e2.2] at h3; simp at h3
      | g1 :: mid, e2 =>
        have e4 : v = g1 := by simpa using (List.cons.inj e2).1
        refine ⟨[], v :: t0, mid, rfl, ?_, ?_⟩
        · rw [List.append_nil, e2, e4]; rfl
        · intro hm
          subst hm
          have := congrArg List.length e2
          simp at this h3
          omega
    · rw [List.concat_eq_append] at q
      subst q
      have e1 : (g0 :: t0) ++ [g0] = (s ++ u :: v :: t') ++ [y] := by rw [e]; simp
      obtain ⟨e2, -⟩ := List.append_inj' e1 rfl
      refine ⟨s ++ [u], v :: t', t' ++ s, by rw [e2]; simp, by simp, ?_⟩
      intro hm
      have h1 := List.append_eq_nil_iff.mp hm
      rw [h1.1, h1.2] at e2
      rw [e2] at h3
      simp at h3
theorem sg_cross0 {l : List GPt} {a c w s : GPt} {mid : List GPt} (hl : ge_eqv l (c :: (mid ++ [a]))) (hs : ge_simple (c :: (mid ++ [a]))) (hm : mid ≠ []) (hw : ge_on a c w) (na : w ≠ a) (nc : w ≠ c) (hτ : 0 < ge_o c a (w.1 + s.1, w.2 + s.2)) (h1 : ∀ k : Int, 0 < k → ∀ r : GPt, ge_on (ge_s k w) (ge_s k (w.1 + s.1, w.2 + s.2)) r → ge_cl k l r) (h2 : ∀ k : Int, 0 < k → ∀ r : GPt, ge_on (ge_s k w) (ge_s k (w.1 - s.1, w.2 - s.2)) r → ge_cl k l r) : False := by
  have hlen : 2 ≤ (c :: (mid ++ [a])).length := by simp
  have hne := ge_adj_ne hs.1 hlen
  have ac : ge_adj (c :: (mid ++ [a])) a c := Or.inl (by rw [ge_E_cut]; simp)
  have nac := hne _ _ ac
  have oc : ge_o c a w = 0 := by
    have := ge_o_swap a c w
    rw [hw.1] at this
    omega
  obtain ⟨b, hb⟩ : ∃ b : GPt, b = (a.1 + (c.2 - a.2), a.2 - (c.1 - a.1)) := ⟨_, rfl⟩
  have hF : 0 < ge_o a b c := by
    have e : ge_o a b c = sgp a c c := by rw [hb]; unfold ge_o sgp; grind
    rw [e]; exact sg_E nac
  have cyc := ge_C_cyc a b c
  have n1 : ¬ ge_on a b w := fun z => na (ge_C_x0 hF z.1 oc)
  have n2 : ¬ ge_on b c w := fun z => nc (ge_C_x0 (a := c) (b := a) (c := b) (by rw [cyc.2]; exact hF) oc z.1)
  have nd := hs.1
  have n3 : ∀ e ∈ ge_ed (c :: (mid ++ [a])), ¬ ge_on e.1 e.2 w := by
    intro e he z
    obtain ⟨e1, e2⟩ := e
    obtain ⟨s', t', es⟩ := sg_split _ e1 e2 he
    have hd : ¬ ((a = e1 ∧ c = e2) ∨ (a = e2 ∧ c = e1)) := by
      rintro (⟨q1, q2⟩ | ⟨q1, q2⟩)
      · subst q1 q2
        match s', es with
        | [], es => exact nac (List.cons.inj es).1.symm
        | y :: s', es =>
          have ey := (List.cons.inj es).1
          have nd' := (List.nodup_cons.mp nd).1
          rw [(List.cons.inj es).2] at nd'
          exact nd' (by simp)
      · subst q1 q2
        match s', es with
        | [], es =>
          have e4 : mid ++ [a] = a :: t' := (List.cons.inj es).2
          match mid, hm, e4 with
          | y :: m, _, e4 =>
            have ey : y = a := (List.cons.inj e4).1
            have nd' := (List.nodup_cons.mp (List.nodup_cons.mp nd).2).1
            exact nd' (by rw [ey]; simp)
        | y :: s', es =>
          have nd' := (List.nodup_cons.mp nd).1
          rw [(List.cons.inj es).2] at nd'
          exact nd' (by simp)
    have g : ge_adj (c :: (mid ++ [a])) e1 e2 := Or.inl (by rw [ge_E_cut]; exact List.mem_append_left _ he)
    rcases (ge_touch hs hne ac g hd hw z).1 with q | q
    · exact na q
    · exact nc q
  have off : ge_off (b :: c :: (mid ++ [a])) w := ge_C_off n1 n2 n3
  -- w lies inside ac
  obtain ⟨i, j, wt⟩ := ge_on_wt nac hw
  have pi : 0 < i := by
    rcases Int.lt_or_eq_of_le wt.1 with q | q
    · exact q
    · rw [← q] at wt; exact absurd (ge_wt_0 (ge_wt_swap wt)) nc
  have pj : 0 < j := by
    rcases Int.lt_or_eq_of_le wt.2.1 with q | q
    · exact q
    · rw [← q] at wt; exact absurd (ge_wt_0 wt) na
  have ow1 : 0 < ge_o a b w := by
    have q := ge_wt_o wt a b
    have z := (ge_C_zz a b).1
    rw [z, Int.mul_zero, Int.zero_add] at q
    exact ge_pos wt.2.2.1 (by rw [q]; exact Int.mul_pos pj hF)
  have ow2 : 0 < ge_o b c w := by
    have q := ge_wt_o wt b c
    have z := (ge_C_zz b c).2
    rw [z, Int.mul_zero, Int.add_zero, cyc.1] at q
    exact ge_pos wt.2.2.1 (by rw [q]; exact Int.mul_pos pi hF)
  obtain ⟨K1, k1⟩ := ge_epsL w s (ge_E (b :: c :: (mid ++ [a]))) off
  obtain ⟨K2, k2⟩ := ge_epsL w (-s.1, -s.2) (ge_E (b :: c :: (mid ++ [a]))) off
  obtain ⟨A1, A10, -, A1h⟩ := ge_abs_ge K1
  obtain ⟨A2, A20, -, A2h⟩ := ge_abs_ge K2
  obtain ⟨A3, A30, A3h, -⟩ := ge_abs_ge ((b.1 - a.1) * s.2 - (b.2 - a.2) * s.1)
  obtain ⟨A4, A40, A4h, -⟩ := ge_abs_ge ((c.1 - b.1) * s.2 - (c.2 - b.2) * s.1)
  obtain ⟨K, hK⟩ : ∃ K : Int, K = 2 + A1 + A2 + A3 + A4 := ⟨_, rfl⟩
  have pK : 0 < K := by omega
  have m1 := k1 K (by omega) pK
  have m2 := k2 K (by omega) pK
  have tau : ge_o c a (w.1 + s.1, w.2 + s.2) = (a.1 - c.1) * s.2 - (a.2 - c.2) * s.1 := by
    have : ge_o c a (w.1 + s.1, w.2 + s.2) = ge_o c a w + ((a.1 - c.1) * s.2 - (a.2 - c.2) * s.1) := by unfold ge_o; grind
    rw [this, oc, Int.zero_add]
  have q1 : 0 < ge_o (ge_s K a) (ge_s K b) (ge_mvd K w s) := by rw [ge_mvd_o]; exact ge_big ow1 pK (by omega)
  have q2 : 0 < ge_o (ge_s K b) (ge_s K c) (ge_mvd K w s) := by rw [ge_mvd_o]; exact ge_big ow2 pK (by omega)
  have q3 : 0 < ge_o (ge_s K c) (ge_s K a) (ge_mvd K w s) := by
    rw [ge_mvd_o, oc, ← tau, Int.mul_zero, Int.zero_add]
    exact Int.mul_pos pK hτ
  have q4 : ge_o (ge_s K c) (ge_s K a) (ge_mvd K w (-s.1, -s.2)) < 0 := by
    rw [ge_mvd_o, oc, Int.mul_zero, Int.zero_add, show (a.1 - c.1) * -s.2 - (a.2 - c.2) * -s.1 = -((a.1 - c.1) * s.2 - (a.2 - c.2) * s.1) by grind, ← tau, Int.mul_neg]
    have := Int.mul_pos pK hτ
    omega
  have memab : (a, b) ∈ ge_E (b :: c :: (mid ++ [a])) := by rw [ge_E_ear]; simp
  have membc : (b, c) ∈ ge_E (b :: c :: (mid ++ [a])) := by rw [ge_E_ear]; simp
  have noton : ∀ {P : GPt}, (∀ e ∈ ge_E (b :: c :: (mid ++ [a])), ¬ ge_meet (ge_s K e.1) (ge_s K e.2) (ge_s K w) P) → ∀ e ∈ ge_E (b :: c :: (mid ++ [a])), ¬ ge_on (ge_s K e.1) (ge_s K e.2) P := fun h e he z => h e he (Or.inr (Or.inl z))
  have hFK : 0 < ge_o (ge_s K a) (ge_s K b) (ge_s K c) := by rw [ge_o_s]; exact Int.mul_pos (Int.mul_pos pK pK) hF
  have tp1 : ge_tp (ge_s K a) (ge_s K b) (ge_s K c) (ge_mvd K w s) = true := (ge_tri hFK (noton m1 _ memab) (noton m1 _ membc) (fun z => by have := z.1; omega)).mpr ⟨q1, q2, q3⟩
  have tp2 : ge_tp (ge_s K a) (ge_s K b) (ge_s K c) (ge_mvd K w (-s.1, -s.2)) = false := by
    rw [← Bool.not_eq_true, ge_tri hFK (noton m2 _ memab) (noton m2 _ membc) (fun z => by have := z.1; omega)]
    intro z
    have := z.2.2
    omega
  have mv : ∀ {P : GPt}, (∀ e ∈ ge_E (b :: c :: (mid ++ [a])), ¬ ge_meet (ge_s K e.1) (ge_s K e.2) (ge_s K w) P) → ge_par (ge_S K (b :: c :: (mid ++ [a]))) (ge_s K w) = ge_par (ge_S K (b :: c :: (mid ++ [a]))) P := fun h => by
    refine ge_par_mv (fun e he => ?_)
    rw [ge_E_S] at he
    obtain ⟨f, hf, rfl⟩ := List.mem_map.mp he
    exact h f hf
  have pe := (mv m1).symm.trans (mv m2)
  rw [ge_S_ear, ge_par_ear, ge_par_ear, tp1, tp2, ← ge_S_cut] at pe
  have clo : ∀ {P : GPt}, (∀ e ∈ ge_E (b :: c :: (mid ++ [a])), ¬ ge_meet (ge_s K e.1) (ge_s K e.2) (ge_s K w) P) → ge_o (ge_s K c) (ge_s K a) P ≠ 0 → ge_cl K l P → ge_par (ge_S K (c :: (mid ++ [a]))) P = true := fun {P} h ho hc => by
    refine (ge_eqv_cl hl).mp hc ?_
    intro e he
    rw [ge_E_S] at he
    obtain ⟨f, hf, rfl⟩ := List.mem_map.mp he
    rw [ge_E_cut] at hf
    rcases List.mem_append.mp hf with z | z
    · exact noton h f (by rw [ge_E_ear]; exact List.mem_cons_of_mem _ (List.mem_append_left _ z))
    · rw [List.mem_singleton] at z
      subst z
      intro y
      have := ge_o_swap (ge_s K a) (ge_s K c) P
      have y1 : ge_o (ge_s K a) (ge_s K c) P = 0 := y.1
      apply ho
      omega
  have on : ∀ t : GPt, ge_on (ge_s K w) (ge_s K (w.1 + t.1, w.2 + t.2)) (ge_mvd K w t) := fun t => by
    refine ⟨by unfold ge_o ge_s ge_mvd; grind, ?_, ?_⟩
    · have e : ((ge_mvd K w t).1 - (ge_s K w).1) * ((ge_mvd K w t).1 - (ge_s K (w.1 + t.1, w.2 + t.2)).1) = -((K - 1) * (t.1 * t.1)) := by unfold ge_s ge_mvd; grind
      rw [e]
      have := Int.mul_nonneg (show 0 ≤ K - 1 by omega) (ge_sq t.1)
      omega
    · have e : ((ge_mvd K w t).2 - (ge_s K w).2) * ((ge_mvd K w t).2 - (ge_s K (w.1 + t.1, w.2 + t.2)).2) = -((K - 1) * (t.2 * t.2)) := by unfold ge_s ge_mvd; grind
      rw [e]
      have := Int.mul_nonneg (show 0 ≤ K - 1 by omega) (ge_sq t.2)
      omega
  have c1 := clo m1 (by omega) (h1 K pK _ (on s))
  have c2 := clo m2 (by omega) (h2 K pK _ (by
    have := on (-s.1, -s.2)
    rw [show (w.1 + (-s.1, -s.2).1, w.2 + (-s.1, -s.2).2) = ((w.1 - s.1, w.2 - s.2) : GPt) from Prod.ext (by show w.1 + -s.1 = w.1 - s.1; omega) (by show w.2 + -s.2 = w.2 - s.2; omega)] at this
    exact this))
  rw [c1, c2] at pe
  exact absurd pe (by decide)
/-- across the inside of an edge the polygon isn't on both sides -/
theorem sg_cross {l : List GPt} (hs : ge_simple l) (h3 : 3 ≤ l.length) {u v w s : GPt} (huv : ge_adj l u v) (hw : ge_on u v w) (nu : w ≠ u) (nv : w ≠ v) (ht : ge_o u v (w.1 + s.1, w.2 + s.2) ≠ 0) (h1 : ∀ k : Int, 0 < k → ∀ r : GPt, ge_on (ge_s k w) (ge_s k (w.1 + s.1, w.2 + s.2)) r → ge_cl k l r) (h2 : ∀ k : Int, 0 < k → ∀ r : GPt, ge_on (ge_s k w) (ge_s k (w.1 - s.1, w.2 - s.2)) r → ge_cl k l r) : False := by
  have main : ∀ a c : GPt, (a, c) ∈ ge_E l → ge_on a c w → w ≠ a → w ≠ c → ge_o c a (w.1 + s.1, w.2 + s.2) ≠ 0 → False := by
    intro a c hE hw na nc ht
    obtain ⟨s1, r1, mid, e1, e2, hm⟩ := sg_rot h3 hE
    have eq := ge_eqv_rot s1 r1
    rw [← e1, e2] at eq
    have nd : (c :: (mid ++ [a])).Nodup := by
      rw [← e2]
      have := hs.1
      rw [e1] at this
      exact List.perm_append_comm.nodup_iff.mp this
    have hs' := ge_eqv_simple eq nd hs
    have oc : ge_o c a w = 0 := by
      have := ge_o_swap a c w
      rw [hw.1] at this
      omega
    rcases Int.lt_or_gt_of_ne ht with z | z
    · refine sg_cross0 (s := (-s.1, -s.2)) eq hs' hm hw na nc ?_ ?_ ?_
      · have : ge_o c a (w.1 + -s.1, w.2 + -s.2) + ge_o c a (w.1 + s.1, w.2 + s.2) = 2 * ge_o c a w := by unfold ge_o; grind
        show 0 < ge_o c a (w.1 + -s.1, w.2 + -s.2)
        omega
      · intro k hk r hr
        refine h2 k hk r ?_
        rw [show ((w.1 - s.1, w.2 - s.2) : GPt) = (w.1 + (-s.1, -s.2).1, w.2 + (-s.1, -s.2).2) from Prod.ext (by show w.1 - s.1 = w.1 + -s.1; omega) (by show w.2 - s.2 = w.2 + -s.2; omega)]
        exact hr
      · intro k hk r hr
        refine h1 k hk r ?_
        rw [show ((w.1 + s.1, w.2 + s.2) : GPt) = (w.1 - (-s.1, -s.2).1, w.2 - (-s.1, -s.2).2) from Prod.ext (by show w.1 + s.1 = w.1 - -s.1; omega) (by show w.2 + s.2 = w.2 - -s.2; omega)]
        exact hr
    · exact sg_cross0 eq hs' hm hw na nc z h1 h2
  have sw := ge_o_swap u v (w.1 + s.1, w.2 + s.2)
  rcases huv with z | z
  · exact main u v z hw nu nv (by omega)
  · exact main v u z (ge_on_symm hw) nv nu ht
/-- the i-th place from p in steps s -/
def wy (p s : GPt) (i : Nat) : GPt := (p.1 + (i : Int) * s.1, p.2 + (i : Int) * s.2)
theorem wy_0 (p s : GPt) : wy p s 0 = p := Prod.ext (by show p.1 + ((0 : Nat) : Int) * s.1 = p.1; simp) (by show p.2 + ((0 : Nat) : Int) * s.2 = p.2; simp)
theorem wy_s (p s : GPt) (i : Nat) : wy p s (i + 1) = ((wy p s i).1 + s.1, (wy p s i).2 + s.2) := by
  unfold wy
  have : ((i + 1 : Nat) : Int) = (i : Int) + 1 := by omega
  rw [this]
  exact Prod.ext (by show p.1 + ((i : Int) + 1) * s.1 = p.1 + (i : Int) * s.1 + s.1; grind) (by show p.2 + ((i : Int) + 1) * s.2 = p.2 + (i : Int) * s.2 + s.2; grind)
theorem sg_flip {f : Nat → Int} : ∀ n : Nat, f 0 * f n < 0 → ∃ i, i < n ∧ (f i * f (i + 1) < 0 ∨ (f (i + 1) = 0 ∧ i + 1 < n)) := by
  intro n h
  have f0 : f 0 ≠ 0 := fun e => by rw [e, Int.zero_mul] at h; omega
  have fn : f n ≠ 0 := fun e => by rw [e, Int.mul_zero] at h; omega
  apply Classical.byContradiction
  intro hn
  have key : ∀ m, m ≤ n → 0 < f 0 * f m := by
    intro m
    induction m with
    | zero =>
      intro _
      rcases Int.lt_or_eq_of_le (ge_sq (f 0)) with q | q
      · exact q
      · rcases Int.mul_eq_zero.mp q.symm with y | y <;> exact absurd y f0
    | succ m ih =>
      intro hm
      have h0 := ih (by omega)
      by_cases z : f (m + 1) = 0
      · by_cases e : m + 1 = n
        · rw [e] at z; exact absurd z fn
        · exact absurd ⟨m, by omega, Or.inr ⟨z, by omega⟩⟩ hn
      · have nm : ¬ f m * f (m + 1) < 0 := fun q => hn ⟨m, by omega, Or.inl q⟩
        have m0 : f m ≠ 0 := fun e => by rw [e, Int.mul_zero] at h0; omega
        rcases Int.lt_or_gt_of_ne f0 with a | a <;> rcases Int.lt_or_gt_of_ne m0 with b | b <;> rcases Int.lt_or_gt_of_ne z with c | c
        · exact Int.mul_pos_of_neg_of_neg a c
        · exact absurd (Int.mul_neg_of_neg_of_pos b c) nm
        · have := Int.mul_neg_of_neg_of_pos a b; omega
        · have := Int.mul_neg_of_neg_of_pos a b; omega
        · have := Int.mul_neg_of_pos_of_neg a b; omega
        · have := Int.mul_neg_of_pos_of_neg a b; omega
        · exact absurd (Int.mul_neg_of_pos_of_neg b c) nm
        · exact Int.mul_pos a c
  have := key n (Nat.le_refl _)
  omega
/-- a chain of steps that see -/
theorem sg_chain {l : List GPt} (hs : ge_simple l) (h3 : 3 ≤ l.length) {p s : GPt} (hs0 : ¬ (s.1 = 0 ∧ s.2 = 0)) {n : Nat} (hn : 0 < n) (h : ∀ i : Nat, i < n → ge_sees l (wy p s i) (wy p s (i + 1))) : ge_sees l p (wy p s n) := by
  have hpq : p ≠ wy p s n := fun e => by
    apply hs0
    have e1 : p.1 = p.1 + (n : Int) * s.1 := congrArg Prod.fst e
    have e2 : p.2 = p.2 + (n : Int) * s.2 := congrArg Prod.snd e
    have hn' : (0 : Int) < n := by omega
    exact ⟨ge_zero hn' (by omega), ge_zero hn' (by omega)⟩
  have col : ∀ i : Nat, ge_o p (wy p s n) (wy p s i) = 0 := fun i => by unfold ge_o wy; grind
  have stp : ∀ (i : Nat) (z : GPt), ge_o p (wy p s n) z = (n : Int) * ge_o (wy p s i) (wy p s (i + 1)) z := fun i z => by
    rw [wy_s]; unfold ge_o wy; grind
  refine ⟨fun u v huv hx => ?_, fun k hk r hr => ?_⟩
  · have hx1 := hx.1
    have hx2 := hx.2
    rw [show ge_o u v p * ge_o u v (wy p s n) = (fun i => ge_o u v (wy p s i)) 0 * (fun i => ge_o u v (wy p s i)) n by show _ = ge_o u v (wy p s 0) * _; rw [wy_0]] at hx1
    have hn' : (0 : Int) < n := by omega
    have hx3 : ∀ i : Nat, ge_o (wy p s i) (wy p s (i + 1)) u * ge_o (wy p s i) (wy p s (i + 1)) v < 0 := fun i => by
      rw [stp i u, stp i v, show (n : Int) * ge_o (wy p s i) (wy p s (i + 1)) u * ((n : Int) * ge_o (wy p s i) (wy p s (i + 1)) v) = (n : Int) * ((n : Int) * (ge_o (wy p s i) (wy p s (i + 1)) u * ge_o (wy p s i) (wy p s (i + 1)) v)) by grind] at hx2
      exact (ge_sg_neg hn').mp ((ge_sg_neg hn').mp hx2)
    obtain ⟨i, hi, q | ⟨q, hi1⟩⟩ := sg_flip (f := fun i => ge_o u v (wy p s i)) n hx1
    · exact (h i hi).1 u v huv ⟨q, hx3 i⟩
    · have hx4 := hx3 (i + 1)
      have zz : ge_o (wy p s (i + 1)) (wy p s (i + 1 + 1)) (wy p s (i + 1)) = 0 := (sg_ou _ _).1
      have nu : wy p s (i + 1) ≠ u := fun e => by rw [← e, zz, Int.zero_mul] at hx4; omega
      have nv : wy p s (i + 1) ≠ v := fun e => by rw [← e, zz, Int.mul_zero] at hx4; omega
      have q : ge_o u v (wy p s (i + 1)) = 0 := q
      have on : ge_on u v (wy p s (i + 1)) := by
        rcases ge_opp hx4 with ⟨a, b⟩ | ⟨a, b⟩
        · refine ge_on_symm (ge_at (b := wy p s (i + 1 + 1)) ?_ b a)
          have := ge_o_swap u v (wy p s (i + 1))
          omega
        · exact ge_at (b := wy p s (i + 1 + 1)) q a b
      refine sg_cross hs h3 (s := s) huv on nu nv ?_ ?_ ?_
      · intro e
        have e1 : ge_o u v ((wy p s (i + 1)).1 + s.1, (wy p s (i + 1)).2 + s.2) = ge_o u v (wy p s (i + 1)) + ((v.1 - u.1) * s.2 - (v.2 - u.2) * s.1) := by unfold ge_o; grind
        have e2 : ge_o u v (wy p s (i + 1)) = ge_o u v p + ((i + 1 : Nat) : Int) * ((v.1 - u.1) * s.2 - (v.2 - u.2) * s.1) := by unfold ge_o wy; grind
        have e3 : (v.1 - u.1) * s.2 - (v.2 - u.2) * s.1 = 0 := by omega
        rw [e3, Int.mul_zero] at e2
        have e4 : ge_o u v p = 0 := by omega
        have hx5 := hx.1
        rw [e4, Int.zero_mul] at hx5
        omega
      · intro k hk r hr
        rw [← wy_s] at hr
        exact (h (i + 1) hi1).2 k hk r hr
      · intro k hk r hr
        have e : (((wy p s (i + 1)).1 - s.1, (wy p s (i + 1)).2 - s.2) : GPt) = wy p s i := by
          rw [wy_s]
          exact Prod.ext (by show (wy p s i).1 + s.1 - s.1 = _; omega) (by show (wy p s i).2 + s.2 - s.2 = _; omega)
        rw [e] at hr
        exact (h i hi).2 k hk r (ge_on_symm hr)
  · have nk := sg_ne_s hk hpq
    have sr := sg_in nk hr
    have ok : ∀ i : Nat, ge_o (ge_s k p) (ge_s k (wy p s n)) (ge_s k (wy p s i)) = 0 := fun i => by rw [ge_o_s, col, Int.mul_zero]
    obtain ⟨i, hi, j2, j3⟩ := sg_find (f := fun i => sgp (ge_s k p) (ge_s k (wy p s n)) (ge_s k (wy p s i))) (R := sgp (ge_s k p) (ge_s k (wy p s n)) r) n hn (by
      show sgp (ge_s k p) (ge_s k (wy p s n)) (ge_s k (wy p s 0)) ≤ _
      rw [wy_0, sg_u]; exact sr.1) sr.2
    exact (h i hi).2 k hk r ((sg_on nk (ok i) (ok (i + 1)) hr.1).mpr (btw_nn j2 j3))
