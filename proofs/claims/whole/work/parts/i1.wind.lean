/-! the winding count: the even-odd count with signs -/
def ge_b2 (x : Bool) : Int := if x = true then 1 else 0
def ge_sc (u v p : GPt) : Int := if u.2 ≤ v.2 then ge_b2 (ge_cr u v p) else -ge_b2 (ge_cr v u p)
theorem ge_sc_swap (u v p : GPt) : ge_sc v u p = -ge_sc u v p := by
  unfold ge_sc
  rcases Int.lt_trichotomy u.2 v.2 with h | h | h
  · rw [if_neg (by omega), if_pos (by omega)]
  · rw [if_pos (by omega), if_pos (by omega), ge_cr_flat h, ge_cr_flat h.symm]; rfl
  · rw [if_pos (by omega), if_neg (by omega)]; omega
theorem ge_sc_cs (u v p : GPt) : ge_sc u v p = ge_b2 (ge_cs u v p) ∨ ge_sc u v p = -ge_b2 (ge_cs u v p) := by
  unfold ge_sc ge_cs
  split
  · exact Or.inl rfl
  · exact Or.inr rfl
theorem ge_sc_mv1 {u v p q : GPt} (huv : u.2 ≤ v.2) (hpq : p.2 ≤ q.2) (hm : ¬ ge_meet u v p q) : ge_b2 (ge_cr u v p) - ge_b2 (ge_cr u v q) = ge_b2 (ge_F p q v) - ge_b2 (ge_F p q u) := by
  have h := ge_cr_mv hpq hm
  have i1 : ge_cr u v p = true → ge_F p q u = false := by unfold ge_cr ge_F; grind
  have i2 : ge_cr u v q = true → ge_F p q v = false := by unfold ge_cr ge_F; grind
  revert h i1 i2
  unfold ge_b2
  cases ge_cr u v p <;> cases ge_cr u v q <;> cases ge_F p q u <;> cases ge_F p q v <;> simp
theorem ge_sc_mv {u v p q : GPt} (hpq : p.2 ≤ q.2) (hm : ¬ ge_meet u v p q) : ge_sc u v p - ge_sc u v q = ge_b2 (ge_F p q v) - ge_b2 (ge_F p q u) := by
  unfold ge_sc
  rcases Int.lt_or_le v.2 u.2 with h | h
  · rw [if_neg (by omega), if_neg (by omega)]
    have := ge_sc_mv1 (u := v) (v := u) (by omega) hpq (fun z => hm (ge_meet_flip z))
    omega
  · rw [if_pos h, if_pos h]
    exact ge_sc_mv1 h hpq hm
theorem ge_sc_s {m : Int} (hm : 0 < m) (u v p : GPt) : ge_sc (ge_s m u) (ge_s m v) (ge_s m p) = ge_sc u v p := by
  unfold ge_sc
  have h3 : ((ge_s m u).2 ≤ (ge_s m v).2) ↔ u.2 ≤ v.2 := ge_sg_le hm
  simp only [h3, ge_cr_s hm]
/-- a path's count -/
def ge_wp : List GPt → GPt → Int
  | [], _ => 0
  | [_], _ => 0
  | a :: b :: r, p => ge_sc a b p + ge_wp (b :: r) p
def ge_wn (l : List GPt) (p : GPt) : Int := ge_wp (ge_cy l) p
theorem ge_wp_app (xs : List GPt) (m : GPt) (ys : List GPt) (p : GPt) : ge_wp (xs ++ m :: ys) p = ge_wp (xs ++ [m]) p + ge_wp (m :: ys) p := by
  induction xs with
  | nil => show ge_wp (m :: ys) p = 0 + ge_wp (m :: ys) p; omega
  | cons a r ih =>
    cases r with
    | nil => show ge_sc a m p + ge_wp (m :: ys) p = (ge_sc a m p + 0) + ge_wp (m :: ys) p; omega
    | cons b r =>
      show ge_sc a b p + ge_wp (b :: r ++ m :: ys) p = (ge_sc a b p + ge_wp (b :: r ++ [m]) p) + ge_wp (m :: ys) p
      rw [ih]; omega
theorem ge_wp_mv {p q : GPt} (hpq : p.2 ≤ q.2) : ∀ (r : List GPt) (a : GPt), (∀ e ∈ ge_ed (a :: r), ¬ ge_meet e.1 e.2 p q) → ge_wp (a :: r) p - ge_wp (a :: r) q = ge_b2 (ge_F p q ((a :: r).getLast (List.cons_ne_nil _ _))) - ge_b2 (ge_F p q a) := by
  intro r
  induction r with
  | nil => intro a _; show (0 : Int) - 0 = ge_b2 (ge_F p q a) - ge_b2 (ge_F p q a); omega
  | cons b r ih =>
    intro a h
    have h1 := ge_sc_mv hpq (h (a, b) List.mem_cons_self)
    have h2 := ih b (fun e he => h e (List.mem_cons_of_mem _ he))
    show (ge_sc a b p + ge_wp (b :: r) p) - (ge_sc a b q + ge_wp (b :: r) q) = ge_b2 (ge_F p q ((b :: r).getLast (List.cons_ne_nil _ _))) - ge_b2 (ge_F p q a)
    dsimp only at h1
    omega
theorem ge_wn_mv1 {l : List GPt} {p q : GPt} (hpq : p.2 ≤ q.2) (h : ∀ e ∈ ge_E l, ¬ ge_meet e.1 e.2 p q) : ge_wn l p = ge_wn l q := by
  cases l with
  | nil => rfl
  | cons a r =>
    have h1 := ge_wp_mv hpq (r ++ [a]) a h
    have h2 : (a :: (r ++ [a])).getLast (List.cons_ne_nil _ _) = a := by first | exact List.getLast_concat | exact List.getLast_append_singleton _ | grind | (rw [List.getLast_cons (by simp)]; simp)
    rw [h2] at h1
    show ge_wp (a :: (r ++ [a])) p = ge_wp (a :: (r ++ [a])) q
    omega
theorem ge_wn_mv {l : List GPt} {p q : GPt} (h : ∀ e ∈ ge_E l, ¬ ge_meet e.1 e.2 p q) : ge_wn l p = ge_wn l q := by
  rcases Int.le_total p.2 q.2 with z | z
  · exact ge_wn_mv1 z h
  · exact (ge_wn_mv1 z (fun e he hm => h e he (ge_meet_swap hm))).symm
theorem ge_wn_rot (s t : List GPt) (p : GPt) : ge_wn (s ++ t) p = ge_wn (t ++ s) p := by
  cases s with
  | nil => simp
  | cons a s =>
    cases t with
    | nil => simp
    | cons b t =>
      have h1 : ge_wn (a :: s ++ b :: t) p = ge_wp (a :: s ++ [b]) p + ge_wp (b :: t ++ [a]) p := by
        show ge_wp (a :: (s ++ b :: t) ++ [a]) p = _
        rw [show a :: (s ++ b :: t) ++ [a] = (a :: s) ++ b :: (t ++ [a]) by simp, ge_wp_app]
        rfl
      have h2 : ge_wn (b :: t ++ a :: s) p = ge_wp (b :: t ++ [a]) p + ge_wp (a :: s ++ [b]) p := by
        show ge_wp (b :: (t ++ a :: s) ++ [b]) p = _
        rw [show b :: (t ++ a :: s) ++ [b] = (b :: t) ++ a :: (s ++ [b]) by simp, ge_wp_app]
        rfl
      rw [h1, h2]
      omega
theorem ge_wp_rev (l : List GPt) (p : GPt) : ge_wp l.reverse p = -ge_wp l p := by
  induction l with
  | nil => rfl
  | cons a r ih =>
    cases r with
    | nil => rfl
    | cons b r =>
      rw [show (a :: b :: r).reverse = r.reverse ++ b :: [a] by simp, ge_wp_app]
      rw [show r.reverse ++ [b] = (b :: r).reverse by simp, ih]
      show -ge_wp (b :: r) p + (ge_sc b a p + 0) = -(ge_sc a b p + ge_wp (b :: r) p)
      rw [ge_sc_swap a b]
      omega
theorem ge_wn_rev (b : GPt) (t : List GPt) (p : GPt) : ge_wn (b :: t.reverse) p = -ge_wn (b :: t) p := by
  unfold ge_wn
  rw [ge_cy_rev, ge_wp_rev]
theorem ge_wp_s {m : Int} (hm : 0 < m) (l : List GPt) (p : GPt) : ge_wp (ge_S m l) (ge_s m p) = ge_wp l p := by
  induction l with
  | nil => rfl
  | cons a r ih =>
    cases r with
    | nil => rfl
    | cons b r =>
      show ge_sc (ge_s m a) (ge_s m b) (ge_s m p) + ge_wp (ge_S m (b :: r)) (ge_s m p) = ge_sc a b p + ge_wp (b :: r) p
      rw [ih, ge_sc_s hm]
theorem ge_wn_s {m : Int} (hm : 0 < m) (l : List GPt) (p : GPt) : ge_wn (ge_S m l) (ge_s m p) = ge_wn l p := by
  unfold ge_wn
  rw [ge_cy_S, ge_wp_s hm]
theorem ge_pp_wp (l : List GPt) (p : GPt) : ge_pp l p = decide (ge_wp l p % 2 = 1) := by
  induction l with
  | nil => rfl
  | cons a r ih =>
    cases r with
    | nil => rfl
    | cons b r =>
      show (ge_cs a b p != ge_pp (b :: r) p) = decide ((ge_sc a b p + ge_wp (b :: r) p) % 2 = 1)
      rw [ih]
      have h := ge_sc_cs a b p
      revert h
      unfold ge_b2
      cases ge_cs a b p
      · intro h
        have h : ge_sc a b p = 0 := by simpa using h
        rw [h]
        simp
      · intro h
        have h : ge_sc a b p = 1 ∨ ge_sc a b p = -1 := by simpa using h
        have : ((ge_sc a b p + ge_wp (b :: r) p) % 2 = 1) ↔ ¬ (ge_wp (b :: r) p % 2 = 1) := by omega
        simp only [this]
        by_cases q : ge_wp (b :: r) p % 2 = 1 <;> simp [q]
theorem ge_par_wn (l : List GPt) (p : GPt) : ge_par l p = decide (ge_wn l p % 2 = 1) := ge_pp_wp _ p
def ge_w3 (a b c p : GPt) : Int := ge_sc a b p + ge_sc b c p + ge_sc c a p
theorem ge_w3_cyc (a b c p : GPt) : ge_w3 b c a p = ge_w3 a b c p := by unfold ge_w3; omega
theorem ge_wn_ear (a b c : GPt) (mid : List GPt) (p : GPt) : ge_wn (b :: c :: (mid ++ [a])) p = ge_wn (c :: (mid ++ [a])) p + ge_w3 a b c p := by
  have h1 : ge_wn (b :: c :: (mid ++ [a])) p = ge_sc b c p + (ge_wp (c :: (mid ++ [a])) p + ge_sc a b p) := by
    show ge_wp (b :: (c :: (mid ++ [a])) ++ [b]) p = _
    rw [show b :: (c :: (mid ++ [a])) ++ [b] = (b :: c :: mid) ++ a :: [b] by simp, ge_wp_app]
    show (ge_sc b c p + ge_wp (c :: mid ++ [a]) p) + (ge_sc a b p + 0) = _
    rw [show c :: mid ++ [a] = c :: (mid ++ [a]) by simp]
    omega
  have h2 : ge_wn (c :: (mid ++ [a])) p = ge_wp (c :: (mid ++ [a])) p + ge_sc a c p := by
    show ge_wp (c :: (mid ++ [a]) ++ [c]) p = _
    rw [show c :: (mid ++ [a]) ++ [c] = (c :: mid) ++ a :: [c] by simp, ge_wp_app]
    show ge_wp (c :: mid ++ [a]) p + (ge_sc a c p + 0) = _
    rw [show c :: mid ++ [a] = c :: (mid ++ [a]) by simp]
    omega
  rw [h1, h2]
  unfold ge_w3
  rw [ge_sc_swap a c]
  omega
theorem ge_sc_up {u v p : GPt} (h1 : u.2 ≤ p.2) (h2 : p.2 < v.2) : ge_sc u v p = if 0 < ge_o u v p then 1 else 0 := by
  unfold ge_sc ge_cr ge_b2
  rw [if_pos (by omega)]
  grind
theorem ge_sc_dn {u v p : GPt} (h1 : v.2 ≤ p.2) (h2 : p.2 < u.2) : ge_sc u v p = if ge_o u v p < 0 then -1 else 0 := by
  rw [ge_sc_swap v u, ge_sc_up h1 h2, ge_o_swap u v p]
  grind
theorem ge_sc_lo {u v p : GPt} (h1 : u.2 ≤ p.2) (h2 : v.2 ≤ p.2) : ge_sc u v p = 0 := by
  have := ge_sc_cs u v p
  rw [ge_cs_lo h1 h2] at this
  unfold ge_b2 at this
  grind
theorem ge_sc_hi {u v p : GPt} (h1 : p.2 < u.2) (h2 : p.2 < v.2) : ge_sc u v p = 0 := by
  have := ge_sc_cs u v p
  rw [ge_cs_hi h1 h2] at this
  unfold ge_b2 at this
  grind
theorem ge_w3_1 {a b c p : GPt} (hF : 0 < ge_o a b c) (ha : a.2 ≤ p.2) (hb : b.2 ≤ p.2) (hc : p.2 < c.2) (n2 : ¬ ge_on b c p) (n3 : ¬ ge_on c a p) : 0 ≤ ge_w3 a b c p ∧ ge_w3 a b c p ≤ 1 := by
  unfold ge_w3
  rw [ge_sc_lo ha hb, ge_sc_up hb hc, ge_sc_dn ha hc]
  have by' := ge_by a b c p
  have b0 := ge_b0 a b c p
  have z3 : ge_o c a p ≠ 0 := fun z => n3 (ge_on_symm (ge_on_y (by rw [ge_o_swap, z]; rfl) (by omega) ha (by omega)))
  have z2 : ge_o b c p ≠ 0 := fun z => n2 (ge_on_y z (by omega) hb (by omega))
  have imp : ¬ (ge_o b c p < 0 ∧ ge_o c a p < 0) := fun z => by
    have k1 : 0 ≤ -ge_o b c p * (p.2 - a.2) := Int.mul_nonneg (by omega) (by omega)
    have k2 : 0 ≤ -ge_o c a p * (p.2 - b.2) := Int.mul_nonneg (by omega) (by omega)
    have k3 : 0 ≤ -ge_o a b p := ge_nn (show 0 < c.2 - p.2 by omega) (by grind)
    omega
  split <;> split <;> omega
theorem ge_w3_2 {a b c p : GPt} (hF : 0 < ge_o a b c) (ha : p.2 < a.2) (hb : p.2 < b.2) (hc : c.2 ≤ p.2) (n2 : ¬ ge_on b c p) (n3 : ¬ ge_on c a p) : 0 ≤ ge_w3 a b c p ∧ ge_w3 a b c p ≤ 1 := by
  unfold ge_w3
  rw [ge_sc_hi ha hb, ge_sc_dn hc hb, ge_sc_up hc ha]
  have by' := ge_by a b c p
  have b0 := ge_b0 a b c p
  have z2 : ge_o b c p ≠ 0 := fun z => n2 (ge_on_symm (ge_on_y (by rw [ge_o_swap, z]; rfl) (by omega) hc (by omega)))
  have z3 : ge_o c a p ≠ 0 := fun z => n3 (ge_on_y z (by omega) hc (by omega))
  have imp : ¬ (ge_o b c p < 0 ∧ ge_o c a p < 0) := fun z => by
    have k1 : 0 < -ge_o b c p * (a.2 - p.2) := Int.mul_pos (by omega) (by omega)
    have k2 : 0 < -ge_o c a p * (b.2 - p.2) := Int.mul_pos (by omega) (by omega)
    rcases Int.lt_or_le (ge_o a b p) 0 with q | q
    · omega
    · have := Int.mul_nonneg q (show 0 ≤ p.2 - c.2 by omega)
      grind
  split <;> split <;> omega
theorem ge_w3_01 {a b c p : GPt} (hF : 0 < ge_o a b c) (n1 : ¬ ge_on a b p) (n2 : ¬ ge_on b c p) (n3 : ¬ ge_on c a p) : 0 ≤ ge_w3 a b c p ∧ ge_w3 a b c p ≤ 1 := by
  have hF1 : 0 < ge_o b c a := by rw [ge_o_cyc]; exact hF
  have hF2 : 0 < ge_o c a b := by rw [ge_o_cyc]; exact hF1
  have tpc : ge_w3 c a b p = ge_w3 a b c p := (ge_w3_cyc b c a p).trans (ge_w3_cyc a b c p)
  rcases Int.lt_or_le p.2 a.2 with ha | ha <;> rcases Int.lt_or_le p.2 b.2 with hb | hb <;> rcases Int.lt_or_le p.2 c.2 with hc | hc
  · unfold ge_w3; rw [ge_sc_hi ha hb, ge_sc_hi hb hc, ge_sc_hi hc ha]; omega
  · exact ge_w3_2 hF ha hb hc n2 n3
  · rw [← tpc]; exact ge_w3_2 hF2 hc ha hb n1 n2
  · rw [← ge_w3_cyc a b c p]; exact ge_w3_1 hF1 hb hc ha n3 n1
  · rw [← ge_w3_cyc a b c p]; exact ge_w3_2 hF1 hb hc ha n3 n1
  · rw [← tpc]; exact ge_w3_1 hF2 hc ha hb n1 n2
  · exact ge_w3_1 hF ha hb hc n2 n3
  · unfold ge_w3; rw [ge_sc_lo ha hb, ge_sc_lo hb hc, ge_sc_lo hc ha]; omega
theorem ge_w3_par (a b c p : GPt) : ge_tp a b c p = decide (ge_w3 a b c p % 2 = 1) := by
  have h := ge_par_wn (a :: b :: [c]) p
  have e1 : ge_par (a :: b :: [c]) p = ge_tp a b c p := by
    show (ge_cs a b p != (ge_cs b c p != (ge_cs c a p != false))) = _
    unfold ge_tp
    cases ge_cs a b p <;> cases ge_cs b c p <;> cases ge_cs c a p <;> rfl
  have e2 : ge_wn (a :: b :: [c]) p = ge_w3 a b c p := by
    show ge_sc a b p + (ge_sc b c p + (ge_sc c a p + 0)) = _
    unfold ge_w3
    omega
  rw [e1, e2] at h
  exact h
/-- the winding count of a triangle -/
theorem ge_w3_in {a b c p : GPt} (hF : 0 < ge_o a b c) (n1 : ¬ ge_on a b p) (n2 : ¬ ge_on b c p) (n3 : ¬ ge_on c a p) : (ge_int a b c p ∧ ge_w3 a b c p = 1) ∨ (¬ ge_int a b c p ∧ ge_w3 a b c p = 0) := by
  have h := ge_tri hF n1 n2 n3
  rw [ge_w3_par] at h
  have h01 := ge_w3_01 hF n1 n2 n3
  by_cases q : ge_int a b c p
  · have := h.mpr q
    have := of_decide_eq_true this
    exact Or.inl ⟨q, by omega⟩
  · refine Or.inr ⟨q, ?_⟩
    have : ¬ (ge_w3 a b c p % 2 = 1) := fun z => q (h.mp (decide_eq_true z))
    omega
