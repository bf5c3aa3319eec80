/-! the sign of the area is the side of the polygon: ears turn to it, and cutting them keeps it -/
def ge_ap : List GPt → Int
  | [] => 0
  | [_] => 0
  | a :: b :: r => (a.1 * b.2 - b.1 * a.2) + ge_ap (b :: r)
/-- twice the signed area -/
def ge_ar (l : List GPt) : Int := ge_ap (ge_cy l)
theorem ge_ap_app (xs : List GPt) (m : GPt) (ys : List GPt) : ge_ap (xs ++ m :: ys) = ge_ap (xs ++ [m]) + ge_ap (m :: ys) := by
  induction xs with
  | nil => show ge_ap (m :: ys) = 0 + ge_ap (m :: ys); omega
  | cons a r ih =>
    cases r with
    | nil => show (a.1 * m.2 - m.1 * a.2) + ge_ap (m :: ys) = ((a.1 * m.2 - m.1 * a.2) + 0) + ge_ap (m :: ys); omega
    | cons b r =>
      show (a.1 * b.2 - b.1 * a.2) + ge_ap (b :: r ++ m :: ys) = ((a.1 * b.2 - b.1 * a.2) + ge_ap (b :: r ++ [m])) + ge_ap (m :: ys)
      rw [ih]; omega
theorem ge_ar_rot (s t : List GPt) : ge_ar (s ++ t) = ge_ar (t ++ s) := by
  cases s with
  | nil => simp
  | cons a s =>
    cases t with
    | nil => simp
    | cons b t =>
      have h1 : ge_ar (a :: s ++ b :: t) = ge_ap (a :: s ++ [b]) + ge_ap (b :: t ++ [a]) := by
        show ge_ap (a :: (s ++ b :: t) ++ [a]) = _
        rw [show a :: (s ++ b :: t) ++ [a] = (a :: s) ++ b :: (t ++ [a]) by simp, ge_ap_app]
        rfl
      have h2 : ge_ar (b :: t ++ a :: s) = ge_ap (b :: t ++ [a]) + ge_ap (a :: s ++ [b]) := by
        show ge_ap (b :: (t ++ a :: s) ++ [b]) = _
        rw [show b :: (t ++ a :: s) ++ [b] = (b :: t) ++ a :: (s ++ [b]) by simp, ge_ap_app]
        rfl
      rw [h1, h2]
      omega
theorem ge_ap_rev (l : List GPt) : ge_ap l.reverse = -ge_ap l := by
  induction l with
  | nil => rfl
  | cons a r ih =>
    cases r with
    | nil => rfl
    | cons b r =>
      rw [show (a :: b :: r).reverse = r.reverse ++ b :: [a] by simp, ge_ap_app]
      rw [show r.reverse ++ [b] = (b :: r).reverse by simp, ih]
      show -ge_ap (b :: r) + ((b.1 * a.2 - a.1 * b.2) + 0) = -((a.1 * b.2 - b.1 * a.2) + ge_ap (b :: r))
      omega
theorem ge_ar_rev (b : GPt) (t : List GPt) : ge_ar (b :: t.reverse) = -ge_ar (b :: t) := by
  unfold ge_ar
  rw [ge_cy_rev, ge_ap_rev]
theorem ge_ar_ear (a b c : GPt) (mid : List GPt) : ge_ar (b :: c :: (mid ++ [a])) = ge_ar (c :: (mid ++ [a])) + ge_o a b c := by
  have h1 : ge_ar (b :: c :: (mid ++ [a])) = (b.1 * c.2 - c.1 * b.2) + (ge_ap (c :: (mid ++ [a])) + (a.1 * b.2 - b.1 * a.2)) := by
    show ge_ap (b :: (c :: (mid ++ [a])) ++ [b]) = _
    rw [show b :: (c :: (mid ++ [a])) ++ [b] = (b :: c :: mid) ++ a :: [b] by simp, ge_ap_app]
    show ((b.1 * c.2 - c.1 * b.2) + ge_ap (c :: mid ++ [a])) + ((a.1 * b.2 - b.1 * a.2) + 0) = _
    rw [show c :: mid ++ [a] = c :: (mid ++ [a]) by simp]
    omega
  have h2 : ge_ar (c :: (mid ++ [a])) = ge_ap (c :: (mid ++ [a])) + (a.1 * c.2 - c.1 * a.2) := by
    show ge_ap (c :: (mid ++ [a]) ++ [c]) = _
    rw [show c :: (mid ++ [a]) ++ [c] = (c :: mid) ++ a :: [c] by simp, ge_ap_app]
    show ge_ap (c :: mid ++ [a]) + ((a.1 * c.2 - c.1 * a.2) + 0) = _
    rw [show c :: mid ++ [a] = c :: (mid ++ [a]) by simp]
    omega
  have h3 : ge_o a b c = (b.1 * c.2 - c.1 * b.2) + (a.1 * b.2 - b.1 * a.2) - (a.1 * c.2 - c.1 * a.2) := by unfold ge_o; grind
  rw [h1, h2, h3]
  omega
theorem ge_W_rot {s t : List GPt} {σ : Int} (h : ge_W (s ++ t) σ) : ge_W (t ++ s) σ := by
  refine ⟨h.1, fun k hk p ho => ?_⟩
  have ho' := (ge_eqv_off (ge_eqv_rot s t)).mpr ho
  have := h.2 k hk p ho'
  rw [ge_S_app, ge_wn_rot, ← ge_S_app] at this
  exact this
theorem ge_W_rev {b : GPt} {t : List GPt} {σ : Int} (h : ge_W (b :: t) σ) : ge_W (b :: t.reverse) (-σ) := by
  refine ⟨by have := h.1; omega, fun k hk p ho => ?_⟩
  have ho' := (ge_eqv_off (ge_eqv_rev b t)).mpr ho
  have := h.2 k hk p ho'
  rw [show ge_S k (b :: t.reverse) = ge_s k b :: (ge_S k t).reverse by simp [ge_S], ge_wn_rev]
  have e : ge_S k (b :: t) = ge_s k b :: ge_S k t := rfl
  rw [e] at this
  omega
theorem ge_nb {a b c w : GPt} {mid : List GPt} (hn : (b :: c :: (mid ++ [a])).Nodup) (h : ge_adj (b :: c :: (mid ++ [a])) b w) : w = a ∨ w = c := by
  have hb := (List.nodup_cons.mp hn).1
  have hat : a ∈ c :: (mid ++ [a]) := by simp
  unfold ge_adj at h
  rw [ge_E_ear] at h
  have nin : ∀ q : GPt × GPt, q ∈ ge_ed (c :: (mid ++ [a])) → q.1 ≠ b ∧ q.2 ≠ b := fun q hq => ⟨fun z => hb (z ▸ (ge_ed_mem _ q hq).1), fun z => hb (z ▸ (ge_ed_mem _ q hq).2)⟩
  rcases h with h | h
  · rcases List.mem_cons.mp h with h | h
    · exact Or.inr (Prod.mk.inj h).2
    · rcases List.mem_append.mp h with h | h
      · exact absurd rfl (nin _ h).1
      · have := (Prod.mk.inj (List.mem_singleton.mp h)).1
        exact absurd (this ▸ hat) hb
  · rcases List.mem_cons.mp h with h | h
    · have := (Prod.mk.inj h).2
      exact absurd (this ▸ List.mem_cons_self) hb
    · rcases List.mem_append.mp h with h | h
      · exact absurd rfl (nin _ h).2
      · exact Or.inl (Prod.mk.inj (List.mem_singleton.mp h)).1
theorem ge_W_3 {a b c : GPt} (hF : 0 < ge_o a b c) : ge_W (b :: c :: ([] ++ [a])) 1 ∧ 0 < ge_ar (b :: c :: ([] ++ [a])) := by
  refine ⟨⟨Or.inl rfl, fun k hk p ho => ?_⟩, ?_⟩
  · rw [ge_S_ear] at ho ⊢
    obtain ⟨o1, o2, o3⟩ := ge_C_of ho
    have n3 := o3 (ge_s k c, ge_s k a) List.mem_cons_self
    have h := ge_w3_01 (by rw [ge_o_s]; exact Int.mul_pos (ge_mm hk) hF) o1 o2 n3
    rw [ge_wn_ear]
    have z : ge_wn (ge_s k c :: (ge_S k [] ++ [ge_s k a])) p = 0 := by
      show ge_sc (ge_s k c) (ge_s k a) p + (ge_sc (ge_s k a) (ge_s k c) p + 0) = 0
      rw [ge_sc_swap (ge_s k c) (ge_s k a)]; omega
    rw [z]
    omega
  · rw [ge_ar_ear]
    have z : ge_ar (c :: ([] ++ [a])) = 0 := by
      show (c.1 * a.2 - a.1 * c.2) + ((a.1 * c.2 - c.1 * a.2) + 0) = 0
      omega
    omega
theorem ge_turn_pos {n : Nat} (ih : ∀ l : List GPt, l.length ≤ n → 3 ≤ l.length → ge_simple l → ∃ σ : Int, ge_W l σ ∧ 0 < σ * ge_ar l) {a b c : GPt} {mid : List GPt} (hlen : mid.length + 3 ≤ n + 1) (hF : 0 < ge_o a b c) (hs : ge_simple (b :: c :: (mid ++ [a]))) (hg : ge_good (b :: c :: (mid ++ [a])) a b c) : ge_W (b :: c :: (mid ++ [a])) 1 ∧ 0 < ge_ar (b :: c :: (mid ++ [a])) := by
  by_cases hm : mid = []
  · subst hm; exact ge_W_3 hF
  · have hm1 : 0 < mid.length := List.length_pos_iff.mpr hm
    have hb := (List.nodup_cons.mp hs.1).1
    have H : ge_C a b c mid := ⟨hF, hs, fun w hw h1 h2 z => hg.1 w (List.mem_cons_of_mem _ hw) h1 (fun q => hb (q ▸ hw)) h2 (Or.inl z), hm⟩
    obtain ⟨σ, W, ha⟩ := ih (c :: (mid ++ [a])) (by simp; omega) (by simp; omega) (ge_cut_simple H.1 H.2.1 H.2.2.1)
    have Z := ge_C_good H hg W
    have s1 := ge_C_across H Z W
    refine ⟨ge_C_W H Z W, ?_⟩
    rw [ge_ar_ear]
    subst s1
    omega
/-- a corner with an empty triangle on the side σ -/
def ge_ear (l : List GPt) (σ : Int) (s r : List GPt) (a e c : GPt) (mid : List GPt) : Prop := l = s ++ e :: r ∧ r ++ s = c :: (mid ++ [a]) ∧ 0 < σ * ge_o a e c ∧ ∀ w ∈ l, w ≠ a → w ≠ e → w ≠ c → ¬ ge_tc a e c w
theorem ge_turn_n : ∀ (n : Nat) (l : List GPt), l.length ≤ n → 3 ≤ l.length → ge_simple l → (∃ σ : Int, ge_W l σ ∧ 0 < σ * ge_ar l ∧ ∃ (s r : List GPt) (a e c : GPt) (mid : List GPt), ge_ear l σ s r a e c mid)
  | 0, l, h1, h2, _ => by omega
  | n + 1, l, h1, h2, hs => by
    have ih : ∀ l : List GPt, l.length ≤ n → 3 ≤ l.length → ge_simple l → ∃ σ : Int, ge_W l σ ∧ 0 < σ * ge_ar l := fun l q1 q2 q3 => by
      obtain ⟨σ, w1, w2, -⟩ := ge_turn_n n l q1 q2 q3
      exact ⟨σ, w1, w2⟩
    obtain ⟨u, v, r0, rfl⟩ : ∃ u v r, l = u :: v :: r := by
      match l, h2 with
      | u :: v :: r, _ => exact ⟨u, v, r, rfl⟩
    obtain ⟨x, e, y, g1, g2, g3, -, -, g6, g7⟩ := ge_ears h2 hs u v (Or.inl List.mem_cons_self)
    obtain ⟨s, r, hl⟩ := List.append_of_mem (ge_adj_mem g1).2
    rw [hl] at h1 h2 hs g1 g2 g7 ⊢
    clear hl
    have eq1 := ge_eqv_rot s (e :: r)
    have nd1 : (e :: r ++ s).Nodup := List.perm_append_comm.nodup_iff.mp hs.1
    have hs1 := ge_eqv_simple eq1 nd1 hs
    have hlen : (r ++ s).length = (s ++ e :: r).length - 1 := by simp; omega
    obtain ⟨c, mid, a, ht⟩ := ge_two (t := r ++ s) (by omega)
    have g1' := (eq1.2.1 _ _).mp g1
    have g2' := (eq1.2.1 _ _).mp g2
    have g7' := ge_eqv_good eq1 g7
    rw [show e :: r ++ s = e :: (r ++ s) by simp, ht] at hs1 nd1 g1' g2' g7'
    rw [ht] at hlen
    have hl2 : mid.length + 3 ≤ n + 1 := by simp at hlen h1; omega
    have hgac : ge_good (e :: c :: (mid ++ [a])) a e c ∧ ge_o a e c ≠ 0 := by
      have sw : ge_o y e x = -ge_o x e y := by unfold ge_o; grind
      rcases ge_nb nd1 (ge_adj_symm g1') with q1 | q1 <;> rcases ge_nb nd1 g2' with q2 | q2
      · exact absurd (q1.trans q2.symm) g3
      · subst q1; subst q2; exact ⟨g7', g6⟩
      · subst q1; subst q2; exact ⟨ge_good_symm g7', by omega⟩
      · exact absurd (q1.trans q2.symm) g3
    obtain ⟨hg, hF0⟩ := hgac
    have hemp : ∀ w ∈ s ++ e :: r, w ≠ a → w ≠ e → w ≠ c → ¬ ge_tc a e c w := fun w hw => by
      refine hg.1 w ?_
      rw [← ht]; simp at hw ⊢; grind
    have fin : ∀ σ : Int, ge_W (e :: c :: (mid ++ [a])) σ → 0 < σ * ge_ar (e :: c :: (mid ++ [a])) → 0 < σ * ge_o a e c → ∃ σ : Int, ge_W (s ++ e :: r) σ ∧ 0 < σ * ge_ar (s ++ e :: r) ∧ ∃ (s' r' : List GPt) (a e' c : GPt) (mid : List GPt), ge_ear (s ++ e :: r) σ s' r' a e' c mid := fun σ w1 w2 w3 => by
      rw [← ht] at w1 w2
      refine ⟨σ, ge_W_rot (s := e :: r) (t := s) w1, ?_, s, r, a, e, c, mid, rfl, ht, w3, hemp⟩
      rw [ge_ar_rot]
      exact w2
    rcases Int.lt_or_lt_of_ne hF0 with q | q
    · have eq2 := ge_eqv_rev e (c :: (mid ++ [a]))
      have er : (c :: (mid ++ [a])).reverse = a :: (mid.reverse ++ [c]) := by simp
      have hg2 := ge_good_symm (ge_eqv_good eq2 hg)
      have nd2 : (e :: (c :: (mid ++ [a])).reverse).Nodup := List.nodup_cons.mpr ⟨fun z => (List.nodup_cons.mp nd1).1 (List.mem_reverse.mp z), (List.reverse_perm _).nodup_iff.mpr (List.nodup_cons.mp nd1).2⟩
      have hs2 := ge_eqv_simple eq2 nd2 hs1
      have ar2 := ge_ar_rev e (c :: (mid ++ [a]))
      rw [er] at hg2 hs2 ar2
      have sw : ge_o c e a = -ge_o a e c := by unfold ge_o; grind
      obtain ⟨w1, w2⟩ := ge_turn_pos ih (by simp; omega) (by omega) hs2 hg2
      have w3 := ge_W_rev w1
      rw [← er, List.reverse_reverse] at w3
      exact fin (-1) w3 (by omega) (by omega)
    · obtain ⟨w1, w2⟩ := ge_turn_pos ih hl2 q hs1 hg
      exact fin 1 w1 (by omega) (by omega)
/-- a simple polygon has an ear on the side of its area's sign -/
theorem ge_orient {l : List GPt} (h3 : 3 ≤ l.length) (hs : ge_simple l) : ∃ σ : Int, ge_W l σ ∧ 0 < σ * ge_ar l ∧ ∃ (s r : List GPt) (a e c : GPt) (mid : List GPt), ge_ear l σ s r a e c mid := ge_turn_n l.length l (Nat.le_refl _) h3 hs
theorem ge_sgn {σ τ x : Int} (h1 : σ = 1 ∨ σ = -1) (h2 : τ = 1 ∨ τ = -1) (h3 : 0 < σ * x) (h4 : 0 < τ * x) : σ = τ := by
  rcases h1 with h1 | h1 <;> rcases h2 with h2 | h2 <;> subst h1 <;> subst h2 <;> omega
theorem ge_cut_pos {a b c : GPt} {mid : List GPt} (H : ge_C a b c mid) (ha : 0 < ge_ar (b :: c :: (mid ++ [a]))) : ge_simple (c :: (mid ++ [a])) ∧ 0 < ge_ar (c :: (mid ++ [a])) ∧ ge_good (b :: c :: (mid ++ [a])) a b c := by
  have hst := ge_cut_simple H.1 H.2.1 H.2.2.1
  have hm1 : 0 < mid.length := List.length_pos_iff.mpr H.2.2.2
  obtain ⟨σ, w1, w2, -⟩ := ge_orient (by simp) H.2.1
  have s1 := ge_sgn w1.1 (Or.inl rfl) w2 (by omega : (0 : Int) < 1 * ge_ar (b :: c :: (mid ++ [a])))
  subst s1
  obtain ⟨τ, v1, v2, -⟩ := ge_orient (l := c :: (mid ++ [a])) (by simp; omega) hst
  have Z := ge_C_turn H w1
  have t1 := ge_C_across H Z v1
  subst t1
  exact ⟨hst, by omega, ge_C_isgood H Z⟩
/-- cutting such an ear keeps the polygon simple and its side; and the ear is good -/
theorem ge_cut_ok {l s r mid : List GPt} {a e c : GPt} {σ : Int} (hs : ge_simple l) (hσ : σ = 1 ∨ σ = -1) (ha : 0 < σ * ge_ar l) (he : ge_ear l σ s r a e c mid) (hm : mid ≠ []) : ge_simple (s ++ r) ∧ 0 < σ * ge_ar (s ++ r) ∧ ge_good l a e c := by
  obtain ⟨rfl, ht, ho, hem⟩ := he
  have eq1 := ge_eqv_rot s (e :: r)
  have nd1 : (e :: r ++ s).Nodup := List.perm_append_comm.nodup_iff.mp hs.1
  have hs1 := ge_eqv_simple eq1 nd1 hs
  have eqt := ge_eqv_rot r s
  have ar1 : ge_ar (s ++ e :: r) = ge_ar (e :: c :: (mid ++ [a])) := by rw [ge_ar_rot, show e :: r ++ s = e :: (r ++ s) by simp, ht]
  have ar2 : ge_ar (s ++ r) = ge_ar (c :: (mid ++ [a])) := by rw [ge_ar_rot, ht]
  have ndt : (s ++ r).Nodup := List.perm_append_comm.nodup_iff.mp (List.nodup_cons.mp nd1).2
  have eq1' := eq1
  rw [show e :: r ++ s = e :: (r ++ s) by simp, ht] at hs1 nd1 eq1'
  rw [ht] at eqt
  have hb := (List.nodup_cons.mp nd1).1
  have hem1 : ∀ w ∈ e :: c :: (mid ++ [a]), w ≠ a → w ≠ e → w ≠ c → ¬ ge_tc a e c w := fun w hw => hem w ((eq1'.1 w).mpr hw)
  rw [ar1] at ha
  rw [ar2]
  rcases hσ with h | h <;> subst h
  · have H : ge_C a e c mid := ⟨by omega, hs1, fun w hw h1 h2 z => hem1 w (List.mem_cons_of_mem _ hw) h1 (fun q => hb (q ▸ hw)) h2 (Or.inl z), hm⟩
    obtain ⟨k1, k2, k3⟩ := ge_cut_pos H (by omega)
    exact ⟨ge_eqv_simple eqt ndt k1, by omega, ge_eqv_good (ge_eqv_symm eq1') k3⟩
  · have er : (c :: (mid ++ [a])).reverse = a :: (mid.reverse ++ [c]) := by simp
    have eq2 := ge_eqv_rev e (c :: (mid ++ [a]))
    have nd2 : (e :: (c :: (mid ++ [a])).reverse).Nodup := List.nodup_cons.mpr ⟨fun z => (List.nodup_cons.mp nd1).1 (List.mem_reverse.mp z), (List.reverse_perm _).nodup_iff.mpr (List.nodup_cons.mp nd1).2⟩
    have hs2 := ge_eqv_simple eq2 nd2 hs1
    have arr := ge_ar_rev e (c :: (mid ++ [a]))
    rw [er] at hs2 nd2 arr eq2
    have sw : ge_o c e a = -ge_o a e c := by unfold ge_o; grind
    have hb2 := (List.nodup_cons.mp nd2).1
    have H : ge_C c e a mid.reverse := ⟨by omega, hs2, fun w hw h1 h2 z => hem1 w ((eq2.1 w).mpr (List.mem_cons_of_mem _ hw)) h2 (fun q => hb2 (q ▸ hw)) h1 (Or.inr z), fun q => hm (List.reverse_eq_nil_iff.mp q)⟩
    obtain ⟨k1, k2, k3⟩ := ge_cut_pos H (by omega)
    have hmid : ge_ar (a :: (mid.reverse ++ [c])) = -ge_ar (c :: (mid ++ [a])) := by
      have e1 := ge_ar_ear a e c mid
      have e2 := ge_ar_ear c e a mid.reverse
      omega
    have eq3 : ge_eqv (c :: (mid ++ [a])) (a :: (mid.reverse ++ [c])) := by
      have q1 := ge_eqv_rev c (mid ++ [a])
      have q2 := ge_eqv_rot [c] (mid ++ [a]).reverse
      have e3 : [c] ++ (mid ++ [a]).reverse = c :: (mid ++ [a]).reverse := rfl
      have e4 : (mid ++ [a]).reverse ++ [c] = a :: (mid.reverse ++ [c]) := by simp
      rw [e3, e4] at q2
      exact ge_eqv_trans q1 q2
    refine ⟨ge_eqv_simple (ge_eqv_trans (ge_eqv_symm eq3) eqt) ndt k1, by omega, ge_eqv_good (ge_eqv_symm eq1') (ge_eqv_good (ge_eqv_symm eq2) (ge_good_symm k3))⟩
