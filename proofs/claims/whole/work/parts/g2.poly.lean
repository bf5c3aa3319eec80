/-! closed polygons as lists of vertices: edges, the even-odd count, and that it is constant along a way that meets no edge -/
/-- the crossing count of an edge, without direction -/
def ge_cs (u v p : GPt) : Bool := if u.2 ≤ v.2 then ge_cr u v p else ge_cr v u p
theorem ge_cr_flat {u v p : GPt} (h : u.2 = v.2) : ge_cr u v p = false := by unfold ge_cr; rw [h]; simp
theorem ge_cs_comm (u v p : GPt) : ge_cs u v p = ge_cs v u p := by
  unfold ge_cs
  rcases Int.lt_trichotomy u.2 v.2 with h | h | h
  · rw [if_pos (by omega), if_neg (by omega)]
  · rw [if_pos (by omega), if_pos (by omega), ge_cr_flat h, ge_cr_flat h.symm]
  · rw [if_neg (by omega), if_pos (by omega)]
theorem ge_cs_cr {u v p : GPt} (h : ¬ ge_on u v p) : ge_cs u v p = ge_cr u v p := by
  unfold ge_cs
  split
  · rfl
  · exact (ge_cr_symm h).symm
theorem ge_cs_mv {u v p q : GPt} (hpq : p.2 ≤ q.2) (hm : ¬ ge_meet u v p q) : (ge_cs u v p != ge_cs u v q) = (ge_F p q u != ge_F p q v) := by
  rw [ge_cs_cr (fun z => hm (Or.inl z)), ge_cs_cr (fun z => hm (Or.inr (Or.inl z)))]
  exact ge_cr_mv hpq hm
/-- a path's edges -/
def ge_ed : List GPt → List (GPt × GPt)
  | [] => []
  | [_] => []
  | a :: b :: r => (a, b) :: ge_ed (b :: r)
/-- a path's count -/
def ge_pp : List GPt → GPt → Bool
  | [], _ => false
  | [_], _ => false
  | a :: b :: r, p => ge_cs a b p != ge_pp (b :: r) p
def ge_cy : List GPt → List GPt
  | [] => []
  | a :: r => a :: r ++ [a]
/-- a closed polygon's edges, and its count -/
def ge_E (l : List GPt) : List (GPt × GPt) := ge_ed (ge_cy l)
def ge_par (l : List GPt) (p : GPt) : Bool := ge_pp (ge_cy l) p
theorem ge_ed_app (xs : List GPt) (m : GPt) (ys : List GPt) : ge_ed (xs ++ m :: ys) = ge_ed (xs ++ [m]) ++ ge_ed (m :: ys) := by
  induction xs with
  | nil => rfl
  | cons a r ih =>
    cases r with
    | nil => rfl
    | cons b r => show (a, b) :: ge_ed (b :: r ++ m :: ys) = (a, b) :: ge_ed (b :: r ++ [m]) ++ ge_ed (m :: ys); rw [ih]; rfl
theorem ge_pp_app (xs : List GPt) (m : GPt) (ys : List GPt) (p : GPt) : ge_pp (xs ++ m :: ys) p = (ge_pp (xs ++ [m]) p != ge_pp (m :: ys) p) := by
  induction xs with
  | nil => show ge_pp (m :: ys) p = (false != ge_pp (m :: ys) p); cases ge_pp (m :: ys) p <;> rfl
  | cons a r ih =>
    cases r with
    | nil => show (ge_cs a m p != ge_pp (m :: ys) p) = ((ge_cs a m p != false) != ge_pp (m :: ys) p); cases ge_cs a m p <;> cases ge_pp (m :: ys) p <;> rfl
    | cons b r =>
      show (ge_cs a b p != ge_pp (b :: r ++ m :: ys) p) = ((ge_cs a b p != ge_pp (b :: r ++ [m]) p) != ge_pp (m :: ys) p)
      rw [ih]
      cases ge_cs a b p <;> cases ge_pp (b :: r ++ [m]) p <;> cases ge_pp (m :: ys) p <;> rfl
theorem ge_pp_mv {p q : GPt} (hpq : p.2 ≤ q.2) : ∀ (r : List GPt) (a : GPt), (∀ e ∈ ge_ed (a :: r), ¬ ge_meet e.1 e.2 p q) → (ge_pp (a :: r) p != ge_pp (a :: r) q) = (ge_F p q a != ge_F p q ((a :: r).getLast (List.cons_ne_nil _ _))) := by
  intro r
  induction r with
  | nil => intro a _; show (false != false) = (ge_F p q a != ge_F p q a); cases ge_F p q a <;> rfl
  | cons b r ih =>
    intro a h
    have h1 := ge_cs_mv hpq (h (a, b) List.mem_cons_self)
    have h2 := ih b (fun e he => h e (List.mem_cons_of_mem _ he))
    show ((ge_cs a b p != ge_pp (b :: r) p) != (ge_cs a b q != ge_pp (b :: r) q)) = (ge_F p q a != ge_F p q ((b :: r).getLast (List.cons_ne_nil _ _)))
    revert h1 h2
    generalize ge_F p q ((b :: r).getLast (List.cons_ne_nil _ _)) = z
    generalize ge_pp (b :: r) p = x1
    generalize ge_pp (b :: r) q = x2
    dsimp only
    cases ge_cs a b p <;> cases ge_cs a b q <;> cases ge_F p q a <;> cases ge_F p q b <;> cases x1 <;> cases x2 <;> cases z <;> simp
theorem ge_par_mv1 {l : List GPt} {p q : GPt} (hpq : p.2 ≤ q.2) (h : ∀ e ∈ ge_E l, ¬ ge_meet e.1 e.2 p q) : ge_par l p = ge_par l q := by
  cases l with
  | nil => rfl
  | cons a r =>
    have h1 := ge_pp_mv hpq (r ++ [a]) a h
    have h2 : (a :: (r ++ [a])).getLast (List.cons_ne_nil _ _) = a := by first | exact List.getLast_concat | exact List.getLast_append_singleton _ | grind | (rw [List.getLast_cons (by simp)]; simp)
    rw [h2] at h1
    show ge_pp (a :: (r ++ [a])) p = ge_pp (a :: (r ++ [a])) q
    revert h1
    cases ge_pp (a :: (r ++ [a])) p <;> cases ge_pp (a :: (r ++ [a])) q <;> cases ge_F p q a <;> simp
/-- the count is constant along a way that meets no edge -/
theorem ge_par_mv {l : List GPt} {p q : GPt} (h : ∀ e ∈ ge_E l, ¬ ge_meet e.1 e.2 p q) : ge_par l p = ge_par l q := by
  rcases Int.le_total p.2 q.2 with z | z
  · exact ge_par_mv1 z h
  · exact (ge_par_mv1 z (fun e he hm => h e he (ge_meet_swap hm))).symm
/-- turning the list round its cycle -/
theorem ge_E_rot (s t : List GPt) (e : GPt × GPt) : e ∈ ge_E (s ++ t) ↔ e ∈ ge_E (t ++ s) := by
  cases s with
  | nil => simp
  | cons a s =>
    cases t with
    | nil => simp
    | cons b t =>
      have h1 : ge_E (a :: s ++ b :: t) = ge_ed (a :: s ++ [b]) ++ ge_ed (b :: t ++ [a]) := by
        show ge_ed (a :: (s ++ b :: t) ++ [a]) = _
        rw [show a :: (s ++ b :: t) ++ [a] = (a :: s) ++ b :: (t ++ [a]) by simp, ge_ed_app]
        rfl
      have h2 : ge_E (b :: t ++ a :: s) = ge_ed (b :: t ++ [a]) ++ ge_ed (a :: s ++ [b]) := by
        show ge_ed (b :: (t ++ a :: s) ++ [b]) = _
        rw [show b :: (t ++ a :: s) ++ [b] = (b :: t) ++ a :: (s ++ [b]) by simp, ge_ed_app]
        rfl
      rw [h1, h2, List.mem_append, List.mem_append]
      exact Or.comm
theorem ge_par_rot (s t : List GPt) (p : GPt) : ge_par (s ++ t) p = ge_par (t ++ s) p := by
  cases s with
  | nil => simp
  | cons a s =>
    cases t with
    | nil => simp
    | cons b t =>
      have h1 : ge_par (a :: s ++ b :: t) p = (ge_pp (a :: s ++ [b]) p != ge_pp (b :: t ++ [a]) p) := by
        show ge_pp (a :: (s ++ b :: t) ++ [a]) p = _
        rw [show a :: (s ++ b :: t) ++ [a] = (a :: s) ++ b :: (t ++ [a]) by simp, ge_pp_app]
        rfl
      have h2 : ge_par (b :: t ++ a :: s) p = (ge_pp (b :: t ++ [a]) p != ge_pp (a :: s ++ [b]) p) := by
        show ge_pp (b :: (t ++ a :: s) ++ [b]) p = _
        rw [show b :: (t ++ a :: s) ++ [b] = (b :: t) ++ a :: (s ++ [b]) by simp, ge_pp_app]
        rfl
      rw [h1, h2]
      cases ge_pp (a :: s ++ [b]) p <;> cases ge_pp (b :: t ++ [a]) p <;> rfl
