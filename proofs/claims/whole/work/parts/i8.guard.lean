/-! sight: the graph is connected, and of at most twelve vertices four see all -/
def ge_sees (l : List GPt) (p q : GPt) : Prop := (∀ u v : GPt, ge_adj l u v → ¬ ge_x u v p q) ∧ ∀ k : Int, 0 < k → ∀ r : GPt, ge_on (ge_s k p) (ge_s k q) r → ge_cl k l r
theorem ge_sees_symm {l : List GPt} {p q : GPt} (h : ge_sees l p q) : ge_sees l q p :=
  ⟨fun u v huv z => h.1 u v huv (ge_x_symm (ge_x_swap (ge_x_symm z))), fun k hk r hr => h.2 k hk r (ge_on_symm hr)⟩
theorem ge_sees_T {l : List GPt} {TS : List (GPt × GPt × GPt)} {col : GPt → Nat} (g : ge_cov l TS col) {T : GPt × GPt × GPt} (hT : T ∈ TS) {p q : GPt} (hp : ge_tc T.1 T.2.1 T.2.2 p) (hq : ge_tc T.1 T.2.1 T.2.2 q) : ge_sees l p q :=
  ⟨fun u v huv => g.2.2.1 T hT u v huv p q hp hq, fun k hk r hr => g.2.1 T hT k hk r (ge_tc_on hk (g.1 T hT).2.2.2 hp hq hr)⟩
theorem ge_sees_E {l : List GPt} (hs : ge_simple l) {u v : GPt} (h : ge_adj l u v) : ge_sees l u v := by
  refine ⟨fun x y hxy => ge_adj_X hs hxy h, fun k hk r hr ho => ?_⟩
  exact absurd hr (ge_off_iff.mp ho u v h)
theorem ge_tc_v {x e y : GPt} (hF : ge_o x e y ≠ 0) : ge_tc x e y x ∧ ge_tc x e y e ∧ ge_tc x e y y := by
  rcases Int.lt_or_lt_of_ne hF with z | z
  · have e1 : ge_o y e x = -ge_o x e y := by unfold ge_o; grind
    obtain ⟨h1, h2, h3⟩ := ge_in_vs (a := y) (b := e) (c := x) (by omega)
    exact ⟨Or.inr h3, Or.inr h2, Or.inr h1⟩
  · obtain ⟨h1, h2, h3⟩ := ge_in_vs z
    exact ⟨Or.inl h1, Or.inl h2, Or.inl h3⟩
theorem ge_chainP (f : GPt → Prop) : ∀ (m : List GPt) (c : GPt), (∀ e ∈ ge_ed (c :: m), f e.1 ↔ f e.2) → ∀ w ∈ c :: m, f w ↔ f c
  | [], c, _, w, hw => by rw [List.mem_singleton.mp hw]
  | y :: m, c, h, w, hw => by
    rcases List.mem_cons.mp hw with q | q
    · rw [q]
    · rw [ge_chainP f m y (fun e he => h e (List.mem_cons_of_mem _ he)) w q]
      exact (h (c, y) List.mem_cons_self).symm
/-- a vertex lies in the closed polygon -/
theorem ge_cl_v {l : List GPt} (h2 : 2 ≤ l.length) {v : GPt} (hv : v ∈ l) {k : Int} : ge_cl k l (ge_s k v) := by
  intro ho
  exfalso
  obtain ⟨s, r, rfl⟩ := List.append_of_mem hv
  have : ∃ w : GPt, (v, w) ∈ ge_E (s ++ v :: r) := by
    obtain ⟨w, hw⟩ : ∃ w : GPt, (v, w) ∈ ge_E (v :: r ++ s) := by
      obtain ⟨c, t, ht⟩ : ∃ c t, r ++ s = c :: t := by
        match h : r ++ s with
        | [] => simp at h h2; grind
        | c :: t => exact ⟨c, t, rfl⟩
      refine ⟨c, ?_⟩
      rw [show v :: r ++ s = v :: (r ++ s) by simp, ht]
      exact List.mem_cons_self
    exact ⟨w, (ge_E_rot s (v :: r) (v, w)).mpr hw⟩
  obtain ⟨w, hw⟩ := this
  exact ge_off_iff.mp ho v w (Or.inl hw) (ge_on_l _ _)
theorem ge_tc_1 {T : GPt × GPt × GPt} {p : GPt} (h : ge_tc (ge_s 1 T.1) (ge_s 1 T.2.1) (ge_s 1 T.2.2) p) : ge_tc T.1 T.2.1 T.2.2 p := by
  rw [ge_s_1, ge_s_1, ge_s_1] at h
  exact h
/-- what is closed under sight is all -/
theorem ge_conn {l : List GPt} (h3 : 3 ≤ l.length) (hs : ge_simple l) (M : GPt → Prop) (hM : ∀ p q : GPt, M p → ge_cl 1 l p → ge_cl 1 l q → ge_sees l p q → M q) {p : GPt} (hp : ge_cl 1 l p) (mp : M p) : ∀ q : GPt, ge_cl 1 l q → M q := by
  obtain ⟨TS, col, g, -⟩ := ge_cover h3 hs
  have vcl : ∀ v ∈ l, ge_cl 1 l v := fun v hv => by have := ge_cl_v (k := 1) (by omega) hv; rw [ge_s_1] at this; exact this
  obtain ⟨T, hT, tp⟩ := g.2.2.2.1 1 (by decide) p hp
  have tp := ge_tc_1 tp
  obtain ⟨m1, m2, m3, mF⟩ := g.1 T hT
  have M1 : M T.1 := hM p T.1 mp hp (vcl _ m1) (ge_sees_T g hT tp (ge_tc_v mF).1)
  have all : ∀ v ∈ l, M v := by
    cases l with
    | nil => intro v hv; cases hv
    | cons c m =>
      have step : ∀ e ∈ ge_ed (c :: m), M e.1 ↔ M e.2 := fun e he => by
        have hE : ge_adj (c :: m) e.1 e.2 := Or.inl (ge_ed_pre (l := c :: m) [c] he)
        have me := ge_adj_mem hE
        have see := ge_sees_E hs hE
        exact ⟨fun z => hM _ _ z (vcl _ me.1) (vcl _ me.2) see, fun z => hM _ _ z (vcl _ me.2) (vcl _ me.1) (ge_sees_symm see)⟩
      have ch := ge_chainP M m c step
      have hc := (ch T.1 m1).mp M1
      exact fun v hv => (ch v hv).mpr hc
  intro q hq
  obtain ⟨T', hT', tq⟩ := g.2.2.2.1 1 (by decide) q hq
  have tq := ge_tc_1 tq
  obtain ⟨n1, n2, n3, nF⟩ := g.1 T' hT'
  exact hM T'.1 q (all _ n1) (vcl _ n1) hq (ge_sees_T g hT' (ge_tc_v nF).1 tq)
theorem ge_cols (col : GPt → Nat) : ∀ l : List GPt, (∀ v : GPt, col v < 3) → (l.filter (fun v => col v = 0)).length + (l.filter (fun v => col v = 1)).length + (l.filter (fun v => col v = 2)).length = l.length
  | [], _ => rfl
  | x :: l, h => by
    have ih := ge_cols col l h
    have hx := h x
    have : col x = 0 ∨ col x = 1 ∨ col x = 2 := by omega
    rcases this with q | q | q <;> simp [List.filter_cons, q] <;> omega
/-- of at most twelve vertices, at most four see the whole closed polygon -/
theorem ge_four {l : List GPt} (h3 : 3 ≤ l.length) (h12 : l.length ≤ 12) (hs : ge_simple l) : ∃ G : List GPt, 1 ≤ G.length ∧ G.length ≤ 4 ∧ G.Nodup ∧ (∀ g ∈ G, g ∈ l) ∧ ∀ q : GPt, ge_cl 1 l q → ∃ g ∈ G, ge_sees l g q := by
  obtain ⟨TS, col, g, hn⟩ := ge_cover h3 hs
  have sum := ge_cols col l g.2.2.2.2.1
  have use : ∀ i : Nat, i < 3 → (l.filter (fun v => col v = i)).length ≤ 4 → ∃ G : List GPt, 1 ≤ G.length ∧ G.length ≤ 4 ∧ G.Nodup ∧ (∀ g ∈ G, g ∈ l) ∧ ∀ q : GPt, ge_cl 1 l q → ∃ g ∈ G, ge_sees l g q := fun i hi hl => by
    have pick : ∀ T ∈ TS, ∃ v ∈ l.filter (fun v => col v = i), ge_tc T.1 T.2.1 T.2.2 v := fun T hT => by
      obtain ⟨m1, m2, m3, mF⟩ := g.1 T hT
      obtain ⟨t1, t2, t3⟩ := ge_tc_v mF
      obtain ⟨c1, c2, c3⟩ := g.2.2.2.2.2.2 T hT
      have b1 := g.2.2.2.2.1 T.1
      have b2 := g.2.2.2.2.1 T.2.1
      have b3 := g.2.2.2.2.1 T.2.2
      have : col T.1 = i ∨ col T.2.1 = i ∨ col T.2.2 = i := by omega
      rcases this with q | q | q
      · exact ⟨T.1, List.mem_filter.mpr ⟨m1, by simpa using q⟩, t1⟩
      · exact ⟨T.2.1, List.mem_filter.mpr ⟨m2, by simpa using q⟩, t2⟩
      · exact ⟨T.2.2, List.mem_filter.mpr ⟨m3, by simpa using q⟩, t3⟩
    refine ⟨l.filter (fun v => col v = i), ?_, hl, List.Pairwise.filter _ hs.1, fun v hv => (List.mem_filter.mp hv).1, fun q hq => ?_⟩
    · cases TS with
      | nil => exact absurd rfl hn
      | cons T TS =>
        obtain ⟨v, hv, -⟩ := pick T List.mem_cons_self
        exact List.length_pos_of_mem hv
    · obtain ⟨T, hT, tq⟩ := g.2.2.2.1 1 (by decide) q hq
      obtain ⟨v, hv, tv⟩ := pick T hT
      exact ⟨v, hv, ge_sees_T g hT tv (ge_tc_1 tq)⟩
  by_cases q0 : (l.filter (fun v => col v = 0)).length ≤ 4
  · exact use 0 (by decide) q0
  · by_cases q1 : (l.filter (fun v => col v = 1)).length ≤ 4
    · exact use 1 (by decide) q1
    · exact use 2 (by decide) (by omega)
