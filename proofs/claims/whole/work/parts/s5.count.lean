theorem mm_218 : mtG 218 = some (mi_218, 12, ft_218) := rfl
theorem b_218_0 {d c : Nat} {R : RT} {S : ST} {v0 : Int64} (e1 : Go XM d 218 c 4 [some (.long v0), none, some (.int 0), some (.long v0), none] [] S R) : Go XM d 218 c 0 [some (.long v0), none, none, none, none] [] S R := by
  refine go_run mm_218 4 (pc' := 4) (ls' := [some (.long v0), none, some (.int 0), some (.long v0), none]) (st' := []) (S' := S) rfl ?_
  exact e1
theorem b_218_4 {d c : Nat} {R : RT} {S : ST} {v0 : Int64} {v2 : Int32} {v3 : Int64} (e1 : v3 = 0 → R c (.inr (some (.int v2))) S) (e2 : ¬ v3 = 0 → Go XM d 218 c 4 [some (.long v0), none, some (.int (v2 + 1)), some (.long (v3 &&& (v3 - 1))), none] [] S R) : Go XM d 218 c 4 [some (.long v0), none, some (.int v2), some (.long v3), none] [] S R := by
  refine go_run mm_218 2 (pc' := 6) (ls' := [some (.long v0), none, some (.int v2), some (.long v3), none]) (st' := [.long 0, .long v3]) (S' := S) rfl ?_
  refine go_lif mm_218 rfl rfl (p1 := 22) (p2 := 10) rfl (fun (hc1 : v3 = 0) => ?_) (fun (hc1 : ¬ v3 = 0) => ?_)
  · refine go_run mm_218 1 (pc' := 23) (ls' := [some (.long v0), none, some (.int v2), some (.long v3), none]) (st' := [.int v2]) (S' := S) rfl ?_
    exact go_ireturn mm_218 rfl rfl (e1 hc1)
  · refine go_run mm_218 8 (pc' := 4) (ls' := [some (.long v0), none, some (.int (v2 + 1)), some (.long (v3 &&& (v3 - 1))), none]) (st' := []) (S' := S) rfl ?_
    exact e2 hc1
def f_218 (v0 : Int64) : Int32 := nJ (pn v0)
theorem sq_218 {d : Nat} {S : ST} {v0 : Int64} : Cal XM d 218 [.long v0] S (RV (some (.int (f_218 v0))) S) := by
  refine cal_go 3 rfl (b_218_0 ?_)
  have key : ∀ m n x, pn x = m → n + m = pn v0 → Go XM d 218 0 4 [some (.long v0), none, some (.int (nJ n)), some (.long x), none] [] S (RV (some (.int (f_218 v0))) S) := by
    intro m
    induction m with
    | zero =>
      intro n x hm hn
      have hx : x = 0 := by
        apply Classical.byContradiction
        intro q
        have := pn_pos q
        omega
      refine b_218_4 (fun _ => ?_) (fun q => absurd hx q)
      have e : n = pn v0 := by omega
      exact ⟨rfl, by rw [e]; rfl, rfl⟩
    | succ m ih =>
      intro n x hm hn
      have hx : ¬ x = 0 := by
        intro q
        rw [q, pn_0] at hm
        omega
      refine b_218_4 (fun q => absurd q hx) (fun _ => ?_)
      rw [nJ_succ]
      refine ih (n + 1) _ ?_ (by omega)
      have := pn_dec hx
      omega
  exact key (pn v0) 0 v0 rfl (by omega)
