/-! more fuel, more depth: the same answer -/
theorem ev_up (G : TB) (hX : ∀ d d' k pc lv st σ, tbX G d k pc lv st σ = tbX G d' k pc lv st σ) : ∀ (f f' d d' k pc : Nat) (lv : LV) (st : List Value) (c : Nat) (σ : SG) (r : Nat × OC × SG), f ≤ f' → d ≤ d' → ev G f d k pc lv st c σ = some r → ev G f' d' k pc lv st c σ = some r := by
  intro f
  induction f with
  | zero => intro f' d d' k pc lv st c σ r _ _ h; cases h
  | succ f ih =>
    intro f' d d' k pc lv st c σ r hf hd h
    match f', hf with
    | f' + 1, hf =>
      have hf : f ≤ f' := Nat.le_of_succ_le_succ hf
      unfold ev at h ⊢
      rw [hX d' d]
      split at h
      · next r1 hx => (try rw [hx]); exact ih _ _ _ _ _ _ _ _ _ _ hf hd h
      · next hx =>
        (try rw [hx])
        split at h
        · next M i hM hF =>
          (try rw [hM, hF])
          (try dsimp only at h ⊢)
          split at h
          · next r1 hs => (try rw [hs]); exact ih _ _ _ _ _ _ _ _ _ _ hf hd h
          · next hs =>
            (try rw [hs])
            split at h
            · next v hr => (try rw [hr]); exact h
            · next hr =>
              (try rw [hr])
              split at h
              · next E hT => (try rw [hT]); exact h
              · next hT =>
                (try rw [hT])
                split at h
                · cases h
                · next k' kd av rest hc =>
                  (try rw [hc])
                  match d, d', hd with
                  | 0, _, _ => cases h
                  | d0 + 1, d1 + 1, hd =>
                    have hd0 : d0 ≤ d1 := Nat.le_of_succ_le_succ hd
                    (try dsimp only at h ⊢)
                    split at h
                    · cases h
                    · next c2 σ2 he => rw [ih _ _ _ _ _ _ _ _ _ _ hf hd0 he]; exact ih _ _ _ _ _ _ _ _ _ _ hf hd h
                    · next c2 v σ2 he => rw [ih _ _ _ _ _ _ _ _ _ _ hf hd0 he]; exact ih _ _ _ _ _ _ _ _ _ _ hf hd h
                    · next c2 E σ2 he =>
                      rw [ih _ _ _ _ _ _ _ _ _ _ hf hd0 he]
                      (try dsimp only)
                      split at h
                      · cases h
                      · next hk =>
                        (try rw [if_neg hk])
                        split at h
                        · next hn => (try rw [hn]); exact h
                        · next q qs hn =>
                          (try rw [hn])
                          (try dsimp only)
                          split at h
                          · next hp j hH => (try rw [hH]); exact ih _ _ _ _ _ _ _ _ _ _ hf hd h
                          · cases h
        · cases h
/-! one step of its own, a simple step, a return, a throw, a call that comes back: as equations -/
section Eqs
variable {G : TB} {f d k pc c : Nat} {lv : LV} {st : List Value} {σ : SG} {M : MI} {i : Instr}
theorem ev_x {r : S4} (h : tbX G d k pc lv st σ = some r) : ev G (f + 1) d k pc lv st c σ = ev G f d k r.1 r.2.1 r.2.2.1 c r.2.2.2 := by
  rw [ev, h]
theorem ev_sim (hx : tbX G d k pc lv st σ = none) (hM : tbM G k = some M) (hF : tbF G k pc = some i) {r : S4} (h : sim G k M.2.2.1 pc i lv st σ = some r) : ev G (f + 1) d k pc lv st c σ = ev G f d k r.1 r.2.1 r.2.2.1 c r.2.2.2 := by
  rw [ev, hx]
  dsimp only
  rw [hM, hF]
  dsimp only
  rw [h]
theorem ev_ret (hx : tbX G d k pc lv st σ = none) (hM : tbM G k = some M) (hF : tbF G k pc = some i) (hs : sim G k M.2.2.1 pc i lv st σ = none) {v : Option Value} (h : rtn M.2.2.2.1 i st = some v) : ev G (f + 1) d k pc lv st c σ = some (c, .inr v, σ) := by
  rw [ev, hx]
  dsimp only
  rw [hM, hF]
  dsimp only
  rw [hs]
  dsimp only
  rw [h]
theorem ev_thr (hx : tbX G d k pc lv st σ = none) (hM : tbM G k = some M) (hF : tbF G k pc = some i) (hs : sim G k M.2.2.1 pc i lv st σ = none) (hr : rtn M.2.2.2.1 i st = none) {E : String} (h : tbT G k pc = some E) (h8 : M.2.2.2.2 = [] ∧ cats st ≤ 8) : ev G (f + 1) d k pc lv st c σ = some (c + 1, .inl E, σ) := by
  rw [ev, hx]
  dsimp only
  rw [hM, hF]
  dsimp only
  rw [hs]
  dsimp only
  rw [hr]
  dsimp only
  rw [h]
  dsimp only
  rw [if_pos h8]
theorem ev_cal (hx : tbX G (d + 1) k pc lv st σ = none) (hM : tbM G k = some M) (hF : tbF G k pc = some i) (hs : sim G k M.2.2.1 pc i lv st σ = none) (hr : rtn M.2.2.2.1 i st = none) (ht : tbT G k pc = none) {k' kd : Nat} {av rest : List Value} (hc : cal G k i st σ = some (k', kd, av, rest)) {c2 : Nat} {r : Option Value} {σ2 : SG} (h : ev G f d k' 0 (lv_args 0 av) [] 0 σ = some (c2, .inr r, σ2)) : ev G (f + 1) (d + 1) k pc lv st c σ = ev G f (d + 1) k (pc + 3) lv (psh r rest) (c + c2) σ2 := by
  rw [ev, hx]
  dsimp only
  rw [hM, hF]
  dsimp only
  rw [hs]
  dsimp only
  rw [hr]
  dsimp only
  rw [ht]
  dsimp only
  rw [hc]
  dsimp only
  rw [h]
  cases r <;> rfl
theorem ev_calX (hx : tbX G (d + 1) k pc lv st σ = none) (hM : tbM G k = some M) (hF : tbF G k pc = some i) (hs : sim G k M.2.2.1 pc i lv st σ = none) (hr : rtn M.2.2.2.1 i st = none) (ht : tbT G k pc = none) {k' kd : Nat} {av rest : List Value} (hc : cal G k i st σ = some (k', kd, av, rest)) (hk : ¬ 2 ≤ kd) (hh : M.2.2.2.2 = []) {c2 : Nat} {E : String} {σ2 : SG} (h : ev G f d k' 0 (lv_args 0 av) [] 0 σ = some (c2, .inl E, σ2)) : ev G (f + 1) (d + 1) k pc lv st c σ = some (c + c2, .inl E, σ2) := by
  rw [ev, hx]
  dsimp only
  rw [hM, hF]
  dsimp only
  rw [hs]
  dsimp only
  rw [hr]
  dsimp only
  rw [ht]
  dsimp only
  rw [hc]
  dsimp only
  rw [h]
  dsimp only
  rw [if_neg hk, hh]
theorem ev_calH (hx : tbX G (d + 1) k pc lv st σ = none) (hM : tbM G k = some M) (hF : tbF G k pc = some i) (hs : sim G k M.2.2.1 pc i lv st σ = none) (hr : rtn M.2.2.2.1 i st = none) (ht : tbT G k pc = none) {k' kd : Nat} {av rest : List Value} (hc : cal G k i st σ = some (k', kd, av, rest)) (hk : ¬ 2 ≤ kd) (hh : M.2.2.2.2 ≠ []) {c2 : Nat} {E : String} {σ2 : SG} (h : ev G f d k' 0 (lv_args 0 av) [] 0 σ = some (c2, .inl E, σ2)) {hp j : Nat} (hH : tbH G k pc E = some (hp, j)) : ev G (f + 1) (d + 1) k pc lv st c σ = ev G f (d + 1) k hp (lD j lv) [] (c + c2) σ2 := by
  rw [ev, hx]
  dsimp only
  rw [hM, hF]
  dsimp only
  rw [hs]
  dsimp only
  rw [hr]
  dsimp only
  rw [ht]
  dsimp only
  rw [hc]
  dsimp only
  rw [h]
  dsimp only
  rw [if_neg hk]
  split
  · next hn => exact absurd hn hh
  · rw [hH]
end Eqs
