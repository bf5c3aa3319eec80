/-! an object stays of its class -/
def Kp (σ σ' : SG) : Prop := ∀ (h c : Nat) (fs : List Value), σ[h]? = some (.inr (c, fs)) → ∃ fs', σ'[h]? = some (.inr (c, fs'))
theorem Kp.rf {σ : SG} : Kp σ σ := fun _ _ fs h => ⟨fs, h⟩
theorem Kp.tr {σ σ1 σ2 : SG} (h : Kp σ σ1) (h' : Kp σ1 σ2) : Kp σ σ2 := fun x c fs hx => by
  obtain ⟨f1, e1⟩ := h x c fs hx
  exact h' x c f1 e1
theorem Kp.fd {σ : SG} {h c : Nat} {fs fs' : List Value} (hh : σ[h]? = some (.inr (c, fs))) : Kp σ (σ.set h (.inr (c, fs'))) := by
  intro x c1 f1 hx
  by_cases e : x = h
  · subst e
    cases hh.symm.trans hx
    exact ⟨fs', set_lt hh⟩
  · exact ⟨f1, by rw [set_ne' e]; exact hx⟩
theorem Kp.ar {σ : SG} {h : Nat} {a a' : Nat × vp_A} (hh : σ[h]? = some (.inl a)) : Kp σ (σ.set h (.inl a')) := by
  intro x c1 f1 hx
  by_cases e : x = h
  · subst e
    cases hh.symm.trans hx
  · exact ⟨f1, by rw [set_ne' e]; exact hx⟩
theorem Kp.of {σ σ' : SG} (h : σ' = σ) : Kp σ σ' := by subst h; exact Kp.rf
section KpS
variable {K : LK} {n pc : Nat} {i : Instr} {lv : LV} {st : List Value} {σ : SG} {r : S4}
theorem simC_kp (h : simC K pc i lv st σ = some r) : r.2.2.2 = σ := by
  unfold simC at h
  split at h <;> (repeat' (split at h)) <;> first | (cases h; done) | (cases h; rfl)
theorem simS_kp (h : simS n pc i lv st σ = some r) : r.2.2.2 = σ := by
  unfold simS at h
  split at h <;> (repeat' (split at h)) <;> first | (cases h; done) | (cases h; rfl)
theorem simA_kp (h : simA pc i lv st σ = some r) : r.2.2.2 = σ := by
  unfold simA at h
  split at h <;> (repeat' (split at h)) <;> first | (cases h; done) | (cases h; rfl)
theorem simB_kp (h : simB pc i lv st σ = some r) : r.2.2.2 = σ := by
  unfold simB at h
  split at h
  · split at h
    · cases h; rfl
    · cases h
  · split at h
    · split at h
      · next hc => have h := Option.some.inj h; rw [← h]
      · cases h
    · cases h
  · split at h
    · split at h
      · next hc => have h := Option.some.inj h; rw [← h]
      · cases h
    · cases h
  · split at h
    · cases h; rfl
    · split at h
      · cases h; rfl
      · cases h
    · cases h
  · cases h
theorem simU_kp (h : simU pc i lv st σ = some r) : r.2.2.2 = σ := by
  unfold simU at h
  split at h <;> (repeat' (split at h)) <;> first | (cases h; done) | (cases h; rfl)
theorem simD_kp (h : simD pc i lv st σ = some r) : r.2.2.2 = σ := by
  unfold simD at h
  split at h <;> (repeat' (split at h)) <;> first | (cases h; done) | (cases h; rfl)
theorem simH_kp (h : simH K pc i lv st σ = some r) : Kp σ r.2.2.2 := by
  unfold simH at h
  split at h <;> (repeat' (split at h)) <;> first | (cases h; done) | (cases h; exact Kp.rf) | (cases h; exact Kp.fd (by assumption)) | (cases h; exact Kp.ar (by assumption))
theorem sim_kp {G : TB} {k : Nat} (h : sim G k n pc i lv st σ = some r) : Kp σ r.2.2.2 := by
  unfold sim at h
  split at h
  · next h1 => cases h; exact Kp.of (simC_kp h1)
  · split at h
    · next h1 => cases h; exact Kp.of (simS_kp h1)
    · split at h
      · next h1 => cases h; exact Kp.of (simA_kp h1)
      · split at h
        · next h1 => cases h; exact Kp.of (simB_kp h1)
        · split at h
          · next h1 => cases h; exact simH_kp h1
          · split at h
            · next h1 => cases h; exact Kp.of (simU_kp h1)
            · exact Kp.of (simD_kp h)
theorem xS_kp {cdn : Nat} (h : xS cdn pc lv st σ = some r) : Kp σ r.2.2.2 := by
  unfold xS at h
  split at h
  · unfold xS0 at h
    (repeat' (split at h)) <;> first | (cases h; done) | (cases h; exact Kp.rf)
  · unfold xS1 at h
    (repeat' (split at h)) <;> first | (cases h; done) | (cases h; exact Kp.rf)
  · unfold xS2 at h
    (repeat' (split at h)) <;> first | (cases h; done) | (cases h; exact Kp.rf)
  · unfold xS3 at h
    (repeat' (split at h)) <;> first | (cases h; done) | (cases h; exact Kp.ar (by assumption))
theorem XX_kp {d k : Nat} (h : XX d k pc lv st σ = some r) : Kp σ r.2.2.2 := by
  unfold XX at h
  split at h
  · next r1 h1 =>
    cases h
    unfold xM at h1
    split at h1
    · split at h1
      · split at h1
        · exact xS_kp h1
        · cases h1
      · cases h1
    · cases h1
  · unfold xT at h
    split at h
    · split at h
      · cases h; exact Kp.rf
      · cases h
    · split at h
      · split at h
        · unfold xL at h
          (repeat' (split at h)) <;> first | (cases h; done) | (cases h; exact Kp.rf)
        · unfold xA at h
          (repeat' (split at h)) <;> first | (cases h; done) | (cases h; exact Kp.rf)
      · cases h
    · cases h
end KpS
theorem ev_kp : ∀ (f d k pc : Nat) (lv : LV) (st : List Value) (c : Nat) (σ : SG) (c' : Nat) (o : OC) (σ' : SG), ev G0 f d k pc lv st c σ = some (c', o, σ') → Kp σ σ' := by
  intro f
  induction f with
  | zero => intro d k pc lv st c σ c' o σ' h; cases h
  | succ f ih =>
    intro d k pc lv st c σ c' o σ' h
    unfold ev at h
    split at h
    · next r hx => exact (XX_kp (d := d) hx).tr (ih _ _ _ _ _ _ _ _ _ _ h)
    · split at h
      · split at h
        · next r hs => exact (sim_kp hs).tr (ih _ _ _ _ _ _ _ _ _ _ h)
        · split at h
          · cases h; exact Kp.rf
          · split at h
            · split at h
              · cases h; exact Kp.rf
              · cases h
            · split at h
              · cases h
              · split at h
                · cases h
                · split at h
                  · cases h
                  · next h2 => exact (ih _ _ _ _ _ _ _ _ _ _ h2).tr (ih _ _ _ _ _ _ _ _ _ _ h)
                  · next h2 => exact (ih _ _ _ _ _ _ _ _ _ _ h2).tr (ih _ _ _ _ _ _ _ _ _ _ h)
                  · next h2 =>
                    split at h
                    · cases h
                    · split at h
                      · cases h; exact ih _ _ _ _ _ _ _ _ _ _ h2
                      · split at h
                        · exact (ih _ _ _ _ _ _ _ _ _ _ h2).tr (ih _ _ _ _ _ _ _ _ _ _ h)
                        · cases h
      · cases h
