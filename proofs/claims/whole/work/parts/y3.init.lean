/-! the cells behind the constructors, both sides' picture of them -/
def rX : Option (Nat × Nat × SG) := evN 3000 3 0 0 (lv_args 0 [.ref 0]) [] 0 0 [.inr (10, [.null, .null, .null, .null, .null, .null, .null, .null, .null, .null, .null, .null, .null, .null, .null, .int 0, .int 0, .int 0])]
def sgX : SG := match rX with
  | some r => r.2.2
  | none => []
theorem rX_n : rX.map (fun r => (r.1, r.2.1, r.2.2.length)) = some (139, 2576, 140) := by decide +kernel
theorem rX_eq : rX = some (139, 2576, sgX) ∧ sgX.length = 140 := by
  have h := rX_n
  unfold sgX
  cases hr : rX with
  | none => rw [hr] at h; cases h
  | some r =>
    rw [hr] at h
    obtain ⟨a, b, g⟩ := r
    have h : (a, b, g.length) = (139, 2576, 140) := Option.some.inj h
    obtain ⟨rfl, h2⟩ := Prod.mk.inj h
    obtain ⟨rfl, h3⟩ := Prod.mk.inj h2
    exact ⟨rfl, h3⟩
def rM : Option (Nat × Nat × SG) := evN 3000 1 11 0 (lv_args 0 [.ref 140]) [] 0 0 (sgX ++ [.inr (11, [.int 0, .int 0, .null, .null, .int 0, .null, .null, .int 0, .int 0, .int 0, .int 0, .int 0, .int 0, .int 0, .null, .int 0, .int 0, .int 0, .int 0, .null, .int 0, .null, .null, .null, .null, .null, .null, .int 0, .null, .null, .null, .null, .null, .null, .int 0, .null, .int 0, .null, .int 0, .null, .int 0])])
def sgM : SG := match rM with
  | some r => r.2.2
  | none => []
theorem rM_n : rM.map (fun r => (r.1, r.2.1, r.2.2.length)) = some (21, 2073, 162) := by decide +kernel
theorem rM_eq : rM = some (21, 2073, sgM) ∧ sgM.length = 162 := by
  have h := rM_n
  unfold sgM
  cases hr : rM with
  | none => rw [hr] at h; cases h
  | some r =>
    rw [hr] at h
    obtain ⟨a, b, g⟩ := r
    have h : (a, b, g.length) = (21, 2073, 162) := Option.some.inj h
    obtain ⟨rfl, h2⟩ := Prod.mk.inj h
    obtain ⟨rfl, h3⟩ := Prod.mk.inj h2
    exact ⟨rfl, h3⟩
def sg0 : SG := sgM ++ [.inl (2, aval 2 1)]
/-- an array of references holds none behind its end -/
def rO (σ : SG) : Prop := ∀ e ∈ σ, ∀ n g, e = .inl (3, n, .inr (.inr (.inr (.inr g)))) → ∀ j, n ≤ j → g j = none
theorem rO_add {σ : SG} {e : va_E} (h : rO σ) (he : ∀ n g, e = .inl (3, n, .inr (.inr (.inr (.inr g)))) → ∀ j, n ≤ j → g j = none) : rO (σ ++ [e]) := by
  intro x hx
  rcases List.mem_append.mp hx with q | q
  · exact h x q
  · rw [List.mem_singleton.mp q]
    exact he
theorem rO_set {σ : SG} {e : va_E} {a : Nat} (h : rO σ) (he : ∀ n g, e = .inl (3, n, .inr (.inr (.inr (.inr g)))) → ∀ j, n ≤ j → g j = none) : rO (σ.set a e) := by
  intro x hx
  rcases List.mem_or_eq_of_mem_set hx with q | rfl
  · exact h x q
  · exact he
def rOEnd (f : Nat) : Prop := ∀ (d k pc : Nat) (lv : LV) (st : List Value) (c sl : Nat) (σ : SG) (r : Nat × Nat × SG), evN f d k pc lv st c sl σ = some r → rO σ → rO r.2.2
theorem evN_rO : ∀ f, rOEnd f := by
  intro f
  induction f with
  | zero => intro d k pc lv st c sl σ r h; cases h
  | succ f ih =>
    intro d k pc lv st c sl σ r h hg
    unfold evN at h
    split at h
    · cases h
    · split at h
      · cases h
      · split at h
        · split at h
          · split at h
            · exact ih _ _ _ _ _ _ _ _ _ h (rO_add hg (fun n g e => nomatch e))
            · cases h
          · cases h
        · split at h
          · split at h
            · split at h
              · refine ih _ _ _ _ _ _ _ _ _ h (rO_add hg (fun n g e => ?_))
                unfold aval at e
                split at e <;> (have e2 := Sum.inl.inj e; cases e2)
              · cases h
            · cases h
          · cases h
        · split at h
          · split at h
            · refine ih _ _ _ _ _ _ _ _ _ h (rO_add hg (fun n g e => ?_))
              cases e
              exact fun j _ => rfl
            · cases h
          · cases h
        · split at h
          · split at h
            · next n0 g0 _ _ hh hv =>
              split at h
              · next hin =>
                refine ih _ _ _ _ _ _ _ _ _ h (rO_set hg (fun n g e => ?_))
                cases e
                intro j hj
                simp only [inN, Bool.and_eq_true, decide_eq_true_eq] at hin
                refine (va_up_ne _ _ ?_).trans (hg _ (List.mem_of_getElem? hh) _ _ rfl j hj)
                omega
              · cases h
            · cases h
          · cases h
        · split at h
          · split at h
            · split at h
              · split at h
                · exact ih _ _ _ _ _ _ _ _ _ h hg
                · cases h
              · cases h
            · cases h
          · cases h
        · split at h
          · split at h
            · split at h
              · exact ih _ _ _ _ _ _ _ _ _ h (rO_set hg (fun n g e => nomatch e))
              · cases h
            · cases h
          · cases h
        · split at h
          · split at h
            · split at h
              · exact ih _ _ _ _ _ _ _ _ _ h hg
              · cases h
            · cases h
          · split at h
            · split at h
              · split at h
                · split at h
                  · next h2 => exact ih _ _ _ _ _ _ _ _ _ h (ih _ _ _ _ _ _ _ _ _ h2 hg)
                  · cases h
                · cases h
              · cases h
            · cases h
        · split at h
          · cases h; exact hg
          · cases h
        · split at h
          · exact ih _ _ _ _ _ _ _ _ _ h hg
          · cases h
theorem rO_one {c : Nat} {fs : List Value} : rO [.inr (c, fs)] := fun x hx n g e => by
  rw [List.mem_singleton.mp hx] at e
  cases e
theorem rO_end {f d k c2 s2 : Nat} {av : List Value} {σ σ2 : SG} (h : evN f d k 0 (lv_args 0 av) [] 0 0 σ = some (c2, s2, σ2)) (hg : rO σ) : rO σ2 := evN_rO f d k 0 _ [] 0 0 σ (c2, s2, σ2) h hg
theorem sgX_rO : rO sgX := by
  have h := rX_eq.1
  unfold rX at h
  exact rO_end h rO_one
theorem sgM_rO : rO sgM := by
  have h := rM_eq.1
  unfold rM at h
  exact rO_end h (rO_add sgX_rO (fun n g e => nomatch e))
theorem sg0_rO : rO sg0 := rO_add sgM_rO (fun n g e => by
  have e2 := Sum.inl.inj e
  cases e2)
/-- a picture of what is there -/
def pcI (σ : SG) (h k : Nat) : Int32 := match σ[h]? with
  | some (.inl (_, _, .inl f)) => f k
  | some (.inr (_, fs)) => (match fs[k]? with
    | some (.int x) => x
    | _ => 0)
  | _ => 0
def pcL (σ : SG) (h k : Nat) : Int64 := match σ[h]? with
  | some (.inl (_, _, .inr (.inl f))) => f k
  | some (.inr (_, fs)) => (match fs[k]? with
    | some (.long x) => x
    | _ => 0)
  | _ => 0
def ftB : FT → Value → Bool
  | .inl false, .int _ => true
  | .inl true, .long _ => true
  | .inr h, .ref h' => h == h'
  | _, _ => false
def shB : SHP → va_E → Bool
  | .inl o, .inr (c, fs) => o.1 == c && (o.2.length == fs.length && (List.range o.2.length).all (fun j => match o.2[j]?, fs[j]? with
    | some t, some v => ftB t v
    | _, _ => false))
  | .inr (0, n), .inl (0, n', .inl _) => n == n'
  | .inr (1, n), .inl (1, n', .inl _) => n == n'
  | .inr (2, n), .inl (2, n', .inr (.inl _)) => n == n'
  | .inr (t + 3, n), .inl (3, n', .inr (.inr (.inr (.inr f)))) => n == n' && (List.range n).all (fun j => f j == some (t + 9 * j))
  | _, _ => false
theorem shB_ok {σ : SG} {h : Nat} {sh : SHP} {e : va_E} (hr : rO σ) (he : σ[h]? = some e) (hb : shB sh e = true) : σ[h]? = some (cellS (pcI σ h) (pcL σ h) sh) := by
  rw [he]
  congr 1
  unfold shB at hb
  split at hb
  · next o c fs =>
    simp only [Bool.and_eq_true] at hb
    obtain ⟨h1, h2, h3⟩ := hb
    have h1 : o.1 = c := by simpa using h1
    subst h1
    have h2 : o.2.length = fs.length := by simpa using h2
    show Sum.inr (o.1, fs) = Sum.inr (o.1, o.2.mapIdx (fV (pcI σ h) (pcL σ h)))
    congr 2
    apply List.ext_getElem?
    intro j
    rw [List.getElem?_mapIdx]
    rcases Nat.lt_or_ge j o.2.length with hj | hj
    · have := List.all_eq_true.mp h3 j (List.mem_range.mpr hj)
      split at this
      · next t v e1 e2 =>
        rw [e1, e2]
        unfold ftB at this
        split at this
        · next x =>
          show some (Value.int x) = some (Value.int (pcI σ h j))
          unfold pcI
          rw [he]
          dsimp only
          rw [e2]
        · next x =>
          show some (Value.long x) = some (Value.long (pcL σ h j))
          unfold pcL
          rw [he]
          dsimp only
          rw [e2]
        · next x y => 
          have : x = y := by simpa using this
          subst this
          rfl
        · cases this
      · cases this
    · rw [List.getElem?_eq_none hj, List.getElem?_eq_none (by omega)]
      rfl
  · next n n' f =>
    have h1 := eq_of_beq hb
    subst h1
    have : pcI σ h = f := by funext k; unfold pcI; rw [he]
    show _ = Sum.inl (0, n, Sum.inl (pcI σ h))
    rw [this]
  · next n n' f =>
    have h1 := eq_of_beq hb
    subst h1
    have : pcI σ h = f := by funext k; unfold pcI; rw [he]
    show _ = Sum.inl (1, n, Sum.inl (pcI σ h))
    rw [this]
  · next n n' f =>
    have h1 := eq_of_beq hb
    subst h1
    have : pcL σ h = f := by funext k; unfold pcL; rw [he]
    show _ = Sum.inl (2, n, Sum.inr (Sum.inl (pcL σ h)))
    rw [this]
  · next t n n' f =>
    simp only [Bool.and_eq_true] at hb
    have h1 := eq_of_beq hb.1
    subst h1
    have : f = fun j => if j < n then some (t + 9 * j) else none := by
      funext j
      by_cases hj : j < n
      · rw [if_pos hj]
        exact eq_of_beq (List.all_eq_true.mp hb.2 j (List.mem_range.mpr hj))
      · rw [if_neg hj]
        exact hr _ (List.mem_of_getElem? he) _ _ rfl j (by omega)
    rw [this]
    rfl
  · cases hb
def hvG (X : XT) (σ : SG) : Bool := (List.range 163).all (fun h => match X h with
  | some sh => (match σ[h]? with
    | some e => shB sh e
    | none => false)
  | none => true)
theorem hvG_ok {X : XT} {σ : SG} (hr : rO σ) (hX : ∀ h sh, X h = some sh → h < 163) (hb : hvG X σ = true) : HV X (pcI σ, pcL σ) σ := by
  intro h sh hx
  have := List.all_eq_true.mp hb h (List.mem_range.mpr (hX h sh hx))
  rw [hx] at this
  dsimp only at this
  split at this
  · next e he => exact shB_ok hr he this
  · cases this
def S0 : ST := (pcI sg0, pcL sg0)
theorem sg0_M : HV XM S0 sg0 := hvG_ok sg0_rO (fun h sh hx => by have := XM_lt hx; omega) (by decide +kernel)
theorem sg0_C : HV XC S0 sg0 := hvG_ok sg0_rO (fun h sh hx => by have := XC_lt hx; omega) (by decide +kernel)
theorem S0_0 : S0.1 140 1 = 0 ∧ S0.1 140 4 = 0 ∧ S0.1 140 7 = 0 ∧ S0.1 140 27 = 0 ∧ S0.1 140 34 = 0 ∧ S0.1 140 36 = 0 ∧ S0.1 143 0 = 0 ∧ S0.1 143 1 = 0 := by decide +kernel
theorem S0_1 : S0.1 1 0 = 0 ∧ S0.1 0 16 = S0.1 140 8 ∧ S0.1 0 17 = S0.1 140 9 ∧ S0.1 3 0 = 0 ∧ S0.1 3 1 = 0 ∧ S0.1 3 2 = 0 ∧ S0.1 21 0 = 0 ∧ S0.1 47 0 = 0 ∧ S0.1 47 1 = 0 ∧ S0.1 121 0 = 0 ∧ S0.1 130 0 = 0 ∧ S0.1 0 15 = 0 ∧ S0.1 140 40 = 0 := by decide +kernel
def bfB (σ : SG) : Bool := match (σ[2]? : Option va_E), (σ[144]? : Option va_E) with
  | some (.inl (_, _, .inl f)), some (.inl (_, _, .inl g)) => (List.range 600).all (fun i => decide (f i = g i) && decide (¬ g i = -1))
  | _, _ => false
theorem bfB_t : bfB sg0 = true := by decide +kernel
theorem bf_of {σ : SG} (h : bfB σ = true) : ∀ i, i < 600 → pcI σ 2 i = pcI σ 144 i ∧ ¬ pcI σ 144 i = -1 := by
  intro i hi
  unfold bfB at h
  split at h
  · next f g h1 h2 =>
    have := List.all_eq_true.mp h i (List.mem_range.mpr hi)
    simp only [Bool.and_eq_true, decide_eq_true_eq] at this
    unfold pcI
    rw [h1, h2]
    exact this
  · cases h
theorem S0_b : ∀ i, i < 600 → S0.1 2 i = S0.1 144 i ∧ ¬ S0.1 144 i = -1 := by
  unfold S0
  dsimp only
  exact bf_of bfB_t
theorem MOK_0 {S : ST} (h : S.1 140 1 = 0 ∧ S.1 140 4 = 0 ∧ S.1 140 7 = 0 ∧ S.1 140 27 = 0 ∧ S.1 140 34 = 0 ∧ S.1 140 36 = 0 ∧ S.1 143 0 = 0 ∧ S.1 143 1 = 0) : MOK S := by
  obtain ⟨h1, h4, h7, h27, h34, h36, k0, k1⟩ := h
  refine ⟨?_, fun h => absurd h1 h, ⟨0, h4, by omega, fun k hk => by omega⟩, fun j hj h => ?_, fun h => absurd h27 h, ⟨0, h34, by omega⟩, ⟨0, h36, by omega⟩⟩
  · rw [h7]; exact ⟨by decide, by decide⟩
  · match j, hj, h with
    | 0, _, h => exact absurd k0 h
    | 1, _, h => exact absurd k1 h
theorem S0_M : MOK S0 := MOK_0 S0_0
theorem sg0_len : sg0.length = 162 + 1 := by
  unfold sg0
  rw [List.length_append, rM_eq.2]
  rfl
