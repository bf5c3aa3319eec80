/-! the cells behind the constructors, their kinds, the reference's picture of them -/
def rX : Option (Nat × Nat × SG) := evN 3000 3 0 0 (lv_args 0 [.ref 0]) [] 0 0 [.inr (10, [.null, .null, .null, .null, .null, .null, .null, .null, .null, .null, .null, .null, .null, .null, .null, .int 0, .int 0, .int 0])]
def sgX : SG := match rX with
  | some r => r.2.2
  | none => []
theorem rX_n : rX.map (fun r => (r.1, r.2.1, r.2.2.length)) = some (139, 2576, 140) := by decide +kernel
theorem rX_eq : rX = some (139, 2576, sgX) ∧ sgX.length = 140 := by
  have h := rX_n
  unfold sgX
  cases hr : rX with
  | none => rw [hr] at h; cases h
  | some r =>
    rw [hr] at h
    obtain ⟨a, b, g⟩ := r
    have h : (a, b, g.length) = (139, 2576, 140) := Option.some.inj h
    obtain ⟨rfl, h2⟩ := Prod.mk.inj h
    obtain ⟨rfl, h3⟩ := Prod.mk.inj h2
    exact ⟨rfl, h3⟩
def rM : Option (Nat × Nat × SG) := evN 3000 1 11 0 (lv_args 0 [.ref 140]) [] 0 0 (sgX ++ [.inr (11, [.int 0, .int 0, .null, .null, .int 0, .null, .null, .int 0, .int 0, .int 0, .int 0, .int 0, .int 0, .int 0, .null, .int 0, .int 0, .int 0, .int 0, .null, .int 0, .null, .null, .null, .null, .null, .null, .int 0, .null, .null, .null, .null, .null, .null, .int 0, .null, .int 0, .null, .int 0, .null, .int 0])])
def sgM : SG := match rM with
  | some r => r.2.2
  | none => []
theorem rM_n : rM.map (fun r => (r.1, r.2.1, r.2.2.length)) = some (21, 2073, 162) := by decide +kernel
theorem rM_eq : rM = some (21, 2073, sgM) ∧ sgM.length = 162 := by
  have h := rM_n
  unfold sgM
  cases hr : rM with
  | none => rw [hr] at h; cases h
  | some r =>
    rw [hr] at h
    obtain ⟨a, b, g⟩ := r
    have h : (a, b, g.length) = (21, 2073, 162) := Option.some.inj h
    obtain ⟨rfl, h2⟩ := Prod.mk.inj h
    obtain ⟨rfl, h3⟩ := Prod.mk.inj h2
    exact ⟨rfl, h3⟩
def sg0 : SG := sgM ++ [.inl (2, aval 2 1)]
def KO0 : List Nat := [36, 27, 0, 25, 4, 5, 6, 7, 8, 9, 10, 11, 25, 4, 5, 6, 7, 8, 9, 10, 11, 28, 1, 2, 3, 28, 1, 2, 3, 29, 30, 12, 31, 13, 14, 15, 16, 17, 18, 32, 19, 20, 21, 33, 22, 23, 34, 35, 26, 25, 4, 5, 6, 7, 8, 9, 10, 11, 25, 4, 5, 6, 7, 8, 9, 10, 11, 25, 4, 5, 6, 7, 8, 9, 10, 11, 25, 4, 5, 6, 7, 8, 9, 10, 11, 25, 4, 5, 6, 7, 8, 9, 10, 11, 25, 4, 5, 6, 7, 8, 9, 10, 11, 25, 4, 5, 6, 7, 8, 9, 10, 11, 25, 4, 5, 6, 7, 8, 9, 10, 11, 25, 4, 5, 6, 7, 8, 9, 10, 11, 25, 4, 5, 6, 7, 8, 9, 10, 11, 24, 200, 200, 200, 200, 200, 200, 200, 200, 200, 200, 200, 200, 200, 200, 200, 200, 200, 200, 200, 200, 200, 200, 57, 200, 200, 200, 200, 200, 200, 200, 200, 200, 200, 200, 200, 200, 200, 200, 200, 200, 200, 200, 200, 200, 200, 200, 200, 200, 200, 200, 200, 200, 200, 200, 200, 200, 200, 200, 200, 200, 200, 200, 200, 200, 200, 200, 200, 200, 200, 200, 200, 200, 200, 200, 200, 200, 200, 200, 200, 200, 200, 200, 200, 200, 200, 200, 200, 200, 200, 200, 200, 200, 200, 200, 200, 200, 200, 200, 200, 200, 200, 200, 200, 200, 200, 200, 200, 200, 200, 200, 200, 200, 200, 200, 200, 200, 200, 200, 200, 200, 200, 200, 200, 200, 200, 200, 200, 200, 200, 200, 200, 200, 200, 200, 200, 200, 200, 200, 200, 200, 200, 200, 200, 200, 200, 200, 200, 200, 200, 200, 200, 200, 200, 200, 200, 200, 200, 200, 200, 200, 131, 121, 118, 121, 123, 122, 110, 113, 121, 142, 107, 105, 108, 105, 107, 105, 105, 108]
def kosB : Bool := ((List.range TXS.length).all (fun j => match TXS[j]? with
  | some t => KO0[sb + j]? == some (100 + t.length)
  | none => true)) && (List.range KO0.length).all (fun h => match KO0[h]? with
  | some κ => !(Nat.ble 100 κ && Nat.blt κ 200) || (match txt h with
    | some t => κ == 100 + t.length
    | none => false)
  | none => true)
theorem kosB_t : kosB = true := by decide +kernel
def sglB : Bool := (List.range KO0.length).all (fun h => match KO0[h]? with
  | some 31 => h == 32
  | some 58 => false
  | some 27 => h == 1
  | some 36 => h == 0
  | _ => true)
theorem sglB_t : sglB = true := by decide +kernel
theorem KO0_lt {h κ : Nat} (hh : KO0[h]? = some κ) : h < KO0.length := (List.getElem?_eq_some_iff.mp hh).1
theorem KO0_ok : KOK KO0 := by
  have h1 := kosB_t
  have h2 := sglB_t
  unfold kosB at h1
  unfold sglB at h2
  simp only [Bool.and_eq_true] at h1
  refine ⟨⟨fun j t ht => ?_, fun h κ hh k1 k2 => ?_⟩, fun κ hκ h h' e e' => ?_⟩
  · have := List.all_eq_true.mp h1.1 j (List.mem_range.mpr (List.getElem?_eq_some_iff.mp ht).1)
    rw [ht] at this
    simpa using this
  · have := List.all_eq_true.mp h1.2 h (List.mem_range.mpr (KO0_lt hh))
    rw [hh] at this
    dsimp only at this
    have b1 : Nat.ble 100 κ = true := Nat.ble_eq.mpr k1
    have b2 : Nat.blt κ 200 = true := Nat.ble_eq.mpr k2
    rw [b1, b2] at this
    simp only [Bool.and_self, Bool.not_true, Bool.false_or] at this
    split at this
    · next t ht => exact ⟨t, ht, by simpa using this⟩
    · cases this
  · have g1 := List.all_eq_true.mp h2 h (List.mem_range.mpr (KO0_lt e))
    have g2 := List.all_eq_true.mp h2 h' (List.mem_range.mpr (KO0_lt e'))
    rw [e] at g1
    rw [e'] at g2
    simp only [sgl0, List.mem_cons, List.not_mem_nil, or_false] at hκ
    rcases hκ with rfl | rfl | rfl | rfl
    · have a : h = 32 := by simpa using g1
      have b : h' = 32 := by simpa using g2
      rw [a, b]
    · cases g1
    · have a : h = 1 := by simpa using g1
      have b : h' = 1 := by simpa using g2
      rw [a, b]
    · have a : h = 0 := by simpa using g1
      have b : h' = 0 := by simpa using g2
      rw [a, b]
def gvB (KO : List Nat) : AV → Value → Bool
  | .inl q, .int x => decide (q.1 ≤ x.toInt) && decide (x.toInt ≤ q.2)
  | .inr none, .long _ => true
  | .inr (some κ), .ref h => KO[h]? == some κ
  | _, _ => false
theorem gvB_ok {KO : List Nat} {a : AV} {v : Value} (h : gvB KO a v = true) : gV KO a v := by
  unfold gvB at h
  split at h
  · simp only [Bool.and_eq_true, decide_eq_true_eq] at h
    exact ⟨_, rfl, h.1, h.2⟩
  · exact ⟨_, rfl⟩
  · exact ⟨_, rfl, by simpa using h⟩
  · cases h
def segB (sg : List (Nat × IV)) (n : Nat) (f : Nat → Int32) : Bool := (List.range n).all (fun j => match segAt sg j with
  | some q => decide (q.1 ≤ (f j).toInt) && decide ((f j).toInt ≤ q.2)
  | none => true)
theorem segB_ok {sg : List (Nat × IV)} {n : Nat} {f : Nat → Int32} (h : segB sg n f = true) (j : Nat) (q : IV) (hj : j < n) (hq : segAt sg j = some q) : q.1 ≤ (f j).toInt ∧ (f j).toInt ≤ q.2 := by
  have := List.all_eq_true.mp h j (List.mem_range.mpr hj)
  rw [hq] at this
  simpa using this
def celB (KO : List Nat) : KDT → va_E → Bool
  | .inl o, .inr (c, fs) => o.1 == c && (List.range o.2.length).all (fun j => match o.2[j]?, fs[j]? with
    | some av, some v => gvB KO av v
    | _, _ => false)
  | .inr (0, n, sg, _), .inl (0, n', .inl f) => n == n' && segB sg n f
  | .inr (2, n, _, _), .inl (2, n', .inr (.inl _)) => n == n'
  | .inr (3, n, _, κ), .inl (3, n', .inr (.inr (.inr (.inr f)))) => n == n' && (List.range n).all (fun j => match f j with
    | some h => KO[h]? == some κ
    | none => false)
  | _, _ => false
theorem celB_ok {KO : List Nat} {kd : KDT} {e : va_E} (h : celB KO kd e = true) : cellOK KO kd e := by
  unfold celB at h
  split at h
  · next o c fs =>
    simp only [Bool.and_eq_true] at h
    obtain ⟨h1, h2⟩ := h
    have h1 : o.1 = c := by simpa using h1
    subst h1
    refine ⟨fs, rfl, fun j av hj => ?_⟩
    have := List.all_eq_true.mp h2 j (List.mem_range.mpr (List.getElem?_eq_some_iff.mp hj).1)
    rw [hj] at this
    split at this
    · next av' v e1 e2 =>
      cases e1
      exact ⟨v, e2, gvB_ok this⟩
    · cases this
  · simp only [Bool.and_eq_true] at h
    have h1 := eq_of_beq h.1
    subst h1
    exact ⟨_, rfl, rfl, _, rfl, segB_ok h.2⟩
  · have h1 := eq_of_beq h
    subst h1
    exact ⟨_, rfl, rfl, _, rfl⟩
  · simp only [Bool.and_eq_true] at h
    have h1 := eq_of_beq h.1
    subst h1
    refine ⟨_, rfl, rfl, _, rfl, fun j hj => ?_⟩
    have := List.all_eq_true.mp h.2 j (List.mem_range.mpr hj)
    split at this
    · next x hx => exact ⟨x, hx, by simpa using this⟩
    · cases this
  · cases h
def invB (KD : List KDT) (KO : List Nat) (σ : SG) : Bool := (List.range KO.length).all (fun h => match KO[h]? with
  | some κ => (match KD[κ]? with
    | some kd => (match σ[h]? with
      | some e => celB KO kd e
      | none => false)
    | none => true)
  | none => true)
theorem invB_ok {KD : List KDT} {KO : List Nat} {σ : SG} (h : invB KD KO σ = true) : Inv KD KO σ := by
  intro x κ kd h1 h2
  have := List.all_eq_true.mp h x (List.mem_range.mpr (List.getElem?_eq_some_iff.mp h1).1)
  rw [h1] at this
  dsimp only at this
  rw [h2] at this
  dsimp only at this
  split at this
  · next e he => exact ⟨e, he, celB_ok this⟩
  · cases this
theorem sg0_inv : Inv KD0 KO0 sg0 := invB_ok (by decide +kernel)
/-- a picture of what is there -/
def pcI (σ : SG) (h k : Nat) : Int32 := match σ[h]? with
  | some (.inl (_, _, .inl f)) => f k
  | some (.inr (_, fs)) => (match fs[k]? with
    | some (.int x) => x
    | _ => 0)
  | _ => 0
def pcL (σ : SG) (h k : Nat) : Int64 := match σ[h]? with
  | some (.inl (_, _, .inr (.inl f))) => f k
  | some (.inr (_, fs)) => (match fs[k]? with
    | some (.long x) => x
    | _ => 0)
  | _ => 0
def ftB : FT → Value → Bool
  | .inl false, .int _ => true
  | .inl true, .long _ => true
  | .inr h, .ref h' => h == h'
  | _, _ => false
def shB : SHP → va_E → Bool
  | .inl o, .inr (c, fs) => o.1 == c && (o.2.length == fs.length && (List.range o.2.length).all (fun j => match o.2[j]?, fs[j]? with
    | some t, some v => ftB t v
    | _, _ => false))
  | .inr (0, n), .inl (0, n', .inl _) => n == n'
  | .inr (1, n), .inl (1, n', .inl _) => n == n'
  | .inr (2, n), .inl (2, n', .inr (.inl _)) => n == n'
  | _, _ => false
theorem shB_ok {σ : SG} {h : Nat} {sh : SHP} {e : va_E} (he : σ[h]? = some e) (hb : shB sh e = true) : σ[h]? = some (cellS (pcI σ h) (pcL σ h) sh) := by
  rw [he]
  congr 1
  unfold shB at hb
  split at hb
  · next o c fs =>
    simp only [Bool.and_eq_true] at hb
    obtain ⟨h1, h2, h3⟩ := hb
    have h1 : o.1 = c := by simpa using h1
    subst h1
    have h2 : o.2.length = fs.length := by simpa using h2
    show Sum.inr (o.1, fs) = Sum.inr (o.1, o.2.mapIdx (fV (pcI σ h) (pcL σ h)))
    congr 2
    apply List.ext_getElem?
    intro j
    rw [List.getElem?_mapIdx]
    rcases Nat.lt_or_ge j o.2.length with hj | hj
    · have := List.all_eq_true.mp h3 j (List.mem_range.mpr hj)
      split at this
      · next t v e1 e2 =>
        rw [e1, e2]
        unfold ftB at this
        split at this
        · next x =>
          show some (Value.int x) = some (Value.int (pcI σ h j))
          unfold pcI
          rw [he]
          dsimp only
          rw [e2]
        · next x =>
          show some (Value.long x) = some (Value.long (pcL σ h j))
          unfold pcL
          rw [he]
          dsimp only
          rw [e2]
        · next x y => 
          have : x = y := by simpa using this
          subst this
          rfl
        · cases this
      · cases this
    · rw [List.getElem?_eq_none hj, List.getElem?_eq_none (by omega)]
      rfl
  · next n n' f =>
    have h1 := eq_of_beq hb
    subst h1
    have : pcI σ h = f := by funext k; unfold pcI; rw [he]
    show _ = Sum.inl (0, n, Sum.inl (pcI σ h))
    rw [this]
  · next n n' f =>
    have h1 := eq_of_beq hb
    subst h1
    have : pcI σ h = f := by funext k; unfold pcI; rw [he]
    show _ = Sum.inl (1, n, Sum.inl (pcI σ h))
    rw [this]
  · next n n' f =>
    have h1 := eq_of_beq hb
    subst h1
    have : pcL σ h = f := by funext k; unfold pcL; rw [he]
    show _ = Sum.inl (2, n, Sum.inr (Sum.inl (pcL σ h)))
    rw [this]
  · cases hb
def hvB (σ : SG) : Bool := (List.range 22).all (fun j => match XMl[j]?, σ[140 + j]? with
  | some sh, some e => shB sh e
  | _, _ => false)
def S0 : ST := (pcI sg0, pcL sg0)
theorem hvB_ok {σ : SG} (h : hvB σ = true) : HV XM (pcI σ, pcL σ) σ := by
  intro x sh hx
  unfold XM at hx
  split at hx
  · cases hx
  · next h1 =>
    have hl : x - 140 < 22 := (List.getElem?_eq_some_iff.mp hx).1
    have := List.all_eq_true.mp h (x - 140) (List.mem_range.mpr hl)
    rw [hx] at this
    split at this
    · next sh' e e1 e2 =>
      cases e1
      have h2 : 140 + (x - 140) = x := by omega
      rw [h2] at e2
      exact shB_ok e2 this
    · cases this
theorem sg0_HV : HV XM S0 sg0 := hvB_ok (by decide +kernel)
theorem S0_0 : S0.1 140 1 = 0 ∧ S0.1 140 4 = 0 ∧ S0.1 140 7 = 0 ∧ S0.1 140 27 = 0 ∧ S0.1 140 34 = 0 ∧ S0.1 140 36 = 0 ∧ S0.1 143 0 = 0 ∧ S0.1 143 1 = 0 := by decide +kernel
theorem MOK_0 {S : ST} (h : S.1 140 1 = 0 ∧ S.1 140 4 = 0 ∧ S.1 140 7 = 0 ∧ S.1 140 27 = 0 ∧ S.1 140 34 = 0 ∧ S.1 140 36 = 0 ∧ S.1 143 0 = 0 ∧ S.1 143 1 = 0) : MOK S := by
  obtain ⟨h1, h4, h7, h27, h34, h36, k0, k1⟩ := h
  refine ⟨?_, fun h => absurd h1 h, ⟨0, h4, by omega, fun k hk => by omega⟩, fun j hj h => ?_, fun h => absurd h27 h, ⟨0, h34, by omega⟩, ⟨0, h36, by omega⟩⟩
  · rw [h7]; exact ⟨by decide, by decide⟩
  · match j, hj, h with
    | 0, _, h => exact absurd k0 h
    | 1, _, h => exact absurd k1 h
theorem S0_M : MOK S0 := MOK_0 S0_0
theorem sg0_27 : fld sg0 1 0 = some (.int 0) := by
  have h : (match fld sg0 1 0 with
    | some (.int x) => x == 0
    | _ => false) = true := by decide +kernel
  split at h
  · next x hx => rw [hx, show x = 0 by simpa using h]
  · cases h
theorem sg0_len : sg0.length = 162 + 1 := by
  unfold sg0
  rw [List.length_append, rM_eq.2]
  rfl
