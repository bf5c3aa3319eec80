/-! the class in the exact picture: rules for handles that are variables, for throws, Math, copies; loops as functions -/
section Rules
variable {X : XT} {d d' k c pc pc' : Nat} {ls ls' : LSt} {st r : List Value} {S S' S1 : ST} {R R' : RT} {M : MI} {o : Nat} {cd : List (Nat × Instr)} {i : Instr}
theorem go_getf {h ix ci kf : Nat} {ty : FieldType} {fin : Bool} {oo : Nat × List FT} {t : FT} (hm : mtG k = some (M, o, cd)) (hi : lkp cd pc = some (.getfield ix)) (hX : X h = some (.inl oo)) (hq : ((lkO o).1 ix, oo.1, oo.2[kf]?) = (some (ci, kf, ty, fin), ci, some t)) (hn : Go X d k c (pc + 3) ls (fV (S.1 h) (S.2 h) kf t :: r) S R) : Go X d k c pc ls (.ref h :: r) S R := by
  obtain ⟨h1, h2⟩ := Prod.mk.inj hq
  obtain ⟨h2, h3⟩ := Prod.mk.inj h2
  refine go_sim hm hi rfl (fun lv σ hl hV => ⟨lv, σ, sim_H rfl rfl (simA_none rfl _ _ _) rfl ?_, hl, hV, Out.rf⟩) hn
  rw [mt_K hm]
  simp only [simH, h1, hV _ _ hX, cellS]
  rw [if_pos h2, List.getElem?_mapIdx, h3]
  rfl
theorem go_putI {h ix ci kf : Nat} {v : Int32} {oo : Nat × List FT} (hm : mtG k = some (M, o, cd)) (hi : lkp cd pc = some (.putfield ix)) (hX : X h = some (.inl oo)) (hq : ((lkO o).1 ix, oo.1, oo.2[kf]?) = (some (ci, kf, .int, false), ci, some (.inl false))) (hn : Go X d k c (pc + 3) ls r (wI S h kf v) R) : Go X d k c pc ls (.int v :: .ref h :: r) S R := by
  obtain ⟨h1, h2⟩ := Prod.mk.inj hq
  obtain ⟨h2, h3⟩ := Prod.mk.inj h2
  refine go_sim hm hi rfl (fun lv σ hl hV => ?_) hn
  have hs := HV_set (S' := wI S h kf v) hV hX (fun h' hn => ⟨wI_o S kf v hn, by rw [wI_2]⟩) (e := .inr (oo.1, (oo.2.mapIdx (fV (S.1 h) (S.2 h))).set kf (.int v))) (by rw [wI_u, wI_2, cell_fI _ _ _ h3])
  refine ⟨lv, _, sim_H rfl rfl (simA_none rfl _ _ _) rfl ?_, hl, hs.1, hs.2⟩
  rw [mt_K hm]
  simp only [simH, h1, hV _ _ hX, cellS]
  rw [if_pos ⟨h2, by simpa using (List.getElem?_eq_some_iff.mp h3).1, rfl, rfl⟩]
theorem go_putL {h ix ci kf : Nat} {v : Int64} {oo : Nat × List FT} (hm : mtG k = some (M, o, cd)) (hi : lkp cd pc = some (.putfield ix)) (hX : X h = some (.inl oo)) (hq : ((lkO o).1 ix, oo.1, oo.2[kf]?) = (some (ci, kf, .long, false), ci, some (.inl true))) (hn : Go X d k c (pc + 3) ls r (wL S h kf v) R) : Go X d k c pc ls (.long v :: .ref h :: r) S R := by
  obtain ⟨h1, h2⟩ := Prod.mk.inj hq
  obtain ⟨h2, h3⟩ := Prod.mk.inj h2
  refine go_sim hm hi rfl (fun lv σ hl hV => ?_) hn
  have hs := HV_set (S' := wL S h kf v) hV hX (fun h' hn => ⟨by rw [wL_1], wL_o S kf v hn⟩) (e := .inr (oo.1, (oo.2.mapIdx (fV (S.1 h) (S.2 h))).set kf (.long v))) (by rw [wL_u, wL_1, cell_fL _ _ _ h3])
  refine ⟨lv, _, sim_H rfl rfl (simA_none rfl _ _ _) rfl ?_, hl, hs.1, hs.2⟩
  rw [mt_K hm]
  simp only [simH, h1, hV _ _ hX, cellS]
  rw [if_pos ⟨h2, by simpa using (List.getElem?_eq_some_iff.mp h3).1, rfl, rfl⟩]
theorem go_aaload {h t n : Nat} {j : Int32} (hm : mtG k = some (M, o, cd)) (hX : X h = some (.inr (t + 3, n))) (hi : lkp cd pc = some .aaload) (hj : inB j n) (hn : Go X d k c (pc + 1) ls (.ref (t + 9 * j.toNatClampNeg) :: r) S R) : Go X d k c pc ls (.int j :: .ref h :: r) S R := by
  refine go_sim hm hi rfl (fun lv σ hl hV => ⟨lv, σ, sim_H rfl rfl (simA_none rfl _ _ _) rfl ?_, hl, hV, Out.rf⟩) hn
  simp only [simH, hV _ _ hX, cellS]
  have h1 := inB_ok hj
  have h2 : j.toNatClampNeg < n := by
    simp only [inN, Bool.and_eq_true, decide_eq_true_eq] at h1
    exact h1.2
  rw [if_pos h1, if_pos h2]
  rfl
theorem go_ldw {ix : Nat} {v : Int32} (hm : mtG k = some (M, o, cd)) (hi : lkp cd pc = some (.ldc_w ix)) (hK : (lkO o).2.1 ix = some v) (hn : Go X d k c (pc + 3) ls (.int v :: st) S R) : Go X d k c pc ls st S R := by
  refine go_sim hm hi rfl (fun lv σ hl hV => ⟨lv, σ, sim_C ?_, hl, hV, Out.rf⟩) hn
  rw [mt_K hm]
  simp only [simC, hK]
theorem go_idiv {x y : Int32} (hm : mtG k = some (M, o, cd)) (hi : lkp cd pc = some .idiv) (hy : ¬ y = 0) (hn : Go X d k c (pc + 1) ls (.int (x / y) :: r) S R) : Go X d k c pc ls (.int y :: .int x :: r) S R :=
  go_sim hm hi rfl (fun lv σ hl hV => ⟨lv, σ, sim_A rfl rfl (by simp only [simA, bI]; rw [if_neg hy]), hl, hV, Out.rf⟩) hn
theorem go_nn {h : Nat} {off : Int} (hm : mtG k = some (M, o, cd)) (hi : lkp cd pc = some (.ifnull off)) (hn : Go X d k c (pc + 3) ls r S R) : Go X d k c pc ls (.ref h :: r) S R :=
  go_sim hm hi rfl (fun lv σ hl hV => ⟨lv, σ, sim_B rfl rfl (simA_none rfl _ _ _) rfl, hl, hV, Out.rf⟩) hn
/-- a step of the program's own (Math) -/
theorem go_mm {st' : List Value} (hx : ∀ lv σ, tbX G0 d k pc lv st σ = some (pc', lv, st', σ)) (hn : Go X d k c pc' ls st' S R) : Go X d k c pc ls st S R := by
  intro lv σ hl hV
  obtain ⟨f, c', o', S2, σ2, e2, q⟩ := hn lv σ hl hV
  exact ⟨f + 1, c', o', S2, σ2, (ev_x (hx lv σ)).trans e2, q⟩
/-- the first n cells of h0 into h1 -/
def wC (S : ST) (h0 h1 n : Nat) : ST := (fun h k => if h = h1 ∧ k < n then S.1 h0 k else S.1 h k, S.2)
theorem wC_2 (S : ST) (h0 h1 n : Nat) : (wC S h0 h1 n).2 = S.2 := rfl
theorem wC_1 (S : ST) (h0 h1 n h k : Nat) : (wC S h0 h1 n).1 h k = if h = h1 ∧ k < n then S.1 h0 k else S.1 h k := rfl
theorem go_ac {h0 h1 n : Nat} {nv : Int32} (hX0 : X h0 = some (.inr (0, n))) (hX1 : X h1 = some (.inr (0, n))) (hn0 : ¬ nv < 0) (hnn : nv.toNatClampNeg = n) (hx : ∀ lv σ, xM k pc lv (.int nv :: .int 0 :: .ref h1 :: .int 0 :: .ref h0 :: r) σ = xS3 pc lv (.int nv :: .int 0 :: .ref h1 :: .int 0 :: .ref h0 :: r) σ) (h8 : cats r ≤ 8) (hn : Go X d k c (pc + 3) ls r (wC S h0 h1 n) R) : Go X d k c pc ls (.int nv :: .int 0 :: .ref h1 :: .int 0 :: .ref h0 :: r) S R := by
  intro lv σ hl hV
  have e0 := hV _ _ hX0
  have e1 := hV _ _ hX1
  have hc : va_cpy (S.1 h0) (S.1 h1) 0 0 n = (wC S h0 h1 n).1 h1 := by
    funext j
    unfold va_cpy wC
    dsimp only
    by_cases hj : j < n
    · rw [if_pos ⟨Nat.zero_le _, by omega⟩, if_pos ⟨rfl, hj⟩]
      simp
    · rw [if_neg (by omega), if_neg (fun q => hj q.2)]
  have hs := HV_set (S' := wC S h0 h1 n) hV hX1 (fun h' hn => ⟨by funext j; rw [wC_1, if_neg (fun q => hn q.1)], by rw [wC_2]⟩) (e := .inl (0, n, .inl (va_cpy (S.1 h0) (S.1 h1) 0 0 n))) (by rw [hc]; rfl)
  obtain ⟨f, c', o', S2, σ2, e2, q1, q2, q3⟩ := hn lv _ hl hs.1
  refine ⟨f + 1, c', o', S2, σ2, ?_, q1, hs.2.tr q2, q3⟩
  have hstep : tbX G0 d k pc lv (.int nv :: .int 0 :: .ref h1 :: .int 0 :: .ref h0 :: r) σ = some (pc + 3, lv, r, σ.set h1 (.inl (0, n, .inl (va_cpy (S.1 h0) (S.1 h1) 0 0 n)))) := by
    show XX d k pc lv _ σ = _
    unfold XX
    rw [hx]
    have z1 : ¬ ((0 : Int32) < 0) := by decide
    have z2 : (0 : Int32).toNatClampNeg = 0 := rfl
    have z3 : xS3 pc lv (.int nv :: .int 0 :: .ref h1 :: .int 0 :: .ref h0 :: r) σ = some (pc + 3, lv, r, σ.set h1 (.inl (0, n, .inl (va_cpy (S.1 h0) (S.1 h1) 0 0 n)))) := by
      simp only [xS3, e0, e1, cellS, hnn, z2]
      rw [if_pos ⟨h8, ⟨z1, z1, hn0⟩, by omega, by omega⟩]
    rw [z3]
  exact (ev_x hstep).trans e2
/-- throw new: an exception without a handler here -/
theorem go_thr {E : String} {ik : Nat} (hm : mtG k = some (M, o, cd)) (hi : lkp cd pc = some (.new ik)) (hT : tbT G0 k pc = some E) (hh : M.2.2.2.2 = []) (h8 : cats st ≤ 8) (hR : R (c + 1) (.inl E) S) : Go X d k c pc ls st S R := by
  intro lv σ hl hV
  have h8' : cats st ≤ 8 := h8
  exact ⟨1, c + 1, .inl E, S, σ, ev_thr (pl_nX hm hi rfl d lv st σ) (mt_M hm) (mt_F hm hi) (sim_new _) (rtn_new _) hT ⟨hh, h8'⟩, hV, Out.rf, hR⟩
/-- what a called method's end leaves to do, where it may throw -/
def KX (X : XT) (d k c pc : Nat) (ls : LSt) (rest : List Value) (R' R : RT) : Prop := ∀ c2 o S', R' c2 o S' → (∃ v, c2 = 0 ∧ o = .inr v ∧ Go X d k c (pc + 3) ls (psh v rest) S' R) ∨ ∃ E, o = .inl E ∧ R (c + c2) (.inl E) S'
theorem go_evX {k' kd : Nat} {av rest : List Value} (hm : mtG k = some (M, o, cd)) (hh : M.2.2.2.2 = []) (hkd : ¬ 2 ≤ kd) (hi : lkp cd pc = some i) (hv : (∃ ix, i = .invokestatic ix) ∨ ∃ ix, i = .invokevirtual ix) (hn : nX k pc = true) (ht : tbT G0 k pc = none) (hc : ∀ σ, HV X S σ → cal G0 k i st σ = some (k', kd, av, rest)) (hcal : Cal X d k' av S R') (hk : KX X (d + 1) k c pc ls rest R' R) : Go X (d + 1) k c pc ls st S R := by
  intro lv σ hl hV
  obtain ⟨f1, c1, o1, S1, σ1, e1, q1, q2, q3⟩ := hcal σ hV
  rcases hk _ _ _ q3 with ⟨v, rfl, rfl, hg⟩ | ⟨E, rfl, hR⟩
  · obtain ⟨f2, c2, o2, S2, σ2, e2, p1, p2, p3⟩ := hg lv σ1 hl q1
    refine ⟨max f1 f2 + 1, c2, o2, S2, σ2, ?_, p1, q2.tr p2, p3⟩
    rw [ev_cal (nX_G hn _) (mt_M hm) (mt_F hm hi) (sim_inv hv) (rtn_inv hv _) ht (hc σ hV) (G0_up f1 (max f1 f2) d d _ _ _ _ _ _ _ (Nat.le_max_left _ _) (Nat.le_refl _) e1)]
    exact G0_up f2 (max f1 f2) _ _ _ _ _ _ _ _ _ (Nat.le_max_right _ _) (Nat.le_refl _) e2
  · exact ⟨f1 + 1, c + c1, .inl E, S1, σ1, ev_calX (nX_G hn _) (mt_M hm) (mt_F hm hi) (sim_inv hv) (rtn_inv hv _) ht (hc σ hV) hkd hh e1, q1, q2, hR⟩
def csX (k pc ix k' na nl : Nat) : Bool := (match ntC k ix with
  | some (k1, 1, na1, _) => k1 == k' && na1 == na
  | _ => false) && ((match ntM k' with
  | some M' => Nat.ble nl M'.2.2.1
  | none => false) && (nX k pc && (tbT G0 k pc).isNone))
theorem go_csX {ix k' nl : Nat} {av rest : List Value} (hm : mtG k = some (M, o, cd)) (hh : M.2.2.2.2 = []) (hi : lkp cd pc = some (.invokestatic ix)) (hc : csX k pc ix k' av.length nl = true) (hst : st = av.reverse ++ rest) (h8 : Nat.ble (cats rest) 8 = true) (hnl : Nat.ble (cats av) nl = true) (hcal : Cal X d k' av S R') (hk : KX X (d + 1) k c pc ls rest R' R) : Go X (d + 1) k c pc ls st S R := by
  simp only [csX, Bool.and_eq_true] at hc
  obtain ⟨h1, h2, h3, h4⟩ := hc
  split at h1
  · next k1 na1 z hC =>
    simp only [Bool.and_eq_true, beq_iff_eq] at h1
    obtain ⟨rfl, rfl⟩ := h1
    split at h2
    · next M' hM =>
      refine go_evX hm hh (kd := 1) (by omega) hi (Or.inl ⟨ix, rfl⟩) h3 (isNone_eq h4) (fun σ hV => ?_) hcal hk
      have hC' : tbC G0 k ix = some (k1, 1, av.length, z) := hC
      have hM' : tbM G0 k1 = some M' := hM
      obtain ⟨t1, t2⟩ := rev_take hst
      simp only [cal, hC', hM']
      rw [t1, t2, List.reverse_reverse, List.length_reverse, if_pos ⟨rfl, Nat.le_of_ble_eq_true h8, Nat.le_trans (Nat.le_of_ble_eq_true hnl) (Nat.le_of_ble_eq_true h2)⟩]
    · cases h2
  · cases h1
theorem go_cvX {ix k' nl h : Nat} {oo : Nat × List FT} {As rest : List Value} (hm : mtG k = some (M, o, cd)) (hh : M.2.2.2.2 = []) (hi : lkp cd pc = some (.invokevirtual ix)) (hX : X h = some (.inl oo)) (hc : cvOK k pc ix k' As.length nl oo.1 = true) (hst : st = (Value.ref h :: As).reverse ++ rest) (h8 : Nat.ble (cats rest) 8 = true) (hnl : Nat.ble (cats (.ref h :: As)) nl = true) (hcal : Cal X d k' (.ref h :: As) S R') (hk : KX X (d + 1) k c pc ls rest R' R) : Go X (d + 1) k c pc ls st S R := by
  simp only [cvOK, Bool.and_eq_true] at hc
  obtain ⟨h1, h2, h3, h4⟩ := hc
  split at h1
  · next k1 na1 ci1 hC =>
    simp only [Bool.and_eq_true, beq_iff_eq] at h1
    obtain ⟨rfl, rfl, rfl⟩ := h1
    split at h2
    · next M' hM =>
      refine go_evX hm hh (kd := 0) (by omega) hi (Or.inr ⟨ix, rfl⟩) h3 (isNone_eq h4) (fun σ hV => ?_) hcal hk
      have hC' : tbC G0 k ix = some (k1, 0, As.length, oo.1) := hC
      have hM' : tbM G0 k1 = some M' := hM
      obtain ⟨t1, t2⟩ := rev_take hst
      have t1 : st.take (As.length + 1) = (Value.ref h :: As).reverse := t1
      have t2 : st.drop (As.length + 1) = rest := t2
      simp only [cal, hC', hM']
      rw [t1, t2, List.reverse_reverse]
      simp only [hV _ _ hX, cellS]
      rw [if_pos ⟨trivial, trivial, Nat.le_of_ble_eq_true h8, Nat.le_trans (Nat.le_of_ble_eq_true hnl) (Nat.le_of_ble_eq_true h2)⟩]
    · cases h2
  · cases h1
end Rules
/-! functions of methods: fuel for loops, checks, calls -/
def wh {A B : Type} : Nat → (A → Option (A ⊕ B)) → A → Option B
  | 0, _, _ => none
  | n + 1, f, a => match f a with
    | none => none
    | some (.inl a') => wh n f a'
    | some (.inr b) => some b
theorem wh_go {A B : Type} {f : A → Option (A ⊕ B)} {P : A → Prop} {K : B → Prop} (hs : ∀ a r, f a = some r → (∀ a', r = .inl a' → P a') → (∀ b, r = .inr b → K b) → P a) : ∀ (n : Nat) (a : A) (b : B), wh n f a = some b → K b → P a := by
  intro n
  induction n with
  | zero => intro a b h; cases h
  | succ n ih =>
    intro a b h hk
    unfold wh at h
    split at h
    · cases h
    · next a' ha => exact hs a _ ha (fun a2 e => by cases e; exact ih _ _ h hk) (fun b2 e => by cases e)
    · next b' hb => cases h; exact hs a _ hb (fun a2 e => by cases e) (fun b2 e => by cases e; exact hk)
def ck {α : Type} (b : Bool) (x : Option α) : Option α := match b with
  | true => x
  | false => none
theorem ck_some {α : Type} {b : Bool} {x : Option α} {r : α} (h : ck b x = some r) : b = true ∧ x = some r := by
  cases b with
  | true => exact ⟨rfl, h⟩
  | false => cases h
def ob {α β : Type} (x : Option α) (f : α → Option β) : Option β := match x with
  | some a => f a
  | none => none
theorem ob_some {α β : Type} {x : Option α} {f : α → Option β} {r : β} (h : ob x f = some r) : ∃ a, x = some a ∧ f a = some r := by
  cases x with
  | some a => exact ⟨a, rfl, h⟩
  | none => cases h
/-- of a method that may throw -/
def ox {α β : Type} (x : Option ((String ⊕ α) × ST)) (f : α → ST → Option ((String ⊕ β) × ST)) : Option ((String ⊕ β) × ST) := match x with
  | some (.inl E, S) => some (.inl E, S)
  | some (.inr a, S) => f a S
  | none => none
theorem ox_some {α β : Type} {x : Option ((String ⊕ α) × ST)} {f : α → ST → Option ((String ⊕ β) × ST)} {r : (String ⊕ β) × ST} (h : ox x f = some r) : (∃ E S, x = some (.inl E, S) ∧ r = (.inl E, S)) ∨ ∃ a S, x = some (.inr a, S) ∧ f a S = some r := by
  match x, h with
  | some (.inl E, S), h => exact Or.inl ⟨E, S, rfl, (Option.some.inj h).symm⟩
  | some (.inr a, S), h => exact Or.inr ⟨a, S, rfl, h⟩
/-- a proposition as a check -/
noncomputable def chB (p : Prop) : Bool := @decide p (Classical.propDecidable p)
theorem chB_t {p : Prop} : chB p = true ↔ p := by unfold chB; exact @decide_eq_true_iff p (Classical.propDecidable p)
theorem chB_f {p : Prop} : chB p = false ↔ ¬ p := by
  constructor
  · intro h q; rw [chB_t.mpr q] at h; cases h
  · intro h
    cases e : chB p with
    | false => rfl
    | true => exact absurd (chB_t.mp e) h
theorem ck_tt {α : Type} {x : Option α} : ck true x = x := rfl
theorem ck_P {α : Type} {p : Prop} {x : Option α} (h : p) : ck (chB p) x = x := by rw [chB_t.mpr h]; rfl
/-- a state by name -/
def sbn {α : Type} (S : ST) (f : ST → Option α) : Option α := f S
theorem sbn_some {α : Type} {S : ST} {f : ST → Option α} {r : α} (h : sbn S f = some r) : ∃ s, s = S ∧ f s = some r := ⟨S, rfl, h⟩
def ibd (j : Int32) (n : Nat) : Bool := decide (0 ≤ j.toInt) && decide (j.toInt < n)
theorem ibd_ok {j : Int32} {n : Nat} (h : ibd j n = true) : inB j n := by
  simp only [ibd, Bool.and_eq_true, decide_eq_true_eq] at h
  exact h
theorem bf {b : Bool} (h : b = false) : ¬ b = true := by rw [h]; exact Bool.false_ne_true
def zb (x : Int32) : Bool := decide (x = 0) || decide (x = 1)
theorem zb_ok {x : Int32} (h : zb x = true) : x = 0 ∨ x = 1 := by
  simp only [zb, Bool.or_eq_true, decide_eq_true_eq] at h
  exact h
theorem zb_b {x : Int32} (h : zb x = true) : x = b2i (decide (x = 1)) := by
  rcases zb_ok h with rfl | rfl <;> rfl
/-- the end of a method that may throw -/
def RXx {α : Type} (val : α → Option Value) (r : (String ⊕ α) × ST) : RT := fun c o S' => match r.1 with
  | .inl E => c = 1 ∧ o = .inl E ∧ S' = r.2
  | .inr v => c = 0 ∧ o = .inr (val v) ∧ S' = r.2
theorem KX_V {X : XT} {d k c pc : Nat} {ls : LSt} {rest : List Value} {v : Option Value} {S1 : ST} {R : RT} (h : Go X d k c (pc + 3) ls (psh v rest) S1 R) : KX X d k c pc ls rest (RV v S1) R := by
  rintro c2 o S' ⟨rfl, rfl, rfl⟩
  exact Or.inl ⟨v, rfl, rfl, h⟩
theorem KX_R {X : XT} {d k c pc : Nat} {ls : LSt} {rest : List Value} {α : Type} {val : α → Option Value} {v : α} {S1 : ST} {R : RT} (h : Go X d k c (pc + 3) ls (psh (val v) rest) S1 R) : KX X d k c pc ls rest (RXx val (.inr v, S1)) R := by
  rintro c2 o S' ⟨rfl, rfl, rfl⟩
  exact Or.inl ⟨_, rfl, rfl, h⟩
theorem KX_E {X : XT} {d k c pc : Nat} {ls : LSt} {rest : List Value} {α : Type} {val : α → Option Value} {E : String} {S1 : ST} {R : RT} (h : R (c + 1) (.inl E) S1) : KX X d k c pc ls rest (RXx val (.inl E, S1)) R := by
  rintro c2 o S' ⟨rfl, rfl, rfl⟩
  exact Or.inr ⟨E, rfl, h⟩
def vI (x : Int32) : Option Value := some (.int x)
def vZ (x : Bool) : Option Value := some (.int (b2i x))
def vJ (x : Int64) : Option Value := some (.long x)
def vU (_ : Unit) : Option Value := none
def vR (h : Nat) : Option Value := some (.ref h)
def FU : Nat := 1000000
