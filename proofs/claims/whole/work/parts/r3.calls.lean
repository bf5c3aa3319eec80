section Rules
variable {X : XT} {d d' k c pc pc' : Nat} {ls ls' : LSt} {st r : List Value} {S S' S1 : ST} {R R' : RT} {M : MI} {o : Nat} {cd : List (Nat × Instr)} {i : Instr}
theorem go_iaload {q : Nat} {h n : Nat} {j : Int32} (hm : mtG k = some (M, o, cd)) (hq : j.toNatClampNeg = q) (hX : X h = some (.inr (0, n))) (hi : lkp cd pc = some .iaload) (hj : inB j n) (hn : Go X d k c (pc + 1) ls (.int (S.1 h q) :: r) S R) : Go X d k c pc ls (.int j :: .ref h :: r) S R := by
  subst hq
  exact go_sim hm hi rfl (fun lv σ hl hV => ⟨lv, σ, sim_H rfl rfl (simA_none rfl _ _ _) rfl (by simp only [simH, hV _ _ hX, cellS]; rw [if_pos (inB_ok hj)]), hl, hV, Out.rf⟩) hn
theorem go_baload {q : Nat} {h n : Nat} {j : Int32} (hm : mtG k = some (M, o, cd)) (hq : j.toNatClampNeg = q) (hX : X h = some (.inr (1, n))) (hi : lkp cd pc = some .baload) (hj : inB j n) (hn : Go X d k c (pc + 1) ls (.int (S.1 h q) :: r) S R) : Go X d k c pc ls (.int j :: .ref h :: r) S R := by
  subst hq
  exact go_sim hm hi rfl (fun lv σ hl hV => ⟨lv, σ, sim_H rfl rfl (simA_none rfl _ _ _) rfl (by simp only [simH, hV _ _ hX, cellS]; rw [if_pos (inB_ok hj)]), hl, hV, Out.rf⟩) hn
theorem go_laload {q : Nat} {h n : Nat} {j : Int32} (hm : mtG k = some (M, o, cd)) (hq : j.toNatClampNeg = q) (hX : X h = some (.inr (2, n))) (hi : lkp cd pc = some .laload) (hj : inB j n) (hn : Go X d k c (pc + 1) ls (.long (S.2 h q) :: r) S R) : Go X d k c pc ls (.int j :: .ref h :: r) S R := by
  subst hq
  exact go_sim hm hi rfl (fun lv σ hl hV => ⟨lv, σ, sim_H rfl rfl (simA_none rfl _ _ _) rfl (by simp only [simH, hV _ _ hX, cellS]; rw [if_pos (inB_ok hj)]), hl, hV, Out.rf⟩) hn
theorem go_iastore {q : Nat} {h n : Nat} {j x : Int32} (hm : mtG k = some (M, o, cd)) (hq : j.toNatClampNeg = q) (hX : X h = some (.inr (0, n))) (hi : lkp cd pc = some .iastore) (hj : inB j n) (hn : Go X d k c (pc + 1) ls r (wI S h q x) R) : Go X d k c pc ls (.int x :: .int j :: .ref h :: r) S R := by
  subst hq
  refine go_sim hm hi rfl (fun lv σ hl hV => ?_) hn
  have hs := HV_set (S' := wI S h j.toNatClampNeg x) hV hX (fun h' hn => ⟨wI_o S _ x hn, by rw [wI_2]⟩) (e := .inl (0, n, .inl (upd (S.1 h) j.toNatClampNeg x))) (by rw [wI_u]; rfl)
  exact ⟨lv, _, sim_H rfl rfl (simA_none rfl _ _ _) rfl (by simp only [simH, hV _ _ hX, cellS]; rw [if_pos (inB_ok hj)]), hl, hs.1, hs.2⟩
theorem go_bastore {q : Nat} {h n : Nat} {j x : Int32} (hm : mtG k = some (M, o, cd)) (hq : j.toNatClampNeg = q) (hX : X h = some (.inr (1, n))) (hi : lkp cd pc = some .bastore) (hj : inB j n) (hb : x = 0 ∨ x = 1) (hn : Go X d k c (pc + 1) ls r (wI S h q x) R) : Go X d k c pc ls (.int x :: .int j :: .ref h :: r) S R := by
  subst hq
  refine go_sim hm hi rfl (fun lv σ hl hV => ?_) hn
  have hx : vp_nar .boolean x = x := by rcases hb with rfl | rfl <;> rfl
  have hs := HV_set (S' := wI S h j.toNatClampNeg x) hV hX (fun h' hn => ⟨wI_o S _ x hn, by rw [wI_2]⟩) (e := .inl (1, n, .inl (upd (S.1 h) j.toNatClampNeg (vp_nar .boolean x)))) (by rw [wI_u, hx]; rfl)
  exact ⟨lv, _, sim_H rfl rfl (simA_none rfl _ _ _) rfl (by simp only [simH, hV _ _ hX, cellS]; rw [if_pos (inB_ok hj)]), hl, hs.1, hs.2⟩
theorem go_lastore {q : Nat} {h n : Nat} {j : Int32} {x : Int64} (hm : mtG k = some (M, o, cd)) (hq : j.toNatClampNeg = q) (hX : X h = some (.inr (2, n))) (hi : lkp cd pc = some .lastore) (hj : inB j n) (hn : Go X d k c (pc + 1) ls r (wL S h q x) R) : Go X d k c pc ls (.long x :: .int j :: .ref h :: r) S R := by
  subst hq
  refine go_sim hm hi rfl (fun lv σ hl hV => ?_) hn
  have hs := HV_set (S' := wL S h j.toNatClampNeg x) hV hX (fun h' hn => ⟨by rw [wL_1], wL_o S _ x hn⟩) (e := .inl (2, n, .inr (.inl (vp_updL (S.2 h) j.toNatClampNeg x)))) (by rw [wL_u]; rfl)
  exact ⟨lv, _, sim_H rfl rfl (simA_none rfl _ _ _) rfl (by simp only [simH, hV _ _ hX, cellS]; rw [if_pos (inB_ok hj)]), hl, hs.1, hs.2⟩
theorem sim_ret {G : TB} {n : Nat} {lv : LV} {σ : SG} (h : i = .ireturn ∨ i = .lreturn ∨ i = .areturn ∨ i = .return_) : sim G k n pc i lv st σ = none := by
  have hA : simA pc i lv st σ = none := simA_none (by rcases h with rfl | rfl | rfl | rfl <;> rfl) _ _ _
  unfold sim
  rw [hA]
  rcases h with rfl | rfl | rfl | rfl <;> rfl
theorem go_rt {v : Option Value} (hm : mtG k = some (M, o, cd)) (hi : lkp cd pc = some i) (h : i = .ireturn ∨ i = .lreturn ∨ i = .areturn ∨ i = .return_) (hr : rtn M.2.2.2.1 i st = some v) (hR : R c (.inr v) S) : Go X d k c pc ls st S R := by
  intro lv σ hl hV
  refine ⟨1, c, .inr v, S, σ, ev_ret (pl_nX hm hi ?_ d lv st σ) (mt_M hm) (mt_F hm hi) (sim_ret h) hr, hV, Out.rf, hR⟩
  rcases h with rfl | rfl | rfl | rfl <;> rfl
theorem go_ireturn {x : Int32} (hm : mtG k = some (M, o, cd)) (hi : lkp cd pc = some .ireturn) (ht : M.2.2.2.1 = some .int) (hR : R c (.inr (some (.int x))) S) : Go X d k c pc ls [.int x] S R := go_rt hm hi (Or.inl rfl) (by rw [ht]; rfl) hR
theorem go_zreturn {x : Int32} (hm : mtG k = some (M, o, cd)) (hi : lkp cd pc = some .ireturn) (ht : M.2.2.2.1 = some .boolean) (hx : x = 0 ∨ x = 1) (hR : R c (.inr (some (.int x))) S) : Go X d k c pc ls [.int x] S R := go_rt hm hi (Or.inl rfl) (by rw [ht]; show (if x = 0 ∨ x = 1 then _ else none) = _; rw [if_pos hx]) hR
theorem go_lreturn {x : Int64} (hm : mtG k = some (M, o, cd)) (hi : lkp cd pc = some .lreturn) (ht : M.2.2.2.1 = some .long) (hR : R c (.inr (some (.long x))) S) : Go X d k c pc ls [.long x] S R := go_rt hm hi (Or.inr (Or.inl rfl)) (by rw [ht]; rfl) hR
theorem go_vreturn (hm : mtG k = some (M, o, cd)) (hi : lkp cd pc = some .return_) (ht : M.2.2.2.1 = none) (hR : R c (.inr none) S) : Go X d k c pc ls [] S R := go_rt hm hi (Or.inr (Or.inr (Or.inr rfl))) (by rw [ht]; rfl) hR
def csOK (k pc ix k' na nl : Nat) : Bool := (match ntC k ix with
  | some (k1, kd + 1, na1, _) => k1 == k' && na1 == na
  | _ => false) && ((match ntM k' with
  | some M' => Nat.ble nl M'.2.2.1
  | none => false) && (nX k pc && (tbT G0 k pc).isNone))
def cvOK (k pc ix k' na nl ci : Nat) : Bool := (match ntC k ix with
  | some (k1, 0, na1, ci1) => k1 == k' && (na1 == na && ci1 == ci)
  | _ => false) && ((match ntM k' with
  | some M' => Nat.ble nl M'.2.2.1
  | none => false) && (nX k pc && (tbT G0 k pc).isNone))
theorem sim_inv {G : TB} {n : Nat} {lv : LV} {σ : SG} (h : (∃ ix, i = .invokestatic ix) ∨ ∃ ix, i = .invokevirtual ix) : sim G k n pc i lv st σ = none := by
  have hA : simA pc i lv st σ = none := simA_none (by rcases h with ⟨ix, rfl⟩ | ⟨ix, rfl⟩ <;> rfl) _ _ _
  unfold sim
  rw [hA]
  rcases h with ⟨ix, rfl⟩ | ⟨ix, rfl⟩ <;> rfl
theorem rtn_inv (h : (∃ ix, i = .invokestatic ix) ∨ ∃ ix, i = .invokevirtual ix) (ret : Option FieldType) : rtn ret i st = none := by
  rcases h with ⟨ix, rfl⟩ | ⟨ix, rfl⟩ <;> (unfold rtn; split <;> first | rfl | (next h => cases h) | simp_all)
theorem nX_G {lv : LV} {σ : SG} (h : nX k pc = true) (d : Nat) : tbX G0 d k pc lv st σ = none := by
  simp only [nX, Bool.and_eq_true] at h
  show XX d k pc lv st σ = none
  unfold XX
  rw [nXm_ok h.1, nXt_ok h.2]
theorem rev_take {av rest : List Value} (hst : st = av.reverse ++ rest) : st.take av.length = av.reverse ∧ st.drop av.length = rest := by
  subst hst
  have := List.length_reverse (as := av)
  exact ⟨by rw [← this, List.take_left'  rfl], by rw [← this, List.drop_left' rfl]⟩
/-- what a called method's end leaves to do -/
def KP (X : XT) (d k c pc : Nat) (ls : LSt) (rest : List Value) (R' R : RT) : Prop := ∀ c2 o S', R' c2 o S' → ∃ v, c2 = 0 ∧ o = .inr v ∧ Go X d k c (pc + 3) ls (psh v rest) S' R
theorem go_ev {k' kd : Nat} {av rest : List Value} (hm : mtG k = some (M, o, cd)) (hi : lkp cd pc = some i) (hv : (∃ ix, i = .invokestatic ix) ∨ ∃ ix, i = .invokevirtual ix) (hn : nX k pc = true) (ht : tbT G0 k pc = none) (hc : ∀ σ, HV X S σ → cal G0 k i st σ = some (k', kd, av, rest)) (hcal : Cal X d k' av S R') (hk : KP X (d + 1) k c pc ls rest R' R) : Go X (d + 1) k c pc ls st S R := by
  intro lv σ hl hV
  obtain ⟨f1, c1, o1, S1, σ1, e1, q1, q2, q3⟩ := hcal σ hV
  obtain ⟨v, rfl, rfl, hg⟩ := hk _ _ _ q3
  obtain ⟨f2, c2, o2, S2, σ2, e2, p1, p2, p3⟩ := hg lv σ1 hl q1
  refine ⟨max f1 f2 + 1, c2, o2, S2, σ2, ?_, p1, q2.tr p2, p3⟩
  rw [ev_cal (nX_G hn _) (mt_M hm) (mt_F hm hi) (sim_inv hv) (rtn_inv hv _) ht (hc σ hV) (G0_up f1 (max f1 f2) d d _ _ _ _ _ _ _ (Nat.le_max_left _ _) (Nat.le_refl _) e1)]
  exact G0_up f2 (max f1 f2) _ _ _ _ _ _ _ _ _ (Nat.le_max_right _ _) (Nat.le_refl _) e2
theorem isNone_eq {α : Type} {o : Option α} (h : o.isNone = true) : o = none := by cases o with
  | none => rfl
  | some _ => cases h
theorem go_cs {ix k' nl : Nat} {av rest : List Value} (hm : mtG k = some (M, o, cd)) (hi : lkp cd pc = some (.invokestatic ix)) (hc : csOK k pc ix k' av.length nl = true) (hst : st = av.reverse ++ rest) (h8 : Nat.ble (cats rest) 8 = true) (hnl : Nat.ble (cats av) nl = true) (hcal : Cal X d k' av S R') (hk : KP X (d + 1) k c pc ls rest R' R) : Go X (d + 1) k c pc ls st S R := by
  simp only [csOK, Bool.and_eq_true] at hc
  obtain ⟨h1, h2, h3, h4⟩ := hc
  split at h1
  · next k1 kd na1 z hC =>
    simp only [Bool.and_eq_true, beq_iff_eq] at h1
    obtain ⟨rfl, rfl⟩ := h1
    split at h2
    · next M' hM =>
      refine go_ev hm hi (Or.inl ⟨ix, rfl⟩) h3 (isNone_eq h4) (kd := kd + 1) (fun σ hV => ?_) hcal hk
      have hC' : tbC G0 k ix = some (k1, kd + 1, av.length, z) := hC
      have hM' : tbM G0 k1 = some M' := hM
      obtain ⟨t1, t2⟩ := rev_take hst
      simp only [cal, hC', hM']
      rw [t1, t2, List.reverse_reverse, List.length_reverse, if_pos ⟨rfl, Nat.le_of_ble_eq_true h8, Nat.le_trans (Nat.le_of_ble_eq_true hnl) (Nat.le_of_ble_eq_true h2)⟩]
    · cases h2
  · cases h1
theorem go_cv {ix k' nl h : Nat} {oo : Nat × List FT} {As rest : List Value} (hm : mtG k = some (M, o, cd)) (hi : lkp cd pc = some (.invokevirtual ix)) (hX : X h = some (.inl oo)) (hc : cvOK k pc ix k' As.length nl oo.1 = true) (hst : st = (Value.ref h :: As).reverse ++ rest) (h8 : Nat.ble (cats rest) 8 = true) (hnl : Nat.ble (cats (.ref h :: As)) nl = true) (hcal : Cal X d k' (.ref h :: As) S R') (hk : KP X (d + 1) k c pc ls rest R' R) : Go X (d + 1) k c pc ls st S R := by
  simp only [cvOK, Bool.and_eq_true] at hc
  obtain ⟨h1, h2, h3, h4⟩ := hc
  split at h1
  · next k1 na1 ci1 hC =>
    simp only [Bool.and_eq_true, beq_iff_eq] at h1
    obtain ⟨rfl, rfl, rfl⟩ := h1
    split at h2
    · next M' hM =>
      refine go_ev hm hi (Or.inr ⟨ix, rfl⟩) h3 (isNone_eq h4) (kd := 0) (fun σ hV => ?_) hcal hk
      have hC' : tbC G0 k ix = some (k1, 0, As.length, oo.1) := hC
      have hM' : tbM G0 k1 = some M' := hM
      obtain ⟨t1, t2⟩ := rev_take hst
      have t1 : st.take (As.length + 1) = (Value.ref h :: As).reverse := t1
      have t2 : st.drop (As.length + 1) = rest := t2
      simp only [cal, hC', hM']
      rw [t1, t2, List.reverse_reverse]
      simp only [hV _ _ hX, cellS]
      rw [if_pos ⟨trivial, trivial, Nat.le_of_ble_eq_true h8, Nat.le_trans (Nat.le_of_ble_eq_true hnl) (Nat.le_of_ble_eq_true h2)⟩]
    · cases h2
  · cases h1
theorem KP_V {v : Option Value} {rest : List Value} (h : Go X d k c (pc + 3) ls (psh v rest) S1 R) : KP X d k c pc ls rest (RV v S1) R := by
  rintro c2 o S' ⟨rfl, rfl, rfl⟩
  exact ⟨v, rfl, rfl, h⟩
theorem KP_P {P : Option Value → ST → Prop} {rest : List Value} (h : ∀ v S', P v S' → Go X d k c (pc + 3) ls (psh v rest) S' R) : KP X d k c pc ls rest (RP P) R := by
  rintro c2 o S' ⟨rfl, v, rfl, q⟩
  exact ⟨v, rfl, rfl, h v S' q⟩
def lsA : List Value → LSt
  | [] => []
  | .long x :: r => some (.long x) :: none :: lsA r
  | v :: r => some v :: lsA r
theorem lsA_ok : ∀ (av : List Value) (n i : Nat) (v : Value), (∀ w ∈ av, w.category = 2 → ∃ x, w = .long x) → (lsA av)[i]? = some (some v) → lget (lv_args n av) (n + i) = some v
  | [], n, i, v, _, h => by cases h
  | w :: r, n, i, v, hw, h => by
    have hv : lv_args n (w :: r) = (n, w) :: lv_args (if w.category = 2 then n + 2 else n + 1) r := rfl
    rw [hv]
    have hr : ∀ w ∈ r, w.category = 2 → ∃ x, w = .long x := fun w hm => hw w (List.mem_cons_of_mem _ hm)
    by_cases hc : w.category = 2
    · obtain ⟨x, rfl⟩ := hw w (List.mem_cons_self ..) hc
      rw [if_pos hc]
      match i, h with
      | 0, h => cases h; exact lget_new _ _ _
      | 1, h => cases h
      | i + 2, h =>
        have := lsA_ok r (n + 2) i v hr h
        rw [show n + (i + 2) = n + 2 + i by omega]
        exact lget_old _ (by omega) this
    · rw [if_neg hc]
      have hl : lsA (w :: r) = some w :: lsA r := by
        cases w <;> first | rfl | exact absurd rfl hc
      rw [hl] at h
      match i, h with
      | 0, h => cases h; exact lget_new _ _ _
      | i + 1, h =>
        have := lsA_ok r (n + 1) i v hr h
        rw [show n + (i + 1) = n + 1 + i by omega]
        exact lget_old _ (by omega) this
def allL : List Value → Bool
  | [] => true
  | .double _ :: _ => false
  | _ :: r => allL r
theorem allL_ok : ∀ {av : List Value}, allL av = true → ∀ w ∈ av, w.category = 2 → ∃ x, w = .long x
  | [], _, w, hw, _ => by cases hw
  | u :: r, h, w, hw, hc => by
    have hr : allL r = true := by cases u <;> first | exact h | cases h
    rcases List.mem_cons.mp hw with rfl | hw
    · cases w with
      | long x => exact ⟨x, rfl⟩
      | double b => cases h
      | _ => cases hc
    · exact allL_ok hr w hw hc
theorem app_none {a : LSt} {m i : Nat} {v : Value} (h : (a ++ List.replicate m none)[i]? = some (some v)) : a[i]? = some (some v) := by
  rcases Nat.lt_or_ge i a.length with hl | hl
  · rw [List.getElem?_append_left hl] at h
    exact h
  · rw [List.getElem?_append_right hl] at h
    rw [List.getElem?_replicate] at h
    split at h <;> cases h
theorem cal_go {av : List Value} (m : Nat) (ha : allL av = true) (h : Go X d k 0 0 (lsA av ++ List.replicate m none) [] S R) : Cal X d k av S R := by
  intro σ hV
  refine h (lv_args 0 av) σ (fun i v hv => ?_) hV
  have := lsA_ok av 0 i v (allL_ok ha) (app_none hv)
  rw [Nat.zero_add] at this
  exact this
end Rules
/-! the reference's cells -/
def oM : Nat × List FT := (11, [.inl false, .inl false, .inr 141, .inr 142, .inl false, .inr 143, .inr 144, .inl false, .inl false, .inl false, .inl false, .inl false, .inl false, .inl false, .inr 145, .inl false, .inl false, .inl false, .inl false, .inr 146, .inl false, .inr 147, .inr 148, .inr 149, .inr 150, .inr 151, .inr 152, .inl false, .inr 153, .inr 154, .inr 155, .inr 156, .inr 157, .inr 158, .inl false, .inr 159, .inl false, .inr 160, .inl false, .inr 161, .inl false])
def XMl : List SHP := [.inl oM,
  .inr (0, 63), .inr (0, 693), .inr (1, 2), .inr (0, 600), .inr (0, 8), .inr (0, 63), .inr (0, 64), .inr (0, 64), .inr (0, 256), .inr (2, 14), .inr (2, 14), .inr (2, 14), .inr (2, 64), .inr (2, 12), .inr (0, 64), .inr (0, 12), .inr (0, 30), .inr (0, 12), .inr (0, 4), .inr (0, 4), .inr (0, 16)]
def XM : XT := fun h => if h < 140 then none else XMl[h - 140]?
theorem XM_140 : XM 140 = some (.inl oM) := rfl
