section Xs
variable {X : XT} {G : TB} {k nL pc : Nat} {i : Instr} {ls : LSt} {lv : LV} {st : List Value} {S : ST} {σ : SG} {r : Nat × LSt × List Value × ST}
theorem xs_ok (hl : lvOK ls lv) (hV : HV X S σ) (h : xs X (tbK G k) nL pc i ls st S = some r) : ∃ lv' σ', sim G k nL pc i lv st σ = some (r.1, lv', r.2.2.1, σ') ∧ lvOK r.2.1 lv' ∧ HV X r.2.2.2 σ' ∧ Out X σ σ' := by
  unfold xs at h
  split at h
  · cases h
    exact ⟨lv, σ, sim_C (by rw [← ic_ok]; rfl), hl, hV, Out.rf⟩
  · split at h
    · next hc => cases h; exact ⟨lv, σ, sim_C (by rw [← ic8 hc]; rfl), hl, hV, Out.rf⟩
    · cases h
  · split at h
    · next hc => cases h; exact ⟨lv, σ, sim_C (by rw [← ic16 hc]; rfl), hl, hV, Out.rf⟩
    · cases h
  · cases h
    exact ⟨lv, σ, sim_C (by rw [← lc_ok]; rfl), hl, hV, Out.rf⟩
  · split at h
    · next v hv => cases h; exact ⟨lv, σ, sim_C (by simp only [simC, hv]), hl, hV, Out.rf⟩
    · cases h
  · split at h
    · next x hx => cases h; exact ⟨lv, σ, sim_C (by simp only [simC, hl _ _ hx]), hl, hV, Out.rf⟩
    · cases h
  · split at h
    · next x hx => cases h; exact ⟨lv, σ, sim_C (by simp only [simC, hl _ _ hx]), hl, hV, Out.rf⟩
    · cases h
  · split at h
    · next x hx => cases h; exact ⟨lv, σ, sim_C (by simp only [simC, hl _ _ hx]), hl, hV, Out.rf⟩
    · cases h
  · split at h
    · next x hx => cases h; exact ⟨lv, σ, sim_C (by simp only [simC, hl _ _ hx]), hl, hV, Out.rf⟩
    · cases h
  · split at h
    · next x hx => cases h; exact ⟨lv, σ, sim_C (by simp only [simC, hl _ _ hx]), hl, hV, Out.rf⟩
    · cases h
  · split at h
    · next x hx => cases h; exact ⟨lv, σ, sim_C (by simp only [simC, hl _ _ hx]), hl, hV, Out.rf⟩
    · cases h
  · split at h
    · split at h
      · next hc => cases h; exact ⟨_, σ, sim_S rfl (by simp only [simS]; rw [if_pos hc]), lvOK_1 hl _ _, hV, Out.rf⟩
      · cases h
    · cases h
  · split at h
    · split at h
      · next hc => cases h; exact ⟨_, σ, sim_S rfl (by simp only [simS]; rw [if_pos hc]), lvOK_1 hl _ _, hV, Out.rf⟩
      · cases h
    · cases h
  · split at h
    · split at h
      · next hc => cases h; exact ⟨_, σ, sim_S rfl (by simp only [simS]; rw [if_pos hc]), lvOK_2 hl _ _, hV, Out.rf⟩
      · cases h
    · cases h
  · split at h
    · split at h
      · next hc => cases h; exact ⟨_, σ, sim_S rfl (by simp only [simS]; rw [if_pos hc]), lvOK_2 hl _ _, hV, Out.rf⟩
      · cases h
    · cases h
  · split at h
    · split at h
      · next hc => cases h; exact ⟨_, σ, sim_S rfl (by simp only [simS]; rw [if_pos hc]), lvOK_1 hl _ _, hV, Out.rf⟩
      · cases h
    · cases h
  · split at h
    · split at h
      · next hc => cases h; exact ⟨_, σ, sim_S rfl (by simp only [simS]; rw [if_pos hc]), lvOK_1 hl _ _, hV, Out.rf⟩
      · cases h
    · cases h
  · split at h
    · next x hx =>
      split at h
      · next hc => cases h; exact ⟨_, σ, sim_S rfl (by simp only [simS, hl _ _ hx]; rw [if_pos hc, ic_ok]), lvOK_1 hl _ _, hV, Out.rf⟩
      · cases h
    · cases h
  · split at h
    · next hc => cases h; exact ⟨lv, σ, sim_B rfl rfl (simA_none rfl _ _ _) (by simp only [simB]; rw [if_pos hc]), hl, hV, Out.rf⟩
    · cases h
  · split at h
    · next ci kf ty fin h0 r0 hK =>
      split at h
      · next o hX =>
        split at h
        · next hc =>
          split at h
          · next t ht =>
            cases h
            refine ⟨lv, σ, sim_H rfl rfl (simA_none rfl _ _ _) rfl ?_, hl, hV, Out.rf⟩
            simp only [simH, hK, hV _ _ hX, cellS]
            rw [if_pos hc, List.getElem?_mapIdx, ht]
            rfl
          · cases h
        · cases h
      · cases h
    · cases h
  · split at h
    · next ci kf v h0 r0 hK =>
      split at h
      · next o hX =>
        split at h
        · next hc =>
          split at h
          · next ht =>
            cases h
            have hs := HV_set (S' := wI S h0 kf v) hV hX (fun h' hn => ⟨wI_o S kf v hn, by rw [wI_2]⟩) (e := .inr (o.1, (o.2.mapIdx (fV (S.1 h0) (S.2 h0))).set kf (.int v))) (by rw [wI_u, wI_2, cell_fI _ _ _ ht])
            refine ⟨lv, _, sim_H rfl rfl (simA_none rfl _ _ _) rfl ?_, hl, hs.1, hs.2⟩
            simp only [simH, hK, hV _ _ hX, cellS]
            rw [if_pos ⟨hc, by simpa using (List.getElem?_eq_some_iff.mp ht).1, rfl, rfl⟩]
          · cases h
        · cases h
      · cases h
    · next ci kf v h0 r0 hK =>
      split at h
      · next o hX =>
        split at h
        · next hc =>
          split at h
          · next ht =>
            split at h
            · next hb =>
              cases h
              have hs := HV_set (S' := wI S h0 kf v) hV hX (fun h' hn => ⟨wI_o S kf v hn, by rw [wI_2]⟩) (e := .inr (o.1, (o.2.mapIdx (fV (S.1 h0) (S.2 h0))).set kf (.int v))) (by rw [wI_u, wI_2, cell_fI _ _ _ ht])
              refine ⟨lv, _, sim_H rfl rfl (simA_none rfl _ _ _) rfl ?_, hl, hs.1, hs.2⟩
              simp only [simH, hK, hV _ _ hX, cellS]
              rw [if_pos ⟨hc, by simpa using (List.getElem?_eq_some_iff.mp ht).1, by rcases hb with rfl | rfl <;> rfl, by rcases hb with rfl | rfl <;> rfl⟩]
            · cases h
          · cases h
        · cases h
      · cases h
    · next ci kf v h0 r0 hK =>
      split at h
      · next o hX =>
        split at h
        · next hc =>
          split at h
          · next ht =>
            cases h
            have hs := HV_set (S' := wL S h0 kf v) hV hX (fun h' hn => ⟨by rw [wL_1], wL_o S kf v hn⟩) (e := .inr (o.1, (o.2.mapIdx (fV (S.1 h0) (S.2 h0))).set kf (.long v))) (by rw [wL_u, wL_1, cell_fL _ _ _ ht])
            refine ⟨lv, _, sim_H rfl rfl (simA_none rfl _ _ _) rfl ?_, hl, hs.1, hs.2⟩
            simp only [simH, hK, hV _ _ hX, cellS]
            rw [if_pos ⟨hc, by simpa using (List.getElem?_eq_some_iff.mp ht).1, rfl, rfl⟩]
          · cases h
        · cases h
      · cases h
    · cases h
  · next n1 n2 n3 n4 n5 n6 n7 n8 n9 n10 n11 n12 n13 n14 n15 n16 n17 n18 n19 n20 n21 =>
    have hne : ∀ i', arI i' = false → simA pc i' [] st [] = none := fun i' hi => simA_none hi _ _ _
    by_cases ha : arI i = true
    · refine xs_rest hl hV ?_ ?_ ?_ ?_ h <;> intro st σ <;> (unfold arI at ha; split at ha <;> first | rfl | cases ha)
    · have ha : arI i = false := by simpa using ha
      rw [hne i ha] at h
      dsimp only at h
      split at h
      · next q hq =>
        exfalso
        unfold simU at hq
        split at hq <;> first | cases hq | cases ha
      · split at h
        · next q hq =>
          exfalso
          unfold simD at hq
          split at hq <;> first | cases hq | cases ha
        · cases h
end Xs
/-- a run from a place on, in the picture: it ends, and of its end R holds; cells out of the picture stay -/
def Go (X : XT) (d k c pc : Nat) (ls : LSt) (st : List Value) (S : ST) (R : RT) : Prop :=
  ∀ lv σ, lvOK ls lv → HV X S σ → ∃ f c' o S' σ', ev G0 f d k pc lv st c σ = some (c', o, σ') ∧ HV X S' σ' ∧ Out X σ σ' ∧ R c' o S'
def Cal (X : XT) (d k : Nat) (av : List Value) (S : ST) (R : RT) : Prop :=
  ∀ σ, HV X S σ → ∃ f c' o S' σ', ev G0 f d k 0 (lv_args 0 av) [] 0 σ = some (c', o, σ') ∧ HV X S' σ' ∧ Out X σ σ' ∧ R c' o S'
/-- it returns v, in the state S1 -/
def RV (v : Option Value) (S1 : ST) : RT := fun c o S' => c = 0 ∧ o = .inr v ∧ S' = S1
/-- it returns, and P holds -/
def RP (P : Option Value → ST → Prop) : RT := fun c o S' => c = 0 ∧ ∃ v, o = .inr v ∧ P v S'
theorem G0_up : ∀ (f f' d d' k pc : Nat) (lv : LV) (st : List Value) (c : Nat) (σ : SG) (r : Nat × OC × SG), f ≤ f' → d ≤ d' → ev G0 f d k pc lv st c σ = some r → ev G0 f' d' k pc lv st c σ = some r := ev_up G0 (fun _ _ _ _ _ _ _ => rfl)
section Rules
variable {X : XT} {d d' k c pc pc' : Nat} {ls ls' : LSt} {st r : List Value} {S S' : ST} {R R' : RT} {M : MI} {o : Nat} {cd : List (Nat × Instr)} {i : Instr}
theorem Go.up (h : Go X d k c pc ls st S R) (hd : d ≤ d') : Go X d' k c pc ls st S R := by
  intro lv σ hl hV
  obtain ⟨f, c', o, S', σ', e, q⟩ := h lv σ hl hV
  exact ⟨f, c', o, S', σ', G0_up _ _ _ _ _ _ _ _ _ _ _ (Nat.le_refl _) hd e, q⟩
theorem Cal.up {av : List Value} (h : Cal X d k av S R) (hd : d ≤ d') : Cal X d' k av S R := by
  intro σ hV
  obtain ⟨f, c', o, S', σ', e, q⟩ := h σ hV
  exact ⟨f, c', o, S', σ', G0_up _ _ _ _ _ _ _ _ _ _ _ (Nat.le_refl _) hd e, q⟩
theorem Go.im (h : Go X d k c pc ls st S R) (hR : ∀ c o S', R c o S' → R' c o S') : Go X d k c pc ls st S R' := by
  intro lv σ hl hV
  obtain ⟨f, c', o, S', σ', e, q1, q2, q3⟩ := h lv σ hl hV
  exact ⟨f, c', o, S', σ', e, q1, q2, hR _ _ _ q3⟩
theorem Cal.im {av : List Value} (h : Cal X d k av S R) (hR : ∀ c o S', R c o S' → R' c o S') : Cal X d k av S R' := by
  intro σ hV
  obtain ⟨f, c', o, S', σ', e, q1, q2, q3⟩ := h σ hV
  exact ⟨f, c', o, S', σ', e, q1, q2, hR _ _ _ q3⟩
theorem Go.le (h : Go X d k c pc ls' st S R) (hle : leS ls' ls true) : Go X d k c pc ls st S R := fun lv σ hl hV => h lv σ (fun i v hv => hl i v (leS_ok hle i v hv)) hV
theorem pl_nX (hm : mtG k = some (M, o, cd)) (hi : lkp cd pc = some i) (hp : plI i = true) (d : Nat) (lv : LV) (st : List Value) (σ : SG) : tbX G0 d k pc lv st σ = none := by
  have hF : ntF k pc = some i := by unfold ntF; rw [hm]; exact hi
  have h1 : xM k pc lv st σ = none := by
    unfold xM
    rw [hF]
    cases i <;> first | rfl | cases hp
  have h2 : xT k pc lv st σ = none := by
    unfold xT
    rw [hF]
    cases i <;> first | rfl | cases hp
  show XX d k pc lv st σ = none
  unfold XX
  rw [h1]
  exact h2
theorem mt_M (hm : mtG k = some (M, o, cd)) : tbM G0 k = some M := by
  show ntM k = some M
  unfold ntM
  rw [hm]
theorem mt_F (hm : mtG k = some (M, o, cd)) (hi : lkp cd pc = some i) : tbF G0 k pc = some i := by
  show ntF k pc = some i
  unfold ntF
  rw [hm]
  exact hi
theorem mt_K (hm : mtG k = some (M, o, cd)) : tbK G0 k = lkO o := by
  show ntK k = lkO o
  unfold ntK
  rw [hm]
/-- one step that the machine does by itself -/
theorem go_sim (hm : mtG k = some (M, o, cd)) (hi : lkp cd pc = some i) (hp : plI i = true) (hs : ∀ lv σ, lvOK ls lv → HV X S σ → ∃ lv' σ', sim G0 k M.2.2.1 pc i lv st σ = some (pc', lv', r, σ') ∧ lvOK ls' lv' ∧ HV X S' σ' ∧ Out X σ σ') (hn : Go X d k c pc' ls' r S' R) : Go X d k c pc ls st S R := by
  intro lv σ hl hV
  obtain ⟨lv', σ1, e1, h1, h2, h3⟩ := hs lv σ hl hV
  obtain ⟨f, c', o', S2, σ2, e2, q1, q2, q3⟩ := hn lv' σ1 h1 h2
  refine ⟨f + 1, c', o', S2, σ2, ?_, q1, h3.tr q2, q3⟩
  rw [ev_sim (pl_nX hm hi hp d lv st σ) (mt_M hm) (mt_F hm hi) e1]
  exact e2
def runX (X : XT) (cd : List (Nat × Instr)) (K : LK) (nL : Nat) : Nat → Nat → LSt → List Value → ST → Option (Nat × LSt × List Value × ST)
  | 0, pc, ls, st, S => some (pc, ls, st, S)
  | n + 1, pc, ls, st, S => match lkp cd pc with
    | some i => if plI i = true then (match xs X K nL pc i ls st S with
      | some r => runX X cd K nL n r.1 r.2.1 r.2.2.1 r.2.2.2
      | none => none) else none
    | none => none
theorem go_run (hm : mtG k = some (M, o, cd)) (n : Nat) : ∀ {pc : Nat} {ls : LSt} {st : List Value} {S : ST} {pc' : Nat} {ls' : LSt} {st' : List Value} {S' : ST}, runX X cd (lkO o) M.2.2.1 n pc ls st S = some (pc', ls', st', S') → Go X d k c pc' ls' st' S' R → Go X d k c pc ls st S R := by
  induction n with
  | zero => intro pc ls st S pc' ls' st' S' h hn; cases h; exact hn
  | succ n ih =>
    intro pc ls st S pc' ls' st' S' h hn
    unfold runX at h
    split at h
    · next i hi =>
      split at h
      · next hp =>
        split at h
        · next q hq =>
          refine go_sim hm hi hp (fun lv σ hl hV => ?_) (ih h hn)
          rw [← mt_K hm] at hq
          exact xs_ok hl hV hq
        · cases h
      · cases h
    · cases h
theorem go_jump {pc2 : Nat} (h : Go X d k c pc' ls st S R) (hp : pc2 = pc') : Go X d k c pc2 ls st S R := by rw [hp]; exact h
/-- the proposition at the bottom of a branch, and whether the branch is taken where it holds -/
def cB (cn : ClassFile.Cond) (x y : Int32) : Prop := match cn with
  | .eq => x = y
  | .ne => x = y
  | .lt => x < y
  | .ge => x < y
  | .gt => y < x
  | .le => y < x
def cT : ClassFile.Cond → Bool
  | .eq | .lt | .gt => true
  | _ => false
def brP (cn : ClassFile.Cond) (pc : Nat) (off : Int) : Option (Nat × Nat) := if 0 ≤ (pc : Int) + off then some (if cT cn = true then (((pc : Int) + off).toNat, pc + 3) else (pc + 3, ((pc : Int) + off).toNat)) else none
theorem cB_pos {cn : ClassFile.Cond} {x y : Int32} (h : cB cn x y) : cI cn x y = cT cn := by
  have hx : y < x ↔ y.toInt < x.toInt := Int32.lt_iff_toInt_lt
  have hy : x < y ↔ x.toInt < y.toInt := Int32.lt_iff_toInt_lt
  have hu : x ≤ y ↔ x.toInt ≤ y.toInt := Int32.le_iff_toInt_le
  have hv : y ≤ x ↔ y.toInt ≤ x.toInt := Int32.le_iff_toInt_le
  cases cn <;> simp only [cB, cI, cT, hx, hy, hu, hv, decide_eq_true_eq, decide_eq_false_iff_not] at * <;> first | exact h | omega | (intro z; exact z h)
theorem cB_neg {cn : ClassFile.Cond} {x y : Int32} (h : ¬ cB cn x y) : cI cn x y = !(cT cn) := by
  have hx : y < x ↔ y.toInt < x.toInt := Int32.lt_iff_toInt_lt
  have hy : x < y ↔ x.toInt < y.toInt := Int32.lt_iff_toInt_lt
  have hu : x ≤ y ↔ x.toInt ≤ y.toInt := Int32.le_iff_toInt_le
  have hv : y ≤ x ↔ y.toInt ≤ x.toInt := Int32.le_iff_toInt_le
  cases cn <;> simp only [cB, cI, cT, hx, hy, hu, hv, Bool.not_true, Bool.not_false, decide_eq_true_eq, decide_eq_false_iff_not] at * <;> first | exact h | omega
theorem brP_ok {cn : ClassFile.Cond} {off : Int} {p1 p2 : Nat} (hp : brP cn pc off = some (p1, p2)) : 0 ≤ (pc : Int) + off ∧ ∀ b, (if b = true then ((pc : Int) + off).toNat else pc + 3) = if b = cT cn then p1 else p2 := by
  unfold brP at hp
  split at hp
  · next h0 =>
    refine ⟨h0, fun b => ?_⟩
    have hp := Option.some.inj hp
    cases hc : cT cn with
    | true =>
      rw [hc, if_pos rfl] at hp
      obtain ⟨rfl, rfl⟩ := Prod.mk.inj hp
      rfl
    | false =>
      rw [hc, if_neg Bool.false_ne_true] at hp
      obtain ⟨rfl, rfl⟩ := Prod.mk.inj hp
      cases b <;> rfl
  · cases hp
theorem go_if0 {cn : ClassFile.Cond} {off : Int} {x : Int32} {p1 p2 : Nat} (hm : mtG k = some (M, o, cd)) (hi : lkp cd pc = some (.ifCond cn off)) (hp : brP cn pc off = some (p1, p2)) (h1 : cB cn x 0 → Go X d k c p1 ls r S R) (h2 : ¬ cB cn x 0 → Go X d k c p2 ls r S R) : Go X d k c pc ls (.int x :: r) S R := by
  obtain ⟨ho, hb⟩ := brP_ok hp
  by_cases hc : cB cn x 0
  · refine go_sim hm hi rfl (fun lv σ hl hV => ⟨lv, σ, sim_B rfl rfl (simA_none rfl _ _ _) ?_, hl, hV, Out.rf⟩) (h1 hc)
    simp only [simB]
    rw [if_pos ho, hb, cB_pos hc, if_pos rfl]
  · refine go_sim hm hi rfl (fun lv σ hl hV => ⟨lv, σ, sim_B rfl rfl (simA_none rfl _ _ _) ?_, hl, hV, Out.rf⟩) (h2 hc)
    simp only [simB]
    rw [if_pos ho, hb, cB_neg hc, if_neg (by cases cT cn <;> decide)]
theorem go_if2 {cn : ClassFile.Cond} {off : Int} {x y : Int32} {p1 p2 : Nat} (hm : mtG k = some (M, o, cd)) (hi : lkp cd pc = some (.if_icmp cn off)) (hp : brP cn pc off = some (p1, p2)) (h1 : cB cn x y → Go X d k c p1 ls r S R) (h2 : ¬ cB cn x y → Go X d k c p2 ls r S R) : Go X d k c pc ls (.int y :: .int x :: r) S R := by
  obtain ⟨ho, hb⟩ := brP_ok hp
  by_cases hc : cB cn x y
  · refine go_sim hm hi rfl (fun lv σ hl hV => ⟨lv, σ, sim_B rfl rfl (simA_none rfl _ _ _) ?_, hl, hV, Out.rf⟩) (h1 hc)
    simp only [simB]
    rw [if_pos ho, hb, cB_pos hc, if_pos rfl]
  · refine go_sim hm hi rfl (fun lv σ hl hV => ⟨lv, σ, sim_B rfl rfl (simA_none rfl _ _ _) ?_, hl, hV, Out.rf⟩) (h2 hc)
    simp only [simB]
    rw [if_pos ho, hb, cB_neg hc, if_neg (by cases cT cn <;> decide)]
def b2i (b : Bool) : Int32 := match b with
  | true => 1
  | false => 0
theorem b2i_01 (b : Bool) : b2i b = 0 ∨ b2i b = 1 := by cases b <;> decide
theorem b2i_eq0 (b : Bool) : b2i b = 0 ↔ b = false := by cases b <;> decide
theorem b2i_inj (a b : Bool) : b2i a = b2i b ↔ a = b := by cases a <;> cases b <;> decide
def brN (cn : ClassFile.Cond) : Bool := match cn with
  | .eq | .ne => true
  | _ => false
theorem go_ifb {cn : ClassFile.Cond} {off : Int} {b : Bool} {p1 p2 : Nat} (hm : mtG k = some (M, o, cd)) (hi : lkp cd pc = some (.ifCond cn off)) (hp : (brP cn pc off, brN cn) = (some (p2, p1), true)) (h1 : b = true → Go X d k c p1 ls r S R) (h2 : b = false → Go X d k c p2 ls r S R) : Go X d k c pc ls (.int (b2i b) :: r) S R := by
  obtain ⟨hp, hn⟩ := Prod.mk.inj hp
  have hB : cB cn (b2i b) 0 ↔ b = false := by cases cn <;> first | exact b2i_eq0 b | cases hn
  refine go_if0 hm hi hp (fun q => h2 (hB.mp q)) (fun q => h1 ?_)
  cases b with
  | true => rfl
  | false => exact absurd (hB.mpr rfl) q
theorem go_ifbb {cn : ClassFile.Cond} {off : Int} {a b : Bool} {p1 p2 : Nat} (hm : mtG k = some (M, o, cd)) (hi : lkp cd pc = some (.if_icmp cn off)) (hp : (brP cn pc off, brN cn) = (some (p1, p2), true)) (h1 : a = b → Go X d k c p1 ls r S R) (h2 : ¬ a = b → Go X d k c p2 ls r S R) : Go X d k c pc ls (.int (b2i b) :: .int (b2i a) :: r) S R := by
  obtain ⟨hp, hn⟩ := Prod.mk.inj hp
  have hB : cB cn (b2i a) (b2i b) ↔ a = b := by cases cn <;> first | exact b2i_inj a b | cases hn
  exact go_if2 hm hi hp (fun q => h1 (hB.mp q)) (fun q => h2 (fun z => q (hB.mpr z)))
def cQ (cn : ClassFile.Cond) (x y : Int64) : Prop := match cn with
  | .eq => x = y
  | .ne => x = y
  | .lt => x < y
  | .ge => x < y
  | .gt => y < x
  | .le => y < x
theorem cQ_ok {cn : ClassFile.Cond} {x y : Int64} : cB cn (lcm3 x y) 0 ↔ cQ cn x y := by
  have hx : y < x ↔ y.toInt < x.toInt := Int64.lt_iff_toInt_lt
  have hy : x < y ↔ x.toInt < y.toInt := Int64.lt_iff_toInt_lt
  have hz : x = y ↔ x.toInt = y.toInt := Int64.toInt_inj.symm
  have key : (lcm3 x y = 0 ↔ x = y) ∧ (lcm3 x y < 0 ↔ x < y) ∧ (0 < lcm3 x y ↔ y < x) := by
    unfold lcm3
    by_cases h1 : y < x
    · rw [if_pos h1]
      have := hx.mp h1
      refine ⟨⟨fun q => absurd q (by decide), fun q => ?_⟩, ⟨fun q => absurd q (by decide), fun q => ?_⟩, ⟨fun _ => h1, fun _ => by decide⟩⟩
      · have := hz.mp q; omega
      · have := hy.mp q; omega
    · rw [if_neg h1]
      by_cases h2 : x = y
      · rw [if_pos h2]
        refine ⟨⟨fun _ => h2, fun _ => rfl⟩, ⟨fun q => absurd q (by decide), fun q => ?_⟩, ⟨fun q => absurd q (by decide), fun q => absurd q h1⟩⟩
        have := hz.mp h2
        have := hy.mp q
        omega
      · rw [if_neg h2]
        refine ⟨⟨fun q => absurd q (by decide), fun q => absurd q h2⟩, ⟨fun _ => hy.mpr ?_, fun _ => by decide⟩, ⟨fun q => absurd q (by decide), fun q => absurd q h1⟩⟩
        have a1 : ¬ y.toInt < x.toInt := fun q => h1 (hx.mpr q)
        have a2 : ¬ x.toInt = y.toInt := fun q => h2 (hz.mpr q)
        omega
  cases cn
  · exact key.1
  · exact key.1
  · exact key.2.1
  · exact key.2.1
  · exact key.2.2
  · exact key.2.2
/-- lcmp and the branch behind it -/
theorem go_lif {cn : ClassFile.Cond} {off : Int} {x y : Int64} {p1 p2 : Nat} (hm : mtG k = some (M, o, cd)) (h0 : lkp cd pc = some .lcmp) (hi : lkp cd (pc + 1) = some (.ifCond cn off)) (hp : brP cn (pc + 1) off = some (p1, p2)) (h1 : cQ cn x y → Go X d k c p1 ls r S R) (h2 : ¬ cQ cn x y → Go X d k c p2 ls r S R) : Go X d k c pc ls (.long y :: .long x :: r) S R :=
  go_run hm 1 (pc' := pc + 1) (ls' := ls) (st' := .int (lcm3 x y) :: r) (S' := S) (by unfold runX; rw [h0]; rfl) (go_if0 hm hi hp (fun q => h1 (cQ_ok.mp q)) (fun q => h2 (fun z => q (cQ_ok.mpr z))))
theorem go_irem {x y : Int32} (hm : mtG k = some (M, o, cd)) (hi : lkp cd pc = some .irem) (hy : ¬ y = 0) (hn : Go X d k c (pc + 1) ls (.int (x - x / y * y) :: r) S R) : Go X d k c pc ls (.int y :: .int x :: r) S R :=
  go_sim hm hi rfl (fun lv σ hl hV => ⟨lv, σ, sim_A rfl rfl (by simp only [simA, bI]; rw [if_neg hy]), hl, hV, Out.rf⟩) hn
def inB (j : Int32) (n : Nat) : Prop := 0 ≤ j.toInt ∧ j.toInt < n
theorem inB_ok {j : Int32} {n : Nat} (h : inB j n) : inN j n = true := by
  unfold inN
  have h0 : ¬ j < 0 := fun q => by
    have := Int32.lt_iff_toInt_lt.mp q
    have h1 := h.1
    have : j.toInt < 0 := this
    omega
  have h1 : j.toNatClampNeg < n := by
    show j.toInt.toNat < n
    have := h.2
    have := h.1
    omega
  simp [h0, h1]
theorem inB_lit {j : Int32} {n : Nat} (h : (decide (0 ≤ j.toInt) && decide (j.toInt < n)) = true) : inB j n := by
  simp only [Bool.and_eq_true, decide_eq_true_eq] at h
  exact h
end Rules
