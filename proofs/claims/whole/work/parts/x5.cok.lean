/-! what evN says holds of the machine: the handles in use lie below the cells' number, so new addresses may be given -/
def clV (N : Nat) (v : Value) : Prop := ∀ h, v = .ref h → h < N
def clL (N : Nat) (lv : LV) : Prop := ∀ q ∈ lv, clV N q.2
def clS (N : Nat) (st : List Value) : Prop := ∀ v ∈ st, clV N v
def clE (N : Nat) : va_E → Prop
  | .inr o => ∀ v ∈ o.2, clV N v
  | .inl (_, _, .inr (.inr (.inr (.inr f)))) => ∀ j h, f j = some h → h < N
  | .inl _ => True
def clG (N : Nat) (σ : SG) : Prop := ∀ e ∈ σ, clE N e
theorem clV.up {N N' : Nat} {v : Value} (h : clV N v) (hn : N ≤ N') : clV N' v := fun x hx => Nat.lt_of_lt_of_le (h x hx) hn
theorem clL.up {N N' : Nat} {lv : LV} (h : clL N lv) (hn : N ≤ N') : clL N' lv := fun q hq => (h q hq).up hn
theorem clS.up {N N' : Nat} {st : List Value} (h : clS N st) (hn : N ≤ N') : clS N' st := fun q hq => (h q hq).up hn
theorem clE.up {N N' : Nat} {e : va_E} (h : clE N e) (hn : N ≤ N') : clE N' e := by
  match e, h with
  | .inr o, h => exact fun v hv => clV.up (h v hv) hn
  | .inl (_, _, .inr (.inr (.inr (.inr f)))), h => exact fun j x hx => Nat.lt_of_lt_of_le (h j x hx) hn
  | .inl (_, _, .inl _), _ => trivial
  | .inl (_, _, .inr (.inl _)), _ => trivial
  | .inl (_, _, .inr (.inr (.inl _))), _ => trivial
  | .inl (_, _, .inr (.inr (.inr (.inl _)))), _ => trivial
theorem clG.up {N N' : Nat} {σ : SG} (h : clG N σ) (hn : N ≤ N') : clG N' σ := fun e he => (h e he).up hn
theorem clG.add {N : Nat} {σ : SG} {e : va_E} (h : clG N σ) (he : clE N e) : clG N (σ ++ [e]) := fun x hx => by
  rcases List.mem_append.mp hx with hx | hx
  · exact h x hx
  · rw [List.mem_singleton.mp hx]; exact he
theorem clG.put {N h : Nat} {σ : SG} {e : va_E} (g : clG N σ) (he : clE N e) : clG N (σ.set h e) := fun x hx => by
  rcases List.mem_or_eq_of_mem_set hx with hx | rfl
  · exact g x hx
  · exact he
theorem clI {N : Nat} {x : Int32} : clV N (.int x) := fun h hh => nomatch hh
theorem clR {N h : Nat} (hh : h < N) : clV N (.ref h) := fun x hx => by cases hx; exact hh
theorem clS.tl {N : Nat} {v : Value} {st : List Value} (h : clS N (v :: st)) : clS N st := fun q hq => h q (List.mem_cons_of_mem _ hq)
theorem clS.hd {N : Nat} {v : Value} {st : List Value} (h : clS N (v :: st)) : clV N v := h v (List.mem_cons_self ..)
theorem clS.cs {N : Nat} {v : Value} {st : List Value} (hv : clV N v) (h : clS N st) : clS N (v :: st) := fun q hq => by
  rcases List.mem_cons.mp hq with rfl | hq
  · exact hv
  · exact h q hq
theorem clL.S1 {N i : Nat} {v : Value} {lv : LV} (hv : clV N v) (h : clL N lv) : clL N (lS1 i v lv) := fun q hq => by
  rcases List.mem_cons.mp hq with rfl | hq
  · exact hv
  · exact h q (List.mem_filter.mp hq).1
theorem clL.args {N : Nat} : ∀ (av : List Value) (i : Nat), clS N av → clL N (lv_args i av)
  | [], _, _ => fun q hq => nomatch hq
  | v :: r, i, h => fun q hq => by
    have hq : q ∈ (i, v) :: lv_args (if v.category = 2 then i + 2 else i + 1) r := hq
    rcases List.mem_cons.mp hq with rfl | hq
    · exact h.hd
    · exact clL.args r _ h.tl q hq
theorem stC_cl {n pc N : Nat} {i : Instr} {lv : LV} {st : List Value} {r : Nat × LV × List Value} (h : stC n pc i lv st = some r) (hl : clL N lv) (hs : clS N st) : clL N r.2.1 ∧ clS N r.2.2 := by
  unfold stC at h
  split at h
  · cases h; exact ⟨hl, clS.cs clI hs⟩
  · cases h; exact ⟨hl, clS.cs clI hs⟩
  · cases h; exact ⟨hl, clS.cs clI hs⟩
  · cases h; exact ⟨hl, clS.cs (fun h hh => nomatch hh) hs⟩
  · split at h
    · cases h; exact ⟨hl, clS.cs clI hs⟩
    · cases h
  · split at h
    · next x hx => cases h; exact ⟨hl, clS.cs (hl _ (lget_mem hx)) hs⟩
    · cases h
  · split at h
    · split at h
      · cases h; exact ⟨clL.S1 clI hl, hs.tl⟩
      · cases h
    · cases h
  · split at h
    · split at h
      · cases h; exact ⟨clL.S1 clI hl, hs⟩
      · cases h
    · cases h
  · split at h
    · cases h; exact ⟨hl, clS.cs hs.hd hs⟩
    · cases h
  · split at h
    · cases h; exact ⟨hl, hs⟩
    · cases h
  · split at h
    · split at h
      · cases h; exact ⟨hl, hs.tl.tl⟩
      · cases h
    · cases h
  · cases h
/-- the same addresses below N -/
def agr (N : Nat) (ad ad' : Nat → Nat) : Prop := ∀ h, h < N → ad' h = ad h
theorem agr_v {N : Nat} {ad ad' : Nat → Nat} (g : agr N ad ad') {v : Value} (h : clV N v) : vM ad' v = vM ad v := by
  cases v <;> first | rfl | (next x => show Value.ref _ = Value.ref _; rw [g x (h x rfl)])
theorem agr_s {N : Nat} {ad ad' : Nat → Nat} (g : agr N ad ad') {st : List Value} (h : clS N st) : st.map (vM ad') = st.map (vM ad) := List.map_congr_left (fun v hv => agr_v g (h v hv))
theorem agr_l {N : Nat} {ad ad' : Nat → Nat} (g : agr N ad ad') {lv : LV} (h : clL N lv) : lM ad' lv = lM ad lv := List.map_congr_left (fun q hq => by rw [agr_v g (h q hq)])
theorem agr_e {N : Nat} {cs : Nat → ClassId} {ad ad' : Nat → Nat} (g : agr N ad ad') {e : va_E} (h : clE N e) : eM cs ad' e = eM cs ad e := by
  match e, h with
  | .inr o, h => show Sum.inr (o.1, o.2.map (vM ad')) = Sum.inr (o.1, o.2.map (vM ad)); rw [agr_s g h]
  | .inl (t, n, .inr (.inr (.inr (.inr f)))), h =>
    have : (fun j => (f j).map ad') = fun j => (f j).map ad := by
      funext j
      cases hf : f j with
      | none => rfl
      | some x => show some (ad' x) = some (ad x); rw [g x (h j x hf)]
    unfold eM aM
    dsimp only
    rw [this]
  | .inl (_, _, .inl _), _ => rfl
  | .inl (_, _, .inr (.inl _)), _ => rfl
  | .inl (_, _, .inr (.inr (.inl _))), _ => rfl
  | .inl (_, _, .inr (.inr (.inr (.inl _)))), _ => rfl
theorem agr_w {N : Nat} {cs : Nat → ClassId} {ad ad' : Nat → Nat} (g : agr N ad ad') {σ : SG} (h : clG N σ) (hN : σ.length ≤ N) : wM cs ad' σ = wM cs ad σ := by
  unfold wM
  apply List.ext_getElem?
  intro j
  rw [List.getElem?_mapIdx, List.getElem?_mapIdx]
  cases hj : σ[j]? with
  | none => rfl
  | some e =>
    have hl := (List.getElem?_eq_some_iff.mp hj).1
    show some (ad' j, eM cs ad' e) = some (ad j, eM cs ad e)
    rw [g j (by omega), agr_e g (h e (List.mem_of_getElem? hj))]
def adA (N q : Nat) (ad : Nat → Nat) : Nat → Nat := fun h => if h = N then q else ad h
theorem adA_agr (N q : Nat) (ad : Nat → Nat) : agr N ad (adA N q ad) := fun h hh => by
  unfold adA
  rw [if_neg (by omega)]
def adj (ad : Nat → Nat) (N : Nat) (u : Nat → Nat) : Nat → Nat := fun h => if h < N then ad h else u h
theorem adj_agr (ad : Nat → Nat) (N : Nat) (u : Nat → Nat) : agr N ad (adj ad N u) := fun h hh => by
  unfold adj
  rw [if_pos hh]
theorem adj_self {ad0 ad : Nat → Nat} {N : Nat} (g : agr N ad0 ad) : adj ad0 N ad = ad := by
  funext h
  unfold adj
  split
  · next hh => exact (g h hh).symm
  · rfl
theorem wM_app {cs : Nat → ClassId} {ad : Nat → Nat} {σ : SG} {e : va_E} {q : Nat} {e' : Nat × va_E} (hg : clG σ.length σ) (he : e' = (q, eM cs (adA σ.length q ad) e)) : wM cs ad σ ++ [e'] = wM cs (adA σ.length q ad) (σ ++ [e]) := by
  have h1 := agr_w (cs := cs) (adA_agr σ.length q ad) hg (Nat.le_refl _)
  rw [he, ← h1]
  unfold wM
  rw [List.mapIdx_append]
  show _ = _ ++ [_]
  congr 2
  show (q, _) = (adA σ.length q ad (0 + σ.length), _)
  rw [Nat.zero_add]
  unfold adA
  rw [if_pos rfl]
theorem noref_cl {N : Nat} {fs : List Value} (h : fs.all noref = true) : ∀ v ∈ fs, clV N v := fun v hv x hx => by
  have := List.all_eq_true.mp h v hv
  rw [hx] at this
  cases this
theorem noref_map {ad : Nat → Nat} {fs : List Value} (h : fs.all noref = true) : fs.map (vM ad) = fs := by
  conv => rhs; rw [← List.map_id fs]
  exact List.map_congr_left (fun v hv => by
    have := List.all_eq_true.mp h v hv
    cases v <;> first | rfl | cases this)
theorem aval_cl {N t n k : Nat} : clE N (.inl (t, aval k n)) := by
  unfold aval
  split <;> trivial
theorem aval_eM {cs : Nat → ClassId} {ad : Nat → Nat} {t n k : Nat} : eM cs ad (.inl (t, aval k n)) = .inl (cs t, aval k n) := by
  unfold aval
  split <;> rfl
theorem up_map {ad : Nat → Nat} {g : Nat → Option Nat} {j v : Nat} : (fun k => (va_up g j (some v) k).map ad) = va_up (fun k => (g k).map ad) j (some (ad v)) := by
  funext k
  unfold va_up
  split <;> rfl
theorem va_RA_inj {U : State} {c1 c2 : ClassId} {C : String} (h1 : va_RA U c1 (.object C)) (h2 : va_RA U c2 (.object C)) : c1 = c2 := by
  obtain ⟨k1, p1, -, -, -, e1⟩ := h1
  obtain ⟨k2, p2, -, -, -, e2⟩ := h2
  exact Option.some.inj (e1.symm.trans e2)
/-- a constructor's body, from any place on -/
def BN (l : Launch) (D : va_G) (cs : Nat → ClassId) (f : Nat) : Prop := ∀ (d k pc : Nat) (lv : LV) (st : List Value) (c sl : Nat) (σ : SG) (r : Nat × Nat × SG) (t : CTb), evN f d k pc lv st c sl σ = some r → ctb k = some t →
  ∀ (p : Program) (e : Env) (s : State) (m : MethodId) (args : Array Value) (below : List Frame) (meth : Method) (code : Code) (H : Heap) (locs : List Loc) (ls : Array Slot) (A : Nat → Prop) (ad0 ad : Nat → Nat) (N0 : Nat),
    Cx p s m args meth code t.1.2.1 t.1.2.2.1 none t.1.1 D (T4 cs) A → va_P D CL (wM cs ad σ) H → va_D A (wM cs ad σ) → va_S A s.heap H locs → lv_has ls t.1.2.2.1 (lM ad lv) → clL σ.length lv → clS σ.length st → clG σ.length σ → N0 ≤ σ.length → agr N0 ad0 ad →
    W p l e (rmd d r.1 r.2.1) s m args below meth code H locs c sl (MQ below (qV D (T4 cs) (fun u : Nat → Nat => wM cs (adj ad0 N0 u) r.2.2) A) args s r.1 r.2.1 A) (F0 m pc ls (st.map (vM ad)))
def clEnd (f : Nat) : Prop := ∀ (d k pc : Nat) (lv : LV) (st : List Value) (c sl : Nat) (σ : SG) (r : Nat × Nat × SG), evN f d k pc lv st c sl σ = some r → clL σ.length lv → clS σ.length st → clG σ.length σ → clG r.2.2.length r.2.2
theorem evN_cl : ∀ f, clEnd f := by
  intro f
  induction f with
  | zero => intro d k pc lv st c sl σ r h; cases h
  | succ f ih =>
    intro d k pc lv st c sl σ r h hl hs hg
    have up1 : ∀ e : va_E, (σ ++ [e]).length = σ.length + 1 := fun e => by rw [List.length_append]; rfl
    unfold evN at h
    split at h
    · cases h
    · split at h
      · cases h
      · split at h
        · split at h
          · split at h
            · next hfs =>
              refine ih _ _ _ _ _ _ _ _ _ h ?_ ?_ ?_ <;> rw [up1]
              · exact hl.up (Nat.le_succ _)
              · exact clS.cs (clR (Nat.lt_succ_self _)) (hs.up (Nat.le_succ _))
              · exact (hg.up (Nat.le_succ _)).add (noref_cl hfs)
            · cases h
          · cases h
        · split at h
          · split at h
            · split at h
              · refine ih _ _ _ _ _ _ _ _ _ h ?_ ?_ ?_ <;> rw [up1]
                · exact hl.up (Nat.le_succ _)
                · exact clS.cs (clR (Nat.lt_succ_self _)) (hs.tl.up (Nat.le_succ _))
                · exact (hg.up (Nat.le_succ _)).add aval_cl
              · cases h
            · cases h
          · cases h
        · split at h
          · split at h
            · refine ih _ _ _ _ _ _ _ _ _ h ?_ ?_ ?_ <;> rw [up1]
              · exact hl.up (Nat.le_succ _)
              · exact clS.cs (clR (Nat.lt_succ_self _)) (hs.tl.up (Nat.le_succ _))
              · exact (hg.up (Nat.le_succ _)).add (fun j x hx => nomatch hx)
            · cases h
          · cases h
        · split at h
          · split at h
            · next hh hv =>
              split at h
              · refine ih _ _ _ _ _ _ _ _ _ h ?_ ?_ ?_ <;> rw [List.length_set]
                · exact hl
                · exact hs.tl.tl.tl
                · refine hg.put (fun k x hx => ?_)
                  unfold va_up at hx
                  split at hx
                  · cases hx; exact hs.hd _ rfl
                  · exact hg _ (List.mem_of_getElem? hh) k x hx
              · cases h
            · cases h
          · cases h
        · split at h
          · split at h
            · next hh =>
              split at h
              · split at h
                · next v hv => exact ih _ _ _ _ _ _ _ _ _ h hl (clS.cs (hg _ (List.mem_of_getElem? hh) v (List.mem_of_getElem? hv)) hs.tl) hg
                · cases h
              · cases h
            · cases h
          · cases h
        · split at h
          · split at h
            · next hh =>
              split at h
              · refine ih _ _ _ _ _ _ _ _ _ h ?_ ?_ ?_ <;> rw [List.length_set]
                · exact hl
                · exact hs.tl.tl
                · refine hg.put (fun v hv => ?_)
                  rcases List.mem_or_eq_of_mem_set hv with hv | rfl
                  · exact hg _ (List.mem_of_getElem? hh) v hv
                  · exact hs.hd
              · cases h
            · cases h
          · cases h
        · split at h
          · split at h
            · split at h
              · exact ih _ _ _ _ _ _ _ _ _ h hl hs.tl hg
              · cases h
            · cases h
          · split at h
            · split at h
              · next hrev =>
                split at h
                · split at h
                  · next h2 =>
                    have m2 := (evN_mono _ _ _ _ _ _ _ _ _ _ h2).2.2
                    have hav : clS σ.length (.ref _ :: _) := fun v hv => hs v (List.mem_of_mem_take (List.mem_reverse.mp (by rw [hrev]; exact hv)))
                    have g2 := ih _ _ _ _ _ _ _ _ _ h2 (clL.args _ 0 hav) (fun v hv => nomatch hv) hg
                    exact ih _ _ _ _ _ _ _ _ _ h (hl.up m2) (fun v hv => (hs v (List.mem_of_mem_drop hv)).up m2) g2
                  · cases h
                · cases h
              · cases h
            · cases h
        · split at h
          · cases h; exact hg
          · cases h
        · split at h
          · next r0 hr =>
            obtain ⟨k1, k2⟩ := stC_cl hr hl hs
            exact ih _ _ _ _ _ _ _ _ _ h k1 k2 hg
          · cases h
