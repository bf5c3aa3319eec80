theorem lkf {α : Type} {l : List (Nat × α)} {ix : Nat} {q : Nat × α} (h : l.find? (fun q => q.1 == ix) = some q) : q ∈ l ∧ q.1 = ix := ⟨List.mem_of_find?_eq_some h, by simpa using List.find?_some h⟩
theorem adA_self (N q : Nat) (ad : Nat → Nat) : adA N q ad N = q := by unfold adA; rw [if_pos rfl]
theorem atyp_ok {cs : Nat → ClassId} {ty : ArrayType} {t0 : Nat} {fty : FieldType} (h : atyp ty = some (t0, fty)) : newarray.typeOf ty = fty ∧ Cond.arrayClass (newarray.typeOf ty) ∈ Big ∧ (T4 cs)[t0]? = some (cs t0, fty) ∧ (∀ (n : Nat) (cA : ClassId), vp_cell cA (aval t0 n) = arrV cA n (fun _ => defaultValue fty)) ∧ componentBytes fty ≤ 8 := by
  unfold atyp at h
  split at h
  · cases h; exact ⟨rfl, arw_int, rfl, fun _ _ => rfl, by decide⟩
  · cases h; exact ⟨rfl, arw_boolean, rfl, fun _ _ => rfl, by decide⟩
  · cases h; exact ⟨rfl, arw_long, rfl, fun _ _ => rfl, by decide⟩
  · cases h
theorem stC_len {n pc : Nat} {i : Instr} {lv : LV} {st : List Value} {r : Nat × LV × List Value} (h : stC n pc i lv st = some r) : ilc i = ilen i := by
  unfold stC at h
  split at h <;> first | rfl | cases h
theorem lkz {own : String} {k : Nat} : lkOK own (tbK GZ k) := ⟨(fun _ _ _ _ _ h => by cases h), (fun _ _ h => by cases h), (fun _ _ h => by cases h)⟩
theorem rm_ctor {d c2 s2 c s n : Nat} (hn : n ≤ 150) : (rmd d c2 s2).frames + 1 ≤ (rmd (d + 1) c s).frames ∧ 8 + (n + 11) + (rmd d c2 s2).locals ≤ (rmd (d + 1) c s).locals := by
  simp only [rmd]
  omega
set_option maxHeartbeats 4000000 in
theorem evN_ok {l : Launch} {D : va_G} {cs : Nat → ClassId} : ∀ f, BN l D cs f := by
  intro f
  induction f with
  | zero => intro d k pc lv st c sl σ r t h; cases h
  | succ f ih =>
    intro d k pc lv st c sl σ r t h ht p e s m args below meth code H locs ls A ad0 ad N0 C hP hD hS hl cl cst cg hN0 hag
    have C0 := C
    obtain ⟨hx, hb, hml, hown, hts, hK, hA, hXw, hSx, hlocks, -⟩ := C0
    obtain ⟨⟨t1, t2, t3, t4⟩, tcode, tf, tn, ta, tc, to⟩ := ctb_ok k t ht
    have agA : ∀ q, agr N0 ad0 (adA σ.length q ad) := fun q h0 hh => (adA_agr _ _ _ h0 (by omega)).trans (hag h0 hh)
    have up1 : ∀ e : va_E, (σ ++ [e]).length = σ.length + 1 := fun e => by rw [List.length_append]; rfl
    unfold evN at h
    rw [ht] at h
    dsimp only at h
    split at h
    · cases h
    · next i hi =>
      have hdg := dOC_lk tcode hi
      split at h
      · next ix =>
        split at h
        · next q9 ci N fs hf =>
          split at h
          · next hfs =>
            obtain ⟨hmem, rfl⟩ := lkf hf
            have F := tn _ hmem
            have hm2 := evN_mono _ _ _ _ _ _ _ _ _ _ h
            refine r_new C hP hD hS F hm2.1 hm2.2.1 hdg (fun q H1 h1 h2 h3 => ?_)
            have e1 : wM cs ad σ ++ [(q, Sum.inr (ci, fs))] = wM cs (adA σ.length q ad) (σ ++ [.inr (ci, fs)]) := wM_app cg (by show _ = (q, Sum.inr (ci, fs.map _)); rw [noref_map hfs])
            rw [e1] at h1 h2
            have e2 : Value.ref q :: st.map (vM ad) = (Value.ref σ.length :: st).map (vM (adA σ.length q ad)) := by
              rw [List.map_cons, agr_s (adA_agr _ _ _) cst]
              show _ = Value.ref (adA σ.length q ad σ.length) :: _
              rw [adA_self]
            rw [e2]
            refine ih _ _ _ _ _ _ _ _ _ t h ht p e s m args below meth code H1 locs ls A ad0 _ N0 C h1 h2 h3 (by rw [agr_l (adA_agr _ _ _) cl]; exact hl) ?_ ?_ ?_ (by rw [up1]; omega) (agA q) <;> rw [up1]
            · exact cl.up (Nat.le_succ _)
            · exact clS.cs (clR (Nat.lt_succ_self _)) (cst.up (Nat.le_succ _))
            · exact (cg.up (Nat.le_succ _)).add (noref_cl hfs)
          · cases h
        · cases h
      · next ty =>
        split at h
        · next n r0 =>
          split at h
          · next t0 fty hty =>
            split at h
            · next hn =>
              obtain ⟨y1, y2, y3, y4, y5⟩ := atyp_ok (cs := cs) hty
              have hm2 := evN_mono _ _ _ _ _ _ _ _ _ _ h
              have hby : n.toNatClampNeg * componentBytes fty ≤ 536870912 := Nat.le_trans (Nat.mul_le_mul hn.2 y5) (Nat.le_of_ble_eq_true rfl)
              refine r_newa C hP hD hS y2 y1 t0 y3 (y4 n.toNatClampNeg) hn.1 rfl hby hm2.1 hm2.2.1 hdg (fun q H1 h1 h2 h3 => ?_)
              have e1 : wM cs ad σ ++ [(q, Sum.inl (cs t0, aval t0 n.toNatClampNeg))] = wM cs (adA σ.length q ad) (σ ++ [.inl (t0, aval t0 n.toNatClampNeg)]) := wM_app cg (by rw [aval_eM])
              rw [e1] at h1 h2
              have e2 : Value.ref q :: r0.map (vM ad) = (Value.ref σ.length :: r0).map (vM (adA σ.length q ad)) := by
                rw [List.map_cons, agr_s (adA_agr _ _ _) cst.tl]
                show _ = Value.ref (adA σ.length q ad σ.length) :: _
                rw [adA_self]
              rw [e2]
              refine ih _ _ _ _ _ _ _ _ _ t h ht p e s m args below meth code H1 locs ls A ad0 _ N0 C h1 h2 h3 (by rw [agr_l (adA_agr _ _ _) cl]; exact hl) ?_ ?_ ?_ (by rw [up1]; omega) (agA q) <;> rw [up1]
              · exact cl.up (Nat.le_succ _)
              · exact clS.cs (clR (Nat.lt_succ_self _)) (cst.tl.up (Nat.le_succ _))
              · exact (cg.up (Nat.le_succ _)).add aval_cl
            · cases h
          · cases h
        · cases h
      · next ix =>
        split at h
        · next n r0 =>
          split at h
          · next hn =>
            have hm2 := evN_mono _ _ _ _ _ _ _ _ _ _ h
            refine va_newq hx hb hown (hts _ (ta ix (by simpa using hn.1))) hSx.2.1 hK hP hD hS hA hn.2.1 rfl (Nat.le_trans (Nat.mul_le_mul hn.2.2 (Nat.le_refl 4)) (Nat.le_of_ble_eq_true rfl)) hm2.1 hm2.2.1 hdg (fun q cA H1 hK2 h1 h2 h3 => ?_)
            have hcA : cA = cs 3 := va_RA_inj (hK2.2 4 (cA, .object "GalleryGuards$Plan") rfl).2 (hK.2 3 (cs 3, .object RX6) rfl).2
            subst hcA
            have e1 : wM cs ad σ ++ [(q, Sum.inl (cs 3, n.toNatClampNeg, .inr (.inr (.inr (.inr (fun _ => none))))))] = wM cs (adA σ.length q ad) (σ ++ [.inl (3, n.toNatClampNeg, .inr (.inr (.inr (.inr (fun _ => none)))))]) := wM_app cg rfl
            rw [e1] at h1 h2
            have e2 : Value.ref q :: r0.map (vM ad) = (Value.ref σ.length :: r0).map (vM (adA σ.length q ad)) := by
              rw [List.map_cons, agr_s (adA_agr _ _ _) cst.tl]
              show _ = Value.ref (adA σ.length q ad σ.length) :: _
              rw [adA_self]
            rw [e2]
            refine ih _ _ _ _ _ _ _ _ _ t h ht p e s m args below meth code H1 locs ls A ad0 _ N0 C h1 h2 h3 (by rw [agr_l (adA_agr _ _ _) cl]; exact hl) ?_ ?_ ?_ (by rw [up1]; omega) (agA q) <;> rw [up1]
            · exact cl.up (Nat.le_succ _)
            · exact clS.cs (clR (Nat.lt_succ_self _)) (cst.tl.up (Nat.le_succ _))
            · exact (cg.up (Nat.le_succ _)).add (fun j x hx => nomatch hx)
          · cases h
        · cases h
      · split at h
        · next v j h0 r0 =>
          split at h
          · next n g vs hh hv =>
            split at h
            · next hj =>
              refine va_astq hx hb hK hP hD hS h0 3 v 5 (wM_get hh) rfl (wM_get hv) rfl (inN_in hj) hdg (fun H1 locs1 h1 h2 h3 => ?_)
              rw [← up_map] at h1 h2
              refine ih _ _ _ _ _ _ _ _ _ t h ht p e s m args below meth code H1 locs1 ls A ad0 ad N0 C (by rw [wM_set]; exact h1) (by rw [wM_set]; exact h2) h3 hl ?_ ?_ ?_ (by rw [List.length_set]; exact hN0) hag <;> rw [List.length_set]
              · exact cl
              · exact cst.tl.tl.tl
              · refine cg.put (fun k x hx => ?_)
                unfold va_up at hx
                split at hx
                · cases hx; exact cst.hd _ rfl
                · exact cg _ (List.mem_of_getElem? hh) k x hx
            · cases h
          · cases h
        · cases h
      · next ix =>
        split at h
        · next q9 ci kf fty fin h0 r0 hf =>
          split at h
          · next c1 fs hh =>
            split at h
            · next hci =>
              split at h
              · next v hv =>
                subst hci
                obtain ⟨hmem, rfl⟩ := lkf hf
                obtain ⟨dec, -, F⟩ := tf _ hmem
                exact r_get C hP _ (wM_get hh) F (by rw [List.getElem?_map, hv]; rfl) hdg (ih _ _ _ _ _ _ _ _ _ t h ht p e s m args below meth code H locs ls A ad0 ad N0 C hP hD hS hl cl (clS.cs (cg _ (List.mem_of_getElem? hh) v (List.mem_of_getElem? hv)) cst.tl) cg hN0 hag)
              · cases h
            · cases h
          · cases h
        · cases h
      · next ix =>
        split at h
        · next q9 ci kf fty fin v h0 r0 hf =>
          split at h
          · next c1 fs hh =>
            split at h
            · next hci =>
              obtain ⟨rfl, hk, hn, hfit⟩ := hci
              obtain ⟨hmem, rfl⟩ := lkf hf
              obtain ⟨dec, hdec, F⟩ := tf _ hmem
              have kk : ∀ (H1 : Heap) (locs1 : List Loc), va_P D CL (wM cs ad (σ.set h0 (.inr (c1, fs.set kf v)))) H1 → va_D A (wM cs ad (σ.set h0 (.inr (c1, fs.set kf v)))) → va_S A s.heap H1 locs1 → W p l e (rmd d r.1 r.2.1) s m args below meth code H1 locs1 c sl (MQ below (qV D (T4 cs) (fun u : Nat → Nat => wM cs (adj ad0 N0 u) r.2.2) A) args s r.1 r.2.1 A) (F0 m (pc + 3) ls (r0.map (vM ad))) := by
                intro H1 locs1 h1 h2 h3
                refine ih _ _ _ _ _ _ _ _ _ t h ht p e s m args below meth code H1 locs1 ls A ad0 ad N0 C h1 h2 h3 hl ?_ ?_ ?_ (by rw [List.length_set]; exact hN0) hag <;> rw [List.length_set]
                · exact cl
                · exact cst.tl.tl
                · refine cg.put (fun w hw => ?_)
                  rcases List.mem_or_eq_of_mem_set hw with hw | rfl
                  · exact cg _ (List.mem_of_getElem? hh) w hw
                  · exact cst.hd
              have hws : (wM cs ad σ).set h0 (ad h0, .inr (c1, (fs.map (vM ad)).set kf (vM ad v))) = wM cs ad (σ.set h0 (.inr (c1, fs.set kf v))) := by rw [wM_set]; simp only [eM, List.map_set]
              cases fin with
              | false => exact r_put C hP hD hS _ (wM_get hh) F (vM_narrow hn) (vM_fits hfit) (by rw [List.length_map]; exact hk) hdg _ hws kk
              | true =>
                have hd1 : dec = true := hdec rfl
                subst hd1
                exact r_putF C t4 hP hD hS _ (wM_get hh) F (vM_narrow hn) (vM_fits hfit) (by rw [List.length_map]; exact hk) hdg _ hws kk
            · cases h
          · cases h
        · cases h
      · next ix =>
        split at h
        · next ho =>
          split at h
          · next a r0 =>
            split at h
            · next h8 =>
              have h8' : ((r0.map (vM ad)).map fun v => v.category).sum ≤ 8 := by rw [vM_sum]; exact h8
              refine r_obj (a := ad a) (rest := r0.map (vM ad)) C (to ix (by simpa using ho)) obw_1 obw_2 hl.1 hdg (by simp only [rmd]; omega) ?_ (ih _ _ _ _ _ _ _ _ _ t h ht p e s m args below meth code H locs ls A ad0 ad N0 C hP hD hS hl cl cst.tl cg hN0 hag)
              have : (F0 m pc ls (.ref (ad a) :: r0.map (vM ad))).monitorRoom = 0 := rfl
              rw [this]
              simp only [rmd]
              omega
            · cases h
          · cases h
        · split at h
          · next q9 k' nest na d' hf =>
            split at h
            · next t' h0 As ht' hrev =>
              split at h
              · next hc =>
                split at h
                · next c2 s2 σ2 h2 =>
                  obtain ⟨hna, h8, hcn⟩ := hc
                  obtain ⟨hmem, rfl⟩ := lkf hf
                  have m2 := evN_mono _ _ _ _ _ _ _ _ _ _ h2
                  have m3 := evN_mono _ _ _ _ _ _ _ _ _ _ h
                  have hav : clS σ.length (Value.ref h0 :: As) := fun v hv => cst v (List.mem_of_mem_take (List.mem_reverse.mp (by rw [hrev]; exact hv)))
                  have g2 := evN_cl _ _ _ _ _ _ _ _ _ _ h2 (clL.args _ 0 hav) (fun v hv => nomatch hv) cg
                  obtain ⟨⟨u1, u2, u3, u4⟩, -⟩ := ctb_ok k' t' ht'
                  have hM : cM l t'.1.1 t'.1.2.1 t'.1.2.2.1 none D (T4 cs) ((Value.ref h0 :: As).map (vM ad)) (wM cs ad σ) (qV D (T4 cs) (fun u : Nat → Nat => wM cs (adj ad σ.length u) σ2)) d' c2 s2 := by
                    refine enterM u1 (by rw [lg_sl_len]; unfold cats at hcn ⊢; rw [vM_sum]; exact hcn) (fun p e s m below meth c ls A C hP hD hS hl => ?_)
                    rw [lM_args] at hl
                    exact ih d' k' 0 _ [] 0 0 σ (c2, s2, σ2) t' h2 ht' p e s m _ below meth c _ [] ls A ad ad σ.length C hP hD hS hl (clL.args _ 0 hav) (fun v hv => nomatch hv) cg (Nat.le_refl _) (fun _ _ => rfl)
                  obtain ⟨M, hMM, hn1, hn2⟩ := tc _ hmem
                  have hMM : (ctb k').map (fun t => t.1) = some M := hMM
                  rw [ht'] at hMM
                  have hMM : t'.1 = M := Option.some.inj hMM
                  subst hMM
                  have hst : st.map (vM ad) = ((As.map (vM ad)).reverse ++ Value.ref (ad h0) :: (st.drop (na + 1)).map (vM ad)) := by
                    have q1 : st.take (na + 1) = (Value.ref h0 :: As).reverse := by rw [← hrev, List.reverse_reverse]
                    conv => lhs; rw [← List.take_append_drop (na + 1) st, q1]
                    rw [List.reverse_cons, List.append_assoc, List.map_append, List.map_reverse]
                    rfl
                  have hroom : (((st.drop (na + 1)).map (vM ad)).map fun v => v.category).sum ≤ 8 := by rw [vM_sum]; exact h8
                  have hr : va_Run p l e (rmd (d' + 1) r.1 r.2.1) s m args below meth code H locs c sl c2 s2 (F0 m pc ls (st.map (vM ad))) ((st.drop (na + 1)).map (vM ad)) (qV D (T4 cs) (fun u : Nat → Nat => wM cs (adj ad σ.length u) σ2) (va_A (wM cs ad σ) H.size) (Value.ref (ad h0) :: As.map (vM ad)).toArray) (va_A (wM cs ad σ) H.size) := by
                    cases nest with
                    | true => exact run_IN C hM (hn1 rfl) hP hD hS (List.range (wM cs ad σ).length) (range_get _) (va_nd_range _) (by rw [List.length_map]; exact hna) hl.1 hst hroom hdg (rm_ctor u2) ⟨m3.1, m3.2.1⟩
                    | false => exact run_I C hM (hn2 rfl) hP hD hS (List.range (wM cs ad σ).length) (range_get _) (va_nd_range _) (by rw [List.length_map]; exact hna) hl.1 hst hroom hdg (rm_ctor u2) ⟨m3.1, m3.2.1⟩
                  refine call_v (w1 := fun u : Nat → Nat => wM cs (adj ad σ.length u) σ2) (wr := []) C hr hP hD hS (List.range (wM cs ad σ).length) [] (range_get _) rfl rfl (fun i h => nomatch h) (fun u H1 locs1 h1 h2' h3 => ?_)
                  have cst' : clS σ.length (st.drop (na + 1)) := fun v hv => cst v (List.mem_of_mem_drop hv)
                  rw [← agr_s (adj_agr ad σ.length u) cst']
                  refine ih _ _ _ _ _ _ _ _ _ t h ht p e s m args below meth code H1 locs1 ls A ad0 (adj ad σ.length u) N0 C h1 h2' h3 (by rw [agr_l (adj_agr ad σ.length u) cl]; exact hl) (cl.up m2.2.2) (cst'.up m2.2.2) g2 (Nat.le_trans hN0 m2.2.2) (fun x hx => ?_)
                  rw [adj_agr ad σ.length u x (by omega)]
                  exact hag x hx
                · cases h
              · cases h
            · cases h
          · cases h
      · split at h
        · cases h
          refine r_vret (w1 := fun u : Nat → Nat => wM cs (adj ad0 N0 u) σ) C hP hD hS ad ?_ (Nat.le_refl _) (Nat.le_refl _) hdg
          show wM cs ad σ = wM cs (adj ad0 N0 ad) σ
          rw [adj_self hag]
        · cases h
      · split at h
        · next r0 hr =>
          obtain ⟨k1, k2⟩ := stC_cl hr cl cst
          rw [stC_len hr] at hdg
          exact sim_ok (G := GZ) (k := 0) C hP hD hS hl hdg lkz (stC_sim hr σ) (fun H1 locs1 ls1 h1 h2 h3 h4 => ih _ _ _ _ _ _ _ _ _ t h ht p e s m args below meth code H1 locs1 ls1 A ad0 ad N0 C h1 h2 h3 h4 k1 k2 cg hN0 hag)
        · cases h
