/-! load on both sides; a new polygon is laid -/
/-- what a call tells: one of some exceptions with its number, or the same answer -/
def Pub {α : Type} (ce : List (String × Int32)) (rc : String ⊕ α) (rm : α) (S : ST) : Prop := (∃ q, q ∈ ce ∧ rc = .inl q.1 ∧ S.1 140 0 = q.2) ∨ (rc = .inr rm ∧ S.1 140 0 = 0)
section Fl
variable {S Sc Sm Sc' Sm' : ST} {h1 : Nat} {ρ : Nat → Int32}
theorem Ld_214 (g : GR S 141) : F_214 S = some ((), g_214 S) ∧ Fm [147, 148, 149] [20] S (g_214 S) ∧ Ld (g_214 S) := by
  have L := g214_ld g.2.2.2.2
  have e1 : (g_214 S).1 141 = S.1 141 := L.2.2.row (by decide) (by decide)
  refine ⟨?_, L.2.2, GR_r2 e1 g, ?_, ?_, Fm.rf⟩
  · unfold F_214
    rw [ck_t (chB_t.mpr ⟨g.1, g.2.2.2.2⟩)]
  · rw [inp_row e1]; exact L.1
  · rw [inp_row e1]; exact L.2.1
theorem fill_m (g : GTh S 141) : ∃ S', F_214 S = some ((), S') ∧ Fm [147, 148, 149] [20] S S' ∧ Ld S' ∧ GTh S' 141 := by
  obtain ⟨a, b, c⟩ := Ld_214 g.1
  exact ⟨_, a, b, c, GTh_r2 (b.row (by decide) (by decide)) g⟩
theorem fill_c (hp : PR S h1 ρ) (g : GTh (rowS ρ) 0) (hh : 12 ≤ h1) : ∃ S', F_180 h1 S = some ((), S') ∧ Fp rpl S S' ∧ PR S' 3 ρ ∧ LC S' 21 (rL (rowS ρ) 0) 256 ∧ Cz S' := by
  have hb : cb ρ := GTh_cb g
  exact F180_eq hp hb g.1.2.2.1 (by rw [pb_rk g.1.1 g.1.2.2.1 (Nat.le_refl _)]; exact g.1.2.2.2.2) hh
/-- nothing is learned -/
theorem Ca_z (z : Cz Sc) : Ca Sc Sm := by
  obtain ⟨z1, z2, z3, z4, z5, z6, z7⟩ := z
  exact ⟨⟨Or.inl z1, Or.inl z2⟩, ⟨Or.inl z3, Or.inl z4, Or.inl z5⟩, Or.inl z6, Or.inl z7⟩
theorem Cm_z (z : Sm.1 140 27 = 0) : Cm Sm := ⟨Or.inl z, Or.inl z, Or.inl z⟩
theorem GTh_row {h : Nat} (g : GTh S h) : GTh (rowS (S.1 h)) 0 := GTh_r2 (S := S) (S' := rowS (S.1 h)) (h := h) (h' := 0) rfl g
/-- the points' count is the same -/
theorem cnt_eq (l : LC Sc 21 (rL Sm 141) 256) (hL : Ld Sm) : Sc.1 21 0 = Sm.1 140 20 := (lat_eq l hL).1
theorem M201_98 {v : Int32} (S : ST) : ∃ S', wh FU (Lm_201_98 v) (0, S) = some (nJ 63, S') ∧ Fm [141] [] S S' ∧ ∀ j, S'.1 141 j = if 0 ≤ j ∧ j < 0 + 63 then S.1 146 (j - 0) else S.1 141 j := by
  refine cpm (v := fun k => S.1 146 k) (by omega) (fun S1 i f1 hi => ?_) (fun S1 _ => ?_)
  · unfold Lm_201_98
    dsimp only
    rw [if_pos (show nJ i < 63 from (nJ_lt (j := 63) (by omega) (by omega)).mpr hi), ck_t (ibd_n (by omega) (by omega)), ck_t (ibd_n (by omega) (by omega)), sbn_e, nJ_ix (by omega), nJ_succ, f1.row (by decide) (by decide), Nat.zero_add]
  · unfold Lm_201_98
    dsimp only
    rw [if_neg (show ¬ nJ 63 < 63 by decide)]
/-- rows that agree up to 63 -/
theorem Pe_63 {ρ ρ' : Nat → Int32} (h : ∀ j, j < 63 → ρ' j = ρ j) : Pe ρ ρ' := fun j a _ _ => h j (by omega)
theorem GTh_63 {S S' : ST} {h h' : Nat} (e : ∀ j, j < 63 → S'.1 h' j = S.1 h j) (g : GTh S h) : GTh S' h' := by
  have p := Pe_63 e
  refine ⟨Pe_G p g.1, ?_⟩
  obtain ⟨-, ⟨G, a1, a2, a3⟩, T, b1, b2, b3⟩ := id g
  refine ⟨⟨G, by rw [e 1 (by omega)]; exact a1, a2, fun i hi => ?_⟩, T, by rw [e 2 (by omega)]; exact b1, b2, fun i hi => ?_⟩
  · rw [Pe_L p g.1.1, e _ (by omega), e _ (by omega)]
    exact a3 i hi
  · rw [Pe_L p g.1.1, e _ (by omega), e _ (by omega)]
    exact b3 i hi
theorem rL_63 {S S' : ST} {h h' : Nat} (e : ∀ j, j < 63 → S'.1 h' j = S.1 h j) (g : GR S h) : rL S' h' = rL S h := Pe_L (Pe_63 e) g.1
end Fl
section Lo
variable {Sc Sm : ST}
theorem load_eq (R : Ro Sc Sm) (M : MOK Sm) (v : Int32) : ∃ rc rm Sc' Sm', F_116 v Sc = some (rc, Sc') ∧ F_201 v Sm = some (rm, Sm') ∧ Ro Sc' Sm' ∧ Pub [(ixE, 1), (iaE, 2)] rc rm Sm' := by
  obtain ⟨⟨b, h1, h2, h3, h4⟩, r2, r3, r4, r5, r6, r7⟩ := id R
  by_cases c : ∃ i, i ≤ b ∧ v = nJ i
  · obtain ⟨n, hn, rfl⟩ := c
    have q : F_182 (nJ n) 0 (nJ b) = true := (rng_t (by omega)).mpr ⟨n, hn, rfl⟩
    obtain ⟨k, Sc1, Sm1, e35, e200, fC, fM, alt⟩ := parse_eq (Sc := Sc) (Sm := wI (wI Sm 140 0 0) 140 7 0) (n := n) (b := fun j => Sm.1 144 j) (by omega) (fun j hj => (h4 j hj).1) (fun j hj => by rw [wI_1, if_neg (by omega), wI_1, if_neg (by omega)]) (fun j hj => (h4 j (by omega)).2)
    have C0 : F_116 (nJ n) Sc = if k = 0 then (ob (F_8 (wI (wI (wI Sc1 0 16 k) 0 17 (if k = 0 then (-1) else Sc1.1 1 2)) 1 0 0)) (fun w2 => ob (F_42 121 w2.2) (fun w3 => ob (F_42 130 w3.2) (fun w4 => ob (F_180 12 w4.2) (fun w5 => some (.inr (w5.2.1 21 0), w5.2)))))) else (some (.inl "java/lang/IllegalArgumentException", (wI (wI (wI Sc1 0 16 k) 0 17 (if k = 0 then (-1) else Sc1.1 1 2)) 1 0 0))) := by
      unfold F_116
      rw [if_neg (nJ_nn (by omega)), h1, if_neg (fun z => by have := (nJ_lt (by omega) (by omega)).mp z; omega), e35, ob_s]
    have M0 : F_201 (nJ n) Sm = ob (F_183 (!(decide ((Sm1.1 140 17) = 0))) 2 (wI (wI Sm1 140 8 (Sm1.1 140 17)) 140 9 (if (Sm1.1 140 17) = 0 then (-1) else Sm1.1 140 18))) (fun w3 => if w3.1 = true then (some (0, w3.2)) else (ob (wh FU (Lm_201_98 (nJ n)) (0, (wI w3.2 140 1 1))) (fun e98 => ob (F_214 (wI (wI (wI (wI e98.2 140 4 0) 143 0 0) 143 1 0) 140 27 0)) (fun w4 => some (w4.2.1 140 20, w4.2))))) := by
      unfold F_201
      rw [h2, q, Bool.not_true, M183_f (S := wI Sm 140 0 0) t0_0, ob_s]
      dsimp only
      rw [if_neg (by decide), e200, ob_s]
    have m0 : Sm1.1 140 0 = 0 := by rw [fM.fld (by decide) (by decide), wI_1, if_neg (by decide), wI_1, if_pos ⟨rfl, rfl⟩]
    have m7 : Sm1.1 140 7 = 0 := by rw [fM.fld (by decide) (by decide), wI_1, if_pos ⟨rfl, rfl⟩]
    have fM1 : Fm [145, 146] [0, 7, 8, 9, 10, 11, 12, 13, 15, 16, 17, 18] Sm Sm1 := ((Fm_f (by decide)).tr (Fm_f (by decide))).tr (fM.wk (by decide) (by decide))
    have e2 : Sc1.1 2 = Sc.1 2 := (fC 2 (by unfold pcl pl9; omega)).1
    have e0 : Sc1.1 0 = Sc.1 0 := (fC 0 (by unfold pcl pl9; omega)).1
    rcases alt with ⟨rfl, j, p, L⟩ | ⟨kz, p, p1, p2, p3⟩
    · obtain ⟨⟨_, _, _, _, t17⟩, hp, g, -, -⟩ := L
      rw [if_pos rfl, if_pos rfl] at C0
      rw [t17, decide_eq_true rfl, Bool.not_true, if_pos rfl, M183_f (by rw [wI_1, if_neg (by decide), wI_1, if_neg (by decide)]; exact m0), ob_s] at M0
      dsimp only at M0
      rw [if_neg (by decide)] at M0
      -- the class
      obtain ⟨S2, e42, f42, z1, -, -⟩ := F42_eq (wI (wI (wI (wI Sc1 0 16 0) 0 17 (-1)) 1 0 0) 47 0 0) 121
      obtain ⟨S3, e43, f43, y1, -, -⟩ := F42_eq S2 130
      have fA : Fp (fun a => a = 0 ∨ a = 1 ∨ a = 47 ∨ a = 121 ∨ a = 130) Sc1 S3 := ((((Fp_I (by omega)).tr (Fp_I (by omega))).tr (Fp_I (by omega))).tr (Fp_I (by omega))).tr ((f42.wk (fun a ha => by omega)).tr (f43.wk (fun a ha => by omega)))
      have hp3 : PR S3 12 (Sm1.1 146) := PR_fp hp fA (fun a ha => by unfold pl9 at ha; omega)
      obtain ⟨S4, e180, f180, p4, l4, z4⟩ := fill_c hp3 (GTh_row g) (Nat.le_refl _)
      have fB : Fp (fun a => pcl a ∨ rpl a ∨ a = 0 ∨ a = 1 ∨ a = 47 ∨ a = 121 ∨ a = 130) Sc S4 := (fC.wk (fun a ha => Or.inl ha)).tr ((fA.wk (fun a ha => Or.inr (Or.inr ha))).tr (f180.wk (fun a ha => Or.inr (Or.inl ha))))
      have k0 : S4.1 0 = (wI (wI (wI (wI Sc1 0 16 0) 0 17 (-1)) 1 0 0) 47 0 0).1 0 := by rw [(f180 0 (by unfold rpl pl9; omega)).1, (f43 0 (by omega)).1, (f42 0 (by omega)).1]
      have k1 : S4.1 1 = (wI (wI (wI (wI Sc1 0 16 0) 0 17 (-1)) 1 0 0) 47 0 0).1 1 := by rw [(f180 1 (by unfold rpl pl9; omega)).1, (f43 1 (by omega)).1, (f42 1 (by omega)).1]
      have k47 : S4.1 47 = (wI (wI (wI (wI Sc1 0 16 0) 0 17 (-1)) 1 0 0) 47 0 0).1 47 := by rw [(f180 47 (by unfold rpl pl9; omega)).1, (f43 47 (by omega)).1, (f42 47 (by omega)).1]
      have c47 : Sc1.1 47 = Sc.1 47 := (fC 47 (by unfold pcl pl9; omega)).1
      have k121 : S4.1 121 0 = 0 := by rw [(f180 121 (by unfold rpl pl9; omega)).1, (f43 121 (by omega)).1]; exact z1
      have k130 : S4.1 130 0 = 0 := by rw [(f180 130 (by unfold rpl pl9; omega)).1]; exact y1
      -- the reference
      obtain ⟨M2, eL, fL, w⟩ := M201_98 (v := nJ n) (wI (wI (wI Sm1 140 8 0) 140 9 (-1)) 140 1 1)
      have w' : ∀ j, j < 63 → M2.1 141 j = Sm1.1 146 j := fun j hj => by
        rw [w j, if_pos (by omega), Nat.sub_zero, wI_1, if_neg (by omega), wI_1, if_neg (by omega), wI_1, if_neg (by omega)]
      have g3 : GTh (wI (wI (wI (wI M2 140 4 0) 143 0 0) 143 1 0) 140 27 0) 141 := GTh_63 (S := Sm1) (h := 146) (fun j hj => by
        rw [wI_1, if_neg (by omega), wI_1, if_neg (by omega), wI_1, if_neg (by omega), wI_1, if_neg (by omega)]
        exact w' j hj) g
      obtain ⟨M3, e214, f214, hL, g4⟩ := fill_m g3
      have r4' : ∀ j, j < 63 → M3.1 141 j = Sm1.1 146 j := fun j hj => by
        rw [f214.row (by decide) (by decide), wI_1, if_neg (by omega), wI_1, if_neg (by omega), wI_1, if_neg (by omega), wI_1, if_neg (by omega)]
        exact w' j hj
      have fM3 : Fm [141, 143, 145, 146, 147, 148, 149] [0, 1, 4, 7, 8, 9, 10, 11, 12, 13, 15, 16, 17, 18, 20, 27] Sm M3 :=
        (fM1.wk (by decide) (by decide)).tr ((((Fm_f (by decide)).tr (Fm_f (by decide))).tr (Fm_f (by decide))).tr ((fL.wk (by decide) (by decide)).tr (((((Fm_f (by decide)).tr (Fm_a (by decide))).tr (Fm_a (by decide))).tr (Fm_f (by decide))).tr (f214.wk (by decide) (by decide)))))
      have fld : ∀ k, k ≠ 20 → M3.1 140 k = (wI (wI (wI (wI M2 140 4 0) 143 0 0) 143 1 0) 140 27 0).1 140 k := fun k hk => f214.fld (by decide) (by simpa using hk)
      have fld2 : ∀ k, M2.1 140 k = (wI (wI (wI Sm1 140 8 0) 140 9 (-1)) 140 1 1).1 140 k := fun k => fL.fld (by decide) (List.not_mem_nil)
      have n1 : ¬ M3.1 140 1 = 0 := by rw [fld 1 (by decide), wI_1, if_neg (by decide), wI_1, if_neg (by decide), wI_1, if_neg (by decide), wI_1, if_neg (by decide), fld2, wI_1, if_pos ⟨rfl, rfl⟩]; decide
      have n27 : M3.1 140 27 = 0 := by rw [fld 27 (by decide), wI_1, if_pos ⟨rfl, rfl⟩]
      have eLL : rL M3 141 = rL (rowS (Sm1.1 146)) 0 := rL_63 (S := rowS (Sm1.1 146)) (h := 0) (fun j hj => r4' j hj) (GTh_row g).1
      have hp4 : PR S4 3 (M3.1 141) := PR_row p4 (GTh_cb g) r4'
      have l4' : LC S4 21 (rL M3 141) 256 := by rw [eLL]; exact l4
      refine ⟨.inr (M3.1 140 20), M3.1 140 20, S4, M3, ?_, ?_, ⟨⟨0, ?_, ?_, by omega, fun i hi => ?_⟩, ⟨?_, ?_⟩, Or.inr ⟨n1, hp4, l4'⟩, ?_, ?_, ?_, fun _ => ⟨Ca_z z4, Cm_z n27⟩⟩, Or.inr ⟨rfl, ?_⟩⟩
      · rw [C0]
        unfold F_8
        rw [ob_s]
        dsimp only
        rw [e42, ob_s]
        dsimp only
        rw [e43, ob_s]
        dsimp only
        rw [e180, ob_s]
        dsimp only
        rw [cnt_eq l4' hL]
      · rw [M0, eL, ob_s]
        dsimp only
        rw [e214, ob_s]
      · rw [k1, wI_1, if_neg (by decide), wI_1, if_pos ⟨rfl, rfl⟩]; rfl
      · rw [fld 7 (by decide), wI_1, if_neg (by decide), wI_1, if_neg (by decide), wI_1, if_neg (by decide), wI_1, if_neg (by decide), fld2, wI_1, if_neg (by decide), wI_1, if_neg (by decide), wI_1, if_neg (by decide)]; exact m7
      · rw [(fB 2 (by unfold pcl rpl pl9; omega)).1, fM3.row (by decide) (by decide)]
        exact h4 i hi
      · rw [k0, wI_1, if_neg (by decide), wI_1, if_neg (by decide), wI_1, if_neg (by decide), wI_1, if_pos ⟨rfl, rfl⟩, fld 8 (by decide), wI_1, if_neg (by decide), wI_1, if_neg (by decide), wI_1, if_neg (by decide), wI_1, if_neg (by decide), fld2, wI_1, if_neg (by decide), wI_1, if_neg (by decide), wI_1, if_pos ⟨rfl, rfl⟩]
      · rw [k0, wI_1, if_neg (by decide), wI_1, if_neg (by decide), wI_1, if_pos ⟨rfl, rfl⟩, fld 9 (by decide), wI_1, if_neg (by decide), wI_1, if_neg (by decide), wI_1, if_neg (by decide), wI_1, if_neg (by decide), fld2, wI_1, if_neg (by decide), wI_1, if_pos ⟨rfl, rfl⟩]
      · obtain ⟨c, o, a1, a2, a3, a4, a5, a6, a7⟩ := r4
        refine ⟨0, o, ?_, ?_, by omega, ?_, a5, fun k hk => absurd hk (Nat.not_lt_zero _), fun _ => rfl⟩
        · rw [fld 4 (by decide), wI_1, if_neg (by decide), wI_1, if_neg (by decide), wI_1, if_neg (by decide), wI_1, if_pos ⟨rfl, rfl⟩]; rfl
        · rw [k47, wI_1, if_pos ⟨rfl, rfl⟩]; rfl
        · rw [k47, wI_1, if_neg (by decide), wI_1, if_neg (by decide), wI_1, if_neg (by decide), wI_1, if_neg (by decide), c47]; exact a4
      · intro j hj
        have jj : j = 0 ∨ j = 1 := by omega
        rw [f214.row (by decide) (by decide)]
        rcases jj with rfl | rfl
        · exact Or.inl ⟨by rw [wI_1, if_neg (by decide), wI_1, if_neg (by decide), wI_1, if_pos ⟨rfl, rfl⟩], k121⟩
        · exact Or.inl ⟨by rw [wI_1, if_neg (by decide), wI_1, if_pos ⟨rfl, rfl⟩], k130⟩
      · have x0 : S4.1 0 15 = Sc.1 0 15 := by rw [k0, wI_1, if_neg (by decide), wI_1, if_neg (by decide), wI_1, if_neg (by decide), wI_1, if_neg (by decide), e0]
        unfold oD
        rw [x0, (fB 139 (by unfold pcl rpl pl9; omega)).1, fM3.fld (by decide) (by decide), fM3.row (a := 161) (by decide) (by decide)]
        exact r6
      · rw [fld 0 (by decide), wI_1, if_neg (by decide), wI_1, if_neg (by decide), wI_1, if_neg (by decide), wI_1, if_neg (by decide), fld2, wI_1, if_neg (by decide), wI_1, if_neg (by decide), wI_1, if_neg (by decide)]; exact m0
    · rw [if_neg kz, if_neg kz] at C0
      rw [p2, decide_eq_false kz, Bool.not_false, if_neg kz, M183_t (by rw [wI_1, if_neg (by decide), wI_1, if_neg (by decide)]; exact m0) (by decide), ob_s, if_pos rfl] at M0
      have fM2 : Fm [145, 146] [0, 7, 8, 9, 10, 11, 12, 13, 15, 16, 17, 18] Sm (wI (wI (wI Sm1 140 8 k) 140 9 (Sm1.1 140 18)) 140 0 2) := fM1.tr (((Fm_f (by decide)).tr (Fm_f (by decide))).tr (Fm_f (by decide)))
      have fB : Fp (fun a => pcl a ∨ a = 0 ∨ a = 1) Sc (wI (wI (wI Sc1 0 16 k) 0 17 (Sc1.1 1 2)) 1 0 0) := (fC.wk (fun a ha => Or.inl ha)).tr (((Fp_I (by omega)).tr (Fp_I (by omega))).tr (Fp_I (by omega)))
      refine ⟨_, _, _, _, C0, M0, ⟨⟨0, ?_, ?_, by omega, fun i hi => ?_⟩, ⟨?_, ?_⟩, oP_f r3 fB (fun a _ _ => by unfold pcl pl9; omega) (fun a _ _ => by unfold pcl pl9; omega) fM2 (by decide) (by decide) (by decide), oH_f r4 fB (fun a _ _ => by unfold pcl pl9; omega) fM2 (by decide) (by decide) (by decide) (by decide), oK_f r5 fB (fun a _ _ => by unfold pcl pl9; omega) fM2 (by decide) (by decide) (by decide) (by decide), ?_, fun q => ?_⟩, Or.inl ⟨(iaE, 2), by simp, rfl, ?_⟩⟩
      · rw [wI_1, if_pos ⟨rfl, rfl⟩]; rfl
      · rw [wI_1, if_neg (by decide), wI_1, if_neg (by decide), wI_1, if_neg (by decide)]; exact m7
      · rw [(fB 2 (by unfold pcl pl9; omega)).1, fM2.row (by decide) (by decide)]
        exact h4 i hi
      · rw [wI_1, if_neg (by decide), wI_1, if_neg (by decide), wI_1, if_pos ⟨rfl, rfl⟩, wI_1, if_neg (by decide), wI_1, if_neg (by decide), wI_1, if_pos ⟨rfl, rfl⟩]
      · rw [wI_1, if_neg (by decide), wI_1, if_pos ⟨rfl, rfl⟩, wI_1, if_neg (by decide), wI_1, if_pos ⟨rfl, rfl⟩, p1, p3]
      · have x0 : (wI (wI (wI Sc1 0 16 k) 0 17 (Sc1.1 1 2)) 1 0 0).1 0 15 = Sc.1 0 15 := by rw [wI_1, if_neg (by decide), wI_1, if_neg (by decide), wI_1, if_neg (by decide), e0]
        unfold oD
        rw [x0, (fB 139 (by unfold pcl pl9; omega)).1, fM2.fld (by decide) (by decide), fM2.row (a := 161) (by decide) (by decide)]
        exact r6
      · rw [fM2.fld (by decide) (by decide)] at q
        have g : gSa Sm (wI (wI (wI Sm1 140 8 k) 140 9 (Sm1.1 140 18)) 140 0 2) := gSa_fm fM2 (by decide) (by decide) (by decide) (by decide) (by decide) (by decide)
        have hL := (M.2.1 q).1
        obtain ⟨c1, c2⟩ := r7 q
        exact ⟨Ca_mv g hL.1 fB (fun a _ _ => by unfold pcl pl9; omega) c1, Cm_mv g hL.1 fM2 (by decide) (by decide) (by decide) (by decide) (by decide) (by decide) (by decide) (by decide) c2⟩
      · rw [wI_1, if_pos ⟨rfl, rfl⟩]
  · have q : F_182 v 0 (nJ b) = false := by rw [← Bool.not_eq_true, rng_t (by omega)]; exact c
    have M0 : F_201 v Sm = some (0, tt Sm 1) := by
      unfold F_201
      rw [h2, q, Bool.not_false, M183_t (S := wI Sm 140 0 0) t0_0 (by decide), ob_s]
      rfl
    have C0 : F_116 v Sc = some (.inl ixE, Sc) := by
      unfold F_116
      by_cases v0 : v < 0
      · rw [if_pos v0]; rfl
      · rw [if_neg v0, h1]
        by_cases v1 : nJ b < v
        · rw [if_pos v1]; rfl
        · exfalso
          have a : 0 ≤ v.toInt := Int.not_lt.mp (fun z => v0 (i32_lt0.mpr z))
          have b' : ¬ (nJ b).toInt < v.toInt := fun z => v1 ((i32_lt _ _).mpr z)
          rw [nJ_toInt (by omega)] at b'
          refine c ⟨v.toNatClampNeg, ?_, nJ_of a⟩
          have : (v.toNatClampNeg : Int) = v.toInt := by show ((v.toInt.toNat : Nat) : Int) = _; omega
          omega
    exact ⟨_, _, _, _, C0, M0, Ro_t R M ((Fm_f (by decide)).tr (Fm_f (by decide))), Or.inl ⟨(ixE, 1), by simp, rfl, tt_0⟩⟩
end Lo
