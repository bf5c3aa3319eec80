/-! the ears' triangles cover the closed polygon and lie in it; three colours -/
/-- the closed polygon, at scale k -/
def ge_cl (k : Int) (l : List GPt) (p : GPt) : Prop := ge_off (ge_S k l) p → ge_par (ge_S k l) p = true
def ge_cov (l : List GPt) (TS : List (GPt × GPt × GPt)) (col : GPt → Nat) : Prop :=
  (∀ T ∈ TS, T.1 ∈ l ∧ T.2.1 ∈ l ∧ T.2.2 ∈ l ∧ ge_o T.1 T.2.1 T.2.2 ≠ 0) ∧
  (∀ T ∈ TS, ∀ k : Int, 0 < k → ∀ p : GPt, ge_tc (ge_s k T.1) (ge_s k T.2.1) (ge_s k T.2.2) p → ge_cl k l p) ∧
  (∀ T ∈ TS, ∀ u v : GPt, ge_adj l u v → ∀ p q : GPt, ge_tc T.1 T.2.1 T.2.2 p → ge_tc T.1 T.2.1 T.2.2 q → ¬ ge_x u v p q) ∧
  (∀ k : Int, 0 < k → ∀ p : GPt, ge_cl k l p → ∃ T ∈ TS, ge_tc (ge_s k T.1) (ge_s k T.2.1) (ge_s k T.2.2) p) ∧
  (∀ v : GPt, col v < 3) ∧ (∀ u v : GPt, ge_adj l u v → col u ≠ col v) ∧ (∀ T ∈ TS, col T.1 ≠ col T.2.1 ∧ col T.2.1 ≠ col T.2.2 ∧ col T.2.2 ≠ col T.1)
theorem ge_eqv_cl {l l' : List GPt} (h : ge_eqv l l') {k : Int} {p : GPt} : ge_cl k l p ↔ ge_cl k l' p := by
  unfold ge_cl
  rw [ge_eqv_off h, h.2.2]
theorem ge_eqv_cov {l l' : List GPt} (h : ge_eqv l l') {TS : List (GPt × GPt × GPt)} {col : GPt → Nat} (g : ge_cov l TS col) : ge_cov l' TS col := by
  obtain ⟨g1, g2, g3, g4, g5, g6, g7⟩ := g
  refine ⟨fun T hT => ?_, fun T hT k hk p hp => (ge_eqv_cl h).mp (g2 T hT k hk p hp), fun T hT u v huv => g3 T hT u v ((h.2.1 u v).mpr huv), fun k hk p hp => g4 k hk p ((ge_eqv_cl h).mpr hp), g5, fun u v huv => g6 u v ((h.2.1 u v).mpr huv), g7⟩
  obtain ⟨a1, a2, a3, a4⟩ := g1 T hT
  exact ⟨(h.1 _).mp a1, (h.1 _).mp a2, (h.1 _).mp a3, a4⟩
section Cover
variable {a b c : GPt} {mid : List GPt}
/-- also on ab and bc the rest counts 0 -/
theorem ge_C_zero2 (H : ge_C a b c mid) (Z : ∃ k : Int, 0 < k ∧ ∃ q : GPt, ge_int (ge_s k a) (ge_s k b) (ge_s k c) q ∧ ge_wn (ge_S k (c :: (mid ++ [a]))) q = 0) {k : Int} (hk : 0 < k) {p : GPt} (hp : ge_in (ge_s k a) (ge_s k b) (ge_s k c) p) (hp3 : 0 < ge_o (ge_s k c) (ge_s k a) p) : ¬ ge_cl k (c :: (mid ++ [a])) p := by
  have HK := ge_C_s hk H
  have sd := ge_sides HK.2.1 HK.2.2.1
  have off : ge_off (ge_S k (c :: (mid ++ [a]))) p := by
    rw [ge_S_cut]
    exact ge_C_offt (fun z => by have := (ge_on_symm z).1; omega) (fun e he z => ge_side_K (sd e he) z hp hp3)
  intro hcl
  have par := hcl off
  have h3 : (0 : Int) < 3 := by decide
  have H3 := ge_C_s h3 HK
  obtain ⟨q, hq⟩ : ∃ q : GPt, q = ((ge_s k a).1 + (ge_s k b).1 + (ge_s k c).1, (ge_s k a).2 + (ge_s k b).2 + (ge_s k c).2) := ⟨_, rfl⟩
  have f : ∀ u v : GPt, ge_o (ge_s 3 u) (ge_s 3 v) q = 3 * (ge_o u v (ge_s k a) + ge_o u v (ge_s k b) + ge_o u v (ge_s k c)) := fun u v => by
    rw [hq]; generalize ge_s k a = A; generalize ge_s k b = B; generalize ge_s k c = C; unfold ge_s ge_o; grind
  have F := HK.1
  have qi : ge_int (ge_s 3 (ge_s k a)) (ge_s 3 (ge_s k b)) (ge_s 3 (ge_s k c)) q := by
    refine ⟨?_, ?_, ?_⟩
    · rw [f, (ge_C_zz _ _).1, (ge_C_zz _ _).2]; omega
    · rw [f, (ge_C_zz _ _).1, (ge_C_zz _ _).2, (ge_C_cyc (ge_s k a) (ge_s k b) (ge_s k c)).1]; omega
    · rw [f, (ge_C_zz _ _).1, (ge_C_zz _ _).2, (ge_C_cyc (ge_s k a) (ge_s k b) (ge_s k c)).2]; omega
  have hp' := (ge_in_s h3 (ge_s k a) (ge_s k b) (ge_s k c) p).mpr hp
  have hp3' : 0 < ge_o (ge_s 3 (ge_s k c)) (ge_s 3 (ge_s k a)) (ge_s 3 p) := by rw [ge_o_s]; omega
  have sd3 := ge_sides H3.2.1 H3.2.2.1
  have mv : ge_wn (ge_s 3 (ge_s k c) :: (ge_S 3 (ge_S k mid) ++ [ge_s 3 (ge_s k a)])) (ge_s 3 p) = ge_wn (ge_s 3 (ge_s k c) :: (ge_S 3 (ge_S k mid) ++ [ge_s 3 (ge_s k a)])) q := by
    refine ge_wn_mv (fun e he => ?_)
    rw [ge_E_cut] at he
    rcases List.mem_append.mp he with z | z
    · exact ge_free (sd3 e z) hp' hp3' (ge_int_in qi) qi.2.2
    · rw [List.mem_singleton.mp z]; exact ge_free3 hp3' qi.2.2
  have z0 : ge_wn (ge_S (3 * k) (c :: (mid ++ [a]))) q = 0 := ge_C_zero H Z (by omega) (by rw [← ge_s_s, ← ge_s_s, ← ge_s_s]; exact qi)
  rw [← ge_S_cut, ge_wn_s h3, ← ge_S_cut, ge_S_S, z0] at mv
  rw [ge_par_wn, mv] at par
  cases par
theorem ge_C_up (H : ge_C a b c mid) (Z : ∃ k : Int, 0 < k ∧ ∃ q : GPt, ge_int (ge_s k a) (ge_s k b) (ge_s k c) q ∧ ge_wn (ge_S k (c :: (mid ++ [a]))) q = 0) {k : Int} (hk : 0 < k) {p : GPt} (hp : ge_cl k (c :: (mid ++ [a])) p) : ge_cl k (b :: c :: (mid ++ [a])) p := by
  intro ho
  have HK := ge_C_s hk H
  have hac : ge_s k a ≠ ge_s k c := fun q => (List.nodup_cons.mp (List.nodup_cons.mp H.2.1.1).2).1 (by rw [← ge_s_inj hk q]; simp)
  by_cases hon : ge_on (ge_s k a) (ge_s k c) p
  · rw [ge_par_wn, ge_C_closed H Z hk (ge_ac_in HK.1 hon hac) ho]; rfl
  · have ho2 := ho
    rw [ge_S_ear] at ho2
    obtain ⟨o1, o2, o3⟩ := ge_C_of ho2
    have ot : ge_off (ge_S k (c :: (mid ++ [a]))) p := by rw [ge_S_cut]; exact ge_C_offt hon o3
    have par := hp ot
    have nint : ¬ ge_int (ge_s k a) (ge_s k b) (ge_s k c) p := fun z => ge_C_zero2 H Z hk (ge_int_in z) z.2.2 hp
    rw [ge_S_ear, ge_par_ear, ge_false_of (ge_tri HK.1 o1 o2 (fun z => hon (ge_on_symm z))) nint, ← ge_S_cut, par]
    rfl
theorem ge_C_dn (H : ge_C a b c mid) {k : Int} (hk : 0 < k) {p : GPt} (hp : ge_cl k (b :: c :: (mid ++ [a])) p) : ge_in (ge_s k a) (ge_s k b) (ge_s k c) p ∨ ge_cl k (c :: (mid ++ [a])) p := by
  have HK := ge_C_s hk H
  by_cases hin : ge_in (ge_s k a) (ge_s k b) (ge_s k c) p
  · exact Or.inl hin
  · refine Or.inr (fun ot => ?_)
    have ot2 := ot
    rw [ge_S_cut] at ot2
    unfold ge_off at ot2
    rw [ge_E_cut] at ot2
    have n3 : ¬ ge_on (ge_s k a) (ge_s k c) p := ot2 _ (List.mem_append_right _ List.mem_cons_self)
    have F := HK.1
    have va : ge_in (ge_s k a) (ge_s k b) (ge_s k c) (ge_s k a) := ⟨by rw [(ge_C_zz _ _).1]; omega, by rw [(ge_C_cyc (ge_s k a) (ge_s k b) (ge_s k c)).1]; omega, by rw [(ge_C_zz _ _).2]; omega⟩
    have vb : ge_in (ge_s k a) (ge_s k b) (ge_s k c) (ge_s k b) := ⟨by rw [(ge_C_zz _ _).2]; omega, by rw [(ge_C_zz _ _).1]; omega, by rw [(ge_C_cyc (ge_s k a) (ge_s k b) (ge_s k c)).2]; omega⟩
    have vc : ge_in (ge_s k a) (ge_s k b) (ge_s k c) (ge_s k c) := ⟨by omega, by rw [(ge_C_zz _ _).2]; omega, by rw [(ge_C_zz _ _).1]; omega⟩
    have n1 : ¬ ge_on (ge_s k a) (ge_s k b) p := fun z => hin (ge_on_in z va vb)
    have n2 : ¬ ge_on (ge_s k b) (ge_s k c) p := fun z => hin (ge_on_in z vb vc)
    have ol : ge_off (ge_S k (b :: c :: (mid ++ [a]))) p := by
      rw [ge_S_ear]; exact ge_C_off n1 n2 (fun e he => ot2 e (List.mem_append_left _ he))
    have par := hp ol
    rw [ge_S_ear, ge_par_ear, ge_false_of (ge_tri HK.1 n1 n2 (fun z => n3 (ge_on_symm z))) (fun z => hin (ge_int_in z)), ← ge_S_cut] at par
    revert par
    cases ge_par (ge_S k (c :: (mid ++ [a]))) p <;> simp
/-- a corner's triangle: no edge properly crosses a segment in it -/
theorem ge_C_x0 {p : GPt} (hF : 0 < ge_o a b c) (h1 : ge_o a b p = 0) (h3 : ge_o c a p = 0) : p = a := by
  have bx := ge_bx a b c p
  have by' := ge_by a b c p
  have b0 := ge_b0 a b c p
  rw [h1, h3] at bx by'
  have e : ge_o b c p = ge_o a b c := by omega
  rw [e] at bx by'
  have x := ge_zero (t := a.1 - p.1) hF (by omega)
  have y := ge_zero (t := a.2 - p.2) hF (by omega)
  exact Prod.ext (by omega) (by omega)
theorem ge_x_ne {u v p q : GPt} (h : ge_x u v p q) : p ≠ q := fun z => by
  subst z
  have h2 := h.2
  have : ge_o p p u = 0 := by unfold ge_o; grind
  rw [this, Int.zero_mul] at h2
  omega
theorem ge_C_xT (H : ge_C a b c mid) {e : GPt × GPt} (he : e ∈ ge_E (b :: c :: (mid ++ [a]))) {p q : GPt} (hp : ge_in a b c p) (hq : ge_in a b c q) : ¬ ge_x e.1 e.2 p q := by
  intro hx
  rw [ge_E_ear] at he
  rcases List.mem_cons.mp he with z | z
  · rw [z] at hx
    have h1 : ge_o b c p * ge_o b c q < 0 := hx.1
    have := Int.mul_nonneg hp.2.1 hq.2.1
    omega
  · rcases List.mem_append.mp z with z | z
    · have hpq := ge_x_ne hx
      obtain ⟨m, r, i, j, i', j', hm, w, w', hi, hj, -⟩ := ge_x_pt hx
      have HM := ge_C_s hm H
      have sd := ge_sides H.2.1 H.2.2.1
      have hp' := (ge_in_s hm a b c p).mpr hp
      have hq' := (ge_in_s hm a b c q).mpr hq
      have hr := ge_wt_in w hp' hq'
      have hne : ge_s m p ≠ ge_s m q := fun t => hpq (ge_s_inj hm t)
      have two : ∀ u v : GPt, 0 ≤ ge_o u v (ge_s m p) → 0 ≤ ge_o u v (ge_s m q) → ge_o u v r = 0 → ge_o u v (ge_s m p) = 0 ∧ ge_o u v (ge_s m q) = 0 := fun u v k1 k2 k3 => by
        have ee := ge_wt_o w u v
        rw [k3, Int.mul_zero] at ee
        have q1 := Int.mul_nonneg (Int.le_of_lt hi) k1
        have q2 := Int.mul_nonneg (Int.le_of_lt hj) k2
        exact ⟨ge_zero hi (by omega), ge_zero hj (by omega)⟩
      have on := ge_wt_on w'
      have r3 : ge_o (ge_s m c) (ge_s m a) r = 0 := by
        rcases Int.lt_or_eq_of_le hr.2.2 with t | t
        · exact (ge_side_K (ge_side_s hm (sd e z)) on hr t).elim
        · exact t.symm
      obtain ⟨p3, q3⟩ := two _ _ hp'.2.2 hq'.2.2 r3
      have r1 : 0 < ge_o (ge_s m a) (ge_s m b) r := by
        rcases Int.lt_or_eq_of_le hr.1 with t | t
        · exact t
        · obtain ⟨p1, q1⟩ := two _ _ hp'.1 hq'.1 t.symm
          exact absurd ((ge_C_x0 HM.1 p1 p3).trans (ge_C_x0 HM.1 q1 q3).symm) hne
      have r2 : 0 < ge_o (ge_s m b) (ge_s m c) r := by
        rcases Int.lt_or_eq_of_le hr.2.1 with t | t
        · exact t
        · obtain ⟨p2, q2⟩ := two _ _ hp'.2.1 hq'.2.1 t.symm
          have F1 : 0 < ge_o (ge_s m c) (ge_s m a) (ge_s m b) := by rw [(ge_C_cyc (ge_s m a) (ge_s m b) (ge_s m c)).2]; exact HM.1
          exact absurd ((ge_C_x0 F1 p3 p2).trans (ge_C_x0 F1 q3 q2).symm) hne
      have hca : ge_s m a ≠ ge_s m c := fun t => (List.nodup_cons.mp (List.nodup_cons.mp H.2.1.1).2).1 (by rw [← ge_s_inj hm t]; simp)
      have onac : ge_on (ge_s m a) (ge_s m c) r := ge_on_symm (ge_in_on (by rw [(ge_C_cyc (ge_s m a) (ge_s m b) (ge_s m c)).2]; exact HM.1) (ge_in_cyc (ge_in_cyc hr)) r3)
      obtain ⟨i2, j2, w2⟩ := ge_on_wt hca onac
      have hi2 : 0 < i2 := by
        rcases Int.lt_or_eq_of_le w2.1 with t | t
        · exact t
        · subst t
          have := ge_wt_0 (ge_wt_swap w2)
          rw [this, (ge_C_zz _ _).2] at r2
          omega
      have hj2 : 0 < j2 := by
        rcases Int.lt_or_eq_of_le w2.2.1 with t | t
        · exact t
        · subst t
          have := ge_wt_0 w2
          rw [this, (ge_C_zz _ _).1] at r1
          omega
      have off := (ge_C_mid HM w2 hi2 hj2).1
      rw [← ge_S_ear] at off
      refine off (ge_s m e.1, ge_s m e.2) ?_ on
      rw [ge_E_S, ge_E_ear]
      exact List.mem_map.mpr ⟨e, List.mem_cons_of_mem _ (List.mem_append_left _ z), rfl⟩
    · rw [List.mem_singleton.mp z] at hx
      have h1 : ge_o a b p * ge_o a b q < 0 := hx.1
      have := Int.mul_nonneg hp.1 hq.1
      omega
/-- the corner's two edges don't properly cross a segment in the closed rest -/
theorem ge_C_xR (H : ge_C a b c mid) (Z : ∃ k : Int, 0 < k ∧ ∃ q : GPt, ge_int (ge_s k a) (ge_s k b) (ge_s k c) q ∧ ge_wn (ge_S k (c :: (mid ++ [a]))) q = 0) {x y : GPt} (hxy : (x = a ∧ y = b) ∨ (x = b ∧ y = c)) {p q : GPt} (hpq : ∀ m : Int, 0 < m → ∀ r : GPt, ge_on (ge_s m p) (ge_s m q) r → ge_cl m (c :: (mid ++ [a])) r) : ¬ ge_x x y p q := by
  intro hx
  obtain ⟨m, r, i, j, i', j', hm, w, w', hi, hj, hi', hj'⟩ := ge_x_pt hx
  have HM := ge_C_s hm H
  have F := HM.1
  have hcl := hpq m hm r (ge_wt_on w)
  have va : ge_in (ge_s m a) (ge_s m b) (ge_s m c) (ge_s m a) := ⟨by rw [(ge_C_zz _ _).1]; omega, by rw [(ge_C_cyc (ge_s m a) (ge_s m b) (ge_s m c)).1]; omega, by rw [(ge_C_zz _ _).2]; omega⟩
  have vb : ge_in (ge_s m a) (ge_s m b) (ge_s m c) (ge_s m b) := ⟨by rw [(ge_C_zz _ _).2]; omega, by rw [(ge_C_zz _ _).1]; omega, by rw [(ge_C_cyc (ge_s m a) (ge_s m b) (ge_s m c)).2]; omega⟩
  have vc : ge_in (ge_s m a) (ge_s m b) (ge_s m c) (ge_s m c) := ⟨by omega, by rw [(ge_C_zz _ _).2]; omega, by rw [(ge_C_zz _ _).1]; omega⟩
  have b3 : ge_o (ge_s m c) (ge_s m a) (ge_s m b) = ge_o (ge_s m a) (ge_s m b) (ge_s m c) := (ge_C_cyc (ge_s m a) (ge_s m b) (ge_s m c)).2
  have e3 := ge_wt_o w' (ge_s m c) (ge_s m a)
  rcases hxy with ⟨rfl, rfl⟩ | ⟨rfl, rfl⟩
  · rw [(ge_C_zz _ _).2, b3, Int.mul_zero] at e3
    refine ge_C_zero2 H Z hm (ge_wt_in w' va vb) (ge_pos w'.2.2.1 ?_) hcl
    have := Int.mul_pos hj' F
    omega
  · rw [(ge_C_zz _ _).1, b3, Int.mul_zero] at e3
    refine ge_C_zero2 H Z hm (ge_wt_in w' vb vc) (ge_pos w'.2.2.1 ?_) hcl
    have := Int.mul_pos hi' F
    omega
end Cover
