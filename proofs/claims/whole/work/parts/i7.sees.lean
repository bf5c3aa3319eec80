/-! the cover by ears' triangles, three colours, and who sees whom -/
theorem ge_tc_on {x e y p q r : GPt} {m : Int} (hm : 0 < m) (hF : ge_o x e y ≠ 0) (hp : ge_tc x e y p) (hq : ge_tc x e y q) (hr : ge_on (ge_s m p) (ge_s m q) r) : ge_tc (ge_s m x) (ge_s m e) (ge_s m y) r := by
  rcases Int.lt_or_lt_of_ne hF with z | z
  · have F' : 0 < ge_o y e x := by have : ge_o y e x = -ge_o x e y := by unfold ge_o; grind
                                   omega
    exact Or.inr (ge_on_in hr ((ge_in_s hm _ _ _ _).mpr (ge_tc_in F' (ge_tc_symm hp))) ((ge_in_s hm _ _ _ _).mpr (ge_tc_in F' (ge_tc_symm hq))))
  · exact Or.inl (ge_on_in hr ((ge_in_s hm _ _ _ _).mpr (ge_tc_in z hp)) ((ge_in_s hm _ _ _ _).mpr (ge_tc_in z hq)))
theorem ge_in_vs {a b c : GPt} (F : 0 < ge_o a b c) : ge_in a b c a ∧ ge_in a b c b ∧ ge_in a b c c :=
  ⟨⟨by rw [(ge_C_zz _ _).1]; omega, by rw [(ge_C_cyc a b c).1]; omega, by rw [(ge_C_zz _ _).2]; omega⟩, ⟨by rw [(ge_C_zz _ _).2]; omega, by rw [(ge_C_zz _ _).1]; omega, by rw [(ge_C_cyc a b c).2]; omega⟩, ⟨by omega, by rw [(ge_C_zz _ _).2]; omega, by rw [(ge_C_zz _ _).1]; omega⟩⟩
section Cover
variable {a b c : GPt} {mid : List GPt}
theorem ge_cov_step (H : ge_C a b c mid) (Z : ∃ k : Int, 0 < k ∧ ∃ q : GPt, ge_int (ge_s k a) (ge_s k b) (ge_s k c) q ∧ ge_wn (ge_S k (c :: (mid ++ [a]))) q = 0) {TS : List (GPt × GPt × GPt)} {col : GPt → Nat} (g : ge_cov (c :: (mid ++ [a])) TS col) : ge_cov (b :: c :: (mid ++ [a])) ((a, b, c) :: TS) (fun v => if v = b then 3 - col a - col c else col v) := by
  obtain ⟨g1, g2, g3, g4, g5, g6, g7⟩ := g
  have hb := (List.nodup_cons.mp H.2.1.1).1
  have nb : ∀ v ∈ c :: (mid ++ [a]), v ≠ b := fun v hv q => hb (q ▸ hv)
  have hac := g6 a c (Or.inl (by rw [ge_E_cut]; simp))
  have ca := g5 a
  have cc := g5 c
  have amem : a ∈ c :: (mid ++ [a]) := by simp
  have cmem : c ∈ c :: (mid ++ [a]) := List.mem_cons_self
  have edges : ∀ u v : GPt, (u, v) ∈ ge_E (b :: c :: (mid ++ [a])) → (u = b ∧ v = c) ∨ (u, v) ∈ ge_ed (c :: (mid ++ [a])) ∨ (u = a ∧ v = b) := fun u v h => by
    rw [ge_E_ear] at h
    rcases List.mem_cons.mp h with q | q
    · exact Or.inl (Prod.mk.inj q)
    · rcases List.mem_append.mp q with q | q
      · exact Or.inr (Or.inl q)
      · exact Or.inr (Or.inr (Prod.mk.inj (List.mem_singleton.mp q)))
  have up : ∀ {u v : GPt}, (u, v) ∈ ge_ed (c :: (mid ++ [a])) → ge_adj (c :: (mid ++ [a])) u v := fun {u v} h => Or.inl (by rw [ge_E_cut]; exact List.mem_append_left _ h)
  refine ⟨fun T hT => ?_, fun T hT k hk p hp => ?_, fun T hT => ?_, fun k hk p hp => ?_, fun v => ?_, ?_, fun T hT => ?_⟩
  · rcases List.mem_cons.mp hT with q | q
    · subst q; exact ⟨by simp, by simp, by simp, by have := H.1; show ge_o a b c ≠ 0; omega⟩
    · obtain ⟨h1, h2, h3, h4⟩ := g1 T q
      exact ⟨List.mem_cons_of_mem _ h1, List.mem_cons_of_mem _ h2, List.mem_cons_of_mem _ h3, h4⟩
  · rcases List.mem_cons.mp hT with q | q
    · subst q
      intro ho
      rw [ge_par_wn, ge_C_closed H Z hk (ge_tc_in (ge_C_s hk H).1 hp) ho]; rfl
    · exact ge_C_up H Z hk (g2 T q k hk p hp)
  · rcases List.mem_cons.mp hT with q | q
    · subst q
      intro u v huv p q hp hq hx
      have hp := ge_tc_in H.1 hp
      have hq := ge_tc_in H.1 hq
      rcases huv with z | z
      · exact ge_C_xT H z hp hq hx
      · exact ge_C_xT H z hp hq (ge_x_swap hx)
    · have key : ∀ u v : GPt, (u, v) ∈ ge_E (b :: c :: (mid ++ [a])) → ∀ p r : GPt, ge_tc T.1 T.2.1 T.2.2 p → ge_tc T.1 T.2.1 T.2.2 r → ¬ ge_x u v p r := fun u v huv p r hp hr => by
        have hpr : ∀ m : Int, 0 < m → ∀ w : GPt, ge_on (ge_s m p) (ge_s m r) w → ge_cl m (c :: (mid ++ [a])) w := fun m hm w hw => g2 T q m hm w (ge_tc_on hm (g1 T q).2.2.2 hp hr hw)
        rcases edges u v huv with z | z | z
        · exact ge_C_xR H Z (Or.inr z) hpr
        · exact g3 T q u v (up z) p r hp hr
        · exact ge_C_xR H Z (Or.inl z) hpr
      intro u v huv p r hp hr hx
      rcases huv with z | z
      · exact key u v z p r hp hr hx
      · exact key v u z p r hp hr (ge_x_swap hx)
  · rcases ge_C_dn H hk hp with z | z
    · exact ⟨(a, b, c), List.mem_cons_self, Or.inl z⟩
    · obtain ⟨T, hT, ht⟩ := g4 k hk p z
      exact ⟨T, List.mem_cons_of_mem _ hT, ht⟩
  · dsimp only
    split
    · omega
    · exact g5 v
  · have key : ∀ u v : GPt, (u, v) ∈ ge_E (b :: c :: (mid ++ [a])) → (fun v => if v = b then 3 - col a - col c else col v) u ≠ (fun v => if v = b then 3 - col a - col c else col v) v := fun u v huv => by
      dsimp only
      rcases edges u v huv with ⟨z1, z2⟩ | z | ⟨z1, z2⟩
      · rw [z1, z2, if_pos rfl, if_neg (nb c cmem)]; omega
      · have me := ge_ed_mem _ _ z
        rw [if_neg (nb u me.1), if_neg (nb v me.2)]
        exact g6 u v (up z)
      · rw [z1, z2, if_pos rfl, if_neg (nb a amem)]; omega
    intro u v huv
    rcases huv with z | z
    · exact key u v z
    · exact (key v u z).symm
  · rcases List.mem_cons.mp hT with q | q
    · subst q
      dsimp only
      rw [if_pos rfl, if_neg (nb a amem), if_neg (nb c cmem)]
      omega
    · obtain ⟨h1, h2, h3, h4⟩ := g1 T q
      dsimp only
      rw [if_neg (nb _ h1), if_neg (nb _ h2), if_neg (nb _ h3)]
      exact g7 T q
theorem ge_cov_3 (hF : 0 < ge_o a b c) (hn : (b :: c :: ([] ++ [a])).Nodup) : ge_cov (b :: c :: ([] ++ [a])) [(a, b, c)] (fun v => if v = b then 0 else if v = c then 1 else 2) := by
  have nbc : b ≠ c := by simp at hn; grind
  have nba : b ≠ a := by simp at hn; grind
  have nca : c ≠ a := by simp at hn; grind
  have hE : ∀ e : GPt × GPt, e ∈ ge_E (b :: c :: ([] ++ [a])) ↔ e = (b, c) ∨ e = (c, a) ∨ e = (a, b) := fun e => by
    rw [ge_E_ear]; simp [ge_ed]
  have z0 : ∀ (k : Int) (p : GPt), ge_par (ge_s k c :: (ge_S k [] ++ [ge_s k a])) p = false := fun k p => by
    show (ge_cs (ge_s k c) (ge_s k a) p != (ge_cs (ge_s k a) (ge_s k c) p != false)) = false
    rw [ge_cs_comm (ge_s k a) (ge_s k c)]
    cases ge_cs (ge_s k c) (ge_s k a) p <;> rfl
  refine ⟨fun T hT => ?_, fun T hT k hk p hp ho => ?_, fun T hT => ?_, fun k hk p hp => ⟨(a, b, c), List.mem_cons_self, Or.inl ?_⟩, fun v => ?_, ?_, fun T hT => ?_⟩
  · rw [List.mem_singleton.mp hT]; exact ⟨by simp, by simp, by simp, by show ge_o a b c ≠ 0; omega⟩
  · rw [List.mem_singleton.mp hT] at hp
    have F : 0 < ge_o (ge_s k a) (ge_s k b) (ge_s k c) := by rw [ge_o_s]; exact Int.mul_pos (ge_mm hk) hF
    have hp := ge_tc_in F hp
    rw [ge_S_ear] at ho ⊢
    obtain ⟨o1, o2, o3⟩ := ge_C_of ho
    have n3 := o3 (ge_s k c, ge_s k a) List.mem_cons_self
    have p1 : 0 < ge_o (ge_s k a) (ge_s k b) p := by
      rcases Int.lt_or_eq_of_le hp.1 with z | z
      · exact z
      · exact absurd (ge_in_on F hp z.symm) o1
    have p2 : 0 < ge_o (ge_s k b) (ge_s k c) p := by
      rcases Int.lt_or_eq_of_le hp.2.1 with z | z
      · exact z
      · exact absurd (ge_in_on (by rw [ge_o_cyc]; exact F) (ge_in_cyc hp) z.symm) o2
    have p3 : 0 < ge_o (ge_s k c) (ge_s k a) p := by
      rcases Int.lt_or_eq_of_le hp.2.2 with z | z
      · exact z
      · exact absurd (ge_in_on (by rw [(ge_C_cyc (ge_s k a) (ge_s k b) (ge_s k c)).2]; exact F) (ge_in_cyc (ge_in_cyc hp)) z.symm) n3
    rw [ge_par_ear, z0, (ge_tri F o1 o2 n3).mpr ⟨p1, p2, p3⟩]; rfl
  · rw [List.mem_singleton.mp hT]
    have key : ∀ e : GPt × GPt, e ∈ ge_E (b :: c :: ([] ++ [a])) → ∀ p q : GPt, ge_tc a b c p → ge_tc a b c q → ¬ ge_x e.1 e.2 p q := fun e he p q hp hq hx => by
      have hp := ge_tc_in hF hp
      have hq := ge_tc_in hF hq
      rcases (hE e).mp he with z | z | z
      · rw [z] at hx
        have h1 : ge_o b c p * ge_o b c q < 0 := hx.1
        have := Int.mul_nonneg hp.2.1 hq.2.1
        omega
      · rw [z] at hx
        have h1 : ge_o c a p * ge_o c a q < 0 := hx.1
        have := Int.mul_nonneg hp.2.2 hq.2.2
        omega
      · rw [z] at hx
        have h1 : ge_o a b p * ge_o a b q < 0 := hx.1
        have := Int.mul_nonneg hp.1 hq.1
        omega
    intro u v huv p q hp hq hx
    rcases huv with z | z
    · exact key _ z p q hp hq hx
    · exact key _ z p q hp hq (ge_x_swap hx)
  · have F : 0 < ge_o (ge_s k a) (ge_s k b) (ge_s k c) := by rw [ge_o_s]; exact Int.mul_pos (ge_mm hk) hF
    obtain ⟨va, vb, vc⟩ := ge_in_vs F
    refine Classical.byContradiction (fun hin => ?_)
    have n1 : ¬ ge_on (ge_s k a) (ge_s k b) p := fun z => hin (ge_on_in z va vb)
    have n2 : ¬ ge_on (ge_s k b) (ge_s k c) p := fun z => hin (ge_on_in z vb vc)
    have n3 : ¬ ge_on (ge_s k c) (ge_s k a) p := fun z => hin (ge_on_in z vc va)
    have ol : ge_off (ge_S k (b :: c :: ([] ++ [a]))) p := by
      rw [ge_S_ear]
      refine ge_C_off n1 n2 (fun e he => ?_)
      have he : e ∈ [(ge_s k c, ge_s k a)] := he
      rw [List.mem_singleton.mp he]; exact n3
    have par := hp ol
    rw [ge_S_ear, ge_par_ear, z0, ge_false_of (ge_tri F n1 n2 n3) (fun z => hin (ge_int_in z))] at par
    cases par
  · dsimp only
    split
    · omega
    · split <;> omega
  · have key : ∀ u v : GPt, (u, v) ∈ ge_E (b :: c :: ([] ++ [a])) → (fun v => if v = b then 0 else if v = c then 1 else 2) u ≠ (fun v => if v = b then 0 else if v = c then 1 else 2) v := fun u v h => by
      dsimp only
      rcases (hE _).mp h with z | z | z
      · obtain ⟨z1, z2⟩ := Prod.mk.inj z
        rw [z1, z2, if_pos rfl, if_neg nbc.symm, if_pos rfl]; omega
      · obtain ⟨z1, z2⟩ := Prod.mk.inj z
        rw [z1, z2, if_neg nbc.symm, if_pos rfl, if_neg nba.symm, if_neg nca.symm]; omega
      · obtain ⟨z1, z2⟩ := Prod.mk.inj z
        rw [z1, z2, if_pos rfl, if_neg nba.symm, if_neg nca.symm]; omega
    intro u v h
    rcases h with z | z
    · exact key u v z
    · exact (key v u z).symm
  · rw [List.mem_singleton.mp hT]
    dsimp only
    rw [if_pos rfl, if_neg nbc.symm, if_pos rfl, if_neg nba.symm, if_neg nca.symm]
    omega
end Cover
theorem ge_cov_pos {n : Nat} (ih : ∀ l : List GPt, l.length ≤ n → 3 ≤ l.length → ge_simple l → ∃ TS col, ge_cov l TS col ∧ TS ≠ []) {a b c : GPt} {mid : List GPt} (hlen : mid.length + 3 ≤ n + 1) (hF : 0 < ge_o a b c) (hs : ge_simple (b :: c :: (mid ++ [a]))) (hW : ge_W (b :: c :: (mid ++ [a])) 1) (hem : ∀ w ∈ b :: c :: (mid ++ [a]), w ≠ a → w ≠ b → w ≠ c → ¬ ge_tc a b c w) : ∃ TS col, ge_cov (b :: c :: (mid ++ [a])) TS col ∧ TS ≠ [] := by
  by_cases hm : mid = []
  · subst hm; exact ⟨_, _, ge_cov_3 hF hs.1, by simp⟩
  · have hm1 : 0 < mid.length := List.length_pos_iff.mpr hm
    have hb := (List.nodup_cons.mp hs.1).1
    have H : ge_C a b c mid := ⟨hF, hs, fun w hw h1 h2 z => hem w (List.mem_cons_of_mem _ hw) h1 (fun q => hb (q ▸ hw)) h2 (Or.inl z), hm⟩
    obtain ⟨TS, col, g, -⟩ := ih (c :: (mid ++ [a])) (by simp; omega) (by simp; omega) (ge_cut_simple H.1 H.2.1 H.2.2.1)
    exact ⟨_, _, ge_cov_step H (ge_C_turn H hW) g, by simp⟩
theorem ge_cov_n : ∀ (n : Nat) (l : List GPt), l.length ≤ n → 3 ≤ l.length → ge_simple l → ∃ TS col, ge_cov l TS col ∧ TS ≠ []
  | 0, l, h1, h2, _ => by omega
  | n + 1, l, h1, h2, hs => by
    obtain ⟨σ, W, -, s, r, a, e, c, mid, rfl, ht, ho, hem⟩ := ge_orient h2 hs
    have eq1 := ge_eqv_rot s (e :: r)
    have nd1 : (e :: r ++ s).Nodup := List.perm_append_comm.nodup_iff.mp hs.1
    have hs1 := ge_eqv_simple eq1 nd1 hs
    have W1 : ge_W (e :: r ++ s) σ := ge_W_rot W
    have hlen : (r ++ s).length = (s ++ e :: r).length - 1 := by simp; omega
    rw [show e :: r ++ s = e :: (r ++ s) by simp, ht] at hs1 nd1 eq1 W1
    rw [ht] at hlen
    have hl2 : mid.length + 3 ≤ n + 1 := by simp at hlen h1; omega
    have hem1 : ∀ w ∈ e :: c :: (mid ++ [a]), w ≠ a → w ≠ e → w ≠ c → ¬ ge_tc a e c w := fun w hw => hem w ((eq1.1 w).mpr hw)
    have back : (∃ TS col, ge_cov (e :: c :: (mid ++ [a])) TS col ∧ TS ≠ []) → ∃ TS col, ge_cov (s ++ e :: r) TS col ∧ TS ≠ [] := fun ⟨TS, col, g, hn⟩ => ⟨TS, col, ge_eqv_cov (ge_eqv_symm eq1) g, hn⟩
    apply back
    rcases W.1 with h | h <;> subst h
    · exact ge_cov_pos (ge_cov_n n) hl2 (by omega) hs1 W1 hem1
    · have er : (c :: (mid ++ [a])).reverse = a :: (mid.reverse ++ [c]) := by simp
      have eq2 := ge_eqv_rev e (c :: (mid ++ [a]))
      have nd2 : (e :: (c :: (mid ++ [a])).reverse).Nodup := List.nodup_cons.mpr ⟨fun z => (List.nodup_cons.mp nd1).1 (List.mem_reverse.mp z), (List.reverse_perm _).nodup_iff.mpr (List.nodup_cons.mp nd1).2⟩
      have hs2 := ge_eqv_simple eq2 nd2 hs1
      have W2 := ge_W_rev W1
      rw [er] at hs2 nd2 eq2 W2
      have sw : ge_o c e a = -ge_o a e c := by unfold ge_o; grind
      obtain ⟨TS, col, g, hn⟩ := ge_cov_pos (ge_cov_n n) (a := c) (b := e) (c := a) (mid := mid.reverse) (by simp; omega) (by omega) hs2 W2 (fun w hw w1 w2 w3 z => hem1 w ((eq2.1 w).mpr hw) w3 w2 w1 (ge_tc_symm z))
      exact ⟨TS, col, ge_eqv_cov (ge_eqv_symm eq2) g, hn⟩
theorem ge_cover {l : List GPt} (h3 : 3 ≤ l.length) (hs : ge_simple l) : ∃ TS col, ge_cov l TS col ∧ TS ≠ [] := ge_cov_n l.length l (Nat.le_refl _) h3 hs
