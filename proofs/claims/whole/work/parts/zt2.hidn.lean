/-! at most ten points are hidden from one another; both answers -/
theorem ge_cvp {n : Nat} (ih : ∀ l : List GPt, l.length ≤ n → 3 ≤ l.length → ge_simple l → ∃ TS col, ge_cov l TS col ∧ TS.length + 2 = l.length) {a b c : GPt} {mid : List GPt} (hlen : mid.length + 3 ≤ n + 1) (hF : 0 < ge_o a b c) (hs : ge_simple (b :: c :: (mid ++ [a]))) (hW : ge_W (b :: c :: (mid ++ [a])) 1) (hem : ∀ w ∈ b :: c :: (mid ++ [a]), w ≠ a → w ≠ b → w ≠ c → ¬ ge_tc a b c w) : ∃ TS col, ge_cov (b :: c :: (mid ++ [a])) TS col ∧ TS.length + 2 = (b :: c :: (mid ++ [a])).length := by
  by_cases hm : mid = []
  · subst hm; exact ⟨_, _, ge_cov_3 hF hs.1, by simp⟩
  · have hm1 : 0 < mid.length := List.length_pos_iff.mpr hm
    have hb := (List.nodup_cons.mp hs.1).1
    have H : ge_C a b c mid := ⟨hF, hs, fun w hw h1 h2 z => hem w (List.mem_cons_of_mem _ hw) h1 (fun q => hb (q ▸ hw)) h2 (Or.inl z), hm⟩
    obtain ⟨TS, col, g, gl⟩ := ih (c :: (mid ++ [a])) (by simp; omega) (by simp; omega) (ge_cut_simple H.1 H.2.1 H.2.2.1)
    exact ⟨_, _, ge_cov_step H (ge_C_turn H hW) g, by simp at gl ⊢; omega⟩
theorem ge_cvn : ∀ (n : Nat) (l : List GPt), l.length ≤ n → 3 ≤ l.length → ge_simple l → ∃ TS col, ge_cov l TS col ∧ TS.length + 2 = l.length
  | 0, l, h1, h2, _ => by omega
  | n + 1, l, h1, h2, hs => by
    obtain ⟨σ, W, -, s, r, a, e, c, mid, rfl, ht, ho, hem⟩ := ge_orient h2 hs
    have eq1 := ge_eqv_rot s (e :: r)
    have nd1 : (e :: r ++ s).Nodup := List.perm_append_comm.nodup_iff.mp hs.1
    have hs1 := ge_eqv_simple eq1 nd1 hs
    have W1 : ge_W (e :: r ++ s) σ := ge_W_rot W
    have hlen : (r ++ s).length = (s ++ e :: r).length - 1 := by simp; omega
    rw [show e :: r ++ s = e :: (r ++ s) by simp, ht] at hs1 nd1 eq1 W1
    rw [ht] at hlen
    have hl2 : mid.length + 3 ≤ n + 1 := by simp at hlen h1; omega
    have hem1 : ∀ w ∈ e :: c :: (mid ++ [a]), w ≠ a → w ≠ e → w ≠ c → ¬ ge_tc a e c w := fun w hw => hem w ((eq1.1 w).mpr hw)
    have back : (∃ TS col, ge_cov (e :: c :: (mid ++ [a])) TS col ∧ TS.length + 2 = (e :: c :: (mid ++ [a])).length) → ∃ TS col, ge_cov (s ++ e :: r) TS col ∧ TS.length + 2 = (s ++ e :: r).length := fun ⟨TS, col, g, hn⟩ => ⟨TS, col, ge_eqv_cov (ge_eqv_symm eq1) g, by simp at hn hlen ⊢; omega⟩
    apply back
    rcases W.1 with h | h <;> subst h
    · exact ge_cvp (ge_cvn n) hl2 (by omega) hs1 W1 hem1
    · have er : (c :: (mid ++ [a])).reverse = a :: (mid.reverse ++ [c]) := by simp
      have eq2 := ge_eqv_rev e (c :: (mid ++ [a]))
      have nd2 : (e :: (c :: (mid ++ [a])).reverse).Nodup := List.nodup_cons.mpr ⟨fun z => (List.nodup_cons.mp nd1).1 (List.mem_reverse.mp z), (List.reverse_perm _).nodup_iff.mpr (List.nodup_cons.mp nd1).2⟩
      have hs2 := ge_eqv_simple eq2 nd2 hs1
      have W2 := ge_W_rev W1
      rw [er] at hs2 nd2 eq2 W2
      have sw : ge_o c e a = -ge_o a e c := by unfold ge_o; grind
      obtain ⟨TS, col, g, hn⟩ := ge_cvp (ge_cvn n) (a := c) (b := e) (c := a) (mid := mid.reverse) (by simp; omega) (by omega) hs2 W2 (fun w hw w1 w2 w3 z => hem1 w ((eq2.1 w).mpr hw) w3 w2 w1 (ge_tc_symm z))
      exact ⟨TS, col, ge_eqv_cov (ge_eqv_symm eq2) g, by simp at hn ⊢; omega⟩
/-- groups: none of a set of more than as many points as groups -/
theorem idp_cov {A : Type} {r : Nat → Int64} {V : Int64} (P : A → Nat → Prop) (hc : ∀ T x y, P T x → P T y → bz V x = true → bz V y = true → bz (r x) y = true) : ∀ (TS : List A) (W : Int64), (∀ i, bz W i = true → bz V i = true) → (∀ i, bz W i = true → ∃ T ∈ TS, P T i) → ∀ k, idp r W k → k ≤ TS.length
  | [], W, hW, h, k, hk => by
    have : W = 0 := bz_ext (fun i hi => by
      rw [bz_0]
      cases e : bz W i with
      | false => rfl
      | true => obtain ⟨T, hT, -⟩ := h i e; cases hT)
    rw [this] at hk
    rw [idp_0 hk]
    exact Nat.le_refl _
  | T :: TS, W, hW, h, k, hk => by
    obtain ⟨W', e'⟩ : ∃ W' : Int64, ∀ i, i < 64 → bz W' i = (bz W i && chB (¬ P T i)) := ⟨wo W (sSz 64 (fun i => chB (P T i))), fun i hi => by
      rw [wo_bz hi, sS_bz (by omega) _ hi, decide_eq_true hi, Bool.true_and]
      congr 1
      by_cases c : P T i
      · rw [chB_t.mpr c, chB_f.mpr (fun z => z c)]; rfl
      · rw [chB_f.mpr c, chB_t.mpr c]; rfl⟩
    have sub : ∀ i, bz W' i = true → bz W i = true ∧ ¬ P T i := fun i hi => by
      have := e' i (lt64 hi)
      rw [hi] at this
      have h2 := (Bool.and_eq_true _ _).mp this.symm
      exact ⟨h2.1, chB_t.mp h2.2⟩
    have out : ∀ x, bz W x = true → bz W' x = false → P T x := fun x h1 h2 => by
      rw [e' x (lt64 h1), h1, Bool.true_and] at h2
      exact Classical.byContradiction (chB_f.mp h2)
    obtain ⟨j, j1, j2⟩ := idp_grp (V := W) (W := W') (fun i _ hi => (sub i hi).1) (fun x y h1 h2 h3 h4 => hc T x y (out x h1 h2) (out y h3 h4) (hW x h1) (hW y h3)) hk
    have := idp_cov P hc TS W' (fun i hi => hW i (sub i hi).1) (fun i hi => by
      obtain ⟨U, hU, hp⟩ := h i (sub i hi).1
      rcases List.mem_cons.mp hU with z | z
      · rw [z] at hp; exact absurd hp (sub i hi).2
      · exact ⟨U, z, hp⟩) j j2
    rw [List.length_cons]
    omega
theorem hid_10 {M : ST} {r : Nat → Int64} (hL : Ld M) (h : SR M r) {k : Nat} (hk : idp r (aL (nP M)) k) : k ≤ 10 := by
  have hP := Ld_P hL
  obtain ⟨hs, h3, h12⟩ := GR_simple hL.1
  obtain ⟨TS, col, g, gl⟩ := ge_cvn _ _ (Nat.le_refl _) h3 hs
  have inn : ∀ i, bz (aL (nP M)) i = true → i < nP M := fun i hi => by
    rw [aL_bz hP.2 (lt64 hi)] at hi
    exact of_decide_eq_true hi
  have := idp_cov (fun (T : GPt × GPt × GPt) i => T ∈ TS ∧ ge_tc T.1 T.2.1 T.2.2 (pt M i)) (r := r) (V := aL (nP M)) (fun T x y h1 h2 h3 h4 => ?_) TS (aL (nP M)) (fun _ h => h) (fun i hi => ?_) k hk
  · omega
  · exact (h x (inn x h3) y (lt64 h4)).mpr ⟨inn y h4, ge_sees_T g h1.1 h1.2 h2.2⟩
  · obtain ⟨T, hT, hp⟩ := g.2.2.2.1 1 (by omega) _ (pt_cl hL (inn i hi))
    exact ⟨T, hT, hT, ge_tc_1 hp⟩
section Cw
variable {S M : ST}
theorem hdG_c (h : CSz S M) : hdG (nP M) (S.2 31) := by
  obtain ⟨hx, hs, -⟩ := h
  exact hdG_of hx.2.2.2.2.1 hs (fun p hp => sees_refl (pt_cl hx.2.2.1 hp))
theorem hdG_m (h : MS S) : hdG (nP S) (S.2 153) := hdG_of (Ld_P h.1).2 h.2.1 (fun p hp => sees_refl (pt_cl h.1 hp))
theorem aL_of {n : Nat} (h : n ≤ 64) : ofP n (aL n) := fun q hq => by
  rw [aL_bz h (lt64 hq)] at hq
  exact of_decide_eq_true hq
/-- the class's answer -/
theorem F84_eq (h : CSz S M) (h0 : S.1 43 4 = 0) {k : Nat} (hk : hmx (S.2 31) (aL (nP M)) k) : F_84 S = some (nJ k, wI S 43 4 (nJ k)) := by
  have h64 := h.1.2.2.2.2.1
  have k10 := hid_10 h.1.2.2.1 h.2.1 hk.1
  unfold F_84
  rw [if_pos h0, show F_71 S = aL (nP M) from F21_eq h.1, show (0 : Int32) = nJ 0 from rfl, F85_eq (hdG_c h) 16 0 k _ (aL_of h64) hk (by omega) (by omega), ob_s]
/-- the reference's -/
theorem M272_eq (h : MS S) {k : Nat} (hk : hmx (S.2 153) (aL (nP S)) k) : ∃ S2, F_272 66 (F_216 (wI S 140 38 0)) 0 (wI S 140 38 0) = some ((), S2) ∧ Fm [] [38] S S2 ∧ S2.1 140 38 = nJ k := by
  have hP := Ld_P h.1
  have k10 := hid_10 h.1 h.2.1 hk.1
  have f0 : Fm [] [38] S (wI S 140 38 0) := Fm_f (by simp)
  obtain ⟨m1, n1, r1, -⟩ := MS_fm h f0 (by simp) (by simp) (by simp) (by simp) (by simp) (by simp) (by simp) (by simp)
  rw [F216_eq m1.1, n1]
  have hp := pn_le (aL (nP S))
  obtain ⟨S2, e, f, q⟩ := F272_eqc hdC_pn (S := S) (hdG_m h) 66 (aL (nP S)) 0 0 k (wI S 140 38 0) (aL_of hP.2) hk (by omega) (by omega) (by omega) rfl (by rw [wI_1, if_pos ⟨rfl, rfl⟩]; rfl)
  refine ⟨S2, e, f0.tr f, ?_⟩
  rw [q, Nat.zero_add, Nat.max_eq_right (by omega)]
theorem hmx_cg {n k : Nat} {r r' : Nat → Int64} {V : Int64} (hV : ofP n V) (h : ∀ p, p < n → r p = r' p) (hk : hmx r V k) : hmx r' V k := by
  have key : ∀ (r r' : Nat → Int64), (∀ p, p < n → r p = r' p) → ∀ j, idp r V j → idp r' V j := fun r r' h j hj => by
    obtain ⟨s, s1, s2⟩ := hj
    exact ⟨s, fun i hi hs => ⟨(s1 i hi hs).1, fun j hj sj ne => by rw [← h i (hV i (s1 i hi hs).1)]; exact (s1 i hi hs).2 j hj sj ne⟩, s2⟩
  exact ⟨key r r' h k hk.1, fun j hj => hk.2 j (key r' r (fun p hp => (h p hp).symm) j hj)⟩
end Cw
