/-! the parser's small readers on both sides -/
def ckN (b : Nat → Int32) (n p : Nat) (lo hi : Int32) : Int32 := if tkK b n p = 2 then (if tkV b n p < lo then 2 else if hi < tkV b n p then 2 else 0) else 1
theorem ckN_in {b : Nat → Int32} {n p : Nat} {lo hi : Int32} (h : ckN b n p lo hi = 0) : tkK b n p = 2 ∧ lo.toInt ≤ (tkV b n p).toInt ∧ (tkV b n p).toInt ≤ hi.toInt := by
  unfold ckN at h
  by_cases c : tkK b n p = 2
  · rw [if_pos c] at h
    by_cases d : tkV b n p < lo
    · rw [if_pos d] at h; exact absurd h (by decide)
    · rw [if_neg d] at h
      by_cases e : hi < tkV b n p
      · rw [if_pos e] at h; exact absurd h (by decide)
      · rw [i32_lt] at d e
        exact ⟨c, by omega, by omega⟩
  · rw [if_neg c] at h; exact absurd h (by decide)
def er (S : ST) (c : Int32) : ST := wI (wI S 140 17 c) 140 18 (S.1 140 12)
theorem Fc_p {hs : List Nat} {P : Nat → Prop} {S S' : ST} (h : Fc hs S S') (h1 : ∀ x ∈ hs, P x) : Fp P S S' := fun a ha => h a (fun q => ha (h1 a q))
theorem CK_r {S S' : ST} {n p : Nat} {b : Nat → Int32} (e : S'.1 1 = S.1 1) (h : CK S n b p) : CK S' n b p := by unfold CK; rw [e]; exact h
theorem wI_r {S : ST} {h q h' : Nat} {v : Int32} (hn : ¬ h' = h) : (wI S h q v).1 h' = S.1 h' := funext fun k => by rw [wI_1, if_neg (fun z => hn z.1)]
theorem MK_r {S S' : ST} {n p : Nat} {b : Nat → Int32} (e : ∀ k, ¬ k = 17 → ¬ k = 18 → S'.1 140 k = S.1 140 k) (e2 : S'.1 145 = S.1 145) (h : MK S n b p) : MK S' n b p := by
  unfold MK
  rw [e 10 (by decide) (by decide), e 12 (by decide) (by decide), e 11 (by decide) (by decide), e 13 (by decide) (by decide), e 16 (by decide) (by decide), e 15 (by decide) (by decide), e2]
  exact h
section Rd
variable {S : ST} {n p : Nat} {b : Nat → Int32} {lo hi : Int32}
theorem er_F {c : Int32} : Fm [] [17, 18] S (er S c) := (Fm_f (by decide)).tr (Fm_f (by decide))
theorem er_17 {c : Int32} : (er S c).1 140 17 = c := by unfold er; rw [wI_1, if_neg (by decide), wI_1, if_pos ⟨rfl, rfl⟩]
theorem er_18 {c : Int32} : (er S c).1 140 18 = S.1 140 12 := by unfold er; rw [wI_1, if_pos ⟨rfl, rfl⟩]
theorem C41_eq (hc : CK S n b p) : F_41 lo hi S = ckN b n p lo hi := by
  obtain ⟨_, _, _, _, h1, h3⟩ := hc
  unfold F_41 ckN
  rw [h1]
  by_cases c : tkK b n p = 2
  · rw [if_pos c, if_pos c, h3 c]
  · rw [if_neg c, if_neg c]
theorem C40_e1 (hc : CK S n b p) (c0 : ¬ ckN b n p 0 15 = 0) (v : Bool) : F_40 v S = some (ckN b n p 0 15, S) := by
  unfold F_40
  rw [C41_eq hc, if_neg c0]
theorem C40_e2 (hc : CK S n b p) (hn : n ≤ 600) (hb : BF S 2 b) (c0 : ckN b n p 0 15 = 0) (c1 : ¬ ckN b n (tkS b n p) 0 15 = 0) (v : Bool) : ∃ S', F_40 v S = some (ckN b n (tkS b n p) 0 15, S') ∧ Fc [1, 29] S S' ∧ S'.1 1 2 = nJ (tkS b n p) := by
  obtain ⟨Sa, ea, fa, ca⟩ := F13_c (S := wI S 29 3 (S.1 1 3)) (CK_r (wI_r (by decide)) hc) hn (BF_fc hb (Fc_I (hs := [29]) (by decide)) (by decide))
  refine ⟨Sa, ?_, (Fc_I (by decide)).tr (fa.wk (by decide)), ca.2.2.1⟩
  unfold F_40
  rw [C41_eq hc, if_pos c0, ea, ob_s]
  show (if F_41 0 15 Sa = 0 then _ else some (F_41 0 15 Sa, Sa)) = _
  rw [C41_eq ca, if_neg c1]
theorem C40_eq (hc : CK S n b p) (hn : n ≤ 600) (hb : BF S 2 b) (c0 : ckN b n p 0 15 = 0) (c1 : ckN b n (tkS b n p) 0 15 = 0) : ∃ S1 S', Fc [1, 29] S S1 ∧ CK S1 n b (tkS b n p) ∧ S1.1 29 3 = tkV b n p ∧ S1.1 29 4 = tkV b n (tkS b n p) ∧ Fc [1] S1 S' ∧ CK S' n b (tkS b n (tkS b n p)) ∧ ∀ v : Bool, F_40 v S = if v = true then ob (F_18 25 (tkV b n p) (tkV b n (tkS b n p)) S1) (fun w2 => if w2 = -1 then some (4, S1) else some (0, S')) else some (0, S') := by
  have h3 : S.1 1 3 = tkV b n p := hc.2.2.2.2.2 (ckN_in c0).1
  obtain ⟨Sa, ea, fa, ca⟩ := F13_c (S := wI S 29 3 (S.1 1 3)) (CK_r (wI_r (by decide)) hc) hn (BF_fc hb (Fc_I (hs := [29]) (by decide)) (by decide))
  have h3a : Sa.1 1 3 = tkV b n (tkS b n p) := ca.2.2.2.2.2 (ckN_in c1).1
  have ba : BF Sa 2 b := BF_fc (BF_fc hb (Fc_I (hs := [29]) (by decide)) (by decide)) fa (by decide)
  have hx : Sa.1 29 3 = tkV b n p := by rw [(fa 29 (by decide)).1, wI_1, if_pos ⟨rfl, rfl⟩]; exact h3
  obtain ⟨S', e', f', c'⟩ := F13_c (S := wI Sa 29 4 (Sa.1 1 3)) (CK_r (wI_r (by decide)) ca) hn (BF_fc ba (Fc_I (hs := [29]) (by decide)) (by decide))
  refine ⟨wI Sa 29 4 (Sa.1 1 3), S', ((Fc_I (by decide)).tr (fa.wk (by decide))).tr (Fc_I (by decide)), CK_r (wI_r (by decide)) ca, ?_, ?_, f', c', fun v => ?_⟩
  · rw [wI_1, if_neg (by decide)]; exact hx
  · rw [wI_1, if_pos ⟨rfl, rfl⟩]; exact h3a
  · unfold F_40
    rw [C41_eq hc, if_pos c0, ea, ob_s]
    show (if F_41 0 15 Sa = 0 then (if v = true then ob (F_18 25 (Sa.1 29 3) (Sa.1 1 3) (wI Sa 29 4 (Sa.1 1 3))) (fun w2 => if w2 = -1 then some (4, (wI Sa 29 4 (Sa.1 1 3))) else ob (F_13 (wI Sa 29 4 (Sa.1 1 3))) (fun w3 => some (0, w3.2))) else ob (F_13 (wI Sa 29 4 (Sa.1 1 3))) (fun w4 => some (0, w4.2))) else some (F_41 0 15 Sa, Sa)) = _
    rw [C41_eq ca, if_pos c1, e', hx, h3a]
    rfl
theorem M193_n {c : Int32} (h : S.1 140 17 = 0) : F_193 c S = some ((), er S c) := by unfold F_193; rw [if_pos h]; rfl
theorem M193_y {c : Int32} (h : ¬ S.1 140 17 = 0) : F_193 c S = some ((), S) := by unfold F_193; rw [if_neg h]
theorem M196_y (h : ¬ S.1 140 17 = 0) : F_196 lo hi S = some (lo, S) := by
  unfold F_196
  rw [M193_y h, M193_y h, if_neg h]
  split
  · split
    · rfl
    · show some ((if S.1 140 17 = 0 then S.1 140 16 else lo), S) = _
      rw [if_neg h]
  · show some ((if S.1 140 17 = 0 then S.1 140 16 else lo), S) = _
    rw [if_neg h]
theorem M197_y (h : ¬ S.1 140 17 = 0) : F_197 lo hi S = some (lo, S) := by
  unfold F_197
  rw [M196_y h, ob_s]
  show ob (F_194 S) (fun w2 => some (lo, w2.2)) = _
  rw [M194_y h]
  rfl
theorem M196_0 (h : S.1 140 17 = 0) (hm : MK S n b p) (c : ckN b n p lo hi = 0) : F_196 lo hi S = some (tkV b n p, S) := by
  obtain ⟨k, l1, l2⟩ := ckN_in c
  unfold F_196
  rw [hm.2.2.2.2.1, if_pos k, hm.2.2.2.2.2.1 k, if_pos (F182_t.mpr ⟨l1, l2⟩), if_pos h]
theorem M196_e (h : S.1 140 17 = 0) (hm : MK S n b p) (c : ¬ ckN b n p lo hi = 0) : F_196 lo hi S = some (lo, er S (ckN b n p lo hi)) := by
  unfold F_196
  rw [hm.2.2.2.2.1, M193_n h, M193_n h]
  unfold ckN at c ⊢
  by_cases k : tkK b n p = 2
  · rw [if_pos k] at c ⊢
    rw [if_pos k, hm.2.2.2.2.2.1 k]
    by_cases d : tkV b n p < lo
    · rw [if_pos d, if_neg (fun z => by have := (F182_t.mp z).1; rw [i32_lt] at d; omega)]
      show some ((if (er S 2).1 140 17 = 0 then (er S 2).1 140 16 else lo), er S 2) = _
      rw [er_17, if_neg (by decide)]
    · rw [if_neg d] at c ⊢
      by_cases e : hi < tkV b n p
      · rw [if_pos e, if_neg (fun z => by have := (F182_t.mp z).2; rw [i32_lt] at e; omega)]
        show some ((if (er S 2).1 140 17 = 0 then (er S 2).1 140 16 else lo), er S 2) = _
        rw [er_17, if_neg (by decide)]
      · rw [if_neg e] at c
        exact absurd rfl c
  · rw [if_neg k, if_neg k]
    show some ((if (er S 1).1 140 17 = 0 then (er S 1).1 140 16 else lo), er S 1) = _
    rw [er_17, if_neg (by decide)]
theorem M197_0 (h : S.1 140 17 = 0) (hm : MK S n b p) (hn : n ≤ 600) (hb : BF S 144 b) (hv : ∀ j, j < n → ¬ b j = -1) (c : ckN b n p lo hi = 0) : ∃ S', F_197 lo hi S = some (tkV b n p, S') ∧ Fm [145] TKf S S' ∧ MK S' n b (tkS b n p) := by
  obtain ⟨S', e, hF, hm'⟩ := M194_n h hm hn hb hv
  refine ⟨S', ?_, hF, hm'⟩
  unfold F_197
  rw [M196_0 h hm c, ob_s]
  show ob (F_194 S) (fun w2 => some (tkV b n p, w2.2)) = _
  rw [e]
  rfl
theorem M197_e (h : S.1 140 17 = 0) (hm : MK S n b p) (c : ¬ ckN b n p lo hi = 0) : F_197 lo hi S = some (lo, er S (ckN b n p lo hi)) := by
  unfold F_197
  rw [M196_e h hm c, ob_s]
  show ob (F_194 (er S (ckN b n p lo hi))) (fun w2 => some (lo, w2.2)) = _
  rw [M194_y (by rw [er_17]; exact c)]
  rfl
theorem J198_74_y {j : Int32} (h : ¬ S.1 140 17 = 0) : J_198_74 j S = some (.inl S) := by
  unfold J_198_74
  rw [M194_y h, ob_s]
  show ob (F_197 0 15 S) _ = _
  rw [M197_y h, ob_s]
  show (if S.1 140 17 = 0 then _ else some (Sum.inl S)) = _
  rw [if_neg h]
theorem J199_122_y {v : Bool} {j2 j3 j4 j5 : Int32} (h : ¬ S.1 140 17 = 0) : J_199_122 v j2 j3 j4 j5 S = some ((), S) := by
  unfold J_199_122
  rw [if_neg h]
theorem J199_75_y {v : Bool} {j2 j3 j4 : Int32} (h : ¬ S.1 140 17 = 0) : J_199_75 v j2 j3 j4 S = some ((), S) := by
  unfold J_199_75
  rw [M194_y h, ob_s]
  by_cases c : v = true
  · rw [if_pos c]
    show ob (F_195 _ S) _ = _
    rw [M195_y h, ob_s]
    show (if false = true then _ else J_199_122 v j2 j3 j4 99 S) = _
    rw [if_neg (by decide), J199_122_y h]
  · rw [if_neg c]
    show ob (F_197 1 999 S) _ = _
    rw [M197_y h, ob_s]
    exact J199_122_y h
theorem J199_26_y {v : Bool} {j2 : Int32} (h : ¬ S.1 140 17 = 0) : J_199_26 v j2 S = some ((), S) := by
  unfold J_199_26
  rw [M194_y h, ob_s]
  show ob (F_197 0 15 S) _ = _
  rw [M197_y h, ob_s]
  show ob (F_196 0 15 S) _ = _
  rw [M196_y h, ob_s]
  show (if S.1 140 17 = 0 then _ else J_199_75 v j2 0 0 S) = _
  rw [if_neg h, J199_75_y h]
theorem fm17 {S' : ST} {hs fs : List Nat} (h : S.1 140 17 = 0) (hF : Fm hs fs S S') (h0 : 140 ∉ hs) (h1 : 17 ∉ fs) : S'.1 140 17 = 0 := by rw [hF.fld h0 h1]; exact h
/-- a vertex's second half, in the reference -/
theorem J198_74_e (h : S.1 140 17 = 0) (hm : MK S n b p) (hn : n ≤ 600) (hb : BF S 144 b) (hv : ∀ j, j < n → ¬ b j = -1) {j : Int32} (c : ¬ ckN b n (tkS b n p) 0 15 = 0) : ∃ S', J_198_74 j S = some (.inl S') ∧ Fm [145] PSf S S' ∧ S'.1 140 17 = ckN b n (tkS b n p) 0 15 ∧ S'.1 140 18 = nJ (tkS b n p) := by
  obtain ⟨S1, e1, hF, hm1⟩ := M194_n h hm hn hb hv
  have h1 := fm17 h hF (by decide) (by decide)
  have hF' : Fm [145] PSf S (er S1 (ckN b n (tkS b n p) 0 15)) := (hF.wk (by decide) (by decide)).tr (er_F.wk (by decide) (by decide))
  refine ⟨er S1 (ckN b n (tkS b n p) 0 15), ?_, hF', er_17, er_18.trans hm1.2.2.1⟩
  unfold J_198_74
  rw [e1, ob_s]
  show ob (F_197 0 15 S1) _ = _
  rw [M197_e h1 hm1 c, ob_s]
  show (if (er S1 (ckN b n (tkS b n p) 0 15)).1 140 17 = 0 then _ else some (Sum.inl (er S1 (ckN b n (tkS b n p) 0 15)))) = _
  rw [er_17, if_neg c]
theorem J198_74_eq (h : S.1 140 17 = 0) (hm : MK S n b p) (hn : n ≤ 600) (hb : BF S 144 b) (hv : ∀ j, j < n → ¬ b j = -1) {j : Int32} {m : Nat} (h146 : S.1 146 0 = nJ m) (hm12 : m < 12) (c : ckN b n (tkS b n p) 0 15 = 0) : ∃ S', J_198_74 j S = some (.inl S') ∧ Fm [145, 146] PSf S S' ∧ S'.1 140 17 = 0 ∧ MK S' n b (tkS b n (tkS b n p)) ∧ ∀ k, S'.1 146 k = if k = 0 then nJ (m + 1) else if k = 15 + m then tkV b n (tkS b n p) else if k = 3 + m then j else S.1 146 k := by
  obtain ⟨S1, e1, hF, hm1⟩ := M194_n h hm hn hb hv
  have h1 := fm17 h hF (by decide) (by decide)
  obtain ⟨S2, e2, hF2, hm2⟩ := M197_0 h1 hm1 hn (BF_fm hb hF (by decide)) hv c
  have h2 := fm17 h1 hF2 (by decide) (by decide)
  have r2 : S2.1 146 = S.1 146 := (hF2.row (by decide) (by decide)).trans (hF.row (by decide) (by decide))
  have i1 : Int32.toNatClampNeg (3 + nJ m) = 3 + m := ix_add (a := 3) (by omega)
  have i2 : Int32.toNatClampNeg (15 + nJ m) = 15 + m := ix_add (a := 15) (by omega)
  have ib1 : ibd (3 + nJ m) 63 = true := by rw [show (3 : Int32) + nJ m = nJ (3 + m) from nJ_add 3 m]; exact ibd_n (by omega) (by omega)
  have ib2 : ibd (15 + nJ m) 63 = true := by rw [show (15 : Int32) + nJ m = nJ (15 + m) from nJ_add 15 m]; exact ibd_n (by omega) (by omega)
  have a0 : S2.1 146 0 = nJ m := by rw [r2]; exact h146
  have a1 : (wI S2 146 (3 + m) j).1 146 0 = nJ m := by rw [wI_1, if_neg (by omega)]; exact a0
  have a2 : (wI (wI S2 146 (3 + m) j) 146 (15 + m) (tkV b n (tkS b n p))).1 146 0 = nJ m := by rw [wI_1, if_neg (by omega)]; exact a1
  refine ⟨wI (wI (wI S2 146 (3 + m) j) 146 (15 + m) (tkV b n (tkS b n p))) 146 0 (nJ (m + 1)), ?_, ?_, ?_, ?_, fun k => ?_⟩
  · unfold J_198_74
    rw [e1, ob_s]
    show ob (F_197 0 15 S1) _ = _
    rw [e2, ob_s]
    show (if S2.1 140 17 = 0 then (ck (ibd (3 + S2.1 146 0) 63) (sbn (wI S2 146 (Int32.toNatClampNeg (3 + S2.1 146 0)) j) (fun s8 => ck (ibd (15 + (s8.1 146 0)) 63) (sbn (wI s8 146 (Int32.toNatClampNeg (15 + (s8.1 146 0))) (tkV b n (tkS b n p))) (fun s10 => some (Sum.inl ((wI s10 146 0 ((s10.1 146 0) + 1)))))))) ) else some (Sum.inl S2)) = _
    rw [if_pos h2, a0, ck_t ib1, i1, sbn_e, a1, ck_t ib2, i2, sbn_e, a2, nJ_succ]
  · exact ((((hF.wk (by decide) (by decide)).tr (hF2.wk (by decide) (by decide))).tr (Fm_a (by decide))).tr (Fm_a (by decide))).tr (Fm_a (by decide))
  · rw [wI_1, if_neg (by decide), wI_1, if_neg (by omega), wI_1, if_neg (by omega)]; exact h2
  · exact MK_r (fun k _ _ => by rw [wI_1, if_neg (by omega), wI_1, if_neg (by omega), wI_1, if_neg (by omega)]) (by rw [wI_r (by decide), wI_r (by decide), wI_r (by decide)]) hm2
  · rw [wI_1]
    by_cases k0 : k = 0
    · rw [if_pos ⟨rfl, k0⟩, if_pos k0]
    · rw [if_neg (fun z => k0 z.2), if_neg k0, wI_1]
      by_cases k1 : k = 15 + m
      · rw [if_pos ⟨rfl, k1⟩, if_pos k1]
      · rw [if_neg (fun z => k1 z.2), if_neg k1, wI_1]
        by_cases k2 : k = 3 + m
        · rw [if_pos ⟨rfl, k2⟩, if_pos k2]
        · rw [if_neg (fun z => k2 z.2), if_neg k2, r2]
end Rd
