/-! triangles and colours: both sides -/
theorem oneR_Fm {a : Nat} {S S' : ST} (h : oneR a S S') : Fm [a] [] S S' := ⟨fun b j q _ => h.1 b j (fun z => q (by rw [z]; simp)), fun b j _ => by rw [h.2]⟩
/-- the class's triangles and colours are laid -/
def CT (S M : ST) : Prop := ∃ K R c, TR (rP M 141) (sgA M) (rN M 141) K R ∧ colR (rN M 141) K R c ∧ (∀ t, t + 3 ≤ rN M 141 → trC S (rN M 141) K R t) ∧ ∀ v, v < rN M 141 → S.1 37 v = nJ (c v)
section Tc
variable {S M : ST}
theorem F95_all (h : CX S M) (h0 : S.1 32 8 = 0) : ∃ S', F_95 S = some ((), S') ∧ trF S S' ∧ S'.1 32 8 = 1 ∧ CT S' M := by
  have g := h.2.2.1.1
  obtain ⟨K, R, hT⟩ := TR_M g
  obtain ⟨S1, e1, f1, g8, w1⟩ := F95_eq h h0 hT
  have hx := CX_trF h f1
  obtain ⟨S2, c, e2, f2, hc, w2⟩ := F101_eq (sgA_1 M) hT g.2.1 g.1.2 (S := S1) (by rw [hx.1.1.1, hx.1.2.2.2.1]) w1
  refine ⟨S2, by rw [e1, e2, ob_s], f1.tr (oneR_37 f2), ?_, K, R, c, hT, hc, fun t ht => trC_37 f2 (w1 t ht), w2⟩
  rw [f2.1 32 8 (by decide)]; exact g8
theorem F95_1 (h0 : ¬ S.1 32 8 = 0) : F_95 S = some ((), S) := by
  unfold F_95
  rw [if_neg h0]
theorem M255_6 {N : Nat} {c : Nat → Nat} (hN3 : 3 ≤ N) (hN : N ≤ 12) (h0 : S.1 141 0 = nJ N) (c0 : c 0 = 0) (c1 : c 1 = 1) : ∃ z S', wh FU Lm_255_6 (0, S) = some (z, S') ∧ oneR 158 S S' ∧ fil S' N c := by
  have key : ∃ r, wh FU Lm_255_6 (nJ 0, S) = some r ∧ oneR 158 S r.2 ∧ ∀ v, v < N → r.2.1 158 v = if v < 2 then nJ v else -1 := by
    refine wh_inv (I := fun m x => ∃ i, i + m = N ∧ x.1 = nJ i ∧ oneR 158 S x.2 ∧ ∀ v, v < i → x.2.1 158 v = if v < 2 then nJ v else -1) ?_ FU N _ (FU_lt (by omega)) ⟨0, by omega, rfl, oneR.rf, fun v hv => by omega⟩
    rintro m ⟨y, S1⟩ ⟨i, hi, rfl, f1, w⟩
    dsimp only at f1 w
    unfold Lm_255_6
    dsimp only
    rw [f1.1 141 0 (by decide), h0]
    by_cases q : i < N
    · rw [if_pos ((nJ_lt (by omega) (by omega)).mpr q), ck_t (ibd_n (by omega) (by omega)), sbn_e, nJ_ix (by omega), nJ_succ]
      have e2 : (if nJ i < 2 then nJ i else -1 : Int32) = if i < 2 then nJ i else -1 := by
        by_cases z : i < 2
        · rw [if_pos (show nJ i < 2 from (nJ_lt (j := 2) (by omega) (by omega)).mpr z), if_pos z]
        · rw [if_neg (show ¬ nJ i < 2 from fun k => z ((nJ_lt (j := 2) (by omega) (by omega)).mp k)), if_neg z]
      refine Or.inl ⟨_, m - 1, by omega, rfl, i + 1, by omega, rfl, f1.tr oneR_I, fun v hv => ?_⟩
      show (wI S1 158 i _).1 158 v = _
      rw [wI_1, e2]
      by_cases z : v = i
      · rw [if_pos ⟨rfl, z⟩, z]
      · rw [if_neg (fun k => z k.2)]; exact w v (by omega)
    · rw [if_neg (fun k => q ((nJ_lt (by omega) (by omega)).mp k))]
      exact Or.inr ⟨_, rfl, f1, fun v hv => w v (by omega)⟩
  obtain ⟨⟨z, S'⟩, e, f, w⟩ := key
  dsimp only at f w
  refine ⟨z, S', e, f, fun v hv => ?_, ?_, ?_⟩
  · rw [w v hv]
    by_cases k : v < 2
    · rw [if_pos k]
      refine Or.inr (congrArg nJ ?_)
      match v, k with
      | 0, _ => exact c0.symm
      | 1, _ => exact c1.symm
    · rw [if_neg k]; exact Or.inl rfl
  · rw [w 0 (by omega), c0]; rfl
  · rw [w 1 (by omega), c1]; rfl
/-- the reference's colours are any colouring so named -/
theorem F255_eq (g : GR S 141) {K : Nat → Nat} {R : Nat → Nat → Nat} {c : Nat → Nat} (hT : TR (rP S 141) (sgA S) (rN S 141) K R) (hc : colR (rN S 141) K R c) : ∃ S', F_255 S = some ((), S') ∧ Fm [156, 157, 158] [] S S' ∧ (∀ t, t + 3 ≤ rN S 141 → trM S' (rN S 141) K R t) ∧ ∀ v, v < rN S 141 → S'.1 158 v = nJ (c v) := by
  obtain ⟨S1, e1, f1, w1⟩ := F251_eq g hT
  have h0 : S1.1 141 0 = nJ (rN S 141) := by rw [f1.row (by simp) (by decide)]; exact g.1.1
  obtain ⟨z2, S2, e2, f2, w2⟩ := M255_6 (S := S1) g.2.1 g.1.2 h0 hc.2.1 hc.2.2.1
  obtain ⟨r3, e3, f3, w3⟩ := M255_40 (S := S2) (sgA_1 S) hT g.2.1 g.1.2 (by rw [f2.1 141 0 (by decide)]; exact h0) (fun t ht => trM_158 f2 (w1 t ht)) hc w2
  refine ⟨r3.2, ?_, (f1.wk (by simp) (by simp)).tr ((oneR_Fm (f2.tr f3)).wk (by simp) (by simp)), fun t ht => trM_158 (f2.tr f3) (w1 t ht), w3⟩
  unfold F_255
  rw [e1, ob_s, e2, ob_s, e3, ob_s]
end Tc
