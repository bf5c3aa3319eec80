/-! the boundary -/
noncomputable def bdS (M : ST) (p : Nat) : Bool := chB (¬ ge_off (rL M 141) (pt M p))
section Bd
variable {S M : ST}
theorem pt_lxy (h : Ld M) {t : Nat} (ht : t < 256) (hi : inp M 141 t = true) : pt M (rk (inp M 141) t) = lxy t := by
  have := (h.2.2.1 t ht).1 hi
  unfold pt lxy
  rw [this.1, this.2.1, nJ_toInt (by omega), nJ_toInt (by omega)]
/-- the class's rim -/
theorem rim_eq (h : CX S M) : S.2 21 1 = sSz (nP M) (bdS M) := by
  have h64 := h.2.2.2.2.1
  have hL := h.2.2.1
  obtain ⟨-, -, hr⟩ := h.2.1
  have pe : ∀ t, t < 256 → pb (rL M 141) t = inp M 141 t := fun t ht => pb_inp hL.1.1 hL.1.2.2.1 ht
  have re : ∀ t, t ≤ 256 → rk (pb (rL M 141)) t = rk (inp M 141) t := fun t ht => rk_cong (fun s hs => pe s (by omega))
  apply bz_ext
  intro i hi
  rw [sS_bz h64 _ hi, Bool.eq_iff_iff, hr i hi, Bool.and_eq_true, decide_eq_true_iff]
  unfold bdS
  rw [chB_t]
  constructor
  · rintro ⟨t, t1, t2, t3, t4⟩
    rw [pe t t1] at t2
    rw [re t (by omega)] at t3
    refine ⟨?_, ?_⟩
    · rw [← t3]; exact rk_lt t1 t2
    · rw [← t3, pt_lxy hL t1 t2]; exact t4
  · rintro ⟨i1, i2⟩
    obtain ⟨t, t1, t2, t3⟩ := rk_ex (inp M 141) (show i < rk (inp M 141) 256 from i1)
    refine ⟨t, t1, by rw [pe t t1]; exact t2, by rw [re t (by omega)]; exact t3, ?_⟩
    rw [← t3, pt_lxy hL t1 t2] at i2
    exact i2
theorem F207_eq (h : Ld S) {p : Nat} (hp : p < nP S) : F_207 141 (Int32.toInt64 (S.1 147 p)) (Int32.toInt64 (S.1 148 p)) 1 S = some (bdS S p) := by
  have hc : ge_cl 1 (rL S 141) (pt S p) := pt_cl h hp
  have b := pt_bd h hp
  unfold F_207
  rw [ck_t (chB_t.mpr h.1.1)]
  refine congrArg some ?_
  unfold pt at b
  dsimp only at b
  have on := onB_t (S := S) (h := 141) (m := 1) (x := Int32.toInt64 (S.1 147 p)) (y := Int32.toInt64 (S.1 148 p)) h.1.1 h.1.2.2.1 (by decide) (by decide) (by unfold bd; rw [Int32.toInt_toInt64]; omega) (by unfold bd; rw [Int32.toInt_toInt64]; omega)
  rw [show (1 : Int64).toInt = 1 from rfl, ge_S_1] at on
  have e : lP (Int32.toInt64 (S.1 147 p)) (Int32.toInt64 (S.1 148 p)) = pt S p := by unfold lP pt; rw [Int32.toInt_toInt64, Int32.toInt_toInt64]
  rw [e] at on
  unfold bdS
  rw [Bool.eq_iff_iff, on, chB_t]
theorem M237_13 (h : Ld S) : wh FU (Lm_237_13 S) (0, 0) = some (sSz (nP S) (bdS S), nJ (nP S)) := by
  have hP := Ld_P h
  have := wh_fr (f := Lm_237_13 S) (fun i (a : Int64) => (a, nJ i)) (sFz (bdS S)) (nP S) (fun a => (a, nJ (nP S))) (fun i a hi => by
    unfold Lm_237_13
    dsimp only
    rw [hP.1, if_pos ((nJ_lt (by omega) (by omega)).mpr hi), ck_t (ibd_n (by omega) (by omega)), ck_t (ibd_n (by omega) (by omega)), nJ_ix (by omega), F207_eq h hi, ob_s, nJ_succ]
    unfold sFz
    by_cases z : bdS S i = true
    · rw [if_pos z, if_pos z]; rfl
    · rw [if_neg z, if_neg z, or_0]) (fun a => by
    unfold Lm_237_13
    dsimp only
    rw [hP.1, if_neg (fun z => by have := (nJ_lt (by omega) (by omega)).mp z; omega)]) (FU_lt (by omega)) 0
  rw [show ((0 : Int64), (0 : Int32)) = (0, nJ 0) from rfl, this]
  rfl
end Bd
