/-! the class's turn and area -/
section CT
variable {S : ST} {h : Nat}
theorem cl_bi (hB : clB S h) {i : Nat} (hi : i < clN S h) : bi (S.1 (h + 1) i) ∧ bi (S.1 (h + 2) i) := by
  have := hB i hi
  unfold clP iP at this
  dsimp only at this
  unfold bi
  omega
theorem F24_eq (hW : clW S h) (hB : clB S h) {a b c : Nat} (ha : a < clN S h) (hb : b < clN S h) (hc : c < clN S h) : ∃ x, F_24 h (nJ a) (nJ b) (nJ c) S = some x ∧ x.toInt = ge_o (clP S h a) (clP S h b) (clP S h c) := by
  unfold F_24
  rw [F44_eq hW ha, ob_s, F45_eq hW ha, ob_s, F44_eq hW hb, ob_s, F45_eq hW hb, ob_s, F44_eq hW hc, ob_s, F45_eq hW hc, ob_s]
  exact ⟨_, rfl, F23_t (cl_bi hB ha).1 (cl_bi hB ha).2 (cl_bi hB hb).1 (cl_bi hB hb).2 (cl_bi hB hc).1 (cl_bi hB hc).2⟩
def sA25 (S : ST) (h i : Nat) (a : Int32) : Int32 := a + ((S.1 (h + 1) i * S.1 (h + 2) (ge_aft (clN S h) i)) - (S.1 (h + 1) (ge_aft (clN S h) i) * S.1 (h + 2) i))
theorem F25_eq (hW : clW S h) (hB : clB S h) : ∃ x, F_25 h S = some x ∧ x.toInt = ge_ar (clLz S h) := by
  have h12 := hW.2
  have key : ∀ i, i ≤ clN S h → (fr (sA25 S h) 0 i 0).toInt = fr (fun i a => a + ((clP S h i).1 * (clP S h (ge_aft (clN S h) i)).2 - (clP S h (ge_aft (clN S h) i)).1 * (clP S h i).2)) 0 i 0 ∧ -(225 * (i : Int)) ≤ (fr (sA25 S h) 0 i 0).toInt ∧ (fr (sA25 S h) 0 i 0).toInt ≤ 225 * (i : Int) := by
    intro i
    induction i with
    | zero =>
      intro _
      have z : (fr (sA25 S h) 0 0 0).toInt = 0 := rfl
      exact ⟨rfl, by rw [z]; omega, by rw [z]; omega⟩
    | succ i ih =>
      intro hi
      obtain ⟨a1, a2, a3⟩ := ih (by omega)
      have hj := ge_aft_lt (show i < clN S h by omega)
      rw [fr_snoc, fr_snoc, Nat.zero_add]
      generalize fr (sA25 S h) 0 i 0 = a at *
      unfold sA25
      have bi1 := hB i (by omega)
      have bj1 := hB (ge_aft (clN S h) i) hj
      have p1 := Int.mul_nonneg bi1.1.1 bj1.2.1
      have p2 := Int.mul_nonneg bj1.1.1 bi1.2.1
      have m1 := mul_bd (a := (clP S h i).1) (b := (clP S h (ge_aft (clN S h) i)).2) (A := 15) (B := 15) (by omega) (by omega) (by omega) (by omega)
      have m2 := mul_bd (a := (clP S h (ge_aft (clN S h) i)).1) (b := (clP S h i).2) (A := 15) (B := 15) (by omega) (by omega) (by omega) (by omega)
      have e1 : (S.1 (h + 1) i * S.1 (h + 2) (ge_aft (clN S h) i)).toInt = (clP S h i).1 * (clP S h (ge_aft (clN S h) i)).2 := imul_t (show _ ≤ (clP S h i).1 * (clP S h (ge_aft (clN S h) i)).2 by omega) (show (clP S h i).1 * (clP S h (ge_aft (clN S h) i)).2 ≤ _ by omega)
      have e2 : (S.1 (h + 1) (ge_aft (clN S h) i) * S.1 (h + 2) i).toInt = (clP S h (ge_aft (clN S h) i)).1 * (clP S h i).2 := imul_t (show _ ≤ (clP S h (ge_aft (clN S h) i)).1 * (clP S h i).2 by omega) (show (clP S h (ge_aft (clN S h) i)).1 * (clP S h i).2 ≤ _ by omega)
      generalize S.1 (h + 1) i * S.1 (h + 2) (ge_aft (clN S h) i) = u at *
      generalize S.1 (h + 1) (ge_aft (clN S h) i) * S.1 (h + 2) i = v at *
      have e3 : (u - v).toInt = u.toInt - v.toInt := isub_t (by omega) (by omega)
      have e4 : (a + (u - v)).toInt = a.toInt + (u.toInt - v.toInt) := by rw [iadd_t (by omega) (by omega), e3]
      rw [e4, ← a1, ← e1, ← e2]
      refine ⟨rfl, ?_, ?_⟩
      · have : ((i + 1 : Nat) : Int) = (i : Int) + 1 := by omega
        rw [this]; omega
      · have : ((i + 1 : Nat) : Int) = (i : Int) + 1 := by omega
        rw [this]; omega
  have k := (key (clN S h) (Nat.le_refl _)).1
  have run := wh_fr (f := L_25_4 h S) (fun i (a : Int32) => (a, nJ i)) (sA25 S h) (clN S h) (fun a => (a, nJ (clN S h))) (fun i a hi => by
    unfold L_25_4
    dsimp only
    have hj := ge_aft_lt hi
    rw [hW.1, if_pos ((nJ_lt (by omega) (by omega)).mpr hi), F44_eq hW hi, ob_s, F46_eq hW hi, F45_eq hW hj, ob_s, F44_eq hW hj, ob_s, F45_eq hW hi, ob_s, nJ_succ]
    rfl) (fun a => by
    unfold L_25_4
    dsimp only
    rw [if_neg (fun z => by rw [hW.1] at z; have := (nJ_lt (by omega) (by omega)).mp z; omega)]) (FU_lt (by omega)) 0
  refine ⟨fr (sA25 S h) 0 (clN S h) 0, ?_, ?_⟩
  · unfold F_25
    rw [show ((0 : Int32), (0 : Int32)) = (0, nJ 0) from rfl, run, ob_s]
  · rw [k, fr_sum]
    unfold ge_ar
    rw [ap_sum]
    show 0 + _ = ((ge_E (clLz S h)).map _).sum
    unfold clLz
    rw [ge_E_pl, List.map_map, ← List.range_eq_range']
    show 0 + ((List.range (clN S h)).map _).sum = ((List.range (clN S h)).map _).sum
    rw [Int.zero_add]
    rfl
end CT
