/-! reads of the lattice; whether it holds all of a plan -/
section Ho
variable {S : ST} {h : Nat} {L : List GPt}
def boxL (L : List GPt) : Prop := ∀ q, ge_cl 1 L q → (0 ≤ q.1 ∧ q.1 ≤ 15) ∧ 0 ≤ q.2 ∧ q.2 ≤ 15
theorem i32_le15 {x : Int32} : x < 16 ↔ x.toInt < 16 := i32_lt x 16
theorem i32_lt0 {x : Int32} : x < 0 ↔ x.toInt < 0 := i32_lt x 0
theorem nJ_ne1 {k : Nat} (hk : k < 1000) : ¬ nJ k = -1 := by
  intro z
  have := congrArg Int32.toInt z
  rw [nJ_toInt (by omega)] at this
  have e : (-1 : Int32).toInt = -1 := rfl
  omega
theorem F18_eq (l : LC S h L 256) (hb : boxL L) (x y : Int32) : ∃ w, F_18 h x y S = some w ∧ (w = -1 ↔ ¬ ge_cl 1 L (iP x y)) ∧ ((0 ≤ x.toInt ∧ x.toInt < 16 ∧ 0 ≤ y.toInt ∧ y.toInt < 16 ∧ w = S.1 (h + 3) (16 * y.toNatClampNeg + x.toNatClampNeg)) ∨ (w = -1 ∧ ¬ (0 ≤ x.toInt ∧ x.toInt < 16 ∧ 0 ≤ y.toInt ∧ y.toInt < 16))) ∧ (ge_cl 1 L (iP x y) → ∃ t, t < 256 ∧ pb L t = true ∧ lxy t = iP x y ∧ w = nJ (rk (pb L) t)) := by
  unfold F_18
  by_cases hx0 : x < 0
  · have h0 := i32_lt0.mp hx0
    rw [if_pos hx0]
    exact ⟨-1, rfl, ⟨fun _ z => by have := (hb _ z).1.1; unfold iP at this; omega, fun _ => rfl⟩, Or.inr ⟨rfl, fun z => by omega⟩, fun z => by have := (hb _ z).1.1; unfold iP at this; omega⟩
  · rw [if_neg hx0]
    have h0 : 0 ≤ x.toInt := Int.not_lt.mp (fun z => hx0 (i32_lt0.mpr z))
    by_cases hx1 : x < 16
    · rw [if_pos hx1]
      have h1 := i32_le15.mp hx1
      by_cases hy0 : y < 0
      · have h2 := i32_lt0.mp hy0
        rw [if_pos hy0]
        exact ⟨-1, rfl, ⟨fun _ z => by have := (hb _ z).2.1; unfold iP at this; omega, fun _ => rfl⟩, Or.inr ⟨rfl, fun z => by omega⟩, fun z => by have := (hb _ z).2.1; unfold iP at this; omega⟩
      · rw [if_neg hy0]
        have h2 : 0 ≤ y.toInt := Int.not_lt.mp (fun z => hy0 (i32_lt0.mpr z))
        by_cases hy1 : y < 16
        · rw [if_pos hy1]
          have h3 := i32_le15.mp hy1
          have ex := nJ_of h0
          have ey := nJ_of h2
          have lx : x.toNatClampNeg < 16 := by
            have : (x.toNatClampNeg : Int) = x.toInt := by show ((x.toInt.toNat : Nat) : Int) = _; omega
            omega
          have ly : y.toNatClampNeg < 16 := by
            have : (y.toNatClampNeg : Int) = y.toInt := by show ((y.toInt.toNat : Nat) : Int) = _; omega
            omega
          generalize hX : x.toNatClampNeg = X at *
          generalize hY : y.toNatClampNeg = Y at *
          have ei : y * 16 + x = nJ (16 * Y + X) := by
            rw [ex, ey, show nJ Y * 16 = nJ (Y * 16) from nJ_mul Y 16, nJ_add]
            congr 1
            omega
          rw [ei, ck_t (ibd_n (by omega) (by omega)), nJ_ix (by omega)]
          have el : lxy (16 * Y + X) = iP x y := by
            unfold lxy iP
            rw [ex, ey, nJ_toInt (by omega), nJ_toInt (by omega)]
            refine Prod.ext ?_ ?_
            · show (((16 * Y + X) % 16 : Nat) : Int) = X; omega
            · show (((16 * Y + X) / 16 : Nat) : Int) = Y; omega
          have hk : rk (pb L) (16 * Y + X) < 1000 := by have := rk_le (pb L) (16 * Y + X); omega
          have w := l.2.1 (16 * Y + X) (by omega)
          refine ⟨_, rfl, ?_, Or.inl ⟨h0, h1, h2, h3, rfl⟩, ?_⟩
          · by_cases q : pb L (16 * Y + X) = true
            · rw [(w.1 q).2.2]
              refine ⟨fun z => absurd z (nJ_ne1 hk), fun z => absurd ?_ z⟩
              rw [← el]; exact chB_t.mp q
            · have q : pb L (16 * Y + X) = false := by simpa using q
              rw [w.2 q]
              refine ⟨fun _ => ?_, fun _ => rfl⟩
              rw [← el]; exact chB_f.mp q
          · intro z
            rw [← el] at z
            have q : pb L (16 * Y + X) = true := chB_t.mpr z
            exact ⟨16 * Y + X, by omega, q, el, (w.1 q).2.2⟩
        · rw [if_neg hy1]
          have h3 : ¬ y.toInt < 16 := fun z => hy1 (i32_le15.mpr z)
          exact ⟨-1, rfl, ⟨fun _ z => by have := (hb _ z).2.2; unfold iP at this; omega, fun _ => rfl⟩, Or.inr ⟨rfl, fun z => by omega⟩, fun z => by have := (hb _ z).2.2; unfold iP at this; omega⟩
    · rw [if_neg hx1]
      have h1 : ¬ x.toInt < 16 := fun z => hx1 (i32_le15.mpr z)
      exact ⟨-1, rfl, ⟨fun _ z => by have := (hb _ z).1.2; unfold iP at this; omega, fun _ => rfl⟩, Or.inr ⟨rfl, fun z => by omega⟩, fun z => by have := (hb _ z).1.2; unfold iP at this; omega⟩
/-- a point's coordinates -/
theorem F19_eq {P : Nat} (e : S.1 h 0 = nJ P) (hP : P ≤ 64) {p : Nat} (hp : p < P) : F_19 h (nJ p) S = some (S.1 (h + 1) p) := by
  unfold F_19
  rw [if_neg (nJ_nn (by omega)), e, if_pos ((nJ_lt (by omega) (by omega)).mpr hp), if_pos (show nJ p < 64 from (nJ_lt (j := 64) (by omega) (by omega)).mpr (by omega)), ck_t (ibd_n (by omega) (by omega)), nJ_ix (by omega)]
theorem F20_eq {P : Nat} (e : S.1 h 0 = nJ P) (hP : P ≤ 64) {p : Nat} (hp : p < P) : F_20 h (nJ p) S = some (S.1 (h + 2) p) := by
  unfold F_20
  rw [if_neg (nJ_nn (by omega)), e, if_pos ((nJ_lt (by omega) (by omega)).mpr hp), if_pos (show nJ p < 64 from (nJ_lt (j := 64) (by omega) (by omega)).mpr (by omega)), ck_t (ibd_n (by omega) (by omega)), nJ_ix (by omega)]
theorem F52_eq {G : Nat} (e : S.1 h 1 = nJ G) (hG : G ≤ 6) {g : Nat} (hg : g < G) : F_52 h (nJ g) S = some (S.1 (h + 3) g) := by
  unfold F_52
  rw [if_neg (nJ_nn (by omega)), e, if_pos ((nJ_lt (by omega) (by omega)).mpr hg), ck_t (ibd_n (by omega) (by omega)), nJ_ix (by omega)]
theorem F53_eq {G : Nat} (e : S.1 h 1 = nJ G) (hG : G ≤ 6) {g : Nat} (hg : g < G) : F_53 h (nJ g) S = some (S.1 (h + 4) g) := by
  unfold F_53
  rw [if_neg (nJ_nn (by omega)), e, if_pos ((nJ_lt (by omega) (by omega)).mpr hg), ck_t (ibd_n (by omega) (by omega)), nJ_ix (by omega)]
theorem F54_eq {G : Nat} (e : S.1 h 1 = nJ G) (hG : G ≤ 6) {g : Nat} (hg : g < G) : F_54 h (nJ g) S = some (S.1 (h + 5) g) := by
  unfold F_54
  rw [if_neg (nJ_nn (by omega)), e, if_pos ((nJ_lt (by omega) (by omega)).mpr hg), ck_t (ibd_n (by omega) (by omega)), nJ_ix (by omega)]
theorem F60_eq {G : Nat} (e : S.1 h 2 = nJ G) (hG : G ≤ 6) {g : Nat} (hg : g < G) : F_60 h (nJ g) S = some (S.1 (h + 6) g) := by
  unfold F_60
  rw [if_neg (nJ_nn (by omega)), e, if_pos ((nJ_lt (by omega) (by omega)).mpr hg), ck_t (ibd_n (by omega) (by omega)), nJ_ix (by omega)]
theorem F61_eq {G : Nat} (e : S.1 h 2 = nJ G) (hG : G ≤ 6) {g : Nat} (hg : g < G) : F_61 h (nJ g) S = some (S.1 (h + 7) g) := by
  unfold F_61
  rw [if_neg (nJ_nn (by omega)), e, if_pos ((nJ_lt (by omega) (by omega)).mpr hg), ck_t (ibd_n (by omega) (by omega)), nJ_ix (by omega)]
theorem F62_eq {G : Nat} (e : S.1 h 2 = nJ G) (hG : G ≤ 6) {g : Nat} (hg : g < G) : F_62 h (nJ g) S = some (S.1 (h + 8) g) := by
  unfold F_62
  rw [if_neg (nJ_nn (by omega)), e, if_pos ((nJ_lt (by omega) (by omega)).mpr hg), ck_t (ibd_n (by omega) (by omega)), nJ_ix (by omega)]
theorem F22_eq {h1 G T : Nat} (l : LC S h L 256) (hb : boxL L) (e1 : S.1 h1 1 = nJ G) (hG : G ≤ 6) (e2 : S.1 h1 2 = nJ T) (hT : T ≤ 6) : ∃ b, F_22 h h1 S = some b ∧ (b = true ↔ (∀ g, g < G → ge_cl 1 L (iP (S.1 (h1 + 3) g) (S.1 (h1 + 4) g))) ∧ ∀ t, t < T → ge_cl 1 L (iP (S.1 (h1 + 6) t) (S.1 (h1 + 7) t))) := by
  unfold F_22
  refine wh_seK (f := L_22_2 h h1 S) nJ (fun g => ¬ ge_cl 1 L (iP (S.1 (h1 + 3) g) (S.1 (h1 + 4) g))) G (fun _ => .inr false) (fun r => ∃ z, r = .inl z) 0 (fun i _ hi => ?_) (fun i hi => ?_) (FU_lt (by omega)) (fun r g w => ?_)
  · obtain ⟨v, g, q, -⟩ := F18_eq l hb (S.1 (h1 + 3) i) (S.1 (h1 + 4) i)
    unfold L_22_2
    rw [e1, if_pos ((nJ_lt (by omega) (by omega)).mpr hi), F52_eq e1 hG hi, ob_s, F53_eq e1 hG hi, ob_s, g, ob_s]
    by_cases z : v = -1
    · rw [if_pos z]; exact Or.inl ⟨q.mp z, rfl⟩
    · rw [if_neg z, nJ_succ]; exact Or.inr ⟨fun u => z (q.mpr u), rfl⟩
  · unfold L_22_2
    rw [e1, if_neg (fun z => by have := (nJ_lt (by omega) (by omega)).mp z; omega)]
    exact ⟨_, rfl, _, rfl⟩
  · show ∃ b, ob (wh FU (L_22_2 h h1 S) (nJ 0)) _ = some b ∧ _
    rw [g, ob_s]
    rcases w with ⟨k, -, k1, k2, -, rfl⟩ | ⟨⟨z, rfl⟩, w⟩
    · exact ⟨false, rfl, fun q => absurd q (by decide), fun q => absurd (q.1 k k1) k2⟩
    · rw [Sum.elim_inl]
      refine wh_seK (f := L_22_38 h h1 S) nJ (fun g => ¬ ge_cl 1 L (iP (S.1 (h1 + 6) g) (S.1 (h1 + 7) g))) T (fun _ => .inr false) (fun r => ∃ z, r = .inl z) 0 (fun i _ hi => ?_) (fun i hi => ?_) (FU_lt (by omega)) (fun r g w2 => ?_)
      · obtain ⟨v, g, q, -⟩ := F18_eq l hb (S.1 (h1 + 6) i) (S.1 (h1 + 7) i)
        unfold L_22_38
        rw [e2, if_pos ((nJ_lt (by omega) (by omega)).mpr hi), F60_eq e2 hT hi, ob_s, F61_eq e2 hT hi, ob_s, g, ob_s]
        by_cases z : v = -1
        · rw [if_pos z]; exact Or.inl ⟨q.mp z, rfl⟩
        · rw [if_neg z, nJ_succ]; exact Or.inr ⟨fun u => z (q.mpr u), rfl⟩
      · unfold L_22_38
        rw [e2, if_neg (fun z => by have := (nJ_lt (by omega) (by omega)).mp z; omega)]
        exact ⟨_, rfl, _, rfl⟩
      · show ∃ b, ob (wh FU (L_22_38 h h1 S) (nJ 0)) _ = some b ∧ _
        rw [g, ob_s]
        rcases w2 with ⟨k, -, k1, k2, -, rfl⟩ | ⟨⟨z, rfl⟩, w2⟩
        · exact ⟨false, rfl, fun q => absurd q (by decide), fun q => absurd (q.2 k k1) k2⟩
        · exact ⟨true, rfl, fun _ => ⟨fun g hg => Classical.byContradiction (w g (Nat.zero_le _) hg), fun g hg => Classical.byContradiction (w2 g (Nat.zero_le _) hg)⟩, fun _ => rfl⟩
end Ho
