/-! the class's cells as a picture; plans and lattices at handles that are variables -/
def XCl : List SHP := [.inl (10, [.inr 1, .inr 29, .inr 3, .inr 12, .inr 21, .inr 25, .inr 30, .inr 32, .inr 39, .inr 43, .inr 46, .inr 47, .inr 121, .inr 130, .inr 139, .inl false, .inl false, .inl false]), .inl (2, [.inl false, .inl false, .inl false, .inl false, .inl false, .inl false, .inr 2]), .inr (0, 600), .inl (5, [.inl false, .inl false, .inl false, .inr 4, .inr 5, .inr 6, .inr 7, .inr 8, .inr 9, .inr 10, .inr 11]), .inr (0, 12), .inr (0, 12), .inr (0, 6), .inr (0, 6), .inr (0, 6), .inr (0, 6), .inr (0, 6), .inr (0, 6), .inl (5, [.inl false, .inl false, .inl false, .inr 13, .inr 14, .inr 15, .inr 16, .inr 17, .inr 18, .inr 19, .inr 20]), .inr (0, 12), .inr (0, 12), .inr (0, 6), .inr (0, 6), .inr (0, 6), .inr (0, 6), .inr (0, 6), .inr (0, 6), .inl (3, [.inl false, .inl true, .inr 22, .inr 23, .inr 24]), .inr (0, 64), .inr (0, 64), .inr (0, 256), .inl (3, [.inl false, .inl true, .inr 26, .inr 27, .inr 28]), .inr (0, 64), .inr (0, 64), .inr (0, 256), .inl (4, [.inr 1, .inr 12, .inr 25, .inl false, .inl false]), .inl (6, [.inr 3, .inr 21, .inr 31, .inl false]), .inr (2, 64), .inl (8, [.inr 3, .inr 33, .inr 34, .inr 35, .inr 36, .inr 37, .inr 38, .inl false, .inl false]), .inr (0, 10), .inr (0, 10), .inr (0, 10), .inr (0, 10), .inr (0, 12), .inr (0, 12), .inl (0, [.inr 3, .inr 21, .inr 30, .inr 40, .inr 41, .inr 42, .inl false, .inl false, .inl false]), .inr (2, 12), .inr (2, 65), .inr (0, 4), .inl (7, [.inr 30, .inr 44, .inr 45, .inl false, .inl false]), .inr (2, 64), .inr (0, 4), .inl (9, [.inr 3, .inr 21, .inr 30]), .inl (1, [.inl false, .inl false, .inr 48]), .inr (52, 8), .inl (5, [.inl false, .inl false, .inl false, .inr 50, .inr 51, .inr 52, .inr 53, .inr 54, .inr 55, .inr 56, .inr 57]), .inr (0, 12), .inr (0, 12), .inr (0, 6), .inr (0, 6), .inr (0, 6), .inr (0, 6), .inr (0, 6), .inr (0, 6), .inl (5, [.inl false, .inl false, .inl false, .inr 59, .inr 60, .inr 61, .inr 62, .inr 63, .inr 64, .inr 65, .inr 66]), .inr (0, 12), .inr (0, 12), .inr (0, 6), .inr (0, 6), .inr (0, 6), .inr (0, 6), .inr (0, 6), .inr (0, 6), .inl (5, [.inl false, .inl false, .inl false, .inr 68, .inr 69, .inr 70, .inr 71, .inr 72, .inr 73, .inr 74, .inr 75]), .inr (0, 12), .inr (0, 12), .inr (0, 6), .inr (0, 6), .inr (0, 6), .inr (0, 6), .inr (0, 6), .inr (0, 6), .inl (5, [.inl false, .inl false, .inl false, .inr 77, .inr 78, .inr 79, .inr 80, .inr 81, .inr 82, .inr 83, .inr 84]), .inr (0, 12), .inr (0, 12), .inr (0, 6), .inr (0, 6), .inr (0, 6), .inr (0, 6), .inr (0, 6), .inr (0, 6), .inl (5, [.inl false, .inl false, .inl false, .inr 86, .inr 87, .inr 88, .inr 89, .inr 90, .inr 91, .inr 92, .inr 93]), .inr (0, 12), .inr (0, 12), .inr (0, 6), .inr (0, 6), .inr (0, 6), .inr (0, 6), .inr (0, 6), .inr (0, 6), .inl (5, [.inl false, .inl false, .inl false, .inr 95, .inr 96, .inr 97, .inr 98, .inr 99, .inr 100, .inr 101, .inr 102]), .inr (0, 12), .inr (0, 12), .inr (0, 6), .inr (0, 6), .inr (0, 6), .inr (0, 6), .inr (0, 6), .inr (0, 6), .inl (5, [.inl false, .inl false, .inl false, .inr 104, .inr 105, .inr 106, .inr 107, .inr 108, .inr 109, .inr 110, .inr 111]), .inr (0, 12), .inr (0, 12), .inr (0, 6), .inr (0, 6), .inr (0, 6), .inr (0, 6), .inr (0, 6), .inr (0, 6), .inl (5, [.inl false, .inl false, .inl false, .inr 113, .inr 114, .inr 115, .inr 116, .inr 117, .inr 118, .inr 119, .inr 120]), .inr (0, 12), .inr (0, 12), .inr (0, 6), .inr (0, 6), .inr (0, 6), .inr (0, 6), .inr (0, 6), .inr (0, 6), .inl (5, [.inl false, .inl false, .inl false, .inr 122, .inr 123, .inr 124, .inr 125, .inr 126, .inr 127, .inr 128, .inr 129]), .inr (0, 12), .inr (0, 12), .inr (0, 6), .inr (0, 6), .inr (0, 6), .inr (0, 6), .inr (0, 6), .inr (0, 6), .inl (5, [.inl false, .inl false, .inl false, .inr 131, .inr 132, .inr 133, .inr 134, .inr 135, .inr 136, .inr 137, .inr 138]), .inr (0, 12), .inr (0, 12), .inr (0, 6), .inr (0, 6), .inr (0, 6), .inr (0, 6), .inr (0, 6), .inr (0, 6), .inr (0, 16)]
def XC : XT := fun h => if h < 140 then XCl[h]? else if h = 162 then some (.inr (2, 1)) else none
def oPl (h : Nat) : Nat × List FT := (5, [.inl false, .inl false, .inl false, .inr (h + 1), .inr (h + 2), .inr (h + 3), .inr (h + 4), .inr (h + 5), .inr (h + 6), .inr (h + 7), .inr (h + 8)])
def PLH (h : Nat) : Prop := XC h = some (.inl (oPl h)) ∧ XC (h + 1) = some (.inr (0, 12)) ∧ XC (h + 2) = some (.inr (0, 12)) ∧ XC (h + 3) = some (.inr (0, 6)) ∧ XC (h + 4) = some (.inr (0, 6)) ∧ XC (h + 5) = some (.inr (0, 6)) ∧ XC (h + 6) = some (.inr (0, 6)) ∧ XC (h + 7) = some (.inr (0, 6)) ∧ XC (h + 8) = some (.inr (0, 6))
def plL : List Nat := [3, 12, 49, 58, 67, 76, 85, 94, 103, 112, 121, 130]
def plB (h : Nat) : Bool := plL.contains h
theorem plB_ok {h : Nat} (hb : plB h = true) : PLH h := by
  have hm : h ∈ plL := by simpa [plB] using hb
  simp only [plL, List.mem_cons, List.not_mem_nil, or_false] at hm
  rcases hm with rfl | rfl | rfl | rfl | rfl | rfl | rfl | rfl | rfl | rfl | rfl | rfl <;> exact ⟨rfl, rfl, rfl, rfl, rfl, rfl, rfl, rfl, rfl⟩
def oLt (h : Nat) : Nat × List FT := (3, [.inl false, .inl true, .inr (h + 1), .inr (h + 2), .inr (h + 3)])
def LTH (h : Nat) : Prop := XC h = some (.inl (oLt h)) ∧ XC (h + 1) = some (.inr (0, 64)) ∧ XC (h + 2) = some (.inr (0, 64)) ∧ XC (h + 3) = some (.inr (0, 256))
def ltB (h : Nat) : Bool := h == 21 || h == 25
theorem ltB_ok {h : Nat} (hb : ltB h = true) : LTH h := by
  have hm : h = 21 ∨ h = 25 := by simpa [ltB] using hb
  rcases hm with rfl | rfl <;> exact ⟨rfl, rfl, rfl, rfl⟩
theorem plh_past {j : Int32} (hj : inB j 8) : PLH (49 + 9 * j.toNatClampNeg) := by
  have h1 := inB_ok hj
  have h2 : j.toNatClampNeg < 8 := by
    simp only [inN, Bool.and_eq_true, decide_eq_true_eq] at h1
    exact h1.2
  generalize j.toNatClampNeg = q at h2
  match q, h2 with
  | 0, _ => exact plB_ok rfl
  | 1, _ => exact plB_ok rfl
  | 2, _ => exact plB_ok rfl
  | 3, _ => exact plB_ok rfl
  | 4, _ => exact plB_ok rfl
  | 5, _ => exact plB_ok rfl
  | 6, _ => exact plB_ok rfl
  | 7, _ => exact plB_ok rfl
  | n + 8, h => exact absurd h (by omega)
