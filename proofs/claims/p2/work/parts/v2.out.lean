/-! load of more than the buffer holds, or of less than nothing: nothing moves -/
def cLn : CTR := (116, [.inr (some 36), .inl (-2147483648, -1)], some (.inl (0, 64)), ["java/lang/IndexOutOfBoundsException"], [], 7, 0, [], [], [])
set_option maxRecDepth 100000 in
theorem cokLn {KO : List Nat} (hK : KOK KO) : cOk KD0 KO G0 cLn := chk_ok (G0_xOK hK.1) (chkS_ok (show chkS sgl0 [] cLn = true by decide +kernel) hK.2) fm_n (show chk KD0 G0 (aX KD0) nX 2000 2 [] cLn = true by decide +kernel)
def cMn : CTR := (313, [.inr (some 36), .inl (-2147483648, -1), .inr (some 57)], some (.inl (0, 2)), [], [(57, 0)], 8, 1, [], [], [])
set_option maxRecDepth 100000 in
theorem cokMn {KO : List Nat} (hK : KOK KO) : cOk KD0 KO G0 cMn := chk_ok (G0_xOK hK.1) (chkS_ok (show chkS sgl0 [cLn] cMn = true by decide +kernel) hK.2) (fm_c (cokLn hK) fm_n) (show chk KD0 G0 (aX KD0) nX 2000 2 [cLn] cMn = true by decide +kernel)
def cLg (b : Int) : CTR := (116, [.inr (some 36), .inl (b + 1, 2147483647)], some (.inl (0, 64)), ["java/lang/IndexOutOfBoundsException"], [], 7, 0, [], [(27, 0, (b, b))], [])
def cMg (b : Int) : CTR := (313, [.inr (some 36), .inl (b + 1, 2147483647), .inr (some 57)], some (.inl (0, 2)), [], [(57, 0)], 8, 1, [], [(27, 0, (b, b))], [])
def chkG (i : Nat) : Bool := chkB 2000 [] (cLg (20 * i)) (20 * i, 20 * i) && chkB 2000 [cLg (20 * i)] (cMg (20 * i)) (20 * i, 20 * i)
set_option maxRecDepth 100000 in
theorem chkG_all : (List.range 31).all chkG = true := by decide +kernel
theorem cokG {KO : List Nat} (hK : KOK KO) {i : Nat} (hi : i < 31) : cOk KD0 KO G0 (cLg (20 * i)) ∧ cOk KD0 KO G0 (cMg (20 * i)) := by
  have := List.all_eq_true.mp chkG_all i (List.mem_range.mpr hi)
  unfold chkG at this
  rw [Bool.and_eq_true] at this
  have h1 : cOk KD0 KO G0 (cLg (20 * i)) := chkB_ok hK rfl rfl fm_n this.1
  exact ⟨h1, chkB_ok hK rfl rfl (fm_c h1 fm_n) this.2⟩
