/-! kinds of one cell alone -/
def Sgl (KO : List Nat) (sgl : List Nat) : Prop := ∀ κ ∈ sgl, ∀ h h' : Nat, KO[h]? = some κ → KO[h']? = some κ → h = h'
def chkS (sgl : List Nat) (Cs : List CTR) (E : CTR) : Bool := (kQ E).all (fun q => sgl.contains q.1) && Cs.all (fun E' => (kP E').all (fun q => sgl.contains q.1))
theorem chkS_ok {KO sgl : List Nat} {Cs : List CTR} {E : CTR} (h : chkS sgl Cs E = true) (hs : Sgl KO sgl) : Sg KO (kQ E) ∧ ∀ E' ∈ Cs, Sg KO (kP E') := by
  simp only [chkS, Bool.and_eq_true] at h
  refine ⟨fun q hq => hs q.1 (by simpa using List.all_eq_true.mp h.1 q hq), fun E' hE q hq => hs q.1 ?_⟩
  have := List.all_eq_true.mp (List.all_eq_true.mp h.2 E' hE) q hq
  simpa using this
