/-! polygons given by n places: edges by number; the reference's test of a simple polygon -/
def ge_aft (n i : Nat) : Nat := if i + 1 = n then 0 else i + 1
def ge_pl (n : Nat) (f : Nat → GPt) : List GPt := (List.range n).map f
theorem ge_aft_lt {n i : Nat} (h : i < n) : ge_aft n i < n := by unfold ge_aft; split <;> omega
theorem ge_ed_len : ∀ l : List GPt, (ge_ed l).length = l.length - 1
  | [] => rfl
  | [_] => rfl
  | a :: b :: r => by
    show (ge_ed (b :: r)).length + 1 = _
    rw [ge_ed_len (b :: r)]; simp
theorem ge_ed_get : ∀ (l : List GPt) (i : Nat) (h : i + 1 < l.length) (h' : i < (ge_ed l).length), (ge_ed l)[i] = (l[i]'(by omega), l[i + 1])
  | [], i, h, _ => by simp at h
  | [_], i, h, _ => by simp at h
  | a :: b :: r, 0, h, _ => rfl
  | a :: b :: r, i + 1, h, h' => by
    have h'' : i < (ge_ed (b :: r)).length := by simpa [ge_ed] using h'
    show (ge_ed (b :: r))[i]'h'' = _
    rw [ge_ed_get (b :: r) i (by simpa using h) h'']
    rfl
theorem ge_E_pl (n : Nat) (f : Nat → GPt) : ge_E (ge_pl n f) = (List.range n).map (fun i => (f i, f (ge_aft n i))) := by
  cases n with
  | zero => rfl
  | succ n =>
    have e : ge_cy (ge_pl (n + 1) f) = (List.range (n + 1)).map f ++ [f 0] := by
      unfold ge_pl
      rw [List.range_succ_eq_map]
      rfl
    unfold ge_E
    rw [e]
    refine List.ext_getElem ?_ (fun i h1 h2 => ?_)
    · rw [ge_ed_len]; simp
    · have hi : i < n + 1 := by simpa using h2
      rw [ge_ed_get _ i (by simp; omega) h1]
      simp only [List.getElem_map, List.getElem_range]
      refine Prod.ext ?_ ?_
      · dsimp only
        rw [List.getElem_append_left (by simp; omega)]
        simp
      · dsimp only
        unfold ge_aft
        by_cases q : i + 1 = n + 1
        · rw [if_pos q, List.getElem_append_right (by simp; omega)]
          simp
        · rw [if_neg q, List.getElem_append_left (by simp; omega)]
          simp
theorem ge_pl_mem {n : Nat} {f : Nat → GPt} {v : GPt} : v ∈ ge_pl n f ↔ ∃ i, i < n ∧ f i = v := by
  unfold ge_pl
  simp
theorem ge_E_mem_pl {n : Nat} {f : Nat → GPt} {e : GPt × GPt} : e ∈ ge_E (ge_pl n f) ↔ ∃ i, i < n ∧ e = (f i, f (ge_aft n i)) := by
  rw [ge_E_pl]
  simp only [List.mem_map, List.mem_range]
  exact ⟨fun ⟨i, h, q⟩ => ⟨i, h, q.symm⟩, fun ⟨i, h, q⟩ => ⟨i, h, q.symm⟩⟩
theorem ge_pl_len (n : Nat) (f : Nat → GPt) : (ge_pl n f).length = n := by unfold ge_pl; simp
/-- an edge and the next one have their vertex alone in common -/
def ge_bent (a b c : GPt) : Prop := a ≠ b ∧ c ≠ b ∧ ((a.1 - b.1) * (c.2 - b.2) ≠ (a.2 - b.2) * (c.1 - b.1) ∨ (a.1 - b.1) * (c.1 - b.1) + (a.2 - b.2) * (c.2 - b.2) < 0)
/-- the reference's test -/
def ge_simp (n : Nat) (f : Nat → GPt) : Prop := (∀ i, i < n → ge_bent (f i) (f (ge_aft n i)) (f (ge_aft n (ge_aft n i)))) ∧ ∀ i k, i + 2 ≤ k → k < n → ge_aft n k ≠ i → ¬ ge_meet (f i) (f (ge_aft n i)) (f k) (f (ge_aft n k))
theorem ge_bent_on {a b c : GPt} (h : ge_bent a b c) : ¬ ge_on b c a := by
  intro z
  obtain ⟨h1, h2, h3⟩ := h
  obtain ⟨i, j, w⟩ := ge_on_wt h2.symm z
  have z0 := z.1
  unfold ge_o at z0
  rcases h3 with q | q
  · exact q (by grind)
  · obtain ⟨e1, e2⟩ := ge_wt_eq w
    have hs := w.2.2.1
    have hj := w.2.1
    have k : (i + j) * ((a.1 - b.1) * (c.1 - b.1) + (a.2 - b.2) * (c.2 - b.2)) = j * ((c.1 - b.1) * (c.1 - b.1) + (c.2 - b.2) * (c.2 - b.2)) := by
      have k1 : (i + j) * ((a.1 - b.1) * (c.1 - b.1) + (a.2 - b.2) * (c.2 - b.2)) = (i + j) * (a.1 - b.1) * (c.1 - b.1) + (i + j) * (a.2 - b.2) * (c.2 - b.2) := by grind
      rw [k1, e1, e2]; grind
    have k2 := Int.mul_nonneg hj (show 0 ≤ (c.1 - b.1) * (c.1 - b.1) + (c.2 - b.2) * (c.2 - b.2) by have := ge_sq (c.1 - b.1); have := ge_sq (c.2 - b.2); omega)
    have := ge_nn hs (by rw [k]; exact k2)
    omega
/-- two edges of which neither follows the other don't meet -/
theorem ge_simp_far {n : Nat} {f : Nat → GPt} (h : ge_simp n f) {i j : Nat} (hi : i < n) (hj : j < n) (n1 : i ≠ j) (n2 : ge_aft n i ≠ j) (n3 : ge_aft n j ≠ i) : ¬ ge_meet (f i) (f (ge_aft n i)) (f j) (f (ge_aft n j)) := by
  rcases Nat.lt_or_gt_of_ne n1 with q | q
  · refine h.2 i j ?_ hj n3
    unfold ge_aft at n2
    split at n2 <;> omega
  · intro z
    refine h.2 j i ?_ hi n2 (ge_meet_symm z)
    unfold ge_aft at n3
    split at n3 <;> omega
theorem ge_simple_of {n : Nat} {f : Nat → GPt} (h3 : 3 ≤ n) (h : ge_simp n f) : ge_simple (ge_pl n f) := by
  have V : ∀ i j, i < n → j < n → ge_on (f i) (f (ge_aft n i)) (f j) → j = i ∨ j = ge_aft n i := fun i j hi hj z => by
    by_cases n1 : i = j
    · exact Or.inl n1.symm
    · by_cases n2 : ge_aft n i = j
      · exact Or.inr n2.symm
      · by_cases n3 : ge_aft n j = i
        · subst n3
          exact absurd z (ge_bent_on (h.1 j hj))
        · exact absurd (Or.inl z) (ge_simp_far h hi hj n1 n2 n3)
  have inj : ∀ i j, i < n → j < n → f i = f j → i = j := fun i j hi hj q => by
    have v1 := V i j hi hj (by rw [← q]; exact ge_on_l _ _)
    rcases v1 with r | r
    · exact r.symm
    · exact absurd (by rw [q, r]) (h.1 i hi).1
  refine ⟨?_, fun w hw e he z => ?_, fun e he g hg z => ?_⟩
  · unfold ge_pl
    rw [List.nodup_iff_pairwise_ne, List.pairwise_map]
    refine List.Pairwise.imp_of_mem (fun {i j} hi hj hij q => ?_) (List.pairwise_lt_range)
    have := inj i j (List.mem_range.mp hi) (List.mem_range.mp hj) q
    omega
  · obtain ⟨j, hj, rfl⟩ := ge_pl_mem.mp hw
    obtain ⟨i, hi, rfl⟩ := ge_E_mem_pl.mp he
    rcases V i j hi hj z with q | q
    · exact Or.inl (by rw [q])
    · exact Or.inr (by rw [q])
  · obtain ⟨i, hi, rfl⟩ := ge_E_mem_pl.mp he
    obtain ⟨j, hj, rfl⟩ := ge_E_mem_pl.mp hg
    have z1 : ge_o (f i) (f (ge_aft n i)) (f j) * ge_o (f i) (f (ge_aft n i)) (f (ge_aft n j)) < 0 := z.1
    by_cases n1 : i = j
    · subst n1
      rw [(ge_C_zz _ _).1, Int.zero_mul] at z1; omega
    · by_cases n2 : ge_aft n i = j
      · rw [← n2, (ge_C_zz _ _).2, Int.zero_mul] at z1; omega
      · by_cases n3 : ge_aft n j = i
        · rw [n3, (ge_C_zz _ _).1, Int.mul_zero] at z1; omega
        · exact ge_simp_far h hi hj n1 n2 n3 (Or.inr (Or.inr (Or.inr (Or.inr z))))
