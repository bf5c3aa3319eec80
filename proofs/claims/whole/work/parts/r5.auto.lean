/-! the reference: methods without loops, as functions (printed by a program out of the bytecode) -/
def ra (S : ST) (h : Nat) (j : Int32) : Int32 := S.1 h (Int32.toNatClampNeg j)
def rl (S : ST) (h : Nat) (j : Int32) : Int64 := S.2 h (Int32.toNatClampNeg j)
theorem mm_182 : mtG 182 = some (mi_182, 12, ft_182) := rfl
def f_182 (v0 : Int32) (v1 : Int32) (v2 : Int32) : Bool := (!(decide (v0 < v1)) && (!(decide (v2 < v0))))
theorem b_182_0 {d c : Nat} {R : RT} {S : ST} {v0 : Int32} {v1 : Int32} {v2 : Int32} (e1 : R c (.inr (some (.int (b2i (!(decide (v0 < v1)) && (!(decide (v2 < v0)))))))) S) : Go XM d 182 c 0 [some (.int v0), some (.int v1), some (.int v2)] [] S R := by
  refine go_run mm_182 2 (pc' := 2) (ls' := [some (.int v0), some (.int v1), some (.int v2)]) (st' := [.int v1, .int v0]) (S' := S) rfl ?_
  have j2 : Go XM d 182 c 15 [some (.int v0), some (.int v1), some (.int v2)] [.int (b2i (!(decide (v0 < v1)) && (!(decide (v2 < v0)))))] S R := by
    exact go_zreturn mm_182 rfl rfl (b2i_01 _) (e1)
  refine go_if2 mm_182 rfl (p1 := 14) (p2 := 5) rfl (fun (hc1 : v0 < v1) => ?_) (fun (hc1 : ¬ v0 < v1) => ?_)
  · refine go_run mm_182 1 (pc' := 15) (ls' := [some (.int v0), some (.int v1), some (.int v2)]) (st' := [.int 0]) (S' := S) rfl ?_
    have e : ((b2i (!(decide (v0 < v1)) && (!(decide (v2 < v0))))) : Int32) = 0 := by simp [b2i, hc1]
    rw [e] at j2
    exact j2
  · refine go_run mm_182 2 (pc' := 7) (ls' := [some (.int v0), some (.int v1), some (.int v2)]) (st' := [.int v2, .int v0]) (S' := S) rfl ?_
    have j1 : Go XM d 182 c 15 [some (.int v0), some (.int v1), some (.int v2)] [.int (b2i (!(decide (v2 < v0))))] S R := by
      have e : ((b2i (!(decide (v0 < v1)) && (!(decide (v2 < v0))))) : Int32) = (b2i (!(decide (v2 < v0)))) := by simp [b2i, hc1]
      rw [e] at j2
      exact j2
    refine go_if2 mm_182 rfl (p1 := 14) (p2 := 10) rfl (fun (hc2 : v2 < v0) => ?_) (fun (hc2 : ¬ v2 < v0) => ?_)
    · refine go_run mm_182 1 (pc' := 15) (ls' := [some (.int v0), some (.int v1), some (.int v2)]) (st' := [.int 0]) (S' := S) rfl ?_
      have e : ((b2i (!(decide (v2 < v0)))) : Int32) = 0 := by simp [b2i, hc2]
      rw [e] at j1
      exact j1
    · refine go_run mm_182 2 (pc' := 15) (ls' := [some (.int v0), some (.int v1), some (.int v2)]) (st' := [.int 1]) (S' := S) rfl ?_
      have e : ((b2i (!(decide (v2 < v0)))) : Int32) = 1 := by simp [b2i, hc2]
      rw [e] at j1
      exact j1
theorem sp_182 {d : Nat} {S : ST} {v0 : Int32} {v1 : Int32} {v2 : Int32} : Cal XM d 182 [.int v0, .int v1, .int v2] S (RV (some (.int (b2i (f_182 v0 v1 v2)))) S) := by
  refine cal_go 0 rfl (b_182_0 ?_)
  · exact ⟨rfl, rfl, rfl⟩
theorem mm_183 : mtG 183 = some (mi_183, 12, ft_183) := rfl
def f_183 (S : ST) (v1 : Bool) (v2 : Int32) : Bool := (if (S.1 140 0) = 0 then (if v1 = true then (!(decide (v2 = 0))) else (!(decide ((S.1 140 0) = 0)))) else (!(decide ((S.1 140 0) = 0))))
def g_183 (S : ST) (v1 : Bool) (v2 : Int32) : ST := (if (S.1 140 0) = 0 then (if v1 = true then (wI S 140 0 v2) else S) else S)
theorem b_183_0 {d c : Nat} {R : RT} {S : ST} {v1 : Bool} {v2 : Int32} (e1 : (S.1 140 0) = 0 → v1 = true → R c (.inr (some (.int (b2i (!(decide (v2 = 0))))))) (wI S 140 0 v2)) (e2 : (S.1 140 0) = 0 → v1 = false → R c (.inr (some (.int (b2i (!(decide ((S.1 140 0) = 0))))))) S) (e3 : ¬ (S.1 140 0) = 0 → R c (.inr (some (.int (b2i (!(decide ((S.1 140 0) = 0))))))) S) : Go XM d 183 c 0 [some (.ref 140), some (.int (b2i v1)), some (.int v2)] [] S R := by
  refine go_run mm_183 2 (pc' := 4) (ls' := [some (.ref 140), some (.int (b2i v1)), some (.int v2)]) (st' := [.int (S.1 140 0)]) (S' := S) rfl ?_
  refine go_if0 mm_183 rfl (p1 := 7) (p2 := 16) rfl (fun (hc1 : (S.1 140 0) = 0) => ?_) (fun (hc1 : ¬ (S.1 140 0) = 0) => ?_)
  · refine go_run mm_183 1 (pc' := 8) (ls' := [some (.ref 140), some (.int (b2i v1)), some (.int v2)]) (st' := [.int (b2i v1)]) (S' := S) rfl ?_
    refine go_ifb mm_183 rfl (p1 := 11) (p2 := 16) rfl (fun (hc2 : v1 = true) => ?_) (fun (hc2 : v1 = false) => ?_)
    · refine go_run mm_183 5 (pc' := 20) (ls' := [some (.ref 140), some (.int (b2i v1)), some (.int v2)]) (st' := [.int v2]) (S' := (wI S 140 0 v2)) rfl ?_
      have j1 : Go XM d 183 c 28 [some (.ref 140), some (.int (b2i v1)), some (.int v2)] [.int (b2i (!(decide (v2 = 0))))] (wI S 140 0 v2) R := by
        exact go_zreturn mm_183 rfl rfl (b2i_01 _) (e1 hc1 hc2)
      refine go_if0 mm_183 rfl (p1 := 27) (p2 := 23) rfl (fun (hc3 : v2 = 0) => ?_) (fun (hc3 : ¬ v2 = 0) => ?_)
      · refine go_run mm_183 1 (pc' := 28) (ls' := [some (.ref 140), some (.int (b2i v1)), some (.int v2)]) (st' := [.int 0]) (S' := (wI S 140 0 v2)) rfl ?_
        have e : ((b2i (!(decide (v2 = 0)))) : Int32) = 0 := by simp [b2i, hc3]
        rw [e] at j1
        exact j1
      · refine go_run mm_183 2 (pc' := 28) (ls' := [some (.ref 140), some (.int (b2i v1)), some (.int v2)]) (st' := [.int 1]) (S' := (wI S 140 0 v2)) rfl ?_
        have e : ((b2i (!(decide (v2 = 0)))) : Int32) = 1 := by simp [b2i, hc3]
        rw [e] at j1
        exact j1
    · refine go_run mm_183 2 (pc' := 20) (ls' := [some (.ref 140), some (.int (b2i v1)), some (.int v2)]) (st' := [.int (S.1 140 0)]) (S' := S) rfl ?_
      have j2 : Go XM d 183 c 28 [some (.ref 140), some (.int (b2i v1)), some (.int v2)] [.int (b2i (!(decide ((S.1 140 0) = 0))))] S R := by
        exact go_zreturn mm_183 rfl rfl (b2i_01 _) (e2 hc1 hc2)
      refine go_if0 mm_183 rfl (p1 := 27) (p2 := 23) rfl (fun (hc3 : (S.1 140 0) = 0) => ?_) (fun (hc3 : ¬ (S.1 140 0) = 0) => ?_)
      · refine go_run mm_183 1 (pc' := 28) (ls' := [some (.ref 140), some (.int (b2i v1)), some (.int v2)]) (st' := [.int 0]) (S' := S) rfl ?_
        have e : ((b2i (!(decide ((S.1 140 0) = 0)))) : Int32) = 0 := by simp [b2i, hc3]
        rw [e] at j2
        exact j2
      · refine go_run mm_183 2 (pc' := 28) (ls' := [some (.ref 140), some (.int (b2i v1)), some (.int v2)]) (st' := [.int 1]) (S' := S) rfl ?_
        have e : ((b2i (!(decide ((S.1 140 0) = 0)))) : Int32) = 1 := by simp [b2i, hc3]
        rw [e] at j2
        exact j2
  · refine go_run mm_183 2 (pc' := 20) (ls' := [some (.ref 140), some (.int (b2i v1)), some (.int v2)]) (st' := [.int (S.1 140 0)]) (S' := S) rfl ?_
    have j3 : Go XM d 183 c 28 [some (.ref 140), some (.int (b2i v1)), some (.int v2)] [.int (b2i (!(decide ((S.1 140 0) = 0))))] S R := by
      exact go_zreturn mm_183 rfl rfl (b2i_01 _) (e3 hc1)
    refine go_if0 mm_183 rfl (p1 := 27) (p2 := 23) rfl (fun (hc2 : (S.1 140 0) = 0) => ?_) (fun (hc2 : ¬ (S.1 140 0) = 0) => ?_)
    · refine go_run mm_183 1 (pc' := 28) (ls' := [some (.ref 140), some (.int (b2i v1)), some (.int v2)]) (st' := [.int 0]) (S' := S) rfl ?_
      have e : ((b2i (!(decide ((S.1 140 0) = 0)))) : Int32) = 0 := by simp [b2i, hc2]
      rw [e] at j3
      exact j3
    · refine go_run mm_183 2 (pc' := 28) (ls' := [some (.ref 140), some (.int (b2i v1)), some (.int v2)]) (st' := [.int 1]) (S' := S) rfl ?_
      have e : ((b2i (!(decide ((S.1 140 0) = 0)))) : Int32) = 1 := by simp [b2i, hc2]
      rw [e] at j3
      exact j3
theorem sp_183 {d : Nat} {S : ST} {v1 : Bool} {v2 : Int32} : Cal XM d 183 [.ref 140, .int (b2i v1), .int v2] S (RV (some (.int (b2i (f_183 S v1 v2)))) (g_183 S v1 v2)) := by
  refine cal_go 0 rfl (b_183_0 ?_ ?_ ?_)
  · intro hc1 hc2
    refine ⟨rfl, ?_, ?_⟩ <;> simp [f_183, g_183, b2i, hc1, hc2]
  · intro hc1 hc2
    refine ⟨rfl, ?_, ?_⟩ <;> simp [f_183, g_183, b2i, hc1, hc2]
  · intro hc1
    refine ⟨rfl, ?_, ?_⟩ <;> simp [f_183, g_183, b2i, hc1]
theorem mm_184 : mtG 184 = some (mi_184, 12, ft_184) := rfl
def f_184 (S : ST) : Bool := f_183 (wI S 140 0 0) (decide ((S.1 140 1) = 0)) 1
def g_184 (S : ST) : ST := (g_183 (wI S 140 0 0) (decide ((S.1 140 1) = 0)) 1)
theorem b_184_0 {d c : Nat} {R : RT} {S : ST} (e1 : R c (.inr (some (.int (b2i (f_183 (wI S 140 0 0) (decide ((S.1 140 1) = 0)) 1))))) (g_183 (wI S 140 0 0) (decide ((S.1 140 1) = 0)) 1)) : Go XM (d + 1) 184 c 0 [some (.ref 140)] [] S R := by
  refine go_run mm_184 6 (pc' := 10) (ls' := [some (.ref 140)]) (st' := [.int (S.1 140 1), .ref 140]) (S' := (wI S 140 0 0)) rfl ?_
  have j1 : Go XM (d + 1) 184 c 18 [some (.ref 140)] [.int (b2i (decide ((S.1 140 1) = 0))), .ref 140] (wI S 140 0 0) R := by
    refine go_run mm_184 1 (pc' := 19) (ls' := [some (.ref 140)]) (st' := [.int 1, .int (b2i (decide ((S.1 140 1) = 0))), .ref 140]) (S' := (wI S 140 0 0)) rfl ?_
    refine go_cv mm_184 (h := 140) (As := [.int (b2i (decide ((S.1 140 1) = 0))), .int 1]) (rest := []) (nl := 3) rfl XM_140 (show cvOK 184 19 86 183 2 3 11 = true by decide +kernel) rfl rfl rfl (sp_183) (KP_V ?_)
    exact go_zreturn mm_184 rfl rfl (b2i_01 _) (e1)
  refine go_if0 mm_184 rfl (p1 := 13) (p2 := 17) rfl (fun (hc1 : (S.1 140 1) = 0) => ?_) (fun (hc1 : ¬ (S.1 140 1) = 0) => ?_)
  · refine go_run mm_184 2 (pc' := 18) (ls' := [some (.ref 140)]) (st' := [.int 1, .ref 140]) (S' := (wI S 140 0 0)) rfl ?_
    have e : ((b2i (decide ((S.1 140 1) = 0))) : Int32) = 1 := by simp [b2i, hc1]
    rw [e] at j1
    exact j1
  · refine go_run mm_184 1 (pc' := 18) (ls' := [some (.ref 140)]) (st' := [.int 0, .ref 140]) (S' := (wI S 140 0 0)) rfl ?_
    have e : ((b2i (decide ((S.1 140 1) = 0))) : Int32) = 0 := by simp [b2i, hc1]
    rw [e] at j1
    exact j1
theorem sp_184 {d : Nat} {S : ST} : Cal XM (d + 1) 184 [.ref 140] S (RV (some (.int (b2i (f_184 S)))) (g_184 S)) := by
  refine cal_go 0 rfl (b_184_0 ?_)
  · exact ⟨rfl, rfl, rfl⟩
theorem mm_186 : mtG 186 = some (mi_186, 12, ft_186) := rfl
def f_186 (S : ST) : Int32 := S.1 140 7
def g_186 (S : ST) : ST := (wI S 140 0 0)
theorem b_186_0 {d c : Nat} {R : RT} {S : ST} (e1 : R c (.inr (some (.int (S.1 140 7)))) (wI S 140 0 0)) : Go XM d 186 c 0 [some (.ref 140)] [] S R := by
  refine go_run mm_186 5 (pc' := 9) (ls' := [some (.ref 140)]) (st' := [.int (S.1 140 7)]) (S' := (wI S 140 0 0)) rfl ?_
  exact go_ireturn mm_186 rfl rfl (e1)
theorem sp_186 {d : Nat} {S : ST} : Cal XM d 186 [.ref 140] S (RV (some (.int (f_186 S))) (g_186 S)) := by
  refine cal_go 0 rfl (b_186_0 ?_)
  · exact ⟨rfl, rfl, rfl⟩
theorem mm_187 : mtG 187 = some (mi_187, 12, ft_187) := rfl
def f_187 (S : ST) : Int32 := S.1 140 8
def g_187 (S : ST) : ST := (wI S 140 0 0)
theorem b_187_0 {d c : Nat} {R : RT} {S : ST} (e1 : R c (.inr (some (.int (S.1 140 8)))) (wI S 140 0 0)) : Go XM d 187 c 0 [some (.ref 140)] [] S R := by
  refine go_run mm_187 5 (pc' := 9) (ls' := [some (.ref 140)]) (st' := [.int (S.1 140 8)]) (S' := (wI S 140 0 0)) rfl ?_
  exact go_ireturn mm_187 rfl rfl (e1)
theorem sp_187 {d : Nat} {S : ST} : Cal XM d 187 [.ref 140] S (RV (some (.int (f_187 S))) (g_187 S)) := by
  refine cal_go 0 rfl (b_187_0 ?_)
  · exact ⟨rfl, rfl, rfl⟩
theorem mm_188 : mtG 188 = some (mi_188, 12, ft_188) := rfl
def f_188 (S : ST) : Int32 := S.1 140 9
def g_188 (S : ST) : ST := (wI S 140 0 0)
theorem b_188_0 {d c : Nat} {R : RT} {S : ST} (e1 : R c (.inr (some (.int (S.1 140 9)))) (wI S 140 0 0)) : Go XM d 188 c 0 [some (.ref 140)] [] S R := by
  refine go_run mm_188 5 (pc' := 9) (ls' := [some (.ref 140)]) (st' := [.int (S.1 140 9)]) (S' := (wI S 140 0 0)) rfl ?_
  exact go_ireturn mm_188 rfl rfl (e1)
theorem sp_188 {d : Nat} {S : ST} : Cal XM d 188 [.ref 140] S (RV (some (.int (f_188 S))) (g_188 S)) := by
  refine cal_go 0 rfl (b_188_0 ?_)
  · exact ⟨rfl, rfl, rfl⟩
theorem mm_190 : mtG 190 = some (mi_190, 12, ft_190) := rfl
def f_190 (v0 : Int32) : Bool := (!(decide (v0 < 97)) && (!(decide ((122 : Int32) < v0))))
theorem b_190_0 {d c : Nat} {R : RT} {S : ST} {v0 : Int32} (e1 : R c (.inr (some (.int (b2i (!(decide (v0 < 97)) && (!(decide ((122 : Int32) < v0)))))))) S) : Go XM d 190 c 0 [some (.int v0)] [] S R := by
  refine go_run mm_190 2 (pc' := 3) (ls' := [some (.int v0)]) (st' := [.int 97, .int v0]) (S' := S) rfl ?_
  have j2 : Go XM d 190 c 17 [some (.int v0)] [.int (b2i (!(decide (v0 < 97)) && (!(decide ((122 : Int32) < v0)))))] S R := by
    exact go_zreturn mm_190 rfl rfl (b2i_01 _) (e1)
  refine go_if2 mm_190 rfl (p1 := 16) (p2 := 6) rfl (fun (hc1 : v0 < 97) => ?_) (fun (hc1 : ¬ v0 < 97) => ?_)
  · refine go_run mm_190 1 (pc' := 17) (ls' := [some (.int v0)]) (st' := [.int 0]) (S' := S) rfl ?_
    have e : ((b2i (!(decide (v0 < 97)) && (!(decide ((122 : Int32) < v0))))) : Int32) = 0 := by simp [b2i, hc1]
    rw [e] at j2
    exact j2
  · refine go_run mm_190 2 (pc' := 9) (ls' := [some (.int v0)]) (st' := [.int 122, .int v0]) (S' := S) rfl ?_
    have j1 : Go XM d 190 c 17 [some (.int v0)] [.int (b2i (!(decide ((122 : Int32) < v0))))] S R := by
      have e : ((b2i (!(decide (v0 < 97)) && (!(decide ((122 : Int32) < v0))))) : Int32) = (b2i (!(decide ((122 : Int32) < v0)))) := by simp [b2i, hc1]
      rw [e] at j2
      exact j2
    refine go_if2 mm_190 rfl (p1 := 16) (p2 := 12) rfl (fun (hc2 : (122 : Int32) < v0) => ?_) (fun (hc2 : ¬ (122 : Int32) < v0) => ?_)
    · refine go_run mm_190 1 (pc' := 17) (ls' := [some (.int v0)]) (st' := [.int 0]) (S' := S) rfl ?_
      have e : ((b2i (!(decide ((122 : Int32) < v0)))) : Int32) = 0 := by simp [b2i, hc2]
      rw [e] at j1
      exact j1
    · refine go_run mm_190 2 (pc' := 17) (ls' := [some (.int v0)]) (st' := [.int 1]) (S' := S) rfl ?_
      have e : ((b2i (!(decide ((122 : Int32) < v0)))) : Int32) = 1 := by simp [b2i, hc2]
      rw [e] at j1
      exact j1
theorem sp_190 {d : Nat} {S : ST} {v0 : Int32} : Cal XM d 190 [.int v0] S (RV (some (.int (b2i (f_190 v0)))) S) := by
  refine cal_go 0 rfl (b_190_0 ?_)
  · exact ⟨rfl, rfl, rfl⟩
theorem mm_191 : mtG 191 = some (mi_191, 12, ft_191) := rfl
def f_191 (v0 : Int32) : Bool := (!(decide (v0 < 48)) && (!(decide ((57 : Int32) < v0))))
theorem b_191_0 {d c : Nat} {R : RT} {S : ST} {v0 : Int32} (e1 : R c (.inr (some (.int (b2i (!(decide (v0 < 48)) && (!(decide ((57 : Int32) < v0)))))))) S) : Go XM d 191 c 0 [some (.int v0)] [] S R := by
  refine go_run mm_191 2 (pc' := 3) (ls' := [some (.int v0)]) (st' := [.int 48, .int v0]) (S' := S) rfl ?_
  have j2 : Go XM d 191 c 17 [some (.int v0)] [.int (b2i (!(decide (v0 < 48)) && (!(decide ((57 : Int32) < v0)))))] S R := by
    exact go_zreturn mm_191 rfl rfl (b2i_01 _) (e1)
  refine go_if2 mm_191 rfl (p1 := 16) (p2 := 6) rfl (fun (hc1 : v0 < 48) => ?_) (fun (hc1 : ¬ v0 < 48) => ?_)
  · refine go_run mm_191 1 (pc' := 17) (ls' := [some (.int v0)]) (st' := [.int 0]) (S' := S) rfl ?_
    have e : ((b2i (!(decide (v0 < 48)) && (!(decide ((57 : Int32) < v0))))) : Int32) = 0 := by simp [b2i, hc1]
    rw [e] at j2
    exact j2
  · refine go_run mm_191 2 (pc' := 9) (ls' := [some (.int v0)]) (st' := [.int 57, .int v0]) (S' := S) rfl ?_
    have j1 : Go XM d 191 c 17 [some (.int v0)] [.int (b2i (!(decide ((57 : Int32) < v0))))] S R := by
      have e : ((b2i (!(decide (v0 < 48)) && (!(decide ((57 : Int32) < v0))))) : Int32) = (b2i (!(decide ((57 : Int32) < v0)))) := by simp [b2i, hc1]
      rw [e] at j2
      exact j2
    refine go_if2 mm_191 rfl (p1 := 16) (p2 := 12) rfl (fun (hc2 : (57 : Int32) < v0) => ?_) (fun (hc2 : ¬ (57 : Int32) < v0) => ?_)
    · refine go_run mm_191 1 (pc' := 17) (ls' := [some (.int v0)]) (st' := [.int 0]) (S' := S) rfl ?_
      have e : ((b2i (!(decide ((57 : Int32) < v0)))) : Int32) = 0 := by simp [b2i, hc2]
      rw [e] at j1
      exact j1
    · refine go_run mm_191 2 (pc' := 17) (ls' := [some (.int v0)]) (st' := [.int 1]) (S' := S) rfl ?_
      have e : ((b2i (!(decide ((57 : Int32) < v0)))) : Int32) = 1 := by simp [b2i, hc2]
      rw [e] at j1
      exact j1
theorem sp_191 {d : Nat} {S : ST} {v0 : Int32} : Cal XM d 191 [.int v0] S (RV (some (.int (b2i (f_191 v0)))) S) := by
  refine cal_go 0 rfl (b_191_0 ?_)
  · exact ⟨rfl, rfl, rfl⟩
theorem mm_193 : mtG 193 = some (mi_193, 12, ft_193) := rfl
def g_193 (S : ST) (v1 : Int32) : ST := (if (S.1 140 17) = 0 then (wI (wI S 140 17 v1) 140 18 (S.1 140 12)) else S)
theorem b_193_0 {d c : Nat} {R : RT} {S : ST} {v1 : Int32} (e1 : (S.1 140 17) = 0 → R c (.inr none) (wI (wI S 140 17 v1) 140 18 (S.1 140 12))) (e2 : ¬ (S.1 140 17) = 0 → R c (.inr none) S) : Go XM d 193 c 0 [some (.ref 140), some (.int v1)] [] S R := by
  refine go_run mm_193 2 (pc' := 4) (ls' := [some (.ref 140), some (.int v1)]) (st' := [.int (S.1 140 17)]) (S' := S) rfl ?_
  refine go_if0 mm_193 rfl (p1 := 7) (p2 := 20) rfl (fun (hc1 : (S.1 140 17) = 0) => ?_) (fun (hc1 : ¬ (S.1 140 17) = 0) => ?_)
  · refine go_run mm_193 7 (pc' := 20) (ls' := [some (.ref 140), some (.int v1)]) (st' := []) (S' := (wI (wI S 140 17 v1) 140 18 (S.1 140 12))) rfl ?_
    exact go_vreturn mm_193 rfl rfl (e1 hc1)
  · exact go_vreturn mm_193 rfl rfl (e2 hc1)
theorem sp_193 {d : Nat} {S : ST} {v1 : Int32} : Cal XM d 193 [.ref 140, .int v1] S (RV none (g_193 S v1)) := by
  refine cal_go 0 rfl (b_193_0 ?_ ?_)
  · intro hc1
    refine ⟨rfl, ?_, ?_⟩ <;> simp [g_193, b2i, hc1]
  · intro hc1
    refine ⟨rfl, ?_, ?_⟩ <;> simp [g_193, b2i, hc1]
theorem mm_196 : mtG 196 = some (mi_196, 12, ft_196) := rfl
def f_196 (S : ST) (v1 : Int32) (v2 : Int32) : Int32 := (if (S.1 140 13) = 2 then (if (f_182 (S.1 140 16) v1 v2) = true then (if (S.1 140 17) = 0 then S.1 140 16 else v1) else (if ((g_193 S 2).1 140 17) = 0 then (g_193 S 2).1 140 16 else v1)) else (if ((g_193 S 1).1 140 17) = 0 then (g_193 S 1).1 140 16 else v1))
def g_196 (S : ST) (v1 : Int32) (v2 : Int32) : ST := (if (S.1 140 13) = 2 then (if (f_182 (S.1 140 16) v1 v2) = true then S else (g_193 S 2)) else (g_193 S 1))
theorem b_196_0 {d c : Nat} {R : RT} {S : ST} {v1 : Int32} {v2 : Int32} (e1 : (S.1 140 13) = 2 → (f_182 (S.1 140 16) v1 v2) = true → R c (.inr (some (.int (if (S.1 140 17) = 0 then S.1 140 16 else v1)))) S) (e2 : (S.1 140 13) = 2 → (f_182 (S.1 140 16) v1 v2) = false → R c (.inr (some (.int (if ((g_193 S 2).1 140 17) = 0 then (g_193 S 2).1 140 16 else v1)))) (g_193 S 2)) (e3 : ¬ (S.1 140 13) = 2 → R c (.inr (some (.int (if ((g_193 S 1).1 140 17) = 0 then (g_193 S 1).1 140 16 else v1)))) (g_193 S 1)) : Go XM (d + 1) 196 c 0 [some (.ref 140), some (.int v1), some (.int v2)] [] S R := by
  refine go_run mm_196 3 (pc' := 5) (ls' := [some (.ref 140), some (.int v1), some (.int v2)]) (st' := [.int 2, .int (S.1 140 13)]) (S' := S) rfl ?_
  refine go_if2 mm_196 rfl (p1 := 16) (p2 := 8) rfl (fun (hc1 : (S.1 140 13) = 2) => ?_) (fun (hc1 : ¬ (S.1 140 13) = 2) => ?_)
  · refine go_run mm_196 4 (pc' := 22) (ls' := [some (.ref 140), some (.int v1), some (.int v2)]) (st' := [.int v2, .int v1, .int (S.1 140 16)]) (S' := S) rfl ?_
    refine go_cs mm_196 (av := [.int (S.1 140 16), .int v1, .int v2]) (rest := []) (nl := 3) rfl (show csOK 196 22 148 182 3 3 = true by decide +kernel) rfl rfl rfl (sp_182) (KP_V ?_)
    refine go_ifb mm_196 rfl (p1 := 33) (p2 := 28) rfl (fun (hc2 : (f_182 (S.1 140 16) v1 v2) = true) => ?_) (fun (hc2 : (f_182 (S.1 140 16) v1 v2) = false) => ?_)
    · refine go_run mm_196 2 (pc' := 37) (ls' := [some (.ref 140), some (.int v1), some (.int v2)]) (st' := [.int (S.1 140 17)]) (S' := S) rfl ?_
      have j1 : Go XM (d + 1) 196 c 48 [some (.ref 140), some (.int v1), some (.int v2)] [.int (if (S.1 140 17) = 0 then S.1 140 16 else v1)] S R := by
        exact go_ireturn mm_196 rfl rfl (e1 hc1 hc2)
      refine go_if0 mm_196 rfl (p1 := 44) (p2 := 40) rfl (fun (hc3 : (S.1 140 17) = 0) => ?_) (fun (hc3 : ¬ (S.1 140 17) = 0) => ?_)
      · refine go_run mm_196 2 (pc' := 48) (ls' := [some (.ref 140), some (.int v1), some (.int v2)]) (st' := [.int (S.1 140 16)]) (S' := S) rfl ?_
        have e : ((if (S.1 140 17) = 0 then S.1 140 16 else v1) : Int32) = S.1 140 16 := by simp [b2i, hc3]
        rw [e] at j1
        exact j1
      · refine go_run mm_196 2 (pc' := 48) (ls' := [some (.ref 140), some (.int v1), some (.int v2)]) (st' := [.int v1]) (S' := S) rfl ?_
        have e : ((if (S.1 140 17) = 0 then S.1 140 16 else v1) : Int32) = v1 := by simp [b2i, hc3]
        rw [e] at j1
        exact j1
    · refine go_run mm_196 2 (pc' := 30) (ls' := [some (.ref 140), some (.int v1), some (.int v2)]) (st' := [.int 2, .ref 140]) (S' := S) rfl ?_
      refine go_cv mm_196 (h := 140) (As := [.int 2]) (rest := []) (nl := 2) rfl XM_140 (show cvOK 196 30 144 193 1 2 11 = true by decide +kernel) rfl rfl rfl (sp_193) (KP_V ?_)
      refine go_run mm_196 2 (pc' := 37) (ls' := [some (.ref 140), some (.int v1), some (.int v2)]) (st' := [.int ((g_193 S 2).1 140 17)]) (S' := (g_193 S 2)) rfl ?_
      have j2 : Go XM (d + 1) 196 c 48 [some (.ref 140), some (.int v1), some (.int v2)] [.int (if ((g_193 S 2).1 140 17) = 0 then (g_193 S 2).1 140 16 else v1)] (g_193 S 2) R := by
        exact go_ireturn mm_196 rfl rfl (e2 hc1 hc2)
      refine go_if0 mm_196 rfl (p1 := 44) (p2 := 40) rfl (fun (hc3 : ((g_193 S 2).1 140 17) = 0) => ?_) (fun (hc3 : ¬ ((g_193 S 2).1 140 17) = 0) => ?_)
      · refine go_run mm_196 2 (pc' := 48) (ls' := [some (.ref 140), some (.int v1), some (.int v2)]) (st' := [.int ((g_193 S 2).1 140 16)]) (S' := (g_193 S 2)) rfl ?_
        have e : ((if ((g_193 S 2).1 140 17) = 0 then (g_193 S 2).1 140 16 else v1) : Int32) = (g_193 S 2).1 140 16 := by simp [b2i, hc3]
        rw [e] at j2
        exact j2
      · refine go_run mm_196 2 (pc' := 48) (ls' := [some (.ref 140), some (.int v1), some (.int v2)]) (st' := [.int v1]) (S' := (g_193 S 2)) rfl ?_
        have e : ((if ((g_193 S 2).1 140 17) = 0 then (g_193 S 2).1 140 16 else v1) : Int32) = v1 := by simp [b2i, hc3]
        rw [e] at j2
        exact j2
  · refine go_run mm_196 2 (pc' := 10) (ls' := [some (.ref 140), some (.int v1), some (.int v2)]) (st' := [.int 1, .ref 140]) (S' := S) rfl ?_
    refine go_cv mm_196 (h := 140) (As := [.int 1]) (rest := []) (nl := 2) rfl XM_140 (show cvOK 196 10 144 193 1 2 11 = true by decide +kernel) rfl rfl rfl (sp_193) (KP_V ?_)
    refine go_run mm_196 3 (pc' := 37) (ls' := [some (.ref 140), some (.int v1), some (.int v2)]) (st' := [.int ((g_193 S 1).1 140 17)]) (S' := (g_193 S 1)) rfl ?_
    have j3 : Go XM (d + 1) 196 c 48 [some (.ref 140), some (.int v1), some (.int v2)] [.int (if ((g_193 S 1).1 140 17) = 0 then (g_193 S 1).1 140 16 else v1)] (g_193 S 1) R := by
      exact go_ireturn mm_196 rfl rfl (e3 hc1)
    refine go_if0 mm_196 rfl (p1 := 44) (p2 := 40) rfl (fun (hc2 : ((g_193 S 1).1 140 17) = 0) => ?_) (fun (hc2 : ¬ ((g_193 S 1).1 140 17) = 0) => ?_)
    · refine go_run mm_196 2 (pc' := 48) (ls' := [some (.ref 140), some (.int v1), some (.int v2)]) (st' := [.int ((g_193 S 1).1 140 16)]) (S' := (g_193 S 1)) rfl ?_
      have e : ((if ((g_193 S 1).1 140 17) = 0 then (g_193 S 1).1 140 16 else v1) : Int32) = (g_193 S 1).1 140 16 := by simp [b2i, hc2]
      rw [e] at j3
      exact j3
    · refine go_run mm_196 2 (pc' := 48) (ls' := [some (.ref 140), some (.int v1), some (.int v2)]) (st' := [.int v1]) (S' := (g_193 S 1)) rfl ?_
      have e : ((if ((g_193 S 1).1 140 17) = 0 then (g_193 S 1).1 140 16 else v1) : Int32) = v1 := by simp [b2i, hc2]
      rw [e] at j3
      exact j3
theorem sp_196 {d : Nat} {S : ST} {v1 : Int32} {v2 : Int32} : Cal XM (d + 1) 196 [.ref 140, .int v1, .int v2] S (RV (some (.int (f_196 S v1 v2))) (g_196 S v1 v2)) := by
  refine cal_go 0 rfl (b_196_0 ?_ ?_ ?_)
  · intro hc1 hc2
    refine ⟨rfl, ?_, ?_⟩ <;> simp [f_196, g_196, b2i, hc1, hc2]
  · intro hc1 hc2
    refine ⟨rfl, ?_, ?_⟩ <;> simp [f_196, g_196, b2i, hc1, hc2]
  · intro hc1
    refine ⟨rfl, ?_, ?_⟩ <;> simp [f_196, g_196, b2i, hc1]
theorem mm_202 : mtG 202 = some (mi_202, 12, ft_202) := rfl
def f_202 (v0 : Int64) (v2 : Int64) (v4 : Int64) (v6 : Int64) (v8 : Int64) (v10 : Int64) : Int64 := ((v4 - v0) * (v10 - v2)) - ((v6 - v2) * (v8 - v0))
theorem b_202_0 {d c : Nat} {R : RT} {S : ST} {v0 : Int64} {v2 : Int64} {v4 : Int64} {v6 : Int64} {v8 : Int64} {v10 : Int64} (e1 : R c (.inr (some (.long (((v4 - v0) * (v10 - v2)) - ((v6 - v2) * (v8 - v0)))))) S) : Go XM d 202 c 0 [some (.long v0), none, some (.long v2), none, some (.long v4), none, some (.long v6), none, some (.long v8), none, some (.long v10), none] [] S R := by
  refine go_run mm_202 15 (pc' := 19) (ls' := [some (.long v0), none, some (.long v2), none, some (.long v4), none, some (.long v6), none, some (.long v8), none, some (.long v10), none]) (st' := [.long (((v4 - v0) * (v10 - v2)) - ((v6 - v2) * (v8 - v0)))]) (S' := S) rfl ?_
  exact go_lreturn mm_202 rfl rfl (e1)
theorem sp_202 {d : Nat} {S : ST} {v0 : Int64} {v2 : Int64} {v4 : Int64} {v6 : Int64} {v8 : Int64} {v10 : Int64} : Cal XM d 202 [.long v0, .long v2, .long v4, .long v6, .long v8, .long v10] S (RV (some (.long (f_202 v0 v2 v4 v6 v8 v10))) S) := by
  refine cal_go 0 rfl (b_202_0 ?_)
  · exact ⟨rfl, rfl, rfl⟩
theorem mm_203 : mtG 203 = some (mi_203, 12, ft_203) := rfl
def f_203 (v0 : Int64) : Int32 := (if (0 : Int64) < v0 then 1 else (if v0 < 0 then (-1) else 0))
theorem b_203_0 {d c : Nat} {R : RT} {S : ST} {v0 : Int64} (e1 : R c (.inr (some (.int (if (0 : Int64) < v0 then 1 else (if v0 < 0 then (-1) else 0))))) S) : Go XM d 203 c 0 [some (.long v0), none] [] S R := by
  refine go_run mm_203 2 (pc' := 2) (ls' := [some (.long v0), none]) (st' := [.long 0, .long v0]) (S' := S) rfl ?_
  have j2 : Go XM d 203 c 21 [some (.long v0), none] [.int (if (0 : Int64) < v0 then 1 else (if v0 < 0 then (-1) else 0))] S R := by
    exact go_ireturn mm_203 rfl rfl (e1)
  refine go_lif mm_203 rfl rfl (p1 := 6) (p2 := 10) rfl (fun (hc1 : (0 : Int64) < v0) => ?_) (fun (hc1 : ¬ (0 : Int64) < v0) => ?_)
  · refine go_run mm_203 2 (pc' := 21) (ls' := [some (.long v0), none]) (st' := [.int 1]) (S' := S) rfl ?_
    have e : ((if (0 : Int64) < v0 then 1 else (if v0 < 0 then (-1) else 0)) : Int32) = 1 := by simp [b2i, hc1]
    rw [e] at j2
    exact j2
  · refine go_run mm_203 2 (pc' := 12) (ls' := [some (.long v0), none]) (st' := [.long 0, .long v0]) (S' := S) rfl ?_
    have j1 : Go XM d 203 c 21 [some (.long v0), none] [.int (if v0 < 0 then (-1) else 0)] S R := by
      have e : ((if (0 : Int64) < v0 then 1 else (if v0 < 0 then (-1) else 0)) : Int32) = (if v0 < 0 then (-1) else 0) := by simp [b2i, hc1]
      rw [e] at j2
      exact j2
    refine go_lif mm_203 rfl rfl (p1 := 16) (p2 := 20) rfl (fun (hc2 : v0 < 0) => ?_) (fun (hc2 : ¬ v0 < 0) => ?_)
    · refine go_run mm_203 2 (pc' := 21) (ls' := [some (.long v0), none]) (st' := [.int (-1)]) (S' := S) rfl ?_
      have e : ((if v0 < 0 then (-1) else 0) : Int32) = (-1) := by simp [b2i, hc2]
      rw [e] at j1
      exact j1
    · refine go_run mm_203 1 (pc' := 21) (ls' := [some (.long v0), none]) (st' := [.int 0]) (S' := S) rfl ?_
      have e : ((if v0 < 0 then (-1) else 0) : Int32) = 0 := by simp [b2i, hc2]
      rw [e] at j1
      exact j1
theorem sp_203 {d : Nat} {S : ST} {v0 : Int64} : Cal XM d 203 [.long v0] S (RV (some (.int (f_203 v0))) S) := by
  refine cal_go 0 rfl (b_203_0 ?_)
  · exact ⟨rfl, rfl, rfl⟩
theorem mm_204 : mtG 204 = some (mi_204, 12, ft_204) := rfl
def f_204 (S : ST) (h0 : Nat) (v1 : Int32) : Int32 := (if (v1 + 1) = (S.1 h0 0) then 0 else v1 + 1)
theorem b_204_0 {d c : Nat} {R : RT} {S : ST} {h0 : Nat} {v1 : Int32} (x0 : XM h0 = some (.inr (0, 63))) (e1 : R c (.inr (some (.int (if (v1 + 1) = (S.1 h0 0) then 0 else v1 + 1)))) S) : Go XM d 204 c 0 [some (.ref h0), some (.int v1)] [] S R := by
  refine go_run mm_204 5 (pc' := 5) (ls' := [some (.ref h0), some (.int v1)]) (st' := [.int 0, .ref h0, .int (v1 + 1)]) (S' := S) rfl ?_
  refine go_iaload mm_204 (q := 0) rfl x0 rfl (inB_lit rfl) ?_
  have j1 : Go XM d 204 c 16 [some (.ref h0), some (.int v1)] [.int (if (v1 + 1) = (S.1 h0 0) then 0 else v1 + 1)] S R := by
    exact go_ireturn mm_204 rfl rfl (e1)
  refine go_if2 mm_204 rfl (p1 := 9) (p2 := 13) rfl (fun (hc1 : (v1 + 1) = (S.1 h0 0)) => ?_) (fun (hc1 : ¬ (v1 + 1) = (S.1 h0 0)) => ?_)
  · refine go_run mm_204 2 (pc' := 16) (ls' := [some (.ref h0), some (.int v1)]) (st' := [.int 0]) (S' := S) rfl ?_
    have e : ((if (v1 + 1) = (S.1 h0 0) then 0 else v1 + 1) : Int32) = 0 := by simp [b2i, hc1]
    rw [e] at j1
    exact j1
  · refine go_run mm_204 3 (pc' := 16) (ls' := [some (.ref h0), some (.int v1)]) (st' := [.int (v1 + 1)]) (S' := S) rfl ?_
    have e : ((if (v1 + 1) = (S.1 h0 0) then 0 else v1 + 1) : Int32) = v1 + 1 := by simp [b2i, hc1]
    rw [e] at j1
    exact j1
theorem sp_204 {d : Nat} {S : ST} {h0 : Nat} {v1 : Int32} (x0 : XM h0 = some (.inr (0, 63))) : Cal XM d 204 [.ref h0, .int v1] S (RV (some (.int (f_204 S h0 v1))) S) := by
  refine cal_go 0 rfl (b_204_0 x0 ?_)
  · exact ⟨rfl, rfl, rfl⟩
theorem mm_205 : mtG 205 = some (mi_205, 12, ft_205) := rfl
def f_205 (v0 : Int64) (v2 : Int64) (v4 : Int64) (v6 : Int64) (v8 : Int64) (v10 : Int64) : Bool := ((!(decide ((0 : Int64) < ((v8 - v0) * (v8 - v4)))) && (!(decide ((0 : Int64) < ((v10 - v2) * (v10 - v6)))))) && (decide ((f_202 v0 v2 v4 v6 v8 v10) = 0)))
theorem b_205_0 {d c : Nat} {R : RT} {S : ST} {v0 : Int64} {v2 : Int64} {v4 : Int64} {v6 : Int64} {v8 : Int64} {v10 : Int64} (e1 : R c (.inr (some (.int (b2i ((!(decide ((0 : Int64) < ((v8 - v0) * (v8 - v4)))) && (!(decide ((0 : Int64) < ((v10 - v2) * (v10 - v6)))))) && (decide ((f_202 v0 v2 v4 v6 v8 v10) = 0))))))) S) : Go XM (d + 1) 205 c 0 [some (.long v0), none, some (.long v2), none, some (.long v4), none, some (.long v6), none, some (.long v8), none, some (.long v10), none, none] [] S R := by
  refine go_run mm_205 8 (pc' := 11) (ls' := [some (.long v0), none, some (.long v2), none, some (.long v4), none, some (.long v6), none, some (.long v8), none, some (.long v10), none, none]) (st' := [.long 0, .long ((v8 - v0) * (v8 - v4))]) (S' := S) rfl ?_
  have j4 : Go XM (d + 1) 205 c 35 [some (.long v0), none, some (.long v2), none, some (.long v4), none, some (.long v6), none, some (.long v8), none, some (.long v10), none, none] [.int (b2i (!(decide ((0 : Int64) < ((v8 - v0) * (v8 - v4)))) && (!(decide ((0 : Int64) < ((v10 - v2) * (v10 - v6)))))))] S R := by
    refine go_run mm_205 2 (pc' := 39) (ls' := [some (.long v0), none, some (.long v2), none, some (.long v4), none, some (.long v6), none, some (.long v8), none, some (.long v10), none, some (.int (b2i (!(decide ((0 : Int64) < ((v8 - v0) * (v8 - v4)))) && (!(decide ((0 : Int64) < ((v10 - v2) * (v10 - v6))))))))]) (st' := [.int (b2i (!(decide ((0 : Int64) < ((v8 - v0) * (v8 - v4)))) && (!(decide ((0 : Int64) < ((v10 - v2) * (v10 - v6)))))))]) (S' := S) rfl ?_
    have j3 : Go XM (d + 1) 205 c 65 [some (.long v0), none, some (.long v2), none, some (.long v4), none, some (.long v6), none, some (.long v8), none, some (.long v10), none, some (.int (b2i (!(decide ((0 : Int64) < ((v8 - v0) * (v8 - v4)))) && (!(decide ((0 : Int64) < ((v10 - v2) * (v10 - v6))))))))] [.int (b2i ((!(decide ((0 : Int64) < ((v8 - v0) * (v8 - v4)))) && (!(decide ((0 : Int64) < ((v10 - v2) * (v10 - v6)))))) && (decide ((f_202 v0 v2 v4 v6 v8 v10) = 0))))] S R := by
      exact go_zreturn mm_205 rfl rfl (b2i_01 _) (e1)
    refine go_ifb mm_205 rfl (p1 := 42) (p2 := 64) rfl (fun (hc1 : (!(decide ((0 : Int64) < ((v8 - v0) * (v8 - v4)))) && (!(decide ((0 : Int64) < ((v10 - v2) * (v10 - v6)))))) = true) => ?_) (fun (hc1 : (!(decide ((0 : Int64) < ((v8 - v0) * (v8 - v4)))) && (!(decide ((0 : Int64) < ((v10 - v2) * (v10 - v6)))))) = false) => ?_)
    · refine go_run mm_205 6 (pc' := 52) (ls' := [some (.long v0), none, some (.long v2), none, some (.long v4), none, some (.long v6), none, some (.long v8), none, some (.long v10), none, some (.int (b2i (!(decide ((0 : Int64) < ((v8 - v0) * (v8 - v4)))) && (!(decide ((0 : Int64) < ((v10 - v2) * (v10 - v6))))))))]) (st' := [.long v10, .long v8, .long v6, .long v4, .long v2, .long v0]) (S' := S) rfl ?_
      refine go_cs mm_205 (av := [.long v0, .long v2, .long v4, .long v6, .long v8, .long v10]) (rest := []) (nl := 12) rfl (show csOK 205 52 204 202 6 12 = true by decide +kernel) rfl rfl rfl (sp_202) (KP_V ?_)
      refine go_run mm_205 1 (pc' := 56) (ls' := [some (.long v0), none, some (.long v2), none, some (.long v4), none, some (.long v6), none, some (.long v8), none, some (.long v10), none, some (.int (b2i (!(decide ((0 : Int64) < ((v8 - v0) * (v8 - v4)))) && (!(decide ((0 : Int64) < ((v10 - v2) * (v10 - v6))))))))]) (st' := [.long 0, .long (f_202 v0 v2 v4 v6 v8 v10)]) (S' := S) rfl ?_
      have j2 : Go XM (d + 1) 205 c 65 [some (.long v0), none, some (.long v2), none, some (.long v4), none, some (.long v6), none, some (.long v8), none, some (.long v10), none, some (.int (b2i (!(decide ((0 : Int64) < ((v8 - v0) * (v8 - v4)))) && (!(decide ((0 : Int64) < ((v10 - v2) * (v10 - v6))))))))] [.int (b2i (decide ((f_202 v0 v2 v4 v6 v8 v10) = 0)))] S R := by
        have e : ((b2i ((!(decide ((0 : Int64) < ((v8 - v0) * (v8 - v4)))) && (!(decide ((0 : Int64) < ((v10 - v2) * (v10 - v6)))))) && (decide ((f_202 v0 v2 v4 v6 v8 v10) = 0)))) : Int32) = (b2i (decide ((f_202 v0 v2 v4 v6 v8 v10) = 0))) := by simp [b2i, hc1]
        rw [e] at j3
        exact j3
      refine go_lif mm_205 rfl rfl (p1 := 60) (p2 := 64) rfl (fun (hc2 : (f_202 v0 v2 v4 v6 v8 v10) = 0) => ?_) (fun (hc2 : ¬ (f_202 v0 v2 v4 v6 v8 v10) = 0) => ?_)
      · refine go_run mm_205 2 (pc' := 65) (ls' := [some (.long v0), none, some (.long v2), none, some (.long v4), none, some (.long v6), none, some (.long v8), none, some (.long v10), none, some (.int (b2i (!(decide ((0 : Int64) < ((v8 - v0) * (v8 - v4)))) && (!(decide ((0 : Int64) < ((v10 - v2) * (v10 - v6))))))))]) (st' := [.int 1]) (S' := S) rfl ?_
        have e : ((b2i (decide ((f_202 v0 v2 v4 v6 v8 v10) = 0))) : Int32) = 1 := by simp [b2i, hc2]
        rw [e] at j2
        exact j2
      · refine go_run mm_205 1 (pc' := 65) (ls' := [some (.long v0), none, some (.long v2), none, some (.long v4), none, some (.long v6), none, some (.long v8), none, some (.long v10), none, some (.int (b2i (!(decide ((0 : Int64) < ((v8 - v0) * (v8 - v4)))) && (!(decide ((0 : Int64) < ((v10 - v2) * (v10 - v6))))))))]) (st' := [.int 0]) (S' := S) rfl ?_
        have e : ((b2i (decide ((f_202 v0 v2 v4 v6 v8 v10) = 0))) : Int32) = 0 := by simp [b2i, hc2]
        rw [e] at j2
        exact j2
    · refine go_run mm_205 1 (pc' := 65) (ls' := [some (.long v0), none, some (.long v2), none, some (.long v4), none, some (.long v6), none, some (.long v8), none, some (.long v10), none, some (.int (b2i (!(decide ((0 : Int64) < ((v8 - v0) * (v8 - v4)))) && (!(decide ((0 : Int64) < ((v10 - v2) * (v10 - v6))))))))]) (st' := [.int 0]) (S' := S) rfl ?_
      have e : ((b2i ((!(decide ((0 : Int64) < ((v8 - v0) * (v8 - v4)))) && (!(decide ((0 : Int64) < ((v10 - v2) * (v10 - v6)))))) && (decide ((f_202 v0 v2 v4 v6 v8 v10) = 0)))) : Int32) = 0 := by simp [b2i, hc1]
      rw [e] at j3
      exact j3
  refine go_lif mm_205 rfl rfl (p1 := 34) (p2 := 15) rfl (fun (hc1 : (0 : Int64) < ((v8 - v0) * (v8 - v4))) => ?_) (fun (hc1 : ¬ (0 : Int64) < ((v8 - v0) * (v8 - v4))) => ?_)
  · refine go_run mm_205 1 (pc' := 35) (ls' := [some (.long v0), none, some (.long v2), none, some (.long v4), none, some (.long v6), none, some (.long v8), none, some (.long v10), none, none]) (st' := [.int 0]) (S' := S) rfl ?_
    have e : ((b2i (!(decide ((0 : Int64) < ((v8 - v0) * (v8 - v4)))) && (!(decide ((0 : Int64) < ((v10 - v2) * (v10 - v6))))))) : Int32) = 0 := by simp [b2i, hc1]
    rw [e] at j4
    exact j4
  · refine go_run mm_205 8 (pc' := 26) (ls' := [some (.long v0), none, some (.long v2), none, some (.long v4), none, some (.long v6), none, some (.long v8), none, some (.long v10), none, none]) (st' := [.long 0, .long ((v10 - v2) * (v10 - v6))]) (S' := S) rfl ?_
    have j1 : Go XM (d + 1) 205 c 35 [some (.long v0), none, some (.long v2), none, some (.long v4), none, some (.long v6), none, some (.long v8), none, some (.long v10), none, none] [.int (b2i (!(decide ((0 : Int64) < ((v10 - v2) * (v10 - v6))))))] S R := by
      have e : ((b2i (!(decide ((0 : Int64) < ((v8 - v0) * (v8 - v4)))) && (!(decide ((0 : Int64) < ((v10 - v2) * (v10 - v6))))))) : Int32) = (b2i (!(decide ((0 : Int64) < ((v10 - v2) * (v10 - v6)))))) := by simp [b2i, hc1]
      rw [e] at j4
      exact j4
    refine go_lif mm_205 rfl rfl (p1 := 34) (p2 := 30) rfl (fun (hc2 : (0 : Int64) < ((v10 - v2) * (v10 - v6))) => ?_) (fun (hc2 : ¬ (0 : Int64) < ((v10 - v2) * (v10 - v6))) => ?_)
    · refine go_run mm_205 1 (pc' := 35) (ls' := [some (.long v0), none, some (.long v2), none, some (.long v4), none, some (.long v6), none, some (.long v8), none, some (.long v10), none, none]) (st' := [.int 0]) (S' := S) rfl ?_
      have e : ((b2i (!(decide ((0 : Int64) < ((v10 - v2) * (v10 - v6)))))) : Int32) = 0 := by simp [b2i, hc2]
      rw [e] at j1
      exact j1
    · refine go_run mm_205 2 (pc' := 35) (ls' := [some (.long v0), none, some (.long v2), none, some (.long v4), none, some (.long v6), none, some (.long v8), none, some (.long v10), none, none]) (st' := [.int 1]) (S' := S) rfl ?_
      have e : ((b2i (!(decide ((0 : Int64) < ((v10 - v2) * (v10 - v6)))))) : Int32) = 1 := by simp [b2i, hc2]
      rw [e] at j1
      exact j1
theorem sp_205 {d : Nat} {S : ST} {v0 : Int64} {v2 : Int64} {v4 : Int64} {v6 : Int64} {v8 : Int64} {v10 : Int64} : Cal XM (d + 1) 205 [.long v0, .long v2, .long v4, .long v6, .long v8, .long v10] S (RV (some (.int (b2i (f_205 v0 v2 v4 v6 v8 v10)))) S) := by
  refine cal_go 1 rfl (b_205_0 ?_)
  · exact ⟨rfl, rfl, rfl⟩
theorem mm_216 : mtG 216 = some (mi_216, 12, ft_216) := rfl
def f_216 (S : ST) : Int64 := (if (S.1 140 20) = 64 then (-1) else (1 <<< (Int32.toInt64 (S.1 140 20) &&& 63)) - 1)
theorem b_216_0 {d c : Nat} {R : RT} {S : ST} (e1 : R c (.inr (some (.long (if (S.1 140 20) = 64 then (-1) else (1 <<< (Int32.toInt64 (S.1 140 20) &&& 63)) - 1)))) S) : Go XM d 216 c 0 [some (.ref 140)] [] S R := by
  refine go_run mm_216 3 (pc' := 6) (ls' := [some (.ref 140)]) (st' := [.int 64, .int (S.1 140 20)]) (S' := S) rfl ?_
  have j1 : Go XM d 216 c 23 [some (.ref 140)] [.long (if (S.1 140 20) = 64 then (-1) else (1 <<< (Int32.toInt64 (S.1 140 20) &&& 63)) - 1)] S R := by
    exact go_lreturn mm_216 rfl rfl (e1)
  refine go_if2 mm_216 rfl (p1 := 9) (p2 := 15) rfl (fun (hc1 : (S.1 140 20) = 64) => ?_) (fun (hc1 : ¬ (S.1 140 20) = 64) => ?_)
  · refine go_run mm_216 2 (pc' := 23) (ls' := [some (.ref 140)]) (st' := [.long (-1)]) (S' := S) rfl ?_
    have e : ((if (S.1 140 20) = 64 then (-1) else (1 <<< (Int32.toInt64 (S.1 140 20) &&& 63)) - 1) : Int64) = (-1) := by simp [hc1]
    rw [e] at j1
    exact j1
  · refine go_run mm_216 6 (pc' := 23) (ls' := [some (.ref 140)]) (st' := [.long ((1 <<< (Int32.toInt64 (S.1 140 20) &&& 63)) - 1)]) (S' := S) rfl ?_
    have e : ((if (S.1 140 20) = 64 then (-1) else (1 <<< (Int32.toInt64 (S.1 140 20) &&& 63)) - 1) : Int64) = (1 <<< (Int32.toInt64 (S.1 140 20) &&& 63)) - 1 := by simp [hc1]
    rw [e] at j1
    exact j1
theorem sp_216 {d : Nat} {S : ST} : Cal XM d 216 [.ref 140] S (RV (some (.long (f_216 S))) S) := by
  refine cal_go 0 rfl (b_216_0 ?_)
  · exact ⟨rfl, rfl, rfl⟩
theorem mm_217 : mtG 217 = some (mi_217, 12, ft_217) := rfl
def f_217 (v0 : Int64) (v2 : Int32) : Bool := (decide (((v0 >>> (Int32.toInt64 v2 &&& 63)) &&& 1) = 1))
theorem b_217_0 {d c : Nat} {R : RT} {S : ST} {v0 : Int64} {v2 : Int32} (e1 : R c (.inr (some (.int (b2i (decide (((v0 >>> (Int32.toInt64 v2 &&& 63)) &&& 1) = 1)))))) S) : Go XM d 217 c 0 [some (.long v0), none, some (.int v2)] [] S R := by
  refine go_run mm_217 6 (pc' := 6) (ls' := [some (.long v0), none, some (.int v2)]) (st' := [.long 1, .long ((v0 >>> (Int32.toInt64 v2 &&& 63)) &&& 1)]) (S' := S) rfl ?_
  have j1 : Go XM d 217 c 15 [some (.long v0), none, some (.int v2)] [.int (b2i (decide (((v0 >>> (Int32.toInt64 v2 &&& 63)) &&& 1) = 1)))] S R := by
    exact go_zreturn mm_217 rfl rfl (b2i_01 _) (e1)
  refine go_lif mm_217 rfl rfl (p1 := 10) (p2 := 14) rfl (fun (hc1 : ((v0 >>> (Int32.toInt64 v2 &&& 63)) &&& 1) = 1) => ?_) (fun (hc1 : ¬ ((v0 >>> (Int32.toInt64 v2 &&& 63)) &&& 1) = 1) => ?_)
  · refine go_run mm_217 2 (pc' := 15) (ls' := [some (.long v0), none, some (.int v2)]) (st' := [.int 1]) (S' := S) rfl ?_
    have e : ((b2i (decide (((v0 >>> (Int32.toInt64 v2 &&& 63)) &&& 1) = 1))) : Int32) = 1 := by simp [b2i, hc1]
    rw [e] at j1
    exact j1
  · refine go_run mm_217 1 (pc' := 15) (ls' := [some (.long v0), none, some (.int v2)]) (st' := [.int 0]) (S' := S) rfl ?_
    have e : ((b2i (decide (((v0 >>> (Int32.toInt64 v2 &&& 63)) &&& 1) = 1))) : Int32) = 0 := by simp [b2i, hc1]
    rw [e] at j1
    exact j1
theorem sp_217 {d : Nat} {S : ST} {v0 : Int64} {v2 : Int32} : Cal XM d 217 [.long v0, .int v2] S (RV (some (.int (b2i (f_217 v0 v2)))) S) := by
  refine cal_go 0 rfl (b_217_0 ?_)
  · exact ⟨rfl, rfl, rfl⟩
theorem mm_219 : mtG 219 = some (mi_219, 12, ft_219) := rfl
def f_219 (S : ST) (v1 : Int32) : Int32 := (if (S.1 140 1) = 0 then 0 else v1)
def g_219 (S : ST) (v1 : Int32) : ST := (wI S 140 0 0)
theorem b_219_0 {d c : Nat} {R : RT} {S : ST} {v1 : Int32} (e1 : R c (.inr (some (.int (if (S.1 140 1) = 0 then 0 else v1)))) (wI S 140 0 0)) : Go XM d 219 c 0 [some (.ref 140), some (.int v1)] [] S R := by
  refine go_run mm_219 5 (pc' := 9) (ls' := [some (.ref 140), some (.int v1)]) (st' := [.int (S.1 140 1)]) (S' := (wI S 140 0 0)) rfl ?_
  have j1 : Go XM d 219 c 17 [some (.ref 140), some (.int v1)] [.int (if (S.1 140 1) = 0 then 0 else v1)] (wI S 140 0 0) R := by
    exact go_ireturn mm_219 rfl rfl (e1)
  refine go_if0 mm_219 rfl (p1 := 16) (p2 := 12) rfl (fun (hc1 : (S.1 140 1) = 0) => ?_) (fun (hc1 : ¬ (S.1 140 1) = 0) => ?_)
  · refine go_run mm_219 1 (pc' := 17) (ls' := [some (.ref 140), some (.int v1)]) (st' := [.int 0]) (S' := (wI S 140 0 0)) rfl ?_
    have e : ((if (S.1 140 1) = 0 then 0 else v1) : Int32) = 0 := by simp [b2i, hc1]
    rw [e] at j1
    exact j1
  · refine go_run mm_219 2 (pc' := 17) (ls' := [some (.ref 140), some (.int v1)]) (st' := [.int v1]) (S' := (wI S 140 0 0)) rfl ?_
    have e : ((if (S.1 140 1) = 0 then 0 else v1) : Int32) = v1 := by simp [b2i, hc1]
    rw [e] at j1
    exact j1
theorem sp_219 {d : Nat} {S : ST} {v1 : Int32} : Cal XM d 219 [.ref 140, .int v1] S (RV (some (.int (f_219 S v1))) (g_219 S v1)) := by
  refine cal_go 0 rfl (b_219_0 ?_)
  · exact ⟨rfl, rfl, rfl⟩
theorem mm_220 : mtG 220 = some (mi_220, 12, ft_220) := rfl
def f_220 (S : ST) : Int32 := f_219 S (S.1 141 0)
def g_220 (S : ST) : ST := (wI S 140 0 0)
theorem b_220_0 {d c : Nat} {R : RT} {S : ST} (e1 : R c (.inr (some (.int (f_219 S (S.1 141 0))))) (wI S 140 0 0)) : Go XM (d + 1) 220 c 0 [some (.ref 140)] [] S R := by
  refine go_run mm_220 4 (pc' := 6) (ls' := [some (.ref 140)]) (st' := [.int 0, .ref 141, .ref 140]) (S' := S) rfl ?_
  refine go_iaload mm_220 (q := 0) rfl rfl rfl (inB_lit rfl) ?_
  refine go_cv mm_220 (h := 140) (As := [.int (S.1 141 0)]) (rest := []) (nl := 2) rfl XM_140 (show cvOK 220 7 244 219 1 2 11 = true by decide +kernel) rfl rfl rfl (sp_219) (KP_V ?_)
  exact go_ireturn mm_220 rfl rfl (e1)
theorem sp_220 {d : Nat} {S : ST} : Cal XM (d + 1) 220 [.ref 140] S (RV (some (.int (f_220 S))) (g_220 S)) := by
  refine cal_go 0 rfl (b_220_0 ?_)
  · exact ⟨rfl, rfl, rfl⟩
theorem mm_221 : mtG 221 = some (mi_221, 12, ft_221) := rfl
def f_221 (S : ST) : Int32 := f_219 S (S.1 140 20)
def g_221 (S : ST) : ST := (wI S 140 0 0)
theorem b_221_0 {d c : Nat} {R : RT} {S : ST} (e1 : R c (.inr (some (.int (f_219 S (S.1 140 20))))) (wI S 140 0 0)) : Go XM (d + 1) 221 c 0 [some (.ref 140)] [] S R := by
  refine go_run mm_221 3 (pc' := 5) (ls' := [some (.ref 140)]) (st' := [.int (S.1 140 20), .ref 140]) (S' := S) rfl ?_
  refine go_cv mm_221 (h := 140) (As := [.int (S.1 140 20)]) (rest := []) (nl := 2) rfl XM_140 (show cvOK 221 5 244 219 1 2 11 = true by decide +kernel) rfl rfl rfl (sp_219) (KP_V ?_)
  exact go_ireturn mm_221 rfl rfl (e1)
theorem sp_221 {d : Nat} {S : ST} : Cal XM (d + 1) 221 [.ref 140] S (RV (some (.int (f_221 S))) (g_221 S)) := by
  refine cal_go 0 rfl (b_221_0 ?_)
  · exact ⟨rfl, rfl, rfl⟩
theorem mm_222 : mtG 222 = some (mi_222, 12, ft_222) := rfl
def f_222 (S : ST) : Int32 := f_219 S (S.1 141 1)
def g_222 (S : ST) : ST := (wI S 140 0 0)
theorem b_222_0 {d c : Nat} {R : RT} {S : ST} (e1 : R c (.inr (some (.int (f_219 S (S.1 141 1))))) (wI S 140 0 0)) : Go XM (d + 1) 222 c 0 [some (.ref 140)] [] S R := by
  refine go_run mm_222 4 (pc' := 6) (ls' := [some (.ref 140)]) (st' := [.int 1, .ref 141, .ref 140]) (S' := S) rfl ?_
  refine go_iaload mm_222 (q := 1) rfl rfl rfl (inB_lit rfl) ?_
  refine go_cv mm_222 (h := 140) (As := [.int (S.1 141 1)]) (rest := []) (nl := 2) rfl XM_140 (show cvOK 222 7 244 219 1 2 11 = true by decide +kernel) rfl rfl rfl (sp_219) (KP_V ?_)
  exact go_ireturn mm_222 rfl rfl (e1)
theorem sp_222 {d : Nat} {S : ST} : Cal XM (d + 1) 222 [.ref 140] S (RV (some (.int (f_222 S))) (g_222 S)) := by
  refine cal_go 0 rfl (b_222_0 ?_)
  · exact ⟨rfl, rfl, rfl⟩
theorem mm_223 : mtG 223 = some (mi_223, 12, ft_223) := rfl
def f_223 (S : ST) : Int32 := f_219 S (S.1 141 2)
def g_223 (S : ST) : ST := (wI S 140 0 0)
theorem b_223_0 {d c : Nat} {R : RT} {S : ST} (e1 : R c (.inr (some (.int (f_219 S (S.1 141 2))))) (wI S 140 0 0)) : Go XM (d + 1) 223 c 0 [some (.ref 140)] [] S R := by
  refine go_run mm_223 4 (pc' := 6) (ls' := [some (.ref 140)]) (st' := [.int 2, .ref 141, .ref 140]) (S' := S) rfl ?_
  refine go_iaload mm_223 (q := 2) rfl rfl rfl (inB_lit rfl) ?_
  refine go_cv mm_223 (h := 140) (As := [.int (S.1 141 2)]) (rest := []) (nl := 2) rfl XM_140 (show cvOK 223 7 244 219 1 2 11 = true by decide +kernel) rfl rfl rfl (sp_219) (KP_V ?_)
  exact go_ireturn mm_223 rfl rfl (e1)
theorem sp_223 {d : Nat} {S : ST} : Cal XM (d + 1) 223 [.ref 140] S (RV (some (.int (f_223 S))) (g_223 S)) := by
  refine cal_go 0 rfl (b_223_0 ?_)
  · exact ⟨rfl, rfl, rfl⟩
theorem mm_224 : mtG 224 = some (mi_224, 12, ft_224) := rfl
def f_224 (S : ST) : Int32 := f_219 S (S.1 140 4)
def g_224 (S : ST) : ST := (wI S 140 0 0)
theorem b_224_0 {d c : Nat} {R : RT} {S : ST} (e1 : R c (.inr (some (.int (f_219 S (S.1 140 4))))) (wI S 140 0 0)) : Go XM (d + 1) 224 c 0 [some (.ref 140)] [] S R := by
  refine go_run mm_224 3 (pc' := 5) (ls' := [some (.ref 140)]) (st' := [.int (S.1 140 4), .ref 140]) (S' := S) rfl ?_
  refine go_cv mm_224 (h := 140) (As := [.int (S.1 140 4)]) (rest := []) (nl := 2) rfl XM_140 (show cvOK 224 5 244 219 1 2 11 = true by decide +kernel) rfl rfl rfl (sp_219) (KP_V ?_)
  exact go_ireturn mm_224 rfl rfl (e1)
theorem sp_224 {d : Nat} {S : ST} : Cal XM (d + 1) 224 [.ref 140] S (RV (some (.int (f_224 S))) (g_224 S)) := by
  refine cal_go 0 rfl (b_224_0 ?_)
  · exact ⟨rfl, rfl, rfl⟩
theorem mm_225 : mtG 225 = some (mi_225, 12, ft_225) := rfl
def f_225 (S : ST) (v1 : Int32) : Bool := ((f_184 S) || (f_183 (g_184 S) (!(f_182 v1 0 (((g_184 S).1 141 0) - 1))) 2))
def g_225 (S : ST) (v1 : Int32) : ST := (if (f_184 S) = true then (g_184 S) else (g_183 (g_184 S) (!(f_182 v1 0 (((g_184 S).1 141 0) - 1))) 2))
theorem b_225_0 {d c : Nat} {R : RT} {S : ST} {v1 : Int32} (e1 : (f_184 S) = true → R c (.inr (some (.int 1))) (g_184 S)) (e2 : (f_184 S) = false → R c (.inr (some (.int (b2i (f_183 (g_184 S) (!(f_182 v1 0 (((g_184 S).1 141 0) - 1))) 2))))) (g_183 (g_184 S) (!(f_182 v1 0 (((g_184 S).1 141 0) - 1))) 2)) : Go XM (d + 2) 225 c 0 [some (.ref 140), some (.int v1)] [] S R := by
  refine go_run mm_225 1 (pc' := 1) (ls' := [some (.ref 140), some (.int v1)]) (st' := [.ref 140]) (S' := S) rfl ?_
  refine go_cv mm_225 (h := 140) (As := []) (rest := []) (nl := 1) rfl XM_140 (show cvOK 225 1 247 184 0 1 11 = true by decide +kernel) rfl rfl rfl (sp_184) (KP_V ?_)
  refine go_ifb mm_225 rfl (p1 := 36) (p2 := 7) rfl (fun (hc1 : (f_184 S) = true) => ?_) (fun (hc1 : (f_184 S) = false) => ?_)
  · refine go_run mm_225 2 (pc' := 41) (ls' := [some (.ref 140), some (.int v1)]) (st' := [.int 1]) (S' := (g_184 S)) rfl ?_
    exact go_zreturn mm_225 rfl rfl (Or.inr rfl) (e1 hc1)
  · refine go_run mm_225 6 (pc' := 15) (ls' := [some (.ref 140), some (.int v1)]) (st' := [.int 0, .ref 141, .int 0, .int v1, .ref 140]) (S' := (g_184 S)) rfl ?_
    refine go_iaload mm_225 (q := 0) rfl rfl rfl (inB_lit rfl) ?_
    refine go_run mm_225 2 (pc' := 18) (ls' := [some (.ref 140), some (.int v1)]) (st' := [.int (((g_184 S).1 141 0) - 1), .int 0, .int v1, .ref 140]) (S' := (g_184 S)) rfl ?_
    refine go_cs mm_225 (av := [.int v1, .int 0, .int (((g_184 S).1 141 0) - 1)]) (rest := [.ref 140]) (nl := 3) rfl (show csOK 225 18 148 182 3 3 = true by decide +kernel) rfl rfl rfl (sp_182) (KP_V ?_)
    have j4 : Go XM (d + 2) 225 c 29 [some (.ref 140), some (.int v1)] [.int (b2i (!(f_182 v1 0 (((g_184 S).1 141 0) - 1)))), .ref 140] (g_184 S) R := by
      refine go_run mm_225 1 (pc' := 30) (ls' := [some (.ref 140), some (.int v1)]) (st' := [.int 2, .int (b2i (!(f_182 v1 0 (((g_184 S).1 141 0) - 1)))), .ref 140]) (S' := (g_184 S)) rfl ?_
      refine go_cv mm_225 (h := 140) (As := [.int (b2i (!(f_182 v1 0 (((g_184 S).1 141 0) - 1)))), .int 2]) (rest := []) (nl := 3) rfl XM_140 (show cvOK 225 30 86 183 2 3 11 = true by decide +kernel) rfl rfl rfl (sp_183) (KP_V ?_)
      have j3 : Go XM (d + 2) 225 c 41 [some (.ref 140), some (.int v1)] [.int (b2i (f_183 (g_184 S) (!(f_182 v1 0 (((g_184 S).1 141 0) - 1))) 2))] (g_183 (g_184 S) (!(f_182 v1 0 (((g_184 S).1 141 0) - 1))) 2) R := by
        exact go_zreturn mm_225 rfl rfl (b2i_01 _) (e2 hc1)
      refine go_ifb mm_225 rfl (p1 := 36) (p2 := 40) rfl (fun (hc2 : (f_183 (g_184 S) (!(f_182 v1 0 (((g_184 S).1 141 0) - 1))) 2) = true) => ?_) (fun (hc2 : (f_183 (g_184 S) (!(f_182 v1 0 (((g_184 S).1 141 0) - 1))) 2) = false) => ?_)
      · refine go_run mm_225 2 (pc' := 41) (ls' := [some (.ref 140), some (.int v1)]) (st' := [.int 1]) (S' := (g_183 (g_184 S) (!(f_182 v1 0 (((g_184 S).1 141 0) - 1))) 2)) rfl ?_
        have e : ((b2i (f_183 (g_184 S) (!(f_182 v1 0 (((g_184 S).1 141 0) - 1))) 2)) : Int32) = 1 := by simp [b2i, hc2]
        rw [e] at j3
        exact j3
      · refine go_run mm_225 1 (pc' := 41) (ls' := [some (.ref 140), some (.int v1)]) (st' := [.int 0]) (S' := (g_183 (g_184 S) (!(f_182 v1 0 (((g_184 S).1 141 0) - 1))) 2)) rfl ?_
        have e : ((b2i (f_183 (g_184 S) (!(f_182 v1 0 (((g_184 S).1 141 0) - 1))) 2)) : Int32) = 0 := by simp [b2i, hc2]
        rw [e] at j3
        exact j3
    refine go_ifb mm_225 rfl (p1 := 28) (p2 := 24) rfl (fun (hc2 : (f_182 v1 0 (((g_184 S).1 141 0) - 1)) = true) => ?_) (fun (hc2 : (f_182 v1 0 (((g_184 S).1 141 0) - 1)) = false) => ?_)
    · refine go_run mm_225 1 (pc' := 29) (ls' := [some (.ref 140), some (.int v1)]) (st' := [.int 0, .ref 140]) (S' := (g_184 S)) rfl ?_
      have e : ((b2i (!(f_182 v1 0 (((g_184 S).1 141 0) - 1)))) : Int32) = 0 := by simp [b2i, hc2]
      rw [e] at j4
      exact j4
    · refine go_run mm_225 2 (pc' := 29) (ls' := [some (.ref 140), some (.int v1)]) (st' := [.int 1, .ref 140]) (S' := (g_184 S)) rfl ?_
      have e : ((b2i (!(f_182 v1 0 (((g_184 S).1 141 0) - 1)))) : Int32) = 1 := by simp [b2i, hc2]
      rw [e] at j4
      exact j4
theorem sp_225 {d : Nat} {S : ST} {v1 : Int32} : Cal XM (d + 2) 225 [.ref 140, .int v1] S (RV (some (.int (b2i (f_225 S v1)))) (g_225 S v1)) := by
  refine cal_go 0 rfl (b_225_0 ?_ ?_)
  · intro hc1
    refine ⟨rfl, ?_, ?_⟩ <;> simp [f_225, g_225, b2i, hc1]
  · intro hc1
    refine ⟨rfl, ?_, ?_⟩ <;> simp [f_225, g_225, b2i, hc1]
theorem mm_226 : mtG 226 = some (mi_226, 12, ft_226) := rfl
def f_226 (S : ST) (v1 : Int32) : Bool := ((f_184 S) || (f_183 (g_184 S) (!(f_182 v1 0 (((g_184 S).1 140 20) - 1))) 2))
def g_226 (S : ST) (v1 : Int32) : ST := (if (f_184 S) = true then (g_184 S) else (g_183 (g_184 S) (!(f_182 v1 0 (((g_184 S).1 140 20) - 1))) 2))
theorem b_226_0 {d c : Nat} {R : RT} {S : ST} {v1 : Int32} (e1 : (f_184 S) = true → R c (.inr (some (.int 1))) (g_184 S)) (e2 : (f_184 S) = false → R c (.inr (some (.int (b2i (f_183 (g_184 S) (!(f_182 v1 0 (((g_184 S).1 140 20) - 1))) 2))))) (g_183 (g_184 S) (!(f_182 v1 0 (((g_184 S).1 140 20) - 1))) 2)) : Go XM (d + 2) 226 c 0 [some (.ref 140), some (.int v1)] [] S R := by
  refine go_run mm_226 1 (pc' := 1) (ls' := [some (.ref 140), some (.int v1)]) (st' := [.ref 140]) (S' := S) rfl ?_
  refine go_cv mm_226 (h := 140) (As := []) (rest := []) (nl := 1) rfl XM_140 (show cvOK 226 1 247 184 0 1 11 = true by decide +kernel) rfl rfl rfl (sp_184) (KP_V ?_)
  refine go_ifb mm_226 rfl (p1 := 34) (p2 := 7) rfl (fun (hc1 : (f_184 S) = true) => ?_) (fun (hc1 : (f_184 S) = false) => ?_)
  · refine go_run mm_226 2 (pc' := 39) (ls' := [some (.ref 140), some (.int v1)]) (st' := [.int 1]) (S' := (g_184 S)) rfl ?_
    exact go_zreturn mm_226 rfl rfl (Or.inr rfl) (e1 hc1)
  · refine go_run mm_226 7 (pc' := 16) (ls' := [some (.ref 140), some (.int v1)]) (st' := [.int (((g_184 S).1 140 20) - 1), .int 0, .int v1, .ref 140]) (S' := (g_184 S)) rfl ?_
    refine go_cs mm_226 (av := [.int v1, .int 0, .int (((g_184 S).1 140 20) - 1)]) (rest := [.ref 140]) (nl := 3) rfl (show csOK 226 16 148 182 3 3 = true by decide +kernel) rfl rfl rfl (sp_182) (KP_V ?_)
    have j4 : Go XM (d + 2) 226 c 27 [some (.ref 140), some (.int v1)] [.int (b2i (!(f_182 v1 0 (((g_184 S).1 140 20) - 1)))), .ref 140] (g_184 S) R := by
      refine go_run mm_226 1 (pc' := 28) (ls' := [some (.ref 140), some (.int v1)]) (st' := [.int 2, .int (b2i (!(f_182 v1 0 (((g_184 S).1 140 20) - 1)))), .ref 140]) (S' := (g_184 S)) rfl ?_
      refine go_cv mm_226 (h := 140) (As := [.int (b2i (!(f_182 v1 0 (((g_184 S).1 140 20) - 1)))), .int 2]) (rest := []) (nl := 3) rfl XM_140 (show cvOK 226 28 86 183 2 3 11 = true by decide +kernel) rfl rfl rfl (sp_183) (KP_V ?_)
      have j3 : Go XM (d + 2) 226 c 39 [some (.ref 140), some (.int v1)] [.int (b2i (f_183 (g_184 S) (!(f_182 v1 0 (((g_184 S).1 140 20) - 1))) 2))] (g_183 (g_184 S) (!(f_182 v1 0 (((g_184 S).1 140 20) - 1))) 2) R := by
        exact go_zreturn mm_226 rfl rfl (b2i_01 _) (e2 hc1)
      refine go_ifb mm_226 rfl (p1 := 34) (p2 := 38) rfl (fun (hc2 : (f_183 (g_184 S) (!(f_182 v1 0 (((g_184 S).1 140 20) - 1))) 2) = true) => ?_) (fun (hc2 : (f_183 (g_184 S) (!(f_182 v1 0 (((g_184 S).1 140 20) - 1))) 2) = false) => ?_)
      · refine go_run mm_226 2 (pc' := 39) (ls' := [some (.ref 140), some (.int v1)]) (st' := [.int 1]) (S' := (g_183 (g_184 S) (!(f_182 v1 0 (((g_184 S).1 140 20) - 1))) 2)) rfl ?_
        have e : ((b2i (f_183 (g_184 S) (!(f_182 v1 0 (((g_184 S).1 140 20) - 1))) 2)) : Int32) = 1 := by simp [b2i, hc2]
        rw [e] at j3
        exact j3
      · refine go_run mm_226 1 (pc' := 39) (ls' := [some (.ref 140), some (.int v1)]) (st' := [.int 0]) (S' := (g_183 (g_184 S) (!(f_182 v1 0 (((g_184 S).1 140 20) - 1))) 2)) rfl ?_
        have e : ((b2i (f_183 (g_184 S) (!(f_182 v1 0 (((g_184 S).1 140 20) - 1))) 2)) : Int32) = 0 := by simp [b2i, hc2]
        rw [e] at j3
        exact j3
    refine go_ifb mm_226 rfl (p1 := 26) (p2 := 22) rfl (fun (hc2 : (f_182 v1 0 (((g_184 S).1 140 20) - 1)) = true) => ?_) (fun (hc2 : (f_182 v1 0 (((g_184 S).1 140 20) - 1)) = false) => ?_)
    · refine go_run mm_226 1 (pc' := 27) (ls' := [some (.ref 140), some (.int v1)]) (st' := [.int 0, .ref 140]) (S' := (g_184 S)) rfl ?_
      have e : ((b2i (!(f_182 v1 0 (((g_184 S).1 140 20) - 1)))) : Int32) = 0 := by simp [b2i, hc2]
      rw [e] at j4
      exact j4
    · refine go_run mm_226 2 (pc' := 27) (ls' := [some (.ref 140), some (.int v1)]) (st' := [.int 1, .ref 140]) (S' := (g_184 S)) rfl ?_
      have e : ((b2i (!(f_182 v1 0 (((g_184 S).1 140 20) - 1)))) : Int32) = 1 := by simp [b2i, hc2]
      rw [e] at j4
      exact j4
theorem sp_226 {d : Nat} {S : ST} {v1 : Int32} : Cal XM (d + 2) 226 [.ref 140, .int v1] S (RV (some (.int (b2i (f_226 S v1)))) (g_226 S v1)) := by
  refine cal_go 0 rfl (b_226_0 ?_ ?_)
  · intro hc1
    refine ⟨rfl, ?_, ?_⟩ <;> simp [f_226, g_226, b2i, hc1]
  · intro hc1
    refine ⟨rfl, ?_, ?_⟩ <;> simp [f_226, g_226, b2i, hc1]
theorem mm_227 : mtG 227 = some (mi_227, 12, ft_227) := rfl
def f_227 (S : ST) (v1 : Int32) : Bool := ((f_184 S) || (f_183 (g_184 S) (!(f_182 v1 0 (((g_184 S).1 141 1) - 1))) 2))
def g_227 (S : ST) (v1 : Int32) : ST := (if (f_184 S) = true then (g_184 S) else (g_183 (g_184 S) (!(f_182 v1 0 (((g_184 S).1 141 1) - 1))) 2))
theorem b_227_0 {d c : Nat} {R : RT} {S : ST} {v1 : Int32} (e1 : (f_184 S) = true → R c (.inr (some (.int 1))) (g_184 S)) (e2 : (f_184 S) = false → R c (.inr (some (.int (b2i (f_183 (g_184 S) (!(f_182 v1 0 (((g_184 S).1 141 1) - 1))) 2))))) (g_183 (g_184 S) (!(f_182 v1 0 (((g_184 S).1 141 1) - 1))) 2)) : Go XM (d + 2) 227 c 0 [some (.ref 140), some (.int v1)] [] S R := by
  refine go_run mm_227 1 (pc' := 1) (ls' := [some (.ref 140), some (.int v1)]) (st' := [.ref 140]) (S' := S) rfl ?_
  refine go_cv mm_227 (h := 140) (As := []) (rest := []) (nl := 1) rfl XM_140 (show cvOK 227 1 247 184 0 1 11 = true by decide +kernel) rfl rfl rfl (sp_184) (KP_V ?_)
  refine go_ifb mm_227 rfl (p1 := 36) (p2 := 7) rfl (fun (hc1 : (f_184 S) = true) => ?_) (fun (hc1 : (f_184 S) = false) => ?_)
  · refine go_run mm_227 2 (pc' := 41) (ls' := [some (.ref 140), some (.int v1)]) (st' := [.int 1]) (S' := (g_184 S)) rfl ?_
    exact go_zreturn mm_227 rfl rfl (Or.inr rfl) (e1 hc1)
  · refine go_run mm_227 6 (pc' := 15) (ls' := [some (.ref 140), some (.int v1)]) (st' := [.int 1, .ref 141, .int 0, .int v1, .ref 140]) (S' := (g_184 S)) rfl ?_
    refine go_iaload mm_227 (q := 1) rfl rfl rfl (inB_lit rfl) ?_
    refine go_run mm_227 2 (pc' := 18) (ls' := [some (.ref 140), some (.int v1)]) (st' := [.int (((g_184 S).1 141 1) - 1), .int 0, .int v1, .ref 140]) (S' := (g_184 S)) rfl ?_
    refine go_cs mm_227 (av := [.int v1, .int 0, .int (((g_184 S).1 141 1) - 1)]) (rest := [.ref 140]) (nl := 3) rfl (show csOK 227 18 148 182 3 3 = true by decide +kernel) rfl rfl rfl (sp_182) (KP_V ?_)
    have j4 : Go XM (d + 2) 227 c 29 [some (.ref 140), some (.int v1)] [.int (b2i (!(f_182 v1 0 (((g_184 S).1 141 1) - 1)))), .ref 140] (g_184 S) R := by
      refine go_run mm_227 1 (pc' := 30) (ls' := [some (.ref 140), some (.int v1)]) (st' := [.int 2, .int (b2i (!(f_182 v1 0 (((g_184 S).1 141 1) - 1)))), .ref 140]) (S' := (g_184 S)) rfl ?_
      refine go_cv mm_227 (h := 140) (As := [.int (b2i (!(f_182 v1 0 (((g_184 S).1 141 1) - 1)))), .int 2]) (rest := []) (nl := 3) rfl XM_140 (show cvOK 227 30 86 183 2 3 11 = true by decide +kernel) rfl rfl rfl (sp_183) (KP_V ?_)
      have j3 : Go XM (d + 2) 227 c 41 [some (.ref 140), some (.int v1)] [.int (b2i (f_183 (g_184 S) (!(f_182 v1 0 (((g_184 S).1 141 1) - 1))) 2))] (g_183 (g_184 S) (!(f_182 v1 0 (((g_184 S).1 141 1) - 1))) 2) R := by
        exact go_zreturn mm_227 rfl rfl (b2i_01 _) (e2 hc1)
      refine go_ifb mm_227 rfl (p1 := 36) (p2 := 40) rfl (fun (hc2 : (f_183 (g_184 S) (!(f_182 v1 0 (((g_184 S).1 141 1) - 1))) 2) = true) => ?_) (fun (hc2 : (f_183 (g_184 S) (!(f_182 v1 0 (((g_184 S).1 141 1) - 1))) 2) = false) => ?_)
      · refine go_run mm_227 2 (pc' := 41) (ls' := [some (.ref 140), some (.int v1)]) (st' := [.int 1]) (S' := (g_183 (g_184 S) (!(f_182 v1 0 (((g_184 S).1 141 1) - 1))) 2)) rfl ?_
        have e : ((b2i (f_183 (g_184 S) (!(f_182 v1 0 (((g_184 S).1 141 1) - 1))) 2)) : Int32) = 1 := by simp [b2i, hc2]
        rw [e] at j3
        exact j3
      · refine go_run mm_227 1 (pc' := 41) (ls' := [some (.ref 140), some (.int v1)]) (st' := [.int 0]) (S' := (g_183 (g_184 S) (!(f_182 v1 0 (((g_184 S).1 141 1) - 1))) 2)) rfl ?_
        have e : ((b2i (f_183 (g_184 S) (!(f_182 v1 0 (((g_184 S).1 141 1) - 1))) 2)) : Int32) = 0 := by simp [b2i, hc2]
        rw [e] at j3
        exact j3
    refine go_ifb mm_227 rfl (p1 := 28) (p2 := 24) rfl (fun (hc2 : (f_182 v1 0 (((g_184 S).1 141 1) - 1)) = true) => ?_) (fun (hc2 : (f_182 v1 0 (((g_184 S).1 141 1) - 1)) = false) => ?_)
    · refine go_run mm_227 1 (pc' := 29) (ls' := [some (.ref 140), some (.int v1)]) (st' := [.int 0, .ref 140]) (S' := (g_184 S)) rfl ?_
      have e : ((b2i (!(f_182 v1 0 (((g_184 S).1 141 1) - 1)))) : Int32) = 0 := by simp [b2i, hc2]
      rw [e] at j4
      exact j4
    · refine go_run mm_227 2 (pc' := 29) (ls' := [some (.ref 140), some (.int v1)]) (st' := [.int 1, .ref 140]) (S' := (g_184 S)) rfl ?_
      have e : ((b2i (!(f_182 v1 0 (((g_184 S).1 141 1) - 1)))) : Int32) = 1 := by simp [b2i, hc2]
      rw [e] at j4
      exact j4
theorem sp_227 {d : Nat} {S : ST} {v1 : Int32} : Cal XM (d + 2) 227 [.ref 140, .int v1] S (RV (some (.int (b2i (f_227 S v1)))) (g_227 S v1)) := by
  refine cal_go 0 rfl (b_227_0 ?_ ?_)
  · intro hc1
    refine ⟨rfl, ?_, ?_⟩ <;> simp [f_227, g_227, b2i, hc1]
  · intro hc1
    refine ⟨rfl, ?_, ?_⟩ <;> simp [f_227, g_227, b2i, hc1]
theorem mm_252 : mtG 252 = some (mi_252, 12, ft_252) := rfl
def f_252 (S : ST) (v1 : Int32) : Bool := ((f_184 S) || (f_183 (g_184 S) (!(f_182 v1 0 (((g_184 S).1 141 0) - 3))) 2))
def g_252 (S : ST) (v1 : Int32) : ST := (if (f_184 S) = true then (g_184 S) else (g_183 (g_184 S) (!(f_182 v1 0 (((g_184 S).1 141 0) - 3))) 2))
theorem b_252_0 {d c : Nat} {R : RT} {S : ST} {v1 : Int32} (e1 : (f_184 S) = true → R c (.inr (some (.int 1))) (g_184 S)) (e2 : (f_184 S) = false → R c (.inr (some (.int (b2i (f_183 (g_184 S) (!(f_182 v1 0 (((g_184 S).1 141 0) - 3))) 2))))) (g_183 (g_184 S) (!(f_182 v1 0 (((g_184 S).1 141 0) - 3))) 2)) : Go XM (d + 2) 252 c 0 [some (.ref 140), some (.int v1)] [] S R := by
  refine go_run mm_252 1 (pc' := 1) (ls' := [some (.ref 140), some (.int v1)]) (st' := [.ref 140]) (S' := S) rfl ?_
  refine go_cv mm_252 (h := 140) (As := []) (rest := []) (nl := 1) rfl XM_140 (show cvOK 252 1 247 184 0 1 11 = true by decide +kernel) rfl rfl rfl (sp_184) (KP_V ?_)
  refine go_ifb mm_252 rfl (p1 := 36) (p2 := 7) rfl (fun (hc1 : (f_184 S) = true) => ?_) (fun (hc1 : (f_184 S) = false) => ?_)
  · refine go_run mm_252 2 (pc' := 41) (ls' := [some (.ref 140), some (.int v1)]) (st' := [.int 1]) (S' := (g_184 S)) rfl ?_
    exact go_zreturn mm_252 rfl rfl (Or.inr rfl) (e1 hc1)
  · refine go_run mm_252 6 (pc' := 15) (ls' := [some (.ref 140), some (.int v1)]) (st' := [.int 0, .ref 141, .int 0, .int v1, .ref 140]) (S' := (g_184 S)) rfl ?_
    refine go_iaload mm_252 (q := 0) rfl rfl rfl (inB_lit rfl) ?_
    refine go_run mm_252 2 (pc' := 18) (ls' := [some (.ref 140), some (.int v1)]) (st' := [.int (((g_184 S).1 141 0) - 3), .int 0, .int v1, .ref 140]) (S' := (g_184 S)) rfl ?_
    refine go_cs mm_252 (av := [.int v1, .int 0, .int (((g_184 S).1 141 0) - 3)]) (rest := [.ref 140]) (nl := 3) rfl (show csOK 252 18 148 182 3 3 = true by decide +kernel) rfl rfl rfl (sp_182) (KP_V ?_)
    have j4 : Go XM (d + 2) 252 c 29 [some (.ref 140), some (.int v1)] [.int (b2i (!(f_182 v1 0 (((g_184 S).1 141 0) - 3)))), .ref 140] (g_184 S) R := by
      refine go_run mm_252 1 (pc' := 30) (ls' := [some (.ref 140), some (.int v1)]) (st' := [.int 2, .int (b2i (!(f_182 v1 0 (((g_184 S).1 141 0) - 3)))), .ref 140]) (S' := (g_184 S)) rfl ?_
      refine go_cv mm_252 (h := 140) (As := [.int (b2i (!(f_182 v1 0 (((g_184 S).1 141 0) - 3)))), .int 2]) (rest := []) (nl := 3) rfl XM_140 (show cvOK 252 30 86 183 2 3 11 = true by decide +kernel) rfl rfl rfl (sp_183) (KP_V ?_)
      have j3 : Go XM (d + 2) 252 c 41 [some (.ref 140), some (.int v1)] [.int (b2i (f_183 (g_184 S) (!(f_182 v1 0 (((g_184 S).1 141 0) - 3))) 2))] (g_183 (g_184 S) (!(f_182 v1 0 (((g_184 S).1 141 0) - 3))) 2) R := by
        exact go_zreturn mm_252 rfl rfl (b2i_01 _) (e2 hc1)
      refine go_ifb mm_252 rfl (p1 := 36) (p2 := 40) rfl (fun (hc2 : (f_183 (g_184 S) (!(f_182 v1 0 (((g_184 S).1 141 0) - 3))) 2) = true) => ?_) (fun (hc2 : (f_183 (g_184 S) (!(f_182 v1 0 (((g_184 S).1 141 0) - 3))) 2) = false) => ?_)
      · refine go_run mm_252 2 (pc' := 41) (ls' := [some (.ref 140), some (.int v1)]) (st' := [.int 1]) (S' := (g_183 (g_184 S) (!(f_182 v1 0 (((g_184 S).1 141 0) - 3))) 2)) rfl ?_
        have e : ((b2i (f_183 (g_184 S) (!(f_182 v1 0 (((g_184 S).1 141 0) - 3))) 2)) : Int32) = 1 := by simp [b2i, hc2]
        rw [e] at j3
        exact j3
      · refine go_run mm_252 1 (pc' := 41) (ls' := [some (.ref 140), some (.int v1)]) (st' := [.int 0]) (S' := (g_183 (g_184 S) (!(f_182 v1 0 (((g_184 S).1 141 0) - 3))) 2)) rfl ?_
        have e : ((b2i (f_183 (g_184 S) (!(f_182 v1 0 (((g_184 S).1 141 0) - 3))) 2)) : Int32) = 0 := by simp [b2i, hc2]
        rw [e] at j3
        exact j3
    refine go_ifb mm_252 rfl (p1 := 28) (p2 := 24) rfl (fun (hc2 : (f_182 v1 0 (((g_184 S).1 141 0) - 3)) = true) => ?_) (fun (hc2 : (f_182 v1 0 (((g_184 S).1 141 0) - 3)) = false) => ?_)
    · refine go_run mm_252 1 (pc' := 29) (ls' := [some (.ref 140), some (.int v1)]) (st' := [.int 0, .ref 140]) (S' := (g_184 S)) rfl ?_
      have e : ((b2i (!(f_182 v1 0 (((g_184 S).1 141 0) - 3)))) : Int32) = 0 := by simp [b2i, hc2]
      rw [e] at j4
      exact j4
    · refine go_run mm_252 2 (pc' := 29) (ls' := [some (.ref 140), some (.int v1)]) (st' := [.int 1, .ref 140]) (S' := (g_184 S)) rfl ?_
      have e : ((b2i (!(f_182 v1 0 (((g_184 S).1 141 0) - 3)))) : Int32) = 1 := by simp [b2i, hc2]
      rw [e] at j4
      exact j4
theorem sp_252 {d : Nat} {S : ST} {v1 : Int32} : Cal XM (d + 2) 252 [.ref 140, .int v1] S (RV (some (.int (b2i (f_252 S v1)))) (g_252 S v1)) := by
  refine cal_go 0 rfl (b_252_0 ?_ ?_)
  · intro hc1
    refine ⟨rfl, ?_, ?_⟩ <;> simp [f_252, g_252, b2i, hc1]
  · intro hc1
    refine ⟨rfl, ?_, ?_⟩ <;> simp [f_252, g_252, b2i, hc1]
theorem mm_306 : mtG 306 = some (mi_306, 12, ft_306) := rfl
def f_306 (v1 : Int32) (v2 : Int32) : Bool := (!(f_182 v1 0 15) || (!(f_182 v2 0 15)))
theorem b_306_0 {d c : Nat} {R : RT} {S : ST} {v1 : Int32} {v2 : Int32} (e1 : R c (.inr (some (.int (b2i (!(f_182 v1 0 15) || (!(f_182 v2 0 15))))))) S) : Go XM (d + 1) 306 c 0 [some (.ref 140), some (.int v1), some (.int v2)] [] S R := by
  refine go_run mm_306 3 (pc' := 4) (ls' := [some (.ref 140), some (.int v1), some (.int v2)]) (st' := [.int 15, .int 0, .int v1]) (S' := S) rfl ?_
  refine go_cs mm_306 (av := [.int v1, .int 0, .int 15]) (rest := []) (nl := 3) rfl (show csOK 306 4 148 182 3 3 = true by decide +kernel) rfl rfl rfl (sp_182) (KP_V ?_)
  have j2 : Go XM (d + 1) 306 c 25 [some (.ref 140), some (.int v1), some (.int v2)] [.int (b2i (!(f_182 v1 0 15) || (!(f_182 v2 0 15))))] S R := by
    exact go_zreturn mm_306 rfl rfl (b2i_01 _) (e1)
  refine go_ifb mm_306 rfl (p1 := 10) (p2 := 20) rfl (fun (hc1 : (f_182 v1 0 15) = true) => ?_) (fun (hc1 : (f_182 v1 0 15) = false) => ?_)
  · refine go_run mm_306 3 (pc' := 14) (ls' := [some (.ref 140), some (.int v1), some (.int v2)]) (st' := [.int 15, .int 0, .int v2]) (S' := S) rfl ?_
    refine go_cs mm_306 (av := [.int v2, .int 0, .int 15]) (rest := []) (nl := 3) rfl (show csOK 306 14 148 182 3 3 = true by decide +kernel) rfl rfl rfl (sp_182) (KP_V ?_)
    have j1 : Go XM (d + 1) 306 c 25 [some (.ref 140), some (.int v1), some (.int v2)] [.int (b2i (!(f_182 v2 0 15)))] S R := by
      have e : ((b2i (!(f_182 v1 0 15) || (!(f_182 v2 0 15)))) : Int32) = (b2i (!(f_182 v2 0 15))) := by simp [b2i, hc1]
      rw [e] at j2
      exact j2
    refine go_ifb mm_306 rfl (p1 := 24) (p2 := 20) rfl (fun (hc2 : (f_182 v2 0 15) = true) => ?_) (fun (hc2 : (f_182 v2 0 15) = false) => ?_)
    · refine go_run mm_306 1 (pc' := 25) (ls' := [some (.ref 140), some (.int v1), some (.int v2)]) (st' := [.int 0]) (S' := S) rfl ?_
      have e : ((b2i (!(f_182 v2 0 15))) : Int32) = 0 := by simp [b2i, hc2]
      rw [e] at j1
      exact j1
    · refine go_run mm_306 2 (pc' := 25) (ls' := [some (.ref 140), some (.int v1), some (.int v2)]) (st' := [.int 1]) (S' := S) rfl ?_
      have e : ((b2i (!(f_182 v2 0 15))) : Int32) = 1 := by simp [b2i, hc2]
      rw [e] at j1
      exact j1
  · refine go_run mm_306 2 (pc' := 25) (ls' := [some (.ref 140), some (.int v1), some (.int v2)]) (st' := [.int 1]) (S' := S) rfl ?_
    have e : ((b2i (!(f_182 v1 0 15) || (!(f_182 v2 0 15)))) : Int32) = 1 := by simp [b2i, hc1]
    rw [e] at j2
    exact j2
theorem sp_306 {d : Nat} {S : ST} {v1 : Int32} {v2 : Int32} : Cal XM (d + 1) 306 [.ref 140, .int v1, .int v2] S (RV (some (.int (b2i (f_306 v1 v2)))) S) := by
  refine cal_go 0 rfl (b_306_0 ?_)
  · exact ⟨rfl, rfl, rfl⟩

def tz (b : Bool) (v : Int32) : Int32 := if b = true then v else 0
def rf (t : Int32) (b : Bool) (v : Int32) : Int32 := if t = 0 then (if b = true then v else t) else t
theorem wI_id (S : ST) (h k : Nat) : wI S h k (S.1 h k) = S := by
  refine Prod.ext ?_ rfl
  funext h' k'
  show (if h' = h ∧ k' = k then S.1 h k else S.1 h' k') = S.1 h' k'
  split
  · next q => rw [q.1, q.2]
  · rfl
theorem wI_wI (S : ST) (h k : Nat) (a b : Int32) : wI (wI S h k a) h k b = wI S h k b := by
  refine Prod.ext ?_ rfl
  funext h' k'
  show (if h' = h ∧ k' = k then b else if h' = h ∧ k' = k then a else S.1 h' k') = (if h' = h ∧ k' = k then b else S.1 h' k')
  split <;> rfl
theorem g183_eq (S : ST) (b : Bool) (v : Int32) : g_183 S b v = wI S 140 0 (rf (S.1 140 0) b v) ∧ f_183 S b v = !(decide (rf (S.1 140 0) b v = 0)) := by
  unfold g_183 f_183 rf
  by_cases h : S.1 140 0 = 0
  · cases b
    · simp only [h, if_true, if_false, Bool.false_eq_true]
      refine ⟨?_, trivial⟩
      have := wI_id S 140 0
      rw [h] at this
      exact this.symm
    · simp only [h, if_true, and_self]
  · simp only [h, if_false, and_true]
    exact (wI_id S 140 0).symm
theorem sq_183 {d : Nat} {S : ST} {v1 : Bool} {v2 : Int32} : Cal XM d 183 [.ref 140, .int (b2i v1), .int v2] S (RV (some (.int (b2i (!(decide (rf (S.1 140 0) v1 v2 = 0)))))) (wI S 140 0 (rf (S.1 140 0) v1 v2))) := by
  have h := sp_183 (d := d) (S := S) (v1 := v1) (v2 := v2)
  rw [(g183_eq S v1 v2).1, (g183_eq S v1 v2).2] at h
  exact h
theorem g184_eq (S : ST) : g_184 S = wI S 140 0 (tz (decide (S.1 140 1 = 0)) 1) ∧ f_184 S = decide (S.1 140 1 = 0) := by
  unfold g_184 f_184
  rw [(g183_eq _ _ _).1, (g183_eq _ _ _).2, wI_wI]
  have e : (wI S 140 0 0).1 140 0 = 0 := rfl
  rw [e]
  unfold rf tz
  rw [if_pos rfl]
  cases decide (S.1 140 1 = 0) <;> exact ⟨rfl, rfl⟩
theorem sq_184 {d : Nat} {S : ST} : Cal XM (d + 1) 184 [.ref 140] S (RV (some (.int (b2i (decide (S.1 140 1 = 0))))) (wI S 140 0 (tz (decide (S.1 140 1 = 0)) 1))) := by
  have h := sp_184 (d := d) (S := S)
  rw [(g184_eq S).1, (g184_eq S).2] at h
  exact h
/-- no polygon, or the index isn't from 0 to the last -/
def nb (S : ST) (v : Int32) (l : Int32) : Bool := decide (S.1 140 1 = 0) || !(f_182 v 0 l)
def tb (S : ST) (v : Int32) (l : Int32) : Int32 := if S.1 140 1 = 0 then 1 else tz (!(f_182 v 0 l)) 2

theorem g225_eq (S : ST) (v1 : Int32) : g_225 S v1 = wI S 140 0 (tb S v1 (S.1 141 0 - 1)) ∧ f_225 S v1 = nb S v1 (S.1 141 0 - 1) := by
  unfold g_225 f_225 tb nb
  rw [(g183_eq _ _ _).1, (g183_eq _ _ _).2, (g184_eq S).1, (g184_eq S).2, wI_wI]
  have e1 : (wI S 140 0 (tz (decide (S.1 140 1 = 0)) 1)).1 141 0 = S.1 141 0 := rfl
  have e2 : (wI S 140 0 (tz (decide (S.1 140 1 = 0)) 1)).1 140 0 = tz (decide (S.1 140 1 = 0)) 1 := rfl
  rw [e1, e2]
  by_cases h : S.1 140 1 = 0
  · simp [h, rf, tz]
  · cases f_182 v1 0 (S.1 141 0 - 1) <;> simp [h, rf, tz]
theorem sq_225 {d : Nat} {S : ST} {v1 : Int32} : Cal XM (d + 2) 225 [.ref 140, .int v1] S (RV (some (.int (b2i (nb S v1 (S.1 141 0 - 1))))) (wI S 140 0 (tb S v1 (S.1 141 0 - 1)))) := by
  have h := sp_225 (d := d) (S := S) (v1 := v1)
  rw [(g225_eq S v1).1, (g225_eq S v1).2] at h
  exact h

theorem g226_eq (S : ST) (v1 : Int32) : g_226 S v1 = wI S 140 0 (tb S v1 (S.1 140 20 - 1)) ∧ f_226 S v1 = nb S v1 (S.1 140 20 - 1) := by
  unfold g_226 f_226 tb nb
  rw [(g183_eq _ _ _).1, (g183_eq _ _ _).2, (g184_eq S).1, (g184_eq S).2, wI_wI]
  have e1 : (wI S 140 0 (tz (decide (S.1 140 1 = 0)) 1)).1 140 20 = S.1 140 20 := rfl
  have e2 : (wI S 140 0 (tz (decide (S.1 140 1 = 0)) 1)).1 140 0 = tz (decide (S.1 140 1 = 0)) 1 := rfl
  rw [e1, e2]
  by_cases h : S.1 140 1 = 0
  · simp [h, rf, tz]
  · cases f_182 v1 0 (S.1 140 20 - 1) <;> simp [h, rf, tz]
theorem sq_226 {d : Nat} {S : ST} {v1 : Int32} : Cal XM (d + 2) 226 [.ref 140, .int v1] S (RV (some (.int (b2i (nb S v1 (S.1 140 20 - 1))))) (wI S 140 0 (tb S v1 (S.1 140 20 - 1)))) := by
  have h := sp_226 (d := d) (S := S) (v1 := v1)
  rw [(g226_eq S v1).1, (g226_eq S v1).2] at h
  exact h

theorem g227_eq (S : ST) (v1 : Int32) : g_227 S v1 = wI S 140 0 (tb S v1 (S.1 141 1 - 1)) ∧ f_227 S v1 = nb S v1 (S.1 141 1 - 1) := by
  unfold g_227 f_227 tb nb
  rw [(g183_eq _ _ _).1, (g183_eq _ _ _).2, (g184_eq S).1, (g184_eq S).2, wI_wI]
  have e1 : (wI S 140 0 (tz (decide (S.1 140 1 = 0)) 1)).1 141 1 = S.1 141 1 := rfl
  have e2 : (wI S 140 0 (tz (decide (S.1 140 1 = 0)) 1)).1 140 0 = tz (decide (S.1 140 1 = 0)) 1 := rfl
  rw [e1, e2]
  by_cases h : S.1 140 1 = 0
  · simp [h, rf, tz]
  · cases f_182 v1 0 (S.1 141 1 - 1) <;> simp [h, rf, tz]
theorem sq_227 {d : Nat} {S : ST} {v1 : Int32} : Cal XM (d + 2) 227 [.ref 140, .int v1] S (RV (some (.int (b2i (nb S v1 (S.1 141 1 - 1))))) (wI S 140 0 (tb S v1 (S.1 141 1 - 1)))) := by
  have h := sp_227 (d := d) (S := S) (v1 := v1)
  rw [(g227_eq S v1).1, (g227_eq S v1).2] at h
  exact h

theorem g252_eq (S : ST) (v1 : Int32) : g_252 S v1 = wI S 140 0 (tb S v1 (S.1 141 0 - 3)) ∧ f_252 S v1 = nb S v1 (S.1 141 0 - 3) := by
  unfold g_252 f_252 tb nb
  rw [(g183_eq _ _ _).1, (g183_eq _ _ _).2, (g184_eq S).1, (g184_eq S).2, wI_wI]
  have e1 : (wI S 140 0 (tz (decide (S.1 140 1 = 0)) 1)).1 141 0 = S.1 141 0 := rfl
  have e2 : (wI S 140 0 (tz (decide (S.1 140 1 = 0)) 1)).1 140 0 = tz (decide (S.1 140 1 = 0)) 1 := rfl
  rw [e1, e2]
  by_cases h : S.1 140 1 = 0
  · simp [h, rf, tz]
  · cases f_182 v1 0 (S.1 141 0 - 3) <;> simp [h, rf, tz]
theorem sq_252 {d : Nat} {S : ST} {v1 : Int32} : Cal XM (d + 2) 252 [.ref 140, .int v1] S (RV (some (.int (b2i (nb S v1 (S.1 141 0 - 3))))) (wI S 140 0 (tb S v1 (S.1 141 0 - 3)))) := by
  have h := sp_252 (d := d) (S := S) (v1 := v1)
  rw [(g252_eq S v1).1, (g252_eq S v1).2] at h
  exact h
