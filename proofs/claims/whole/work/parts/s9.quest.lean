/-! questions: what they answer with, and that they leave the invariant -/
def RQi (S : ST) : RT := RP (fun v S' => (∃ x : Int32, v = some (.int x)) ∧ Qq S S')
def RQl (S : ST) : RT := RP (fun v S' => (∃ x : Int64, v = some (.long x)) ∧ Qq S S')
def RQv (S : ST) : RT := RP (fun v S' => v = none ∧ Qq S S')
theorem np_f {S : ST} (h : decide (S.1 140 1 = 0) = false) : ¬ S.1 140 1 = 0 := of_decide_eq_false h
theorem nb_f {S : ST} {v l : Int32} (h : nb S v l = false) : ¬ S.1 140 1 = 0 ∧ 0 ≤ v.toInt ∧ v.toInt ≤ l.toInt := by
  unfold nb at h
  rw [Bool.or_eq_false_iff, Bool.not_eq_false'] at h
  have := f182_t.mp h.2
  exact ⟨of_decide_eq_false h.1, this.1, this.2⟩
theorem rf_f {t : Int32} {b : Bool} {v : Int32} (h : (!(decide (rf t b v = 0))) = false) (hv : ¬ v = 0) : b = false := by
  rw [Bool.not_eq_false', decide_eq_true_eq] at h
  unfold rf at h
  split at h
  · cases b with
    | false => rfl
    | true => rw [if_pos rfl] at h; exact absurd h hv
  · next q => exact absurd h q
theorem in_f {v l : Int32} (h : (!(f_182 v 0 l)) = false) : 0 ≤ v.toInt ∧ v.toInt ≤ l.toInt := by
  rw [Bool.not_eq_false'] at h
  exact f182_t.mp h
/-- an index below a number -/
theorem ix_of {v : Int32} {n : Nat} (hn : n ≤ 1000) {c : Nat} (hc : 1 ≤ c) (hc2 : c ≤ 1000) (h0 : 0 ≤ v.toInt) (h1 : v.toInt ≤ (nJ n - nJ c).toInt) : ∃ i, v = nJ i ∧ i + c ≤ n := by
  have e : (nJ n - nJ c).toInt = (n : Int) - c := by rw [isub_t (by rw [nJ_toInt (by omega), nJ_toInt (by omega)]; omega) (by rw [nJ_toInt (by omega), nJ_toInt (by omega)]; omega), nJ_toInt (by omega), nJ_toInt (by omega)]
  refine ⟨v.toNatClampNeg, nJ_of h0, ?_⟩
  rw [e] at h1
  show v.toInt.toNat + c ≤ n
  omega
theorem pt_ix {S : ST} (h : Ld S) {v : Int32} (h0 : 0 ≤ v.toInt) (h1 : v.toInt ≤ (S.1 140 20 - 1).toInt) : ∃ p, v = nJ p ∧ p < nP S := by
  obtain ⟨hP, h64⟩ := Ld_P h
  rw [hP] at h1
  obtain ⟨i, a, b⟩ := ix_of (c := 1) (by omega) (by omega) (by omega) h0 h1
  exact ⟨i, a, by omega⟩
theorem vx_ix {S : ST} (h : Ld S) {v : Int32} (h0 : 0 ≤ v.toInt) (h1 : v.toInt ≤ (S.1 141 0 - 1).toInt) : RI S 141 v := by
  have h12 := h.1.1.2
  rw [h.1.1.1] at h1
  obtain ⟨i, a, b⟩ := ix_of (c := 1) (by omega) (by omega) (by omega) h0 h1
  exact ⟨h.1.1, i, a, by omega⟩
theorem gd_ix {S : ST} (h : Th S 141) {v : Int32} (h0 : 0 ≤ v.toInt) (h1 : v.toInt ≤ (S.1 141 1 - 1).toInt) : ∃ G g, S.1 141 1 = nJ G ∧ G ≤ 6 ∧ v = nJ g ∧ g < G ∧ ∀ g, g < G → ge_cl 1 (rL S 141) ((S.1 141 (27 + 3 * g)).toInt, (S.1 141 (28 + 3 * g)).toInt) := by
  obtain ⟨⟨G, g1, g2, g3⟩, -⟩ := h
  rw [g1] at h1
  obtain ⟨i, a, b⟩ := ix_of (c := 1) (by omega) (by omega) (by omega) h0 h1
  exact ⟨G, i, g1, g2, a, by omega, g3⟩
theorem Qp_t {S : ST} (h : MOK S) (hp : ¬ S.1 140 1 = 0) (t : Int32) : Qp (wI S 140 0 t) := ⟨(Qq_t h t).1, hp⟩
theorem Qi_t {S : ST} (h : MOK S) {x t : Int32} : RQi S 0 (.inr (some (.int x))) (wI S 140 0 t) := ⟨rfl, _, rfl, ⟨_, rfl⟩, Qq_t h t⟩
theorem Ql_t {S : ST} (h : MOK S) {x : Int64} {t : Int32} : RQl S 0 (.inr (some (.long x))) (wI S 140 0 t) := ⟨rfl, _, rfl, ⟨_, rfl⟩, Qq_t h t⟩
theorem Qi_q {S S' : ST} (q : Qq S S') {x : Int32} : RQi S 0 (.inr (some (.int x))) S' := ⟨rfl, _, rfl, ⟨_, rfl⟩, q⟩
theorem Ql_q {S S' : ST} (q : Qq S S') {x : Int64} : RQl S 0 (.inr (some (.long x))) S' := ⟨rfl, _, rfl, ⟨_, rfl⟩, q⟩
theorem Cal.V_i {d k : Nat} {av : List Value} {S S' : ST} {x : Int32} (h : Cal XM d k av S (RV (some (.int x)) S')) (q : Qq S S') : Cal XM d k av S (RQi S) := Cal.im h (by rintro c o S1 ⟨rfl, rfl, rfl⟩; exact Qi_q q)
theorem Cal.V_l {d k : Nat} {av : List Value} {S S' : ST} {x : Int64} (h : Cal XM d k av S (RV (some (.long x)) S')) (q : Qq S S') : Cal XM d k av S (RQl S) := Cal.im h (by rintro c o S1 ⟨rfl, rfl, rfl⟩; exact Ql_q q)
section Q1
variable {d : Nat} {S : ST} (M : MOK S)
theorem q_186 (M : MOK S) : Cal XM d 186 [.ref 140] S (RQi S) := (sp_186).V_i (Qq_t M _)
theorem q_187 (M : MOK S) : Cal XM d 187 [.ref 140] S (RQi S) := (sp_187).V_i (Qq_t M _)
theorem q_188 (M : MOK S) : Cal XM d 188 [.ref 140] S (RQi S) := (sp_188).V_i (Qq_t M _)
theorem q_220 (M : MOK S) : Cal XM (d + 1) 220 [.ref 140] S (RQi S) := (sp_220).V_i (Qq_t M _)
theorem q_221 (M : MOK S) : Cal XM (d + 1) 221 [.ref 140] S (RQi S) := (sp_221).V_i (Qq_t M _)
theorem q_222 (M : MOK S) : Cal XM (d + 1) 222 [.ref 140] S (RQi S) := (sp_222).V_i (Qq_t M _)
theorem q_223 (M : MOK S) : Cal XM (d + 1) 223 [.ref 140] S (RQi S) := (sp_223).V_i (Qq_t M _)
theorem q_224 (M : MOK S) : Cal XM (d + 1) 224 [.ref 140] S (RQi S) := (sp_224).V_i (Qq_t M _)
end Q1
theorem mm_228 : mtG 228 = some (mi_228, 12, ft_228) := rfl
def f_228 (S : ST) (v1 : Int32) : Int32 := (if (nb S v1 (S.1 141 0 - 1)) = true then 0 else ra S 141 (3 + v1))
def g_228 (S : ST) (v1 : Int32) : ST := (wI S 140 0 (tb S v1 (S.1 141 0 - 1)))
theorem b_228_0 {d c : Nat} {R : RT} {S : ST} {v1 : Int32} (o1 : (nb S v1 (S.1 141 0 - 1)) = false → inB (3 + v1) 63) (e1 : R c (.inr (some (.int (if (nb S v1 (S.1 141 0 - 1)) = true then 0 else ra S 141 (3 + v1))))) (wI S 140 0 (tb S v1 (S.1 141 0 - 1)))) : Go XM (d + 3) 228 c 0 [some (.ref 140), some (.int v1)] [] S R := by
  refine go_run mm_228 2 (pc' := 2) (ls' := [some (.ref 140), some (.int v1)]) (st' := [.int v1, .ref 140]) (S' := S) rfl ?_
  refine go_cv mm_228 (h := 140) (As := [.int v1]) (rest := []) (nl := 2) rfl XM_140 (show cvOK 228 2 251 225 1 2 11 = true by decide +kernel) rfl rfl rfl (sq_225) (KP_V ?_)
  have j1 : Go XM (d + 3) 228 c 20 [some (.ref 140), some (.int v1)] [.int (if (nb S v1 (S.1 141 0 - 1)) = true then 0 else ra S 141 (3 + v1))] (wI S 140 0 (tb S v1 (S.1 141 0 - 1))) R := by
    exact go_ireturn mm_228 rfl rfl (e1)
  refine go_ifb mm_228 rfl (p1 := 8) (p2 := 12) rfl (fun (hc1 : (nb S v1 (S.1 141 0 - 1)) = true) => ?_) (fun (hc1 : (nb S v1 (S.1 141 0 - 1)) = false) => ?_)
  · refine go_run mm_228 2 (pc' := 20) (ls' := [some (.ref 140), some (.int v1)]) (st' := [.int 0]) (S' := (wI S 140 0 (tb S v1 (S.1 141 0 - 1)))) rfl ?_
    have e : ((if (nb S v1 (S.1 141 0 - 1)) = true then 0 else ra S 141 (3 + v1)) : Int32) = 0 := by simp [b2i, hc1]
    rw [e] at j1
    exact j1
  · refine go_run mm_228 5 (pc' := 19) (ls' := [some (.ref 140), some (.int v1)]) (st' := [.int (3 + v1), .ref 141]) (S' := (wI S 140 0 (tb S v1 (S.1 141 0 - 1)))) rfl ?_
    refine go_iaload mm_228 (q := (Int32.toNatClampNeg (3 + v1))) rfl rfl rfl (o1 hc1) ?_
    have e : ((if (nb S v1 (S.1 141 0 - 1)) = true then 0 else ra S 141 (3 + v1)) : Int32) = ra S 141 (3 + v1) := by simp [b2i, hc1]
    rw [e] at j1
    exact j1
theorem sp_228 {d : Nat} {S : ST} {v1 : Int32} (o1 : (nb S v1 (S.1 141 0 - 1)) = false → inB (3 + v1) 63) : Cal XM (d + 3) 228 [.ref 140, .int v1] S (RV (some (.int (f_228 S v1))) (g_228 S v1)) := by
  refine cal_go 0 rfl (b_228_0 o1 ?_)
  · exact ⟨rfl, rfl, rfl⟩
theorem mm_229 : mtG 229 = some (mi_229, 12, ft_229) := rfl
def f_229 (S : ST) (v1 : Int32) : Int32 := (if (nb S v1 (S.1 141 0 - 1)) = true then 0 else ra S 141 (15 + v1))
def g_229 (S : ST) (v1 : Int32) : ST := (wI S 140 0 (tb S v1 (S.1 141 0 - 1)))
theorem b_229_0 {d c : Nat} {R : RT} {S : ST} {v1 : Int32} (o1 : (nb S v1 (S.1 141 0 - 1)) = false → inB (15 + v1) 63) (e1 : R c (.inr (some (.int (if (nb S v1 (S.1 141 0 - 1)) = true then 0 else ra S 141 (15 + v1))))) (wI S 140 0 (tb S v1 (S.1 141 0 - 1)))) : Go XM (d + 3) 229 c 0 [some (.ref 140), some (.int v1)] [] S R := by
  refine go_run mm_229 2 (pc' := 2) (ls' := [some (.ref 140), some (.int v1)]) (st' := [.int v1, .ref 140]) (S' := S) rfl ?_
  refine go_cv mm_229 (h := 140) (As := [.int v1]) (rest := []) (nl := 2) rfl XM_140 (show cvOK 229 2 251 225 1 2 11 = true by decide +kernel) rfl rfl rfl (sq_225) (KP_V ?_)
  have j1 : Go XM (d + 3) 229 c 21 [some (.ref 140), some (.int v1)] [.int (if (nb S v1 (S.1 141 0 - 1)) = true then 0 else ra S 141 (15 + v1))] (wI S 140 0 (tb S v1 (S.1 141 0 - 1))) R := by
    exact go_ireturn mm_229 rfl rfl (e1)
  refine go_ifb mm_229 rfl (p1 := 8) (p2 := 12) rfl (fun (hc1 : (nb S v1 (S.1 141 0 - 1)) = true) => ?_) (fun (hc1 : (nb S v1 (S.1 141 0 - 1)) = false) => ?_)
  · refine go_run mm_229 2 (pc' := 21) (ls' := [some (.ref 140), some (.int v1)]) (st' := [.int 0]) (S' := (wI S 140 0 (tb S v1 (S.1 141 0 - 1)))) rfl ?_
    have e : ((if (nb S v1 (S.1 141 0 - 1)) = true then 0 else ra S 141 (15 + v1)) : Int32) = 0 := by simp [b2i, hc1]
    rw [e] at j1
    exact j1
  · refine go_run mm_229 5 (pc' := 20) (ls' := [some (.ref 140), some (.int v1)]) (st' := [.int (15 + v1), .ref 141]) (S' := (wI S 140 0 (tb S v1 (S.1 141 0 - 1)))) rfl ?_
    refine go_iaload mm_229 (q := (Int32.toNatClampNeg (15 + v1))) rfl rfl rfl (o1 hc1) ?_
    have e : ((if (nb S v1 (S.1 141 0 - 1)) = true then 0 else ra S 141 (15 + v1)) : Int32) = ra S 141 (15 + v1) := by simp [b2i, hc1]
    rw [e] at j1
    exact j1
theorem sp_229 {d : Nat} {S : ST} {v1 : Int32} (o1 : (nb S v1 (S.1 141 0 - 1)) = false → inB (15 + v1) 63) : Cal XM (d + 3) 229 [.ref 140, .int v1] S (RV (some (.int (f_229 S v1))) (g_229 S v1)) := by
  refine cal_go 0 rfl (b_229_0 o1 ?_)
  · exact ⟨rfl, rfl, rfl⟩
theorem mm_230 : mtG 230 = some (mi_230, 12, ft_230) := rfl
def f_230 (S : ST) (v1 : Int32) : Int32 := (if (nb S v1 (S.1 140 20 - 1)) = true then 0 else ra S 147 v1)
def g_230 (S : ST) (v1 : Int32) : ST := (wI S 140 0 (tb S v1 (S.1 140 20 - 1)))
theorem b_230_0 {d c : Nat} {R : RT} {S : ST} {v1 : Int32} (o1 : (nb S v1 (S.1 140 20 - 1)) = false → inB v1 64) (e1 : R c (.inr (some (.int (if (nb S v1 (S.1 140 20 - 1)) = true then 0 else ra S 147 v1)))) (wI S 140 0 (tb S v1 (S.1 140 20 - 1)))) : Go XM (d + 3) 230 c 0 [some (.ref 140), some (.int v1)] [] S R := by
  refine go_run mm_230 2 (pc' := 2) (ls' := [some (.ref 140), some (.int v1)]) (st' := [.int v1, .ref 140]) (S' := S) rfl ?_
  refine go_cv mm_230 (h := 140) (As := [.int v1]) (rest := []) (nl := 2) rfl XM_140 (show cvOK 230 2 254 226 1 2 11 = true by decide +kernel) rfl rfl rfl (sq_226) (KP_V ?_)
  have j1 : Go XM (d + 3) 230 c 18 [some (.ref 140), some (.int v1)] [.int (if (nb S v1 (S.1 140 20 - 1)) = true then 0 else ra S 147 v1)] (wI S 140 0 (tb S v1 (S.1 140 20 - 1))) R := by
    exact go_ireturn mm_230 rfl rfl (e1)
  refine go_ifb mm_230 rfl (p1 := 8) (p2 := 12) rfl (fun (hc1 : (nb S v1 (S.1 140 20 - 1)) = true) => ?_) (fun (hc1 : (nb S v1 (S.1 140 20 - 1)) = false) => ?_)
  · refine go_run mm_230 2 (pc' := 18) (ls' := [some (.ref 140), some (.int v1)]) (st' := [.int 0]) (S' := (wI S 140 0 (tb S v1 (S.1 140 20 - 1)))) rfl ?_
    have e : ((if (nb S v1 (S.1 140 20 - 1)) = true then 0 else ra S 147 v1) : Int32) = 0 := by simp [b2i, hc1]
    rw [e] at j1
    exact j1
  · refine go_run mm_230 3 (pc' := 17) (ls' := [some (.ref 140), some (.int v1)]) (st' := [.int v1, .ref 147]) (S' := (wI S 140 0 (tb S v1 (S.1 140 20 - 1)))) rfl ?_
    refine go_iaload mm_230 (q := (Int32.toNatClampNeg v1)) rfl rfl rfl (o1 hc1) ?_
    have e : ((if (nb S v1 (S.1 140 20 - 1)) = true then 0 else ra S 147 v1) : Int32) = ra S 147 v1 := by simp [b2i, hc1]
    rw [e] at j1
    exact j1
theorem sp_230 {d : Nat} {S : ST} {v1 : Int32} (o1 : (nb S v1 (S.1 140 20 - 1)) = false → inB v1 64) : Cal XM (d + 3) 230 [.ref 140, .int v1] S (RV (some (.int (f_230 S v1))) (g_230 S v1)) := by
  refine cal_go 0 rfl (b_230_0 o1 ?_)
  · exact ⟨rfl, rfl, rfl⟩
theorem mm_231 : mtG 231 = some (mi_231, 12, ft_231) := rfl
def f_231 (S : ST) (v1 : Int32) : Int32 := (if (nb S v1 (S.1 140 20 - 1)) = true then 0 else ra S 148 v1)
def g_231 (S : ST) (v1 : Int32) : ST := (wI S 140 0 (tb S v1 (S.1 140 20 - 1)))
theorem b_231_0 {d c : Nat} {R : RT} {S : ST} {v1 : Int32} (o1 : (nb S v1 (S.1 140 20 - 1)) = false → inB v1 64) (e1 : R c (.inr (some (.int (if (nb S v1 (S.1 140 20 - 1)) = true then 0 else ra S 148 v1)))) (wI S 140 0 (tb S v1 (S.1 140 20 - 1)))) : Go XM (d + 3) 231 c 0 [some (.ref 140), some (.int v1)] [] S R := by
  refine go_run mm_231 2 (pc' := 2) (ls' := [some (.ref 140), some (.int v1)]) (st' := [.int v1, .ref 140]) (S' := S) rfl ?_
  refine go_cv mm_231 (h := 140) (As := [.int v1]) (rest := []) (nl := 2) rfl XM_140 (show cvOK 231 2 254 226 1 2 11 = true by decide +kernel) rfl rfl rfl (sq_226) (KP_V ?_)
  have j1 : Go XM (d + 3) 231 c 18 [some (.ref 140), some (.int v1)] [.int (if (nb S v1 (S.1 140 20 - 1)) = true then 0 else ra S 148 v1)] (wI S 140 0 (tb S v1 (S.1 140 20 - 1))) R := by
    exact go_ireturn mm_231 rfl rfl (e1)
  refine go_ifb mm_231 rfl (p1 := 8) (p2 := 12) rfl (fun (hc1 : (nb S v1 (S.1 140 20 - 1)) = true) => ?_) (fun (hc1 : (nb S v1 (S.1 140 20 - 1)) = false) => ?_)
  · refine go_run mm_231 2 (pc' := 18) (ls' := [some (.ref 140), some (.int v1)]) (st' := [.int 0]) (S' := (wI S 140 0 (tb S v1 (S.1 140 20 - 1)))) rfl ?_
    have e : ((if (nb S v1 (S.1 140 20 - 1)) = true then 0 else ra S 148 v1) : Int32) = 0 := by simp [b2i, hc1]
    rw [e] at j1
    exact j1
  · refine go_run mm_231 3 (pc' := 17) (ls' := [some (.ref 140), some (.int v1)]) (st' := [.int v1, .ref 148]) (S' := (wI S 140 0 (tb S v1 (S.1 140 20 - 1)))) rfl ?_
    refine go_iaload mm_231 (q := (Int32.toNatClampNeg v1)) rfl rfl rfl (o1 hc1) ?_
    have e : ((if (nb S v1 (S.1 140 20 - 1)) = true then 0 else ra S 148 v1) : Int32) = ra S 148 v1 := by simp [b2i, hc1]
    rw [e] at j1
    exact j1
theorem sp_231 {d : Nat} {S : ST} {v1 : Int32} (o1 : (nb S v1 (S.1 140 20 - 1)) = false → inB v1 64) : Cal XM (d + 3) 231 [.ref 140, .int v1] S (RV (some (.int (f_231 S v1))) (g_231 S v1)) := by
  refine cal_go 0 rfl (b_231_0 o1 ?_)
  · exact ⟨rfl, rfl, rfl⟩
theorem mm_232 : mtG 232 = some (mi_232, 12, ft_232) := rfl
def f_232 (S : ST) (v1 : Int32) (v2 : Int32) : Int32 := (if (decide (S.1 140 1 = 0)) = true then 0 else f_215 (wI S 140 0 (tz (decide (S.1 140 1 = 0)) 1)) v1 v2)
def g_232 (S : ST) (v1 : Int32) (v2 : Int32) : ST := (wI S 140 0 (tz (decide (S.1 140 1 = 0)) 1))
theorem b_232_0 {d c : Nat} {R : RT} {S : ST} {v1 : Int32} {v2 : Int32} (e1 : R c (.inr (some (.int (if (decide (S.1 140 1 = 0)) = true then 0 else f_215 (wI S 140 0 (tz (decide (S.1 140 1 = 0)) 1)) v1 v2)))) (wI S 140 0 (tz (decide (S.1 140 1 = 0)) 1))) : Go XM (d + 2) 232 c 0 [some (.ref 140), some (.int v1), some (.int v2)] [] S R := by
  refine go_run mm_232 1 (pc' := 1) (ls' := [some (.ref 140), some (.int v1), some (.int v2)]) (st' := [.ref 140]) (S' := S) rfl ?_
  refine go_cv mm_232 (h := 140) (As := []) (rest := []) (nl := 1) rfl XM_140 (show cvOK 232 1 247 184 0 1 11 = true by decide +kernel) rfl rfl rfl (sq_184) (KP_V ?_)
  have j1 : Go XM (d + 2) 232 c 17 [some (.ref 140), some (.int v1), some (.int v2)] [.int (if (decide (S.1 140 1 = 0)) = true then 0 else f_215 (wI S 140 0 (tz (decide (S.1 140 1 = 0)) 1)) v1 v2)] (wI S 140 0 (tz (decide (S.1 140 1 = 0)) 1)) R := by
    exact go_ireturn mm_232 rfl rfl (e1)
  refine go_ifb mm_232 rfl (p1 := 7) (p2 := 11) rfl (fun (hc1 : (decide (S.1 140 1 = 0)) = true) => ?_) (fun (hc1 : (decide (S.1 140 1 = 0)) = false) => ?_)
  · refine go_run mm_232 2 (pc' := 17) (ls' := [some (.ref 140), some (.int v1), some (.int v2)]) (st' := [.int 0]) (S' := (wI S 140 0 (tz (decide (S.1 140 1 = 0)) 1))) rfl ?_
    have e : ((if (decide (S.1 140 1 = 0)) = true then 0 else f_215 (wI S 140 0 (tz (decide (S.1 140 1 = 0)) 1)) v1 v2) : Int32) = 0 := by simp [b2i, hc1]
    rw [e] at j1
    exact j1
  · refine go_run mm_232 3 (pc' := 14) (ls' := [some (.ref 140), some (.int v1), some (.int v2)]) (st' := [.int v2, .int v1, .ref 140]) (S' := (wI S 140 0 (tz (decide (S.1 140 1 = 0)) 1))) rfl ?_
    refine go_cv mm_232 (h := 140) (As := [.int v1, .int v2]) (rest := []) (nl := 3) rfl XM_140 (show cvOK 232 14 257 215 2 3 11 = true by decide +kernel) rfl rfl rfl (sq_215) (KP_V ?_)
    have e : ((if (decide (S.1 140 1 = 0)) = true then 0 else f_215 (wI S 140 0 (tz (decide (S.1 140 1 = 0)) 1)) v1 v2) : Int32) = f_215 (wI S 140 0 (tz (decide (S.1 140 1 = 0)) 1)) v1 v2 := by simp [b2i, hc1]
    rw [e] at j1
    exact j1
theorem sp_232 {d : Nat} {S : ST} {v1 : Int32} {v2 : Int32} : Cal XM (d + 2) 232 [.ref 140, .int v1, .int v2] S (RV (some (.int (f_232 S v1 v2))) (g_232 S v1 v2)) := by
  refine cal_go 0 rfl (b_232_0 ?_)
  · exact ⟨rfl, rfl, rfl⟩
section Q2
variable {d : Nat} {S : ST}
theorem q_228 (M : MOK S) {v1 : Int32} : Cal XM (d + 3) 228 [.ref 140, .int v1] S (RQi S) := (sp_228 (fun h => RI_3 (vx_ix (M.2.1 (nb_f h).1).1 (nb_f h).2.1 (nb_f h).2.2))).V_i (Qq_t M _)
theorem q_229 (M : MOK S) {v1 : Int32} : Cal XM (d + 3) 229 [.ref 140, .int v1] S (RQi S) := (sp_229 (fun h => RI_15 (vx_ix (M.2.1 (nb_f h).1).1 (nb_f h).2.1 (nb_f h).2.2))).V_i (Qq_t M _)
theorem in_64 {S : ST} (h : Ld S) {v : Int32} (h0 : 0 ≤ v.toInt) (h1 : v.toInt ≤ (S.1 140 20 - 1).toInt) : inB v 64 := by
  obtain ⟨p, rfl, hp⟩ := pt_ix h h0 h1
  have := (Ld_P h).2
  exact nJ_inB (by omega) (by omega)
theorem q_230 (M : MOK S) {v1 : Int32} : Cal XM (d + 3) 230 [.ref 140, .int v1] S (RQi S) := (sp_230 (fun h => in_64 (M.2.1 (nb_f h).1).1 (nb_f h).2.1 (nb_f h).2.2)).V_i (Qq_t M _)
theorem q_231 (M : MOK S) {v1 : Int32} : Cal XM (d + 3) 231 [.ref 140, .int v1] S (RQi S) := (sp_231 (fun h => in_64 (M.2.1 (nb_f h).1).1 (nb_f h).2.1 (nb_f h).2.2)).V_i (Qq_t M _)
theorem q_232 (M : MOK S) {v1 v2 : Int32} : Cal XM (d + 2) 232 [.ref 140, .int v1, .int v2] S (RQi S) := (sp_232).V_i (Qq_t M _)
end Q2
theorem mm_233 : mtG 233 = some (mi_233, 12, ft_233) := rfl
theorem b_233_0 {d c : Nat} {R : RT} {S : ST} (e1 : Go XM (d + 1) 233 c 4 [some (.ref 140), some (.int 0), some (.int 0), none] [] S R) : Go XM (d + 1) 233 c 0 [some (.ref 140), none, none, none] [] S R := by
  refine go_run mm_233 4 (pc' := 4) (ls' := [some (.ref 140), some (.int 0), some (.int 0), none]) (st' := []) (S' := S) rfl ?_
  exact e1
theorem b_233_4 {d c : Nat} {R : RT} {S : ST} {v1 : Int32} {v2 : Int32} (o1 : v2 < (S.1 141 0) → inB (3 + v2) 63) (o2 : v2 < (S.1 141 0) → inB (15 + (f_204 S 141 v2)) 63) (o3 : v2 < (S.1 141 0) → inB (3 + (f_204 S 141 v2)) 63) (o4 : v2 < (S.1 141 0) → inB (15 + v2) 63) (e1 : v2 < (S.1 141 0) → Go XM (d + 1) 233 c 4 [some (.ref 140), some (.int (v1 + (((ra S 141 (3 + v2)) * (ra S 141 (15 + (f_204 S 141 v2)))) - ((ra S 141 (3 + (f_204 S 141 v2))) * (ra S 141 (15 + v2)))))), some (.int (v2 + 1)), some (.int (f_204 S 141 v2))] [] S R) (e2 : ¬ v2 < (S.1 141 0) → R c (.inr (some (.int v1))) S) : Go XM (d + 1) 233 c 4 [some (.ref 140), some (.int v1), some (.int v2), none] [] S R := by
  refine go_run mm_233 4 (pc' := 10) (ls' := [some (.ref 140), some (.int v1), some (.int v2), none]) (st' := [.int 0, .ref 141, .int v2]) (S' := S) rfl ?_
  refine go_iaload mm_233 (q := 0) rfl rfl rfl (inB_lit rfl) ?_
  refine go_if2 mm_233 rfl (p1 := 14) (p2 := 69) rfl (fun (hc1 : v2 < (S.1 141 0)) => ?_) (fun (hc1 : ¬ v2 < (S.1 141 0)) => ?_)
  · refine go_run mm_233 3 (pc' := 19) (ls' := [some (.ref 140), some (.int v1), some (.int v2), none]) (st' := [.int v2, .ref 141]) (S' := S) rfl ?_
    refine go_cs mm_233 (av := [.ref 141, .int v2]) (rest := []) (nl := 2) rfl (show csOK 233 19 208 204 2 2 = true by decide +kernel) rfl rfl rfl (sp_204 rfl) (KP_V ?_)
    refine go_run mm_233 7 (pc' := 31) (ls' := [some (.ref 140), some (.int v1), some (.int v2), some (.int (f_204 S 141 v2))]) (st' := [.int (3 + v2), .ref 141, .int v1]) (S' := S) rfl ?_
    refine go_iaload mm_233 (q := (Int32.toNatClampNeg (3 + v2))) rfl rfl rfl (o1 hc1) ?_
    refine go_run mm_233 5 (pc' := 40) (ls' := [some (.ref 140), some (.int v1), some (.int v2), some (.int (f_204 S 141 v2))]) (st' := [.int (15 + (f_204 S 141 v2)), .ref 141, .int (ra S 141 (3 + v2)), .int v1]) (S' := S) rfl ?_
    refine go_iaload mm_233 (q := (Int32.toNatClampNeg (15 + (f_204 S 141 v2)))) rfl rfl rfl (o2 hc1) ?_
    refine go_run mm_233 6 (pc' := 49) (ls' := [some (.ref 140), some (.int v1), some (.int v2), some (.int (f_204 S 141 v2))]) (st' := [.int (3 + (f_204 S 141 v2)), .ref 141, .int ((ra S 141 (3 + v2)) * (ra S 141 (15 + (f_204 S 141 v2)))), .int v1]) (S' := S) rfl ?_
    refine go_iaload mm_233 (q := (Int32.toNatClampNeg (3 + (f_204 S 141 v2)))) rfl rfl rfl (o3 hc1) ?_
    refine go_run mm_233 5 (pc' := 58) (ls' := [some (.ref 140), some (.int v1), some (.int v2), some (.int (f_204 S 141 v2))]) (st' := [.int (15 + v2), .ref 141, .int (ra S 141 (3 + (f_204 S 141 v2))), .int ((ra S 141 (3 + v2)) * (ra S 141 (15 + (f_204 S 141 v2)))), .int v1]) (S' := S) rfl ?_
    refine go_iaload mm_233 (q := (Int32.toNatClampNeg (15 + v2))) rfl rfl rfl (o4 hc1) ?_
    refine go_run mm_233 6 (pc' := 4) (ls' := [some (.ref 140), some (.int (v1 + (((ra S 141 (3 + v2)) * (ra S 141 (15 + (f_204 S 141 v2)))) - ((ra S 141 (3 + (f_204 S 141 v2))) * (ra S 141 (15 + v2)))))), some (.int (v2 + 1)), some (.int (f_204 S 141 v2))]) (st' := []) (S' := S) rfl ?_
    exact e1 hc1
  · refine go_run mm_233 1 (pc' := 70) (ls' := [some (.ref 140), some (.int v1), some (.int v2), none]) (st' := [.int v1]) (S' := S) rfl ?_
    exact go_ireturn mm_233 rfl rfl (e2 hc1)
def st33 (S : ST) (i : Nat) (a : Int32) : Int32 := a + (((ra S 141 (3 + nJ i)) * (ra S 141 (15 + (f_204 S 141 (nJ i))))) - ((ra S 141 (3 + (f_204 S 141 (nJ i)))) * (ra S 141 (15 + nJ i))))
def f_233 (S : ST) : Int32 := fr (st33 S) 0 (rN S 141) 0
theorem sq_233 {d : Nat} {S : ST} (hW : RW S 141) : Cal XM (d + 1) 233 [.ref 140] S (RV (some (.int (f_233 S))) S) := by
  refine cal_go 3 rfl (b_233_0 ?_)
  have h12 := hW.2
  refine fr_loop (f := st33 S) (n := rN S 141) (J := fun _ _ => True) (H := fun i a => Go XM (d + 1) 233 0 4 [some (.ref 140), some (.int a), some (.int (nJ i)), none] [] S (RV (some (.int (f_233 S))) S)) (fun i a hi _ => ⟨trivial, fun hn => ?_⟩) (rN S 141) 0 0 (by omega) trivial (fun _ => ?_)
  · have hlt : nJ i < S.1 141 0 := by rw [hW.1, nJ_lt (by omega) (by omega)]; exact hi
    have hI : RI S 141 (nJ i) := ⟨hW, i, rfl, hi⟩
    refine b_233_4 (fun _ => RI_3 hI) (fun _ => RI_15 (RI_aft hI)) (fun _ => RI_3 (RI_aft hI)) (fun _ => RI_15 hI) (fun _ => ?_) (fun q => absurd hlt q)
    rw [nJ_succ]
    exact Go.le hn (by repeat first | exact True.intro | refine And.intro rfl ?_)
  · have hn : ¬ nJ (rN S 141) < S.1 141 0 := by rw [hW.1, nJ_lt (by omega) (by omega)]; omega
    exact b_233_4 (fun q => absurd q hn) (fun q => absurd q hn) (fun q => absurd q hn) (fun q => absurd q hn) (fun q => absurd q hn) (fun _ => ⟨rfl, rfl, rfl⟩)
theorem mm_234 : mtG 234 = some (mi_234, 12, ft_234) := rfl
def f_234 (S : ST) : Int32 := (if (decide (S.1 140 1 = 0)) = true then 0 else (if (f_233 (wI S 140 0 (tz (decide (S.1 140 1 = 0)) 1))) < 0 then -(f_233 (wI S 140 0 (tz (decide (S.1 140 1 = 0)) 1))) else f_233 (wI S 140 0 (tz (decide (S.1 140 1 = 0)) 1))))
def g_234 (S : ST) : ST := (wI S 140 0 (tz (decide (S.1 140 1 = 0)) 1))
theorem b_234_0 {d c : Nat} {R : RT} {S : ST} (o1 : (decide (S.1 140 1 = 0)) = false → RW (wI S 140 0 (tz (decide (S.1 140 1 = 0)) 1)) 141) (o2 : (decide (S.1 140 1 = 0)) = false → (f_233 (wI S 140 0 (tz (decide (S.1 140 1 = 0)) 1))) < 0 → RW (wI S 140 0 (tz (decide (S.1 140 1 = 0)) 1)) 141) (o3 : (decide (S.1 140 1 = 0)) = false → ¬ (f_233 (wI S 140 0 (tz (decide (S.1 140 1 = 0)) 1))) < 0 → RW (wI S 140 0 (tz (decide (S.1 140 1 = 0)) 1)) 141) (e1 : (decide (S.1 140 1 = 0)) = true → R c (.inr (some (.int 0))) (wI S 140 0 (tz (decide (S.1 140 1 = 0)) 1))) (e2 : (decide (S.1 140 1 = 0)) = false → R c (.inr (some (.int (if (f_233 (wI S 140 0 (tz (decide (S.1 140 1 = 0)) 1))) < 0 then -(f_233 (wI S 140 0 (tz (decide (S.1 140 1 = 0)) 1))) else f_233 (wI S 140 0 (tz (decide (S.1 140 1 = 0)) 1)))))) (wI S 140 0 (tz (decide (S.1 140 1 = 0)) 1))) : Go XM (d + 2) 234 c 0 [some (.ref 140)] [] S R := by
  refine go_run mm_234 1 (pc' := 1) (ls' := [some (.ref 140)]) (st' := [.ref 140]) (S' := S) rfl ?_
  refine go_cv mm_234 (h := 140) (As := []) (rest := []) (nl := 1) rfl XM_140 (show cvOK 234 1 247 184 0 1 11 = true by decide +kernel) rfl rfl rfl (sq_184) (KP_V ?_)
  refine go_ifb mm_234 rfl (p1 := 7) (p2 := 9) rfl (fun (hc1 : (decide (S.1 140 1 = 0)) = true) => ?_) (fun (hc1 : (decide (S.1 140 1 = 0)) = false) => ?_)
  · refine go_run mm_234 1 (pc' := 8) (ls' := [some (.ref 140)]) (st' := [.int 0]) (S' := (wI S 140 0 (tz (decide (S.1 140 1 = 0)) 1))) rfl ?_
    exact go_ireturn mm_234 rfl rfl (e1 hc1)
  · refine go_run mm_234 1 (pc' := 10) (ls' := [some (.ref 140)]) (st' := [.ref 140]) (S' := (wI S 140 0 (tz (decide (S.1 140 1 = 0)) 1))) rfl ?_
    refine go_cv mm_234 (h := 140) (As := []) (rest := []) (nl := 4) rfl XM_140 (show cvOK 234 10 260 233 0 4 11 = true by decide +kernel) rfl rfl rfl (sq_233 (o1 hc1)) (KP_V ?_)
    have j1 : Go XM (d + 2) 234 c 28 [some (.ref 140)] [.int (if (f_233 (wI S 140 0 (tz (decide (S.1 140 1 = 0)) 1))) < 0 then -(f_233 (wI S 140 0 (tz (decide (S.1 140 1 = 0)) 1))) else f_233 (wI S 140 0 (tz (decide (S.1 140 1 = 0)) 1)))] (wI S 140 0 (tz (decide (S.1 140 1 = 0)) 1)) R := by
      exact go_ireturn mm_234 rfl rfl (e2 hc1)
    refine go_if0 mm_234 rfl (p1 := 16) (p2 := 24) rfl (fun (hc2 : (f_233 (wI S 140 0 (tz (decide (S.1 140 1 = 0)) 1))) < 0) => ?_) (fun (hc2 : ¬ (f_233 (wI S 140 0 (tz (decide (S.1 140 1 = 0)) 1))) < 0) => ?_)
    · refine go_run mm_234 1 (pc' := 17) (ls' := [some (.ref 140)]) (st' := [.ref 140]) (S' := (wI S 140 0 (tz (decide (S.1 140 1 = 0)) 1))) rfl ?_
      refine go_cv mm_234 (h := 140) (As := []) (rest := []) (nl := 4) rfl XM_140 (show cvOK 234 17 260 233 0 4 11 = true by decide +kernel) rfl rfl rfl (sq_233 (o2 hc1 hc2)) (KP_V ?_)
      refine go_run mm_234 2 (pc' := 28) (ls' := [some (.ref 140)]) (st' := [.int (-(f_233 (wI S 140 0 (tz (decide (S.1 140 1 = 0)) 1))))]) (S' := (wI S 140 0 (tz (decide (S.1 140 1 = 0)) 1))) rfl ?_
      have e : ((if (f_233 (wI S 140 0 (tz (decide (S.1 140 1 = 0)) 1))) < 0 then -(f_233 (wI S 140 0 (tz (decide (S.1 140 1 = 0)) 1))) else f_233 (wI S 140 0 (tz (decide (S.1 140 1 = 0)) 1))) : Int32) = -(f_233 (wI S 140 0 (tz (decide (S.1 140 1 = 0)) 1))) := by simp [b2i, hc2]
      rw [e] at j1
      exact j1
    · refine go_run mm_234 1 (pc' := 25) (ls' := [some (.ref 140)]) (st' := [.ref 140]) (S' := (wI S 140 0 (tz (decide (S.1 140 1 = 0)) 1))) rfl ?_
      refine go_cv mm_234 (h := 140) (As := []) (rest := []) (nl := 4) rfl XM_140 (show cvOK 234 25 260 233 0 4 11 = true by decide +kernel) rfl rfl rfl (sq_233 (o3 hc1 hc2)) (KP_V ?_)
      have e : ((if (f_233 (wI S 140 0 (tz (decide (S.1 140 1 = 0)) 1))) < 0 then -(f_233 (wI S 140 0 (tz (decide (S.1 140 1 = 0)) 1))) else f_233 (wI S 140 0 (tz (decide (S.1 140 1 = 0)) 1))) : Int32) = f_233 (wI S 140 0 (tz (decide (S.1 140 1 = 0)) 1)) := by simp [b2i, hc2]
      rw [e] at j1
      exact j1
theorem sp_234 {d : Nat} {S : ST} (o1 : (decide (S.1 140 1 = 0)) = false → RW (wI S 140 0 (tz (decide (S.1 140 1 = 0)) 1)) 141) (o2 : (decide (S.1 140 1 = 0)) = false → (f_233 (wI S 140 0 (tz (decide (S.1 140 1 = 0)) 1))) < 0 → RW (wI S 140 0 (tz (decide (S.1 140 1 = 0)) 1)) 141) (o3 : (decide (S.1 140 1 = 0)) = false → ¬ (f_233 (wI S 140 0 (tz (decide (S.1 140 1 = 0)) 1))) < 0 → RW (wI S 140 0 (tz (decide (S.1 140 1 = 0)) 1)) 141) : Cal XM (d + 2) 234 [.ref 140] S (RV (some (.int (f_234 S))) (g_234 S)) := by
  refine cal_go 0 rfl (b_234_0 o1 o2 o3 ?_ ?_)
  · intro hc1
    refine ⟨rfl, ?_, ?_⟩ <;> simp [f_234, g_234, b2i, hc1]
  · intro hc1
    refine ⟨rfl, ?_, ?_⟩ <;> simp [f_234, g_234, b2i, hc1]
theorem mm_235 : mtG 235 = some (mi_235, 12, ft_235) := rfl
def f_235 (S : ST) (v1 : Int32) (v2 : Int32) (v3 : Int32) : Int32 := (if (f_233 S) < 0 then -(f_203 (f_202 (Int32.toInt64 (ra S 141 (3 + v1))) (Int32.toInt64 (ra S 141 (15 + v1))) (Int32.toInt64 (ra S 141 (3 + v2))) (Int32.toInt64 (ra S 141 (15 + v2))) (Int32.toInt64 (ra S 141 (3 + v3))) (Int32.toInt64 (ra S 141 (15 + v3))))) else f_203 (f_202 (Int32.toInt64 (ra S 141 (3 + v1))) (Int32.toInt64 (ra S 141 (15 + v1))) (Int32.toInt64 (ra S 141 (3 + v2))) (Int32.toInt64 (ra S 141 (15 + v2))) (Int32.toInt64 (ra S 141 (3 + v3))) (Int32.toInt64 (ra S 141 (15 + v3)))))
set_option maxRecDepth 20000 in
theorem b_235_0 {d c : Nat} {R : RT} {S : ST} {v1 : Int32} {v2 : Int32} {v3 : Int32} (o1 : inB (3 + v1) 63) (o2 : inB (15 + v1) 63) (o3 : inB (3 + v2) 63) (o4 : inB (15 + v2) 63) (o5 : inB (3 + v3) 63) (o6 : inB (15 + v3) 63) (o7 : RW S 141) (e1 : R c (.inr (some (.int (if (f_233 S) < 0 then -(f_203 (f_202 (Int32.toInt64 (ra S 141 (3 + v1))) (Int32.toInt64 (ra S 141 (15 + v1))) (Int32.toInt64 (ra S 141 (3 + v2))) (Int32.toInt64 (ra S 141 (15 + v2))) (Int32.toInt64 (ra S 141 (3 + v3))) (Int32.toInt64 (ra S 141 (15 + v3))))) else f_203 (f_202 (Int32.toInt64 (ra S 141 (3 + v1))) (Int32.toInt64 (ra S 141 (15 + v1))) (Int32.toInt64 (ra S 141 (3 + v2))) (Int32.toInt64 (ra S 141 (15 + v2))) (Int32.toInt64 (ra S 141 (3 + v3))) (Int32.toInt64 (ra S 141 (15 + v3)))))))) S) : Go XM (d + 2) 235 c 0 [some (.ref 140), some (.int v1), some (.int v2), some (.int v3), none] [] S R := by
  refine go_run mm_235 5 (pc' := 7) (ls' := [some (.ref 140), some (.int v1), some (.int v2), some (.int v3), none]) (st' := [.int (3 + v1), .ref 141]) (S' := S) rfl ?_
  refine go_iaload mm_235 (q := (Int32.toNatClampNeg (3 + v1))) rfl rfl rfl (o1) ?_
  refine go_run mm_235 6 (pc' := 17) (ls' := [some (.ref 140), some (.int v1), some (.int v2), some (.int v3), none]) (st' := [.int (15 + v1), .ref 141, .long (Int32.toInt64 (ra S 141 (3 + v1)))]) (S' := S) rfl ?_
  refine go_iaload mm_235 (q := (Int32.toNatClampNeg (15 + v1))) rfl rfl rfl (o2) ?_
  refine go_run mm_235 6 (pc' := 26) (ls' := [some (.ref 140), some (.int v1), some (.int v2), some (.int v3), none]) (st' := [.int (3 + v2), .ref 141, .long (Int32.toInt64 (ra S 141 (15 + v1))), .long (Int32.toInt64 (ra S 141 (3 + v1)))]) (S' := S) rfl ?_
  refine go_iaload mm_235 (q := (Int32.toNatClampNeg (3 + v2))) rfl rfl rfl (o3) ?_
  refine go_run mm_235 6 (pc' := 36) (ls' := [some (.ref 140), some (.int v1), some (.int v2), some (.int v3), none]) (st' := [.int (15 + v2), .ref 141, .long (Int32.toInt64 (ra S 141 (3 + v2))), .long (Int32.toInt64 (ra S 141 (15 + v1))), .long (Int32.toInt64 (ra S 141 (3 + v1)))]) (S' := S) rfl ?_
  refine go_iaload mm_235 (q := (Int32.toNatClampNeg (15 + v2))) rfl rfl rfl (o4) ?_
  refine go_run mm_235 6 (pc' := 45) (ls' := [some (.ref 140), some (.int v1), some (.int v2), some (.int v3), none]) (st' := [.int (3 + v3), .ref 141, .long (Int32.toInt64 (ra S 141 (15 + v2))), .long (Int32.toInt64 (ra S 141 (3 + v2))), .long (Int32.toInt64 (ra S 141 (15 + v1))), .long (Int32.toInt64 (ra S 141 (3 + v1)))]) (S' := S) rfl ?_
  refine go_iaload mm_235 (q := (Int32.toNatClampNeg (3 + v3))) rfl rfl rfl (o5) ?_
  refine go_run mm_235 6 (pc' := 55) (ls' := [some (.ref 140), some (.int v1), some (.int v2), some (.int v3), none]) (st' := [.int (15 + v3), .ref 141, .long (Int32.toInt64 (ra S 141 (3 + v3))), .long (Int32.toInt64 (ra S 141 (15 + v2))), .long (Int32.toInt64 (ra S 141 (3 + v2))), .long (Int32.toInt64 (ra S 141 (15 + v1))), .long (Int32.toInt64 (ra S 141 (3 + v1)))]) (S' := S) rfl ?_
  refine go_iaload mm_235 (q := (Int32.toNatClampNeg (15 + v3))) rfl rfl rfl (o6) ?_
  refine go_run mm_235 1 (pc' := 57) (ls' := [some (.ref 140), some (.int v1), some (.int v2), some (.int v3), none]) (st' := [.long (Int32.toInt64 (ra S 141 (15 + v3))), .long (Int32.toInt64 (ra S 141 (3 + v3))), .long (Int32.toInt64 (ra S 141 (15 + v2))), .long (Int32.toInt64 (ra S 141 (3 + v2))), .long (Int32.toInt64 (ra S 141 (15 + v1))), .long (Int32.toInt64 (ra S 141 (3 + v1)))]) (S' := S) rfl ?_
  refine go_cs mm_235 (av := [.long (Int32.toInt64 (ra S 141 (3 + v1))), .long (Int32.toInt64 (ra S 141 (15 + v1))), .long (Int32.toInt64 (ra S 141 (3 + v2))), .long (Int32.toInt64 (ra S 141 (15 + v2))), .long (Int32.toInt64 (ra S 141 (3 + v3))), .long (Int32.toInt64 (ra S 141 (15 + v3)))]) (rest := []) (nl := 12) rfl (show csOK 235 57 204 202 6 12 = true by decide +kernel) rfl rfl rfl (sp_202) (KP_V ?_)
  refine go_cs mm_235 (av := [.long (f_202 (Int32.toInt64 (ra S 141 (3 + v1))) (Int32.toInt64 (ra S 141 (15 + v1))) (Int32.toInt64 (ra S 141 (3 + v2))) (Int32.toInt64 (ra S 141 (15 + v2))) (Int32.toInt64 (ra S 141 (3 + v3))) (Int32.toInt64 (ra S 141 (15 + v3))))]) (rest := []) (nl := 2) rfl (show csOK 235 60 223 203 1 2 = true by decide +kernel) rfl rfl rfl (sp_203) (KP_V ?_)
  refine go_run mm_235 2 (pc' := 66) (ls' := [some (.ref 140), some (.int v1), some (.int v2), some (.int v3), some (.int (f_203 (f_202 (Int32.toInt64 (ra S 141 (3 + v1))) (Int32.toInt64 (ra S 141 (15 + v1))) (Int32.toInt64 (ra S 141 (3 + v2))) (Int32.toInt64 (ra S 141 (15 + v2))) (Int32.toInt64 (ra S 141 (3 + v3))) (Int32.toInt64 (ra S 141 (15 + v3))))))]) (st' := [.ref 140]) (S' := S) rfl ?_
  refine go_cv mm_235 (h := 140) (As := []) (rest := []) (nl := 4) rfl XM_140 (show cvOK 235 66 260 233 0 4 11 = true by decide +kernel) rfl rfl rfl (sq_233 (o7)) (KP_V ?_)
  have j1 : Go XM (d + 2) 235 c 80 [some (.ref 140), some (.int v1), some (.int v2), some (.int v3), some (.int (f_203 (f_202 (Int32.toInt64 (ra S 141 (3 + v1))) (Int32.toInt64 (ra S 141 (15 + v1))) (Int32.toInt64 (ra S 141 (3 + v2))) (Int32.toInt64 (ra S 141 (15 + v2))) (Int32.toInt64 (ra S 141 (3 + v3))) (Int32.toInt64 (ra S 141 (15 + v3))))))] [.int (if (f_233 S) < 0 then -(f_203 (f_202 (Int32.toInt64 (ra S 141 (3 + v1))) (Int32.toInt64 (ra S 141 (15 + v1))) (Int32.toInt64 (ra S 141 (3 + v2))) (Int32.toInt64 (ra S 141 (15 + v2))) (Int32.toInt64 (ra S 141 (3 + v3))) (Int32.toInt64 (ra S 141 (15 + v3))))) else f_203 (f_202 (Int32.toInt64 (ra S 141 (3 + v1))) (Int32.toInt64 (ra S 141 (15 + v1))) (Int32.toInt64 (ra S 141 (3 + v2))) (Int32.toInt64 (ra S 141 (15 + v2))) (Int32.toInt64 (ra S 141 (3 + v3))) (Int32.toInt64 (ra S 141 (15 + v3)))))] S R := by
    exact go_ireturn mm_235 rfl rfl (e1)
  refine go_if0 mm_235 rfl (p1 := 72) (p2 := 78) rfl (fun (hc1 : (f_233 S) < 0) => ?_) (fun (hc1 : ¬ (f_233 S) < 0) => ?_)
  · refine go_run mm_235 3 (pc' := 80) (ls' := [some (.ref 140), some (.int v1), some (.int v2), some (.int v3), some (.int (f_203 (f_202 (Int32.toInt64 (ra S 141 (3 + v1))) (Int32.toInt64 (ra S 141 (15 + v1))) (Int32.toInt64 (ra S 141 (3 + v2))) (Int32.toInt64 (ra S 141 (15 + v2))) (Int32.toInt64 (ra S 141 (3 + v3))) (Int32.toInt64 (ra S 141 (15 + v3))))))]) (st' := [.int (-(f_203 (f_202 (Int32.toInt64 (ra S 141 (3 + v1))) (Int32.toInt64 (ra S 141 (15 + v1))) (Int32.toInt64 (ra S 141 (3 + v2))) (Int32.toInt64 (ra S 141 (15 + v2))) (Int32.toInt64 (ra S 141 (3 + v3))) (Int32.toInt64 (ra S 141 (15 + v3))))))]) (S' := S) rfl ?_
    have e : ((if (f_233 S) < 0 then -(f_203 (f_202 (Int32.toInt64 (ra S 141 (3 + v1))) (Int32.toInt64 (ra S 141 (15 + v1))) (Int32.toInt64 (ra S 141 (3 + v2))) (Int32.toInt64 (ra S 141 (15 + v2))) (Int32.toInt64 (ra S 141 (3 + v3))) (Int32.toInt64 (ra S 141 (15 + v3))))) else f_203 (f_202 (Int32.toInt64 (ra S 141 (3 + v1))) (Int32.toInt64 (ra S 141 (15 + v1))) (Int32.toInt64 (ra S 141 (3 + v2))) (Int32.toInt64 (ra S 141 (15 + v2))) (Int32.toInt64 (ra S 141 (3 + v3))) (Int32.toInt64 (ra S 141 (15 + v3))))) : Int32) = -(f_203 (f_202 (Int32.toInt64 (ra S 141 (3 + v1))) (Int32.toInt64 (ra S 141 (15 + v1))) (Int32.toInt64 (ra S 141 (3 + v2))) (Int32.toInt64 (ra S 141 (15 + v2))) (Int32.toInt64 (ra S 141 (3 + v3))) (Int32.toInt64 (ra S 141 (15 + v3))))) := by simp [b2i, hc1]
    rw [e] at j1
    exact j1
  · refine go_run mm_235 1 (pc' := 80) (ls' := [some (.ref 140), some (.int v1), some (.int v2), some (.int v3), some (.int (f_203 (f_202 (Int32.toInt64 (ra S 141 (3 + v1))) (Int32.toInt64 (ra S 141 (15 + v1))) (Int32.toInt64 (ra S 141 (3 + v2))) (Int32.toInt64 (ra S 141 (15 + v2))) (Int32.toInt64 (ra S 141 (3 + v3))) (Int32.toInt64 (ra S 141 (15 + v3))))))]) (st' := [.int (f_203 (f_202 (Int32.toInt64 (ra S 141 (3 + v1))) (Int32.toInt64 (ra S 141 (15 + v1))) (Int32.toInt64 (ra S 141 (3 + v2))) (Int32.toInt64 (ra S 141 (15 + v2))) (Int32.toInt64 (ra S 141 (3 + v3))) (Int32.toInt64 (ra S 141 (15 + v3)))))]) (S' := S) rfl ?_
    have e : ((if (f_233 S) < 0 then -(f_203 (f_202 (Int32.toInt64 (ra S 141 (3 + v1))) (Int32.toInt64 (ra S 141 (15 + v1))) (Int32.toInt64 (ra S 141 (3 + v2))) (Int32.toInt64 (ra S 141 (15 + v2))) (Int32.toInt64 (ra S 141 (3 + v3))) (Int32.toInt64 (ra S 141 (15 + v3))))) else f_203 (f_202 (Int32.toInt64 (ra S 141 (3 + v1))) (Int32.toInt64 (ra S 141 (15 + v1))) (Int32.toInt64 (ra S 141 (3 + v2))) (Int32.toInt64 (ra S 141 (15 + v2))) (Int32.toInt64 (ra S 141 (3 + v3))) (Int32.toInt64 (ra S 141 (15 + v3))))) : Int32) = f_203 (f_202 (Int32.toInt64 (ra S 141 (3 + v1))) (Int32.toInt64 (ra S 141 (15 + v1))) (Int32.toInt64 (ra S 141 (3 + v2))) (Int32.toInt64 (ra S 141 (15 + v2))) (Int32.toInt64 (ra S 141 (3 + v3))) (Int32.toInt64 (ra S 141 (15 + v3)))) := by simp [b2i, hc1]
    rw [e] at j1
    exact j1
theorem sp_235 {d : Nat} {S : ST} {v1 : Int32} {v2 : Int32} {v3 : Int32} (o1 : inB (3 + v1) 63) (o2 : inB (15 + v1) 63) (o3 : inB (3 + v2) 63) (o4 : inB (15 + v2) 63) (o5 : inB (3 + v3) 63) (o6 : inB (15 + v3) 63) (o7 : RW S 141) : Cal XM (d + 2) 235 [.ref 140, .int v1, .int v2, .int v3] S (RV (some (.int (f_235 S v1 v2 v3))) S) := by
  refine cal_go 1 rfl (b_235_0 o1 o2 o3 o4 o5 o6 o7 ?_)
  · exact ⟨rfl, rfl, rfl⟩
theorem sq_235 {d : Nat} {S : ST} {v1 v2 v3 : Int32} (h1 : RI S 141 v1) (h2 : RI S 141 v2) (h3 : RI S 141 v3) : Cal XM (d + 2) 235 [.ref 140, .int v1, .int v2, .int v3] S (RV (some (.int (f_235 S v1 v2 v3))) S) := sp_235 (RI_3 h1) (RI_15 h1) (RI_3 h2) (RI_15 h2) (RI_3 h3) (RI_15 h3) h1.1
theorem mm_236 : mtG 236 = some (mi_236, 12, ft_236) := rfl
theorem b_236_0 {d c : Nat} {R : RT} {S : ST} (e1 : (decide (S.1 140 1 = 0)) = true → R c (.inr (some (.int 0))) (wI S 140 0 (tz (decide (S.1 140 1 = 0)) 1))) (e2 : (decide (S.1 140 1 = 0)) = false → Go XM (d + 3) 236 c 22 [some (.ref 140), some (.int 0), some (.int ((S.1 141 0) - 1)), some (.int 0)] [] (wI S 140 0 (tz (decide (S.1 140 1 = 0)) 1)) R) : Go XM (d + 3) 236 c 0 [some (.ref 140), none, none, none] [] S R := by
  refine go_run mm_236 1 (pc' := 1) (ls' := [some (.ref 140), none, none, none]) (st' := [.ref 140]) (S' := S) rfl ?_
  refine go_cv mm_236 (h := 140) (As := []) (rest := []) (nl := 1) rfl XM_140 (show cvOK 236 1 247 184 0 1 11 = true by decide +kernel) rfl rfl rfl (sq_184) (KP_V ?_)
  refine go_ifb mm_236 rfl (p1 := 7) (p2 := 9) rfl (fun (hc1 : (decide (S.1 140 1 = 0)) = true) => ?_) (fun (hc1 : (decide (S.1 140 1 = 0)) = false) => ?_)
  · refine go_run mm_236 1 (pc' := 8) (ls' := [some (.ref 140), none, none, none]) (st' := [.int 0]) (S' := (wI S 140 0 (tz (decide (S.1 140 1 = 0)) 1))) rfl ?_
    exact go_ireturn mm_236 rfl rfl (e1 hc1)
  · refine go_run mm_236 5 (pc' := 16) (ls' := [some (.ref 140), some (.int 0), none, none]) (st' := [.int 0, .ref 141]) (S' := (wI S 140 0 (tz (decide (S.1 140 1 = 0)) 1))) rfl ?_
    refine go_iaload mm_236 (q := 0) rfl rfl rfl (inB_lit rfl) ?_
    refine go_run mm_236 5 (pc' := 22) (ls' := [some (.ref 140), some (.int 0), some (.int ((S.1 141 0) - 1)), some (.int 0)]) (st' := []) (S' := (wI S 140 0 (tz (decide (S.1 140 1 = 0)) 1))) rfl ?_
    exact e2 hc1
theorem b_236_22 {d c : Nat} {R : RT} {S : ST} {v1 : Int32} {v2 : Int32} {v3 : Int32} (o1 : v3 < (S.1 141 0) → RI S 141 v2) (o2 : v3 < (S.1 141 0) → RI S 141 v3) (o3 : v3 < (S.1 141 0) → RI S 141 (f_204 S 141 v3)) (e1 : v3 < (S.1 141 0) → Go XM (d + 3) 236 c 22 [some (.ref 140), some (.int (v1 ||| (if (f_235 S v2 v3 (f_204 S 141 v3)) < 0 then 1 <<< (v3 &&& 31) else 0))), some (.int v3), some (.int (v3 + 1))] [] S R) (e2 : ¬ v3 < (S.1 141 0) → R c (.inr (some (.int v1))) S) : Go XM (d + 3) 236 c 22 [some (.ref 140), some (.int v1), some (.int v2), some (.int v3)] [] S R := by
  refine go_run mm_236 4 (pc' := 28) (ls' := [some (.ref 140), some (.int v1), some (.int v2), some (.int v3)]) (st' := [.int 0, .ref 141, .int v3]) (S' := S) rfl ?_
  refine go_iaload mm_236 (q := 0) rfl rfl rfl (inB_lit rfl) ?_
  refine go_if2 mm_236 rfl (p1 := 32) (p2 := 67) rfl (fun (hc1 : v3 < (S.1 141 0)) => ?_) (fun (hc1 : ¬ v3 < (S.1 141 0)) => ?_)
  · refine go_run mm_236 7 (pc' := 41) (ls' := [some (.ref 140), some (.int v1), some (.int v2), some (.int v3)]) (st' := [.int v3, .ref 141, .int v3, .int v2, .ref 140, .int v1]) (S' := S) rfl ?_
    refine go_cs mm_236 (av := [.ref 141, .int v3]) (rest := [.int v3, .int v2, .ref 140, .int v1]) (nl := 2) rfl (show csOK 236 41 208 204 2 2 = true by decide +kernel) rfl rfl rfl (sp_204 rfl) (KP_V ?_)
    refine go_cv mm_236 (h := 140) (As := [.int v2, .int v3, .int (f_204 S 141 v3)]) (rest := [.int v1]) (nl := 5) rfl XM_140 (show cvOK 236 44 263 235 3 5 11 = true by decide +kernel) rfl rfl rfl (sq_235 (o1 hc1) (o2 hc1) (o3 hc1)) (KP_V ?_)
    have j1 : Go XM (d + 3) 236 c 57 [some (.ref 140), some (.int v1), some (.int v2), some (.int v3)] [.int (if (f_235 S v2 v3 (f_204 S 141 v3)) < 0 then 1 <<< (v3 &&& 31) else 0), .int v1] S R := by
      refine go_run mm_236 6 (pc' := 22) (ls' := [some (.ref 140), some (.int (v1 ||| (if (f_235 S v2 v3 (f_204 S 141 v3)) < 0 then 1 <<< (v3 &&& 31) else 0))), some (.int v3), some (.int (v3 + 1))]) (st' := []) (S' := S) rfl ?_
      exact e1 hc1
    refine go_if0 mm_236 rfl (p1 := 50) (p2 := 56) rfl (fun (hc2 : (f_235 S v2 v3 (f_204 S 141 v3)) < 0) => ?_) (fun (hc2 : ¬ (f_235 S v2 v3 (f_204 S 141 v3)) < 0) => ?_)
    · refine go_run mm_236 4 (pc' := 57) (ls' := [some (.ref 140), some (.int v1), some (.int v2), some (.int v3)]) (st' := [.int (1 <<< (v3 &&& 31)), .int v1]) (S' := S) rfl ?_
      have e : ((if (f_235 S v2 v3 (f_204 S 141 v3)) < 0 then 1 <<< (v3 &&& 31) else 0) : Int32) = 1 <<< (v3 &&& 31) := by simp [b2i, hc2]
      rw [e] at j1
      exact j1
    · refine go_run mm_236 1 (pc' := 57) (ls' := [some (.ref 140), some (.int v1), some (.int v2), some (.int v3)]) (st' := [.int 0, .int v1]) (S' := S) rfl ?_
      have e : ((if (f_235 S v2 v3 (f_204 S 141 v3)) < 0 then 1 <<< (v3 &&& 31) else 0) : Int32) = 0 := by simp [b2i, hc2]
      rw [e] at j1
      exact j1
  · refine go_run mm_236 1 (pc' := 68) (ls' := [some (.ref 140), some (.int v1), some (.int v2), some (.int v3)]) (st' := [.int v1]) (S' := S) rfl ?_
    exact go_ireturn mm_236 rfl rfl (e2 hc1)
theorem mm_237 : mtG 237 = some (mi_237, 12, ft_237) := rfl
theorem b_237_0 {d c : Nat} {R : RT} {S : ST} (e1 : (decide (S.1 140 1 = 0)) = true → R c (.inr (some (.long 0))) (wI S 140 0 (tz (decide (S.1 140 1 = 0)) 1))) (e2 : (decide (S.1 140 1 = 0)) = false → Go XM (d + 4) 237 c 13 [some (.ref 140), some (.long 0), none, some (.int 0)] [] (wI S 140 0 (tz (decide (S.1 140 1 = 0)) 1)) R) : Go XM (d + 4) 237 c 0 [some (.ref 140), none, none, none] [] S R := by
  refine go_run mm_237 1 (pc' := 1) (ls' := [some (.ref 140), none, none, none]) (st' := [.ref 140]) (S' := S) rfl ?_
  refine go_cv mm_237 (h := 140) (As := []) (rest := []) (nl := 1) rfl XM_140 (show cvOK 237 1 247 184 0 1 11 = true by decide +kernel) rfl rfl rfl (sq_184) (KP_V ?_)
  refine go_ifb mm_237 rfl (p1 := 7) (p2 := 9) rfl (fun (hc1 : (decide (S.1 140 1 = 0)) = true) => ?_) (fun (hc1 : (decide (S.1 140 1 = 0)) = false) => ?_)
  · refine go_run mm_237 1 (pc' := 8) (ls' := [some (.ref 140), none, none, none]) (st' := [.long 0]) (S' := (wI S 140 0 (tz (decide (S.1 140 1 = 0)) 1))) rfl ?_
    exact go_lreturn mm_237 rfl rfl (e1 hc1)
  · refine go_run mm_237 4 (pc' := 13) (ls' := [some (.ref 140), some (.long 0), none, some (.int 0)]) (st' := []) (S' := (wI S 140 0 (tz (decide (S.1 140 1 = 0)) 1))) rfl ?_
    exact e2 hc1
theorem b_237_13 {d c : Nat} {R : RT} {S : ST} {v1 : Int64} {v3 : Int32} (o1 : v3 < (S.1 140 20) → inB v3 64) (o2 : v3 < (S.1 140 20) → RW S 141) (e1 : v3 < (S.1 140 20) → Go XM (d + 4) 237 c 13 [some (.ref 140), some (.long (v1 ||| (if (f_207 S 141 (Int32.toInt64 (ra S 147 v3)) (Int32.toInt64 (ra S 148 v3)) 1) = true then 1 <<< (Int32.toInt64 v3 &&& 63) else 0))), none, some (.int (v3 + 1))] [] S R) (e2 : ¬ v3 < (S.1 140 20) → R c (.inr (some (.long v1))) S) : Go XM (d + 4) 237 c 13 [some (.ref 140), some (.long v1), none, some (.int v3)] [] S R := by
  refine go_run mm_237 3 (pc' := 18) (ls' := [some (.ref 140), some (.long v1), none, some (.int v3)]) (st' := [.int (S.1 140 20), .int v3]) (S' := S) rfl ?_
  refine go_if2 mm_237 rfl (p1 := 21) (p2 := 62) rfl (fun (hc1 : v3 < (S.1 140 20)) => ?_) (fun (hc1 : ¬ v3 < (S.1 140 20)) => ?_)
  · refine go_run mm_237 6 (pc' := 31) (ls' := [some (.ref 140), some (.long v1), none, some (.int v3)]) (st' := [.int v3, .ref 147, .ref 141, .long v1]) (S' := S) rfl ?_
    refine go_iaload mm_237 (q := (Int32.toNatClampNeg v3)) rfl rfl rfl (o1 hc1) ?_
    refine go_run mm_237 4 (pc' := 38) (ls' := [some (.ref 140), some (.long v1), none, some (.int v3)]) (st' := [.int v3, .ref 148, .long (Int32.toInt64 (ra S 147 v3)), .ref 141, .long v1]) (S' := S) rfl ?_
    refine go_iaload mm_237 (q := (Int32.toNatClampNeg v3)) rfl rfl rfl (o1 hc1) ?_
    refine go_run mm_237 2 (pc' := 41) (ls' := [some (.ref 140), some (.long v1), none, some (.int v3)]) (st' := [.long 1, .long (Int32.toInt64 (ra S 148 v3)), .long (Int32.toInt64 (ra S 147 v3)), .ref 141, .long v1]) (S' := S) rfl ?_
    refine go_cs mm_237 (av := [.ref 141, .long (Int32.toInt64 (ra S 147 v3)), .long (Int32.toInt64 (ra S 148 v3)), .long 1]) (rest := [.long v1]) (nl := 8) rfl (show csOK 237 41 220 207 4 8 = true by decide +kernel) rfl rfl rfl (sq_207 rfl (o2 hc1)) (KP_V ?_)
    have j1 : Go XM (d + 4) 237 c 54 [some (.ref 140), some (.long v1), none, some (.int v3)] [.long (if (f_207 S 141 (Int32.toInt64 (ra S 147 v3)) (Int32.toInt64 (ra S 148 v3)) 1) = true then 1 <<< (Int32.toInt64 v3 &&& 63) else 0), .long v1] S R := by
      refine go_run mm_237 4 (pc' := 13) (ls' := [some (.ref 140), some (.long (v1 ||| (if (f_207 S 141 (Int32.toInt64 (ra S 147 v3)) (Int32.toInt64 (ra S 148 v3)) 1) = true then 1 <<< (Int32.toInt64 v3 &&& 63) else 0))), none, some (.int (v3 + 1))]) (st' := []) (S' := S) rfl ?_
      exact e1 hc1
    refine go_ifb mm_237 rfl (p1 := 47) (p2 := 53) rfl (fun (hc2 : (f_207 S 141 (Int32.toInt64 (ra S 147 v3)) (Int32.toInt64 (ra S 148 v3)) 1) = true) => ?_) (fun (hc2 : (f_207 S 141 (Int32.toInt64 (ra S 147 v3)) (Int32.toInt64 (ra S 148 v3)) 1) = false) => ?_)
    · refine go_run mm_237 4 (pc' := 54) (ls' := [some (.ref 140), some (.long v1), none, some (.int v3)]) (st' := [.long (1 <<< (Int32.toInt64 v3 &&& 63)), .long v1]) (S' := S) rfl ?_
      have e : ((if (f_207 S 141 (Int32.toInt64 (ra S 147 v3)) (Int32.toInt64 (ra S 148 v3)) 1) = true then 1 <<< (Int32.toInt64 v3 &&& 63) else 0) : Int64) = 1 <<< (Int32.toInt64 v3 &&& 63) := by simp [hc2]
      rw [e] at j1
      exact j1
    · refine go_run mm_237 1 (pc' := 54) (ls' := [some (.ref 140), some (.long v1), none, some (.int v3)]) (st' := [.long 0, .long v1]) (S' := S) rfl ?_
      have e : ((if (f_207 S 141 (Int32.toInt64 (ra S 147 v3)) (Int32.toInt64 (ra S 148 v3)) 1) = true then 1 <<< (Int32.toInt64 v3 &&& 63) else 0) : Int64) = 0 := by simp [hc2]
      rw [e] at j1
      exact j1
  · refine go_run mm_237 1 (pc' := 63) (ls' := [some (.ref 140), some (.long v1), none, some (.int v3)]) (st' := [.long v1]) (S' := S) rfl ?_
    exact go_lreturn mm_237 rfl rfl (e2 hc1)
section Q3
variable {d : Nat} {S : ST}
theorem q_236 (M : MOK S) : Cal XM (d + 3) 236 [.ref 140] S (RQi S) := by
  refine cal_go 3 rfl (b_236_0 (fun _ => Qi_t M) (fun h => ?_))
  have hp := np_f h
  have hL := (M.2.1 hp).1
  have hW := hL.1.1
  have h12 := hW.2
  have h3 := hL.1.2.1
  generalize tz (decide (S.1 140 1 = 0)) 1 = t
  have hW' : RW (wI S 140 0 t) 141 := hW
  have key : ∀ m i a b, i + m = rN S 141 → b < rN S 141 → Go XM (d + 3) 236 0 22 [some (.ref 140), some (.int a), some (.int (nJ b)), some (.int (nJ i))] [] (wI S 140 0 t) (RQi S) := by
    intro m
    induction m with
    | zero =>
      intro i a b hi hb
      have hn : ¬ nJ i < (wI S 140 0 t).1 141 0 := by rw [hW'.1, nJ_lt (by omega) (by show rN S 141 < _; omega)]; show ¬ i < rN S 141; omega
      exact b_236_22 (fun q => absurd q hn) (fun q => absurd q hn) (fun q => absurd q hn) (fun q => absurd q hn) (fun _ => Qi_t M)
    | succ m ih =>
      intro i a b hi hb
      have hlt : nJ i < (wI S 140 0 t).1 141 0 := by rw [hW'.1, nJ_lt (by omega) (by show rN S 141 < _; omega)]; show i < rN S 141; omega
      have hI : RI (wI S 140 0 t) 141 (nJ i) := ⟨hW', i, rfl, by show i < rN S 141; omega⟩
      have hB : RI (wI S 140 0 t) 141 (nJ b) := ⟨hW', b, rfl, hb⟩
      refine b_236_22 (fun _ => hB) (fun _ => hI) (fun _ => RI_aft hI) (fun _ => ?_) (fun q => absurd hlt q)
      rw [nJ_succ]
      exact ih (i + 1) _ i (by omega) (by omega)
  have e : S.1 141 0 - 1 = nJ (rN S 141 - 1) := by
    rw [hW.1]
    exact nJ_sub (j := 1) (by omega)
  rw [e]
  exact key (rN S 141) 0 0 (rN S 141 - 1) (by omega) (by omega)
theorem q_237 (M : MOK S) : Cal XM (d + 4) 237 [.ref 140] S (RQl S) := by
  refine cal_go 3 rfl (b_237_0 (fun _ => Ql_t M) (fun h => ?_))
  have hL := (M.2.1 (np_f h)).1
  obtain ⟨hP, h64⟩ := Ld_P hL
  generalize tz (decide (S.1 140 1 = 0)) 1 = t
  have hW' : RW (wI S 140 0 t) 141 := hL.1.1
  have hP' : (wI S 140 0 t).1 140 20 = nJ (nP S) := hP
  have key : ∀ m i a, i + m = nP S → Go XM (d + 4) 237 0 13 [some (.ref 140), some (.long a), none, some (.int (nJ i))] [] (wI S 140 0 t) (RQl S) := by
    intro m
    induction m with
    | zero =>
      intro i a hi
      have hn : ¬ nJ i < (wI S 140 0 t).1 140 20 := by rw [hP', nJ_lt (by omega) (by omega)]; omega
      exact b_237_13 (fun q => absurd q hn) (fun q => absurd q hn) (fun q => absurd q hn) (fun _ => Ql_t M)
    | succ m ih =>
      intro i a hi
      have hlt : nJ i < (wI S 140 0 t).1 140 20 := by rw [hP', nJ_lt (by omega) (by omega)]; omega
      refine b_237_13 (fun _ => nJ_inB (by omega) (by omega)) (fun _ => hW') (fun _ => ?_) (fun q => absurd hlt q)
      rw [nJ_succ]
      exact ih (i + 1) _ (by omega)
  exact key (nP S) 0 0 (by omega)
theorem q_234 (M : MOK S) : Cal XM (d + 2) 234 [.ref 140] S (RQi S) := by
  refine (sp_234 ?_ ?_ ?_).V_i (Qq_t M _)
  · exact fun h => (M.2.1 (np_f h)).1.1.1
  · exact fun h _ => (M.2.1 (np_f h)).1.1.1
  · exact fun h _ => (M.2.1 (np_f h)).1.1.1
end Q3
theorem mm_241 : mtG 241 = some (mi_241, 12, ft_241) := rfl
theorem b_241_0 {d c : Nat} {R : RT} {S : ST} {v1 : Int32} {v2 : Int32} (e1 : (nb S v1 (S.1 140 20 - 1)) = true → R c (.inr (some (.int 0))) (wI S 140 0 (tb S v1 (S.1 140 20 - 1)))) (e2 : (nb S v1 (S.1 140 20 - 1)) = false → (!(decide (rf (tb S v1 (S.1 140 20 - 1)) (!(f_182 v2 0 ((S.1 140 20) - 1))) 2 = 0))) = true → R c (.inr (some (.int 0))) (wI (wI S 140 0 (tb S v1 (S.1 140 20 - 1))) 140 0 (rf (tb S v1 (S.1 140 20 - 1)) (!(f_182 v2 0 ((S.1 140 20) - 1))) 2))) (e3 : (nb S v1 (S.1 140 20 - 1)) = false → (!(decide (rf (tb S v1 (S.1 140 20 - 1)) (!(f_182 v2 0 ((S.1 140 20) - 1))) 2 = 0))) = false → Go XM (d + 7) 241 c 38 [some (.ref 140), some (.int v1), some (.int v2)] [.ref 140] (wI (wI S 140 0 (tb S v1 (S.1 140 20 - 1))) 140 0 (rf (tb S v1 (S.1 140 20 - 1)) (!(f_182 v2 0 ((S.1 140 20) - 1))) 2)) R) : Go XM (d + 7) 241 c 0 [some (.ref 140), some (.int v1), some (.int v2)] [] S R := by
  refine go_run mm_241 2 (pc' := 2) (ls' := [some (.ref 140), some (.int v1), some (.int v2)]) (st' := [.int v1, .ref 140]) (S' := S) rfl ?_
  refine go_cv mm_241 (h := 140) (As := [.int v1]) (rest := []) (nl := 2) rfl XM_140 (show cvOK 241 2 254 226 1 2 11 = true by decide +kernel) rfl rfl rfl (sq_226) (KP_V ?_)
  refine go_ifb mm_241 rfl (p1 := 35) (p2 := 8) rfl (fun (hc1 : (nb S v1 (S.1 140 20 - 1)) = true) => ?_) (fun (hc1 : (nb S v1 (S.1 140 20 - 1)) = false) => ?_)
  · refine go_run mm_241 1 (pc' := 36) (ls' := [some (.ref 140), some (.int v1), some (.int v2)]) (st' := [.int 0]) (S' := (wI S 140 0 (tb S v1 (S.1 140 20 - 1)))) rfl ?_
    exact go_zreturn mm_241 rfl rfl (Or.inl rfl) (e1 hc1)
  · refine go_run mm_241 7 (pc' := 17) (ls' := [some (.ref 140), some (.int v1), some (.int v2)]) (st' := [.int ((S.1 140 20) - 1), .int 0, .int v2, .ref 140]) (S' := (wI S 140 0 (tb S v1 (S.1 140 20 - 1)))) rfl ?_
    refine go_cs mm_241 (av := [.int v2, .int 0, .int ((S.1 140 20) - 1)]) (rest := [.ref 140]) (nl := 3) rfl (show csOK 241 17 148 182 3 3 = true by decide +kernel) rfl rfl rfl (sp_182) (KP_V ?_)
    have j1 : Go XM (d + 7) 241 c 28 [some (.ref 140), some (.int v1), some (.int v2)] [.int (b2i (!(f_182 v2 0 ((S.1 140 20) - 1)))), .ref 140] (wI S 140 0 (tb S v1 (S.1 140 20 - 1))) R := by
      refine go_run mm_241 1 (pc' := 29) (ls' := [some (.ref 140), some (.int v1), some (.int v2)]) (st' := [.int 2, .int (b2i (!(f_182 v2 0 ((S.1 140 20) - 1)))), .ref 140]) (S' := (wI S 140 0 (tb S v1 (S.1 140 20 - 1)))) rfl ?_
      refine go_cv mm_241 (h := 140) (As := [.int (b2i (!(f_182 v2 0 ((S.1 140 20) - 1)))), .int 2]) (rest := []) (nl := 3) rfl XM_140 (show cvOK 241 29 86 183 2 3 11 = true by decide +kernel) rfl rfl rfl (sq_183) (KP_V ?_)
      refine go_ifb mm_241 rfl (p1 := 35) (p2 := 37) rfl (fun (hc2 : (!(decide (rf (tb S v1 (S.1 140 20 - 1)) (!(f_182 v2 0 ((S.1 140 20) - 1))) 2 = 0))) = true) => ?_) (fun (hc2 : (!(decide (rf (tb S v1 (S.1 140 20 - 1)) (!(f_182 v2 0 ((S.1 140 20) - 1))) 2 = 0))) = false) => ?_)
      · refine go_run mm_241 1 (pc' := 36) (ls' := [some (.ref 140), some (.int v1), some (.int v2)]) (st' := [.int 0]) (S' := (wI (wI S 140 0 (tb S v1 (S.1 140 20 - 1))) 140 0 (rf (tb S v1 (S.1 140 20 - 1)) (!(f_182 v2 0 ((S.1 140 20) - 1))) 2))) rfl ?_
        exact go_zreturn mm_241 rfl rfl (Or.inl rfl) (e2 hc1 hc2)
      · refine go_run mm_241 1 (pc' := 38) (ls' := [some (.ref 140), some (.int v1), some (.int v2)]) (st' := [.ref 140]) (S' := (wI (wI S 140 0 (tb S v1 (S.1 140 20 - 1))) 140 0 (rf (tb S v1 (S.1 140 20 - 1)) (!(f_182 v2 0 ((S.1 140 20) - 1))) 2))) rfl ?_
        exact e3 hc1 hc2
    refine go_ifb mm_241 rfl (p1 := 27) (p2 := 23) rfl (fun (hc2 : (f_182 v2 0 ((S.1 140 20) - 1)) = true) => ?_) (fun (hc2 : (f_182 v2 0 ((S.1 140 20) - 1)) = false) => ?_)
    · refine go_run mm_241 1 (pc' := 28) (ls' := [some (.ref 140), some (.int v1), some (.int v2)]) (st' := [.int 0, .ref 140]) (S' := (wI S 140 0 (tb S v1 (S.1 140 20 - 1)))) rfl ?_
      have e : ((b2i (!(f_182 v2 0 ((S.1 140 20) - 1)))) : Int32) = 0 := by simp [b2i, hc2]
      rw [e] at j1
      exact j1
    · refine go_run mm_241 2 (pc' := 28) (ls' := [some (.ref 140), some (.int v1), some (.int v2)]) (st' := [.int 1, .ref 140]) (S' := (wI S 140 0 (tb S v1 (S.1 140 20 - 1)))) rfl ?_
      have e : ((b2i (!(f_182 v2 0 ((S.1 140 20) - 1)))) : Int32) = 1 := by simp [b2i, hc2]
      rw [e] at j1
      exact j1
theorem b_241_41 {d c : Nat} {R : RT} {S : ST} {v1 : Int32} {v2 : Int32} (o1 : inB v1 64) (e1 : R c (.inr (some (.int (b2i (f_217 (rl S 153 v1) v2))))) S) : Go XM (d + 7) 241 c 41 [some (.ref 140), some (.int v1), some (.int v2)] [] S R := by
  refine go_run mm_241 3 (pc' := 46) (ls' := [some (.ref 140), some (.int v1), some (.int v2)]) (st' := [.int v1, .ref 153]) (S' := S) rfl ?_
  refine go_laload mm_241 (q := (Int32.toNatClampNeg v1)) rfl rfl rfl (o1) ?_
  refine go_run mm_241 1 (pc' := 48) (ls' := [some (.ref 140), some (.int v1), some (.int v2)]) (st' := [.int v2, .long (rl S 153 v1)]) (S' := S) rfl ?_
  refine go_cs mm_241 (av := [.long (rl S 153 v1), .int v2]) (rest := []) (nl := 3) rfl (show csOK 241 48 282 217 2 3 = true by decide +kernel) rfl rfl rfl (sp_217) (KP_V ?_)
  exact go_zreturn mm_241 rfl rfl (b2i_01 _) (e1)
theorem mm_242 : mtG 242 = some (mi_242, 12, ft_242) := rfl
theorem b_242_0 {d c : Nat} {R : RT} {S : ST} {v1 : Int32} (e1 : (nb S v1 (S.1 140 20 - 1)) = true → R c (.inr (some (.long 0))) (wI S 140 0 (tb S v1 (S.1 140 20 - 1)))) (e2 : (nb S v1 (S.1 140 20 - 1)) = false → Go XM (d + 7) 242 c 11 [some (.ref 140), some (.int v1)] [.ref 140] (wI S 140 0 (tb S v1 (S.1 140 20 - 1))) R) : Go XM (d + 7) 242 c 0 [some (.ref 140), some (.int v1)] [] S R := by
  refine go_run mm_242 2 (pc' := 2) (ls' := [some (.ref 140), some (.int v1)]) (st' := [.int v1, .ref 140]) (S' := S) rfl ?_
  refine go_cv mm_242 (h := 140) (As := [.int v1]) (rest := []) (nl := 2) rfl XM_140 (show cvOK 242 2 254 226 1 2 11 = true by decide +kernel) rfl rfl rfl (sq_226) (KP_V ?_)
  refine go_ifb mm_242 rfl (p1 := 8) (p2 := 10) rfl (fun (hc1 : (nb S v1 (S.1 140 20 - 1)) = true) => ?_) (fun (hc1 : (nb S v1 (S.1 140 20 - 1)) = false) => ?_)
  · refine go_run mm_242 1 (pc' := 9) (ls' := [some (.ref 140), some (.int v1)]) (st' := [.long 0]) (S' := (wI S 140 0 (tb S v1 (S.1 140 20 - 1)))) rfl ?_
    exact go_lreturn mm_242 rfl rfl (e1 hc1)
  · refine go_run mm_242 1 (pc' := 11) (ls' := [some (.ref 140), some (.int v1)]) (st' := [.ref 140]) (S' := (wI S 140 0 (tb S v1 (S.1 140 20 - 1)))) rfl ?_
    exact e2 hc1
theorem b_242_14 {d c : Nat} {R : RT} {S : ST} {v1 : Int32} (o1 : inB v1 64) (e1 : R c (.inr (some (.long (rl S 153 v1)))) S) : Go XM (d + 7) 242 c 14 [some (.ref 140), some (.int v1)] [] S R := by
  refine go_run mm_242 3 (pc' := 19) (ls' := [some (.ref 140), some (.int v1)]) (st' := [.int v1, .ref 153]) (S' := S) rfl ?_
  refine go_laload mm_242 (q := (Int32.toNatClampNeg v1)) rfl rfl rfl (o1) ?_
  exact go_lreturn mm_242 rfl rfl (e1)
theorem mm_243 : mtG 243 = some (mi_243, 12, ft_243) := rfl
theorem b_243_0 {d c : Nat} {R : RT} {S : ST} (e1 : (decide (S.1 140 1 = 0)) = true → R c (.inr (some (.long 0))) (wI S 140 0 (tz (decide (S.1 140 1 = 0)) 1))) (e2 : (decide (S.1 140 1 = 0)) = false → Go XM (d + 7) 243 c 10 [some (.ref 140), none, none, none] [.ref 140] (wI S 140 0 (tz (decide (S.1 140 1 = 0)) 1)) R) : Go XM (d + 7) 243 c 0 [some (.ref 140), none, none, none] [] S R := by
  refine go_run mm_243 1 (pc' := 1) (ls' := [some (.ref 140), none, none, none]) (st' := [.ref 140]) (S' := S) rfl ?_
  refine go_cv mm_243 (h := 140) (As := []) (rest := []) (nl := 1) rfl XM_140 (show cvOK 243 1 247 184 0 1 11 = true by decide +kernel) rfl rfl rfl (sq_184) (KP_V ?_)
  refine go_ifb mm_243 rfl (p1 := 7) (p2 := 9) rfl (fun (hc1 : (decide (S.1 140 1 = 0)) = true) => ?_) (fun (hc1 : (decide (S.1 140 1 = 0)) = false) => ?_)
  · refine go_run mm_243 1 (pc' := 8) (ls' := [some (.ref 140), none, none, none]) (st' := [.long 0]) (S' := (wI S 140 0 (tz (decide (S.1 140 1 = 0)) 1))) rfl ?_
    exact go_lreturn mm_243 rfl rfl (e1 hc1)
  · refine go_run mm_243 1 (pc' := 10) (ls' := [some (.ref 140), none, none, none]) (st' := [.ref 140]) (S' := (wI S 140 0 (tz (decide (S.1 140 1 = 0)) 1))) rfl ?_
    exact e2 hc1
theorem b_243_13 {d c : Nat} {R : RT} {S : ST} (e1 : Go XM (d + 7) 243 c 17 [some (.ref 140), some (.long 0), none, some (.int 0)] [] S R) : Go XM (d + 7) 243 c 13 [some (.ref 140), none, none, none] [] S R := by
  refine go_run mm_243 4 (pc' := 17) (ls' := [some (.ref 140), some (.long 0), none, some (.int 0)]) (st' := []) (S' := S) rfl ?_
  exact e1
theorem b_243_17 {d c : Nat} {R : RT} {S : ST} {v1 : Int64} {v3 : Int32} (o1 : v3 < (S.1 140 20) → inB v3 64) (e1 : v3 < (S.1 140 20) → Go XM (d + 7) 243 c 17 [some (.ref 140), some (.long (v1 ||| (if (rl S 153 v3) = (f_216 S) then 1 <<< (Int32.toInt64 v3 &&& 63) else 0))), none, some (.int (v3 + 1))] [] S R) (e2 : ¬ v3 < (S.1 140 20) → R c (.inr (some (.long v1))) S) : Go XM (d + 7) 243 c 17 [some (.ref 140), some (.long v1), none, some (.int v3)] [] S R := by
  refine go_run mm_243 3 (pc' := 22) (ls' := [some (.ref 140), some (.long v1), none, some (.int v3)]) (st' := [.int (S.1 140 20), .int v3]) (S' := S) rfl ?_
  refine go_if2 mm_243 rfl (p1 := 25) (p2 := 55) rfl (fun (hc1 : v3 < (S.1 140 20)) => ?_) (fun (hc1 : ¬ v3 < (S.1 140 20)) => ?_)
  · refine go_run mm_243 4 (pc' := 31) (ls' := [some (.ref 140), some (.long v1), none, some (.int v3)]) (st' := [.int v3, .ref 153, .long v1]) (S' := S) rfl ?_
    refine go_laload mm_243 (q := (Int32.toNatClampNeg v3)) rfl rfl rfl (o1 hc1) ?_
    refine go_run mm_243 1 (pc' := 33) (ls' := [some (.ref 140), some (.long v1), none, some (.int v3)]) (st' := [.ref 140, .long (rl S 153 v3), .long v1]) (S' := S) rfl ?_
    refine go_cv mm_243 (h := 140) (As := []) (rest := [.long (rl S 153 v3), .long v1]) (nl := 1) rfl XM_140 (show cvOK 243 33 286 216 0 1 11 = true by decide +kernel) rfl rfl rfl (sp_216) (KP_V ?_)
    have j1 : Go XM (d + 7) 243 c 47 [some (.ref 140), some (.long v1), none, some (.int v3)] [.long (if (rl S 153 v3) = (f_216 S) then 1 <<< (Int32.toInt64 v3 &&& 63) else 0), .long v1] S R := by
      refine go_run mm_243 4 (pc' := 17) (ls' := [some (.ref 140), some (.long (v1 ||| (if (rl S 153 v3) = (f_216 S) then 1 <<< (Int32.toInt64 v3 &&& 63) else 0))), none, some (.int (v3 + 1))]) (st' := []) (S' := S) rfl ?_
      exact e1 hc1
    refine go_lif mm_243 rfl rfl (p1 := 40) (p2 := 46) rfl (fun (hc2 : (rl S 153 v3) = (f_216 S)) => ?_) (fun (hc2 : ¬ (rl S 153 v3) = (f_216 S)) => ?_)
    · refine go_run mm_243 4 (pc' := 47) (ls' := [some (.ref 140), some (.long v1), none, some (.int v3)]) (st' := [.long (1 <<< (Int32.toInt64 v3 &&& 63)), .long v1]) (S' := S) rfl ?_
      have e : ((if (rl S 153 v3) = (f_216 S) then 1 <<< (Int32.toInt64 v3 &&& 63) else 0) : Int64) = 1 <<< (Int32.toInt64 v3 &&& 63) := by simp [hc2]
      rw [e] at j1
      exact j1
    · refine go_run mm_243 1 (pc' := 47) (ls' := [some (.ref 140), some (.long v1), none, some (.int v3)]) (st' := [.long 0, .long v1]) (S' := S) rfl ?_
      have e : ((if (rl S 153 v3) = (f_216 S) then 1 <<< (Int32.toInt64 v3 &&& 63) else 0) : Int64) = 0 := by simp [hc2]
      rw [e] at j1
      exact j1
  · refine go_run mm_243 1 (pc' := 56) (ls' := [some (.ref 140), some (.long v1), none, some (.int v3)]) (st' := [.long v1]) (S' := S) rfl ?_
    exact go_lreturn mm_243 rfl rfl (e2 hc1)
theorem mm_245 : mtG 245 = some (mi_245, 12, ft_245) := rfl
theorem b_245_0 {d c : Nat} {R : RT} {S : ST} {v1 : Int32} {v2 : Int32} (e1 : (nb S v1 (S.1 140 20 - 1)) = true → R c (.inr (some (.int 0))) (wI S 140 0 (tb S v1 (S.1 140 20 - 1)))) (e2 : (nb S v1 (S.1 140 20 - 1)) = false → (!(decide (rf (tb S v1 (S.1 140 20 - 1)) (!(f_182 v2 0 ((S.1 140 20) - 1))) 2 = 0))) = true → R c (.inr (some (.int 0))) (wI (wI S 140 0 (tb S v1 (S.1 140 20 - 1))) 140 0 (rf (tb S v1 (S.1 140 20 - 1)) (!(f_182 v2 0 ((S.1 140 20) - 1))) 2))) (e3 : (nb S v1 (S.1 140 20 - 1)) = false → (!(decide (rf (tb S v1 (S.1 140 20 - 1)) (!(f_182 v2 0 ((S.1 140 20) - 1))) 2 = 0))) = false → Go XM (d + 8) 245 c 39 [some (.ref 140), some (.int v1), some (.int v2), none] [.int v1, .ref 140] (wI (wI S 140 0 (tb S v1 (S.1 140 20 - 1))) 140 0 (rf (tb S v1 (S.1 140 20 - 1)) (!(f_182 v2 0 ((S.1 140 20) - 1))) 2)) R) : Go XM (d + 8) 245 c 0 [some (.ref 140), some (.int v1), some (.int v2), none] [] S R := by
  refine go_run mm_245 2 (pc' := 2) (ls' := [some (.ref 140), some (.int v1), some (.int v2), none]) (st' := [.int v1, .ref 140]) (S' := S) rfl ?_
  refine go_cv mm_245 (h := 140) (As := [.int v1]) (rest := []) (nl := 2) rfl XM_140 (show cvOK 245 2 254 226 1 2 11 = true by decide +kernel) rfl rfl rfl (sq_226) (KP_V ?_)
  refine go_ifb mm_245 rfl (p1 := 35) (p2 := 8) rfl (fun (hc1 : (nb S v1 (S.1 140 20 - 1)) = true) => ?_) (fun (hc1 : (nb S v1 (S.1 140 20 - 1)) = false) => ?_)
  · refine go_run mm_245 1 (pc' := 36) (ls' := [some (.ref 140), some (.int v1), some (.int v2), none]) (st' := [.int 0]) (S' := (wI S 140 0 (tb S v1 (S.1 140 20 - 1)))) rfl ?_
    exact go_ireturn mm_245 rfl rfl (e1 hc1)
  · refine go_run mm_245 7 (pc' := 17) (ls' := [some (.ref 140), some (.int v1), some (.int v2), none]) (st' := [.int ((S.1 140 20) - 1), .int 0, .int v2, .ref 140]) (S' := (wI S 140 0 (tb S v1 (S.1 140 20 - 1)))) rfl ?_
    refine go_cs mm_245 (av := [.int v2, .int 0, .int ((S.1 140 20) - 1)]) (rest := [.ref 140]) (nl := 3) rfl (show csOK 245 17 148 182 3 3 = true by decide +kernel) rfl rfl rfl (sp_182) (KP_V ?_)
    have j1 : Go XM (d + 8) 245 c 28 [some (.ref 140), some (.int v1), some (.int v2), none] [.int (b2i (!(f_182 v2 0 ((S.1 140 20) - 1)))), .ref 140] (wI S 140 0 (tb S v1 (S.1 140 20 - 1))) R := by
      refine go_run mm_245 1 (pc' := 29) (ls' := [some (.ref 140), some (.int v1), some (.int v2), none]) (st' := [.int 2, .int (b2i (!(f_182 v2 0 ((S.1 140 20) - 1)))), .ref 140]) (S' := (wI S 140 0 (tb S v1 (S.1 140 20 - 1)))) rfl ?_
      refine go_cv mm_245 (h := 140) (As := [.int (b2i (!(f_182 v2 0 ((S.1 140 20) - 1)))), .int 2]) (rest := []) (nl := 3) rfl XM_140 (show cvOK 245 29 86 183 2 3 11 = true by decide +kernel) rfl rfl rfl (sq_183) (KP_V ?_)
      refine go_ifb mm_245 rfl (p1 := 35) (p2 := 37) rfl (fun (hc2 : (!(decide (rf (tb S v1 (S.1 140 20 - 1)) (!(f_182 v2 0 ((S.1 140 20) - 1))) 2 = 0))) = true) => ?_) (fun (hc2 : (!(decide (rf (tb S v1 (S.1 140 20 - 1)) (!(f_182 v2 0 ((S.1 140 20) - 1))) 2 = 0))) = false) => ?_)
      · refine go_run mm_245 1 (pc' := 36) (ls' := [some (.ref 140), some (.int v1), some (.int v2), none]) (st' := [.int 0]) (S' := (wI (wI S 140 0 (tb S v1 (S.1 140 20 - 1))) 140 0 (rf (tb S v1 (S.1 140 20 - 1)) (!(f_182 v2 0 ((S.1 140 20) - 1))) 2))) rfl ?_
        exact go_ireturn mm_245 rfl rfl (e2 hc1 hc2)
      · refine go_run mm_245 2 (pc' := 39) (ls' := [some (.ref 140), some (.int v1), some (.int v2), none]) (st' := [.int v1, .ref 140]) (S' := (wI (wI S 140 0 (tb S v1 (S.1 140 20 - 1))) 140 0 (rf (tb S v1 (S.1 140 20 - 1)) (!(f_182 v2 0 ((S.1 140 20) - 1))) 2))) rfl ?_
        exact e3 hc1 hc2
    refine go_ifb mm_245 rfl (p1 := 27) (p2 := 23) rfl (fun (hc2 : (f_182 v2 0 ((S.1 140 20) - 1)) = true) => ?_) (fun (hc2 : (f_182 v2 0 ((S.1 140 20) - 1)) = false) => ?_)
    · refine go_run mm_245 1 (pc' := 28) (ls' := [some (.ref 140), some (.int v1), some (.int v2), none]) (st' := [.int 0, .ref 140]) (S' := (wI S 140 0 (tb S v1 (S.1 140 20 - 1)))) rfl ?_
      have e : ((b2i (!(f_182 v2 0 ((S.1 140 20) - 1)))) : Int32) = 0 := by simp [b2i, hc2]
      rw [e] at j1
      exact j1
    · refine go_run mm_245 2 (pc' := 28) (ls' := [some (.ref 140), some (.int v1), some (.int v2), none]) (st' := [.int 1, .ref 140]) (S' := (wI S 140 0 (tb S v1 (S.1 140 20 - 1)))) rfl ?_
      have e : ((b2i (!(f_182 v2 0 ((S.1 140 20) - 1)))) : Int32) = 1 := by simp [b2i, hc2]
      rw [e] at j1
      exact j1
theorem b_245_42 {d c : Nat} {R : RT} {S : ST} {v1 : Int32} {v2 : Int32} {w0 : Int32} (o1 : ¬ w0 = 0 → inB v2 64) (e1 : R c (.inr (some (.int (if w0 = 0 then 0 else ra S 155 v2)))) S) : Go XM (d + 8) 245 c 42 [some (.ref 140), some (.int v1), some (.int v2), none] [.int w0] S R := by
  refine go_run mm_245 2 (pc' := 44) (ls' := [some (.ref 140), some (.int v1), some (.int v2), some (.int w0)]) (st' := [.int w0]) (S' := S) rfl ?_
  have j1 : Go XM (d + 8) 245 c 57 [some (.ref 140), some (.int v1), some (.int v2), some (.int w0)] [.int (if w0 = 0 then 0 else ra S 155 v2)] S R := by
    exact go_ireturn mm_245 rfl rfl (e1)
  refine go_if0 mm_245 rfl (p1 := 47) (p2 := 51) rfl (fun (hc1 : w0 = 0) => ?_) (fun (hc1 : ¬ w0 = 0) => ?_)
  · refine go_run mm_245 2 (pc' := 57) (ls' := [some (.ref 140), some (.int v1), some (.int v2), some (.int w0)]) (st' := [.int 0]) (S' := S) rfl ?_
    have e : ((if w0 = 0 then 0 else ra S 155 v2) : Int32) = 0 := by simp [b2i, hc1]
    rw [e] at j1
    exact j1
  · refine go_run mm_245 3 (pc' := 56) (ls' := [some (.ref 140), some (.int v1), some (.int v2), some (.int w0)]) (st' := [.int v2, .ref 155]) (S' := S) rfl ?_
    refine go_iaload mm_245 (q := (Int32.toNatClampNeg v2)) rfl rfl rfl (o1 hc1) ?_
    have e : ((if w0 = 0 then 0 else ra S 155 v2) : Int32) = ra S 155 v2 := by simp [b2i, hc1]
    rw [e] at j1
    exact j1
theorem mm_246 : mtG 246 = some (mi_246, 12, ft_246) := rfl
theorem b_246_0 {d c : Nat} {R : RT} {S : ST} (e1 : (decide (S.1 140 1 = 0)) = true → R c (.inr (some (.int 0))) (wI S 140 0 (tz (decide (S.1 140 1 = 0)) 1))) (e2 : (decide (S.1 140 1 = 0)) = false → Go XM (d + 8) 246 c 13 [some (.ref 140), some (.int 0), some (.int 0), none] [] (wI S 140 0 (tz (decide (S.1 140 1 = 0)) 1)) R) : Go XM (d + 8) 246 c 0 [some (.ref 140), none, none, none] [] S R := by
  refine go_run mm_246 1 (pc' := 1) (ls' := [some (.ref 140), none, none, none]) (st' := [.ref 140]) (S' := S) rfl ?_
  refine go_cv mm_246 (h := 140) (As := []) (rest := []) (nl := 1) rfl XM_140 (show cvOK 246 1 247 184 0 1 11 = true by decide +kernel) rfl rfl rfl (sq_184) (KP_V ?_)
  refine go_ifb mm_246 rfl (p1 := 7) (p2 := 9) rfl (fun (hc1 : (decide (S.1 140 1 = 0)) = true) => ?_) (fun (hc1 : (decide (S.1 140 1 = 0)) = false) => ?_)
  · refine go_run mm_246 1 (pc' := 8) (ls' := [some (.ref 140), none, none, none]) (st' := [.int 0]) (S' := (wI S 140 0 (tz (decide (S.1 140 1 = 0)) 1))) rfl ?_
    exact go_ireturn mm_246 rfl rfl (e1 hc1)
  · refine go_run mm_246 4 (pc' := 13) (ls' := [some (.ref 140), some (.int 0), some (.int 0), none]) (st' := []) (S' := (wI S 140 0 (tz (decide (S.1 140 1 = 0)) 1))) rfl ?_
    exact e2 hc1
theorem b_246_13 {d c : Nat} {R : RT} {S : ST} {v1 : Int32} {v2 : Int32} (e1 : v2 < (S.1 140 20) → Go XM (d + 8) 246 c 23 [some (.ref 140), some (.int v1), some (.int v2), none] [.int v2, .ref 140] S R) (e2 : ¬ v2 < (S.1 140 20) → R c (.inr (some (.int v1))) S) : Go XM (d + 8) 246 c 13 [some (.ref 140), some (.int v1), some (.int v2), none] [] S R := by
  refine go_run mm_246 3 (pc' := 18) (ls' := [some (.ref 140), some (.int v1), some (.int v2), none]) (st' := [.int (S.1 140 20), .int v2]) (S' := S) rfl ?_
  refine go_if2 mm_246 rfl (p1 := 21) (p2 := 44) rfl (fun (hc1 : v2 < (S.1 140 20)) => ?_) (fun (hc1 : ¬ v2 < (S.1 140 20)) => ?_)
  · refine go_run mm_246 2 (pc' := 23) (ls' := [some (.ref 140), some (.int v1), some (.int v2), none]) (st' := [.int v2, .ref 140]) (S' := S) rfl ?_
    exact e1 hc1
  · refine go_run mm_246 1 (pc' := 45) (ls' := [some (.ref 140), some (.int v1), some (.int v2), none]) (st' := [.int v1]) (S' := S) rfl ?_
    exact go_ireturn mm_246 rfl rfl (e2 hc1)
theorem b_246_26 {d c : Nat} {R : RT} {S : ST} {v1 : Int32} {v2 : Int32} {w0 : Int32} (e1 : Go XM (d + 8) 246 c 13 [some (.ref 140), some (.int (if v1 < w0 then w0 else v1)), some (.int (v2 + 1)), some (.int w0)] [] S R) : Go XM (d + 8) 246 c 26 [some (.ref 140), some (.int v1), some (.int v2), none] [.int w0] S R := by
  refine go_run mm_246 3 (pc' := 29) (ls' := [some (.ref 140), some (.int v1), some (.int v2), some (.int w0)]) (st' := [.int v1, .int w0]) (S' := S) rfl ?_
  have j1 : Go XM (d + 8) 246 c 37 [some (.ref 140), some (.int v1), some (.int v2), some (.int w0)] [.int (if v1 < w0 then w0 else v1)] S R := by
    refine go_run mm_246 3 (pc' := 13) (ls' := [some (.ref 140), some (.int (if v1 < w0 then w0 else v1)), some (.int (v2 + 1)), some (.int w0)]) (st' := []) (S' := S) rfl ?_
    exact e1
  refine go_if2 mm_246 rfl (p1 := 32) (p2 := 36) rfl (fun (hc1 : v1 < w0) => ?_) (fun (hc1 : ¬ v1 < w0) => ?_)
  · refine go_run mm_246 2 (pc' := 37) (ls' := [some (.ref 140), some (.int v1), some (.int v2), some (.int w0)]) (st' := [.int w0]) (S' := S) rfl ?_
    have e : ((if v1 < w0 then w0 else v1) : Int32) = w0 := by simp [b2i, hc1]
    rw [e] at j1
    exact j1
  · refine go_run mm_246 1 (pc' := 37) (ls' := [some (.ref 140), some (.int v1), some (.int v2), some (.int w0)]) (st' := [.int v1]) (S' := S) rfl ?_
    have e : ((if v1 < w0 then w0 else v1) : Int32) = v1 := by simp [b2i, hc1]
    rw [e] at j1
    exact j1
theorem mm_247 : mtG 247 = some (mi_247, 12, ft_247) := rfl
theorem b_247_0 {d c : Nat} {R : RT} {S : ST} {v1 : Int32} (e1 : (nb S v1 (S.1 140 20 - 1)) = true → R c (.inr (some (.int 0))) (wI S 140 0 (tb S v1 (S.1 140 20 - 1)))) (e2 : (nb S v1 (S.1 140 20 - 1)) = false → Go XM (d + 8) 247 c 12 [some (.ref 140), some (.int v1), none, none] [.int v1, .ref 140] (wI S 140 0 (tb S v1 (S.1 140 20 - 1))) R) : Go XM (d + 8) 247 c 0 [some (.ref 140), some (.int v1), none, none] [] S R := by
  refine go_run mm_247 2 (pc' := 2) (ls' := [some (.ref 140), some (.int v1), none, none]) (st' := [.int v1, .ref 140]) (S' := S) rfl ?_
  refine go_cv mm_247 (h := 140) (As := [.int v1]) (rest := []) (nl := 2) rfl XM_140 (show cvOK 247 2 254 226 1 2 11 = true by decide +kernel) rfl rfl rfl (sq_226) (KP_V ?_)
  refine go_ifb mm_247 rfl (p1 := 8) (p2 := 10) rfl (fun (hc1 : (nb S v1 (S.1 140 20 - 1)) = true) => ?_) (fun (hc1 : (nb S v1 (S.1 140 20 - 1)) = false) => ?_)
  · refine go_run mm_247 1 (pc' := 9) (ls' := [some (.ref 140), some (.int v1), none, none]) (st' := [.int 0]) (S' := (wI S 140 0 (tb S v1 (S.1 140 20 - 1)))) rfl ?_
    exact go_ireturn mm_247 rfl rfl (e1 hc1)
  · refine go_run mm_247 2 (pc' := 12) (ls' := [some (.ref 140), some (.int v1), none, none]) (st' := [.int v1, .ref 140]) (S' := (wI S 140 0 (tb S v1 (S.1 140 20 - 1)))) rfl ?_
    exact e2 hc1
theorem b_247_15 {d c : Nat} {R : RT} {S : ST} {v1 : Int32} {w0 : Int32} (e1 : Go XM (d + 8) 247 c 18 [some (.ref 140), some (.int v1), some (.int w0), some (.int 0)] [] S R) : Go XM (d + 8) 247 c 15 [some (.ref 140), some (.int v1), none, none] [.int w0] S R := by
  refine go_run mm_247 3 (pc' := 18) (ls' := [some (.ref 140), some (.int v1), some (.int w0), some (.int 0)]) (st' := []) (S' := S) rfl ?_
  exact e1
theorem b_247_18 {d c : Nat} {R : RT} {S : ST} {v1 : Int32} {v2 : Int32} {v3 : Int32} (o1 : inB v3 64) (e1 : (ra S 155 v3) = v2 → R c (.inr (some (.int v3))) S) (e2 : ¬ (ra S 155 v3) = v2 → Go XM (d + 8) 247 c 18 [some (.ref 140), some (.int v1), some (.int v2), some (.int (v3 + 1))] [] S R) : Go XM (d + 8) 247 c 18 [some (.ref 140), some (.int v1), some (.int v2), some (.int v3)] [] S R := by
  refine go_run mm_247 3 (pc' := 23) (ls' := [some (.ref 140), some (.int v1), some (.int v2), some (.int v3)]) (st' := [.int v3, .ref 155]) (S' := S) rfl ?_
  refine go_iaload mm_247 (q := (Int32.toNatClampNeg v3)) rfl rfl rfl (o1) ?_
  refine go_run mm_247 1 (pc' := 25) (ls' := [some (.ref 140), some (.int v1), some (.int v2), some (.int v3)]) (st' := [.int v2, .int (ra S 155 v3)]) (S' := S) rfl ?_
  refine go_if2 mm_247 rfl (p1 := 34) (p2 := 28) rfl (fun (hc1 : (ra S 155 v3) = v2) => ?_) (fun (hc1 : ¬ (ra S 155 v3) = v2) => ?_)
  · refine go_run mm_247 1 (pc' := 35) (ls' := [some (.ref 140), some (.int v1), some (.int v2), some (.int v3)]) (st' := [.int v3]) (S' := S) rfl ?_
    exact go_ireturn mm_247 rfl rfl (e1 hc1)
  · refine go_run mm_247 2 (pc' := 18) (ls' := [some (.ref 140), some (.int v1), some (.int v2), some (.int (v3 + 1))]) (st' := []) (S' := S) rfl ?_
    exact e2 hc1
theorem mm_248 : mtG 248 = some (mi_248, 12, ft_248) := rfl
theorem b_248_0 {d c : Nat} {R : RT} {S : ST} {v1 : Int32} (e1 : (nb S v1 (S.1 141 0 - 1)) = true → R c (.inr (some (.long 0))) (wI S 140 0 (tb S v1 (S.1 141 0 - 1)))) (e2 : (nb S v1 (S.1 141 0 - 1)) = false → Go XM (d + 7) 248 c 11 [some (.ref 140), some (.int v1)] [.ref 140] (wI S 140 0 (tb S v1 (S.1 141 0 - 1))) R) : Go XM (d + 7) 248 c 0 [some (.ref 140), some (.int v1)] [] S R := by
  refine go_run mm_248 2 (pc' := 2) (ls' := [some (.ref 140), some (.int v1)]) (st' := [.int v1, .ref 140]) (S' := S) rfl ?_
  refine go_cv mm_248 (h := 140) (As := [.int v1]) (rest := []) (nl := 2) rfl XM_140 (show cvOK 248 2 251 225 1 2 11 = true by decide +kernel) rfl rfl rfl (sq_225) (KP_V ?_)
  refine go_ifb mm_248 rfl (p1 := 8) (p2 := 10) rfl (fun (hc1 : (nb S v1 (S.1 141 0 - 1)) = true) => ?_) (fun (hc1 : (nb S v1 (S.1 141 0 - 1)) = false) => ?_)
  · refine go_run mm_248 1 (pc' := 9) (ls' := [some (.ref 140), some (.int v1)]) (st' := [.long 0]) (S' := (wI S 140 0 (tb S v1 (S.1 141 0 - 1)))) rfl ?_
    exact go_lreturn mm_248 rfl rfl (e1 hc1)
  · refine go_run mm_248 1 (pc' := 11) (ls' := [some (.ref 140), some (.int v1)]) (st' := [.ref 140]) (S' := (wI S 140 0 (tb S v1 (S.1 141 0 - 1)))) rfl ?_
    exact e2 hc1
theorem b_248_14 {d c : Nat} {R : RT} {S : ST} {v1 : Int32} (o1 : inB v1 12) (e1 : R c (.inr (some (.long (rl S 154 v1)))) S) : Go XM (d + 7) 248 c 14 [some (.ref 140), some (.int v1)] [] S R := by
  refine go_run mm_248 3 (pc' := 19) (ls' := [some (.ref 140), some (.int v1)]) (st' := [.int v1, .ref 154]) (S' := S) rfl ?_
  refine go_laload mm_248 (q := (Int32.toNatClampNeg v1)) rfl rfl rfl (o1) ?_
  exact go_lreturn mm_248 rfl rfl (e1)
section Q4
variable {d : Nat} {S : ST}
theorem Qq_tt {S : ST} (M : MOK S) (a b : Int32) : Qq S (wI (wI S 140 0 a) 140 0 b) := (Qq_t M a).tr (Qq_t (Qq_t M a).1 b)
theorem nP_q {S S' : ST} (q : Qq S S') : nP S' = nP S := by unfold nP; rw [inp_r2 (q.2.row (a := 141) (by decide) (by decide))]
theorem q_241 (M : MOK S) {v1 v2 : Int32} : Cal XM (d + 7) 241 [.ref 140, .int v1, .int v2] S (RQi S) := by
  refine cal_go 0 rfl (b_241_0 (fun _ => Qi_t M) (fun _ _ => Qi_q (Qq_tt M _ _)) (fun h1 h2 => ?_))
  obtain ⟨a1, a2, a3⟩ := nb_f h1
  have qt := Qq_tt M (tb S v1 (S.1 140 20 - 1)) (rf (tb S v1 (S.1 140 20 - 1)) (!(f_182 v2 0 ((S.1 140 20) - 1))) 2)
  obtain ⟨p, rfl, hp⟩ := pt_ix (M.2.1 a1).1 a2 a3
  refine go_cv mm_241 (h := 140) (As := []) (rest := []) (nl := 3) rfl XM_140 (show cvOK 241 38 279 239 0 3 11 = true by decide +kernel) rfl rfl rfl (sr_239 ⟨qt.1, a1⟩) (KP_P (fun v S1 k1 => ?_))
  obtain ⟨rfl, q1, s1⟩ := k1
  have h64 := (Ld_P (M.2.1 a1).1).2
  exact b_241_41 (nJ_inB (by omega) (by omega)) (Qi_q (qt.tr q1))
theorem q_242 (M : MOK S) {v1 : Int32} : Cal XM (d + 7) 242 [.ref 140, .int v1] S (RQl S) := by
  refine cal_go 0 rfl (b_242_0 (fun _ => Ql_t M) (fun h1 => ?_))
  obtain ⟨a1, a2, a3⟩ := nb_f h1
  have qt := Qq_t M (tb S v1 (S.1 140 20 - 1))
  obtain ⟨p, rfl, hp⟩ := pt_ix (M.2.1 a1).1 a2 a3
  refine go_cv mm_242 (h := 140) (As := []) (rest := []) (nl := 3) rfl XM_140 (show cvOK 242 11 279 239 0 3 11 = true by decide +kernel) rfl rfl rfl (sr_239 ⟨qt.1, a1⟩) (KP_P (fun v S1 k1 => ?_))
  obtain ⟨rfl, q1, s1⟩ := k1
  have h64 := (Ld_P (M.2.1 a1).1).2
  exact b_242_14 (nJ_inB (by omega) (by omega)) (Ql_q (qt.tr q1))
theorem q_243 (M : MOK S) : Cal XM (d + 7) 243 [.ref 140] S (RQl S) := by
  refine cal_go 3 rfl (b_243_0 (fun _ => Ql_t M) (fun h1 => ?_))
  have a1 := np_f h1
  have qt := Qq_t M (tz (decide (S.1 140 1 = 0)) 1)
  refine go_cv mm_243 (h := 140) (As := []) (rest := []) (nl := 3) rfl XM_140 (show cvOK 243 10 279 239 0 3 11 = true by decide +kernel) rfl rfl rfl (sr_239 ⟨qt.1, a1⟩) (KP_P (fun v S1 k1 => ?_))
  obtain ⟨rfl, q1, s1⟩ := k1
  obtain ⟨hP, h64⟩ := Ld_P (Qp.ld ⟨s1.1, s1.2.1⟩).1
  refine b_243_13 ?_
  have key : ∀ m i a, i + m = nP S1 → Go XM (d + 7) 243 0 17 [some (.ref 140), some (.long a), none, some (.int (nJ i))] [] S1 (RQl S) := by
    intro m
    induction m with
    | zero =>
      intro i a hi
      have hn : ¬ nJ i < S1.1 140 20 := by rw [hP, nJ_lt (by omega) (by omega)]; omega
      exact b_243_17 (fun q => absurd q hn) (fun q => absurd q hn) (fun _ => Ql_q (qt.tr q1))
    | succ m ih =>
      intro i a hi
      have hlt : nJ i < S1.1 140 20 := by rw [hP, nJ_lt (by omega) (by omega)]; omega
      refine b_243_17 (fun _ => nJ_inB (by omega) (by omega)) (fun _ => ?_) (fun q => absurd hlt q)
      rw [nJ_succ]
      exact ih (i + 1) _ (by omega)
  exact key (nP S1) 0 0 (by omega)
theorem q_245 (M : MOK S) {v1 v2 : Int32} : Cal XM (d + 8) 245 [.ref 140, .int v1, .int v2] S (RQi S) := by
  refine cal_go 1 rfl (b_245_0 (fun _ => Qi_t M) (fun _ _ => Qi_q (Qq_tt M _ _)) (fun h1 h2 => ?_))
  obtain ⟨a1, a2, a3⟩ := nb_f h1
  have qt := Qq_tt M (tb S v1 (S.1 140 20 - 1)) (rf (tb S v1 (S.1 140 20 - 1)) (!(f_182 v2 0 ((S.1 140 20) - 1))) 2)
  obtain ⟨b1, b2⟩ := in_f (rf_f h2 (by decide))
  obtain ⟨p, rfl, hp⟩ := pt_ix (M.2.1 a1).1 a2 a3
  obtain ⟨r, rfl, hr⟩ := pt_ix (M.2.1 a1).1 b1 b2
  have h64 := (Ld_P (M.2.1 a1).1).2
  refine go_cv mm_245 (h := 140) (As := [.int (nJ p)]) (rest := []) (nl := 8) rfl XM_140 (show cvOK 245 39 290 244 1 8 11 = true by decide +kernel) rfl rfl rfl (sq_244 (p := p) ⟨qt.1, a1⟩ hp) (KP_P (fun v S1 k1 => ?_))
  obtain ⟨f, rfl, q1, s1, -⟩ := k1
  exact b_245_42 (fun _ => nJ_inB (by omega) (by omega)) (Qi_q (qt.tr q1))
theorem q_246 (M : MOK S) : Cal XM (d + 8) 246 [.ref 140] S (RQi S) := by
  refine cal_go 3 rfl (b_246_0 (fun _ => Qi_t M) (fun h1 => ?_))
  have a1 := np_f h1
  have qt := Qq_t M (tz (decide (S.1 140 1 = 0)) 1)
  have key : ∀ m i a S1, i + m = nP S → Qq S S1 → Qp S1 → Go XM (d + 8) 246 0 13 [some (.ref 140), some (.int a), some (.int (nJ i)), none] [] S1 (RQi S) := by
    intro m
    induction m with
    | zero =>
      intro i a S1 hi q1 s1
      obtain ⟨hP, h64⟩ := Ld_P s1.ld.1
      rw [nP_q q1] at hP h64
      have hn : ¬ nJ i < S1.1 140 20 := by rw [hP, nJ_lt (by omega) (by omega)]; omega
      exact b_246_13 (fun q => absurd q hn) (fun _ => Qi_q q1)
    | succ m ih =>
      intro i a S1 hi q1 s1
      obtain ⟨hP, h64⟩ := Ld_P s1.ld.1
      rw [nP_q q1] at hP h64
      have hlt : nJ i < S1.1 140 20 := by rw [hP, nJ_lt (by omega) (by omega)]; omega
      refine b_246_13 (fun _ => ?_) (fun q => absurd hlt q)
      refine go_cv mm_246 (h := 140) (As := [.int (nJ i)]) (rest := []) (nl := 8) rfl XM_140 (show cvOK 246 23 290 244 1 8 11 = true by decide +kernel) rfl rfl rfl (sq_244 (p := i) s1 (by rw [nP_q q1]; omega)) (KP_P (fun v S2 k1 => ?_))
      obtain ⟨f, rfl, q2, s2, -⟩ := k1
      refine b_246_26 ?_
      rw [nJ_succ]
      exact Go.le (ih (i + 1) _ S2 (by omega) (q1.tr q2) ⟨s2.1, s2.2.1⟩) (by repeat first | exact True.intro | refine And.intro rfl ?_)
  exact key (nP S) 0 0 _ (by omega) qt ⟨qt.1, a1⟩
theorem q_247 (M : MOK S) {v1 : Int32} : Cal XM (d + 8) 247 [.ref 140, .int v1] S (RQi S) := by
  refine cal_go 2 rfl (b_247_0 (fun _ => Qi_t M) (fun h1 => ?_))
  obtain ⟨a1, a2, a3⟩ := nb_f h1
  have qt := Qq_t M (tb S v1 (S.1 140 20 - 1))
  obtain ⟨p, rfl, hp⟩ := pt_ix (M.2.1 a1).1 a2 a3
  refine go_cv mm_247 (h := 140) (As := [.int (nJ p)]) (rest := []) (nl := 8) rfl XM_140 (show cvOK 247 12 290 244 1 8 11 = true by decide +kernel) rfl rfl rfl (sq_244 (p := p) ⟨qt.1, a1⟩ hp) (KP_P (fun v S1 k1 => ?_))
  obtain ⟨f, rfl, q1, s1, r, hr, er⟩ := k1
  have h64 := (Ld_P (Qp.ld ⟨s1.1, s1.2.1⟩).1).2
  refine b_247_15 ?_
  have key : ∀ m i, i + m = r → Go XM (d + 8) 247 0 18 [some (.ref 140), some (.int (nJ p)), some (.int f), some (.int (nJ i))] [] S1 (RQi S) := by
    intro m
    induction m with
    | zero =>
      intro i hi
      refine b_247_18 (nJ_inB (by omega) (by omega)) (fun _ => Qi_q (qt.tr q1)) (fun hn => absurd ?_ hn)
      rw [ra_n S1 155 (by omega), show i = r by omega]
      exact er
    | succ m ih =>
      intro i hi
      refine b_247_18 (nJ_inB (by omega) (by omega)) (fun _ => Qi_q (qt.tr q1)) (fun _ => ?_)
      rw [nJ_succ]
      exact ih (i + 1) (by omega)
  exact key r 0 (by omega)
theorem q_248 (M : MOK S) {v1 : Int32} : Cal XM (d + 7) 248 [.ref 140, .int v1] S (RQl S) := by
  refine cal_go 0 rfl (b_248_0 (fun _ => Ql_t M) (fun h1 => ?_))
  obtain ⟨a1, a2, a3⟩ := nb_f h1
  have qt := Qq_t M (tb S v1 (S.1 141 0 - 1))
  obtain ⟨hW, i, rfl, hi⟩ := vx_ix (M.2.1 a1).1 a2 a3
  have h12 := hW.2
  refine go_cv mm_248 (h := 140) (As := []) (rest := []) (nl := 3) rfl XM_140 (show cvOK 248 11 279 239 0 3 11 = true by decide +kernel) rfl rfl rfl (sr_239 ⟨qt.1, a1⟩) (KP_P (fun v S1 k1 => ?_))
  obtain ⟨rfl, q1, s1⟩ := k1
  exact b_248_14 (nJ_inB (by omega) (by omega)) (Ql_q (qt.tr q1))
end Q4
