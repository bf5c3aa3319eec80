/-! loops as functions: counted ones, searches; reading and writing the picture -/
theorem ob_s {α β : Type} (a : α) (f : α → Option β) : ob (some a) f = f a := rfl
theorem ck_t {α : Type} {b : Bool} {x : Option α} (h : b = true) : ck b x = x := by rw [h]; rfl
theorem sbn_e {α : Type} (S : ST) (f : ST → Option α) : sbn S f = f S := rfl
theorem ibd_n {i n : Nat} (h : i < n) (hn : n < 2147483648) : ibd (nJ i) n = true := by
  unfold ibd
  rw [nJ_toInt (by omega), decide_eq_true (by omega), decide_eq_true (by omega)]
  rfl
theorem nJ_nn {i : Nat} (h : i < 2147483648) : ¬ nJ i < 0 := by
  rw [Int32.lt_iff_toInt_lt, nJ_toInt h]
  show ¬ (i : Int) < 0
  omega
theorem FU_lt {n : Nat} (h : n < 1000000) : n < FU := h
/-- a loop that ends: the measure falls with each round -/
theorem wh_inv {A B : Type} {f : A → Option (A ⊕ B)} {I : Nat → A → Prop} {Q : B → Prop} (hs : ∀ m a, I m a → (∃ a' m', m' < m ∧ f a = some (.inl a') ∧ I m' a') ∨ ∃ b, f a = some (.inr b) ∧ Q b) : ∀ (n m : Nat) (a : A), m < n → I m a → ∃ b, wh n f a = some b ∧ Q b := by
  intro n
  induction n with
  | zero => intro m a h; omega
  | succ n ih =>
    intro m a h hI
    rcases hs m a hI with ⟨a', m', h1, h2, h3⟩ | ⟨b, h1, h2⟩
    · obtain ⟨b, e, q⟩ := ih m' a' (by omega) h3
      exact ⟨b, by unfold wh; rw [h2]; exact e, q⟩
    · exact ⟨b, by unfold wh; rw [h1], h2⟩
/-- a counted loop with a state X, whose rounds all go on -/
theorem wh_for {A B X : Type} {f : A → Option (A ⊕ B)} {e : Nat → X → A} {g : Nat → X → X} {N : Nat} {J : Nat → X → Prop} {b : X → B} (hs : ∀ i x, i < N → J i x → f (e i x) = some (.inl (e (i + 1) (g i x))) ∧ J (i + 1) (g i x)) (he : ∀ x, J N x → f (e N x) = some (.inr (b x))) : ∀ (m i n : Nat) (x : X), i + m = N → m < n → J i x → wh n f (e i x) = some (b (fr g i m x)) ∧ J N (fr g i m x) := by
  intro m
  induction m with
  | zero =>
    intro i n x hi hn hJ
    have : i = N := by omega
    subst this
    match n, hn with
    | n + 1, _ =>
      unfold wh
      rw [he x hJ]
      exact ⟨rfl, hJ⟩
  | succ m ih =>
    intro i n x hi hn hJ
    match n, hn with
    | n + 1, hn =>
      obtain ⟨h1, h2⟩ := hs i x (by omega) hJ
      unfold wh
      rw [h1]
      exact ih (i + 1) n (g i x) (by omega) (by omega) h2
/-- the same without an invariant -/
theorem wh_fr {A B X : Type} {f : A → Option (A ⊕ B)} (e : Nat → X → A) (g : Nat → X → X) (N : Nat) (b : X → B) (hs : ∀ i x, i < N → f (e i x) = some (.inl (e (i + 1) (g i x)))) (he : ∀ x, f (e N x) = some (.inr (b x))) (hN : N < FU) (x : X) : wh FU f (e 0 x) = some (b (fr g 0 N x)) :=
  (wh_for (J := fun _ _ => True) (fun i x hi _ => ⟨hs i x hi, trivial⟩) (fun x _ => he x) N 0 FU x (by omega) hN trivial).1
/-- the first place from i on, m long, where p holds -/
def ff (p : Nat → Bool) : Nat → Nat → Option Nat
  | _, 0 => none
  | i, m + 1 => if p i = true then some i else ff p (i + 1) m
theorem ff_some {p : Nat → Bool} : ∀ {m i j : Nat}, ff p i m = some j → i ≤ j ∧ j < i + m ∧ p j = true ∧ ∀ k, i ≤ k → k < j → p k = false := by
  intro m
  induction m with
  | zero => intro i j h; cases h
  | succ m ih =>
    intro i j h
    unfold ff at h
    split at h
    · next hp => cases h; exact ⟨Nat.le_refl _, by omega, hp, fun k h1 h2 => by omega⟩
    · next hp =>
      obtain ⟨h1, h2, h3, h4⟩ := ih h
      refine ⟨by omega, by omega, h3, fun k k1 k2 => ?_⟩
      by_cases hk : k = i
      · subst hk; simpa using hp
      · exact h4 k (by omega) k2
theorem ff_none {p : Nat → Bool} : ∀ {m i : Nat}, ff p i m = none → ∀ k, i ≤ k → k < i + m → p k = false := by
  intro m
  induction m with
  | zero => intro i h k h1 h2; omega
  | succ m ih =>
    intro i h k h1 h2
    unfold ff at h
    split at h
    · cases h
    · next hp =>
      by_cases hk : k = i
      · subst hk; simpa using hp
      · exact ih h k (by omega) (by omega)
/-- a search -/
theorem wh_ff {A B : Type} {f : A → Option (A ⊕ B)} {e : Nat → A} {p : Nat → Bool} {N : Nat} {o : Nat → B} {b : B} (h1 : ∀ i, i < N → p i = true → f (e i) = some (.inr (o i))) (h0 : ∀ i, i < N → p i = false → f (e i) = some (.inl (e (i + 1)))) (he : f (e N) = some (.inr b)) : ∀ (m i n : Nat), i + m = N → m < n → wh n f (e i) = some (match ff p i m with
    | some j => o j
    | none => b) := by
  intro m
  induction m with
  | zero =>
    intro i n hi hn
    have : i = N := by omega
    subst this
    match n, hn with
    | n + 1, _ => unfold wh; rw [he]; rfl
  | succ m ih =>
    intro i n hi hn
    match n, hn with
    | n + 1, hn =>
      unfold wh ff
      cases hp : p i with
      | true => rw [h1 i (by omega) hp]; rfl
      | false =>
        rw [h0 i (by omega) hp]
        exact ih (i + 1) n (by omega) (by omega)
theorem ay_ff (p : Nat → Bool) : ∀ m i, ay p i m = (ff p i m).isSome := by
  intro m
  induction m with
  | zero => intro i; rfl
  | succ m ih =>
    intro i
    unfold ay ff
    cases hp : p i with
    | true => simp
    | false => simp [ih]
/-- a search for whether there is one -/
theorem wh_ay {A B : Type} {f : A → Option (A ⊕ B)} (e : Nat → A) (p : Nat → Bool) (N : Nat) {o b : B} (h1 : ∀ i, i < N → p i = true → f (e i) = some (.inr o)) (h0 : ∀ i, i < N → p i = false → f (e i) = some (.inl (e (i + 1)))) (he : f (e N) = some (.inr b)) (i m : Nat) (hi : i + m = N) (hm : m < FU) : wh FU f (e i) = some (if ay p i m = true then o else b) := by
  rw [wh_ff (o := fun _ => o) h1 h0 he m i FU hi hm, ay_ff]
  cases ff p i m <;> rfl
/-- a search, by a proposition: either the first place where it holds, or none -/
theorem wh_seN {A B : Type} {f : A → Option (A ⊕ B)} {e : Nat → A} {p : Nat → Prop} {N M : Nat} {o : Nat → B} {Q : B → Prop} {i0 : Nat} (hs : ∀ k, i0 ≤ k → k < N → (p k ∧ f (e k) = some (.inr (o k))) ∨ (¬ p k ∧ f (e k) = some (.inl (e (k + 1))))) (he : ∀ k, N ≤ k → k < M → ∃ b, f (e k) = some (.inr b) ∧ Q b) : ∀ (n m i : Nat), N - i ≤ m → m < n → i < M → i0 ≤ i → N < M → ∃ r, wh n f (e i) = some r ∧ ((∃ k, i ≤ k ∧ k < N ∧ p k ∧ (∀ j, i ≤ j → j < k → ¬ p j) ∧ r = o k) ∨ (Q r ∧ ∀ k, i ≤ k → k < N → ¬ p k)) := by
  intro n
  induction n with
  | zero => intro m i h1 h2; omega
  | succ n ih =>
    intro m i h1 h2 hM h0 hNM
    unfold wh
    rcases Nat.lt_or_ge i N with hi | hi
    · rcases hs i h0 hi with ⟨hp, hf⟩ | ⟨hp, hf⟩
      · rw [hf]
        exact ⟨_, rfl, Or.inl ⟨i, Nat.le_refl _, hi, hp, fun j a b => by omega, rfl⟩⟩
      · rw [hf]
        obtain ⟨r, g, w⟩ := ih (m - 1) (i + 1) (by omega) (by omega) (by omega) (by omega) hNM
        refine ⟨r, g, ?_⟩
        have up : ∀ j, i ≤ j → (i + 1 ≤ j → ¬ p j) → ¬ p j := fun j a b => by
          by_cases q : j = i
          · rw [q]; exact hp
          · exact b (by omega)
        rcases w with ⟨k, k0, k1, k2, k3, k4⟩ | ⟨w1, w2⟩
        · exact Or.inl ⟨k, by omega, k1, k2, fun j a b => up j a (fun c => k3 j c b), k4⟩
        · exact Or.inr ⟨w1, fun k a b => up k a (fun c => w2 k c b)⟩
    · obtain ⟨b, hf, hq⟩ := he i hi hM
      rw [hf]
      exact ⟨b, rfl, Or.inr ⟨hq, fun k a c => by omega⟩⟩
/-- places below 2000000 -/
theorem wh_se {A B : Type} {f : A → Option (A ⊕ B)} {e : Nat → A} {p : Nat → Prop} {N : Nat} {o : Nat → B} {Q : B → Prop} {i : Nat} (hs : ∀ k, i ≤ k → k < N → (p k ∧ f (e k) = some (.inr (o k))) ∨ (¬ p k ∧ f (e k) = some (.inl (e (k + 1))))) (he : ∀ k, N ≤ k ∧ k < N + i + 1 → ∃ b, f (e k) = some (.inr b) ∧ Q b) (hN : N < FU) : ∃ r, wh FU f (e i) = some r ∧ ((∃ k, i ≤ k ∧ k < N ∧ p k ∧ (∀ j, i ≤ j → j < k → ¬ p j) ∧ r = o k) ∨ (Q r ∧ ∀ k, i ≤ k → k < N → ¬ p k)) :=
  wh_seN (M := N + i + 1) hs (fun k a b => he k ⟨a, b⟩) FU N i (by omega) hN (by omega) (Nat.le_refl _) (by omega)
theorem wh_seK {A B : Type} {f : A → Option (A ⊕ B)} (e : Nat → A) (p : Nat → Prop) (N : Nat) (o : Nat → B) (Q : B → Prop) (i : Nat) {G : Prop} (hs : ∀ k, i ≤ k → k < N → (p k ∧ f (e k) = some (.inr (o k))) ∨ (¬ p k ∧ f (e k) = some (.inl (e (k + 1))))) (he : ∀ k, N ≤ k ∧ k < N + i + 1 → ∃ b, f (e k) = some (.inr b) ∧ Q b) (hN : N < FU) (k : ∀ r, wh FU f (e i) = some r → ((∃ k, i ≤ k ∧ k < N ∧ p k ∧ (∀ j, i ≤ j → j < k → ¬ p j) ∧ r = o k) ∨ (Q r ∧ ∀ k, i ≤ k → k < N → ¬ p k)) → G) : G := by
  obtain ⟨r, h1, h2⟩ := wh_se hs he hN
  exact k r h1 h2
