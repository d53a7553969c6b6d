/-! turns of a loop as plain recursion: a fold, the first that holds, a run that may stop -/
def foldN {σ : Type} (g : σ → Nat → σ) : σ → Nat → Nat → σ
  | x, _, 0 => x
  | x, j, d + 1 => foldN g (g x j) (j + 1) d
def firstN {α : Type} (p : Nat → Bool) (out : Nat → α) (fin : α) : Nat → Nat → α
  | _, 0 => fin
  | j, d + 1 => if p j = true then out j else firstN p out fin (j + 1) d
def runN {σ α : Type} (g : Nat → σ → α ⊕ σ) (fin : σ → α) : Nat → Nat → σ → α
  | _, 0, x => fin x
  | j, d + 1, x => match g j x with
    | .inl r => r
    | .inr y => runN g fin (j + 1) d y
def anyN (p : Nat → Bool) : Nat → Nat → Bool
  | _, 0 => false
  | j, d + 1 => p j || anyN p (j + 1) d
def b1 (x : Bool) : Int32 := if x = true then 1 else 0
theorem b1_0 (x : Bool) : (b1 x = 0) ↔ x = false := by cases x <;> simp [b1]
theorem b2_b1 (p : Prop) [Decidable p] : b2 p = b1 (decide p) := by
  by_cases h : p <;> simp [b2, b1, h]
theorem loop_fold {τ σ α : Type} {bot : τ} {F : τ → τ} (ap : τ → Nat → σ → α) (g : σ → Nat → σ) (fin : σ → α) (n : Nat) (I : σ → Prop)
    (hI : ∀ j x, j < n → I x → I (g x j)) (hs : ∀ t j x, j < n → I x → ap (F t) j x = ap t (j + 1) (g x j)) (he : ∀ t x, I x → ap (F t) n x = fin x) :
    ∀ d j x m, j + d = n → d < m → I x → ap (am_it bot F m) j x = fin (foldN g x j d) := by
  intro d
  induction d with
  | zero =>
    intro j x m hj hm hx
    obtain ⟨m, rfl⟩ : ∃ k, m = k + 1 := ⟨m - 1, by omega⟩
    have : j = n := by omega
    subst this
    exact he _ x hx
  | succ d ih =>
    intro j x m hj hm hx
    obtain ⟨m, rfl⟩ : ∃ k, m = k + 1 := ⟨m - 1, by omega⟩
    rw [it_s, hs _ j x (by omega) hx, ih (j + 1) (g x j) m (by omega) (by omega) (hI j x (by omega) hx)]
    rfl
theorem loop_first {τ α : Type} {bot : τ} {F : τ → τ} (ap : τ → Nat → α) (p : Nat → Bool) (out : Nat → α) (fin : α) (n : Nat)
    (hs : ∀ t j, j < n → ap (F t) j = if p j = true then out j else ap t (j + 1)) (he : ∀ t, ap (F t) n = fin) :
    ∀ d j m, j + d = n → d < m → ap (am_it bot F m) j = firstN p out fin j d := by
  intro d
  induction d with
  | zero =>
    intro j m hj hm
    obtain ⟨m, rfl⟩ : ∃ k, m = k + 1 := ⟨m - 1, by omega⟩
    have : j = n := by omega
    subst this
    exact he _
  | succ d ih =>
    intro j m hj hm
    obtain ⟨m, rfl⟩ : ∃ k, m = k + 1 := ⟨m - 1, by omega⟩
    rw [it_s, hs _ j (by omega), ih (j + 1) m (by omega) (by omega)]
    rfl
theorem loop_run {τ σ α : Type} {bot : τ} {F : τ → τ} (ap : τ → Nat → σ → α) (g : Nat → σ → α ⊕ σ) (fin : σ → α) (n : Nat) (I : Nat → σ → Prop)
    (hI : ∀ j x y, j < n → I j x → g j x = .inr y → I (j + 1) y) (hs : ∀ t j x, j < n → I j x → ap (F t) j x = match g j x with | .inl r => r | .inr y => ap t (j + 1) y) (he : ∀ t x, I n x → ap (F t) n x = fin x) :
    ∀ d j x m, j + d = n → d < m → I j x → ap (am_it bot F m) j x = runN g fin j d x := by
  intro d
  induction d with
  | zero =>
    intro j x m hj hm hx
    obtain ⟨m, rfl⟩ : ∃ k, m = k + 1 := ⟨m - 1, by omega⟩
    have : j = n := by omega
    subst this
    exact he _ x hx
  | succ d ih =>
    intro j x m hj hm hx
    obtain ⟨m, rfl⟩ : ∃ k, m = k + 1 := ⟨m - 1, by omega⟩
    rw [it_s, hs _ j x (by omega) hx]
    simp only [runN]
    cases hg : g j x with
    | inl r => rfl
    | inr y => exact ih (j + 1) y m (by omega) (by omega) (hI j x y (by omega) hx hg)
theorem first_any {α : Type} (p : Nat → Bool) (a b : α) : ∀ d j, firstN p (fun _ => a) b j d = if anyN p j d = true then a else b := by
  intro d
  induction d with
  | zero => intro j; rfl
  | succ d ih =>
    intro j
    simp only [firstN, anyN, ih]
    by_cases h : p j = true <;> simp [h]
theorem first_congr {α : Type} {p q : Nat → Bool} {out out2 : Nat → α} {fin : α} : ∀ d j, (∀ k, j ≤ k → k < j + d → p k = q k ∧ out k = out2 k) → firstN p out fin j d = firstN q out2 fin j d := by
  intro d
  induction d with
  | zero => intro j _; rfl
  | succ d ih =>
    intro j h
    simp only [firstN]
    rw [(h j (by omega) (by omega)).1, (h j (by omega) (by omega)).2, ih (j + 1) (fun k h1 h2 => h k (by omega) (by omega))]
theorem any_congr {p q : Nat → Bool} : ∀ d j, (∀ k, j ≤ k → k < j + d → p k = q k) → anyN p j d = anyN q j d := by
  intro d
  induction d with
  | zero => intro j _; rfl
  | succ d ih =>
    intro j h
    simp only [anyN]
    rw [h j (by omega) (by omega), ih (j + 1) (fun k h1 h2 => h k (by omega) (by omega))]
theorem any_iff (p : Nat → Bool) : ∀ d j, anyN p j d = true ↔ ∃ k, j ≤ k ∧ k < j + d ∧ p k = true := by
  intro d
  induction d with
  | zero =>
    intro j
    constructor
    · intro h; cases h
    · rintro ⟨k, h1, h2, -⟩; omega
  | succ d ih =>
    intro j
    simp only [anyN, Bool.or_eq_true, ih]
    constructor
    · rintro (h | ⟨k, h1, h2, h3⟩)
      · exact ⟨j, by omega, by omega, h⟩
      · exact ⟨k, by omega, by omega, h3⟩
    · rintro ⟨k, h1, h2, h3⟩
      by_cases h : k = j
      · exact Or.inl (h ▸ h3)
      · exact Or.inr ⟨k, by omega, by omega, h3⟩
theorem fold_congr {σ : Type} {g g2 : σ → Nat → σ} : ∀ d j x, (∀ k x, j ≤ k → k < j + d → g x k = g2 x k) → foldN g x j d = foldN g2 x j d := by
  intro d
  induction d with
  | zero => intro j x _; rfl
  | succ d ih =>
    intro j x h
    simp only [foldN]
    rw [h j x (by omega) (by omega), ih (j + 1) _ (fun k x h1 h2 => h k x (by omega) (by omega))]
theorem fold_inv {σ : Type} {g : σ → Nat → σ} (I : σ → Prop) : ∀ d j x, I x → (∀ k x, j ≤ k → k < j + d → I x → I (g x k)) → I (foldN g x j d) := by
  intro d
  induction d with
  | zero => intro j x hx _; exact hx
  | succ d ih =>
    intro j x hx h
    exact ih (j + 1) _ (h j x (by omega) (by omega) hx) (fun k x h1 h2 => h k x (by omega) (by omega))
/-- two folds side by side -/
theorem fold_rel {σ ρ : Type} {g : σ → Nat → σ} {h : ρ → Nat → ρ} (R : σ → ρ → Prop) : ∀ d j x y, R x y → (∀ k x y, j ≤ k → k < j + d → R x y → R (g x k) (h y k)) → R (foldN g x j d) (foldN h y j d) := by
  intro d
  induction d with
  | zero => intro j x y hx _; exact hx
  | succ d ih =>
    intro j x y hx hk
    exact ih (j + 1) _ _ (hk j x y (by omega) (by omega) hx) (fun k x y h1 h2 => hk k x y (by omega) (by omega))
