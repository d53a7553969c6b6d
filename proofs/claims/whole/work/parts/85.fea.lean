-- needs 56 57 58 59 60 84
/-! the earliest minutes, on both sides -/
theorem fold_invI {σ : Type} {g : σ → Nat → σ} (I : Nat → σ → Prop) : ∀ d j x, I j x → (∀ k x, j ≤ k → k < j + d → I k x → I (k + 1) (g x k)) → I (j + d) (foldN g x j d) := by
  intro d
  induction d with
  | zero => intro j x hx _; exact hx
  | succ d ih =>
    intro j x hx h
    have := ih (j + 1) _ (h j x (by omega) (by omega) hx) (fun k x h1 h2 => h k x (by omega) (by omega))
    rw [show j + (d + 1) = j + 1 + d by omega]
    exact this
def upN (f : Nat → Nat) (i x : Nat) : Nat → Nat := fun j => if j = i then x else f j
theorem upN_e (f : Nat → Nat) (i x : Nat) : upN f i x i = x := by simp [upN]
theorem upN_n (f : Nat → Nat) (i x j : Nat) (h : j ≠ i) : upN f i x j = f j := by simp [upN, h]
def mxG (A : Nat → Nat → Bool) (sv E : Nat → Nat) (i a j : Nat) : Nat := if A i j = true then max a (E j + sv j) else a
def mxF (A : Nat → Nat → Bool) (n : Nat) (sv E : Nat → Nat) (i : Nat) : Nat := foldN (mxG A sv E i) 0 0 n
def Lf (A : Nat → Nat → Bool) (n : Nat) (sv : Nat → Nat) : Nat → Nat → Nat
  | 0, _ => 0
  | r + 1, i => mxF A n sv (Lf A n sv r) i
def erI (A : Nat → Nat → Bool) (n : Nat) (sv E : Nat → Nat) (i : Nat) : Nat → Nat := upN E i (mxF A n sv E i)
def erR (A : Nat → Nat → Bool) (n : Nat) (sv E : Nat → Nat) : Nat → Nat := foldN (erI A n sv) E 0 n
def frG (A : Nat → Nat → Bool) (sv : Nat → Nat) (i : Nat) (F : Nat → Nat) (j : Nat) : Nat → Nat := upN F i (if A i j = true ∧ F i < F j + sv j then F j + sv j else F i)
def frI (A : Nat → Nat → Bool) (n : Nat) (sv F : Nat → Nat) (i : Nat) : Nat → Nat := foldN (frG A sv i) F 0 n
def frRR (A : Nat → Nat → Bool) (n : Nat) (sv F : Nat → Nat) : Nat → Nat := foldN (frI A n sv) F 0 n
section FEA
variable {A : Nat → Nat → Bool} {n : Nat} {sv E E' : Nat → Nat} {rk : Nat → Nat} {i : Nat}
theorem mx_le {B : Nat} (h : ∀ j, j < n → A i j = true → E j + sv j ≤ B) : mxF A n sv E i ≤ B := by
  refine fold_inv (g := mxG A sv E i) (fun a => a ≤ B) n 0 0 (Nat.zero_le _) ?_
  intro j a _ hj ha
  unfold mxG
  split
  · rename_i h1
    have := h j (by omega) h1
    omega
  · exact ha
theorem mx_ge {j : Nat} (hj : j < n) (hA : A i j = true) : E j + sv j ≤ mxF A n sv E i := by
  have := fold_invI (g := mxG A sv E i) (fun k a => j < k → E j + sv j ≤ a) n 0 0 (fun h => by omega) (by
    intro k a _ _ ha hk
    unfold mxG
    by_cases h1 : j = k
    · subst h1
      rw [if_pos hA]
      omega
    · have := ha (by omega)
      split <;> omega)
  exact this (by omega)
theorem mx_congr (h : ∀ j, j < n → A i j = true → E j = E' j) : mxF A n sv E i = mxF A n sv E' i := by
  unfold mxF
  apply fold_congr
  intro k a _ hk
  unfold mxG
  split
  · rename_i h1
    rw [h k (by omega) h1]
  · rfl
theorem mx_mono (h : ∀ j, j < n → A i j = true → E j ≤ E' j) : mxF A n sv E i ≤ mxF A n sv E' i := mx_le (fun j hj hA => Nat.le_trans (by have := h j hj hA; omega) (mx_ge hj hA))
theorem Lf_st (hrk : ∀ i j, i < n → j < n → A i j = true → rk j < rk i) : ∀ r i, i < n → rk i < r → Lf A n sv r i = Lf A n sv (r + 1) i := by
  intro r
  induction r with
  | zero => intro i _ h; omega
  | succ r ih =>
    intro i hi h
    show mxF A n sv (Lf A n sv r) i = mxF A n sv (Lf A n sv (r + 1)) i
    apply mx_congr
    intro j hj hA
    have := hrk i j hi hj hA
    exact ih j hj (by omega)
theorem Lf_fix (hrk : ∀ i j, i < n → j < n → A i j = true → rk j < rk i) (hn : ∀ i, i < n → rk i < n) (hi : i < n) : Lf A n sv n i = mxF A n sv (Lf A n sv n) i := Lf_st hrk n i hi (hn i hi)
theorem Lf_bd (hs : ∀ j, j < n → sv j ≤ 30) : ∀ r i, Lf A n sv r i ≤ 30 * r := by
  intro r
  induction r with
  | zero => intro i; exact Nat.le_refl 0
  | succ r ih =>
    intro i
    refine mx_le (fun j hj _ => ?_)
    have := ih j
    have := hs j hj
    omega
def eaP (A : Nat → Nat → Bool) (n : Nat) (sv rk : Nat → Nat) (r : Nat) (E : Nat → Nat) : Prop := (∀ j, j < n → E j ≤ Lf A n sv n j) ∧ ∀ j, j < n → rk j < r → E j = Lf A n sv n j
theorem erI_P (hrk : ∀ i j, i < n → j < n → A i j = true → rk j < rk i) (hn : ∀ i, i < n → rk i < n) {r : Nat} (hi : i < n) (h : eaP A n sv rk r E) : eaP A n sv rk r (erI A n sv E i) ∧ (rk i < r + 1 → erI A n sv E i i = Lf A n sv n i) := by
  have hle : mxF A n sv E i ≤ Lf A n sv n i := by
    rw [Lf_fix hrk hn hi]
    exact mx_mono (fun j hj _ => h.1 j hj)
  have heq : rk i < r + 1 → mxF A n sv E i = Lf A n sv n i := by
    intro hr
    rw [Lf_fix hrk hn hi]
    apply mx_congr
    intro j hj hA
    have := hrk i j hi hj hA
    exact h.2 j hj (by omega)
  unfold erI
  refine ⟨⟨fun j hj => ?_, fun j hj hr => ?_⟩, fun hr => by rw [upN_e]; exact heq hr⟩
  · by_cases h1 : j = i
    · subst h1; rw [upN_e]; exact hle
    · rw [upN_n _ _ _ _ h1]; exact h.1 j hj
  · by_cases h1 : j = i
    · subst h1; rw [upN_e]; exact heq (by omega)
    · rw [upN_n _ _ _ _ h1]; exact h.2 j hj hr
theorem erR_P (hrk : ∀ i j, i < n → j < n → A i j = true → rk j < rk i) (hn : ∀ i, i < n → rk i < n) {r : Nat} (h : eaP A n sv rk r E) : eaP A n sv rk (r + 1) (erR A n sv E) := by
  have := fold_invI (g := erI A n sv) (fun k E => eaP A n sv rk r E ∧ ∀ j, j < k → j < n → rk j < r + 1 → E j = Lf A n sv n j) n 0 E ⟨h, fun j hj => by omega⟩ (by
    rintro k E _ hk ⟨h1, h2⟩
    obtain ⟨h3, h4⟩ := erI_P hrk hn (show k < n by omega) h1
    refine ⟨h3, fun j hj hjn hr => ?_⟩
    by_cases h5 : j = k
    · subst h5; exact h4 hr
    · unfold erI
      rw [upN_n _ _ _ _ h5]
      exact h2 j (by omega) hjn hr)
  exact ⟨this.1.1, fun j hj hr => this.2 j (by omega) hj hr⟩
theorem er_end (hrk : ∀ i j, i < n → j < n → A i j = true → rk j < rk i) (hn : ∀ i, i < n → rk i < n) : ∀ m, eaP A n sv rk m (foldN (fun E _ => erR A n sv E) (fun _ => 0) 0 m) := by
  intro m
  induction m with
  | zero => exact ⟨fun j _ => Nat.zero_le _, fun j _ h => by omega⟩
  | succ m ih => rw [fold_snoc]; exact erR_P hrk hn ih
theorem frI_P (hrk : ∀ i j, i < n → j < n → A i j = true → rk j < rk i) (hn : ∀ i, i < n → rk i < n) {r : Nat} (hi : i < n) (h : eaP A n sv rk r E) : eaP A n sv rk r (frI A n sv E i) ∧ (rk i < r + 1 → frI A n sv E i i = Lf A n sv n i) ∧ ∀ q, q ≠ i → frI A n sv E i q = E q := by
  have key := fold_invI (g := frG A sv i) (fun k F => (∀ q, q ≠ i → F q = E q) ∧ F i ≤ Lf A n sv n i ∧ ∀ j, j < k → j < n → A i j = true → E j + sv j ≤ F i) n 0 E ⟨fun _ _ => rfl, h.1 i hi, fun j hj => by omega⟩ (by
    rintro k F _ hk ⟨h1, h2, h3⟩
    unfold frG
    refine ⟨fun q hq => by rw [upN_n _ _ _ _ hq]; exact h1 q hq, ?_, fun j hj hjn hA => ?_⟩
    · rw [upN_e]
      split
      · rename_i h4
        have hki : k ≠ i := fun hh => by have := hrk i k hi (by omega) h4.1; rw [hh] at this; omega
        rw [h1 k hki, Lf_fix hrk hn hi]
        exact Nat.le_trans (by have := h.1 k (by omega); omega) (mx_ge (E := Lf A n sv n) (show k < n by omega) h4.1)
      · exact h2
    · rw [upN_e]
      have hji : j ≠ i := fun hh => by have := hrk i j hi hjn hA; rw [hh] at this; omega
      by_cases h5 : j = k
      · subst h5
        rw [h1 j hji]
        by_cases h6 : F i < E j + sv j
        · rw [if_pos ⟨hA, h6⟩]; omega
        · rw [if_neg (fun hh => h6 hh.2)]; omega
      · have := h3 j (by omega) hjn hA
        split <;> omega)
  rw [Nat.zero_add] at key
  obtain ⟨k1, k2, k3⟩ := key
  have heq : rk i < r + 1 → frI A n sv E i i = Lf A n sv n i := by
    intro hr
    apply Nat.le_antisymm k2
    rw [Lf_fix hrk hn hi]
    refine mx_le (fun j hj hA => ?_)
    have := hrk i j hi hj hA
    rw [← h.2 j hj (by omega)]
    exact k3 j hj hj hA
  refine ⟨⟨fun j hj => ?_, fun j hj hr => ?_⟩, heq, k1⟩
  · by_cases h1 : j = i
    · subst h1; exact k2
    · show foldN (frG A sv i) E 0 n j ≤ _
      rw [k1 j h1]; exact h.1 j hj
  · by_cases h1 : j = i
    · subst h1; exact heq (by omega)
    · show foldN (frG A sv i) E 0 n j = _
      rw [k1 j h1]; exact h.2 j hj hr
theorem frR_P (hrk : ∀ i j, i < n → j < n → A i j = true → rk j < rk i) (hn : ∀ i, i < n → rk i < n) {r : Nat} (h : eaP A n sv rk r E) : eaP A n sv rk (r + 1) (frRR A n sv E) := by
  have := fold_invI (g := frI A n sv) (fun k E => eaP A n sv rk r E ∧ ∀ j, j < k → j < n → rk j < r + 1 → E j = Lf A n sv n j) n 0 E ⟨h, fun j hj => by omega⟩ (by
    rintro k E _ hk ⟨h1, h2⟩
    obtain ⟨h3, h4, h6⟩ := frI_P hrk hn (show k < n by omega) h1
    refine ⟨h3, fun j hj hjn hr => ?_⟩
    by_cases h5 : j = k
    · subst h5; exact h4 hr
    · rw [h6 j h5]
      exact h2 j (by omega) hjn hr)
  exact ⟨this.1.1, fun j hj hr => this.2 j (by omega) hj hr⟩
theorem fr_end (hrk : ∀ i j, i < n → j < n → A i j = true → rk j < rk i) (hn : ∀ i, i < n → rk i < n) : ∀ m, eaP A n sv rk m (foldN (fun E _ => frRR A n sv E) (fun _ => 0) 0 m) := by
  intro m
  induction m with
  | zero => exact ⟨fun j _ => Nat.zero_le _, fun j _ h => by omega⟩
  | succ m ih => rw [fold_snoc]; exact frR_P hrk hn ih
theorem frG_P (hrk : ∀ i j, i < n → j < n → A i j = true → rk j < rk i) (hn : ∀ i, i < n → rk i < n) {j : Nat} (hi : i < n) (hj : j < n) (h : ∀ j, j < n → E j ≤ Lf A n sv n j) : ∀ q, q < n → frG A sv i E j q ≤ Lf A n sv n q := by
  intro q hq
  unfold frG
  by_cases h1 : q = i
  · subst h1
    rw [upN_e]
    split
    · rename_i h4
      rw [Lf_fix hrk hn hi]
      exact Nat.le_trans (by have := h j hj; omega) (mx_ge (E := Lf A n sv n) hj h4.1)
    · exact h q hq
  · rw [upN_n _ _ _ _ h1]; exact h q hq
end FEA
