-- needs 56 57 58 59 60
/-! sets of names, what is reached, and the earliest minutes -/
def cntS (S : Nat → Bool) : Nat → Nat
  | 0 => 0
  | n + 1 => cntS S n + if S n = true then 1 else 0
theorem cntS_le (S : Nat → Bool) : ∀ n, cntS S n ≤ n := by
  intro n
  induction n with
  | zero => exact Nat.le_refl 0
  | succ n ih => simp only [cntS]; split <;> omega
theorem cntS_mono {S S' : Nat → Bool} : ∀ n, (∀ k, k < n → S k = true → S' k = true) → cntS S n ≤ cntS S' n := by
  intro n
  induction n with
  | zero => intro _; exact Nat.le_refl 0
  | succ n ih =>
    intro h
    have := ih (fun k hk => h k (by omega))
    simp only [cntS]
    by_cases h1 : S n = true
    · rw [if_pos h1, if_pos (h n (by omega) h1)]; omega
    · rw [if_neg h1]; omega
theorem cntS_lt {S S' : Nat → Bool} : ∀ n, (∀ k, k < n → S k = true → S' k = true) → (∃ k, k < n ∧ ¬ S k = true ∧ S' k = true) → cntS S n < cntS S' n := by
  intro n
  induction n with
  | zero => rintro _ ⟨k, hk, -⟩; omega
  | succ n ih =>
    rintro h ⟨k, hk, h1, h2⟩
    simp only [cntS]
    by_cases hkn : k = n
    · subst hkn
      have := cntS_mono k (fun j hj => h j (by omega))
      rw [if_neg h1, if_pos h2]
      omega
    · have := ih (fun j hj => h j (by omega)) ⟨k, by omega, h1, h2⟩
      by_cases h3 : S n = true
      · rw [if_pos h3, if_pos (h n (by omega) h3)]; omega
      · rw [if_neg h3]; omega
theorem cntS_full {S : Nat → Bool} : ∀ n, n ≤ cntS S n → ∀ k, k < n → S k = true := by
  intro n
  induction n with
  | zero => intro _ k hk; omega
  | succ n ih =>
    intro h k hk
    have hl := cntS_le S n
    simp only [cntS] at h
    by_cases h1 : S n = true
    · rw [if_pos h1] at h
      by_cases h2 : k = n
      · rw [h2]; exact h1
      · exact ih (by omega) k (by omega)
    · rw [if_neg h1] at h; omega
def clo (A : Nat → Nat → Bool) (n : Nat) (X : Nat → Bool) : Prop := ∀ j, j < n → X j = true → ∀ k, k < n → A j k = true → X k = true
def grw (A : Nat → Nat → Bool) (n : Nat) (S S' : Nat → Bool) : Prop := (∀ k, k < n → S k = true → S' k = true) ∧ (∀ j, j < n → S j = true → ∀ k, k < n → A j k = true → S' k = true) ∧ (clo A n S → ∀ k, k < n → S' k = true → S k = true)
theorem clo_after {σ : Type} {A : Nat → Nat → Bool} {n : Nat} (F : σ → σ) (V : σ → Nat → Bool) (I : σ → Prop) (hI : ∀ x, I x → I (F x)) (hg : ∀ x, I x → grw A n (V x) (V (F x))) : ∀ m x, I x → I (foldN (fun x _ => F x) x 0 m) ∧ (clo A n (V (foldN (fun x _ => F x) x 0 m)) ∨ m ≤ cntS (V (foldN (fun x _ => F x) x 0 m)) n) := by
  intro m
  induction m with
  | zero => intro x hx; exact ⟨hx, Or.inr (Nat.zero_le _)⟩
  | succ m ih =>
    intro x hx
    obtain ⟨h1, h2⟩ := ih x hx
    rw [fold_snoc]
    generalize foldN (fun x _ => F x) x 0 m = y at *
    obtain ⟨g1, g2, g3⟩ := hg y h1
    refine ⟨hI y h1, ?_⟩
    by_cases hc : clo A n (V y)
    · left
      intro j hj hS k hk hA
      exact g1 k hk (hc j hj (g3 hc j hj hS) k hk hA)
    · right
      rcases h2 with h2 | h2
      · exact absurd h2 hc
      · have : ∃ k, k < n ∧ ¬ V y k = true ∧ V (F y) k = true := by
          by_cases hex : ∃ k, k < n ∧ ¬ V y k = true ∧ V (F y) k = true
          · exact hex
          · exfalso
            apply hc
            intro j hj hS k hk hA
            by_cases hk2 : V y k = true
            · exact hk2
            · exact absurd ⟨k, hk, hk2, g2 j hj hS k hk hA⟩ hex
        have := cntS_lt n g1 this
        omega
theorem clo_end {σ : Type} {A : Nat → Nat → Bool} {n : Nat} (F : σ → σ) (V : σ → Nat → Bool) (I : σ → Prop) (hI : ∀ x, I x → I (F x)) (hg : ∀ x, I x → grw A n (V x) (V (F x))) {m : Nat} (hm : n ≤ m) (x : σ) (hx : I x) : clo A n (V (foldN (fun x _ => F x) x 0 m)) := by
  rcases (clo_after F V I hI hg m x hx).2 with h | h
  · exact h
  · intro j _ _ k hk _
    exact cntS_full n (by omega) k hk
/-! the class's way -/
def rcG (a : Nat → Int32) (r : Int32) (j : Nat) : Int32 := if tb r j = true then r ||| a j else r
def rcR (a : Nat → Int32) (n : Nat) (r : Int32) : Int32 := foldN (rcG a) r 0 n
def rcC (a : Nat → Int32) (n i : Nat) : Int32 := foldN (fun r _ => rcR a n r) (a i) 0 n
/-! the reference's way -/
def rmG (i : Nat) (R : Nat → Int32) (j : Nat) : Nat → Int32 := cu R i (if tb (R i) j = true then R i ||| R j else R i)
def rmI (n : Nat) (R : Nat → Int32) (i : Nat) : Nat → Int32 := foldN (rmG i) R 0 n
def rmR (n : Nat) (R : Nat → Int32) : Nat → Int32 := foldN (rmI n) R 0 n
def rmC (a : Nat → Int32) (n : Nat) : Nat → Int32 := foldN (fun R _ => rmR n R) a 0 8
section FGR
variable {a : Nat → Int32} {n : Nat}
theorem tb_orr (tbo : ∀ x y j, j < 32 → tb (x ||| y) j = (tb x j || tb y j)) {x y : Int32} {k : Nat} (hk : k < 32) : tb (x ||| y) k = true ↔ tb x k = true ∨ tb y k = true := by rw [tbo x y k hk, Bool.or_eq_true]
theorem rcG_grow (tbo : ∀ x y j, j < 32 → tb (x ||| y) j = (tb x j || tb y j)) {r : Int32} {j k : Nat} (hk : k < 32) (h : tb r k = true) : tb (rcG a r j) k = true := by
  unfold rcG
  split
  · exact (tb_orr tbo hk).mpr (Or.inl h)
  · exact h
theorem rc_grw (tbo : ∀ x y j, j < 32 → tb (x ||| y) j = (tb x j || tb y j)) (hn : n ≤ 8) (r : Int32) : grw (fun j k => tb (a j) k) n (tb r) (tb (rcR a n r)) := by
  have mono : ∀ d j r k, k < 32 → tb r k = true → tb (foldN (rcG a) r j d) k = true := fun d j r k hk h => fold_inv (g := rcG a) (fun r => tb r k = true) d j r h (fun j r _ _ hr => rcG_grow tbo hk hr)
  refine ⟨fun k hk h => mono n 0 r k (by omega) h, ?_, ?_⟩
  · intro j hj hS k hk hA
    unfold rcR
    have key : ∀ d j0 r, j0 ≤ j → j < j0 + d → tb r j = true → tb (foldN (rcG a) r j0 d) k = true := by
      intro d
      induction d with
      | zero => intro j0 r h1 h2; omega
      | succ d ih =>
        intro j0 r h1 h2 h3
        show tb (foldN (rcG a) (rcG a r j0) (j0 + 1) d) k = true
        by_cases h4 : j = j0
        · apply mono _ _ _ _ (by omega)
          unfold rcG
          rw [← h4, if_pos h3]
          exact (tb_orr tbo (by omega)).mpr (Or.inr hA)
        · exact ih (j0 + 1) _ (by omega) (by omega) (rcG_grow tbo (by omega) h3)
    exact key n 0 r (by omega) (by omega) hS
  · intro hc
    have := fold_inv (g := rcG a) (fun r' => ∀ k, k < n → tb r' k = true → tb r k = true) n 0 r (fun k _ h => h) (by
      intro j r' _ hj hr k hk h
      unfold rcG at h
      split at h
      · rename_i h1
        rcases (tb_orr tbo (by omega)).mp h with h2 | h2
        · exact hr k hk h2
        · exact hc j (by omega) (hr j (by omega) h1) k hk h2
      · exact hr k hk h)
    exact this
theorem rc_clo (tbo : ∀ x y j, j < 32 → tb (x ||| y) j = (tb x j || tb y j)) (hn : n ≤ 8) (i : Nat) : clo (fun j k => tb (a j) k) n (tb (rcC a n i)) := clo_end (rcR a n) (fun r => tb r) (fun _ => True) (fun _ _ => trivial) (fun r _ => rc_grw tbo hn r) (Nat.le_refl n) (a i) trivial
theorem rc_sup (tbo : ∀ x y j, j < 32 → tb (x ||| y) j = (tb x j || tb y j)) (hn : n ≤ 8) (i : Nat) : ∀ k, k < n → tb (a i) k = true → tb (rcC a n i) k = true := by
  intro k hk h
  exact fold_inv (g := fun r _ => rcR a n r) (fun r => tb r k = true) n 0 (a i) h (fun _ r _ _ hr => (rc_grw tbo hn r).1 k hk hr)
theorem rc_least (tbo : ∀ x y j, j < 32 → tb (x ||| y) j = (tb x j || tb y j)) (hn : n ≤ 8) (i : Nat) {X : Nat → Bool} (hX : clo (fun j k => tb (a j) k) n X) (h0 : ∀ k, k < n → tb (a i) k = true → X k = true) : ∀ k, k < n → tb (rcC a n i) k = true → X k = true := by
  refine fold_inv (g := fun r _ => rcR a n r) (fun r => ∀ k, k < n → tb r k = true → X k = true) n 0 (a i) h0 ?_
  intro _ r _ _ hr
  refine fold_inv (g := rcG a) (fun r => ∀ k, k < n → tb r k = true → X k = true) n 0 r hr ?_
  intro j r _ hj hr k hk h
  unfold rcG at h
  split at h
  · rename_i h1
    rcases (tb_orr tbo (by omega)).mp h with h2 | h2
    · exact hr k hk h2
    · exact hX j (by omega) (hr j (by omega) h1) k hk h2
  · exact hr k hk h
/-- what always holds of the reference's rows -/
def rmV (a : Nat → Int32) (n : Nat) (R : Nat → Int32) : Prop := (∀ i, i < n → ∀ k, k < n → tb (a i) k = true → tb (R i) k = true) ∧ ∀ i, i < n → ∀ X, clo (fun j k => tb (a j) k) n X → (∀ k, k < n → tb (a i) k = true → X k = true) → ∀ k, k < n → tb (R i) k = true → X k = true
theorem rmG_V (tbo : ∀ x y j, j < 32 → tb (x ||| y) j = (tb x j || tb y j)) (hn : n ≤ 8) {R : Nat → Int32} {i j : Nat} (hi : i < n) (hj : j < n) (h : rmV a n R) : rmV a n (rmG i R j) := by
  unfold rmG
  by_cases h1 : tb (R i) j = true
  · rw [if_pos h1]
    refine ⟨fun i2 hi2 k hk hA => ?_, fun i2 hi2 X hX h0 k hk hS => ?_⟩
    · by_cases h2 : i2 = i
      · subst h2; rw [cu_e]; exact (tb_orr tbo (by omega)).mpr (Or.inl (h.1 i2 hi2 k hk hA))
      · rw [cu_n _ _ _ _ h2]; exact h.1 i2 hi2 k hk hA
    · by_cases h2 : i2 = i
      · subst h2
        rw [cu_e] at hS
        rcases (tb_orr tbo (by omega)).mp hS with h3 | h3
        · exact h.2 i2 hi2 X hX h0 k hk h3
        · have hXj := h.2 i2 hi2 X hX h0 j hj h1
          exact h.2 j hj X hX (fun k hk hA => hX j hj hXj k hk hA) k hk h3
      · rw [cu_n _ _ _ _ h2] at hS; exact h.2 i2 hi2 X hX h0 k hk hS
  · rw [if_neg h1]
    have : cu R i (R i) = R := by
      funext q
      by_cases hq : q = i
      · rw [hq, cu_e]
      · rw [cu_n _ _ _ _ hq]
    rw [this]
    exact h
theorem rmG_mono (tbo : ∀ x y j, j < 32 → tb (x ||| y) j = (tb x j || tb y j)) {R : Nat → Int32} {i j i2 k : Nat} (hk : k < 32) (h : tb (R i2) k = true) : tb (rmG i R j i2) k = true := by
  unfold rmG
  by_cases h2 : i2 = i
  · subst h2
    rw [cu_e]
    split
    · exact (tb_orr tbo hk).mpr (Or.inl h)
    · exact h
  · rw [cu_n _ _ _ _ h2]; exact h
theorem rmI_V (tbo : ∀ x y j, j < 32 → tb (x ||| y) j = (tb x j || tb y j)) (hn : n ≤ 8) {R : Nat → Int32} {i : Nat} (hi : i < n) (h : rmV a n R) : rmV a n (rmI n R i) := fold_inv (g := rmG i) (fun R => rmV a n R) n 0 R h (fun j R _ hj hR => rmG_V tbo hn hi (by omega) hR)
theorem rmR_V (tbo : ∀ x y j, j < 32 → tb (x ||| y) j = (tb x j || tb y j)) (hn : n ≤ 8) {R : Nat → Int32} (h : rmV a n R) : rmV a n (rmR n R) := fold_inv (g := rmI n) (fun R => rmV a n R) n 0 R h (fun j R _ hj hR => rmI_V tbo hn (by omega) hR)
theorem rmI_mono (tbo : ∀ x y j, j < 32 → tb (x ||| y) j = (tb x j || tb y j)) {R : Nat → Int32} {i i2 k : Nat} (hk : k < 32) (h : tb (R i2) k = true) : tb (rmI n R i i2) k = true := fold_inv (g := rmG i) (fun R => tb (R i2) k = true) n 0 R h (fun j R _ hj hR => rmG_mono tbo hk hR)
theorem rm_grw (tbo : ∀ x y j, j < 32 → tb (x ||| y) j = (tb x j || tb y j)) (hn : n ≤ 8) {R : Nat → Int32} {i : Nat} (hi : i < n) (hV : rmV a n R) : grw (fun j k => tb (a j) k) n (tb (R i)) (tb (rmR n R i)) := by
  have monoF : ∀ d i0 R i2 k, k < 32 → tb (R i2) k = true → tb (foldN (rmI n) R i0 d i2) k = true := fun d i0 R i2 k hk h => fold_inv (g := rmI n) (fun R => tb (R i2) k = true) d i0 R h (fun j R _ hj hR => rmI_mono tbo hk hR)
  have hV2 := rmR_V tbo hn hV
  refine ⟨fun k hk h => monoF n 0 R i k (by omega) h, ?_, ?_⟩
  · intro j hj hS k hk hA
    have monoG : ∀ d j0 R i2 k, k < 32 → tb (R i2) k = true → tb (foldN (rmG i) R j0 d i2) k = true := fun d j0 R i2 k hk h => fold_inv (g := rmG i) (fun R => tb (R i2) k = true) d j0 R h (fun j R _ hj hR => rmG_mono tbo hk hR)
    have inner : ∀ d j0 R, rmV a n R → j0 + d ≤ n → j0 ≤ j → j < j0 + d → tb (R i) j = true → tb (foldN (rmG i) R j0 d i) k = true := by
      intro d
      induction d with
      | zero => intro j0 R _ _ h1 h2; omega
      | succ d ih =>
        intro j0 R hR hd h1 h2 h3
        show tb (foldN (rmG i) (rmG i R j0) (j0 + 1) d i) k = true
        by_cases h4 : j = j0
        · apply monoG _ _ _ _ _ (by omega)
          unfold rmG
          rw [cu_e, ← h4, if_pos h3]
          exact (tb_orr tbo (by omega)).mpr (Or.inr (hR.1 j hj k hk hA))
        · exact ih (j0 + 1) _ (rmG_V tbo hn hi (by omega) hR) (by omega) (by omega) (by omega) (rmG_mono tbo (by omega) h3)
    have outer : ∀ d i0 R, rmV a n R → i0 + d ≤ n → i0 ≤ i → i < i0 + d → tb (R i) j = true → tb (foldN (rmI n) R i0 d i) k = true := by
      intro d
      induction d with
      | zero => intro i0 R _ _ h1 h2; omega
      | succ d ih =>
        intro i0 R hR hd h1 h2 h3
        show tb (foldN (rmI n) (rmI n R i0) (i0 + 1) d i) k = true
        by_cases h4 : i = i0
        · apply monoF _ _ _ _ _ (by omega)
          rw [← h4]
          exact inner n 0 R hR (by omega) (by omega) (by omega) h3
        · exact ih (i0 + 1) _ (rmI_V tbo hn (by omega) hR) (by omega) (by omega) (by omega) (rmI_mono tbo (by omega) h3)
    exact outer n 0 R hV (by omega) (by omega) (by omega) hS
  · intro hc k hk h
    exact hV2.2 i hi (tb (R i)) hc (hV.1 i hi) k hk h
theorem rm_V0 : rmV a n a := ⟨fun _ _ _ _ h => h, fun _ _ _ _ h0 k hk h => h0 k hk h⟩
theorem rm_V (tbo : ∀ x y j, j < 32 → tb (x ||| y) j = (tb x j || tb y j)) (hn : n ≤ 8) : rmV a n (rmC a n) := fold_inv (g := fun R _ => rmR n R) (fun R => rmV a n R) 8 0 a rm_V0 (fun _ R _ _ hR => rmR_V tbo hn hR)
theorem rm_clo (tbo : ∀ x y j, j < 32 → tb (x ||| y) j = (tb x j || tb y j)) (hn : n ≤ 8) {i : Nat} (hi : i < n) : clo (fun j k => tb (a j) k) n (tb (rmC a n i)) := clo_end (rmR n) (fun R => tb (R i)) (fun R => rmV a n R) (fun _ h => rmR_V tbo hn h) (fun R h => rm_grw tbo hn hi h) hn a rm_V0
/-- both find the same -/
theorem ring_eq (tbo : ∀ x y j, j < 32 → tb (x ||| y) j = (tb x j || tb y j)) (hn : n ≤ 8) {i : Nat} (hi : i < n) : ∀ k, k < n → tb (rcC a n i) k = tb (rmC a n i) k := by
  intro k hk
  have h1 := rc_least (a := a) tbo hn i (rm_clo tbo hn hi) ((rm_V tbo hn).1 i hi) k hk
  have h2 := (rm_V (a := a) tbo hn).2 i hi (tb (rcC a n i)) (rc_clo tbo hn i) (rc_sup tbo hn i) k hk
  rcases Bool.eq_false_or_eq_true (tb (rcC a n i) k) with h | h
  · rw [h, h1 h]
  · rcases Bool.eq_false_or_eq_true (tb (rmC a n i) k) with h3 | h3
    · rw [h2 h3, h3]
    · rw [h, h3]
def rnk (a : Nat → Int32) (n i : Nat) : Nat := cntS (tb (rcC a n i)) n
theorem rnk_lt (tbo : ∀ x y j, j < 32 → tb (x ||| y) j = (tb x j || tb y j)) (hn : n ≤ 8) (hR : ∀ i, i < n → ¬ tb (rcC a n i) i = true) {i j : Nat} (hi : i < n) (hj : j < n) (hA : tb (a i) j = true) : rnk a n j < rnk a n i := by
  have hj1 := rc_sup tbo hn i j hj hA
  refine cntS_lt n ?_ ⟨j, hj, hR j hj, hj1⟩
  exact rc_least tbo hn j (rc_clo tbo hn i) (fun k hk h => rc_clo tbo hn i j hj hj1 k hk h)
theorem rnk_n (hR : ∀ i, i < n → ¬ tb (rcC a n i) i = true) {i : Nat} (hi : i < n) : rnk a n i < n := by
  have hl := cntS_le (tb (rcC a n i)) n
  by_cases h : rnk a n i = n
  · exact absurd (cntS_full n (by unfold rnk at h; omega) i hi) (hR i hi)
  · unfold rnk at h ⊢; omega
end FGR
