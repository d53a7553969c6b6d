-- needs 56 57 58 59 60 61 62 63 64
/-! the class's cells and the reference's: what agrees, and what always holds of them -/
def agr (c d : Nat → Int32) : Prop := ∀ k, k < 19 → (k = 15 ∨ k = 16 → d 10 = 1) → c k = d k
def agrV (n : Nat) (c d : Nat → Nat → Int32) : Prop := ∀ i, i < n → agr (c i) (d i)
def inv1 (c : Nat → Int32) : Prop := (∃ lg : Nat, 1 ≤ lg ∧ lg ≤ 30 ∧ c 1 = nI lg ∧ (c 10 = 1 → ∃ a : Nat, a < lg ∧ c 12 = nI a)) ∧ (∃ a : Int, 0 ≤ a ∧ a ≤ 99 ∧ c 2 = iI a) ∧ (∃ a : Int, 0 ≤ a ∧ a ≤ 99 ∧ c 3 = iI a) ∧ (∃ r : Nat, r ≤ 99 ∧ c 6 = nI r) ∧ (∃ r : Nat, r ≤ 99 ∧ c 13 = nI r) ∧ (c 10 = 1 → ∃ a : Int, 0 ≤ a ∧ a ≤ 200 ∧ c 16 = iI a) ∧ (c 17 = -1 ∨ ∃ k : Nat, k ≤ 40 ∧ c 17 = nI k) ∧ (c 18 = -1 ∨ ∃ k : Nat, k ≤ 200 ∧ c 18 = nI k) ∧ (c 10 = 0 ∨ c 10 = 1 ∨ c 10 = 2 ∨ c 10 = 3 ∨ c 10 = 4)
def inv (n : Nat) (v : Nat → Nat → Int32) : Prop := ∀ i, i < n → inv1 (v i)
def mapV (g : (Nat → Int32) → Nat → Int32) (n : Nat) (v : Nat → Nat → Int32) : Nat → Nat → Int32 := fun i => if i < n then g (v i) else v i
theorem agr_cc {c d : Nat → Int32} {k : Nat} {x : Int32} (h : agr c d) (hk : k ≠ 10) : agr (cu c k x) (cu d k x) := by
  intro j hj h2
  by_cases h1 : j = k
  · rw [h1, cu_e, cu_e]
  · rw [cu_n _ _ _ _ h1, cu_n _ _ _ _ h1]
    exact h j hj (fun h3 => by have := h2 h3; rwa [cu_n _ _ _ _ (by omega)] at this)
theorem agr_st {c d : Nat → Int32} {x : Int32} (h : agr c d) (hx : x ≠ 1) : agr (cu c 10 x) (cu d 10 x) := by
  intro j hj h2
  by_cases h1 : j = 10
  · rw [h1, cu_e, cu_e]
  · rw [cu_n _ _ _ _ h1, cu_n _ _ _ _ h1]
    exact h j hj (fun h3 => by have := h2 h3; rw [cu_e] at this; exact absurd this hx)
theorem agr_mapV {g : (Nat → Int32) → Nat → Int32} {n : Nat} {c d : Nat → Nat → Int32} (hg : ∀ i, i < n → agr (c i) (d i) → agr (g (c i)) (g (d i))) (h : agrV n c d) : agrV n (mapV g n c) (mapV g n d) := by
  intro i hi
  unfold mapV
  rw [if_pos hi, if_pos hi]
  exact hg i hi (h i hi)
theorem inv_mapV {g : (Nat → Int32) → Nat → Int32} {n : Nat} {d : Nat → Nat → Int32} (hg : ∀ i, i < n → inv1 (d i) → inv1 (g (d i))) (h : inv n d) : inv n (mapV g n d) := by
  intro i hi
  unfold mapV
  rw [if_pos hi]
  exact hg i hi (h i hi)
theorem vC_mapC (g : (Nat → Int32) → Nat → Int32) (hi : am_I) (P n : Nat) : vC (mapC g hi P n) P = mapV g n (vC hi P) := by
  funext i
  unfold vC mapC mapV
  by_cases h : i < n
  · rw [if_pos h, if_pos (by omega)]
  · rw [if_neg h, if_neg (by omega)]
theorem mapC_fr (g : (Nat → Int32) → Nat → Int32) (hi : am_I) (P n : Nat) (hn : n ≤ 8) : frP P hi (mapC g hi P n) := by
  intro q hq
  unfold mapC
  rw [if_neg (by omega)]
theorem agr_ready {c d : Nat → Int32} (h : agr c d) : agr (aReady c) (aReady d) := by
  unfold aReady
  have h6 : c 6 = d 6 := h 6 (by omega) (by omega)
  rw [h6]
  refine agr_cc (agr_cc (agr_cc (agr_cc (agr_st h ?_) ?_) ?_) ?_) ?_ <;> decide
theorem agr_give {c d : Nat → Int32} (h : agr c d) : agr (aGive c) (aGive d) := by
  unfold aGive
  have h10 : c 10 = d 10 := h 10 (by omega) (by omega)
  rw [h10]
  split
  · exact agr_st h (by decide)
  · split
    · exact agr_st h (by decide)
    · exact h
theorem agr_start {c d : Nat → Int32} {t : Int32} (h : agr c d) : agr (aStart t c) (aStart t d) := by
  unfold aStart
  have h14 : c 14 = d 14 := h 14 (by omega) (by omega)
  have h17 : c 17 = d 17 := h 17 (by omega) (by omega)
  have h18 : c 18 = d 18 := h 18 (by omega) (by omega)
  have h1 : c 1 = d 1 := h 1 (by omega) (by omega)
  have h2 : c 2 = d 2 := h 2 (by omega) (by omega)
  rw [h14, h17, h18, h1, h2]
  intro j hj h3
  by_cases e15 : j = 15
  · subst e15
    rw [cu_n _ _ _ _ (by decide), cu_n _ _ _ _ (by decide), cu_n _ _ _ _ (by decide), cu_e, cu_n _ _ _ _ (by decide), cu_n _ _ _ _ (by decide), cu_n _ _ _ _ (by decide), cu_e]
  · by_cases e16 : j = 16
    · subst e16
      rw [cu_n _ _ _ _ (by decide), cu_n _ _ _ _ (by decide), cu_e, cu_n _ _ _ _ (by decide), cu_n _ _ _ _ (by decide), cu_e]
    · have hj' := h j hj (by omega)
      simp only [cu]
      rw [hj']
theorem agr_older {c d : Nat → Int32} (h : agr c d) : agr (aOlderR c) (aOlderR d) := by
  unfold aOlderR
  have h10 : c 10 = d 10 := h 10 (by omega) (by omega)
  rw [h10]
  by_cases hr : d 10 = 1
  · rw [if_pos hr, if_pos hr]
    unfold aOlder
    have h1 : c 1 = d 1 := h 1 (by omega) (by omega)
    have h2 : c 2 = d 2 := h 2 (by omega) (by omega)
    have h12 : c 12 = d 12 := h 12 (by omega) (by omega)
    have h13 : c 13 = d 13 := h 13 (by omega) (by omega)
    have h15 : c 15 = d 15 := h 15 (by omega) (fun _ => hr)
    have h16 : c 16 = d 16 := h 16 (by omega) (fun _ => hr)
    rw [h1, h2, h12, h15, h16]
    split
    · unfold aStop
      rw [cu_n _ _ _ _ (by decide), cu_n _ _ _ _ (by decide), h13]
      split
      · refine agr_st (agr_cc h ?_) ?_ <;> decide
      · refine agr_st (agr_cc (agr_cc h ?_) ?_) ?_ <;> decide
    · split
      · exact agr_cc h (by decide)
      · refine agr_st (agr_cc h ?_) ?_ <;> decide
  · rw [if_neg hr, if_neg hr]
    exact h
theorem agr_sk {n : Nat} {c d : Nat → Nat → Int32} (h : agrV n c d) {i k : Nat} (hi : i < n) (hk : k < 15) : c i k = d i k := h i hi k (by omega) (by omega)
theorem hopeless_cg {n : Nat} {c d : Nat → Nat → Int32} {t : Int32} {i : Nat} (h : agrV n c d) (hi : i < n) : hopeless c n t i = hopeless d n t i := by
  unfold hopeless
  rw [agr_sk h hi (by omega : 5 < 15), any_congr (q := hopeJ d i)]
  intro k _ hk
  unfold hopeJ fd dn
  rw [agr_sk h hi (by omega : 7 < 15), agr_sk h hi (by omega : 8 < 15), agr_sk h (show k < n by omega) (by omega : 10 < 15)]
theorem ready_cg {n : Nat} {c d : Nat → Nat → Int32} {i : Nat} (h : agrV n c d) (hi : i < n) : readyB c n i = readyB d n i := by
  unfold readyB
  rw [any_congr (q := blockJ d i)]
  · rw [agr_sk h hi (by omega : 10 < 15)]
  · intro k _ hk
    unfold blockJ fd dn
    rw [agr_sk h hi (by omega : 7 < 15), agr_sk h hi (by omega : 8 < 15), agr_sk h (show k < n by omega) (by omega : 10 < 15)]
theorem busy_cg {n : Nat} {c d : Nat → Nat → Int32} (h : agrV n c d) : anyN (busyB c) 0 n = anyN (busyB d) 0 n := by
  apply any_congr
  intro k _ hk
  unfold busyB
  rw [agr_sk h (show k < n by omega) (by omega : 10 < 15)]
theorem sumR_cg {n : Nat} {c d : Nat → Nat → Int32} (h : agrV n c d) {k : Nat} (hk : k < 19) (a : Int32) : foldN (sumR c k) a 0 n = foldN (sumR d k) a 0 n := by
  apply fold_congr
  intro j x _ hj
  unfold sumR
  have h10 := agr_sk h (show j < n by omega) (by omega : 10 < 15)
  rw [h10]
  by_cases hr : d j 10 = 1
  · rw [if_pos hr, if_pos hr, h j (by omega) k hk (fun _ => hr)]
  · rw [if_neg hr, if_neg hr]
theorem agr_cw {n : Nat} {c d : Nat → Nat → Int32} {j : Nat} {x y : Nat → Int32} (h : agrV n c d) (hx : agr x y) : agrV n (cw c j x) (cw d j y) := by
  intro i hi
  by_cases hj : i = j
  · subst hj; rw [cw_e, cw_e]; exact hx
  · rw [cw_n _ _ _ _ hj, cw_n _ _ _ _ hj]; exact h i hi
theorem inv_cw {n : Nat} {d : Nat → Nat → Int32} {j : Nat} {y : Nat → Int32} (h : inv n d) (hx : inv1 y) : inv n (cw d j y) := by
  intro i hi
  by_cases hj : i = j
  · subst hj; rw [cw_e]; exact hx
  · rw [cw_n _ _ _ _ hj]; exact h i hi
theorem inv1_st {c : Nat → Int32} {x : Int32} (h : inv1 c) (hx : x = 0 ∨ x = 2 ∨ x = 3 ∨ x = 4) : inv1 (cu c 10 x) := by
  obtain ⟨⟨lg, a1, a2, a3, a4⟩, b1, b2, b3, b4, b5, b6, b7, b8⟩ := h
  have hx1 : x ≠ 1 := by rcases hx with h | h | h | h <;> rw [h] <;> decide
  unfold inv1
  simp only [cu_e, cu_n _ _ 1 _ (show (1 : Nat) ≠ 10 by decide), cu_n _ _ 2 _ (show (2 : Nat) ≠ 10 by decide), cu_n _ _ 3 _ (show (3 : Nat) ≠ 10 by decide), cu_n _ _ 6 _ (show (6 : Nat) ≠ 10 by decide), cu_n _ _ 12 _ (show (12 : Nat) ≠ 10 by decide), cu_n _ _ 13 _ (show (13 : Nat) ≠ 10 by decide), cu_n _ _ 16 _ (show (16 : Nat) ≠ 10 by decide), cu_n _ _ 17 _ (show (17 : Nat) ≠ 10 by decide), cu_n _ _ 18 _ (show (18 : Nat) ≠ 10 by decide)]
  exact ⟨⟨lg, a1, a2, a3, fun h => absurd h hx1⟩, b1, b2, b3, b4, fun h => absurd h hx1, b6, b7, by rcases hx with h | h | h | h <;> simp [h]⟩
theorem skipV_rel {n : Nat} {c d : Nat → Nat → Int32} {t : Int32} {j : Nat} (hj : j < n) (h : agrV n c d ∧ inv n d) : agrV n (skipV n t c j) (skipV n t d j) ∧ inv n (skipV n t d j) := by
  unfold skipV
  rw [agr_sk h.1 hj (by omega : 10 < 15), hopeless_cg h.1 hj]
  split
  · exact ⟨agr_cw h.1 (agr_st (h.1 j hj) (by decide)), inv_cw h.2 (inv1_st (h.2 j hj) (by simp))⟩
  · exact h
theorem itS_rel {n : Nat} {c d : Nat → Nat → Int32} {t : Int32} (h : agrV n c d ∧ inv n d) : agrV n (itS n t c) (itS n t d) ∧ inv n (itS n t d) := by
  unfold itS
  refine fold_rel (g := fun x _ => sweepV n t x) (h := fun x _ => sweepV n t x) (fun c d => agrV n c d ∧ inv n d) n 0 c d h ?_
  intro k c d _ _ h
  unfold sweepV
  exact fold_rel (g := skipV n t) (h := skipV n t) (fun c d => agrV n c d ∧ inv n d) n 0 c d h (fun k c d _ hk h => skipV_rel (by omega) h)
theorem inv_ready {c : Nat → Int32} (h : inv1 c) : inv1 (aReady c) := by
  obtain ⟨⟨lg, a1, a2, a3, a4⟩, b1, b2, b3, b4, b5, b6, b7, b8⟩ := h
  unfold inv1 aReady
  simp only [cu, if_pos, show ((1 : Nat) = 14) = False by simp, show ((1 : Nat) = 13) = False by simp, show ((1 : Nat) = 12) = False by simp]
  simp
  exact ⟨⟨lg, a1, a2, a3⟩, b1, b2, b3, b6, b7⟩
theorem inv_give {c : Nat → Int32} (h : inv1 c) : inv1 (aGive c) := by
  unfold aGive
  split
  · exact inv1_st h (by simp)
  · split
    · exact inv1_st h (by simp)
    · exact h
theorem inv_start {c : Nat → Int32} {t : Int32} (h : inv1 c) : inv1 (aStart t c) := by
  obtain ⟨⟨lg, a1, a2, a3, a4⟩, b1, b2, b3, b4, b5, b6, b7, b8⟩ := h
  unfold inv1 aStart
  simp only [cu]
  simp
  refine ⟨⟨lg, a1, a2, a3, 0, by omega, rfl⟩, b1, b2, b3, b4, ?_⟩
  rcases b7 with h7 | ⟨k, h7, h8⟩
  · rw [if_pos h7]
    obtain ⟨a, h1, h2, h3⟩ := b1
    exact ⟨a, h1, by omega, h3⟩
  · rw [if_neg]
    · exact ⟨k, by omega, by omega, by rw [h8]; exact iI_n k⟩
    · rw [h8, iI_n, i_m1]
      simp (disch := omega) only [iI_inj]
      omega
theorem inv_older {c : Nat → Int32} (h : inv1 c) : inv1 (aOlderR c) := by
  have h0 := h
  obtain ⟨⟨lg, a1, a2, a3, a4⟩, b1, b2, b3, ⟨r, r1, r2⟩, b5, b6, b7, b8⟩ := h
  unfold aOlderR
  by_cases hr : c 10 = 1
  · rw [if_pos hr]
    obtain ⟨a, ha1, ha2⟩ := a4 hr
    unfold aOlder
    have age : ∀ x, (x = 0 ∨ x = 2 ∨ x = 3 ∨ x = 4) → inv1 (cu (cu c 12 (c 12 + 1)) 10 x) := by
      intro x hx
      have hx1 : x ≠ 1 := by rcases hx with h | h | h | h <;> rw [h] <;> decide
      unfold inv1
      simp only [cu]
      simp [hx1]
      exact ⟨⟨lg, a1, a2, a3⟩, b1, b2, b3, ⟨r, r1, r2⟩, b6, b7, by rcases hx with h | h | h | h <;> simp [h]⟩
    split
    · unfold aStop
      rw [cu_n _ _ _ _ (by decide)]
      split
      · exact age 3 (by simp)
      · rename_i hr0
        have e : c 13 - 1 = nI (r - 1) := by
          rw [r2]
          cases r with
          | zero => rw [r2] at hr0; exact absurd (by decide) hr0
          | succ r => exact nI_pred r
        rw [e]
        unfold inv1
        simp only [cu]
        simp
        exact ⟨⟨lg, a1, a2, a3⟩, b1, b2, b3, ⟨r - 1, by omega, rfl⟩, b6, b7⟩
    · rename_i hn1
      split
      · rename_i h2
        have hlt : c 12 + 1 < c 1 := by
          by_cases h3 : c 12 + 1 < c 1
          · exact h3
          · exfalso
            apply hn1
            right
            refine ⟨h3, ?_⟩
            rw [Int32.not_le]
            exact h2
        rw [ha2, n_s, a3, n_lt (by omega) (by omega)] at hlt
        rw [ha2, n_s]
        unfold inv1
        simp only [cu]
        simp
        exact ⟨⟨lg, a1, a2, a3, fun _ => ⟨a + 1, hlt, rfl⟩⟩, b1, b2, b3, ⟨r, r1, r2⟩, b5, b6, b7, b8⟩
      · exact age 2 (by simp)
  · rw [if_neg hr]
    exact h0
theorem old_ok {c : Nat → Int32} (h : inv1 c) : okOld c := by
  intro hr
  obtain ⟨⟨lg, a1, a2, a3, a4⟩, b1, b2, b3, ⟨r, r1, r2⟩, b5, b6, b7, b8⟩ := h
  obtain ⟨a, ha1, ha2⟩ := a4 hr
  rw [ha2, a3, n_s, n_inj (by omega) (by omega), n_lt (by omega) (by omega)]
  refine ⟨by omega, ?_⟩
  intro h
  rw [r2] at h ⊢
  have : nI r ≤ nI 0 := h
  rw [n_le (by omega) (by omega)] at this
  rw [Nat.le_zero.mp this]
  rfl
