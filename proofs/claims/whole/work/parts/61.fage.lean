-- needs 56 57 58 59 60
/-! a minute of the running ones, in the reference -/
def ageG (M : Nat) (x : am_I) (j : Nat) : am_I :=
  if x (M + 7) j = 1 then
    (let y := am_up x (M + 9) j (x (M + 9) j + 1)
     if x (M + 5) (16 + j) < x (M + 13) j ∨ (x (M + 9) j + 1 = x (M + 5) (8 + j) ∧ ¬ x (M + 12) j ≤ x (M + 9) j + 1) then
       am_up (am_up y (M + 7) j (if x (M + 10) j ≤ 0 then 3 else 0)) (M + 10) j (if x (M + 10) j ≤ 0 then 0 else x (M + 10) j - 1)
     else if x (M + 9) j + 1 < x (M + 12) j then y else am_up y (M + 7) j 2)
  else x
theorem ageG_fr {M : Nat} {hi x : am_I} {j : Nat} (hx : frM M hi x) : frM M hi (ageG M x j) := by
  unfold ageG
  have h1 : frM M hi (am_up x (M + 9) j (x (M + 9) j + 1)) := hx.up (by omega) (by omega)
  split
  · simp only []
    split
    · refine frM.up (frM.up h1 ?_ ?_) ?_ ?_ <;> omega
    · split
      · exact h1
      · exact h1.up (by omega) (by omega)
  · exact hx
theorem i0_1 : ((1 : Int32) = 0) = False := by decide
def okOld (c : Nat → Int32) : Prop := c 10 = 1 → ((c 12 + 1 = c 1 ↔ ¬ c 12 + 1 < c 1) ∧ (c 13 ≤ 0 → c 13 = 0))
theorem cu_self (c : Nat → Int32) (k : Nat) : cu c k (c k) = c := by
  funext j
  by_cases h : j = k
  · rw [h, cu_e]
  · rw [cu_n _ _ _ _ h]
theorem cu_comm (c : Nat → Int32) (k l : Nat) (x y : Int32) (h : k ≠ l) : cu (cu c k x) l y = cu (cu c l y) k x := by
  funext j
  simp only [cu]
  by_cases h1 : j = k <;> by_cases h2 : j = l <;> simp [h1, h2]
  · omega
  · intro h3; exact absurd h3 h
  · intro h3; exact absurd h3.symm h
theorem ageG_v {M : Nat} (x : am_I) (j : Nat) (h : okOld (vM x M j)) : vM (ageG M x j) M = cw (vM x M) j (aOlderR (vM x M j)) := by
  have e1 : vM x M j 1 = x (M + 5) (8 + j) := vM_lt (by omega)
  have e2 : vM x M j 2 = x (M + 5) (16 + j) := vM_lt (by omega)
  have e10 : vM x M j 10 = x (M + 7) j := vM_ge (by omega)
  have e12 : vM x M j 12 = x (M + 9) j := vM_ge (by omega)
  have e13 : vM x M j 13 = x (M + 10) j := vM_ge (by omega)
  have e15 : vM x M j 15 = x (M + 12) j := vM_ge (by omega)
  have e16 : vM x M j 16 = x (M + 13) j := vM_ge (by omega)
  unfold ageG aOlderR
  rw [← e10]
  by_cases hr : vM x M j 10 = 1
  · rw [if_pos hr, if_pos hr]
    obtain ⟨ha, hb⟩ := h hr
    unfold aOlder
    simp only [← e1, ← e2, ← e12, ← e13, ← e15, ← e16]
    simp only [ha]
    by_cases h1 : vM x M j 2 < vM x M j 16 ∨ (¬ vM x M j 12 + 1 < vM x M j 1 ∧ ¬ vM x M j 15 ≤ vM x M j 12 + 1)
    · rw [if_pos h1, if_pos h1]
      simp only [vM_7, vM_9, vM_10]
      simp only [up_cw, cw_e, cw_cw]
      congr 1
      unfold aStop
      rw [cu_n _ 12 13 _ (by decide)]
      by_cases h2 : vM x M j 13 ≤ 0
      · rw [if_pos h2, if_pos h2, if_pos h2]
        have h3 := hb h2
        funext k
        by_cases hk : k = 13
        · subst hk
          rw [cu_e, cu_n _ _ _ _ (by decide), cu_n _ _ _ _ (by decide), h3]
        · rw [cu_n _ _ _ _ hk]
      · rw [if_neg h2, if_neg h2, if_neg h2]
        exact cu_comm _ 10 13 _ _ (by decide)
    · rw [if_neg h1, if_neg h1]
      by_cases h2 : vM x M j 12 + 1 < vM x M j 15
      · rw [if_pos h2, if_pos h2, vM_9, up_cw]
      · rw [if_neg h2, if_neg h2, vM_7, vM_9]
        simp only [up_cw, cw_e, cw_cw]
  · rw [if_neg hr, if_neg hr, cw_id]
section FAGE
variable {M z n : Nat} {sh : am_S} {hi : am_I} {hr : am_R}
theorem m_ages (H : Mst M sh hr) (hn : n ≤ 8) (hc : hi M 9 = nI n) (hO : ∀ i, i < n → okOld (vM hi M i)) : ∃ hi2, f_Mo_age_86 70 M (0 : Int32) (z, sh, hi, hr) = some (0, (z, sh, hi2, hr)) ∧ frM M hi hi2 ∧ vM hi2 M = fun i => if i < n then aOlderR (vM hi M i) else vM hi M i := by
  have hl := loop_fold (bot := fun _ _ _ => none) (F := s_Mo_age_86) (fun T j x => T M (nI j) (z, sh, x, hr)) (ageG M) (fun x => some (0, (z, sh, x, hr))) n (fun x => frM M hi x) (fun j x _ hx => ageG_fr hx) (by
    intro T j x hj hx
    have hj8 : j < 8 := by omega
    have a9 : am_up x (M + 9) j (x (M + 9) j + 1) (M + 9) j = x (M + 9) j + 1 := am_up_eq _ _ _ _
    have a5 : ∀ k, am_up x (M + 9) j (x (M + 9) j + 1) (M + 5) k = x (M + 5) k := fun k => am_up_na (by omega)
    have a13 : ∀ k, am_up x (M + 9) j (x (M + 9) j + 1) (M + 13) k = x (M + 13) k := fun k => am_up_na (by omega)
    have a12 : ∀ k, am_up x (M + 9) j (x (M + 9) j + 1) (M + 12) k = x (M + 12) k := fun k => am_up_na (by omega)
    have a10 : ∀ k, am_up x (M + 9) j (x (M + 9) j + 1) (M + 10) k = x (M + 10) k := fun k => am_up_na (by omega)
    have a10b : ∀ y k, am_up (am_up x (M + 9) j (x (M + 9) j + 1)) (M + 7) j y (M + 10) k = x (M + 10) k := fun y k => by rw [am_up_na (by omega), am_up_na (by omega)]
    simp only [s_Mo_age_86, s_Mo_age_165, s_Mo_age_169, s_Mo_age_170, s_Mo_age_194, mg H, mp H, mo H, mr1 H, mr6 H, mr7 H, mr8 H, mr10 H, mr11 H, mr12 H, mr13 H, mr14 H, mr15 H, mr16 H, mr17 H, mr18 H, mr19 H, mr20 H, mr25 H, cnt_n hc hx, n_le (a := n) (b := j) (by omega) (by omega), if_neg (Nat.not_le.mpr hj), mi7 H hj8, mi9 H hj8, mi10 H hj8, mi12 H hj8, mi13 H hj8, mw7 H hj8, mw9 H hj8, mw10 H hj8, n8, n16, mi5 H (show 8 + j < 72 by omega), mi5 H (show 16 + j < 72 by omega), Option.bind_some, n_s, a9, a5, a10, a12, a13, a10b]
    unfold ageG
    by_cases h1 : x (M + 7) j = 1
    · simp only [if_pos h1]
      by_cases h2 : x (M + 5) (16 + j) < x (M + 13) j
      · by_cases h5 : x (M + 10) j ≤ 0 <;> simp [h2, h5]
      · by_cases h3 : x (M + 9) j + 1 = x (M + 5) (8 + j)
        · by_cases h4 : x (M + 12) j ≤ x (M + 9) j + 1
          · have hor : ¬ (x (M + 5) (16 + j) < x (M + 13) j ∨ (x (M + 9) j + 1 = x (M + 5) (8 + j) ∧ ¬ x (M + 12) j ≤ x (M + 9) j + 1)) := by
              intro h; rcases h with h | h
              · exact h2 h
              · exact h.2 h4
            by_cases h6 : x (M + 9) j + 1 < x (M + 12) j
            · simp only [if_neg h2, if_pos h3, if_pos h4, if_pos h6, if_neg hor, if_true, if_false, i0_1]
            · simp only [if_neg h2, if_pos h3, if_pos h4, if_neg h6, if_neg hor, if_true, if_false, i0_1]
          · have hor : (x (M + 5) (16 + j) < x (M + 13) j ∨ (x (M + 9) j + 1 = x (M + 5) (8 + j) ∧ ¬ x (M + 12) j ≤ x (M + 9) j + 1)) := Or.inr ⟨h3, h4⟩
            by_cases h5 : x (M + 10) j ≤ 0
            · simp only [if_neg h2, if_pos h3, if_neg h4, if_pos h5, if_pos hor, if_true, if_false, i0_1]
            · simp only [if_neg h2, if_pos h3, if_neg h4, if_neg h5, if_pos hor, if_true, if_false, i0_1]
        · have hor : ¬ (x (M + 5) (16 + j) < x (M + 13) j ∨ (x (M + 9) j + 1 = x (M + 5) (8 + j) ∧ ¬ x (M + 12) j ≤ x (M + 9) j + 1)) := by
            intro h; rcases h with h | h
            · exact h2 h
            · exact h3 h.1
          by_cases h6 : x (M + 9) j + 1 < x (M + 12) j
          · simp only [if_neg h2, if_neg h3, if_pos h6, if_neg hor, if_true, if_false, i0_1]
          · simp only [if_neg h2, if_neg h3, if_neg h6, if_neg hor, if_true, if_false, i0_1]
    · simp only [if_neg h1]) (by
    intro T x hx
    simp only [s_Mo_age_86, mg H, mp H, mo H, mr1 H, mr6 H, mr7 H, mr8 H, mr10 H, mr11 H, mr12 H, mr13 H, mr14 H, mr15 H, mr16 H, mr17 H, mr18 H, mr19 H, mr20 H, mr25 H, cnt_n hc hx, Option.bind_some, n_le (a := n) (b := n) (by omega) (by omega), Nat.le_refl, if_true]) n 0 hi 70 (by omega) (by omega) frM.rf
  refine ⟨foldN (ageG M) hi 0 n, ?_, fold_inv (g := ageG M) (fun x => frM M hi x) n 0 hi frM.rf (fun j x _ _ hx => ageG_fr hx), ?_⟩
  · simp only [f_Mo_age_86]
    exact hl
  · have key : ∀ d j (x : am_I), j + d ≤ n → (∀ i, j ≤ i → i < n → okOld (vM x M i)) → vM (foldN (ageG M) x j d) M = foldN (fun v j => cw v j (aOlderR (v j))) (vM x M) j d := by
      intro d
      induction d with
      | zero => intro j x _ _; rfl
      | succ d ih =>
        intro j x hd hO
        simp only [foldN]
        rw [ih (j + 1) _ (by omega), ageG_v x j (hO j (by omega) (by omega))]
        intro i h1 h2
        rw [ageG_v x j (hO j (by omega) (by omega)), cw_n _ _ _ _ (by omega)]
        exact hO i (by omega) h2
    rw [key n 0 hi (by omega) (fun i _ h => hO i h), fold_cw]
    funext i
    by_cases h : i < n
    · rw [if_pos (by omega), if_pos h]
    · rw [if_neg (by omega), if_neg h]
end FAGE
