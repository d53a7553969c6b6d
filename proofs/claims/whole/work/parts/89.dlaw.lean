-- needs 88 89a 89b 89c
/-! the law's turns -/
theorem lg_self (a : Int64) : lg_cmp a a = 0 := (lg_cmp_eq a a).mpr rfl
section FLAW
variable {b z k L : Nat} {sh : am_S} {hi : am_I} {hr : am_R} {Tb Tb2 : Nat} {xs : Nat → Int32}
theorem RR_le (R : RR b sh hi hr Tb) (h : Tb ≤ Tb2) : RR b sh hi hr Tb2 := by
  obtain ⟨P, Q, tg, G, D, h', n, a, len, H, HM, ho, hC, hM, hA, hT, hx⟩ := R
  exact ⟨P, Q, tg, G, D, h', n, a, len, H, HM, ho, hC, hM, hA, Nat.le_trans hT h, hx⟩
theorem RR_M (R : RR b sh hi hr Tb) : Mst (b + 29) sh hr := by
  obtain ⟨P, Q, tg, G, D, h', n, a, len, H, HM, -⟩ := R
  exact HM
theorem RR_0 (R : RR b sh hi hr Tb) : sh b = some (.inl 0) := by
  obtain ⟨P, Q, tg, G, D, h', n, a, len, H, -⟩ := R
  exact k_s0 H
theorem RR_o (R : RR b sh hi hr Tb) : sh (b + 46) = some (.inr (.long, 1)) := by
  obtain ⟨P, Q, tg, G, D, h', n, a, len, H, HM, ho, -⟩ := R
  exact ho
theorem lg_out (ho : sh (b + 46) = some (.inr (.long, 1))) : am_lg (b + 46) (0 : Int32) (z, sh, hi, hr) = some (hi (b + 46) 0) := fl_lg (j := 0) ho (by decide) (by decide)
theorem sg_in {j : Nat} (hj : j < L) (hL : L ≤ 1536) : am_sg L xs (nI j) = some (xs j) := by
  unfold am_sg
  rw [if_neg (fl_nin hj (by omega)), nI_clamp (by omega)]

theorem lw_type (R : RR b sh hi hr Tb) (hTb : Tb < 400000) (hk : 3 * k + 3 ≤ L) (hL : L ≤ 1536) (T : Nat → Nat → Nat → Int32 → am_w → Option (Int32 × am_w))  (hop : (xs (3 * k) &&& (31 : Int32)) = (0 : Int32)) : ∃ z1 hi1 hr1, s_La_law_23 L xs T b (b + 29) (b + 46) (nI (3 * k)) (z, sh, hi, hr) = T b (b + 29) (b + 46) (nI (3 * k) + (3 : Int32)) (z1, sh, hi1, hr1) ∧ RR b sh hi1 hr1 (Tb + 60) := by
  have s0 := sg_in (xs := xs) (show 3 * k < L by omega) hL
  have s1 : am_sg L xs (nI (3 * k) + (1 : Int32)) = some (xs (3 * k + 1)) := by rw [n_s]; exact sg_in (show 3 * k + 1 < L by omega) hL
  have s2 : am_sg L xs (nI (3 * k) + (2 : Int32)) = some (xs (3 * k + 2)) := by rw [show nI (3 * k) + (2 : Int32) = nI (3 * k + 2) from n_add (3 * k) 2]; exact sg_in (show 3 * k + 2 < L by omega) hL
  have hlt : ¬ (Int32.ofNat L - (3 : Int32)) < nI (3 * k) := by rw [show Int32.ofNat L - (3 : Int32) = nI (L - 3) from pk_sub (a := L) (b := 3) (by omega)]; exact nI_nlt (by omega) (by omega)
  have oM := fun (z : Nat) (hi : am_I) (hr : am_R) (α : Type) (f : Option α) => fl_ob (z := z) (hi := hi) (hr := hr) (f := f) (RR_M R).1
  obtain ⟨kk, bm, z1, hi1, hi2, e1, e2, e3, e4, R1⟩ := L_type (z := z) R (xs (3 * k + 1))
  refine ⟨z1, hi2, hr, ?_, RR_le R1 (by omega)⟩
  unfold s_La_law_23
  rw [if_neg hlt, s0, Option.bind_some, if_pos hop]
  simp only [Option.bind_some, s1, s2, oM, e1, e2, m_thrown (RR_M R1), e3, if_true, lg_out (RR_o R1)]
  by_cases hk0 : kk = 0
  · obtain ⟨g1, g2⟩ := e4 hk0
    rw [if_pos hk0, g1]
    rcases g2 with g2 | g2
    · rw [if_pos g2, g2]; unfold s_La_law_182; rw [if_pos (lg_self _)]
    · rw [if_neg (by rw [g2]; decide), g2]; unfold s_La_law_182; rw [if_pos (lg_self _)]
  · rw [if_neg hk0]
theorem lw_submit (R : RR b sh hi hr Tb) (hTb : Tb < 400000) (hk : 3 * k + 3 ≤ L) (hL : L ≤ 1536) (T : Nat → Nat → Nat → Int32 → am_w → Option (Int32 × am_w)) (n0 : ¬ (xs (3 * k) &&& (31 : Int32)) = (0 : Int32)) (hop : (xs (3 * k) &&& (31 : Int32)) = (1 : Int32)) : ∃ z1 hi1 hr1, s_La_law_23 L xs T b (b + 29) (b + 46) (nI (3 * k)) (z, sh, hi, hr) = T b (b + 29) (b + 46) (nI (3 * k) + (3 : Int32)) (z1, sh, hi1, hr1) ∧ RR b sh hi1 hr1 (Tb + 60) := by
  have s0 := sg_in (xs := xs) (show 3 * k < L by omega) hL
  have s1 : am_sg L xs (nI (3 * k) + (1 : Int32)) = some (xs (3 * k + 1)) := by rw [n_s]; exact sg_in (show 3 * k + 1 < L by omega) hL
  have s2 : am_sg L xs (nI (3 * k) + (2 : Int32)) = some (xs (3 * k + 2)) := by rw [show nI (3 * k) + (2 : Int32) = nI (3 * k + 2) from n_add (3 * k) 2]; exact sg_in (show 3 * k + 2 < L by omega) hL
  have hlt : ¬ (Int32.ofNat L - (3 : Int32)) < nI (3 * k) := by rw [show Int32.ofNat L - (3 : Int32) = nI (L - 3) from pk_sub (a := L) (b := 3) (by omega)]; exact nI_nlt (by omega) (by omega)
  have oM := fun (z : Nat) (hi : am_I) (hr : am_R) (α : Type) (f : Option α) => fl_ob (z := z) (hi := hi) (hr := hr) (f := f) (RR_M R).1
  obtain ⟨kk, bm, z1, hi1, hr1, hi2, e1, e2, e3, e4, R1⟩ := L_submit (z := z) R
  refine ⟨z1, hi2, hr1, ?_, RR_le R1 (by omega)⟩
  unfold s_La_law_23
  rw [if_neg hlt, s0, Option.bind_some, if_neg n0, if_pos hop]
  simp only [Option.bind_some, s1, s2, oM, e1, e2, m_thrown (RR_M R1), e3, if_true, lg_out (RR_o R1)]
  by_cases hk0 : kk = 0
  · rw [if_pos hk0, e4 hk0, if_pos (lg_self _)]
  · rw [if_neg hk0]
theorem lw_enable (R : RR b sh hi hr Tb) (hTb : Tb < 400000) (hk : 3 * k + 3 ≤ L) (hL : L ≤ 1536) (T : Nat → Nat → Nat → Int32 → am_w → Option (Int32 × am_w)) (n0 : ¬ (xs (3 * k) &&& (31 : Int32)) = (0 : Int32)) (n1 : ¬ (xs (3 * k) &&& (31 : Int32)) = (1 : Int32)) (hop : (xs (3 * k) &&& (31 : Int32)) = (2 : Int32)) : ∃ z1 hi1 hr1, s_La_law_23 L xs T b (b + 29) (b + 46) (nI (3 * k)) (z, sh, hi, hr) = T b (b + 29) (b + 46) (nI (3 * k) + (3 : Int32)) (z1, sh, hi1, hr1) ∧ RR b sh hi1 hr1 (Tb + 60) := by
  have s0 := sg_in (xs := xs) (show 3 * k < L by omega) hL
  have s1 : am_sg L xs (nI (3 * k) + (1 : Int32)) = some (xs (3 * k + 1)) := by rw [n_s]; exact sg_in (show 3 * k + 1 < L by omega) hL
  have s2 : am_sg L xs (nI (3 * k) + (2 : Int32)) = some (xs (3 * k + 2)) := by rw [show nI (3 * k) + (2 : Int32) = nI (3 * k + 2) from n_add (3 * k) 2]; exact sg_in (show 3 * k + 2 < L by omega) hL
  have hlt : ¬ (Int32.ofNat L - (3 : Int32)) < nI (3 * k) := by rw [show Int32.ofNat L - (3 : Int32) = nI (L - 3) from pk_sub (a := L) (b := 3) (by omega)]; exact nI_nlt (by omega) (by omega)
  have oM := fun (z : Nat) (hi : am_I) (hr : am_R) (α : Type) (f : Option α) => fl_ob (z := z) (hi := hi) (hr := hr) (f := f) (RR_M R).1
  obtain ⟨kk, bm, z1, hi1, hi2, e1, e2, e3, e4, R1⟩ := L_enable (z := z) R hTb
  refine ⟨z1, hi2, hr, ?_, RR_le R1 (by omega)⟩
  unfold s_La_law_23
  rw [if_neg hlt, s0, Option.bind_some, if_neg n0, if_neg n1, if_pos hop]
  simp only [Option.bind_some, s1, s2, oM, e1, e2, m_thrown (RR_M R1), e3, if_true, lg_out (RR_o R1)]
  by_cases hk0 : kk = 0
  · rw [if_pos hk0, e4 hk0, if_pos (lg_self _)]
  · rw [if_neg hk0]
theorem lw_cancel (R : RR b sh hi hr Tb) (hTb : Tb < 400000) (hk : 3 * k + 3 ≤ L) (hL : L ≤ 1536) (T : Nat → Nat → Nat → Int32 → am_w → Option (Int32 × am_w)) (n0 : ¬ (xs (3 * k) &&& (31 : Int32)) = (0 : Int32)) (n1 : ¬ (xs (3 * k) &&& (31 : Int32)) = (1 : Int32)) (n2 : ¬ (xs (3 * k) &&& (31 : Int32)) = (2 : Int32)) (hop : (xs (3 * k) &&& (31 : Int32)) = (3 : Int32)) : ∃ z1 hi1 hr1, s_La_law_23 L xs T b (b + 29) (b + 46) (nI (3 * k)) (z, sh, hi, hr) = T b (b + 29) (b + 46) (nI (3 * k) + (3 : Int32)) (z1, sh, hi1, hr1) ∧ RR b sh hi1 hr1 (Tb + 60) := by
  have s0 := sg_in (xs := xs) (show 3 * k < L by omega) hL
  have s1 : am_sg L xs (nI (3 * k) + (1 : Int32)) = some (xs (3 * k + 1)) := by rw [n_s]; exact sg_in (show 3 * k + 1 < L by omega) hL
  have s2 : am_sg L xs (nI (3 * k) + (2 : Int32)) = some (xs (3 * k + 2)) := by rw [show nI (3 * k) + (2 : Int32) = nI (3 * k + 2) from n_add (3 * k) 2]; exact sg_in (show 3 * k + 2 < L by omega) hL
  have hlt : ¬ (Int32.ofNat L - (3 : Int32)) < nI (3 * k) := by rw [show Int32.ofNat L - (3 : Int32) = nI (L - 3) from pk_sub (a := L) (b := 3) (by omega)]; exact nI_nlt (by omega) (by omega)
  have oM := fun (z : Nat) (hi : am_I) (hr : am_R) (α : Type) (f : Option α) => fl_ob (z := z) (hi := hi) (hr := hr) (f := f) (RR_M R).1
  obtain ⟨kk, bm, z1, hi1, hi2, e1, e2, e3, R1⟩ := L_cancel (z := z) R
  refine ⟨z1, hi2, hr, ?_, RR_le R1 (by omega)⟩
  unfold s_La_law_23
  rw [if_neg hlt, s0, Option.bind_some, if_neg n0, if_neg n1, if_neg n2, if_pos hop]
  simp only [Option.bind_some, s1, s2, oM, e1, e2, m_thrown (RR_M R1), e3, if_true]
theorem lw_minutes (R : RR b sh hi hr Tb) (hTb : Tb < 400000) (hk : 3 * k + 3 ≤ L) (hL : L ≤ 1536) (T : Nat → Nat → Nat → Int32 → am_w → Option (Int32 × am_w)) (n0 : ¬ (xs (3 * k) &&& (31 : Int32)) = (0 : Int32)) (n1 : ¬ (xs (3 * k) &&& (31 : Int32)) = (1 : Int32)) (n2 : ¬ (xs (3 * k) &&& (31 : Int32)) = (2 : Int32)) (n3 : ¬ (xs (3 * k) &&& (31 : Int32)) = (3 : Int32)) (hop : (xs (3 * k) &&& (31 : Int32)) = (4 : Int32)) : ∃ z1 hi1 hr1, s_La_law_23 L xs T b (b + 29) (b + 46) (nI (3 * k)) (z, sh, hi, hr) = T b (b + 29) (b + 46) (nI (3 * k) + (3 : Int32)) (z1, sh, hi1, hr1) ∧ RR b sh hi1 hr1 (Tb + 60) := by
  have s0 := sg_in (xs := xs) (show 3 * k < L by omega) hL
  have s1 : am_sg L xs (nI (3 * k) + (1 : Int32)) = some (xs (3 * k + 1)) := by rw [n_s]; exact sg_in (show 3 * k + 1 < L by omega) hL
  have s2 : am_sg L xs (nI (3 * k) + (2 : Int32)) = some (xs (3 * k + 2)) := by rw [show nI (3 * k) + (2 : Int32) = nI (3 * k + 2) from n_add (3 * k) 2]; exact sg_in (show 3 * k + 2 < L by omega) hL
  have hlt : ¬ (Int32.ofNat L - (3 : Int32)) < nI (3 * k) := by rw [show Int32.ofNat L - (3 : Int32) = nI (L - 3) from pk_sub (a := L) (b := 3) (by omega)]; exact nI_nlt (by omega) (by omega)
  have oM := fun (z : Nat) (hi : am_I) (hr : am_R) (α : Type) (f : Option α) => fl_ob (z := z) (hi := hi) (hr := hr) (f := f) (RR_M R).1
  obtain ⟨kk, bm, z1, hi1, hi2, e1, e2, e3, e4, R1⟩ := L_minutes (z := z) R hTb (xs (3 * k + 1))
  refine ⟨z1, hi2, hr, ?_, RR_le R1 (by omega)⟩
  unfold s_La_law_23
  rw [if_neg hlt, s0, Option.bind_some, if_neg n0, if_neg n1, if_neg n2, if_neg n3, if_pos hop]
  simp only [Option.bind_some, s1, s2, oM, e1, e2, m_thrown (RR_M R1), e3, if_true, lg_out (RR_o R1)]
  by_cases hk0 : kk = 0
  · rw [if_pos hk0, e4 hk0, if_pos (lg_self _)]
  · rw [if_neg hk0]
theorem lw_lasts (R : RR b sh hi hr Tb) (hTb : Tb < 400000) (hk : 3 * k + 3 ≤ L) (hL : L ≤ 1536) (T : Nat → Nat → Nat → Int32 → am_w → Option (Int32 × am_w)) (n0 : ¬ (xs (3 * k) &&& (31 : Int32)) = (0 : Int32)) (n1 : ¬ (xs (3 * k) &&& (31 : Int32)) = (1 : Int32)) (n2 : ¬ (xs (3 * k) &&& (31 : Int32)) = (2 : Int32)) (n3 : ¬ (xs (3 * k) &&& (31 : Int32)) = (3 : Int32)) (n4 : ¬ (xs (3 * k) &&& (31 : Int32)) = (4 : Int32)) (hop : (xs (3 * k) &&& (31 : Int32)) = (5 : Int32)) : ∃ z1 hi1 hr1, s_La_law_23 L xs T b (b + 29) (b + 46) (nI (3 * k)) (z, sh, hi, hr) = T b (b + 29) (b + 46) (nI (3 * k) + (3 : Int32)) (z1, sh, hi1, hr1) ∧ RR b sh hi1 hr1 (Tb + 60) := by
  have s0 := sg_in (xs := xs) (show 3 * k < L by omega) hL
  have s1 : am_sg L xs (nI (3 * k) + (1 : Int32)) = some (xs (3 * k + 1)) := by rw [n_s]; exact sg_in (show 3 * k + 1 < L by omega) hL
  have s2 : am_sg L xs (nI (3 * k) + (2 : Int32)) = some (xs (3 * k + 2)) := by rw [show nI (3 * k) + (2 : Int32) = nI (3 * k + 2) from n_add (3 * k) 2]; exact sg_in (show 3 * k + 2 < L by omega) hL
  have hlt : ¬ (Int32.ofNat L - (3 : Int32)) < nI (3 * k) := by rw [show Int32.ofNat L - (3 : Int32) = nI (L - 3) from pk_sub (a := L) (b := 3) (by omega)]; exact nI_nlt (by omega) (by omega)
  have oM := fun (z : Nat) (hi : am_I) (hr : am_R) (α : Type) (f : Option α) => fl_ob (z := z) (hi := hi) (hr := hr) (f := f) (RR_M R).1
  obtain ⟨kk, bm, z1, hi1, hi2, e1, e2, e3, R1⟩ := L_lasts (z := z) R (xs (3 * k + 1)) (xs (3 * k + 2))
  refine ⟨z1, hi2, hr, ?_, RR_le R1 (by omega)⟩
  unfold s_La_law_23
  rw [if_neg hlt, s0, Option.bind_some, if_neg n0, if_neg n1, if_neg n2, if_neg n3, if_neg n4, if_pos hop]
  simp only [Option.bind_some, s1, s2, oM, e1, e2, m_thrown (RR_M R1), e3, if_true]
theorem lw_draws (R : RR b sh hi hr Tb) (hTb : Tb < 400000) (hk : 3 * k + 3 ≤ L) (hL : L ≤ 1536) (T : Nat → Nat → Nat → Int32 → am_w → Option (Int32 × am_w)) (n0 : ¬ (xs (3 * k) &&& (31 : Int32)) = (0 : Int32)) (n1 : ¬ (xs (3 * k) &&& (31 : Int32)) = (1 : Int32)) (n2 : ¬ (xs (3 * k) &&& (31 : Int32)) = (2 : Int32)) (n3 : ¬ (xs (3 * k) &&& (31 : Int32)) = (3 : Int32)) (n4 : ¬ (xs (3 * k) &&& (31 : Int32)) = (4 : Int32)) (n5 : ¬ (xs (3 * k) &&& (31 : Int32)) = (5 : Int32)) (hop : (xs (3 * k) &&& (31 : Int32)) = (6 : Int32)) : ∃ z1 hi1 hr1, s_La_law_23 L xs T b (b + 29) (b + 46) (nI (3 * k)) (z, sh, hi, hr) = T b (b + 29) (b + 46) (nI (3 * k) + (3 : Int32)) (z1, sh, hi1, hr1) ∧ RR b sh hi1 hr1 (Tb + 60) := by
  have s0 := sg_in (xs := xs) (show 3 * k < L by omega) hL
  have s1 : am_sg L xs (nI (3 * k) + (1 : Int32)) = some (xs (3 * k + 1)) := by rw [n_s]; exact sg_in (show 3 * k + 1 < L by omega) hL
  have s2 : am_sg L xs (nI (3 * k) + (2 : Int32)) = some (xs (3 * k + 2)) := by rw [show nI (3 * k) + (2 : Int32) = nI (3 * k + 2) from n_add (3 * k) 2]; exact sg_in (show 3 * k + 2 < L by omega) hL
  have hlt : ¬ (Int32.ofNat L - (3 : Int32)) < nI (3 * k) := by rw [show Int32.ofNat L - (3 : Int32) = nI (L - 3) from pk_sub (a := L) (b := 3) (by omega)]; exact nI_nlt (by omega) (by omega)
  have oM := fun (z : Nat) (hi : am_I) (hr : am_R) (α : Type) (f : Option α) => fl_ob (z := z) (hi := hi) (hr := hr) (f := f) (RR_M R).1
  obtain ⟨kk, bm, z1, hi1, hi2, e1, e2, e3, R1⟩ := L_draws (z := z) R (xs (3 * k + 1)) (xs (3 * k + 2))
  refine ⟨z1, hi2, hr, ?_, RR_le R1 (by omega)⟩
  unfold s_La_law_23
  rw [if_neg hlt, s0, Option.bind_some, if_neg n0, if_neg n1, if_neg n2, if_neg n3, if_neg n4, if_neg n5, if_pos hop]
  simp only [Option.bind_some, s1, s2, oM, e1, e2, m_thrown (RR_M R1), e3, if_true]
theorem lw_curve (R : RR b sh hi hr Tb) (hTb : Tb < 400000) (hk : 3 * k + 3 ≤ L) (hL : L ≤ 1536) (T : Nat → Nat → Nat → Int32 → am_w → Option (Int32 × am_w)) (n0 : ¬ (xs (3 * k) &&& (31 : Int32)) = (0 : Int32)) (n1 : ¬ (xs (3 * k) &&& (31 : Int32)) = (1 : Int32)) (n2 : ¬ (xs (3 * k) &&& (31 : Int32)) = (2 : Int32)) (n3 : ¬ (xs (3 * k) &&& (31 : Int32)) = (3 : Int32)) (n4 : ¬ (xs (3 * k) &&& (31 : Int32)) = (4 : Int32)) (n5 : ¬ (xs (3 * k) &&& (31 : Int32)) = (5 : Int32)) (n6 : ¬ (xs (3 * k) &&& (31 : Int32)) = (6 : Int32)) (hop : (xs (3 * k) &&& (31 : Int32)) = (7 : Int32)) : ∃ z1 hi1 hr1, s_La_law_23 L xs T b (b + 29) (b + 46) (nI (3 * k)) (z, sh, hi, hr) = T b (b + 29) (b + 46) (nI (3 * k) + (3 : Int32)) (z1, sh, hi1, hr1) ∧ RR b sh hi1 hr1 (Tb + 60) := by
  have s0 := sg_in (xs := xs) (show 3 * k < L by omega) hL
  have s1 : am_sg L xs (nI (3 * k) + (1 : Int32)) = some (xs (3 * k + 1)) := by rw [n_s]; exact sg_in (show 3 * k + 1 < L by omega) hL
  have s2 : am_sg L xs (nI (3 * k) + (2 : Int32)) = some (xs (3 * k + 2)) := by rw [show nI (3 * k) + (2 : Int32) = nI (3 * k + 2) from n_add (3 * k) 2]; exact sg_in (show 3 * k + 2 < L by omega) hL
  have hlt : ¬ (Int32.ofNat L - (3 : Int32)) < nI (3 * k) := by rw [show Int32.ofNat L - (3 : Int32) = nI (L - 3) from pk_sub (a := L) (b := 3) (by omega)]; exact nI_nlt (by omega) (by omega)
  have oM := fun (z : Nat) (hi : am_I) (hr : am_R) (α : Type) (f : Option α) => fl_ob (z := z) (hi := hi) (hr := hr) (f := f) (RR_M R).1
  obtain ⟨kk, bm, z1, hi1, hi2, e1, e2, e3, R1⟩ := L_curve (z := z) R (xs (3 * k + 1)) (xs (3 * k + 2))
  refine ⟨z1, hi2, hr, ?_, RR_le R1 (by omega)⟩
  unfold s_La_law_23
  rw [if_neg hlt, s0, Option.bind_some, if_neg n0, if_neg n1, if_neg n2, if_neg n3, if_neg n4, if_neg n5, if_neg n6, if_pos hop]
  simp only [Option.bind_some, s1, s2, oM, e1, e2, m_thrown (RR_M R1), e3, if_true]
theorem lw_gain (R : RR b sh hi hr Tb) (hTb : Tb < 400000) (hk : 3 * k + 3 ≤ L) (hL : L ≤ 1536) (T : Nat → Nat → Nat → Int32 → am_w → Option (Int32 × am_w)) (n0 : ¬ (xs (3 * k) &&& (31 : Int32)) = (0 : Int32)) (n1 : ¬ (xs (3 * k) &&& (31 : Int32)) = (1 : Int32)) (n2 : ¬ (xs (3 * k) &&& (31 : Int32)) = (2 : Int32)) (n3 : ¬ (xs (3 * k) &&& (31 : Int32)) = (3 : Int32)) (n4 : ¬ (xs (3 * k) &&& (31 : Int32)) = (4 : Int32)) (n5 : ¬ (xs (3 * k) &&& (31 : Int32)) = (5 : Int32)) (n6 : ¬ (xs (3 * k) &&& (31 : Int32)) = (6 : Int32)) (n7 : ¬ (xs (3 * k) &&& (31 : Int32)) = (7 : Int32)) (hop : (xs (3 * k) &&& (31 : Int32)) = (8 : Int32)) : ∃ z1 hi1 hr1, s_La_law_23 L xs T b (b + 29) (b + 46) (nI (3 * k)) (z, sh, hi, hr) = T b (b + 29) (b + 46) (nI (3 * k) + (3 : Int32)) (z1, sh, hi1, hr1) ∧ RR b sh hi1 hr1 (Tb + 60) := by
  have s0 := sg_in (xs := xs) (show 3 * k < L by omega) hL
  have s1 : am_sg L xs (nI (3 * k) + (1 : Int32)) = some (xs (3 * k + 1)) := by rw [n_s]; exact sg_in (show 3 * k + 1 < L by omega) hL
  have s2 : am_sg L xs (nI (3 * k) + (2 : Int32)) = some (xs (3 * k + 2)) := by rw [show nI (3 * k) + (2 : Int32) = nI (3 * k + 2) from n_add (3 * k) 2]; exact sg_in (show 3 * k + 2 < L by omega) hL
  have hlt : ¬ (Int32.ofNat L - (3 : Int32)) < nI (3 * k) := by rw [show Int32.ofNat L - (3 : Int32) = nI (L - 3) from pk_sub (a := L) (b := 3) (by omega)]; exact nI_nlt (by omega) (by omega)
  have oM := fun (z : Nat) (hi : am_I) (hr : am_R) (α : Type) (f : Option α) => fl_ob (z := z) (hi := hi) (hr := hr) (f := f) (RR_M R).1
  obtain ⟨kk, bm, z1, hi1, hi2, e1, e2, e3, R1⟩ := L_gain (z := z) R (xs (3 * k + 1))
  refine ⟨z1, hi2, hr, ?_, RR_le R1 (by omega)⟩
  unfold s_La_law_23
  rw [if_neg hlt, s0, Option.bind_some, if_neg n0, if_neg n1, if_neg n2, if_neg n3, if_neg n4, if_neg n5, if_neg n6, if_neg n7, if_pos hop]
  simp only [Option.bind_some, s1, s2, oM, e1, e2, m_thrown (RR_M R1), e3, if_true]
theorem lw_home (R : RR b sh hi hr Tb) (hTb : Tb < 400000) (hk : 3 * k + 3 ≤ L) (hL : L ≤ 1536) (T : Nat → Nat → Nat → Int32 → am_w → Option (Int32 × am_w)) (n0 : ¬ (xs (3 * k) &&& (31 : Int32)) = (0 : Int32)) (n1 : ¬ (xs (3 * k) &&& (31 : Int32)) = (1 : Int32)) (n2 : ¬ (xs (3 * k) &&& (31 : Int32)) = (2 : Int32)) (n3 : ¬ (xs (3 * k) &&& (31 : Int32)) = (3 : Int32)) (n4 : ¬ (xs (3 * k) &&& (31 : Int32)) = (4 : Int32)) (n5 : ¬ (xs (3 * k) &&& (31 : Int32)) = (5 : Int32)) (n6 : ¬ (xs (3 * k) &&& (31 : Int32)) = (6 : Int32)) (n7 : ¬ (xs (3 * k) &&& (31 : Int32)) = (7 : Int32)) (n8 : ¬ (xs (3 * k) &&& (31 : Int32)) = (8 : Int32)) (hop : (xs (3 * k) &&& (31 : Int32)) = (9 : Int32)) : ∃ z1 hi1 hr1, s_La_law_23 L xs T b (b + 29) (b + 46) (nI (3 * k)) (z, sh, hi, hr) = T b (b + 29) (b + 46) (nI (3 * k) + (3 : Int32)) (z1, sh, hi1, hr1) ∧ RR b sh hi1 hr1 (Tb + 60) := by
  have s0 := sg_in (xs := xs) (show 3 * k < L by omega) hL
  have s1 : am_sg L xs (nI (3 * k) + (1 : Int32)) = some (xs (3 * k + 1)) := by rw [n_s]; exact sg_in (show 3 * k + 1 < L by omega) hL
  have s2 : am_sg L xs (nI (3 * k) + (2 : Int32)) = some (xs (3 * k + 2)) := by rw [show nI (3 * k) + (2 : Int32) = nI (3 * k + 2) from n_add (3 * k) 2]; exact sg_in (show 3 * k + 2 < L by omega) hL
  have hlt : ¬ (Int32.ofNat L - (3 : Int32)) < nI (3 * k) := by rw [show Int32.ofNat L - (3 : Int32) = nI (L - 3) from pk_sub (a := L) (b := 3) (by omega)]; exact nI_nlt (by omega) (by omega)
  have oM := fun (z : Nat) (hi : am_I) (hr : am_R) (α : Type) (f : Option α) => fl_ob (z := z) (hi := hi) (hr := hr) (f := f) (RR_M R).1
  obtain ⟨kk, bm, z1, hi1, hi2, e1, e2, e3, R1⟩ := L_home (z := z) R (xs (3 * k + 1)) (xs (3 * k + 2))
  refine ⟨z1, hi2, hr, ?_, RR_le R1 (by omega)⟩
  unfold s_La_law_23
  rw [if_neg hlt, s0, Option.bind_some, if_neg n0, if_neg n1, if_neg n2, if_neg n3, if_neg n4, if_neg n5, if_neg n6, if_neg n7, if_neg n8, if_pos hop]
  simp only [Option.bind_some, s1, s2, oM, e1, e2, m_thrown (RR_M R1), e3, if_true]
theorem lw_fill (R : RR b sh hi hr Tb) (hTb : Tb < 400000) (hk : 3 * k + 3 ≤ L) (hL : L ≤ 1536) (T : Nat → Nat → Nat → Int32 → am_w → Option (Int32 × am_w)) (n0 : ¬ (xs (3 * k) &&& (31 : Int32)) = (0 : Int32)) (n1 : ¬ (xs (3 * k) &&& (31 : Int32)) = (1 : Int32)) (n2 : ¬ (xs (3 * k) &&& (31 : Int32)) = (2 : Int32)) (n3 : ¬ (xs (3 * k) &&& (31 : Int32)) = (3 : Int32)) (n4 : ¬ (xs (3 * k) &&& (31 : Int32)) = (4 : Int32)) (n5 : ¬ (xs (3 * k) &&& (31 : Int32)) = (5 : Int32)) (n6 : ¬ (xs (3 * k) &&& (31 : Int32)) = (6 : Int32)) (n7 : ¬ (xs (3 * k) &&& (31 : Int32)) = (7 : Int32)) (n8 : ¬ (xs (3 * k) &&& (31 : Int32)) = (8 : Int32)) (n9 : ¬ (xs (3 * k) &&& (31 : Int32)) = (9 : Int32)) (hop : (xs (3 * k) &&& (31 : Int32)) = (10 : Int32)) : ∃ z1 hi1 hr1, s_La_law_23 L xs T b (b + 29) (b + 46) (nI (3 * k)) (z, sh, hi, hr) = T b (b + 29) (b + 46) (nI (3 * k) + (3 : Int32)) (z1, sh, hi1, hr1) ∧ RR b sh hi1 hr1 (Tb + 60) := by
  have s0 := sg_in (xs := xs) (show 3 * k < L by omega) hL
  have s1 : am_sg L xs (nI (3 * k) + (1 : Int32)) = some (xs (3 * k + 1)) := by rw [n_s]; exact sg_in (show 3 * k + 1 < L by omega) hL
  have s2 : am_sg L xs (nI (3 * k) + (2 : Int32)) = some (xs (3 * k + 2)) := by rw [show nI (3 * k) + (2 : Int32) = nI (3 * k + 2) from n_add (3 * k) 2]; exact sg_in (show 3 * k + 2 < L by omega) hL
  have hlt : ¬ (Int32.ofNat L - (3 : Int32)) < nI (3 * k) := by rw [show Int32.ofNat L - (3 : Int32) = nI (L - 3) from pk_sub (a := L) (b := 3) (by omega)]; exact nI_nlt (by omega) (by omega)
  have oM := fun (z : Nat) (hi : am_I) (hr : am_R) (α : Type) (f : Option α) => fl_ob (z := z) (hi := hi) (hr := hr) (f := f) (RR_M R).1
  obtain ⟨kk, bm, z1, hi1, hi2, e1, e2, e3, R1⟩ := L_fill (z := z) R (xs (3 * k + 1)) (xs (3 * k + 2))
  refine ⟨z1, hi2, hr, ?_, RR_le R1 (by omega)⟩
  unfold s_La_law_23
  rw [if_neg hlt, s0, Option.bind_some, if_neg n0, if_neg n1, if_neg n2, if_neg n3, if_neg n4, if_neg n5, if_neg n6, if_neg n7, if_neg n8, if_neg n9, if_pos hop]
  simp only [Option.bind_some, s1, s2, oM, e1, e2, m_thrown (RR_M R1), e3, if_true]
theorem lw_now (R : RR b sh hi hr Tb) (hTb : Tb < 400000) (hk : 3 * k + 3 ≤ L) (hL : L ≤ 1536) (T : Nat → Nat → Nat → Int32 → am_w → Option (Int32 × am_w)) (n0 : ¬ (xs (3 * k) &&& (31 : Int32)) = (0 : Int32)) (n1 : ¬ (xs (3 * k) &&& (31 : Int32)) = (1 : Int32)) (n2 : ¬ (xs (3 * k) &&& (31 : Int32)) = (2 : Int32)) (n3 : ¬ (xs (3 * k) &&& (31 : Int32)) = (3 : Int32)) (n4 : ¬ (xs (3 * k) &&& (31 : Int32)) = (4 : Int32)) (n5 : ¬ (xs (3 * k) &&& (31 : Int32)) = (5 : Int32)) (n6 : ¬ (xs (3 * k) &&& (31 : Int32)) = (6 : Int32)) (n7 : ¬ (xs (3 * k) &&& (31 : Int32)) = (7 : Int32)) (n8 : ¬ (xs (3 * k) &&& (31 : Int32)) = (8 : Int32)) (n9 : ¬ (xs (3 * k) &&& (31 : Int32)) = (9 : Int32)) (n10 : ¬ (xs (3 * k) &&& (31 : Int32)) = (10 : Int32)) (hop : (xs (3 * k) &&& (31 : Int32)) = (11 : Int32)) : ∃ z1 hi1 hr1, s_La_law_23 L xs T b (b + 29) (b + 46) (nI (3 * k)) (z, sh, hi, hr) = T b (b + 29) (b + 46) (nI (3 * k) + (3 : Int32)) (z1, sh, hi1, hr1) ∧ RR b sh hi1 hr1 (Tb + 60) := by
  have s0 := sg_in (xs := xs) (show 3 * k < L by omega) hL
  have s1 : am_sg L xs (nI (3 * k) + (1 : Int32)) = some (xs (3 * k + 1)) := by rw [n_s]; exact sg_in (show 3 * k + 1 < L by omega) hL
  have s2 : am_sg L xs (nI (3 * k) + (2 : Int32)) = some (xs (3 * k + 2)) := by rw [show nI (3 * k) + (2 : Int32) = nI (3 * k + 2) from n_add (3 * k) 2]; exact sg_in (show 3 * k + 2 < L by omega) hL
  have hlt : ¬ (Int32.ofNat L - (3 : Int32)) < nI (3 * k) := by rw [show Int32.ofNat L - (3 : Int32) = nI (L - 3) from pk_sub (a := L) (b := 3) (by omega)]; exact nI_nlt (by omega) (by omega)
  have oM := fun (z : Nat) (hi : am_I) (hr : am_R) (α : Type) (f : Option α) => fl_ob (z := z) (hi := hi) (hr := hr) (f := f) (RR_M R).1
  obtain ⟨r, hi1, hi2, e1, e2, R1⟩ := L_now (z := z) R
  refine ⟨z, hi2, hr, ?_, RR_le R1 (by omega)⟩
  unfold s_La_law_23
  rw [if_neg hlt, s0, Option.bind_some, if_neg n0, if_neg n1, if_neg n2, if_neg n3, if_neg n4, if_neg n5, if_neg n6, if_neg n7, if_neg n8, if_neg n9, if_neg n10, if_pos hop]
  simp only [Option.bind_some, fl_ob (RR_0 R), oM, e1, e2, if_true]
theorem lw_mode (R : RR b sh hi hr Tb) (hTb : Tb < 400000) (hk : 3 * k + 3 ≤ L) (hL : L ≤ 1536) (T : Nat → Nat → Nat → Int32 → am_w → Option (Int32 × am_w)) (n0 : ¬ (xs (3 * k) &&& (31 : Int32)) = (0 : Int32)) (n1 : ¬ (xs (3 * k) &&& (31 : Int32)) = (1 : Int32)) (n2 : ¬ (xs (3 * k) &&& (31 : Int32)) = (2 : Int32)) (n3 : ¬ (xs (3 * k) &&& (31 : Int32)) = (3 : Int32)) (n4 : ¬ (xs (3 * k) &&& (31 : Int32)) = (4 : Int32)) (n5 : ¬ (xs (3 * k) &&& (31 : Int32)) = (5 : Int32)) (n6 : ¬ (xs (3 * k) &&& (31 : Int32)) = (6 : Int32)) (n7 : ¬ (xs (3 * k) &&& (31 : Int32)) = (7 : Int32)) (n8 : ¬ (xs (3 * k) &&& (31 : Int32)) = (8 : Int32)) (n9 : ¬ (xs (3 * k) &&& (31 : Int32)) = (9 : Int32)) (n10 : ¬ (xs (3 * k) &&& (31 : Int32)) = (10 : Int32)) (n11 : ¬ (xs (3 * k) &&& (31 : Int32)) = (11 : Int32)) (hop : (xs (3 * k) &&& (31 : Int32)) = (12 : Int32)) : ∃ z1 hi1 hr1, s_La_law_23 L xs T b (b + 29) (b + 46) (nI (3 * k)) (z, sh, hi, hr) = T b (b + 29) (b + 46) (nI (3 * k) + (3 : Int32)) (z1, sh, hi1, hr1) ∧ RR b sh hi1 hr1 (Tb + 60) := by
  have s0 := sg_in (xs := xs) (show 3 * k < L by omega) hL
  have s1 : am_sg L xs (nI (3 * k) + (1 : Int32)) = some (xs (3 * k + 1)) := by rw [n_s]; exact sg_in (show 3 * k + 1 < L by omega) hL
  have s2 : am_sg L xs (nI (3 * k) + (2 : Int32)) = some (xs (3 * k + 2)) := by rw [show nI (3 * k) + (2 : Int32) = nI (3 * k + 2) from n_add (3 * k) 2]; exact sg_in (show 3 * k + 2 < L by omega) hL
  have hlt : ¬ (Int32.ofNat L - (3 : Int32)) < nI (3 * k) := by rw [show Int32.ofNat L - (3 : Int32) = nI (L - 3) from pk_sub (a := L) (b := 3) (by omega)]; exact nI_nlt (by omega) (by omega)
  have oM := fun (z : Nat) (hi : am_I) (hr : am_R) (α : Type) (f : Option α) => fl_ob (z := z) (hi := hi) (hr := hr) (f := f) (RR_M R).1
  obtain ⟨r, hi1, hi2, e1, e2, R1⟩ := L_mode (z := z) R
  refine ⟨z, hi2, hr, ?_, RR_le R1 (by omega)⟩
  unfold s_La_law_23
  rw [if_neg hlt, s0, Option.bind_some, if_neg n0, if_neg n1, if_neg n2, if_neg n3, if_neg n4, if_neg n5, if_neg n6, if_neg n7, if_neg n8, if_neg n9, if_neg n10, if_neg n11, if_pos hop]
  simp only [Option.bind_some, fl_ob (RR_0 R), oM, e1, e2, if_true]
theorem lw_level (R : RR b sh hi hr Tb) (hTb : Tb < 400000) (hk : 3 * k + 3 ≤ L) (hL : L ≤ 1536) (T : Nat → Nat → Nat → Int32 → am_w → Option (Int32 × am_w)) (n0 : ¬ (xs (3 * k) &&& (31 : Int32)) = (0 : Int32)) (n1 : ¬ (xs (3 * k) &&& (31 : Int32)) = (1 : Int32)) (n2 : ¬ (xs (3 * k) &&& (31 : Int32)) = (2 : Int32)) (n3 : ¬ (xs (3 * k) &&& (31 : Int32)) = (3 : Int32)) (n4 : ¬ (xs (3 * k) &&& (31 : Int32)) = (4 : Int32)) (n5 : ¬ (xs (3 * k) &&& (31 : Int32)) = (5 : Int32)) (n6 : ¬ (xs (3 * k) &&& (31 : Int32)) = (6 : Int32)) (n7 : ¬ (xs (3 * k) &&& (31 : Int32)) = (7 : Int32)) (n8 : ¬ (xs (3 * k) &&& (31 : Int32)) = (8 : Int32)) (n9 : ¬ (xs (3 * k) &&& (31 : Int32)) = (9 : Int32)) (n10 : ¬ (xs (3 * k) &&& (31 : Int32)) = (10 : Int32)) (n11 : ¬ (xs (3 * k) &&& (31 : Int32)) = (11 : Int32)) (n12 : ¬ (xs (3 * k) &&& (31 : Int32)) = (12 : Int32)) (hop : (xs (3 * k) &&& (31 : Int32)) = (13 : Int32)) : ∃ z1 hi1 hr1, s_La_law_23 L xs T b (b + 29) (b + 46) (nI (3 * k)) (z, sh, hi, hr) = T b (b + 29) (b + 46) (nI (3 * k) + (3 : Int32)) (z1, sh, hi1, hr1) ∧ RR b sh hi1 hr1 (Tb + 60) := by
  have s0 := sg_in (xs := xs) (show 3 * k < L by omega) hL
  have s1 : am_sg L xs (nI (3 * k) + (1 : Int32)) = some (xs (3 * k + 1)) := by rw [n_s]; exact sg_in (show 3 * k + 1 < L by omega) hL
  have s2 : am_sg L xs (nI (3 * k) + (2 : Int32)) = some (xs (3 * k + 2)) := by rw [show nI (3 * k) + (2 : Int32) = nI (3 * k + 2) from n_add (3 * k) 2]; exact sg_in (show 3 * k + 2 < L by omega) hL
  have hlt : ¬ (Int32.ofNat L - (3 : Int32)) < nI (3 * k) := by rw [show Int32.ofNat L - (3 : Int32) = nI (L - 3) from pk_sub (a := L) (b := 3) (by omega)]; exact nI_nlt (by omega) (by omega)
  have oM := fun (z : Nat) (hi : am_I) (hr : am_R) (α : Type) (f : Option α) => fl_ob (z := z) (hi := hi) (hr := hr) (f := f) (RR_M R).1
  obtain ⟨kk, bm, z1, hi1, hi2, e1, e2, e3, e4, R1⟩ := L_level (z := z) R (xs (3 * k + 1))
  refine ⟨z1, hi2, hr, ?_, RR_le R1 (by omega)⟩
  unfold s_La_law_23
  rw [if_neg hlt, s0, Option.bind_some, if_neg n0, if_neg n1, if_neg n2, if_neg n3, if_neg n4, if_neg n5, if_neg n6, if_neg n7, if_neg n8, if_neg n9, if_neg n10, if_neg n11, if_neg n12, if_pos hop]
  simp only [Option.bind_some, s1, s2, oM, e1, e2, m_thrown (RR_M R1), e3, if_true, lg_out (RR_o R1)]
  by_cases hk0 : kk = 0
  · rw [if_pos hk0, e4 hk0, if_pos (lg_self _)]
  · rw [if_neg hk0]
theorem lw_reserve (R : RR b sh hi hr Tb) (hTb : Tb < 400000) (hk : 3 * k + 3 ≤ L) (hL : L ≤ 1536) (T : Nat → Nat → Nat → Int32 → am_w → Option (Int32 × am_w)) (n0 : ¬ (xs (3 * k) &&& (31 : Int32)) = (0 : Int32)) (n1 : ¬ (xs (3 * k) &&& (31 : Int32)) = (1 : Int32)) (n2 : ¬ (xs (3 * k) &&& (31 : Int32)) = (2 : Int32)) (n3 : ¬ (xs (3 * k) &&& (31 : Int32)) = (3 : Int32)) (n4 : ¬ (xs (3 * k) &&& (31 : Int32)) = (4 : Int32)) (n5 : ¬ (xs (3 * k) &&& (31 : Int32)) = (5 : Int32)) (n6 : ¬ (xs (3 * k) &&& (31 : Int32)) = (6 : Int32)) (n7 : ¬ (xs (3 * k) &&& (31 : Int32)) = (7 : Int32)) (n8 : ¬ (xs (3 * k) &&& (31 : Int32)) = (8 : Int32)) (n9 : ¬ (xs (3 * k) &&& (31 : Int32)) = (9 : Int32)) (n10 : ¬ (xs (3 * k) &&& (31 : Int32)) = (10 : Int32)) (n11 : ¬ (xs (3 * k) &&& (31 : Int32)) = (11 : Int32)) (n12 : ¬ (xs (3 * k) &&& (31 : Int32)) = (12 : Int32)) (n13 : ¬ (xs (3 * k) &&& (31 : Int32)) = (13 : Int32)) (hop : (xs (3 * k) &&& (31 : Int32)) = (14 : Int32)) : ∃ z1 hi1 hr1, s_La_law_23 L xs T b (b + 29) (b + 46) (nI (3 * k)) (z, sh, hi, hr) = T b (b + 29) (b + 46) (nI (3 * k) + (3 : Int32)) (z1, sh, hi1, hr1) ∧ RR b sh hi1 hr1 (Tb + 60) := by
  have s0 := sg_in (xs := xs) (show 3 * k < L by omega) hL
  have s1 : am_sg L xs (nI (3 * k) + (1 : Int32)) = some (xs (3 * k + 1)) := by rw [n_s]; exact sg_in (show 3 * k + 1 < L by omega) hL
  have s2 : am_sg L xs (nI (3 * k) + (2 : Int32)) = some (xs (3 * k + 2)) := by rw [show nI (3 * k) + (2 : Int32) = nI (3 * k + 2) from n_add (3 * k) 2]; exact sg_in (show 3 * k + 2 < L by omega) hL
  have hlt : ¬ (Int32.ofNat L - (3 : Int32)) < nI (3 * k) := by rw [show Int32.ofNat L - (3 : Int32) = nI (L - 3) from pk_sub (a := L) (b := 3) (by omega)]; exact nI_nlt (by omega) (by omega)
  have oM := fun (z : Nat) (hi : am_I) (hr : am_R) (α : Type) (f : Option α) => fl_ob (z := z) (hi := hi) (hr := hr) (f := f) (RR_M R).1
  obtain ⟨r, hi1, hi2, e1, e2, R1⟩ := L_reserve (z := z) R
  refine ⟨z, hi2, hr, ?_, RR_le R1 (by omega)⟩
  unfold s_La_law_23
  rw [if_neg hlt, s0, Option.bind_some, if_neg n0, if_neg n1, if_neg n2, if_neg n3, if_neg n4, if_neg n5, if_neg n6, if_neg n7, if_neg n8, if_neg n9, if_neg n10, if_neg n11, if_neg n12, if_neg n13, if_pos hop]
  simp only [Option.bind_some, fl_ob (RR_0 R), oM, e1, e2, if_true]
theorem lw_activities (R : RR b sh hi hr Tb) (hTb : Tb < 400000) (hk : 3 * k + 3 ≤ L) (hL : L ≤ 1536) (T : Nat → Nat → Nat → Int32 → am_w → Option (Int32 × am_w)) (n0 : ¬ (xs (3 * k) &&& (31 : Int32)) = (0 : Int32)) (n1 : ¬ (xs (3 * k) &&& (31 : Int32)) = (1 : Int32)) (n2 : ¬ (xs (3 * k) &&& (31 : Int32)) = (2 : Int32)) (n3 : ¬ (xs (3 * k) &&& (31 : Int32)) = (3 : Int32)) (n4 : ¬ (xs (3 * k) &&& (31 : Int32)) = (4 : Int32)) (n5 : ¬ (xs (3 * k) &&& (31 : Int32)) = (5 : Int32)) (n6 : ¬ (xs (3 * k) &&& (31 : Int32)) = (6 : Int32)) (n7 : ¬ (xs (3 * k) &&& (31 : Int32)) = (7 : Int32)) (n8 : ¬ (xs (3 * k) &&& (31 : Int32)) = (8 : Int32)) (n9 : ¬ (xs (3 * k) &&& (31 : Int32)) = (9 : Int32)) (n10 : ¬ (xs (3 * k) &&& (31 : Int32)) = (10 : Int32)) (n11 : ¬ (xs (3 * k) &&& (31 : Int32)) = (11 : Int32)) (n12 : ¬ (xs (3 * k) &&& (31 : Int32)) = (12 : Int32)) (n13 : ¬ (xs (3 * k) &&& (31 : Int32)) = (13 : Int32)) (n14 : ¬ (xs (3 * k) &&& (31 : Int32)) = (14 : Int32)) (hop : (xs (3 * k) &&& (31 : Int32)) = (15 : Int32)) : ∃ z1 hi1 hr1, s_La_law_23 L xs T b (b + 29) (b + 46) (nI (3 * k)) (z, sh, hi, hr) = T b (b + 29) (b + 46) (nI (3 * k) + (3 : Int32)) (z1, sh, hi1, hr1) ∧ RR b sh hi1 hr1 (Tb + 60) := by
  have s0 := sg_in (xs := xs) (show 3 * k < L by omega) hL
  have s1 : am_sg L xs (nI (3 * k) + (1 : Int32)) = some (xs (3 * k + 1)) := by rw [n_s]; exact sg_in (show 3 * k + 1 < L by omega) hL
  have s2 : am_sg L xs (nI (3 * k) + (2 : Int32)) = some (xs (3 * k + 2)) := by rw [show nI (3 * k) + (2 : Int32) = nI (3 * k + 2) from n_add (3 * k) 2]; exact sg_in (show 3 * k + 2 < L by omega) hL
  have hlt : ¬ (Int32.ofNat L - (3 : Int32)) < nI (3 * k) := by rw [show Int32.ofNat L - (3 : Int32) = nI (L - 3) from pk_sub (a := L) (b := 3) (by omega)]; exact nI_nlt (by omega) (by omega)
  have oM := fun (z : Nat) (hi : am_I) (hr : am_R) (α : Type) (f : Option α) => fl_ob (z := z) (hi := hi) (hr := hr) (f := f) (RR_M R).1
  obtain ⟨r, hi1, hi2, e1, e2, R1⟩ := L_activities (z := z) R
  refine ⟨z, hi2, hr, ?_, RR_le R1 (by omega)⟩
  unfold s_La_law_23
  rw [if_neg hlt, s0, Option.bind_some, if_neg n0, if_neg n1, if_neg n2, if_neg n3, if_neg n4, if_neg n5, if_neg n6, if_neg n7, if_neg n8, if_neg n9, if_neg n10, if_neg n11, if_neg n12, if_neg n13, if_neg n14, if_pos hop]
  simp only [Option.bind_some, fl_ob (RR_0 R), oM, e1, e2, if_true]
theorem lw_activity (R : RR b sh hi hr Tb) (hTb : Tb < 400000) (hk : 3 * k + 3 ≤ L) (hL : L ≤ 1536) (T : Nat → Nat → Nat → Int32 → am_w → Option (Int32 × am_w)) (n0 : ¬ (xs (3 * k) &&& (31 : Int32)) = (0 : Int32)) (n1 : ¬ (xs (3 * k) &&& (31 : Int32)) = (1 : Int32)) (n2 : ¬ (xs (3 * k) &&& (31 : Int32)) = (2 : Int32)) (n3 : ¬ (xs (3 * k) &&& (31 : Int32)) = (3 : Int32)) (n4 : ¬ (xs (3 * k) &&& (31 : Int32)) = (4 : Int32)) (n5 : ¬ (xs (3 * k) &&& (31 : Int32)) = (5 : Int32)) (n6 : ¬ (xs (3 * k) &&& (31 : Int32)) = (6 : Int32)) (n7 : ¬ (xs (3 * k) &&& (31 : Int32)) = (7 : Int32)) (n8 : ¬ (xs (3 * k) &&& (31 : Int32)) = (8 : Int32)) (n9 : ¬ (xs (3 * k) &&& (31 : Int32)) = (9 : Int32)) (n10 : ¬ (xs (3 * k) &&& (31 : Int32)) = (10 : Int32)) (n11 : ¬ (xs (3 * k) &&& (31 : Int32)) = (11 : Int32)) (n12 : ¬ (xs (3 * k) &&& (31 : Int32)) = (12 : Int32)) (n13 : ¬ (xs (3 * k) &&& (31 : Int32)) = (13 : Int32)) (n14 : ¬ (xs (3 * k) &&& (31 : Int32)) = (14 : Int32)) (n15 : ¬ (xs (3 * k) &&& (31 : Int32)) = (15 : Int32)) (hop : (xs (3 * k) &&& (31 : Int32)) = (16 : Int32)) : ∃ z1 hi1 hr1, s_La_law_23 L xs T b (b + 29) (b + 46) (nI (3 * k)) (z, sh, hi, hr) = T b (b + 29) (b + 46) (nI (3 * k) + (3 : Int32)) (z1, sh, hi1, hr1) ∧ RR b sh hi1 hr1 (Tb + 60) := by
  have s0 := sg_in (xs := xs) (show 3 * k < L by omega) hL
  have s1 : am_sg L xs (nI (3 * k) + (1 : Int32)) = some (xs (3 * k + 1)) := by rw [n_s]; exact sg_in (show 3 * k + 1 < L by omega) hL
  have s2 : am_sg L xs (nI (3 * k) + (2 : Int32)) = some (xs (3 * k + 2)) := by rw [show nI (3 * k) + (2 : Int32) = nI (3 * k + 2) from n_add (3 * k) 2]; exact sg_in (show 3 * k + 2 < L by omega) hL
  have hlt : ¬ (Int32.ofNat L - (3 : Int32)) < nI (3 * k) := by rw [show Int32.ofNat L - (3 : Int32) = nI (L - 3) from pk_sub (a := L) (b := 3) (by omega)]; exact nI_nlt (by omega) (by omega)
  have oM := fun (z : Nat) (hi : am_I) (hr : am_R) (α : Type) (f : Option α) => fl_ob (z := z) (hi := hi) (hr := hr) (f := f) (RR_M R).1
  obtain ⟨kk, bm, z1, hi1, hi2, e1, e2, e3, e4, R1⟩ := L_activity (z := z) R (xs (3 * k + 1)) (xs (3 * k + 2))
  refine ⟨z1, hi2, hr, ?_, RR_le R1 (by omega)⟩
  unfold s_La_law_23
  rw [if_neg hlt, s0, Option.bind_some, if_neg n0, if_neg n1, if_neg n2, if_neg n3, if_neg n4, if_neg n5, if_neg n6, if_neg n7, if_neg n8, if_neg n9, if_neg n10, if_neg n11, if_neg n12, if_neg n13, if_neg n14, if_neg n15, if_pos hop]
  simp only [Option.bind_some, s1, s2, oM, e1, e2, m_thrown (RR_M R1), e3, if_true, lg_out (RR_o R1)]
  by_cases hk0 : kk = 0
  · rw [if_pos hk0, e4 hk0, if_pos (lg_self _)]
  · rw [if_neg hk0]
theorem lw_lowest (R : RR b sh hi hr Tb) (hTb : Tb < 400000) (hk : 3 * k + 3 ≤ L) (hL : L ≤ 1536) (T : Nat → Nat → Nat → Int32 → am_w → Option (Int32 × am_w)) (n0 : ¬ (xs (3 * k) &&& (31 : Int32)) = (0 : Int32)) (n1 : ¬ (xs (3 * k) &&& (31 : Int32)) = (1 : Int32)) (n2 : ¬ (xs (3 * k) &&& (31 : Int32)) = (2 : Int32)) (n3 : ¬ (xs (3 * k) &&& (31 : Int32)) = (3 : Int32)) (n4 : ¬ (xs (3 * k) &&& (31 : Int32)) = (4 : Int32)) (n5 : ¬ (xs (3 * k) &&& (31 : Int32)) = (5 : Int32)) (n6 : ¬ (xs (3 * k) &&& (31 : Int32)) = (6 : Int32)) (n7 : ¬ (xs (3 * k) &&& (31 : Int32)) = (7 : Int32)) (n8 : ¬ (xs (3 * k) &&& (31 : Int32)) = (8 : Int32)) (n9 : ¬ (xs (3 * k) &&& (31 : Int32)) = (9 : Int32)) (n10 : ¬ (xs (3 * k) &&& (31 : Int32)) = (10 : Int32)) (n11 : ¬ (xs (3 * k) &&& (31 : Int32)) = (11 : Int32)) (n12 : ¬ (xs (3 * k) &&& (31 : Int32)) = (12 : Int32)) (n13 : ¬ (xs (3 * k) &&& (31 : Int32)) = (13 : Int32)) (n14 : ¬ (xs (3 * k) &&& (31 : Int32)) = (14 : Int32)) (n15 : ¬ (xs (3 * k) &&& (31 : Int32)) = (15 : Int32)) (n16 : ¬ (xs (3 * k) &&& (31 : Int32)) = (16 : Int32)) (hop : (xs (3 * k) &&& (31 : Int32)) = (17 : Int32)) : ∃ z1 hi1 hr1, s_La_law_23 L xs T b (b + 29) (b + 46) (nI (3 * k)) (z, sh, hi, hr) = T b (b + 29) (b + 46) (nI (3 * k) + (3 : Int32)) (z1, sh, hi1, hr1) ∧ RR b sh hi1 hr1 (Tb + 60) := by
  have s0 := sg_in (xs := xs) (show 3 * k < L by omega) hL
  have s1 : am_sg L xs (nI (3 * k) + (1 : Int32)) = some (xs (3 * k + 1)) := by rw [n_s]; exact sg_in (show 3 * k + 1 < L by omega) hL
  have s2 : am_sg L xs (nI (3 * k) + (2 : Int32)) = some (xs (3 * k + 2)) := by rw [show nI (3 * k) + (2 : Int32) = nI (3 * k + 2) from n_add (3 * k) 2]; exact sg_in (show 3 * k + 2 < L by omega) hL
  have hlt : ¬ (Int32.ofNat L - (3 : Int32)) < nI (3 * k) := by rw [show Int32.ofNat L - (3 : Int32) = nI (L - 3) from pk_sub (a := L) (b := 3) (by omega)]; exact nI_nlt (by omega) (by omega)
  have oM := fun (z : Nat) (hi : am_I) (hr : am_R) (α : Type) (f : Option α) => fl_ob (z := z) (hi := hi) (hr := hr) (f := f) (RR_M R).1
  obtain ⟨r, hi1, hi2, e1, e2, R1⟩ := L_lowest (z := z) R
  refine ⟨z, hi2, hr, ?_, RR_le R1 (by omega)⟩
  unfold s_La_law_23
  rw [if_neg hlt, s0, Option.bind_some, if_neg n0, if_neg n1, if_neg n2, if_neg n3, if_neg n4, if_neg n5, if_neg n6, if_neg n7, if_neg n8, if_neg n9, if_neg n10, if_neg n11, if_neg n12, if_neg n13, if_neg n14, if_neg n15, if_neg n16, if_pos hop]
  simp only [Option.bind_some, fl_ob (RR_0 R), oM, e1, e2, if_true]
theorem lw_could (R : RR b sh hi hr Tb) (hTb : Tb < 400000) (hk : 3 * k + 3 ≤ L) (hL : L ≤ 1536) (T : Nat → Nat → Nat → Int32 → am_w → Option (Int32 × am_w)) (n0 : ¬ (xs (3 * k) &&& (31 : Int32)) = (0 : Int32)) (n1 : ¬ (xs (3 * k) &&& (31 : Int32)) = (1 : Int32)) (n2 : ¬ (xs (3 * k) &&& (31 : Int32)) = (2 : Int32)) (n3 : ¬ (xs (3 * k) &&& (31 : Int32)) = (3 : Int32)) (n4 : ¬ (xs (3 * k) &&& (31 : Int32)) = (4 : Int32)) (n5 : ¬ (xs (3 * k) &&& (31 : Int32)) = (5 : Int32)) (n6 : ¬ (xs (3 * k) &&& (31 : Int32)) = (6 : Int32)) (n7 : ¬ (xs (3 * k) &&& (31 : Int32)) = (7 : Int32)) (n8 : ¬ (xs (3 * k) &&& (31 : Int32)) = (8 : Int32)) (n9 : ¬ (xs (3 * k) &&& (31 : Int32)) = (9 : Int32)) (n10 : ¬ (xs (3 * k) &&& (31 : Int32)) = (10 : Int32)) (n11 : ¬ (xs (3 * k) &&& (31 : Int32)) = (11 : Int32)) (n12 : ¬ (xs (3 * k) &&& (31 : Int32)) = (12 : Int32)) (n13 : ¬ (xs (3 * k) &&& (31 : Int32)) = (13 : Int32)) (n14 : ¬ (xs (3 * k) &&& (31 : Int32)) = (14 : Int32)) (n15 : ¬ (xs (3 * k) &&& (31 : Int32)) = (15 : Int32)) (n16 : ¬ (xs (3 * k) &&& (31 : Int32)) = (16 : Int32)) (n17 : ¬ (xs (3 * k) &&& (31 : Int32)) = (17 : Int32)) (hop : (xs (3 * k) &&& (31 : Int32)) = (18 : Int32)) : ∃ z1 hi1 hr1, s_La_law_23 L xs T b (b + 29) (b + 46) (nI (3 * k)) (z, sh, hi, hr) = T b (b + 29) (b + 46) (nI (3 * k) + (3 : Int32)) (z1, sh, hi1, hr1) ∧ RR b sh hi1 hr1 (Tb + 60) := by
  have s0 := sg_in (xs := xs) (show 3 * k < L by omega) hL
  have s1 : am_sg L xs (nI (3 * k) + (1 : Int32)) = some (xs (3 * k + 1)) := by rw [n_s]; exact sg_in (show 3 * k + 1 < L by omega) hL
  have s2 : am_sg L xs (nI (3 * k) + (2 : Int32)) = some (xs (3 * k + 2)) := by rw [show nI (3 * k) + (2 : Int32) = nI (3 * k + 2) from n_add (3 * k) 2]; exact sg_in (show 3 * k + 2 < L by omega) hL
  have hlt : ¬ (Int32.ofNat L - (3 : Int32)) < nI (3 * k) := by rw [show Int32.ofNat L - (3 : Int32) = nI (L - 3) from pk_sub (a := L) (b := 3) (by omega)]; exact nI_nlt (by omega) (by omega)
  have oM := fun (z : Nat) (hi : am_I) (hr : am_R) (α : Type) (f : Option α) => fl_ob (z := z) (hi := hi) (hr := hr) (f := f) (RR_M R).1
  obtain ⟨kk, bm, z1, hi1, hi2, e1, e2, e3, e4, R1⟩ := L_could (z := z) R (xs (3 * k + 1))
  refine ⟨z1, hi2, hr, ?_, RR_le R1 (by omega)⟩
  unfold s_La_law_23
  rw [if_neg hlt, s0, Option.bind_some, if_neg n0, if_neg n1, if_neg n2, if_neg n3, if_neg n4, if_neg n5, if_neg n6, if_neg n7, if_neg n8, if_neg n9, if_neg n10, if_neg n11, if_neg n12, if_neg n13, if_neg n14, if_neg n15, if_neg n16, if_neg n17, if_pos hop]
  simp only [Option.bind_some, s1, s2, oM, e1, e2, m_thrown (RR_M R1), e3, if_true, lg_out (RR_o R1)]
  by_cases hk0 : kk = 0
  · obtain ⟨g1, g2⟩ := e4 hk0
    rw [if_pos hk0, g1]
    rcases g2 with g2 | g2
    · rw [if_pos g2, g2]; unfold s_La_law_878; rw [if_pos (lg_self _)]
    · rw [if_neg (by rw [g2]; decide), g2]; unfold s_La_law_878; rw [if_pos (lg_self _)]
  · rw [if_neg hk0]
theorem lw_step (R : RR b sh hi hr Tb) (hTb : Tb < 400000) (hk : 3 * k + 3 ≤ L) (hL : L ≤ 1536) (T : Nat → Nat → Nat → Int32 → am_w → Option (Int32 × am_w)) : ∃ z1 hi1 hr1, s_La_law_23 L xs T b (b + 29) (b + 46) (nI (3 * k)) (z, sh, hi, hr) = T b (b + 29) (b + 46) (nI (3 * (k + 1))) (z1, sh, hi1, hr1) ∧ RR b sh hi1 hr1 (Tb + 60) := by
  have e3 : nI (3 * (k + 1)) = nI (3 * k) + (3 : Int32) := (n_add (3 * k) 3).symm
  rw [e3]
  by_cases n0 : (xs (3 * k) &&& (31 : Int32)) = (0 : Int32)
  · exact lw_type R hTb hk hL T n0
  by_cases n1 : (xs (3 * k) &&& (31 : Int32)) = (1 : Int32)
  · exact lw_submit R hTb hk hL T n0 n1
  by_cases n2 : (xs (3 * k) &&& (31 : Int32)) = (2 : Int32)
  · exact lw_enable R hTb hk hL T n0 n1 n2
  by_cases n3 : (xs (3 * k) &&& (31 : Int32)) = (3 : Int32)
  · exact lw_cancel R hTb hk hL T n0 n1 n2 n3
  by_cases n4 : (xs (3 * k) &&& (31 : Int32)) = (4 : Int32)
  · exact lw_minutes R hTb hk hL T n0 n1 n2 n3 n4
  by_cases n5 : (xs (3 * k) &&& (31 : Int32)) = (5 : Int32)
  · exact lw_lasts R hTb hk hL T n0 n1 n2 n3 n4 n5
  by_cases n6 : (xs (3 * k) &&& (31 : Int32)) = (6 : Int32)
  · exact lw_draws R hTb hk hL T n0 n1 n2 n3 n4 n5 n6
  by_cases n7 : (xs (3 * k) &&& (31 : Int32)) = (7 : Int32)
  · exact lw_curve R hTb hk hL T n0 n1 n2 n3 n4 n5 n6 n7
  by_cases n8 : (xs (3 * k) &&& (31 : Int32)) = (8 : Int32)
  · exact lw_gain R hTb hk hL T n0 n1 n2 n3 n4 n5 n6 n7 n8
  by_cases n9 : (xs (3 * k) &&& (31 : Int32)) = (9 : Int32)
  · exact lw_home R hTb hk hL T n0 n1 n2 n3 n4 n5 n6 n7 n8 n9
  by_cases n10 : (xs (3 * k) &&& (31 : Int32)) = (10 : Int32)
  · exact lw_fill R hTb hk hL T n0 n1 n2 n3 n4 n5 n6 n7 n8 n9 n10
  by_cases n11 : (xs (3 * k) &&& (31 : Int32)) = (11 : Int32)
  · exact lw_now R hTb hk hL T n0 n1 n2 n3 n4 n5 n6 n7 n8 n9 n10 n11
  by_cases n12 : (xs (3 * k) &&& (31 : Int32)) = (12 : Int32)
  · exact lw_mode R hTb hk hL T n0 n1 n2 n3 n4 n5 n6 n7 n8 n9 n10 n11 n12
  by_cases n13 : (xs (3 * k) &&& (31 : Int32)) = (13 : Int32)
  · exact lw_level R hTb hk hL T n0 n1 n2 n3 n4 n5 n6 n7 n8 n9 n10 n11 n12 n13
  by_cases n14 : (xs (3 * k) &&& (31 : Int32)) = (14 : Int32)
  · exact lw_reserve R hTb hk hL T n0 n1 n2 n3 n4 n5 n6 n7 n8 n9 n10 n11 n12 n13 n14
  by_cases n15 : (xs (3 * k) &&& (31 : Int32)) = (15 : Int32)
  · exact lw_activities R hTb hk hL T n0 n1 n2 n3 n4 n5 n6 n7 n8 n9 n10 n11 n12 n13 n14 n15
  by_cases n16 : (xs (3 * k) &&& (31 : Int32)) = (16 : Int32)
  · exact lw_activity R hTb hk hL T n0 n1 n2 n3 n4 n5 n6 n7 n8 n9 n10 n11 n12 n13 n14 n15 n16
  by_cases n17 : (xs (3 * k) &&& (31 : Int32)) = (17 : Int32)
  · exact lw_lowest R hTb hk hL T n0 n1 n2 n3 n4 n5 n6 n7 n8 n9 n10 n11 n12 n13 n14 n15 n16 n17
  by_cases n18 : (xs (3 * k) &&& (31 : Int32)) = (18 : Int32)
  · exact lw_could R hTb hk hL T n0 n1 n2 n3 n4 n5 n6 n7 n8 n9 n10 n11 n12 n13 n14 n15 n16 n17 n18
  have s0 := sg_in (xs := xs) (show 3 * k < L by omega) hL
  have hlt : ¬ (Int32.ofNat L - (3 : Int32)) < nI (3 * k) := by rw [show Int32.ofNat L - (3 : Int32) = nI (L - 3) from pk_sub (a := L) (b := 3) (by omega)]; exact nI_nlt (by omega) (by omega)
  refine ⟨z, hi, hr, ?_, RR_le R (by omega)⟩
  unfold s_La_law_23
  rw [if_neg hlt, s0, Option.bind_some, if_neg n0, if_neg n1, if_neg n2, if_neg n3, if_neg n4, if_neg n5, if_neg n6, if_neg n7, if_neg n8, if_neg n9, if_neg n10, if_neg n11, if_neg n12, if_neg n13, if_neg n14, if_neg n15, if_neg n16, if_neg n17, if_neg n18]
theorem lw_end (hk : L < 3 * k + 3) (hL : L ≤ 1536) (hk2 : k ≤ 600) (T : Nat → Nat → Nat → Int32 → am_w → Option (Int32 × am_w)) (w : am_w) : s_La_law_23 L xs T b (b + 29) (b + 46) (nI (3 * k)) w = some (1, w) := by
  have hlt : (Int32.ofNat L - (3 : Int32)) < nI (3 * k) := by
    by_cases h3 : 3 ≤ L
    · rw [show Int32.ofNat L - (3 : Int32) = nI (L - 3) from pk_sub (a := L) (b := 3) h3]
      exact nI_lt (by omega) (by omega)
    · have h4 : L = 0 ∨ L = 1 ∨ L = 2 := by omega
      have h5 : (0 : Int32) ≤ nI (3 * k) := nI_pos' (by omega)
      have h6 : (Int32.ofNat L - (3 : Int32)) < 0 := by rcases h4 with rfl | rfl | rfl <;> decide
      exact Int32.lt_of_lt_of_le h6 h5
  unfold s_La_law_23
  rw [if_pos hlt]
theorem lw_loop (hL : L ≤ 1536) : ∀ d k f z hi hr Tb, L + 3 ≤ 3 * (k + d) + 3 → 3 * k ≤ L + 3 → d < f → Tb + 60 * d ≤ 60 * 600 → RR b sh hi hr Tb → ∃ w, am_it (fun _ _ _ _ _ => none) (s_La_law_23 L xs) f b (b + 29) (b + 46) (nI (3 * k)) (z, sh, hi, hr) = some (1, w) := by
  intro d
  induction d with
  | zero =>
    intro k f z hi hr Tb h1 h2 hf hT R
    obtain ⟨f, rfl⟩ : ∃ g, f = g + 1 := ⟨f - 1, by omega⟩
    rw [it_s]
    exact ⟨_, lw_end (by omega) hL (by omega) _ _⟩
  | succ d ih =>
    intro k f z hi hr Tb h1 h2 hf hT R
    obtain ⟨f, rfl⟩ : ∃ g, f = g + 1 := ⟨f - 1, by omega⟩
    rw [it_s]
    by_cases h3 : 3 * k + 3 ≤ L
    · obtain ⟨z1, hi1, hr1, e1, R1⟩ := lw_step (z := z) (xs := xs) R (by omega) h3 hL (am_it (fun _ _ _ _ _ => none) (s_La_law_23 L xs) f)
      rw [e1]
      exact ih (k + 1) f z1 hi1 hr1 (Tb + 60) (by omega) (by omega) (by omega) (by omega) R1
    · exact ⟨_, lw_end (by omega) hL (by omega) _ _⟩
theorem lw_all (hL : L ≤ 1536) (R : RR b sh hi hr 0) : ∃ w, f_La_law_23 L xs 600 b (b + 29) (b + 46) (0 : Int32) (z, sh, hi, hr) = some (1, w) := lw_loop hL 520 0 600 z hi hr 0 (by omega) (by omega) (by omega) (by omega) R
end FLAW
