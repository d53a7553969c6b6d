-- needs 56 57 58 59 60 61 62 63 64 65 66 67 68 69 70 71 72
/-! the setters -/
theorem inv1_17 {c : Nat → Int32} {k : Nat} (h : inv1 c) (hk : k ≤ 40) : inv1 (cu c 17 (nI k)) := by
  obtain ⟨a, b1, b2, b3, b4, b5, b6, b7, b8⟩ := h
  unfold inv1
  simp only [cu]
  simp
  exact ⟨a, b1, b2, b3, b4, b5, Or.inr ⟨k, hk, rfl⟩, b7, b8⟩
theorem inv1_18 {c : Nat → Int32} {k : Nat} (h : inv1 c) (hk : k ≤ 200) : inv1 (cu c 18 (nI k)) := by
  obtain ⟨a, b1, b2, b3, b4, b5, b6, b7, b8⟩ := h
  unfold inv1
  simp only [cu]
  simp
  exact ⟨a, b1, b2, b3, b4, b5, b6, Or.inr ⟨k, hk, rfl⟩, b8⟩
section FSET
variable {b P Q M z n : Nat} {sh : am_S} {hi x : am_I} {hr : am_R} {G : Nat → Int} {D : Int} {h : Nat} {tg : Int} {Tb T E : Nat} {e s : Int} {v : Nat → Nat → Int32}
theorem has_cases (p : Int32) (hn : n ≤ 8) : (!decide (p < 0) && !decide (nI n ≤ p)) = false ∨ ((!decide (p < 0) && !decide (nI n ≤ p)) = true ∧ ∃ i : Nat, i < n ∧ p = nI i) := by
  rcases pk_ix p (n := n) (by omega) with h1 | h1 | ⟨j, h1, h2⟩
  · left; simp [h1]
  · left; simp [h1]
  · right
    refine ⟨?_, j, h1, h2⟩
    rw [h2]
    have e1 : ¬ nI j < 0 := nI_pos (by omega)
    have e2 : ¬ nI n ≤ nI j := nI_ge (by omega) (by omega)
    simp only [e1, e2, decide_false, Bool.not_false, Bool.and_self]
theorem L_lasts (R : RR b sh hi hr Tb) (p q : Int32) : ∃ k bm z1 hi1 hi2, f_La_lasts b p q (z, sh, hi, hr) = some (k, (z1, sh, hi1, hr)) ∧ f_Mo_lasts (b + 29) p q (z1, sh, hi1, hr) = some (bm, (z1, sh, hi2, hr)) ∧ hi2 (b + 29) 0 = k ∧ RR b sh hi2 hr Tb := by
  have R0 := R
  obtain ⟨P, Q, tg, G, D, h, n, ⟨md, T, E, R, e, s, v⟩, len, H, HM, ho, hC, hM, hA, hT, hx⟩ := R
  have hP := k_P H
  have an : n ≤ 8 := hA.2.2.2.2.2.2.2.1
  have hcn : hi P 1 = nI n := hC.2.2.2.2.2.2.2.2.2.1
  have hmn : hi (b + 29) 9 = nI n := hM.2.2.2.2.2.2.2.2.1
  rcases has_cases p an with hh | ⟨hh, i, hi8, rfl⟩
  · refine ⟨1, 0, z + 1, hi, am_up hi (b + 29) 0 1, ?_, ?_, am_up_eq _ _ _ _, RR_q R0 q0 qe⟩
    · simp only [f_La_lasts, f_Rm_lasts, kg0 H, kp0 H, ko0 H, kg1 H, kp1 H, ko1 H, kg2 H, kp2 H, ko2 H, kg3 H, kp3 H, ko3 H, kg4 H, kp4 H, ko4 H, kr0_0 H, kr0_1 H, kr0_2 H, kr0_3 H, kr1_0 H, kr3_0 H, kr4_5 H, kr4_6 H, kr7_0 H, kr0_4 H, kr0_5 H, kal H, po hP, e_has hP, Option.bind_some, hcn, hh, b1_0, if_true, am_th]
      rfl
    · have H := HM
      simp only [f_Mo_lasts, s_Mo_lasts_14, s_Mo_lasts_25, s_Mo_lasts_30, mg H, mp H, mo H, mr1 H, mr6 H, mr7 H, mr8 H, mr10 H, mr11 H, mr12 H, mr13 H, mr14 H, mr15 H, mr16 H, mr17 H, mr18 H, mr19 H, mr20 H, mr25 H, m_isActivity HM, Option.bind_some, hmn, hh, b1_0, if_true, rf1 HM, rf3 HM, i0_1, if_false]
      split
      · rfl
      · split <;> rfl
  · have no : ¬ (1 ≤ q ∧ q ≤ 40) → ∃ k bm z1 hi1 hi2, f_La_lasts b (nI i) q (z, sh, hi, hr) = some (k, (z1, sh, hi1, hr)) ∧ f_Mo_lasts (b + 29) (nI i) q (z1, sh, hi1, hr) = some (bm, (z1, sh, hi2, hr)) ∧ hi2 (b + 29) 0 = k ∧ RR b sh hi2 hr Tb := by
      intro hq
      refine ⟨2, 0, z + 1, hi, am_up hi (b + 29) 0 2, ?_, ?_, am_up_eq _ _ _ _, RR_q R0 q0 qe⟩
      · by_cases h1 : q < 1
        · simp only [f_La_lasts, f_Rm_lasts, kg0 H, kp0 H, ko0 H, kg1 H, kp1 H, ko1 H, kg2 H, kp2 H, ko2 H, kg3 H, kp3 H, ko3 H, kg4 H, kp4 H, ko4 H, kr0_0 H, kr0_1 H, kr0_2 H, kr0_3 H, kr1_0 H, kr3_0 H, kr4_5 H, kr4_6 H, kr7_0 H, kr0_4 H, kr0_5 H, kal H, po hP, e_has hP, Option.bind_some, hcn, hh, b1_0, Bool.true_eq_false, if_false, if_pos h1, am_th]
          rfl
        · have h2 : ¬ q ≤ 40 := fun h2 => hq ⟨by rw [← Int32.not_lt]; exact h1, h2⟩
          simp only [f_La_lasts, f_Rm_lasts, kg0 H, kp0 H, ko0 H, kg1 H, kp1 H, ko1 H, kg2 H, kp2 H, ko2 H, kg3 H, kp3 H, ko3 H, kg4 H, kp4 H, ko4 H, kr0_0 H, kr0_1 H, kr0_2 H, kr0_3 H, kr1_0 H, kr3_0 H, kr4_5 H, kr4_6 H, kr7_0 H, kr0_4 H, kr0_5 H, kal H, po hP, e_has hP, Option.bind_some, hcn, hh, b1_0, Bool.true_eq_false, if_false, if_neg h1, if_neg h2, am_th]
          rfl
      · have H := HM
        by_cases h1 : q < 1
        · simp only [f_Mo_lasts, s_Mo_lasts_14, s_Mo_lasts_25, s_Mo_lasts_30, mg H, mp H, mo H, mr1 H, mr6 H, mr7 H, mr8 H, mr10 H, mr11 H, mr12 H, mr13 H, mr14 H, mr15 H, mr16 H, mr17 H, mr18 H, mr19 H, mr20 H, mr25 H, m_isActivity HM, Option.bind_some, hmn, hh, b1_0, Bool.true_eq_false, if_false, if_pos h1, rf2 HM, i0_1]
        · have h2 : ¬ q ≤ 40 := fun h2 => hq ⟨by rw [← Int32.not_lt]; exact h1, h2⟩
          simp only [f_Mo_lasts, s_Mo_lasts_14, s_Mo_lasts_25, s_Mo_lasts_30, mg H, mp H, mo H, mr1 H, mr6 H, mr7 H, mr8 H, mr10 H, mr11 H, mr12 H, mr13 H, mr14 H, mr15 H, mr16 H, mr17 H, mr18 H, mr19 H, mr20 H, mr25 H, m_isActivity HM, Option.bind_some, hmn, hh, b1_0, Bool.true_eq_false, if_false, if_neg h1, if_neg h2, rf2 HM, i0_1]
    by_cases hq : 1 ≤ q ∧ q ≤ 40
    · have h1 : ¬ q < 1 := by rw [Int32.not_lt]; exact hq.1
      have h2 := hq.2
      have h0 : ¬ q < 0 := by
        rw [Int32.not_lt]
        exact Int32.le_trans (by decide) hq.1
      obtain ⟨k, hk, rfl⟩ : ∃ k : Nat, k ≤ 40 ∧ q = nI k := nI_of2 (M := 40) (n := 40) rfl h0 h2
      have i8 : i < 8 := by omega
      have c1 : CR b P (cw hi (P + 2 + i) (cu (hi (P + 2 + i)) 17 (nI k))) T e s tg G D h n (cw v i (cu (v i) 17 (nI k))) := CR_cw H i8 hC.2.2.2 (fun hi => agr_cc (hC.2.2.2.2.2.2.2.2.2.2 i hi) (by decide))
      have p2 := k_P2 H
      have f1 : frC b hi (am_up hi (P + 2 + i) 17 (nI k)) := frC.rf.up (by omega)
      rw [← up_cw] at c1
      have C1 : CX b P (am_up hi (P + 2 + i) 17 (nI k)) tg G D h n (md, T, E, R, e, s, cw v i (cu (v i) 17 (nI k))) := ⟨by rw [am_up_na (by omega)]; exact hC.1, by rw [am_up_na (by omega)]; exact hC.2.1, fun hm => by rw [am_up_na (by omega)]; exact hC.2.2.1 hm, c1⟩
      have M1 := MX_0 (y := 0) (MX_1 hM f1 (fun _ _ => rfl))
      have hm1 : (am_up hi (P + 2 + i) 17 (nI k)) (b + 29) = hi (b + 29) := f1 _ (by omega)
      generalize hx0 : am_up hi (P + 2 + i) 17 (nI k) = x0 at *
      have g : frM (b + 29) (am_up x0 (b + 29) 0 0) (am_up (am_up x0 (b + 29) 0 0) (b + 29 + 14) i (nI k)) := frM.rf.up (by omega) (by omega)
      have d1 := MR_fr M1.2.2.2 g
      rw [vM_14, M1.2.2.2.2.2.2.2.2.2, show am_up (md, T, E, R, e, s, v).2.2.2.2.2.2 i 17 (nI k) = cw v i (cu (v i) 17 (nI k)) from up_cw v i 17 (nI k)] at d1
      refine ⟨0, 0, z, x0, am_up (am_up x0 (b + 29) 0 0) (b + 29 + 14) i (nI k), ?_, ?_, ?_, RR_mk H HM ho C1 f1 (fun _ _ => rfl) ⟨?_, ?_, ?_, d1⟩ (frW_0 (frN_M g)) ⟨hA.1, hA.2.1, hA.2.2.1, hA.2.2.2.1, hA.2.2.2.2.1, hA.2.2.2.2.2.1, hA.2.2.2.2.2.2.1, an, inv_cw hA.2.2.2.2.2.2.2.2 (inv1_17 (hA.2.2.2.2.2.2.2.2 i hi8) hk)⟩ hT hx⟩
      · simp only [f_La_lasts, f_Rm_lasts, kg0 H, kp0 H, ko0 H, kg1 H, kp1 H, ko1 H, kg2 H, kp2 H, ko2 H, kg3 H, kp3 H, ko3 H, kg4 H, kp4 H, ko4 H, kr0_0 H, kr0_1 H, kr0_2 H, kr0_3 H, kr1_0 H, kr3_0 H, kr4_5 H, kr4_6 H, kr7_0 H, kr0_4 H, kr0_5 H, kal H, po hP, pr hP, pa hP i8, ap hP i8, e_has hP, Option.bind_some, hcn, hh, b1_0, Bool.true_eq_false, if_false, if_neg h1, if_pos h2, if_true, hx0]
      · have H := HM
        simp only [f_Mo_lasts, s_Mo_lasts_14, s_Mo_lasts_30, mg H, mp H, mo H, mr1 H, mr6 H, mr7 H, mr8 H, mr10 H, mr11 H, mr12 H, mr13 H, mr14 H, mr15 H, mr16 H, mr17 H, mr18 H, mr19 H, mr20 H, mr25 H, m_isActivity HM, Option.bind_some, hm1, hmn, hh, b1_0, Bool.true_eq_false, if_false, if_neg h1, if_pos h2, rf0 HM, if_true, mw14 HM i8]
      · rw [am_up_na (by omega), am_up_eq]
      · rw [am_up_na (by omega)]; exact M1.1
      · rw [am_up_na (by omega)]; exact M1.2.1
      · intro hm; rw [am_up_na (by omega)]; exact M1.2.2.1 hm
    · exact no hq
theorem L_draws (R : RR b sh hi hr Tb) (p q : Int32) : ∃ k bm z1 hi1 hi2, f_La_draws b p q (z, sh, hi, hr) = some (k, (z1, sh, hi1, hr)) ∧ f_Mo_draws (b + 29) p q (z1, sh, hi1, hr) = some (bm, (z1, sh, hi2, hr)) ∧ hi2 (b + 29) 0 = k ∧ RR b sh hi2 hr Tb := by
  have R0 := R
  obtain ⟨P, Q, tg, G, D, h, n, ⟨md, T, E, R, e, s, v⟩, len, H, HM, ho, hC, hM, hA, hT, hx⟩ := R
  have hP := k_P H
  have an : n ≤ 8 := hA.2.2.2.2.2.2.2.1
  have hcn : hi P 1 = nI n := hC.2.2.2.2.2.2.2.2.2.1
  have hmn : hi (b + 29) 9 = nI n := hM.2.2.2.2.2.2.2.2.1
  rcases has_cases p an with hh | ⟨hh, i, hi8, rfl⟩
  · refine ⟨1, 0, z + 1, hi, am_up hi (b + 29) 0 1, ?_, ?_, am_up_eq _ _ _ _, RR_q R0 q0 qe⟩
    · simp only [f_La_draws, f_Rm_draws, kg0 H, kp0 H, ko0 H, kg1 H, kp1 H, ko1 H, kg2 H, kp2 H, ko2 H, kg3 H, kp3 H, ko3 H, kg4 H, kp4 H, ko4 H, kr0_0 H, kr0_1 H, kr0_2 H, kr0_3 H, kr1_0 H, kr3_0 H, kr4_5 H, kr4_6 H, kr7_0 H, kr0_4 H, kr0_5 H, kal H, po hP, e_has hP, Option.bind_some, hcn, hh, b1_0, if_true, am_th]
      rfl
    · have H := HM
      simp only [f_Mo_draws, s_Mo_draws_14, s_Mo_draws_25, s_Mo_draws_30, mg H, mp H, mo H, mr1 H, mr6 H, mr7 H, mr8 H, mr10 H, mr11 H, mr12 H, mr13 H, mr14 H, mr15 H, mr16 H, mr17 H, mr18 H, mr19 H, mr20 H, mr25 H, m_isActivity HM, Option.bind_some, hmn, hh, b1_0, if_true, rf1 HM, rf3 HM, i0_1, if_false]
      split
      · rfl
      · split <;> rfl
  · have no : ¬ (0 ≤ q ∧ q ≤ 200) → ∃ k bm z1 hi1 hi2, f_La_draws b (nI i) q (z, sh, hi, hr) = some (k, (z1, sh, hi1, hr)) ∧ f_Mo_draws (b + 29) (nI i) q (z1, sh, hi1, hr) = some (bm, (z1, sh, hi2, hr)) ∧ hi2 (b + 29) 0 = k ∧ RR b sh hi2 hr Tb := by
      intro hq
      refine ⟨2, 0, z + 1, hi, am_up hi (b + 29) 0 2, ?_, ?_, am_up_eq _ _ _ _, RR_q R0 q0 qe⟩
      · by_cases h1 : q < 0
        · simp only [f_La_draws, f_Rm_draws, kg0 H, kp0 H, ko0 H, kg1 H, kp1 H, ko1 H, kg2 H, kp2 H, ko2 H, kg3 H, kp3 H, ko3 H, kg4 H, kp4 H, ko4 H, kr0_0 H, kr0_1 H, kr0_2 H, kr0_3 H, kr1_0 H, kr3_0 H, kr4_5 H, kr4_6 H, kr7_0 H, kr0_4 H, kr0_5 H, kal H, po hP, e_has hP, Option.bind_some, hcn, hh, b1_0, Bool.true_eq_false, if_false, if_pos h1, am_th]
          rfl
        · have h2 : ¬ q ≤ 200 := fun h2 => hq ⟨by rw [← Int32.not_lt]; exact h1, h2⟩
          simp only [f_La_draws, f_Rm_draws, kg0 H, kp0 H, ko0 H, kg1 H, kp1 H, ko1 H, kg2 H, kp2 H, ko2 H, kg3 H, kp3 H, ko3 H, kg4 H, kp4 H, ko4 H, kr0_0 H, kr0_1 H, kr0_2 H, kr0_3 H, kr1_0 H, kr3_0 H, kr4_5 H, kr4_6 H, kr7_0 H, kr0_4 H, kr0_5 H, kal H, po hP, e_has hP, Option.bind_some, hcn, hh, b1_0, Bool.true_eq_false, if_false, if_neg h1, if_neg h2, am_th]
          rfl
      · have H := HM
        by_cases h1 : q < 0
        · simp only [f_Mo_draws, s_Mo_draws_14, s_Mo_draws_25, s_Mo_draws_30, mg H, mp H, mo H, mr1 H, mr6 H, mr7 H, mr8 H, mr10 H, mr11 H, mr12 H, mr13 H, mr14 H, mr15 H, mr16 H, mr17 H, mr18 H, mr19 H, mr20 H, mr25 H, m_isActivity HM, Option.bind_some, hmn, hh, b1_0, Bool.true_eq_false, if_false, if_pos h1, rf2 HM, i0_1]
        · have h2 : ¬ q ≤ 200 := fun h2 => hq ⟨by rw [← Int32.not_lt]; exact h1, h2⟩
          simp only [f_Mo_draws, s_Mo_draws_14, s_Mo_draws_25, s_Mo_draws_30, mg H, mp H, mo H, mr1 H, mr6 H, mr7 H, mr8 H, mr10 H, mr11 H, mr12 H, mr13 H, mr14 H, mr15 H, mr16 H, mr17 H, mr18 H, mr19 H, mr20 H, mr25 H, m_isActivity HM, Option.bind_some, hmn, hh, b1_0, Bool.true_eq_false, if_false, if_neg h1, if_neg h2, rf2 HM, i0_1]
    by_cases hq : 0 ≤ q ∧ q ≤ 200
    · have h1 : ¬ q < 0 := by rw [Int32.not_lt]; exact hq.1
      have h2 := hq.2
      obtain ⟨k, hk, rfl⟩ : ∃ k : Nat, k ≤ 200 ∧ q = nI k := nI_of2 (M := 200) (n := 200) rfl h1 h2
      have i8 : i < 8 := by omega
      have c1 : CR b P (cw hi (P + 2 + i) (cu (hi (P + 2 + i)) 18 (nI k))) T e s tg G D h n (cw v i (cu (v i) 18 (nI k))) := CR_cw H i8 hC.2.2.2 (fun hi => agr_cc (hC.2.2.2.2.2.2.2.2.2.2 i hi) (by decide))
      have p2 := k_P2 H
      have f1 : frC b hi (am_up hi (P + 2 + i) 18 (nI k)) := frC.rf.up (by omega)
      rw [← up_cw] at c1
      have C1 : CX b P (am_up hi (P + 2 + i) 18 (nI k)) tg G D h n (md, T, E, R, e, s, cw v i (cu (v i) 18 (nI k))) := ⟨by rw [am_up_na (by omega)]; exact hC.1, by rw [am_up_na (by omega)]; exact hC.2.1, fun hm => by rw [am_up_na (by omega)]; exact hC.2.2.1 hm, c1⟩
      have M1 := MX_0 (y := 0) (MX_1 hM f1 (fun _ _ => rfl))
      have hm1 : (am_up hi (P + 2 + i) 18 (nI k)) (b + 29) = hi (b + 29) := f1 _ (by omega)
      generalize hx0 : am_up hi (P + 2 + i) 18 (nI k) = x0 at *
      have g : frM (b + 29) (am_up x0 (b + 29) 0 0) (am_up (am_up x0 (b + 29) 0 0) (b + 29 + 15) i (nI k)) := frM.rf.up (by omega) (by omega)
      have d1 := MR_fr M1.2.2.2 g
      rw [vM_15, M1.2.2.2.2.2.2.2.2.2, show am_up (md, T, E, R, e, s, v).2.2.2.2.2.2 i 18 (nI k) = cw v i (cu (v i) 18 (nI k)) from up_cw v i 18 (nI k)] at d1
      refine ⟨0, 0, z, x0, am_up (am_up x0 (b + 29) 0 0) (b + 29 + 15) i (nI k), ?_, ?_, ?_, RR_mk H HM ho C1 f1 (fun _ _ => rfl) ⟨?_, ?_, ?_, d1⟩ (frW_0 (frN_M g)) ⟨hA.1, hA.2.1, hA.2.2.1, hA.2.2.2.1, hA.2.2.2.2.1, hA.2.2.2.2.2.1, hA.2.2.2.2.2.2.1, an, inv_cw hA.2.2.2.2.2.2.2.2 (inv1_18 (hA.2.2.2.2.2.2.2.2 i hi8) hk)⟩ hT hx⟩
      · simp only [f_La_draws, f_Rm_draws, kg0 H, kp0 H, ko0 H, kg1 H, kp1 H, ko1 H, kg2 H, kp2 H, ko2 H, kg3 H, kp3 H, ko3 H, kg4 H, kp4 H, ko4 H, kr0_0 H, kr0_1 H, kr0_2 H, kr0_3 H, kr1_0 H, kr3_0 H, kr4_5 H, kr4_6 H, kr7_0 H, kr0_4 H, kr0_5 H, kal H, po hP, pr hP, pa hP i8, ap hP i8, e_has hP, Option.bind_some, hcn, hh, b1_0, Bool.true_eq_false, if_false, if_neg h1, if_pos h2, if_true, hx0]
      · have H := HM
        simp only [f_Mo_draws, s_Mo_draws_14, s_Mo_draws_30, mg H, mp H, mo H, mr1 H, mr6 H, mr7 H, mr8 H, mr10 H, mr11 H, mr12 H, mr13 H, mr14 H, mr15 H, mr16 H, mr17 H, mr18 H, mr19 H, mr20 H, mr25 H, m_isActivity HM, Option.bind_some, hm1, hmn, hh, b1_0, Bool.true_eq_false, if_false, if_neg h1, if_pos h2, rf0 HM, if_true, mw15 HM i8]
      · rw [am_up_na (by omega), am_up_eq]
      · rw [am_up_na (by omega)]; exact M1.1
      · rw [am_up_na (by omega)]; exact M1.2.1
      · intro hm; rw [am_up_na (by omega)]; exact M1.2.2.1 hm
    · exact no hq
end FSET
