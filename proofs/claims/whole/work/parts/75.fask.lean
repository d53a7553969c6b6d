-- needs 56 57 58 59 60 61 62 63 64 65 66 67 68 69 70 71 72 73 74
/-! the questions -/
section FASK
variable {b P Q M z n : Nat} {sh : am_S} {hi x : am_I} {hr : am_R} {G : Nat → Int} {D : Int} {h : Nat} {tg : Int} {Tb T E : Nat} {e s : Int} {v : Nat → Nat → Int32}
theorem L_now (R : RR b sh hi hr Tb) : ∃ r hi1 hi2, f_Rm_now b (z, sh, hi, hr) = some (r, (z, sh, hi1, hr)) ∧ f_Mo_now (b + 29) (z, sh, hi1, hr) = some (r, (z, sh, hi2, hr)) ∧ RR b sh hi2 hr Tb := by
  have R0 := R
  obtain ⟨P, Q, tg, G, D, h, n, ⟨md, T, E, R, e, s, v⟩, len, H, HM, ho, hC, hM, hA, hT, hx⟩ := R
  refine ⟨nI T, hi, am_up hi (b + 29) 0 0, ?_, ?_, RR_q R0 q0 qe⟩
  · simp only [f_Rm_now, kg0 H, kp0 H, ko0 H, kg1 H, kp1 H, ko1 H, kg2 H, kp2 H, ko2 H, kg3 H, kp3 H, ko3 H, kg4 H, kp4 H, ko4 H, kr0_0 H, kr0_1 H, kr0_2 H, kr0_3 H, kr1_0 H, kr3_0 H, kr4_5 H, kr4_6 H, kr7_0 H, kr0_4 H, kr0_5 H, kal H, Option.bind_some, hC.2.2.2.1]
  · have H := HM
    simp only [f_Mo_now, mg H, mp H, mo H, mr1 H, mr6 H, mr7 H, mr8 H, mr10 H, mr11 H, mr12 H, mr13 H, mr14 H, mr15 H, mr16 H, mr17 H, mr18 H, mr19 H, mr20 H, mr25 H, Option.bind_some, am_up_nk (show (21 : Nat) ≠ 0 by decide), hM.2.2.2.1]
theorem L_mode (R : RR b sh hi hr Tb) : ∃ r hi1 hi2, f_Rm_mode b (z, sh, hi, hr) = some (r, (z, sh, hi1, hr)) ∧ f_Mo_mode (b + 29) (z, sh, hi1, hr) = some (r, (z, sh, hi2, hr)) ∧ RR b sh hi2 hr Tb := by
  have R0 := R
  obtain ⟨P, Q, tg, G, D, h, n, ⟨md, T, E, R, e, s, v⟩, len, H, HM, ho, hC, hM, hA, hT, hx⟩ := R
  refine ⟨md, hi, am_up hi (b + 29) 0 0, ?_, ?_, RR_q R0 q0 qe⟩
  · simp only [f_Rm_mode, kg0 H, kp0 H, ko0 H, kg1 H, kp1 H, ko1 H, kg2 H, kp2 H, ko2 H, kg3 H, kp3 H, ko3 H, kg4 H, kp4 H, ko4 H, kr0_0 H, kr0_1 H, kr0_2 H, kr0_3 H, kr1_0 H, kr3_0 H, kr4_5 H, kr4_6 H, kr7_0 H, kr0_4 H, kr0_5 H, kal H, Option.bind_some, hC.1]
  · have H := HM
    simp only [f_Mo_mode, mg H, mp H, mo H, mr1 H, mr6 H, mr7 H, mr8 H, mr10 H, mr11 H, mr12 H, mr13 H, mr14 H, mr15 H, mr16 H, mr17 H, mr18 H, mr19 H, mr20 H, mr25 H, Option.bind_some, am_up_nk (show (22 : Nat) ≠ 0 by decide), hM.1]
theorem L_activities (R : RR b sh hi hr Tb) : ∃ r hi1 hi2, f_Rm_activities b (z, sh, hi, hr) = some (r, (z, sh, hi1, hr)) ∧ f_Mo_activities (b + 29) (z, sh, hi1, hr) = some (r, (z, sh, hi2, hr)) ∧ RR b sh hi2 hr Tb := by
  have R0 := R
  obtain ⟨P, Q, tg, G, D, h, n, ⟨md, T, E, R, e, s, v⟩, len, H, HM, ho, hC, hM, hA, hT, hx⟩ := R
  have hP := k_P H
  have hcn : hi P 1 = nI n := hC.2.2.2.2.2.2.2.2.2.1
  have hmn : hi (b + 29) 9 = nI n := hM.2.2.2.2.2.2.2.2.1
  refine ⟨nI n, hi, am_up hi (b + 29) 0 0, ?_, ?_, RR_q R0 q0 qe⟩
  · simp only [f_Rm_activities, kg0 H, kp0 H, ko0 H, kg1 H, kp1 H, ko1 H, kg2 H, kp2 H, ko2 H, kg3 H, kp3 H, ko3 H, kg4 H, kp4 H, ko4 H, kr0_0 H, kr0_1 H, kr0_2 H, kr0_3 H, kr1_0 H, kr3_0 H, kr4_5 H, kr4_6 H, kr7_0 H, kr0_4 H, kr0_5 H, kal H, pg hP, Option.bind_some, hcn]
  · have H := HM
    simp only [f_Mo_activities, mg H, mp H, mo H, mr1 H, mr6 H, mr7 H, mr8 H, mr10 H, mr11 H, mr12 H, mr13 H, mr14 H, mr15 H, mr16 H, mr17 H, mr18 H, mr19 H, mr20 H, mr25 H, Option.bind_some, am_up_nk (show (9 : Nat) ≠ 0 by decide), hmn]
theorem L_reserve (R : RR b sh hi hr Tb) : ∃ r hi1 hi2, f_Rm_reserve b (z, sh, hi, hr) = some (r, (z, sh, hi1, hr)) ∧ f_Mo_reserve (b + 29) (z, sh, hi1, hr) = some (r, (z, sh, hi2, hr)) ∧ RR b sh hi2 hr Tb := by
  have R0 := R
  obtain ⟨P, Q, tg, G, D, h, n, ⟨md, T, E, R, e, s, v⟩, len, H, HM, ho, hC, hM, hA, hT, hx⟩ := R
  have aT : T < 500000 := hA.2.2.1
  refine ⟨iI (ndF G D T h), hi, am_up hi (b + 29) 0 0, ?_, ?_, RR_q R0 q0 qe⟩
  · simp only [f_Rm_reserve, kg0 H, kp0 H, ko0 H, kg1 H, kp1 H, ko1 H, kg2 H, kp2 H, ko2 H, kg3 H, kp3 H, ko3 H, kg4 H, kp4 H, ko4 H, kr0_0 H, kr0_1 H, kr0_2 H, kr0_3 H, kr1_0 H, kr3_0 H, kr4_5 H, kr4_6 H, kr7_0 H, kr0_4 H, kr0_5 H, kal H, Option.bind_some, hC.2.2.2.1, e_needBehind H hC.2.2.2.2.2.2.2.2.1 (show T < 1000000 by omega)]
  · exact m_reserve HM hA.2.2.2.2.2.2.1 hM.2.2.2.2.2.2.2.1 (by omega) hM.2.2.2.1
theorem L_level (R : RR b sh hi hr Tb) (p : Int32) : ∃ k bm z1 hi1 hi2, f_La_level b p (b + 46) (z, sh, hi, hr) = some (k, (z1, sh, hi1, hr)) ∧ f_Mo_level (b + 29) p (z1, sh, hi1, hr) = some (bm, (z1, sh, hi2, hr)) ∧ hi2 (b + 29) 0 = k ∧ (k = 0 → hi2 (b + 46) 0 = bm) ∧ RR b sh hi2 hr Tb := by
  have R0 := R
  obtain ⟨P, Q, tg, G, D, h, n, ⟨md, T, E, R, e, s, v⟩, len, H, HM, ho, hC, hM, hA, hT, hx⟩ := R
  have hP := k_P H
  have an : n ≤ 8 := hA.2.2.2.2.2.2.2.1
  have hcn : hi P 1 = nI n := hC.2.2.2.2.2.2.2.2.2.1
  have hmn : hi (b + 29) 9 = nI n := hM.2.2.2.2.2.2.2.2.1
  have he : hi (b + 4) 0 = iI e := hC.2.2.2.2.1
  have hs : hi (b + 4) 1 = iI s := hC.2.2.2.2.2.1
  have yes : ∀ y : Int32, (am_up (am_up hi (b + 46) 0 y) (b + 29) 0 0) (b + 29) 0 = 0 ∧ ((0 : Int32) = 0 → (am_up (am_up hi (b + 46) 0 y) (b + 29) 0 0) (b + 46) 0 = y) ∧ RR b sh (am_up (am_up hi (b + 46) 0 y) (b + 29) 0 0) hr Tb := fun y => ⟨am_up_eq _ _ _ _, fun _ => by rw [am_up_na (by omega), am_up_eq], RR_q R0 (fun k hk => by rw [am_up_nk hk, am_up_na (by omega)]) (fun q h1 h2 _ _ => by funext j; rw [am_up_na h1, am_up_na h2])⟩
  by_cases c0 : p = 0
  · subst c0
    refine ⟨0, iI e, z, am_up hi (b + 46) 0 (iI e), am_up (am_up hi (b + 46) 0 (iI e)) (b + 29) 0 0, ?_, ?_, yes _⟩
    · simp only [f_La_level, f_Rm_level, kg0 H, kp0 H, ko0 H, kg1 H, kp1 H, ko1 H, kg2 H, kp2 H, ko2 H, kg3 H, kp3 H, ko3 H, kg4 H, kp4 H, ko4 H, kr0_0 H, kr0_1 H, kr0_2 H, kr0_3 H, kr1_0 H, kr3_0 H, kr4_5 H, kr4_6 H, kr7_0 H, kr0_4 H, kr0_5 H, kal H, if_true, Option.bind_some, he, lp_out ho]
    · have H := HM
      have hm : (am_up hi (b + 46) 0 (iI e)) (b + 29) 23 = iI e := by rw [am_up_na (by omega)]; exact hM.2.2.2.2.1
      simp only [f_Mo_level, s_Mo_level_15, mg H, mp H, mo H, mr1 H, mr6 H, mr7 H, mr8 H, mr10 H, mr11 H, mr12 H, mr13 H, mr14 H, mr15 H, mr16 H, mr17 H, mr18 H, mr19 H, mr20 H, mr25 H, if_neg (show ¬ (0 : Int32) < 0 by decide), if_pos (show (0 : Int32) ≤ 2 by decide), rf0 HM, Option.bind_some, if_true, am_up_nk (show (23 : Nat) ≠ 0 by decide), hm, hM.2.2.2.2.1]
  · by_cases c1 : p = 1
    · subst c1
      refine ⟨0, iI s, z, am_up hi (b + 46) 0 (iI s), am_up (am_up hi (b + 46) 0 (iI s)) (b + 29) 0 0, ?_, ?_, yes _⟩
      · simp only [f_La_level, f_Rm_level, kg0 H, kp0 H, ko0 H, kg1 H, kp1 H, ko1 H, kg2 H, kp2 H, ko2 H, kg3 H, kp3 H, ko3 H, kg4 H, kp4 H, ko4 H, kr0_0 H, kr0_1 H, kr0_2 H, kr0_3 H, kr1_0 H, kr3_0 H, kr4_5 H, kr4_6 H, kr7_0 H, kr0_4 H, kr0_5 H, kal H, if_neg c0, if_true, Option.bind_some, hs, lp_out ho]
      · have H := HM
        have hm : (am_up hi (b + 46) 0 (iI s)) (b + 29) 24 = iI s := by rw [am_up_na (by omega)]; exact hM.2.2.2.2.2.1
        simp only [f_Mo_level, s_Mo_level_15, mg H, mp H, mo H, mr1 H, mr6 H, mr7 H, mr8 H, mr10 H, mr11 H, mr12 H, mr13 H, mr14 H, mr15 H, mr16 H, mr17 H, mr18 H, mr19 H, mr20 H, mr25 H, if_neg (show ¬ (1 : Int32) < 0 by decide), if_pos (show (1 : Int32) ≤ 2 by decide), if_neg c0, rf0 HM, Option.bind_some, if_true, am_up_nk (show (24 : Nat) ≠ 0 by decide), hm, hM.2.2.2.2.2.1]
    · by_cases c2 : p = 2
      · subst c2
        have hv : vM hi (b + 29) = v := hM.2.2.2.2.2.2.2.2.2
        refine ⟨0, foldN (sumR v 4) 0 0 n, z, am_up hi (b + 46) 0 (foldN (sumR v 4) 0 0 n), am_up (am_up hi (b + 46) 0 (foldN (sumR v 4) 0 0 n)) (b + 29) 0 0, ?_, ?_, yes _⟩
        · simp only [f_La_level, f_Rm_level, kg0 H, kp0 H, ko0 H, kg1 H, kp1 H, ko1 H, kg2 H, kp2 H, ko2 H, kg3 H, kp3 H, ko3 H, kg4 H, kp4 H, ko4 H, kr0_0 H, kr0_1 H, kr0_2 H, kr0_3 H, kr1_0 H, kr3_0 H, kr4_5 H, kr4_6 H, kr7_0 H, kr0_4 H, kr0_5 H, kal H, po hP, if_neg c0, if_neg c1, if_true, Option.bind_some, e_runningHeat hP an hcn, sumR_cg hC.2.2.2.2.2.2.2.2.2.2 (show 4 < 19 by omega), lp_out ho]
        · have H := HM
          have hv2 : vM (am_up (am_up hi (b + 46) 0 (foldN (sumR v 4) 0 0 n)) (b + 29) 0 0) (b + 29) = v := by
            rw [vM_M, vM_eq (hi := hi) (fun q h1 h2 => by funext j; rw [am_up_na (by omega)]), hv]
          have hh := m_heatNow (z := z) (hi := am_up (am_up hi (b + 46) 0 (foldN (sumR v 4) 0 0 n)) (b + 29) 0 0) HM an (by rw [am_up_nk (by decide), am_up_na (by omega)]; exact hmn)
          rw [hv2] at hh
          simp only [f_Mo_level, s_Mo_level_15, mg H, mp H, mo H, mr1 H, mr6 H, mr7 H, mr8 H, mr10 H, mr11 H, mr12 H, mr13 H, mr14 H, mr15 H, mr16 H, mr17 H, mr18 H, mr19 H, mr20 H, mr25 H, if_neg (show ¬ (2 : Int32) < 0 by decide), if_pos (show (2 : Int32) ≤ 2 by decide), if_neg c0, if_neg c1, rf0 HM, Option.bind_some, if_true, hh]
      · refine ⟨1, 0, z + 1, hi, am_up hi (b + 29) 0 1, ?_, ?_, am_up_eq _ _ _ _, fun hh => absurd hh (by decide), RR_q R0 q0 qe⟩
        · simp only [f_La_level, f_Rm_level, kg0 H, kp0 H, ko0 H, kg1 H, kp1 H, ko1 H, kg2 H, kp2 H, ko2 H, kg3 H, kp3 H, ko3 H, kg4 H, kp4 H, ko4 H, kr0_0 H, kr0_1 H, kr0_2 H, kr0_3 H, kr1_0 H, kr3_0 H, kr4_5 H, kr4_6 H, kr7_0 H, kr0_4 H, kr0_5 H, kal H, if_neg c0, if_neg c1, if_neg c2, Option.bind_some, am_th]
          rfl
        · have H := HM
          by_cases d1 : p < 0
          · simp only [f_Mo_level, s_Mo_level_10, s_Mo_level_15, mg H, mp H, mo H, mr1 H, mr6 H, mr7 H, mr8 H, mr10 H, mr11 H, mr12 H, mr13 H, mr14 H, mr15 H, mr16 H, mr17 H, mr18 H, mr19 H, mr20 H, mr25 H, if_pos d1, rf1 HM, Option.bind_some, i0_1, if_false]
          · have d2 : ¬ p ≤ 2 := by
              intro d2
              obtain ⟨k, hk, rfl⟩ : ∃ k : Nat, k ≤ 2 ∧ p = nI k := nI_of2 (M := 2) (n := 2) rfl d1 d2
              have : k = 0 ∨ k = 1 ∨ k = 2 := by omega
              rcases this with rfl | rfl | rfl
              · exact c0 rfl
              · exact c1 rfl
              · exact c2 rfl
            simp only [f_Mo_level, s_Mo_level_10, s_Mo_level_15, mg H, mp H, mo H, mr1 H, mr6 H, mr7 H, mr8 H, mr10 H, mr11 H, mr12 H, mr13 H, mr14 H, mr15 H, mr16 H, mr17 H, mr18 H, mr19 H, mr20 H, mr25 H, if_neg d1, if_neg d2, rf1 HM, Option.bind_some, i0_1, if_false]
theorem L_activity (R : RR b sh hi hr Tb) (p q : Int32) : ∃ k bm z1 hi1 hi2, f_La_activity b p q (b + 46) (z, sh, hi, hr) = some (k, (z1, sh, hi1, hr)) ∧ f_Mo_activity (b + 29) p q (z1, sh, hi1, hr) = some (bm, (z1, sh, hi2, hr)) ∧ hi2 (b + 29) 0 = k ∧ (k = 0 → hi2 (b + 46) 0 = bm) ∧ RR b sh hi2 hr Tb := by
  have R0 := R
  obtain ⟨P, Q, tg, G, D, h, n, ⟨md, T, E, R, e, s, v⟩, len, H, HM, ho, hC, hM, hA, hT, hx⟩ := R
  have hP := k_P H
  have an : n ≤ 8 := hA.2.2.2.2.2.2.2.1
  have hcn : hi P 1 = nI n := hC.2.2.2.2.2.2.2.2.2.1
  have hmn : hi (b + 29) 9 = nI n := hM.2.2.2.2.2.2.2.2.1
  have hag : agrV n (vC hi P) v := hC.2.2.2.2.2.2.2.2.2.2
  have hv : vM hi (b + 29) = v := hM.2.2.2.2.2.2.2.2.2
  have yes : ∀ y : Int32, (am_up (am_up hi (b + 46) 0 y) (b + 29) 0 0) (b + 29) 0 = 0 ∧ ((0 : Int32) = 0 → (am_up (am_up hi (b + 46) 0 y) (b + 29) 0 0) (b + 46) 0 = y) ∧ RR b sh (am_up (am_up hi (b + 46) 0 y) (b + 29) 0 0) hr Tb := fun y => ⟨am_up_eq _ _ _ _, fun _ => by rw [am_up_na (by omega), am_up_eq], RR_q R0 (fun k hk => by rw [am_up_nk hk, am_up_na (by omega)]) (fun q h1 h2 _ _ => by funext j; rw [am_up_na h1, am_up_na h2])⟩
  rcases has_cases p an with hh | ⟨hh, i, hi8, rfl⟩
  · refine ⟨1, 0, z + 1, hi, am_up hi (b + 29) 0 1, ?_, ?_, am_up_eq _ _ _ _, fun hh => absurd hh (by decide), RR_q R0 q0 qe⟩
    · simp only [f_La_activity, f_Rm_activity, kg0 H, kp0 H, ko0 H, kg1 H, kp1 H, ko1 H, kg2 H, kp2 H, ko2 H, kg3 H, kp3 H, ko3 H, kg4 H, kp4 H, ko4 H, kr0_0 H, kr0_1 H, kr0_2 H, kr0_3 H, kr1_0 H, kr3_0 H, kr4_5 H, kr4_6 H, kr7_0 H, kr0_4 H, kr0_5 H, kal H, po hP, e_has hP, Option.bind_some, hcn, hh, b1_0, if_true, am_th]
      rfl
    · have H := HM
      simp only [f_Mo_activity, s_Mo_activity_18, s_Mo_activity_23, mg H, mp H, mo H, mr1 H, mr6 H, mr7 H, mr8 H, mr10 H, mr11 H, mr12 H, mr13 H, mr14 H, mr15 H, mr16 H, mr17 H, mr18 H, mr19 H, mr20 H, mr25 H, m_isActivity HM, Option.bind_some, hmn, hh, b1_0, if_true, rf1 HM, i0_1, if_false]
  · have i8 : i < 8 := by omega
    have mm : ∀ y q k, b + 29 < q → q ≤ b + 45 → (am_up (am_up hi (b + 46) 0 y) (b + 29) 0 0) q k = hi q k := fun y q k h1 h2 => by rw [am_up_na (by omega), am_up_na (by omega)]
    have m9 : ∀ y, (am_up hi (b + 46) 0 y) (b + 29) 9 = nI n := fun y => by rw [am_up_na (by omega)]; exact hmn
    have sl : ∀ k, k < 15 → hi (P + 2 + i) k = v i k := fun k hk => agr_sk hag hi8 hk
    have sm : ∀ k, 9 ≤ k → k < 19 → hi (b + 29 + k - 3) i = v i k := fun k h1 h2 => by rw [← hv]; exact (vM_ge h1 h2).symm
    have go : ∀ (k : Nat), k = 10 ∨ k = 11 ∨ k = 12 ∨ k = 13 ∨ k = 14 ∨ k = 9 → f_La_activity b (nI i) q (b + 46) (z, sh, hi, hr) = some (0, (z, sh, am_up hi (b + 46) 0 (v i k), hr)) → f_Mo_activity (b + 29) (nI i) q (z, sh, am_up hi (b + 46) 0 (v i k), hr) = some (v i k, (z, sh, am_up (am_up hi (b + 46) 0 (v i k)) (b + 29) 0 0, hr)) → ∃ k bm z1 hi1 hi2, f_La_activity b (nI i) q (b + 46) (z, sh, hi, hr) = some (k, (z1, sh, hi1, hr)) ∧ f_Mo_activity (b + 29) (nI i) q (z1, sh, hi1, hr) = some (bm, (z1, sh, hi2, hr)) ∧ hi2 (b + 29) 0 = k ∧ (k = 0 → hi2 (b + 46) 0 = bm) ∧ RR b sh hi2 hr Tb := fun k _ e1 e2 => ⟨0, v i k, z, _, _, e1, e2, yes _⟩
    have cls : f_La_activity b (nI i) q (b + 46) (z, sh, hi, hr) = (if q = 0 then some (0, (z, sh, am_up hi (b + 46) 0 (v i 10), hr)) else if q = 1 then some (0, (z, sh, am_up hi (b + 46) 0 (v i 11), hr)) else if q = 2 then some (0, (z, sh, am_up hi (b + 46) 0 (v i 12), hr)) else if q = 3 then some (0, (z, sh, am_up hi (b + 46) 0 (v i 13), hr)) else if q = 4 then some (0, (z, sh, am_up hi (b + 46) 0 (v i 14), hr)) else if q = 5 then some (0, (z, sh, am_up hi (b + 46) 0 (v i 9), hr)) else some (1, (z + 1, sh, hi, hr))) := by
      simp only [f_La_activity, f_Rm_activity, kg0 H, kp0 H, ko0 H, kg1 H, kp1 H, ko1 H, kg2 H, kp2 H, ko2 H, kg3 H, kp3 H, ko3 H, kg4 H, kp4 H, ko4 H, kr0_0 H, kr0_1 H, kr0_2 H, kr0_3 H, kr1_0 H, kr3_0 H, kr4_5 H, kr4_6 H, kr7_0 H, kr0_4 H, kr0_5 H, kal H, po hP, pr hP, pa hP i8, ag hP i8, e_has hP, Option.bind_some, hcn, hh, b1_0, Bool.true_eq_false, if_false, sl _ (show 10 < 15 by omega), sl _ (show 11 < 15 by omega), sl _ (show 12 < 15 by omega), sl _ (show 13 < 15 by omega), sl _ (show 14 < 15 by omega), sl _ (show 9 < 15 by omega), am_th]
      by_cases d0 : q = 0
      · simp only [if_pos d0, Option.bind_some, if_true, lp_out ho]
      · by_cases d1 : q = 1
        · simp only [if_neg d0, if_pos d1, Option.bind_some, if_true, lp_out ho]
        · by_cases d2 : q = 2
          · simp only [if_neg d0, if_neg d1, if_pos d2, Option.bind_some, if_true, lp_out ho]
          · by_cases d3 : q = 3
            · simp only [if_neg d0, if_neg d1, if_neg d2, if_pos d3, Option.bind_some, if_true, lp_out ho]
            · by_cases d4 : q = 4
              · simp only [if_neg d0, if_neg d1, if_neg d2, if_neg d3, if_pos d4, Option.bind_some, if_true, lp_out ho]
              · by_cases d5 : q = 5
                · simp only [if_neg d0, if_neg d1, if_neg d2, if_neg d3, if_neg d4, if_pos d5, Option.bind_some, if_true, lp_out ho]
                · simp only [if_neg d0, if_neg d1, if_neg d2, if_neg d3, if_neg d4, if_neg d5, Option.bind_some]
                  rfl
    have mod : ∀ y, ¬ q < 0 → q ≤ 5 → f_Mo_activity (b + 29) (nI i) q (z, sh, am_up hi (b + 46) 0 y, hr) = (if q = 0 then some (v i 10, (z, sh, am_up (am_up hi (b + 46) 0 y) (b + 29) 0 0, hr)) else if q = 1 then some (v i 11, (z, sh, am_up (am_up hi (b + 46) 0 y) (b + 29) 0 0, hr)) else if q = 2 then some (v i 12, (z, sh, am_up (am_up hi (b + 46) 0 y) (b + 29) 0 0, hr)) else if q = 3 then some (v i 13, (z, sh, am_up (am_up hi (b + 46) 0 y) (b + 29) 0 0, hr)) else if q = 4 then some (v i 14, (z, sh, am_up (am_up hi (b + 46) 0 y) (b + 29) 0 0, hr)) else some (v i 9, (z, sh, am_up (am_up hi (b + 46) 0 y) (b + 29) 0 0, hr))) := by
      intro y n0 n5
      have H := HM
      simp only [f_Mo_activity, s_Mo_activity_23, mg H, mp H, mo H, mr1 H, mr6 H, mr7 H, mr8 H, mr10 H, mr11 H, mr12 H, mr13 H, mr14 H, mr15 H, mr16 H, mr17 H, mr18 H, mr19 H, mr20 H, mr25 H, m_isActivity HM, Option.bind_some, m9, hh, b1_0, Bool.true_eq_false, if_false, if_neg n0, if_pos n5, rf0 HM, if_true, mi6 HM i8, mi7 HM i8, mi8 HM i8, mi9 HM i8, mi10 HM i8, mi11 HM i8, mm _ (b + 29 + 6) i (by omega) (by omega), mm _ (b + 29 + 7) i (by omega) (by omega), mm _ (b + 29 + 8) i (by omega) (by omega), mm _ (b + 29 + 9) i (by omega) (by omega), mm _ (b + 29 + 10) i (by omega) (by omega), mm _ (b + 29 + 11) i (by omega) (by omega), show hi (b + 29 + 6) i = v i 9 from sm 9 (by omega) (by omega), show hi (b + 29 + 7) i = v i 10 from sm 10 (by omega) (by omega), show hi (b + 29 + 8) i = v i 11 from sm 11 (by omega) (by omega), show hi (b + 29 + 9) i = v i 12 from sm 12 (by omega) (by omega), show hi (b + 29 + 10) i = v i 13 from sm 13 (by omega) (by omega), show hi (b + 29 + 11) i = v i 14 from sm 14 (by omega) (by omega)]
    by_cases d0 : q = 0
    · exact go 10 (by omega) (by rw [cls, if_pos d0]) (by rw [mod _ (by rw [d0]; decide) (by rw [d0]; decide), if_pos d0])
    · by_cases d1 : q = 1
      · exact go 11 (by omega) (by rw [cls, if_neg d0, if_pos d1]) (by rw [mod _ (by rw [d1]; decide) (by rw [d1]; decide), if_neg d0, if_pos d1])
      · by_cases d2 : q = 2
        · exact go 12 (by omega) (by rw [cls, if_neg d0, if_neg d1, if_pos d2]) (by rw [mod _ (by rw [d2]; decide) (by rw [d2]; decide), if_neg d0, if_neg d1, if_pos d2])
        · by_cases d3 : q = 3
          · exact go 13 (by omega) (by rw [cls, if_neg d0, if_neg d1, if_neg d2, if_pos d3]) (by rw [mod _ (by rw [d3]; decide) (by rw [d3]; decide), if_neg d0, if_neg d1, if_neg d2, if_pos d3])
          · by_cases d4 : q = 4
            · exact go 14 (by omega) (by rw [cls, if_neg d0, if_neg d1, if_neg d2, if_neg d3, if_pos d4]) (by rw [mod _ (by rw [d4]; decide) (by rw [d4]; decide), if_neg d0, if_neg d1, if_neg d2, if_neg d3, if_pos d4])
            · by_cases d5 : q = 5
              · exact go 9 (by omega) (by rw [cls, if_neg d0, if_neg d1, if_neg d2, if_neg d3, if_neg d4, if_pos d5]) (by rw [mod _ (by rw [d5]; decide) (by rw [d5]; decide), if_neg d0, if_neg d1, if_neg d2, if_neg d3, if_neg d4])
              · refine ⟨1, 0, z + 1, hi, am_up hi (b + 29) 0 1, ?_, ?_, am_up_eq _ _ _ _, fun hh => absurd hh (by decide), RR_q R0 q0 qe⟩
                · rw [cls, if_neg d0, if_neg d1, if_neg d2, if_neg d3, if_neg d4, if_neg d5]
                · have H := HM
                  by_cases g1 : q < 0
                  · simp only [f_Mo_activity, s_Mo_activity_18, s_Mo_activity_23, mg H, mp H, mo H, mr1 H, mr6 H, mr7 H, mr8 H, mr10 H, mr11 H, mr12 H, mr13 H, mr14 H, mr15 H, mr16 H, mr17 H, mr18 H, mr19 H, mr20 H, mr25 H, m_isActivity HM, Option.bind_some, hmn, hh, b1_0, Bool.true_eq_false, if_false, if_pos g1, rf1 HM, i0_1]
                  · have g2 : ¬ q ≤ 5 := by
                      intro g2
                      obtain ⟨k, hk, rfl⟩ : ∃ k : Nat, k ≤ 5 ∧ q = nI k := nI_of2 (M := 5) (n := 5) rfl g1 g2
                      have : k = 0 ∨ k = 1 ∨ k = 2 ∨ k = 3 ∨ k = 4 ∨ k = 5 := by omega
                      rcases this with rfl | rfl | rfl | rfl | rfl | rfl
                      · exact d0 rfl
                      · exact d1 rfl
                      · exact d2 rfl
                      · exact d3 rfl
                      · exact d4 rfl
                      · exact d5 rfl
                    simp only [f_Mo_activity, s_Mo_activity_18, s_Mo_activity_23, mg H, mp H, mo H, mr1 H, mr6 H, mr7 H, mr8 H, mr10 H, mr11 H, mr12 H, mr13 H, mr14 H, mr15 H, mr16 H, mr17 H, mr18 H, mr19 H, mr20 H, mr25 H, m_isActivity HM, Option.bind_some, hmn, hh, b1_0, Bool.true_eq_false, if_false, if_neg g1, if_neg g2, rf1 HM, i0_1]
theorem L_lowest (R : RR b sh hi hr Tb) : ∃ r hi1 hi2, f_Rm_lowest b (z, sh, hi, hr) = some (r, (z, sh, hi1, hr)) ∧ f_Mo_lowest (b + 29) (z, sh, hi1, hr) = some (r, (z, sh, hi2, hr)) ∧ RR b sh hi2 hr Tb := by
  have R0 := R
  obtain ⟨P, Q, tg, G, D, h, n, ⟨md, T, E, R, e, s, v⟩, len, H, HM, ho, hC, hM, hA, hT, hx⟩ := R
  obtain ⟨a1, a2, aT, ae, as, at', aB, an, aI⟩ := hA
  simp only [] at *
  have hcn : hi P 1 = nI n := hC.2.2.2.2.2.2.2.2.2.1
  have hag : agrV n (vC hi P) v := hC.2.2.2.2.2.2.2.2.2.2
  have hE : okEnv v (-1) n := inv_env aI (fun i hi he => absurd he (none_x (by omega)))
  obtain ⟨x, L, ex, hV⟩ := e_gather (z := z) (X := -1) H an hcn (env_cg hag hE)
  have c1 := CR_fr H hC.2.2.2 hV.1
  have ed := e_deepest (z := z) H an hV (drk_cg hag (inv_dr aI)) aB c1.2.2.2.2.1 c1.2.1 ae (show T < 900000 by omega)
  rw [low_cg hag] at ed
  have M1 : MX (b + 29) x tg G D h n (md, T, E, R, e, s, v) := MX_eq hM (fun k _ => by rw [hV.1 _ (by omega) (by omega)]) (fun q h1 h2 => hV.1 _ (by omega) (by omega))
  have hv : vM x (b + 29) = v := M1.2.2.2.2.2.2.2.2.2
  refine ⟨iI (lowB G T e v (-1) n), x, am_up x (b + 29) 0 0, ?_, ?_, RR_q R0 (fun k hk => by rw [am_up_nk hk, hV.1 _ (by omega) (by omega)]) (fun q h1 h2 h3 h4 => by funext j; rw [am_up_na h1, hV.1 q h3 h4])⟩
  · simp only [f_Rm_lowest, kg0 H, kp0 H, ko0 H, kg1 H, kp1 H, ko1 H, kg2 H, kp2 H, ko2 H, kg3 H, kp3 H, ko3 H, kg4 H, kp4 H, ko4 H, kr0_0 H, kr0_1 H, kr0_2 H, kr0_3 H, kr1_0 H, kr3_0 H, kr4_5 H, kr4_6 H, kr7_0 H, kr0_4 H, kr0_5 H, kal H, Option.bind_some, ex, c1.1, ed]
  · have := m_lowest (z := z) HM an M1.2.2.2.2.2.2.2.2.1 (by rw [hv]; exact hE) (by rw [hv]; exact inv_dr aI) aB M1.2.2.2.2.2.2.2.1 M1.2.2.2.2.1 M1.2.2.2.1 ae (by show T < 800000; omega)
    rw [hv] at this
    exact this
theorem L_could (R : RR b sh hi hr Tb) (p : Int32) : ∃ k bm z1 hi1 hi2, f_La_could b p (b + 46) (z, sh, hi, hr) = some (k, (z1, sh, hi1, hr)) ∧ f_Mo_could (b + 29) p (z1, sh, hi1, hr) = some (bm, (z1, sh, hi2, hr)) ∧ hi2 (b + 29) 0 = k ∧ (k = 0 → hi2 (b + 46) 0 = bm ∧ (bm = 0 ∨ bm = 1)) ∧ RR b sh hi2 hr Tb := by
  have R0 := R
  obtain ⟨P, Q, tg, G, D, h, n, ⟨md, T, E, R, e, s, v⟩, len, H, HM, ho, hC, hM, hA, hT, hx⟩ := R
  have hP := k_P H
  have an : n ≤ 8 := hA.2.2.2.2.2.2.2.1
  have hcn : hi P 1 = nI n := hC.2.2.2.2.2.2.2.2.2.1
  have hmn : hi (b + 29) 9 = nI n := hM.2.2.2.2.2.2.2.2.1
  rcases has_cases p an with hh | ⟨hh, i, hi8, rfl⟩
  · refine ⟨1, 0, z + 1, hi, am_up hi (b + 29) 0 1, ?_, ?_, am_up_eq _ _ _ _, fun hh => absurd hh (by decide), RR_q R0 q0 qe⟩
    · simp only [f_La_could, f_Rm_could, kg0 H, kp0 H, ko0 H, kg1 H, kp1 H, ko1 H, kg2 H, kp2 H, ko2 H, kg3 H, kp3 H, ko3 H, kg4 H, kp4 H, ko4 H, kr0_0 H, kr0_1 H, kr0_2 H, kr0_3 H, kr1_0 H, kr3_0 H, kr4_5 H, kr4_6 H, kr7_0 H, kr0_4 H, kr0_5 H, kal H, po hP, e_has hP, Option.bind_some, hcn, hh, b1_0, if_true, am_th]
      rfl
    · have H := HM
      simp only [f_Mo_could, s_Mo_could_14, mg H, mp H, mo H, mr1 H, mr6 H, mr7 H, mr8 H, mr10 H, mr11 H, mr12 H, mr13 H, mr14 H, mr15 H, mr16 H, mr17 H, mr18 H, mr19 H, mr20 H, mr25 H, m_isActivity HM, Option.bind_some, hmn, hh, b1_0, if_true, rf1 HM, i0_1, if_false]
  · by_cases h1 : md = 1
    · obtain ⟨x, ex, fx⟩ := e_mayStart (z := z) H hA.2.2 hC.2.2.2 hi8
      have M1 : MX (b + 29) (am_up (am_up x (b + 46) 0 (b1 (mayB T e s G D h n v i))) (b + 29) 0 0) tg G D h n (md, T, E, R, e, s, v) := MX_0 (MX_eq hM (fun k _ => by rw [am_up_na (by omega), fx _ (by omega) (by omega)]) (fun q h1 h2 => by funext j; rw [am_up_na (by omega), fx _ (by omega) (by omega)]))
      have em := m_mayStart (z := z) HM hA.2.2 M1.2.2.2 hi8
      refine ⟨0, b1 (mayB T e s G D h n v i), z, am_up x (b + 46) 0 (b1 (mayB T e s G D h n v i)), am_up (am_up x (b + 46) 0 (b1 (mayB T e s G D h n v i))) (b + 29) 0 0, ?_, ?_, am_up_eq _ _ _ _, fun _ => ⟨by rw [am_up_na (by omega), am_up_eq], by cases mayB T e s G D h n v i <;> simp [b1]⟩, RR_q R0 (fun k hk => by rw [am_up_nk hk, am_up_na (by omega), fx _ (by omega) (by omega)]) (fun q h1 h2 h3 h4 => by funext j; rw [am_up_na h1, am_up_na h2, fx q h3 h4])⟩
      · simp only [f_La_could, f_Rm_could, kg0 H, kp0 H, ko0 H, kg1 H, kp1 H, ko1 H, kg2 H, kp2 H, ko2 H, kg3 H, kp3 H, ko3 H, kg4 H, kp4 H, ko4 H, kr0_0 H, kr0_1 H, kr0_2 H, kr0_3 H, kr1_0 H, kr3_0 H, kr4_5 H, kr4_6 H, kr7_0 H, kr0_4 H, kr0_5 H, kal H, po hP, e_has hP, Option.bind_some, hcn, hh, b1_0, Bool.true_eq_false, if_false, hC.1, h1, if_true, ex]
        cases mayB T e s G D h n v i <;> simp [b1, lp_out ho]
      · have H := HM
        have m9 : (am_up x (b + 46) 0 (b1 (mayB T e s G D h n v i))) (b + 29) 9 = nI n := by rw [am_up_na (by omega), fx _ (by omega) (by omega)]; exact hmn
        have m22 := M1.1
        simp only [h1] at m22
        simp only [f_Mo_could, s_Mo_could_14, mg H, mp H, mo H, mr1 H, mr6 H, mr7 H, mr8 H, mr10 H, mr11 H, mr12 H, mr13 H, mr14 H, mr15 H, mr16 H, mr17 H, mr18 H, mr19 H, mr20 H, mr25 H, m_isActivity HM, Option.bind_some, m9, hh, b1_0, Bool.true_eq_false, if_false, rf0 HM, if_true, m22, em]
        cases mayB T e s G D h n v i <;> simp [b1]
    · refine ⟨0, 0, z, am_up hi (b + 46) 0 0, am_up (am_up hi (b + 46) 0 0) (b + 29) 0 0, ?_, ?_, am_up_eq _ _ _ _, fun _ => ⟨by rw [am_up_na (by omega), am_up_eq], Or.inl rfl⟩, RR_q R0 (fun k hk => by rw [am_up_nk hk, am_up_na (by omega)]) (fun q h1 h2 _ _ => by funext j; rw [am_up_na h1, am_up_na h2])⟩
      · simp only [f_La_could, f_Rm_could, kg0 H, kp0 H, ko0 H, kg1 H, kp1 H, ko1 H, kg2 H, kp2 H, ko2 H, kg3 H, kp3 H, ko3 H, kg4 H, kp4 H, ko4 H, kr0_0 H, kr0_1 H, kr0_2 H, kr0_3 H, kr1_0 H, kr3_0 H, kr4_5 H, kr4_6 H, kr7_0 H, kr0_4 H, kr0_5 H, kal H, po hP, e_has hP, Option.bind_some, hcn, hh, b1_0, Bool.true_eq_false, if_false, hC.1, if_neg h1, if_true, lp_out ho]
      · have H := HM
        have m9 : (am_up hi (b + 46) 0 0) (b + 29) 9 = nI n := by rw [am_up_na (by omega)]; exact hmn
        have m22 : (am_up (am_up hi (b + 46) 0 0) (b + 29) 0 0) (b + 29) 22 = md := by rw [am_up_nk (by decide), am_up_na (by omega)]; exact hM.1
        simp only [f_Mo_could, s_Mo_could_14, mg H, mp H, mo H, mr1 H, mr6 H, mr7 H, mr8 H, mr10 H, mr11 H, mr12 H, mr13 H, mr14 H, mr15 H, mr16 H, mr17 H, mr18 H, mr19 H, mr20 H, mr25 H, m_isActivity HM, Option.bind_some, m9, hh, b1_0, Bool.true_eq_false, if_false, rf0 HM, if_true, m22, if_neg h1]
end FASK
