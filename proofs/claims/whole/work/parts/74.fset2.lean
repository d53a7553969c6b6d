-- needs 56 57 58 59 60 61 62 63 64 65 66 67 68 69 70 71 72 73
/-! curve, gain, home, fill -/
section FSET2
variable {b P Q M z n : Nat} {sh : am_S} {hi x : am_I} {hr : am_R} {G G' : Nat → Int} {D D' : Int} {h h' : Nat} {tg tg' : Int} {Tb T E R : Nat} {e s e' s' : Int} {v : Nat → Nat → Int32} {md : Int32}
theorem CX_sup (H : Cst b P Q sh hr) (hX : CX b P hi tg G D h n (md, T, E, R, e, s, v)) (hn : n ≤ 8) (he : ∀ q, b ≤ q → q < b + 29 → q ≠ b + 4 → q ≠ b + 5 → q ≠ b + 6 → x q = hi q) (h0 : x (b + 4) 0 = iI e') (h1 : x (b + 4) 1 = iI s') (h2 : x (b + 4) 2 = iI tg') (hS : SupC b x G' D' h') (hN : SupN b x G' D' h') : CX b P x tg' G' D' h' n (md, T, E, R, e', s', v) := by
  obtain ⟨c1, c2, c3, r1, r2, r3, r4, r5, r6, r7, r8⟩ := hX
  have p2 := k_P2 H
  have eb : x b = hi b := he b (by omega) (by omega) (by omega) (by omega) (by omega)
  refine ⟨by rw [eb]; exact c1, by rw [eb]; exact c2, fun hh => by rw [eb]; exact c3 hh, by rw [eb]; exact r1, h0, h1, h2, hS, hN, by rw [he P (by omega) (by omega) (by omega) (by omega) (by omega)]; exact r7, ?_⟩
  intro i hi k hk h2
  unfold vC
  rw [he (P + 2 + i) (by omega) (by omega) (by omega) (by omega) (by omega)]
  exact r8 i hi k hk h2
theorem MX_sup (hX : MX M hi tg G D h n (md, T, E, R, e, s, v)) (hk : ∀ k, k ≠ 0 → k ≠ 23 → k ≠ 24 → k ≠ 26 → k ≠ 27 → k ≠ 28 → x M k = hi M k) (he : ∀ q, M < q → q < M + 16 → x q = hi q) (h0 : x M 23 = iI e') (h1 : x M 24 = iI s') (h2 : x M 26 = iI tg') (hS : SupM M x G' D' h') : MX M x tg' G' D' h' n (md, T, E, R, e', s', v) := by
  obtain ⟨c1, c2, c3, r1, r2, r3, r4, r5, r6, r7⟩ := hX
  have hv : vM x M = vM hi M := by
    funext i k
    unfold vM
    by_cases h : k < 9
    · rw [if_pos h, if_pos h, he (M + 5) (by omega) (by omega)]
    · rw [if_neg h, if_neg h]
      by_cases h2 : k < 19
      · rw [if_pos h2, if_pos h2, he (M + k - 3) (by omega) (by omega)]
      · rw [if_neg h2, if_neg h2]
  refine ⟨by rw [hk 22 (by decide) (by decide) (by decide) (by decide) (by decide) (by decide)]; exact c1, by rw [hk 30 (by decide) (by decide) (by decide) (by decide) (by decide) (by decide)]; exact c2, fun hh => by rw [hk 29 (by decide) (by decide) (by decide) (by decide) (by decide) (by decide)]; exact c3 hh, by rw [hk 21 (by decide) (by decide) (by decide) (by decide) (by decide) (by decide)]; exact r1, h0, h1, h2, hS, by rw [hk 9 (by decide) (by decide) (by decide) (by decide) (by decide) (by decide)]; exact r6, by rw [hv]; exact r7⟩
theorem L_curve (R : RR b sh hi hr Tb) (p q : Int32) : ∃ k bm z1 hi1 hi2, f_La_curve b p q (z, sh, hi, hr) = some (k, (z1, sh, hi1, hr)) ∧ f_Mo_curve (b + 29) p q (z1, sh, hi1, hr) = some (bm, (z1, sh, hi2, hr)) ∧ hi2 (b + 29) 0 = k ∧ RR b sh hi2 hr Tb := by
  have R0 := R
  obtain ⟨P, Q, tg, G, D, h, n, ⟨md, T, E, R, e, s, v⟩, len, H, HM, ho, hC, hM, hA, hT, hx⟩ := R
  have an : n ≤ 8 := hA.2.2.2.2.2.2.2.1
  have lt24 : p < 24 ↔ p ≤ 23 := by
    rw [Int32.lt_iff_toInt_lt, Int32.le_iff_toInt_le]
    have e1 : (24 : Int32).toInt = 24 := rfl
    have e2 : (23 : Int32).toInt = 23 := rfl
    omega
  have n1 : ¬ (0 ≤ p ∧ p ≤ 23) → ∃ k bm z1 hi1 hi2, f_La_curve b p q (z, sh, hi, hr) = some (k, (z1, sh, hi1, hr)) ∧ f_Mo_curve (b + 29) p q (z1, sh, hi1, hr) = some (bm, (z1, sh, hi2, hr)) ∧ hi2 (b + 29) 0 = k ∧ RR b sh hi2 hr Tb := by
    intro hp
    refine ⟨1, 0, z + 1, hi, am_up hi (b + 29) 0 1, ?_, ?_, am_up_eq _ _ _ _, RR_q R0 q0 qe⟩
    · by_cases h1 : p < 0
      · simp only [f_La_curve, f_Rm_curve, kg0 H, kp0 H, ko0 H, kg1 H, kp1 H, ko1 H, kg2 H, kp2 H, ko2 H, kg3 H, kp3 H, ko3 H, kg4 H, kp4 H, ko4 H, kr0_0 H, kr0_1 H, kr0_2 H, kr0_3 H, kr1_0 H, kr3_0 H, kr4_5 H, kr4_6 H, kr7_0 H, kr0_4 H, kr0_5 H, kal H, if_pos h1, Option.bind_some, am_th]
        rfl
      · have h2 : ¬ p < 24 := fun h2 => hp ⟨by rw [← Int32.not_lt]; exact h1, lt24.mp h2⟩
        simp only [f_La_curve, f_Rm_curve, kg0 H, kp0 H, ko0 H, kg1 H, kp1 H, ko1 H, kg2 H, kp2 H, ko2 H, kg3 H, kp3 H, ko3 H, kg4 H, kp4 H, ko4 H, kr0_0 H, kr0_1 H, kr0_2 H, kr0_3 H, kr1_0 H, kr3_0 H, kr4_5 H, kr4_6 H, kr7_0 H, kr0_4 H, kr0_5 H, kal H, if_neg h1, if_neg h2, Option.bind_some, am_th]
        rfl
    · have H := HM
      by_cases h1 : p < 0
      · simp only [f_Mo_curve, s_Mo_curve_11, s_Mo_curve_16, s_Mo_curve_26, s_Mo_curve_31, mg H, mp H, mo H, mr1 H, mr6 H, mr7 H, mr8 H, mr10 H, mr11 H, mr12 H, mr13 H, mr14 H, mr15 H, mr16 H, mr17 H, mr18 H, mr19 H, mr20 H, mr25 H, if_pos h1, rf1 HM, rf3 HM, Option.bind_some, i0_1, if_false]
        split
        · rfl
        · split <;> rfl
      · have h2 : ¬ p ≤ 23 := fun h2 => hp ⟨by rw [← Int32.not_lt]; exact h1, h2⟩
        simp only [f_Mo_curve, s_Mo_curve_11, s_Mo_curve_16, s_Mo_curve_26, s_Mo_curve_31, mg H, mp H, mo H, mr1 H, mr6 H, mr7 H, mr8 H, mr10 H, mr11 H, mr12 H, mr13 H, mr14 H, mr15 H, mr16 H, mr17 H, mr18 H, mr19 H, mr20 H, mr25 H, if_neg h1, if_neg h2, rf1 HM, rf3 HM, Option.bind_some, i0_1, if_false]
        split
        · rfl
        · split <;> rfl
  by_cases hp : 0 ≤ p ∧ p ≤ 23
  · have h1 : ¬ p < 0 := by rw [Int32.not_lt]; exact hp.1
    have h2 := lt24.mpr hp.2
    have n2 : ¬ (0 ≤ q ∧ q ≤ 50) → ∃ k bm z1 hi1 hi2, f_La_curve b p q (z, sh, hi, hr) = some (k, (z1, sh, hi1, hr)) ∧ f_Mo_curve (b + 29) p q (z1, sh, hi1, hr) = some (bm, (z1, sh, hi2, hr)) ∧ hi2 (b + 29) 0 = k ∧ RR b sh hi2 hr Tb := by
      intro hq
      refine ⟨2, 0, z + 1, hi, am_up hi (b + 29) 0 2, ?_, ?_, am_up_eq _ _ _ _, RR_q R0 q0 qe⟩
      · by_cases h3 : q < 0
        · simp only [f_La_curve, f_Rm_curve, kg0 H, kp0 H, ko0 H, kg1 H, kp1 H, ko1 H, kg2 H, kp2 H, ko2 H, kg3 H, kp3 H, ko3 H, kg4 H, kp4 H, ko4 H, kr0_0 H, kr0_1 H, kr0_2 H, kr0_3 H, kr1_0 H, kr3_0 H, kr4_5 H, kr4_6 H, kr7_0 H, kr0_4 H, kr0_5 H, kal H, if_neg h1, if_pos h2, if_pos h3, Option.bind_some, am_th]
          rfl
        · have h4 : ¬ q ≤ 50 := fun h2 => hq ⟨by rw [← Int32.not_lt]; exact h3, h2⟩
          simp only [f_La_curve, f_Rm_curve, kg0 H, kp0 H, ko0 H, kg1 H, kp1 H, ko1 H, kg2 H, kp2 H, ko2 H, kg3 H, kp3 H, ko3 H, kg4 H, kp4 H, ko4 H, kr0_0 H, kr0_1 H, kr0_2 H, kr0_3 H, kr1_0 H, kr3_0 H, kr4_5 H, kr4_6 H, kr7_0 H, kr0_4 H, kr0_5 H, kal H, if_neg h1, if_pos h2, if_neg h3, if_neg h4, Option.bind_some, am_th]
          rfl
      · have H := HM
        by_cases h3 : q < 0
        · simp only [f_Mo_curve, s_Mo_curve_16, s_Mo_curve_26, s_Mo_curve_31, mg H, mp H, mo H, mr1 H, mr6 H, mr7 H, mr8 H, mr10 H, mr11 H, mr12 H, mr13 H, mr14 H, mr15 H, mr16 H, mr17 H, mr18 H, mr19 H, mr20 H, mr25 H, if_neg h1, if_pos hp.2, if_pos h3, rf2 HM, Option.bind_some, i0_1, if_false]
        · have h4 : ¬ q ≤ 50 := fun h2 => hq ⟨by rw [← Int32.not_lt]; exact h3, h2⟩
          simp only [f_Mo_curve, s_Mo_curve_16, s_Mo_curve_26, s_Mo_curve_31, mg H, mp H, mo H, mr1 H, mr6 H, mr7 H, mr8 H, mr10 H, mr11 H, mr12 H, mr13 H, mr14 H, mr15 H, mr16 H, mr17 H, mr18 H, mr19 H, mr20 H, mr25 H, if_neg h1, if_pos hp.2, if_neg h3, if_neg h4, rf2 HM, Option.bind_some, i0_1, if_false]
    by_cases hq : 0 ≤ q ∧ q ≤ 50
    · have h3 : ¬ q < 0 := by rw [Int32.not_lt]; exact hq.1
      have h4 := hq.2
      have hp2 := hp.2
      obtain ⟨i, hi8, rfl⟩ : ∃ i : Nat, i ≤ 23 ∧ p = nI i := nI_of2 (M := 23) (n := 23) rfl h1 hp.2
      obtain ⟨g, hg, rfl⟩ : ∃ g : Nat, g ≤ 50 ∧ q = nI g := nI_of2 (M := 50) (n := 50) rfl h3 h4
      obtain ⟨G', hG'⟩ : ∃ G' : Nat → Int, G' = fun j => if j = i then (g : Int) else G j := ⟨_, rfl⟩
      have aB := hA.2.2.2.2.2.2.1
      have B' : SupB G' D h := by
        refine ⟨fun j hj => ?_, aB.2⟩
        rw [hG']
        by_cases h : j = i
        · simp only [if_pos h]; omega
        · simp only [if_neg h]; exact aB.1 j hj
      have hS := hC.2.2.2.2.2.2.2.1
      have S1 : SupC b (am_up hi (b + 5) i (nI g)) G' D h := by
        refine ⟨fun j hj => ?_, ?_, ?_⟩
        · rw [hG']
          by_cases h : j = i
          · simp only [if_pos h]; rw [h, am_up_eq, iI_n]
          · simp only [if_neg h]; rw [am_up_nk h]; exact hS.1 j hj
        · rw [am_up_na (by omega)]; exact hS.2.1
        · rw [am_up_na (by omega)]; exact hS.2.2
      obtain ⟨x1, ex1, fx1, N1⟩ := e_reckonNeeds (z := z) H B' S1
      have f4 : x1 (b + 4) = hi (b + 4) := by rw [fx1 _ (by omega)]; funext j; rw [am_up_na (by omega)]
      have S2 : SupC b x1 G' D h := SupC_of S1 (fun k _ => by rw [fx1 _ (by omega)]) (fx1 _ (by omega))
      have fq : ∀ q, q ≠ b + 5 → q ≠ b + 6 → x1 q = hi q := fun q h5 h6 => by rw [fx1 q h6]; funext j; rw [am_up_na h5]
      have F1 : frC b hi x1 := fun q hq => fq q (by omega) (by omega)
      have C1 : CX b P x1 tg G' D h n (md, T, E, R, e, s, v) := CX_sup H hC an (fun q _ _ h4 h5 h6 => fq q h5 h6) (by rw [f4]; exact hC.2.2.2.2.1) (by rw [f4]; exact hC.2.2.2.2.2.1) (by rw [f4]; exact hC.2.2.2.2.2.2.1) S2 N1
      have m0 : x1 (b + 29) = hi (b + 29) := F1 _ (by omega)
      have M1 := MX_1 hM F1 (fun _ _ => rfl)
      have hSM := M1.2.2.2.2.2.2.2.1
      refine ⟨0, 0, z, x1, am_up (am_up x1 (b + 29) 0 0) (b + 29 + 16) i (nI g), ?_, ?_, ?_, RR_mk (hi1' := x1) H HM ho C1 F1 (fun _ _ => rfl) (MX_sup M1 (fun k h0 _ _ _ _ _ => ?_) (fun q h1 h2 => ?_) ?_ ?_ ?_ ⟨?_, ?_, ?_⟩) ⟨fun q hq => ?_, ?_⟩ ⟨hA.1, hA.2.1, hA.2.2.1, hA.2.2.2.1, hA.2.2.2.2.1, hA.2.2.2.2.2.1, B', an, hA.2.2.2.2.2.2.2.2⟩ hT hx⟩
      · simp only [f_La_curve, f_Rm_curve, f_Supply_setLowerGain, kg0 H, kp0 H, ko0 H, kg1 H, kp1 H, ko1 H, kg2 H, kp2 H, ko2 H, kg3 H, kp3 H, ko3 H, kg4 H, kp4 H, ko4 H, kr0_0 H, kr0_1 H, kr0_2 H, kr0_3 H, kr1_0 H, kr3_0 H, kr4_5 H, kr4_6 H, kr7_0 H, kr0_4 H, kr0_5 H, kal H, kw5 H (show i < 24 by omega), if_neg h1, if_pos h2, if_neg h3, if_pos h4, Option.bind_some, ex1, if_true]
      · have H := HM
        simp only [f_Mo_curve, s_Mo_curve_16, s_Mo_curve_31, mg H, mp H, mo H, mr1 H, mr6 H, mr7 H, mr8 H, mr10 H, mr11 H, mr12 H, mr13 H, mr14 H, mr15 H, mr16 H, mr17 H, mr18 H, mr19 H, mr20 H, mr25 H, if_neg h1, if_pos hp2, if_neg h3, if_pos h4, rf0 HM, Option.bind_some, if_true, mw16 HM (show i < 24 by omega)]
      · rw [am_up_na (by omega), am_up_eq]
      · rw [am_up_na (by omega), am_up_nk h0]
      · funext j; rw [am_up_na (by omega), am_up_na (by omega)]
      · rw [am_up_na (by omega), am_up_nk (by decide)]; exact M1.2.2.2.2.1
      · rw [am_up_na (by omega), am_up_nk (by decide)]; exact M1.2.2.2.2.2.1
      · rw [am_up_na (by omega), am_up_nk (by decide)]; exact M1.2.2.2.2.2.2.1
      · intro j hj
        rw [hG']
        by_cases h : j = i
        · simp only [if_pos h]; rw [h, am_up_eq, iI_n]
        · simp only [if_neg h]; rw [am_up_nk h, am_up_na (by omega)]; exact hSM.1 j hj
      · rw [am_up_na (by omega), am_up_nk (by decide)]; exact hSM.2.1
      · rw [am_up_na (by omega), am_up_nk (by decide)]; exact hSM.2.2
      · funext j; rw [am_up_na (by omega), am_up_na (by omega)]
      · rw [am_up_na (by omega), am_up_nk (by decide)]
    · exact n2 hq
  · exact n1 hp
theorem L_gain (R : RR b sh hi hr Tb) (p : Int32) : ∃ k bm z1 hi1 hi2, f_La_gain b p (z, sh, hi, hr) = some (k, (z1, sh, hi1, hr)) ∧ f_Mo_gain (b + 29) p (z1, sh, hi1, hr) = some (bm, (z1, sh, hi2, hr)) ∧ hi2 (b + 29) 0 = k ∧ RR b sh hi2 hr Tb := by
  have R0 := R
  obtain ⟨P, Q, tg, G, D, h, n, ⟨md, T, E, R, e, s, v⟩, len, H, HM, ho, hC, hM, hA, hT, hx⟩ := R
  have an : n ≤ 8 := hA.2.2.2.2.2.2.2.1
  by_cases h1 : p < -1
  · refine ⟨1, 0, z + 1, hi, am_up hi (b + 29) 0 1, ?_, ?_, am_up_eq _ _ _ _, RR_q R0 q0 qe⟩
    · simp only [f_La_gain, f_Rm_gain, kg0 H, kp0 H, ko0 H, kg1 H, kp1 H, ko1 H, kg2 H, kp2 H, ko2 H, kg3 H, kp3 H, ko3 H, kg4 H, kp4 H, ko4 H, kr0_0 H, kr0_1 H, kr0_2 H, kr0_3 H, kr1_0 H, kr3_0 H, kr4_5 H, kr4_6 H, kr7_0 H, kr0_4 H, kr0_5 H, kal H, if_pos h1, Option.bind_some, am_th]
      rfl
    · have H := HM
      simp only [f_Mo_gain, s_Mo_gain_12, s_Mo_gain_17, mg H, mp H, mo H, mr1 H, mr6 H, mr7 H, mr8 H, mr10 H, mr11 H, mr12 H, mr13 H, mr14 H, mr15 H, mr16 H, mr17 H, mr18 H, mr19 H, mr20 H, mr25 H, if_pos h1, rf1 HM, Option.bind_some, i0_1, if_false]
  · by_cases h2 : p ≤ 100
    · obtain ⟨g, g1, g2, rfl⟩ : ∃ g : Int, -1 ≤ g ∧ g ≤ 100 ∧ p = iI g := iI_bd (a := -1) (b := 100) (by rw [← Int32.not_lt]; exact h1) h2 (by omega) (by omega) (by omega) (by omega)
      have F1 : frC b hi (am_up hi (b + 4) 2 (iI g)) := frC.rf.up (by omega)
      have hS := hC.2.2.2.2.2.2.2.1
      have C1 : CX b P (am_up hi (b + 4) 2 (iI g)) g G D h n (md, T, E, R, e, s, v) := CX_sup H hC an (fun q _ _ h4 _ _ => by funext j; rw [am_up_na h4]) (by rw [am_up_nk (by decide)]; exact hC.2.2.2.2.1) (by rw [am_up_nk (by decide)]; exact hC.2.2.2.2.2.1) (am_up_eq _ _ _ _) (SupC_of hS (fun k hk => by rw [am_up_nk (by omega)]) (by funext j; rw [am_up_na (by omega)])) (fun j hj => by rw [am_up_na (by omega)]; exact hC.2.2.2.2.2.2.2.2.1 j hj)
      have M1 := MX_1 hM F1 (fun _ _ => rfl)
      have hSM := M1.2.2.2.2.2.2.2.1
      refine ⟨0, 0, z, am_up hi (b + 4) 2 (iI g), am_up (am_up (am_up hi (b + 4) 2 (iI g)) (b + 29) 0 0) (b + 29) 26 (iI g), ?_, ?_, ?_, RR_mk (hi1' := am_up hi (b + 4) 2 (iI g)) H HM ho C1 F1 (fun _ _ => rfl) (MX_sup M1 (fun k h0 _ _ h26 _ _ => ?_) (fun q h1 h2 => ?_) ?_ ?_ (am_up_eq _ _ _ _) (SupM_M (SupM_M hSM (by decide) (by decide)) (by decide) (by decide))) ⟨fun q hq => ?_, ?_⟩ ⟨hA.1, hA.2.1, hA.2.2.1, hA.2.2.2.1, hA.2.2.2.2.1, ⟨g1, g2⟩, hA.2.2.2.2.2.2⟩ hT hx⟩
      · simp only [f_La_gain, f_Rm_gain, kg0 H, kp0 H, ko0 H, kg1 H, kp1 H, ko1 H, kg2 H, kp2 H, ko2 H, kg3 H, kp3 H, ko3 H, kg4 H, kp4 H, ko4 H, kr0_0 H, kr0_1 H, kr0_2 H, kr0_3 H, kr1_0 H, kr3_0 H, kr4_5 H, kr4_6 H, kr7_0 H, kr0_4 H, kr0_5 H, kal H, if_neg h1, if_pos h2, Option.bind_some, if_true]
      · have H := HM
        simp only [f_Mo_gain, s_Mo_gain_17, mg H, mp H, mo H, mr1 H, mr6 H, mr7 H, mr8 H, mr10 H, mr11 H, mr12 H, mr13 H, mr14 H, mr15 H, mr16 H, mr17 H, mr18 H, mr19 H, mr20 H, mr25 H, if_neg h1, if_pos h2, rf0 HM, Option.bind_some, if_true]
      · rw [am_up_nk (by decide), am_up_eq]
      · rw [am_up_nk h26, am_up_nk h0]
      · funext j; rw [am_up_na (by omega), am_up_na (by omega)]
      · rw [am_up_nk (by decide), am_up_nk (by decide)]; exact M1.2.2.2.2.1
      · rw [am_up_nk (by decide), am_up_nk (by decide)]; exact M1.2.2.2.2.2.1
      · funext j; rw [am_up_na (by omega), am_up_na (by omega)]
      · rw [am_up_nk (by decide), am_up_nk (by decide)]
    · refine ⟨1, 0, z + 1, hi, am_up hi (b + 29) 0 1, ?_, ?_, am_up_eq _ _ _ _, RR_q R0 q0 qe⟩
      · simp only [f_La_gain, f_Rm_gain, kg0 H, kp0 H, ko0 H, kg1 H, kp1 H, ko1 H, kg2 H, kp2 H, ko2 H, kg3 H, kp3 H, ko3 H, kg4 H, kp4 H, ko4 H, kr0_0 H, kr0_1 H, kr0_2 H, kr0_3 H, kr1_0 H, kr3_0 H, kr4_5 H, kr4_6 H, kr7_0 H, kr0_4 H, kr0_5 H, kal H, if_neg h1, if_neg h2, Option.bind_some, am_th]
        rfl
      · have H := HM
        simp only [f_Mo_gain, s_Mo_gain_12, s_Mo_gain_17, mg H, mp H, mo H, mr1 H, mr6 H, mr7 H, mr8 H, mr10 H, mr11 H, mr12 H, mr13 H, mr14 H, mr15 H, mr16 H, mr17 H, mr18 H, mr19 H, mr20 H, mr25 H, if_neg h1, if_neg h2, rf1 HM, Option.bind_some, i0_1, if_false]
theorem L_home (R : RR b sh hi hr Tb) (p q : Int32) : ∃ k bm z1 hi1 hi2, f_La_home b p q (z, sh, hi, hr) = some (k, (z1, sh, hi1, hr)) ∧ f_Mo_home (b + 29) p q (z1, sh, hi1, hr) = some (bm, (z1, sh, hi2, hr)) ∧ hi2 (b + 29) 0 = k ∧ RR b sh hi2 hr Tb := by
  have R0 := R
  obtain ⟨P, Q, tg, G, D, h, n, ⟨md, T, E, R, e, s, v⟩, len, H, HM, ho, hC, hM, hA, hT, hx⟩ := R
  have an : n ≤ 8 := hA.2.2.2.2.2.2.2.1
  have n1 : p < 1 ∨ 20 < p ∨ q < 0 ∨ ¬ q ≤ 99 → ∃ k bm z1 hi1 hi2, f_La_home b p q (z, sh, hi, hr) = some (k, (z1, sh, hi1, hr)) ∧ f_Mo_home (b + 29) p q (z1, sh, hi1, hr) = some (bm, (z1, sh, hi2, hr)) ∧ hi2 (b + 29) 0 = k ∧ RR b sh hi2 hr Tb := by
    intro hp
    refine ⟨1, 0, z + 1, hi, am_up hi (b + 29) 0 1, ?_, ?_, am_up_eq _ _ _ _, RR_q R0 q0 qe⟩
    · simp only [f_La_home, f_Rm_home, kg0 H, kp0 H, ko0 H, kg1 H, kp1 H, ko1 H, kg2 H, kp2 H, ko2 H, kg3 H, kp3 H, ko3 H, kg4 H, kp4 H, ko4 H, kr0_0 H, kr0_1 H, kr0_2 H, kr0_3 H, kr1_0 H, kr3_0 H, kr4_5 H, kr4_6 H, kr7_0 H, kr0_4 H, kr0_5 H, kal H, hC.1]
      by_cases c1 : p < 1
      · simp only [if_pos c1, Option.bind_some, am_th]; rfl
      · by_cases c2 : 20 < p
        · simp only [if_neg c1, if_pos c2, Option.bind_some, am_th]; rfl
        · by_cases c3 : q < 0
          · simp only [if_neg c1, if_neg c2, if_pos c3, Option.bind_some, am_th]; rfl
          · have c4 : ¬ q ≤ 99 := by
              rcases hp with hh | hh | hh | hh
              · exact absurd hh c1
              · exact absurd hh c2
              · exact absurd hh c3
              · exact hh
            simp only [if_neg c1, if_neg c2, if_neg c3, if_neg c4, Option.bind_some, am_th]; rfl
    · have H := HM
      simp only [f_Mo_home, s_Mo_home_22, s_Mo_home_27, s_Mo_home_39, mg H, mp H, mo H, mr1 H, mr6 H, mr7 H, mr8 H, mr10 H, mr11 H, mr12 H, mr13 H, mr14 H, mr15 H, mr16 H, mr17 H, mr18 H, mr19 H, mr20 H, mr25 H, rf1 HM, rf3 HM, Option.bind_some, i0_1, if_false]
      by_cases c1 : p < 1
      · simp only [if_pos c1]; split <;> rfl
      · by_cases c2 : 20 < p
        · simp only [if_neg c1, if_pos c2]; split <;> rfl
        · by_cases c3 : q < 0
          · simp only [if_neg c1, if_neg c2, if_pos c3]; split <;> rfl
          · have c4 : ¬ q ≤ 99 := by
              rcases hp with hh | hh | hh | hh
              · exact absurd hh c1
              · exact absurd hh c2
              · exact absurd hh c3
              · exact hh
            simp only [if_neg c1, if_neg c2, if_neg c3, if_neg c4]; split <;> rfl
  by_cases c1 : p < 1
  · exact n1 (Or.inl c1)
  · by_cases c2 : 20 < p
    · exact n1 (Or.inr (Or.inl c2))
    · by_cases c3 : q < 0
      · exact n1 (Or.inr (Or.inr (Or.inl c3)))
      · by_cases c4 : q ≤ 99
        · by_cases c5 : md = 0
          · obtain ⟨h', g1, g2, rfl⟩ : ∃ g : Int, 1 ≤ g ∧ g ≤ 20 ∧ p = iI g := iI_bd (a := 1) (b := 20) (by rw [← Int32.not_lt]; exact c1) (by rw [← Int32.not_lt]; exact c2) (by omega) (by omega) (by omega) (by omega)
            obtain ⟨D', d1, d2, rfl⟩ : ∃ g : Int, 0 ≤ g ∧ g ≤ 99 ∧ q = iI g := iI_bd (a := 0) (b := 99) (by rw [← Int32.not_lt]; exact c3) c4 (by omega) (by omega) (by omega) (by omega)
            obtain ⟨hn, rfl⟩ : ∃ k : Nat, h' = k := ⟨h'.toNat, by omega⟩
            rw [← iI_n] at *
            have hS := hC.2.2.2.2.2.2.2.1
            have B' : SupB G D' hn := ⟨hA.2.2.2.2.2.2.1.1, ⟨d1, d2⟩, by omega, by omega⟩
            have S1 : SupC b (am_up (am_up hi (b + 4) 3 (nI hn)) (b + 4) 4 (iI D')) G D' hn := ⟨fun j hj => by rw [am_up_na (by omega), am_up_na (by omega)]; exact hS.1 j hj, by rw [am_up_nk (by decide), am_up_eq], am_up_eq _ _ _ _⟩
            obtain ⟨x1, ex1, fx1, N1⟩ := e_reckonNeeds (z := z) H B' S1
            have S2 : SupC b x1 G D' hn := SupC_of S1 (fun k _ => by rw [fx1 _ (by omega)]) (fx1 _ (by omega))
            have fq : ∀ q, q ≠ b + 4 → q ≠ b + 6 → x1 q = hi q := fun q h5 h6 => by rw [fx1 q h6]; funext j; rw [am_up_na h5, am_up_na h5]
            have F1 : frC b hi x1 := fun q hq => fq q (by omega) (by omega)
            have C1 : CX b P x1 tg G D' hn n (md, T, E, R, e, s, v) := CX_sup H hC an (fun q _ _ h4 h5 h6 => fq q h4 h6) (by rw [fx1 _ (by omega), am_up_nk (by decide), am_up_nk (by decide)]; exact hC.2.2.2.2.1) (by rw [fx1 _ (by omega), am_up_nk (by decide), am_up_nk (by decide)]; exact hC.2.2.2.2.2.1) (by rw [fx1 _ (by omega), am_up_nk (by decide), am_up_nk (by decide)]; exact hC.2.2.2.2.2.2.1) S2 N1
            have M1 := MX_1 hM F1 (fun _ _ => rfl)
            have hSM := M1.2.2.2.2.2.2.2.1
            have m22 : x1 (b + 29) 22 = 0 := by rw [F1 _ (by omega)]; exact hM.1.trans c5
            refine ⟨0, 0, z, x1, am_up (am_up (am_up x1 (b + 29) 0 0) (b + 29) 27 (nI hn)) (b + 29) 28 (iI D'), ?_, ?_, ?_, RR_mk (hi1' := x1) H HM ho C1 F1 (fun _ _ => rfl) (MX_sup M1 (fun k h0 _ _ _ h27 h28 => ?_) (fun q h1 h2 => ?_) ?_ ?_ ?_ ⟨?_, ?_, am_up_eq _ _ _ _⟩) ⟨fun q hq => ?_, ?_⟩ ⟨hA.1, hA.2.1, hA.2.2.1, hA.2.2.2.1, hA.2.2.2.2.1, hA.2.2.2.2.2.1, B', an, hA.2.2.2.2.2.2.2.2⟩ hT hx⟩
            · simp only [f_La_home, f_Rm_home, f_Supply_setWayHome, kg0 H, kp0 H, ko0 H, kg1 H, kp1 H, ko1 H, kg2 H, kp2 H, ko2 H, kg3 H, kp3 H, ko3 H, kg4 H, kp4 H, ko4 H, kr0_0 H, kr0_1 H, kr0_2 H, kr0_3 H, kr1_0 H, kr3_0 H, kr4_5 H, kr4_6 H, kr7_0 H, kr0_4 H, kr0_5 H, kal H, hC.1, c5, if_neg c1, if_neg c2, if_neg c3, if_pos c4, Option.bind_some, ex1, if_true]
            · have H := HM
              simp only [f_Mo_home, s_Mo_home_27, s_Mo_home_39, mg H, mp H, mo H, mr1 H, mr6 H, mr7 H, mr8 H, mr10 H, mr11 H, mr12 H, mr13 H, mr14 H, mr15 H, mr16 H, mr17 H, mr18 H, mr19 H, mr20 H, mr25 H, m22, if_neg c1, if_neg c2, if_neg c3, if_pos c4, rf0 HM, Option.bind_some, if_true]
            · rw [am_up_nk (by decide), am_up_nk (by decide), am_up_eq]
            · rw [am_up_nk h28, am_up_nk h27, am_up_nk h0]
            · funext j; rw [am_up_na (by omega), am_up_na (by omega), am_up_na (by omega)]
            · rw [am_up_nk (by decide), am_up_nk (by decide), am_up_nk (by decide)]; exact M1.2.2.2.2.1
            · rw [am_up_nk (by decide), am_up_nk (by decide), am_up_nk (by decide)]; exact M1.2.2.2.2.2.1
            · rw [am_up_nk (by decide), am_up_nk (by decide), am_up_nk (by decide)]; exact M1.2.2.2.2.2.2.1
            · intro j hj; rw [am_up_na (by omega), am_up_na (by omega), am_up_na (by omega)]; exact hSM.1 j hj
            · rw [am_up_nk (by decide), am_up_eq]
            · funext j; rw [am_up_na (by omega), am_up_na (by omega), am_up_na (by omega)]
            · rw [am_up_nk (by decide), am_up_nk (by decide), am_up_nk (by decide)]
          · refine ⟨2, 0, z + 1, hi, am_up hi (b + 29) 0 2, ?_, ?_, am_up_eq _ _ _ _, RR_q R0 q0 qe⟩
            · simp only [f_La_home, f_Rm_home, kg0 H, kp0 H, ko0 H, kg1 H, kp1 H, ko1 H, kg2 H, kp2 H, ko2 H, kg3 H, kp3 H, ko3 H, kg4 H, kp4 H, ko4 H, kr0_0 H, kr0_1 H, kr0_2 H, kr0_3 H, kr1_0 H, kr3_0 H, kr4_5 H, kr4_6 H, kr7_0 H, kr0_4 H, kr0_5 H, kal H, hC.1, if_neg c1, if_neg c2, if_neg c3, if_pos c4, if_neg c5, Option.bind_some, am_th]
              rfl
            · have H := HM
              simp only [f_Mo_home, s_Mo_home_27, s_Mo_home_39, mg H, mp H, mo H, mr1 H, mr6 H, mr7 H, mr8 H, mr10 H, mr11 H, mr12 H, mr13 H, mr14 H, mr15 H, mr16 H, mr17 H, mr18 H, mr19 H, mr20 H, mr25 H, hM.1, if_neg c1, if_neg c2, if_neg c3, if_pos c4, if_neg c5, rf2 HM, Option.bind_some, i0_1, if_false]
        · exact n1 (Or.inr (Or.inr (Or.inr c4)))
theorem L_fill (R : RR b sh hi hr Tb) (p q : Int32) : ∃ k bm z1 hi1 hi2, f_La_fill b p q (z, sh, hi, hr) = some (k, (z1, sh, hi1, hr)) ∧ f_Mo_fill (b + 29) p q (z1, sh, hi1, hr) = some (bm, (z1, sh, hi2, hr)) ∧ hi2 (b + 29) 0 = k ∧ RR b sh hi2 hr Tb := by
  have R0 := R
  obtain ⟨P, Q, tg, G, D, h, n, ⟨md, T, E, R, e, s, v⟩, len, H, HM, ho, hC, hM, hA, hT, hx⟩ := R
  have an : n ≤ 8 := hA.2.2.2.2.2.2.2.1
  have n1 : p < 0 ∨ 1000 < p ∨ q < 0 ∨ ¬ q ≤ 500 → ∃ k bm z1 hi1 hi2, f_La_fill b p q (z, sh, hi, hr) = some (k, (z1, sh, hi1, hr)) ∧ f_Mo_fill (b + 29) p q (z1, sh, hi1, hr) = some (bm, (z1, sh, hi2, hr)) ∧ hi2 (b + 29) 0 = k ∧ RR b sh hi2 hr Tb := by
    intro hp
    refine ⟨1, 0, z + 1, hi, am_up hi (b + 29) 0 1, ?_, ?_, am_up_eq _ _ _ _, RR_q R0 q0 qe⟩
    · simp only [f_La_fill, f_Rm_fill, kg0 H, kp0 H, ko0 H, kg1 H, kp1 H, ko1 H, kg2 H, kp2 H, ko2 H, kg3 H, kp3 H, ko3 H, kg4 H, kp4 H, ko4 H, kr0_0 H, kr0_1 H, kr0_2 H, kr0_3 H, kr1_0 H, kr3_0 H, kr4_5 H, kr4_6 H, kr7_0 H, kr0_4 H, kr0_5 H, kal H, hC.1]
      by_cases c1 : p < 0
      · simp only [if_pos c1, Option.bind_some, am_th]; rfl
      · by_cases c2 : 1000 < p
        · simp only [if_neg c1, if_pos c2, Option.bind_some, am_th]; rfl
        · by_cases c3 : q < 0
          · simp only [if_neg c1, if_neg c2, if_pos c3, Option.bind_some, am_th]; rfl
          · have c4 : ¬ q ≤ 500 := by
              rcases hp with hh | hh | hh | hh
              · exact absurd hh c1
              · exact absurd hh c2
              · exact absurd hh c3
              · exact hh
            simp only [if_neg c1, if_neg c2, if_neg c3, if_neg c4, Option.bind_some, am_th]; rfl
    · have H := HM
      simp only [f_Mo_fill, s_Mo_fill_23, s_Mo_fill_28, s_Mo_fill_40, mg H, mp H, mo H, mr1 H, mr6 H, mr7 H, mr8 H, mr10 H, mr11 H, mr12 H, mr13 H, mr14 H, mr15 H, mr16 H, mr17 H, mr18 H, mr19 H, mr20 H, mr25 H, rf1 HM, rf3 HM, Option.bind_some, i0_1, if_false]
      by_cases c1 : p < 0
      · simp only [if_pos c1]; split <;> rfl
      · by_cases c2 : 1000 < p
        · simp only [if_neg c1, if_pos c2]; split <;> rfl
        · by_cases c3 : q < 0
          · simp only [if_neg c1, if_neg c2, if_pos c3]; split <;> rfl
          · have c4 : ¬ q ≤ 500 := by
              rcases hp with hh | hh | hh | hh
              · exact absurd hh c1
              · exact absurd hh c2
              · exact absurd hh c3
              · exact hh
            simp only [if_neg c1, if_neg c2, if_neg c3, if_neg c4]; split <;> rfl
  by_cases c1 : p < 0
  · exact n1 (Or.inl c1)
  · by_cases c2 : 1000 < p
    · exact n1 (Or.inr (Or.inl c2))
    · by_cases c3 : q < 0
      · exact n1 (Or.inr (Or.inr (Or.inl c3)))
      · by_cases c4 : q ≤ 500
        · by_cases c5 : md = 0
          · obtain ⟨e', g1, g2, rfl⟩ : ∃ g : Int, 0 ≤ g ∧ g ≤ 1000 ∧ p = iI g := iI_bd (a := 0) (b := 1000) (by rw [← Int32.not_lt]; exact c1) (by rw [← Int32.not_lt]; exact c2) (by omega) (by omega) (by omega) (by omega)
            obtain ⟨s', d1, d2, rfl⟩ : ∃ g : Int, 0 ≤ g ∧ g ≤ 500 ∧ q = iI g := iI_bd (a := 0) (b := 500) (by rw [← Int32.not_lt]; exact c3) c4 (by omega) (by omega) (by omega) (by omega)
            have hS := hC.2.2.2.2.2.2.2.1
            have F1 : frC b hi (am_up (am_up hi (b + 4) 0 (iI e')) (b + 4) 1 (iI s')) := (frC.rf.up (by omega)).up (by omega)
            have C1 : CX b P (am_up (am_up hi (b + 4) 0 (iI e')) (b + 4) 1 (iI s')) tg G D h n (md, T, E, R, e', s', v) := CX_sup H hC an (fun q _ _ h4 _ _ => by funext j; rw [am_up_na h4, am_up_na h4]) (by rw [am_up_nk (by decide), am_up_eq]) (am_up_eq _ _ _ _) (by rw [am_up_nk (by decide), am_up_nk (by decide)]; exact hC.2.2.2.2.2.2.1) (SupC_of hS (fun k hk => by rw [am_up_nk (by omega), am_up_nk (by omega)]) (by funext j; rw [am_up_na (by omega), am_up_na (by omega)])) (fun j hj => by rw [am_up_na (by omega), am_up_na (by omega)]; exact hC.2.2.2.2.2.2.2.2.1 j hj)
            generalize hx1 : am_up (am_up hi (b + 4) 0 (iI e')) (b + 4) 1 (iI s') = x1 at *
            have M1 := MX_1 hM F1 (fun _ _ => rfl)
            have hSM := M1.2.2.2.2.2.2.2.1
            have m22 : x1 (b + 29) 22 = 0 := by rw [F1 _ (by omega)]; exact hM.1.trans c5
            refine ⟨0, 0, z, x1, am_up (am_up (am_up x1 (b + 29) 0 0) (b + 29) 23 (iI e')) (b + 29) 24 (iI s'), ?_, ?_, ?_, RR_mk (hi1' := x1) H HM ho C1 F1 (fun _ _ => rfl) (MX_sup M1 (fun k h0 h23 h24 _ _ _ => ?_) (fun q h1 h2 => ?_) ?_ (am_up_eq _ _ _ _) ?_ (SupM_M (SupM_M (SupM_M hSM (by decide) (by decide)) (by decide) (by decide)) (by decide) (by decide))) ⟨fun q hq => ?_, ?_⟩ ⟨hA.1, hA.2.1, hA.2.2.1, ⟨g1, g2⟩, ⟨d1, d2⟩, hA.2.2.2.2.2⟩ hT hx⟩
            · simp only [f_La_fill, f_Rm_fill, kg0 H, kp0 H, ko0 H, kg1 H, kp1 H, ko1 H, kg2 H, kp2 H, ko2 H, kg3 H, kp3 H, ko3 H, kg4 H, kp4 H, ko4 H, kr0_0 H, kr0_1 H, kr0_2 H, kr0_3 H, kr1_0 H, kr3_0 H, kr4_5 H, kr4_6 H, kr7_0 H, kr0_4 H, kr0_5 H, kal H, hC.1, c5, if_neg c1, if_neg c2, if_neg c3, if_pos c4, Option.bind_some, if_true, hx1]
            · have H := HM
              simp only [f_Mo_fill, s_Mo_fill_28, s_Mo_fill_40, mg H, mp H, mo H, mr1 H, mr6 H, mr7 H, mr8 H, mr10 H, mr11 H, mr12 H, mr13 H, mr14 H, mr15 H, mr16 H, mr17 H, mr18 H, mr19 H, mr20 H, mr25 H, m22, if_neg c1, if_neg c2, if_neg c3, if_pos c4, rf0 HM, Option.bind_some, if_true]
            · rw [am_up_nk (by decide), am_up_nk (by decide), am_up_eq]
            · rw [am_up_nk h24, am_up_nk h23, am_up_nk h0]
            · funext j; rw [am_up_na (by omega), am_up_na (by omega), am_up_na (by omega)]
            · rw [am_up_nk (by decide), am_up_eq]
            · rw [am_up_nk (by decide), am_up_nk (by decide), am_up_nk (by decide)]; exact M1.2.2.2.2.2.2.1
            · funext j; rw [am_up_na (by omega), am_up_na (by omega), am_up_na (by omega)]
            · rw [am_up_nk (by decide), am_up_nk (by decide), am_up_nk (by decide)]
          · refine ⟨2, 0, z + 1, hi, am_up hi (b + 29) 0 2, ?_, ?_, am_up_eq _ _ _ _, RR_q R0 q0 qe⟩
            · simp only [f_La_fill, f_Rm_fill, kg0 H, kp0 H, ko0 H, kg1 H, kp1 H, ko1 H, kg2 H, kp2 H, ko2 H, kg3 H, kp3 H, ko3 H, kg4 H, kp4 H, ko4 H, kr0_0 H, kr0_1 H, kr0_2 H, kr0_3 H, kr1_0 H, kr3_0 H, kr4_5 H, kr4_6 H, kr7_0 H, kr0_4 H, kr0_5 H, kal H, hC.1, if_neg c1, if_neg c2, if_neg c3, if_pos c4, if_neg c5, Option.bind_some, am_th]
              rfl
            · have H := HM
              simp only [f_Mo_fill, s_Mo_fill_28, s_Mo_fill_40, mg H, mp H, mo H, mr1 H, mr6 H, mr7 H, mr8 H, mr10 H, mr11 H, mr12 H, mr13 H, mr14 H, mr15 H, mr16 H, mr17 H, mr18 H, mr19 H, mr20 H, mr25 H, hM.1, if_neg c1, if_neg c2, if_neg c3, if_pos c4, if_neg c5, rf2 HM, Option.bind_some, i0_1, if_false]
        · exact n1 (Or.inr (Or.inr (Or.inr c4)))
end FSET2
