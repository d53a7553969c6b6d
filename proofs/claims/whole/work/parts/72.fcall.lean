-- needs 56 57 58 59 60 61 62 63 64 65 66 67 68 69 70 71
/-! the other calls that change something -/
section FCALL
variable {b P Q M z n : Nat} {sh : am_S} {hi x : am_I} {hr : am_R} {G : Nat → Int} {D : Int} {h : Nat} {tg : Int} {Tb T E : Nat} {e s : Int} {v : Nat → Nat → Int32}
theorem go_A (hA : AB T e s tg G D h n v) : AX tg G D h n (goP T E e s G D h n v).1 := by
  obtain ⟨aT, ae, as, at', aB, an, aI⟩ := hA
  unfold goP
  refine ⟨?_, ?_, aT, ae, as, at', aB, an, start_inv aI⟩
  · simp only []
    split
    · exact Or.inr (Or.inl rfl)
    · exact Or.inl rfl
  · simp only []
    intro hh
    split at hh
    · exact absurd hh (by decide)
    · exact absurd hh (by decide)
theorem n_0 {k : Nat} (hk : k ≤ 1000) : (nI k = (0 : Int32)) ↔ k = 0 := n_inj (a := k) (b := 0) (by omega) (by omega)
theorem L_enable (R : RR b sh hi hr Tb) (hTb : Tb < 400000) : ∃ k bm z1 hi1 hi2, f_La_enable b (b + 46) (z, sh, hi, hr) = some (k, (z1, sh, hi1, hr)) ∧ f_Mo_enable (b + 29) (z1, sh, hi1, hr) = some (bm, (z1, sh, hi2, hr)) ∧ hi2 (b + 29) 0 = k ∧ (k = 0 → hi2 (b + 46) 0 = bm) ∧ RR b sh hi2 hr Tb := by
  have R0 := R
  obtain ⟨P, Q, tg, G, D, h, n, ⟨md, T, E, R, e, s, v⟩, len, H, HM, ho, hC, hM, hA, hT, hx⟩ := R
  have hP := k_P H
  have p2 := k_P2 H
  obtain ⟨a1, a2, aT, ae, as, at', aB, an, aI⟩ := hA
  simp only [] at *
  have hcn : hi P 1 = nI n := hC.2.2.2.2.2.2.2.2.2.1
  have hmn : hi (b + 29) 9 = nI n := hM.2.2.2.2.2.2.2.2.1
  have he : hi (b + 4) 0 = iI e := hC.2.2.2.2.1
  have hme : hi (b + 29) 23 = iI e := hM.2.2.2.2.1
  have hcT : hi b 7 = nI T := hC.2.2.2.1
  have hmT : hi (b + 29) 21 = nI T := hM.2.2.2.1
  have o1 := e_isOpen (z := z) H hC.2.2.2.2.2.2.2.2.1 (m := T) (l := e) (by omega) (by omega) ae.2
  have o2 : ∀ z, f_Mo_isOpen (b + 29) (iI e) (nI T) (z, sh, hi, hr) = some (b1 (opC G D h T e), (z, sh, hi, hr)) := fun z => by
    rw [m_isOpen HM aB hM.2.2.2.2.2.2.2.1 (by omega) ae.1 ae.2, op_ok aB ae.1 ae.2]
  have no : ∀ (_ : ¬ md = 0 ∨ n = 0 ∨ opC G D h T e = false), ∃ k bm z1 hi1 hi2, f_La_enable b (b + 46) (z, sh, hi, hr) = some (k, (z1, sh, hi1, hr)) ∧ f_Mo_enable (b + 29) (z1, sh, hi1, hr) = some (bm, (z1, sh, hi2, hr)) ∧ hi2 (b + 29) 0 = k ∧ (k = 0 → hi2 (b + 46) 0 = bm) ∧ RR b sh hi2 hr Tb := by
    intro hn
    refine ⟨1, 0, z + 1, hi, am_up hi (b + 29) 0 1, ?_, ?_, am_up_eq _ _ _ _, fun hh => absurd hh (by decide), RR_q R0 q0 qe⟩
    · by_cases h1 : md = 0
      · by_cases h2 : n = 0
        · simp only [f_La_enable, f_Rm_enable, kg0 H, kp0 H, ko0 H, kg1 H, kp1 H, ko1 H, kg2 H, kp2 H, ko2 H, kg3 H, kp3 H, ko3 H, kg4 H, kp4 H, ko4 H, kr0_0 H, kr0_1 H, kr0_2 H, kr0_3 H, kr1_0 H, kr3_0 H, kr4_5 H, kr4_6 H, kr7_0 H, kr0_4 H, kr0_5 H, kal H, pg hP, Option.bind_some, hC.1, h1, if_true, hcn, n_0 (show n ≤ 1000 by omega), if_pos h2, am_th]
          rfl
        · have h3 : opC G D h T e = false := by
            rcases hn with hh | hh | hh
            · exact absurd h1 hh
            · exact absurd hh h2
            · exact hh
          simp only [f_La_enable, f_Rm_enable, kg0 H, kp0 H, ko0 H, kg1 H, kp1 H, ko1 H, kg2 H, kp2 H, ko2 H, kg3 H, kp3 H, ko3 H, kg4 H, kp4 H, ko4 H, kr0_0 H, kr0_1 H, kr0_2 H, kr0_3 H, kr1_0 H, kr3_0 H, kr4_5 H, kr4_6 H, kr7_0 H, kr0_4 H, kr0_5 H, kal H, pg hP, Option.bind_some, hC.1, h1, if_true, hcn, n_0 (show n ≤ 1000 by omega), if_neg h2, he, hcT, o1, b1_0, h3, am_th]
          rfl
      · simp only [f_La_enable, f_Rm_enable, kg0 H, kp0 H, ko0 H, kg1 H, kp1 H, ko1 H, kg2 H, kp2 H, ko2 H, kg3 H, kp3 H, ko3 H, kg4 H, kp4 H, ko4 H, kr0_0 H, kr0_1 H, kr0_2 H, kr0_3 H, kr1_0 H, kr3_0 H, kr4_5 H, kr4_6 H, kr7_0 H, kr0_4 H, kr0_5 H, kal H, Option.bind_some, hC.1, if_neg h1, am_th]
        rfl
    · have H := HM
      by_cases h1 : md = 0
      · by_cases h2 : n = 0
        · simp only [f_Mo_enable, s_Mo_enable_30, s_Mo_enable_35, mg H, mp H, mo H, mr1 H, mr6 H, mr7 H, mr8 H, mr10 H, mr11 H, mr12 H, mr13 H, mr14 H, mr15 H, mr16 H, mr17 H, mr18 H, mr19 H, mr20 H, mr25 H, Option.bind_some, hM.1, h1, if_true, hmn, n_0 (show n ≤ 1000 by omega), if_pos h2, rf1 HM, i0_1, if_false]
        · have h3 : opC G D h T e = false := by
            rcases hn with hh | hh | hh
            · exact absurd h1 hh
            · exact absurd hh h2
            · exact hh
          simp only [f_Mo_enable, s_Mo_enable_30, s_Mo_enable_35, mg H, mp H, mo H, mr1 H, mr6 H, mr7 H, mr8 H, mr10 H, mr11 H, mr12 H, mr13 H, mr14 H, mr15 H, mr16 H, mr17 H, mr18 H, mr19 H, mr20 H, mr25 H, Option.bind_some, hM.1, h1, if_true, hmn, n_0 (show n ≤ 1000 by omega), if_neg h2, hme, hmT, o2, b1_0, h3, rf1 HM, i0_1, if_false]
      · simp only [f_Mo_enable, s_Mo_enable_30, s_Mo_enable_35, mg H, mp H, mo H, mr1 H, mr6 H, mr7 H, mr8 H, mr10 H, mr11 H, mr12 H, mr13 H, mr14 H, mr15 H, mr16 H, mr17 H, mr18 H, mr19 H, mr20 H, mr25 H, Option.bind_some, hM.1, if_neg h1, rf1 HM, i0_1, if_false]
  by_cases h1 : md = 0
  · by_cases h2 : n = 0
    · exact no (Or.inr (Or.inl h2))
    · rcases Bool.eq_false_or_eq_true (opC G D h T e) with h3 | h3
      · -- the class
        have i1 := inv_mapV (g := aReady) (n := n) (fun i _ hh => inv_ready hh) aI
        have i2 := (itS_rel (t := 0) ⟨fun i hi k hk _ => (rfl : mapV aReady n v i k = mapV aReady n v i k), i1⟩).2
        have s1 := e_makeReady (z := z) hP an hcn
        have c1 : CR b P (mapC aReady hi P n) T e s tg G D h n (mapV aReady n v) := by
          refine CR_P H hC.2.2.2 (mapC_fr _ _ _ _ an) ?_
          rw [vC_mapC]
          exact agr_mapV (fun i _ => agr_ready) hC.2.2.2.2.2.2.2.2.2.2
        have f1 : frC b hi (mapC aReady hi P n) := frC_P H (mapC_fr aReady hi P n an)
        generalize mapC aReady hi P n = x1 at *
        have c2 := CR_b (k := 8) (y := nI T) H (CR_b (k := 6) (y := 1) H c1 (by decide)) (by decide)
        have f2 : frC b hi (am_up (am_up x1 b 6 1) b 8 (nI T)) := (f1.up (by omega)).up (by omega)
        have m2 : (am_up (am_up x1 b 6 1) b 8 (nI T)) b 6 = 1 := by rw [am_up_nk (by decide), am_up_eq]
        have E2 : (am_up (am_up x1 b 6 1) b 8 (nI T)) b 8 = nI T := am_up_eq _ _ _ _
        have t2 : (am_up x1 b 6 1) b 7 = nI T := by rw [am_up_nk (by decide)]; exact c1.1
        generalize hx2 : am_up (am_up x1 b 6 1) b 8 (nI T) = x2 at *
        have s3 := e_skip (z := z) (t := 0) hP an c2.2.2.2.2.2.2.1
        have c3 : CR b P (foldN (fun x _ => sweep P n 0 x) x2 0 n) T e s tg G D h n (itS n 0 (mapV aReady n v)) := by
          refine CR_P H c2 (skips_fr an x2) ?_
          rw [skips_v]
          exact (itS_rel ⟨c2.2.2.2.2.2.2.2, i1⟩).1
        have f3 := f2.tr (frC_P H (skips_fr (P := P) (t := 0) an x2))
        have m3 : (foldN (fun x _ => sweep P n 0 x) x2 0 n) b 6 = 1 := by rw [skips_fr (P := P) an x2 b (by omega)]; exact m2
        have E3 : (foldN (fun x _ => sweep P n 0 x) x2 0 n) b 8 = nI T := by rw [skips_fr (P := P) an x2 b (by omega)]; exact E2
        generalize foldN (fun x _ => sweep P n 0 x) x2 0 n = x3 at *
        have A3 : AB T e s tg G D h n (itS n 0 (mapV aReady n v)) := ⟨aT, ae, as, at', aB, an, i2⟩
        obtain ⟨x4, e4, c4, f4⟩ := e_go (z := z) H A3 c3 m3 E3
        have f5 := f3.tr f4
        -- the reference
        have M1 := MX_0 (y := 0) (MX_1 hM f5 (outO (y := (goP T T e s G D h n (itS n 0 (mapV aReady n v))).2)))
        have r1 : (am_up x4 (b + 46) 0 (goP T T e s G D h n (itS n 0 (mapV aReady n v))).2) (b + 29) = hi (b + 29) := by rw [outO _ (by omega), f5 _ (by omega)]
        generalize hy0 : am_up x4 (b + 46) 0 (goP T T e s G D h n (itS n 0 (mapV aReady n v))).2 = y0 at *
        obtain ⟨y1, ey1, fy1, vy1⟩ := m_rest (z := z) HM an M1.2.2.2.2.2.2.2.2.1
        have d1 := MR_fr M1.2.2.2 fy1
        rw [vy1, M1.2.2.2.2.2.2.2.2.2] at d1
        have d2 := MR_b (k := 30) (y := nI T) d1 (by decide) (by decide) (by decide) (by decide) (by decide) (by decide) (by decide)
        have g2 : frN (b + 29) (am_up y0 (b + 29) 0 0) (am_up y1 (b + 29) 30 (nI T)) := (frN_M fy1).up (by decide)
        have hE2 : (am_up y1 (b + 29) 30 (nI T)) (b + 29) 30 = nI T := am_up_eq _ _ _ _
        generalize hy2 : am_up y1 (b + 29) 30 (nI T) = y2 at *
        obtain ⟨y3, ey3, fy3, vy3⟩ := m_skip (z := z) (t := 0) HM an d2.2.2.2.2.2.1 (by rw [d2.1, hE2, Int32.sub_self])
        have d3 := MR_fr d2 fy3
        rw [vy3, d2.2.2.2.2.2.2] at d3
        obtain ⟨y4, ey4, d4, fy4⟩ := m_go (z := z) HM A3 d3 (by rw [fy3 _ (by omega)]; exact hE2)
        have g4 := (g2.tr (frN_M fy3)).tr fy4
        refine ⟨0, (goP T T e s G D h n (itS n 0 (mapV aReady n v))).2, z, y0, y4, ?_, ?_, ?_, ?_, ?_⟩
        · simp only [f_La_enable, f_Rm_enable, kg0 H, kp0 H, ko0 H, kg1 H, kp1 H, ko1 H, kg2 H, kp2 H, ko2 H, kg3 H, kp3 H, ko3 H, kg4 H, kp4 H, ko4 H, kr0_0 H, kr0_1 H, kr0_2 H, kr0_3 H, kr1_0 H, kr3_0 H, kr4_5 H, kr4_6 H, kr7_0 H, kr0_4 H, kr0_5 H, kal H, pg hP, po hP, Option.bind_some, hC.1, h1, if_true, hcn, n_0 (show n ≤ 1000 by omega), if_neg h2, he, hcT, o1, b1_0, h3, Bool.true_eq_false, if_false, s1, t2, hx2, s3, e4, lp_out ho, hy0]
        · have H := HM
          have o3 : f_Mo_isOpen (b + 29) (iI e) (nI T) (z, sh, y0, hr) = some (b1 true, (z, sh, y0, hr)) := by
            have hS : SupM (b + 29) y0 G D h := by
              have := M1.2.2.2.2.2.2.2.1
              refine ⟨fun j hj => ?_, ?_, ?_⟩
              · have t := this.1 j hj; rwa [am_up_na (by omega)] at t
              · have t := this.2.1; rwa [am_up_nk (by decide)] at t
              · have t := this.2.2; rwa [am_up_nk (by decide)] at t
            rw [m_isOpen HM aB hS (by omega) ae.1 ae.2, op_ok aB ae.1 ae.2, h3]
          simp only [f_Mo_enable, s_Mo_enable_30, s_Mo_enable_35, mg H, mp H, mo H, mr1 H, mr6 H, mr7 H, mr8 H, mr10 H, mr11 H, mr12 H, mr13 H, mr14 H, mr15 H, mr16 H, mr17 H, mr18 H, mr19 H, mr20 H, mr25 H, Option.bind_some, r1, hM.1, h1, if_true, hmn, n_0 (show n ≤ 1000 by omega), if_neg h2, hme, hmT, o3, b1_0, Bool.true_eq_false, if_false, rf0 HM, ey1, d1.1, hy2, ey3, ey4]
        · rw [g4.2.2, am_up_eq]
        · intro _
          rw [g4.1 (b + 46) (by omega), am_up_na (by omega), ← hy0, am_up_eq]
        · refine RR_mk H HM ho c4 f5 (hi1' := y0) (fun q hq => by rw [← hy0]; exact outO q hq) d4 (frW_0 g4) (go_A A3) hT hx
      · exact no (Or.inr (Or.inr h3))
  · exact no (Or.inl h1)
theorem L_minutes (R : RR b sh hi hr Tb) (hTb : Tb < 400000) (p : Int32) : ∃ k bm z1 hi1 hi2, f_La_minutes b p (b + 46) (z, sh, hi, hr) = some (k, (z1, sh, hi1, hr)) ∧ f_Mo_minutes (b + 29) p (z1, sh, hi1, hr) = some (bm, (z1, sh, hi2, hr)) ∧ hi2 (b + 29) 0 = k ∧ (k = 0 → hi2 (b + 46) 0 = bm) ∧ RR b sh hi2 hr (Tb + 60) := by
  have R0 := R
  obtain ⟨P, Q, tg, G, D, h, n, a, len, H, HM, ho, hC, hM, hA, hT, hx⟩ := R
  have R1 : RR b sh (am_up hi (b + 29) 0 1) hr (Tb + 60) := by
    obtain ⟨P, Q, tg, G, D, h, n, a, len, q1, q2, q3, q4, q5, q6, q7, q8⟩ := RR_q (x := am_up hi (b + 29) 0 1) R0 q0 qe
    exact ⟨P, Q, tg, G, D, h, n, a, len, q1, q2, q3, q4, q5, q6, by omega, q8⟩
  by_cases h1 : p < 0
  · refine ⟨1, 0, z + 1, hi, am_up hi (b + 29) 0 1, ?_, ?_, am_up_eq _ _ _ _, fun hh => absurd hh (by decide), R1⟩
    · simp only [f_La_minutes, f_Rm_minutes, kg0 H, kp0 H, ko0 H, kg1 H, kp1 H, ko1 H, kg2 H, kp2 H, ko2 H, kg3 H, kp3 H, ko3 H, kg4 H, kp4 H, ko4 H, kr0_0 H, kr0_1 H, kr0_2 H, kr0_3 H, kr1_0 H, kr3_0 H, kr4_5 H, kr4_6 H, kr7_0 H, kr0_4 H, kr0_5 H, kal H, if_pos h1, Option.bind_some, am_th]
      rfl
    · have H := HM
      simp only [f_Mo_minutes, s_Mo_minutes_11, s_Mo_minutes_16, mg H, mp H, mo H, mr1 H, mr6 H, mr7 H, mr8 H, mr10 H, mr11 H, mr12 H, mr13 H, mr14 H, mr15 H, mr16 H, mr17 H, mr18 H, mr19 H, mr20 H, mr25 H, if_pos h1, Option.bind_some, rf1 HM, i0_1, if_false]
  · by_cases h2 : p ≤ 60
    · obtain ⟨N, hN, rfl⟩ : ∃ N : Nat, N ≤ 60 ∧ p = nI N := nI_of2 (M := 60) (n := 60) rfl h1 h2
      obtain ⟨x, ex, cx, fx⟩ := e_minutes (z := z) H hA hC hN (by omega)
      have M1 := MX_0 (y := 0) (MX_1 hM fx (outO (y := (foldN (minS tg G D h n) (a, 0) 0 N).2)))
      generalize hy0 : am_up x (b + 46) 0 (foldN (minS tg G D h n) (a, 0) 0 N).2 = y0 at *
      obtain ⟨y, ey, dy, gy⟩ := m_minutes_loop (z := z) HM hA M1 hN (by omega)
      refine ⟨0, (foldN (minS tg G D h n) (a, 0) 0 N).2, z, y0, y, ?_, ?_, ?_, ?_, ?_⟩
      · simp only [f_La_minutes, kg0 H, kp0 H, ko0 H, kg1 H, kp1 H, ko1 H, kg2 H, kp2 H, ko2 H, kg3 H, kp3 H, ko3 H, kg4 H, kp4 H, ko4 H, kr0_0 H, kr0_1 H, kr0_2 H, kr0_3 H, kr1_0 H, kr3_0 H, kr4_5 H, kr4_6 H, kr7_0 H, kr0_4 H, kr0_5 H, kal H, ex, Option.bind_some, if_true, lp_out ho, hy0]
      · have H := HM
        simp only [f_Mo_minutes, s_Mo_minutes_16, mg H, mp H, mo H, mr1 H, mr6 H, mr7 H, mr8 H, mr10 H, mr11 H, mr12 H, mr13 H, mr14 H, mr15 H, mr16 H, mr17 H, mr18 H, mr19 H, mr20 H, mr25 H, if_neg h1, if_pos h2, Option.bind_some, rf0 HM, if_true, ey]
      · rw [gy.2.2, am_up_eq]
      · intro _
        rw [gy.1 (b + 46) (by omega), am_up_na (by omega), ← hy0, am_up_eq]
      · exact RR_mk H HM ho cx fx (hi1' := y0) (fun q hq => by rw [← hy0]; exact outO q hq) dy (frW_0 gy) (minS_A hA 0 N (by omega)) (by rw [minS_T]; show a.2.1 + N ≤ Tb + 60; omega) hx
    · refine ⟨1, 0, z + 1, hi, am_up hi (b + 29) 0 1, ?_, ?_, am_up_eq _ _ _ _, fun hh => absurd hh (by decide), R1⟩
      · simp only [f_La_minutes, f_Rm_minutes, kg0 H, kp0 H, ko0 H, kg1 H, kp1 H, ko1 H, kg2 H, kp2 H, ko2 H, kg3 H, kp3 H, ko3 H, kg4 H, kp4 H, ko4 H, kr0_0 H, kr0_1 H, kr0_2 H, kr0_3 H, kr1_0 H, kr3_0 H, kr4_5 H, kr4_6 H, kr7_0 H, kr0_4 H, kr0_5 H, kal H, if_neg h1, if_neg h2, Option.bind_some, am_th]
        rfl
      · have H := HM
        simp only [f_Mo_minutes, s_Mo_minutes_11, s_Mo_minutes_16, mg H, mp H, mo H, mr1 H, mr6 H, mr7 H, mr8 H, mr10 H, mr11 H, mr12 H, mr13 H, mr14 H, mr15 H, mr16 H, mr17 H, mr18 H, mr19 H, mr20 H, mr25 H, if_neg h1, if_neg h2, Option.bind_some, rf1 HM, i0_1, if_false]
end FCALL
