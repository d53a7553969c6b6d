-- needs 56 57 58 59 60 61 62 63 64 65 66 67 68
/-! minutes, in the class -/
def minS (tg : Int) (G : Nat → Int) (D : Int) (h n : Nat) (x : (Int32 × Nat × Nat × Nat × Int × Int × (Nat → Nat → Int32)) × Int32) (_ : Nat) : (Int32 × Nat × Nat × Nat × Int × Int × (Nat → Nat → Int32)) × Int32 := ((minP tg G D h n x.1).1, x.2 + (minP tg G D h n x.1).2)
theorem inv_start2 {T : Nat} {e s : Int} {G : Nat → Int} {D : Int} {h n : Nat} {v : Nat → Nat → Int32} (hI : inv n v) : inv n (foldN (startG T e s G D h n) (v, 0) 0 n).1 := start_inv hI
theorem minP_T {tg : Int} {G : Nat → Int} {D : Int} {h n : Nat} (a : Int32 × Nat × Nat × Nat × Int × Int × (Nat → Nat → Int32)) : (minP tg G D h n a).1.2.1 = a.2.1 + 1 := by
  unfold minP planP goP backP
  split
  · split <;> rfl
  · split <;> rfl
theorem minP_A {tg : Int} {G : Nat → Int} {D : Int} {h n : Nat} {a : Int32 × Nat × Nat × Nat × Int × Int × (Nat → Nat → Int32)} (hA : AX tg G D h n a) (hT : a.2.1 + 1 < 500000) : AX tg G D h n (minP tg G D h n a).1 := by
  obtain ⟨md, T, E, R, e, s, v⟩ := a
  obtain ⟨a1, a2, aT, ae, as, at', aB, an, aI⟩ := hA
  simp only [] at *
  unfold minP
  simp only []
  have pb : ∀ d, 0 ≤ passF e (gainF G tg (T + 1)) d ∧ passF e (gainF G tg (T + 1)) d ≤ 1000 := fun d => pass_bd
  obtain ⟨-, ⟨q, q1, q2, q3, q4, q5⟩⟩ := sums an aI
  by_cases h1 : md = 1
  · rw [if_pos h1]
    rw [← q1]
    have i5 := inv_mapV (g := aOlderR) (n := n) (fun i _ hh => inv_older hh) aI
    have i6 := (itS_rel (t := nI (T + 1) - nI E) ⟨fun i hi k hk _ => (rfl : mapV aOlderR n v i k = mapV aOlderR n v i k), i5⟩).2
    have sb : 0 ≤ min 500 (s + q) ∧ min 500 (s + q) ≤ 500 := by omega
    unfold planP
    split
    · unfold goP
      refine ⟨?_, ?_, hT, pb _, sb, at', aB, an, start_inv i6⟩
      · simp only []
        split
        · exact Or.inr (Or.inl rfl)
        · exact Or.inl rfl
      · simp only []
        intro hh
        split at hh
        · exact absurd hh (by decide)
        · exact absurd hh (by decide)
    · unfold backP
      exact ⟨Or.inr (Or.inr rfl), fun _ => aB.2.2, hT, pb _, sb, at', aB, an, inv_mapV (fun i _ hh => inv_give hh) i6⟩
  · rw [if_neg h1]
    by_cases h2 : md = 2
    · rw [if_pos h2]
      obtain ⟨r1, r2⟩ := a2 h2
      refine ⟨?_, ?_, hT, pb _, as, at', aB, an, aI⟩
      · simp only []
        split
        · exact Or.inl rfl
        · exact Or.inr (Or.inr rfl)
      · simp only []
        intro hh
        split at hh
        · exact absurd hh (by decide)
        · exact ⟨by omega, by omega⟩
    · rw [if_neg h2]
      exact ⟨a1, fun hh => absurd hh h2, hT, pb _, as, at', aB, an, aI⟩
section FMIN2
variable {b P Q M z n : Nat} {sh : am_S} {hi hi2 : am_I} {hr : am_R} {G : Nat → Int} {D : Int} {h : Nat} {tg : Int}
theorem e_minute (H : Cst b P Q sh hr) {a : Int32 × Nat × Nat × Nat × Int × Int × (Nat → Nat → Int32)} (hA : AX tg G D h n a) (hX : CX b P hi tg G D h n a) (hT : a.2.1 + 1 < 500000) (K : Nat → Int32 → Int32 → Int32 → am_w → Option (Int32 × Nat × am_w)) (N c k : Int32) (hk : ¬ N ≤ k) : ∃ x, s_Rm_minutes_22 K b N c k (z, sh, hi, hr) = K b N (c + (minP tg G D h n a).2) (k + 1) (z, sh, x, hr) ∧ CX b P x tg G D h n (minP tg G D h n a).1 ∧ frC b hi x := by
  obtain ⟨md, T, E, R, e, s, v⟩ := a
  obtain ⟨a1, a2, hA'⟩ := hA
  obtain ⟨x6, x8, x9, hR⟩ := hX
  simp only [] at *
  obtain ⟨aT, ae, as, at', aB, an, aI⟩ := hA'
  have p2 := k_P2 H
  have eT : hi b 7 + 1 = nI (T + 1) := by rw [hR.1, n_s]
  have c1 := CR_T (T2 := T + 1) H hR
  have f1 : frC b hi (am_up hi b 7 (nI (T + 1))) := frC.rf.up (by omega)
  have m1 : (am_up hi b 7 (nI (T + 1))) b 6 = md := by rw [am_up_nk (by decide)]; exact x6
  have E1 : (am_up hi b 7 (nI (T + 1))) b 8 = nI E := by rw [am_up_nk (by decide)]; exact x8
  have R1 : md = 2 → (am_up hi b 7 (nI (T + 1))) b 9 = nI R := fun hh => by rw [am_up_nk (by decide)]; exact x9 hh
  have st : s_Rm_minutes_22 K b N c k (z, sh, hi, hr) = (if md = 1 then ((f_Rm_passInPlan b (z, sh, am_up hi b 7 (nI (T + 1)), hr)).bind fun q9 => (K b N (c + q9.1) (k + (1 : Int32)) q9.2)) else (if md = 2 then ((f_Rm_passInReturn b (z, sh, am_up hi b 7 (nI (T + 1)), hr)).bind fun q8 => (K b N c (k + (1 : Int32)) q8.2)) else ((f_Supply_pass (b + 4) (nI (T + 1)) (0 : Int32) (z, sh, am_up hi b 7 (nI (T + 1)), hr)).bind fun q7 => (K b N c (k + (1 : Int32)) q7.2)))) := by
    simp only [s_Rm_minutes_22, if_neg hk, kg0 H, kp0 H, ko0 H, kg1 H, kp1 H, ko1 H, kg2 H, kp2 H, ko2 H, kg3 H, kp3 H, ko3 H, kg4 H, kp4 H, ko4 H, kr0_0 H, kr0_1 H, kr0_2 H, kr0_3 H, kr1_0 H, kr3_0 H, kr4_5 H, kr4_6 H, kr7_0 H, kr0_4 H, kr0_5 H, kal H, Option.bind_some, eT, m1, c1.1]
  rw [st]
  generalize am_up hi b 7 (nI (T + 1)) = y at *
  unfold minP
  simp only []
  by_cases h1 : md = 1
  · rw [if_pos h1, if_pos h1]
    obtain ⟨x, ex, cx, fx⟩ := e_passInPlan (z := z) (T := T + 1) H ⟨hT, ae, as, at', aB, an, aI⟩ c1 (by rw [m1, h1]) E1
    exact ⟨x, by rw [ex]; rfl, cx, f1.tr fx⟩
  · rw [if_neg h1, if_neg h1]
    by_cases h2 : md = 2
    · rw [if_pos h2, if_pos h2]
      obtain ⟨r1, r2⟩ := a2 h2
      have s2 := e_pass (z := z) H aB c1.2.2.2.2.1 (m := T + 1) (d := D) (by omega) c1.2.1 c1.2.2.2.1 ae at' (by have := aB.2.1; omega)
      have c2 := CR_e (e2 := passF e (gainF G tg (T + 1)) D) H c1
      have f2 : frC b hi (am_up y (b + 4) 0 (iI (passF e (gainF G tg (T + 1)) D))) := f1.up (by omega)
      have m2 : (am_up y (b + 4) 0 (iI (passF e (gainF G tg (T + 1)) D))) b 6 = md := by rw [am_up_na (by omega)]; exact m1
      have E2 : (am_up y (b + 4) 0 (iI (passF e (gainF G tg (T + 1)) D))) b 8 = nI E := by rw [am_up_na (by omega)]; exact E1
      have R2 : (am_up y (b + 4) 0 (iI (passF e (gainF G tg (T + 1)) D))) b 9 = nI R := by rw [am_up_na (by omega)]; exact R1 h2
      generalize am_up y (b + 4) 0 (iI (passF e (gainF G tg (T + 1)) D)) = w at *
      have eR : nI R - 1 = nI (R - 1) := by
        obtain ⟨R', rfl⟩ : ∃ k, R = k + 1 := ⟨R - 1, by omega⟩
        exact nI_pred R'
      have c3 := CR_b (k := 9) (y := nI (R - 1)) H c2 (by decide)
      have hD : y (b + 4) 4 = iI D := c1.2.2.2.2.1.2.2
      have lt0 : (0 : Int32) < nI (R - 1) ↔ 0 < R - 1 := n_lt (a := 0) (b := R - 1) (by omega) (by omega)
      by_cases h3 : R - 1 = 0
      · refine ⟨am_up (am_up w b 9 (nI (R - 1))) b 6 0, ?_, ⟨?_, ?_, ?_, ?_⟩, ?_⟩
        · have l0 : ¬ (0 : Int32) < nI (R - 1) := fun hh => by have := lt0.mp hh; omega
          simp only [f_Rm_passInReturn, kg0 H, kp0 H, ko0 H, kg1 H, kp1 H, ko1 H, kg2 H, kp2 H, ko2 H, kg3 H, kp3 H, ko3 H, kg4 H, kp4 H, ko4 H, kr0_0 H, kr0_1 H, kr0_2 H, kr0_3 H, kr1_0 H, kr3_0 H, kr4_5 H, kr4_6 H, kr7_0 H, kr0_4 H, kr0_5 H, kal H, Option.bind_some, c1.1, hD, s2, R2, eR, am_up_eq, if_neg l0, Int32.add_zero]
        · rw [am_up_eq]; simp only []; rw [if_pos h3]
        · rw [am_up_nk (by decide), am_up_nk (by decide)]; exact E2
        · simp only []; rw [if_pos h3]; intro hh; exact absurd hh (by decide)
        · exact CR_b H c3 (by decide)
        · exact (f2.up (by omega)).up (by omega)
      · refine ⟨am_up w b 9 (nI (R - 1)), ?_, ⟨?_, ?_, ?_, ?_⟩, ?_⟩
        · have l0 : (0 : Int32) < nI (R - 1) := lt0.mpr (by omega)
          simp only [f_Rm_passInReturn, kg0 H, kp0 H, ko0 H, kg1 H, kp1 H, ko1 H, kg2 H, kp2 H, ko2 H, kg3 H, kp3 H, ko3 H, kg4 H, kp4 H, ko4 H, kr0_0 H, kr0_1 H, kr0_2 H, kr0_3 H, kr1_0 H, kr3_0 H, kr4_5 H, kr4_6 H, kr7_0 H, kr0_4 H, kr0_5 H, kal H, Option.bind_some, c1.1, hD, s2, R2, eR, am_up_eq, if_pos l0, Int32.add_zero]
        · rw [am_up_nk (by decide), m2]; simp only []; rw [if_neg h3]; exact h2
        · rw [am_up_nk (by decide)]; exact E2
        · intro _; exact am_up_eq _ _ _ _
        · exact c3
        · exact f2.up (by omega)
    · rw [if_neg h2, if_neg h2]
      have s2 := e_pass (z := z) H aB c1.2.2.2.2.1 (m := T + 1) (d := 0) (by omega) c1.2.1 c1.2.2.2.1 ae at' (by omega)
      refine ⟨am_up y (b + 4) 0 (iI (passF e (gainF G tg (T + 1)) 0)), ?_, ⟨?_, ?_, ?_, CR_e H c1⟩, f1.up (by omega)⟩
      · rw [i_0, s2]
        simp only [Option.bind_some]
        rw [← i_0, Int32.add_zero]
      · rw [am_up_na (by omega)]; exact m1
      · rw [am_up_na (by omega)]; exact E1
      · intro hh; exact absurd hh h2
theorem minS_T {x : (Int32 × Nat × Nat × Nat × Int × Int × (Nat → Nat → Int32)) × Int32} : ∀ d j, (foldN (minS tg G D h n) x j d).1.2.1 = x.1.2.1 + d := by
  intro d
  induction d with
  | zero => intro j; rfl
  | succ d ih =>
    intro j
    rw [fold_snoc]
    show (minP tg G D h n (foldN (minS tg G D h n) x j d).1).1.2.1 = _
    rw [minP_T, ih]
    omega
theorem minS_A {a : Int32 × Nat × Nat × Nat × Int × Int × (Nat → Nat → Int32)} (hA : AX tg G D h n a) (c : Int32) : ∀ d, a.2.1 + d < 500000 → AX tg G D h n (foldN (minS tg G D h n) (a, c) 0 d).1 := by
  intro d
  induction d with
  | zero => intro _; exact hA
  | succ d ih =>
    intro hT
    rw [fold_snoc]
    exact minP_A (ih (by omega)) (by rw [minS_T]; show a.2.1 + d + 1 < 500000; omega)
theorem e_minutes (H : Cst b P Q sh hr) {a : Int32 × Nat × Nat × Nat × Int × Int × (Nat → Nat → Int32)} (hA : AX tg G D h n a) (hX : CX b P hi tg G D h n a) {N : Nat} (hN : N ≤ 60) (hT : a.2.1 + 60 < 500000) : ∃ x, f_Rm_minutes b (nI N) (z, sh, hi, hr) = some ((foldN (minS tg G D h n) (a, 0) 0 N).2, 0, (z, sh, x, hr)) ∧ CX b P x tg G D h n (foldN (minS tg G D h n) (a, 0) 0 N).1 ∧ frC b hi x := by
  obtain ⟨y, ⟨y1, y2, y3⟩, ey⟩ := loop_ex (bot := fun _ _ _ _ _ => none) (F := s_Rm_minutes_22) (fun K j (y : am_I × Int32) => K b (nI N) y.2 (nI j) (z, sh, y.1, hr)) (fun (y : am_I × Int32) => some (y.2, 0, (z, sh, y.1, hr))) N (fun j y => y.2 = (foldN (minS tg G D h n) (a, 0) 0 j).2 ∧ CX b P y.1 tg G D h n (foldN (minS tg G D h n) (a, 0) 0 j).1 ∧ frC b hi y.1) (by
    rintro K j ⟨y, c⟩ hj ⟨i1, i2, i3⟩
    simp only [] at i1 i2 i3
    obtain ⟨x, ex, cx, fx⟩ := e_minute (z := z) H (minS_A hA 0 j (by omega)) i2 (by rw [minS_T]; show a.2.1 + j + 1 < 500000; omega) K (nI N) c (nI j) (by rw [n_le (by omega) (by omega)]; omega)
    refine ⟨(x, c + (minP tg G D h n (foldN (minS tg G D h n) (a, 0) 0 j).1).2), ⟨?_, ?_, i3.tr fx⟩, ?_⟩
    · rw [fold_snoc, i1]; rfl
    · rw [fold_snoc]; exact cx
    · rw [ex, n_s]) (by
    rintro K ⟨y, c⟩ _
    simp only [s_Rm_minutes_22]
    rw [if_pos (by rw [n_le (by omega) (by omega)]; omega)]) N 0 (hi, 0) 70 (by omega) (by omega) ⟨rfl, hX, frC.rf⟩
  refine ⟨y.1, ?_, y2, y3⟩
  simp only [f_Rm_minutes, f_Rm_minutes_22]
  rw [if_neg (nI_pos (by omega)), if_pos (show nI N ≤ (60 : Int32) from (n_le (a := N) (b := 60) (by omega) (by omega)).mpr hN), ← y1]
  exact ey
end FMIN2
