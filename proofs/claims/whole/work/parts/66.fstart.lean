-- needs 56 57 58 59 60 61 62 63 64 65
/-! starting, on both sides -/
def CR (b P : Nat) (hi : am_I) (T : Nat) (e s tg : Int) (G : Nat → Int) (D : Int) (h n : Nat) (v : Nat → Nat → Int32) : Prop := hi b 7 = nI T ∧ hi (b + 4) 0 = iI e ∧ hi (b + 4) 1 = iI s ∧ hi (b + 4) 2 = iI tg ∧ SupC b hi G D h ∧ SupN b hi G D h ∧ hi P 1 = nI n ∧ agrV n (vC hi P) v
def MR (M : Nat) (hi : am_I) (T : Nat) (e s tg : Int) (G : Nat → Int) (D : Int) (h n : Nat) (v : Nat → Nat → Int32) : Prop := hi M 21 = nI T ∧ hi M 23 = iI e ∧ hi M 24 = iI s ∧ hi M 26 = iI tg ∧ SupM M hi G D h ∧ hi M 9 = nI n ∧ vM hi M = v
def AB (T : Nat) (e s tg : Int) (G : Nat → Int) (D : Int) (h n : Nat) (v : Nat → Nat → Int32) : Prop := T < 500000 ∧ (0 ≤ e ∧ e ≤ 1000) ∧ (0 ≤ s ∧ s ≤ 500) ∧ (-1 ≤ tg ∧ tg ≤ 100) ∧ SupB G D h ∧ n ≤ 8 ∧ inv n v
def mayB (T : Nat) (e s : Int) (G : Nat → Int) (D : Int) (h n : Nat) (v : Nat → Nat → Int32) (i : Nat) : Bool := readyB v n i && holdsB G D h T e s v (nI i) n
def startG (T : Nat) (e s : Int) (G : Nat → Int) (D : Int) (h n : Nat) (a : (Nat → Nat → Int32) × Int32) (i : Nat) : (Nat → Nat → Int32) × Int32 := if mayB T e s G D h n a.1 i = true then (cw a.1 i (aStart (nI T) (a.1 i)), a.2 + 1) else a
section FSTART
variable {b P Q M z n : Nat} {sh : am_S} {hi hi2 : am_I} {hr : am_R} {X : Int32} {G : Nat → Int} {D : Int} {h : Nat} {v c d : Nat → Nat → Int32} {T : Nat} {e s tg : Int}
theorem runX_cg {i : Nat} (h : agrV n c d) (hi : i < n) : runX c X i = runX d X i := by unfold runX; rw [agr_sk h hi (by omega : 10 < 15)]
theorem leftX_cg {i : Nat} (h : agrV n c d) (hi : i < n) : leftX c X i = leftX d X i := by unfold leftX; rw [agr_sk h hi (by omega : 1 < 15), agr_sk h hi (by omega : 12 < 15)]
theorem lastX_cg {i k : Nat} (h : agrV n c d) (hi : i < n) : lastX c X k i = lastX d X k i := by unfold lastX; rw [runX_cg h hi, leftX_cg h hi]
theorem heat_cg (h : agrV n c d) : foldN (heatG c X) 0 0 n = foldN (heatG d X) 0 0 n := by
  apply fold_congr
  intro j x _ hj
  unfold heatG
  rw [runX_cg h (by omega), agr_sk h (show j < n by omega) (by omega : 4 < 15)]
theorem data_cg (a : Int32) (h : agrV n c d) : foldN (dataG c X) a 0 n = foldN (dataG d X) a 0 n := by
  apply fold_congr
  intro j x _ hj
  unfold dataG
  rw [runX_cg h (by omega), leftX_cg h (by omega), agr_sk h (show j < n by omega) (by omega : 3 < 15)]
theorem dr_cg (h : agrV n c d) : drI c X n = drI d X n := by
  funext k
  unfold drI
  congr 1
  apply fold_congr
  intro j x _ hj
  unfold drawG
  rw [lastX_cg h (by omega), agr_sk h (show j < n by omega) (by omega : 2 < 15)]
theorem len_cg (h : agrV n c d) : lenX c X n = lenX d X n := by
  unfold lenX
  have : (fun k => anyN (lastX c X k) 0 n) = (fun k => anyN (lastX d X k) 0 n) := by
    funext k
    apply any_congr
    intro j _ hj
    exact lastX_cg h (by omega)
  rw [this]
theorem holds_cg (hA : agrV n c d) : holdsB G D h T e s c X n = holdsB G D h T e s d X n := by
  unfold holdsB
  rw [heat_cg hA, data_cg _ hA, dr_cg hA, len_cg hA]
theorem low_cg (hA : agrV n c d) : lowB G T e c X n = lowB G T e d X n := by
  unfold lowB
  rw [dr_cg hA, len_cg hA]
theorem inv_env (hI : inv n v) (hX : ∀ i, i < n → nI i = X → ¬ v i 10 = 1) : okEnv v X n := by
  intro i hi
  refine ⟨?_, hX i hi⟩
  intro hr
  obtain ⟨⟨lg, a1, a2, a3, a4⟩, -⟩ := hI i hi
  unfold leftX
  by_cases h1 : nI i = X
  · rw [if_pos h1, a3, Int32.sub_zero]
    exact ⟨lg, a2, rfl⟩
  · rw [if_neg h1]
    have h2 : v i 10 = 1 := by
      unfold runX at hr
      simpa [h1] using hr
    obtain ⟨a, ha, hb⟩ := a4 h2
    rw [a3, hb, pk_sub (by omega)]
    exact ⟨lg - a, by omega, rfl⟩
theorem inv_dr (hI : inv n v) : okDr v X n := fun i hi _ => (hI i hi).2.1
theorem env_cg (hA : agrV n c d) (hE : okEnv d X n) : okEnv c X n := by
  intro i hi
  rw [runX_cg hA hi, leftX_cg hA hi, agr_sk hA hi (by omega : 10 < 15)]
  exact hE i hi
theorem drk_cg (hA : agrV n c d) (hE : okDr d X n) : okDr c X n := by
  intro i hi
  rw [runX_cg hA hi, agr_sk hA hi (by omega : 2 < 15)]
  exact hE i hi
theorem none_x {i : Nat} (hi : i < 8) : ¬ nI i = (-1 : Int32) := by
  rw [iI_n, i_m1]
  simp (disch := omega) only [iI_inj]
  omega
theorem ready_w {i : Nat} (hr : readyB v n i = true) : ∀ j, j < 8 → i < 8 → nI j = nI i → ¬ v j 10 = 1 := by
  intro j hj hi he
  rw [n_inj (by omega) (by omega)] at he
  subst he
  unfold readyB at hr
  rw [Bool.and_eq_true, decide_eq_true_eq] at hr
  rw [hr.1]
  decide
theorem CR_fr (H : Cst b P Q sh hr) (hR : CR b P hi T e s tg G D h n v) (hf : frE b hi hi2) : CR b P hi2 T e s tg G D h n v := by
  obtain ⟨r1, r2, r3, r4, r5, r6, r7, r8⟩ := hR
  have pne : P ≠ b + 7 ∧ P ≠ b + 8 := by rcases k_PQ H with h | h <;> omega
  have f4 : hi2 (b + 4) = hi (b + 4) := hf _ (by omega) (by omega)
  have f5 : hi2 (b + 5) = hi (b + 5) := hf _ (by omega) (by omega)
  have f6 : hi2 (b + 6) = hi (b + 6) := hf _ (by omega) (by omega)
  unfold CR SupC SupN vC
  rw [hf b (by omega) (by omega), f4, f5, f6, hf P pne.1 pne.2]
  refine ⟨r1, r2, r3, r4, r5, r6, r7, ?_⟩
  intro i hi
  have := k_act H i
  simp only []
  rw [hf _ this.1 this.2]
  exact r8 i hi
theorem e_mayStart (H : Cst b P Q sh hr) (hA : AB T e s tg G D h n v) (hR : CR b P hi T e s tg G D h n v) {i : Nat} (hin : i < n) : ∃ hi2, f_Rm_mayStart b (nI i) (z, sh, hi, hr) = some (b1 (mayB T e s G D h n v i), (z, sh, hi2, hr)) ∧ frE b hi hi2 := by
  obtain ⟨aT, ae, as, at', aB, an, aI⟩ := hA
  have hR' := hR
  obtain ⟨r1, r2, r3, r4, r5, r6, r7, r8⟩ := hR
  have hP := k_P H
  have e1 := e_isReady (z := z) hP an r7 (show i < 8 by omega)
  rw [ready_cg r8 hin] at e1
  unfold mayB
  rcases Bool.eq_false_or_eq_true (readyB v n i) with hr1 | hr1
  · have hE : okEnv v (nI i) n := inv_env aI (fun j hj he => ready_w hr1 j (by omega) (by omega) he)
    obtain ⟨x, L, ex, hV⟩ := e_gather (z := z) H an r7 (env_cg r8 hE)
    obtain ⟨q1, q2, q3, q4, q5, q6, q7, q8⟩ := CR_fr H hR' hV.1
    have eh := e_holds (z := z) H an hV (drk_cg r8 (inv_dr aI)) aB q5 q6 q2 q3 ae (show T < 900000 by omega)
    rw [holds_cg r8] at eh
    refine ⟨x, ?_, hV.1⟩
    simp only [f_Rm_mayStart, kg0 H, kp0 H, ko0 H, kg1 H, kp1 H, ko1 H, kg2 H, kp2 H, ko2 H, kg3 H, kp3 H, ko3 H, kg4 H, kp4 H, ko4 H, kr0_0 H, kr0_1 H, kr0_2 H, kr0_3 H, kr1_0 H, kr3_0 H, kr4_5 H, kr4_6 H, kr7_0 H, kr0_4 H, kr0_5 H, kal H, po hP, e1, Option.bind_some, b1_0, hr1, Bool.true_eq_false, if_false, ex, q1, eh, b1_and, if_true, Bool.true_and]
  · refine ⟨hi, ?_, fun _ _ _ => rfl⟩
    simp only [f_Rm_mayStart, kg0 H, kp0 H, ko0 H, kg1 H, kp1 H, ko1 H, kg2 H, kp2 H, ko2 H, kg3 H, kp3 H, ko3 H, kg4 H, kp4 H, ko4 H, kr0_0 H, kr0_1 H, kr0_2 H, kr0_3 H, kr1_0 H, kr3_0 H, kr4_5 H, kr4_6 H, kr7_0 H, kr0_4 H, kr0_5 H, kal H, po hP, e1, Option.bind_some, b1_0, hr1, if_true, Bool.false_and]
    rfl
def frS (b P : Nat) (hi x : am_I) : Prop := ∀ q, q ≠ b + 7 → q ≠ b + 8 → (q < P + 2 ∨ P + 10 ≤ q) → x q = hi q
theorem k_P2 (H : Cst b P Q sh hr) : b + 9 ≤ P ∧ P ≤ b + 19 := by rcases k_PQ H with h | h <;> omega
theorem CR_cw (H : Cst b P Q sh hr) {i : Nat} {x y : Nat → Int32} (hi8 : i < 8) (hR : CR b P hi T e s tg G D h n v) (hxy : i < n → agr x y) : CR b P (cw hi (P + 2 + i) x) T e s tg G D h n (cw v i y) := by
  obtain ⟨r1, r2, r3, r4, r5, r6, r7, r8⟩ := hR
  have p2 := k_P2 H
  unfold CR SupC SupN
  rw [vC_cw, cw_n _ _ b _ (by omega), cw_n _ _ (b + 4) _ (by omega), cw_n _ _ (b + 5) _ (by omega), cw_n _ _ (b + 6) _ (by omega), cw_n _ _ P _ (by omega)]
  refine ⟨r1, r2, r3, r4, r5, r6, r7, ?_⟩
  intro j hj
  by_cases h1 : j = i
  · subst h1; rw [cw_e, cw_e]; exact hxy hj
  · rw [cw_n _ _ _ _ h1, cw_n _ _ _ _ h1]; exact r8 j hj
theorem start_inv (hI : inv n v) : inv n (foldN (startG T e s G D h n) (v, 0) 0 n).1 := by
  refine fold_inv (g := startG T e s G D h n) (fun a => inv n a.1) n 0 (v, 0) hI ?_
  intro k a _ hk ha
  unfold startG
  split
  · exact inv_cw ha (inv_start (ha k (by omega)))
  · exact ha
theorem e_start_all (H : Cst b P Q sh hr) (hA : AB T e s tg G D h n v) (hR : CR b P hi T e s tg G D h n v) : ∃ hi2, f_Rm_startAndSettle b (z, sh, hi, hr) = some ((foldN (startG T e s G D h n) (v, 0) 0 n).2, (z, sh, (if anyN (busyB (foldN (startG T e s G D h n) (v, 0) 0 n).1) 0 n = true then hi2 else am_up hi2 b 6 0), hr)) ∧ CR b P hi2 T e s tg G D h n (foldN (startG T e s G D h n) (v, 0) 0 n).1 ∧ frS b P hi hi2 := by
  have hP := k_P H
  have an := hA.2.2.2.2.2.1
  obtain ⟨y, ⟨y1, y2, y3⟩, ey⟩ := loop_ex (bot := fun _ _ _ _ => none) (F := s_Rm_startAndSettle_4) (fun K j (y : am_I × Int32) => K b y.2 (nI j) (z, sh, y.1, hr)) (fun (y : am_I × Int32) => some (y.2, (z, sh, (if anyN (busyB (foldN (startG T e s G D h n) (v, 0) 0 n).1) 0 n = true then y.1 else am_up y.1 b 6 0), hr))) n (fun j y => (y.2 = (foldN (startG T e s G D h n) (v, 0) 0 j).2 ∧ inv n (foldN (startG T e s G D h n) (v, 0) 0 j).1) ∧ CR b P y.1 T e s tg G D h n (foldN (startG T e s G D h n) (v, 0) 0 j).1 ∧ frS b P hi y.1) (by
    rintro K j ⟨y, c⟩ hj ⟨⟨i0, i1⟩, i2, i3⟩
    have hj8 : j < 8 := by omega
    simp only [] at i0 i2 i3
    rw [fold_snoc, Nat.zero_add]
    generalize foldN (startG T e s G D h n) (v, 0) 0 j = a at *
    have hA2 : AB T e s tg G D h n a.1 := ⟨hA.1, hA.2.1, hA.2.2.1, hA.2.2.2.1, hA.2.2.2.2.1, an, i1⟩
    obtain ⟨x, ex, fx⟩ := e_mayStart (z := z) H hA2 i2 hj
    have i4 := CR_fr H i2 fx
    have i3' : frS b P hi x := fun q h7 h8 hq => by rw [fx q h7 h8]; exact i3 q h7 h8 hq
    simp only [s_Rm_startAndSettle_4, kg0 H, kp0 H, ko0 H, kg1 H, kp1 H, ko1 H, kg2 H, kp2 H, ko2 H, kg3 H, kp3 H, ko3 H, kg4 H, kp4 H, ko4 H, kr0_0 H, kr0_1 H, kr0_2 H, kr0_3 H, kr1_0 H, kr3_0 H, kr4_5 H, kr4_6 H, kr7_0 H, kr0_4 H, kr0_5 H, kal H, pg hP, i2.2.2.2.2.2.2.1, Option.bind_some, n_le (a := n) (b := j) (by omega) (by omega), if_neg (Nat.not_le.mpr hj), ex, b1_0]
    unfold startG
    rcases Bool.eq_false_or_eq_true (mayB T e s G D h n a.1 j) with hm | hm
    · refine ⟨(cw x (P + 2 + j) (aStart (nI T) (x (P + 2 + j))), c + 1), ⟨⟨?_, ?_⟩, ?_, ?_⟩, ?_⟩
      · rw [if_pos hm, i0]
      · rw [if_pos hm]
        exact inv_cw i1 (inv_start (i1 j hj))
      · rw [if_pos hm]
        exact CR_cw H hj8 i4 (fun hj => agr_start (i4.2.2.2.2.2.2.2 j hj))
      · intro q h7 h8 hq
        simp only []
        rw [cw_n _ _ _ _ (by omega)]
        exact i3' q h7 h8 hq
      · simp only [hm, Bool.true_eq_false, if_false, pr hP, pa hP hj8, ao hP hj8, i4.1, e_start (ps hP hj8), Option.bind_some, n_s]
    · refine ⟨(x, c), ⟨⟨?_, ?_⟩, ?_, ?_⟩, ?_⟩
      · rw [if_neg (by rw [hm]; decide)]; exact i0
      · rw [if_neg (by rw [hm]; decide)]; exact i1
      · rw [if_neg (by rw [hm]; decide)]; exact i4
      · exact i3'
      · simp only [hm, if_true, n_s]) (by
    rintro K ⟨y, c⟩ ⟨⟨i0, i1⟩, i2, i3⟩
    simp only [] at i0 i2
    simp only [s_Rm_startAndSettle_4, kg0 H, kp0 H, ko0 H, kg1 H, kp1 H, ko1 H, kg2 H, kp2 H, ko2 H, kg3 H, kp3 H, ko3 H, kg4 H, kp4 H, ko4 H, kr0_0 H, kr0_1 H, kr0_2 H, kr0_3 H, kr1_0 H, kr3_0 H, kr4_5 H, kr4_6 H, kr7_0 H, kr0_4 H, kr0_5 H, kal H, pg hP, po hP, i2.2.2.2.2.2.2.1, Option.bind_some, n_le (a := n) (b := n) (by omega) (by omega), Nat.le_refl, if_true, e_isOver hP an i2.2.2.2.2.2.2.1, busy_cg i2.2.2.2.2.2.2.2, b1_0]
    rcases Bool.eq_false_or_eq_true (anyN (busyB (foldN (startG T e s G D h n) (v, 0) 0 n).1) 0 n) with hb | hb <;> simp [hb]) n 0 (hi, 0) 70 (by omega) (by omega) ⟨⟨rfl, hA.2.2.2.2.2.2⟩, hR, fun _ _ _ _ => rfl⟩
  refine ⟨y.1, ?_, y2, y3⟩
  simp only [f_Rm_startAndSettle, f_Rm_startAndSettle_4]
  rw [← y1.1]
  exact ey
end FSTART
