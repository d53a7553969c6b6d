-- needs 56 57 58 59 60 61 62 63 64 65 66 67
/-! a minute, on both sides -/
def CX (b P : Nat) (hi : am_I) (tg : Int) (G : Nat → Int) (D : Int) (h n : Nat) (a : Int32 × Nat × Nat × Nat × Int × Int × (Nat → Nat → Int32)) : Prop := hi b 6 = a.1 ∧ hi b 8 = nI a.2.2.1 ∧ (a.1 = 2 → hi b 9 = nI a.2.2.2.1) ∧ CR b P hi a.2.1 a.2.2.2.2.1 a.2.2.2.2.2.1 tg G D h n a.2.2.2.2.2.2
def MX (M : Nat) (hi : am_I) (tg : Int) (G : Nat → Int) (D : Int) (h n : Nat) (a : Int32 × Nat × Nat × Nat × Int × Int × (Nat → Nat → Int32)) : Prop := hi M 22 = a.1 ∧ hi M 30 = nI a.2.2.1 ∧ (a.1 = 2 → hi M 29 = nI a.2.2.2.1) ∧ MR M hi a.2.1 a.2.2.2.2.1 a.2.2.2.2.2.1 tg G D h n a.2.2.2.2.2.2
def AX (tg : Int) (G : Nat → Int) (D : Int) (h n : Nat) (a : Int32 × Nat × Nat × Nat × Int × Int × (Nat → Nat → Int32)) : Prop := (a.1 = 0 ∨ a.1 = 1 ∨ a.1 = 2) ∧ (a.1 = 2 → 1 ≤ a.2.2.2.1 ∧ a.2.2.2.1 ≤ 20) ∧ AB a.2.1 a.2.2.2.2.1 a.2.2.2.2.2.1 tg G D h n a.2.2.2.2.2.2
def goP (T E : Nat) (e s : Int) (G : Nat → Int) (D : Int) (h n : Nat) (v : Nat → Nat → Int32) : (Int32 × Nat × Nat × Nat × Int × Int × (Nat → Nat → Int32)) × Int32 :=
  (((if anyN (busyB (foldN (startG T e s G D h n) (v, 0) 0 n).1) 0 n = true then 1 else 0), T, E, 0, e, s, (foldN (startG T e s G D h n) (v, 0) 0 n).1), (foldN (startG T e s G D h n) (v, 0) 0 n).2)
def backP (T E : Nat) (e s : Int) (h n : Nat) (v : Nat → Nat → Int32) : (Int32 × Nat × Nat × Nat × Int × Int × (Nat → Nat → Int32)) := (2, T, E, h, e, s, mapV aGive n v)
def planP (T E : Nat) (e s : Int) (G : Nat → Int) (D : Int) (h n : Nat) (v : Nat → Nat → Int32) : (Int32 × Nat × Nat × Nat × Int × Int × (Nat → Nat → Int32)) × Int32 :=
  if opC G D h T e = true then goP T E e s G D h n v else (backP T E e s h n v, 0)
def minP (tg : Int) (G : Nat → Int) (D : Int) (h n : Nat) (a : Int32 × Nat × Nat × Nat × Int × Int × (Nat → Nat → Int32)) : (Int32 × Nat × Nat × Nat × Int × Int × (Nat → Nat → Int32)) × Int32 :=
  if a.1 = 1 then planP (a.2.1 + 1) a.2.2.1 (passF a.2.2.2.2.1 (gainF G tg (a.2.1 + 1)) (foldN (sumR a.2.2.2.2.2.2 16) 0 0 n).toInt) (min 500 (a.2.2.2.2.2.1 + (foldN (sumR a.2.2.2.2.2.2 3) 0 0 n).toInt)) G D h n (itS n (nI (a.2.1 + 1) - nI a.2.2.1) (mapV aOlderR n a.2.2.2.2.2.2))
  else if a.1 = 2 then (((if a.2.2.2.1 - 1 = 0 then 0 else 2), a.2.1 + 1, a.2.2.1, a.2.2.2.1 - 1, passF a.2.2.2.2.1 (gainF G tg (a.2.1 + 1)) D, a.2.2.2.2.2.1, a.2.2.2.2.2.2), 0)
  else ((a.1, a.2.1 + 1, a.2.2.1, a.2.2.2.1, passF a.2.2.2.2.1 (gainF G tg (a.2.1 + 1)) 0, a.2.2.2.2.2.1, a.2.2.2.2.2.2), 0)
theorem pass_bd {e g d : Int} : 0 ≤ passF e g d ∧ passF e g d ≤ 1000 := by unfold passF; omega
theorem sums {n : Nat} {v : Nat → Nat → Int32} (hn : n ≤ 8) (hI : inv n v) : (∃ p : Int, p = (foldN (sumR v 16) 0 0 n).toInt ∧ 0 ≤ p ∧ p ≤ 10000 ∧ foldN (sumR v 16) 0 0 n = iI p) ∧ (∃ q : Int, q = (foldN (sumR v 3) 0 0 n).toInt ∧ 0 ≤ q ∧ q ≤ 10000 ∧ foldN (sumR v 3) 0 0 n = iI q ∧ ∀ s, foldN (sumR v 3) (iI s) 0 n = iI (s + q)) := by
  obtain ⟨p, p1, p2, p3⟩ := sum_bd (v := v) (k := 16) (B := 200) (by omega) n (fun i hi hr => (hI i hi).2.2.2.2.2.1 hr)
  obtain ⟨q, q1, q2, q3⟩ := sum_bd (v := v) (k := 3) (B := 99) (by omega) n (fun i hi _ => (hI i hi).2.2.1)
  have ep : foldN (sumR v 16) 0 0 n = iI p := by rw [i_0, p3, Int.zero_add]
  have eq : foldN (sumR v 3) 0 0 n = iI q := by rw [i_0, q3, Int.zero_add]
  have hn' : (n : Int) ≤ 8 := by omega
  have b1 : p ≤ 1600 := by
    have : (n : Int) * 200 ≤ 8 * 200 := Int.mul_le_mul_of_nonneg_right hn' (by omega)
    omega
  have b2 : q ≤ 800 := by
    have : (n : Int) * 99 ≤ 8 * 99 := Int.mul_le_mul_of_nonneg_right hn' (by omega)
    omega
  refine ⟨⟨p, ?_, p1, by omega, ep⟩, ⟨q, ?_, q1, by omega, eq, q3⟩⟩
  · rw [ep, iI_t (by omega) (by omega)]
  · rw [eq, iI_t (by omega) (by omega)]
section FMIN
variable {b P Q M z n : Nat} {sh : am_S} {hi hi2 : am_I} {hr : am_R} {G : Nat → Int} {D : Int} {h : Nat} {v : Nat → Nat → Int32} {T E R : Nat} {e s tg : Int} {md : Int32}
/-- cells that only type and submit write, and what is not the class's -/
def frC (b : Nat) (hi x : am_I) : Prop := ∀ q, q < b ∨ q = b + 1 ∨ q = b + 2 ∨ b + 29 ≤ q → x q = hi q
theorem frC.rf : frC b hi hi := fun _ _ => rfl
theorem frC.tr {x y : am_I} (h1 : frC b hi x) (h2 : frC b x y) : frC b hi y := fun q hq => (h2 q hq).trans (h1 q hq)
theorem frC.up {x : am_I} {a k : Nat} {y : Int32} (h1 : frC b hi x) (h2 : a = b ∨ (b + 3 ≤ a ∧ a < b + 29)) : frC b hi (am_up x a k y) := fun q hq => by
  funext j
  rw [am_up_na (by omega), h1 q hq]
theorem frC_P {x : am_I} (H : Cst b P Q sh hr) (h1 : frP P hi x) : frC b hi x := fun q hq => h1 q (by rcases k_PQ H with h | h <;> omega)
theorem frC_S {x : am_I} (H : Cst b P Q sh hr) (h1 : frS b P hi x) : frC b hi x := fun q hq => h1 q (by omega) (by omega) (by rcases k_PQ H with h | h <;> omega)
/-- the class's own fields may be written -/
theorem CR_b {k : Nat} {y : Int32} (H : Cst b P Q sh hr) (hR : CR b P hi T e s tg G D h n v) (hk : k ≠ 7) : CR b P (am_up hi b k y) T e s tg G D h n v := by
  obtain ⟨r1, r2, r3, r4, ⟨r5, r5b, r5c⟩, r6, r7, r8⟩ := hR
  have p2 := k_P2 H
  refine ⟨by rw [am_up_nk (by omega)]; exact r1, by rw [am_up_na (by omega)]; exact r2, by rw [am_up_na (by omega)]; exact r3, by rw [am_up_na (by omega)]; exact r4, ⟨fun j hj => by rw [am_up_na (by omega)]; exact r5 j hj, by rw [am_up_na (by omega)]; exact r5b, by rw [am_up_na (by omega)]; exact r5c⟩, fun j hj => by rw [am_up_na (by omega)]; exact r6 j hj, by rw [am_up_na (by omega)]; exact r7, ?_⟩
  intro i hi k hk h2
  unfold vC
  rw [am_up_na (by omega)]
  exact r8 i hi k hk h2
theorem CR_T {T2 : Nat} (H : Cst b P Q sh hr) (hR : CR b P hi T e s tg G D h n v) : CR b P (am_up hi b 7 (nI T2)) T2 e s tg G D h n v := by
  obtain ⟨r1, r2, r3, r4, ⟨r5, r5b, r5c⟩, r6, r7, r8⟩ := hR
  have p2 := k_P2 H
  refine ⟨am_up_eq _ _ _ _, by rw [am_up_na (by omega)]; exact r2, by rw [am_up_na (by omega)]; exact r3, by rw [am_up_na (by omega)]; exact r4, ⟨fun j hj => by rw [am_up_na (by omega)]; exact r5 j hj, by rw [am_up_na (by omega)]; exact r5b, by rw [am_up_na (by omega)]; exact r5c⟩, fun j hj => by rw [am_up_na (by omega)]; exact r6 j hj, by rw [am_up_na (by omega)]; exact r7, ?_⟩
  intro i hi k hk h2
  unfold vC
  rw [am_up_na (by omega)]
  exact r8 i hi k hk h2
theorem CR_e {e2 : Int} (H : Cst b P Q sh hr) (hR : CR b P hi T e s tg G D h n v) : CR b P (am_up hi (b + 4) 0 (iI e2)) T e2 s tg G D h n v := by
  obtain ⟨r1, r2, r3, r4, ⟨r5, r5b, r5c⟩, r6, r7, r8⟩ := hR
  have p2 := k_P2 H
  refine ⟨by rw [am_up_na (by omega)]; exact r1, am_up_eq _ _ _ _, by rw [am_up_nk (by omega)]; exact r3, by rw [am_up_nk (by omega)]; exact r4, ⟨fun j hj => by rw [am_up_na (by omega)]; exact r5 j hj, by rw [am_up_nk (by omega)]; exact r5b, by rw [am_up_nk (by omega)]; exact r5c⟩, fun j hj => by rw [am_up_na (by omega)]; exact r6 j hj, by rw [am_up_na (by omega)]; exact r7, ?_⟩
  intro i hi k hk h2
  unfold vC
  rw [am_up_na (by omega)]
  exact r8 i hi k hk h2
theorem CR_s {s2 : Int} (H : Cst b P Q sh hr) (hR : CR b P hi T e s tg G D h n v) : CR b P (am_up hi (b + 4) 1 (iI s2)) T e s2 tg G D h n v := by
  obtain ⟨r1, r2, r3, r4, ⟨r5, r5b, r5c⟩, r6, r7, r8⟩ := hR
  have p2 := k_P2 H
  refine ⟨by rw [am_up_na (by omega)]; exact r1, by rw [am_up_nk (by omega)]; exact r2, am_up_eq _ _ _ _, by rw [am_up_nk (by omega)]; exact r4, ⟨fun j hj => by rw [am_up_na (by omega)]; exact r5 j hj, by rw [am_up_nk (by omega)]; exact r5b, by rw [am_up_nk (by omega)]; exact r5c⟩, fun j hj => by rw [am_up_na (by omega)]; exact r6 j hj, by rw [am_up_na (by omega)]; exact r7, ?_⟩
  intro i hi k hk h2
  unfold vC
  rw [am_up_na (by omega)]
  exact r8 i hi k hk h2
theorem CR_P {x : am_I} {w : Nat → Nat → Int32} (H : Cst b P Q sh hr) (hR : CR b P hi T e s tg G D h n v) (hf : frP P hi x) (hw : agrV n (vC x P) w) : CR b P x T e s tg G D h n w := by
  obtain ⟨r1, r2, r3, r4, r5, r6, r7, r8⟩ := hR
  have p2 := k_P2 H
  unfold CR SupC SupN
  rw [hf b (by omega), hf (b + 4) (by omega), hf (b + 5) (by omega), hf (b + 6) (by omega), hf P (by omega)]
  exact ⟨r1, r2, r3, r4, r5, r6, r7, hw⟩
theorem e_back (H : Cst b P Q sh hr) (hA : AB T e s tg G D h n v) (hR : CR b P hi T e s tg G D h n v) (hE : hi b 8 = nI E) : ∃ x, f_Rm_beginReturn b (z, sh, hi, hr) = some (0, (z, sh, x, hr)) ∧ CX b P x tg G D h n (backP T E e s h n v) ∧ frC b hi x := by
  have hP := k_P H
  have an := hA.2.2.2.2.2.1
  have p2 := k_P2 H
  have c1 : CR b P (mapC aGive hi P n) T e s tg G D h n (mapV aGive n v) := by
    refine CR_P H hR (mapC_fr _ _ _ _ an) ?_
    rw [vC_mapC]
    exact agr_mapV (fun i _ => agr_give) hR.2.2.2.2.2.2.2
  have f1 : frC b hi (mapC aGive hi P n) := frC_P H (mapC_fr _ _ _ _ an)
  have hh : (mapC aGive hi P n) (b + 4) 3 = nI h := c1.2.2.2.2.1.2.1
  refine ⟨am_up (am_up (mapC aGive hi P n) b 6 2) b 9 (nI h), ?_, ⟨?_, ?_, ?_, ?_⟩, ?_⟩
  · simp only [f_Rm_beginReturn, kg0 H, kp0 H, ko0 H, kg1 H, kp1 H, ko1 H, kg2 H, kp2 H, ko2 H, kg3 H, kp3 H, ko3 H, kg4 H, kp4 H, ko4 H, kr0_0 H, kr0_1 H, kr0_2 H, kr0_3 H, kr1_0 H, kr3_0 H, kr4_5 H, kr4_6 H, kr7_0 H, kr0_4 H, kr0_5 H, kal H, po hP, e_giveUp hP an hR.2.2.2.2.2.2.1, Option.bind_some, am_up_na (show b + 4 ≠ b by omega), hh]
  · rw [am_up_nk (by decide), am_up_eq]; rfl
  · rw [am_up_nk (by decide), am_up_nk (by decide), mapC_fr aGive hi P n an b (by omega)]; exact hE
  · intro _; exact am_up_eq _ _ _ _
  · exact CR_b H (CR_b H c1 (by decide)) (by decide)
  · exact (f1.up (by omega)).up (by omega)
theorem e_go (H : Cst b P Q sh hr) (hA : AB T e s tg G D h n v) (hR : CR b P hi T e s tg G D h n v) (hm : hi b 6 = 1) (hE : hi b 8 = nI E) : ∃ x, f_Rm_startAndSettle b (z, sh, hi, hr) = some ((goP T E e s G D h n v).2, (z, sh, x, hr)) ∧ CX b P x tg G D h n (goP T E e s G D h n v).1 ∧ frC b hi x := by
  have p2 := k_P2 H
  obtain ⟨y, ey, cy, fy⟩ := e_start_all (z := z) H hA hR
  unfold goP
  have y6 : y b 6 = 1 := by rw [fy b (by omega) (by omega) (by omega)]; exact hm
  have y8 : y b 8 = nI E := by rw [fy b (by omega) (by omega) (by omega)]; exact hE
  rcases Bool.eq_false_or_eq_true (anyN (busyB (foldN (startG T e s G D h n) (v, 0) 0 n).1) 0 n) with hb | hb
  · rw [hb] at ey ⊢
    exact ⟨y, ey, ⟨y6, y8, fun hh => absurd (show (1 : Int32) = 2 from hh) (by decide), cy⟩, frC_S H fy⟩
  · rw [hb] at ey ⊢
    refine ⟨am_up y b 6 0, ey, ⟨am_up_eq _ _ _ _, by rw [am_up_nk (by decide)]; exact y8, fun hh => absurd (show (0 : Int32) = 2 from hh) (by decide), CR_b H cy (by decide)⟩, (frC_S H fy).up (by omega)⟩
theorem e_passInPlan (H : Cst b P Q sh hr) (hA : AB T e s tg G D h n v) (hR : CR b P hi T e s tg G D h n v) (hm : hi b 6 = 1) (hE : hi b 8 = nI E) : ∃ x, f_Rm_passInPlan b (z, sh, hi, hr) = some ((planP T E (passF e (gainF G tg T) (foldN (sumR v 16) 0 0 n).toInt) (min 500 (s + (foldN (sumR v 3) 0 0 n).toInt)) G D h n (itS n (nI T - nI E) (mapV aOlderR n v))).2, (z, sh, x, hr)) ∧ CX b P x tg G D h n (planP T E (passF e (gainF G tg T) (foldN (sumR v 16) 0 0 n).toInt) (min 500 (s + (foldN (sumR v 3) 0 0 n).toInt)) G D h n (itS n (nI T - nI E) (mapV aOlderR n v))).1 ∧ frC b hi x := by
  have hP := k_P H
  have p2 := k_P2 H
  obtain ⟨aT, ae, as, at', aB, an, aI⟩ := hA
  obtain ⟨⟨p, p1, p2', p3, p4⟩, ⟨q, q1, q2, q3, q4, q5⟩⟩ := sums an aI
  rw [← p1, ← q1]
  have d1 : foldN (sumR (vC hi P) 16) 0 0 n = iI p := by rw [sumR_cg hR.2.2.2.2.2.2.2 (by omega)]; exact p4
  have s1 := e_runningDraw (z := z) hP an hR.2.2.2.2.2.2.1
  rw [d1] at s1
  have s2 := e_pass (z := z) H aB hR.2.2.2.2.1 (m := T) (d := p) (by omega) hR.2.1 hR.2.2.2.1 ae at' ⟨p2', p3⟩
  have c2 := CR_e (e2 := passF e (gainF G tg T) p) H hR
  have f2 : frC b hi (am_up hi (b + 4) 0 (iI (passF e (gainF G tg T) p))) := frC.rf.up (by omega)
  have m2 : (am_up hi (b + 4) 0 (iI (passF e (gainF G tg T) p))) b 6 = 1 := by rw [am_up_na (by omega)]; exact hm
  have E2 : (am_up hi (b + 4) 0 (iI (passF e (gainF G tg T) p))) b 8 = nI E := by rw [am_up_na (by omega)]; exact hE
  generalize am_up hi (b + 4) 0 (iI (passF e (gainF G tg T) p)) = x2 at *
  have d3 : foldN (sumR (vC x2 P) 3) 0 0 n = iI q := by rw [sumR_cg c2.2.2.2.2.2.2.2 (by omega)]; exact q4
  have s3 := e_runningData (z := z) hP an c2.2.2.2.2.2.2.1
  rw [d3] at s3
  have s4 := e_keep (z := z) H c2.2.2.1 as ⟨q2, q3⟩
  have c4 := CR_s (s2 := min 500 (s + q)) H c2
  have f4 : frC b hi (am_up x2 (b + 4) 1 (iI (min 500 (s + q)))) := f2.up (by omega)
  have m4 : (am_up x2 (b + 4) 1 (iI (min 500 (s + q)))) b 6 = 1 := by rw [am_up_na (by omega)]; exact m2
  have E4 : (am_up x2 (b + 4) 1 (iI (min 500 (s + q)))) b 8 = nI E := by rw [am_up_na (by omega)]; exact E2
  generalize am_up x2 (b + 4) 1 (iI (min 500 (s + q))) = x4 at *
  have s5 := e_growOlder (z := z) hP an c4.2.2.2.2.2.2.1
  have i5 := inv_mapV (g := aOlderR) (n := n) (fun i _ hh => inv_older hh) aI
  have c5 : CR b P (mapC aOlderR x4 P n) T (passF e (gainF G tg T) p) (min 500 (s + q)) tg G D h n (mapV aOlderR n v) := by
    refine CR_P H c4 (mapC_fr _ _ _ _ an) ?_
    rw [vC_mapC]
    exact agr_mapV (fun i _ => agr_older) c4.2.2.2.2.2.2.2
  have f5 := f4.tr (frC_P H (mapC_fr aOlderR x4 P n an))
  have m5 : (mapC aOlderR x4 P n) b 6 = 1 := by rw [mapC_fr aOlderR x4 P n an b (by omega)]; exact m4
  have E5 : (mapC aOlderR x4 P n) b 8 = nI E := by rw [mapC_fr aOlderR x4 P n an b (by omega)]; exact E4
  generalize mapC aOlderR x4 P n = x5 at *
  have s6 := e_skip (z := z) (t := nI T - nI E) hP an c5.2.2.2.2.2.2.1
  have i6 := itS_rel (t := nI T - nI E) ⟨c5.2.2.2.2.2.2.2, i5⟩
  have c6 : CR b P (foldN (fun x _ => sweep P n (nI T - nI E) x) x5 0 n) T (passF e (gainF G tg T) p) (min 500 (s + q)) tg G D h n (itS n (nI T - nI E) (mapV aOlderR n v)) := by
    refine CR_P H c5 (skips_fr an x5) ?_
    rw [skips_v]
    exact i6.1
  have f6 := f5.tr (frC_P H (skips_fr (P := P) (t := nI T - nI E) an x5))
  have m6 : (foldN (fun x _ => sweep P n (nI T - nI E) x) x5 0 n) b 6 = 1 := by rw [skips_fr (P := P) an x5 b (by omega)]; exact m5
  have E6 : (foldN (fun x _ => sweep P n (nI T - nI E) x) x5 0 n) b 8 = nI E := by rw [skips_fr (P := P) an x5 b (by omega)]; exact E5
  generalize foldN (fun x _ => sweep P n (nI T - nI E) x) x5 0 n = x6 at *
  have pb := pass_bd (e := e) (g := gainF G tg T) (d := p)
  have s7 := e_isOpen (z := z) H c6.2.2.2.2.2.1 (m := T) (l := passF e (gainF G tg T) p) (by omega) (by omega) pb.2
  have A6 : AB T (passF e (gainF G tg T) p) (min 500 (s + q)) tg G D h n (itS n (nI T - nI E) (mapV aOlderR n v)) := ⟨aT, pb, by omega, at', aB, an, i6.2⟩
  unfold planP
  generalize passF e (gainF G tg T) p = e6 at *
  generalize min 500 (s + q) = q6 at *
  generalize itS n (nI T - nI E) (mapV aOlderR n v) = v6 at *
  have red : f_Rm_passInPlan b (z, sh, hi, hr) = (if b1 (opC G D h T e6) = 0 then ((f_Rm_beginReturn b (z, sh, x6, hr)).bind fun q22 => (some ((0 : Int32), q22.2))) else ((f_Rm_startAndSettle b (z, sh, x6, hr)).bind fun q21 => (some (q21.1, q21.2)))) := by
    simp only [f_Rm_passInPlan, kg0 H, kp0 H, ko0 H, kg1 H, kp1 H, ko1 H, kg2 H, kp2 H, ko2 H, kg3 H, kp3 H, ko3 H, kg4 H, kp4 H, ko4 H, kr0_0 H, kr0_1 H, kr0_2 H, kr0_3 H, kr1_0 H, kr3_0 H, kr4_5 H, kr4_6 H, kr7_0 H, kr0_4 H, kr0_5 H, kal H, po hP, Option.bind_some, hR.1, s1, s2, s3, s4, s5, c5.1, E5, s6, c6.2.1, c6.1, s7]
  rw [red]
  rcases Bool.eq_false_or_eq_true (opC G D h T e6) with ho | ho
  · rw [ho, if_neg (by decide), if_pos rfl]
    obtain ⟨x, ex, cx, fx⟩ := e_go (z := z) H A6 c6 m6 E6
    refine ⟨x, ?_, cx, f6.tr fx⟩
    rw [ex]
    rfl
  · rw [ho, if_pos (by decide), if_neg (by decide)]
    obtain ⟨x, ex, cx, fx⟩ := e_back (z := z) H A6 c6 E6
    refine ⟨x, ?_, cx, f6.tr fx⟩
    rw [ex]
    rfl
end FMIN
