-- needs 56 57 58 59 60 61 62 63 64 65 66 67 68 69
/-! minutes, in the reference -/
section FMMIN
variable {M z n : Nat} {sh : am_S} {hi hi2 : am_I} {hr : am_R} {G : Nat → Int} {D : Int} {h : Nat} {v : Nat → Nat → Int32} {T E R : Nat} {e s tg : Int} {md : Int32}
def frN (M : Nat) (hi x : am_I) : Prop := (∀ q, q < M ∨ M + 16 < q ∨ q = M + 1 → x q = hi q) ∧ x M 2 = hi M 2 ∧ x M 0 = hi M 0
theorem frN.rf : frN M hi hi := ⟨fun _ _ => rfl, rfl, rfl⟩
theorem frN.tr {x y : am_I} (h1 : frN M hi x) (h2 : frN M x y) : frN M hi y := ⟨fun q hq => (h2.1 q hq).trans (h1.1 q hq), h2.2.1.trans h1.2.1, h2.2.2.trans h1.2.2⟩
theorem frN.up {x : am_I} {k : Nat} {y : Int32} (h1 : frN M hi x) (hk : k ≠ 2 ∧ k ≠ 0) : frN M hi (am_up x M k y) := ⟨fun q hq => by
  funext j
  rw [am_up_na (by omega), h1.1 q hq], by rw [am_up_nk (by omega)]; exact h1.2.1, by rw [am_up_nk (by omega)]; exact h1.2.2⟩
theorem frN.ar {x : am_I} {a k : Nat} {y : Int32} (h1 : frN M hi x) (ha : M + 2 ≤ a) (ha2 : a ≤ M + 16) : frN M hi (am_up x a k y) := ⟨fun q hq => by
  funext j
  rw [am_up_na (by omega), h1.1 q hq], by rw [am_up_na (by omega)]; exact h1.2.1, by rw [am_up_na (by omega)]; exact h1.2.2⟩
theorem frN_M {x : am_I} (h1 : frM M hi x) : frN M hi x := ⟨fun q hq => h1 q (by omega), by rw [h1 M (by omega)], by rw [h1 M (by omega)]⟩
/-- the same, what was thrown aside -/
def frW (M : Nat) (hi x : am_I) : Prop := (∀ q, q < M ∨ M + 16 < q ∨ q = M + 1 → x q = hi q) ∧ x M 2 = hi M 2
theorem frW_0 {x : am_I} {y : Int32} (h1 : frN M (am_up hi M 0 y) x) : frW M hi x := ⟨fun q hq => by
  rw [h1.1 q hq]
  funext j
  rw [am_up_na (by omega)], by rw [h1.2.1, am_up_nk (by decide)]⟩
theorem MR_b {k : Nat} {y : Int32} (hR : MR M hi T e s tg G D h n v) (h9 : k ≠ 9) (h21 : k ≠ 21) (h23 : k ≠ 23) (h24 : k ≠ 24) (h26 : k ≠ 26) (h27 : k ≠ 27) (h28 : k ≠ 28) : MR M (am_up hi M k y) T e s tg G D h n v := by
  obtain ⟨r1, r2, r3, r4, ⟨r5, r5b, r5c⟩, r6, r7⟩ := hR
  refine ⟨by rw [am_up_nk (by omega)]; exact r1, by rw [am_up_nk (by omega)]; exact r2, by rw [am_up_nk (by omega)]; exact r3, by rw [am_up_nk (by omega)]; exact r4, ⟨fun j hj => by rw [am_up_na (by omega)]; exact r5 j hj, by rw [am_up_nk (by omega)]; exact r5b, by rw [am_up_nk (by omega)]; exact r5c⟩, by rw [am_up_nk (by omega)]; exact r6, by rw [vM_M]; exact r7⟩
theorem MR_T {T2 : Nat} (hR : MR M hi T e s tg G D h n v) : MR M (am_up hi M 21 (nI T2)) T2 e s tg G D h n v := by
  obtain ⟨r1, r2, r3, r4, ⟨r5, r5b, r5c⟩, r6, r7⟩ := hR
  refine ⟨am_up_eq _ _ _ _, by rw [am_up_nk (by omega)]; exact r2, by rw [am_up_nk (by omega)]; exact r3, by rw [am_up_nk (by omega)]; exact r4, ⟨fun j hj => by rw [am_up_na (by omega)]; exact r5 j hj, by rw [am_up_nk (by omega)]; exact r5b, by rw [am_up_nk (by omega)]; exact r5c⟩, by rw [am_up_nk (by omega)]; exact r6, by rw [vM_M]; exact r7⟩
theorem MR_e {e2 : Int} (hR : MR M hi T e s tg G D h n v) : MR M (am_up hi M 23 (iI e2)) T e2 s tg G D h n v := by
  obtain ⟨r1, r2, r3, r4, ⟨r5, r5b, r5c⟩, r6, r7⟩ := hR
  refine ⟨by rw [am_up_nk (by omega)]; exact r1, am_up_eq _ _ _ _, by rw [am_up_nk (by omega)]; exact r3, by rw [am_up_nk (by omega)]; exact r4, ⟨fun j hj => by rw [am_up_na (by omega)]; exact r5 j hj, by rw [am_up_nk (by omega)]; exact r5b, by rw [am_up_nk (by omega)]; exact r5c⟩, by rw [am_up_nk (by omega)]; exact r6, by rw [vM_M]; exact r7⟩
theorem MR_s {s2 : Int} (hR : MR M hi T e s tg G D h n v) : MR M (am_up hi M 24 (iI s2)) T e s2 tg G D h n v := by
  obtain ⟨r1, r2, r3, r4, ⟨r5, r5b, r5c⟩, r6, r7⟩ := hR
  refine ⟨by rw [am_up_nk (by omega)]; exact r1, by rw [am_up_nk (by omega)]; exact r2, am_up_eq _ _ _ _, by rw [am_up_nk (by omega)]; exact r4, ⟨fun j hj => by rw [am_up_na (by omega)]; exact r5 j hj, by rw [am_up_nk (by omega)]; exact r5b, by rw [am_up_nk (by omega)]; exact r5c⟩, by rw [am_up_nk (by omega)]; exact r6, by rw [vM_M]; exact r7⟩
theorem m_back (H : Mst M sh hr) (hA : AB T e s tg G D h n v) (hR : MR M hi T e s tg G D h n v) (hE : hi M 30 = nI E) : ∃ x, f_Mo_goHome M (z, sh, hi, hr) = some (0, (z, sh, x, hr)) ∧ MX M x tg G D h n (backP T E e s h n v) ∧ frN M hi x := by
  have an := hA.2.2.2.2.2.1
  obtain ⟨y, ey, fy, vy⟩ := m_goHome (z := z) H an hR.2.2.2.2.2.1
  have hv := hR.2.2.2.2.2.2
  have r := MR_fr hR fy
  rw [vy, hv] at r
  have h27 : hi M 27 = nI h := hR.2.2.2.2.1.2.1
  rw [h27] at ey
  refine ⟨_, ey, ⟨?_, ?_, ?_, ?_⟩, ?_⟩
  · rw [am_up_nk (by decide), am_up_eq]; rfl
  · rw [am_up_nk (by decide), am_up_nk (by decide), fy M (by omega)]; exact hE
  · intro _; exact am_up_eq _ _ _ _
  · exact MR_b (MR_b r (by decide) (by decide) (by decide) (by decide) (by decide) (by decide) (by decide)) (by decide) (by decide) (by decide) (by decide) (by decide) (by decide) (by decide)
  · exact ((frN_M fy).up (by decide)).up (by decide)
theorem m_go (H : Mst M sh hr) (hA : AB T e s tg G D h n v) (hR : MR M hi T e s tg G D h n v) (hE : hi M 30 = nI E) : ∃ x, f_Mo_startAll M (z, sh, hi, hr) = some ((goP T E e s G D h n v).2, (z, sh, x, hr)) ∧ MX M x tg G D h n (goP T E e s G D h n v).1 ∧ frN M hi x := by
  obtain ⟨y, ey, cy, fy⟩ := m_start_all (z := z) H hA hR
  unfold goP
  refine ⟨_, ey, ⟨am_up_eq _ _ _ _, ?_, ?_, MR_b cy (by decide) (by decide) (by decide) (by decide) (by decide) (by decide) (by decide)⟩, (frN_M fy).up (by decide)⟩
  · rw [am_up_nk (by decide), fy M (by omega)]; exact hE
  · simp only []
    intro hh
    split at hh
    · exact absurd hh (by decide)
    · exact absurd hh (by decide)
theorem m_minute (H : Mst M sh hr) {a : Int32 × Nat × Nat × Nat × Int × Int × (Nat → Nat → Int32)} (hA : AX tg G D h n a) (hX : MX M hi tg G D h n a) (hT : a.2.1 + 1 < 500000) : ∃ x, f_Mo_minute M (z, sh, hi, hr) = some ((minP tg G D h n a).2, (z, sh, x, hr)) ∧ MX M x tg G D h n (minP tg G D h n a).1 ∧ frN M hi x := by
  obtain ⟨md, T, E, R, e, s, v⟩ := a
  obtain ⟨a1, a2, hA'⟩ := hA
  obtain ⟨x6, x8, x9, hR⟩ := hX
  simp only [] at *
  obtain ⟨aT, ae, as, at', aB, an, aI⟩ := hA'
  have eT : hi M 21 + 1 = nI (T + 1) := by rw [hR.1, n_s]
  have c1 := MR_T (T2 := T + 1) hR
  have f1 : frN M hi (am_up hi M 21 (nI (T + 1))) := frN.rf.up (by decide)
  have m1 : (am_up hi M 21 (nI (T + 1))) M 22 = md := by rw [am_up_nk (by decide)]; exact x6
  have E1 : (am_up hi M 21 (nI (T + 1))) M 30 = nI E := by rw [am_up_nk (by decide)]; exact x8
  have R1 : md = 2 → (am_up hi M 21 (nI (T + 1))) M 29 = nI R := fun hh => by rw [am_up_nk (by decide)]; exact x9 hh
  generalize hy : am_up hi M 21 (nI (T + 1)) = y at *
  unfold minP
  simp only []
  by_cases h1 : md = 1
  · rw [if_pos h1]
    obtain ⟨⟨p, p1, p2', p3, p4⟩, ⟨q, q1, q2, q3, q4, q5⟩⟩ := sums an aI
    rw [← p1, ← q1]
    have hv := c1.2.2.2.2.2.2
    obtain ⟨w, ew, fw, vw⟩ := m_age (z := z) H an c1.2.2.2.2.2.1 aB c1.2.2.2.2.1 (m := T + 1) (p := p) (q := q) (by omega) c1.1 c1.2.1 c1.2.2.2.1 c1.2.2.1 ae at' as (by rw [hv]; exact p4) (by rw [hv]; exact q5 s) ⟨p2', p3⟩ ⟨q2, q3⟩ (by rw [hv]; exact fun i hi => old_ok (aI i hi))
    have c2 := MR_fr (MR_s (s2 := min 500 (s + q)) (MR_e (e2 := passF e (gainF G tg (T + 1)) p) c1)) fw
    rw [vw, hv] at c2
    have c2' : MR M w (T + 1) (passF e (gainF G tg (T + 1)) p) (min 500 (s + q)) tg G D h n (mapV aOlderR n v) := c2
    have E2 : w M 30 = nI E := by rw [fw M (by omega), am_up_nk (by decide), am_up_nk (by decide)]; exact E1
    have f2 : frN M hi w := (f1.up (k := 23) (by decide)).up (k := 24) (by decide) |>.tr (frN_M fw)
    have i5 := inv_mapV (g := aOlderR) (n := n) (fun i _ hh => inv_older hh) aI
    have i6 := (itS_rel (t := nI (T + 1) - nI E) ⟨fun i hi k hk _ => (rfl : mapV aOlderR n v i k = mapV aOlderR n v i k), i5⟩).2
    obtain ⟨u, eu, fu, vu⟩ := m_skip (z := z) (t := nI (T + 1) - nI E) H an c2'.2.2.2.2.2.1 (by rw [c2'.1, E2])
    have c3 := MR_fr c2' fu
    rw [vu, c2'.2.2.2.2.2.2] at c3
    have E3 : u M 30 = nI E := by rw [fu M (by omega)]; exact E2
    have f3 : frN M hi u := f2.tr (frN_M fu)
    have pb := pass_bd (e := e) (g := gainF G tg (T + 1)) (d := p)
    have A6 : AB (T + 1) (passF e (gainF G tg (T + 1)) p) (min 500 (s + q)) tg G D h n (itS n (nI (T + 1) - nI E) (mapV aOlderR n v)) := ⟨hT, pb, by omega, at', aB, an, i6⟩
    have s7 := m_isOpen (z := z) H aB c3.2.2.2.2.1 (m := T + 1) (l := passF e (gainF G tg (T + 1)) p) (by omega) pb.1 pb.2
    rw [op_ok aB pb.1 pb.2] at s7
    unfold planP
    generalize passF e (gainF G tg (T + 1)) p = e6 at *
    generalize min 500 (s + q) = q6 at *
    generalize itS n (nI (T + 1) - nI E) (mapV aOlderR n v) = v6 at *
    have red : f_Mo_minute M (z, sh, hi, hr) = (if b1 (opC G D h (T + 1) e6) = 0 then ((f_Mo_goHome M (z, sh, u, hr)).bind fun q11 => (some ((0 : Int32), q11.2))) else ((f_Mo_startAll M (z, sh, u, hr)).bind fun q10 => (some (q10.1, q10.2)))) := by
      simp only [f_Mo_minute, mg H, mp H, mo H, mr1 H, mr6 H, mr7 H, mr8 H, mr10 H, mr11 H, mr12 H, mr13 H, mr14 H, mr15 H, mr16 H, mr17 H, mr18 H, mr19 H, mr20 H, mr25 H, Option.bind_some, eT, hy, m1, h1, i0_1, if_false, if_neg (show ¬ (1 : Int32) = 2 by decide), ew, eu, c3.2.1, c3.1, s7]
    rw [red]
    rcases Bool.eq_false_or_eq_true (opC G D h (T + 1) e6) with ho | ho
    · rw [ho, if_neg (by decide), if_pos rfl]
      obtain ⟨x, ex, cx, fx⟩ := m_go (z := z) H A6 c3 E3
      refine ⟨x, ?_, cx, f3.tr fx⟩
      rw [ex]
      rfl
    · rw [ho, if_pos (by decide), if_neg (by decide)]
      obtain ⟨x, ex, cx, fx⟩ := m_back (z := z) H A6 c3 E3
      refine ⟨x, ?_, cx, f3.tr fx⟩
      rw [ex]
      rfl
  · rw [if_neg h1]
    by_cases h2 : md = 2
    · rw [if_pos h2]
      obtain ⟨r1, r2⟩ := a2 h2
      have s2 := m_draw (z := z) H aB c1.2.2.2.2.1 (m := T + 1) (d := D) (by omega) c1.1 c1.2.1 c1.2.2.2.1 ae at' (by have := aB.2.1; omega)
      have c2 := MR_e (e2 := passF e (gainF G tg (T + 1)) D) c1
      have f2 : frN M hi (am_up y M 23 (iI (passF e (gainF G tg (T + 1)) D))) := f1.up (by decide)
      have E2 : (am_up y M 23 (iI (passF e (gainF G tg (T + 1)) D))) M 30 = nI E := by rw [am_up_nk (by decide)]; exact E1
      have R2 : (am_up y M 23 (iI (passF e (gainF G tg (T + 1)) D))) M 29 = nI R := by rw [am_up_nk (by decide)]; exact R1 h2
      generalize am_up y M 23 (iI (passF e (gainF G tg (T + 1)) D)) = w at *
      have eR : nI R - 1 = nI (R - 1) := by
        obtain ⟨R', rfl⟩ : ∃ k, R = k + 1 := ⟨R - 1, by omega⟩
        exact nI_pred R'
      have c3 := MR_b (k := 29) (y := nI (R - 1)) c2 (by decide) (by decide) (by decide) (by decide) (by decide) (by decide) (by decide)
      have hD : y M 28 = iI D := c1.2.2.2.2.1.2.2
      have eq0 : (nI (R - 1) = (0 : Int32)) ↔ R - 1 = 0 := n_inj (a := R - 1) (b := 0) (by omega) (by omega)
      refine ⟨am_up (am_up w M 29 (nI (R - 1))) M 22 (if R - 1 = 0 then 0 else 2), ?_, ⟨am_up_eq _ _ _ _, ?_, ?_, ?_⟩, ?_⟩
      · simp only [f_Mo_minute, mg H, mp H, mo H, mr1 H, mr6 H, mr7 H, mr8 H, mr10 H, mr11 H, mr12 H, mr13 H, mr14 H, mr15 H, mr16 H, mr17 H, mr18 H, mr19 H, mr20 H, mr25 H, Option.bind_some, eT, hy, m1, h2, if_neg (show ¬ (2 : Int32) = 0 by decide), if_true, hD, s2, R2, eR, am_up_eq, eq0]
        by_cases h3 : R - 1 = 0
        · simp only [if_pos h3]
        · simp only [if_neg h3]
      · rw [am_up_nk (by decide), am_up_nk (by decide)]; exact E2
      · intro _; rw [am_up_nk (by decide), am_up_eq]
      · exact MR_b c3 (by decide) (by decide) (by decide) (by decide) (by decide) (by decide) (by decide)
      · exact (f2.up (by decide)).up (by decide)
    · rw [if_neg h2]
      have h0 : md = 0 := by rcases a1 with hh | hh | hh
                             · exact hh
                             · exact absurd hh h1
                             · exact absurd hh h2
      have s2 := m_draw (z := z) H aB c1.2.2.2.2.1 (m := T + 1) (d := 0) (by omega) c1.1 c1.2.1 c1.2.2.2.1 ae at' (by omega)
      rw [← i_0] at s2
      refine ⟨am_up y M 23 (iI (passF e (gainF G tg (T + 1)) 0)), ?_, ⟨?_, ?_, ?_, MR_e c1⟩, f1.up (by decide)⟩
      · simp only [f_Mo_minute, mg H, mp H, mo H, mr1 H, mr6 H, mr7 H, mr8 H, mr10 H, mr11 H, mr12 H, mr13 H, mr14 H, mr15 H, mr16 H, mr17 H, mr18 H, mr19 H, mr20 H, mr25 H, Option.bind_some, eT, hy, m1, h0, if_true, s2]
      · rw [am_up_nk (by decide)]; exact m1
      · rw [am_up_nk (by decide)]; exact E1
      · intro hh; exact absurd hh h2
theorem m_minutes_loop (H : Mst M sh hr) {a : Int32 × Nat × Nat × Nat × Int × Int × (Nat → Nat → Int32)} (hA : AX tg G D h n a) (hX : MX M hi tg G D h n a) {N : Nat} (hN : N ≤ 60) (hT : a.2.1 + 60 < 500000) : ∃ x, f_Mo_minutes_29 70 M (nI N) (0 : Int32) (0 : Int32) (z, sh, hi, hr) = some ((foldN (minS tg G D h n) (a, 0) 0 N).2, (z, sh, x, hr)) ∧ MX M x tg G D h n (foldN (minS tg G D h n) (a, 0) 0 N).1 ∧ frN M hi x := by
  obtain ⟨y, ⟨y1, y2, y3⟩, ey⟩ := loop_ex (bot := fun _ _ _ _ _ => none) (F := s_Mo_minutes_29) (fun K j (y : am_I × Int32) => K M (nI N) y.2 (nI j) (z, sh, y.1, hr)) (fun (y : am_I × Int32) => some (y.2, (z, sh, y.1, hr))) N (fun j y => y.2 = (foldN (minS tg G D h n) (a, 0) 0 j).2 ∧ MX M y.1 tg G D h n (foldN (minS tg G D h n) (a, 0) 0 j).1 ∧ frN M hi y.1) (by
    rintro K j ⟨y, c⟩ hj ⟨i1, i2, i3⟩
    simp only [] at i1 i2 i3
    obtain ⟨x, ex, cx, fx⟩ := m_minute (z := z) H (minS_A hA 0 j (by omega)) i2 (by rw [minS_T]; show a.2.1 + j + 1 < 500000; omega)
    refine ⟨(x, c + (minP tg G D h n (foldN (minS tg G D h n) (a, 0) 0 j).1).2), ⟨?_, ?_, i3.tr fx⟩, ?_⟩
    · rw [fold_snoc, i1]; rfl
    · rw [fold_snoc]; exact cx
    · simp only [s_Mo_minutes_29, mg H, mp H, mo H, mr1 H, mr6 H, mr7 H, mr8 H, mr10 H, mr11 H, mr12 H, mr13 H, mr14 H, mr15 H, mr16 H, mr17 H, mr18 H, mr19 H, mr20 H, mr25 H]
      rw [if_neg (by rw [n_le (by omega) (by omega)]; omega), ex]
      simp only [Option.bind_some, n_s]) (by
    rintro K ⟨y, c⟩ _
    simp only [s_Mo_minutes_29]
    rw [if_pos (by rw [n_le (by omega) (by omega)]; omega)]) N 0 (hi, 0) 70 (by omega) (by omega) ⟨rfl, hX, frN.rf⟩
  refine ⟨y.1, ?_, y2, y3⟩
  simp only [f_Mo_minutes_29]
  rw [← y1]
  exact ey
end FMMIN
