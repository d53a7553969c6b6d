-- needs 56 57 58 59 60 61 62 63 77 84 85 86 87
/-! what makes a plan unfit -/
theorem first_cases (p : Nat → Bool) : ∀ d j, (∀ k, j ≤ k → k < j + d → p k = false) ∨ ∃ k, j ≤ k ∧ k < j + d ∧ p k = true ∧ ∀ i, j ≤ i → i < k → p i = false := by
  intro d
  induction d with
  | zero => intro j; left; intro k h1 h2; omega
  | succ d ih =>
    intro j
    rcases Bool.eq_false_or_eq_true (p j) with h | h
    · right; exact ⟨j, by omega, by omega, h, fun i h1 h2 => by omega⟩
    · rcases ih (j + 1) with h1 | ⟨k, h1, h2, h3, h4⟩
      · left
        intro k h2 h3
        by_cases h5 : k = j
        · rw [h5]; exact h
        · exact h1 k (by omega) (by omega)
      · right
        refine ⟨k, by omega, by omega, h3, fun i h5 h6 => ?_⟩
        by_cases h7 : i = j
        · rw [h7]; exact h
        · exact h4 i (by omega) h6
def svF (cs : Nat → Nat → Int32) (j : Nat) : Nat := (cs j 0).toNatClampNeg
def LF (cs : Nat → Nat → Int32) (n : Nat) : Nat → Nat := Lf (Acs cs) n (svF cs) n
def ringB (cs : Nat → Nat → Int32) (n i : Nat) : Bool := tb (rcC (fun j => cs j 7) n i) i
def lateB (cs : Nat → Nat → Int32) (n i : Nat) : Bool := !decide (nI (LF cs n i) ≤ cs i 5)
def unfP (cs : Nat → Nat → Int32) (n : Nat) : Int32 := firstN (wrongB cs n) (fun i => nI (100 + i)) (firstN (ringB cs n) (fun i => nI (200 + i)) (firstN (lateB cs n) (fun i => nI (300 + i)) 0 0 n) 0 n) 0 n
def okc (c : Nat → Int32) : Prop := ∀ k, k < 7 → ∃ v : Nat, v ≤ 99 ∧ c k = nI v
theorem wrong_no {cs : Nat → Nat → Int32} {n i : Nat} (h : wrongB cs n i = false) (hc : okc (cs i)) : ∃ s l r : Nat, cs i 0 = nI s ∧ cs i 1 = nI l ∧ cs i 6 = nI r ∧ 1 ≤ s ∧ s ≤ l ∧ l ≤ 30 ∧ r ≤ 3 ∧ svF cs i = s := by
  obtain ⟨s, s1, s2⟩ := hc 0 (by omega)
  obtain ⟨l, l1, l2⟩ := hc 1 (by omega)
  obtain ⟨r, r1, r2⟩ := hc 6 (by omega)
  unfold wrongB at h
  simp only [Bool.or_eq_false_iff, decide_eq_false_iff_not] at h
  obtain ⟨⟨⟨⟨⟨h1, h2⟩, h3⟩, h4⟩, -⟩, -⟩ := h
  rw [s2] at h1 h3
  rw [l2] at h2 h3
  rw [r2] at h4
  have g1 : (nI s < (1 : Int32)) ↔ s < 1 := n_lt (a := s) (b := 1) (by omega) (by omega)
  have g2 : ((30 : Int32) < nI l) ↔ 30 < l := n_lt (a := 30) (b := l) (by omega) (by omega)
  have g3 : (nI l < nI s) ↔ l < s := n_lt (by omega) (by omega)
  have g4 : ((3 : Int32) < nI r) ↔ 3 < r := n_lt (a := 3) (b := r) (by omega) (by omega)
  rw [g1] at h1
  rw [g2] at h2
  rw [g3] at h3
  rw [g4] at h4
  refine ⟨s, l, r, s2, l2, r2, by omega, by omega, by omega, by omega, ?_⟩
  unfold svF
  rw [s2]
  exact nI_clamp (by omega)
section FUNF
variable {Q M z n i : Nat} {sh : am_S} {hi x base : am_I} {hr : am_R} {cs : Nat → Nat → Int32}
theorem sv_of (hc : ∀ j, j < n → okc (cs j)) (hw : ∀ j, j < n → wrongB cs n j = false) : ∀ j, j < n → cs j 0 = nI (svF cs j) ∧ svF cs j ≤ 30 := by
  intro j hj
  obtain ⟨s, l, r, h1, h2, h3, h4, h5, h6, h7, h8⟩ := wrong_no (hw j hj) (hc j hj)
  rw [h8]
  exact ⟨h1, by omega⟩
theorem unf_0 {cs : Nat → Nat → Int32} {n : Nat} (hn : n ≤ 8) (h : unfP cs n = 0) : (∀ j, j < n → wrongB cs n j = false) ∧ (∀ j, j < n → ringB cs n j = false) ∧ ∀ j, j < n → lateB cs n j = false := by
  have ne : ∀ k, 100 ≤ k → k < 400 → ¬ nI k = (0 : Int32) := fun k h1 h2 => nI_ne0 (by omega) (by omega)
  unfold unfP at h
  rcases first_cases (wrongB cs n) n 0 with h1 | ⟨k, k1, k2, k3, k4⟩
  · rw [first_no n 0 h1] at h
    rcases first_cases (ringB cs n) n 0 with h2 | ⟨k, k1, k2, k3, k4⟩
    · rw [first_no n 0 h2] at h
      rcases first_cases (lateB cs n) n 0 with h3 | ⟨k, k1, k2, k3, k4⟩
      · exact ⟨fun j hj => h1 j (by omega) (by omega), fun j hj => h2 j (by omega) (by omega), fun j hj => h3 j (by omega) (by omega)⟩
      · rw [first_is n 0 k k1 k2 k3 k4] at h
        exact absurd h (ne _ (by omega) (by omega))
    · rw [first_is n 0 k k1 k2 k3 k4] at h
      exact absurd h (ne _ (by omega) (by omega))
  · rw [first_is n 0 k k1 k2 k3 k4] at h
    exact absurd h (ne _ (by omega) (by omega))
theorem e_unfit (h : Pst Q sh hr) (hn : n ≤ 8) (hD : DC Q n cs x) (hc : ∀ j, j < n → okc (cs j)) (hE : c9 Q n (fun _ => 0) x) : ∃ y, f_Plan_findUnfit Q (z, sh, x, hr) = some (unfP cs n, (z, sh, y, hr)) ∧ fr9 Q x y ∧ (unfP cs n = 0 → c9 Q n (LF cs n) y) := by
  have a1 := loop_first (bot := fun _ _ _ => none) (F := s_Plan_findUnfit_2) (fun T j => T Q (nI j) (z, sh, x, hr)) (wrongB cs n) (fun j => some (nI (100 + j), (z, sh, x, hr))) (f_Plan_findUnfit_31 70 Q (0 : Int32) (z, sh, x, hr)) n (by
    intro T j hj
    simp only [s_Plan_findUnfit_2, pg h, po h, hD.1, Option.bind_some, n_le (a := n) (b := j) (by omega) (by omega), if_neg (Nat.not_le.mpr hj), e_wrong h hn hD hj, b1_0, n_s, show (100 : Int32) + nI j = nI (100 + j) from n_add 100 j]
    rcases Bool.eq_false_or_eq_true (wrongB cs n j) with h1 | h1 <;> simp [h1]) (by
    intro T
    simp only [s_Plan_findUnfit_2, pg h, hD.1, Option.bind_some, n_le (a := n) (b := n) (by omega) (by omega), Nat.le_refl, if_true]) n 0 70 (by omega) (by omega)
  have a2 : ∀ R, f_Plan_reckonEarliest Q (z, sh, x, hr) = R → f_Plan_findUnfit_31 70 Q (0 : Int32) (z, sh, x, hr) = firstN (ringB cs n) (fun j => some (nI (200 + j), (z, sh, x, hr))) (R.bind fun q3 => f_Plan_findUnfit_65 70 Q (0 : Int32) q3.2) 0 n := by
    intro R hR
    exact loop_first (bot := fun _ _ _ => none) (F := s_Plan_findUnfit_31) (fun T j => T Q (nI j) (z, sh, x, hr)) (ringB cs n) (fun j => some (nI (200 + j), (z, sh, x, hr))) (R.bind fun q3 => f_Plan_findUnfit_65 70 Q (0 : Int32) q3.2) n (by
      intro T j hj
      simp only [s_Plan_findUnfit_31, pg h, po h, hD.1, Option.bind_some, n_le (a := n) (b := j) (by omega) (by omega), if_neg (Nat.not_le.mpr hj), e_inRing h hn hD hj, b1_0, n_s, show (200 : Int32) + nI j = nI (200 + j) from n_add 200 j, ringB]
      rcases Bool.eq_false_or_eq_true (tb (rcC (fun j => cs j 7) n j) j) with h1 | h1 <;> simp [h1]) (by
      intro T
      simp only [s_Plan_findUnfit_31, pg h, po h, hD.1, Option.bind_some, n_le (a := n) (b := n) (by omega) (by omega), Nat.le_refl, if_true, hR]) n 0 70 (by omega) (by omega)
  have a1' : f_Plan_findUnfit Q (z, sh, x, hr) = _ := a1
  rw [a1']
  have un : unfP cs n = firstN (wrongB cs n) (fun i => nI (100 + i)) (firstN (ringB cs n) (fun i => nI (200 + i)) (firstN (lateB cs n) (fun i => nI (300 + i)) 0 0 n) 0 n) 0 n := rfl
  have rf9 : fr9 Q x x := ⟨fun _ _ => rfl, fun _ _ _ _ => rfl⟩
  have ne : ∀ k, 100 ≤ k → k < 400 → ¬ nI k = (0 : Int32) := fun k h1 h2 => nI_ne0 (by omega) (by omega)
  rcases first_cases (wrongB cs n) n 0 with w1 | ⟨k, k1, k2, k3, k4⟩
  · rw [first_no n 0 w1] at un ⊢
    rw [un]
    rcases first_cases (ringB cs n) n 0 with w2 | ⟨k, k1, k2, k3, k4⟩
    · have hs := sv_of hc (fun j hj => w1 j (by omega) (by omega))
      have hR : ∀ i, i < n → ¬ tb (rcC (fun j => cs j 7) n i) i = true := fun i hi hh => by have := w2 i (by omega) (by omega); unfold ringB at this; rw [this] at hh; cases hh
      obtain ⟨y, ey, fy, y9⟩ := e_reckon (z := z) (sv := svF cs) (rk := rnk (fun j => cs j 7) n) h hn hD hs hE (fun i j hi hj hA => rnk_lt (fun x y j hj => tb_or x y hj) hn hR hi hj hA) (fun i hi => rnk_n hR hi)
      rw [a2 _ ey, first_no n 0 w2, first_no n 0 w2]
      have hDy := fr9_D fy hn hD
      have Lb : ∀ j, j < n → LF cs n j ≤ 240 := fun j _ => by
        have := Lf_bd (A := Acs cs) (fun j hj => (hs j hj).2) n j
        unfold LF
        omega
      have a3 := loop_first (bot := fun _ _ _ => none) (F := s_Plan_findUnfit_65) (fun T j => T Q (nI j) (z, sh, y, hr)) (lateB cs n) (fun j => some (nI (300 + j), (z, sh, y, hr))) (some (0, (z, sh, y, hr))) n (by
        intro T j hj
        have hj8 : j < 8 := by omega
        have e9 : y (Q + 2 + j) 9 = nI (LF cs n j) := y9 j hj
        simp only [s_Plan_findUnfit_65, pg h, hDy.1, Option.bind_some, n_le (a := n) (b := j) (by omega) (by omega), if_neg (Nat.not_le.mpr hj), pr h, pa h hj8, ag h hj8, e9, hDy.2 j hj 5 (by omega), n_s, show (300 : Int32) + nI j = nI (300 + j) from n_add 300 j, lateB]
        by_cases h1 : nI (LF cs n j) ≤ cs j 5
        · simp [h1]
        · simp [h1]) (by
        intro T
        simp only [s_Plan_findUnfit_65, pg h, hDy.1, Option.bind_some, n_le (a := n) (b := n) (by omega) (by omega), Nat.le_refl, if_true]) n 0 70 (by omega) (by omega)
      refine ⟨y, ?_, fy, fun _ => y9⟩
      have a3' : f_Plan_findUnfit_65 70 Q (0 : Int32) (z, sh, y, hr) = _ := a3
      simp only [Option.bind_some]
      rw [a3']
      rcases first_cases (lateB cs n) n 0 with w3 | ⟨k, k1, k2, k3, k4⟩
      · rw [first_no n 0 w3, first_no n 0 w3]
      · rw [first_is n 0 k k1 k2 k3 k4, first_is n 0 k k1 k2 k3 k4]
    · rw [a2 _ rfl, first_is n 0 k k1 k2 k3 k4, first_is n 0 k k1 k2 k3 k4]
      exact ⟨x, rfl, rf9, fun hh => absurd hh (ne _ (by omega) (by omega))⟩
  · rw [first_is n 0 k k1 k2 k3 k4] at un ⊢
    rw [un]
    exact ⟨x, rfl, rf9, fun hh => absurd hh (ne _ (by omega) (by omega))⟩
def fr34 (M : Nat) (base x : am_I) : Prop := ∀ q, q ≠ M + 3 → q ≠ M + 4 → x q = base q
theorem DM_eq {y : am_I} (hD : DM M n cs x) (h0 : y M = x M) (h2 : y (M + 2) = x (M + 2)) : DM M n cs y := by
  unfold DM
  rw [h0, h2]
  exact hD
theorem m_unfit (H : Mst M sh hr) (hn : n ≤ 8) (hD : DM M n cs x) (hc : ∀ j, j < n → okc (cs j)) : ∃ y, f_Mo_unfit M (z, sh, x, hr) = some (unfP cs n, (z, sh, y, hr)) ∧ fr34 M x y ∧ (unfP cs n = 0 → c4M M n (LF cs n) y) := by
  obtain ⟨y1, ey1, fy1, ry1⟩ := m_rings (z := z) H hn hD
  have hD1 : DM M n cs y1 := DM_eq hD (fy1 _ (by omega)) (fy1 _ (by omega))
  have a1 := loop_first (bot := fun _ _ _ => none) (F := s_Mo_unfit_2) (fun T j => T M (nI j) (z, sh, x, hr)) (wrongB cs n) (fun j => some (nI (100 + j), (z, sh, x, hr))) (f_Mo_unfit_35 70 M (0 : Int32) (z, sh, y1, hr)) n (by
    intro T j hj
    simp only [s_Mo_unfit_2, mg H, mp H, mo H, mr1 H, mr6 H, mr7 H, mr8 H, mr10 H, mr11 H, mr12 H, mr13 H, mr14 H, mr15 H, mr16 H, mr17 H, mr18 H, mr19 H, mr20 H, mr25 H, hD.1, Option.bind_some, n_le (a := n) (b := j) (by omega) (by omega), if_neg (Nat.not_le.mpr hj), m_wrong H hn hD hj, b1_0, n_s, show (100 : Int32) + nI j = nI (100 + j) from n_add 100 j]
    rcases Bool.eq_false_or_eq_true (wrongB cs n j) with h1 | h1 <;> simp [h1]) (by
    intro T
    simp only [s_Mo_unfit_2, mg H, mp H, mo H, mr1 H, mr6 H, mr7 H, mr8 H, mr10 H, mr11 H, mr12 H, mr13 H, mr14 H, mr15 H, mr16 H, mr17 H, mr18 H, mr19 H, mr20 H, mr25 H, hD.1, Option.bind_some, n_le (a := n) (b := n) (by omega) (by omega), Nat.le_refl, if_true, ey1]) n 0 70 (by omega) (by omega)
  have a2 : ∀ R, f_Mo_findFirsts M (z, sh, y1, hr) = R → f_Mo_unfit_35 70 M (0 : Int32) (z, sh, y1, hr) = firstN (ringB cs n) (fun j => some (nI (200 + j), (z, sh, y1, hr))) (R.bind fun q4 => f_Mo_unfit_75 70 M (0 : Int32) q4.2) 0 n := by
    intro R hR
    exact loop_first (bot := fun _ _ _ => none) (F := s_Mo_unfit_35) (fun T j => T M (nI j) (z, sh, y1, hr)) (ringB cs n) (fun j => some (nI (200 + j), (z, sh, y1, hr))) (R.bind fun q4 => f_Mo_unfit_75 70 M (0 : Int32) q4.2) n (by
      intro T j hj
      have er : tb (y1 (M + 3) j) j = ringB cs n j := by
        rw [ry1 j hj]
        unfold ringB
        exact (ring_eq (fun x y j hj => tb_or x y hj) hn hj j hj).symm
      simp only [s_Mo_unfit_35, mg H, mp H, mo H, mr1 H, mr6 H, mr7 H, mr8 H, mr10 H, mr11 H, mr12 H, mr13 H, mr14 H, mr15 H, mr16 H, mr17 H, mr18 H, mr19 H, mr20 H, mr25 H, hD1.1, Option.bind_some, n_le (a := n) (b := j) (by omega) (by omega), if_neg (Nat.not_le.mpr hj), mi3 H (show j < 8 by omega), tb_1, er, n_s, show (200 : Int32) + nI j = nI (200 + j) from n_add 200 j]) (by
      intro T
      simp only [s_Mo_unfit_35, mg H, mp H, mo H, mr1 H, mr6 H, mr7 H, mr8 H, mr10 H, mr11 H, mr12 H, mr13 H, mr14 H, mr15 H, mr16 H, mr17 H, mr18 H, mr19 H, mr20 H, mr25 H, hD1.1, Option.bind_some, n_le (a := n) (b := n) (by omega) (by omega), Nat.le_refl, if_true, hR]) n 0 70 (by omega) (by omega)
  have a1' : f_Mo_unfit M (z, sh, x, hr) = _ := a1
  rw [a1']
  have un : unfP cs n = firstN (wrongB cs n) (fun i => nI (100 + i)) (firstN (ringB cs n) (fun i => nI (200 + i)) (firstN (lateB cs n) (fun i => nI (300 + i)) 0 0 n) 0 n) 0 n := rfl
  have ne : ∀ k, 100 ≤ k → k < 400 → ¬ nI k = (0 : Int32) := fun k h1 h2 => nI_ne0 (by omega) (by omega)
  have f1 : fr34 M x y1 := fun q h3 _ => fy1 q h3
  rcases first_cases (wrongB cs n) n 0 with w1 | ⟨k, k1, k2, k3, k4⟩
  · rw [first_no n 0 w1] at un ⊢
    rw [un]
    rcases first_cases (ringB cs n) n 0 with w2 | ⟨k, k1, k2, k3, k4⟩
    · have hs := sv_of hc (fun j hj => w1 j (by omega) (by omega))
      have hR : ∀ i, i < n → ¬ tb (rcC (fun j => cs j 7) n i) i = true := fun i hi hh => by have := w2 i (by omega) (by omega); unfold ringB at this; rw [this] at hh; cases hh
      obtain ⟨y, ey, fy, y9⟩ := m_firsts (z := z) (sv := svF cs) (rk := rnk (fun j => cs j 7) n) H hn hD1 hs (fun i j hi hj hA => rnk_lt (fun x y j hj => tb_or x y hj) hn hR hi hj hA) (fun i hi => rnk_n hR hi)
      rw [a2 _ ey, first_no n 0 w2, first_no n 0 w2]
      have hDy : DM M n cs y := DM_eq hD1 (fy _ (by omega)) (fy _ (by omega))
      have a3 := loop_first (bot := fun _ _ _ => none) (F := s_Mo_unfit_75) (fun T j => T M (nI j) (z, sh, y, hr)) (lateB cs n) (fun j => some (nI (300 + j), (z, sh, y, hr))) (some (0, (z, sh, y, hr))) n (by
        intro T j hj
        have hj8 : j < 8 := by omega
        have e9 : y (M + 4) j = nI (LF cs n j) := y9 j hj
        have e5 : y (M + 2) (40 + j) = cs j 5 := hDy.2 j hj 5 (by omega)
        simp only [s_Mo_unfit_75, mg H, mp H, mo H, mr1 H, mr6 H, mr7 H, mr8 H, mr10 H, mr11 H, mr12 H, mr13 H, mr14 H, mr15 H, mr16 H, mr17 H, mr18 H, mr19 H, mr20 H, mr25 H, hDy.1, Option.bind_some, n_le (a := n) (b := j) (by omega) (by omega), if_neg (Nat.not_le.mpr hj), mi4 H hj8, n40, mi2 H (show 40 + j < 72 by omega), e9, e5, n_s, show (300 : Int32) + nI j = nI (300 + j) from n_add 300 j, lateB]
        by_cases h1 : nI (LF cs n j) ≤ cs j 5
        · simp [h1]
        · simp [h1]) (by
        intro T
        simp only [s_Mo_unfit_75, mg H, mp H, mo H, mr1 H, mr6 H, mr7 H, mr8 H, mr10 H, mr11 H, mr12 H, mr13 H, mr14 H, mr15 H, mr16 H, mr17 H, mr18 H, mr19 H, mr20 H, mr25 H, hDy.1, Option.bind_some, n_le (a := n) (b := n) (by omega) (by omega), Nat.le_refl, if_true]) n 0 70 (by omega) (by omega)
      refine ⟨y, ?_, fun q h3 h4 => by rw [fy q h4]; exact f1 q h3 h4, fun _ => y9⟩
      have a3' : f_Mo_unfit_75 70 M (0 : Int32) (z, sh, y, hr) = _ := a3
      simp only [Option.bind_some]
      rw [a3']
      rcases first_cases (lateB cs n) n 0 with w3 | ⟨k, k1, k2, k3, k4⟩
      · rw [first_no n 0 w3, first_no n 0 w3]
      · rw [first_is n 0 k k1 k2 k3 k4, first_is n 0 k k1 k2 k3 k4]
    · rw [a2 _ rfl, first_is n 0 k k1 k2 k3 k4, first_is n 0 k k1 k2 k3 k4]
      exact ⟨y1, rfl, f1, fun hh => absurd hh (ne _ (by omega) (by omega))⟩
  · rw [first_is n 0 k k1 k2 k3 k4] at un ⊢
    rw [un]
    exact ⟨x, rfl, fun _ _ _ => rfl, fun hh => absurd hh (ne _ (by omega) (by omega))⟩
end FUNF
