-- needs 56 57 58 59 60 61 62 63 77 84 85 86
/-! the earliest minutes: the two programs -/
section FEARL
variable {Q M z n i : Nat} {sh : am_S} {hi x base : am_I} {hr : am_R} {cs : Nat → Nat → Int32} {sv E rk : Nat → Nat}
def Acs (cs : Nat → Nat → Int32) (i j : Nat) : Bool := tb (cs i 7) j
def c9 (Q n : Nat) (E : Nat → Nat) (x : am_I) : Prop := ∀ j, j < n → x (Q + 2 + j) 9 = nI (E j)
def fr9 (Q : Nat) (base x : am_I) : Prop := (∀ q, q < Q + 2 ∨ Q + 10 ≤ q → x q = base q) ∧ ∀ j k, j < 8 → k ≠ 9 → x (Q + 2 + j) k = base (Q + 2 + j) k
theorem fr9_D (hf : fr9 Q base x) (hn : n ≤ 8) (hD : DC Q n cs base) : DC Q n cs x := ⟨by rw [hf.1 Q (by omega)]; exact hD.1, fun j hj k hk => by rw [hf.2 j k (by omega) (by omega)]; exact hD.2 j hj k hk⟩
theorem e_earliestOf (h : Pst Q sh hr) (hn : n ≤ 8) (hD : DC Q n cs x) (hs : ∀ j, j < n → cs j 0 = nI (sv j) ∧ sv j ≤ 30) (hE : c9 Q n E x) (hb : ∀ j, j < n → E j ≤ 240) (hi : i < n) : f_Plan_earliestOf Q (Q + 2 + i) (z, sh, x, hr) = some (nI (mxF (Acs cs) n sv E i), (z, sh, x, hr)) := by
  have i8 : i < 8 := by omega
  have hl := loop_fold (bot := fun _ _ _ _ _ => none) (F := s_Plan_earliestOf_4) (fun T j acc => T Q (Q + 2 + i) (nI acc) (nI j) (z, sh, x, hr)) (mxG (Acs cs) sv E i) (fun acc => some (nI acc, (z, sh, x, hr))) n (fun acc => acc ≤ 300) (by
    intro j acc hj hacc
    have := hb j hj
    have := (hs j hj).2
    unfold mxG
    split <;> omega) (by
    intro T j acc hj hacc
    have hj8 : j < 8 := by omega
    have b1' := hb j hj
    have b2' := (hs j hj).2
    have e0 : x (Q + 2 + j) 0 = nI (sv j) := by rw [hD.2 j hj 0 (by omega)]; exact (hs j hj).1
    simp only [s_Plan_earliestOf_4, pg h, hD.1, Option.bind_some, n_le (a := n) (b := j) (by omega) (by omega), if_neg (Nat.not_le.mpr hj), ao h i8, e_isAfter (ps h i8), after_tb, b1_0, hD.2 i hi 7 (by omega), pr h, pa h hj8, ag h hj8, hE j hj, e0, n_add, n_lt (a := acc) (b := E j + sv j) (by omega) (by omega), am_let, n_s, mxG, Acs]
    rcases Bool.eq_false_or_eq_true (tb (cs i 7) j) with h1 | h1
    · simp only [h1, Bool.true_eq_false, if_false, if_true]
      by_cases h2 : acc < E j + sv j
      · rw [if_pos h2, Nat.max_eq_right (by omega)]
      · rw [if_neg h2, Nat.max_eq_left (by omega)]
    · simp [h1]) (by
    intro T acc _
    simp only [s_Plan_earliestOf_4, pg h, hD.1, Option.bind_some, n_le (a := n) (b := n) (by omega) (by omega), Nat.le_refl, if_true]) n 0 0 70 (by omega) (by omega) (by omega)
  simp only [f_Plan_earliestOf, f_Plan_earliestOf_4]
  exact hl
theorem e_reckon (h : Pst Q sh hr) (hn : n ≤ 8) (hD : DC Q n cs x) (hs : ∀ j, j < n → cs j 0 = nI (sv j) ∧ sv j ≤ 30) (hE : c9 Q n (fun _ => 0) x) (hrk : ∀ i j, i < n → j < n → Acs cs i j = true → rk j < rk i) (hrn : ∀ i, i < n → rk i < n) : ∃ y, f_Plan_reckonEarliest Q (z, sh, x, hr) = some (0, (z, sh, y, hr)) ∧ fr9 Q x y ∧ c9 Q n (Lf (Acs cs) n sv n) y := by
  have Lb : ∀ j, j < n → Lf (Acs cs) n sv n j ≤ 240 := fun j _ => by
    have := Lf_bd (A := Acs cs) (fun j hj => (hs j hj).2) n j
    omega
  have inner : ∀ (K : Nat → Int32 → am_w → Option (Int32 × am_w)) (rd : Int32) (r : Nat) (E : Nat → Nat) (w : am_I), eaP (Acs cs) n sv rk r E → c9 Q n E w → fr9 Q x w → ∃ y, f_Plan_reckonEarliest_12 K 70 Q rd (0 : Int32) (z, sh, w, hr) = K Q (rd + 1) (z, sh, y, hr) ∧ c9 Q n (erR (Acs cs) n sv E) y ∧ fr9 Q x y := by
    intro K rd r E w hP h9 hf
    obtain ⟨y, ⟨y1, y2, y3⟩, ey⟩ := loop_ex (bot := fun _ _ _ _ => none) (F := s_Plan_reckonEarliest_12 K) (fun T j w => T Q rd (nI j) (z, sh, w, hr)) (fun w => K Q (rd + 1) (z, sh, w, hr)) n (fun j w => eaP (Acs cs) n sv rk r (foldN (erI (Acs cs) n sv) E 0 j) ∧ c9 Q n (foldN (erI (Acs cs) n sv) E 0 j) w ∧ fr9 Q x w) (by
      rintro T j w hj ⟨i1, i2, i3⟩
      have hj8 : j < 8 := by omega
      have hDw := fr9_D i3 hn hD
      rw [fold_snoc, Nat.zero_add]
      generalize foldN (erI (Acs cs) n sv) E 0 j = E2 at *
      have eo := e_earliestOf (z := z) h hn hDw hs i2 (fun k hk => Nat.le_trans (i1.1 k hk) (Lb k hk)) hj
      refine ⟨am_up w (Q + 2 + j) 9 (nI (mxF (Acs cs) n sv E2 j)), ⟨(erI_P hrk hrn hj i1).1, fun k hk => ?_, ⟨fun q hq => ?_, fun k k2 hk hk2 => ?_⟩⟩, ?_⟩
      · unfold erI
        by_cases h1 : k = j
        · rw [h1, am_up_eq, upN_e]
        · rw [am_up_na (by omega), upN_n _ _ _ _ h1]; exact i2 k hk
      · rw [← i3.1 q hq]; funext k; rw [am_up_na (by omega)]
      · by_cases h1 : k = j
        · rw [h1, am_up_nk hk2]; exact i3.2 j k2 hj8 hk2
        · rw [am_up_na (by omega)]; exact i3.2 k k2 hk hk2
      · simp only [s_Plan_reckonEarliest_12, pg h, hDw.1, Option.bind_some, n_le (a := n) (b := j) (by omega) (by omega), if_neg (Nat.not_le.mpr hj), pr h, pa h hj8, po h, eo, ap h hj8, n_s]) (by
      rintro T w ⟨i1, i2, i3⟩
      have hDw := fr9_D i3 hn hD
      simp only [s_Plan_reckonEarliest_12, pg h, hDw.1, Option.bind_some, n_le (a := n) (b := n) (by omega) (by omega), Nat.le_refl, if_true]) n 0 w 70 (by omega) (by omega) ⟨hP, h9, hf⟩
    exact ⟨y, ey, y2, y3⟩
  obtain ⟨y, ⟨y2, y3⟩, ey⟩ := loop_ex (bot := fun _ _ _ => none) (F := s_Plan_reckonEarliest_2) (fun T j w => T Q (nI j) (z, sh, w, hr)) (fun w => some (0, (z, sh, w, hr))) n (fun j w => c9 Q n (foldN (fun E _ => erR (Acs cs) n sv E) (fun _ => 0) 0 j) w ∧ fr9 Q x w) (by
    rintro T j w hj ⟨i2, i3⟩
    have hDw := fr9_D i3 hn hD
    obtain ⟨u, eu, u2, u3⟩ := inner T (nI j) j _ w (er_end hrk hrn j) i2 i3
    refine ⟨u, ⟨by rw [fold_snoc]; exact u2, u3⟩, ?_⟩
    simp only [s_Plan_reckonEarliest_2, pg h, hDw.1, Option.bind_some, n_le (a := n) (b := j) (by omega) (by omega), if_neg (Nat.not_le.mpr hj)]
    rw [eu, n_s]) (by
    rintro T w ⟨i2, i3⟩
    have hDw := fr9_D i3 hn hD
    simp only [s_Plan_reckonEarliest_2, pg h, hDw.1, Option.bind_some, n_le (a := n) (b := n) (by omega) (by omega), Nat.le_refl, if_true]) n 0 x 70 (by omega) (by omega) ⟨hE, ⟨fun _ _ => rfl, fun _ _ _ _ => rfl⟩⟩
  refine ⟨y, ey, y3, ?_⟩
  intro j hj
  rw [y2 j hj, (er_end hrk hrn n).2 j hj (hrn j hj)]
def c4M (M n : Nat) (E : Nat → Nat) (x : am_I) : Prop := ∀ j, j < n → x (M + 4) j = nI (E j)
def fr4 (M : Nat) (base x : am_I) : Prop := ∀ q, q ≠ M + 4 → x q = base q
theorem m_firsts (H : Mst M sh hr) (hn : n ≤ 8) (hD : DM M n cs x) (hs : ∀ j, j < n → cs j 0 = nI (sv j) ∧ sv j ≤ 30) (hrk : ∀ i j, i < n → j < n → Acs cs i j = true → rk j < rk i) (hrn : ∀ i, i < n → rk i < n) : ∃ y, f_Mo_findFirsts M (z, sh, x, hr) = some (0, (z, sh, y, hr)) ∧ fr4 M x y ∧ c4M M n (Lf (Acs cs) n sv n) y := by
  have Lb : ∀ j, j < n → Lf (Acs cs) n sv n j ≤ 240 := fun j _ => by
    have := Lf_bd (A := Acs cs) (fun j hj => (hs j hj).2) n j
    omega
  have c4 : ∀ y, fr4 M x y → y M 4 = nI n := fun y hy => by rw [hy M (by omega)]; exact hD.1
  have in41 : ∀ K23 K31 (rd : Int32) (i : Nat) (E : Nat → Nat) (w : am_I), i < n → (∀ j, j < n → E j ≤ Lf (Acs cs) n sv n j) → c4M M n E w → fr4 M x w → ∃ y, f_Mo_findFirsts_41 K23 K31 70 M rd (nI i) (0 : Int32) (z, sh, w, hr) = K31 M rd (nI (i + 1)) (z, sh, y, hr) ∧ c4M M n (frI (Acs cs) n sv E i) y ∧ fr4 M x y := by
    intro K23 K31 rd i E w hi hEL h4 hf
    obtain ⟨y, ⟨y1, y2, y3⟩, ey⟩ := loop_ex (bot := fun _ _ _ _ _ => none) (F := s_Mo_findFirsts_41 K23 K31) (fun T j w => T M rd (nI i) (nI j) (z, sh, w, hr)) (fun w => K31 M rd (nI (i + 1)) (z, sh, w, hr)) n (fun j w => (∀ q, q < n → foldN (frG (Acs cs) sv i) E 0 j q ≤ Lf (Acs cs) n sv n q) ∧ c4M M n (foldN (frG (Acs cs) sv i) E 0 j) w ∧ fr4 M x w) (by
      rintro T j w hj ⟨i1, i2, i3⟩
      rw [fold_snoc, Nat.zero_add]
      generalize foldN (frG (Acs cs) sv i) E 0 j = E2 at *
      have hi8 : i < 8 := by omega
      have hj8 : j < 8 := by omega
      have bi := Nat.le_trans (i1 i hi) (Lb i hi)
      have bj := Nat.le_trans (i1 j hj) (Lb j hj)
      have bs := (hs j hj).2
      have e7 : w (M + 2) (56 + i) = cs i 7 := by rw [i3 _ (by omega)]; exact hD.2 i hi 7 (by omega)
      have e0 : w (M + 2) j = nI (sv j) := by
        rw [i3 _ (by omega)]
        have := hD.2 j hj 0 (by omega)
        rw [show 8 * 0 + j = j by omega] at this
        rw [this]; exact (hs j hj).1
      refine ⟨am_up w (M + 4) i (nI (if Acs cs i j = true ∧ E2 i < E2 j + sv j then E2 j + sv j else E2 i)), ⟨frG_P hrk hrn hi hj i1, fun k hk => ?_, fun q hq => ?_⟩, ?_⟩
      · unfold frG
        by_cases h1 : k = i
        · rw [h1, am_up_eq, upN_e]
        · rw [am_up_nk h1, upN_n _ _ _ _ h1]; exact i2 k hk
      · rw [← i3 q hq]; funext k; rw [am_up_na hq]
      · simp only [s_Mo_findFirsts_41, s_Mo_findFirsts_102, mg H, mp H, mo H, mr1 H, mr6 H, mr7 H, mr8 H, mr10 H, mr11 H, mr12 H, mr13 H, mr14 H, mr15 H, mr16 H, mr17 H, mr18 H, mr19 H, mr20 H, mr25 H, Option.bind_some, c4 w i3, n_le (a := n) (b := j) (by omega) (by omega), if_neg (Nat.not_le.mpr hj), mi4 H hj8, mi4 H hi8, mw4 H hi8, n56, mi2 H (show 56 + i < 72 by omega), mi2 H (show j < 72 by omega), i2 i hi, i2 j hj, e7, e0, n_add, tb_1, n_le (a := E2 j + sv j) (b := E2 i) (by omega) (by omega), n_s, show tb (cs i 7) j = Acs cs i j from rfl]
        rcases Bool.eq_false_or_eq_true (Acs cs i j) with h1 | h1
        · by_cases h2 : E2 j + sv j ≤ E2 i
          · have : ¬ (Acs cs i j = true ∧ E2 i < E2 j + sv j) := by omega
            simp only [if_pos h1, if_pos h2, if_neg this]
          · have : Acs cs i j = true ∧ E2 i < E2 j + sv j := ⟨h1, by omega⟩
            simp only [if_pos h1, if_neg h2, if_pos this]
        · have h1' : ¬ Acs cs i j = true := by rw [h1]; decide
          have : ¬ (Acs cs i j = true ∧ E2 i < E2 j + sv j) := fun hh => h1' hh.1
          simp only [if_neg h1', if_neg this]) (by
      rintro T w ⟨i1, i2, i3⟩
      simp only [s_Mo_findFirsts_41, mg H, mp H, mo H, mr1 H, mr6 H, mr7 H, mr8 H, mr10 H, mr11 H, mr12 H, mr13 H, mr14 H, mr15 H, mr16 H, mr17 H, mr18 H, mr19 H, mr20 H, mr25 H, Option.bind_some, c4 w i3, n_le (a := n) (b := n) (by omega) (by omega), Nat.le_refl, if_true, n_s]) n 0 w 70 (by omega) (by omega) ⟨hEL, h4, hf⟩
    exact ⟨y, ey, y2, y3⟩
  have in31 : ∀ K23 (rd : Int32) (r : Nat) (E : Nat → Nat) (w : am_I), eaP (Acs cs) n sv rk r E → c4M M n E w → fr4 M x w → ∃ y, f_Mo_findFirsts_31 K23 70 M rd (0 : Int32) (z, sh, w, hr) = K23 M (rd + 1) (z, sh, y, hr) ∧ c4M M n (frRR (Acs cs) n sv E) y ∧ fr4 M x y := by
    intro K23 rd r E w hP h4 hf
    obtain ⟨y, ⟨y1, y2, y3⟩, ey⟩ := loop_ex (bot := fun _ _ _ _ => none) (F := s_Mo_findFirsts_31 K23) (fun T j w => T M rd (nI j) (z, sh, w, hr)) (fun w => K23 M (rd + 1) (z, sh, w, hr)) n (fun j w => eaP (Acs cs) n sv rk r (foldN (frI (Acs cs) n sv) E 0 j) ∧ c4M M n (foldN (frI (Acs cs) n sv) E 0 j) w ∧ fr4 M x w) (by
      rintro T j w hj ⟨i1, i2, i3⟩
      rw [fold_snoc, Nat.zero_add]
      obtain ⟨u, eu, u2, u3⟩ := in41 K23 T rd j _ w hj i1.1 i2 i3
      refine ⟨u, ⟨(frI_P hrk hrn hj i1).1, u2, u3⟩, ?_⟩
      simp only [s_Mo_findFirsts_31, mg H, mp H, mo H, mr1 H, mr6 H, mr7 H, mr8 H, mr10 H, mr11 H, mr12 H, mr13 H, mr14 H, mr15 H, mr16 H, mr17 H, mr18 H, mr19 H, mr20 H, mr25 H, Option.bind_some, c4 w i3, n_le (a := n) (b := j) (by omega) (by omega), if_neg (Nat.not_le.mpr hj)]
      exact eu) (by
      rintro T w ⟨i1, i2, i3⟩
      simp only [s_Mo_findFirsts_31, mg H, mp H, mo H, mr1 H, mr6 H, mr7 H, mr8 H, mr10 H, mr11 H, mr12 H, mr13 H, mr14 H, mr15 H, mr16 H, mr17 H, mr18 H, mr19 H, mr20 H, mr25 H, Option.bind_some, c4 w i3, n_le (a := n) (b := n) (by omega) (by omega), Nat.le_refl, if_true]) n 0 w 70 (by omega) (by omega) ⟨hP, h4, hf⟩
    exact ⟨y, ey, y2, y3⟩
  have in23 : ∀ (w : am_I), c4M M n (fun _ => 0) w → fr4 M x w → ∃ y, f_Mo_findFirsts_23 70 M (0 : Int32) (z, sh, w, hr) = some (0, (z, sh, y, hr)) ∧ c4M M n (foldN (fun E _ => frRR (Acs cs) n sv E) (fun _ => 0) 0 8) y ∧ fr4 M x y := by
    intro w h4 hf
    obtain ⟨y, ⟨y2, y3⟩, ey⟩ := loop_ex (bot := fun _ _ _ => none) (F := s_Mo_findFirsts_23) (fun T j w => T M (nI j) (z, sh, w, hr)) (fun w => some (0, (z, sh, w, hr))) 8 (fun j w => c4M M n (foldN (fun E _ => frRR (Acs cs) n sv E) (fun _ => 0) 0 j) w ∧ fr4 M x w) (by
      rintro T j w hj ⟨i2, i3⟩
      obtain ⟨u, eu, u2, u3⟩ := in31 T (nI j) j _ w (fr_end hrk hrn j) i2 i3
      refine ⟨u, ⟨by rw [fold_snoc]; exact u2, u3⟩, ?_⟩
      simp only [s_Mo_findFirsts_23]
      rw [if_neg (show ¬ (8 : Int32) ≤ nI j from nI_ge (b := 8) hj (by decide)), eu, n_s]) (by
      rintro T w _
      simp only [s_Mo_findFirsts_23]
      rw [if_pos (by decide)]) 8 0 w 70 (by omega) (by omega) ⟨h4, hf⟩
    exact ⟨y, ey, y2, y3⟩
  have hl := loop_fold (bot := fun _ _ _ => none) (F := s_Mo_findFirsts_2) (fun T j y => T M (nI j) (z, sh, y, hr)) (fun y j => am_up y (M + 4) j 0) (fun y => f_Mo_findFirsts_23 70 M (0 : Int32) (z, sh, y, hr)) 8 (fun _ => True) (fun _ _ _ _ => trivial) (by
    intro T j y hj _
    simp only [s_Mo_findFirsts_2]
    rw [if_neg (show ¬ (8 : Int32) ≤ nI j from nI_ge (b := 8) hj (by decide))]
    simp only [mg H, mp H, mo H, mr1 H, mr6 H, mr7 H, mr8 H, mr10 H, mr11 H, mr12 H, mr13 H, mr14 H, mr15 H, mr16 H, mr17 H, mr18 H, mr19 H, mr20 H, mr25 H, Option.bind_some, mw4 H hj, n_s]) (by
    intro T y _
    simp only [s_Mo_findFirsts_2]
    rw [if_pos (by decide)]) 8 0 x 70 (by omega) (by omega) trivial
  rw [fold_col (M + 4) (fun _ => 0)] at hl
  obtain ⟨y, ey, y2, y3⟩ := in23 (fun q k => if q = M + 4 ∧ 0 ≤ k ∧ k < 0 + 8 then 0 else x q k) (fun j hj => if_pos ⟨rfl, by omega, by omega⟩) (fun q hq => by funext k; exact if_neg (by omega))
  refine ⟨y, hl.trans ey, y3, ?_⟩
  intro j hj
  rw [y2 j hj, (fr_end hrk hrn 8).2 j hj (by have := hrn j hj; omega)]
end FEARL
