/-! the plan's loops that write: cell by cell -/
/-- every activity's cell by g -/
def mapC (g : (Nat → Int32) → Nat → Int32) (hi : am_I) (P n : Nat) : am_I := fun q => if P + 2 ≤ q ∧ q < P + 2 + n then g (hi q) else hi q
theorem fold_mapC (g : (Nat → Int32) → Nat → Int32) (P : Nat) : ∀ d j hi, foldN (fun hi j => cw hi (P + 2 + j) (g (hi (P + 2 + j)))) hi j d = fun q => if P + 2 + j ≤ q ∧ q < P + 2 + j + d then g (hi q) else hi q := by
  intro d
  induction d with
  | zero =>
    intro j hi
    funext q
    rw [if_neg (by omega)]
    rfl
  | succ d ih =>
    intro j hi
    simp only [foldN]
    rw [ih (j + 1)]
    funext q
    by_cases h1 : q = P + 2 + j
    · subst h1
      rw [if_neg (by omega), if_pos (by omega), cw_e]
    · rw [cw_n _ _ _ _ h1]
      by_cases h2 : P + 2 + (j + 1) ≤ q ∧ q < P + 2 + (j + 1) + d
      · rw [if_pos h2, if_pos (by omega)]
      · rw [if_neg h2, if_neg (by omega)]
def aGive (c : Nat → Int32) : Nat → Int32 := if c 10 = 1 then cu c 10 3 else if c 10 = 0 then cu c 10 4 else c
def aOlderR (c : Nat → Int32) : Nat → Int32 := if c 10 = 1 then aOlder c else c
def skipJ (P n : Nat) (t : Int32) (hi : am_I) (j : Nat) : am_I := if vC hi P j 10 = 0 ∧ hopeless (vC hi P) n t j = true then cw hi (P + 2 + j) (cu (hi (P + 2 + j)) 10 4) else hi
section FPLANW
variable {P z n : Nat} {sh : am_S} {hi : am_I} {hr : am_R} {t : Int32} {i : Nat}
theorem cnt_cw (x : am_I) (j : Nat) (c : Nat → Int32) : cw x (P + 2 + j) c P 1 = x P 1 := by rw [cw_n _ _ _ _ (by omega)]
theorem e_makeReady (h : Pst P sh hr) (hn : n ≤ 8) (hc : hi P 1 = nI n) : f_Plan_makeReady P (z, sh, hi, hr) = some (0, (z, sh, mapC aReady hi P n, hr)) := by
  have hl := loop_fold (bot := fun _ _ _ => none) (F := s_Plan_makeReady_2) (fun T j x => T P (nI j) (z, sh, x, hr)) (fun x j => cw x (P + 2 + j) (aReady (x (P + 2 + j)))) (fun x => some (0, (z, sh, x, hr))) n (fun x => x P 1 = nI n) (fun j x _ hx => by rw [cnt_cw]; exact hx) (by
    intro T j x hj hx
    have hj8 : j < 8 := by omega
    simp only [s_Plan_makeReady_2, pg h, hx, n_le (a := n) (b := j) (by omega) (by omega), if_neg (Nat.not_le.mpr hj), pr h, pa h hj8, ao h hj8, e_ready (ps h hj8), Option.bind_some, n_s]) (by
    intro T x hx
    simp only [s_Plan_makeReady_2, pg h, hx, Option.bind_some, n_le (a := n) (b := n) (by omega) (by omega), Nat.le_refl, if_true]) n 0 hi 70 (by omega) (by omega) hc
  simp only [f_Plan_makeReady, f_Plan_makeReady_2]
  refine hl.trans ?_
  rw [fold_mapC]
  rfl
theorem e_growOlder (h : Pst P sh hr) (hn : n ≤ 8) (hc : hi P 1 = nI n) : f_Plan_growOlder P (z, sh, hi, hr) = some (0, (z, sh, mapC aOlderR hi P n, hr)) := by
  have hl := loop_fold (bot := fun _ _ _ => none) (F := s_Plan_growOlder_2) (fun T j x => T P (nI j) (z, sh, x, hr)) (fun x j => cw x (P + 2 + j) (aOlderR (x (P + 2 + j)))) (fun x => some (0, (z, sh, x, hr))) n (fun x => x P 1 = nI n) (fun j x _ hx => by rw [cnt_cw]; exact hx) (by
    intro T j x hj hx
    have hj8 : j < 8 := by omega
    simp only [s_Plan_growOlder_2, pg h, hx, n_le (a := n) (b := j) (by omega) (by omega), if_neg (Nat.not_le.mpr hj), pr h, pa h hj8, ao h hj8, e_isRunning (ps h hj8), e_older (ps h hj8), Option.bind_some, n_s, b2_b1, b1_0, aOlderR]
    by_cases h1 : x (P + 2 + j) 10 = 1
    · simp [h1]
    · simp [h1, cw_id]) (by
    intro T x hx
    simp only [s_Plan_growOlder_2, pg h, hx, Option.bind_some, n_le (a := n) (b := n) (by omega) (by omega), Nat.le_refl, if_true]) n 0 hi 70 (by omega) (by omega) hc
  simp only [f_Plan_growOlder, f_Plan_growOlder_2]
  refine hl.trans ?_
  rw [fold_mapC]
  rfl
theorem e_giveUp (h : Pst P sh hr) (hn : n ≤ 8) (hc : hi P 1 = nI n) : f_Plan_giveUp P (z, sh, hi, hr) = some (0, (z, sh, mapC aGive hi P n, hr)) := by
  have hl := loop_fold (bot := fun _ _ _ => none) (F := s_Plan_giveUp_2) (fun T j x => T P (nI j) (z, sh, x, hr)) (fun x j => cw x (P + 2 + j) (aGive (x (P + 2 + j)))) (fun x => some (0, (z, sh, x, hr))) n (fun x => x P 1 = nI n) (fun j x _ hx => by rw [cnt_cw]; exact hx) (by
    intro T j x hj hx
    have hj8 : j < 8 := by omega
    simp only [s_Plan_giveUp_2, pg h, hx, n_le (a := n) (b := j) (by omega) (by omega), if_neg (Nat.not_le.mpr hj), pr h, pa h hj8, ao h hj8, ap h hj8, e_isRunning (ps h hj8), e_isWaiting (ps h hj8), Option.bind_some, n_s, b2_b1, b1_0, aGive, up_cw]
    by_cases h1 : x (P + 2 + j) 10 = 1
    · simp [h1]
    · by_cases h2 : x (P + 2 + j) 10 = 0
      · simp [h2]
      · simp [h1, h2, cw_id]) (by
    intro T x hx
    simp only [s_Plan_giveUp_2, pg h, hx, Option.bind_some, n_le (a := n) (b := n) (by omega) (by omega), Nat.le_refl, if_true]) n 0 hi 70 (by omega) (by omega) hc
  simp only [f_Plan_giveUp, f_Plan_giveUp_2]
  refine hl.trans ?_
  rw [fold_mapC]
  rfl
theorem cnt_skip (x : am_I) (j : Nat) : skipJ P n t x j P 1 = x P 1 := by
  unfold skipJ
  split
  · exact cnt_cw x j _
  · rfl
theorem cnt_sweep (x : am_I) (d j : Nat) : foldN (skipJ P n t) x j d P 1 = x P 1 := fold_inv (fun y => y P 1 = x P 1) d j x rfl (fun k y _ _ hy => by rw [cnt_skip]; exact hy)
/-- one round, and as many rounds as activities -/
def sweep (P n : Nat) (t : Int32) (hi : am_I) : am_I := foldN (skipJ P n t) hi 0 n
theorem e_skip (h : Pst P sh hr) (hn : n ≤ 8) (hc : hi P 1 = nI n) : f_Plan_skipHopeless P t (z, sh, hi, hr) = some (0, (z, sh, foldN (fun x _ => sweep P n t x) hi 0 n, hr)) := by
  have hin : ∀ (K2 : Nat → Int32 → Int32 → am_w → Option (Int32 × am_w)) (rd : Int32) (x : am_I), x P 1 = nI n → f_Plan_skipHopeless_12 K2 70 P t rd (0 : Int32) (z, sh, x, hr) = K2 P t (rd + 1) (z, sh, sweep P n t x, hr) := by
    intro K2 rd x hx
    refine loop_fold (bot := fun _ _ _ _ _ => none) (F := s_Plan_skipHopeless_12 K2) (fun T j x => T P t rd (nI j) (z, sh, x, hr)) (skipJ P n t) (fun x => K2 P t (rd + 1) (z, sh, x, hr)) n (fun x => x P 1 = nI n) (fun j x _ hx => by rw [cnt_skip]; exact hx) ?_ ?_ n 0 x 70 (by omega) (by omega) hx
    · intro T j x hj hx
      have hj8 : j < 8 := by omega
      simp only [s_Plan_skipHopeless_12, pg h, po h, hx, n_le (a := n) (b := j) (by omega) (by omega), if_neg (Nat.not_le.mpr hj), pr h, pa h hj8, ao h hj8, ap h hj8, e_isWaiting (ps h hj8), e_hopeless h hn hx hj8, Option.bind_some, n_s, b2_b1, b1_0, skipJ, up_cw]
      have e : vC x P j 10 = x (P + 2 + j) 10 := rfl
      rw [e]
      rcases Bool.eq_false_or_eq_true (hopeless (vC x P) n t j) with h2 | h2 <;> by_cases h1 : x (P + 2 + j) 10 = 0 <;> simp [h1, h2]
    · intro T x hx
      simp only [s_Plan_skipHopeless_12, pg h, hx, Option.bind_some, n_le (a := n) (b := n) (by omega) (by omega), Nat.le_refl, if_true]
  have hl := loop_fold (bot := fun _ _ _ _ => none) (F := s_Plan_skipHopeless_2) (fun T j x => T P t (nI j) (z, sh, x, hr)) (fun x _ => sweep P n t x) (fun x => some (0, (z, sh, x, hr))) n (fun x => x P 1 = nI n) (fun j x _ hx => by rw [sweep, cnt_sweep]; exact hx) (by
    intro T j x hj hx
    simp only [s_Plan_skipHopeless_2, pg h, hx, n_le (a := n) (b := j) (by omega) (by omega), if_neg (Nat.not_le.mpr hj), Option.bind_some]
    rw [hin T (nI j) x hx, n_s]) (by
    intro T x hx
    simp only [s_Plan_skipHopeless_2, pg h, hx, Option.bind_some, n_le (a := n) (b := n) (by omega) (by omega), Nat.le_refl, if_true]) n 0 hi 70 (by omega) (by omega) hc
  simp only [f_Plan_skipHopeless, f_Plan_skipHopeless_2]
  exact hl
end FPLANW
