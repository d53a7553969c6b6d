/-! the plan's questions -/
def tb (x : Int32) (j : Nat) : Bool := !decide (((x >>> (nI j &&& 31)) &&& (1 : Int32)) = 0)
/-- the cells of the activities of the plan at P -/
def vC (hi : am_I) (P : Nat) : Nat → Nat → Int32 := fun i => hi (P + 2 + i)
def dn (c : Nat → Int32) : Bool := decide (c 10 = 2)
def fd (c : Nat → Int32) : Bool := decide (c 10 = 3 ∨ c 10 = 4)
def hopeJ (v : Nat → Nat → Int32) (i j : Nat) : Bool := (tb (v i 7) j && fd (v j)) || (tb (v i 8) j && dn (v j))
def hopeless (v : Nat → Nat → Int32) (n : Nat) (since : Int32) (i : Nat) : Bool := !decide (since ≤ v i 5) || anyN (hopeJ v i) 0 n
def blockJ (v : Nat → Nat → Int32) (i j : Nat) : Bool := (tb (v i 7) j && !dn (v j)) || (tb (v i 8) j && !fd (v j))
def readyB (v : Nat → Nat → Int32) (n i : Nat) : Bool := decide (v i 10 = 0) && !anyN (blockJ v i) 0 n
def busyB (v : Nat → Nat → Int32) (j : Nat) : Bool := decide (v j 10 = 1) || decide (v j 10 = 0)
def sumR (v : Nat → Nat → Int32) (k : Nat) (acc : Int32) (j : Nat) : Int32 := if v j 10 = 1 then acc + v j k else acc
section FPLAN
variable {P z n : Nat} {sh : am_S} {hi : am_I} {hr : am_R} {t : Int32} {i : Nat}
theorem after_tb (x : Int32) (j : Nat) : (if ((x >>> (nI j &&& 31)) &&& (1 : Int32)) = 0 then (0 : Int32) else 1) = b1 (tb x j) := by
  by_cases h : ((x >>> (nI j &&& 31)) &&& (1 : Int32)) = 0 <;> simp [tb, b1, h]
theorem e_has (h : Pst P sh hr) : f_Plan_has P t (z, sh, hi, hr) = some (b1 (!decide (t < 0) && !decide (hi P 1 ≤ t)), (z, sh, hi, hr)) := by
  simp only [f_Plan_has, pg h, Option.bind_some]
  by_cases h1 : t < 0
  · simp [h1, b1]
  · by_cases h2 : hi P 1 ≤ t
    · simp [h1, h2, b1]
    · simp [h1, h2, b1]
theorem e_hopeless (h : Pst P sh hr) (hn : n ≤ 8) (hc : hi P 1 = nI n) (hi8 : i < 8) : f_Plan_isHopeless P (P + 2 + i) t (z, sh, hi, hr) = some (b1 (hopeless (vC hi P) n t i), (z, sh, hi, hr)) := by
  have hl := loop_first (bot := fun _ _ _ _ => none) (F := s_Plan_isHopeless_12) (fun T j => T P (P + 2 + i) (nI j) (z, sh, hi, hr)) (hopeJ (vC hi P) i) (fun _ => some (1, (z, sh, hi, hr))) (some (0, (z, sh, hi, hr))) n (by
    intro T j hj
    have hj8 : j < 8 := by omega
    simp only [s_Plan_isHopeless_12, s_Plan_isHopeless_40, pg h, hc, n_le (a := n) (b := j) (by omega) (by omega), if_neg (Nat.not_le.mpr hj), ao h hi8, e_isAfter (ps h hi8), e_isInstead (ps h hi8), after_tb, pr h, pa h hj8, ao h hj8, e_hasFailed (ps h hj8), e_isDone (ps h hj8), Option.bind_some, b2_b1, n_s, b1_0, hopeJ, vC, fd, dn]
    rcases Bool.eq_false_or_eq_true (tb (hi (P + 2 + i) 7) j) with h7 | h7 <;> rcases Bool.eq_false_or_eq_true (tb (hi (P + 2 + i) 8) j) with h8 | h8 <;> by_cases h1 : hi (P + 2 + j) 10 = 3 ∨ hi (P + 2 + j) 10 = 4 <;> by_cases h2 : hi (P + 2 + j) 10 = 2 <;> simp [h7, h8, h1, h2]) (by
    intro T
    simp only [s_Plan_isHopeless_12, pg h, hc, Option.bind_some, n_le (a := n) (b := n) (by omega) (by omega), Nat.le_refl, if_true]) n 0 70 (by omega) (by omega)
  simp only [f_Plan_isHopeless, ag h hi8, Option.bind_some, f_Plan_isHopeless_12]
  rw [show (0 : Int32) = nI 0 from rfl, hl, first_any]
  simp only [hopeless, vC]
  by_cases h1 : t ≤ hi (P + 2 + i) 5
  · cases anyN (hopeJ (vC hi P) i) 0 n <;> simp [h1, b1]
  · simp [h1, b1]
theorem e_isReady (h : Pst P sh hr) (hn : n ≤ 8) (hc : hi P 1 = nI n) (hi8 : i < 8) : f_Plan_isReady P (nI i) (z, sh, hi, hr) = some (b1 (readyB (vC hi P) n i), (z, sh, hi, hr)) := by
  have hl := loop_first (bot := fun _ _ _ _ => none) (F := s_Plan_isReady_18) (fun T j => T P (P + 2 + i) (nI j) (z, sh, hi, hr)) (blockJ (vC hi P) i) (fun _ => some (0, (z, sh, hi, hr))) (some (1, (z, sh, hi, hr))) n (by
    intro T j hj
    have hj8 : j < 8 := by omega
    simp only [s_Plan_isReady_18, s_Plan_isReady_46, pg h, hc, n_le (a := n) (b := j) (by omega) (by omega), if_neg (Nat.not_le.mpr hj), ao h hi8, e_isAfter (ps h hi8), e_isInstead (ps h hi8), after_tb, pr h, pa h hj8, ao h hj8, e_hasFailed (ps h hj8), e_isDone (ps h hj8), Option.bind_some, b2_b1, n_s, b1_0, blockJ, vC, fd, dn]
    rcases Bool.eq_false_or_eq_true (tb (hi (P + 2 + i) 7) j) with h7 | h7 <;> rcases Bool.eq_false_or_eq_true (tb (hi (P + 2 + i) 8) j) with h8 | h8 <;> by_cases h1 : hi (P + 2 + j) 10 = 3 ∨ hi (P + 2 + j) 10 = 4 <;> by_cases h2 : hi (P + 2 + j) 10 = 2 <;> simp [h7, h8, h1, h2]) (by
    intro T
    simp only [s_Plan_isReady_18, pg h, hc, Option.bind_some, n_le (a := n) (b := n) (by omega) (by omega), Nat.le_refl, if_true]) n 0 70 (by omega) (by omega)
  simp only [f_Plan_isReady, pr h, pa h hi8, ao h hi8, e_isWaiting (ps h hi8), Option.bind_some, f_Plan_isReady_18, b2_b1, b1_0]
  rw [show (0 : Int32) = nI 0 from rfl, hl, first_any]
  unfold readyB
  generalize anyN (blockJ (vC hi P) i) 0 n = q
  show _ = some (b1 (decide (hi (P + 2 + i) 10 = 0) && !q), _)
  by_cases h1 : hi (P + 2 + i) 10 = 0
  · cases q <;> simp [h1, b1, nI]
  · simp [h1, b1, nI]
theorem e_isOver (h : Pst P sh hr) (hn : n ≤ 8) (hc : hi P 1 = nI n) : f_Plan_isOver P (z, sh, hi, hr) = some (b1 (!anyN (busyB (vC hi P)) 0 n), (z, sh, hi, hr)) := by
  have hl := loop_first (bot := fun _ _ _ => none) (F := s_Plan_isOver_2) (fun T j => T P (nI j) (z, sh, hi, hr)) (busyB (vC hi P)) (fun _ => some (0, (z, sh, hi, hr))) (some (1, (z, sh, hi, hr))) n (by
    intro T j hj
    have hj8 : j < 8 := by omega
    simp only [s_Plan_isOver_2, pg h, hc, n_le (a := n) (b := j) (by omega) (by omega), if_neg (Nat.not_le.mpr hj), pr h, pa h hj8, ao h hj8, e_isRunning (ps h hj8), e_isWaiting (ps h hj8), Option.bind_some, b2_b1, n_s, b1_0, busyB, vC]
    by_cases h1 : hi (P + 2 + j) 10 = 1 <;> by_cases h2 : hi (P + 2 + j) 10 = 0 <;> simp [h1, h2]) (by
    intro T
    simp only [s_Plan_isOver_2, pg h, hc, Option.bind_some, n_le (a := n) (b := n) (by omega) (by omega), Nat.le_refl, if_true]) n 0 70 (by omega) (by omega)
  simp only [f_Plan_isOver, f_Plan_isOver_2]
  rw [show (0 : Int32) = nI 0 from rfl, hl, first_any]
  rcases Bool.eq_false_or_eq_true (anyN (busyB (vC hi P)) 0 n) with h2 | h2 <;> simp [h2, b1, nI]
theorem e_runningDraw (h : Pst P sh hr) (hn : n ≤ 8) (hc : hi P 1 = nI n) : f_Plan_runningDraw P (z, sh, hi, hr) = some (foldN (sumR (vC hi P) 16) 0 0 n, (z, sh, hi, hr)) := by
  have hl := loop_fold (bot := fun _ _ _ _ => none) (F := s_Plan_runningDraw_4) (fun T j acc => T P acc (nI j) (z, sh, hi, hr)) (sumR (vC hi P) 16) (fun acc => some (acc, (z, sh, hi, hr))) n (fun _ => True) (fun _ _ _ _ => trivial) (by
    intro T j acc hj _
    have hj8 : j < 8 := by omega
    simp only [s_Plan_runningDraw_4, pg h, hc, n_le (a := n) (b := j) (by omega) (by omega), if_neg (Nat.not_le.mpr hj), pr h, pa h hj8, ao h hj8, ag h hj8, e_isRunning (ps h hj8), Option.bind_some, b2_b1, n_s, b1_0, sumR, vC]
    by_cases h1 : hi (P + 2 + j) 10 = 1 <;> simp [h1]) (by
    intro T acc _
    simp only [s_Plan_runningDraw_4, pg h, hc, Option.bind_some, n_le (a := n) (b := n) (by omega) (by omega), Nat.le_refl, if_true]) n 0 0 70 (by omega) (by omega) trivial
  simp only [f_Plan_runningDraw, f_Plan_runningDraw_4]
  exact hl
theorem e_runningData (h : Pst P sh hr) (hn : n ≤ 8) (hc : hi P 1 = nI n) : f_Plan_runningData P (z, sh, hi, hr) = some (foldN (sumR (vC hi P) 3) 0 0 n, (z, sh, hi, hr)) := by
  have hl := loop_fold (bot := fun _ _ _ _ => none) (F := s_Plan_runningData_4) (fun T j acc => T P acc (nI j) (z, sh, hi, hr)) (sumR (vC hi P) 3) (fun acc => some (acc, (z, sh, hi, hr))) n (fun _ => True) (fun _ _ _ _ => trivial) (by
    intro T j acc hj _
    have hj8 : j < 8 := by omega
    simp only [s_Plan_runningData_4, pg h, hc, n_le (a := n) (b := j) (by omega) (by omega), if_neg (Nat.not_le.mpr hj), pr h, pa h hj8, ao h hj8, ag h hj8, e_isRunning (ps h hj8), Option.bind_some, b2_b1, n_s, b1_0, sumR, vC]
    by_cases h1 : hi (P + 2 + j) 10 = 1 <;> simp [h1]) (by
    intro T acc _
    simp only [s_Plan_runningData_4, pg h, hc, Option.bind_some, n_le (a := n) (b := n) (by omega) (by omega), Nat.le_refl, if_true]) n 0 0 70 (by omega) (by omega) trivial
  simp only [f_Plan_runningData, f_Plan_runningData_4]
  exact hl
theorem e_runningHeat (h : Pst P sh hr) (hn : n ≤ 8) (hc : hi P 1 = nI n) : f_Plan_runningHeat P (z, sh, hi, hr) = some (foldN (sumR (vC hi P) 4) 0 0 n, (z, sh, hi, hr)) := by
  have hl := loop_fold (bot := fun _ _ _ _ => none) (F := s_Plan_runningHeat_4) (fun T j acc => T P acc (nI j) (z, sh, hi, hr)) (sumR (vC hi P) 4) (fun acc => some (acc, (z, sh, hi, hr))) n (fun _ => True) (fun _ _ _ _ => trivial) (by
    intro T j acc hj _
    have hj8 : j < 8 := by omega
    simp only [s_Plan_runningHeat_4, pg h, hc, n_le (a := n) (b := j) (by omega) (by omega), if_neg (Nat.not_le.mpr hj), pr h, pa h hj8, ao h hj8, ag h hj8, e_isRunning (ps h hj8), Option.bind_some, b2_b1, n_s, b1_0, sumR, vC]
    by_cases h1 : hi (P + 2 + j) 10 = 1 <;> simp [h1]) (by
    intro T acc _
    simp only [s_Plan_runningHeat_4, pg h, hc, Option.bind_some, n_le (a := n) (b := n) (by omega) (by omega), Nat.le_refl, if_true]) n 0 0 70 (by omega) (by omega) trivial
  simp only [f_Plan_runningHeat, f_Plan_runningHeat_4]
  exact hl
end FPLAN
