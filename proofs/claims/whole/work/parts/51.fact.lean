theorem cu_e (c : Nat → Int32) (k : Nat) (x : Int32) : cu c k x k = x := by simp [cu]
theorem cu_n (c : Nat → Int32) (k j : Nat) (x : Int32) (h : j ≠ k) : cu c k x j = c j := by simp [cu, h]
/-! an activity's cell, and what is done to it -/
def aClear (c : Nat → Int32) : Nat → Int32 := cu (cu (cu (cu (cu (cu (cu (cu (cu (cu (cu (cu c 0 0) 1 0) 2 0) 3 0) 4 0) 5 99) 6 0) 7 0) 8 0) 9 0) 17 (-1)) 18 (-1)
def aReady (c : Nat → Int32) : Nat → Int32 := cu (cu (cu (cu (cu c 10 0) 11 (-1)) 12 0) 13 (c 6)) 14 0
def aStart (t : Int32) (c : Nat → Int32) : Nat → Int32 := cu (cu (cu (cu (cu (cu (cu (cu c 10 1) 11 t) 12 0) 14 (c 14 + 1)) 15 (if c 17 = -1 then c 1 else c 17)) 16 (if c 18 = -1 then c 2 else c 18)) 17 (-1)) 18 (-1)
def aStop (c : Nat → Int32) : Nat → Int32 := if c 13 ≤ 0 then cu c 10 3 else cu (cu c 13 (c 13 - 1)) 10 0
def aOlder (c : Nat → Int32) : Nat → Int32 := if c 2 < c 16 ∨ (¬ c 12 + 1 < c 1 ∧ ¬ c 15 ≤ c 12 + 1) then aStop (cu c 12 (c 12 + 1)) else if c 12 + 1 < c 15 then cu c 12 (c 12 + 1) else cu (cu c 12 (c 12 + 1)) 10 2
def b2 (p : Prop) [Decidable p] : Int32 := if p then 1 else 0
def bit (x : Int32) (i : Nat) : Prop := ((x >>> (nI i &&& 31)) &&& (1 : Int32)) ≠ 0
section FACT
variable {a z : Nat} {sh : am_S} {hi : am_I} {hr : am_R} {t : Int32} {i : Nat}
theorem e_clear (h : sh a = some (.inl 6)) : f_Activity_clear a (z, sh, hi, hr) = some (0, (z, sh, cw hi a (aClear (hi a)), hr)) := by
  simp only [f_Activity_clear, fl_fp h, Option.bind_some, up_cw, cw_e, cw_cw, aClear]
theorem e_ready (h : sh a = some (.inl 6)) : f_Activity_makeReady a (z, sh, hi, hr) = some (0, (z, sh, cw hi a (aReady (hi a)), hr)) := by
  simp only [f_Activity_makeReady, fl_fp h, fl_fg h, Option.bind_some, up_cw, cw_e, cw_cw, aReady]
  simp [cu_n]
theorem e_isAfter (h : sh a = some (.inl 6)) : f_Activity_isAfter a t (z, sh, hi, hr) = some (if ((hi a 7 >>> (t &&& 31)) &&& (1 : Int32)) = 0 then 0 else 1, (z, sh, hi, hr)) := by
  simp only [f_Activity_isAfter, fl_fg h, Option.bind_some]
  split <;> rfl
theorem e_isInstead (h : sh a = some (.inl 6)) : f_Activity_isInsteadOf a t (z, sh, hi, hr) = some (if ((hi a 8 >>> (t &&& 31)) &&& (1 : Int32)) = 0 then 0 else 1, (z, sh, hi, hr)) := by
  simp only [f_Activity_isInsteadOf, fl_fg h, Option.bind_some]
  split <;> rfl
theorem e_isRunning (h : sh a = some (.inl 6)) : f_Activity_isRunning a (z, sh, hi, hr) = some (b2 (hi a 10 = 1), (z, sh, hi, hr)) := by
  simp only [f_Activity_isRunning, fl_fg h, Option.bind_some, b2]
  split <;> rfl
theorem e_isWaiting (h : sh a = some (.inl 6)) : f_Activity_isWaiting a (z, sh, hi, hr) = some (b2 (hi a 10 = 0), (z, sh, hi, hr)) := by
  simp only [f_Activity_isWaiting, fl_fg h, Option.bind_some, b2]
  split <;> rfl
theorem e_isDone (h : sh a = some (.inl 6)) : f_Activity_isDone a (z, sh, hi, hr) = some (b2 (hi a 10 = 2), (z, sh, hi, hr)) := by
  simp only [f_Activity_isDone, fl_fg h, Option.bind_some, b2]
  split <;> rfl
theorem e_hasFailed (h : sh a = some (.inl 6)) : f_Activity_hasFailed a (z, sh, hi, hr) = some (b2 (hi a 10 = 3 ∨ hi a 10 = 4), (z, sh, hi, hr)) := by
  simp only [f_Activity_hasFailed, fl_fg h, Option.bind_some, b2]
  by_cases h1 : hi a 10 = 3
  · simp [h1]
  · by_cases h2 : hi a 10 = 4
    · simp [h2]
    · simp [h1, h2]
theorem e_start (h : sh a = some (.inl 6)) : f_Activity_start a t (z, sh, hi, hr) = some (0, (z, sh, cw hi a (aStart t (hi a)), hr)) := by
  simp only [f_Activity_start, s_Activity_start_45, s_Activity_start_68, fl_fp h, fl_fg h, Option.bind_some, up_cw, cw_e, cw_cw, aStart]
  by_cases h1 : hi a 17 = -1
  · by_cases h2 : hi a 18 = -1
    · simp [cu_n, cu_e, h1, h2]
    · simp [cu_n, cu_e, h1, h2]
  · by_cases h2 : hi a 18 = -1
    · simp [cu_n, cu_e, h1, h2]
    · simp [cu_n, cu_e, h1, h2]
theorem e_stop (h : sh a = some (.inl 6)) : f_Activity_stop a (z, sh, hi, hr) = some (0, (z, sh, cw hi a (aStop (hi a)), hr)) := by
  simp only [f_Activity_stop, fl_fp h, fl_fg h, Option.bind_some, up_cw, cw_e, cw_cw, aStop]
  split <;> rfl
theorem e_older (h : sh a = some (.inl 6)) : f_Activity_growOlder a (z, sh, hi, hr) = some (0, (z, sh, cw hi a (aOlder (hi a)), hr)) := by
  simp only [f_Activity_growOlder, s_Activity_growOlder_50, fl_fp h, fl_fg h, fl_ob h, e_stop h, Option.bind_some, up_cw, cw_e, cw_cw, aOlder]
  simp only [cu_e, cu_n _ 12 16 _ (by decide), cu_n _ 12 2 _ (by decide), cu_n _ 12 1 _ (by decide), cu_n _ 12 15 _ (by decide)]
  by_cases h1 : hi a 2 < hi a 16
  · simp [h1]
  · by_cases h2 : hi a 12 + 1 < hi a 1
    · by_cases h3 : hi a 12 + 1 < hi a 15
      · simp [h1, h2, h3]
      · simp [h1, h2, h3]
    · by_cases h4 : hi a 15 ≤ hi a 12 + 1
      · by_cases h3 : hi a 12 + 1 < hi a 15
        · simp [h1, h2, h3, h4]
        · simp [h1, h2, h3, h4]
      · simp [h1, h2, h4]
end FACT
