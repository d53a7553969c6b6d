/-! the reference: its activities as cells -/
def vM (hi : am_I) (M : Nat) : Nat → Nat → Int32 := fun i k => if k < 9 then hi (M + 5) (8 * k + i) else if k < 19 then hi (M + k - 3) i else 0
theorem and_1 (y : Int32) : y &&& 1 = 0 ∨ y &&& 1 = 1 := by
  have h := pk_and y (m := 1) 1 (by decide)
  rw [h]
  have h2 : y.toBitVec.toNat % 2 ^ 1 = 0 ∨ y.toBitVec.toNat % 2 ^ 1 = 1 := by omega
  rcases h2 with h2 | h2
  · left; rw [h2]; rfl
  · right; rw [h2]; rfl
theorem tb_1 (x : Int32) (j : Nat) : (((x >>> (nI j &&& 31)) &&& (1 : Int32)) = 1) ↔ tb x j = true := by
  rcases and_1 (x >>> (nI j &&& 31)) with h | h
  · rw [h]; simp [tb, h]
  · rw [h]; simp [tb, h]
theorem tb_0 (x : Int32) (j : Nat) : (((x >>> (nI j &&& 31)) &&& (1 : Int32)) = 0) ↔ tb x j = false := by
  simp [tb]
theorem n8 (i : Nat) : (8 : Int32) + nI i = nI (8 + i) := n_add 8 i
theorem n16 (i : Nat) : (16 : Int32) + nI i = nI (16 + i) := n_add 16 i
theorem n24 (i : Nat) : (24 : Int32) + nI i = nI (24 + i) := n_add 24 i
theorem n32 (i : Nat) : (32 : Int32) + nI i = nI (32 + i) := n_add 32 i
theorem n40 (i : Nat) : (40 : Int32) + nI i = nI (40 + i) := n_add 40 i
theorem n48 (i : Nat) : (48 : Int32) + nI i = nI (48 + i) := n_add 48 i
theorem n56 (i : Nat) : (56 : Int32) + nI i = nI (56 + i) := n_add 56 i
theorem n64 (i : Nat) : (64 : Int32) + nI i = nI (64 + i) := n_add 64 i
theorem b1_and (x : Bool) : b1 x &&& 1 = b1 x := by cases x <;> rfl
theorem fold_or (p : Nat → Bool) : ∀ d j a, foldN (fun a j => a || p j) a j d = (a || anyN p j d) := by
  intro d
  induction d with
  | zero => intro j a; simp [foldN, anyN]
  | succ d ih =>
    intro j a
    simp only [foldN, anyN, ih, Bool.or_assoc]
theorem vM_lt {hi : am_I} {M i k : Nat} (h : k < 9) : vM hi M i k = hi (M + 5) (8 * k + i) := by simp [vM, h]
theorem vM_ge {hi : am_I} {M i k : Nat} (h : 9 ≤ k) (h2 : k < 19 := by omega) : vM hi M i k = hi (M + k - 3) i := by
  have : ¬ k < 9 := by omega
  simp [vM, this, h2]
theorem vM_19 {hi : am_I} {M i k : Nat} (h : 19 ≤ k) : vM hi M i k = 0 := by
  have h1 : ¬ k < 9 := by omega
  have h2 : ¬ k < 19 := by omega
  simp [vM, h1, h2]
/-- a place of a column is written -/
def vu (v : Nat → Nat → Int32) (i k : Nat) (x : Int32) : Nat → Nat → Int32 := fun i2 => if i2 = i then cu (v i2) k x else v i2
theorem vM_up (hi : am_I) (M i k : Nat) (x : Int32) (h : 9 ≤ k) (hk : k < 19) : vM (am_up hi (M + k - 3) i x) M = vu (vM hi M) i k x := by
  funext i2 k2
  by_cases h2 : k2 < 9
  · rw [vM_lt h2, am_up_na (by omega)]
    unfold vu
    by_cases h3 : i2 = i
    · rw [if_pos h3, cu_n _ _ _ _ (by omega), vM_lt h2]
    · rw [if_neg h3, vM_lt h2]
  · by_cases h19 : 19 ≤ k2
    · rw [vM_19 h19]
      unfold vu
      by_cases h3 : i2 = i
      · rw [if_pos h3, cu_n _ _ _ _ (by omega), vM_19 h19]
      · rw [if_neg h3, vM_19 h19]
    · rw [vM_ge (by omega)]
      unfold vu
      by_cases h3 : i2 = i
      · rw [if_pos h3]
        by_cases h4 : k2 = k
        · rw [h4, h3, am_up_eq, cu_e]
        · rw [am_up_na (by omega), cu_n _ _ _ _ h4, vM_ge (by omega)]
      · rw [if_neg h3, am_up_nk h3, vM_ge (by omega)]
section FMO
variable {M z n : Nat} {sh : am_S} {hi : am_I} {hr : am_R} {t x y : Int32} {i : Nat}
theorem m_thrown (H : Mst M sh hr) : f_Mo_thrown M (z, sh, hi, hr) = some (hi M 0, (z, sh, hi, hr)) := by
  simp only [f_Mo_thrown, mg H, mp H, mo H, mr1 H, mr6 H, mr7 H, mr8 H, mr10 H, mr11 H, mr12 H, mr13 H, mr14 H, mr15 H, mr16 H, mr17 H, mr18 H, mr19 H, mr20 H, mr25 H, Option.bind_some]
theorem m_refused (H : Mst M sh hr) (p q : Bool) : f_Mo_refused M (b1 p) (b1 q) (z, sh, hi, hr) = some (b1 (p || q), (z, sh, am_up hi M 0 (if p = true then 1 else if q = true then 2 else 0), hr)) := by
  cases p <;> cases q <;> simp [f_Mo_refused, s_Mo_refused_18, mg H, mp H, mo H, mr1 H, mr6 H, mr7 H, mr8 H, mr10 H, mr11 H, mr12 H, mr13 H, mr14 H, mr15 H, mr16 H, mr17 H, mr18 H, mr19 H, mr20 H, mr25 H, b1, am_up_eq]
theorem m_isActivity (H : Mst M sh hr) : f_Mo_isActivity M t (z, sh, hi, hr) = some (b1 (!decide (t < 0) && !decide (hi M 9 ≤ t)), (z, sh, hi, hr)) := by
  simp only [f_Mo_isActivity, mg H, mp H, mo H, mr1 H, mr6 H, mr7 H, mr8 H, mr10 H, mr11 H, mr12 H, mr13 H, mr14 H, mr15 H, mr16 H, mr17 H, mr18 H, mr19 H, mr20 H, mr25 H, Option.bind_some]
  by_cases h1 : t < 0
  · simp [h1, b1]
  · by_cases h2 : hi M 9 ≤ t
    · simp [h1, h2, b1]
    · simp [h1, h2, b1]
/-- hasIn -/
def inB (v : Nat → Nat → Int32) (nm x y : Int32) (j : Nat) : Bool := tb nm j && (decide (v j 10 = x) || decide (v j 10 = y))
theorem m_hasIn (H : Mst M sh hr) (hn : n ≤ 8) (hc : hi M 9 = nI n) : f_Mo_hasIn M t x y (z, sh, hi, hr) = some (b1 (anyN (inB (vM hi M) t x y) 0 n), (z, sh, hi, hr)) := by
  have hl := loop_fold (bot := fun _ _ _ _ _ _ _ => none) (F := s_Mo_hasIn_6) (fun T j a => T M t x y (b1 a) (nI j) (z, sh, hi, hr)) (fun a j => a || inB (vM hi M) t x y j) (fun a => some (b1 a, (z, sh, hi, hr))) n (fun _ => True) (fun _ _ _ _ => trivial) (by
    intro T j a hj _
    have hj8 : j < 8 := by omega
    have e : vM hi M j 10 = hi (M + 7) j := vM_ge (by omega)
    simp only [s_Mo_hasIn_6, s_Mo_hasIn_52, mg H, mp H, mo H, mr1 H, mr6 H, mr7 H, mr8 H, mr10 H, mr11 H, mr12 H, mr13 H, mr14 H, mr15 H, mr16 H, mr17 H, mr18 H, mr19 H, mr20 H, mr25 H, hc, n_le (a := n) (b := j) (by omega) (by omega), if_neg (Nat.not_le.mpr hj), mi7 H hj8, Option.bind_some, n_s, b1_0, tb_1, inB, e]
    cases a
    · rcases Bool.eq_false_or_eq_true (tb t j) with h7 | h7 <;> by_cases h1 : hi (M + 7) j = x <;> by_cases h2 : hi (M + 7) j = y <;> simp [h7, h1, h2, b1]
    · simp [b1]) (by
    intro T a _
    simp only [s_Mo_hasIn_6, mg H, mp H, mo H, mr1 H, mr6 H, mr7 H, mr8 H, mr10 H, mr11 H, mr12 H, mr13 H, mr14 H, mr15 H, mr16 H, mr17 H, mr18 H, mr19 H, mr20 H, mr25 H, hc, Option.bind_some, n_le (a := n) (b := n) (by omega) (by omega), Nat.le_refl, if_true, b1_and]) n 0 false 70 (by omega) (by omega) trivial
  simp only [f_Mo_hasIn, f_Mo_hasIn_6]
  refine Eq.trans hl ?_
  rw [fold_or, Bool.false_or]
theorem m_heatNow (H : Mst M sh hr) (hn : n ≤ 8) (hc : hi M 9 = nI n) : f_Mo_heatNow M (z, sh, hi, hr) = some (foldN (sumR (vM hi M) 4) 0 0 n, (z, sh, hi, hr)) := by
  have hl := loop_fold (bot := fun _ _ _ _ => none) (F := s_Mo_heatNow_4) (fun T j acc => T M acc (nI j) (z, sh, hi, hr)) (sumR (vM hi M) 4) (fun acc => some (acc, (z, sh, hi, hr))) n (fun _ => True) (fun _ _ _ _ => trivial) (by
    intro T j acc hj _
    have hj8 : j < 8 := by omega
    have e : vM hi M j 10 = hi (M + 7) j := vM_ge (by omega)
    have e4 : vM hi M j 4 = hi (M + 5) (32 + j) := vM_lt (by omega)
    simp only [s_Mo_heatNow_4, mg H, mp H, mo H, mr1 H, mr6 H, mr7 H, mr8 H, mr10 H, mr11 H, mr12 H, mr13 H, mr14 H, mr15 H, mr16 H, mr17 H, mr18 H, mr19 H, mr20 H, mr25 H, hc, n_le (a := n) (b := j) (by omega) (by omega), if_neg (Nat.not_le.mpr hj), mi7 H hj8, n32, mi5 H (show 32 + j < 72 by omega), Option.bind_some, n_s, sumR, e, e4]
    by_cases h1 : hi (M + 7) j = 1 <;> simp [h1]) (by
    intro T acc _
    simp only [s_Mo_heatNow_4, mg H, mp H, mo H, mr1 H, mr6 H, mr7 H, mr8 H, mr10 H, mr11 H, mr12 H, mr13 H, mr14 H, mr15 H, mr16 H, mr17 H, mr18 H, mr19 H, mr20 H, mr25 H, hc, Option.bind_some, n_le (a := n) (b := n) (by omega) (by omega), Nat.le_refl, if_true]) n 0 0 70 (by omega) (by omega) trivial
  simp only [f_Mo_heatNow, f_Mo_heatNow_4]
  exact hl
theorem m_howMany (H : Mst M sh hr) (hn : n ≤ 8) (hc : hi M 9 = nI n) : f_Mo_howMany M t (z, sh, hi, hr) = some (foldN (fun a j => if vM hi M j 10 = t then a + 1 else a) 0 0 n, (z, sh, hi, hr)) := by
  have hl := loop_fold (bot := fun _ _ _ _ _ => none) (F := s_Mo_howMany_4) (fun T j acc => T M t acc (nI j) (z, sh, hi, hr)) (fun (a : Int32) j => if vM hi M j 10 = t then a + 1 else a) (fun acc => some (acc, (z, sh, hi, hr))) n (fun _ => True) (fun _ _ _ _ => trivial) (by
    intro T j acc hj _
    have hj8 : j < 8 := by omega
    have e : vM hi M j 10 = hi (M + 7) j := vM_ge (by omega)
    simp only [s_Mo_howMany_4, mg H, mp H, mo H, mr1 H, mr6 H, mr7 H, mr8 H, mr10 H, mr11 H, mr12 H, mr13 H, mr14 H, mr15 H, mr16 H, mr17 H, mr18 H, mr19 H, mr20 H, mr25 H, hc, n_le (a := n) (b := j) (by omega) (by omega), if_neg (Nat.not_le.mpr hj), mi7 H hj8, Option.bind_some, n_s, e]
    by_cases h1 : hi (M + 7) j = t <;> simp [h1]) (by
    intro T acc _
    simp only [s_Mo_howMany_4, mg H, mp H, mo H, mr1 H, mr6 H, mr7 H, mr8 H, mr10 H, mr11 H, mr12 H, mr13 H, mr14 H, mr15 H, mr16 H, mr17 H, mr18 H, mr19 H, mr20 H, mr25 H, hc, Option.bind_some, n_le (a := n) (b := n) (by omega) (by omega), Nat.le_refl, if_true]) n 0 0 70 (by omega) (by omega) trivial
  simp only [f_Mo_howMany, f_Mo_howMany_4]
  exact hl
end FMO
