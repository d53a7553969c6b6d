/-! the reference's loops that write, seen by its cells -/
theorem vM_w (hi : am_I) (M i k : Nat) (x : Int32) (h : 9 ≤ k) (hk : k < 19) : vM (am_up hi (M + k - 3) i x) M = am_up (vM hi M) i k x := by
  rw [vM_up hi M i k x h hk]
  funext i2 k2
  simp only [vu, am_up, cu]
  by_cases h1 : i2 = i <;> by_cases h2 : k2 = k <;> simp [h1, h2, cu]
theorem vM_6 (hi : am_I) (M i : Nat) (x : Int32) : vM (am_up hi (M + 6) i x) M = am_up (vM hi M) i 9 x := vM_w hi M i 9 x (by omega) (by omega)
theorem vM_7 (hi : am_I) (M i : Nat) (x : Int32) : vM (am_up hi (M + 7) i x) M = am_up (vM hi M) i 10 x := vM_w hi M i 10 x (by omega) (by omega)
theorem vM_8 (hi : am_I) (M i : Nat) (x : Int32) : vM (am_up hi (M + 8) i x) M = am_up (vM hi M) i 11 x := vM_w hi M i 11 x (by omega) (by omega)
theorem vM_9 (hi : am_I) (M i : Nat) (x : Int32) : vM (am_up hi (M + 9) i x) M = am_up (vM hi M) i 12 x := vM_w hi M i 12 x (by omega) (by omega)
theorem vM_10 (hi : am_I) (M i : Nat) (x : Int32) : vM (am_up hi (M + 10) i x) M = am_up (vM hi M) i 13 x := vM_w hi M i 13 x (by omega) (by omega)
theorem vM_11 (hi : am_I) (M i : Nat) (x : Int32) : vM (am_up hi (M + 11) i x) M = am_up (vM hi M) i 14 x := vM_w hi M i 14 x (by omega) (by omega)
theorem vM_12 (hi : am_I) (M i : Nat) (x : Int32) : vM (am_up hi (M + 12) i x) M = am_up (vM hi M) i 15 x := vM_w hi M i 15 x (by omega) (by omega)
theorem vM_13 (hi : am_I) (M i : Nat) (x : Int32) : vM (am_up hi (M + 13) i x) M = am_up (vM hi M) i 16 x := vM_w hi M i 16 x (by omega) (by omega)
theorem vM_14 (hi : am_I) (M i : Nat) (x : Int32) : vM (am_up hi (M + 14) i x) M = am_up (vM hi M) i 17 x := vM_w hi M i 17 x (by omega) (by omega)
theorem vM_15 (hi : am_I) (M i : Nat) (x : Int32) : vM (am_up hi (M + 15) i x) M = am_up (vM hi M) i 18 x := vM_w hi M i 18 x (by omega) (by omega)
/-- nothing of the reference is touched but its activities' columns -/
def frM (M : Nat) (hi hi2 : am_I) : Prop := ∀ q, q < M + 6 ∨ M + 15 < q → hi2 q = hi q
theorem frM.rf {M : Nat} {hi : am_I} : frM M hi hi := fun _ _ => rfl
theorem frM.tr {M : Nat} {a b c : am_I} (h : frM M a b) (h2 : frM M b c) : frM M a c := fun q hq => (h2 q hq).trans (h q hq)
theorem frM.up {M a i : Nat} {hi hi2 : am_I} {x : Int32} (h : frM M hi hi2) (h1 : M + 6 ≤ a) (h2 : a ≤ M + 15) : frM M hi (am_up hi2 a i x) := fun q hq => by
  funext j
  rw [am_up_na (by omega)]
  rw [h q hq]
theorem frM.at {M : Nat} {hi hi2 : am_I} (h : frM M hi hi2) (k : Nat) : hi2 M k = hi M k := by rw [h M (by omega)]
theorem fold_cw (g : (Nat → Int32) → Nat → Int32) : ∀ d j (v : Nat → Nat → Int32), foldN (fun v j => cw v j (g (v j))) v j d = fun i => if j ≤ i ∧ i < j + d then g (v i) else v i := by
  intro d
  induction d with
  | zero =>
    intro j v
    funext q
    rw [if_neg (by omega)]
    rfl
  | succ d ih =>
    intro j v
    simp only [foldN]
    rw [ih (j + 1)]
    funext q
    by_cases h1 : q = j
    · subst h1
      rw [if_neg (by omega), if_pos (by omega), cw_e]
    · rw [cw_n _ _ _ _ h1]
      by_cases h2 : j + 1 ≤ q ∧ q < j + 1 + d
      · rw [if_pos h2, if_pos (by omega)]
      · rw [if_neg h2, if_neg (by omega)]
theorem fold_vM {M : Nat} {G : am_I → Nat → am_I} {g : (Nat → Nat → Int32) → Nat → Nat → Nat → Int32} (hG : ∀ hi j, vM (G hi j) M = g (vM hi M) j) : ∀ d j hi, vM (foldN G hi j d) M = foldN g (vM hi M) j d := by
  intro d
  induction d with
  | zero => intro j hi; rfl
  | succ d ih =>
    intro j hi
    simp only [foldN]
    rw [ih, hG]
def skipV (n : Nat) (t : Int32) (v : Nat → Nat → Int32) (j : Nat) : Nat → Nat → Int32 := if v j 10 = 0 ∧ hopeless v n t j = true then cw v j (cu (v j) 10 4) else v
def skipM (M n : Nat) (t : Int32) (hi : am_I) (j : Nat) : am_I := if vM hi M j 10 = 0 ∧ hopeless (vM hi M) n t j = true then am_up hi (M + 7) j 4 else hi
def skipF (M n : Nat) (t : Int32) (x : am_I × Bool) (j : Nat) : am_I × Bool := (skipM M n t x.1 j, x.2 || (decide (vM x.1 M j 10 = 0) && hopeless (vM x.1 M) n t j))
def restG (M : Nat) (x : am_I) (j : Nat) : am_I := am_up (am_up (am_up (am_up (am_up x (M + 7) j 0) (M + 8) j (-1)) (M + 9) j 0) (M + 10) j (x (M + 5) (48 + j))) (M + 11) j 0
def goG (M : Nat) (x : am_I) (j : Nat) : am_I := am_up x (M + 7) j (if x (M + 7) j = 1 then 3 else if x (M + 7) j = 0 then 4 else x (M + 7) j)
theorem restG_fr {M : Nat} {hi x : am_I} {j : Nat} (hx : frM M hi x) : frM M hi (restG M x j) := by
  unfold restG
  refine frM.up (frM.up (frM.up (frM.up (frM.up hx ?_ ?_) ?_ ?_) ?_ ?_) ?_ ?_) ?_ ?_ <;> omega
theorem goG_fr {M : Nat} {hi x : am_I} {j : Nat} (hx : frM M hi x) : frM M hi (goG M x j) := by
  unfold goG
  refine frM.up hx ?_ ?_ <;> omega
section FMOW
variable {M z n : Nat} {sh : am_S} {hi : am_I} {hr : am_R} {t x y : Int32} {i : Nat}
theorem cnt_n (h : hi M 9 = nI n) {hi2 : am_I} (hf : frM M hi hi2) : hi2 M 9 = nI n := by rw [hf.at]; exact h
theorem m_rest (H : Mst M sh hr) (hn : n ≤ 8) (hc : hi M 9 = nI n) : ∃ hi2, f_Mo_rest M (z, sh, hi, hr) = some (0, (z, sh, hi2, hr)) ∧ frM M hi hi2 ∧ vM hi2 M = fun i => if i < n then aReady (vM hi M i) else vM hi M i := by
  have hl := loop_fold (bot := fun _ _ _ => none) (F := s_Mo_rest_2) (fun T j x => T M (nI j) (z, sh, x, hr)) (restG M) (fun x => some (0, (z, sh, x, hr))) n (fun x => frM M hi x)
    (fun j x _ hx => restG_fr hx) (by
    intro T j x hj hx
    have hj8 : j < 8 := by omega
    have e48 : am_up (am_up (am_up x (M + 7) j 0) (M + 8) j (-1)) (M + 9) j 0 (M + 5) (48 + j) = x (M + 5) (48 + j) := by rw [am_up_na (by omega), am_up_na (by omega), am_up_na (by omega)]
    simp only [s_Mo_rest_2, mg H, mp H, mo H, mr1 H, mr6 H, mr7 H, mr8 H, mr10 H, mr11 H, mr12 H, mr13 H, mr14 H, mr15 H, mr16 H, mr17 H, mr18 H, mr19 H, mr20 H, mr25 H, cnt_n hc hx, n_le (a := n) (b := j) (by omega) (by omega), if_neg (Nat.not_le.mpr hj), mw7 H hj8, mw8 H hj8, mw9 H hj8, mw10 H hj8, mw11 H hj8, n48, mi5 H (show 48 + j < 72 by omega), Option.bind_some, n_s, e48, restG]) (by
    intro T x hx
    simp only [s_Mo_rest_2, mg H, mp H, mo H, mr1 H, mr6 H, mr7 H, mr8 H, mr10 H, mr11 H, mr12 H, mr13 H, mr14 H, mr15 H, mr16 H, mr17 H, mr18 H, mr19 H, mr20 H, mr25 H, cnt_n hc hx, Option.bind_some, n_le (a := n) (b := n) (by omega) (by omega), Nat.le_refl, if_true]) n 0 hi 70 (by omega) (by omega) frM.rf
  refine ⟨_, ?_, fold_inv (g := restG M) (fun x => frM M hi x) n 0 hi frM.rf (fun j x _ _ hx => restG_fr hx), ?_⟩
  · simp only [f_Mo_rest, f_Mo_rest_2]
    exact hl
  · rw [fold_vM (g := fun v j => cw v j (aReady (v j)))]
    · rw [fold_cw]
      funext i
      by_cases h : i < n
      · rw [if_pos (by omega), if_pos h]
      · rw [if_neg (by omega), if_neg h]
    · intro x j
      simp only [restG, vM_7, vM_8, vM_9, vM_10, vM_11]
      simp only [up_cw, cw_e, cw_cw, aReady]
      rw [show vM x M j 6 = x (M + 5) (48 + j) from vM_lt (by omega)]
theorem m_goHome (H : Mst M sh hr) (hn : n ≤ 8) (hc : hi M 9 = nI n) : ∃ hi2, f_Mo_goHome M (z, sh, hi, hr) = some (0, (z, sh, am_up (am_up hi2 M 22 2) M 29 (hi M 27), hr)) ∧ frM M hi hi2 ∧ vM hi2 M = fun i => if i < n then aGive (vM hi M i) else vM hi M i := by
  have hl := loop_fold (bot := fun _ _ _ => none) (F := s_Mo_goHome_2) (fun T j x => T M (nI j) (z, sh, x, hr)) (goG M) (fun x => some (0, (z, sh, am_up (am_up x M 22 2) M 29 (x M 27), hr))) n (fun x => frM M hi x)
    (fun j x _ hx => goG_fr hx) (by
    intro T j x hj hx
    have hj8 : j < 8 := by omega
    simp only [s_Mo_goHome_2, mg H, mp H, mo H, mr1 H, mr6 H, mr7 H, mr8 H, mr10 H, mr11 H, mr12 H, mr13 H, mr14 H, mr15 H, mr16 H, mr17 H, mr18 H, mr19 H, mr20 H, mr25 H, cnt_n hc hx, n_le (a := n) (b := j) (by omega) (by omega), if_neg (Nat.not_le.mpr hj), mw7 H hj8, mi7 H hj8, Option.bind_some, n_s, goG]
    by_cases h1 : x (M + 7) j = 1
    · simp [h1]
    · by_cases h2 : x (M + 7) j = 0
      · simp [h2]
      · simp [h1, h2]) (by
    intro T x hx
    simp only [s_Mo_goHome_2, mg H, mp H, mo H, mr1 H, mr6 H, mr7 H, mr8 H, mr10 H, mr11 H, mr12 H, mr13 H, mr14 H, mr15 H, mr16 H, mr17 H, mr18 H, mr19 H, mr20 H, mr25 H, cnt_n hc hx, Option.bind_some, n_le (a := n) (b := n) (by omega) (by omega), Nat.le_refl, if_true]
    rw [am_up_nk (by omega)]) n 0 hi 70 (by omega) (by omega) frM.rf
  refine ⟨_, ?_, fold_inv (g := goG M) (fun x => frM M hi x) n 0 hi frM.rf (fun j x _ _ hx => goG_fr hx), ?_⟩
  · simp only [f_Mo_goHome, f_Mo_goHome_2]
    refine Eq.trans hl ?_
    rw [(fold_inv (g := goG M) (fun x => frM M hi x) n 0 hi frM.rf (fun j x _ _ hx => goG_fr hx)).at 27]
  · rw [fold_vM (g := fun v j => cw v j (aGive (v j)))]
    · rw [fold_cw]
      funext i
      by_cases h : i < n
      · rw [if_pos (by omega), if_pos h]
      · rw [if_neg (by omega), if_neg h]
    · intro x j
      simp only [goG, vM_7]
      simp only [up_cw, aGive]
      rw [← show vM x M j 10 = x (M + 7) j from vM_ge (by omega)]
      by_cases h1 : vM x M j 10 = 1
      · simp [h1]
      · by_cases h2 : vM x M j 10 = 0
        · simp [h2]
        · rw [if_neg h1, if_neg h2, if_neg h1, if_neg h2]
          congr 1
          funext k
          by_cases hk : k = 10
          · rw [hk, cu_e]
          · rw [cu_n _ _ _ _ hk]
end FMOW
