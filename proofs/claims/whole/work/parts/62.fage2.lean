-- needs 56 57 58 59 60 61
theorem fold_pair {σ ρ : Type} (g : σ → Nat → σ) (h : ρ → Nat → ρ) : ∀ d j x y, foldN (fun (a : σ × ρ) j => (g a.1 j, h a.2 j)) (x, y) j d = (foldN g x j d, foldN h y j d) := by
  intro d
  induction d with
  | zero => intro j x y; rfl
  | succ d ih =>
    intro j x y
    simp only [foldN]
    rw [ih]
theorem sum_bd {v : Nat → Nat → Int32} {k : Nat} {B : Int} (hB0 : 0 ≤ B) : ∀ n, (∀ i, i < n → v i 10 = 1 → ∃ a : Int, 0 ≤ a ∧ a ≤ B ∧ v i k = iI a) → ∃ s : Int, 0 ≤ s ∧ s ≤ n * B ∧ ∀ a0, foldN (sumR v k) (iI a0) 0 n = iI (a0 + s) := by
  intro n
  induction n with
  | zero => intro _; exact ⟨0, by omega, by simp, fun a0 => by rw [Int.add_zero]; rfl⟩
  | succ n ih =>
    intro h
    obtain ⟨s, h1, h2, h3⟩ := ih (fun i hi => h i (by omega))
    have e : ((n + 1 : Nat) : Int) * B = n * B + B := by rw [Int.natCast_add, Int.add_mul]; simp
    by_cases hr : v n 10 = 1
    · obtain ⟨a, ha, hb, hc⟩ := h n (by omega) hr
      refine ⟨s + a, by omega, by omega, fun a0 => ?_⟩
      rw [fold_snoc, h3]
      simp only [sumR, Nat.zero_add]
      rw [if_pos hr, hc, iI_add, Int.add_assoc]
    · refine ⟨s, by omega, by omega, fun a0 => ?_⟩
      rw [fold_snoc, h3]
      simp only [sumR, Nat.zero_add]
      rw [if_neg hr]
theorem vM_M (hi : am_I) (M k : Nat) (x : Int32) : vM (am_up hi M k x) M = vM hi M := by
  funext i k2
  unfold vM
  by_cases h : k2 < 9
  · rw [if_pos h, if_pos h, am_up_na (by omega)]
  · rw [if_neg h, if_neg h]
    by_cases h2 : k2 < 19
    · rw [if_pos h2, if_pos h2, am_up_na (by omega)]
    · rw [if_neg h2, if_neg h2]
theorem up_up (hi : am_I) (a k : Nat) (x y : Int32) : am_up (am_up hi a k x) a k y = am_up hi a k y := by
  funext q j
  unfold am_up
  by_cases h : q = a ∧ j = k
  · rw [if_pos h, if_pos h]
  · rw [if_neg h, if_neg h, if_neg h]
theorem up_self (hi : am_I) (a k : Nat) : am_up hi a k (hi a k) = hi := by
  funext q j
  unfold am_up
  by_cases h : q = a ∧ j = k
  · rw [if_pos h, h.1, h.2]
  · rw [if_neg h]
theorem up_comm (hi : am_I) (a k b j : Nat) (x y : Int32) (h : a ≠ b ∨ k ≠ j) : am_up (am_up hi a k x) b j y = am_up (am_up hi b j y) a k x := by
  funext q i
  unfold am_up
  by_cases h1 : q = a ∧ i = k
  · by_cases h2 : q = b ∧ i = j
    · omega
    · rw [if_neg h2, if_pos h1, if_pos h1]
  · by_cases h2 : q = b ∧ i = j
    · rw [if_pos h2, if_neg h1, if_pos h2]
    · rw [if_neg h2, if_neg h1, if_neg h1, if_neg h2]
section FAGE2
variable {M z n : Nat} {sh : am_S} {hi : am_I} {hr : am_R} {G : Nat → Int} {D : Int} {h : Nat}
theorem SupM_M {k : Nat} {x : Int32} (hS : SupM M hi G D h) (h1 : k ≠ 27) (h2 : k ≠ 28) : SupM M (am_up hi M k x) G D h := by
  refine ⟨fun j hj => ?_, ?_, ?_⟩
  · rw [am_up_na (by omega)]; exact hS.1 j hj
  · rw [am_up_nk (by omega)]; exact hS.2.1
  · rw [am_up_nk (by omega)]; exact hS.2.2
theorem m_age (H : Mst M sh hr) (hn : n ≤ 8) (hc : hi M 9 = nI n) (hB : SupB G D h) (hS : SupM M hi G D h) {m : Nat} {e tg s p q : Int} (hm : m < 1000000) (hT : hi M 21 = nI m) (he : hi M 23 = iI e) (ht : hi M 26 = iI tg) (hs : hi M 24 = iI s)
    (b1 : 0 ≤ e ∧ e ≤ 1000) (b2 : -1 ≤ tg ∧ tg ≤ 100) (b3 : 0 ≤ s ∧ s ≤ 500) (hp : foldN (sumR (vM hi M) 16) 0 0 n = iI p) (hq : foldN (sumR (vM hi M) 3) (iI s) 0 n = iI (s + q)) (b4 : 0 ≤ p ∧ p ≤ 10000) (b5 : 0 ≤ q ∧ q ≤ 10000) (hO : ∀ i, i < n → okOld (vM hi M i)) :
    ∃ hi2, f_Mo_age M (z, sh, hi, hr) = some (0, (z, sh, hi2, hr)) ∧ frM M (am_up (am_up hi M 23 (iI (passF e (gainF G tg m) p))) M 24 (iI (min 500 (s + q)))) hi2 ∧ vM hi2 M = fun i => if i < n then aOlderR (vM hi M i) else vM hi M i := by
  have hl := loop_fold (bot := fun _ _ _ _ => none) (F := s_Mo_age_4) (fun T j (a : Int32 × Int32) => T M a.1 (nI j) (z, sh, am_up hi M 24 a.2, hr)) (fun (a : Int32 × Int32) j => (sumR (vM hi M) 16 a.1 j, sumR (vM hi M) 3 a.2 j)) (fun a => s_Mo_age_4 (fun _ _ _ _ => none) M a.1 (nI n) (z, sh, am_up hi M 24 a.2, hr)) n (fun _ => True) (fun _ _ _ _ => trivial) (by
    intro T j a hj _
    have hj8 : j < 8 := by omega
    have e10 : vM hi M j 10 = hi (M + 7) j := vM_ge (by omega)
    have e16 : vM hi M j 16 = hi (M + 13) j := vM_ge (by omega)
    have e3 : vM hi M j 3 = hi (M + 5) (24 + j) := vM_lt (by omega)
    simp only [s_Mo_age_4, mg H, mp H, mo H, mr1 H, mr6 H, mr7 H, mr8 H, mr10 H, mr11 H, mr12 H, mr13 H, mr14 H, mr15 H, mr16 H, mr17 H, mr18 H, mr19 H, mr20 H, mr25 H, am_up_nk (show (9 : Nat) ≠ 24 by decide), hc, n_le (a := n) (b := j) (by omega) (by omega), if_neg (Nat.not_le.mpr hj), mi7 H hj8, mi13 H hj8, n24, mi5 H (show 24 + j < 72 by omega), am_up_na (show M + 7 ≠ M by omega), am_up_na (show M + 13 ≠ M by omega), am_up_na (show M + 5 ≠ M by omega), am_up_eq, up_up, Option.bind_some, n_s, sumR, e10, e16, e3]
    by_cases h1 : hi (M + 7) j = 1
    · simp only [if_pos h1]
    · simp only [if_neg h1]) (by
    intro T a _
    simp only [s_Mo_age_4, mg H, mp H, mo H, mr1 H, mr6 H, mr7 H, mr8 H, mr10 H, mr11 H, mr12 H, mr13 H, mr14 H, mr15 H, mr16 H, mr17 H, mr18 H, mr19 H, mr20 H, mr25 H, am_up_nk (show (9 : Nat) ≠ 24 by decide), hc, Option.bind_some, n_le (a := n) (b := n) (by omega) (by omega), Nat.le_refl, if_true]) n 0 (0, hi M 24) 70 (by omega) (by omega) trivial
  rw [fold_pair, hp, hs, hq] at hl
  have hd := m_draw (z := z) (hi := am_up hi M 24 (iI (s + q))) H hB (SupM_M hS (by decide) (by decide)) (e := e) (tg := tg) (d := p) hm (by rw [am_up_nk (by decide)]; exact hT) (by rw [am_up_nk (by decide)]; exact he) (by rw [am_up_nk (by decide)]; exact ht) b1 b2 b4
  have eh : am_up (am_up (am_up hi M 24 (iI (s + q))) M 23 (iI (passF e (gainF G tg m) p))) M 24 (iI (min 500 (s + q))) = am_up (am_up hi M 23 (iI (passF e (gainF G tg m) p))) M 24 (iI (min 500 (s + q))) := by
    rw [up_comm hi M 24 M 23 _ _ (by omega), up_up]
  have ev : vM (am_up (am_up hi M 23 (iI (passF e (gainF G tg m) p))) M 24 (iI (min 500 (s + q)))) M = vM hi M := by rw [vM_M, vM_M]
  obtain ⟨hi2, f1, f2, f3⟩ := m_ages (z := z) (hi := am_up (am_up hi M 23 (iI (passF e (gainF G tg m) p))) M 24 (iI (min 500 (s + q)))) (n := n) H hn (by rw [am_up_nk (by decide), am_up_nk (by decide)]; exact hc) (by rw [ev]; exact hO)
  refine ⟨hi2, ?_, f2, by rw [f3, ev]⟩
  simp only [f_Mo_age, f_Mo_age_4]
  have e0 : am_up hi M 24 (iI s) = hi := by rw [← hs]; exact up_self hi M 24
  simp only [] at hl
  rw [e0] at hl
  refine Eq.trans hl ?_
  simp only [s_Mo_age_4, mg H, mp H, mo H, mr1 H, mr6 H, mr7 H, mr8 H, mr10 H, mr11 H, mr12 H, mr13 H, mr14 H, mr15 H, mr16 H, mr17 H, mr18 H, mr19 H, mr20 H, mr25 H, am_up_nk (show (9 : Nat) ≠ 24 by decide), hc, Option.bind_some, n_le (a := n) (b := n) (by omega) (by omega), Nat.le_refl, if_true, hd]
  rw [am_up_nk (by decide), am_up_eq, i_500]
  simp (disch := omega) only [iI_le]
  by_cases h5 : s + q ≤ 500
  · rw [if_pos h5]
    rw [Int.min_eq_right h5] at eh f1
    rw [eh]
    exact f1
  · rw [if_neg h5]
    have e1 : iI 500 = iI (min 500 (s + q)) := by rw [Int.min_eq_left (by omega)]
    rw [e1, eh]
    exact f1
end FAGE2
