-- needs 56 57 58 59
/-! skipping, on both sides -/
theorem fold_snoc {σ : Type} (g : σ → Nat → σ) : ∀ d j x, foldN g x j (d + 1) = g (foldN g x j d) (j + d) := by
  intro d
  induction d with
  | zero => intro j x; rfl
  | succ d ih =>
    intro j x
    show foldN g (g x j) (j + 1) (d + 1) = _
    rw [ih (j + 1) (g x j), show j + 1 + d = j + (d + 1) by omega]
    rfl
theorem any_or (p q : Nat → Bool) : ∀ d j, anyN (fun j => p j || q j) j d = (anyN p j d || anyN q j d) := by
  intro d
  induction d with
  | zero => intro j; rfl
  | succ d ih =>
    intro j
    simp only [anyN, ih]
    cases p j <;> cases q j <;> simp
theorem fold_k {σ : Type} (f : σ → σ) : ∀ d j k x, foldN (fun x _ => f x) x j d = foldN (fun x _ => f x) x k d := by
  intro d
  induction d with
  | zero => intro j k x; rfl
  | succ d ih =>
    intro j k x
    exact ih (j + 1) (k + 1) (f x)
theorem fold_fix {σ : Type} (f : σ → σ) (x : σ) (h : f x = x) : ∀ d j, foldN (fun x _ => f x) x j d = x := by
  intro d
  induction d with
  | zero => intro j; rfl
  | succ d ih =>
    intro j
    show foldN (fun x _ => f x) (f x) (j + 1) d = x
    rw [h, ih]
theorem fold_more {σ : Type} (f : σ → σ) (x : σ) : ∀ r d, r ≤ d → f (foldN (fun x _ => f x) x 0 r) = foldN (fun x _ => f x) x 0 r → foldN (fun x _ => f x) x 0 d = foldN (fun x _ => f x) x 0 r := by
  intro r d
  induction d with
  | zero => intro h _; rw [Nat.le_zero.mp h]
  | succ d ih =>
    intro h hf
    by_cases h1 : r = d + 1
    · rw [h1]
    · rw [fold_snoc, ih (by omega) hf, hf]
def sweepV (n : Nat) (t : Int32) (v : Nat → Nat → Int32) : Nat → Nat → Int32 := foldN (skipV n t) v 0 n
def itS (n : Nat) (t : Int32) (v : Nat → Nat → Int32) : Nat → Nat → Int32 := foldN (fun x _ => sweepV n t x) v 0 n
/-- how many wait -/
def wt (v : Nat → Nat → Int32) : Nat → Nat
  | 0 => 0
  | n + 1 => wt v n + if v n 10 = 0 then 1 else 0
theorem wt_le (v : Nat → Nat → Int32) : ∀ n, wt v n ≤ n := by
  intro n
  induction n with
  | zero => exact Nat.le_refl 0
  | succ n ih =>
    simp only [wt]
    split <;> omega
theorem wt_eq {v w : Nat → Nat → Int32} : ∀ n, (∀ i, i < n → v i 10 = w i 10) → wt v n = wt w n := by
  intro n
  induction n with
  | zero => intro _; rfl
  | succ n ih =>
    intro h
    simp only [wt]
    rw [ih (fun i hi => h i (by omega)), h n (by omega)]
theorem wt_cw {v : Nat → Nat → Int32} {j : Nat} {c : Nat → Int32} (h : v j 10 = 0) (hc : ¬ c 10 = 0) : ∀ n, j < n → wt (cw v j c) n + 1 = wt v n := by
  intro n
  induction n with
  | zero => intro h; omega
  | succ n ih =>
    intro hj
    simp only [wt]
    by_cases h1 : j = n
    · subst h1
      rw [cw_e, if_neg hc, if_pos h]
      rw [wt_eq (w := v) j (fun i hi => by rw [cw_n _ _ _ _ (by omega)])]
    · rw [cw_n _ _ _ _ (by omega)]
      have := ih (by omega)
      omega
section FSKIP
variable {b P Q M z n : Nat} {sh : am_S} {hi : am_I} {hr : am_R} {t : Int32}
theorem vC_cw (x : am_I) (j : Nat) (c : Nat → Int32) : vC (cw x (P + 2 + j) c) P = cw (vC x P) j c := by
  funext i
  by_cases h : i = j
  · subst h; rw [cw_e]; exact cw_e _ _ _
  · rw [cw_n _ _ _ _ h]; exact cw_n _ _ _ _ (by omega)
def frP (P : Nat) (hi hi2 : am_I) : Prop := ∀ q, q < P + 2 ∨ P + 10 ≤ q → hi2 q = hi q
theorem frP.rf : frP P hi hi := fun _ _ => rfl
theorem frP.tr {a b c : am_I} (h : frP P a b) (h2 : frP P b c) : frP P a c := fun q hq => (h2 q hq).trans (h q hq)
theorem frP.cw {x : am_I} {j : Nat} {c : Nat → Int32} (h : frP P hi x) (hj : j < 8) : frP P hi (cw x (P + 2 + j) c) := fun q hq => by rw [cw_n _ _ _ _ (by omega)]; exact h q hq
theorem skipJ_v (x : am_I) (j : Nat) : vC (skipJ P n t x j) P = skipV n t (vC x P) j := by
  unfold skipJ skipV
  split
  · rw [vC_cw]; rfl
  · rfl
theorem sweep_v (x : am_I) : vC (sweep P n t x) P = sweepV n t (vC x P) := by
  unfold sweep sweepV
  have : ∀ d j (x : am_I), vC (foldN (skipJ P n t) x j d) P = foldN (skipV n t) (vC x P) j d := by
    intro d
    induction d with
    | zero => intro j x; rfl
    | succ d ih =>
      intro j x
      simp only [foldN]
      rw [ih, skipJ_v]
  exact this n 0 x
theorem skips_v (x : am_I) : vC (foldN (fun x _ => sweep P n t x) x 0 n) P = itS n t (vC x P) := by
  have : ∀ d j (x : am_I), vC (foldN (fun x _ => sweep P n t x) x j d) P = foldN (fun x _ => sweepV n t x) (vC x P) j d := by
    intro d
    induction d with
    | zero => intro j x; rfl
    | succ d ih =>
      intro j x
      simp only [foldN]
      rw [ih, sweep_v]
  exact this n 0 x
theorem skips_fr (hn : n ≤ 8) (x : am_I) : frP P x (foldN (fun x _ => sweep P n t x) x 0 n) := by
  refine fold_inv (g := fun x _ => sweep P n t x) (fun y => frP P x y) n 0 x frP.rf ?_
  intro k y _ _ hy
  refine fold_inv (g := skipJ P n t) (fun w => frP P x w) n 0 y hy ?_
  intro k y _ hk hy
  unfold skipJ
  split
  · exact hy.cw (by omega)
  · exact hy
/-- a sweep with its flag -/
def skipVF (n : Nat) (t : Int32) (x : (Nat → Nat → Int32) × Bool) (j : Nat) : (Nat → Nat → Int32) × Bool := (skipV n t x.1 j, x.2 || (decide (x.1 j 10 = 0) && hopeless x.1 n t j))
theorem skipVF_1 : ∀ d j x, (foldN (skipVF n t) x j d).1 = foldN (skipV n t) x.1 j d := by
  intro d
  induction d with
  | zero => intro j x; rfl
  | succ d ih =>
    intro j x
    simp only [foldN]
    rw [ih]
    rfl
theorem skipVF_inv (v : Nat → Nat → Int32) : ((foldN (skipVF n t) (v, false) 0 n).2 = false → sweepV n t v = v) ∧ ((foldN (skipVF n t) (v, false) 0 n).2 = true → wt (sweepV n t v) n < wt v n) := by
  have h := fold_inv (g := skipVF n t) (fun x => (x.2 = false → x.1 = v) ∧ (x.2 = true → wt x.1 n < wt v n)) n 0 (v, false) ⟨fun _ => rfl, fun h => by cases h⟩ (by
    intro k x _ hk hx
    unfold skipVF skipV
    by_cases h1 : x.1 k 10 = 0 ∧ hopeless x.1 n t k = true
    · rw [if_pos h1]
      simp only [h1.1, h1.2, decide_true, Bool.and_true, Bool.or_true]
      refine ⟨fun h => (by cases h), fun _ => ?_⟩
      have hw := wt_cw (v := x.1) (c := cu (x.1 k) 10 4) h1.1 (by rw [cu_e]; decide) n (by omega)
      rcases Bool.eq_false_or_eq_true x.2 with h2 | h2
      · have := hx.2 h2; omega
      · rw [← hx.1 h2]; omega
    · rw [if_neg h1]
      simp only []
      have : (decide (x.1 k 10 = 0) && hopeless x.1 n t k) = false := by
        by_cases h2 : x.1 k 10 = 0
        · rcases Bool.eq_false_or_eq_true (hopeless x.1 n t k) with h3 | h3
          · exact absurd ⟨h2, h3⟩ h1
          · simp [h3]
        · simp [h2]
      rw [this, Bool.or_false]
      exact hx)
  rw [skipVF_1] at h
  exact h
theorem skipM_v (x : am_I) (j : Nat) : vM (skipM M n t x j) M = skipV n t (vM x M) j := by
  unfold skipM skipV
  split
  · rw [vM_7, up_cw]
  · rfl
theorem skipM_fr {x : am_I} {j : Nat} (h : frM M hi x) : frM M hi (skipM M n t x j) := by
  unfold skipM
  split
  · exact h.up (by omega) (by omega)
  · exact h
theorem skipF_fr : ∀ d j (x : am_I × Bool), frM M hi x.1 → frM M hi (foldN (skipF M n t) x j d).1 := by
  intro d j x hx
  exact fold_inv (g := skipF M n t) (fun y => frM M hi y.1) d j x hx (fun k y _ _ hy => skipM_fr hy)
theorem skipF_v : ∀ d j (x : am_I × Bool), (vM (foldN (skipF M n t) x j d).1 M, (foldN (skipF M n t) x j d).2) = foldN (skipVF n t) (vM x.1 M, x.2) j d := by
  intro d
  induction d with
  | zero => intro j x; rfl
  | succ d ih =>
    intro j x
    simp only [foldN]
    rw [ih]
    simp only [skipF, skipVF, skipM_v]
theorem hop_in (v : Nat → Nat → Int32) (i : Nat) : anyN (hopeJ v i) 0 n = (anyN (inB v (v i 7) 3 4) 0 n || anyN (inB v (v i 8) 2 2) 0 n) := by
  rw [← any_or]
  apply any_congr
  intro k _ _
  simp only [hopeJ, inB, fd, dn, Bool.or_self]
  by_cases h3 : v k 10 = 3 <;> by_cases h4 : v k 10 = 4 <;> simp [h3, h4]
theorem m_skip (H : Mst M sh hr) (hn : n ≤ 8) (hc : hi M 9 = nI n) (ht : hi M 21 - hi M 30 = t) : ∃ hi2, f_Mo_skip M (z, sh, hi, hr) = some (0, (z, sh, hi2, hr)) ∧ frM M hi hi2 ∧ vM hi2 M = itS n t (vM hi M) := by
  have inner : ∀ (K2 : Nat → Int32 → am_w → Option (Int32 × am_w)) (x : am_I), frM M hi x → f_Mo_skip_10 K2 70 M (0 : Int32) (0 : Int32) (z, sh, x, hr) = K2 M (b1 (foldN (skipF M n t) (x, false) 0 n).2) (z, sh, (foldN (skipF M n t) (x, false) 0 n).1, hr) := by
    intro K2 x hx
    refine loop_fold (bot := fun _ _ _ _ => none) (F := s_Mo_skip_10 K2) (fun T j (y : am_I × Bool) => T M (b1 y.2) (nI j) (z, sh, y.1, hr)) (skipF M n t) (fun y => K2 M (b1 y.2) (z, sh, y.1, hr)) n (fun y => frM M hi y.1) (fun j y _ hy => skipM_fr hy) ?_ ?_ n 0 (x, false) 70 (by omega) (by omega) hx
    · intro T j y hj hy
      have hj8 : j < 8 := by omega
      have e5 : vM y.1 M j 5 = y.1 (M + 5) (40 + j) := vM_lt (by omega)
      have e7 : vM y.1 M j 7 = y.1 (M + 5) (56 + j) := vM_lt (by omega)
      have e8 : vM y.1 M j 8 = y.1 (M + 5) (64 + j) := vM_lt (by omega)
      have e10 : vM y.1 M j 10 = y.1 (M + 7) j := vM_ge (by omega)
      have ht2 : y.1 M 21 - y.1 M 30 = t := by rw [hy.at, hy.at]; exact ht
      simp only [s_Mo_skip_10, s_Mo_skip_75, s_Mo_skip_80, mg H, mp H, mo H, mr1 H, mr6 H, mr7 H, mr8 H, mr10 H, mr11 H, mr12 H, mr13 H, mr14 H, mr15 H, mr16 H, mr17 H, mr18 H, mr19 H, mr20 H, mr25 H, cnt_n hc hy, n_le (a := n) (b := j) (by omega) (by omega), if_neg (Nat.not_le.mpr hj), mi7 H hj8, mw7 H hj8, n40, n56, n64, mi5 H (show 40 + j < 72 by omega), mi5 H (show 56 + j < 72 by omega), mi5 H (show 64 + j < 72 by omega), m_hasIn H hn (cnt_n hc hy), Option.bind_some, n_s, b1_0, ht2, ← e5, ← e7, ← e8, ← e10]
      simp only [skipF, skipM, hopeless, hop_in]
      by_cases h1 : t ≤ vM y.1 M j 5
      · have h1' : ¬ vM y.1 M j 5 < t := by rw [Int32.not_lt]; exact h1
        rcases Bool.eq_false_or_eq_true (anyN (inB (vM y.1 M) (vM y.1 M j 7) 3 4) 0 n) with h2 | h2 <;> rcases Bool.eq_false_or_eq_true (anyN (inB (vM y.1 M) (vM y.1 M j 8) 2 2) 0 n) with h3 | h3 <;> by_cases h4 : vM y.1 M j 10 = 0 <;> simp [h1, h1', h2, h3, h4, b1]
      · have h1' : vM y.1 M j 5 < t := by rw [← Int32.not_le]; exact h1
        by_cases h4 : vM y.1 M j 10 = 0 <;> simp [h1, h1', h4, b1]
    · intro T y hy
      simp only [s_Mo_skip_10, mg H, mp H, mo H, mr1 H, mr6 H, mr7 H, mr8 H, mr10 H, mr11 H, mr12 H, mr13 H, mr14 H, mr15 H, mr16 H, mr17 H, mr18 H, mr19 H, mr20 H, mr25 H, cnt_n hc hy, Option.bind_some, n_le (a := n) (b := n) (by omega) (by omega), Nat.le_refl, if_true]
  have outer : ∀ w0 (x : am_I) f, wt (vM x M) n ≤ w0 → w0 + 1 < f → frM M hi x → ∃ hi2 r, am_it (fun _ _ _ => none) s_Mo_skip_2 f M (1 : Int32) (z, sh, x, hr) = some (0, (z, sh, hi2, hr)) ∧ frM M hi hi2 ∧ r ≤ w0 ∧ vM hi2 M = foldN (fun x _ => sweepV n t x) (vM x M) 0 r ∧ sweepV n t (vM hi2 M) = vM hi2 M := by
    intro w0
    induction w0 with
    | zero =>
      intro x f hw hf hx
      obtain ⟨f, rfl⟩ : ∃ k, f = k + 2 := ⟨f - 2, by omega⟩
      have hv : (vM (foldN (skipF M n t) (x, false) 0 n).1 M, (foldN (skipF M n t) (x, false) 0 n).2) = foldN (skipVF n t) (vM x M, false) 0 n := skipF_v (M := M) (n := n) (t := t) n 0 (x, false)
      have hI := skipVF_inv (n := n) (t := t) (vM x M)
      have h2 : (foldN (skipF M n t) (x, false) 0 n).2 = (foldN (skipVF n t) (vM x M, false) 0 n).2 := by rw [← hv]
      have h1 : vM (foldN (skipF M n t) (x, false) 0 n).1 M = sweepV n t (vM x M) := by
        have := skipVF_1 (n := n) (t := t) n 0 (vM x M, false)
        rw [← hv] at this
        exact this
      have hfl : (foldN (skipVF n t) (vM x M, false) 0 n).2 = false := by
        rcases Bool.eq_false_or_eq_true (foldN (skipVF n t) (vM x M, false) 0 n).2 with h | h
        · have := hI.2 h; omega
        · exact h
      refine ⟨(foldN (skipF M n t) (x, false) 0 n).1, 0, ?_, skipF_fr n 0 _ hx, Nat.le_refl 0, ?_, ?_⟩
      · rw [it_s]
        simp only [s_Mo_skip_2]
        rw [if_neg (by decide), inner _ x hx, h2, hfl, it_s]
        simp only [s_Mo_skip_2]
        rw [if_pos (by decide)]
      · rw [h1, hI.1 hfl]; rfl
      · rw [h1, hI.1 hfl, hI.1 hfl]
    | succ w0 ih =>
      intro x f hw hf hx
      obtain ⟨f, rfl⟩ : ∃ k, f = k + 2 := ⟨f - 2, by omega⟩
      have hv : (vM (foldN (skipF M n t) (x, false) 0 n).1 M, (foldN (skipF M n t) (x, false) 0 n).2) = foldN (skipVF n t) (vM x M, false) 0 n := skipF_v (M := M) (n := n) (t := t) n 0 (x, false)
      have hI := skipVF_inv (n := n) (t := t) (vM x M)
      have h2 : (foldN (skipF M n t) (x, false) 0 n).2 = (foldN (skipVF n t) (vM x M, false) 0 n).2 := by rw [← hv]
      have h1 : vM (foldN (skipF M n t) (x, false) 0 n).1 M = sweepV n t (vM x M) := by
        have := skipVF_1 (n := n) (t := t) n 0 (vM x M, false)
        rw [← hv] at this
        exact this
      rcases Bool.eq_false_or_eq_true (foldN (skipVF n t) (vM x M, false) 0 n).2 with hfl | hfl
      · have hlt := hI.2 hfl
        obtain ⟨hi2, r, e1, e2, e3, e4, e5⟩ := ih (foldN (skipF M n t) (x, false) 0 n).1 (f + 1) (by rw [h1]; omega) (by omega) (skipF_fr n 0 _ hx)
        refine ⟨hi2, r + 1, ?_, e2, by omega, ?_, e5⟩
        · rw [it_s]
          simp only [s_Mo_skip_2]
          rw [if_neg (by decide), inner _ x hx, h2, hfl]
          exact e1
        · rw [e4, h1]
          show _ = foldN (fun x _ => sweepV n t x) (sweepV n t (vM x M)) 1 r
          exact fold_k _ _ _ _ _
      · refine ⟨(foldN (skipF M n t) (x, false) 0 n).1, 0, ?_, skipF_fr n 0 _ hx, by omega, ?_, ?_⟩
        · rw [it_s]
          simp only [s_Mo_skip_2]
          rw [if_neg (by decide), inner _ x hx, h2, hfl, it_s]
          simp only [s_Mo_skip_2]
          rw [if_pos (by decide)]
        · rw [h1, hI.1 hfl]; rfl
        · rw [h1, hI.1 hfl, hI.1 hfl]
  obtain ⟨hi2, r, e1, e2, e3, e4, e5⟩ := outer (wt (vM hi M) n) hi 70 (Nat.le_refl _) (by have := wt_le (vM hi M) n; omega) frM.rf
  refine ⟨hi2, e1, e2, ?_⟩
  have hr2 : r ≤ n := by have := wt_le (vM hi M) n; omega
  unfold itS
  rw [fold_more (sweepV n t) (vM hi M) r n hr2 (by rw [← e4]; exact e5)]
  exact e4
end FSKIP
