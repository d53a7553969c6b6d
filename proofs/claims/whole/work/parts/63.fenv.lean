-- needs 56 57 58 59 60
/-! the envelope of the class -/
theorem loop_ex {τ σ α : Type} {bot : τ} {F : τ → τ} (ap : τ → Nat → σ → α) (fin : σ → α) (n : Nat) (I : Nat → σ → Prop)
    (hs : ∀ t j x, j < n → I j x → ∃ y, I (j + 1) y ∧ ap (F t) j x = ap t (j + 1) y) (he : ∀ t x, I n x → ap (F t) n x = fin x) :
    ∀ d j x m, j + d = n → d < m → I j x → ∃ y, I n y ∧ ap (am_it bot F m) j x = fin y := by
  intro d
  induction d with
  | zero =>
    intro j x m hj hm hx
    obtain ⟨m, rfl⟩ : ∃ k, m = k + 1 := ⟨m - 1, by omega⟩
    have : j = n := by omega
    subst this
    exact ⟨x, hx, he _ x hx⟩
  | succ d ih =>
    intro j x m hj hm hx
    obtain ⟨m, rfl⟩ : ∃ k, m = k + 1 := ⟨m - 1, by omega⟩
    obtain ⟨y, hy, e⟩ := hs (am_it bot F m) j x (by omega) hx
    rw [it_s, e]
    exact ih (j + 1) y m (by omega) (by omega) hy
theorem any_snoc (p : Nat → Bool) : ∀ d j, anyN p j (d + 1) = (anyN p j d || p (j + d)) := by
  intro d
  induction d with
  | zero => intro j; simp [anyN]
  | succ d ih =>
    intro j
    show (p j || anyN p (j + 1) (d + 1)) = _
    rw [ih (j + 1), show j + 1 + d = j + (d + 1) by omega, ← Bool.or_assoc]
    rfl
def runX (v : Nat → Nat → Int32) (x : Int32) (i : Nat) : Bool := decide (v i 10 = 1) || decide (nI i = x)
def leftX (v : Nat → Nat → Int32) (x : Int32) (i : Nat) : Int32 := v i 1 - (if nI i = x then 0 else v i 12)
def heatG (v : Nat → Nat → Int32) (x : Int32) (a : Int32) (i : Nat) : Int32 := if runX v x i = true then a + v i 4 else a
def dataG (v : Nat → Nat → Int32) (x : Int32) (a : Int32) (i : Nat) : Int32 := if runX v x i = true then a + v i 3 * leftX v x i else a
def lastX (v : Nat → Nat → Int32) (x : Int32) (k i : Nat) : Bool := runX v x i && !decide (leftX v x i < nI k)
def drawG (v : Nat → Nat → Int32) (x : Int32) (k : Nat) (a : Int32) (i : Nat) : Int32 := if lastX v x k i = true then a + v i 2 else a
def okEnv (v : Nat → Nat → Int32) (x : Int32) (n : Nat) : Prop := ∀ i, i < n → (runX v x i = true → ∃ L : Nat, L ≤ 30 ∧ leftX v x i = nI L) ∧ (nI i = x → ¬ v i 10 = 1)
def frE (b : Nat) (hi hi2 : am_I) : Prop := ∀ q, q ≠ b + 7 → q ≠ b + 8 → hi2 q = hi q
def addG (b : Nat) (en : Int32) (x : am_I) (k : Nat) : am_I := am_up (am_up x (b + 8) k (x (b + 8) k + en)) (b + 7) 1 (if x (b + 7) 1 < nI k then nI k else x (b + 7) 1)
theorem addG_sp (b : Nat) (en : Int32) (x : am_I) (len : Nat) (hl : x (b + 7) 1 = nI len) (hl2 : len ≤ 30) : ∀ d, d ≤ 30 →
    frE b x (foldN (addG b en) x 1 d) ∧ foldN (addG b en) x 1 d (b + 7) 1 = nI (max len d) ∧ (∀ k, k ≠ 1 → foldN (addG b en) x 1 d (b + 7) k = x (b + 7) k) ∧ ∀ k, foldN (addG b en) x 1 d (b + 8) k = if 1 ≤ k ∧ k ≤ d then x (b + 8) k + en else x (b + 8) k := by
  intro d
  induction d with
  | zero =>
    intro _
    refine ⟨fun _ _ _ => rfl, ?_, fun _ _ => rfl, ?_⟩
    · show x (b + 7) 1 = _
      rw [hl, Nat.max_zero]
    · intro k
      rw [if_neg (by omega)]
      rfl
  | succ d ih =>
    intro hd
    obtain ⟨i1, i2, i3, i4⟩ := ih (by omega)
    rw [fold_snoc]
    generalize foldN (addG b en) x 1 d = y at *
    unfold addG
    refine ⟨?_, ?_, ?_, ?_⟩
    · intro q h7 h8
      funext j
      rw [am_up_na h7, am_up_na h8, i1 q h7 h8]
    · rw [am_up_eq, i2]
      have e := n_lt (a := max len d) (b := 1 + d) (by omega) (by omega)
      by_cases h : max len d < 1 + d
      · rw [if_pos (e.mpr h)]
        congr 1
        omega
      · rw [if_neg (fun h2 => h (e.mp h2))]
        congr 1
        omega
    · intro k hk
      rw [am_up_nk hk, am_up_na (by omega), i3 k hk]
    · intro k
      rw [am_up_na (by omega)]
      by_cases h : k = 1 + d
      · subst h
        rw [am_up_eq, i4, if_neg (by omega), if_pos (by omega)]
      · rw [am_up_nk h, i4]
        by_cases h2 : 1 ≤ k ∧ k ≤ d
        · rw [if_pos h2, if_pos (by omega)]
        · rw [if_neg h2, if_neg (by omega)]
section FENV
variable {b P Q z n : Nat} {sh : am_S} {hi : am_I} {hr : am_R} {X : Int32}
theorem k_act (H : Cst b P Q sh hr) (i : Nat) : P + 2 + i ≠ b + 7 ∧ P + 2 + i ≠ b + 8 := by
  rcases k_PQ H with h | h <;> omega
theorem e_add (H : Cst b P Q sh hr) {i L len : Nat} (hi8 : i < 8) (hL : L ≤ 30) (hl : hi (b + 7) 1 = nI len) (hl2 : len ≤ 30) : ∃ hi2, f_Envelope_add (b + 7) (P + 2 + i) (nI L) (z, sh, hi, hr) = some (0, (z, sh, hi2, hr)) ∧ frE b hi hi2 ∧ hi2 (b + 7) 1 = nI (max len L) ∧ hi2 (b + 7) 2 = hi (b + 7) 2 + vC hi P i 4 ∧ hi2 (b + 7) 3 = hi (b + 7) 3 + vC hi P i 3 * nI L ∧ ∀ k, hi2 (b + 8) k = if 1 ≤ k ∧ k ≤ L then hi (b + 8) k + vC hi P i 2 else hi (b + 8) k := by
  obtain ⟨a7, a8⟩ := k_act H i
  have hP := k_P H
  obtain ⟨x, hx⟩ : ∃ x, x = am_up (am_up hi (b + 7) 2 (hi (b + 7) 2 + vC hi P i 4)) (b + 7) 3 (hi (b + 7) 3 + vC hi P i 3 * nI L) := ⟨_, rfl⟩
  have hx1 : x (b + 7) 1 = nI len := by rw [hx, am_up_nk (by decide), am_up_nk (by decide)]; exact hl
  have hxf : frE b hi x := by
    intro q h7 h8
    funext j
    rw [hx, am_up_na h7, am_up_na h7]
  have hl3 := loop_fold (bot := fun _ _ _ _ _ => none) (F := s_Envelope_add_30) (fun T j y => T (b + 7) (P + 2 + i) (nI L) (nI j) (z, sh, y, hr)) (addG b (vC hi P i 2)) (fun y => some (0, (z, sh, y, hr))) (L + 1) (fun y => frE b hi y) (by
      intro j y _ hy q h7 h8
      funext k
      unfold addG
      rw [am_up_na h7, am_up_na h8, hy q h7 h8]) (by
    intro T j y hj hy
    have e2 : y (P + 2 + i) 2 = vC hi P i 2 := by rw [hy _ a7 a8]; rfl
    simp only [s_Envelope_add_30, kg0 H, kp0 H, ko0 H, kg1 H, kp1 H, ko1 H, kg2 H, kp2 H, ko2 H, kg3 H, kp3 H, ko3 H, kg4 H, kp4 H, ko4 H, kr0_0 H, kr0_1 H, kr0_2 H, kr0_3 H, kr1_0 H, kr3_0 H, kr4_5 H, kr4_6 H, kr7_0 H, kr0_4 H, kr0_5 H, kal H, Option.bind_some, n_lt (a := L) (b := j) (by omega) (by omega), n_le (a := 31) (b := j) (by omega) (by omega), if_neg (show ¬ L < j by omega), if_neg (show ¬ 31 ≤ j by omega), ki8 H (show j < 31 by omega), kw8 H (show j < 31 by omega), ag hP hi8, e2, am_let, am_up_na (show b + 7 ≠ b + 8 by omega), n_s, addG]) (by
    intro T y hy
    simp only [s_Envelope_add_30, n_lt (a := L) (b := L + 1) (by omega) (by omega), if_pos (show L < L + 1 by omega)]) L 1 x 70 (by omega) (by omega) hxf
  obtain ⟨s1, s2, s3, s4⟩ := addG_sp b (vC hi P i 2) x len hx1 hl2 L hL
  refine ⟨foldN (addG b (vC hi P i 2)) x 1 L, ?_, ?_, s2, ?_, ?_, ?_⟩
  · have e4 : hi (P + 2 + i) 4 = vC hi P i 4 := rfl
    have e3 : am_up hi (b + 7) 2 (hi (b + 7) 2 + vC hi P i 4) (P + 2 + i) 3 = vC hi P i 3 := by rw [am_up_na a7]; rfl
    simp only [f_Envelope_add, kg0 H, kp0 H, ko0 H, kg1 H, kp1 H, ko1 H, kg2 H, kp2 H, ko2 H, kg3 H, kp3 H, ko3 H, kg4 H, kp4 H, ko4 H, kr0_0 H, kr0_1 H, kr0_2 H, kr0_3 H, kr1_0 H, kr3_0 H, kr4_5 H, kr4_6 H, kr7_0 H, kr0_4 H, kr0_5 H, kal H, Option.bind_some, ag hP hi8, e4, e3, am_up_nk (show (3 : Nat) ≠ 2 by decide), f_Envelope_add_30]
    rw [show hi (P + 2 + i) 3 = vC hi P i 3 from rfl, ← hx]
    exact hl3
  · intro q h7 h8
    rw [s1 q h7 h8, hxf q h7 h8]
  · rw [s3 2 (by decide), hx, am_up_nk (by decide), am_up_eq]
  · rw [s3 3 (by decide), hx, am_up_eq]
  · intro k
    have e8 : ∀ k, x (b + 8) k = hi (b + 8) k := fun k => by rw [hx, am_up_na (by omega), am_up_na (by omega)]
    rw [s4 k, e8]
theorem e_clearE (H : Cst b P Q sh hr) : ∃ hi2, f_Envelope_clear (b + 7) (z, sh, hi, hr) = some (0, (z, sh, hi2, hr)) ∧ frE b hi hi2 ∧ hi2 (b + 7) 1 = 0 ∧ hi2 (b + 7) 2 = 0 ∧ hi2 (b + 7) 3 = 0 ∧ ∀ k, k < 31 → hi2 (b + 8) k = 0 := by
  have hl := loop_fold (bot := fun _ _ _ => none) (F := s_Envelope_clear_17) (fun T j x => T (b + 7) (nI j) (z, sh, x, hr)) (fun x j => am_up x (b + 8) j 0) (fun x => some (0, (z, sh, x, hr))) 31 (fun _ => True) (fun _ _ _ _ => trivial) (by
    intro T j x hj _
    simp only [s_Envelope_clear_17, kg0 H, kp0 H, ko0 H, kg1 H, kp1 H, ko1 H, kg2 H, kp2 H, ko2 H, kg3 H, kp3 H, ko3 H, kg4 H, kp4 H, ko4 H, kr0_0 H, kr0_1 H, kr0_2 H, kr0_3 H, kr1_0 H, kr3_0 H, kr4_5 H, kr4_6 H, kr7_0 H, kr0_4 H, kr0_5 H, kal H, Option.bind_some, n_le (a := 31) (b := j) (by omega) (by omega), if_neg (show ¬ 31 ≤ j by omega), kw8 H hj, n_s]) (by
    intro T x _
    simp only [s_Envelope_clear_17, kg0 H, kp0 H, ko0 H, kg1 H, kp1 H, ko1 H, kg2 H, kp2 H, ko2 H, kg3 H, kp3 H, ko3 H, kg4 H, kp4 H, ko4 H, kr0_0 H, kr0_1 H, kr0_2 H, kr0_3 H, kr1_0 H, kr3_0 H, kr4_5 H, kr4_6 H, kr7_0 H, kr0_4 H, kr0_5 H, kal H, Option.bind_some, n_le (a := 31) (b := 31) (by omega) (by omega), Nat.le_refl, if_true]) 31 0 (am_up (am_up (am_up hi (b + 7) 1 0) (b + 7) 2 0) (b + 7) 3 0) 70 (by omega) (by omega) trivial
  rw [fold_col (b + 8) (fun _ => 0)] at hl
  refine ⟨fun q k => if q = b + 8 ∧ 0 ≤ k ∧ k < 0 + 31 then 0 else am_up (am_up (am_up hi (b + 7) 1 0) (b + 7) 2 0) (b + 7) 3 0 q k, ?_, ?_, ?_, ?_, ?_, ?_⟩
  · simp only [f_Envelope_clear, kg0 H, kp0 H, ko0 H, kg1 H, kp1 H, ko1 H, kg2 H, kp2 H, ko2 H, kg3 H, kp3 H, ko3 H, kg4 H, kp4 H, ko4 H, kr0_0 H, kr0_1 H, kr0_2 H, kr0_3 H, kr1_0 H, kr3_0 H, kr4_5 H, kr4_6 H, kr7_0 H, kr0_4 H, kr0_5 H, kal H, Option.bind_some, f_Envelope_clear_17]
    exact hl
  · intro q h7 h8
    funext k
    simp only []
    rw [if_neg (by omega), am_up_na h7, am_up_na h7, am_up_na h7]
  · simp only []
    rw [if_neg (by omega), am_up_nk (by decide), am_up_nk (by decide), am_up_eq]
  · simp only []
    rw [if_neg (by omega), am_up_nk (by decide), am_up_eq]
  · simp only []
    rw [if_neg (by omega), am_up_eq]
  · intro k hk
    exact if_pos ⟨rfl, by omega, by omega⟩
def EnvI (b n : Nat) (X : Int32) (v : Nat → Nat → Int32) (hi : am_I) (x : am_I) (L : Nat) : Prop := frE b hi x ∧ x (b + 7) 2 = foldN (heatG v X) 0 0 n ∧ x (b + 7) 3 = foldN (dataG v X) 0 0 n ∧ (∀ k, 1 ≤ k → k ≤ 30 → x (b + 8) k = foldN (drawG v X k) 0 0 n) ∧ L ≤ 30 ∧ x (b + 7) 1 = nI L ∧ ∀ k, 1 ≤ k → k ≤ 1000 → (anyN (lastX v X k) 0 n = true ↔ k ≤ L)
theorem e_gather (H : Cst b P Q sh hr) (hn : n ≤ 8) (hc : hi P 1 = nI n) (hE : okEnv (vC hi P) X n) : ∃ hi2 L, f_Envelope_gather (b + 7) P X (z, sh, hi, hr) = some (0, (z, sh, hi2, hr)) ∧ EnvI b n X (vC hi P) hi hi2 L := by
  have hP := k_P H
  have pne : P ≠ b + 7 ∧ P ≠ b + 8 := by rcases k_PQ H with h | h <;> omega
  obtain ⟨x, ex, c1, c2, c3, c4, c5⟩ := e_clearE (z := z) (hi := hi) H
  obtain ⟨y, ⟨L, hy⟩, ey⟩ := loop_ex (bot := fun _ _ _ _ _ => none) (F := s_Envelope_gather_6) (fun T j y => T (b + 7) P X (nI j) (z, sh, y, hr)) (fun y => some (0, (z, sh, y, hr))) n (fun j y => ∃ L, EnvI b j X (vC hi P) hi y L) (by
    rintro T j y hj ⟨L, hy⟩
    obtain ⟨f, i2, i3, i4, i5, i6, i7⟩ := hy
    have hj8 : j < 8 := by omega
    have ec : y P 1 = nI n := by rw [f P pne.1 pne.2]; exact hc
    obtain ⟨a7, a8⟩ := k_act H j
    have ev : ∀ k, y (P + 2 + j) k = vC hi P j k := fun k => by rw [f _ a7 a8]; rfl
    have evC : ∀ k, vC y P j k = vC hi P j k := ev
    obtain ⟨hr1, hr2⟩ := hE j hj
    simp only [s_Envelope_gather_6, pg hP, ec, Option.bind_some, n_le (a := n) (b := j) (by omega) (by omega), if_neg (Nat.not_le.mpr hj), pr hP, pa hP hj8, ao hP hj8, e_isRunning (ps hP hj8), ag hP hj8, b2_b1, b1_0, ev, n_s]
    by_cases h1 : runX (vC hi P) X j = true
    · obtain ⟨L2, hL2, eL⟩ := hr1 h1
      obtain ⟨w, ew, w1, w2, w3, w4, w5⟩ := e_add (z := z) H (P := P) hj8 hL2 i6 i5
      refine ⟨w, ⟨max L L2, fun q h7 h8 => by rw [w1 q h7 h8, f q h7 h8], ?_, ?_, ?_, by omega, w2, ?_⟩, ?_⟩
      · rw [fold_snoc, w3, i2, evC]
        simp only [heatG, Nat.zero_add]
        rw [if_pos h1]
      · rw [fold_snoc, w4, i3, evC]
        simp only [dataG, Nat.zero_add]
        rw [if_pos h1, eL]
      · intro k k1 k2
        rw [fold_snoc, w5, i4 k k1 k2, evC]
        simp only [drawG, Nat.zero_add, lastX, h1, eL, Bool.true_and]
        have e := n_lt (a := L2) (b := k) (by omega) (by omega)
        by_cases h2 : k ≤ L2
        · rw [if_pos ⟨k1, h2⟩, if_pos]
          simp only [Bool.not_eq_true', decide_eq_false_iff_not]
          rw [e]; omega
        · rw [if_neg (by omega), if_neg]
          simp only [Bool.not_eq_true', decide_eq_false_iff_not]
          rw [e]; omega
      · intro k k1 k2
        rw [any_snoc, Bool.or_eq_true, i7 k k1 k2]
        simp only [lastX, Nat.zero_add, h1, eL, Bool.true_and, Bool.not_eq_true', decide_eq_false_iff_not]
        rw [n_lt (a := L2) (b := k) (by omega) (by omega)]
        omega
      · by_cases h2 : vC hi P j 10 = 1
        · have h3 : ¬ nI j = X := fun h => hr2 h h2
          have e3 : vC hi P j 1 - vC hi P j 12 = nI L2 := by
            have := eL
            unfold leftX at this
            rw [if_neg h3] at this
            exact this
          simp only [h2, decide_true, Bool.true_eq_false, if_false, e3, kg0 H, kp0 H, ko0 H, kg1 H, kp1 H, ko1 H, kg2 H, kp2 H, ko2 H, kg3 H, kp3 H, ko3 H, kg4 H, kp4 H, ko4 H, kr0_0 H, kr0_1 H, kr0_2 H, kr0_3 H, kr1_0 H, kr3_0 H, kr4_5 H, kr4_6 H, kr7_0 H, kr0_4 H, kr0_5 H, kal H, Option.bind_some, ew]
        · have h3 : nI j = X := by
            unfold runX at h1
            simpa [h2] using h1
          have e3 : vC hi P j 1 = nI L2 := by
            have := eL
            unfold leftX at this
            rw [if_pos h3, Int32.sub_zero] at this
            exact this
          simp only [h2, decide_false, if_true, h3, e3, kg0 H, kp0 H, ko0 H, kg1 H, kp1 H, ko1 H, kg2 H, kp2 H, ko2 H, kg3 H, kp3 H, ko3 H, kg4 H, kp4 H, ko4 H, kr0_0 H, kr0_1 H, kr0_2 H, kr0_3 H, kr1_0 H, kr3_0 H, kr4_5 H, kr4_6 H, kr7_0 H, kr0_4 H, kr0_5 H, kal H, Option.bind_some, ew]
    · have h1' : runX (vC hi P) X j = false := by
        rcases Bool.eq_false_or_eq_true (runX (vC hi P) X j) with h | h
        · exact absurd h h1
        · exact h
      refine ⟨y, ⟨L, f, ?_, ?_, ?_, i5, i6, ?_⟩, ?_⟩
      · rw [fold_snoc, i2]
        simp only [heatG, Nat.zero_add]
        rw [if_neg h1]
      · rw [fold_snoc, i3]
        simp only [dataG, Nat.zero_add]
        rw [if_neg h1]
      · intro k k1 k2
        rw [fold_snoc, i4 k k1 k2]
        simp only [drawG, Nat.zero_add, lastX, h1', Bool.false_and]
        rfl
      · intro k k1 k2
        rw [any_snoc, Bool.or_eq_true, i7 k k1 k2]
        simp [lastX, h1']
      · unfold runX at h1'
        simp only [Bool.or_eq_false_iff, decide_eq_false_iff_not] at h1'
        simp only [h1'.1, h1'.2, decide_false, if_true, if_false]) (by
    rintro T y ⟨L, hy⟩
    have ec : y P 1 = nI n := by rw [hy.1 P pne.1 pne.2]; exact hc
    simp only [s_Envelope_gather_6, pg hP, ec, Option.bind_some, n_le (a := n) (b := n) (by omega) (by omega), Nat.le_refl, if_true]) n 0 x 70 (by omega) (by omega) ⟨0, c1, c3, c4, fun k _ hk => c5 k (by omega), by omega, c2, fun k hk _ => by
      show (false = true) ↔ _
      constructor
      · intro h; cases h
      · intro h; omega⟩
  refine ⟨y, L, ?_, hy⟩
  simp only [f_Envelope_gather, kg0 H, kp0 H, ko0 H, kg1 H, kp1 H, ko1 H, kg2 H, kp2 H, ko2 H, kg3 H, kp3 H, ko3 H, kg4 H, kp4 H, ko4 H, kr0_0 H, kr0_1 H, kr0_2 H, kr0_3 H, kr1_0 H, kr3_0 H, kr4_5 H, kr4_6 H, kr7_0 H, kr0_4 H, kr0_5 H, kal H, Option.bind_some, ex, f_Envelope_gather_6]
  exact ey
end FENV
