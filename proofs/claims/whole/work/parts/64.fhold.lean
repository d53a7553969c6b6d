-- needs 56 57 58 59 60 61 62 63
/-! the envelope: what both sides ask of it -/
def simF (G : Nat → Int) (D : Int) (h T : Nat) (dr : Nat → Int) : Nat → Nat → Int → Bool
  | 0, _, _ => true
  | d + 1, k, l => opC G D h (T + k) (min 1000 (l + G ((T + k) % 24) - dr k)) && simF G D h T dr d (k + 1) (min 1000 (l + G ((T + k) % 24) - dr k))
def lowF (G : Nat → Int) (T : Nat) (dr : Nat → Int) : Nat → Nat → Int → Int → Int
  | 0, _, _, low => max 0 low
  | d + 1, k, l, low => lowF G T dr d (k + 1) (min 1000 (l + G ((T + k) % 24) - dr k)) (min low (min 1000 (l + G ((T + k) % 24) - dr k)))
def lenN (p : Nat → Bool) : Nat → Nat
  | 0 => 0
  | k + 1 => if p (k + 1) = true then k + 1 else lenN p k
theorem lenN_eq {p : Nat → Bool} {L : Nat} : ∀ m, L ≤ m → (∀ k, 1 ≤ k → k ≤ m → (p k = true ↔ k ≤ L)) → lenN p m = L := by
  intro m
  induction m with
  | zero => intro h _; simp only [lenN]; omega
  | succ m ih =>
    intro h hp
    simp only [lenN]
    by_cases h1 : L = m + 1
    · rw [if_pos ((hp (m + 1) (by omega) (by omega)).mpr (by omega)), h1]
    · rw [if_neg (fun h2 => by have := (hp (m + 1) (by omega) (by omega)).mp h2; omega)]
      exact ih (by omega) (fun k h2 h3 => hp k h2 (by omega))
def lenX (v : Nat → Nat → Int32) (X : Int32) (n : Nat) : Nat := lenN (fun k => anyN (lastX v X k) 0 n) 30
def drI (v : Nat → Nat → Int32) (X : Int32) (n k : Nat) : Int := (foldN (drawG v X k) 0 0 n).toInt
def okDr (v : Nat → Nat → Int32) (X : Int32) (n : Nat) : Prop := ∀ i, i < n → runX v X i = true → ∃ a : Int, 0 ≤ a ∧ a ≤ 99 ∧ v i 2 = iI a
def holdsB (G : Nat → Int) (D : Int) (h T : Nat) (e s : Int) (v : Nat → Nat → Int32) (X : Int32) (n : Nat) : Bool := !decide ((100 : Int32) < foldN (heatG v X) 0 0 n) && !decide ((500 : Int32) < foldN (dataG v X) (iI s) 0 n) && opC G D h T e && simF G D h T (drI v X n) (lenX v X n) 1 e
def lowB (G : Nat → Int) (T : Nat) (e : Int) (v : Nat → Nat → Int32) (X : Int32) (n : Nat) : Int := lowF G T (drI v X n) (lenX v X n) 1 e e
theorem len_sp {v : Nat → Nat → Int32} {X : Int32} {n : Nat} (hE : okEnv v X n) : ∃ L, L ≤ 30 ∧ ∀ k, 1 ≤ k → k ≤ 1000 → (anyN (lastX v X k) 0 n = true ↔ k ≤ L) := by
  have : ∀ j, j ≤ n → ∃ L, L ≤ 30 ∧ ∀ k, 1 ≤ k → k ≤ 1000 → (anyN (lastX v X k) 0 j = true ↔ k ≤ L) := by
    intro j
    induction j with
    | zero =>
      intro _
      refine ⟨0, by omega, fun k h1 _ => ?_⟩
      show (false = true) ↔ _
      constructor
      · intro h; cases h
      · intro h; omega
    | succ j ih =>
      intro hj
      obtain ⟨L, h1, h2⟩ := ih (by omega)
      by_cases hr : runX v X j = true
      · obtain ⟨L2, h3, h4⟩ := (hE j (by omega)).1 hr
        refine ⟨max L L2, by omega, fun k k1 k2 => ?_⟩
        rw [any_snoc, Bool.or_eq_true, h2 k k1 k2]
        simp only [lastX, Nat.zero_add, hr, h4, Bool.true_and, Bool.not_eq_true', decide_eq_false_iff_not]
        rw [n_lt (a := L2) (b := k) (by omega) (by omega)]
        omega
      · refine ⟨L, h1, fun k k1 k2 => ?_⟩
        rw [any_snoc, Bool.or_eq_true, h2 k k1 k2]
        simp [lastX, hr]
  exact this n (Nat.le_refl n)
theorem len_eq {v : Nat → Nat → Int32} {X : Int32} {n L : Nat} (h : L ≤ 30) (hp : ∀ k, 1 ≤ k → k ≤ 1000 → (anyN (lastX v X k) 0 n = true ↔ k ≤ L)) : lenX v X n = L := lenN_eq 30 h (fun k h1 h2 => hp k h1 (by omega))
theorem dr_bd {v : Nat → Nat → Int32} {X : Int32} {n : Nat} (hn : n ≤ 8) (hD : okDr v X n) (k : Nat) : 0 ≤ drI v X n k ∧ drI v X n k ≤ 10000 := by
  have : ∀ j, j ≤ n → ∃ a : Int, 0 ≤ a ∧ a ≤ j * 99 ∧ foldN (drawG v X k) 0 0 j = iI a := by
    intro j
    induction j with
    | zero => intro _; exact ⟨0, by omega, by omega, rfl⟩
    | succ j ih =>
      intro hj
      obtain ⟨a, h1, h2, h3⟩ := ih (by omega)
      rw [fold_snoc, h3]
      simp only [drawG, Nat.zero_add]
      by_cases hl : lastX v X k j = true
      · have hr : runX v X j = true := by
          unfold lastX at hl
          rw [Bool.and_eq_true] at hl
          exact hl.1
        obtain ⟨c, c1, c2, c3⟩ := hD j (by omega) hr
        rw [if_pos hl, c3, iI_add]
        exact ⟨a + c, by omega, by omega, rfl⟩
      · rw [if_neg hl]
        exact ⟨a, by omega, by omega, rfl⟩
  obtain ⟨a, h1, h2, h3⟩ := this n (Nat.le_refl n)
  unfold drI
  rw [h3, iI_t (by omega) (by omega)]
  omega
theorem data_s (v : Nat → Nat → Int32) (X : Int32) (s : Int32) : ∀ n, foldN (dataG v X) s 0 n = s + foldN (dataG v X) 0 0 n := by
  intro n
  induction n with
  | zero => show s = s + 0; rw [Int32.add_zero]
  | succ n ih =>
    rw [fold_snoc, fold_snoc, ih]
    unfold dataG
    split
    · rw [Int32.add_assoc]
    · rfl
theorem op_nn {G : Nat → Int} {D : Int} {h m : Nat} {l : Int} (h1 : opC G D h m l = true) : 0 ≤ l := by
  unfold opC at h1
  have hb := nd_bd G D h m
  simp only [Bool.and_eq_true, Bool.not_eq_true', decide_eq_false_iff_not] at h1
  omega
theorem op_ok {G : Nat → Int} {D : Int} {h m : Nat} {l : Int} (hB : SupB G D h) (h0 : 0 ≤ l) (h1 : l ≤ 1000) : okF G D m h l = opC G D h m l := ok_nd hB.1 h m l h0 h1
section FHOLD
variable {b P Q M z n : Nat} {sh : am_S} {hi hi0 : am_I} {hr : am_R} {X : Int32} {G : Nat → Int} {D : Int} {h : Nat} {v : Nat → Nat → Int32} {L T : Nat} {e s : Int}
theorem e_holds (H : Cst b P Q sh hr) (hn : n ≤ 8) (hV : EnvI b n X v hi0 hi L) (hD : okDr v X n) (hB : SupB G D h) (hS : SupC b hi G D h) (hN : SupN b hi G D h) (he : hi (b + 4) 0 = iI e) (hs : hi (b + 4) 1 = iI s) (b1' : 0 ≤ e ∧ e ≤ 1000) (hT : T < 900000) :
    f_Envelope_holds (b + 7) (b + 4) (nI T) (z, sh, hi, hr) = some (b1 (holdsB G D h T e s v X n), (z, sh, hi, hr)) := by
  obtain ⟨f, i2, i3, i4, i5, i6, i7⟩ := hV
  have eL := len_eq i5 i7
  have key : ∀ d k l f, k + d = L + 1 → 1 ≤ k → d + 1 < f → 0 ≤ l → l ≤ 1000 → am_it (fun _ _ _ _ _ _ _ => none) s_Envelope_holds_42 f (b + 7) (b + 4) (nI T) (iI l) (1 : Int32) (nI k) (z, sh, hi, hr) = some (b1 (simF G D h T (drI v X n) d k l), (z, sh, hi, hr)) := by
    intro d
    induction d with
    | zero =>
      intro k l f hk h1 hf l0 l1
      obtain ⟨f, rfl⟩ : ∃ k, f = k + 1 := ⟨f - 1, by omega⟩
      rw [it_s]
      simp only [s_Envelope_holds_42, kg0 H, kp0 H, ko0 H, kg1 H, kp1 H, ko1 H, kg2 H, kp2 H, ko2 H, kg3 H, kp3 H, ko3 H, kg4 H, kp4 H, ko4 H, kr0_0 H, kr0_1 H, kr0_2 H, kr0_3 H, kr1_0 H, kr3_0 H, kr4_5 H, kr4_6 H, kr7_0 H, kr0_4 H, kr0_5 H, kal H, Option.bind_some, i6]
      rw [if_pos (nI_lt (by omega) (by omega))]
      rfl
    | succ d ih =>
      intro k l f hk h1 hf l0 l1
      obtain ⟨f, rfl⟩ : ∃ k, f = k + 1 := ⟨f - 1, by omega⟩
      have hd := dr_bd hn hD k
      have hg := hB.1 ((T + k) % 24) (by omega)
      have e8 : hi (b + 8) k = iI (drI v X n k) := by rw [i4 k h1 (by omega)]; exact iI_of _
      rw [it_s]
      simp only [s_Envelope_holds_42, kg0 H, kp0 H, ko0 H, kg1 H, kp1 H, ko1 H, kg2 H, kp2 H, ko2 H, kg3 H, kp3 H, ko3 H, kg4 H, kp4 H, ko4 H, kr0_0 H, kr0_1 H, kr0_2 H, kr0_3 H, kr1_0 H, kr3_0 H, kr4_5 H, kr4_6 H, kr7_0 H, kr0_4 H, kr0_5 H, kal H, Option.bind_some, i6]
      rw [if_neg (nI_nlt (by omega) (by omega)), if_neg (by decide)]
      rw [n_add, e_lowerGain H hS (show T + k < 1000000 by omega)]
      simp only [kg0 H, kp0 H, ko0 H, kg1 H, kp1 H, ko1 H, kg2 H, kp2 H, ko2 H, kg3 H, kp3 H, ko3 H, kg4 H, kp4 H, ko4 H, kr0_0 H, kr0_1 H, kr0_2 H, kr0_3 H, kr1_0 H, kr3_0 H, kr4_5 H, kr4_6 H, kr7_0 H, kr0_4 H, kr0_5 H, kal H, Option.bind_some, ki8 H (show k < 31 by omega), e8]
      rw [e_goOn (by omega) l1 (by omega) hd]
      simp only [kg0 H, kp0 H, ko0 H, kg1 H, kp1 H, ko1 H, kg2 H, kp2 H, ko2 H, kg3 H, kp3 H, ko3 H, kg4 H, kp4 H, ko4 H, kr0_0 H, kr0_1 H, kr0_2 H, kr0_3 H, kr1_0 H, kr3_0 H, kr4_5 H, kr4_6 H, kr7_0 H, kr0_4 H, kr0_5 H, kal H, Option.bind_some]
      rw [e_isOpen H hN (show T + k < 1000000 by omega) (by omega) (by omega)]
      simp only [Option.bind_some, simF, n_s]
      generalize hl : min 1000 (l + G ((T + k) % 24) - drI v X n k) = l'
      rcases Bool.eq_false_or_eq_true (opC G D h (T + k) l') with ho | ho
      · rw [ho, Bool.true_and]
        exact ih (k + 1) l' f (by omega) (by omega) (by omega) (op_nn ho) (by omega)
      · rw [ho, Bool.false_and]
        obtain ⟨f, rfl⟩ : ∃ k, f = k + 1 := ⟨f - 1, by omega⟩
        rw [it_s]
        simp only [s_Envelope_holds_42, kg0 H, kp0 H, ko0 H, kg1 H, kp1 H, ko1 H, kg2 H, kp2 H, ko2 H, kg3 H, kp3 H, ko3 H, kg4 H, kp4 H, ko4 H, kr0_0 H, kr0_1 H, kr0_2 H, kr0_3 H, kr1_0 H, kr3_0 H, kr4_5 H, kr4_6 H, kr7_0 H, kr0_4 H, kr0_5 H, kal H, Option.bind_some, i6]
        split <;> simp [b1]
  unfold holdsB
  rw [data_s, eL]
  simp only [f_Envelope_holds, kg0 H, kp0 H, ko0 H, kg1 H, kp1 H, ko1 H, kg2 H, kp2 H, ko2 H, kg3 H, kp3 H, ko3 H, kg4 H, kp4 H, ko4 H, kr0_0 H, kr0_1 H, kr0_2 H, kr0_3 H, kr1_0 H, kr3_0 H, kr4_5 H, kr4_6 H, kr7_0 H, kr0_4 H, kr0_5 H, kal H, Option.bind_some, i2, i3, he, hs]
  rw [e_isOpen H hN (show T < 1000000 by omega) (by omega) (by omega)]
  simp only [Option.bind_some, f_Envelope_holds_42]
  generalize foldN (heatG v X) 0 0 n = ht
  generalize iI s + foldN (dataG v X) 0 0 n = dt
  by_cases h1 : (100 : Int32) < ht
  · simp [h1, b1]
  · by_cases h2 : (500 : Int32) < dt
    · have h2' : ¬ dt ≤ 500 := by rw [Int32.not_le]; exact h2
      simp [h1, h2, h2', b1]
    · have h2' : dt ≤ 500 := by rw [← Int32.not_lt]; exact h2
      rcases Bool.eq_false_or_eq_true (opC G D h T e) with ho | ho
      · rw [if_neg h1, if_pos h2', ho]
        simp only [h1, h2, decide_false, Bool.not_false, Bool.true_and]
        exact key L 1 e 70 (by omega) (by omega) (by omega) b1'.1 b1'.2
      · rw [if_neg h1, if_pos h2', ho]
        simp only [Bool.and_false, Bool.false_and]
        rw [show (70 : Nat) = 69 + 1 from rfl, it_s]
        simp only [s_Envelope_holds_42, kg0 H, kp0 H, ko0 H, kg1 H, kp1 H, ko1 H, kg2 H, kp2 H, ko2 H, kg3 H, kp3 H, ko3 H, kg4 H, kp4 H, ko4 H, kr0_0 H, kr0_1 H, kr0_2 H, kr0_3 H, kr1_0 H, kr3_0 H, kr4_5 H, kr4_6 H, kr7_0 H, kr0_4 H, kr0_5 H, kal H, Option.bind_some, i6]
        split <;> simp [b1]
theorem e_deepest (H : Cst b P Q sh hr) (hn : n ≤ 8) (hV : EnvI b n X v hi0 hi L) (hD : okDr v X n) (hB : SupB G D h) (hS : SupC b hi G D h) (he : hi (b + 4) 0 = iI e) (b1' : 0 ≤ e ∧ e ≤ 1000) (hT : T < 900000) :
    f_Envelope_deepest (b + 7) (b + 4) (nI T) (z, sh, hi, hr) = some (iI (lowB G T e v X n), (z, sh, hi, hr)) := by
  obtain ⟨f, i2, i3, i4, i5, i6, i7⟩ := hV
  have eL := len_eq i5 i7
  have key : ∀ (d k : Nat) (l low : Int) (f : Nat), k + d = L + 1 → 1 ≤ k → d + 1 < f → -((k : Int) * 10000) ≤ l → l ≤ 1000 → -1000000 ≤ low → low ≤ 1000 → am_it (fun _ _ _ _ _ _ _ => none) s_Envelope_deepest_11 f (b + 7) (b + 4) (nI T) (iI l) (iI low) (nI k) (z, sh, hi, hr) = some (iI (lowF G T (drI v X n) d k l low), (z, sh, hi, hr)) := by
    intro d
    induction d with
    | zero =>
      intro k l low f hk h1 hf l0 l1 w0 w1
      obtain ⟨f, rfl⟩ : ∃ k, f = k + 1 := ⟨f - 1, by omega⟩
      rw [it_s]
      simp only [s_Envelope_deepest_11, kg0 H, kp0 H, ko0 H, kg1 H, kp1 H, ko1 H, kg2 H, kp2 H, ko2 H, kg3 H, kp3 H, ko3 H, kg4 H, kp4 H, ko4 H, kr0_0 H, kr0_1 H, kr0_2 H, kr0_3 H, kr1_0 H, kr3_0 H, kr4_5 H, kr4_6 H, kr7_0 H, kr0_4 H, kr0_5 H, kal H, Option.bind_some, i6, am_let]
      rw [if_pos (nI_lt (by omega) (by omega)), i_0]
      simp (disch := omega) only [iI_lt, lowF]
      by_cases h2 : 0 < low
      · rw [if_pos h2, Int.max_eq_right (by omega)]
      · rw [if_neg h2, Int.max_eq_left (by omega)]
    | succ d ih =>
      intro k l low f hk h1 hf l0 l1 w0 w1
      obtain ⟨f, rfl⟩ : ∃ k, f = k + 1 := ⟨f - 1, by omega⟩
      have hd := dr_bd hn hD k
      have hg := hB.1 ((T + k) % 24) (by omega)
      have e8 : hi (b + 8) k = iI (drI v X n k) := by rw [i4 k h1 (by omega)]; exact iI_of _
      rw [it_s]
      simp only [s_Envelope_deepest_11, kg0 H, kp0 H, ko0 H, kg1 H, kp1 H, ko1 H, kg2 H, kp2 H, ko2 H, kg3 H, kp3 H, ko3 H, kg4 H, kp4 H, ko4 H, kr0_0 H, kr0_1 H, kr0_2 H, kr0_3 H, kr1_0 H, kr3_0 H, kr4_5 H, kr4_6 H, kr7_0 H, kr0_4 H, kr0_5 H, kal H, Option.bind_some, i6]
      rw [if_neg (nI_nlt (by omega) (by omega))]
      rw [n_add, e_lowerGain H hS (show T + k < 1000000 by omega)]
      simp only [kg0 H, kp0 H, ko0 H, kg1 H, kp1 H, ko1 H, kg2 H, kp2 H, ko2 H, kg3 H, kp3 H, ko3 H, kg4 H, kp4 H, ko4 H, kr0_0 H, kr0_1 H, kr0_2 H, kr0_3 H, kr1_0 H, kr3_0 H, kr4_5 H, kr4_6 H, kr7_0 H, kr0_4 H, kr0_5 H, kal H, Option.bind_some, ki8 H (show k < 31 by omega), e8]
      rw [e_goOn (by omega) l1 (by omega) hd]
      simp only [Option.bind_some, n_s, am_let, lowF]
      generalize hl : min 1000 (l + G ((T + k) % 24) - drI v X n k) = l'
      simp (disch := omega) only [iI_lt]
      have em : (if l' < low then iI l' else iI low) = iI (min low l') := by
        by_cases h2 : l' < low
        · rw [if_pos h2, Int.min_eq_right (by omega)]
        · rw [if_neg h2, Int.min_eq_left (by omega)]
      rw [em]
      exact ih (k + 1) l' (min low l') f (by omega) (by omega) (by omega) (by omega) (by omega) (by omega) (by omega)
  unfold lowB
  rw [eL]
  simp only [f_Envelope_deepest, kg0 H, kp0 H, ko0 H, kg1 H, kp1 H, ko1 H, kg2 H, kp2 H, ko2 H, kg3 H, kp3 H, ko3 H, kg4 H, kp4 H, ko4 H, kr0_0 H, kr0_1 H, kr0_2 H, kr0_3 H, kr1_0 H, kr3_0 H, kr4_5 H, kr4_6 H, kr7_0 H, kr0_4 H, kr0_5 H, kal H, Option.bind_some, he, f_Envelope_deepest_11]
  exact key L 1 e e 70 (by omega) (by omega) (by omega) (by omega) (by omega) (by omega) (by omega)
theorem m_runOr (H : Mst M sh hr) {j : Nat} (hj8 : j < 8) : f_Mo_isRunningOr M (nI j) X (z, sh, hi, hr) = some (b1 (runX (vM hi M) X j), (z, sh, hi, hr)) := by
  have e10 : vM hi M j 10 = hi (M + 7) j := vM_ge (by omega)
  simp only [f_Mo_isRunningOr, mg H, mp H, mo H, mr1 H, mr6 H, mr7 H, mr8 H, mr10 H, mr11 H, mr12 H, mr13 H, mr14 H, mr15 H, mr16 H, mr17 H, mr18 H, mr19 H, mr20 H, mr25 H, mi7 H hj8, Option.bind_some, runX, e10]
  by_cases h1 : hi (M + 7) j = 1
  · simp [h1, b1]
  · by_cases h2 : nI j = X
    · simp [h1, h2, b1]
    · simp [h1, h2, b1]
theorem m_leftOf (H : Mst M sh hr) {j : Nat} (hj8 : j < 8) : f_Mo_leftOf M (nI j) X (z, sh, hi, hr) = some (leftX (vM hi M) X j, (z, sh, hi, hr)) := by
  have e12 : vM hi M j 12 = hi (M + 9) j := vM_ge (by omega)
  have e1 : vM hi M j 1 = hi (M + 5) (8 + j) := vM_lt (by omega)
  simp only [f_Mo_leftOf, mg H, mp H, mo H, mr1 H, mr6 H, mr7 H, mr8 H, mr10 H, mr11 H, mr12 H, mr13 H, mr14 H, mr15 H, mr16 H, mr17 H, mr18 H, mr19 H, mr20 H, mr25 H, n8, mi9 H hj8, mi5 H (show 8 + j < 72 by omega), Option.bind_some, leftX, e1, e12]
  by_cases h2 : nI j = X
  · rw [if_pos h2, if_pos h2]
  · rw [if_neg h2, if_neg h2]
theorem m_drawIn (H : Mst M sh hr) (hn : n ≤ 8) (hc : hi M 9 = nI n) {k : Nat} : f_Mo_drawIn M (nI k) X (z, sh, hi, hr) = some (if anyN (lastX (vM hi M) X k) 0 n = true then foldN (drawG (vM hi M) X k) 0 0 n else -1, (z, sh, hi, hr)) := by
  have hl := loop_fold (bot := fun _ _ _ _ _ _ _ => none) (F := s_Mo_drawIn_8) (fun T j (a : Int32 × Bool) => T M (nI k) X a.1 (b1 a.2) (nI j) (z, sh, hi, hr)) (fun (a : Int32 × Bool) j => (drawG (vM hi M) X k a.1 j, a.2 || lastX (vM hi M) X k j)) (fun a => some (if a.2 = true then a.1 else -1, (z, sh, hi, hr))) n (fun _ => True) (fun _ _ _ _ => trivial) (by
    rintro T j ⟨a, c⟩ hj _
    have hj8 : j < 8 := by omega
    have e2 : vM hi M j 2 = hi (M + 5) (16 + j) := vM_lt (by omega)
    simp only [s_Mo_drawIn_8, s_Mo_drawIn_42, s_Mo_drawIn_43, s_Mo_drawIn_66, s_Mo_drawIn_77, m_runOr H hj8, m_leftOf H hj8, mg H, mp H, mo H, mr1 H, mr6 H, mr7 H, mr8 H, mr10 H, mr11 H, mr12 H, mr13 H, mr14 H, mr15 H, mr16 H, mr17 H, mr18 H, mr19 H, mr20 H, mr25 H, hc, n_le (a := n) (b := j) (by omega) (by omega), if_neg (Nat.not_le.mpr hj), n16, mi5 H (show 16 + j < 72 by omega), Option.bind_some, n_s, drawG, lastX, e2, b1_0, i0_1]
    generalize leftX (vM hi M) X j = lf
    rcases Bool.eq_false_or_eq_true (runX (vM hi M) X j) with h1 | h1
    · by_cases h3 : lf < nI k
      · cases c <;> simp [h1, h3, b1]
      · cases c <;> simp [h1, h3, b1]
    · cases c <;> simp [h1, b1]) (by
    rintro T ⟨a, c⟩ _
    simp only [s_Mo_drawIn_8, mg H, mp H, mo H, mr1 H, mr6 H, mr7 H, mr8 H, mr10 H, mr11 H, mr12 H, mr13 H, mr14 H, mr15 H, mr16 H, mr17 H, mr18 H, mr19 H, mr20 H, mr25 H, hc, Option.bind_some, n_le (a := n) (b := n) (by omega) (by omega), Nat.le_refl, if_true, b1_0]
    cases c <;> simp) n 0 (0, false) 70 (by omega) (by omega) trivial
  simp only [f_Mo_drawIn, f_Mo_drawIn_8]
  refine Eq.trans hl ?_
  rw [fold_pair (drawG (vM hi M) X k) (fun c j => c || lastX (vM hi M) X k j), fold_or, Bool.false_or]
theorem m_holds (H : Mst M sh hr) (hn : n ≤ 8) (hc : hi M 9 = nI n) (hE : okEnv (vM hi M) X n) (hD : okDr (vM hi M) X n) (hB : SupB G D h) (hS : SupM M hi G D h) (he : hi M 23 = iI e) (hs : hi M 24 = iI s) (hTT : hi M 21 = nI T) (b1' : 0 ≤ e ∧ e ≤ 1000) (hT : T < 800000) :
    f_Mo_holds M X (z, sh, hi, hr) = some (b1 (holdsB G D h T e s (vM hi M) X n), (z, sh, hi, hr)) := by
  obtain ⟨L, i5, i7⟩ := len_sp hE
  have eL := len_eq i5 i7
  have stop : ∀ l k f, 0 < f → am_it (fun _ _ _ _ _ _ => none) s_Mo_holds_111 f M X l (0 : Int32) k (z, sh, hi, hr) = some (0, (z, sh, hi, hr)) := by
    intro l k f hf
    obtain ⟨f, rfl⟩ : ∃ k, f = k + 1 := ⟨f - 1, by omega⟩
    rw [it_s]
    simp only [s_Mo_holds_111]
    split <;> simp
  have key : ∀ d k l f, k + d = L + 1 → 1 ≤ k → d + 1 < f → 0 ≤ l → l ≤ 1000 → am_it (fun _ _ _ _ _ _ => none) s_Mo_holds_111 f M X (iI l) (1 : Int32) (nI k) (z, sh, hi, hr) = some (b1 (simF G D h T (drI (vM hi M) X n) d k l), (z, sh, hi, hr)) := by
    intro d
    induction d with
    | zero =>
      intro k l f hk h1 hf l0 l1
      obtain ⟨f, rfl⟩ : ∃ k, f = k + 1 := ⟨f - 1, by omega⟩
      rw [it_s]
      have ha : ¬ anyN (lastX (vM hi M) X k) 0 n = true := fun hh => by have := (i7 k h1 (by omega)).mp hh; omega
      simp only [s_Mo_holds_111, mg H, mp H, mo H, mr1 H, mr6 H, mr7 H, mr8 H, mr10 H, mr11 H, mr12 H, mr13 H, mr14 H, mr15 H, mr16 H, mr17 H, mr18 H, mr19 H, mr20 H, mr25 H, m_drawIn H hn hc, if_neg ha, Option.bind_some]
      rw [if_neg (show ¬ (1 : Int32) = 0 by decide), if_pos (show (-1 : Int32) < 0 by decide)]
      split <;> rfl
    | succ d ih =>
      intro k l f hk h1 hf l0 l1
      obtain ⟨f, rfl⟩ : ∃ k, f = k + 1 := ⟨f - 1, by omega⟩
      have hd := dr_bd hn hD k
      have hg := hB.1 ((T + k) % 24) (by omega)
      have ha : anyN (lastX (vM hi M) X k) 0 n = true := (i7 k h1 (by omega)).mpr (by omega)
      have e8 : foldN (drawG (vM hi M) X k) 0 0 n = iI (drI (vM hi M) X n k) := iI_of _
      rw [it_s]
      simp only [s_Mo_holds_111, mg H, mp H, mo H, mr1 H, mr6 H, mr7 H, mr8 H, mr10 H, mr11 H, mr12 H, mr13 H, mr14 H, mr15 H, mr16 H, mr17 H, mr18 H, mr19 H, mr20 H, mr25 H, m_drawIn H hn hc, if_pos ha, Option.bind_some, e8, hTT, n_add]
      rw [if_neg (show ¬ (30 : Int32) < nI k from nI_nlt (a := 30) (by omega) (by decide)), if_neg (by decide)]
      rw [if_neg (show ¬ iI (drI (vM hi M) X n k) < 0 by rw [i_0]; simp (disch := omega) only [iI_lt]; omega)]
      rw [m_after H hS hB.1 (show T + k < 1000000 by omega) (by omega) l1 hd]
      simp only [mg H, mp H, mo H, mr1 H, mr6 H, mr7 H, mr8 H, mr10 H, mr11 H, mr12 H, mr13 H, mr14 H, mr15 H, mr16 H, mr17 H, mr18 H, mr19 H, mr20 H, mr25 H, Option.bind_some, simF, hTT, n_add, n_s]
      generalize hl : min 1000 (l + G ((T + k) % 24) - drI (vM hi M) X n k) = l'
      by_cases h5 : l' < 0
      · rw [if_pos (show iI l' < 0 by rw [i_0]; simp (disch := omega) only [iI_lt]; omega), stop _ _ f (by omega)]
        have : opC G D h (T + k) l' = false := by
          rcases Bool.eq_false_or_eq_true (opC G D h (T + k) l') with ho | ho
          · have := op_nn ho; omega
          · exact ho
        rw [this, Bool.false_and]
        rfl
      · rw [if_neg (show ¬ iI l' < 0 by rw [i_0]; simp (disch := omega) only [iI_lt]; omega)]
        rw [m_isOpen H hB hS (show T + k < 900000 by omega) (by omega) (by omega), op_ok hB (by omega) (by omega)]
        simp only [Option.bind_some, b1_0]
        rcases Bool.eq_false_or_eq_true (opC G D h (T + k) l') with ho | ho
        · rw [ho, Bool.true_and, if_neg (by decide)]
          exact ih (k + 1) l' f (by omega) (by omega) (by omega) (op_nn ho) (by omega)
        · rw [ho, if_pos rfl, stop _ _ f (by omega)]
          rfl
  have hl := loop_fold (bot := fun _ _ _ _ _ _ => none) (F := s_Mo_holds_10) (fun T j (a : Int32 × Int32) => T M X a.1 a.2 (nI j) (z, sh, hi, hr)) (fun (a : Int32 × Int32) j => (heatG (vM hi M) X a.1 j, dataG (vM hi M) X a.2 j)) (fun a => s_Mo_holds_10 (fun _ _ _ _ _ _ => none) M X a.1 a.2 (nI n) (z, sh, hi, hr)) n (fun _ => True) (fun _ _ _ _ => trivial) (by
    rintro T j ⟨a, c⟩ hj _
    have hj8 : j < 8 := by omega
    have e3 : vM hi M j 3 = hi (M + 5) (24 + j) := vM_lt (by omega)
    have e4 : vM hi M j 4 = hi (M + 5) (32 + j) := vM_lt (by omega)
    simp only [s_Mo_holds_10, m_runOr H hj8, m_leftOf H hj8, mg H, mp H, mo H, mr1 H, mr6 H, mr7 H, mr8 H, mr10 H, mr11 H, mr12 H, mr13 H, mr14 H, mr15 H, mr16 H, mr17 H, mr18 H, mr19 H, mr20 H, mr25 H, hc, n_le (a := n) (b := j) (by omega) (by omega), if_neg (Nat.not_le.mpr hj), n24, n32, mi5 H (show 24 + j < 72 by omega), mi5 H (show 32 + j < 72 by omega), Option.bind_some, n_s, heatG, dataG, e3, e4, b1_0]
    rcases Bool.eq_false_or_eq_true (runX (vM hi M) X j) with h1 | h1 <;> simp [h1]) (by
    rintro T ⟨a, c⟩ _
    simp only [s_Mo_holds_10, mg H, mp H, mo H, mr1 H, mr6 H, mr7 H, mr8 H, mr10 H, mr11 H, mr12 H, mr13 H, mr14 H, mr15 H, mr16 H, mr17 H, mr18 H, mr19 H, mr20 H, mr25 H, hc, Option.bind_some, n_le (a := n) (b := n) (by omega) (by omega), Nat.le_refl, if_true]) n 0 (0, iI s) 70 (by omega) (by omega) trivial
  rw [fold_pair] at hl
  simp only [f_Mo_holds, mg H, mp H, mo H, mr1 H, mr6 H, mr7 H, mr8 H, mr10 H, mr11 H, mr12 H, mr13 H, mr14 H, mr15 H, mr16 H, mr17 H, mr18 H, mr19 H, mr20 H, mr25 H, Option.bind_some, hs, f_Mo_holds_10]
  refine Eq.trans hl ?_
  unfold holdsB
  rw [eL]
  simp only [s_Mo_holds_10, mg H, mp H, mo H, mr1 H, mr6 H, mr7 H, mr8 H, mr10 H, mr11 H, mr12 H, mr13 H, mr14 H, mr15 H, mr16 H, mr17 H, mr18 H, mr19 H, mr20 H, mr25 H, hc, Option.bind_some, n_le (a := n) (b := n) (by omega) (by omega), Nat.le_refl, if_true, he, hTT, f_Mo_holds_111]
  rw [m_isOpen H hB hS (show T < 900000 by omega) b1'.1 b1'.2, op_ok hB b1'.1 b1'.2]
  have k1 : am_it (fun _ _ _ _ _ _ => none) s_Mo_holds_111 70 M X (iI e) (1 : Int32) (1 : Int32) (z, sh, hi, hr) = _ := key L 1 e 70 (by omega) (by omega) (by omega) b1'.1 b1'.2
  simp only [Option.bind_some, b1_0, stop _ _ 70 (by omega), k1]
  generalize foldN (heatG (vM hi M) X) 0 0 n = ht
  generalize foldN (dataG (vM hi M) X) (iI s) 0 n = dt
  by_cases h1 : (100 : Int32) < ht
  · simp [h1, b1]
  · by_cases h2 : (500 : Int32) < dt
    · simp [h1, h2, b1]
    · rcases Bool.eq_false_or_eq_true (opC G D h T e) with ho | ho <;> simp [h1, h2, ho, b1]
theorem m_lowest (H : Mst M sh hr) (hn : n ≤ 8) (hc : hi M 9 = nI n) (hE : okEnv (vM hi M) (-1) n) (hD : okDr (vM hi M) (-1) n) (hB : SupB G D h) (hS : SupM M hi G D h) (he : hi M 23 = iI e) (hTT : hi M 21 = nI T) (b1' : 0 ≤ e ∧ e ≤ 1000) (hT : T < 800000) :
    f_Mo_lowest M (z, sh, hi, hr) = some (iI (lowB G T e (vM hi M) (-1) n), (z, sh, am_up hi M 0 0, hr)) := by
  have ev : vM (am_up hi M 0 0) M = vM hi M := vM_M _ _ _ _
  have hc' : am_up hi M 0 0 M 9 = nI n := by rw [am_up_nk (by decide)]; exact hc
  have hTT' : am_up hi M 0 0 M 21 = nI T := by rw [am_up_nk (by decide)]; exact hTT
  have he' : am_up hi M 0 0 M 23 = iI e := by rw [am_up_nk (by decide)]; exact he
  have hS' : SupM M (am_up hi M 0 0) G D h := SupM_M hS (by decide) (by decide)
  obtain ⟨L, i5, i7⟩ := len_sp hE
  have eL := len_eq i5 i7
  have fin : ∀ low : Int, -1000000 ≤ low → low ≤ 1000 → s_Mo_lowest_67 (iI low) (z, sh, am_up hi M 0 0, hr) = some (iI (max 0 low), (z, sh, am_up hi M 0 0, hr)) := by
    intro low w0 w1
    simp only [s_Mo_lowest_67]
    rw [i_0]
    simp (disch := omega) only [iI_le]
    by_cases h2 : 0 ≤ low
    · rw [if_pos h2, Int.max_eq_right h2]
    · rw [if_neg h2, Int.max_eq_left (by omega)]
  have key : ∀ (d k : Nat) (l low : Int) (f : Nat), k + d = L + 1 → 1 ≤ k → d + 1 < f → -((k : Int) * 10000) ≤ l → l ≤ 1000 → -1000000 ≤ low → low ≤ 1000 → am_it (fun _ _ _ _ _ => none) s_Mo_lowest_17 f M (iI l) (iI low) (nI k) (z, sh, am_up hi M 0 0, hr) = some (iI (lowF G T (drI (vM hi M) (-1) n) d k l low), (z, sh, am_up hi M 0 0, hr)) := by
    intro d
    induction d with
    | zero =>
      intro k l low f hk h1 hf l0 l1 w0 w1
      obtain ⟨f, rfl⟩ : ∃ k, f = k + 1 := ⟨f - 1, by omega⟩
      rw [it_s]
      have ha : ¬ anyN (lastX (vM hi M) (-1) k) 0 n = true := fun hh => by have := (i7 k h1 (by omega)).mp hh; omega
      simp only [s_Mo_lowest_17, mg H, mp H, mo H, mr1 H, mr6 H, mr7 H, mr8 H, mr10 H, mr11 H, mr12 H, mr13 H, mr14 H, mr15 H, mr16 H, mr17 H, mr18 H, mr19 H, mr20 H, mr25 H, m_drawIn H hn hc', ev, if_neg ha, Option.bind_some, fin low w0 w1]
      rw [if_pos (show (-1 : Int32) < 0 by decide)]
      split <;> rfl
    | succ d ih =>
      intro k l low f hk h1 hf l0 l1 w0 w1
      obtain ⟨f, rfl⟩ : ∃ k, f = k + 1 := ⟨f - 1, by omega⟩
      have hd := dr_bd hn hD k
      have hg := hB.1 ((T + k) % 24) (by omega)
      have ha : anyN (lastX (vM hi M) (-1) k) 0 n = true := (i7 k h1 (by omega)).mpr (by omega)
      have e8 : foldN (drawG (vM hi M) (-1) k) 0 0 n = iI (drI (vM hi M) (-1) n k) := iI_of _
      rw [it_s]
      simp only [s_Mo_lowest_17, mg H, mp H, mo H, mr1 H, mr6 H, mr7 H, mr8 H, mr10 H, mr11 H, mr12 H, mr13 H, mr14 H, mr15 H, mr16 H, mr17 H, mr18 H, mr19 H, mr20 H, mr25 H, m_drawIn H hn hc', ev, if_pos ha, Option.bind_some, e8, hTT', n_add]
      rw [if_neg (show ¬ (30 : Int32) < nI k from nI_nlt (a := 30) (by omega) (by decide))]
      rw [if_neg (show ¬ iI (drI (vM hi M) (-1) n k) < 0 by rw [i_0]; simp (disch := omega) only [iI_lt]; omega)]
      rw [m_after H hS' hB.1 (show T + k < 1000000 by omega) (by omega) l1 hd]
      simp only [Option.bind_some, lowF, n_s]
      generalize hl : min 1000 (l + G ((T + k) % 24) - drI (vM hi M) (-1) n k) = l'
      simp (disch := omega) only [iI_le]
      by_cases h2 : low ≤ l'
      · rw [if_pos h2, ih (k + 1) l' low f (by omega) (by omega) (by omega) (by omega) (by omega) (by omega) (by omega), Int.min_eq_left h2]
      · rw [if_neg h2, ih (k + 1) l' l' f (by omega) (by omega) (by omega) (by omega) (by omega) (by omega) (by omega), Int.min_eq_right (by omega)]
  unfold lowB
  rw [eL]
  simp only [f_Mo_lowest, mg H, mp H, mo H, mr1 H, mr6 H, mr7 H, mr8 H, mr10 H, mr11 H, mr12 H, mr13 H, mr14 H, mr15 H, mr16 H, mr17 H, mr18 H, mr19 H, mr20 H, mr25 H, Option.bind_some, he', f_Mo_lowest_17]
  exact key L 1 e e 70 (by omega) (by omega) (by omega) (by omega) (by omega) (by omega) (by omega)
end FHOLD
