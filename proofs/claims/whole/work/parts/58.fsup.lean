-- needs 56 57
/-! the way home, backward and forward -/
def ndS (n g D : Int) : Int := if n = -1 then -1 else if 1000 < max 0 (n + D - g) then -1 else max 0 (n + D - g)
def ndF (G : Nat → Int) (D : Int) : Nat → Nat → Int
  | _, 0 => 0
  | m, d + 1 => ndS (ndF G D (m + 1) d) (G ((m + 1) % 24)) D
def okF (G : Nat → Int) (D : Int) : Nat → Nat → Int → Bool
  | _, 0, _ => true
  | m, d + 1, l => decide (0 ≤ min 1000 (l + G ((m + 1) % 24) - D)) && okF G D (m + 1) d (min 1000 (l + G ((m + 1) % 24) - D))
def SupB (G : Nat → Int) (D : Int) (h : Nat) : Prop := (∀ j, j < 24 → 0 ≤ G j ∧ G j ≤ 50) ∧ (0 ≤ D ∧ D ≤ 99) ∧ 1 ≤ h ∧ h ≤ 20
def SupC (b : Nat) (hi : am_I) (G : Nat → Int) (D : Int) (h : Nat) : Prop := (∀ j, j < 24 → hi (b + 5) j = iI (G j)) ∧ hi (b + 4) 3 = nI h ∧ hi (b + 4) 4 = iI D
def SupN (b : Nat) (hi : am_I) (G : Nat → Int) (D : Int) (h : Nat) : Prop := ∀ j, j < 24 → hi (b + 6) j = iI (ndF G D j h)
def SupM (M : Nat) (hi : am_I) (G : Nat → Int) (D : Int) (h : Nat) : Prop := (∀ j, j < 24 → hi (M + 16) j = iI (G j)) ∧ hi M 27 = nI h ∧ hi M 28 = iI D
theorem nd_bd (G : Nat → Int) (D : Int) : ∀ d m, -1 ≤ ndF G D m d ∧ ndF G D m d ≤ 1000 := by
  intro d
  cases d with
  | zero => intro m; simp [ndF]
  | succ d =>
    intro m
    simp only [ndF, ndS]
    split
    · omega
    · split <;> omega
theorem nd_mod (G : Nat → Int) (D : Int) : ∀ d m, ndF G D (m % 24) d = ndF G D m d := by
  intro d
  induction d with
  | zero => intro m; rfl
  | succ d ih =>
    intro m
    simp only [ndF]
    rw [← ih (m % 24 + 1), ← ih (m + 1)]
    have e : (m % 24 + 1) % 24 = (m + 1) % 24 := by omega
    rw [e]
theorem ok_nd {G : Nat → Int} {D : Int} (hB : ∀ j, j < 24 → 0 ≤ G j ∧ G j ≤ 50) : ∀ d m l, 0 ≤ l → l ≤ 1000 → okF G D m d l = (!decide (ndF G D m d = -1) && !decide (l < ndF G D m d)) := by
  intro d
  induction d with
  | zero =>
    intro m l h0 h1
    have : ¬ l < 0 := by omega
    simp [okF, ndF, this]
  | succ d ih =>
    intro m l h0 h1
    have hg := hB ((m + 1) % 24) (by omega)
    have hb := nd_bd G D d (m + 1)
    simp only [okF, ndF]
    obtain ⟨g, eg⟩ : ∃ g, G ((m + 1) % 24) = g := ⟨_, rfl⟩
    obtain ⟨n, en⟩ : ∃ n, ndF G D (m + 1) d = n := ⟨_, rfl⟩
    simp only [eg] at hg ⊢
    simp only [en] at hb ⊢
    have n1 : n = -1 → ndS n g D = -1 := fun h3 => by simp [ndS, h3]
    have n2 : ¬ n = -1 → 1000 < max 0 (n + D - g) → ndS n g D = -1 := fun h3 h4 => by rw [ndS, if_neg h3, if_pos h4]
    have n3 : ¬ n = -1 → ¬ 1000 < max 0 (n + D - g) → ndS n g D = max 0 (n + D - g) := fun h3 h4 => by rw [ndS, if_neg h3, if_neg h4]
    by_cases h2 : 0 ≤ min 1000 (l + g - D)
    · rw [ih (m + 1) _ h2 (by omega)]
      simp only [en]
      by_cases h3 : n = -1
      · simp only [n1 h3]
        simp [h3]
      · by_cases h4 : 1000 < max 0 (n + D - g)
        · have : min 1000 (l + g - D) < n := by omega
          simp [n2 h3 h4, this]
        · have e : (min 1000 (l + g - D) < n) ↔ (l < max 0 (n + D - g)) := by omega
          have e2 : ¬ (max 0 (n + D - g) = -1) := by omega
          simp only [n3 h3 h4, h2, h3, e, e2, decide_true, decide_false, Bool.true_and, Bool.not_false]
    · have h2' : decide (0 ≤ min 1000 (l + g - D)) = false := by simp only [decide_eq_false_iff_not]; exact h2
      by_cases h3 : n = -1
      · simp only [n1 h3, h2', Bool.false_and, decide_true, Bool.not_true]
      · by_cases h4 : 1000 < max 0 (n + D - g)
        · simp only [n2 h3 h4, h2', Bool.false_and, decide_true, Bool.not_true]
        · have : l < max 0 (n + D - g) := by omega
          simp only [n3 h3 h4, h2', this, Bool.false_and, decide_true, Bool.not_true, Bool.and_false]
section FSUP
variable {b P Q M z : Nat} {sh : am_S} {hi : am_I} {hr : am_R} {G : Nat → Int} {D : Int} {h : Nat}
theorem e_needFrom (H : Cst b P Q sh hr) (hB : SupB G D h) (hS : SupC b hi G D h) {p : Nat} (hp : p < 24) : f_Supply_needFrom (b + 4) (nI p) (z, sh, hi, hr) = some (iI (ndF G D p h), (z, sh, hi, hr)) := by
  obtain ⟨hg, hD, hh1, hh2⟩ := hB
  obtain ⟨sg, sh3, sd⟩ := hS
  have key : ∀ k f, k < f → k ≤ h → ndF G D (p + k) (h - k) ≠ -1 → am_it (fun _ _ _ _ _ => none) s_Supply_needFrom_7 f (b + 4) (nI p) (iI (ndF G D (p + k) (h - k))) (nI k) (z, sh, hi, hr) = some (iI (ndF G D p h), (z, sh, hi, hr)) := by
    intro k
    induction k with
    | zero =>
      intro f hf _ hne
      obtain ⟨f, rfl⟩ : ∃ k, f = k + 1 := ⟨f - 1, by omega⟩
      rw [it_s]
      simp only [s_Supply_needFrom_7]
      rw [if_pos (by decide)]
      rfl
    | succ k ih =>
      intro f hf hk hne
      obtain ⟨f, rfl⟩ : ∃ k, f = k + 1 := ⟨f - 1, by omega⟩
      have hb := nd_bd G D (h - (k + 1)) (p + (k + 1))
      have hgk := hg ((p + (k + 1)) % 24) (by omega)
      have e1 : h - k = (h - (k + 1)) + 1 := by omega
      have e2 : ndF G D (p + k) (h - k) = ndS (ndF G D (p + (k + 1)) (h - (k + 1))) (G ((p + (k + 1)) % 24)) D := by
        rw [e1]; rfl
      rw [it_s]
      simp only [s_Supply_needFrom_7]
      rw [if_neg (show ¬ (nI (k + 1) < 1) from nI_nlt (a := k + 1) (b := 1) (by omega) (by omega))]
      simp only [kg0 H, kp0 H, ko0 H, kg1 H, kp1 H, ko1 H, kg2 H, kp2 H, ko2 H, kg3 H, kp3 H, ko3 H, kg4 H, kp4 H, ko4 H, kr0_0 H, kr0_1 H, kr0_2 H, kr0_3 H, kr1_0 H, kr3_0 H, kr4_5 H, kr4_6 H, kr7_0 H, kr0_4 H, kr0_5 H, kal H, Option.bind_some, sd, n_add, mod24 (show p + (k + 1) < 1000000 by omega), ki5 H (show (p + (k + 1)) % 24 < 24 by omega), sg _ (show (p + (k + 1)) % 24 < 24 by omega), iI_add, iI_sub, am_let]
      generalize ndF G D (p + (k + 1)) (h - (k + 1)) = nd at *
      generalize G ((p + (k + 1)) % 24) = g at *
      have e3 : (if (0 : Int32) < iI (nd + D - g) then iI (nd + D - g) else 0) = iI (max 0 (nd + D - g)) := by
        rw [i_0]
        simp (disch := omega) only [iI_lt]
        split
        · rw [Int.max_eq_right (by omega)]
        · rw [Int.max_eq_left (by omega)]
      rw [e3, i_1000]
      simp (disch := omega) only [iI_le]
      have e4 : nI (k + 1) + (-1 : Int32) = nI k := pk_m1 k
      rw [e4]
      simp only [ndS, if_neg hne] at e2
      by_cases h4 : max 0 (nd + D - g) ≤ 1000
      · rw [if_pos h4]
        rw [if_neg (by omega)] at e2
        rw [← e2]
        exact ih f (by omega) (by omega) (by omega)
      · rw [if_neg h4]
        rw [if_pos (by omega)] at e2
        have pr : ∀ k, ndF G D (p + k) (h - k) = -1 → k ≤ h → ndF G D p h = -1 := by
          intro k
          induction k with
          | zero => intro h1 _; exact h1
          | succ k ih2 =>
            intro h1 h2
            apply ih2 _ (by omega)
            have e1 : h - k = (h - (k + 1)) + 1 := by omega
            rw [e1]
            show ndS (ndF G D (p + (k + 1)) (h - (k + 1))) _ D = -1
            rw [h1]
            simp [ndS]
        rw [pr k e2 (by omega)]
        rfl
  simp only [f_Supply_needFrom, kg0 H, kp0 H, ko0 H, kg1 H, kp1 H, ko1 H, kg2 H, kp2 H, ko2 H, kg3 H, kp3 H, ko3 H, kg4 H, kp4 H, ko4 H, kr0_0 H, kr0_1 H, kr0_2 H, kr0_3 H, kr1_0 H, kr3_0 H, kr4_5 H, kr4_6 H, kr7_0 H, kr0_4 H, kr0_5 H, kal H, Option.bind_some, sh3, f_Supply_needFrom_7]
  have := key h 70 (by omega) (by omega) (by rw [Nat.sub_self]; simp [ndF])
  rw [Nat.sub_self] at this
  exact this
theorem e_needBehind (H : Cst b P Q sh hr) (hS : SupN b hi G D h) {m : Nat} (hm : m < 1000000) : f_Supply_needBehind (b + 4) (nI m) (z, sh, hi, hr) = some (iI (ndF G D m h), (z, sh, hi, hr)) := by
  simp only [f_Supply_needBehind, kg0 H, kp0 H, ko0 H, kg1 H, kp1 H, ko1 H, kg2 H, kp2 H, ko2 H, kg3 H, kp3 H, ko3 H, kg4 H, kp4 H, ko4 H, kr0_0 H, kr0_1 H, kr0_2 H, kr0_3 H, kr1_0 H, kr3_0 H, kr4_5 H, kr4_6 H, kr7_0 H, kr0_4 H, kr0_5 H, kal H, Option.bind_some, e_floorMod hm, ki6 H (show m % 24 < 24 by omega), hS _ (show m % 24 < 24 by omega), nd_mod]
theorem e_lowerGain (H : Cst b P Q sh hr) (hS : SupC b hi G D h) {m : Nat} (hm : m < 1000000) : f_Supply_lowerGain (b + 4) (nI m) (z, sh, hi, hr) = some (iI (G (m % 24)), (z, sh, hi, hr)) := by
  simp only [f_Supply_lowerGain, kg0 H, kp0 H, ko0 H, kg1 H, kp1 H, ko1 H, kg2 H, kp2 H, ko2 H, kg3 H, kp3 H, ko3 H, kg4 H, kp4 H, ko4 H, kr0_0 H, kr0_1 H, kr0_2 H, kr0_3 H, kr1_0 H, kr3_0 H, kr4_5 H, kr4_6 H, kr7_0 H, kr0_4 H, kr0_5 H, kal H, Option.bind_some, e_floorMod hm, ki5 H (show m % 24 < 24 by omega), hS.1 _ (show m % 24 < 24 by omega)]
def opC (G : Nat → Int) (D : Int) (h m : Nat) (l : Int) : Bool := !decide (ndF G D m h = -1) && !decide (l < ndF G D m h)
theorem e_isOpen (H : Cst b P Q sh hr) (hS : SupN b hi G D h) {m : Nat} (hm : m < 1000000) {l : Int} (h1 : -1000000 ≤ l) (h2 : l ≤ 1000) : f_Supply_isOpen (b + 4) (iI l) (nI m) (z, sh, hi, hr) = some (b1 (opC G D h m l), (z, sh, hi, hr)) := by
  have hb := nd_bd G D h m
  simp only [f_Supply_isOpen, kg0 H, kp0 H, ko0 H, kg1 H, kp1 H, ko1 H, kg2 H, kp2 H, ko2 H, kg3 H, kp3 H, ko3 H, kg4 H, kp4 H, ko4 H, kr0_0 H, kr0_1 H, kr0_2 H, kr0_3 H, kr1_0 H, kr3_0 H, kr4_5 H, kr4_6 H, kr7_0 H, kr0_4 H, kr0_5 H, kal H, Option.bind_some, e_needBehind H hS hm, i_m1, opC]
  generalize ndF G D m h = n at *
  simp (disch := omega) only [iI_lt, iI_inj]
  by_cases h3 : n = -1
  · simp [h3, b1]
  · by_cases h4 : l < n
    · simp [h3, h4, b1]
    · simp [h3, h4, b1]
theorem e_goOn {l g d : Int} (h1 : -1000000 ≤ l) (h2 : l ≤ 1000) (h3 : 0 ≤ g ∧ g ≤ 100) (h4 : 0 ≤ d ∧ d ≤ 10000) (w : am_w) : f_Supply_goOn (iI l) (iI g) (iI d) w = some (iI (min 1000 (l + g - d)), w) := by
  simp only [f_Supply_goOn, am_let, iI_add, iI_sub, i_1000]
  simp (disch := omega) only [iI_lt]
  by_cases h5 : l + g - d < 1000
  · rw [if_pos h5, Int.min_eq_right (by omega)]
  · rw [if_neg h5, Int.min_eq_left (by omega)]
theorem m_after (H : Mst M sh hr) (hS : SupM M hi G D h) (hB : ∀ j, j < 24 → 0 ≤ G j ∧ G j ≤ 50) {m : Nat} (hm : m < 1000000) {l d : Int} (h1 : -1000000 ≤ l) (h2 : l ≤ 1000) (h4 : 0 ≤ d ∧ d ≤ 10000) : f_Mo_afterMinute M (iI l) (nI m) (iI d) (z, sh, hi, hr) = some (iI (min 1000 (l + G (m % 24) - d)), (z, sh, hi, hr)) := by
  have hg := hB (m % 24) (by omega)
  simp only [f_Mo_afterMinute, mg H, mp H, mo H, mr1 H, mr6 H, mr7 H, mr8 H, mr10 H, mr11 H, mr12 H, mr13 H, mr14 H, mr15 H, mr16 H, mr17 H, mr18 H, mr19 H, mr20 H, mr25 H, Option.bind_some, mod24 hm, mi16 H (show m % 24 < 24 by omega), hS.1 _ (show m % 24 < 24 by omega), iI_add, iI_sub, i_1000]
  generalize G (m % 24) = g at *
  simp (disch := omega) only [iI_le]
  by_cases h5 : l + g - d ≤ 1000
  · rw [if_pos h5, Int.min_eq_right (by omega)]
  · rw [if_neg h5, Int.min_eq_left (by omega)]
theorem m_isOpen (H : Mst M sh hr) (hB : SupB G D h) (hS : SupM M hi G D h) {m : Nat} (hm : m < 900000) {l : Int} (h1 : 0 ≤ l) (h2 : l ≤ 1000) : f_Mo_isOpen M (iI l) (nI m) (z, sh, hi, hr) = some (b1 (okF G D m h l), (z, sh, hi, hr)) := by
  have hS' := hS
  obtain ⟨hg, hD, hh1, hh2⟩ := hB
  obtain ⟨sg, sh3, sd⟩ := hS
  have key : ∀ d k l f, k + d = h → d + 1 < f → 0 ≤ l → l ≤ 1000 → am_it (fun _ _ _ _ _ _ => none) s_Mo_isOpen_8 f M (nI m) (iI l) (1 : Int32) (nI (k + 1)) (z, sh, hi, hr) = some (b1 (okF G D (m + k) d l), (z, sh, hi, hr)) := by
    intro d
    induction d with
    | zero =>
      intro k l f hk hf h1 h2
      obtain ⟨f, rfl⟩ : ∃ k, f = k + 1 := ⟨f - 1, by omega⟩
      rw [it_s]
      simp only [s_Mo_isOpen_8, mg H, mp H, mo H, mr1 H, mr6 H, mr7 H, mr8 H, mr10 H, mr11 H, mr12 H, mr13 H, mr14 H, mr15 H, mr16 H, mr17 H, mr18 H, mr19 H, mr20 H, mr25 H, Option.bind_some, sh3]
      rw [if_pos (nI_lt (by omega) (by omega))]
      rfl
    | succ d ih =>
      intro k l f hk hf h1 h2
      obtain ⟨f, rfl⟩ : ∃ k, f = k + 1 := ⟨f - 1, by omega⟩
      rw [it_s]
      simp only [s_Mo_isOpen_8, mg H, mp H, mo H, mr1 H, mr6 H, mr7 H, mr8 H, mr10 H, mr11 H, mr12 H, mr13 H, mr14 H, mr15 H, mr16 H, mr17 H, mr18 H, mr19 H, mr20 H, mr25 H, Option.bind_some, sh3, sd]
      rw [if_neg (nI_nlt (by omega) (by omega)), if_neg (by decide)]
      rw [n_add, m_after H hS' hg (show m + (k + 1) < 1000000 by omega) (by omega) h2 (by omega)]
      simp only [Option.bind_some, i_0]
      have hgk := hg ((m + (k + 1)) % 24) (by omega)
      simp only [okF, show m + k + 1 = m + (k + 1) from rfl]
      generalize G ((m + (k + 1)) % 24) = g at *
      simp (disch := omega) only [iI_lt]
      by_cases h5 : min 1000 (l + g - D) < 0
      · rw [if_pos h5]
        obtain ⟨f, rfl⟩ : ∃ k, f = k + 1 := ⟨f - 1, by omega⟩
        rw [it_s]
        simp only [s_Mo_isOpen_8, mg H, mp H, mo H, mr1 H, mr6 H, mr7 H, mr8 H, mr10 H, mr11 H, mr12 H, mr13 H, mr14 H, mr15 H, mr16 H, mr17 H, mr18 H, mr19 H, mr20 H, mr25 H, Option.bind_some, sh3]
        have : decide (0 ≤ min 1000 (l + g - D)) = false := by simp; omega
        rw [this]
        simp only [Bool.false_and]
        split <;> simp [b1, ← i_0]
      · rw [if_neg h5]
        have : decide (0 ≤ min 1000 (l + g - D)) = true := by simp; omega
        rw [this, n_s, ih (k + 1) _ f (by omega) (by omega) (by omega) (by omega)]
        simp only [Bool.true_and]
  simp only [f_Mo_isOpen, f_Mo_isOpen_8]
  exact key h 0 l 70 (by omega) (by omega) h1 h2
end FSUP
