-- needs 56 57 58 59 60 61 62 63 64 65 66 67 68 69 70 71 72 73 74 75 76 77 78
/-! the class's reader -/
theorem vI_m1 {o : Option Nat} (h : ∀ v, o = some v → v ≤ 99) : (vI o = -1) ↔ o = none := by
  cases o with
  | none => simp [vI]
  | some v =>
    have := h v rfl
    simp only [vI, reduceCtorEq, iff_false]
    rw [iI_n, i_m1]
    simp (disch := omega) only [iI_inj]
    omega
section FRDC
variable {b P Q z i : Nat} {sh : am_S} {hi x base : am_I} {hr : am_R} {ch : Nat → Nat} {len p : Nat} {c : Nat → Int32} {S : Nat → Bool}
def TC (b : Nat) (hi : am_I) (ch : Nat → Nat) (len : Nat) : Prop := hi (b + 1) 1 = nI len ∧ ∀ j, j < len → hi (b + 2) j = nI (ch j)
theorem e_take (H : Cst b P Q sh hr) (hc : chB ch len) (ht : TC b hi ch len) (hp : hi (b + 3) 1 = nI p) (hl : p ≤ len) {k : Nat} (hk : k ≠ 0) (hk2 : k ≤ 1000) : f_PlanReader_take (b + 3) (nI k) (z, sh, hi, hr) = if lkP ch len p = k then some (1, (z, sh, am_up hi (b + 3) 1 (nI (p + 1)), hr)) else some (0, (z, sh, hi, hr)) := by
  have h64 := hc.1
  simp only [f_PlanReader_take, kg0 H, kp0 H, ko0 H, kg1 H, kp1 H, ko1 H, kg2 H, kp2 H, ko2 H, kg3 H, kp3 H, ko3 H, kg4 H, kp4 H, ko4 H, kr0_0 H, kr0_1 H, kr0_2 H, kr0_3 H, kr1_0 H, kr3_0 H, kr4_5 H, kr4_6 H, kr7_0 H, kr0_4 H, kr0_5 H, kal H, Option.bind_some, hp, ht.1, n_le (a := len) (b := p) (by omega) (by omega)]
  by_cases h1 : len ≤ p
  · rw [if_pos h1, if_neg]
    unfold lkP
    rw [if_neg (by omega)]
    omega
  · have hcp := hc.2 p (by omega)
    rw [if_neg h1]
    simp only [kcg H (show p < 64 by omega), ht.2 p (by omega), Option.bind_some, n_inj (a := ch p) (b := k) (by omega) (by omega), n_s, lkP, if_pos (show p < len by omega)]
theorem e_takeDigit (H : Cst b P Q sh hr) (hc : chB ch len) (ht : TC b hi ch len) (hp : hi (b + 3) 1 = nI p) (hl : p ≤ len) : f_PlanReader_takeDigit (b + 3) (z, sh, hi, hr) = some (vI (dgP ch len p), (z, sh, (if (dgP ch len p).isSome = true then am_up hi (b + 3) 1 (nI (p + 1)) else hi), hr)) := by
  have h64 := hc.1
  simp only [f_PlanReader_takeDigit, kg0 H, kp0 H, ko0 H, kg1 H, kp1 H, ko1 H, kg2 H, kp2 H, ko2 H, kg3 H, kp3 H, ko3 H, kg4 H, kp4 H, ko4 H, kr0_0 H, kr0_1 H, kr0_2 H, kr0_3 H, kr1_0 H, kr3_0 H, kr4_5 H, kr4_6 H, kr7_0 H, kr0_4 H, kr0_5 H, kal H, Option.bind_some, hp, ht.1, n_le (a := len) (b := p) (by omega) (by omega)]
  unfold dgP lkP
  by_cases h1 : len ≤ p
  · rw [if_pos h1, if_neg (show ¬ p < len by omega)]
    rfl
  · have hcp := hc.2 p (by omega)
    have e48 : (nI (ch p) < (48 : Int32)) ↔ ch p < 48 := n_lt (a := ch p) (b := 48) (by omega) (by omega)
    have e57 : (nI (ch p) ≤ (57 : Int32)) ↔ ch p ≤ 57 := n_le (a := ch p) (b := 57) (by omega) (by omega)
    rw [if_neg h1, if_pos (show p < len by omega)]
    simp only [kcg H (show p < 64 by omega), ht.2 p (by omega), Option.bind_some, e48, e57, n_s]
    by_cases h2 : ch p < 48
    · rw [if_pos h2, if_neg (show ¬ (48 ≤ ch p ∧ ch p ≤ 57) by omega)]
      rfl
    · rw [if_neg h2]
      by_cases h3 : ch p ≤ 57
      · rw [if_pos h3, if_pos (show 48 ≤ ch p ∧ ch p ≤ 57 by omega)]
        have : nI (ch p) - (48 : Int32) = nI (ch p - 48) := pk_sub (b := 48) (by omega)
        rw [this]
        rfl
      · rw [if_neg h3, if_neg (show ¬ (48 ≤ ch p ∧ ch p ≤ 57) by omega)]
        rfl
theorem TC_r (ht : TC b hi ch len) (h1 : x (b + 1) = hi (b + 1)) (h2 : x (b + 2) = hi (b + 2)) : TC b x ch len := by
  unfold TC
  rw [h1, h2]
  exact ht
theorem TC_up (ht : TC b hi ch len) {a k : Nat} {y : Int32} (h1 : b + 2 < a) : TC b (am_up hi a k y) ch len := TC_r ht (by funext j; rw [am_up_na (by omega)]) (by funext j; rw [am_up_na (by omega)])
theorem e_takeNumber (H : Cst b P Q sh hr) (hc : chB ch len) (ht : TC b hi ch len) (hp : hi (b + 3) 1 = nI p) (hl : p ≤ len) : f_PlanReader_takeNumber (b + 3) (z, sh, hi, hr) = some (vI (numP ch len p).1, (z, sh, am_up hi (b + 3) 1 (nI (numP ch len p).2), hr)) := by
  have hself : am_up hi (b + 3) 1 (nI p) = hi := by rw [← hp]; exact up_self _ _ _
  simp only [f_PlanReader_takeNumber, kg0 H, kp0 H, ko0 H, kg1 H, kp1 H, ko1 H, kg2 H, kp2 H, ko2 H, kg3 H, kp3 H, ko3 H, kg4 H, kp4 H, ko4 H, kr0_0 H, kr0_1 H, kr0_2 H, kr0_3 H, kr1_0 H, kr3_0 H, kr4_5 H, kr4_6 H, kr7_0 H, kr0_4 H, kr0_5 H, kal H, e_takeDigit H hc ht hp hl, Option.bind_some]
  unfold numP
  cases h1 : dgP ch len p with
  | none =>
    rw [if_neg (show ¬ (0 : Int32) < vI none by decide), hself]
    rfl
  | some d =>
    have hd := dg_sp h1
    have ed : vI (some d) = nI d := rfl
    simp only [Option.isSome_some, ed, if_true]
    have e0 : ((0 : Int32) < nI d) ↔ 0 < d := n_lt (a := 0) (b := d) (by omega) (by omega)
    simp only [e0]
    by_cases h0 : d = 0
    · rw [if_neg (by omega), if_pos h0]
      rw [h0]
      rfl
    · rw [if_pos (by omega), if_neg h0]
      rw [e_takeDigit H hc (TC_up ht (by omega)) (am_up_eq _ _ _ _) (show p + 1 ≤ len by omega)]
      simp only [Option.bind_some]
      cases h2 : dgP ch len (p + 1) with
      | none =>
        rw [if_pos (show vI none = -1 from rfl)]
        rfl
      | some e =>
        have he := dg_sp h2
        have hne : ¬ vI (some e) = -1 := by rw [vI_m1 (fun v hv => by simp only [Option.some.injEq] at hv; omega)]; simp
        rw [if_neg hne]
        simp only [Option.isSome_some, vI, if_true, up_up]
        have : (10 : Int32) * nI d + nI e = nI (10 * d + e) := by
          rw [show (10 : Int32) = nI 10 from rfl, pk_mul, n_add]
        rw [this]
def RCf (b A : Nat) (base x : am_I) : Prop := (∀ k, 9 ≤ k → x A k = base A k) ∧ ∀ q, q ≠ b + 3 → q ≠ A → x q = base q
def RC (b A : Nat) (base : am_I) (p : Nat) (c : Nat → Int32) (x : am_I) : Prop := x (b + 3) 1 = nI p ∧ (∀ k, k < 9 → x A k = c k) ∧ RCf b A base x
theorem RCf.tr {A : Nat} {x y : am_I} (h1 : RCf b A base x) (h2 : RCf b A x y) : RCf b A base y := ⟨fun k hk => (h2.1 k hk).trans (h1.1 k hk), fun q h3 h4 => (h2.2 q h3 h4).trans (h1.2 q h3 h4)⟩
theorem RCf_at {A : Nat} {y : Int32} (hA : A ≠ b + 3) : RCf b A x (am_up x (b + 3) 1 y) := ⟨fun k _ => am_up_na hA, fun q h1 _ => by funext j; rw [am_up_na h1]⟩
theorem RCf_c {A k : Nat} {y : Int32} (hk : k < 9) : RCf b A x (am_up x A k y) := ⟨fun j hj => am_up_nk (by omega), fun q _ h2 => by funext j; rw [am_up_na h2]⟩
theorem RC_at {A q : Nat} (hA : A ≠ b + 3) (h : RC b A base p c x) : RC b A base q c (am_up x (b + 3) 1 (nI q)) := ⟨am_up_eq _ _ _ _, fun k hk => by rw [am_up_na hA]; exact h.2.1 k hk, h.2.2.tr (RCf_at hA)⟩
theorem RC_c {A s : Nat} {y : Int32} (hA : A ≠ b + 3) (hs : s < 9) (h : RC b A base p c x) : RC b A base p (cu c s y) (am_up x A s y) := by
  refine ⟨by rw [am_up_na (fun hh => hA hh.symm)]; exact h.1, fun k hk => ?_, h.2.2.tr (RCf_c hs)⟩
  by_cases h1 : k = s
  · rw [h1, am_up_eq, cu_e]
  · rw [am_up_nk h1, cu_n _ _ _ _ h1]; exact h.2.1 k hk
theorem RC_T {A : Nat} (hA : b + 3 < A) (ht : TC b base ch len) (h : RCf b A base x) : TC b x ch len := TC_r ht (h.2 _ (by omega) (by omega)) (h.2 _ (by omega) (by omega))
theorem kQ2 (H : Cst b P Q sh hr) : b + 9 ≤ Q ∧ Q ≤ b + 19 := by rcases k_PQ H with h | h <;> omega
theorem e_readValue (H : Cst b P Q sh hr) (hc : chB ch len) (ht : TC b hi ch len) (hp : hi (b + 3) 1 = nI p) (hl : p ≤ len) (hi8 : i < 8) {k : Nat} (hk : k < 5) : f_PlanReader_readValue (b + 3) (Q + 2 + i) (nI k) (z, sh, hi, hr) = (match (numP ch len p).1 with | none => some (0, (z, sh, am_up hi (b + 3) 1 (nI (numP ch len p).2), hr)) | some v => some (1, (z, sh, am_up (am_up hi (b + 3) 1 (nI (numP ch len p).2)) (Q + 2 + i) (k + 2) (nI v), hr))) := by
  have hQ := k_Q H
  simp only [f_PlanReader_readValue, kg0 H, kp0 H, ko0 H, kg1 H, kp1 H, ko1 H, kg2 H, kp2 H, ko2 H, kg3 H, kp3 H, ko3 H, kg4 H, kp4 H, ko4 H, kr0_0 H, kr0_1 H, kr0_2 H, kr0_3 H, kr1_0 H, kr3_0 H, kr4_5 H, kr4_6 H, kr7_0 H, kr0_4 H, kr0_5 H, kal H, e_takeNumber H hc ht hp hl, Option.bind_some, vI_m1 (num_sp hl).2.2]
  cases hv : (numP ch len p).1 with
  | none => simp only [if_true]
  | some v =>
    simp only [reduceCtorEq, if_false, ap hQ hi8, Option.bind_some, vI]
    have : k = 0 ∨ k = 1 ∨ k = 2 ∨ k = 3 ∨ k = 4 := by omega
    rcases this with rfl | rfl | rfl | rfl | rfl <;> rfl
theorem e_readLink (H : Cst b P Q sh hr) (hc : chB ch len) (ht : TC b hi ch len) (hp : hi (b + 3) 1 = nI p) (hl : p ≤ len) (hi8 : i < 8) {g : Nat} (hg : g ≤ 126) : f_PlanReader_readLink (b + 3) (Q + 2 + i) (nI g) (z, sh, hi, hr) = (if 97 ≤ lkP ch len p ∧ lkP ch len p ≤ 122 then some (1, (z, sh, am_up (am_up hi (b + 3) 1 (nI (p + 1))) (Q + 2 + i) (if g = 62 then 7 else 8) (hi (Q + 2 + i) (if g = 62 then 7 else 8) ||| ((1 : Int32) <<< (nI (lkP ch len p - 97) &&& 31))), hr)) else some (0, (z, sh, hi, hr))) := by
  have hQ := k_Q H
  have q2 := kQ2 H
  have h64 := hc.1
  have e62 : (nI g = (62 : Int32)) ↔ g = 62 := n_inj (a := g) (b := 62) (by omega) (by omega)
  simp only [f_PlanReader_readLink, kg0 H, kp0 H, ko0 H, kg1 H, kp1 H, ko1 H, kg2 H, kp2 H, ko2 H, kg3 H, kp3 H, ko3 H, kg4 H, kp4 H, ko4 H, kr0_0 H, kr0_1 H, kr0_2 H, kr0_3 H, kr1_0 H, kr3_0 H, kr4_5 H, kr4_6 H, kr7_0 H, kr0_4 H, kr0_5 H, kal H, Option.bind_some, hp, ht.1, n_le (a := len) (b := p) (by omega) (by omega)]
  unfold lkP
  by_cases h1 : len ≤ p
  · rw [if_pos h1, if_neg (show ¬ p < len by omega), if_neg (by omega)]
  · have hcp := hc.2 p (by omega)
    have e97 : (nI (ch p) < (97 : Int32)) ↔ ch p < 97 := n_lt (a := ch p) (b := 97) (by omega) (by omega)
    have e122 : (nI (ch p) ≤ (122 : Int32)) ↔ ch p ≤ 122 := n_le (a := ch p) (b := 122) (by omega) (by omega)
    rw [if_neg h1, if_pos (show p < len by omega)]
    simp only [kcg H (show p < 64 by omega), ht.2 p (by omega), Option.bind_some, e97, e122, n_s, kg0 H, kp0 H, ko0 H, kg1 H, kp1 H, ko1 H, kg2 H, kp2 H, ko2 H, kg3 H, kp3 H, ko3 H, kg4 H, kp4 H, ko4 H, kr0_0 H, kr0_1 H, kr0_2 H, kr0_3 H, kr1_0 H, kr3_0 H, kr4_5 H, kr4_6 H, kr7_0 H, kr0_4 H, kr0_5 H, kal H, ag hQ hi8, ap hQ hi8, e62, am_up_na (show Q + 2 + i ≠ b + 3 by omega)]
    by_cases h2 : ch p < 97
    · rw [if_pos h2, if_neg (by omega)]
    · rw [if_neg h2]
      by_cases h3 : ch p ≤ 122
      · rw [if_pos h3, if_pos (show 97 ≤ ch p ∧ ch p ≤ 122 by omega)]
        have : nI (ch p) - (97 : Int32) = nI (ch p - 97) := pk_sub (b := 97) (by omega)
        rw [this]
        by_cases h4 : g = 62
        · simp only [if_pos h4]
        · simp only [if_neg h4]
      · rw [if_neg h3, if_neg (by omega)]
def seenB (off : Nat) (w : Int32) (S : Nat → Bool) : Prop := ∀ k, k < 5 → tb w (k + off) = S k
theorem seen_or {off : Nat} {w : Int32} (ho : off ≤ 2) (h : seenB off w S) {k : Nat} (hk : k < 5) : seenB off (w ||| ((1 : Int32) <<< (nI (k + off) &&& 31))) (fun j => S j || decide (j = k)) := by
  intro j hj
  rw [tb_or _ _ (by omega), tb_1s (by omega) (by omega), h j hj]
  congr 1
  by_cases e : j = k
  · simp [e]
  · simp [e]
theorem e_options (H : Cst b P Q sh hr) (hc : chB ch len) (ht : TC b base ch len) (hi8 : i < 8) : ∀ f k p c S w (x : am_I) m, k + f = 64 → f < m → p ≤ len → k ≤ p → seenB 0 w S → RC b (Q + 2 + i) base p c x → ∃ y, am_it (fun _ _ _ _ _ => none) s_PlanReader_readOptions_4 m (b + 3) (Q + 2 + i) w (nI k) (z, sh, x, hr) = some (b1 (opsP ch len f p c S).2.isSome, (z, sh, y, hr)) ∧ y (b + 3) 1 = nI (opsP ch len f p c S).1 ∧ RCf b (Q + 2 + i) base y ∧ ∀ c', (opsP ch len f p c S).2 = some c' → ∀ k, k < 9 → y (Q + 2 + i) k = c' k := by
  have q2 := kQ2 H
  have hA : Q + 2 + i ≠ b + 3 := by omega
  have h64 := hc.1
  intro f
  induction f with
  | zero =>
    intro k p c S w x m hk hm hp hkp hs hx
    obtain ⟨m, rfl⟩ : ∃ k, m = k + 1 := ⟨m - 1, by omega⟩
    refine ⟨x, ?_, hx.1, hx.2.2, fun c' hc' => ?_⟩
    · rw [it_s]
      simp only [s_PlanReader_readOptions_4]
      rw [if_pos (show (64 : Int32) ≤ nI k from (n_le (a := 64) (b := k) (by omega) (by omega)).mpr (by omega))]
      rfl
    · simp only [opsP, Option.some.injEq] at hc'
      rw [← hc']
      exact hx.2.1
  | succ f ih =>
    intro k p c S w x m hk hm hp hkp hs hx
    obtain ⟨m, rfl⟩ : ∃ k, m = k + 1 := ⟨m - 1, by omega⟩
    have hT : TC b x ch len := RC_T (by omega) ht hx.2.2
    have h64k : ¬ (64 : Int32) ≤ nI k := nI_ge (b := 64) (by omega) (by decide)
    rw [it_s]
    have stop : (optP ch len p c S) = (p, some (false, c, S)) → am_it (fun _ _ _ _ _ => none) s_PlanReader_readOptions_4 (m + 1) (b + 3) (Q + 2 + i) w (nI k) (z, sh, x, hr) = some (1, (z, sh, x, hr)) → ∃ y, s_PlanReader_readOptions_4 (am_it (fun _ _ _ _ _ => none) s_PlanReader_readOptions_4 m) (b + 3) (Q + 2 + i) w (nI k) (z, sh, x, hr) = some (b1 (opsP ch len (f + 1) p c S).2.isSome, (z, sh, y, hr)) ∧ y (b + 3) 1 = nI (opsP ch len (f + 1) p c S).1 ∧ RCf b (Q + 2 + i) base y ∧ ∀ c', (opsP ch len (f + 1) p c S).2 = some c' → ∀ k, k < 9 → y (Q + 2 + i) k = c' k := by
      intro ho he
      have : opsP ch len (f + 1) p c S = (p, some c) := by simp only [opsP, ho]
      rw [this]
      refine ⟨x, he, hx.1, hx.2.2, fun c' hc' => ?_⟩
      simp only [Option.some.injEq] at hc'
      rw [← hc']
      exact hx.2.1
    by_cases h1 : len ≤ p
    · refine stop ?_ ?_
      · unfold optP lkP
        rw [if_neg (show ¬ p < len by omega)]
        rfl
      · rw [it_s]
        simp only [s_PlanReader_readOptions_4, if_neg h64k, kg0 H, kp0 H, ko0 H, kg1 H, kp1 H, ko1 H, kg2 H, kp2 H, ko2 H, kg3 H, kp3 H, ko3 H, kg4 H, kp4 H, ko4 H, kr0_0 H, kr0_1 H, kr0_2 H, kr0_3 H, kr1_0 H, kr3_0 H, kr4_5 H, kr4_6 H, kr7_0 H, kr0_4 H, kr0_5 H, kal H, Option.bind_some, hx.1, hT.1, n_le (a := len) (b := p) (by omega) (by omega), if_pos h1]
    · have hcp := hc.2 p (by omega)
      have hlk : lkP ch len p = ch p := by unfold lkP; rw [if_pos (by omega)]
      have red : s_PlanReader_readOptions_4 (am_it (fun _ _ _ _ _ => none) s_PlanReader_readOptions_4 m) (b + 3) (Q + 2 + i) w (nI k) (z, sh, x, hr) = (if vI (kdP (ch p)) < 0 then (if ch p = 62 then (s_PlanReader_readOptions_106 (am_it (fun _ _ _ _ _ => none) s_PlanReader_readOptions_4 m) (b + 3) (Q + 2 + i) w (nI k) (nI (ch p)) (z, sh, x, hr)) else (if ch p = 47 then (s_PlanReader_readOptions_106 (am_it (fun _ _ _ _ _ => none) s_PlanReader_readOptions_4 m) (b + 3) (Q + 2 + i) w (nI k) (nI (ch p)) (z, sh, x, hr)) else (some ((1 : Int32), (z, sh, x, hr))))) else (if ((w >>> (vI (kdP (ch p)) &&& 31)) &&& (1 : Int32)) = 0 then ((f_PlanReader_readValue (b + 3) (Q + 2 + i) (vI (kdP (ch p))) (z, sh, am_up x (b + 3) 1 (nI (p + 1)), hr)).bind fun q14 => (if q14.1 = 0 then (some ((0 : Int32), q14.2)) else (am_it (fun _ _ _ _ _ => none) s_PlanReader_readOptions_4 m (b + 3) (Q + 2 + i) (w ||| ((1 : Int32) <<< (vI (kdP (ch p)) &&& 31))) (nI (k + 1)) q14.2))) else (some ((0 : Int32), (z, sh, x, hr))))) := by
        have e62 : (nI (ch p) = (62 : Int32)) ↔ ch p = 62 := n_inj (a := ch p) (b := 62) (by omega) (by omega)
        have e47 : (nI (ch p) = (47 : Int32)) ↔ ch p = 47 := n_inj (a := ch p) (b := 47) (by omega) (by omega)
        simp only [s_PlanReader_readOptions_4, if_neg h64k, kg0 H, kp0 H, ko0 H, kg1 H, kp1 H, ko1 H, kg2 H, kp2 H, ko2 H, kg3 H, kp3 H, ko3 H, kg4 H, kp4 H, ko4 H, kr0_0 H, kr0_1 H, kr0_2 H, kr0_3 H, kr1_0 H, kr3_0 H, kr4_5 H, kr4_6 H, kr7_0 H, kr0_4 H, kr0_5 H, kal H, Option.bind_some, hx.1, hT.1, n_le (a := len) (b := p) (by omega) (by omega), if_neg h1, kcg H (show p < 64 by omega), hT.2 p (by omega), e_indexOf (show ch p ≤ 126 by omega), e62, e47, n_s]
      rw [red]
      cases hkd : kdP (ch p) with
      | none =>
        rw [if_pos (show vI none < 0 by decide)]
        by_cases hlink : ch p = 62 ∨ ch p = 47
        · have hx1 := RC_at (q := p + 1) hA hx
          have hT1 : TC b (am_up x (b + 3) 1 (nI (p + 1))) ch len := TC_up hT (by omega)
          have el := e_readLink (z := z) (i := i) (g := ch p) H hc hT1 (am_up_eq _ _ _ _) (show p + 1 ≤ len by omega) hi8 (by omega)
          have s106 : s_PlanReader_readOptions_106 (am_it (fun _ _ _ _ _ => none) s_PlanReader_readOptions_4 m) (b + 3) (Q + 2 + i) w (nI k) (nI (ch p)) (z, sh, x, hr) = ((f_PlanReader_readLink (b + 3) (Q + 2 + i) (nI (ch p)) (z, sh, am_up x (b + 3) 1 (nI (p + 1)), hr)).bind fun q11 => (if q11.1 = 0 then (some ((0 : Int32), q11.2)) else (am_it (fun _ _ _ _ _ => none) s_PlanReader_readOptions_4 m (b + 3) (Q + 2 + i) w (nI (k + 1)) q11.2))) := by
            simp only [s_PlanReader_readOptions_106, kg0 H, kp0 H, ko0 H, kg1 H, kp1 H, ko1 H, kg2 H, kp2 H, ko2 H, kg3 H, kp3 H, ko3 H, kg4 H, kp4 H, ko4 H, kr0_0 H, kr0_1 H, kr0_2 H, kr0_3 H, kr1_0 H, kr3_0 H, kr4_5 H, kr4_6 H, kr7_0 H, kr0_4 H, kr0_5 H, kal H, Option.bind_some, hx.1, n_s]
          have goal2 : (if ch p = 62 then (s_PlanReader_readOptions_106 (am_it (fun _ _ _ _ _ => none) s_PlanReader_readOptions_4 m) (b + 3) (Q + 2 + i) w (nI k) (nI (ch p)) (z, sh, x, hr)) else (if ch p = 47 then (s_PlanReader_readOptions_106 (am_it (fun _ _ _ _ _ => none) s_PlanReader_readOptions_4 m) (b + 3) (Q + 2 + i) w (nI k) (nI (ch p)) (z, sh, x, hr)) else (some ((1 : Int32), (z, sh, x, hr))))) = s_PlanReader_readOptions_106 (am_it (fun _ _ _ _ _ => none) s_PlanReader_readOptions_4 m) (b + 3) (Q + 2 + i) w (nI k) (nI (ch p)) (z, sh, x, hr) := by
            rcases hlink with hh | hh
            · rw [if_pos hh]
            · by_cases h62 : ch p = 62
              · rw [if_pos h62]
              · rw [if_neg h62, if_pos hh]
          rw [goal2, s106, el]
          by_cases h2 : 97 ≤ lkP ch len (p + 1) ∧ lkP ch len (p + 1) ≤ 122
          · rw [if_pos h2]
            have hl2 := lk_lt (ch := ch) (len := len) (p := p + 1) (by omega)
            have ho : opsP ch len (f + 1) p c S = opsP ch len f (p + 2) (cu c (if ch p = 62 then 7 else 8) (c (if ch p = 62 then 7 else 8) ||| ((1 : Int32) <<< (nI (lkP ch len (p + 1) - 97) &&& 31)))) S := by
              simp only [opsP, optP, hlk, hkd, if_pos hlink, if_pos h2]
            rw [ho]
            have hs7 : (if ch p = 62 then 7 else 8 : Nat) < 9 := by split <;> omega
            have hcell : am_up x (b + 3) 1 (nI (p + 1)) (Q + 2 + i) (if ch p = 62 then 7 else 8) = c (if ch p = 62 then 7 else 8) := by rw [am_up_na hA]; exact hx.2.1 _ hs7
            simp only [Option.bind_some, i0_1, if_false, up_up]
            rw [hcell]
            exact ih (k + 1) (p + 2) _ S w _ m (by omega) (by omega) (by omega) (by omega) hs (RC_c hA hs7 (RC_at (q := p + 1 + 1) hA hx1) |> fun h => by
              have e : am_up (am_up x (b + 3) 1 (nI (p + 1))) (b + 3) 1 (nI (p + 1 + 1)) = am_up x (b + 3) 1 (nI (p + 1 + 1)) := up_up _ _ _ _ _
              rw [e] at h
              exact h)
          · rw [if_neg h2]
            have ho : opsP ch len (f + 1) p c S = (p + 1, none) := by
              simp only [opsP, optP, hlk, hkd, if_pos hlink, if_neg h2]
            rw [ho]
            simp only [Option.bind_some, if_true]
            exact ⟨_, rfl, am_up_eq _ _ _ _, hx1.2.2, fun c' hc' => by cases hc'⟩
        · have h62 : ¬ ch p = 62 := fun hh => hlink (Or.inl hh)
          have h47 : ¬ ch p = 47 := fun hh => hlink (Or.inr hh)
          rw [if_neg h62, if_neg h47]
          have ho : opsP ch len (f + 1) p c S = (p, some c) := by
            simp only [opsP, optP, hlk, hkd, if_neg hlink]
          rw [ho]
          refine ⟨x, rfl, hx.1, hx.2.2, fun c' hc' => ?_⟩
          simp only [Option.some.injEq] at hc'
          rw [← hc']
          exact hx.2.1
      | some kk =>
        have hk5 := (kd_sp hkd).1
        rw [if_neg (show ¬ vI (some kk) < 0 from nI_pos (by omega))]
        have ev : vI (some kk) = nI kk := rfl
        simp only [ev]
        have hx1 := RC_at (q := p + 1) hA hx
        have hT1 : TC b (am_up x (b + 3) 1 (nI (p + 1))) ch len := TC_up hT (by omega)
        simp only [tb_0]
        have hsk := hs kk hk5
        rw [Nat.add_zero] at hsk
        rw [hsk]
        rcases Bool.eq_false_or_eq_true (S kk) with hS | hS
        · have ho : opsP ch len (f + 1) p c S = (p, none) := by
            simp only [opsP, optP, hlk, hkd, if_pos hS]
          rw [if_neg (by rw [hS]; decide), ho]
          exact ⟨x, rfl, hx.1, hx.2.2, fun c' hc' => by cases hc'⟩
        · rw [if_pos hS, e_readValue H hc hT1 (am_up_eq _ _ _ _) (show p + 1 ≤ len by omega) hi8 hk5]
          have hns := num_sp (ch := ch) (show p + 1 ≤ len by omega)
          cases hv : (numP ch len (p + 1)).1 with
          | none =>
            have ho : opsP ch len (f + 1) p c S = ((numP ch len (p + 1)).2, none) := by
              simp only [opsP, optP, hlk, hkd, hS, Bool.false_eq_true, if_false, hv]
            rw [ho]
            simp only [Option.bind_some, if_true]
            exact ⟨_, rfl, am_up_eq _ _ _ _, (RC_at hA hx1).2.2, fun c' hc' => by cases hc'⟩
          | some v =>
            have ho : opsP ch len (f + 1) p c S = opsP ch len f (numP ch len (p + 1)).2 (cu c (kk + 2) (nI v)) (fun j => S j || decide (j = kk)) := by
              simp only [opsP, optP, hlk, hkd, hS, Bool.false_eq_true, if_false, hv]
            rw [ho]
            simp only [Option.bind_some, i0_1, if_false]
            exact ih (k + 1) _ _ _ _ _ m (by omega) (by omega) hns.2.1 (by omega) (seen_or (by omega) hs hk5) (RC_c hA (by omega) (RC_at hA hx1))
end FRDC
