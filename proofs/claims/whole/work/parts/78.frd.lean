-- needs 56 57 58 59 60 61 62 63 64 65 66 67 68 69 70 71 72 73 74 75 76 77
/-! reading a line: what is read, and the class's reader -/
def lkP (ch : Nat → Nat) (len p : Nat) : Nat := if p < len then ch p else 0
def dgP (ch : Nat → Nat) (len p : Nat) : Option Nat := if 48 ≤ lkP ch len p ∧ lkP ch len p ≤ 57 then some (lkP ch len p - 48) else none
def numP (ch : Nat → Nat) (len p : Nat) : Option Nat × Nat := match dgP ch len p with
  | none => (none, p)
  | some d => if d = 0 then (some 0, p + 1) else match dgP ch len (p + 1) with
    | none => (some d, p + 1)
    | some e => (some (10 * d + e), p + 2)
def vI (o : Option Nat) : Int32 := match o with
  | none => -1
  | some v => nI v
def kdP (x : Nat) : Option Nat := if x = 69 then some 0 else if x = 68 then some 1 else if x = 72 then some 2 else if x = 60 then some 3 else if x = 42 then some 4 else none
def optP (ch : Nat → Nat) (len p : Nat) (c : Nat → Int32) (S : Nat → Bool) : Nat × Option (Bool × (Nat → Int32) × (Nat → Bool)) := match kdP (lkP ch len p) with
  | some k => if S k = true then (p, none) else match (numP ch len (p + 1)).1 with
    | none => ((numP ch len (p + 1)).2, none)
    | some v => ((numP ch len (p + 1)).2, some (true, cu c (k + 2) (nI v), fun j => S j || decide (j = k)))
  | none => if lkP ch len p = 62 ∨ lkP ch len p = 47 then
      (if 97 ≤ lkP ch len (p + 1) ∧ lkP ch len (p + 1) ≤ 122 then (p + 2, some (true, cu c (if lkP ch len p = 62 then 7 else 8) (c (if lkP ch len p = 62 then 7 else 8) ||| ((1 : Int32) <<< (nI (lkP ch len (p + 1) - 97) &&& 31))), S)) else (p + 1, none))
    else (p, some (false, c, S))
def opsP (ch : Nat → Nat) (len : Nat) : Nat → Nat → (Nat → Int32) → (Nat → Bool) → Nat × Option (Nat → Int32)
  | 0, p, c, _ => (p, some c)
  | f + 1, p, c, S => match optP ch len p c S with
    | (p2, none) => (p2, none)
    | (p2, some (true, c2, S2)) => opsP ch len f p2 c2 S2
    | (p2, some (false, c2, _)) => (p2, some c2)
def chB (ch : Nat → Nat) (len : Nat) : Prop := len ≤ 64 ∧ ∀ j, j < len → 32 ≤ ch j ∧ ch j ≤ 126
theorem lk_lt {ch : Nat → Nat} {len p : Nat} (h : lkP ch len p ≠ 0) : p < len := by
  unfold lkP at h
  by_cases h1 : p < len
  · exact h1
  · rw [if_neg h1] at h; exact absurd rfl h
theorem lk_le {ch : Nat → Nat} {len : Nat} (hc : chB ch len) (p : Nat) : lkP ch len p ≤ 126 := by
  unfold lkP
  by_cases h1 : p < len
  · rw [if_pos h1]; exact (hc.2 p h1).2
  · rw [if_neg h1]; omega
theorem dg_sp {ch : Nat → Nat} {len p d : Nat} (h : dgP ch len p = some d) : p < len ∧ d ≤ 9 := by
  unfold dgP at h
  split at h
  · rename_i h1
    simp only [Option.some.injEq] at h
    exact ⟨lk_lt (ch := ch) (len := len) (p := p) (by omega), by omega⟩
  · cases h
theorem num_sp {ch : Nat → Nat} {len p : Nat} (hp : p ≤ len) : p ≤ (numP ch len p).2 ∧ (numP ch len p).2 ≤ len ∧ ∀ v, (numP ch len p).1 = some v → v ≤ 99 := by
  unfold numP
  cases h1 : dgP ch len p with
  | none => exact ⟨Nat.le_refl _, hp, fun v hv => by cases hv⟩
  | some d =>
    have hd := dg_sp h1
    simp only []
    by_cases h0 : d = 0
    · simp only [if_pos h0]
      exact ⟨by omega, by omega, fun v hv => by simp only [Option.some.injEq] at hv; omega⟩
    · simp only [if_neg h0]
      cases h2 : dgP ch len (p + 1) with
      | none => exact ⟨by simp only []; omega, by simp only []; omega, fun v hv => by simp only [Option.some.injEq] at hv; omega⟩
      | some e =>
        have he := dg_sp h2
        exact ⟨by simp only []; omega, by simp only []; omega, fun v hv => by simp only [Option.some.injEq] at hv; omega⟩
theorem kd_sp {x k : Nat} (h : kdP x = some k) : k < 5 ∧ x ≠ 0 := by
  unfold kdP at h
  repeat' split at h
  all_goals first | (cases h; omega) | (simp only [Option.some.injEq] at h; omega) | cases h
theorem opt_sp {ch : Nat → Nat} {len p : Nat} {c : Nat → Int32} {S : Nat → Bool} (hp : p ≤ len) : p ≤ (optP ch len p c S).1 ∧ (optP ch len p c S).1 ≤ len ∧ ∀ c2 S2, (optP ch len p c S).2 = some (true, c2, S2) → p + 1 ≤ (optP ch len p c S).1 := by
  unfold optP
  cases hk : kdP (lkP ch len p) with
  | some k =>
    have := kd_sp hk
    have hl := lk_lt this.2
    have hn := num_sp (ch := ch) (show p + 1 ≤ len by omega)
    simp only []
    by_cases hS : S k = true
    · simp only [if_pos hS]
      exact ⟨Nat.le_refl _, hp, fun _ _ h => by cases h⟩
    · simp only [if_neg hS]
      cases hv : (numP ch len (p + 1)).1 with
      | none => exact ⟨by simp only []; omega, by simp only []; omega, fun _ _ h => by cases h⟩
      | some v => exact ⟨by simp only []; omega, by simp only []; omega, fun _ _ h => by simp only []; omega⟩
  | none =>
    simp only []
    by_cases h1 : lkP ch len p = 62 ∨ lkP ch len p = 47
    · simp only [if_pos h1]
      have hl := lk_lt (ch := ch) (len := len) (p := p) (by omega)
      by_cases h2 : 97 ≤ lkP ch len (p + 1) ∧ lkP ch len (p + 1) ≤ 122
      · simp only [if_pos h2]
        have hl2 := lk_lt (ch := ch) (len := len) (p := p + 1) (by omega)
        exact ⟨by omega, by omega, fun _ _ _ => by omega⟩
      · simp only [if_neg h2]
        exact ⟨by omega, by omega, fun _ _ h => by cases h⟩
    · simp only [if_neg h1]
      exact ⟨Nat.le_refl _, hp, fun _ _ h => by cases h⟩
theorem lat_id : ∀ x : Fin 127, (Int32.toInt8 (nI x)).toInt32 = nI x := by decide +kernel
theorem e_indexOf {x : Nat} (hx : x ≤ 126) (w : am_w) : f_Str_indexOf (nI x) w = some (vI (kdP x), w) := by
  have e1 := lat_id ⟨x, by omega⟩
  simp only [] at e1
  have a0 : ¬ nI x < 0 := nI_pos (by omega)
  have a1 : ¬ (255 : Int32) < nI x := nI_nlt (a := 255) (by omega) (by decide)
  have k : ∀ y : Nat, y ≤ 126 → ((nI y = nI x) ↔ x = y) := fun y hy => by rw [n_inj (by omega) (by omega)]; exact eq_comm
  have g0 : am_bg 0 = some (nI 69) := by decide
  have g1 : am_bg ((0 : Int32) + 1) = some (nI 68) := by decide
  have g2 : am_bg ((0 : Int32) + 1 + 1) = some (nI 72) := by decide
  have g3 : am_bg ((0 : Int32) + 1 + 1 + 1) = some (nI 60) := by decide
  have g4 : am_bg ((0 : Int32) + 1 + 1 + 1 + 1) = some (nI 42) := by decide
  have l0 : ¬ (5 : Int32) ≤ 0 := by decide
  have l1 : ¬ (5 : Int32) ≤ 0 + 1 := by decide
  have l2 : ¬ (5 : Int32) ≤ 0 + 1 + 1 := by decide
  have l3 : ¬ (5 : Int32) ≤ 0 + 1 + 1 + 1 := by decide
  have l4 : ¬ (5 : Int32) ≤ 0 + 1 + 1 + 1 + 1 := by decide
  have l5 : (5 : Int32) ≤ 0 + 1 + 1 + 1 + 1 + 1 := by decide
  have hc : f_Lat_indexOfChar (nI x) 0 5 w = some (vI (kdP x), w) := by
    simp only [f_Lat_indexOfChar, f_Lat_indexOfChar_7, e1]
    have u : ∀ (bt : Int32 → Int32 → Int32 → am_w → Option (Int32 × am_w)) F, am_it bt F 70 = F (F (F (F (F (F (am_it bt F 64)))))) := fun _ _ => rfl
    rw [u]
    simp only [s_Lat_indexOfChar_7, if_neg l0, if_neg l1, if_neg l2, if_neg l3, if_neg l4, if_pos l5, g0, g1, g2, g3, g4, Option.bind_some, k 69 (by omega), k 68 (by omega), k 72 (by omega), k 60 (by omega), k 42 (by omega), kdP]
    by_cases c1 : x = 69
    · simp only [if_pos c1]; rfl
    · by_cases c2 : x = 68
      · simp only [if_neg c1, if_pos c2]; rfl
      · by_cases c3 : x = 72
        · simp only [if_neg c1, if_neg c2, if_pos c3]; rfl
        · by_cases c4 : x = 60
          · simp only [if_neg c1, if_neg c2, if_neg c3, if_pos c4]; rfl
          · by_cases c5 : x = 42
            · simp only [if_neg c1, if_neg c2, if_neg c3, if_neg c4, if_pos c5]; rfl
            · simp only [if_neg c1, if_neg c2, if_neg c3, if_neg c4, if_neg c5]; rfl
  have s5 : (5 : Int32) >>> ((0 : Int32) &&& 31) = 5 := by decide
  simp only [f_Str_indexOf, f_Str_indexOf2, f_Str_isLatin1, f_Str_length, f_Str_coder, f_Lat_indexOf, f_Lat_canEncode, i0_1, if_false, if_true, Option.bind_some, s5, if_neg a0, if_neg a1, am_let, if_neg (show ¬ (0 : Int32) < 0 by decide), if_neg (show ¬ (5 : Int32) < 5 by decide), if_pos (show (0 : Int32) < 5 by decide), hc]
