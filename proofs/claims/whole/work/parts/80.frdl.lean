-- needs 56 57 58 59 60 61 62 63 64 65 66 67 68 69 70 71 72 73 74 75 76 77 78 79
/-! an activity and a line, in the class -/
def c0P (k : Nat) : Int32 := if k = 5 then 99 else 0
def actP (ch : Nat → Nat) (len p i : Nat) : Nat × Option (Nat → Int32) :=
  if lkP ch len p = 97 + i then
    match (numP ch len (p + 1)).1 with
    | none => ((numP ch len (p + 1)).2, none)
    | some v0 => if lkP ch len (numP ch len (p + 1)).2 = 45 then
        match (numP ch len ((numP ch len (p + 1)).2 + 1)).1 with
        | none => ((numP ch len ((numP ch len (p + 1)).2 + 1)).2, none)
        | some v1 => opsP ch len 64 (numP ch len ((numP ch len (p + 1)).2 + 1)).2 (cu (cu c0P 0 (nI v0)) 1 (nI v1)) (fun _ => false)
      else ((numP ch len (p + 1)).2, none)
  else (p, none)
def linP (ch : Nat → Nat) (len : Nat) : Nat → Nat → Nat → (Nat → Nat → Int32) → Nat × Option (Nat × (Nat → Nat → Int32))
  | 0, _, p, _ => (p, none)
  | f + 1, i, p, cs => match actP ch len p i with
    | (p2, none) => (p2, none)
    | (p2, some c) => if p2 = len then (p2, some (i + 1, cw cs i c)) else if f = 0 then (p2, none) else if lkP ch len p2 = 59 then linP ch len f (i + 1) (p2 + 1) (cw cs i c) else (p2, none)
theorem ops_le {ch : Nat → Nat} {len : Nat} : ∀ f p c S, p ≤ len → p ≤ (opsP ch len f p c S).1 ∧ (opsP ch len f p c S).1 ≤ len := by
  intro f
  induction f with
  | zero => intro p c S hp; exact ⟨Nat.le_refl _, hp⟩
  | succ f ih =>
    intro p c S hp
    have h := opt_sp (ch := ch) (c := c) (S := S) hp
    simp only [opsP]
    rcases ho : optP ch len p c S with ⟨p2, _ | ⟨_ | _, c2, S2⟩⟩
    · rw [ho] at h; exact ⟨h.1, h.2.1⟩
    · rw [ho] at h; exact ⟨h.1, h.2.1⟩
    · rw [ho] at h
      have := ih p2 c2 S2 h.2.1
      exact ⟨Nat.le_trans h.1 this.1, this.2⟩
theorem act_le {ch : Nat → Nat} {len p i : Nat} (hp : p ≤ len) : p ≤ (actP ch len p i).1 ∧ (actP ch len p i).1 ≤ len := by
  unfold actP
  by_cases h1 : lkP ch len p = 97 + i
  · rw [if_pos h1]
    have hl := lk_lt (ch := ch) (len := len) (p := p) (by omega)
    have hn := num_sp (ch := ch) (show p + 1 ≤ len by omega)
    cases hv : (numP ch len (p + 1)).1 with
    | none => exact ⟨by simp only []; omega, by simp only []; omega⟩
    | some v0 =>
      simp only []
      by_cases h2 : lkP ch len (numP ch len (p + 1)).2 = 45
      · rw [if_pos h2]
        have hl2 := lk_lt (ch := ch) (len := len) (p := (numP ch len (p + 1)).2) (by omega)
        have hn2 := num_sp (ch := ch) (show (numP ch len (p + 1)).2 + 1 ≤ len by omega)
        cases hv2 : (numP ch len ((numP ch len (p + 1)).2 + 1)).1 with
        | none => exact ⟨by simp only []; omega, by simp only []; omega⟩
        | some v1 =>
          have := ops_le (ch := ch) 64 (numP ch len ((numP ch len (p + 1)).2 + 1)).2 (cu (cu c0P 0 (nI v0)) 1 (nI v1)) (fun _ => false) hn2.2.1
          exact ⟨by simp only []; omega, by simp only []; omega⟩
      · rw [if_neg h2]
        exact ⟨by simp only []; omega, by simp only []; omega⟩
  · rw [if_neg h1]
    exact ⟨Nat.le_refl _, hp⟩
theorem name_c : ∀ i : Fin 8, (((Int32.toUInt32 ((97 : Int32) + nI i)) % 65536).toInt32) = nI (97 + i) := by decide +kernel
section FRDL
variable {b P Q z i : Nat} {sh : am_S} {hi x base : am_I} {hr : am_R} {ch : Nat → Nat} {len p : Nat}
theorem c0_clear (c : Nat → Int32) : ∀ k, k < 9 → aClear c k = c0P k := by
  intro k hk
  have : k = 0 ∨ k = 1 ∨ k = 2 ∨ k = 3 ∨ k = 4 ∨ k = 5 ∨ k = 6 ∨ k = 7 ∨ k = 8 := by omega
  rcases this with rfl | rfl | rfl | rfl | rfl | rfl | rfl | rfl | rfl <;> simp [aClear, cu, c0P]
theorem e_activity (H : Cst b P Q sh hr) (hc : chB ch len) (ht : TC b base ch len) (hi8 : i < 8) (hp : p ≤ len) (hx : RC b (Q + 2 + i) base p c0P x) (K : Nat → Nat → Int32 → am_w → Option (Int32 × am_w)) : ∃ y, s_PlanReader_read_37 K (b + 3) Q (nI i) (Q + 2 + i) (z, sh, x, hr) = (match (actP ch len p i).2 with | none => some (nI ((actP ch len p i).1 + 1), (z, sh, y, hr)) | some _ => if (actP ch len p i).1 = len then some (0, (z, sh, am_up y Q 1 (nI (i + 1)), hr)) else K (b + 3) Q (nI (i + 1)) (z, sh, am_up y Q 1 (nI (i + 1)), hr)) ∧ y (b + 3) 1 = nI (actP ch len p i).1 ∧ RCf b (Q + 2 + i) base y ∧ ∀ c', (actP ch len p i).2 = some c' → ∀ k, k < 9 → y (Q + 2 + i) k = c' k := by
  have q2 := kQ2 H
  have hQ := k_Q H
  have h64 := hc.1
  have hA : Q + 2 + i ≠ b + 3 := by omega
  have hT : TC b x ch len := RC_T (by omega) ht hx.2.2
  have nm := name_c ⟨i, hi8⟩
  simp only [] at nm
  have ne0 : ∀ w : Option Nat, (∀ v, w = some v → v ≤ 99) → ∀ v, w = some v → ¬ (nI v = (-1 : Int32)) := fun w hw v hv => by
    have := (vI_m1 (o := some v) (fun u hu => by simp only [Option.some.injEq] at hu; have := hw v hv; omega))
    intro h9
    have := this.mp h9
    cases this
  -- the times
  have e1 := e_take (z := z) H hc hT hx.1 hp (k := 97 + i) (by omega) (by omega)
  by_cases h1 : lkP ch len p = 97 + i
  · have hl := lk_lt (ch := ch) (len := len) (p := p) (by omega)
    rw [if_pos h1] at e1
    have hx1 := RC_at (q := p + 1) hA hx
    have hT1 : TC b (am_up x (b + 3) 1 (nI (p + 1))) ch len := TC_up hT (by omega)
    have e2 := e_takeNumber (z := z) H hc hT1 (am_up_eq _ _ _ _) (show p + 1 ≤ len by omega)
    have n1 := num_sp (ch := ch) (show p + 1 ≤ len by omega)
    rw [up_up] at e2
    have hx2 := RC_c (y := vI (numP ch len (p + 1)).1) (s := 0) hA (by decide) (RC_at (q := (numP ch len (p + 1)).2) hA hx)
    have hx2p : am_up (am_up x (b + 3) 1 (nI (numP ch len (p + 1)).2)) (Q + 2 + i) 0 (vI (numP ch len (p + 1)).1) (b + 3) 1 = nI (numP ch len (p + 1)).2 := hx2.1
    have hT2 : TC b (am_up (am_up x (b + 3) 1 (nI (numP ch len (p + 1)).2)) (Q + 2 + i) 0 (vI (numP ch len (p + 1)).1)) ch len := RC_T (by omega) ht hx2.2.2
    generalize hw2 : am_up (am_up x (b + 3) 1 (nI (numP ch len (p + 1)).2)) (Q + 2 + i) 0 (vI (numP ch len (p + 1)).1) = w2 at *
    have s0 : w2 (Q + 2 + i) 0 = vI (numP ch len (p + 1)).1 := by rw [← hw2, am_up_eq]
    have e45 : f_PlanReader_take (b + 3) (45 : Int32) (z, sh, w2, hr) = _ := e_take (z := z) H hc hT2 hx2p n1.2.1 (k := 45) (by omega) (by omega)
    cases hv : (numP ch len (p + 1)).1 with
    | none =>
      have ha : actP ch len p i = ((numP ch len (p + 1)).2, none) := by simp only [actP, if_pos h1, hv]
      rw [ha]
      refine ⟨w2, ?_, hx2p, hx2.2.2, fun c' hc' => by cases hc'⟩
      have s0' : w2 (Q + 2 + i) 0 = -1 := by rw [s0, hv]; rfl
      simp only [s_PlanReader_read_37, s_PlanReader_read_58, f_PlanReader_readTimes, nm, kg0 H, kp0 H, ko0 H, kg1 H, kp1 H, ko1 H, kg2 H, kp2 H, ko2 H, kg3 H, kp3 H, ko3 H, kg4 H, kp4 H, ko4 H, kr0_0 H, kr0_1 H, kr0_2 H, kr0_3 H, kr1_0 H, kr3_0 H, kr4_5 H, kr4_6 H, kr7_0 H, kr0_4 H, kr0_5 H, kal H, e1, e2, Option.bind_some, i0_1, if_false, ap hQ hi8, ag hQ hi8, hw2, s0', if_true, hx2p, n_s]
    | some v0 =>
      have s0' : ¬ w2 (Q + 2 + i) 0 = -1 := by rw [s0, hv]; exact ne0 _ n1.2.2 v0 hv
      by_cases h2 : lkP ch len (numP ch len (p + 1)).2 = 45
      · rw [if_pos h2] at e45
        have hl2 := lk_lt (ch := ch) (len := len) (p := (numP ch len (p + 1)).2) (by omega)
        have hT3 : TC b (am_up w2 (b + 3) 1 (nI ((numP ch len (p + 1)).2 + 1))) ch len := TC_up hT2 (by omega)
        have e5 := e_takeNumber (z := z) H hc hT3 (am_up_eq _ _ _ _) (show (numP ch len (p + 1)).2 + 1 ≤ len by omega)
        have n2 := num_sp (ch := ch) (show (numP ch len (p + 1)).2 + 1 ≤ len by omega)
        rw [up_up] at e5
        have hx4 := RC_c (y := vI (numP ch len ((numP ch len (p + 1)).2 + 1)).1) (s := 1) hA (by decide) (RC_at (q := (numP ch len ((numP ch len (p + 1)).2 + 1)).2) hA hx2)
        generalize hw4 : am_up (am_up w2 (b + 3) 1 (nI (numP ch len ((numP ch len (p + 1)).2 + 1)).2)) (Q + 2 + i) 1 (vI (numP ch len ((numP ch len (p + 1)).2 + 1)).1) = w4 at *
        have s1 : w4 (Q + 2 + i) 1 = vI (numP ch len ((numP ch len (p + 1)).2 + 1)).1 := by rw [← hw4, am_up_eq]
        cases hv2 : (numP ch len ((numP ch len (p + 1)).2 + 1)).1 with
        | none =>
          have ha : actP ch len p i = ((numP ch len ((numP ch len (p + 1)).2 + 1)).2, none) := by simp only [actP, if_pos h1, hv, if_pos h2, hv2]
          rw [ha]
          have s1' : w4 (Q + 2 + i) 1 = -1 := by rw [s1, hv2]; rfl
          refine ⟨w4, ?_, hx4.1, hx4.2.2, fun c' hc' => by cases hc'⟩
          simp only [s_PlanReader_read_37, s_PlanReader_read_58, f_PlanReader_readTimes, nm, kg0 H, kp0 H, ko0 H, kg1 H, kp1 H, ko1 H, kg2 H, kp2 H, ko2 H, kg3 H, kp3 H, ko3 H, kg4 H, kp4 H, ko4 H, kr0_0 H, kr0_1 H, kr0_2 H, kr0_3 H, kr1_0 H, kr3_0 H, kr4_5 H, kr4_6 H, kr7_0 H, kr0_4 H, kr0_5 H, kal H, e1, e2, Option.bind_some, i0_1, if_false, ap hQ hi8, ag hQ hi8, hw2, s0', e45, e5, hw4, s1', if_true, hx4.1, n_s]
        | some v1 =>
          have s1' : ¬ w4 (Q + 2 + i) 1 = -1 := by rw [s1, hv2]; exact ne0 _ n2.2.2 v1 hv2
          have ha : actP ch len p i = opsP ch len 64 (numP ch len ((numP ch len (p + 1)).2 + 1)).2 (cu (cu c0P 0 (nI v0)) 1 (nI v1)) (fun _ => false) := by simp only [actP, if_pos h1, hv, if_pos h2, hv2]
          rw [ha]
          rw [hv, hv2] at hx4
          have hx4' : RC b (Q + 2 + i) base (numP ch len ((numP ch len (p + 1)).2 + 1)).2 (cu (cu c0P 0 (nI v0)) 1 (nI v1)) w4 := hx4
          obtain ⟨y, ey, yp, yf, yc⟩ := e_options (z := z) (base := base) H hc ht hi8 64 0 _ _ (fun _ => false) 0 w4 70 (by omega) (by omega) n2.2.1 (by omega) (fun k hk => tb_0z (by omega)) hx4'
          have ol := (ops_le (ch := ch) 64 (numP ch len ((numP ch len (p + 1)).2 + 1)).2 (cu (cu c0P 0 (nI v0)) 1 (nI v1)) (fun _ => false) n2.2.1).2
          refine ⟨y, ?_, yp, yf, yc⟩
          have ey' : f_PlanReader_readOptions (b + 3) (Q + 2 + i) (z, sh, w4, hr) = some (b1 (opsP ch len 64 (numP ch len ((numP ch len (p + 1)).2 + 1)).2 (cu (cu c0P 0 (nI v0)) 1 (nI v1)) (fun _ => false)).2.isSome, (z, sh, y, hr)) := ey
          have red : s_PlanReader_read_37 K (b + 3) Q (nI i) (Q + 2 + i) (z, sh, x, hr) = ((f_PlanReader_readOptions (b + 3) (Q + 2 + i) (z, sh, w4, hr)).bind fun q8 => (if q8.1 = 0 then (s_PlanReader_read_58 (b + 3) q8.2) else ((am_fp 5 1 Q (nI i + (1 : Int32)) q8.2).bind fun w9 => ((am_fg 2 1 (b + 3) w9).bind fun x10 => ((am_rg 2 0 (b + 3) w9).bind fun b11 => ((am_fg 1 1 b11 w9).bind fun x12 => (if x10 = x12 then (some ((0 : Int32), w9)) else (K (b + 3) Q (nI i + (1 : Int32)) w9)))))))) := by
            simp only [s_PlanReader_read_37, f_PlanReader_readTimes, nm, kg0 H, kp0 H, ko0 H, kg1 H, kp1 H, ko1 H, kg2 H, kp2 H, ko2 H, kg3 H, kp3 H, ko3 H, kg4 H, kp4 H, ko4 H, kr0_0 H, kr0_1 H, kr0_2 H, kr0_3 H, kr1_0 H, kr3_0 H, kr4_5 H, kr4_6 H, kr7_0 H, kr0_4 H, kr0_5 H, kal H, e1, e2, Option.bind_some, i0_1, if_false, ap hQ hi8, ag hQ hi8, hw2, s0', e45, e5, hw4, s1']
          rw [red, ey']
          simp only [Option.bind_some]
          generalize opsP ch len 64 (numP ch len ((numP ch len (p + 1)).2 + 1)).2 (cu (cu c0P 0 (nI v0)) 1 (nI v1)) (fun _ => false) = o at *
          rcases o with ⟨p2, _ | c2⟩
          · simp only [Option.isSome_none, b1_0, if_true, s_PlanReader_read_58, kg0 H, kp0 H, ko0 H, kg1 H, kp1 H, ko1 H, kg2 H, kp2 H, ko2 H, kg3 H, kp3 H, ko3 H, kg4 H, kp4 H, ko4 H, kr0_0 H, kr0_1 H, kr0_2 H, kr0_3 H, kr1_0 H, kr3_0 H, kr4_5 H, kr4_6 H, kr7_0 H, kr0_4 H, kr0_5 H, kal H, Option.bind_some, yp, n_s]
          · have hyl : y (b + 1) 1 = nI len := by rw [yf.2 _ (by omega) (by omega)]; exact ht.1
            simp only [Option.isSome_some, b1_0, Bool.true_eq_false, if_false, pp hQ, Option.bind_some, kg0 H, kp0 H, ko0 H, kg1 H, kp1 H, ko1 H, kg2 H, kp2 H, ko2 H, kg3 H, kp3 H, ko3 H, kg4 H, kp4 H, ko4 H, kr0_0 H, kr0_1 H, kr0_2 H, kr0_3 H, kr1_0 H, kr3_0 H, kr4_5 H, kr4_6 H, kr7_0 H, kr0_4 H, kr0_5 H, kal H, am_up_na (show b + 3 ≠ Q by omega), am_up_na (show b + 1 ≠ Q by omega), yp, hyl, n_inj (a := p2) (b := len) (by simp only [] at ol; omega) (by omega), n_s]
      · rw [if_neg h2] at e45
        have ha : actP ch len p i = ((numP ch len (p + 1)).2, none) := by simp only [actP, if_pos h1, hv, if_neg h2]
        rw [ha]
        refine ⟨w2, ?_, hx2p, hx2.2.2, fun c' hc' => by cases hc'⟩
        simp only [s_PlanReader_read_37, s_PlanReader_read_58, f_PlanReader_readTimes, nm, kg0 H, kp0 H, ko0 H, kg1 H, kp1 H, ko1 H, kg2 H, kp2 H, ko2 H, kg3 H, kp3 H, ko3 H, kg4 H, kp4 H, ko4 H, kr0_0 H, kr0_1 H, kr0_2 H, kr0_3 H, kr1_0 H, kr3_0 H, kr4_5 H, kr4_6 H, kr7_0 H, kr0_4 H, kr0_5 H, kal H, e1, e2, Option.bind_some, i0_1, if_false, ap hQ hi8, ag hQ hi8, hw2, s0', e45, if_true, hx2p, n_s]
  · rw [if_neg h1] at e1
    have ha : actP ch len p i = (p, none) := by simp only [actP, if_neg h1]
    rw [ha]
    refine ⟨x, ?_, hx.1, hx.2.2, fun c' hc' => by cases hc'⟩
    simp only [s_PlanReader_read_37, s_PlanReader_read_58, f_PlanReader_readTimes, nm, kg0 H, kp0 H, ko0 H, kg1 H, kp1 H, ko1 H, kg2 H, kp2 H, ko2 H, kg3 H, kp3 H, ko3 H, kg4 H, kp4 H, ko4 H, kr0_0 H, kr0_1 H, kr0_2 H, kr0_3 H, kr1_0 H, kr3_0 H, kr4_5 H, kr4_6 H, kr7_0 H, kr0_4 H, kr0_5 H, kal H, e1, Option.bind_some, if_true, hx.1, n_s]
end FRDL
