-- needs 56 57 58 59 60 61 62 63 64 65 66 67 68 69 70 71 72 73 74 75 76 77 78 79 80
/-! a whole line, in the class -/
section FRDM
variable {b P Q z i : Nat} {sh : am_S} {hi x y base : am_I} {hr : am_R} {ch : Nat → Nat} {len p : Nat}
def frD (b Q : Nat) (base x : am_I) : Prop := (∀ k, k ≠ 1 → x Q k = base Q k) ∧ ∀ q, q ≠ b + 3 → q ≠ Q → (q < Q + 2 ∨ Q + 10 ≤ q) → x q = base q
def clr (x : am_I) (A : Nat) : Prop := x A 9 = 0 ∧ x A 17 = -1 ∧ x A 18 = -1
def RD (Q n : Nat) (cs : Nat → Nat → Int32) (x : am_I) : Prop := ∀ j, j < n → (∀ k, k < 9 → x (Q + 2 + j) k = cs j k) ∧ clr x (Q + 2 + j)
def ansP {α : Type} (o : Nat × Option α) : Int32 := match o.2 with
  | none => nI (o.1 + 1)
  | some _ => 0
theorem RD_eq {n : Nat} {cs : Nat → Nat → Int32} (h : RD Q n cs x) (he : ∀ j, j < n → y (Q + 2 + j) = x (Q + 2 + j)) : RD Q n cs y := by
  intro j hj
  unfold clr
  rw [he j hj]
  exact h j hj
theorem RD_cw {n : Nat} {cs : Nat → Nat → Int32} {c : Nat → Int32} (h : RD Q n cs x) (hc : ∀ k, k < 9 → x (Q + 2 + n) k = c k) (hr : clr x (Q + 2 + n)) : RD Q (n + 1) (cw cs n c) x := by
  intro j hj
  by_cases h1 : j = n
  · subst h1
    rw [cw_e]
    exact ⟨hc, hr⟩
  · rw [cw_n _ _ _ _ h1]
    exact h j (by omega)
theorem e_lines (H : Cst b P Q sh hr) (hc : chB ch len) (ht : TC b base ch len) : ∀ f i p cs (x : am_I) m, i + (f + 1) = 8 → f < m → p ≤ len → x (b + 3) 1 = nI p → (∀ k, k < 9 → x (Q + 2 + i) k = c0P k) → clr x (Q + 2 + i) → RD Q i cs x → frD b Q base x → ∃ y, s_PlanReader_read_37 (am_it (fun _ _ _ _ => none) s_PlanReader_read_7 m) (b + 3) Q (nI i) (Q + 2 + i) (z, sh, x, hr) = some (ansP (linP ch len (f + 1) i p cs), (z, sh, y, hr)) ∧ frD b Q base y ∧ ∀ n cs', (linP ch len (f + 1) i p cs).2 = some (n, cs') → n ≤ 8 ∧ y Q 1 = nI n ∧ RD Q n cs' y := by
  have q2 := kQ2 H
  have hQ := k_Q H
  intro f
  induction f with
  | zero =>
    intro i p cs x m hi hm hp hxp hx0 hxc hxR hxf
    have hT : TC b x ch len := TC_r ht (hxf.2 _ (by omega) (by omega) (by omega)) (hxf.2 _ (by omega) (by omega) (by omega))
    obtain ⟨y, ey, yp, yf, yc⟩ := e_activity (z := z) (base := x) H hc hT (show i < 8 by omega) hp ⟨hxp, hx0, fun _ _ => rfl, fun _ _ _ => rfl⟩ (am_it (fun _ _ _ _ => none) s_PlanReader_read_7 m)
    have fy : frD b Q base y := ⟨fun k hk => by rw [yf.2 Q (by omega) (by omega)]; exact hxf.1 k hk, fun q h1 h2 h3 => by rw [yf.2 q h1 (by omega)]; exact hxf.2 q h1 h2 h3⟩
    have fy' : frD b Q base (am_up y Q 1 (nI (i + 1))) := ⟨fun k hk => by rw [am_up_nk hk]; exact fy.1 k hk, fun q h1 h2 h3 => by rw [← fy.2 q h1 h2 h3]; funext j; rw [am_up_na h2]⟩
    have Ry : RD Q i cs y := RD_eq hxR (fun j hj => yf.2 _ (by omega) (by omega))
    rw [ey]
    simp only [linP]
    rcases ha : actP ch len p i with ⟨p2, _ | c⟩
    · rw [ha] at yp
      exact ⟨y, rfl, fy, fun n cs' h => by cases h⟩
    · rw [ha] at yp yc
      simp only []
      by_cases h1 : p2 = len
      · rw [if_pos h1, if_pos h1]
        refine ⟨_, rfl, fy', fun n cs' h => ?_⟩
        simp only [Option.some.injEq, Prod.mk.injEq] at h
        obtain ⟨rfl, rfl⟩ := h
        refine ⟨by omega, am_up_eq _ _ _ _, RD_eq (x := y) ?_ (fun j hj => by funext k; rw [am_up_na (by omega)])⟩
        exact RD_cw Ry (yc c rfl) ⟨by rw [yf.1 9 (by omega)]; exact hxc.1, by rw [yf.1 17 (by omega)]; exact hxc.2.1, by rw [yf.1 18 (by omega)]; exact hxc.2.2⟩
      · rw [if_neg h1, if_neg h1, if_pos trivial]
        obtain ⟨m, rfl⟩ : ∃ k, m = k + 1 := ⟨m - 1, by omega⟩
        refine ⟨am_up y Q 1 (nI (i + 1)), ?_, fy', fun n cs' h => by cases h⟩
        rw [it_s]
        simp only [s_PlanReader_read_7]
        rw [if_pos (show (8 : Int32) ≤ nI (i + 1) from (n_le (a := 8) (b := i + 1) (by omega) (by omega)).mpr (by omega))]
        have yp' : (am_up y Q 1 (nI (i + 1))) (b + 3) 1 = nI p2 := by rw [am_up_na (by omega)]; exact yp
        simp only [kg0 H, kp0 H, ko0 H, kg1 H, kp1 H, ko1 H, kg2 H, kp2 H, ko2 H, kg3 H, kp3 H, ko3 H, kg4 H, kp4 H, ko4 H, kr0_0 H, kr0_1 H, kr0_2 H, kr0_3 H, kr1_0 H, kr3_0 H, kr4_5 H, kr4_6 H, kr7_0 H, kr0_4 H, kr0_5 H, kal H, Option.bind_some, yp', n_s, ansP]
  | succ f ih =>
    intro i p cs x m hi hm hp hxp hx0 hxc hxR hxf
    have hT : TC b x ch len := TC_r ht (hxf.2 _ (by omega) (by omega) (by omega)) (hxf.2 _ (by omega) (by omega) (by omega))
    obtain ⟨y, ey, yp, yf, yc⟩ := e_activity (z := z) (base := x) H hc hT (show i < 8 by omega) hp ⟨hxp, hx0, fun _ _ => rfl, fun _ _ _ => rfl⟩ (am_it (fun _ _ _ _ => none) s_PlanReader_read_7 m)
    have fy : frD b Q base y := ⟨fun k hk => by rw [yf.2 Q (by omega) (by omega)]; exact hxf.1 k hk, fun q h1 h2 h3 => by rw [yf.2 q h1 (by omega)]; exact hxf.2 q h1 h2 h3⟩
    have fy' : frD b Q base (am_up y Q 1 (nI (i + 1))) := ⟨fun k hk => by rw [am_up_nk hk]; exact fy.1 k hk, fun q h1 h2 h3 => by rw [← fy.2 q h1 h2 h3]; funext j; rw [am_up_na h2]⟩
    have Ry : RD Q i cs y := RD_eq hxR (fun j hj => yf.2 _ (by omega) (by omega))
    have pl := act_le (ch := ch) (i := i) hp
    rw [ey]
    have hlin : linP ch len (f + 1 + 1) i p cs = (match actP ch len p i with
      | (p2, none) => (p2, none)
      | (p2, some c) => if p2 = len then (p2, some (i + 1, cw cs i c)) else if f + 1 = 0 then (p2, none) else if lkP ch len p2 = 59 then linP ch len (f + 1) (i + 1) (p2 + 1) (cw cs i c) else (p2, none)) := rfl
    rw [hlin]
    rcases ha : actP ch len p i with ⟨p2, _ | c⟩
    · rw [ha] at yp
      exact ⟨y, rfl, fy, fun n cs' h => by cases h⟩
    · rw [ha] at yp yc pl
      simp only [] at pl ⊢
      have R1 : RD Q (i + 1) (cw cs i c) y := RD_cw Ry (yc c rfl) ⟨by rw [yf.1 9 (by omega)]; exact hxc.1, by rw [yf.1 17 (by omega)]; exact hxc.2.1, by rw [yf.1 18 (by omega)]; exact hxc.2.2⟩
      by_cases h1 : p2 = len
      · rw [if_pos h1, if_pos h1]
        refine ⟨_, rfl, fy', fun n cs' h => ?_⟩
        simp only [Option.some.injEq, Prod.mk.injEq] at h
        obtain ⟨rfl, rfl⟩ := h
        exact ⟨by omega, am_up_eq _ _ _ _, RD_eq R1 (fun j hj => by funext k; rw [am_up_na (by omega)])⟩
      · rw [if_neg h1, if_neg h1, if_neg (show ¬ f + 1 = 0 by omega)]
        obtain ⟨m, rfl⟩ : ∃ k, m = k + 1 := ⟨m - 1, by omega⟩
        have i8 : i + 1 < 8 := by omega
        have yp' : (am_up y Q 1 (nI (i + 1))) (b + 3) 1 = nI p2 := by rw [am_up_na (by omega)]; exact yp
        generalize hy1 : am_up y Q 1 (nI (i + 1)) = y1 at *
        have R1' : RD Q (i + 1) (cw cs i c) y1 := RD_eq R1 (fun j hj => by rw [← hy1]; funext k; rw [am_up_na (by omega)])
        -- the next one is cleared
        have f2 : frD b Q base (cw y1 (Q + 2 + (i + 1)) (aClear (y1 (Q + 2 + (i + 1))))) := ⟨fun k hk => by rw [cw_n _ _ _ _ (by omega)]; exact fy'.1 k hk, fun q h1 h2 h3 => by rw [cw_n _ _ _ _ (by omega)]; exact fy'.2 q h1 h2 h3⟩
        have p2' : (cw y1 (Q + 2 + (i + 1)) (aClear (y1 (Q + 2 + (i + 1))))) (b + 3) 1 = nI p2 := by rw [cw_n _ _ _ _ (by omega)]; exact yp'
        have c2 : ∀ k, k < 9 → (cw y1 (Q + 2 + (i + 1)) (aClear (y1 (Q + 2 + (i + 1))))) (Q + 2 + (i + 1)) k = c0P k := fun k hk => by rw [cw_e]; exact c0_clear _ k hk
        have l2 : clr (cw y1 (Q + 2 + (i + 1)) (aClear (y1 (Q + 2 + (i + 1))))) (Q + 2 + (i + 1)) := by
          unfold clr
          rw [cw_e]
          simp [aClear, cu]
        have R2 : RD Q (i + 1) (cw cs i c) (cw y1 (Q + 2 + (i + 1)) (aClear (y1 (Q + 2 + (i + 1))))) := RD_eq R1' (fun j hj => by rw [cw_n _ _ _ _ (by omega)])
        have red : am_it (fun _ _ _ _ => none) s_PlanReader_read_7 (m + 1) (b + 3) Q (nI (i + 1)) (z, sh, y1, hr) = ((f_PlanReader_take (b + 3) (59 : Int32) (z, sh, cw y1 (Q + 2 + (i + 1)) (aClear (y1 (Q + 2 + (i + 1)))), hr)).bind fun q13 => (if q13.1 = 0 then (s_PlanReader_read_58 (b + 3) q13.2) else (s_PlanReader_read_37 (am_it (fun _ _ _ _ => none) s_PlanReader_read_7 m) (b + 3) Q (nI (i + 1)) (Q + 2 + (i + 1)) q13.2))) := by
          rw [it_s]
          simp only [s_PlanReader_read_7]
          rw [if_neg (show ¬ (8 : Int32) ≤ nI (i + 1) from nI_ge (b := 8) i8 (by decide))]
          simp only [pr hQ, pa hQ i8, ao hQ i8, e_clear (ps hQ i8), Option.bind_some]
          rw [if_neg (show ¬ nI (i + 1) ≤ 0 from nI_nle (by omega) (by omega))]
          simp only [kg0 H, kp0 H, ko0 H, kg1 H, kp1 H, ko1 H, kg2 H, kp2 H, ko2 H, kg3 H, kp3 H, ko3 H, kg4 H, kp4 H, ko4 H, kr0_0 H, kr0_1 H, kr0_2 H, kr0_3 H, kr1_0 H, kr3_0 H, kr4_5 H, kr4_6 H, kr7_0 H, kr0_4 H, kr0_5 H, kal H]
        rw [red]
        generalize cw y1 (Q + 2 + (i + 1)) (aClear (y1 (Q + 2 + (i + 1)))) = y2 at *
        have hT2 : TC b y2 ch len := TC_r ht (f2.2 _ (by omega) (by omega) (by omega)) (f2.2 _ (by omega) (by omega) (by omega))
        have et : f_PlanReader_take (b + 3) (59 : Int32) (z, sh, y2, hr) = _ := e_take (z := z) H hc hT2 p2' pl.2 (k := 59) (by omega) (by omega)
        rw [et]
        by_cases h2 : lkP ch len p2 = 59
        · rw [if_pos h2, if_pos h2]
          have hl2 := lk_lt (ch := ch) (len := len) (p := p2) (by omega)
          simp only [Option.bind_some, i0_1, if_false]
          obtain ⟨w, ew, fw, rw'⟩ := ih (i + 1) (p2 + 1) (cw cs i c) (am_up y2 (b + 3) 1 (nI (p2 + 1))) m (by omega) (by omega) (by omega) (am_up_eq _ _ _ _) (fun k hk => by rw [am_up_na (by omega)]; exact c2 k hk) (by
            unfold clr
            rw [am_up_na (by omega), am_up_na (by omega), am_up_na (by omega)]
            exact l2) (RD_eq R2 (fun j hj => by funext k; rw [am_up_na (by omega)])) ⟨fun k hk => by rw [am_up_na (by omega)]; exact f2.1 k hk, fun q h1 h2 h3 => by rw [← f2.2 q h1 h2 h3]; funext j; rw [am_up_na h1]⟩
          exact ⟨w, ew, fw, rw'⟩
        · rw [if_neg h2, if_neg h2]
          refine ⟨y2, ?_, f2, fun n cs' h => by cases h⟩
          simp only [Option.bind_some, if_true, s_PlanReader_read_58, kg0 H, kp0 H, ko0 H, kg1 H, kp1 H, ko1 H, kg2 H, kp2 H, ko2 H, kg3 H, kp3 H, ko3 H, kg4 H, kp4 H, ko4 H, kr0_0 H, kr0_1 H, kr0_2 H, kr0_3 H, kr1_0 H, kr3_0 H, kr4_5 H, kr4_6 H, kr7_0 H, kr0_4 H, kr0_5 H, kal H, p2', n_s, ansP]
theorem e_read (H : Cst b P Q sh hr) (hc : chB ch len) (ht : TC b hi ch len) : ∃ y, f_PlanReader_read (b + 3) Q (z, sh, hi, hr) = some (ansP (linP ch len 8 0 0 (fun _ _ => 0)), (z, sh, y, hr)) ∧ frD b Q hi y ∧ ∀ n cs', (linP ch len 8 0 0 (fun _ _ => 0)).2 = some (n, cs') → n ≤ 8 ∧ y Q 1 = nI n ∧ RD Q n cs' y := by
  have q2 := kQ2 H
  have hQ := k_Q H
  have i8 : 0 < 8 := by omega
  have hT1 : TC b (am_up hi (b + 3) 1 0) ch len := TC_up ht (by omega)
  obtain ⟨y, ey, fy, ry⟩ := e_lines (z := z) (base := hi) H hc ht 7 0 0 (fun _ _ => 0) (cw (am_up hi (b + 3) 1 0) (Q + 2 + 0) (aClear (am_up hi (b + 3) 1 0 (Q + 2 + 0)))) 69 (by omega) (by omega) (by omega) (by rw [cw_n _ _ _ _ (by omega), am_up_eq]; rfl) (fun k hk => by rw [cw_e]; exact c0_clear _ k hk) (by
    unfold clr
    rw [cw_e]
    simp [aClear, cu]) (fun j hj => by omega) ⟨fun k hk => by rw [cw_n _ _ _ _ (by omega), am_up_na (by omega)], fun q h1 h2 h3 => by rw [cw_n _ _ _ _ (by omega)]; funext j; rw [am_up_na h1]⟩
  refine ⟨y, ?_, fy, ry⟩
  simp only [f_PlanReader_read, kg0 H, kp0 H, ko0 H, kg1 H, kp1 H, ko1 H, kg2 H, kp2 H, ko2 H, kg3 H, kp3 H, ko3 H, kg4 H, kp4 H, ko4 H, kr0_0 H, kr0_1 H, kr0_2 H, kr0_3 H, kr1_0 H, kr3_0 H, kr4_5 H, kr4_6 H, kr7_0 H, kr0_4 H, kr0_5 H, kal H, Option.bind_some, f_PlanReader_read_7]
  rw [show (70 : Nat) = 69 + 1 from rfl, it_s]
  simp only [s_PlanReader_read_7]
  rw [if_neg (show ¬ (8 : Int32) ≤ 0 by decide)]
  have pa0 : am_ag (Q + 1) (0 : Int32) (z, sh, am_up hi (b + 3) 1 0, hr) = some (Q + 2 + 0) := pa hQ i8
  simp only [pr hQ, pa0, ao hQ i8, e_clear (ps hQ i8), Option.bind_some]
  rw [if_pos (show (0 : Int32) ≤ 0 by decide)]
  exact ey
end FRDM
