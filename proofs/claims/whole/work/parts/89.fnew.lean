-- needs 88 89a 89b 89c 89d 89e
/-! the class's object at the start -/
section FFNEW
variable {b z kk : Nat} {sh sh1 : am_S} {hi hi1 : am_I} {hr hr1 : am_R}
def FrN9 (b z kk : Nat) (sh : am_S) (hi : am_I) (hr : am_R) (sh1 : am_S) (hi1 : am_I) (hr1 : am_R) : Prop := ∀ q, q < z → sh1 q = sh q ∧ hi1 q = hi q ∧ ∀ k, (q ≠ b ∨ k ≠ kk) → hr1 q k = hr q k
def rnwD (b : Nat) (w21 : am_w) : Option (Int32 × am_w) := (am_let (am_nw (.inl 5) w21) fun w22 => ((f_Plan_init w21.1 w22).bind fun q24 => ((am_rp 0 5 b w21.1 q24.2).bind fun w25 => ((am_fp 0 6 b (0 : Int32) w25).bind fun w26 => (some (0, w26))))))
def rnwC (b : Nat) (w17 : am_w) : Option (Int32 × am_w) := (am_let (am_nw (.inl 5) w17) fun w18 => ((f_Plan_init w17.1 w18).bind fun q20 => ((am_rp 0 4 b w17.1 q20.2).bind fun w21 => rnwD b w21)))
def rnwB (b : Nat) (w13 : am_w) : Option (Int32 × am_w) := (am_let (am_nw (.inl 4) w13) fun w14 => ((f_Envelope_init w13.1 w14).bind fun q16 => ((am_rp 0 3 b w13.1 q16.2).bind fun w17 => rnwC b w17)))
def rnwA (b : Nat) (w9 : am_w) : Option (Int32 × am_w) := (am_let (am_nw (.inl 3) w9) fun w10 => ((f_Supply_init w9.1 w10).bind fun q12 => ((am_rp 0 2 b w9.1 q12.2).bind fun w13 => rnwB b w13)))
theorem rm_eq (w : am_w) : f_Rm_init b w = (am_let (am_nw (.inl 1) w) fun w1 => ((f_Line_init w.1 w1).bind fun q3 => ((am_rp 0 0 b w.1 q3.2).bind fun w4 => (am_let (am_nw (.inl 2) w4) fun w5 => ((am_rg 0 0 b w5).bind fun b7 => ((f_PlanReader_init w4.1 b7 w5).bind fun q8 => ((am_rp 0 1 b w4.1 q8.2).bind fun w9 => rnwA b w9))))))) := rfl
theorem i_D (h0 : sh b = some (.inl 0)) (h6 : hi b 6 = 0) (hb : b + 19 = z) : ∃ sh1 hi1 hr1, rnwD b (z, sh, hi, hr) = some (0, (z + 10, sh1, hi1, hr1)) ∧ FrN9 b z 5 sh hi hr sh1 hi1 hr1 ∧ hr1 b 5 = some z ∧ Pst z sh1 hr1 := by
  obtain ⟨s, x, r, e, p, f1, f2⟩ := i_plan (P := z) (sh := am_sh sh z (.inl 5)) (hi := am_z hi z 0) (hr := am_z hr z none) sh_e
  have s0 : s b = some (.inl 0) := by rw [(f1 b (by omega)).1, sh_n (by omega)]; exact h0
  have x6 : x b 6 = 0 := by rw [f2 b (by omega), z_n (by omega)]; exact h6
  refine ⟨s, am_up x b 6 0, am_up r b 5 (some z), ?_, ?_, am_up_eq _ _ _ _, ?_⟩
  · simp only [rnwD, am_let, nw_t, e, Option.bind_some, fl_rp s0, fl_fp s0]
  · intro q hq
    refine ⟨by rw [(f1 q hq).1, sh_n (by omega)], ?_, fun k hk => ?_⟩
    · have : am_up x b 6 0 = x := by
        funext p j
        by_cases h1 : p = b
        · subst h1
          by_cases h2 : j = 6
          · subst h2; rw [am_up_eq, x6]
          · rw [am_up_nk h2]
        · rw [am_up_na h1]
      rw [this, f2 q (by omega), z_n (by omega)]
    · have : am_up r b 5 (some z) q k = r q k := by
        rcases hk with h1 | h1
        · rw [am_up_na h1]
        · rw [am_up_nk h1]
      rw [this, (f1 q hq).2, z_n (by omega)]
  · obtain ⟨p1, p2, p3, p4⟩ := p
    exact ⟨p1, p2, by rw [am_up_na (by omega)]; exact p3, fun i hi => ⟨by rw [am_up_na (by omega)]; exact (p4 i hi).1, (p4 i hi).2⟩⟩
theorem i_C (h0 : sh b = some (.inl 0)) (hb : b + 9 = z) : ∃ sh1 hi1 hr1, rnwC b (z, sh, hi, hr) = rnwD b (z + 10, sh1, hi1, hr1) ∧ FrN9 b z 4 sh hi hr sh1 hi1 hr1 ∧ hr1 b 4 = some z ∧ Pst z sh1 hr1 ∧ hi1 z 1 = 0 := by
  obtain ⟨s, x, r, e, p, f1, f2⟩ := i_plan (P := z) (sh := am_sh sh z (.inl 5)) (hi := am_z hi z 0) (hr := am_z hr z none) sh_e
  have s0 : s b = some (.inl 0) := by rw [(f1 b (by omega)).1, sh_n (by omega)]; exact h0
  refine ⟨s, x, am_up r b 4 (some z), ?_, ?_, am_up_eq _ _ _ _, ?_, by rw [f2 z (by omega)]; exact z_e⟩
  · simp only [rnwC, am_let, nw_t, e, Option.bind_some, fl_rp s0]
  · intro q hq
    refine ⟨by rw [(f1 q hq).1, sh_n (by omega)], by rw [f2 q (by omega), z_n (by omega)], fun k hk => ?_⟩
    have : am_up r b 4 (some z) q k = r q k := by
      rcases hk with h1 | h1
      · rw [am_up_na h1]
      · rw [am_up_nk h1]
    rw [this, (f1 q hq).2, z_n (by omega)]
  · obtain ⟨p1, p2, p3, p4⟩ := p
    exact ⟨p1, p2, by rw [am_up_na (by omega)]; exact p3, fun i hi => ⟨by rw [am_up_na (by omega)]; exact (p4 i hi).1, (p4 i hi).2⟩⟩
theorem i_B (h0 : sh b = some (.inl 0)) (hb : b < z) : ∃ sh1 hi1 hr1, rnwB b (z, sh, hi, hr) = rnwC b (z + 2, sh1, hi1, hr1) ∧ FrN9 b z 3 sh hi hr sh1 hi1 hr1 ∧ hr1 b 3 = some z ∧ sh1 z = some (.inl 4) ∧ sh1 (z + 1) = some (.inr (.int, 31)) ∧ hr1 z 0 = some (z + 1) := by
  have a1 : am_sh (am_sh sh z (.inl 4)) (z + 1) (.inr (.int, 31)) z = some (.inl 4) := by rw [sh_n (by omega)]; exact sh_e
  have a0 : am_sh (am_sh sh z (.inl 4)) (z + 1) (.inr (.int, 31)) b = some (.inl 0) := by rw [sh_n (by omega), sh_n (by omega)]; exact h0
  refine ⟨_, am_z (am_z hi z 0) (z + 1) 0, am_up (am_up (am_z (am_z hr z none) (z + 1) none) z 0 (some (z + 1))) b 3 (some z), ?_, ?_, am_up_eq _ _ _ _, a1, sh_e, by rw [am_up_na (by omega), am_up_eq]⟩
  · simp only [rnwB, f_Envelope_init, am_let, nw_t, Option.bind_some, fl_rp a1, fl_rp a0]
  · intro q hq
    refine ⟨by rw [sh_n (by omega), sh_n (by omega)], by rw [z_n (by omega), z_n (by omega)], fun k hk => ?_⟩
    have : am_up (am_up (am_z (am_z hr z none) (z + 1) none) z 0 (some (z + 1))) b 3 (some z) q k = am_up (am_z (am_z hr z none) (z + 1) none) z 0 (some (z + 1)) q k := by
      rcases hk with h1 | h1
      · rw [am_up_na h1]
      · rw [am_up_nk h1]
    rw [this, am_up_na (by omega), z_n (by omega), z_n (by omega)]
theorem i_A (h0 : sh b = some (.inl 0)) : ∃ sh1 hi1 hr1, rnwA b (b + 4, sh, hi, hr) = rnwB b (b + 7, sh1, hi1, hr1) ∧ FrN9 b (b + 4) 2 sh hi hr sh1 hi1 hr1 ∧ hr1 b 2 = some (b + 4) ∧ Sst b sh1 hr1 ∧ hi1 (b + 4) 0 = 1000 ∧ hi1 (b + 4) 1 = 0 ∧ hi1 (b + 4) 2 = -1 ∧ SupC b hi1 (fun _ => 0) 20 5 ∧ SupN b hi1 (fun _ => 0) 20 5 := by
  obtain ⟨s4, es4⟩ : ∃ s : am_S, s = am_sh sh (b + 4) (.inl 3) := ⟨_, rfl⟩
  obtain ⟨s5, es5⟩ : ∃ s : am_S, s = am_sh s4 (b + 5) (.inr (.int, 24)) := ⟨_, rfl⟩
  obtain ⟨s6, es6⟩ : ∃ s : am_S, s = am_sh s5 (b + 6) (.inr (.int, 24)) := ⟨_, rfl⟩
  obtain ⟨r5, er5⟩ : ∃ r : am_R, r = am_up (am_z (am_z hr (b + 4) none) (b + 5) none) (b + 4) 5 (some (b + 5)) := ⟨_, rfl⟩
  obtain ⟨r6, er6⟩ : ∃ r : am_R, r = am_up (am_z r5 (b + 6) none) (b + 4) 6 (some (b + 6)) := ⟨_, rfl⟩
  obtain ⟨x4, ex4⟩ : ∃ x : am_I, x = am_up (am_up (am_z hi (b + 4) 0) (b + 4) 0 1000) (b + 4) 2 (-1) := ⟨_, rfl⟩
  obtain ⟨x6, ex6⟩ : ∃ x : am_I, x = am_up (am_up (am_z (am_z x4 (b + 5) 0) (b + 6) 0) (b + 4) 3 5) (b + 4) 4 20 := ⟨_, rfl⟩
  have c4 : s4 (b + 4) = some (.inl 3) := by rw [es4]; exact sh_e
  have c5 : s5 (b + 4) = some (.inl 3) := by rw [es5, sh_n (by omega)]; exact c4
  have c6 : s6 (b + 4) = some (.inl 3) := by rw [es6, sh_n (by omega)]; exact c5
  have d0 : s6 b = some (.inl 0) := by rw [es6, sh_n (by omega), es5, sh_n (by omega), es4, sh_n (by omega)]; exact h0
  have H : Sst b s6 r6 := ⟨c6, by rw [es6, sh_n (by omega), es5]; exact sh_e, by rw [es6]; exact sh_e, by rw [er6, am_up_nk (by decide), z_n (by omega), er5]; exact am_up_eq _ _ _ _, by rw [er6]; exact am_up_eq _ _ _ _⟩
  have v5 : ∀ j, x6 (b + 5) j = 0 := fun j => by rw [ex6, am_up_na (by omega), am_up_na (by omega), z_n (by omega)]; exact z_e
  have v4 : ∀ k, k ≠ 3 → k ≠ 4 → x6 (b + 4) k = x4 (b + 4) k := fun k h3 h4 => by rw [ex6, am_up_nk h4, am_up_nk h3, z_n (by omega), z_n (by omega)]
  have v43 : x6 (b + 4) 3 = 5 := by rw [ex6, am_up_nk (by decide), am_up_eq]
  have v44 : x6 (b + 4) 4 = 20 := by rw [ex6, am_up_eq]
  obtain ⟨y, ey, fy, ny⟩ := i_reckon (z := b + 7) H (fun j _ => v5 j) v43 v44
  refine ⟨s6, y, am_up r6 b 2 (some (b + 4)), ?_, ?_, am_up_eq _ _ _ _, ?_, ?_, ?_, ?_, ⟨fun j _ => ?_, ?_, ?_⟩, fun j hj => ?_⟩
  · have e : f_Supply_init (b + 4) (b + 5, s4, am_z hi (b + 4) 0, am_z hr (b + 4) none) = some (0, (b + 7, s6, y, r6)) := by
      simp only [f_Supply_init, f_Supply_setWayHome, fl_fp c4, Option.bind_some, am_let, nw_t]
      rw [← ex4, ← es5, fl_rp c5, ← er5]
      simp only [Option.bind_some, nw_t]
      rw [show b + 5 + 1 = b + 6 from rfl, ← es6, fl_rp c6, ← er6]
      simp only [Option.bind_some, fl_ob c6, fl_fp c6]
      rw [show b + 6 + 1 = b + 7 from rfl, ← ex6, ey]
      rfl
    simp only [rnwA, am_let, nw_t]
    rw [show b + 4 + 1 = b + 5 from rfl, ← es4, e]
    simp only [Option.bind_some, fl_rp d0]
  · intro q hq
    refine ⟨by rw [es6, sh_n (by omega), es5, sh_n (by omega), es4, sh_n (by omega)], ?_, fun k hk => ?_⟩
    · rw [fy q (by omega), ex6]
      funext j
      rw [am_up_na (by omega), am_up_na (by omega), z_n (by omega), z_n (by omega), ex4, am_up_na (by omega), am_up_na (by omega), z_n (by omega)]
    · have : am_up r6 b 2 (some (b + 4)) q k = r6 q k := by
        rcases hk with h1 | h1
        · rw [am_up_na h1]
        · rw [am_up_nk h1]
      rw [this, er6, am_up_na (by omega), z_n (by omega), er5, am_up_na (by omega), z_n (by omega), z_n (by omega)]
  · obtain ⟨g1, g2, g3, g4, g5⟩ := H
    exact ⟨g1, g2, g3, by rw [am_up_na (by omega)]; exact g4, by rw [am_up_na (by omega)]; exact g5⟩
  · rw [fy _ (by omega), v4 0 (by decide) (by decide), ex4, am_up_nk (by decide), am_up_eq]
  · rw [fy _ (by omega), v4 1 (by decide) (by decide), ex4, am_up_nk (by decide), am_up_nk (by decide)]; exact z_e
  · rw [fy _ (by omega), v4 2 (by decide) (by decide), ex4, am_up_eq]
  · rw [fy _ (by omega)]; exact v5 j
  · rw [fy _ (by omega)]; exact v43
  · rw [fy _ (by omega)]; exact v44
  · rw [ny j hj, nd_100]; rfl
end FFNEW
