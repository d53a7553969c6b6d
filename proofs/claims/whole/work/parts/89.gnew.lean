-- needs 88 89a 89b 89c 89d 89e 89f
/-! the start: class, reference, the place for answers -/
section FGNEW
variable {b M z kk : Nat} {sh sh1 : am_S} {hi hi1 : am_I} {hr hr1 : am_R}
theorem i_Z (h0 : sh b = some (.inl 0)) : ∃ sh1 hi1 hr1, f_Rm_init b (b + 1, sh, hi, hr) = rnwA b (b + 4, sh1, hi1, hr1) ∧ sh1 b = some (.inl 0) ∧ sh1 (b + 1) = some (.inl 1) ∧ sh1 (b + 2) = some (.inr (.char, 64)) ∧ sh1 (b + 3) = some (.inl 2) ∧ hr1 b 0 = some (b + 1) ∧ hr1 b 1 = some (b + 3) ∧ hr1 (b + 1) 0 = some (b + 2) ∧ hr1 (b + 3) 0 = some (b + 1) ∧ hi1 b = hi b ∧ hi1 (b + 1) 1 = 0 := by
  obtain ⟨s1, es1⟩ : ∃ s : am_S, s = am_sh sh (b + 1) (.inl 1) := ⟨_, rfl⟩
  obtain ⟨s2, es2⟩ : ∃ s : am_S, s = am_sh s1 (b + 2) (.inr (.char, 64)) := ⟨_, rfl⟩
  obtain ⟨s3, es3⟩ : ∃ s : am_S, s = am_sh s2 (b + 3) (.inl 2) := ⟨_, rfl⟩
  obtain ⟨r2, er2⟩ : ∃ r : am_R, r = am_up (am_up (am_z (am_z hr (b + 1) none) (b + 2) none) (b + 1) 0 (some (b + 2))) b 0 (some (b + 1)) := ⟨_, rfl⟩
  have c11 : s2 (b + 1) = some (.inl 1) := by rw [es2, sh_n (by omega), es1]; exact sh_e
  have c20 : s2 b = some (.inl 0) := by rw [es2, sh_n (by omega), es1, sh_n (by omega)]; exact h0
  have c30 : s3 b = some (.inl 0) := by rw [es3, sh_n (by omega)]; exact c20
  have c33 : s3 (b + 3) = some (.inl 2) := by rw [es3]; exact sh_e
  have g0 : r2 b 0 = some (b + 1) := by rw [er2]; exact am_up_eq _ _ _ _
  have g30 : am_z r2 (b + 3) none b 0 = some (b + 1) := by rw [z_n (by omega)]; exact g0
  refine ⟨s3, am_z (am_z (am_z hi (b + 1) 0) (b + 2) 0) (b + 3) 0, am_up (am_up (am_z r2 (b + 3) none) (b + 3) 0 (some (b + 1))) b 1 (some (b + 3)), ?_, c30, by rw [es3, sh_n (by omega)]; exact c11, by rw [es3, sh_n (by omega), es2]; exact sh_e, c33, ?_, ?_, ?_, ?_, ?_, ?_⟩
  · rw [rm_eq]
    simp only [am_let, nw_t, f_Line_init]
    rw [show b + 1 + 1 = b + 2 from rfl, ← es1, ← es2, fl_rp c11]
    simp only [Option.bind_some, fl_rp c20, nw_t]
    rw [← er2, show b + 2 + 1 = b + 3 from rfl, ← es3, fl_rg c30 g30]
    simp only [Option.bind_some, f_PlanReader_init, fl_rp c33, fl_rp c30]
  · rw [am_up_nk (by decide), am_up_na (by omega)]; exact g30
  · exact am_up_eq _ _ _ _
  · rw [am_up_na (by omega), am_up_na (by omega), z_n (by omega), er2, am_up_na (by omega)]; exact am_up_eq _ _ _ _
  · rw [am_up_na (by omega)]; exact am_up_eq _ _ _ _
  · rw [z_n (by omega), z_n (by omega), z_n (by omega)]
  · rw [z_n (by omega), z_n (by omega)]; exact z_e
theorem i_rm (h0 : sh b = some (.inl 0)) (h6 : hi b 6 = 0) : ∃ sh1 hi1 hr1, f_Rm_init b (b + 1, sh, hi, hr) = some (0, (b + 29, sh1, hi1, hr1)) ∧ Cst b (b + 9) (b + 19) sh1 hr1 ∧ hi1 b = hi b ∧ hi1 (b + 1) 1 = 0 ∧ hi1 (b + 4) 0 = 1000 ∧ hi1 (b + 4) 1 = 0 ∧ hi1 (b + 4) 2 = -1 ∧ SupC b hi1 (fun _ => 0) 20 5 ∧ SupN b hi1 (fun _ => 0) 20 5 ∧ hi1 (b + 9) 1 = 0 := by
  obtain ⟨s0, x0, r0, e0, a1, a2, a3, a4, a5, a6, a7, a8, a9, a10⟩ := i_Z (hi := hi) (hr := hr) h0
  obtain ⟨sA, xA, rA, eA, fA, b1, b2, b3, b4, b5, b6, b7⟩ := i_A (hi := x0) (hr := r0) a1
  have cA0 : sA b = some (.inl 0) := by rw [(fA b (by omega)).1]; exact a1
  obtain ⟨sB, xB, rB, eB, fB, c1, c2, c3, c4⟩ := i_B (z := b + 7) (hi := xA) (hr := rA) cA0 (by omega)
  have cB0 : sB b = some (.inl 0) := by rw [(fB b (by omega)).1]; exact cA0
  obtain ⟨sC, xC, rC, eC, fC, d1, d2, d3⟩ := i_C (z := b + 9) (hi := xB) (hr := rB) cB0 rfl
  have cC0 : sC b = some (.inl 0) := by rw [(fC b (by omega)).1]; exact cB0
  have cC6 : xC b 6 = 0 := by rw [(fC b (by omega)).2.1, (fB b (by omega)).2.1, (fA b (by omega)).2.1, a9]; exact h6
  obtain ⟨sD, xD, rD, eD, fD, g1, g2⟩ := i_D (z := b + 19) (hi := xC) (hr := rC) cC0 cC6 rfl
  have tA : ∀ q, q < b + 4 → sD q = s0 q ∧ xD q = x0 q := fun q hq => ⟨by rw [(fD q (by omega)).1, (fC q (by omega)).1, (fB q (by omega)).1, (fA q (by omega)).1], by rw [(fD q (by omega)).2.1, (fC q (by omega)).2.1, (fB q (by omega)).2.1, (fA q (by omega)).2.1]⟩
  have tB : ∀ q, q < b + 7 → sD q = sA q ∧ xD q = xA q := fun q hq => ⟨by rw [(fD q (by omega)).1, (fC q (by omega)).1, (fB q (by omega)).1], by rw [(fD q (by omega)).2.1, (fC q (by omega)).2.1, (fB q (by omega)).2.1]⟩
  have tC : ∀ q, q < b + 9 → sD q = sB q ∧ xD q = xB q := fun q hq => ⟨by rw [(fD q (by omega)).1, (fC q (by omega)).1], by rw [(fD q (by omega)).2.1, (fC q (by omega)).2.1]⟩
  have rAD : ∀ q k, q < b + 4 → (q ≠ b ∨ k < 2) → rD q k = r0 q k := fun q k hq hk => by rw [(fD q (by omega)).2.2 k (by omega), (fC q (by omega)).2.2 k (by omega), (fB q (by omega)).2.2 k (by omega), (fA q (by omega)).2.2 k (by omega)]
  have rBD : ∀ q k, q < b + 7 → (q ≠ b ∨ k < 3) → rD q k = rA q k := fun q k hq hk => by rw [(fD q (by omega)).2.2 k (by omega), (fC q (by omega)).2.2 k (by omega), (fB q (by omega)).2.2 k (by omega)]
  have rCD : ∀ q k, q < b + 9 → (q ≠ b ∨ k < 4) → rD q k = rB q k := fun q k hq hk => by rw [(fD q (by omega)).2.2 k (by omega), (fC q (by omega)).2.2 k (by omega)]
  obtain ⟨u1, u2, u3, u4, u5⟩ := b2
  refine ⟨sD, xD, rD, ?_, ⟨⟨?_, ?_, ?_, ?_, ?_, ?_, ?_, ?_, ?_⟩, ⟨?_, ?_, ?_, ?_, ?_, ?_, ?_, ?_, ?_, ?_, ?_⟩, ?_, g2, Or.inl ⟨rfl, rfl⟩⟩, ?_, ?_, ?_, ?_, ?_, ?_, ?_, ?_⟩
  · rw [e0, eA, eB, eC, eD]
  · rw [(tA _ (by omega)).1]; exact a1
  · rw [(tA _ (by omega)).1]; exact a2
  · rw [(tA _ (by omega)).1]; exact a3
  · rw [(tA _ (by omega)).1]; exact a4
  · rw [(tB _ (by omega)).1]; exact u1
  · rw [(tB _ (by omega)).1]; exact u2
  · rw [(tB _ (by omega)).1]; exact u3
  · rw [(tC _ (by omega)).1]; exact c2
  · rw [(tC _ (by omega)).1]; exact c3
  · rw [rAD _ _ (by omega) (by omega)]; exact a5
  · rw [rAD _ _ (by omega) (by omega)]; exact a6
  · rw [rBD _ _ (by omega) (by omega)]; exact b1
  · rw [rCD _ _ (by omega) (by omega)]; exact c1
  · rw [rAD _ _ (by omega) (by omega)]; exact a7
  · rw [rAD _ _ (by omega) (by omega)]; exact a8
  · rw [rBD _ _ (by omega) (by omega)]; exact u4
  · rw [rBD _ _ (by omega) (by omega)]; exact u5
  · rw [rCD _ _ (by omega) (by omega)]; exact c4
  · rw [(fD b (by omega)).2.2 4 (by omega)]; exact d1
  · exact g1
  · obtain ⟨p1, p2, p3, p4⟩ := d2
    exact ⟨by rw [(fD _ (by omega)).1]; exact p1, by rw [(fD _ (by omega)).1]; exact p2, by rw [(fD _ (by omega)).2.2 _ (by omega)]; exact p3, fun i hi => ⟨by rw [(fD _ (by omega)).2.2 _ (by omega)]; exact (p4 i hi).1, by rw [(fD _ (by omega)).1]; exact (p4 i hi).2⟩⟩
  · rw [(tA _ (by omega)).2]; exact a9
  · rw [(tA _ (by omega)).2]; exact a10
  · rw [(tB _ (by omega)).2]; exact b3
  · rw [(tB _ (by omega)).2]; exact b4
  · rw [(tB _ (by omega)).2]; exact b5
  · unfold SupC at b6 ⊢
    rw [(tB (b + 5) (by omega)).2, (tB (b + 4) (by omega)).2]; exact b6
  · unfold SupN at b7 ⊢
    rw [(tB (b + 6) (by omega)).2]; exact b7
  · rw [(fD _ (by omega)).2.1]; exact d3
end FGNEW
