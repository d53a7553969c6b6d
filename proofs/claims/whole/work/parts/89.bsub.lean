-- needs 88 89a
/-! submit: both sides -/
theorem lin_le {ch : Nat → Nat} {len : Nat} : ∀ f i p cs, p ≤ len → (linP ch len f i p cs).1 ≤ len := by
  intro f
  induction f with
  | zero => intro i p cs hp; exact hp
  | succ f ih =>
    intro i p cs hp
    have hl := act_le (ch := ch) (i := i) hp
    simp only [linP]
    rcases e : actP ch len p i with ⟨p2, _ | c⟩
    · rw [e] at hl; exact hl.2
    · rw [e] at hl
      simp only [] at hl ⊢
      by_cases h1 : p2 = len
      · rw [if_pos h1]; exact hl.2
      · rw [if_neg h1]
        by_cases h2 : f = 0
        · rw [if_pos h2]; exact hl.2
        · rw [if_neg h2]
          by_cases h3 : lkP ch len p2 = 59
          · rw [if_pos h3]
            have hl2 := lk_lt (ch := ch) (len := len) (p := p2) (by omega)
            exact ih (i + 1) (p2 + 1) _ (by omega)
          · rw [if_neg h3]; exact hl.2
def rdP (ch : Nat → Nat) (len : Nat) : Nat × Option (Nat × (Nat → Nat → Int32)) := linP ch len 8 0 0 (fun _ _ => 0)
def subP (ch : Nat → Nat) (len : Nat) : Int32 := match (rdP ch len).2 with
  | none => nI ((rdP ch len).1 + 1)
  | some (n, cs) => unfP cs n
section FBSUB
variable {b P Q M z len : Nat} {sh : am_S} {hi : am_I} {hr : am_R} {ch : Nat → Nat}
theorem e_submit (H : Cst b P Q sh hr) (h0 : hi b 6 = 0) (hc : chB ch len) (ht : TC b hi ch len) : ∃ y hr1, f_Rm_submit b (z, sh, hi, hr) = some (subP ch len, 0, (z, sh, y, hr1)) ∧ y (b + 1) 1 = 0 ∧ (∀ q, q ≠ b + 1 → q ≠ b + 3 → (q < Q ∨ Q + 10 ≤ q) → y q = hi q) ∧ (subP ch len ≠ 0 → hr1 = hr) ∧ (subP ch len = 0 → hr1 = am_up (am_up hr b 4 (some Q)) b 5 (some P) ∧ ∃ n cs, (rdP ch len).2 = some (n, cs) ∧ n ≤ 8 ∧ y Q 1 = nI n ∧ ∀ i, i < n → nw (y (Q + 2 + i)) (cs i) (LF cs n i)) := by
  have q2 := kQ2 H
  obtain ⟨y, ey, fy, sy⟩ := e_read (z := z) H hc ht
  have hl := lin_le (ch := ch) (len := len) 8 0 0 (fun _ _ => 0) (by omega)
  have hok := lin_ok (ch := ch) (len := len) 8 0 0 (fun _ _ => 0) (by omega) (fun j hj => by omega)
  have pre : f_Rm_submit b (z, sh, hi, hr) = (if ansP (rdP ch len) = 0 then ((f_Plan_findUnfit Q (z, sh, am_up y (b + 1) 1 0, hr)).bind fun q14 => s_Rm_submit_46 b q14.1 q14.2) else s_Rm_submit_46 b (ansP (rdP ch len)) (z, sh, am_up y (b + 1) 1 0, hr)) := by
    simp only [f_Rm_submit, f_Line_clear, kg0 H, kp0 H, ko0 H, kg1 H, kp1 H, ko1 H, kg2 H, kp2 H, ko2 H, kg3 H, kp3 H, ko3 H, kg4 H, kp4 H, ko4 H, kr0_0 H, kr0_1 H, kr0_2 H, kr0_3 H, kr1_0 H, kr3_0 H, kr4_5 H, kr4_6 H, kr7_0 H, kr0_4 H, kr0_5 H, kal H, Option.bind_some, h0, if_true, ey, po (k_Q H)]
    rfl
  have f1 : ∀ q, q ≠ b + 1 → q ≠ b + 3 → (q < Q ∨ Q + 10 ≤ q) → am_up y (b + 1) 1 0 q = hi q := fun q h1 h3 hq => by
    rw [← fy.2 q h3 (by omega) (by omega)]
    funext j
    rw [am_up_na h1]
  rcases e : (rdP ch len).2 with _ | ⟨n, cs⟩
  · have eS : subP ch len = nI ((rdP ch len).1 + 1) := by unfold subP; rw [e]
    have eA : ansP (rdP ch len) = nI ((rdP ch len).1 + 1) := by unfold ansP; rw [e]
    have hl' : (rdP ch len).1 ≤ len := hl
    have hlen := hc.1
    have hne : ¬ nI ((rdP ch len).1 + 1) = 0 := nI_ne0 (by omega) (by omega)
    refine ⟨am_up y (b + 1) 1 0, hr, ?_, am_up_eq _ _ _ _, f1, fun _ => rfl, fun hh => absurd (eS ▸ hh) hne⟩
    rw [pre, eA, eS, if_neg hne]
    simp only [s_Rm_submit_46]
    rw [if_neg hne]
  · have eS : subP ch len = unfP cs n := by unfold subP; rw [e]
    have eA : ansP (rdP ch len) = 0 := by unfold ansP; rw [e]
    obtain ⟨n8, s1, s2⟩ := sy n cs e
    have ocs := hok n cs e
    have hx : ∀ q, q ≠ b + 1 → am_up y (b + 1) 1 0 q = y q := fun q h1 => by funext j; rw [am_up_na h1]
    obtain ⟨u, eu, fu, cu9⟩ := e_unfit (z := z) (hr := hr) (sh := sh) (x := am_up y (b + 1) 1 0) (k_Q H) n8 ⟨by rw [hx _ (by omega)]; exact s1, fun j hj k hk => by rw [hx _ (by omega)]; exact (s2 j hj).1 k hk⟩ ocs (fun j hj => by rw [hx _ (by omega)]; exact (s2 j hj).2.1)
    have f2 : ∀ q, q ≠ b + 1 → q ≠ b + 3 → (q < Q ∨ Q + 10 ≤ q) → u q = hi q := fun q h1 h3 hq => by rw [fu.1 q (by omega)]; exact f1 q h1 h3 hq
    have u1 : u (b + 1) 1 = 0 := by rw [fu.1 _ (by omega)]; exact am_up_eq _ _ _ _
    by_cases hz : unfP cs n = 0
    · have H2 := Cst_sw H
      have uQ : u Q 1 = nI n := by rw [fu.1 Q (by omega), hx _ (by omega)]; exact s1
      have em := e_makeReady (z := z) (hi := u) (k_P H2) n8 uQ
      refine ⟨mapC aReady u Q n, _, ?_, ?_, ?_, fun hh => absurd (eS.trans hz) hh, fun _ => ⟨rfl, n, cs, rfl, n8, ?_, ?_⟩⟩
      · rw [pre, eA, if_pos rfl, eu]
        simp only [Option.bind_some, s_Rm_submit_46, hz, if_true, kg0 H, kp0 H, ko0 H, kg1 H, kp1 H, ko1 H, kg2 H, kp2 H, ko2 H, kg3 H, kp3 H, ko3 H, kg4 H, kp4 H, ko4 H, kr0_0 H, kr0_1 H, kr0_2 H, kr0_3 H, kr1_0 H, kr3_0 H, kr4_5 H, kr4_6 H, kr7_0 H, kr0_4 H, kr0_5 H, kal H, fl_rp (k_s0 H), fl_rp (sh := sh) (ci := 0) (a := b) (k_s0 H), kr0_4 H2, po (k_P H2), em, eS]
      · unfold mapC; rw [if_neg (by omega)]; exact u1
      · intro q h1 h3 hq
        unfold mapC; rw [if_neg (by omega)]; exact f2 q h1 h3 hq
      · unfold mapC; rw [if_neg (by omega)]; exact uQ
      · intro i hi'
        have c9' := cu9 hz i hi'
        unfold mapC
        rw [if_pos (by omega)]
        have hk : ∀ k, k ≠ 9 → u (Q + 2 + i) k = y (Q + 2 + i) k := fun k hk => by rw [fu.2 i k (by omega) hk, hx _ (by omega)]
        exact nw_ready (fun k h9 => by rw [hk k (by omega)]; exact (s2 i hi').1 k h9) c9' (by rw [hk 17 (by omega)]; exact (s2 i hi').2.2.1) (by rw [hk 18 (by omega)]; exact (s2 i hi').2.2.2)
    · refine ⟨u, hr, ?_, u1, f2, fun _ => rfl, fun hh => absurd (eS ▸ hh) hz⟩
      rw [pre, eA, if_pos rfl, eu, eS]
      simp only [Option.bind_some, s_Rm_submit_46]
      rw [if_neg hz]
theorem m_submit (H : Mst M sh hr) (h0 : hi M 22 = 0) (hc : chB ch len) (ht : TM M hi ch len) : ∃ y, f_Mo_submit M (z, sh, hi, hr) = some (subP ch len, (z, sh, y, hr)) ∧ y M 0 = 0 ∧ y M 2 = 0 ∧ (∀ k, 21 ≤ k → y M k = hi M k) ∧ (∀ q, q ≠ M → (q < M + 2 ∨ M + 15 < q) → y q = hi q) ∧ (subP ch len ≠ 0 → y M 9 = hi M 9 ∧ ∀ q, M + 5 ≤ q → q ≤ M + 16 → y q = hi q) ∧ (subP ch len = 0 → ∃ n cs, (rdP ch len).2 = some (n, cs) ∧ n ≤ 8 ∧ y M 9 = nI n ∧ ∀ i, i < n → nw (vM y M i) (cs i) (LF cs n i)) := by
  have hl : (rdP ch len).1 ≤ len := lin_le (ch := ch) (len := len) 8 0 0 (fun _ _ => 0) (by omega)
  have hok := lin_ok (ch := ch) (len := len) 8 0 0 (fun _ _ => 0) (by omega) (fun j hj => by omega)
  have hlen := hc.1
  have ht0 : TM M (am_up hi M 0 0) ch len := ⟨by rw [am_up_nk (by decide)]; exact ht.1, fun j hj => by rw [am_up_na (by omega)]; exact ht.2 j hj⟩
  obtain ⟨y, ey, p3, fy, sy⟩ := m_readLine (z := z) H hc ht0
  have y0 : y M 0 = 0 := by rw [fy.1 0 (by decide) (by decide) (by decide)]; exact am_up_eq _ _ _ _
  have yk : ∀ k, k = 9 ∨ 21 ≤ k → y M k = hi M k := fun k hk => by rw [fy.1 k (by omega) (by omega) (by omega), am_up_nk (by omega)]
  have yq : ∀ q, q ≠ M → q ≠ M + 2 → y q = hi q := fun q h1 h2 => by rw [fy.2 q h1 h2]; funext j; rw [am_up_na h1]
  have p3' : y M 3 = nI (rdP ch len).1 := p3
  have pre : f_Mo_submit M (z, sh, hi, hr) = (if b1 (rdP ch len).2.isSome = 0 then s_Mo_submit_49 M (nI (rdP ch len).1 + 1) (z, sh, am_up y M 2 0, hr) else ((f_Mo_unfit M (z, sh, am_up y M 2 0, hr)).bind fun q21 => s_Mo_submit_49 M q21.1 q21.2)) := by
    have e3 : am_up y M 2 0 M 3 = nI (rdP ch len).1 := by rw [am_up_nk (by decide)]; exact p3'
    simp only [f_Mo_submit, s_Mo_submit_13, mg H, mp H, mo H, mr1 H, mr6 H, mr7 H, mr8 H, mr10 H, mr11 H, mr12 H, mr13 H, mr14 H, mr15 H, mr16 H, mr17 H, mr18 H, mr19 H, mr20 H, mr25 H, Option.bind_some, h0, if_true, rf0 H, ey, e3]
    rfl
  rcases e : (rdP ch len).2 with _ | ⟨n, cs⟩
  · have eS : subP ch len = nI ((rdP ch len).1 + 1) := by unfold subP; rw [e]
    have hne : ¬ nI ((rdP ch len).1 + 1) = 0 := nI_ne0 (by omega) (by omega)
    refine ⟨am_up y M 2 0, ?_, by rw [am_up_nk (by decide)]; exact y0, am_up_eq _ _ _ _, fun k hk => by rw [am_up_nk (by omega)]; exact yk k (Or.inr hk), fun q h1 h2 => ?_, fun _ => ⟨by rw [am_up_nk (by decide)]; exact yk 9 (Or.inl rfl), fun q h1 h2 => ?_⟩, fun hh => absurd (eS ▸ hh) hne⟩
    · rw [pre, e, eS, if_pos ((b1_0 (Option.isSome (none : Option (Nat × (Nat → Nat → Int32))))).mpr rfl), n_s]
      simp only [s_Mo_submit_49]
      rw [if_neg hne]
    · rw [← yq q h1 (by omega)]; funext j; rw [am_up_na h1]
    · rw [← yq q (by omega) (by omega)]; funext j; rw [am_up_na (by omega)]
  · have eS : subP ch len = unfP cs n := by unfold subP; rw [e]
    obtain ⟨n8, s1, s2⟩ := sy n cs e
    have ocs := hok n cs e
    have hx : ∀ q, q ≠ M → am_up y M 2 0 q = y q := fun q h1 => by funext j; rw [am_up_na h1]
    have hD : DM M n cs (am_up y M 2 0) := ⟨by rw [am_up_nk (by decide)]; exact s1, fun j hj k hk => by rw [hx _ (by omega)]; exact s2 j hj k hk⟩
    obtain ⟨u, eu, fu, cu4⟩ := m_unfit (z := z) H n8 hD ocs
    have uM : u M = am_up y M 2 0 M := fu M (by omega) (by omega)
    have uq : ∀ q, q ≠ M → q ≠ M + 2 → q ≠ M + 3 → q ≠ M + 4 → u q = hi q := fun q h1 h2 h3 h4 => by rw [fu q h3 h4, hx q h1]; exact yq q h1 h2
    have u0 : u M 0 = 0 := by rw [uM, am_up_nk (by decide)]; exact y0
    have u2 : u M 2 = 0 := by rw [uM]; exact am_up_eq _ _ _ _
    have uk : ∀ k, k = 9 ∨ 21 ≤ k → u M k = hi M k := fun k hk => by rw [uM, am_up_nk (by omega)]; exact yk k hk
    have pre2 : f_Mo_submit M (z, sh, hi, hr) = s_Mo_submit_49 M (unfP cs n) (z, sh, u, hr) := by
      rw [pre, e, if_neg (fun hh => absurd ((b1_0 (Option.isSome (some (n, cs)))).mp hh) (by simp)), eu]
      rfl
    by_cases hz : unfP cs n = 0
    · have hDu : DM M n cs u := ⟨by rw [uM]; exact hD.1, fun j hj k hk => by rw [fu _ (by omega) (by omega)]; exact hD.2 j hj k hk⟩
      obtain ⟨w, ew, wk, w9, wq, wn⟩ := m_takes (z := z) H n8 hDu (cu4 hz)
      refine ⟨w, ?_, by rw [wk 0 (by decide)]; exact u0, by rw [wk 2 (by decide)]; exact u2, fun k hk => by rw [wk k (by omega)]; exact uk k (Or.inr hk), fun q h1 h2 => by rw [wq q h1 (by omega)]; exact uq q h1 (by omega) (by omega) (by omega), fun hh => absurd (eS.trans hz) hh, fun _ => ⟨n, cs, rfl, n8, w9, wn⟩⟩
      rw [pre2, hz, ew, eS, hz]
    · refine ⟨u, ?_, u0, u2, fun k hk => uk k (Or.inr hk), fun q h1 h2 => uq q h1 (by omega) (by omega) (by omega), fun _ => ⟨uk 9 (Or.inl rfl), fun q h1 h2 => uq q (by omega) (by omega) (by omega) (by omega)⟩, fun hh => absurd (eS ▸ hh) hz⟩
      rw [pre2, eS]
      simp only [s_Mo_submit_49]
      rw [if_neg hz]
end FBSUB
