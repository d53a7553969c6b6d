-- needs 56 57 58 59 60 61 62 63 64 65 66
/-! starting, in the reference -/
theorem block_in {v : Nat → Nat → Int32} {n : Nat} (hI : inv n v) (i : Nat) : anyN (blockJ v i) 0 n = ((anyN (inB v (v i 7) 0 1) 0 n || anyN (inB v (v i 7) 3 4) 0 n) || (anyN (inB v (v i 8) 0 1) 0 n || anyN (inB v (v i 8) 2 2) 0 n)) := by
  rw [← any_or, ← any_or, ← any_or]
  apply any_congr
  intro k _ hk
  simp only [blockJ, inB, fd, dn]
  obtain ⟨-, -, -, -, -, -, -, -, h⟩ := hI k (by omega)
  rcases h with h | h | h | h | h <;> rw [h] <;> cases tb (v i 7) k <;> cases tb (v i 8) k <;> decide
def cntG (v : Nat → Nat → Int32) (t : Int32) (a : Int32) (j : Nat) : Int32 := if v j 10 = t then a + 1 else a
theorem cnt_sp (v : Nat → Nat → Int32) (t : Int32) : ∀ n, ∃ c : Nat, c ≤ n ∧ foldN (cntG v t) 0 0 n = nI c ∧ (c = 0 ↔ anyN (fun j => decide (v j 10 = t)) 0 n = false) := by
  intro n
  induction n with
  | zero => exact ⟨0, Nat.le_refl 0, rfl, by simp [anyN]⟩
  | succ n ih =>
    obtain ⟨c, h1, h2, h3⟩ := ih
    rw [fold_snoc, h2, any_snoc]
    simp only [cntG, Nat.zero_add]
    by_cases h : v n 10 = t
    · rw [if_pos h, n_s]
      exact ⟨c + 1, by omega, rfl, by simp [h]⟩
    · rw [if_neg h]
      refine ⟨c, by omega, rfl, ?_⟩
      rw [h3]
      simp [h]
def stG (M : Nat) (t : Int32) (x : am_I) (j : Nat) : am_I := am_up (am_up (am_up (am_up (am_up (am_up (am_up (am_up x (M + 7) j 1) (M + 8) j t) (M + 9) j 0) (M + 11) j (x (M + 11) j + 1)) (M + 12) j (if 0 ≤ x (M + 14) j then x (M + 14) j else x (M + 5) (8 + j))) (M + 13) j (if 0 ≤ x (M + 15) j then x (M + 15) j else x (M + 5) (16 + j))) (M + 14) j (-1)) (M + 15) j (-1)
theorem stG_fr {M : Nat} {t : Int32} {hi x : am_I} {j : Nat} (hx : frM M hi x) : frM M hi (stG M t x j) := by
  unfold stG
  refine frM.up (frM.up (frM.up (frM.up (frM.up (frM.up (frM.up (frM.up hx ?_ ?_) ?_ ?_) ?_ ?_) ?_ ?_) ?_ ?_) ?_ ?_) ?_ ?_) ?_ ?_ <;> omega
theorem said_m {x : Int32} {B : Nat} (hB : B ≤ 1000) (h : x = -1 ∨ ∃ k : Nat, k ≤ B ∧ x = nI k) {α : Type} (p q : α) : (if 0 ≤ x then p else q) = if x = -1 then q else p := by
  rcases h with h | ⟨k, h1, h2⟩
  · rw [h, if_neg (by decide), if_pos rfl]
  · rw [if_pos (by rw [h2]; exact nI_pos' (by omega)), if_neg]
    rw [h2, iI_n, i_m1]
    simp (disch := omega) only [iI_inj]
    omega
theorem stG_v {M : Nat} (t : Int32) (x : am_I) (j : Nat) (h : inv1 (vM x M j)) : vM (stG M t x j) M = cw (vM x M) j (aStart t (vM x M j)) := by
  have e1 : vM x M j 1 = x (M + 5) (8 + j) := vM_lt (by omega)
  have e2 : vM x M j 2 = x (M + 5) (16 + j) := vM_lt (by omega)
  have e14 : vM x M j 14 = x (M + 11) j := vM_ge (by omega)
  have e17 : vM x M j 17 = x (M + 14) j := vM_ge (by omega)
  have e18 : vM x M j 18 = x (M + 15) j := vM_ge (by omega)
  obtain ⟨-, -, -, -, -, -, h17, h18, -⟩ := h
  unfold stG aStart
  simp only [← e1, ← e2, ← e14, ← e17, ← e18]
  rw [said_m (by omega) h17, said_m (by omega) h18]
  simp only [vM_7, vM_8, vM_9, vM_11, vM_12, vM_13, vM_14, vM_15]
  simp only [up_cw, cw_e, cw_cw]
section FMST
variable {M z n : Nat} {sh : am_S} {hi : am_I} {hr : am_R} {G : Nat → Int} {D : Int} {h : Nat} {v : Nat → Nat → Int32} {T : Nat} {e s tg : Int}
theorem m_mayStart (H : Mst M sh hr) (hA : AB T e s tg G D h n v) (hR : MR M hi T e s tg G D h n v) {i : Nat} (hin : i < n) : f_Mo_mayStart M (nI i) (z, sh, hi, hr) = some (b1 (mayB T e s G D h n v i), (z, sh, hi, hr)) := by
  obtain ⟨aT, ae, as, at', aB, an, aI⟩ := hA
  obtain ⟨r1, r2, r3, r4, r5, r6, r7⟩ := hR
  subst r7
  have hi8 : i < 8 := by omega
  have e10 : vM hi M i 10 = hi (M + 7) i := vM_ge (by omega)
  have e7 : vM hi M i 7 = hi (M + 5) (56 + i) := vM_lt (by omega)
  have e8 : vM hi M i 8 = hi (M + 5) (64 + i) := vM_lt (by omega)
  have hh : readyB (vM hi M) n i = true → f_Mo_holds M (nI i) (z, sh, hi, hr) = some (b1 (holdsB G D h T e s (vM hi M) (nI i) n), (z, sh, hi, hr)) := by
    intro hr1
    exact m_holds H an r6 (inv_env aI (fun j hj he => ready_w hr1 j (by omega) hi8 he)) (inv_dr aI) aB r5 r2 r3 r1 ae (by omega)
  unfold mayB
  simp only [f_Mo_mayStart, s_Mo_mayStart_40, s_Mo_mayStart_41, s_Mo_mayStart_82, s_Mo_mayStart_83, mg H, mp H, mo H, mr1 H, mr6 H, mr7 H, mr8 H, mr10 H, mr11 H, mr12 H, mr13 H, mr14 H, mr15 H, mr16 H, mr17 H, mr18 H, mr19 H, mr20 H, mr25 H, n56, n64, mi5 H (show 56 + i < 72 by omega), mi5 H (show 64 + i < 72 by omega), mi7 H hi8, m_hasIn H an r6, Option.bind_some, b1_0, ← e7, ← e8, ← e10, if_true, i0_1, if_false]
  have hrd : readyB (vM hi M) n i = (decide (vM hi M i 10 = 0) && !((anyN (inB (vM hi M) (vM hi M i 7) 0 1) 0 n || anyN (inB (vM hi M) (vM hi M i 7) 3 4) 0 n) || (anyN (inB (vM hi M) (vM hi M i 8) 0 1) 0 n || anyN (inB (vM hi M) (vM hi M i 8) 2 2) 0 n))) := by
    unfold readyB
    rw [block_in aI]
  rcases Bool.eq_false_or_eq_true (readyB (vM hi M) n i) with hr1 | hr1
  · have hq := hh hr1
    rw [hrd, Bool.and_eq_true, decide_eq_true_eq, Bool.not_eq_true'] at hr1
    obtain ⟨h0, h1⟩ := hr1
    simp only [Bool.or_eq_false_iff] at h1
    obtain ⟨⟨h1, h2⟩, h3, h4⟩ := h1
    rw [hrd]
    simp only [h0, h1, h2, h3, h4, if_true, hq, Option.bind_some, b1_0, Bool.or_self, Bool.not_false, decide_true, Bool.and_true, Bool.true_and]
    cases holdsB G D h T e s (vM hi M) (nI i) n <;> simp [b1]
  · rw [hr1]
    rw [hrd] at hr1
    rcases Bool.eq_false_or_eq_true (anyN (inB (vM hi M) (vM hi M i 7) 0 1) 0 n) with h1 | h1 <;> rcases Bool.eq_false_or_eq_true (anyN (inB (vM hi M) (vM hi M i 7) 3 4) 0 n) with h2 | h2 <;> rcases Bool.eq_false_or_eq_true (anyN (inB (vM hi M) (vM hi M i 8) 0 1) 0 n) with h3 | h3 <;> rcases Bool.eq_false_or_eq_true (anyN (inB (vM hi M) (vM hi M i 8) 2 2) 0 n) with h4 | h4 <;> by_cases h0 : vM hi M i 10 = 0 <;> simp [h0, h1, h2, h3, h4, b1] at hr1 ⊢
theorem MR_fr {x : am_I} (hR : MR M hi T e s tg G D h n v) (hf : frM M hi x) : MR M x T e s tg G D h n (vM x M) := by
  obtain ⟨r1, r2, r3, r4, r5, r6, r7⟩ := hR
  unfold MR SupM
  rw [hf M (by omega), hf (M + 16) (by omega)]
  exact ⟨r1, r2, r3, r4, r5, r6, rfl⟩
theorem m_start_all (H : Mst M sh hr) (hA : AB T e s tg G D h n v) (hR : MR M hi T e s tg G D h n v) : ∃ hi2, f_Mo_startAll M (z, sh, hi, hr) = some ((foldN (startG T e s G D h n) (v, 0) 0 n).2, (z, sh, am_up hi2 M 22 (if anyN (busyB (foldN (startG T e s G D h n) (v, 0) 0 n).1) 0 n = true then 1 else 0), hr)) ∧ MR M hi2 T e s tg G D h n (foldN (startG T e s G D h n) (v, 0) 0 n).1 ∧ frM M hi hi2 := by
  have an := hA.2.2.2.2.2.1
  obtain ⟨y, ⟨y1, y2, y3⟩, ey⟩ := loop_ex (bot := fun _ _ _ _ => none) (F := s_Mo_startAll_4) (fun K j (y : am_I × Int32) => K M y.2 (nI j) (z, sh, y.1, hr)) (fun (y : am_I × Int32) => some (y.2, (z, sh, am_up y.1 M 22 (if anyN (busyB (foldN (startG T e s G D h n) (v, 0) 0 n).1) 0 n = true then 1 else 0), hr))) n (fun j y => (y.2 = (foldN (startG T e s G D h n) (v, 0) 0 j).2 ∧ inv n (foldN (startG T e s G D h n) (v, 0) 0 j).1) ∧ MR M y.1 T e s tg G D h n (foldN (startG T e s G D h n) (v, 0) 0 j).1 ∧ frM M hi y.1) (by
    rintro K j ⟨y, c⟩ hj ⟨⟨i0, i1⟩, i2, i3⟩
    have hj8 : j < 8 := by omega
    simp only [] at i0 i2 i3
    rw [fold_snoc, Nat.zero_add]
    generalize foldN (startG T e s G D h n) (v, 0) 0 j = a at *
    have hA2 : AB T e s tg G D h n a.1 := ⟨hA.1, hA.2.1, hA.2.2.1, hA.2.2.2.1, hA.2.2.2.2.1, an, i1⟩
    have em := m_mayStart (z := z) H hA2 i2 hj
    have hv : vM y M = a.1 := i2.2.2.2.2.2.2
    simp only [s_Mo_startAll_4, mg H, mp H, mo H, mr1 H, mr6 H, mr7 H, mr8 H, mr10 H, mr11 H, mr12 H, mr13 H, mr14 H, mr15 H, mr16 H, mr17 H, mr18 H, mr19 H, mr20 H, mr25 H, i2.2.2.2.2.2.1, Option.bind_some, n_le (a := n) (b := j) (by omega) (by omega), if_neg (Nat.not_le.mpr hj), em, b1_0]
    unfold startG
    rcases Bool.eq_false_or_eq_true (mayB T e s G D h n a.1 j) with hm | hm
    · have ev : vM (stG M (nI T) y j) M = cw a.1 j (aStart (nI T) (a.1 j)) := by rw [← hv]; exact stG_v _ y j (by rw [hv]; exact i1 j hj)
      refine ⟨(stG M (nI T) y j, c + 1), ⟨⟨?_, ?_⟩, ?_, stG_fr i3⟩, ?_⟩
      · rw [if_pos hm, i0]
      · rw [if_pos hm]
        exact inv_cw i1 (inv_start (i1 j hj))
      · rw [if_pos hm]
        have := MR_fr i2 (stG_fr (t := nI T) (j := j) frM.rf)
        rw [ev] at this
        exact this
      · rw [if_neg (by rw [hm]; decide)]
        have a21 : ∀ y1, am_up y (M + 7) j y1 M 21 = nI T := fun y1 => by rw [am_up_na (by omega)]; exact i2.1
        have w1 : ∀ (y1 y2 y3 : Int32), am_up (am_up (am_up y (M + 7) j y1) (M + 8) j y2) (M + 9) j y3 (M + 11) j = y (M + 11) j := fun y1 y2 y3 => by rw [am_up_na (by omega), am_up_na (by omega), am_up_na (by omega)]
        have w2 : ∀ (y1 y2 y3 y4 : Int32) (q k : Nat), q = M + 14 ∨ q = M + 15 ∨ q = M + 5 → am_up (am_up (am_up (am_up y (M + 7) j y1) (M + 8) j y2) (M + 9) j y3) (M + 11) j y4 q k = y q k := fun y1 y2 y3 y4 q k hq => by rw [am_up_na (by omega), am_up_na (by omega), am_up_na (by omega), am_up_na (by omega)]
        have w3 : ∀ (y1 y2 y3 y4 y5 : Int32) (q k : Nat), q = M + 14 ∨ q = M + 15 ∨ q = M + 5 → am_up (am_up (am_up (am_up (am_up y (M + 7) j y1) (M + 8) j y2) (M + 9) j y3) (M + 11) j y4) (M + 12) j y5 q k = y q k := fun y1 y2 y3 y4 y5 q k hq => by rw [am_up_na (by omega)]; exact w2 y1 y2 y3 y4 q k hq
        simp only [s_Mo_startAll_86, s_Mo_startAll_119, mg H, mp H, mo H, mr1 H, mr6 H, mr7 H, mr8 H, mr10 H, mr11 H, mr12 H, mr13 H, mr14 H, mr15 H, mr16 H, mr17 H, mr18 H, mr19 H, mr20 H, mr25 H, Option.bind_some, mw7 H hj8, mw8 H hj8, mw9 H hj8, mw11 H hj8, mw12 H hj8, mw13 H hj8, mw14 H hj8, mw15 H hj8, mi11 H hj8, mi14 H hj8, mi15 H hj8, n8, n16, mi5 H (show 8 + j < 72 by omega), mi5 H (show 16 + j < 72 by omega), a21, w1, w2 _ _ _ _ (M + 14) j (by omega), w2 _ _ _ _ (M + 5) _ (by omega), w3 _ _ _ _ _ (M + 15) j (by omega), w3 _ _ _ _ _ (M + 5) _ (by omega), n_s, stG]
        by_cases s1 : 0 ≤ y (M + 14) j <;> by_cases s2 : 0 ≤ y (M + 15) j <;> simp only [s1, s2, if_true, if_false]
    · refine ⟨(y, c), ⟨⟨?_, ?_⟩, ?_, ?_⟩, ?_⟩
      · rw [if_neg (by rw [hm]; decide)]; exact i0
      · rw [if_neg (by rw [hm]; decide)]; exact i1
      · rw [if_neg (by rw [hm]; decide)]; exact i2
      · exact i3
      · simp only [hm, if_true, n_s]) (by
    rintro K ⟨y, c⟩ ⟨⟨i0, i1⟩, i2, i3⟩
    simp only [] at i0 i2
    have hv : vM y M = (foldN (startG T e s G D h n) (v, 0) 0 n).1 := i2.2.2.2.2.2.2
    have hw : ∀ t, f_Mo_howMany M t (z, sh, y, hr) = some (foldN (cntG (vM y M) t) 0 0 n, (z, sh, y, hr)) := fun t => m_howMany H an i2.2.2.2.2.2.1
    obtain ⟨c0, q1, q2, q3⟩ := cnt_sp (vM y M) 0 n
    obtain ⟨c1, p1, p2, p3⟩ := cnt_sp (vM y M) 1 n
    simp only [s_Mo_startAll_4, mg H, mp H, mo H, mr1 H, mr6 H, mr7 H, mr8 H, mr10 H, mr11 H, mr12 H, mr13 H, mr14 H, mr15 H, mr16 H, mr17 H, mr18 H, mr19 H, mr20 H, mr25 H, i2.2.2.2.2.2.1, Option.bind_some, n_le (a := n) (b := n) (by omega) (by omega), Nat.le_refl, if_true, hw, q2, p2, n_add]
    rw [← hv]
    have hb : anyN (busyB (vM y M)) 0 n = (anyN (fun j => decide (vM y M j 10 = 1)) 0 n || anyN (fun j => decide (vM y M j 10 = 0)) 0 n) := by
      rw [← any_or]
      rfl
    rw [hb]
    have hz : nI (c0 + c1) = 0 ↔ c0 + c1 = 0 := n_inj (a := c0 + c1) (b := 0) (by omega) (by omega)
    by_cases h0 : c0 + c1 = 0
    · rw [if_pos (hz.mpr h0)]
      have g0 := q3.mp (by omega)
      have g1 := p3.mp (by omega)
      rw [g0, g1]
      rfl
    · rw [if_neg (fun hh => h0 (hz.mp hh))]
      have : (anyN (fun j => decide (vM y M j 10 = 1)) 0 n || anyN (fun j => decide (vM y M j 10 = 0)) 0 n) = true := by
        rcases Bool.eq_false_or_eq_true (anyN (fun j => decide (vM y M j 10 = 1)) 0 n || anyN (fun j => decide (vM y M j 10 = 0)) 0 n) with g | g
        · exact g
        · rw [Bool.or_eq_false_iff] at g
          have g0 := q3.mpr g.2
          have g1 := p3.mpr g.1
          omega
      rw [this]
      rfl) n 0 (hi, 0) 70 (by omega) (by omega) ⟨⟨rfl, hA.2.2.2.2.2.2⟩, hR, frM.rf⟩
  refine ⟨y.1, ?_, y2, y3⟩
  simp only [f_Mo_startAll, f_Mo_startAll_4]
  rw [← y1.1]
  exact ey
end FMST
