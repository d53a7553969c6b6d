-- needs 56 57 58 59 60 61 62 63 64 65 66 67 68 69 70 71 72 73 74 75 76 77 78 79 80 81 82
/-! an activity and a line, in the reference -/
section FRDS
variable {M z i : Nat} {sh : am_S} {hi x y base : am_I} {hr : am_R} {ch : Nat → Nat} {len p : Nat} {c : Nat → Int32} {S : Nat → Bool}
theorem m_options (H : Mst M sh hr) (hc : chB ch len) (ht : TM M base ch len) (hi8 : i < 8) : ∀ f p c S (x : am_I) m, len - p ≤ f → f + 1 < m → p ≤ len → RM M i base p c S x → ∃ y, am_it (fun _ _ _ => none) s_Mo_readActivity_111 m M (1 : Int32) (z, sh, x, hr) = some (b1 (opsP ch len f p c S).2.isSome, (z, sh, y, hr)) ∧ y M 3 = nI (opsP ch len f p c S).1 ∧ frR M base y ∧ ∀ c', (opsP ch len f p c S).2 = some c' → y M 4 = nI (i + 1) ∧ (∀ k, k < 9 → y (M + 2) (8 * k + i) = c' k) ∧ colO M i base y := by
  have en : ∀ (x : am_I) (o : Int32) m, o ≠ 1 → 0 < m → x M 4 = nI i → am_it (fun _ _ _ => none) s_Mo_readActivity_111 m M o (z, sh, x, hr) = some (if o = 0 then 1 else 0, (z, sh, am_up x M 4 (nI (i + 1)), hr)) := by
    intro x o m ho hm h4
    obtain ⟨m, rfl⟩ : ∃ k, m = k + 1 := ⟨m - 1, by omega⟩
    rw [it_s]
    simp only [s_Mo_readActivity_111, if_neg ho, mg H, mp H, mo H, mr1 H, mr6 H, mr7 H, mr8 H, mr10 H, mr11 H, mr12 H, mr13 H, mr14 H, mr15 H, mr16 H, mr17 H, mr18 H, mr19 H, mr20 H, mr25 H, Option.bind_some, h4, n_s]
    by_cases h0 : o = 0
    · rw [if_pos h0, if_pos h0]
    · rw [if_neg h0, if_neg h0]
  have en2 : ∀ (x : am_I) (v : Int32), x M 4 = v → am_it (fun _ _ _ => none) s_Mo_readActivity_111 1 M (-1) (z, sh, x, hr) = some (0, (z, sh, am_up x M 4 (v + 1), hr)) := by
    intro x v hv
    rw [it_s]
    simp only [s_Mo_readActivity_111, if_neg (show ¬ (-1 : Int32) = 1 by decide), mg H, mp H, mo H, mr1 H, mr6 H, mr7 H, mr8 H, mr10 H, mr11 H, mr12 H, mr13 H, mr14 H, mr15 H, mr16 H, mr17 H, mr18 H, mr19 H, mr20 H, mr25 H, Option.bind_some, hv, if_neg (show ¬ (-1 : Int32) = 0 by decide)]
  have en3 : ∀ (x : am_I) m, 0 < m → am_it (fun _ _ _ => none) s_Mo_readActivity_111 m M (-1) (z, sh, x, hr) = some (0, (z, sh, am_up x M 4 (x M 4 + 1), hr)) := by
    intro x m hm
    obtain ⟨m, rfl⟩ : ∃ k, m = k + 1 := ⟨m - 1, by omega⟩
    rw [it_s]
    simp only [s_Mo_readActivity_111, if_neg (show ¬ (-1 : Int32) = 1 by decide), mg H, mp H, mo H, mr1 H, mr6 H, mr7 H, mr8 H, mr10 H, mr11 H, mr12 H, mr13 H, mr14 H, mr15 H, mr16 H, mr17 H, mr18 H, mr19 H, mr20 H, mr25 H, Option.bind_some, if_neg (show ¬ (-1 : Int32) = 0 by decide)]
  intro f
  induction f with
  | zero =>
    intro p c S x m hf hm hp hx
    obtain ⟨m, rfl⟩ : ∃ k, m = k + 1 := ⟨m - 1, by omega⟩
    have ho : optP ch len p c S = (p, some (false, c, S)) := by
      unfold optP lkP
      rw [if_neg (show ¬ p < len by omega)]
      rfl
    obtain ⟨y, ey, y3, yf, yr⟩ := m_option (z := z) H hc ht hi8 hp hx
    rw [ho] at ey y3 yr
    obtain ⟨r3, r4, r5, r6, r7, r8⟩ := yr false c S rfl
    refine ⟨am_up y M 4 (nI (i + 1)), ?_, ?_, frR_k yf (by omega), fun c' hc' => ?_⟩
    · rw [it_s]
      simp only [s_Mo_readActivity_111, if_true, mg H, mp H, mo H, mr1 H, mr6 H, mr7 H, mr8 H, mr10 H, mr11 H, mr12 H, mr13 H, mr14 H, mr15 H, mr16 H, mr17 H, mr18 H, mr19 H, mr20 H, mr25 H, ey, Option.bind_some, optA]
      exact en y 0 m (by decide) (by omega) r4
    · rw [am_up_nk (by decide)]; exact y3
    · simp only [opsP, Option.some.injEq] at hc'
      rw [← hc']
      exact ⟨am_up_eq _ _ _ _, fun k hk => by rw [am_up_na (by omega)]; exact r6 k hk, colO_k r8⟩
  | succ f ih =>
    intro p c S x m hf hm hp hx
    obtain ⟨m, rfl⟩ : ∃ k, m = k + 1 := ⟨m - 1, by omega⟩
    have os := opt_sp (ch := ch) (c := c) (S := S) hp
    obtain ⟨y, ey, y3, yf, yr⟩ := m_option (z := z) H hc ht hi8 hp hx
    have red : am_it (fun _ _ _ => none) s_Mo_readActivity_111 (m + 1) M (1 : Int32) (z, sh, x, hr) = am_it (fun _ _ _ => none) s_Mo_readActivity_111 m M (optA (optP ch len p c S)) (z, sh, y, hr) := by
      rw [it_s]
      simp only [s_Mo_readActivity_111, if_true, mg H, mp H, mo H, mr1 H, mr6 H, mr7 H, mr8 H, mr10 H, mr11 H, mr12 H, mr13 H, mr14 H, mr15 H, mr16 H, mr17 H, mr18 H, mr19 H, mr20 H, mr25 H, ey, Option.bind_some]
    rw [red]
    rcases ho : optP ch len p c S with ⟨p2, _ | ⟨_ | _, c2, S2⟩⟩
    · rw [ho] at y3
      have : opsP ch len (f + 1) p c S = (p2, none) := by simp only [opsP, ho]
      rw [this]
      refine ⟨am_up y M 4 (y M 4 + 1), en3 y m (by omega), ?_, frR_k yf (by omega), fun c' hc' => by cases hc'⟩
      rw [am_up_nk (by decide)]; exact y3
    · rw [ho] at y3 yr
      obtain ⟨r3, r4, r5, r6, r7, r8⟩ := yr false c2 S2 rfl
      have : opsP ch len (f + 1) p c S = (p2, some c2) := by simp only [opsP, ho]
      rw [this]
      refine ⟨am_up y M 4 (nI (i + 1)), en y 0 m (by decide) (by omega) r4, ?_, frR_k yf (by omega), fun c' hc' => ?_⟩
      · rw [am_up_nk (by decide)]; exact y3
      · simp only [Option.some.injEq] at hc'
        rw [← hc']
        exact ⟨am_up_eq _ _ _ _, fun k hk => by rw [am_up_na (by omega)]; exact r6 k hk, colO_k r8⟩
    · rw [ho] at y3 yr os
      have h1 := os.2.2 c2 S2 rfl
      have : opsP ch len (f + 1) p c S = opsP ch len f p2 c2 S2 := by simp only [opsP, ho]
      rw [this]
      simp only [] at h1
      exact ih p2 c2 S2 y m (by omega) (by omega) os.2.1 (yr true c2 S2 rfl)
theorem m_activity (H : Mst M sh hr) (hc : chB ch len) (ht : TM M base ch len) (hi8 : i < 8) (hp : p ≤ len) (hxp : base M 3 = nI p) (hx4 : base M 4 = nI i) : ∃ y, f_Mo_readActivity M (z, sh, base, hr) = some (b1 (actP ch len p i).2.isSome, (z, sh, y, hr)) ∧ y M 3 = nI (actP ch len p i).1 ∧ frR M base y ∧ ∀ c', (actP ch len p i).2 = some c' → y M 4 = nI (i + 1) ∧ (∀ k, k < 9 → y (M + 2) (8 * k + i) = c' k) ∧ colO M i base y := by
  -- the column is cleared
  obtain ⟨x, ⟨k1, k2, k3⟩, ex⟩ := loop_ex (bot := fun _ _ _ => none) (F := s_Mo_readActivity_2) (fun K j y => K M (nI j) (z, sh, y, hr)) (fun y => s_Mo_readActivity_2 (fun _ _ _ => none) M (nI 9) (z, sh, y, hr)) 9 (fun j y => (∀ k, k < j → y (M + 2) (8 * k + i) = c0P k) ∧ colO M i base y ∧ ∀ q, q ≠ M + 2 → y q = base q) (by
    rintro K j y hj ⟨i1, i2, i3⟩
    refine ⟨am_up y (M + 2) (8 * j + i) (c0P j), ⟨fun k hk => ?_, colO_2 i2 (by omega), fun q hq => ?_⟩, ?_⟩
    · by_cases h1 : k = j
      · rw [h1, am_up_eq]
      · rw [am_up_nk (by omega)]; exact i1 k (by omega)
    · rw [← i3 q hq]; funext k; rw [am_up_na hq]
    · have h4 : y M 4 = nI i := by rw [i3 M (by omega)]; exact hx4
      have e5 : (nI j = (5 : Int32)) ↔ j = 5 := n_inj (a := j) (b := 5) (by omega) (by omega)
      simp only [s_Mo_readActivity_2]
      rw [if_neg (show ¬ (9 : Int32) ≤ nI j from nI_ge (b := 9) hj (by decide))]
      simp only [mg H, mp H, mo H, mr1 H, mr6 H, mr7 H, mr8 H, mr10 H, mr11 H, mr12 H, mr13 H, mr14 H, mr15 H, mr16 H, mr17 H, mr18 H, mr19 H, mr20 H, mr25 H, Option.bind_some, h4, row_ix, mw2 H (show 8 * j + i < 72 by omega), e5, n_s, c0P]
      by_cases h5 : j = 5
      · simp only [if_pos h5]
      · simp only [if_neg h5]) (by
    rintro K y _
    simp only [s_Mo_readActivity_2]
    rw [if_pos (by decide), if_pos (by decide)]) 9 0 base 70 (by omega) (by omega) ⟨fun k hk => by omega, fun _ _ => rfl, fun _ _ => rfl⟩
  have xM : x M = base M := k3 M (by omega)
  have fx : frR M base x := ⟨fun k _ _ _ => by rw [xM], fun q _ h2 => k3 q h2⟩
  have hT := frR_T fx ht
  have x3 : x M 3 = nI p := by rw [xM]; exact hxp
  have x4 : x M 4 = nI i := by rw [xM]; exact hx4
  have h126 := lk_le hc p
  have start : f_Mo_readActivity M (z, sh, base, hr) = s_Mo_readActivity_2 (fun _ _ _ => none) M (nI 9) (z, sh, x, hr) := ex
  rw [start]
  have lk := m_look (z := z) H hc hT x3 hp
  have enm : (nI (lkP ch len p) = (97 : Int32) + nI i) ↔ lkP ch len p = 97 + i := by
    rw [show (97 : Int32) + nI i = nI (97 + i) from n_add 97 i]
    exact n_inj (by omega) (by omega)
  have l9 : (9 : Int32) ≤ nI 9 := by decide
  by_cases h1 : lkP ch len p = 97 + i
  · have hl := lk_lt (ch := ch) (len := len) (p := p) (by omega)
    have hT1 : TM M (am_up x M 3 (nI (p + 1))) ch len := TM_up hT (by omega)
    have e2 : f_Mo_readInto M (0 : Int32) (z, sh, am_up x M 3 (nI (p + 1)), hr) = _ := m_readInto (z := z) H hc hT1 (am_up_eq _ _ _ _) (by rw [am_up_nk (by decide)]; exact x4) (show p + 1 ≤ len by omega) hi8 (r := 0) (by decide)
    rw [up_up] at e2
    have n1 := num_sp (ch := ch) (show p + 1 ≤ len by omega)
    generalize hw2 : am_up (am_up x M 3 (nI (numP ch len (p + 1)).2)) (M + 2) (8 * 0 + i) (vI (numP ch len (p + 1)).1) = w2 at *
    have w23 : w2 M 3 = nI (numP ch len (p + 1)).2 := by rw [← hw2, am_up_na (by omega), am_up_eq]
    have w24 : w2 M 4 = nI i := by rw [← hw2, am_up_na (by omega), am_up_nk (by decide)]; exact x4
    have fw2 : frR M base w2 := by rw [← hw2]; exact frR_2 (frR_k fx (by omega))
    have cw2 : colO M i base w2 := by rw [← hw2]; exact colO_2 (colO_k k2) (by omega)
    have hT2 := frR_T fw2 ht
    have d2 : ∀ k, k < 9 → w2 (M + 2) (8 * k + i) = cu c0P 0 (vI (numP ch len (p + 1)).1) k := fun k hk => by
      rw [← hw2]
      by_cases h0 : k = 0
      · rw [h0, am_up_eq, cu_e]
      · rw [am_up_nk (by omega), am_up_na (by omega), cu_n _ _ _ _ h0]; exact k1 k hk
    have lk2 := m_look (z := z) H hc hT2 w23 n1.2.1
    have h126b := lk_le hc (numP ch len (p + 1)).2
    have e45 : (nI (lkP ch len (numP ch len (p + 1)).2) = (45 : Int32)) ↔ lkP ch len (numP ch len (p + 1)).2 = 45 := n_inj (a := lkP ch len (numP ch len (p + 1)).2) (b := 45) (by omega) (by omega)
    cases hv : (numP ch len (p + 1)).1 with
    | none =>
      have ha : actP ch len p i = ((numP ch len (p + 1)).2, none) := by simp only [actP, if_pos h1, hv]
      rw [ha]
      refine ⟨w2, ?_, w23, fw2, fun c' hc' => by cases hc'⟩
      simp only [s_Mo_readActivity_2, if_pos l9, mg H, mp H, mo H, mr1 H, mr6 H, mr7 H, mr8 H, mr10 H, mr11 H, mr12 H, mr13 H, mr14 H, mr15 H, mr16 H, mr17 H, mr18 H, mr19 H, mr20 H, mr25 H, lk, Option.bind_some, x4, enm, if_pos h1, x3, n_s, e2, hv, Option.isSome_none, b1_0, if_true]
      rfl
    | some v0 =>
      by_cases h2 : lkP ch len (numP ch len (p + 1)).2 = 45
      · have hl2 := lk_lt (ch := ch) (len := len) (p := (numP ch len (p + 1)).2) (by omega)
        have hT3 : TM M (am_up w2 M 3 (nI ((numP ch len (p + 1)).2 + 1))) ch len := TM_up hT2 (by omega)
        have e5 : f_Mo_readInto M (1 : Int32) (z, sh, am_up w2 M 3 (nI ((numP ch len (p + 1)).2 + 1)), hr) = _ := m_readInto (z := z) H hc hT3 (am_up_eq _ _ _ _) (by rw [am_up_nk (by decide)]; exact w24) (show (numP ch len (p + 1)).2 + 1 ≤ len by omega) hi8 (r := 1) (by decide)
        rw [up_up] at e5
        have n2 := num_sp (ch := ch) (show (numP ch len (p + 1)).2 + 1 ≤ len by omega)
        generalize hw4 : am_up (am_up w2 M 3 (nI (numP ch len ((numP ch len (p + 1)).2 + 1)).2)) (M + 2) (8 * 1 + i) (vI (numP ch len ((numP ch len (p + 1)).2 + 1)).1) = w4 at *
        have w43 : w4 M 3 = nI (numP ch len ((numP ch len (p + 1)).2 + 1)).2 := by rw [← hw4, am_up_na (by omega), am_up_eq]
        have w44 : w4 M 4 = nI i := by rw [← hw4, am_up_na (by omega), am_up_nk (by decide)]; exact w24
        have fw4 : frR M base w4 := by rw [← hw4]; exact frR_2 (frR_k fw2 (by omega))
        have cw4 : colO M i base w4 := by rw [← hw4]; exact colO_2 (colO_k cw2) (by omega)
        have d4 : ∀ k, k < 9 → w4 (M + 2) (8 * k + i) = cu (cu c0P 0 (vI (numP ch len (p + 1)).1)) 1 (vI (numP ch len ((numP ch len (p + 1)).2 + 1)).1) k := fun k hk => by
          rw [← hw4]
          by_cases h0 : k = 1
          · rw [h0, am_up_eq, cu_e]
          · rw [am_up_nk (by omega), am_up_na (by omega), cu_n _ _ _ _ h0]; exact d2 k hk
        cases hv2 : (numP ch len ((numP ch len (p + 1)).2 + 1)).1 with
        | none =>
          have ha : actP ch len p i = ((numP ch len ((numP ch len (p + 1)).2 + 1)).2, none) := by simp only [actP, if_pos h1, hv, if_pos h2, hv2]
          rw [ha]
          refine ⟨w4, ?_, w43, fw4, fun c' hc' => by cases hc'⟩
          simp only [s_Mo_readActivity_2, if_pos l9, mg H, mp H, mo H, mr1 H, mr6 H, mr7 H, mr8 H, mr10 H, mr11 H, mr12 H, mr13 H, mr14 H, mr15 H, mr16 H, mr17 H, mr18 H, mr19 H, mr20 H, mr25 H, lk, Option.bind_some, x4, enm, if_pos h1, x3, n_s, e2, hv, Option.isSome_some, b1_0, Bool.true_eq_false, if_false, lk2, e45, if_pos h2, w23, e5, hv2, Option.isSome_none, if_true]
          rfl
        | some v1 =>
          have ha : actP ch len p i = opsP ch len 64 (numP ch len ((numP ch len (p + 1)).2 + 1)).2 (cu (cu c0P 0 (nI v0)) 1 (nI v1)) (fun _ => false) := by simp only [actP, if_pos h1, hv, if_pos h2, hv2]
          rw [ha]
          rw [hv, hv2] at d4
          have r5 : RM M i base (numP ch len ((numP ch len (p + 1)).2 + 1)).2 (cu (cu c0P 0 (nI v0)) 1 (nI v1)) (fun _ => false) (am_up w4 M 5 0) := ⟨by rw [am_up_nk (by decide)]; exact w43, by rw [am_up_nk (by decide)]; exact w44, fun k hk => by rw [am_up_eq]; exact tb_0z (by omega), fun k hk => by rw [am_up_na (by omega)]; exact d4 k hk, frR_k fw4 (by omega), colO_k cw4⟩
          obtain ⟨y, ey, y3, yf, yc⟩ := m_options (z := z) H hc ht hi8 64 _ _ _ _ 70 (by have := hc.1; omega) (by omega) n2.2.1 r5
          refine ⟨y, ?_, y3, yf, yc⟩
          simp only [s_Mo_readActivity_2, if_pos l9, mg H, mp H, mo H, mr1 H, mr6 H, mr7 H, mr8 H, mr10 H, mr11 H, mr12 H, mr13 H, mr14 H, mr15 H, mr16 H, mr17 H, mr18 H, mr19 H, mr20 H, mr25 H, lk, Option.bind_some, x4, enm, if_pos h1, x3, n_s, e2, hv, Option.isSome_some, b1_0, Bool.true_eq_false, if_false, lk2, e45, if_pos h2, w23, e5, hv2]
          exact ey
      · have ha : actP ch len p i = ((numP ch len (p + 1)).2, none) := by simp only [actP, if_pos h1, hv, if_neg h2]
        rw [ha]
        refine ⟨w2, ?_, w23, fw2, fun c' hc' => by cases hc'⟩
        simp only [s_Mo_readActivity_2, if_pos l9, mg H, mp H, mo H, mr1 H, mr6 H, mr7 H, mr8 H, mr10 H, mr11 H, mr12 H, mr13 H, mr14 H, mr15 H, mr16 H, mr17 H, mr18 H, mr19 H, mr20 H, mr25 H, lk, Option.bind_some, x4, enm, if_pos h1, x3, n_s, e2, hv, Option.isSome_some, b1_0, Bool.true_eq_false, if_false, lk2, e45, if_neg h2]
        rfl
  · have ha : actP ch len p i = (p, none) := by simp only [actP, if_neg h1]
    rw [ha]
    refine ⟨x, ?_, x3, fx, fun c' hc' => by cases hc'⟩
    simp only [s_Mo_readActivity_2, if_pos l9, mg H, mp H, mo H, mr1 H, mr6 H, mr7 H, mr8 H, mr10 H, mr11 H, mr12 H, mr13 H, mr14 H, mr15 H, mr16 H, mr17 H, mr18 H, mr19 H, mr20 H, mr25 H, lk, Option.bind_some, x4, enm, if_neg h1]
    rfl
def RDm (M n : Nat) (cs : Nat → Nat → Int32) (x : am_I) : Prop := ∀ j, j < n → ∀ k, k < 9 → x (M + 2) (8 * k + j) = cs j k
theorem m_lines (H : Mst M sh hr) (hc : chB ch len) (ht : TM M base ch len) : ∀ f i p cs (x : am_I) m, i + (f + 1) = 8 → f < m → p ≤ len → x M 3 = nI p → x M 4 = nI i → RDm M i cs x → frR M base x → ∃ y, ((f_Mo_readActivity M (z, sh, x, hr)).bind fun q => am_it (fun _ _ _ => none) s_Mo_readLine_15 m M q.1 q.2) = some (b1 (linP ch len (f + 1) i p cs).2.isSome, (z, sh, y, hr)) ∧ y M 3 = nI (linP ch len (f + 1) i p cs).1 ∧ frR M base y ∧ ∀ n cs', (linP ch len (f + 1) i p cs).2 = some (n, cs') → n ≤ 8 ∧ y M 4 = nI n ∧ RDm M n cs' y := by
  have h64 := hc.1
  intro f
  induction f with
  | zero =>
    intro i p cs x m hi hm hp hx3 hx4 hxR hxf
    obtain ⟨m, rfl⟩ : ∃ k, m = k + 1 := ⟨m - 1, by omega⟩
    have hT := frR_T hxf ht
    obtain ⟨y, ey, y3, yf, yc⟩ := m_activity (z := z) H hc hT (show i < 8 by omega) hp hx3 hx4
    have pl := act_le (ch := ch) (i := i) hp
    have fy := hxf.tr yf
    have hTy := frR_T fy ht
    rw [ey]
    simp only [Option.bind_some, linP]
    rcases ha : actP ch len p i with ⟨p2, _ | c⟩
    · rw [ha] at y3
      refine ⟨y, ?_, y3, fy, fun n cs' h => by cases h⟩
      rw [it_s]
      simp only [Option.isSome_none, s_Mo_readLine_15, s_Mo_readLine_55, b1_0, if_true]
      rfl
    · rw [ha] at y3 yc pl
      obtain ⟨y4, yd, yo⟩ := yc c rfl
      simp only [] at y3 pl ⊢
      have lk := m_look (z := z) H hc hTy y3 pl.2
      have h126 := lk_le hc p2
      have e59 : (nI (lkP ch len p2) = (59 : Int32)) ↔ lkP ch len p2 = 59 := n_inj (a := lkP ch len p2) (b := 59) (by omega) (by omega)
      have R1 : RDm M (i + 1) (cw cs i c) y := by
        intro j hj k hk
        by_cases h1 : j = i
        · subst h1; rw [cw_e]; exact yd k hk
        · rw [cw_n _ _ _ _ h1, yo _ (by omega)]; exact hxR j (by omega) k hk
      have l8 : (8 : Int32) ≤ nI (i + 1) := (n_le (a := 8) (b := i + 1) (by omega) (by omega)).mpr (by omega)
      have fin : am_it (fun _ _ _ => none) s_Mo_readLine_15 (m + 1) M (b1 true) (z, sh, y, hr) = (if p2 = len then some (1, (z, sh, y, hr)) else some (0, (z, sh, y, hr))) := by
        rw [it_s]
        simp only [s_Mo_readLine_15, s_Mo_readLine_55, b1_0, Bool.true_eq_false, if_false, mg H, mp H, mo H, mr1 H, mr6 H, mr7 H, mr8 H, mr10 H, mr11 H, mr12 H, mr13 H, mr14 H, mr15 H, mr16 H, mr17 H, mr18 H, mr19 H, mr20 H, mr25 H, lk, Option.bind_some, e59, y4, if_pos l8, y3, hTy.1, n_inj (a := p2) (b := len) (by omega) (by omega)]
        by_cases h9 : lkP ch len p2 = 59
        · simp only [if_pos h9]
        · simp only [if_neg h9]
      simp only [Option.isSome_some]
      rw [fin]
      by_cases h1 : p2 = len
      · rw [if_pos h1, if_pos h1]
        refine ⟨y, rfl, y3, fy, fun n cs' h => ?_⟩
        simp only [Option.some.injEq, Prod.mk.injEq] at h
        obtain ⟨rfl, rfl⟩ := h
        exact ⟨by omega, y4, R1⟩
      · rw [if_neg h1, if_neg h1, if_pos trivial]
        exact ⟨y, rfl, y3, fy, fun n cs' h => by cases h⟩
  | succ f ih =>
    intro i p cs x m hi hm hp hx3 hx4 hxR hxf
    obtain ⟨m, rfl⟩ : ∃ k, m = k + 1 := ⟨m - 1, by omega⟩
    have hT := frR_T hxf ht
    obtain ⟨y, ey, y3, yf, yc⟩ := m_activity (z := z) H hc hT (show i < 8 by omega) hp hx3 hx4
    have pl := act_le (ch := ch) (i := i) hp
    have fy := hxf.tr yf
    have hTy := frR_T fy ht
    rw [ey]
    have hlin : linP ch len (f + 1 + 1) i p cs = (match actP ch len p i with
      | (p2, none) => (p2, none)
      | (p2, some c) => if p2 = len then (p2, some (i + 1, cw cs i c)) else if f + 1 = 0 then (p2, none) else if lkP ch len p2 = 59 then linP ch len (f + 1) (i + 1) (p2 + 1) (cw cs i c) else (p2, none)) := rfl
    rw [hlin]
    simp only [Option.bind_some]
    rcases ha : actP ch len p i with ⟨p2, _ | c⟩
    · rw [ha] at y3
      refine ⟨y, ?_, y3, fy, fun n cs' h => by cases h⟩
      rw [it_s]
      simp only [Option.isSome_none, s_Mo_readLine_15, s_Mo_readLine_55, b1_0, if_true]
      rfl
    · rw [ha] at y3 yc pl
      obtain ⟨y4, yd, yo⟩ := yc c rfl
      simp only [] at y3 pl ⊢
      have lk := m_look (z := z) H hc hTy y3 pl.2
      have h126 := lk_le hc p2
      have e59 : (nI (lkP ch len p2) = (59 : Int32)) ↔ lkP ch len p2 = 59 := n_inj (a := lkP ch len p2) (b := 59) (by omega) (by omega)
      have R1 : RDm M (i + 1) (cw cs i c) y := by
        intro j hj k hk
        by_cases h1 : j = i
        · subst h1; rw [cw_e]; exact yd k hk
        · rw [cw_n _ _ _ _ h1, yo _ (by omega)]; exact hxR j (by omega) k hk
      have l8 : ¬ (8 : Int32) ≤ nI (i + 1) := nI_ge (b := 8) (by omega) (by decide)
      have fin : am_it (fun _ _ _ => none) s_Mo_readLine_15 (m + 1) M (b1 true) (z, sh, y, hr) = (if lkP ch len p2 = 59 then ((f_Mo_readActivity M (z, sh, am_up y M 3 (nI (p2 + 1)), hr)).bind fun q => am_it (fun _ _ _ => none) s_Mo_readLine_15 m M q.1 q.2) else (if p2 = len then some (1, (z, sh, y, hr)) else some (0, (z, sh, y, hr)))) := by
        rw [it_s]
        simp only [s_Mo_readLine_15, s_Mo_readLine_55, b1_0, Bool.true_eq_false, if_false, mg H, mp H, mo H, mr1 H, mr6 H, mr7 H, mr8 H, mr10 H, mr11 H, mr12 H, mr13 H, mr14 H, mr15 H, mr16 H, mr17 H, mr18 H, mr19 H, mr20 H, mr25 H, lk, Option.bind_some, e59, y4, if_neg l8, y3, hTy.1, n_inj (a := p2) (b := len) (by omega) (by omega), n_s]
      simp only [Option.isSome_some]
      rw [fin]
      by_cases h1 : p2 = len
      · have h9 : ¬ lkP ch len p2 = 59 := by
          unfold lkP
          rw [if_neg (by omega)]
          omega
        rw [if_neg h9, if_pos h1, if_pos h1]
        refine ⟨y, rfl, y3, fy, fun n cs' h => ?_⟩
        simp only [Option.some.injEq, Prod.mk.injEq] at h
        obtain ⟨rfl, rfl⟩ := h
        exact ⟨by omega, y4, R1⟩
      · by_cases h9 : lkP ch len p2 = 59
        · have hl2 := lk_lt (ch := ch) (len := len) (p := p2) (by omega)
          rw [if_pos h9, if_neg h1, if_neg (show ¬ f + 1 = 0 by omega), if_pos h9]
          exact ih (i + 1) (p2 + 1) (cw cs i c) (am_up y M 3 (nI (p2 + 1))) m (by omega) (by omega) (by omega) (am_up_eq _ _ _ _) (by rw [am_up_nk (by decide)]; exact y4) (fun j hj k hk => by rw [am_up_na (by omega)]; exact R1 j hj k hk) (frR_k fy (by omega))
        · rw [if_neg h9, if_neg h1, if_neg h1, if_neg (show ¬ f + 1 = 0 by omega), if_neg h9]
          exact ⟨y, rfl, y3, fy, fun n cs' h => by cases h⟩
theorem m_readLine (H : Mst M sh hr) (hc : chB ch len) (ht : TM M hi ch len) : ∃ y, f_Mo_readLine M (z, sh, hi, hr) = some (b1 (linP ch len 8 0 0 (fun _ _ => 0)).2.isSome, (z, sh, y, hr)) ∧ y M 3 = nI (linP ch len 8 0 0 (fun _ _ => 0)).1 ∧ frR M hi y ∧ ∀ n cs', (linP ch len 8 0 0 (fun _ _ => 0)).2 = some (n, cs') → n ≤ 8 ∧ y M 4 = nI n ∧ RDm M n cs' y := by
  obtain ⟨y, ey, y3, yf, yr⟩ := m_lines (z := z) (base := hi) H hc ht 7 0 0 (fun _ _ => 0) (am_up (am_up hi M 3 0) M 4 0) 70 (by omega) (by omega) (by omega) (by rw [am_up_nk (by decide), am_up_eq]; rfl) (am_up_eq _ _ _ _) (fun j hj => by omega) (frR_k (frR_k ⟨fun _ _ _ _ => rfl, fun _ _ _ => rfl⟩ (by omega)) (by omega))
  refine ⟨y, ?_, y3, yf, yr⟩
  simp only [f_Mo_readLine, mg H, mp H, mo H, mr1 H, mr6 H, mr7 H, mr8 H, mr10 H, mr11 H, mr12 H, mr13 H, mr14 H, mr15 H, mr16 H, mr17 H, mr18 H, mr19 H, mr20 H, mr25 H, Option.bind_some, f_Mo_readLine_15]
  exact ey
end FRDS
