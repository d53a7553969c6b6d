-- needs 88
/-! submit -/
theorem okc_cu {c : Nat → Int32} {k : Nat} {x : Int32} (h : okc c) (hx : 7 ≤ k ∨ ∃ v : Nat, v ≤ 99 ∧ x = nI v) : okc (cu c k x) := by
  intro j hj
  by_cases h1 : j = k
  · subst h1
    rw [cu_e]
    rcases hx with h2 | ⟨v, h2, h3⟩
    · omega
    · exact ⟨v, h2, h3⟩
  · rw [cu_n _ _ _ _ h1]; exact h j hj
theorem opt_ok {ch : Nat → Nat} {len p : Nat} {c : Nat → Int32} {S : Nat → Bool} (hp : p ≤ len) (hc : okc c) : ∀ g c2 S2, (optP ch len p c S).2 = some (g, c2, S2) → okc c2 := by
  intro g c2 S2 h
  unfold optP at h
  cases hk : kdP (lkP ch len p) with
  | some k =>
    have hkk := kd_sp hk
    have hl := lk_lt hkk.2
    have hn := num_sp (ch := ch) (show p + 1 ≤ len by omega)
    rw [hk] at h
    simp only [] at h
    by_cases hS : S k = true
    · rw [if_pos hS] at h; cases h
    · rw [if_neg hS] at h
      cases hv : (numP ch len (p + 1)).1 with
      | none => rw [hv] at h; cases h
      | some v =>
        rw [hv] at h
        simp only [Option.some.injEq, Prod.mk.injEq] at h
        rw [← h.2.1]
        exact okc_cu hc (Or.inr ⟨v, hn.2.2 v hv, rfl⟩)
  | none =>
    rw [hk] at h
    simp only [] at h
    by_cases h1 : lkP ch len p = 62 ∨ lkP ch len p = 47
    · rw [if_pos h1] at h
      by_cases h2 : 97 ≤ lkP ch len (p + 1) ∧ lkP ch len (p + 1) ≤ 122
      · rw [if_pos h2] at h
        simp only [Option.some.injEq, Prod.mk.injEq] at h
        rw [← h.2.1]
        refine okc_cu hc (Or.inl ?_)
        split <;> omega
      · rw [if_neg h2] at h; cases h
    · rw [if_neg h1] at h
      simp only [Option.some.injEq, Prod.mk.injEq] at h
      rw [← h.2.1]
      exact hc
theorem ops_ok {ch : Nat → Nat} {len : Nat} : ∀ f p c S, p ≤ len → okc c → ∀ c', (opsP ch len f p c S).2 = some c' → okc c' := by
  intro f
  induction f with
  | zero =>
    intro p c S _ hc c' h
    simp only [opsP, Option.some.injEq] at h
    rw [← h]; exact hc
  | succ f ih =>
    intro p c S hp hc c' h
    have hs := opt_sp (ch := ch) (c := c) (S := S) hp
    have ho := opt_ok (ch := ch) (S := S) hp hc
    simp only [opsP] at h
    rcases e : optP ch len p c S with ⟨p2, _ | ⟨_ | _, c2, S2⟩⟩
    · rw [e] at h; cases h
    · rw [e] at h ho
      simp only [Option.some.injEq] at h
      rw [← h]
      exact ho false c2 S2 rfl
    · rw [e] at h ho hs
      exact ih p2 c2 S2 hs.2.1 (ho true c2 S2 rfl) c' h
theorem c0_ok : okc c0P := by
  intro k hk
  unfold c0P
  by_cases h : k = 5
  · rw [if_pos h]; exact ⟨99, by omega, rfl⟩
  · rw [if_neg h]; exact ⟨0, by omega, rfl⟩
theorem act_ok {ch : Nat → Nat} {len p i : Nat} (hp : p ≤ len) : ∀ c, (actP ch len p i).2 = some c → okc c := by
  intro c h
  unfold actP at h
  by_cases h1 : lkP ch len p = 97 + i
  · rw [if_pos h1] at h
    have hl := lk_lt (ch := ch) (len := len) (p := p) (by omega)
    have hn := num_sp (ch := ch) (show p + 1 ≤ len by omega)
    cases hv : (numP ch len (p + 1)).1 with
    | none => rw [hv] at h; cases h
    | some v0 =>
      rw [hv] at h
      simp only [] at h
      by_cases h2 : lkP ch len (numP ch len (p + 1)).2 = 45
      · rw [if_pos h2] at h
        have hl2 := lk_lt (ch := ch) (len := len) (p := (numP ch len (p + 1)).2) (by omega)
        have hn2 := num_sp (ch := ch) (show (numP ch len (p + 1)).2 + 1 ≤ len by omega)
        cases hv2 : (numP ch len ((numP ch len (p + 1)).2 + 1)).1 with
        | none => rw [hv2] at h; cases h
        | some v1 =>
          rw [hv2] at h
          exact ops_ok 64 _ _ _ hn2.2.1 (okc_cu (okc_cu c0_ok (Or.inr ⟨v0, hn.2.2 v0 hv, rfl⟩)) (Or.inr ⟨v1, hn2.2.2 v1 hv2, rfl⟩)) c h
      · rw [if_neg h2] at h; cases h
  · rw [if_neg h1] at h; cases h
theorem lin_ok {ch : Nat → Nat} {len : Nat} : ∀ f i p cs, p ≤ len → (∀ j, j < i → okc (cs j)) → ∀ n cs', (linP ch len f i p cs).2 = some (n, cs') → ∀ j, j < n → okc (cs' j) := by
  intro f
  induction f with
  | zero => intro i p cs _ _ n cs' h; cases h
  | succ f ih =>
    intro i p cs hp hc n cs' h
    have ha := act_ok (ch := ch) (i := i) hp
    have hl := act_le (ch := ch) (i := i) hp
    simp only [linP] at h
    rcases e : actP ch len p i with ⟨p2, _ | c⟩
    · rw [e] at h; cases h
    · rw [e] at h ha hl
      simp only [] at h hl
      have hc2 : ∀ j, j < i + 1 → okc (cw cs i c j) := by
        intro j hj
        by_cases h1 : j = i
        · subst h1; rw [cw_e]; exact ha c rfl
        · rw [cw_n _ _ _ _ h1]; exact hc j (by omega)
      by_cases h1 : p2 = len
      · rw [if_pos h1] at h
        simp only [Option.some.injEq, Prod.mk.injEq] at h
        obtain ⟨rfl, rfl⟩ := h
        exact hc2
      · rw [if_neg h1] at h
        by_cases h2 : f = 0
        · rw [if_pos h2] at h; cases h
        · rw [if_neg h2] at h
          by_cases h3 : lkP ch len p2 = 59
          · rw [if_pos h3] at h
            have hl2 := lk_lt (ch := ch) (len := len) (p := p2) (by omega)
            exact ih (i + 1) (p2 + 1) _ (by omega) hc2 n cs' h
          · rw [if_neg h3] at h; cases h
def nw (c d : Nat → Int32) (L : Nat) : Prop := (∀ k, k < 9 → c k = d k) ∧ c 9 = nI L ∧ c 10 = 0 ∧ c 11 = -1 ∧ c 12 = 0 ∧ c 13 = d 6 ∧ c 14 = 0 ∧ c 17 = -1 ∧ c 18 = -1
theorem nw_ready {c d : Nat → Int32} {L : Nat} (h1 : ∀ k, k < 9 → c k = d k) (h9 : c 9 = nI L) (h17 : c 17 = -1) (h18 : c 18 = -1) : nw (aReady c) d L := by
  unfold nw aReady
  refine ⟨fun k hk => ?_, ?_⟩
  · rw [cu_n _ _ _ _ (by omega), cu_n _ _ _ _ (by omega), cu_n _ _ _ _ (by omega), cu_n _ _ _ _ (by omega), cu_n _ _ _ _ (by omega)]
    exact h1 k hk
  · simp only [cu]
    simp
    exact ⟨h9, h1 6 (by omega), h17, h18⟩
theorem nw_agr {c c' d : Nat → Int32} {L : Nat} (h : nw c d L) (h' : nw c' d L) : agr c c' := by
  obtain ⟨a1, a2, a3, a4, a5, a6, a7, a8, a9⟩ := h
  obtain ⟨b1, b2, b3, b4, b5, b6, b7, b8, b9⟩ := h'
  intro k hk h2
  by_cases h9 : k < 9
  · rw [a1 k h9, b1 k h9]
  · have : k = 9 ∨ k = 10 ∨ k = 11 ∨ k = 12 ∨ k = 13 ∨ k = 14 ∨ (k = 15 ∨ k = 16) ∨ k = 17 ∨ k = 18 := by omega
    rcases this with rfl | rfl | rfl | rfl | rfl | rfl | h3 | rfl | rfl
    · rw [a2, b2]
    · rw [a3, b3]
    · rw [a4, b4]
    · rw [a5, b5]
    · rw [a6, b6]
    · rw [a7, b7]
    · have := h2 h3
      rw [b3] at this
      exact absurd this (by decide)
    · rw [a8, b8]
    · rw [a9, b9]
theorem nw_inv {c d : Nat → Int32} {L : Nat} (h : nw c d L) (ho : okc d) (hw : ∃ l r : Nat, d 1 = nI l ∧ d 6 = nI r ∧ 1 ≤ l ∧ l ≤ 30 ∧ r ≤ 3) : inv1 c := by
  obtain ⟨a1, a2, a3, a4, a5, a6, a7, a8, a9⟩ := h
  obtain ⟨l, r, h1, h2, h3, h4, h5⟩ := hw
  obtain ⟨e, e1, e2⟩ := ho 2 (by omega)
  obtain ⟨da, da1, da2⟩ := ho 3 (by omega)
  unfold inv1
  rw [a3]
  refine ⟨⟨l, h3, h4, by rw [a1 1 (by omega)]; exact h1, fun hh => absurd hh (by decide)⟩, ⟨e, by omega, by omega, by rw [a1 2 (by omega), e2]; exact iI_n e⟩, ⟨da, by omega, by omega, by rw [a1 3 (by omega), da2]; exact iI_n da⟩, ⟨r, by omega, by rw [a1 6 (by omega)]; exact h2⟩, ⟨r, by omega, by rw [a6]; exact h2⟩, fun hh => absurd hh (by decide), Or.inl a8, Or.inl a9, Or.inl rfl⟩
section FASUB
variable {b P Q M z n : Nat} {sh : am_S} {hi x y : am_I} {hr : am_R} {G : Nat → Int} {D : Int} {h : Nat} {tg : Int} {Tb T E R : Nat} {e s : Int} {v : Nat → Nat → Int32} {md : Int32}
theorem Cst_sw (H : Cst b P Q sh hr) : Cst b Q P sh (am_up (am_up hr b 4 (some Q)) b 5 (some P)) := by
  have p2 := k_P2 H
  have q2 := kQ2 H
  have pw : ∀ {X : Nat}, b + 9 ≤ X → Pst X sh hr → Pst X sh (am_up (am_up hr b 4 (some Q)) b 5 (some P)) := by
    intro X hX hp
    obtain ⟨h1, h2, h3, h4⟩ := hp
    refine ⟨h1, h2, by rw [am_up_na (by omega), am_up_na (by omega)]; exact h3, fun i hi => ⟨by rw [am_up_na (by omega), am_up_na (by omega)]; exact (h4 i hi).1, (h4 i hi).2⟩⟩
  refine ⟨H.1, ⟨?_, ?_, ?_, ?_, ?_, ?_, ?_, ?_, ?_, ?_, ?_⟩, pw q2.1 (k_Q H), pw p2.1 (k_P H), ?_⟩
  · rw [am_up_nk (by decide), am_up_nk (by decide)]; exact k_h0_0 H
  · rw [am_up_nk (by decide), am_up_nk (by decide)]; exact k_h0_1 H
  · rw [am_up_nk (by decide), am_up_nk (by decide)]; exact k_h0_2 H
  · rw [am_up_nk (by decide), am_up_nk (by decide)]; exact k_h0_3 H
  · rw [am_up_na (by omega), am_up_na (by omega)]; exact k_h1_0 H
  · rw [am_up_na (by omega), am_up_na (by omega)]; exact k_h3_0 H
  · rw [am_up_na (by omega), am_up_na (by omega)]; exact k_h4_5 H
  · rw [am_up_na (by omega), am_up_na (by omega)]; exact k_h4_6 H
  · rw [am_up_na (by omega), am_up_na (by omega)]; exact k_h7_0 H
  · rw [am_up_nk (by decide), am_up_eq]
  · rw [am_up_eq]
  · rcases k_PQ H with hh | hh
    · exact Or.inr ⟨hh.2, hh.1⟩
    · exact Or.inl ⟨hh.2, hh.1⟩
theorem Mst_sw {t1 t2 : Option Nat} (H : Mst M sh hr) (hM : M ≠ b) : Mst M sh (am_up (am_up hr b 4 t1) b 5 t2) := by
  have e : ∀ k, am_up (am_up hr b 4 t1) b 5 t2 M k = hr M k := fun k => by rw [am_up_na hM, am_up_na hM]
  unfold Mst at H ⊢
  simp only [e]
  exact H
theorem CX_new {n' : Nat} {w : Nat → Nat → Int32} (hX : CX b P hi tg G D h n (md, T, E, R, e, s, v)) (h0 : x b = hi b) (h4 : x (b + 4) = hi (b + 4)) (h5 : x (b + 5) = hi (b + 5)) (h6 : x (b + 6) = hi (b + 6)) (hn : x Q 1 = nI n') (hw : agrV n' (vC x Q) w) : CX b Q x tg G D h n' (md, T, E, R, e, s, w) := by
  obtain ⟨c1, c2, c3, r1, r2, r3, r4, r5, r6, r7, r8⟩ := hX
  unfold CX CR SupC SupN
  rw [h0, h4, h5, h6]
  exact ⟨c1, c2, c3, r1, r2, r3, r4, r5, r6, hn, hw⟩
theorem MX_new {n' : Nat} {w : Nat → Nat → Int32} (hX : MX M hi tg G D h n (md, T, E, R, e, s, v)) (h0 : ∀ k, 21 ≤ k → x M k = hi M k) (h16 : x (M + 16) = hi (M + 16)) (hn : x M 9 = nI n') (hw : vM x M = w) : MX M x tg G D h n' (md, T, E, R, e, s, w) := by
  obtain ⟨c1, c2, c3, r1, r2, r3, r4, ⟨r5, r5b, r5c⟩, r6, r7⟩ := hX
  refine ⟨by rw [h0 22 (by omega)]; exact c1, by rw [h0 30 (by omega)]; exact c2, fun hh => by rw [h0 29 (by omega)]; exact c3 hh, by rw [h0 21 (by omega)]; exact r1, by rw [h0 23 (by omega)]; exact r2, by rw [h0 24 (by omega)]; exact r3, by rw [h0 26 (by omega)]; exact r4, ⟨fun j hj => by rw [h16]; exact r5 j hj, by rw [h0 27 (by omega)]; exact r5b, by rw [h0 28 (by omega)]; exact r5c⟩, hn, hw⟩
/-- the reference takes what it has read -/
theorem m_takes (H : Mst M sh hr) (hn : n ≤ 8) {cs : Nat → Nat → Int32} {L : Nat → Nat} (hD : DM M n cs x) (hL : c4M M n L x) : ∃ y, s_Mo_submit_49 M (0 : Int32) (z, sh, x, hr) = some (0, (z, sh, y, hr)) ∧ (∀ k, k ≠ 9 → y M k = x M k) ∧ y M 9 = nI n ∧ (∀ q, q ≠ M → (q < M + 5 ∨ M + 15 < q) → y q = x q) ∧ ∀ i, i < n → nw (vM y M i) (cs i) (L i) := by
  have l66 := loop_fold (bot := fun _ _ _ => none) (F := s_Mo_submit_66) (fun T j w => T M (nI j) (z, sh, w, hr)) (fun w j => am_up w (M + 5) j (x (M + 2) j)) (fun w => f_Mo_submit_92 70 M (0 : Int32) (z, sh, w, hr)) 72 (fun w => w (M + 2) = x (M + 2)) (fun j w _ hw => by rw [← hw]; funext k; rw [am_up_na (by omega)]) (by
    intro T j w hj hw
    have e2 : w (M + 2) j = x (M + 2) j := by rw [hw]
    simp only [s_Mo_submit_66]
    rw [if_neg (show ¬ (72 : Int32) ≤ nI j from nI_ge (b := 72) hj (by decide))]
    simp only [mg H, mp H, mo H, mr1 H, mr6 H, mr7 H, mr8 H, mr10 H, mr11 H, mr12 H, mr13 H, mr14 H, mr15 H, mr16 H, mr17 H, mr18 H, mr19 H, mr20 H, mr25 H, Option.bind_some, mi2 H hj, mw5 H hj, e2, n_s]) (by
    intro T w _
    simp only [s_Mo_submit_66]
    rw [if_pos (by decide)]) 72 0 (am_up x M 9 (nI n)) 80 (by omega) (by omega) (by funext k; rw [am_up_na (by omega)])
  rw [fold_col (M + 5) (fun j => x (M + 2) j)] at l66
  obtain ⟨w1, hw1⟩ : ∃ w1 : am_I, w1 = fun q k => if q = M + 5 ∧ 0 ≤ k ∧ k < 0 + 72 then x (M + 2) k else am_up x M 9 (nI n) q k := ⟨_, rfl⟩
  rw [← hw1] at l66
  have w1q : ∀ q, q ≠ M + 5 → q ≠ M → w1 q = x q := fun q h5 h0 => by rw [hw1]; funext k; simp only []; rw [if_neg (by omega), am_up_na h0]
  have w1M : ∀ k, k ≠ 9 → w1 M k = x M k := fun k hk => by rw [hw1]; simp only []; rw [if_neg (by omega), am_up_nk hk]
  have w19 : w1 M 9 = nI n := by rw [hw1]; simp only []; rw [if_neg (by omega), am_up_eq]
  have w15 : ∀ k, k < 72 → w1 (M + 5) k = x (M + 2) k := fun k hk => by rw [hw1]; exact if_pos ⟨rfl, by omega, by omega⟩
  obtain ⟨w2, ⟨i1, i2⟩, e92⟩ := loop_ex (bot := fun _ _ _ => none) (F := s_Mo_submit_92) (fun T j w => T M (nI j) (z, sh, w, hr)) (fun w => (f_Mo_rest M (z, sh, w, hr)).bind fun q8 => some ((0 : Int32), q8.2)) 8 (fun j w => (∀ q, q ≠ M + 6 → q ≠ M + 14 → q ≠ M + 15 → w q = w1 q) ∧ ∀ i, i < j → w (M + 6) i = x (M + 4) i ∧ w (M + 14) i = -1 ∧ w (M + 15) i = -1) (by
    rintro T j w hj ⟨i1, i2⟩
    have e4 : w (M + 4) j = x (M + 4) j := by rw [i1 _ (by omega) (by omega) (by omega), w1q _ (by omega) (by omega)]
    refine ⟨am_up (am_up (am_up w (M + 6) j (x (M + 4) j)) (M + 14) j (-1)) (M + 15) j (-1), ⟨fun q h6 h14 h15 => ?_, fun i hi => ?_⟩, ?_⟩
    · rw [← i1 q h6 h14 h15]; funext k; rw [am_up_na h15, am_up_na h14, am_up_na h6]
    · by_cases h1 : i = j
      · subst h1
        refine ⟨?_, ?_, ?_⟩
        · rw [am_up_na (by omega), am_up_na (by omega), am_up_eq]
        · rw [am_up_na (by omega), am_up_eq]
        · rw [am_up_eq]
      · obtain ⟨g1, g2, g3⟩ := i2 i (by omega)
        refine ⟨?_, ?_, ?_⟩
        · rw [am_up_na (by omega), am_up_na (by omega), am_up_nk h1]; exact g1
        · rw [am_up_na (by omega), am_up_nk h1, am_up_na (by omega)]; exact g2
        · rw [am_up_nk h1, am_up_na (by omega), am_up_na (by omega)]; exact g3
    · simp only [s_Mo_submit_92]
      rw [if_neg (show ¬ (8 : Int32) ≤ nI j from nI_ge (b := 8) hj (by decide))]
      simp only [mg H, mp H, mo H, mr1 H, mr6 H, mr7 H, mr8 H, mr10 H, mr11 H, mr12 H, mr13 H, mr14 H, mr15 H, mr16 H, mr17 H, mr18 H, mr19 H, mr20 H, mr25 H, Option.bind_some, mi4 H hj, mw6 H hj, mw14 H hj, mw15 H hj, e4, n_s]) (by
    rintro T w _
    simp only [s_Mo_submit_92]
    rw [if_pos (by decide)]
    simp only [mg H, mp H, mo H, mr1 H, mr6 H, mr7 H, mr8 H, mr10 H, mr11 H, mr12 H, mr13 H, mr14 H, mr15 H, mr16 H, mr17 H, mr18 H, mr19 H, mr20 H, mr25 H]) 8 0 w1 70 (by omega) (by omega) ⟨fun _ _ _ _ => rfl, fun i hi => by omega⟩
  have w2M : w2 M = w1 M := i1 M (by omega) (by omega) (by omega)
  obtain ⟨y, ey, fy, vy⟩ := m_rest (z := z) (hi := w2) H hn (by rw [w2M]; exact w19)
  refine ⟨y, ?_, fun k hk => by rw [fy M (by omega), w2M]; exact w1M k hk, by rw [fy M (by omega), w2M]; exact w19, fun q h0 hq => by rw [fy q (by omega), i1 q (by omega) (by omega) (by omega)]; exact w1q q (by omega) h0, fun i hi => ?_⟩
  · have e1 : s_Mo_submit_49 M (0 : Int32) (z, sh, x, hr) = f_Mo_submit_66 80 M (0 : Int32) (z, sh, am_up x M 9 (nI n), hr) := by
      simp only [s_Mo_submit_49, if_true, mg H, mp H, mo H, mr1 H, mr6 H, mr7 H, mr8 H, mr10 H, mr11 H, mr12 H, mr13 H, mr14 H, mr15 H, mr16 H, mr17 H, mr18 H, mr19 H, mr20 H, mr25 H, Option.bind_some, hD.1]
    have e2 : f_Mo_submit_66 80 M (0 : Int32) (z, sh, am_up x M 9 (nI n), hr) = _ := l66
    have e3 : f_Mo_submit_92 70 M (0 : Int32) (z, sh, w1, hr) = _ := e92
    rw [e1, e2, e3, ey]
    rfl
  · rw [vy]
    simp only []
    rw [if_pos hi]
    obtain ⟨g1, g2, g3⟩ := i2 i (by omega)
    refine nw_ready (fun k hk => ?_) ?_ ?_ ?_
    · rw [vM_lt hk, i1 _ (by omega) (by omega) (by omega), w15 _ (by omega)]
      exact hD.2 i hi k hk
    · have : vM w2 M i 9 = w2 (M + 6) i := vM_ge (by omega)
      rw [this, g1]; exact hL i hi
    · have : vM w2 M i 17 = w2 (M + 14) i := vM_ge (by omega)
      rw [this]; exact g2
    · have : vM w2 M i 18 = w2 (M + 15) i := vM_ge (by omega)
      rw [this]; exact g3
end FASUB
