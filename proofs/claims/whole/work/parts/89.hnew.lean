-- needs 88 89a 89b 89c 89d 89e 89f 89g
/-! the reference at the start, and the whole law -/
section FHNEW
variable {b M z z1 n k : Nat} {l : List (Nat × Nat × Nat)} {g : Nat → Int32} {sh0 sh : am_S} {hi0 hi : am_I} {hr0 hr : am_R} {x : Int32}
def MI (M z : Nat) (l : List (Nat × Nat × Nat)) (g : Nat → Int32) (sh0 : am_S) (hi0 : am_I) (hr0 : am_R) (sh : am_S) (hi : am_I) (hr : am_R) : Prop := sh M = some (.inl 7) ∧ M < z ∧ (∀ t ∈ l, hr M t.1 = some t.2.1 ∧ sh t.2.1 = some (.inr (.int, t.2.2)) ∧ t.2.1 < z) ∧ (∀ q, q < M → sh q = sh0 q ∧ hi q = hi0 q ∧ hr q = hr0 q) ∧ (∀ q, M < q → q < z → ∀ j, hi q j = 0) ∧ hi M = g
theorem mo_arr (n k z1 : Nat) (h : MI M z l g sh0 hi0 hr0 sh hi hr) (hz : z + 1 = z1) (hk : ∀ t ∈ l, t.1 ≠ k) : ∃ sh1 hi1 hr1, am_rp 7 k M z (am_nw (.inr (.int, n)) (z, sh, hi, hr)) = some (z1, sh1, hi1, hr1) ∧ MI M z1 ((k, z, n) :: l) g sh0 hi0 hr0 sh1 hi1 hr1 := by
  obtain ⟨h1, h2, h3, h4, h5, h6⟩ := h
  subst hz
  have a0 : am_sh sh z (.inr (.int, n)) M = some (.inl 7) := by rw [sh_n (by omega)]; exact h1
  refine ⟨am_sh sh z (.inr (.int, n)), am_z hi z 0, am_up (am_z hr z none) M k (some z), fl_rp a0, a0, by omega, ?_, fun q hq => ⟨?_, ?_, ?_⟩, fun q h7 h8 j => ?_, ?_⟩
  · intro t ht
    rcases List.mem_cons.mp ht with rfl | ht
    · exact ⟨am_up_eq _ _ _ _, sh_e, by simp only []; omega⟩
    · obtain ⟨g1, g2, g3⟩ := h3 t ht
      exact ⟨by rw [am_up_nk (hk t ht), z_n (by omega)]; exact g1, by rw [sh_n (by omega)]; exact g2, by omega⟩
  · rw [sh_n (by omega)]; exact (h4 q hq).1
  · rw [z_n (by omega)]; exact (h4 q hq).2.1
  · rw [← (h4 q hq).2.2]; funext j; rw [am_up_na (by omega), z_n (by omega)]
  · by_cases h9 : q = z
    · subst h9; exact z_e
    · rw [z_n h9]; exact h5 q h7 (by omega) j
  · rw [z_n (by omega)]; exact h6
theorem stp_K {β : Type} {e : Nat ⊕ (FieldType × Nat)} {w w2 : am_w} {K : am_w → Option β} (h : am_rp 7 k M w.1 (am_nw e w) = some w2) : (am_let (am_nw e w) fun w1 => (am_rp 7 k M w.1 w1).bind fun w3 => K w3) = K w2 := by
  have e1 : (am_let (am_nw e w) fun w1 => (am_rp 7 k M w.1 w1).bind fun w3 => K w3) = (am_rp 7 k M w.1 (am_nw e w)).bind K := rfl
  rw [e1, h]
  rfl
theorem mo_fp (k : Nat) (x : Int32) (h : MI M z l g sh0 hi0 hr0 sh hi hr) : ∃ hi1, am_fp 7 k M x (z, sh, hi, hr) = some (z, sh, hi1, hr) ∧ MI M z l (cu g k x) sh0 hi0 hr0 sh hi1 hr := by
  obtain ⟨h1, h2, h3, h4, h5, h6⟩ := h
  refine ⟨am_up hi M k x, fl_fp h1, h1, h2, h3, fun q hq => ⟨(h4 q hq).1, ?_, (h4 q hq).2.2⟩, fun q h7 h8 j => by rw [am_up_na (by omega)]; exact h5 q h7 h8 j, ?_⟩
  · rw [← (h4 q hq).2.1]; funext j; rw [am_up_na (by omega)]
  · rw [up_cw, cw_e, h6]
theorem i_mo (h7 : sh M = some (.inl 7)) (hz : hi M = fun _ => 0) : ∃ sh1 hi1 hr1, f_Mo_init M (M + 1, sh, hi, hr) = some (0, (M + 17, sh1, hi1, hr1)) ∧ Mst M sh1 hr1 ∧ (∀ q, q < M → sh1 q = sh q ∧ hi1 q = hi q ∧ hr1 q = hr q) ∧ (∀ j, hi1 (M + 16) j = 0) ∧ hi1 M = cu (cu (cu (cu (cu (fun _ => 0) 23 1000) 26 (-1)) 27 5) 28 20) 2 0 := by
  have g0 : MI M (M + 1) [] (fun _ => 0) sh hi hr sh hi hr := ⟨h7, by omega, fun t ht => (by cases ht), fun q _ => ⟨rfl, rfl, rfl⟩, fun q h1 h2 => by omega, hz⟩
  obtain ⟨s1, x1, r1, e1, g1⟩ := mo_arr 64 1 (M + 2) g0 rfl (by simp)
  obtain ⟨s2, x2, r2, e2, g2⟩ := mo_arr 72 6 (M + 3) g1 rfl (by simp)
  obtain ⟨s3, x3, r3, e3, g3⟩ := mo_arr 8 7 (M + 4) g2 rfl (by simp)
  obtain ⟨s4, x4, r4, e4, g4⟩ := mo_arr 8 8 (M + 5) g3 rfl (by simp)
  obtain ⟨s5, x5, r5, e5, g5⟩ := mo_arr 72 10 (M + 6) g4 rfl (by simp)
  obtain ⟨s6, x6, r6, e6, g6⟩ := mo_arr 8 11 (M + 7) g5 rfl (by simp)
  obtain ⟨s7, x7, r7, e7, g7⟩ := mo_arr 8 12 (M + 8) g6 rfl (by simp)
  obtain ⟨s8, x8, r8, e8, g8⟩ := mo_arr 8 13 (M + 9) g7 rfl (by simp)
  obtain ⟨s9, x9, r9, e9, g9⟩ := mo_arr 8 14 (M + 10) g8 rfl (by simp)
  obtain ⟨s10, x10, r10, e10, g10⟩ := mo_arr 8 15 (M + 11) g9 rfl (by simp)
  obtain ⟨s11, x11, r11, e11, g11⟩ := mo_arr 8 16 (M + 12) g10 rfl (by simp)
  obtain ⟨s12, x12, r12, e12, g12⟩ := mo_arr 8 17 (M + 13) g11 rfl (by simp)
  obtain ⟨s13, x13, r13, e13, g13⟩ := mo_arr 8 18 (M + 14) g12 rfl (by simp)
  obtain ⟨s14, x14, r14, e14, g14⟩ := mo_arr 8 19 (M + 15) g13 rfl (by simp)
  obtain ⟨s15, x15, r15, e15, g15⟩ := mo_arr 8 20 (M + 16) g14 rfl (by simp)
  obtain ⟨y1, f1, m1⟩ := mo_fp 23 1000 g15
  obtain ⟨s16, x16, r16, e16, g16⟩ := mo_arr 24 25 (M + 17) m1 rfl (by simp)
  obtain ⟨y2, f2, m2⟩ := mo_fp 26 (-1) g16
  obtain ⟨y3, f3, m3⟩ := mo_fp 27 5 m2
  obtain ⟨y4, f4, m4⟩ := mo_fp 28 20 m3
  obtain ⟨y5, f5, m5⟩ := mo_fp 2 0 m4
  obtain ⟨k1, k2, k3, k4, k5, k6⟩ := m5
  refine ⟨s16, y5, r16, ?_, ?_, k4, fun j => k5 _ (by omega) (by omega) j, k6⟩
  · unfold f_Mo_init
    rw [stp_K e1, stp_K e2, stp_K e3, stp_K e4, stp_K e5, stp_K e6, stp_K e7, stp_K e8, stp_K e9, stp_K e10, stp_K e11, stp_K e12, stp_K e13, stp_K e14, stp_K e15, f1, Option.bind_some, stp_K e16, f2, Option.bind_some, f3, Option.bind_some, f4, Option.bind_some, f5, Option.bind_some]
  · exact ⟨k1, ⟨(k3 (1, M + 1, 64) (by simp)).1, (k3 (1, M + 1, 64) (by simp)).2.1⟩, ⟨(k3 (6, M + 2, 72) (by simp)).1, (k3 (6, M + 2, 72) (by simp)).2.1⟩, ⟨(k3 (7, M + 3, 8) (by simp)).1, (k3 (7, M + 3, 8) (by simp)).2.1⟩, ⟨(k3 (8, M + 4, 8) (by simp)).1, (k3 (8, M + 4, 8) (by simp)).2.1⟩, ⟨(k3 (10, M + 5, 72) (by simp)).1, (k3 (10, M + 5, 72) (by simp)).2.1⟩, ⟨(k3 (11, M + 6, 8) (by simp)).1, (k3 (11, M + 6, 8) (by simp)).2.1⟩, ⟨(k3 (12, M + 7, 8) (by simp)).1, (k3 (12, M + 7, 8) (by simp)).2.1⟩, ⟨(k3 (13, M + 8, 8) (by simp)).1, (k3 (13, M + 8, 8) (by simp)).2.1⟩, ⟨(k3 (14, M + 9, 8) (by simp)).1, (k3 (14, M + 9, 8) (by simp)).2.1⟩, ⟨(k3 (15, M + 10, 8) (by simp)).1, (k3 (15, M + 10, 8) (by simp)).2.1⟩, ⟨(k3 (16, M + 11, 8) (by simp)).1, (k3 (16, M + 11, 8) (by simp)).2.1⟩, ⟨(k3 (17, M + 12, 8) (by simp)).1, (k3 (17, M + 12, 8) (by simp)).2.1⟩, ⟨(k3 (18, M + 13, 8) (by simp)).1, (k3 (18, M + 13, 8) (by simp)).2.1⟩, ⟨(k3 (19, M + 14, 8) (by simp)).1, (k3 (19, M + 14, 8) (by simp)).2.1⟩, ⟨(k3 (20, M + 15, 8) (by simp)).1, (k3 (20, M + 15, 8) (by simp)).2.1⟩, ⟨(k3 (25, M + 16, 24) (by simp)).1, (k3 (25, M + 16, 24) (by simp)).2.1⟩⟩
theorem law_RR : ∃ z1 hi1 hr1 sh1, (∀ L xs, f_La_law L xs (st_w b) = f_La_law_23 L xs 600 b (b + 29) (b + 46) (0 : Int32) (z1, sh1, hi1, hr1)) ∧ RR b sh1 hi1 hr1 0 := by
  obtain ⟨s, x, r, e1, HC, c1, c2, c3, c4, c5, c6, c7, c8⟩ := i_rm (b := b) (sh := am_sh (fun _ => none) b (.inl 0)) (hi := am_z (fun _ _ => 0) b 0) (hr := am_z (fun _ _ => none) b none) sh_e z_e
  obtain ⟨s2, x2, r2, e2, HM, f2, m16, mM⟩ := i_mo (M := b + 29) (sh := am_sh s (b + 29) (.inl 7)) (hi := am_z x (b + 29) 0) (hr := am_z r (b + 29) none) sh_e (by funext j; exact z_e)
  have fs : ∀ q, q < b + 29 → am_sh s2 (b + 46) (.inr (.long, 1)) q = s q := fun q hq => by rw [sh_n (by omega), (f2 q hq).1, sh_n (by omega)]
  have fx : ∀ q, q < b + 29 → am_z x2 (b + 46) 0 q = x q := fun q hq => by rw [z_n (by omega), (f2 q hq).2.1, z_n (by omega)]
  have fr : ∀ q, q < b + 29 → am_z r2 (b + 46) none q = r q := fun q hq => by rw [z_n (by omega), (f2 q hq).2.2, z_n (by omega)]
  have gs : ∀ q, b + 29 ≤ q → q < b + 46 → am_sh s2 (b + 46) (.inr (.long, 1)) q = s2 q := fun q _ hq => sh_n (by omega)
  have gx : ∀ q, b + 29 ≤ q → q < b + 46 → am_z x2 (b + 46) 0 q = x2 q := fun q _ hq => z_n (by omega)
  have gr : ∀ q, b + 29 ≤ q → q < b + 46 → am_z r2 (b + 46) none q = r2 q := fun q _ hq => z_n (by omega)
  refine ⟨b + 47, am_z x2 (b + 46) 0, am_z r2 (b + 46) none, am_sh s2 (b + 46) (.inr (.long, 1)), ?_, b + 9, b + 19, -1, fun _ => 0, 20, 5, 0, (0, 0, 0, 0, 1000, 0, vM (am_z x2 (b + 46) 0) (b + 29)), 0, ?_, ?_, sh_e, ?_, ?_, ?_, Nat.le_refl _, ?_⟩
  · intro L xs
    simp only [f_La_law, am_let, st_w, nw_t, e1, Option.bind_some, e2]
  · obtain ⟨⟨a1, a2, a3, a4, a5, a6, a7, a8, a9⟩, ⟨d1, d2, d3, d4, d5, d6, d7, d8, d9, d10, d11⟩, p1, p2, pq⟩ := HC
    have pw : ∀ P, P + 9 < b + 29 → Pst P s r → Pst P (am_sh s2 (b + 46) (.inr (.long, 1))) (am_z r2 (b + 46) none) := by
      rintro P hP ⟨u1, u2, u3, u4⟩
      exact ⟨by rw [fs _ (by omega)]; exact u1, by rw [fs _ (by omega)]; exact u2, by rw [fr _ (by omega)]; exact u3, fun i hi => ⟨by rw [fr _ (by omega)]; exact (u4 i hi).1, by rw [fs _ (by omega)]; exact (u4 i hi).2⟩⟩
    refine ⟨⟨?_, ?_, ?_, ?_, ?_, ?_, ?_, ?_, ?_⟩, ⟨?_, ?_, ?_, ?_, ?_, ?_, ?_, ?_, ?_, ?_, ?_⟩, pw _ (by omega) p1, pw _ (by omega) p2, pq⟩
    · rw [fs _ (by omega)]; exact a1
    · rw [fs _ (by omega)]; exact a2
    · rw [fs _ (by omega)]; exact a3
    · rw [fs _ (by omega)]; exact a4
    · rw [fs _ (by omega)]; exact a5
    · rw [fs _ (by omega)]; exact a6
    · rw [fs _ (by omega)]; exact a7
    · rw [fs _ (by omega)]; exact a8
    · rw [fs _ (by omega)]; exact a9
    · rw [fr _ (by omega)]; exact d1
    · rw [fr _ (by omega)]; exact d2
    · rw [fr _ (by omega)]; exact d3
    · rw [fr _ (by omega)]; exact d4
    · rw [fr _ (by omega)]; exact d5
    · rw [fr _ (by omega)]; exact d6
    · rw [fr _ (by omega)]; exact d7
    · rw [fr _ (by omega)]; exact d8
    · rw [fr _ (by omega)]; exact d9
    · rw [fr _ (by omega)]; exact d10
    · rw [fr _ (by omega)]; exact d11
  · unfold Mst at HM ⊢
    rw [gr (b + 29) (by omega) (by omega), gs (b + 29) (by omega) (by omega), gs (b + 29 + 1) (by omega) (by omega), gs (b + 29 + 2) (by omega) (by omega), gs (b + 29 + 3) (by omega) (by omega), gs (b + 29 + 4) (by omega) (by omega), gs (b + 29 + 5) (by omega) (by omega), gs (b + 29 + 6) (by omega) (by omega), gs (b + 29 + 7) (by omega) (by omega), gs (b + 29 + 8) (by omega) (by omega), gs (b + 29 + 9) (by omega) (by omega), gs (b + 29 + 10) (by omega) (by omega), gs (b + 29 + 11) (by omega) (by omega), gs (b + 29 + 12) (by omega) (by omega), gs (b + 29 + 13) (by omega) (by omega), gs (b + 29 + 14) (by omega) (by omega), gs (b + 29 + 15) (by omega) (by omega), gs (b + 29 + 16) (by omega) (by omega)]
    exact HM
  · refine ⟨?_, ?_, fun hh => absurd (show (0 : Int32) = 2 from hh) (by decide), ?_, ?_, ?_, ?_, ?_, ?_, ?_, fun i hi => absurd hi (by omega)⟩
    · rw [fx _ (by omega), c1]; exact z_e
    · rw [fx _ (by omega), c1]; exact z_e
    · rw [fx _ (by omega), c1]; exact z_e
    · rw [fx _ (by omega), c3]; rfl
    · rw [fx _ (by omega), c4]; rfl
    · rw [fx _ (by omega), c5]; rfl
    · unfold SupC at c6 ⊢
      rw [fx (b + 5) (by omega), fx (b + 4) (by omega)]; exact c6
    · unfold SupN at c7 ⊢
      rw [fx (b + 6) (by omega)]; exact c7
    · rw [fx _ (by omega), c8]; rfl
  · have m : ∀ k, am_z x2 (b + 46) 0 (b + 29) k = cu (cu (cu (cu (cu (fun _ => 0) 23 1000) 26 (-1)) 27 5) 28 20) 2 0 k := fun k => by rw [gx _ (by omega) (by omega), mM]
    refine ⟨?_, ?_, fun hh => absurd (show (0 : Int32) = 2 from hh) (by decide), ?_, ?_, ?_, ?_, ⟨fun j _ => ?_, ?_, ?_⟩, ?_, rfl⟩
    · rw [m]; rfl
    · rw [m]; rfl
    · rw [m]; rfl
    · rw [m]; rfl
    · rw [m]; rfl
    · rw [m]; rfl
    · rw [gx (b + 29 + 16) (by omega) (by omega), m16]; rfl
    · rw [m]; rfl
    · rw [m]; rfl
    · rw [m]; rfl
  · exact ⟨Or.inl rfl, fun hh => absurd (show (0 : Int32) = 2 from hh) (by decide), (show 0 < 500000 by decide), ⟨(show (0 : Int) ≤ 1000 by decide), (show (1000 : Int) ≤ 1000 by decide)⟩, ⟨(show (0 : Int) ≤ 0 by decide), (show (0 : Int) ≤ 500 by decide)⟩, ⟨by decide, by decide⟩, ⟨fun j _ => ⟨(show (0 : Int) ≤ 0 by decide), (show (0 : Int) ≤ 50 by decide)⟩, ⟨by decide, by decide⟩, by decide, by decide⟩, by decide, fun i hi => absurd hi (by omega)⟩
  · refine ⟨?_, ?_, by omega, fun j hj => absurd hj (by omega)⟩
    · rw [fx _ (by omega), c2]; rfl
    · rw [gx _ (by omega) (by omega), mM]; rfl
theorem law_all {L : Nat} {xs : Nat → Int32} (hL : L ≤ 1536) (b : Nat) : ∃ w1, f_La_law L xs (st_w b) = some (1, w1) := by
  obtain ⟨z1, hi1, hr1, sh1, e, R⟩ := law_RR (b := b)
  rw [e]
  exact lw_all hL R
end FHNEW
