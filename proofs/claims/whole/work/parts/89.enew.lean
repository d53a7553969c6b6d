-- needs 88 89a 89b 89c 89d
/-! what is made at the start -/
section FNEW
variable {b P M z : Nat} {sh : am_S} {hi : am_I} {hr : am_R}
theorem sh_e {q : Nat} {e : Nat ⊕ (FieldType × Nat)} : am_sh sh q e q = some e := if_pos rfl
theorem sh_n {q x : Nat} {e : Nat ⊕ (FieldType × Nat)} (h : x ≠ q) : am_sh sh q e x = sh x := if_neg h
theorem z_e {α : Type} {f : Nat → Nat → α} {q j : Nat} {v : α} : am_z f q v q j = v := if_pos rfl
theorem z_n {α : Type} {f : Nat → Nat → α} {q x : Nat} {v : α} (h : x ≠ q) : am_z f q v x = f x := by funext j; exact if_neg h
theorem nw_t {e : Nat ⊕ (FieldType × Nat)} : am_nw e (z, sh, hi, hr) = (z + 1, am_sh sh z e, am_z hi z 0, am_z hr z none) := rfl
theorem loop_bot {τ σ α : Type} {bot : τ} {F : τ → τ} (ap : τ → Nat → σ → α) (n : Nat) (I : Nat → σ → Prop) (hs : ∀ t j x, j < n → I j x → ∃ y, I (j + 1) y ∧ ap (F t) j x = ap t (j + 1) y) : ∀ d j x, j + d = n → I j x → ∃ y, I n y ∧ ap (am_it bot F d) j x = ap bot n y := by
  intro d
  induction d with
  | zero =>
    intro j x hj hx
    have : j = n := by omega
    subst this
    exact ⟨x, hx, rfl⟩
  | succ d ih =>
    intro j x hj hx
    obtain ⟨y, hy, e⟩ := hs (am_it bot F d) j x (by omega) hx
    rw [it_s, e]
    exact ih (j + 1) y (by omega) hy
def pl_b (v : Int32) (w : am_w) : Option (Int32 × am_w) := if (8 : Int32) ≤ v then some (0, w) else none
def pl_s (P : Nat) (T : Int32 → am_w → Option (Int32 × am_w)) (v : Int32) (w : am_w) : Option (Int32 × am_w) := if (8 : Int32) ≤ v then some (0, w) else ((am_rg 5 0 P w).bind fun b4 => (am_let (am_nw (.inl 6) w) fun w5 => ((f_Activity_init w.1 w5).bind fun q7 => ((am_as9 "RoverMinutes$Activity" 6 b4 v w.1 q7.2).bind fun w8 => T (v + (1 : Int32)) w8))))
theorem pl_eq (w : am_w) : f_Plan_init P w = am_let (am_nw (.inr (.object "RoverMinutes$Activity", 8)) w) fun w1 => (am_rp 5 0 P w.1 w1).bind fun w3 => am_it pl_b (pl_s P) 8 (0 : Int32) w3 := rfl
theorem i_plan (hs : sh P = some (.inl 5)) : ∃ sh1 hi1 hr1, f_Plan_init P (P + 1, sh, hi, hr) = some (0, (P + 10, sh1, hi1, hr1)) ∧ Pst P sh1 hr1 ∧ (∀ q, q < P → sh1 q = sh q ∧ hr1 q = hr q) ∧ ∀ q, q ≤ P → hi1 q = hi q := by
  obtain ⟨y, ⟨sh1, hi1, hr1, rfl, i1, i2, i3, i4, i5, i6⟩, e⟩ := loop_bot (bot := pl_b) (F := pl_s P) (fun T j w => T (nI j) w) 8 (fun j w => ∃ sh1 hi1 hr1, w = (P + 2 + j, sh1, hi1, hr1) ∧ sh1 P = some (.inl 5) ∧ sh1 (P + 1) = some (.inr (.object "RoverMinutes$Activity", 8)) ∧ hr1 P 0 = some (P + 1) ∧ (∀ i, i < j → hr1 (P + 1) i = some (P + 2 + i) ∧ sh1 (P + 2 + i) = some (.inl 6)) ∧ (∀ q, q < P → sh1 q = sh q ∧ hr1 q = hr q) ∧ ∀ q, q ≤ P → hi1 q = hi q) (by
    rintro T j w hj ⟨sh1, hi1, hr1, rfl, i1, i2, i3, i4, i5, i6⟩
    refine ⟨_, ⟨am_sh sh1 (P + 2 + j) (.inl 6), am_z hi1 (P + 2 + j) 0, am_up (am_z hr1 (P + 2 + j) none) (P + 1) j (some (P + 2 + j)), rfl, by rw [sh_n (by omega)]; exact i1, by rw [sh_n (by omega)]; exact i2, by rw [am_up_na (by omega), z_n (by omega)]; exact i3, fun i hi => ?_, fun q hq => ⟨by rw [sh_n (by omega)]; exact (i5 q hq).1, ?_⟩, fun q hq => by rw [z_n (by omega)]; exact i6 q hq⟩, ?_⟩
    · by_cases h1 : i = j
      · subst h1; exact ⟨am_up_eq _ _ _ _, sh_e⟩
      · rw [am_up_nk h1, z_n (by omega), sh_n (by omega)]; exact i4 i (by omega)
    · rw [← (i5 q hq).2]; funext k; rw [am_up_na (by omega), z_n (by omega)]
    · have a1 : am_sh sh1 (P + 2 + j) (.inl 6) (P + 1) = some (.inr (.object "RoverMinutes$Activity", 8)) := by rw [sh_n (by omega)]; exact i2
      have a2 : am_sh sh1 (P + 2 + j) (.inl 6) (P + 2 + j) = some (.inl 6) := sh_e
      simp only [pl_s]
      rw [if_neg (show ¬ (8 : Int32) ≤ nI j from nI_ge (b := 8) hj (by decide))]
      simp only [fl_rg i1 i3, Option.bind_some, am_let, nw_t, f_Activity_init, am_as9, a1, a2, fl_nin hj (by decide), not_false_eq_true, and_self, if_true, am_wr, nI_clamp (show j < 2 ^ 31 by omega), n_s]
      rw [if_pos ⟨trivial, trivial, fun hh => hh.elim (nI_pos (by omega)) (fun h8 => by omega)⟩]
      rfl) 8 0 (P + 2, am_sh sh (P + 1) (.inr (.object "RoverMinutes$Activity", 8)), am_z hi (P + 1) 0, am_up (am_z hr (P + 1) none) P 0 (some (P + 1))) (by omega) ⟨_, _, _, rfl, by rw [sh_n (by omega)]; exact hs, sh_e, am_up_eq _ _ _ _, fun i hi => by omega, fun q hq => ⟨sh_n (by omega), by funext k; rw [am_up_na (by omega), z_n (by omega)]⟩, fun q hq => z_n (by omega)⟩
  refine ⟨sh1, hi1, hr1, ?_, ⟨i1, i2, i3, i4⟩, i5, i6⟩
  have a1 : am_sh sh (P + 1) (.inr (.object "RoverMinutes$Activity", 8)) P = some (.inl 5) := by rw [sh_n (by omega)]; exact hs
  rw [pl_eq]
  simp only [am_let, nw_t, fl_rp a1, Option.bind_some]
  exact e
def Sst (b : Nat) (sh : am_S) (hr : am_R) : Prop := sh (b + 4) = some (.inl 3) ∧ sh (b + 5) = some (.inr (.int, 24)) ∧ sh (b + 6) = some (.inr (.int, 24)) ∧ hr (b + 4) 5 = some (b + 5) ∧ hr (b + 4) 6 = some (b + 6)
theorem nd_100 : ∀ p, ndF (fun _ => 0) 20 p 5 = 100 := by
  intro p
  have h : ndS (ndS (ndS (ndS (ndS 0 0 20) 0 20) 0 20) 0 20) 0 20 = 100 := by decide
  exact h
theorem i_needFrom (H : Sst b sh hr) (h5 : ∀ j, j < 24 → hi (b + 5) j = 0) (h3 : hi (b + 4) 3 = 5) (h4 : hi (b + 4) 4 = 20) {p : Nat} (hp : p < 24) : f_Supply_needFrom (b + 4) (nI p) (z, sh, hi, hr) = some (100, (z, sh, hi, hr)) := by
  have ig : ∀ k, k < 24 → am_ig (b + 5) (nI k) (z, sh, hi, hr) = some 0 := fun k hk => by rw [← h5 k hk]; exact fl_ig H.2.1 hk (by decide)
  have st : ∀ (T : Nat → Int32 → Int32 → Int32 → am_w → Option (Int32 × am_w)) (a c : Nat), 1 ≤ c → c ≤ 5 → a ≤ 80 → s_Supply_needFrom_7 T (b + 4) (nI p) (nI a) (nI c) (z, sh, hi, hr) = T (b + 4) (nI p) (nI (a + 20)) (nI (c - 1)) (z, sh, hi, hr) := by
    intro T a c c1 c2 ha
    obtain ⟨c, rfl⟩ : ∃ d, c = d + 1 := ⟨c - 1, by omega⟩
    simp only [s_Supply_needFrom_7]
    rw [if_neg (show ¬ (nI (c + 1) < 1) from nI_nlt (a := c + 1) (b := 1) (by omega) (by omega))]
    simp only [fl_fg H.1, fl_rg H.1 H.2.2.2.1, Option.bind_some, h4, n_add, mod24 (show p + (c + 1) < 1000000 by omega), ig _ (show (p + (c + 1)) % 24 < 24 by omega), am_let, show nI a + (20 : Int32) = nI (a + 20) from n_add a 20, Int32.sub_zero]
    rw [if_pos (show (0 : Int32) < nI (a + 20) from nI_lt (a := 0) (by omega) (by omega)), if_pos (show nI (a + 20) ≤ (1000 : Int32) from nI_le (b := 1000) (by omega) (by omega)), show nI (c + 1) + (-1 : Int32) = nI c from pk_m1 c]
    rfl
  have en : ∀ (T : Nat → Int32 → Int32 → Int32 → am_w → Option (Int32 × am_w)), s_Supply_needFrom_7 T (b + 4) (nI p) (nI 100) (nI 0) (z, sh, hi, hr) = some (100, (z, sh, hi, hr)) := by
    intro T
    simp only [s_Supply_needFrom_7]
    rw [if_pos (by decide)]
    rfl
  have key : am_it (fun _ _ _ _ _ => none) s_Supply_needFrom_7 70 (b + 4) (nI p) (nI 0) (nI 5) (z, sh, hi, hr) = some (100, (z, sh, hi, hr)) := by
    rw [show (70 : Nat) = 64 + 1 + 1 + 1 + 1 + 1 + 1 from rfl, it_s, st _ 0 5 (by omega) (by omega) (by omega), it_s, st _ 20 4 (by omega) (by omega) (by omega), it_s, st _ 40 3 (by omega) (by omega) (by omega), it_s, st _ 60 2 (by omega) (by omega) (by omega), it_s, st _ 80 1 (by omega) (by omega) (by omega), it_s]
    exact en _
  simp only [f_Supply_needFrom, fl_fg H.1, Option.bind_some, h3, f_Supply_needFrom_7]
  exact key
theorem i_reckon (H : Sst b sh hr) (h5 : ∀ j, j < 24 → hi (b + 5) j = 0) (h3 : hi (b + 4) 3 = 5) (h4 : hi (b + 4) 4 = 20) : ∃ hi2, f_Supply_reckonNeeds (b + 4) (z, sh, hi, hr) = some (0, (z, sh, hi2, hr)) ∧ (∀ q, q ≠ b + 6 → hi2 q = hi q) ∧ ∀ j, j < 24 → hi2 (b + 6) j = 100 := by
  have hl := loop_fold (bot := fun _ _ _ => none) (F := s_Supply_reckonNeeds_2) (fun T j x => T (b + 4) (nI j) (z, sh, x, hr)) (fun x j => am_up x (b + 6) j 100) (fun x => some (0, (z, sh, x, hr))) 24 (fun x => ∀ q, q ≠ b + 6 → x q = hi q) (fun j x _ hx => by
      intro q hq
      funext k
      rw [am_up_na hq, hx q hq]) (by
    intro T j x hj hx
    simp only [s_Supply_reckonNeeds_2]
    rw [if_neg (show ¬ (24 : Int32) ≤ nI j from nI_ge (b := 24) hj (by decide))]
    simp only [fl_rg H.1 H.2.2.2.2, fl_ob H.1, i_needFrom (z := z) (hi := x) H (fun k hk => by rw [hx _ (by omega)]; exact h5 k hk) (by rw [hx _ (by omega)]; exact h3) (by rw [hx _ (by omega)]; exact h4) hj, Option.bind_some, fl_is H.2.2.1 hj (by decide), n_s]) (by
    intro T x hx
    simp only [s_Supply_reckonNeeds_2]
    rw [if_pos (by decide)]) 24 0 hi 70 (by omega) (by omega) (fun _ _ => rfl)
  refine ⟨foldN (fun x j => am_up x (b + 6) j 100) hi 0 24, ?_, ?_, ?_⟩
  · simp only [f_Supply_reckonNeeds, f_Supply_reckonNeeds_2]
    exact hl
  · intro q hq
    rw [fold_col (b + 6) (fun _ => 100)]
    funext k
    exact if_neg (by omega)
  · intro j hj
    rw [fold_col (b + 6) (fun _ => 100)]
    exact if_pos ⟨rfl, by omega, by omega⟩
end FNEW
