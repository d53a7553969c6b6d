-- needs 56 57 58 59 60 61 62 63 64 65 66 67 68 69 70 71 72 73 74 75 76 77 78 79 80 81
/-! the reference's reader -/
section FRDR
variable {M z i : Nat} {sh : am_S} {hi x y base : am_I} {hr : am_R} {ch : Nat → Nat} {len p : Nat} {c : Nat → Int32} {S : Nat → Bool}
def TM (M : Nat) (hi : am_I) (ch : Nat → Nat) (len : Nat) : Prop := hi M 2 = nI len ∧ ∀ j, j < len → hi (M + 1) j = nI (ch j)
theorem m_look (H : Mst M sh hr) (hc : chB ch len) (ht : TM M hi ch len) (hp : hi M 3 = nI p) (hl : p ≤ len) : f_Mo_look M (z, sh, hi, hr) = some (nI (lkP ch len p), (z, sh, hi, hr)) := by
  have h64 := hc.1
  simp only [f_Mo_look, mg H, mp H, mo H, mr1 H, mr6 H, mr7 H, mr8 H, mr10 H, mr11 H, mr12 H, mr13 H, mr14 H, mr15 H, mr16 H, mr17 H, mr18 H, mr19 H, mr20 H, mr25 H, Option.bind_some, hp, ht.1, n_le (a := len) (b := p) (by omega) (by omega)]
  unfold lkP
  by_cases h1 : len ≤ p
  · rw [if_pos h1, if_neg (by omega)]
    rfl
  · rw [if_neg h1, if_pos (by omega)]
    simp only [mi1 H (show p < 64 by omega), ht.2 p (by omega), Option.bind_some]
theorem m_isDigit (H : Mst M sh hr) (hc : chB ch len) (ht : TM M hi ch len) (hp : hi M 3 = nI p) (hl : p ≤ len) : f_Mo_isDigit M (z, sh, hi, hr) = some (b1 (dgP ch len p).isSome, (z, sh, hi, hr)) := by
  have h126 := lk_le hc p
  have e48 : (nI (lkP ch len p) < (48 : Int32)) ↔ lkP ch len p < 48 := n_lt (a := lkP ch len p) (b := 48) (by omega) (by omega)
  have e57 : ((57 : Int32) < nI (lkP ch len p)) ↔ 57 < lkP ch len p := n_lt (a := 57) (b := lkP ch len p) (by omega) (by omega)
  simp only [f_Mo_isDigit, mg H, mp H, mo H, mr1 H, mr6 H, mr7 H, mr8 H, mr10 H, mr11 H, mr12 H, mr13 H, mr14 H, mr15 H, mr16 H, mr17 H, mr18 H, mr19 H, mr20 H, mr25 H, m_look H hc ht hp hl, Option.bind_some, e48, e57]
  unfold dgP
  by_cases h2 : lkP ch len p < 48
  · rw [if_pos h2, if_neg (by omega)]
    rfl
  · rw [if_neg h2]
    by_cases h3 : 57 < lkP ch len p
    · rw [if_pos h3, if_neg (by omega)]
      rfl
    · rw [if_neg h3, if_pos (by omega)]
      rfl
theorem TM_r (ht : TM M hi ch len) (h1 : x M 2 = hi M 2) (h2 : x (M + 1) = hi (M + 1)) : TM M x ch len := by
  unfold TM
  rw [h1, h2]
  exact ht
theorem TM_up (ht : TM M hi ch len) {k : Nat} {y : Int32} (h1 : k ≠ 2) : TM M (am_up hi M k y) ch len := TM_r ht (am_up_nk (by omega)) (by funext j; rw [am_up_na (by omega)])
theorem TM_a (ht : TM M hi ch len) {k : Nat} {y : Int32} : TM M (am_up hi (M + 2) k y) ch len := TM_r ht (am_up_na (by omega)) (by funext j; rw [am_up_na (by omega)])
theorem m_readNumber (H : Mst M sh hr) (hc : chB ch len) (ht : TM M hi ch len) (hp : hi M 3 = nI p) (hl : p ≤ len) : f_Mo_readNumber M (z, sh, hi, hr) = some (vI (numP ch len p).1, (z, sh, am_up hi M 3 (nI (numP ch len p).2), hr)) := by
  have hself : am_up hi M 3 (nI p) = hi := by rw [← hp]; exact up_self _ _ _
  simp only [f_Mo_readNumber, mg H, mp H, mo H, mr1 H, mr6 H, mr7 H, mr8 H, mr10 H, mr11 H, mr12 H, mr13 H, mr14 H, mr15 H, mr16 H, mr17 H, mr18 H, mr19 H, mr20 H, mr25 H, m_isDigit H hc ht hp hl, m_look H hc ht hp hl, Option.bind_some, b1_0, hp, n_s]
  unfold numP
  cases h1 : dgP ch len p with
  | none =>
    simp only [Option.isSome_none, if_true]
    rw [hself]
    rfl
  | some d =>
    have hd := dg_sp h1
    have e1 : nI (lkP ch len p) - (48 : Int32) = nI d ∧ lkP ch len p = d + 48 := by
      unfold dgP at h1
      split at h1
      · rename_i h2
        simp only [Option.some.injEq] at h1
        rw [← h1]
        exact ⟨pk_sub (b := 48) (by omega), by omega⟩
      · cases h1
    have e0 : (nI d ≤ (0 : Int32)) ↔ d ≤ 0 := n_le (a := d) (b := 0) (by omega) (by omega)
    simp only [Option.isSome_some, Bool.true_eq_false, if_false, e1.1, e0]
    by_cases h0 : d = 0
    · rw [if_pos (by omega), if_pos h0, h0]
      rfl
    · rw [if_neg (by omega), if_neg h0]
      simp only [m_isDigit H hc (TM_up ht (by omega)) (am_up_eq _ _ _ _) (show p + 1 ≤ len by omega), m_look H hc (TM_up ht (by omega)) (am_up_eq _ _ _ _) (show p + 1 ≤ len by omega), mg H, mp H, mo H, mr1 H, mr6 H, mr7 H, mr8 H, mr10 H, mr11 H, mr12 H, mr13 H, mr14 H, mr15 H, mr16 H, mr17 H, mr18 H, mr19 H, mr20 H, mr25 H, Option.bind_some, b1_0, am_up_eq, n_s, up_up]
      cases h2 : dgP ch len (p + 1) with
      | none =>
        simp only [Option.isSome_none, if_true]
        rfl
      | some e =>
        have he := dg_sp h2
        have e2 : lkP ch len (p + 1) = e + 48 := by
          unfold dgP at h2
          split at h2
          · simp only [Option.some.injEq] at h2
            omega
          · cases h2
        simp only [Option.isSome_some, Bool.true_eq_false, if_false, e2]
        have : (10 : Int32) * nI d + nI (e + 48) - (48 : Int32) = nI (10 * d + e) := by
          rw [show (10 : Int32) = nI 10 from rfl, pk_mul, n_add, show (48 : Int32) = nI 48 from rfl, pk_sub (by omega)]
          congr 1
        rw [this]
        rfl
theorem row_ix {r : Nat} : (8 : Int32) * nI r + nI i = nI (8 * r + i) := by rw [show (8 : Int32) = nI 8 from rfl, pk_mul, n_add]
theorem m_readInto (H : Mst M sh hr) (hc : chB ch len) (ht : TM M hi ch len) (hp : hi M 3 = nI p) (h4 : hi M 4 = nI i) (hl : p ≤ len) (hi8 : i < 8) {r : Nat} (hr9 : r < 9) : f_Mo_readInto M (nI r) (z, sh, hi, hr) = some (b1 (numP ch len p).1.isSome, (z, sh, am_up (am_up hi M 3 (nI (numP ch len p).2)) (M + 2) (8 * r + i) (vI (numP ch len p).1), hr)) := by
  simp only [f_Mo_readInto, mg H, mp H, mo H, mr1 H, mr6 H, mr7 H, mr8 H, mr10 H, mr11 H, mr12 H, mr13 H, mr14 H, mr15 H, mr16 H, mr17 H, mr18 H, mr19 H, mr20 H, mr25 H, m_readNumber H hc ht hp hl, Option.bind_some, am_up_nk (show (4 : Nat) ≠ 3 by decide), h4, row_ix, mw2 H (show 8 * r + i < 72 by omega)]
  have hn := num_sp (ch := ch) hl
  cases hv : (numP ch len p).1 with
  | none =>
    rw [if_pos (show vI none < 0 by decide)]
    rfl
  | some v =>
    have := hn.2.2 v hv
    rw [if_neg (show ¬ vI (some v) < 0 from nI_pos (by omega))]
    rfl
def frR (M : Nat) (base x : am_I) : Prop := (∀ k, k ≠ 3 → k ≠ 4 → k ≠ 5 → x M k = base M k) ∧ ∀ q, q ≠ M → q ≠ M + 2 → x q = base q
def colO (M i : Nat) (base x : am_I) : Prop := ∀ j, j % 8 ≠ i → x (M + 2) j = base (M + 2) j
def RM (M i : Nat) (base : am_I) (p : Nat) (c : Nat → Int32) (S : Nat → Bool) (x : am_I) : Prop := x M 3 = nI p ∧ x M 4 = nI i ∧ seenB 2 (x M 5) S ∧ (∀ k, k < 9 → x (M + 2) (8 * k + i) = c k) ∧ frR M base x ∧ colO M i base x
theorem frR_k {k : Nat} {v : Int32} (h : frR M base x) (hk : k = 3 ∨ k = 4 ∨ k = 5) : frR M base (am_up x M k v) := ⟨fun j h3 h4 h5 => by rw [am_up_nk (by omega)]; exact h.1 j h3 h4 h5, fun q h1 h2 => by rw [← h.2 q h1 h2]; funext j; rw [am_up_na h1]⟩
theorem frR_2 {k : Nat} {v : Int32} (h : frR M base x) : frR M base (am_up x (M + 2) k v) := ⟨fun j h3 h4 h5 => by rw [am_up_na (by omega)]; exact h.1 j h3 h4 h5, fun q h1 h2 => by rw [← h.2 q h1 h2]; funext j; rw [am_up_na h2]⟩
theorem frR.tr (h1 : frR M base x) (h2 : frR M x y) : frR M base y := ⟨fun k a b c => (h2.1 k a b c).trans (h1.1 k a b c), fun q a b => (h2.2 q a b).trans (h1.2 q a b)⟩
theorem frR_T (h : frR M base x) (ht : TM M base ch len) : TM M x ch len := TM_r ht (h.1 2 (by decide) (by decide) (by decide)) (h.2 _ (by omega) (by omega))
theorem colO_k {k : Nat} {v : Int32} (h : colO M i base x) : colO M i base (am_up x M k v) := fun j hj => by rw [am_up_na (by omega)]; exact h j hj
theorem colO_2 {k : Nat} {v : Int32} (h : colO M i base x) (hk : k % 8 = i) : colO M i base (am_up x (M + 2) k v) := fun j hj => by rw [am_up_nk (by omega)]; exact h j hj
theorem m_rowOf {g : Nat} (hg : g ≤ 126) (w : am_w) : f_Mo_rowOf (nI g) w = some ((match kdP g with | none => (-1 : Int32) | some k => nI (k + 2)), w) := by
  have k : ∀ y : Nat, y ≤ 126 → ((nI g = nI y) ↔ g = y) := fun y hy => n_inj (by omega) (by omega)
  have k1 : (nI g = (69 : Int32)) ↔ g = 69 := k 69 (by omega)
  have k2 : (nI g = (68 : Int32)) ↔ g = 68 := k 68 (by omega)
  have k3 : (nI g = (72 : Int32)) ↔ g = 72 := k 72 (by omega)
  have k4 : (nI g = (60 : Int32)) ↔ g = 60 := k 60 (by omega)
  have k5 : (nI g = (42 : Int32)) ↔ g = 42 := k 42 (by omega)
  simp only [f_Mo_rowOf, k1, k2, k3, k4, k5, kdP]
  by_cases c1 : g = 69
  · simp only [if_pos c1]; rfl
  · by_cases c2 : g = 68
    · simp only [if_neg c1, if_pos c2]; rfl
    · by_cases c3 : g = 72
      · simp only [if_neg c1, if_neg c2, if_pos c3]; rfl
      · by_cases c4 : g = 60
        · simp only [if_neg c1, if_neg c2, if_neg c3, if_pos c4]; rfl
        · by_cases c5 : g = 42
          · simp only [if_neg c1, if_neg c2, if_neg c3, if_neg c4, if_pos c5]; rfl
          · simp only [if_neg c1, if_neg c2, if_neg c3, if_neg c4, if_neg c5]
def optA (o : Nat × Option (Bool × (Nat → Int32) × (Nat → Bool))) : Int32 := match o.2 with
  | none => -1
  | some (true, _, _) => 1
  | some (false, _, _) => 0
theorem m_option (H : Mst M sh hr) (hc : chB ch len) (ht : TM M base ch len) (hi8 : i < 8) (hl : p ≤ len) (hx : RM M i base p c S x) : ∃ y, f_Mo_readOption M (z, sh, x, hr) = some (optA (optP ch len p c S), (z, sh, y, hr)) ∧ y M 3 = nI (optP ch len p c S).1 ∧ frR M base y ∧ ∀ g c2 S2, (optP ch len p c S).2 = some (g, c2, S2) → RM M i base (optP ch len p c S).1 c2 S2 y := by
  obtain ⟨x3, x4, x5, x6, x7, x8⟩ := hx
  have hT := frR_T x7 ht
  have h126 := lk_le hc p
  have lk := m_look (z := z) H hc hT x3 hl
  have e62 : (nI (lkP ch len p) = (62 : Int32)) ↔ lkP ch len p = 62 := n_inj (a := lkP ch len p) (b := 62) (by omega) (by omega)
  have e47 : (nI (lkP ch len p) = (47 : Int32)) ↔ lkP ch len p = 47 := n_inj (a := lkP ch len p) (b := 47) (by omega) (by omega)
  have red : f_Mo_readOption M (z, sh, x, hr) = (match kdP (lkP ch len p) with
    | none => (if lkP ch len p = 62 then (s_Mo_readOption_78 M (nI (lkP ch len p)) (z, sh, x, hr)) else (if lkP ch len p = 47 then (s_Mo_readOption_78 M (nI (lkP ch len p)) (z, sh, x, hr)) else (some ((0 : Int32), (z, sh, x, hr)))))
    | some k => (if tb (x M 5) (k + 2) = true then (some ((-1 : Int32), (z, sh, x, hr))) else ((f_Mo_readInto M (nI (k + 2)) (z, sh, am_up (am_up x M 5 (x M 5 ||| ((1 : Int32) <<< (nI (k + 2) &&& 31)))) M 3 (nI (p + 1)), hr)).bind fun q20 => (if q20.1 = 0 then (some ((-1 : Int32), q20.2)) else (some ((1 : Int32), q20.2)))))) := by
    simp only [f_Mo_readOption, mg H, mp H, mo H, mr1 H, mr6 H, mr7 H, mr8 H, mr10 H, mr11 H, mr12 H, mr13 H, mr14 H, mr15 H, mr16 H, mr17 H, mr18 H, mr19 H, mr20 H, mr25 H, lk, Option.bind_some, m_rowOf h126]
    cases hk : kdP (lkP ch len p) with
    | none =>
      simp only []
      rw [if_pos (show (-1 : Int32) < 0 by decide)]
      simp only [e62, e47]
    | some k =>
      have hk5 := (kd_sp hk).1
      simp only []
      rw [if_neg (show ¬ nI (k + 2) < 0 from nI_pos (by omega))]
      simp only [tb_1, am_up_nk (show (3 : Nat) ≠ 5 by decide), x3, n_s]
  rw [red]
  cases hkd : kdP (lkP ch len p) with
  | none =>
    simp only []
    by_cases hlink : lkP ch len p = 62 ∨ lkP ch len p = 47
    · have goal2 : (if lkP ch len p = 62 then (s_Mo_readOption_78 M (nI (lkP ch len p)) (z, sh, x, hr)) else (if lkP ch len p = 47 then (s_Mo_readOption_78 M (nI (lkP ch len p)) (z, sh, x, hr)) else (some ((0 : Int32), (z, sh, x, hr))))) = s_Mo_readOption_78 M (nI (lkP ch len p)) (z, sh, x, hr) := by
        rcases hlink with hh | hh
        · rw [if_pos hh]
        · by_cases h62 : lkP ch len p = 62
          · rw [if_pos h62]
          · rw [if_neg h62, if_pos hh]
      rw [goal2]
      have hll := lk_lt (ch := ch) (len := len) (p := p) (by omega)
      have hT1 : TM M (am_up x M 3 (nI (p + 1))) ch len := TM_up hT (by omega)
      have lk1 := m_look (z := z) H hc hT1 (am_up_eq _ _ _ _) (show p + 1 ≤ len by omega)
      have h126b := lk_le hc (p + 1)
      have e97 : (nI (lkP ch len (p + 1)) < (97 : Int32)) ↔ lkP ch len (p + 1) < 97 := n_lt (a := lkP ch len (p + 1)) (b := 97) (by omega) (by omega)
      have e122 : (nI (lkP ch len (p + 1)) ≤ (122 : Int32)) ↔ lkP ch len (p + 1) ≤ 122 := n_le (a := lkP ch len (p + 1)) (b := 122) (by omega) (by omega)
      by_cases h2 : 97 ≤ lkP ch len (p + 1) ∧ lkP ch len (p + 1) ≤ 122
      · have ho : optP ch len p c S = (p + 2, some (true, cu c (if lkP ch len p = 62 then 7 else 8) (c (if lkP ch len p = 62 then 7 else 8) ||| ((1 : Int32) <<< (nI (lkP ch len (p + 1) - 97) &&& 31))), S)) := by
          simp only [optP, hkd, if_pos hlink, if_pos h2]
        rw [ho]
        have hs : nI (lkP ch len (p + 1)) - (97 : Int32) = nI (lkP ch len (p + 1) - 97) := pk_sub (b := 97) (by omega)
        have s121 : ∀ s : Nat, s = 7 ∨ s = 8 → s_Mo_readOption_121 M (nI (8 * s)) (z, sh, am_up x M 3 (nI (p + 1)), hr) = some (1, (z, sh, am_up (am_up (am_up x M 3 (nI (p + 1))) (M + 2) (8 * s + i) (c s ||| ((1 : Int32) <<< (nI (lkP ch len (p + 1) - 97) &&& 31)))) M 3 (nI (p + 2)), hr)) := by
          intro s hs7
          have hcs : (am_up x M 3 (nI (p + 1))) (M + 2) (8 * s + i) = c s := by rw [am_up_na (by omega)]; exact x6 s (by omega)
          simp only [s_Mo_readOption_121, mg H, mp H, mo H, mr1 H, mr6 H, mr7 H, mr8 H, mr10 H, mr11 H, mr12 H, mr13 H, mr14 H, mr15 H, mr16 H, mr17 H, mr18 H, mr19 H, mr20 H, mr25 H, Option.bind_some, am_up_nk (show (4 : Nat) ≠ 3 by decide), x4, n_add, mi2 H (show 8 * s + i < 72 by omega), mw2 H (show 8 * s + i < 72 by omega), lk1, hs, hcs, am_up_na (show M ≠ M + 2 by omega), am_up_eq, n_s]
        have RMy : ∀ s : Nat, s = 7 ∨ s = 8 → RM M i base (p + 2) (cu c s (c s ||| ((1 : Int32) <<< (nI (lkP ch len (p + 1) - 97) &&& 31)))) S (am_up (am_up (am_up x M 3 (nI (p + 1))) (M + 2) (8 * s + i) (c s ||| ((1 : Int32) <<< (nI (lkP ch len (p + 1) - 97) &&& 31)))) M 3 (nI (p + 2))) := by
          intro s hs7
          refine ⟨am_up_eq _ _ _ _, by rw [am_up_nk (by decide), am_up_na (by omega), am_up_nk (by decide)]; exact x4, by rw [am_up_nk (by decide), am_up_na (by omega), am_up_nk (by decide)]; exact x5, fun k hk => ?_, frR_k (frR_2 (frR_k x7 (by omega))) (by omega), colO_k (colO_2 (colO_k x8) (by omega))⟩
          rw [am_up_na (by omega)]
          by_cases h1 : k = s
          · rw [h1, am_up_eq, cu_e]
          · rw [am_up_nk (by omega), am_up_na (by omega), cu_n _ _ _ _ h1]; exact x6 k hk
        by_cases h62 : lkP ch len p = 62
        · refine ⟨am_up (am_up (am_up x M 3 (nI (p + 1))) (M + 2) (8 * 7 + i) (c 7 ||| ((1 : Int32) <<< (nI (lkP ch len (p + 1) - 97) &&& 31)))) M 3 (nI (p + 2)), ?_, (RMy 7 (by omega)).1, (RMy 7 (by omega)).2.2.2.2.1, ?_⟩
          · have := s121 7 (by omega)
            have e56 : s_Mo_readOption_121 M (56 : Int32) (z, sh, am_up x M 3 (nI (p + 1)), hr) = _ := this
            simp only [s_Mo_readOption_78, mg H, mp H, mo H, mr1 H, mr6 H, mr7 H, mr8 H, mr10 H, mr11 H, mr12 H, mr13 H, mr14 H, mr15 H, mr16 H, mr17 H, mr18 H, mr19 H, mr20 H, mr25 H, Option.bind_some, x3, n_s, lk1, e97, e122, if_neg (show ¬ lkP ch len (p + 1) < 97 by omega), if_pos h2.2, e62, if_pos h62, e56, optA]
          · intro g c2 S2 h
            simp only [if_pos h62, Option.some.injEq, Prod.mk.injEq] at h
            obtain ⟨-, rfl, rfl⟩ := h
            exact RMy 7 (by omega)
        · refine ⟨am_up (am_up (am_up x M 3 (nI (p + 1))) (M + 2) (8 * 8 + i) (c 8 ||| ((1 : Int32) <<< (nI (lkP ch len (p + 1) - 97) &&& 31)))) M 3 (nI (p + 2)), ?_, (RMy 8 (by omega)).1, (RMy 8 (by omega)).2.2.2.2.1, ?_⟩
          · have := s121 8 (by omega)
            have e64 : s_Mo_readOption_121 M (64 : Int32) (z, sh, am_up x M 3 (nI (p + 1)), hr) = _ := this
            simp only [s_Mo_readOption_78, mg H, mp H, mo H, mr1 H, mr6 H, mr7 H, mr8 H, mr10 H, mr11 H, mr12 H, mr13 H, mr14 H, mr15 H, mr16 H, mr17 H, mr18 H, mr19 H, mr20 H, mr25 H, Option.bind_some, x3, n_s, lk1, e97, e122, if_neg (show ¬ lkP ch len (p + 1) < 97 by omega), if_pos h2.2, e62, if_neg h62, e64, optA]
          · intro g c2 S2 h
            simp only [if_neg h62, Option.some.injEq, Prod.mk.injEq] at h
            obtain ⟨-, rfl, rfl⟩ := h
            exact RMy 8 (by omega)
      · have ho : optP ch len p c S = (p + 1, none) := by
          simp only [optP, hkd, if_pos hlink, if_neg h2]
        rw [ho]
        refine ⟨am_up x M 3 (nI (p + 1)), ?_, am_up_eq _ _ _ _, frR_k x7 (by omega), fun g c2 S2 h => by cases h⟩
        by_cases h3 : lkP ch len (p + 1) < 97
        · simp only [s_Mo_readOption_78, mg H, mp H, mo H, mr1 H, mr6 H, mr7 H, mr8 H, mr10 H, mr11 H, mr12 H, mr13 H, mr14 H, mr15 H, mr16 H, mr17 H, mr18 H, mr19 H, mr20 H, mr25 H, Option.bind_some, x3, n_s, lk1, e97, if_pos h3, optA]
        · simp only [s_Mo_readOption_78, mg H, mp H, mo H, mr1 H, mr6 H, mr7 H, mr8 H, mr10 H, mr11 H, mr12 H, mr13 H, mr14 H, mr15 H, mr16 H, mr17 H, mr18 H, mr19 H, mr20 H, mr25 H, Option.bind_some, x3, n_s, lk1, e97, e122, if_neg h3, if_neg (show ¬ lkP ch len (p + 1) ≤ 122 by omega), optA]
    · have h62 : ¬ lkP ch len p = 62 := fun hh => hlink (Or.inl hh)
      have h47 : ¬ lkP ch len p = 47 := fun hh => hlink (Or.inr hh)
      have ho : optP ch len p c S = (p, some (false, c, S)) := by
        simp only [optP, hkd, if_neg hlink]
      rw [if_neg h62, if_neg h47, ho]
      refine ⟨x, rfl, x3, x7, fun g c2 S2 h => ?_⟩
      simp only [Option.some.injEq, Prod.mk.injEq] at h
      obtain ⟨-, rfl, rfl⟩ := h
      exact ⟨x3, x4, x5, x6, x7, x8⟩
  | some k =>
    have hk5 := (kd_sp hkd).1
    have hll := lk_lt (kd_sp hkd).2
    simp only []
    rw [x5 k hk5]
    rcases Bool.eq_false_or_eq_true (S k) with hS | hS
    · have ho : optP ch len p c S = (p, none) := by
        simp only [optP, hkd, if_pos hS]
      rw [if_pos hS, ho]
      exact ⟨x, rfl, x3, x7, fun g c2 S2 h => by cases h⟩
    · rw [if_neg (by rw [hS]; decide)]
      have hT1 : TM M (am_up (am_up x M 5 (x M 5 ||| ((1 : Int32) <<< (nI (k + 2) &&& 31)))) M 3 (nI (p + 1))) ch len := TM_up (TM_up hT (by omega)) (by omega)
      rw [m_readInto H hc hT1 (am_up_eq _ _ _ _) (by rw [am_up_nk (by decide), am_up_nk (by decide)]; exact x4) (show p + 1 ≤ len by omega) hi8 (show k + 2 < 9 by omega)]
      simp only [Option.bind_some, up_up, b1_0]
      have f0 : frR M base (am_up (am_up (am_up x M 5 (x M 5 ||| ((1 : Int32) <<< (nI (k + 2) &&& 31)))) M 3 (nI (numP ch len (p + 1)).2)) (M + 2) (8 * (k + 2) + i) (vI (numP ch len (p + 1)).1)) := frR_2 (frR_k (frR_k x7 (by omega)) (by omega))
      cases hv : (numP ch len (p + 1)).1 with
      | none =>
        have ho : optP ch len p c S = ((numP ch len (p + 1)).2, none) := by
          simp only [optP, hkd, hS, Bool.false_eq_true, if_false, hv]
        rw [ho]
        simp only [Option.isSome_none, if_true]
        rw [hv] at f0
        exact ⟨_, rfl, by rw [am_up_na (by omega), am_up_eq], f0, fun g c2 S2 h => by cases h⟩
      | some v0 =>
        have ho : optP ch len p c S = ((numP ch len (p + 1)).2, some (true, cu c (k + 2) (nI v0), fun j => S j || decide (j = k))) := by
          simp only [optP, hkd, hS, Bool.false_eq_true, if_false, hv]
        rw [ho]
        simp only [Option.isSome_some, Bool.true_eq_false, if_false]
        rw [hv] at f0
        refine ⟨_, rfl, by rw [am_up_na (by omega), am_up_eq], f0, fun g c2 S2 h => ?_⟩
        simp only [Option.some.injEq, Prod.mk.injEq] at h
        obtain ⟨-, rfl, rfl⟩ := h
        refine ⟨by rw [am_up_na (by omega), am_up_eq], by rw [am_up_na (by omega), am_up_nk (by decide), am_up_nk (by decide)]; exact x4, ?_, fun k2 hk2 => ?_, f0, colO_2 (colO_k (colO_k x8)) (by omega)⟩
        · rw [am_up_na (by omega), am_up_nk (by decide), am_up_eq]
          exact seen_or (by omega) x5 hk5
        · by_cases h1 : k2 = k + 2
          · rw [h1, am_up_eq, cu_e]; rfl
          · rw [am_up_nk (by omega), am_up_na (by omega), am_up_na (by omega), cu_n _ _ _ _ h1]; exact x6 k2 hk2
end FRDR
