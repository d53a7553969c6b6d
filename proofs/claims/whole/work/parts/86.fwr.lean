-- needs 56 57 58 59 60 61 62 77 84
/-! what is wrong, and rings, on both sides -/
def wrongB (cs : Nat → Nat → Int32) (n i : Nat) : Bool := decide (cs i 0 < 1) || decide ((30 : Int32) < cs i 1) || decide (cs i 1 < cs i 0) || decide ((3 : Int32) < cs i 6) || !decide (((cs i 7 ||| cs i 8) >>> (nI n &&& 31)) = 0) || tb (cs i 7 ||| cs i 8) i
section FWR
variable {Q M z n i : Nat} {sh : am_S} {hi x : am_I} {hr : am_R} {cs : Nat → Nat → Int32}
def DC (Q n : Nat) (cs : Nat → Nat → Int32) (x : am_I) : Prop := x Q 1 = nI n ∧ ∀ j, j < n → ∀ k, k < 9 → x (Q + 2 + j) k = cs j k
def DM (M n : Nat) (cs : Nat → Nat → Int32) (x : am_I) : Prop := x M 4 = nI n ∧ ∀ j, j < n → ∀ k, k < 9 → x (M + 2) (8 * k + j) = cs j k
theorem e_wrong (h : Pst Q sh hr) (hn : n ≤ 8) (hD : DC Q n cs x) (hi : i < n) : f_Plan_saysWrong Q (nI i) (z, sh, x, hr) = some (b1 (wrongB cs n i), (z, sh, x, hr)) := by
  have i8 : i < 8 := by omega
  simp only [f_Plan_saysWrong, pr h, pa h i8, pg h, ag h i8, Option.bind_some, hD.1, hD.2 i hi 0 (by omega), hD.2 i hi 1 (by omega), hD.2 i hi 6 (by omega), hD.2 i hi 7 (by omega), hD.2 i hi 8 (by omega)]
  have hw := wrong_bits (cs i 7 ||| cs i 8) hn i8
  unfold wrongB
  by_cases c1 : cs i 0 < 1
  · simp only [if_pos c1, c1, decide_true, Bool.true_or]; rfl
  · by_cases c2 : (30 : Int32) < cs i 1
    · simp only [if_neg c1, if_pos c2, c2, decide_true, Bool.true_or, Bool.or_true]; rfl
    · by_cases c3 : cs i 1 < cs i 0
      · simp only [if_neg c1, if_neg c2, if_pos c3, c3, decide_true, Bool.true_or, Bool.or_true]; rfl
      · by_cases c4 : (3 : Int32) < cs i 6
        · simp only [if_neg c1, if_neg c2, if_neg c3, if_pos c4, c4, decide_true, Bool.true_or, Bool.or_true]; rfl
        · simp only [if_neg c1, if_neg c2, if_neg c3, if_neg c4, c1, c2, c3, c4, decide_false, Bool.false_or]
          by_cases c5 : ((cs i 7 ||| cs i 8) >>> (nI n &&& 31)) = 0
          · rcases Bool.eq_false_or_eq_true (tb (cs i 7 ||| cs i 8) i) with c6 | c6
            · have hne := (not_congr hw).mpr (fun hh => by have := hh.2; rw [c6] at this; cases this)
              rw [if_neg hne]
              simp only [c6, Bool.or_true]
              rfl
            · rw [if_pos (hw.mpr ⟨c5, c6⟩)]
              simp [c5, c6, b1]
          · have hne := (not_congr hw).mpr (fun hh => c5 hh.1)
            rw [if_neg hne]
            simp only [c5, decide_false, Bool.not_false, Bool.true_or]
            rfl
theorem m_wrong (H : Mst M sh hr) (hn : n ≤ 8) (hD : DM M n cs x) (hi : i < n) : f_Mo_isWrong M (nI i) (z, sh, x, hr) = some (b1 (wrongB cs n i), (z, sh, x, hr)) := by
  have i8 : i < 8 := by omega
  have e0 : x (M + 2) i = cs i 0 := by have := hD.2 i hi 0 (by omega); rwa [show 8 * 0 + i = i by omega] at this
  have e1 : x (M + 2) (8 + i) = cs i 1 := hD.2 i hi 1 (by omega)
  have e6 : x (M + 2) (48 + i) = cs i 6 := hD.2 i hi 6 (by omega)
  have e7 : x (M + 2) (56 + i) = cs i 7 := hD.2 i hi 7 (by omega)
  have e8 : x (M + 2) (64 + i) = cs i 8 := hD.2 i hi 8 (by omega)
  simp only [f_Mo_isWrong, s_Mo_isWrong_58, s_Mo_isWrong_59, mg H, mp H, mo H, mr1 H, mr6 H, mr7 H, mr8 H, mr10 H, mr11 H, mr12 H, mr13 H, mr14 H, mr15 H, mr16 H, mr17 H, mr18 H, mr19 H, mr20 H, mr25 H, n8, n48, n56, n64, mi2 H (show i < 72 by omega), mi2 H (show 8 + i < 72 by omega), mi2 H (show 48 + i < 72 by omega), mi2 H (show 56 + i < 72 by omega), mi2 H (show 64 + i < 72 by omega), Option.bind_some, hD.1, e0, e1, e6, e7, e8, i0_1, if_false, if_true, tb_1]
  unfold wrongB
  by_cases c1 : cs i 0 < 1
  · simp only [if_pos c1, c1, decide_true, Bool.true_or]; rfl
  · by_cases c2 : (30 : Int32) < cs i 1
    · simp only [if_neg c1, if_pos c2, c2, decide_true, Bool.true_or, Bool.or_true]; rfl
    · by_cases c3 : cs i 1 < cs i 0
      · simp only [if_neg c1, if_neg c2, if_pos c3, c3, decide_true, Bool.true_or, Bool.or_true]; rfl
      · by_cases c4 : (3 : Int32) < cs i 6
        · simp only [if_neg c1, if_neg c2, if_neg c3, if_pos c4, c4, decide_true, Bool.true_or, Bool.or_true]; rfl
        · simp only [if_neg c1, if_neg c2, if_neg c3, if_neg c4, c1, c2, c3, c4, decide_false, Bool.false_or]
          by_cases c5 : ((cs i 7 ||| cs i 8) >>> (nI n &&& 31)) = 0
          · rcases Bool.eq_false_or_eq_true (tb (cs i 7 ||| cs i 8) i) with c6 | c6
            · simp [c5, c6, b1]
            · simp [c5, c6, b1]
          · simp [c5, b1]
theorem e_inRing (h : Pst Q sh hr) (hn : n ≤ 8) (hD : DC Q n cs x) (hi : i < n) : f_Plan_isInRing Q (nI i) (z, sh, x, hr) = some (b1 (tb (rcC (fun j => cs j 7) n i) i), (z, sh, x, hr)) := by
  have i8 : i < 8 := by omega
  have inner : ∀ (K : Nat → Int32 → Int32 → Int32 → am_w → Option (Int32 × am_w)) (r rd : Int32), f_Plan_isInRing_23 K 70 Q (nI i) r rd (0 : Int32) (z, sh, x, hr) = K Q (nI i) (rcR (fun j => cs j 7) n r) (rd + 1) (z, sh, x, hr) := by
    intro K r rd
    refine loop_fold (bot := fun _ _ _ _ _ _ => none) (F := s_Plan_isInRing_23 K) (fun T j r => T Q (nI i) r rd (nI j) (z, sh, x, hr)) (rcG (fun j => cs j 7)) (fun r => K Q (nI i) r (rd + 1) (z, sh, x, hr)) n (fun _ => True) (fun _ _ _ _ => trivial) ?_ ?_ n 0 r 70 (by omega) (by omega) trivial
    · intro T j r hj _
      have hj8 : j < 8 := by omega
      simp only [s_Plan_isInRing_23, pg h, hD.1, Option.bind_some, n_le (a := n) (b := j) (by omega) (by omega), if_neg (Nat.not_le.mpr hj), tb_0, pr h, pa h hj8, ag h hj8, hD.2 j hj 7 (by omega), n_s, rcG]
      rcases Bool.eq_false_or_eq_true (tb r j) with h1 | h1 <;> simp [h1]
    · intro T r _
      simp only [s_Plan_isInRing_23, pg h, hD.1, Option.bind_some, n_le (a := n) (b := n) (by omega) (by omega), Nat.le_refl, if_true]
  have hl := loop_fold (bot := fun _ _ _ _ _ => none) (F := s_Plan_isInRing_12) (fun T j r => T Q (nI i) r (nI j) (z, sh, x, hr)) (fun r _ => rcR (fun j => cs j 7) n r) (fun r => some (b1 (tb r i), (z, sh, x, hr))) n (fun _ => True) (fun _ _ _ _ => trivial) (by
    intro T j r hj _
    simp only [s_Plan_isInRing_12, pg h, hD.1, Option.bind_some, n_le (a := n) (b := j) (by omega) (by omega), if_neg (Nat.not_le.mpr hj)]
    rw [inner T r (nI j), n_s]) (by
    intro T r _
    simp only [s_Plan_isInRing_12, pg h, hD.1, Option.bind_some, n_le (a := n) (b := n) (by omega) (by omega), Nat.le_refl, if_true, tb_0]
    rcases Bool.eq_false_or_eq_true (tb r i) with h1 | h1 <;> simp [h1, b1]) n 0 (cs i 7) 70 (by omega) (by omega) trivial
  simp only [f_Plan_isInRing, pr h, pa h i8, ag h i8, Option.bind_some, hD.2 i hi 7 (by omega), f_Plan_isInRing_12]
  exact hl
def gG (M i : Nat) (x : am_I) (j : Nat) : am_I := am_up x (M + 3) i (if tb (x (M + 3) i) j = true then x (M + 3) i ||| x (M + 3) j else x (M + 3) i)
def gI (M n : Nat) (x : am_I) (i : Nat) : am_I := foldN (gG M i) x 0 n
def gR (M n : Nat) (x : am_I) : am_I := foldN (gI M n) x 0 n
theorem up_row (x : am_I) (a k : Nat) (v : Int32) : am_up x a k v a = cu (x a) k v := by rw [up_cw, cw_e]
theorem gG_c (x : am_I) (j : Nat) : gG M i x j (M + 3) = rmG i (x (M + 3)) j := by
  unfold gG rmG
  rw [up_row]
theorem gI_c (x : am_I) (i : Nat) : gI M n x i (M + 3) = rmI n (x (M + 3)) i := by
  unfold gI rmI
  have : ∀ d j (x : am_I), foldN (gG M i) x j d (M + 3) = foldN (rmG i) (x (M + 3)) j d := by
    intro d
    induction d with
    | zero => intro j x; rfl
    | succ d ih => intro j x; simp only [foldN]; rw [ih, gG_c]
  exact this n 0 x
theorem gR_c (x : am_I) : gR M n x (M + 3) = rmR n (x (M + 3)) := by
  unfold gR rmR
  have : ∀ d j (x : am_I), foldN (gI M n) x j d (M + 3) = foldN (rmI n) (x (M + 3)) j d := by
    intro d
    induction d with
    | zero => intro j x; rfl
    | succ d ih => intro j x; simp only [foldN]; rw [ih, gI_c]
  exact this n 0 x
def fr3 (M : Nat) (base x : am_I) : Prop := ∀ q, q ≠ M + 3 → x q = base q
theorem gG_f {base : am_I} {j : Nat} (h : fr3 M base x) : fr3 M base (gG M i x j) := fun q hq => by
  rw [← h q hq]
  funext k
  unfold gG
  rw [am_up_na hq]
theorem gI_f {base : am_I} (h : fr3 M base x) : fr3 M base (gI M n x i) := fold_inv (g := gG M i) (fun y => fr3 M base y) n 0 x h (fun _ _ _ _ hy => gG_f hy)
theorem gR_f {base : am_I} (h : fr3 M base x) : fr3 M base (gR M n x) := fold_inv (g := gI M n) (fun y => fr3 M base y) n 0 x h (fun _ _ _ _ hy => gI_f hy)
theorem rm_cg {R R' : Nat → Int32} (h : ∀ k, k < n → R k = R' k) : ∀ k, k < n → foldN (fun R _ => rmR n R) R 0 8 k = foldN (fun R _ => rmR n R) R' 0 8 k := by
  refine fold_rel (g := fun R _ => rmR n R) (h := fun R _ => rmR n R) (fun R R' => ∀ k, k < n → R k = R' k) 8 0 R R' h ?_
  intro _ R R' _ _ h
  refine fold_rel (g := rmI n) (h := rmI n) (fun R R' => ∀ k, k < n → R k = R' k) n 0 R R' h ?_
  intro i R R' _ hi h
  refine fold_rel (g := rmG i) (h := rmG i) (fun R R' => ∀ k, k < n → R k = R' k) n 0 R R' h ?_
  intro j R R' _ hj h k hk
  unfold rmG
  rw [h i (by omega), h j (by omega)]
  by_cases h1 : k = i
  · rw [h1, cu_e, cu_e]
  · rw [cu_n _ _ _ _ h1, cu_n _ _ _ _ h1]; exact h k hk
theorem m_rings (H : Mst M sh hr) (hn : n ≤ 8) (hD : DM M n cs x) : ∃ y, f_Mo_findRings M (z, sh, x, hr) = some (0, (z, sh, y, hr)) ∧ fr3 M x y ∧ ∀ i, i < n → y (M + 3) i = rmC (fun j => cs j 7) n i := by
  have c4 : ∀ y, fr3 M x y → y M 4 = nI n := fun y hy => by rw [hy M (by omega)]; exact hD.1
  have in51 : ∀ K33 K41 (rd : Int32) (i : Nat) (y : am_I), i < n → fr3 M x y → f_Mo_findRings_51 K33 K41 70 M rd (nI i) (0 : Int32) (z, sh, y, hr) = K41 M rd (nI (i + 1)) (z, sh, gI M n y i, hr) := by
    intro K33 K41 rd i y hi hy
    refine loop_fold (bot := fun _ _ _ _ _ => none) (F := s_Mo_findRings_51 K33 K41) (fun T j y => T M rd (nI i) (nI j) (z, sh, y, hr)) (gG M i) (fun y => K41 M rd (nI (i + 1)) (z, sh, y, hr)) n (fun y => fr3 M x y) (fun j y _ hy => gG_f hy) ?_ ?_ n 0 y 70 (by omega) (by omega) hy
    · intro T j y hj hy
      simp only [s_Mo_findRings_51, mg H, mp H, mo H, mr1 H, mr6 H, mr7 H, mr8 H, mr10 H, mr11 H, mr12 H, mr13 H, mr14 H, mr15 H, mr16 H, mr17 H, mr18 H, mr19 H, mr20 H, mr25 H, Option.bind_some, c4 y hy, n_le (a := n) (b := j) (by omega) (by omega), if_neg (Nat.not_le.mpr hj), mi3 H (show i < 8 by omega), mi3 H (show j < 8 by omega), mw3 H (show i < 8 by omega), tb_1, n_s, gG]
      rcases Bool.eq_false_or_eq_true (tb (y (M + 3) i) j) with h1 | h1 <;> simp [h1]
    · intro T y hy
      simp only [s_Mo_findRings_51, mg H, mp H, mo H, mr1 H, mr6 H, mr7 H, mr8 H, mr10 H, mr11 H, mr12 H, mr13 H, mr14 H, mr15 H, mr16 H, mr17 H, mr18 H, mr19 H, mr20 H, mr25 H, Option.bind_some, c4 y hy, n_le (a := n) (b := n) (by omega) (by omega), Nat.le_refl, if_true, n_s]
  have in41 : ∀ K33 (rd : Int32) (y : am_I), fr3 M x y → f_Mo_findRings_41 K33 70 M rd (0 : Int32) (z, sh, y, hr) = K33 M (rd + 1) (z, sh, gR M n y, hr) := by
    intro K33 rd y hy
    refine loop_fold (bot := fun _ _ _ _ => none) (F := s_Mo_findRings_41 K33) (fun T j y => T M rd (nI j) (z, sh, y, hr)) (gI M n) (fun y => K33 M (rd + 1) (z, sh, y, hr)) n (fun y => fr3 M x y) (fun j y _ hy => gI_f hy) ?_ ?_ n 0 y 70 (by omega) (by omega) hy
    · intro T j y hj hy
      simp only [s_Mo_findRings_41, mg H, mp H, mo H, mr1 H, mr6 H, mr7 H, mr8 H, mr10 H, mr11 H, mr12 H, mr13 H, mr14 H, mr15 H, mr16 H, mr17 H, mr18 H, mr19 H, mr20 H, mr25 H, Option.bind_some, c4 y hy, n_le (a := n) (b := j) (by omega) (by omega), if_neg (Nat.not_le.mpr hj)]
      exact in51 K33 T rd j y hj hy
    · intro T y hy
      simp only [s_Mo_findRings_41, mg H, mp H, mo H, mr1 H, mr6 H, mr7 H, mr8 H, mr10 H, mr11 H, mr12 H, mr13 H, mr14 H, mr15 H, mr16 H, mr17 H, mr18 H, mr19 H, mr20 H, mr25 H, Option.bind_some, c4 y hy, n_le (a := n) (b := n) (by omega) (by omega), Nat.le_refl, if_true]
  have in33 : ∀ (y : am_I), fr3 M x y → f_Mo_findRings_33 70 M (0 : Int32) (z, sh, y, hr) = some (0, (z, sh, foldN (fun y _ => gR M n y) y 0 8, hr)) := by
    intro y hy
    refine loop_fold (bot := fun _ _ _ => none) (F := s_Mo_findRings_33) (fun T j y => T M (nI j) (z, sh, y, hr)) (fun y _ => gR M n y) (fun y => some (0, (z, sh, y, hr))) 8 (fun y => fr3 M x y) (fun j y _ hy => gR_f hy) ?_ ?_ 8 0 y 70 (by omega) (by omega) hy
    · intro T j y hj hy
      simp only [s_Mo_findRings_33]
      rw [if_neg (show ¬ (8 : Int32) ≤ nI j from nI_ge (b := 8) hj (by decide)), in41 T (nI j) y hy, n_s]
    · intro T y hy
      simp only [s_Mo_findRings_33]
      rw [if_pos (by decide)]
  have hl := loop_fold (bot := fun _ _ _ => none) (F := s_Mo_findRings_2) (fun T j y => T M (nI j) (z, sh, y, hr)) (fun y j => am_up y (M + 3) j (cs j 7)) (fun y => some (0, (z, sh, foldN (fun y _ => gR M n y) y 0 8, hr))) n (fun y => fr3 M x y) (fun j y _ hy q hq => by rw [← hy q hq]; funext k; rw [am_up_na hq]) (by
    intro T j y hj hy
    have e7 : y (M + 2) (56 + j) = cs j 7 := by rw [hy _ (by omega)]; exact hD.2 j hj 7 (by omega)
    simp only [s_Mo_findRings_2, mg H, mp H, mo H, mr1 H, mr6 H, mr7 H, mr8 H, mr10 H, mr11 H, mr12 H, mr13 H, mr14 H, mr15 H, mr16 H, mr17 H, mr18 H, mr19 H, mr20 H, mr25 H, Option.bind_some, c4 y hy, n_le (a := n) (b := j) (by omega) (by omega), if_neg (Nat.not_le.mpr hj), n56, mi2 H (show 56 + j < 72 by omega), mw3 H (show j < 8 by omega), e7, n_s]) (by
    intro T y hy
    simp only [s_Mo_findRings_2, mg H, mp H, mo H, mr1 H, mr6 H, mr7 H, mr8 H, mr10 H, mr11 H, mr12 H, mr13 H, mr14 H, mr15 H, mr16 H, mr17 H, mr18 H, mr19 H, mr20 H, mr25 H, Option.bind_some, c4 y hy, n_le (a := n) (b := n) (by omega) (by omega), Nat.le_refl, if_true]
    exact in33 y hy) n 0 x 70 (by omega) (by omega) (fun _ _ => rfl)
  rw [fold_col (M + 3) (fun j => cs j 7)] at hl
  refine ⟨_, hl, ?_, ?_⟩
  · refine fold_inv (g := fun y _ => gR M n y) (fun y => fr3 M x y) 8 0 _ ?_ (fun _ y _ _ hy => gR_f hy)
    intro q hq
    funext k
    exact if_neg (by omega)
  · intro i hi
    have : ∀ d j (y : am_I), foldN (fun y _ => gR M n y) y j d (M + 3) = foldN (fun R _ => rmR n R) (y (M + 3)) j d := by
      intro d
      induction d with
      | zero => intro j y; rfl
      | succ d ih => intro j y; simp only [foldN]; rw [ih, gR_c]
    rw [this]
    unfold rmC
    apply rm_cg _ i hi
    intro k hk
    exact if_pos ⟨rfl, by omega, by omega⟩
end FWR
