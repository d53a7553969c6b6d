-- needs 56 57 58
/-! what the supply does -/
theorem fold_col (a : Nat) (c : Nat → Int32) : ∀ d j (x : am_I), foldN (fun x j => am_up x a j (c j)) x j d = fun q k => if q = a ∧ j ≤ k ∧ k < j + d then c k else x q k := by
  intro d
  induction d with
  | zero =>
    intro j x
    funext q k
    rw [if_neg (by omega)]
    rfl
  | succ d ih =>
    intro j x
    simp only [foldN]
    rw [ih (j + 1)]
    funext q k
    by_cases h1 : q = a
    · subst h1
      by_cases h2 : k = j
      · subst h2
        rw [if_neg (by omega), if_pos (by omega), am_up_eq]
      · rw [am_up_nk h2]
        by_cases h3 : j + 1 ≤ k ∧ k < j + 1 + d
        · rw [if_pos ⟨rfl, h3⟩, if_pos (by omega)]
        · rw [if_neg (by omega), if_neg (by omega)]
    · rw [if_neg (by omega), if_neg (by omega), am_up_na h1]
def gainF (G : Nat → Int) (tg : Int) (m : Nat) : Int := if tg = -1 then G (m % 24) else tg
def passF (e g d : Int) : Int := max 0 (min 1000 (e + g - d))
section FSUP2
variable {b P Q M z : Nat} {sh : am_S} {hi : am_I} {hr : am_R} {G : Nat → Int} {D : Int} {h : Nat}
theorem e_reckonNeeds (H : Cst b P Q sh hr) (hB : SupB G D h) (hS : SupC b hi G D h) : ∃ hi2, f_Supply_reckonNeeds (b + 4) (z, sh, hi, hr) = some (0, (z, sh, hi2, hr)) ∧ (∀ q, q ≠ b + 6 → hi2 q = hi q) ∧ SupN b hi2 G D h := by
  have hl := loop_fold (bot := fun _ _ _ => none) (F := s_Supply_reckonNeeds_2) (fun T j x => T (b + 4) (nI j) (z, sh, x, hr)) (fun x j => am_up x (b + 6) j (iI (ndF G D j h))) (fun x => some (0, (z, sh, x, hr))) 24 (fun x => ∀ q, q ≠ b + 6 → x q = hi q) (fun j x _ hx => by
      intro q hq
      funext k
      rw [am_up_na hq, hx q hq]) (by
    intro T j x hj hx
    have hS2 : SupC b x G D h := by
      refine ⟨?_, ?_, ?_⟩
      · intro k hk
        rw [hx (b + 5) (by omega)]
        exact hS.1 k hk
      · rw [hx (b + 4) (by omega)]; exact hS.2.1
      · rw [hx (b + 4) (by omega)]; exact hS.2.2
    simp only [s_Supply_reckonNeeds_2]
    rw [if_neg (show ¬ (24 : Int32) ≤ nI j from nI_ge (b := 24) hj (by decide))]
    simp only [kg0 H, kp0 H, ko0 H, kg1 H, kp1 H, ko1 H, kg2 H, kp2 H, ko2 H, kg3 H, kp3 H, ko3 H, kg4 H, kp4 H, ko4 H, kr0_0 H, kr0_1 H, kr0_2 H, kr0_3 H, kr1_0 H, kr3_0 H, kr4_5 H, kr4_6 H, kr7_0 H, kr0_4 H, kr0_5 H, kal H, e_needFrom H hB hS2 hj, Option.bind_some, kw6 H hj, n_s]) (by
    intro T x hx
    simp only [s_Supply_reckonNeeds_2]
    rw [if_pos (by decide)]) 24 0 hi 70 (by omega) (by omega) (fun _ _ => rfl)
  refine ⟨foldN (fun x j => am_up x (b + 6) j (iI (ndF G D j h))) hi 0 24, ?_, ?_, ?_⟩
  · simp only [f_Supply_reckonNeeds, f_Supply_reckonNeeds_2]
    exact hl
  · intro q hq
    rw [fold_col]
    funext k
    exact if_neg (by omega)
  · intro j hj
    rw [fold_col]
    exact if_pos ⟨rfl, by omega, by omega⟩
theorem SupC_of {x : am_I} (hS : SupC b hi G D h) (h4 : ∀ k, 3 ≤ k → x (b + 4) k = hi (b + 4) k) (h5 : x (b + 5) = hi (b + 5)) : SupC b x G D h := by
  refine ⟨?_, ?_, ?_⟩
  · intro k hk
    rw [h5]
    exact hS.1 k hk
  · rw [h4 3 (by omega)]; exact hS.2.1
  · rw [h4 4 (by omega)]; exact hS.2.2
theorem e_pass (H : Cst b P Q sh hr) (hB : SupB G D h) (hS : SupC b hi G D h) {e tg d : Int} {m : Nat} (hm : m < 1000000) (he : hi (b + 4) 0 = iI e) (ht : hi (b + 4) 2 = iI tg) (b1 : 0 ≤ e ∧ e ≤ 1000) (b2 : -1 ≤ tg ∧ tg ≤ 100) (b3 : 0 ≤ d ∧ d ≤ 10000) :
    f_Supply_pass (b + 4) (nI m) (iI d) (z, sh, hi, hr) = some (0, (z, sh, am_up hi (b + 4) 0 (iI (passF e (gainF G tg m) d)), hr)) := by
  have key : ∀ g : Int, 0 ≤ g ∧ g ≤ 100 → s_Supply_pass_20 (b + 4) (iI d) (iI g) (z, sh, hi, hr) = some (0, (z, sh, am_up hi (b + 4) 0 (iI (passF e g d)), hr)) := by
    intro g hg
    simp only [s_Supply_pass_20, kg0 H, kp0 H, ko0 H, kg1 H, kp1 H, ko1 H, kg2 H, kp2 H, ko2 H, kg3 H, kp3 H, ko3 H, kg4 H, kp4 H, ko4 H, kr0_0 H, kr0_1 H, kr0_2 H, kr0_3 H, kr1_0 H, kr3_0 H, kr4_5 H, kr4_6 H, kr7_0 H, kr0_4 H, kr0_5 H, kal H, he, Option.bind_some, e_goOn (show -1000000 ≤ e by omega) b1.2 hg b3, am_let, i_0, passF]
    simp (disch := omega) only [iI_lt]
    by_cases h5 : 0 < min 1000 (e + g - d)
    · rw [if_pos h5, Int.max_eq_right (by omega)]
    · rw [if_neg h5, Int.max_eq_left (by omega)]
  have hg := hB.1 (m % 24) (by omega)
  simp only [f_Supply_pass, kg0 H, kp0 H, ko0 H, kg1 H, kp1 H, ko1 H, kg2 H, kp2 H, ko2 H, kg3 H, kp3 H, ko3 H, kg4 H, kp4 H, ko4 H, kr0_0 H, kr0_1 H, kr0_2 H, kr0_3 H, kr1_0 H, kr3_0 H, kr4_5 H, kr4_6 H, kr7_0 H, kr0_4 H, kr0_5 H, kal H, ht, Option.bind_some, e_lowerGain H hS hm, i_m1, gainF]
  simp (disch := omega) only [iI_inj]
  by_cases h6 : tg = -1
  · rw [if_pos h6, if_pos h6, key _ ⟨hg.1, by omega⟩]
  · rw [if_neg h6, if_neg h6, key _ (by omega)]
theorem e_keep (H : Cst b P Q sh hr) {s d : Int} (hs : hi (b + 4) 1 = iI s) (b1 : 0 ≤ s ∧ s ≤ 500) (b2 : 0 ≤ d ∧ d ≤ 10000) : f_Supply_keep (b + 4) (iI d) (z, sh, hi, hr) = some (0, (z, sh, am_up hi (b + 4) 1 (iI (min 500 (s + d))), hr)) := by
  simp only [f_Supply_keep, kg0 H, kp0 H, ko0 H, kg1 H, kp1 H, ko1 H, kg2 H, kp2 H, ko2 H, kg3 H, kp3 H, ko3 H, kg4 H, kp4 H, ko4 H, kr0_0 H, kr0_1 H, kr0_2 H, kr0_3 H, kr1_0 H, kr3_0 H, kr4_5 H, kr4_6 H, kr7_0 H, kr0_4 H, kr0_5 H, kal H, hs, Option.bind_some, am_let, iI_add, i_500]
  simp (disch := omega) only [iI_lt]
  by_cases h5 : s + d < 500
  · rw [if_pos h5, Int.min_eq_right (by omega)]
  · rw [if_neg h5, Int.min_eq_left (by omega)]
theorem m_draw (H : Mst M sh hr) (hB : SupB G D h) (hS : SupM M hi G D h) {e tg d : Int} {m : Nat} (hm : m < 1000000) (hT : hi M 21 = nI m) (he : hi M 23 = iI e) (ht : hi M 26 = iI tg) (b1 : 0 ≤ e ∧ e ≤ 1000) (b2 : -1 ≤ tg ∧ tg ≤ 100) (b3 : 0 ≤ d ∧ d ≤ 10000) :
    f_Mo_draw M (iI d) (z, sh, hi, hr) = some (0, (z, sh, am_up hi M 23 (iI (passF e (gainF G tg m) d)), hr)) := by
  have key : ∀ g : Int, 0 ≤ g ∧ g ≤ 100 → s_Mo_draw_26 M (iI d) (iI g) (z, sh, hi, hr) = some (0, (z, sh, am_up hi M 23 (iI (passF e g d)), hr)) := by
    intro g hg
    simp only [s_Mo_draw_26, mg H, mp H, mo H, mr1 H, mr6 H, mr7 H, mr8 H, mr10 H, mr11 H, mr12 H, mr13 H, mr14 H, mr15 H, mr16 H, mr17 H, mr18 H, mr19 H, mr20 H, mr25 H, he, Option.bind_some, iI_add, iI_sub, i_0, i_1000, passF]
    simp (disch := omega) only [iI_le]
    by_cases h5 : e + g - d ≤ 1000
    · rw [if_pos h5, Int.min_eq_right (by omega)]
      by_cases h6 : 0 ≤ e + g - d
      · rw [if_pos h6, Int.max_eq_right h6]
      · rw [if_neg h6, Int.max_eq_left (by omega)]
    · rw [if_neg h5, Int.min_eq_left (by omega), Int.max_eq_right (by omega)]
  have hg := hB.1 (m % 24) (by omega)
  simp only [f_Mo_draw, mg H, mp H, mo H, mr1 H, mr6 H, mr7 H, mr8 H, mr10 H, mr11 H, mr12 H, mr13 H, mr14 H, mr15 H, mr16 H, mr17 H, mr18 H, mr19 H, mr20 H, mr25 H, ht, hT, Option.bind_some, mod24 hm, mi16 H (show m % 24 < 24 by omega), hS.1 _ (show m % 24 < 24 by omega), gainF]
  rw [i_0]
  simp (disch := omega) only [iI_le]
  by_cases h6 : tg = -1
  · rw [if_neg (by omega), if_pos h6, ← i_0, key _ ⟨hg.1, by omega⟩]
  · rw [if_pos (by omega), if_neg h6, ← i_0, key _ (by omega)]
theorem first_is {p : Nat → Bool} {α : Type} {out : Nat → α} {fin : α} : ∀ d j k, j ≤ k → k < j + d → p k = true → (∀ i, j ≤ i → i < k → p i = false) → firstN p out fin j d = out k := by
  intro d
  induction d with
  | zero => intro j k h1 h2; omega
  | succ d ih =>
    intro j k h1 h2 h3 h4
    simp only [firstN]
    by_cases h : k = j
    · subst h
      rw [if_pos h3]
    · rw [if_neg (by rw [h4 j (by omega) (by omega)]; decide), ih (j + 1) k (by omega) (by omega) h3 (fun i h5 h6 => h4 i (by omega) h6)]
theorem first_no {p : Nat → Bool} {α : Type} {out : Nat → α} {fin : α} : ∀ d j, (∀ i, j ≤ i → i < j + d → p i = false) → firstN p out fin j d = fin := by
  intro d
  induction d with
  | zero => intro j _; rfl
  | succ d ih =>
    intro j h4
    simp only [firstN]
    rw [if_neg (by rw [h4 j (by omega) (by omega)]; decide), ih (j + 1) (fun i h5 h6 => h4 i (by omega) (by omega))]
theorem m_reserve (H : Mst M sh hr) (hB : SupB G D h) (hS : SupM M hi G D h) {m : Nat} (hm : m < 900000) (hT : hi M 21 = nI m) : f_Mo_reserve M (z, sh, hi, hr) = some (iI (ndF G D m h), (z, sh, am_up hi M 0 0, hr)) := by
  have hS2 : SupM M (am_up hi M 0 0) G D h := by
    refine ⟨fun j hj => ?_, ?_, ?_⟩
    · rw [am_up_na (by omega)]; exact hS.1 j hj
    · rw [am_up_nk (by omega)]; exact hS.2.1
    · rw [am_up_nk (by omega)]; exact hS.2.2
  have hl := loop_first (bot := fun _ _ _ => none) (F := s_Mo_reserve_7) (fun T j => T M (nI j) (z, sh, am_up hi M 0 0, hr)) (fun l => okF G D m h l) (fun j => some (nI j, (z, sh, am_up hi M 0 0, hr))) (some (-1, (z, sh, am_up hi M 0 0, hr))) 1001 (by
    intro T j hj
    simp only [s_Mo_reserve_7]
    rw [if_neg (show ¬ (1000 : Int32) < nI j from nI_nlt (a := 1000) (by omega) (by decide))]
    rw [iI_n j]
    simp only [mg H, mp H, mo H, mr1 H, mr6 H, mr7 H, mr8 H, mr10 H, mr11 H, mr12 H, mr13 H, mr14 H, mr15 H, mr16 H, mr17 H, mr18 H, mr19 H, mr20 H, mr25 H, am_up_nk (show (21 : Nat) ≠ 0 by omega), hT, Option.bind_some, m_isOpen H hB hS2 hm (show (0 : Int) ≤ (j : Int) by omega) (show (j : Int) ≤ 1000 by omega), b1_0]
    rw [← iI_n j, n_s]
    cases okF G D m h j <;> simp) (by
    intro T
    simp only [s_Mo_reserve_7]
    rw [if_pos (by decide)]) 1001 0 1002 (by omega) (by omega)
  simp only [f_Mo_reserve, mg H, mp H, mo H, mr1 H, mr6 H, mr7 H, mr8 H, mr10 H, mr11 H, mr12 H, mr13 H, mr14 H, mr15 H, mr16 H, mr17 H, mr18 H, mr19 H, mr20 H, mr25 H, Option.bind_some, f_Mo_reserve_7]
  refine Eq.trans hl ?_
  have hb := nd_bd G D h m
  by_cases h1 : ndF G D m h = -1
  · rw [first_no, h1]
    · rfl
    · intro i _ hi1
      rw [ok_nd hB.1 h m i (by omega) (by omega), h1]
      simp
  · rw [first_is 1001 0 (ndF G D m h).toNat (by omega) (by omega)]
    · rw [iI_n]
      rw [show ((ndF G D m h).toNat : Int) = ndF G D m h by omega]
    · rw [ok_nd hB.1 h m _ (by omega) (by omega)]
      rw [show ((ndF G D m h).toNat : Int) = ndF G D m h by omega]
      simp [h1]
    · intro i _ hi1
      rw [ok_nd hB.1 h m i (by omega) (by omega)]
      have : (i : Int) < ndF G D m h := by omega
      simp [this]
end FSUP2
