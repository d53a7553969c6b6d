-- needs 56 57 58 59 60 61 62 63 64 65 66 67 68 69 70
/-! the relation of class and reference, and the calls that change something -/
def Txt (b : Nat) (hi : am_I) (len : Nat) : Prop := hi (b + 1) 1 = nI len ∧ hi (b + 29) 2 = nI len ∧ len ≤ 64 ∧ ∀ j, j < len → ∃ c : Nat, 32 ≤ c ∧ c ≤ 126 ∧ hi (b + 2) j = nI c ∧ hi (b + 29 + 1) j = nI c
def RR (b : Nat) (sh : am_S) (hi : am_I) (hr : am_R) (Tb : Nat) : Prop := ∃ P Q tg G D h n, ∃ a : Int32 × Nat × Nat × Nat × Int × Int × (Nat → Nat → Int32), ∃ len, Cst b P Q sh hr ∧ Mst (b + 29) sh hr ∧ sh (b + 46) = some (.inr (.long, 1)) ∧ CX b P hi tg G D h n a ∧ MX (b + 29) hi tg G D h n a ∧ AX tg G D h n a ∧ a.2.1 ≤ Tb ∧ Txt b hi len
section FRR
variable {b P Q z n : Nat} {sh : am_S} {hi hi1 hi1' hi2 x : am_I} {hr : am_R} {G : Nat → Int} {D : Int} {h : Nat} {tg : Int} {Tb len : Nat} {a : Int32 × Nat × Nat × Nat × Int × Int × (Nat → Nat → Int32)}
theorem CX_eq (H : Cst b P Q sh hr) (hX : CX b P hi tg G D h n a) (hn : n ≤ 8) (he : ∀ q, b ≤ q → q < b + 29 → q ≠ b + 7 → q ≠ b + 8 → x q = hi q) : CX b P x tg G D h n a := by
  obtain ⟨c1, c2, c3, r1, r2, r3, r4, ⟨r5, r5b, r5c⟩, r6, r7, r8⟩ := hX
  have p2 := k_P2 H
  refine ⟨by rw [he b (by omega) (by omega) (by omega) (by omega)]; exact c1, by rw [he b (by omega) (by omega) (by omega) (by omega)]; exact c2, fun hh => by rw [he b (by omega) (by omega) (by omega) (by omega)]; exact c3 hh, by rw [he b (by omega) (by omega) (by omega) (by omega)]; exact r1, by rw [he (b + 4) (by omega) (by omega) (by omega) (by omega)]; exact r2, by rw [he (b + 4) (by omega) (by omega) (by omega) (by omega)]; exact r3, by rw [he (b + 4) (by omega) (by omega) (by omega) (by omega)]; exact r4, ⟨fun j hj => by rw [he (b + 5) (by omega) (by omega) (by omega) (by omega)]; exact r5 j hj, by rw [he (b + 4) (by omega) (by omega) (by omega) (by omega)]; exact r5b, by rw [he (b + 4) (by omega) (by omega) (by omega) (by omega)]; exact r5c⟩, fun j hj => by rw [he (b + 6) (by omega) (by omega) (by omega) (by omega)]; exact r6 j hj, by rw [he P (by omega) (by omega) (by omega) (by omega)]; exact r7, ?_⟩
  intro i hi k hk h2
  unfold vC
  rw [he (P + 2 + i) (by omega) (by omega) (by omega) (by omega)]
  exact r8 i hi k hk h2
theorem vM_eq {M : Nat} (he : ∀ q, M ≤ q → q ≤ M + 16 → x q = hi q) : vM x M = vM hi M := by
  funext i k
  unfold vM
  by_cases h : k < 9
  · rw [if_pos h, if_pos h, he (M + 5) (by omega) (by omega)]
  · rw [if_neg h, if_neg h]
    by_cases h2 : k < 19
    · rw [if_pos h2, if_pos h2, he (M + k - 3) (by omega) (by omega)]
    · rw [if_neg h2, if_neg h2]
theorem MX_eq {M : Nat} (hX : MX M hi tg G D h n a) (h0 : ∀ k, k ≠ 0 → x M k = hi M k) (he : ∀ q, M < q → q ≤ M + 16 → x q = hi q) : MX M x tg G D h n a := by
  obtain ⟨c1, c2, c3, r1, r2, r3, r4, ⟨r5, r5b, r5c⟩, r6, r7⟩ := hX
  have hv : vM x M = vM hi M := by
    funext i k
    unfold vM
    by_cases h : k < 9
    · rw [if_pos h, if_pos h, he (M + 5) (by omega) (by omega)]
    · rw [if_neg h, if_neg h]
      by_cases h2 : k < 19
      · rw [if_pos h2, if_pos h2, he (M + k - 3) (by omega) (by omega)]
      · rw [if_neg h2, if_neg h2]
  refine ⟨by rw [h0 22 (by decide)]; exact c1, by rw [h0 30 (by decide)]; exact c2, fun hh => by rw [h0 29 (by decide)]; exact c3 hh, by rw [h0 21 (by decide)]; exact r1, by rw [h0 23 (by decide)]; exact r2, by rw [h0 24 (by decide)]; exact r3, by rw [h0 26 (by decide)]; exact r4, ⟨fun j hj => by rw [he (M + 16) (by omega) (by omega)]; exact r5 j hj, by rw [h0 27 (by decide)]; exact r5b, by rw [h0 28 (by decide)]; exact r5c⟩, by rw [h0 9 (by decide)]; exact r6, by rw [hv]; exact r7⟩
theorem MX_0 {M : Nat} {y : Int32} (hX : MX M hi tg G D h n a) : MX M (am_up hi M 0 y) tg G D h n a := MX_eq hX (fun k hk => am_up_nk hk) (fun q h1 _ => by funext j; rw [am_up_na (by omega)])
/-- what was asked only, or refused -/
theorem RR_q (R : RR b sh hi hr Tb) (h0 : ∀ k, k ≠ 0 → x (b + 29) k = hi (b + 29) k) (he : ∀ q, q ≠ b + 29 → q ≠ b + 46 → q ≠ b + 7 → q ≠ b + 8 → x q = hi q) : RR b sh x hr Tb := by
  obtain ⟨P, Q, tg, G, D, h, n, a, len, H, HM, ho, hC, hM, hA, hT, t1, t2, t3, t4⟩ := R
  refine ⟨P, Q, tg, G, D, h, n, a, len, H, HM, ho, CX_eq H hC hA.2.2.2.2.2.2.2.1 (fun q h1 h2 h3 h4 => he q (by omega) (by omega) h3 h4), MX_eq hM h0 (fun q h1 h2 => he q (by omega) (by omega) (by omega) (by omega)), hA, hT, by rw [he (b + 1) (by omega) (by omega) (by omega) (by omega)]; exact t1, by rw [h0 2 (by decide)]; exact t2, t3, ?_⟩
  intro j hj
  rw [he (b + 2) (by omega) (by omega) (by omega) (by omega), he (b + 29 + 1) (by omega) (by omega) (by omega) (by omega)]
  exact t4 j hj
theorem RR_mk (H : Cst b P Q sh hr) (HM : Mst (b + 29) sh hr) (ho : sh (b + 46) = some (.inr (.long, 1))) (C1 : CX b P hi1 tg G D h n a) (F1 : frC b hi hi1) (O1 : ∀ q, q ≠ b + 46 → hi1' q = hi1 q) (M2 : MX (b + 29) hi2 tg G D h n a) (F2 : frW (b + 29) hi1' hi2) (hA : AX tg G D h n a) (hT : a.2.1 ≤ Tb) (ht : Txt b hi len) : RR b sh hi2 hr Tb := by
  obtain ⟨t1, t2, t3, t4⟩ := ht
  refine ⟨P, Q, tg, G, D, h, n, a, len, H, HM, ho, CX_eq H C1 hA.2.2.2.2.2.2.2.1 (fun q h1 h2 _ _ => by rw [F2.1 q (by omega), O1 q (by omega)]), M2, hA, hT, by rw [F2.1 (b + 1) (by omega), O1 _ (by omega), F1 _ (by omega)]; exact t1, by rw [F2.2, O1 _ (by omega), F1 _ (by omega)]; exact t2, t3, ?_⟩
  intro j hj
  rw [F2.1 (b + 2) (by omega), O1 (b + 2) (by omega), F1 (b + 2) (by omega), F2.1 (b + 29 + 1) (by omega), O1 (b + 29 + 1) (by omega), F1 (b + 29 + 1) (by omega)]
  exact t4 j hj
theorem MX_1 (hM : MX (b + 29) hi tg G D h n a) (F1 : frC b hi hi1) (O1 : ∀ q, q ≠ b + 46 → hi1' q = hi1 q) : MX (b + 29) hi1' tg G D h n a := MX_eq hM (fun k _ => by rw [O1 _ (by omega), F1 _ (by omega)]) (fun q h1 h2 => by rw [O1 _ (by omega), F1 _ (by omega)])
theorem outO {y : Int32} : ∀ q, q ≠ b + 46 → (am_up hi (b + 46) 0 y) q = hi q := fun q hq => by funext j; rw [am_up_na hq]
theorem lp_out {y : Int32} (ho : sh (b + 46) = some (.inr (.long, 1))) : am_lp (b + 46) (0 : Int32) y (z, sh, hi, hr) = some (z, sh, am_up hi (b + 46) 0 y, hr) := fl_lp (j := 0) ho (by decide) (by decide)
theorem rf0 {M : Nat} (H : Mst M sh hr) : f_Mo_refused M 0 0 (z, sh, hi, hr) = some (0, (z, sh, am_up hi M 0 0, hr)) := m_refused H false false
theorem rf1 {M : Nat} (H : Mst M sh hr) : f_Mo_refused M 1 0 (z, sh, hi, hr) = some (1, (z, sh, am_up hi M 0 1, hr)) := m_refused H true false
theorem rf2 {M : Nat} (H : Mst M sh hr) : f_Mo_refused M 0 1 (z, sh, hi, hr) = some (1, (z, sh, am_up hi M 0 2, hr)) := m_refused H false true
theorem rf3 {M : Nat} (H : Mst M sh hr) : f_Mo_refused M 1 1 (z, sh, hi, hr) = some (1, (z, sh, am_up hi M 0 1, hr)) := m_refused H true true
theorem q0 {M : Nat} {y : Int32} : ∀ k, k ≠ 0 → (am_up hi M 0 y) M k = hi M k := fun k hk => am_up_nk hk
theorem qe {y : Int32} : ∀ q, q ≠ b + 29 → q ≠ b + 46 → q ≠ b + 7 → q ≠ b + 8 → (am_up hi (b + 29) 0 y) q = hi q := fun q h1 _ _ _ => by funext j; rw [am_up_na h1]
theorem L_cancel (R : RR b sh hi hr Tb) : ∃ k bm z1 hi1 hi2, f_La_cancel b (z, sh, hi, hr) = some (k, (z1, sh, hi1, hr)) ∧ f_Mo_cancel (b + 29) (z1, sh, hi1, hr) = some (bm, (z1, sh, hi2, hr)) ∧ hi2 (b + 29) 0 = k ∧ RR b sh hi2 hr Tb := by
  have R0 := R
  obtain ⟨P, Q, tg, G, D, h, n, ⟨md, T, E, R, e, s, v⟩, len, H, HM, ho, hC, hM, hA, hT, hx⟩ := R
  by_cases h1 : md = 1
  · obtain ⟨x, ex, cx, fx⟩ := e_back (z := z) H hA.2.2 hC.2.2.2 hC.2.1
    have M1 := MX_1 hM fx (fun _ _ => rfl)
    have M2 := MX_0 (y := 0) M1
    obtain ⟨y, ey, cy, fy⟩ := m_back (z := z) HM hA.2.2 M2.2.2.2 M2.2.1
    have hb : AX tg G D h n (backP T E e s h n v) := ⟨Or.inr (Or.inr rfl), fun _ => hA.2.2.2.2.2.2.1.2.2, hA.2.2.1, hA.2.2.2.1, hA.2.2.2.2.1, hA.2.2.2.2.2.1, hA.2.2.2.2.2.2.1, hA.2.2.2.2.2.2.2.1, inv_mapV (fun i _ hh => inv_give hh) hA.2.2.2.2.2.2.2.2⟩
    refine ⟨0, 0, z, x, y, ?_, ?_, ?_, RR_mk H HM ho cx fx (fun _ _ => rfl) cy (frW_0 fy) hb hT hx⟩
    · simp only [f_La_cancel, f_Rm_cancel, kg0 H, kp0 H, ko0 H, kg1 H, kp1 H, ko1 H, kg2 H, kp2 H, ko2 H, kg3 H, kp3 H, ko3 H, kg4 H, kp4 H, ko4 H, kr0_0 H, kr0_1 H, kr0_2 H, kr0_3 H, kr1_0 H, kr3_0 H, kr4_5 H, kr4_6 H, kr7_0 H, kr0_4 H, kr0_5 H, kal H, Option.bind_some, hC.1, h1, if_true, ex]
    · have H := HM
      simp only [f_Mo_cancel, s_Mo_cancel_14, mg H, mp H, mo H, mr1 H, mr6 H, mr7 H, mr8 H, mr10 H, mr11 H, mr12 H, mr13 H, mr14 H, mr15 H, mr16 H, mr17 H, mr18 H, mr19 H, mr20 H, mr25 H, Option.bind_some, M1.1, h1, if_true, rf0 HM, ey]
    · rw [fy.2.2, am_up_eq]
  · refine ⟨1, 0, z + 1, hi, am_up hi (b + 29) 0 1, ?_, ?_, am_up_eq _ _ _ _, RR_q R0 q0 qe⟩
    · simp only [f_La_cancel, f_Rm_cancel, kg0 H, kp0 H, ko0 H, kg1 H, kp1 H, ko1 H, kg2 H, kp2 H, ko2 H, kg3 H, kp3 H, ko3 H, kg4 H, kp4 H, ko4 H, kr0_0 H, kr0_1 H, kr0_2 H, kr0_3 H, kr1_0 H, kr3_0 H, kr4_5 H, kr4_6 H, kr7_0 H, kr0_4 H, kr0_5 H, kal H, Option.bind_some, hC.1, if_neg h1, am_th]
      rfl
    · have H := HM
      simp only [f_Mo_cancel, s_Mo_cancel_14, mg H, mp H, mo H, mr1 H, mr6 H, mr7 H, mr8 H, mr10 H, mr11 H, mr12 H, mr13 H, mr14 H, mr15 H, mr16 H, mr17 H, mr18 H, mr19 H, mr20 H, mr25 H, Option.bind_some, hM.1, if_neg h1, rf1 HM, i0_1, if_false]
end FRR
