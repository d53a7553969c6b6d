-- needs 88 89a 89b
/-! submit: the law's call -/
section FCSUB
variable {b z : Nat} {sh : am_S} {hi : am_I} {hr : am_R} {Tb : Nat}
theorem L_submit (R : RR b sh hi hr Tb) : ∃ k bm z1 hi1 hr1 hi2, f_La_submit b (b + 46) (z, sh, hi, hr) = some (k, (z1, sh, hi1, hr1)) ∧ f_Mo_submit (b + 29) (z1, sh, hi1, hr1) = some (bm, (z1, sh, hi2, hr1)) ∧ hi2 (b + 29) 0 = k ∧ (k = 0 → hi2 (b + 46) 0 = bm) ∧ RR b sh hi2 hr1 Tb := by
  have R0 := R
  obtain ⟨P, Q, tg, G, D, h, n, ⟨md, T, E, R, e, s, v⟩, len, H, HM, ho, hC, hM, hA, hT, t1, t2, t3, t4⟩ := R
  have p2 := k_P2 H
  have q2 := kQ2 H
  have pq := k_PQ H
  by_cases h1 : md = 0
  · obtain ⟨ch, hch⟩ : ∃ ch : Nat → Nat, ∀ j, j < len → 32 ≤ ch j ∧ ch j ≤ 126 ∧ hi (b + 2) j = nI (ch j) ∧ hi (b + 29 + 1) j = nI (ch j) := by
      refine ⟨fun j => (hi (b + 2) j).toNatClampNeg, fun j hj => ?_⟩
      obtain ⟨c, c1, c2, c3, c4⟩ := t4 j hj
      simp only []
      rw [c3, nI_clamp (by omega)]
      exact ⟨c1, c2, rfl, c4⟩
    have hcB : chB ch len := ⟨t3, fun j hj => ⟨(hch j hj).1, (hch j hj).2.1⟩⟩
    have hTC : TC b hi ch len := ⟨t1, fun j hj => (hch j hj).2.2.1⟩
    obtain ⟨y, hr1, ey, y1, yq, yf, yt⟩ := e_submit (z := z) H (hC.1.trans h1) hcB hTC
    have HM1 : Mst (b + 29) sh hr1 := by
      by_cases hs : subP ch len = 0
      · rw [(yt hs).1]; exact Mst_sw HM (by omega)
      · rw [yf hs]; exact HM
    have oq : ∀ q, q ≠ b + 46 → am_up y (b + 46) 0 (subP ch len) q = y q := outO
    have yM : ∀ q, b + 29 ≤ q → y q = hi q := fun q hq => yq q (by omega) (by omega) (by omega)
    have hTM : TM (b + 29) (am_up y (b + 46) 0 (subP ch len)) ch len := ⟨by rw [oq _ (by omega), yM _ (by omega)]; exact t2, fun j hj => by rw [oq _ (by omega), yM _ (by omega)]; exact (hch j hj).2.2.2⟩
    have h22 : am_up y (b + 46) 0 (subP ch len) (b + 29) 22 = 0 := by rw [oq _ (by omega), yM _ (by omega)]; exact hM.1.trans h1
    obtain ⟨w, ew, w0, w2, wk, wq, wf, wt⟩ := m_submit (z := z) HM1 h22 hcB hTM
    have wq' : ∀ q, q ≠ b + 46 → q ≠ b + 29 → (q < b + 31 ∨ b + 44 < q) → w q = y q := fun q h1 h2 h3 => by rw [wq q h2 (by omega), oq q h1]
    refine ⟨0, subP ch len, z, am_up y (b + 46) 0 (subP ch len), hr1, w, ?_, ew, w0, fun _ => ?_, ?_⟩
    · simp only [f_La_submit, kg0 H, kp0 H, ko0 H, kg1 H, kp1 H, ko1 H, kg2 H, kp2 H, ko2 H, kg3 H, kp3 H, ko3 H, kg4 H, kp4 H, ko4 H, kr0_0 H, kr0_1 H, kr0_2 H, kr0_3 H, kr1_0 H, kr3_0 H, kr4_5 H, kr4_6 H, kr7_0 H, kr0_4 H, kr0_5 H, kal H, Option.bind_some, ey, if_true, lp_out ho]
    · rw [wq (b + 46) (by omega) (by omega)]; exact am_up_eq _ _ _ _
    · have b0 : w b = hi b := by rw [wq' _ (by omega) (by omega) (by omega), yq _ (by omega) (by omega) (by omega)]
      have b4 : w (b + 4) = hi (b + 4) := by rw [wq' _ (by omega) (by omega) (by omega), yq _ (by omega) (by omega) (by omega)]
      have b5 : w (b + 5) = hi (b + 5) := by rw [wq' _ (by omega) (by omega) (by omega), yq _ (by omega) (by omega) (by omega)]
      have b6 : w (b + 6) = hi (b + 6) := by rw [wq' _ (by omega) (by omega) (by omega), yq _ (by omega) (by omega) (by omega)]
      have mk : ∀ k, 21 ≤ k → w (b + 29) k = hi (b + 29) k := fun k hk => by rw [wk k hk, oq _ (by omega), yM _ (by omega)]
      have tx : Txt b w 0 := ⟨by rw [wq' _ (by omega) (by omega) (by omega)]; exact y1, w2, by omega, fun j hj => by omega⟩
      by_cases hs : subP ch len = 0
      · obtain ⟨r1, n1, cs, er, n8, yn, ynw⟩ := yt hs
        obtain ⟨n2, cs2, er2, -, wn, wnw⟩ := wt hs
        rw [er] at er2
        cases er2
        have hok := lin_ok (ch := ch) (len := len) 8 0 0 (fun _ _ => 0) (by omega) (fun j hj => by omega) n1 cs er
        have hz : unfP cs n1 = 0 := by
          have : subP ch len = unfP cs n1 := by unfold subP; rw [er]
          rw [← this]; exact hs
        have hw := (unf_0 n8 hz).1
        refine ⟨Q, P, tg, G, D, h, n1, (md, T, E, R, e, s, vM w (b + 29)), 0, r1 ▸ Cst_sw H, HM1, ho, CX_new hC b0 b4 b5 b6 (by rw [wq' _ (by omega) (by omega) (by omega)]; exact yn) (fun i hi' => ?_), MX_new hM mk (by rw [wq _ (by omega) (by omega), oq _ (by omega), yM _ (by omega)]) wn rfl, ?_, hT, tx⟩
        · have : vC w Q i = y (Q + 2 + i) := wq' _ (by omega) (by omega) (by omega)
          rw [this]
          exact nw_agr (ynw i hi') (wnw i hi')
        · obtain ⟨a1, a2, aT, ae, as, at', aB, an, aI⟩ := hA
          refine ⟨a1, a2, aT, ae, as, at', aB, n8, fun i hi' => ?_⟩
          obtain ⟨s0, l0, r0, g1, g2, g3, g4, g5, g6, g7, g8⟩ := wrong_no (hw i hi') (hok i hi')
          exact nw_inv (wnw i hi') (hok i hi') ⟨l0, r0, g2, g3, by omega, g6, g7⟩
      · obtain ⟨w9, w5⟩ := wf hs
        refine ⟨P, Q, tg, G, D, h, n, (md, T, E, R, e, s, v), 0, (yf hs) ▸ H, HM1, ho, CX_eq2 H hC hA.2.2.2.2.2.2.2.1 b0 b4 b5 b6 (fun q h1 h2 => by rw [wq' _ (by omega) (by omega) (by omega), yq _ (by omega) (by omega) (by omega)]), MX_eq2 hM (fun k hk => ?_) (fun q h1 h2 => by rw [w5 q h1 h2, oq _ (by omega), yM _ (by omega)]), hA, hT, tx⟩
        rcases hk with rfl | hk
        · rw [w9, oq _ (by omega), yM _ (by omega)]
        · exact mk k hk
  · refine ⟨1, 0, z + 1, hi, hr, am_up hi (b + 29) 0 1, ?_, ?_, am_up_eq _ _ _ _, fun hh => absurd hh (by decide), RR_q R0 q0 qe⟩
    · simp only [f_La_submit, f_Rm_submit, kg0 H, kp0 H, ko0 H, kg1 H, kp1 H, ko1 H, kg2 H, kp2 H, ko2 H, kg3 H, kp3 H, ko3 H, kg4 H, kp4 H, ko4 H, kr0_0 H, kr0_1 H, kr0_2 H, kr0_3 H, kr1_0 H, kr3_0 H, kr4_5 H, kr4_6 H, kr7_0 H, kr0_4 H, kr0_5 H, kal H, Option.bind_some, hC.1, if_neg h1, am_th]
      rfl
    · have H := HM
      simp only [f_Mo_submit, s_Mo_submit_13, mg H, mp H, mo H, mr1 H, mr6 H, mr7 H, mr8 H, mr10 H, mr11 H, mr12 H, mr13 H, mr14 H, mr15 H, mr16 H, mr17 H, mr18 H, mr19 H, mr20 H, mr25 H, Option.bind_some, hM.1, if_neg h1, rf1 HM, i0_1, if_false]
end FCSUB
