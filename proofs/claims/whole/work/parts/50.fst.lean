/-! what lies where: a plan at P; the class at b with its plan P and its draft Q; the reference at M -/
def Pst (P : Nat) (sh : am_S) (hr : am_R) : Prop := sh P = some (.inl 5) ∧ sh (P + 1) = some (.inr (.object "RoverMinutes$Activity", 8)) ∧ hr P 0 = some (P + 1) ∧ ∀ i, i < 8 → hr (P + 1) i = some (P + 2 + i) ∧ sh (P + 2 + i) = some (.inl 6)
def Cst (b P Q : Nat) (sh : am_S) (hr : am_R) : Prop := (sh b = some (.inl 0) ∧ sh (b + 1) = some (.inl 1) ∧ sh (b + 2) = some (.inr (.char, 64)) ∧ sh (b + 3) = some (.inl 2) ∧ sh (b + 4) = some (.inl 3) ∧ sh (b + 5) = some (.inr (.int, 24)) ∧ sh (b + 6) = some (.inr (.int, 24)) ∧ sh (b + 7) = some (.inl 4) ∧ sh (b + 8) = some (.inr (.int, 31))) ∧ (hr b 0 = some (b + 1) ∧ hr b 1 = some (b + 3) ∧ hr b 2 = some (b + 4) ∧ hr b 3 = some (b + 7) ∧ hr (b + 1) 0 = some (b + 2) ∧ hr (b + 3) 0 = some (b + 1) ∧ hr (b + 4) 5 = some (b + 5) ∧ hr (b + 4) 6 = some (b + 6) ∧ hr (b + 7) 0 = some (b + 8) ∧ hr b 4 = some P ∧ hr b 5 = some Q) ∧ Pst P sh hr ∧ Pst Q sh hr ∧ ((P = b + 9 ∧ Q = b + 19) ∨ (P = b + 19 ∧ Q = b + 9))
def Mst (M : Nat) (sh : am_S) (hr : am_R) : Prop := sh M = some (.inl 7) ∧ (hr M 1 = some (M + 1) ∧ sh (M + 1) = some (.inr (.int, 64))) ∧ (hr M 6 = some (M + 2) ∧ sh (M + 2) = some (.inr (.int, 72))) ∧ (hr M 7 = some (M + 3) ∧ sh (M + 3) = some (.inr (.int, 8))) ∧ (hr M 8 = some (M + 4) ∧ sh (M + 4) = some (.inr (.int, 8))) ∧ (hr M 10 = some (M + 5) ∧ sh (M + 5) = some (.inr (.int, 72))) ∧ (hr M 11 = some (M + 6) ∧ sh (M + 6) = some (.inr (.int, 8))) ∧ (hr M 12 = some (M + 7) ∧ sh (M + 7) = some (.inr (.int, 8))) ∧ (hr M 13 = some (M + 8) ∧ sh (M + 8) = some (.inr (.int, 8))) ∧ (hr M 14 = some (M + 9) ∧ sh (M + 9) = some (.inr (.int, 8))) ∧ (hr M 15 = some (M + 10) ∧ sh (M + 10) = some (.inr (.int, 8))) ∧ (hr M 16 = some (M + 11) ∧ sh (M + 11) = some (.inr (.int, 8))) ∧ (hr M 17 = some (M + 12) ∧ sh (M + 12) = some (.inr (.int, 8))) ∧ (hr M 18 = some (M + 13) ∧ sh (M + 13) = some (.inr (.int, 8))) ∧ (hr M 19 = some (M + 14) ∧ sh (M + 14) = some (.inr (.int, 8))) ∧ (hr M 20 = some (M + 15) ∧ sh (M + 15) = some (.inr (.int, 8))) ∧ (hr M 25 = some (M + 16) ∧ sh (M + 16) = some (.inr (.int, 24)))
section FST
variable {b P Q M z : Nat} {sh : am_S} {hi : am_I} {hr : am_R} {x : Int32} {k j : Nat}
theorem k_s0 (H : Cst b P Q sh hr) : sh b = some (.inl 0) := H.1.1
theorem k_s1 (H : Cst b P Q sh hr) : sh (b + 1) = some (.inl 1) := H.1.2.1
theorem k_s2 (H : Cst b P Q sh hr) : sh (b + 2) = some (.inr (.char, 64)) := H.1.2.2.1
theorem k_s3 (H : Cst b P Q sh hr) : sh (b + 3) = some (.inl 2) := H.1.2.2.2.1
theorem k_s4 (H : Cst b P Q sh hr) : sh (b + 4) = some (.inl 3) := H.1.2.2.2.2.1
theorem k_s5 (H : Cst b P Q sh hr) : sh (b + 5) = some (.inr (.int, 24)) := H.1.2.2.2.2.2.1
theorem k_s6 (H : Cst b P Q sh hr) : sh (b + 6) = some (.inr (.int, 24)) := H.1.2.2.2.2.2.2.1
theorem k_s7 (H : Cst b P Q sh hr) : sh (b + 7) = some (.inl 4) := H.1.2.2.2.2.2.2.2.1
theorem k_s8 (H : Cst b P Q sh hr) : sh (b + 8) = some (.inr (.int, 31)) := H.1.2.2.2.2.2.2.2.2
theorem k_h0_0 (H : Cst b P Q sh hr) : hr b 0 = some (b + 1) := H.2.1.1
theorem k_h0_1 (H : Cst b P Q sh hr) : hr b 1 = some (b + 3) := H.2.1.2.1
theorem k_h0_2 (H : Cst b P Q sh hr) : hr b 2 = some (b + 4) := H.2.1.2.2.1
theorem k_h0_3 (H : Cst b P Q sh hr) : hr b 3 = some (b + 7) := H.2.1.2.2.2.1
theorem k_h1_0 (H : Cst b P Q sh hr) : hr (b + 1) 0 = some (b + 2) := H.2.1.2.2.2.2.1
theorem k_h3_0 (H : Cst b P Q sh hr) : hr (b + 3) 0 = some (b + 1) := H.2.1.2.2.2.2.2.1
theorem k_h4_5 (H : Cst b P Q sh hr) : hr (b + 4) 5 = some (b + 5) := H.2.1.2.2.2.2.2.2.1
theorem k_h4_6 (H : Cst b P Q sh hr) : hr (b + 4) 6 = some (b + 6) := H.2.1.2.2.2.2.2.2.2.1
theorem k_h7_0 (H : Cst b P Q sh hr) : hr (b + 7) 0 = some (b + 8) := H.2.1.2.2.2.2.2.2.2.2.1
theorem k_h0_4 (H : Cst b P Q sh hr) : hr b 4 = some P := H.2.1.2.2.2.2.2.2.2.2.2.1
theorem k_h0_5 (H : Cst b P Q sh hr) : hr b 5 = some Q := H.2.1.2.2.2.2.2.2.2.2.2.2
theorem k_P (H : Cst b P Q sh hr) : Pst P sh hr := H.2.2.1
theorem k_Q (H : Cst b P Q sh hr) : Pst Q sh hr := H.2.2.2.1
theorem k_PQ (H : Cst b P Q sh hr) : (P = b + 9 ∧ Q = b + 19) ∨ (P = b + 19 ∧ Q = b + 9) := H.2.2.2.2
theorem kg0 (H : Cst b P Q sh hr) : am_fg 0 k b (z, sh, hi, hr) = some (hi b k) := fl_fg (k_s0 H)
theorem kp0 (H : Cst b P Q sh hr) : am_fp 0 k b x (z, sh, hi, hr) = some (z, sh, am_up hi b k x, hr) := fl_fp (k_s0 H)
theorem ko0 {α : Type} {f : Option α} (H : Cst b P Q sh hr) : am_ob 0 b (z, sh, hi, hr) f = f := fl_ob (k_s0 H)
theorem kg1 (H : Cst b P Q sh hr) : am_fg 1 k (b + 1) (z, sh, hi, hr) = some (hi (b + 1) k) := fl_fg (k_s1 H)
theorem kp1 (H : Cst b P Q sh hr) : am_fp 1 k (b + 1) x (z, sh, hi, hr) = some (z, sh, am_up hi (b + 1) k x, hr) := fl_fp (k_s1 H)
theorem ko1 {α : Type} {f : Option α} (H : Cst b P Q sh hr) : am_ob 1 (b + 1) (z, sh, hi, hr) f = f := fl_ob (k_s1 H)
theorem kg2 (H : Cst b P Q sh hr) : am_fg 2 k (b + 3) (z, sh, hi, hr) = some (hi (b + 3) k) := fl_fg (k_s3 H)
theorem kp2 (H : Cst b P Q sh hr) : am_fp 2 k (b + 3) x (z, sh, hi, hr) = some (z, sh, am_up hi (b + 3) k x, hr) := fl_fp (k_s3 H)
theorem ko2 {α : Type} {f : Option α} (H : Cst b P Q sh hr) : am_ob 2 (b + 3) (z, sh, hi, hr) f = f := fl_ob (k_s3 H)
theorem kg3 (H : Cst b P Q sh hr) : am_fg 3 k (b + 4) (z, sh, hi, hr) = some (hi (b + 4) k) := fl_fg (k_s4 H)
theorem kp3 (H : Cst b P Q sh hr) : am_fp 3 k (b + 4) x (z, sh, hi, hr) = some (z, sh, am_up hi (b + 4) k x, hr) := fl_fp (k_s4 H)
theorem ko3 {α : Type} {f : Option α} (H : Cst b P Q sh hr) : am_ob 3 (b + 4) (z, sh, hi, hr) f = f := fl_ob (k_s4 H)
theorem kg4 (H : Cst b P Q sh hr) : am_fg 4 k (b + 7) (z, sh, hi, hr) = some (hi (b + 7) k) := fl_fg (k_s7 H)
theorem kp4 (H : Cst b P Q sh hr) : am_fp 4 k (b + 7) x (z, sh, hi, hr) = some (z, sh, am_up hi (b + 7) k x, hr) := fl_fp (k_s7 H)
theorem ko4 {α : Type} {f : Option α} (H : Cst b P Q sh hr) : am_ob 4 (b + 7) (z, sh, hi, hr) f = f := fl_ob (k_s7 H)
theorem kr0_0 (H : Cst b P Q sh hr) : am_rg 0 0 b (z, sh, hi, hr) = some (b + 1) := fl_rg (k_s0 H) (k_h0_0 H)
theorem kr0_1 (H : Cst b P Q sh hr) : am_rg 0 1 b (z, sh, hi, hr) = some (b + 3) := fl_rg (k_s0 H) (k_h0_1 H)
theorem kr0_2 (H : Cst b P Q sh hr) : am_rg 0 2 b (z, sh, hi, hr) = some (b + 4) := fl_rg (k_s0 H) (k_h0_2 H)
theorem kr0_3 (H : Cst b P Q sh hr) : am_rg 0 3 b (z, sh, hi, hr) = some (b + 7) := fl_rg (k_s0 H) (k_h0_3 H)
theorem kr1_0 (H : Cst b P Q sh hr) : am_rg 1 0 (b + 1) (z, sh, hi, hr) = some (b + 2) := fl_rg (k_s1 H) (k_h1_0 H)
theorem kr3_0 (H : Cst b P Q sh hr) : am_rg 2 0 (b + 3) (z, sh, hi, hr) = some (b + 1) := fl_rg (k_s3 H) (k_h3_0 H)
theorem kr4_5 (H : Cst b P Q sh hr) : am_rg 3 5 (b + 4) (z, sh, hi, hr) = some (b + 5) := fl_rg (k_s4 H) (k_h4_5 H)
theorem kr4_6 (H : Cst b P Q sh hr) : am_rg 3 6 (b + 4) (z, sh, hi, hr) = some (b + 6) := fl_rg (k_s4 H) (k_h4_6 H)
theorem kr7_0 (H : Cst b P Q sh hr) : am_rg 4 0 (b + 7) (z, sh, hi, hr) = some (b + 8) := fl_rg (k_s7 H) (k_h7_0 H)
theorem kr0_4 (H : Cst b P Q sh hr) : am_rg 0 4 b (z, sh, hi, hr) = some P := fl_rg (k_s0 H) (k_h0_4 H)
theorem kr0_5 (H : Cst b P Q sh hr) : am_rg 0 5 b (z, sh, hi, hr) = some Q := fl_rg (k_s0 H) (k_h0_5 H)
theorem kcg (H : Cst b P Q sh hr) (h : j < 64) : am_cg (b + 2) (nI j) (z, sh, hi, hr) = some (hi (b + 2) j) := fl_cg (k_s2 H) h (by decide)
theorem kcs (H : Cst b P Q sh hr) (h : j < 64) : am_cs (b + 2) (nI j) x (z, sh, hi, hr) = some (z, sh, am_up hi (b + 2) j x.toUInt32.toUInt16.toUInt32.toInt32, hr) := fl_cs (k_s2 H) h (by decide)
theorem ki5 (H : Cst b P Q sh hr) (h : j < 24) : am_ig (b + 5) (nI j) (z, sh, hi, hr) = some (hi (b + 5) j) := fl_ig (k_s5 H) h (by decide)
theorem kw5 (H : Cst b P Q sh hr) (h : j < 24) : am_is (b + 5) (nI j) x (z, sh, hi, hr) = some (z, sh, am_up hi (b + 5) j x, hr) := fl_is (k_s5 H) h (by decide)
theorem ki6 (H : Cst b P Q sh hr) (h : j < 24) : am_ig (b + 6) (nI j) (z, sh, hi, hr) = some (hi (b + 6) j) := fl_ig (k_s6 H) h (by decide)
theorem kw6 (H : Cst b P Q sh hr) (h : j < 24) : am_is (b + 6) (nI j) x (z, sh, hi, hr) = some (z, sh, am_up hi (b + 6) j x, hr) := fl_is (k_s6 H) h (by decide)
theorem ki8 (H : Cst b P Q sh hr) (h : j < 31) : am_ig (b + 8) (nI j) (z, sh, hi, hr) = some (hi (b + 8) j) := fl_ig (k_s8 H) h (by decide)
theorem kw8 (H : Cst b P Q sh hr) (h : j < 31) : am_is (b + 8) (nI j) x (z, sh, hi, hr) = some (z, sh, am_up hi (b + 8) j x, hr) := fl_is (k_s8 H) h (by decide)
theorem kal (H : Cst b P Q sh hr) : am_al (b + 8) (z, sh, hi, hr) = some (nI 31) := fl_al (k_s8 H)
theorem pg (h : Pst P sh hr) : am_fg 5 k P (z, sh, hi, hr) = some (hi P k) := fl_fg h.1
theorem pp (h : Pst P sh hr) : am_fp 5 k P x (z, sh, hi, hr) = some (z, sh, am_up hi P k x, hr) := fl_fp h.1
theorem po {α : Type} {f : Option α} (h : Pst P sh hr) : am_ob 5 P (z, sh, hi, hr) f = f := fl_ob h.1
theorem pr (h : Pst P sh hr) : am_rg 5 0 P (z, sh, hi, hr) = some (P + 1) := fl_rg h.1 h.2.2.1
theorem pa (h : Pst P sh hr) (hj : j < 8) : am_ag (P + 1) (nI j) (z, sh, hi, hr) = some (P + 2 + j) := fl_ag h.2.1 hj (by decide) (h.2.2.2 j hj).1
theorem ps (h : Pst P sh hr) (hj : j < 8) : sh (P + 2 + j) = some (.inl 6) := (h.2.2.2 j hj).2
theorem ag (h : Pst P sh hr) (hj : j < 8) : am_fg 6 k (P + 2 + j) (z, sh, hi, hr) = some (hi (P + 2 + j) k) := fl_fg (ps h hj)
theorem ap (h : Pst P sh hr) (hj : j < 8) : am_fp 6 k (P + 2 + j) x (z, sh, hi, hr) = some (z, sh, am_up hi (P + 2 + j) k x, hr) := fl_fp (ps h hj)
theorem ao {α : Type} {f : Option α} (h : Pst P sh hr) (hj : j < 8) : am_ob 6 (P + 2 + j) (z, sh, hi, hr) f = f := fl_ob (ps h hj)
theorem mg (H : Mst M sh hr) : am_fg 7 k M (z, sh, hi, hr) = some (hi M k) := fl_fg H.1
theorem mp (H : Mst M sh hr) : am_fp 7 k M x (z, sh, hi, hr) = some (z, sh, am_up hi M k x, hr) := fl_fp H.1
theorem mo {α : Type} {f : Option α} (H : Mst M sh hr) : am_ob 7 M (z, sh, hi, hr) f = f := fl_ob H.1
theorem mr1 (H : Mst M sh hr) : am_rg 7 1 M (z, sh, hi, hr) = some (M + 1) := fl_rg H.1 H.2.1.1
theorem mi1 (H : Mst M sh hr) (h : j < 64) : am_ig (M + 1) (nI j) (z, sh, hi, hr) = some (hi (M + 1) j) := fl_ig H.2.1.2 h (by decide)
theorem mw1 (H : Mst M sh hr) (h : j < 64) : am_is (M + 1) (nI j) x (z, sh, hi, hr) = some (z, sh, am_up hi (M + 1) j x, hr) := fl_is H.2.1.2 h (by decide)
theorem mr6 (H : Mst M sh hr) : am_rg 7 6 M (z, sh, hi, hr) = some (M + 2) := fl_rg H.1 H.2.2.1.1
theorem mi2 (H : Mst M sh hr) (h : j < 72) : am_ig (M + 2) (nI j) (z, sh, hi, hr) = some (hi (M + 2) j) := fl_ig H.2.2.1.2 h (by decide)
theorem mw2 (H : Mst M sh hr) (h : j < 72) : am_is (M + 2) (nI j) x (z, sh, hi, hr) = some (z, sh, am_up hi (M + 2) j x, hr) := fl_is H.2.2.1.2 h (by decide)
theorem mr7 (H : Mst M sh hr) : am_rg 7 7 M (z, sh, hi, hr) = some (M + 3) := fl_rg H.1 H.2.2.2.1.1
theorem mi3 (H : Mst M sh hr) (h : j < 8) : am_ig (M + 3) (nI j) (z, sh, hi, hr) = some (hi (M + 3) j) := fl_ig H.2.2.2.1.2 h (by decide)
theorem mw3 (H : Mst M sh hr) (h : j < 8) : am_is (M + 3) (nI j) x (z, sh, hi, hr) = some (z, sh, am_up hi (M + 3) j x, hr) := fl_is H.2.2.2.1.2 h (by decide)
theorem mr8 (H : Mst M sh hr) : am_rg 7 8 M (z, sh, hi, hr) = some (M + 4) := fl_rg H.1 H.2.2.2.2.1.1
theorem mi4 (H : Mst M sh hr) (h : j < 8) : am_ig (M + 4) (nI j) (z, sh, hi, hr) = some (hi (M + 4) j) := fl_ig H.2.2.2.2.1.2 h (by decide)
theorem mw4 (H : Mst M sh hr) (h : j < 8) : am_is (M + 4) (nI j) x (z, sh, hi, hr) = some (z, sh, am_up hi (M + 4) j x, hr) := fl_is H.2.2.2.2.1.2 h (by decide)
theorem mr10 (H : Mst M sh hr) : am_rg 7 10 M (z, sh, hi, hr) = some (M + 5) := fl_rg H.1 H.2.2.2.2.2.1.1
theorem mi5 (H : Mst M sh hr) (h : j < 72) : am_ig (M + 5) (nI j) (z, sh, hi, hr) = some (hi (M + 5) j) := fl_ig H.2.2.2.2.2.1.2 h (by decide)
theorem mw5 (H : Mst M sh hr) (h : j < 72) : am_is (M + 5) (nI j) x (z, sh, hi, hr) = some (z, sh, am_up hi (M + 5) j x, hr) := fl_is H.2.2.2.2.2.1.2 h (by decide)
theorem mr11 (H : Mst M sh hr) : am_rg 7 11 M (z, sh, hi, hr) = some (M + 6) := fl_rg H.1 H.2.2.2.2.2.2.1.1
theorem mi6 (H : Mst M sh hr) (h : j < 8) : am_ig (M + 6) (nI j) (z, sh, hi, hr) = some (hi (M + 6) j) := fl_ig H.2.2.2.2.2.2.1.2 h (by decide)
theorem mw6 (H : Mst M sh hr) (h : j < 8) : am_is (M + 6) (nI j) x (z, sh, hi, hr) = some (z, sh, am_up hi (M + 6) j x, hr) := fl_is H.2.2.2.2.2.2.1.2 h (by decide)
theorem mr12 (H : Mst M sh hr) : am_rg 7 12 M (z, sh, hi, hr) = some (M + 7) := fl_rg H.1 H.2.2.2.2.2.2.2.1.1
theorem mi7 (H : Mst M sh hr) (h : j < 8) : am_ig (M + 7) (nI j) (z, sh, hi, hr) = some (hi (M + 7) j) := fl_ig H.2.2.2.2.2.2.2.1.2 h (by decide)
theorem mw7 (H : Mst M sh hr) (h : j < 8) : am_is (M + 7) (nI j) x (z, sh, hi, hr) = some (z, sh, am_up hi (M + 7) j x, hr) := fl_is H.2.2.2.2.2.2.2.1.2 h (by decide)
theorem mr13 (H : Mst M sh hr) : am_rg 7 13 M (z, sh, hi, hr) = some (M + 8) := fl_rg H.1 H.2.2.2.2.2.2.2.2.1.1
theorem mi8 (H : Mst M sh hr) (h : j < 8) : am_ig (M + 8) (nI j) (z, sh, hi, hr) = some (hi (M + 8) j) := fl_ig H.2.2.2.2.2.2.2.2.1.2 h (by decide)
theorem mw8 (H : Mst M sh hr) (h : j < 8) : am_is (M + 8) (nI j) x (z, sh, hi, hr) = some (z, sh, am_up hi (M + 8) j x, hr) := fl_is H.2.2.2.2.2.2.2.2.1.2 h (by decide)
theorem mr14 (H : Mst M sh hr) : am_rg 7 14 M (z, sh, hi, hr) = some (M + 9) := fl_rg H.1 H.2.2.2.2.2.2.2.2.2.1.1
theorem mi9 (H : Mst M sh hr) (h : j < 8) : am_ig (M + 9) (nI j) (z, sh, hi, hr) = some (hi (M + 9) j) := fl_ig H.2.2.2.2.2.2.2.2.2.1.2 h (by decide)
theorem mw9 (H : Mst M sh hr) (h : j < 8) : am_is (M + 9) (nI j) x (z, sh, hi, hr) = some (z, sh, am_up hi (M + 9) j x, hr) := fl_is H.2.2.2.2.2.2.2.2.2.1.2 h (by decide)
theorem mr15 (H : Mst M sh hr) : am_rg 7 15 M (z, sh, hi, hr) = some (M + 10) := fl_rg H.1 H.2.2.2.2.2.2.2.2.2.2.1.1
theorem mi10 (H : Mst M sh hr) (h : j < 8) : am_ig (M + 10) (nI j) (z, sh, hi, hr) = some (hi (M + 10) j) := fl_ig H.2.2.2.2.2.2.2.2.2.2.1.2 h (by decide)
theorem mw10 (H : Mst M sh hr) (h : j < 8) : am_is (M + 10) (nI j) x (z, sh, hi, hr) = some (z, sh, am_up hi (M + 10) j x, hr) := fl_is H.2.2.2.2.2.2.2.2.2.2.1.2 h (by decide)
theorem mr16 (H : Mst M sh hr) : am_rg 7 16 M (z, sh, hi, hr) = some (M + 11) := fl_rg H.1 H.2.2.2.2.2.2.2.2.2.2.2.1.1
theorem mi11 (H : Mst M sh hr) (h : j < 8) : am_ig (M + 11) (nI j) (z, sh, hi, hr) = some (hi (M + 11) j) := fl_ig H.2.2.2.2.2.2.2.2.2.2.2.1.2 h (by decide)
theorem mw11 (H : Mst M sh hr) (h : j < 8) : am_is (M + 11) (nI j) x (z, sh, hi, hr) = some (z, sh, am_up hi (M + 11) j x, hr) := fl_is H.2.2.2.2.2.2.2.2.2.2.2.1.2 h (by decide)
theorem mr17 (H : Mst M sh hr) : am_rg 7 17 M (z, sh, hi, hr) = some (M + 12) := fl_rg H.1 H.2.2.2.2.2.2.2.2.2.2.2.2.1.1
theorem mi12 (H : Mst M sh hr) (h : j < 8) : am_ig (M + 12) (nI j) (z, sh, hi, hr) = some (hi (M + 12) j) := fl_ig H.2.2.2.2.2.2.2.2.2.2.2.2.1.2 h (by decide)
theorem mw12 (H : Mst M sh hr) (h : j < 8) : am_is (M + 12) (nI j) x (z, sh, hi, hr) = some (z, sh, am_up hi (M + 12) j x, hr) := fl_is H.2.2.2.2.2.2.2.2.2.2.2.2.1.2 h (by decide)
theorem mr18 (H : Mst M sh hr) : am_rg 7 18 M (z, sh, hi, hr) = some (M + 13) := fl_rg H.1 H.2.2.2.2.2.2.2.2.2.2.2.2.2.1.1
theorem mi13 (H : Mst M sh hr) (h : j < 8) : am_ig (M + 13) (nI j) (z, sh, hi, hr) = some (hi (M + 13) j) := fl_ig H.2.2.2.2.2.2.2.2.2.2.2.2.2.1.2 h (by decide)
theorem mw13 (H : Mst M sh hr) (h : j < 8) : am_is (M + 13) (nI j) x (z, sh, hi, hr) = some (z, sh, am_up hi (M + 13) j x, hr) := fl_is H.2.2.2.2.2.2.2.2.2.2.2.2.2.1.2 h (by decide)
theorem mr19 (H : Mst M sh hr) : am_rg 7 19 M (z, sh, hi, hr) = some (M + 14) := fl_rg H.1 H.2.2.2.2.2.2.2.2.2.2.2.2.2.2.1.1
theorem mi14 (H : Mst M sh hr) (h : j < 8) : am_ig (M + 14) (nI j) (z, sh, hi, hr) = some (hi (M + 14) j) := fl_ig H.2.2.2.2.2.2.2.2.2.2.2.2.2.2.1.2 h (by decide)
theorem mw14 (H : Mst M sh hr) (h : j < 8) : am_is (M + 14) (nI j) x (z, sh, hi, hr) = some (z, sh, am_up hi (M + 14) j x, hr) := fl_is H.2.2.2.2.2.2.2.2.2.2.2.2.2.2.1.2 h (by decide)
theorem mr20 (H : Mst M sh hr) : am_rg 7 20 M (z, sh, hi, hr) = some (M + 15) := fl_rg H.1 H.2.2.2.2.2.2.2.2.2.2.2.2.2.2.2.1.1
theorem mi15 (H : Mst M sh hr) (h : j < 8) : am_ig (M + 15) (nI j) (z, sh, hi, hr) = some (hi (M + 15) j) := fl_ig H.2.2.2.2.2.2.2.2.2.2.2.2.2.2.2.1.2 h (by decide)
theorem mw15 (H : Mst M sh hr) (h : j < 8) : am_is (M + 15) (nI j) x (z, sh, hi, hr) = some (z, sh, am_up hi (M + 15) j x, hr) := fl_is H.2.2.2.2.2.2.2.2.2.2.2.2.2.2.2.1.2 h (by decide)
theorem mr25 (H : Mst M sh hr) : am_rg 7 25 M (z, sh, hi, hr) = some (M + 16) := fl_rg H.1 H.2.2.2.2.2.2.2.2.2.2.2.2.2.2.2.2.1
theorem mi16 (H : Mst M sh hr) (h : j < 24) : am_ig (M + 16) (nI j) (z, sh, hi, hr) = some (hi (M + 16) j) := fl_ig H.2.2.2.2.2.2.2.2.2.2.2.2.2.2.2.2.2 h (by decide)
theorem mw16 (H : Mst M sh hr) (h : j < 24) : am_is (M + 16) (nI j) x (z, sh, hi, hr) = some (z, sh, am_up hi (M + 16) j x, hr) := fl_is H.2.2.2.2.2.2.2.2.2.2.2.2.2.2.2.2.2 h (by decide)
end FST
/-! small numbers as Int32 -/
theorem n_le {a b : Nat} (ha : a ≤ 1000000) (hb : b ≤ 1000000) : (nI a ≤ nI b) ↔ a ≤ b := by
  constructor
  · intro h
    by_cases h1 : a ≤ b
    · exact h1
    · exact absurd h (nI_ge (by omega) (by omega))
  · exact fun h => nI_le h (by omega)
theorem n_lt {a b : Nat} (ha : a ≤ 1000000) (hb : b ≤ 1000000) : (nI a < nI b) ↔ a < b := by
  constructor
  · intro h
    by_cases h1 : a < b
    · exact h1
    · exact absurd h (nI_nlt (by omega) (by omega))
  · exact fun h => nI_lt h (by omega)
theorem n_inj {a b : Nat} (ha : a ≤ 1000000) (hb : b ≤ 1000000) : (nI a = nI b) ↔ a = b := by
  constructor
  · intro h
    have h1 := nI_clamp (n := a) (by omega)
    have h2 := nI_clamp (n := b) (by omega)
    rw [h] at h1
    omega
  · exact fun h => by rw [h]
theorem n_add (a b : Nat) : nI a + nI b = nI (a + b) := (Int32.ofNat_add a b).symm
theorem n_s (a : Nat) : nI a + (1 : Int32) = nI (a + 1) := (nI_succ a).symm
theorem it_s {τ : Type} {b : τ} {F : τ → τ} (n : Nat) : am_it b F (n + 1) = F (am_it b F n) := rfl
/-! updates -/
theorem up_e {α : Type} (f : Nat → Nat → α) (a k : Nat) (v : α) : am_up f a k v a k = v := am_up_eq f a k v
theorem up_k {α : Type} (f : Nat → Nat → α) (a k j : Nat) (v : α) (h : j ≠ k) : am_up f a k v a j = f a j := am_up_nk h
theorem up_a {α : Type} (f : Nat → Nat → α) (a q k j : Nat) (v : α) (h : q ≠ a) : am_up f a k v q j = f q j := am_up_na h
/-- a whole cell -/
def cw (hi : am_I) (a : Nat) (c : Nat → Int32) : am_I := fun q => if q = a then c else hi q
def cu (c : Nat → Int32) (k : Nat) (x : Int32) : Nat → Int32 := fun j => if j = k then x else c j
theorem up_cw (hi : am_I) (a k : Nat) (x : Int32) : am_up hi a k x = cw hi a (cu (hi a) k x) := by
  funext q j
  simp only [am_up, cw, cu]
  by_cases h : q = a
  · subst h
    by_cases h2 : j = k <;> simp [h2, cu]
  · simp [h]
theorem cw_e (hi : am_I) (a : Nat) (c : Nat → Int32) : cw hi a c a = c := by simp [cw]
theorem cw_n (hi : am_I) (a q : Nat) (c : Nat → Int32) (h : q ≠ a) : cw hi a c q = hi q := by simp [cw, h]
theorem cw_cw (hi : am_I) (a : Nat) (c d : Nat → Int32) : cw (cw hi a c) a d = cw hi a d := by
  funext q
  by_cases h : q = a <;> simp [cw, h]
theorem cw_id (hi : am_I) (a : Nat) : cw hi a (hi a) = hi := by
  funext q
  by_cases h : q = a <;> simp [cw, h]
