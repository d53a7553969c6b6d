def rm_Mo_init : Room := { frames := 1, cells := 16, slots := 328, locals := 21 }
def f_Mo_init (a0 : Nat) (w : am_w) : Option (Int32 × am_w) := (am_let (am_nw (.inr (.int, 64)) w) fun w1 => ((am_rp 7 1 a0 w.1 w1).bind fun w3 => (am_let (am_nw (.inr (.int, 72)) w3) fun w4 => ((am_rp 7 6 a0 w3.1 w4).bind fun w6 => (am_let (am_nw (.inr (.int, 8)) w6) fun w7 => ((am_rp 7 7 a0 w6.1 w7).bind fun w9 => (am_let (am_nw (.inr (.int, 8)) w9) fun w10 => ((am_rp 7 8 a0 w9.1 w10).bind fun w12 => (am_let (am_nw (.inr (.int, 72)) w12) fun w13 => ((am_rp 7 10 a0 w12.1 w13).bind fun w15 => (am_let (am_nw (.inr (.int, 8)) w15) fun w16 => ((am_rp 7 11 a0 w15.1 w16).bind fun w18 => (am_let (am_nw (.inr (.int, 8)) w18) fun w19 => ((am_rp 7 12 a0 w18.1 w19).bind fun w21 => (am_let (am_nw (.inr (.int, 8)) w21) fun w22 => ((am_rp 7 13 a0 w21.1 w22).bind fun w24 => (am_let (am_nw (.inr (.int, 8)) w24) fun w25 => ((am_rp 7 14 a0 w24.1 w25).bind fun w27 => (am_let (am_nw (.inr (.int, 8)) w27) fun w28 => ((am_rp 7 15 a0 w27.1 w28).bind fun w30 => (am_let (am_nw (.inr (.int, 8)) w30) fun w31 => ((am_rp 7 16 a0 w30.1 w31).bind fun w33 => (am_let (am_nw (.inr (.int, 8)) w33) fun w34 => ((am_rp 7 17 a0 w33.1 w34).bind fun w36 => (am_let (am_nw (.inr (.int, 8)) w36) fun w37 => ((am_rp 7 18 a0 w36.1 w37).bind fun w39 => (am_let (am_nw (.inr (.int, 8)) w39) fun w40 => ((am_rp 7 19 a0 w39.1 w40).bind fun w42 => (am_let (am_nw (.inr (.int, 8)) w42) fun w43 => ((am_rp 7 20 a0 w42.1 w43).bind fun w45 => ((am_fp 7 23 a0 (1000 : Int32) w45).bind fun w46 => (am_let (am_nw (.inr (.int, 24)) w46) fun w47 => ((am_rp 7 25 a0 w46.1 w47).bind fun w49 => ((am_fp 7 26 a0 (-1 : Int32) w49).bind fun w50 => ((am_fp 7 27 a0 (5 : Int32) w50).bind fun w51 => ((am_fp 7 28 a0 (20 : Int32) w51).bind fun w52 => ((am_fp 7 2 a0 (0 : Int32) w52).bind fun w53 => (some (0, w53)))))))))))))))))))))))))))))))))))))))
theorem hd_Mo_init : y_Mo_init.cls ≠ "java/lang/invoke/MethodHandle" ∧ y_Mo_init.cls ≠ "java/lang/invoke/VarHandle" ∧ (parseMethodDescriptor y_Mo_init.desc).map (fun d => d.parameters.length) = some 0 := ⟨by decide, by decide, by decide +kernel⟩
set_option maxHeartbeats 4000000 in
theorem c_Mo_init {l : Launch} {D : va_G} {A : Nat → Prop} {a0 : Nat} {w : am_w} {r : Int32 × am_w} (hX : f_Mo_init a0 w = some r) : am_Met l D classes tys A (am_F A true) y_Mo_init (Cond.code y_Mo_init b_Mo_init 1 none :: am_W) rm_Mo_init [.ref a0] w (am_rv r) 16 328 := by
  refine am_ofV (by decide) am_W_good (Nat.le_of_ble_eq_true rfl) (by simp [Value.category]) ?_
  intro p e s m below meth c C hret hlk hnm
  unfold f_Mo_init at hX
  refine am_aload_n (pc := 0) C d_Mo_init_0 rfl rfl ?_
  refine am_objInit (pc := 1) C wd_4_99 wd_1_27 wd_1_28 d_Mo_init_1 (by decide) (Nat.le_of_ble_eq_true rfl) ?_
  refine am_aload_n (pc := 4) C d_Mo_init_4 rfl rfl ?_
  refine am_bipush (pc := 5) (v := (64 : Int32)) C d_Mo_init_5 (by decide) ?_
  refine am_newa (pc := 7) (atype := .int) (N := 64) (t9 := .int) C wd_1_108 rfl rfl (by decide) (by decide) (by decide) (by decide) (by decide) d_Mo_init_7 ?_
  obtain ⟨w1, ew1, hX⟩ := am_let_of hX
  rw [← ew1]
  refine am_putrF (pc := 9) C (fun _ h => ⟨rfl, h⟩) hin_Mo t_Mo t_Mo_ok n_Mo rfl (by decide) wd_4_101 rfl rfl rfl hnm (t_Mo_ok 1 (by decide)) rfl rfl rfl d_Mo_init_9 hX (fun w3 hX => ?_)
  refine am_aload_n (pc := 12) C d_Mo_init_12 rfl rfl ?_
  refine am_bipush (pc := 13) (v := (72 : Int32)) C d_Mo_init_13 (by decide) ?_
  refine am_newa (pc := 15) (atype := .int) (N := 72) (t9 := .int) C wd_1_108 rfl rfl (by decide) (by decide) (by decide) (by decide) (by decide) d_Mo_init_15 ?_
  obtain ⟨w4, ew4, hX⟩ := am_let_of hX
  rw [← ew4]
  refine am_putrF (pc := 17) C (fun _ h => ⟨rfl, h⟩) hin_Mo t_Mo t_Mo_ok n_Mo rfl (by decide) wd_4_106 rfl rfl rfl hnm (t_Mo_ok 6 (by decide)) rfl rfl rfl d_Mo_init_17 hX (fun w6 hX => ?_)
  refine am_aload_n (pc := 20) C d_Mo_init_20 rfl rfl ?_
  refine am_bipush (pc := 21) (v := (8 : Int32)) C d_Mo_init_21 (by decide) ?_
  refine am_newa (pc := 23) (atype := .int) (N := 8) (t9 := .int) C wd_1_108 rfl rfl (by decide) (by decide) (by decide) (by decide) (by decide) d_Mo_init_23 ?_
  obtain ⟨w7, ew7, hX⟩ := am_let_of hX
  rw [← ew7]
  refine am_putrF (pc := 25) C (fun _ h => ⟨rfl, h⟩) hin_Mo t_Mo t_Mo_ok n_Mo rfl (by decide) wd_4_107 rfl rfl rfl hnm (t_Mo_ok 7 (by decide)) rfl rfl rfl d_Mo_init_25 hX (fun w9 hX => ?_)
  refine am_aload_n (pc := 28) C d_Mo_init_28 rfl rfl ?_
  refine am_bipush (pc := 29) (v := (8 : Int32)) C d_Mo_init_29 (by decide) ?_
  refine am_newa (pc := 31) (atype := .int) (N := 8) (t9 := .int) C wd_1_108 rfl rfl (by decide) (by decide) (by decide) (by decide) (by decide) d_Mo_init_31 ?_
  obtain ⟨w10, ew10, hX⟩ := am_let_of hX
  rw [← ew10]
  refine am_putrF (pc := 33) C (fun _ h => ⟨rfl, h⟩) hin_Mo t_Mo t_Mo_ok n_Mo rfl (by decide) wd_4_108 rfl rfl rfl hnm (t_Mo_ok 8 (by decide)) rfl rfl rfl d_Mo_init_33 hX (fun w12 hX => ?_)
  refine am_aload_n (pc := 36) C d_Mo_init_36 rfl rfl ?_
  refine am_bipush (pc := 37) (v := (72 : Int32)) C d_Mo_init_37 (by decide) ?_
  refine am_newa (pc := 39) (atype := .int) (N := 72) (t9 := .int) C wd_1_108 rfl rfl (by decide) (by decide) (by decide) (by decide) (by decide) d_Mo_init_39 ?_
  obtain ⟨w13, ew13, hX⟩ := am_let_of hX
  rw [← ew13]
  refine am_putrF (pc := 41) C (fun _ h => ⟨rfl, h⟩) hin_Mo t_Mo t_Mo_ok n_Mo rfl (by decide) wd_4_110 rfl rfl rfl hnm (t_Mo_ok 10 (by decide)) rfl rfl rfl d_Mo_init_41 hX (fun w15 hX => ?_)
  refine am_aload_n (pc := 44) C d_Mo_init_44 rfl rfl ?_
  refine am_bipush (pc := 45) (v := (8 : Int32)) C d_Mo_init_45 (by decide) ?_
  refine am_newa (pc := 47) (atype := .int) (N := 8) (t9 := .int) C wd_1_108 rfl rfl (by decide) (by decide) (by decide) (by decide) (by decide) d_Mo_init_47 ?_
  obtain ⟨w16, ew16, hX⟩ := am_let_of hX
  rw [← ew16]
  refine am_putrF (pc := 49) C (fun _ h => ⟨rfl, h⟩) hin_Mo t_Mo t_Mo_ok n_Mo rfl (by decide) wd_4_111 rfl rfl rfl hnm (t_Mo_ok 11 (by decide)) rfl rfl rfl d_Mo_init_49 hX (fun w18 hX => ?_)
  refine am_aload_n (pc := 52) C d_Mo_init_52 rfl rfl ?_
  refine am_bipush (pc := 53) (v := (8 : Int32)) C d_Mo_init_53 (by decide) ?_
  refine am_newa (pc := 55) (atype := .int) (N := 8) (t9 := .int) C wd_1_108 rfl rfl (by decide) (by decide) (by decide) (by decide) (by decide) d_Mo_init_55 ?_
  obtain ⟨w19, ew19, hX⟩ := am_let_of hX
  rw [← ew19]
  refine am_putrF (pc := 57) C (fun _ h => ⟨rfl, h⟩) hin_Mo t_Mo t_Mo_ok n_Mo rfl (by decide) wd_4_112 rfl rfl rfl hnm (t_Mo_ok 12 (by decide)) rfl rfl rfl d_Mo_init_57 hX (fun w21 hX => ?_)
  refine am_aload_n (pc := 60) C d_Mo_init_60 rfl rfl ?_
  refine am_bipush (pc := 61) (v := (8 : Int32)) C d_Mo_init_61 (by decide) ?_
  refine am_newa (pc := 63) (atype := .int) (N := 8) (t9 := .int) C wd_1_108 rfl rfl (by decide) (by decide) (by decide) (by decide) (by decide) d_Mo_init_63 ?_
  obtain ⟨w22, ew22, hX⟩ := am_let_of hX
  rw [← ew22]
  refine am_putrF (pc := 65) C (fun _ h => ⟨rfl, h⟩) hin_Mo t_Mo t_Mo_ok n_Mo rfl (by decide) wd_4_113 rfl rfl rfl hnm (t_Mo_ok 13 (by decide)) rfl rfl rfl d_Mo_init_65 hX (fun w24 hX => ?_)
  refine am_aload_n (pc := 68) C d_Mo_init_68 rfl rfl ?_
  refine am_bipush (pc := 69) (v := (8 : Int32)) C d_Mo_init_69 (by decide) ?_
  refine am_newa (pc := 71) (atype := .int) (N := 8) (t9 := .int) C wd_1_108 rfl rfl (by decide) (by decide) (by decide) (by decide) (by decide) d_Mo_init_71 ?_
  obtain ⟨w25, ew25, hX⟩ := am_let_of hX
  rw [← ew25]
  refine am_putrF (pc := 73) C (fun _ h => ⟨rfl, h⟩) hin_Mo t_Mo t_Mo_ok n_Mo rfl (by decide) wd_4_114 rfl rfl rfl hnm (t_Mo_ok 14 (by decide)) rfl rfl rfl d_Mo_init_73 hX (fun w27 hX => ?_)
  refine am_aload_n (pc := 76) C d_Mo_init_76 rfl rfl ?_
  refine am_bipush (pc := 77) (v := (8 : Int32)) C d_Mo_init_77 (by decide) ?_
  refine am_newa (pc := 79) (atype := .int) (N := 8) (t9 := .int) C wd_1_108 rfl rfl (by decide) (by decide) (by decide) (by decide) (by decide) d_Mo_init_79 ?_
  obtain ⟨w28, ew28, hX⟩ := am_let_of hX
  rw [← ew28]
  refine am_putrF (pc := 81) C (fun _ h => ⟨rfl, h⟩) hin_Mo t_Mo t_Mo_ok n_Mo rfl (by decide) wd_4_115 rfl rfl rfl hnm (t_Mo_ok 15 (by decide)) rfl rfl rfl d_Mo_init_81 hX (fun w30 hX => ?_)
  refine am_aload_n (pc := 84) C d_Mo_init_84 rfl rfl ?_
  refine am_bipush (pc := 85) (v := (8 : Int32)) C d_Mo_init_85 (by decide) ?_
  refine am_newa (pc := 87) (atype := .int) (N := 8) (t9 := .int) C wd_1_108 rfl rfl (by decide) (by decide) (by decide) (by decide) (by decide) d_Mo_init_87 ?_
  obtain ⟨w31, ew31, hX⟩ := am_let_of hX
  rw [← ew31]
  refine am_putrF (pc := 89) C (fun _ h => ⟨rfl, h⟩) hin_Mo t_Mo t_Mo_ok n_Mo rfl (by decide) wd_4_116 rfl rfl rfl hnm (t_Mo_ok 16 (by decide)) rfl rfl rfl d_Mo_init_89 hX (fun w33 hX => ?_)
  refine am_aload_n (pc := 92) C d_Mo_init_92 rfl rfl ?_
  refine am_bipush (pc := 93) (v := (8 : Int32)) C d_Mo_init_93 (by decide) ?_
  refine am_newa (pc := 95) (atype := .int) (N := 8) (t9 := .int) C wd_1_108 rfl rfl (by decide) (by decide) (by decide) (by decide) (by decide) d_Mo_init_95 ?_
  obtain ⟨w34, ew34, hX⟩ := am_let_of hX
  rw [← ew34]
  refine am_putrF (pc := 97) C (fun _ h => ⟨rfl, h⟩) hin_Mo t_Mo t_Mo_ok n_Mo rfl (by decide) wd_4_117 rfl rfl rfl hnm (t_Mo_ok 17 (by decide)) rfl rfl rfl d_Mo_init_97 hX (fun w36 hX => ?_)
  refine am_aload_n (pc := 100) C d_Mo_init_100 rfl rfl ?_
  refine am_bipush (pc := 101) (v := (8 : Int32)) C d_Mo_init_101 (by decide) ?_
  refine am_newa (pc := 103) (atype := .int) (N := 8) (t9 := .int) C wd_1_108 rfl rfl (by decide) (by decide) (by decide) (by decide) (by decide) d_Mo_init_103 ?_
  obtain ⟨w37, ew37, hX⟩ := am_let_of hX
  rw [← ew37]
  refine am_putrF (pc := 105) C (fun _ h => ⟨rfl, h⟩) hin_Mo t_Mo t_Mo_ok n_Mo rfl (by decide) wd_4_118 rfl rfl rfl hnm (t_Mo_ok 18 (by decide)) rfl rfl rfl d_Mo_init_105 hX (fun w39 hX => ?_)
  refine am_aload_n (pc := 108) C d_Mo_init_108 rfl rfl ?_
  refine am_bipush (pc := 109) (v := (8 : Int32)) C d_Mo_init_109 (by decide) ?_
  refine am_newa (pc := 111) (atype := .int) (N := 8) (t9 := .int) C wd_1_108 rfl rfl (by decide) (by decide) (by decide) (by decide) (by decide) d_Mo_init_111 ?_
  obtain ⟨w40, ew40, hX⟩ := am_let_of hX
  rw [← ew40]
  refine am_putrF (pc := 113) C (fun _ h => ⟨rfl, h⟩) hin_Mo t_Mo t_Mo_ok n_Mo rfl (by decide) wd_4_119 rfl rfl rfl hnm (t_Mo_ok 19 (by decide)) rfl rfl rfl d_Mo_init_113 hX (fun w42 hX => ?_)
  refine am_aload_n (pc := 116) C d_Mo_init_116 rfl rfl ?_
  refine am_bipush (pc := 117) (v := (8 : Int32)) C d_Mo_init_117 (by decide) ?_
  refine am_newa (pc := 119) (atype := .int) (N := 8) (t9 := .int) C wd_1_108 rfl rfl (by decide) (by decide) (by decide) (by decide) (by decide) d_Mo_init_119 ?_
  obtain ⟨w43, ew43, hX⟩ := am_let_of hX
  rw [← ew43]
  refine am_putrF (pc := 121) C (fun _ h => ⟨rfl, h⟩) hin_Mo t_Mo t_Mo_ok n_Mo rfl (by decide) wd_4_120 rfl rfl rfl hnm (t_Mo_ok 20 (by decide)) rfl rfl rfl d_Mo_init_121 hX (fun w45 hX => ?_)
  refine am_aload_n (pc := 124) C d_Mo_init_124 rfl rfl ?_
  refine am_sipush (pc := 125) (v := (1000 : Int32)) C d_Mo_init_125 (by decide) ?_
  refine am_put (pc := 128) C (fun _ h => ⟨rfl, h⟩) hin_Mo t_Mo t_Mo_ok n_Mo rfl (by decide) wd_4_123 rfl rfl (t_Mo_ok 23 (by decide)) rfl rfl rfl d_Mo_init_128 hX (fun w46 hX => ?_)
  refine am_aload_n (pc := 131) C d_Mo_init_131 rfl rfl ?_
  refine am_bipush (pc := 132) (v := (24 : Int32)) C d_Mo_init_132 (by decide) ?_
  refine am_newa (pc := 134) (atype := .int) (N := 24) (t9 := .int) C wd_1_108 rfl rfl (by decide) (by decide) (by decide) (by decide) (by decide) d_Mo_init_134 ?_
  obtain ⟨w47, ew47, hX⟩ := am_let_of hX
  rw [← ew47]
  refine am_putrF (pc := 136) C (fun _ h => ⟨rfl, h⟩) hin_Mo t_Mo t_Mo_ok n_Mo rfl (by decide) wd_4_125 rfl rfl rfl hnm (t_Mo_ok 25 (by decide)) rfl rfl rfl d_Mo_init_136 hX (fun w49 hX => ?_)
  refine am_aload_n (pc := 139) C d_Mo_init_139 rfl rfl ?_
  refine am_iconst (pc := 140) (v := (-1 : Int32)) C d_Mo_init_140 (by decide) ?_
  refine am_put (pc := 141) C (fun _ h => ⟨rfl, h⟩) hin_Mo t_Mo t_Mo_ok n_Mo rfl (by decide) wd_4_126 rfl rfl (t_Mo_ok 26 (by decide)) rfl rfl rfl d_Mo_init_141 hX (fun w50 hX => ?_)
  refine am_aload_n (pc := 144) C d_Mo_init_144 rfl rfl ?_
  refine am_iconst (pc := 145) (v := (5 : Int32)) C d_Mo_init_145 (by decide) ?_
  refine am_put (pc := 146) C (fun _ h => ⟨rfl, h⟩) hin_Mo t_Mo t_Mo_ok n_Mo rfl (by decide) wd_4_127 rfl rfl (t_Mo_ok 27 (by decide)) rfl rfl rfl d_Mo_init_146 hX (fun w51 hX => ?_)
  refine am_aload_n (pc := 149) C d_Mo_init_149 rfl rfl ?_
  refine am_bipush (pc := 150) (v := (20 : Int32)) C d_Mo_init_150 (by decide) ?_
  refine am_put (pc := 152) C (fun _ h => ⟨rfl, h⟩) hin_Mo t_Mo t_Mo_ok n_Mo rfl (by decide) wd_4_128 rfl rfl (t_Mo_ok 28 (by decide)) rfl rfl rfl d_Mo_init_152 hX (fun w52 hX => ?_)
  refine am_aload_n (pc := 155) C d_Mo_init_155 rfl rfl ?_
  refine am_iconst (pc := 156) (v := (0 : Int32)) C d_Mo_init_156 (by decide) ?_
  refine am_put (pc := 157) C (fun _ h => ⟨rfl, h⟩) hin_Mo t_Mo t_Mo_ok n_Mo rfl (by decide) wd_4_102 rfl rfl (t_Mo_ok 2 (by decide)) rfl rfl rfl d_Mo_init_157 hX (fun w53 hX => ?_)
  exact am_vret (pc := 160) C hret hlk d_Mo_init_160 (by decide) (by decide) hX
def rm_Mo_thrown : Room := { frames := 0, cells := 0, slots := 0, locals := 0 }
def f_Mo_thrown (a0 : Nat) (w : am_w) : Option (Int32 × am_w) := ((am_fg 7 0 a0 w).bind fun x1 => (some (x1, w)))
theorem hd_Mo_thrown : y_Mo_thrown.cls = "RoverMinutesModel" ∧ y_Mo_thrown.cls ≠ "java/lang/invoke/MethodHandle" ∧ y_Mo_thrown.cls ≠ "java/lang/invoke/VarHandle" ∧ (parseMethodDescriptor y_Mo_thrown.desc).map (fun d => d.parameters.length) = some 0 := ⟨rfl, by decide, by decide, by decide +kernel⟩
set_option maxHeartbeats 4000000 in
theorem c_Mo_thrown {l : Launch} {D : va_G} {A : Nat → Prop} {a0 : Nat} {w : am_w} {r : Int32 × am_w} (hX : f_Mo_thrown a0 w = some r) : am_Met l D classes tys A (am_F A false) y_Mo_thrown (Cond.code y_Mo_thrown b_Mo_thrown 1 (some .int) :: am_W) rm_Mo_thrown [.ref a0] w (am_ri r) 0 0 := by
  refine am_ofV (by decide) am_W_good (Nat.le_of_ble_eq_true rfl) (by simp [Value.category]) ?_
  intro p e s m below meth c C hret hlk hnm
  unfold f_Mo_thrown at hX
  refine am_aload_n (pc := 0) C d_Mo_thrown_0 rfl rfl ?_
  refine am_get (pc := 1) C hin_Mo rfl (by decide) wd_4_100 rfl d_Mo_thrown_1 rfl hX (fun x1 hX => ?_)
  exact am_iret (pc := 4) C hret hlk d_Mo_thrown_4 rfl (by decide) (by decide) hX
def rm_Mo_refused : Room := { frames := 0, cells := 0, slots := 0, locals := 0 }
def s_Mo_refused_18  (v0 : Nat) (s0 : Int32) (s1 : Nat) (w : am_w) : Option (Int32 × am_w) := ((am_fp 7 0 s1 s0 w).bind fun w1 => ((am_fg 7 0 v0 w1).bind fun x2 => (if x2 ≤ 0 then (some ((0 : Int32), w1)) else (some ((1 : Int32), w1)))))
set_option maxHeartbeats 4000000 in
theorem L_Mo_refused_18 {p : Program} {l : Launch} {e : Env} {s : State} {m : MethodId} {args : Array Value} {below : List Frame} {meth : Method} {c : Code} {D : va_G} {A : Nat → Prop} {r : Int32 × am_w} (C : am_C p m c b_Mo_refused 3 s args am_W "RoverMinutesModel" D classes A) (hret : meth.sig.returnType = (some .boolean)) (hlk : meth.locks = false)   : ∀ (v0 : Nat) (s0 : Int32) (s1 : Nat) (w : am_w), s_Mo_refused_18  v0 s0 s1 w = some r → am_V p l e rm_Mo_refused s m args below meth c D classes tys A (am_F A true) 3 0 0 (MQ below (am_Q D classes tys A (am_F A true) (am_ri r)) args s 0 0 (am_F A true)) 18 [some (.ref v0), none, none] [.int s0, .ref s1] w := by
  intro v0 s0 s1 w hX
  unfold s_Mo_refused_18 at hX
  refine am_put (pc := 18) C (fun _ h => ⟨rfl, h⟩) hin_Mo t_Mo t_Mo_ok n_Mo rfl (by decide) wd_4_100 rfl rfl (t_Mo_ok 0 (by decide)) rfl rfl rfl d_Mo_refused_18 hX (fun w1 hX => ?_)
  refine am_aload_n (pc := 21) C d_Mo_refused_21 rfl rfl ?_
  refine am_get (pc := 22) C hin_Mo rfl (by decide) wd_4_100 rfl d_Mo_refused_22 rfl hX (fun x2 hX => ?_)
  refine am_if_le (pc := 25) (tgt := 32) C d_Mo_refused_25 rfl hX (fun hX => ?_) (fun hX => ?_)
  · skip
    refine am_iconst (pc := 32) (v := (0 : Int32)) C d_Mo_refused_32 (by decide) ?_
    exact am_iret (pc := 33) C hret hlk d_Mo_refused_33 am_n0 (by decide) (by decide) hX
  · skip
    refine am_iconst (pc := 28) (v := (1 : Int32)) C d_Mo_refused_28 (by decide) ?_
    refine am_goto (pc := 29) (tgt := 33) C d_Mo_refused_29 rfl ?_
    exact am_iret (pc := 33) C hret hlk d_Mo_refused_33 am_n1 (by decide) (by decide) hX
def f_Mo_refused (a0 : Nat) (a1 : Int32) (a2 : Int32) (w : am_w) : Option (Int32 × am_w) := (if a1 = 0 then (if a2 = 0 then (s_Mo_refused_18  a0 (0 : Int32) a0 w) else (s_Mo_refused_18  a0 (2 : Int32) a0 w)) else (s_Mo_refused_18  a0 (1 : Int32) a0 w))
theorem hd_Mo_refused : y_Mo_refused.cls = "RoverMinutesModel" ∧ y_Mo_refused.cls ≠ "java/lang/invoke/MethodHandle" ∧ y_Mo_refused.cls ≠ "java/lang/invoke/VarHandle" ∧ (parseMethodDescriptor y_Mo_refused.desc).map (fun d => d.parameters.length) = some 2 := ⟨rfl, by decide, by decide, by decide +kernel⟩
set_option maxHeartbeats 4000000 in
theorem c_Mo_refused {l : Launch} {D : va_G} {A : Nat → Prop} {a0 : Nat} {a1 : Int32} {a2 : Int32} {w : am_w} {r : Int32 × am_w} (hX : f_Mo_refused a0 a1 a2 w = some r) : am_Met l D classes tys A (am_F A true) y_Mo_refused (Cond.code y_Mo_refused b_Mo_refused 3 (some .boolean) :: am_W) rm_Mo_refused [.ref a0, .int a1, .int a2] w (am_ri r) 0 0 := by
  refine am_ofV (by decide) am_W_good (Nat.le_of_ble_eq_true rfl) (by simp [Value.category]) ?_
  intro p e s m below meth c C hret hlk hnm
  unfold f_Mo_refused at hX
  refine am_aload_n (pc := 0) C d_Mo_refused_0 rfl rfl ?_
  refine am_iload_n (pc := 1) C d_Mo_refused_1 rfl rfl ?_
  refine am_if_eq (pc := 2) (tgt := 9) C d_Mo_refused_2 rfl hX (fun hX => ?_) (fun hX => ?_)
  · skip
    refine am_iload_n (pc := 9) C d_Mo_refused_9 rfl rfl ?_
    refine am_if_eq (pc := 10) (tgt := 17) C d_Mo_refused_10 rfl hX (fun hX => ?_) (fun hX => ?_)
    · skip
      refine am_iconst (pc := 17) (v := (0 : Int32)) C d_Mo_refused_17 (by decide) ?_
      exact am_sub (am_le_s (am_le_n (am_le_n (am_le_0)))) (L_Mo_refused_18 C hret hlk  a0 (0 : Int32) a0 w hX)
    · skip
      refine am_iconst (pc := 13) (v := (2 : Int32)) C d_Mo_refused_13 (by decide) ?_
      refine am_goto (pc := 14) (tgt := 18) C d_Mo_refused_14 rfl ?_
      exact am_sub (am_le_s (am_le_n (am_le_n (am_le_0)))) (L_Mo_refused_18 C hret hlk  a0 (2 : Int32) a0 w hX)
  · skip
    refine am_iconst (pc := 5) (v := (1 : Int32)) C d_Mo_refused_5 (by decide) ?_
    refine am_goto (pc := 6) (tgt := 18) C d_Mo_refused_6 rfl ?_
    exact am_sub (am_le_s (am_le_n (am_le_n (am_le_0)))) (L_Mo_refused_18 C hret hlk  a0 (1 : Int32) a0 w hX)
def rm_Mo_type : Room := { frames := 0, cells := 0, slots := 0, locals := 0 }
def s_Mo_type_127 (k127 : Nat → Int32 → Int32 → Int32 → am_w → Option (Int32 × am_w)) (v0 : Nat) (v1 : Int32) (v2 : Int32) (v5 : Int32) (w : am_w) : Option (Int32 × am_w) := (if v2 ≤ v5 then (some ((1 : Int32), w)) else ((am_rg 7 1 v0 w).bind fun b3 => ((am_fg 7 2 v0 w).bind fun x4 => ((am_is b3 x4 ((v1 >>> (((8 : Int32) * v5) &&& 31)) &&& (255 : Int32)) w).bind fun w5 => ((am_fg 7 2 v0 w5).bind fun x6 => ((am_fp 7 2 v0 (x6 + (1 : Int32)) w5).bind fun w7 => (k127 v0 v1 v2 (v5 + (1 : Int32)) w7)))))))
def f_Mo_type_127  (n : Nat) : Nat → Int32 → Int32 → Int32 → am_w → Option (Int32 × am_w) := am_it (fun _ _ _ _ _ => none) (s_Mo_type_127 ) n
set_option maxHeartbeats 4000000 in
theorem L_Mo_type_127 {p : Program} {l : Launch} {e : Env} {s : State} {m : MethodId} {args : Array Value} {below : List Frame} {meth : Method} {c : Code} {D : va_G} {A : Nat → Prop} {r : Int32 × am_w} (C : am_C p m c b_Mo_type 7 s args am_W "RoverMinutesModel" D classes A) (hret : meth.sig.returnType = (some .boolean)) (hlk : meth.locks = false)   (n : Nat) : ∀ (v0 : Nat) (v1 : Int32) (v2 : Int32) (v5 : Int32) (w : am_w), f_Mo_type_127  n v0 v1 v2 v5 w = some r → am_V p l e rm_Mo_type s m args below meth c D classes tys A (am_F A true) 7 0 0 (MQ below (am_Q D classes tys A (am_F A true) (am_ri r)) args s 0 0 (am_F A true)) 127 [some (.ref v0), some (.int v1), some (.int v2), none, none, some (.int v5), none] [] w := by
  refine am_it_ind (P := fun (t : Nat → Int32 → Int32 → Int32 → am_w → Option (Int32 × am_w)) => ∀ (v0 : Nat) (v1 : Int32) (v2 : Int32) (v5 : Int32) (w : am_w), t v0 v1 v2 v5 w = some r → am_V p l e rm_Mo_type s m args below meth c D classes tys A (am_F A true) 7 0 0 (MQ below (am_Q D classes tys A (am_F A true) (am_ri r)) args s 0 0 (am_F A true)) 127 [some (.ref v0), some (.int v1), some (.int v2), none, none, some (.int v5), none] [] w) ?_ ?_ n
  · intro v0 v1 v2 v5 w hX
    exact (am_nn hX).elim
  · intro k127 hk127 v0 v1 v2 v5 w hX
    unfold s_Mo_type_127 at hX
    refine am_iload (pc := 127) C d_Mo_type_127 rfl ?_
    refine am_iload_n (pc := 129) C d_Mo_type_129 rfl rfl ?_
    refine am_icmp_ge (pc := 130) (tgt := 169) C d_Mo_type_130 rfl hX (fun hX => ?_) (fun hX => ?_)
    · skip
      refine am_iconst (pc := 169) (v := (1 : Int32)) C d_Mo_type_169 (by decide) ?_
      exact am_iret (pc := 170) C hret hlk d_Mo_type_170 am_n1 (by decide) (by decide) hX
    · skip
      refine am_aload_n (pc := 133) C d_Mo_type_133 rfl rfl ?_
      refine am_getr (pc := 134) C hin_Mo rfl (by decide) wd_4_101 rfl d_Mo_type_134 rfl hX (fun b3 hX => ?_)
      refine am_aload_n (pc := 137) C d_Mo_type_137 rfl rfl ?_
      refine am_get (pc := 138) C hin_Mo rfl (by decide) wd_4_102 rfl d_Mo_type_138 rfl hX (fun x4 hX => ?_)
      refine am_iload_n (pc := 141) C d_Mo_type_141 rfl rfl ?_
      refine am_bipush (pc := 142) (v := (8 : Int32)) C d_Mo_type_142 (by decide) ?_
      refine am_iload (pc := 144) C d_Mo_type_144 rfl ?_
      refine am_imul (pc := 146) C d_Mo_type_146 ?_
      refine am_ishr (pc := 147) C d_Mo_type_147 ?_
      refine am_sipush (pc := 148) (v := (255 : Int32)) C d_Mo_type_148 (by decide) ?_
      refine am_iand (pc := 151) C d_Mo_type_151 ?_
      refine am_iast (pc := 152) C (fun _ h => ⟨rfl, h⟩) d_Mo_type_152 hX (fun w5 hX => ?_)
      refine am_aload_n (pc := 153) C d_Mo_type_153 rfl rfl ?_
      refine am_dup (pc := 154) C d_Mo_type_154 rfl ?_
      refine am_get (pc := 155) C hin_Mo rfl (by decide) wd_4_102 rfl d_Mo_type_155 rfl hX (fun x6 hX => ?_)
      refine am_iconst (pc := 158) (v := (1 : Int32)) C d_Mo_type_158 (by decide) ?_
      refine am_iadd (pc := 159) C d_Mo_type_159 ?_
      refine am_put (pc := 160) C (fun _ h => ⟨rfl, h⟩) hin_Mo t_Mo t_Mo_ok n_Mo rfl (by decide) wd_4_102 rfl rfl (t_Mo_ok 2 (by decide)) rfl rfl rfl d_Mo_type_160 hX (fun w7 hX => ?_)
      refine am_iinc (pc := 163) (y := (1 : Int32)) (lo1 := [some (.ref v0), some (.int v1), some (.int v2), none, none, some (.int (v5 + (1 : Int32))), none]) C d_Mo_type_163 rfl (by decide) (by decide) rfl ?_
      refine am_goto (pc := 166) (tgt := 127) C d_Mo_type_166 rfl ?_
      exact (hk127 v0 v1 v2 (v5 + (1 : Int32)) w7 hX)
def s_Mo_type_103  (v0 : Nat) (v1 : Int32) (v2 : Int32) (v4 : Int32) (s0 : Int32) (s1 : Nat) (w : am_w) : Option (Int32 × am_w) := ((am_fp 7 0 s1 s0 w).bind fun w1 => (if v4 = 0 then ((am_fg 7 2 v0 w1).bind fun x2 => (if (x2 + v2) ≤ (64 : Int32) then (f_Mo_type_127  70 v0 v1 v2 (0 : Int32) w1) else (some ((0 : Int32), w1)))) else (some ((0 : Int32), w1))))
set_option maxHeartbeats 4000000 in
theorem L_Mo_type_103 {p : Program} {l : Launch} {e : Env} {s : State} {m : MethodId} {args : Array Value} {below : List Frame} {meth : Method} {c : Code} {D : va_G} {A : Nat → Prop} {r : Int32 × am_w} (C : am_C p m c b_Mo_type 7 s args am_W "RoverMinutesModel" D classes A) (hret : meth.sig.returnType = (some .boolean)) (hlk : meth.locks = false)   : ∀ (v0 : Nat) (v1 : Int32) (v2 : Int32) (v4 : Int32) (s0 : Int32) (s1 : Nat) (w : am_w), s_Mo_type_103  v0 v1 v2 v4 s0 s1 w = some r → am_V p l e rm_Mo_type s m args below meth c D classes tys A (am_F A true) 7 0 0 (MQ below (am_Q D classes tys A (am_F A true) (am_ri r)) args s 0 0 (am_F A true)) 103 [some (.ref v0), some (.int v1), some (.int v2), none, some (.int v4), none, none] [.int s0, .ref s1] w := by
  intro v0 v1 v2 v4 s0 s1 w hX
  unfold s_Mo_type_103 at hX
  refine am_put (pc := 103) C (fun _ h => ⟨rfl, h⟩) hin_Mo t_Mo t_Mo_ok n_Mo rfl (by decide) wd_4_100 rfl rfl (t_Mo_ok 0 (by decide)) rfl rfl rfl d_Mo_type_103 hX (fun w1 hX => ?_)
  refine am_iload (pc := 106) C d_Mo_type_106 rfl ?_
  refine am_if_ne (pc := 108) (tgt := 122) C d_Mo_type_108 rfl hX (fun hX => ?_) (fun hX => ?_)
  · skip
    refine am_iconst (pc := 122) (v := (0 : Int32)) C d_Mo_type_122 (by decide) ?_
    exact am_iret (pc := 123) C hret hlk d_Mo_type_123 am_n0 (by decide) (by decide) hX
  · skip
    refine am_aload_n (pc := 111) C d_Mo_type_111 rfl rfl ?_
    refine am_get (pc := 112) C hin_Mo rfl (by decide) wd_4_102 rfl d_Mo_type_112 rfl hX (fun x2 hX => ?_)
    refine am_iload_n (pc := 115) C d_Mo_type_115 rfl rfl ?_
    refine am_iadd (pc := 116) C d_Mo_type_116 ?_
    refine am_bipush (pc := 117) (v := (64 : Int32)) C d_Mo_type_117 (by decide) ?_
    refine am_icmp_le (pc := 119) (tgt := 124) C d_Mo_type_119 rfl hX (fun hX => ?_) (fun hX => ?_)
    · skip
      refine am_iconst (pc := 124) (v := (0 : Int32)) C d_Mo_type_124 (by decide) ?_
      refine am_istore (pc := 125) (lo1 := [some (.ref v0), some (.int v1), some (.int v2), none, some (.int v4), some (.int (0 : Int32)), none]) C d_Mo_type_125 (by decide) rfl ?_
      exact am_sub (am_le_s (am_le_s (am_le_s (am_le_n (am_le_n (am_le_s (am_le_n (am_le_0)))))))) (L_Mo_type_127 C hret hlk  70 v0 v1 v2 (0 : Int32) w1 hX)
    · skip
      refine am_iconst (pc := 122) (v := (0 : Int32)) C d_Mo_type_122 (by decide) ?_
      exact am_iret (pc := 123) C hret hlk d_Mo_type_123 am_n0 (by decide) (by decide) hX
def s_Mo_type_72 (k10 : Nat → Int32 → Int32 → Int32 → Int32 → Int32 → am_w → Option (Int32 × am_w)) (v0 : Nat) (v1 : Int32) (v2 : Int32) (v3 : Int32) (v5 : Int32) (s0 : Int32) (w : am_w) : Option (Int32 × am_w) := (if v3 = 0 then (k10 v0 v1 v2 v3 s0 (v5 + (1 : Int32)) w) else (k10 v0 v1 (v2 + (1 : Int32)) v3 s0 (v5 + (1 : Int32)) w))
set_option maxHeartbeats 4000000 in
theorem L_Mo_type_72 {p : Program} {l : Launch} {e : Env} {s : State} {m : MethodId} {args : Array Value} {below : List Frame} {meth : Method} {c : Code} {D : va_G} {A : Nat → Prop} {r : Int32 × am_w} (C : am_C p m c b_Mo_type 7 s args am_W "RoverMinutesModel" D classes A) (hret : meth.sig.returnType = (some .boolean)) (hlk : meth.locks = false) {k10 : Nat → Int32 → Int32 → Int32 → Int32 → Int32 → am_w → Option (Int32 × am_w)} (hk10 : ∀ (v0 : Nat) (v1 : Int32) (v2 : Int32) (v3 : Int32) (v4 : Int32) (v5 : Int32) (w : am_w), k10 v0 v1 v2 v3 v4 v5 w = some r → am_V p l e rm_Mo_type s m args below meth c D classes tys A (am_F A true) 7 0 0 (MQ below (am_Q D classes tys A (am_F A true) (am_ri r)) args s 0 0 (am_F A true)) 10 [some (.ref v0), some (.int v1), some (.int v2), some (.int v3), some (.int v4), some (.int v5), none] [] w) : ∀ (v0 : Nat) (v1 : Int32) (v2 : Int32) (v3 : Int32) (v5 : Int32) (s0 : Int32) (w : am_w), s_Mo_type_72 k10 v0 v1 v2 v3 v5 s0 w = some r → am_V p l e rm_Mo_type s m args below meth c D classes tys A (am_F A true) 7 0 0 (MQ below (am_Q D classes tys A (am_F A true) (am_ri r)) args s 0 0 (am_F A true)) 72 [some (.ref v0), some (.int v1), some (.int v2), some (.int v3), none, some (.int v5), none] [.int s0] w := by
  intro v0 v1 v2 v3 v5 s0 w hX
  unfold s_Mo_type_72 at hX
  refine am_istore (pc := 72) (lo1 := [some (.ref v0), some (.int v1), some (.int v2), some (.int v3), some (.int s0), some (.int v5), none]) C d_Mo_type_72 (by decide) rfl ?_
  refine am_iload_n (pc := 74) C d_Mo_type_74 rfl rfl ?_
  refine am_if_eq (pc := 75) (tgt := 84) C d_Mo_type_75 rfl hX (fun hX => ?_) (fun hX => ?_)
  · skip
    refine am_iload_n (pc := 84) C d_Mo_type_84 rfl rfl ?_
    refine am_istore_n (pc := 85) (lo1 := [some (.ref v0), some (.int v1), some (.int v2), some (.int v3), some (.int s0), some (.int v5), none]) C d_Mo_type_85 rfl (by decide) rfl ?_
    refine am_iinc (pc := 86) (y := (1 : Int32)) (lo1 := [some (.ref v0), some (.int v1), some (.int v2), some (.int v3), some (.int s0), some (.int (v5 + (1 : Int32))), none]) C d_Mo_type_86 rfl (by decide) (by decide) rfl ?_
    refine am_goto (pc := 89) (tgt := 10) C d_Mo_type_89 rfl ?_
    exact (hk10 v0 v1 v2 v3 s0 (v5 + (1 : Int32)) w hX)
  · skip
    refine am_iload_n (pc := 78) C d_Mo_type_78 rfl rfl ?_
    refine am_iconst (pc := 79) (v := (1 : Int32)) C d_Mo_type_79 (by decide) ?_
    refine am_iadd (pc := 80) C d_Mo_type_80 ?_
    refine am_goto (pc := 81) (tgt := 85) C d_Mo_type_81 rfl ?_
    refine am_istore_n (pc := 85) (lo1 := [some (.ref v0), some (.int v1), some (.int (v2 + (1 : Int32))), some (.int v3), some (.int s0), some (.int v5), none]) C d_Mo_type_85 rfl (by decide) rfl ?_
    refine am_iinc (pc := 86) (y := (1 : Int32)) (lo1 := [some (.ref v0), some (.int v1), some (.int (v2 + (1 : Int32))), some (.int v3), some (.int s0), some (.int (v5 + (1 : Int32))), none]) C d_Mo_type_86 rfl (by decide) (by decide) rfl ?_
    refine am_goto (pc := 89) (tgt := 10) C d_Mo_type_89 rfl ?_
    exact (hk10 v0 v1 (v2 + (1 : Int32)) v3 s0 (v5 + (1 : Int32)) w hX)
def s_Mo_type_67 (k10 : Nat → Int32 → Int32 → Int32 → Int32 → Int32 → am_w → Option (Int32 × am_w)) (v0 : Nat) (v1 : Int32) (v2 : Int32) (v3 : Int32) (v5 : Int32) (w : am_w) : Option (Int32 × am_w) := (s_Mo_type_72 k10 v0 v1 v2 v3 v5 (1 : Int32) w)
set_option maxHeartbeats 4000000 in
theorem L_Mo_type_67 {p : Program} {l : Launch} {e : Env} {s : State} {m : MethodId} {args : Array Value} {below : List Frame} {meth : Method} {c : Code} {D : va_G} {A : Nat → Prop} {r : Int32 × am_w} (C : am_C p m c b_Mo_type 7 s args am_W "RoverMinutesModel" D classes A) (hret : meth.sig.returnType = (some .boolean)) (hlk : meth.locks = false) {k10 : Nat → Int32 → Int32 → Int32 → Int32 → Int32 → am_w → Option (Int32 × am_w)} (hk10 : ∀ (v0 : Nat) (v1 : Int32) (v2 : Int32) (v3 : Int32) (v4 : Int32) (v5 : Int32) (w : am_w), k10 v0 v1 v2 v3 v4 v5 w = some r → am_V p l e rm_Mo_type s m args below meth c D classes tys A (am_F A true) 7 0 0 (MQ below (am_Q D classes tys A (am_F A true) (am_ri r)) args s 0 0 (am_F A true)) 10 [some (.ref v0), some (.int v1), some (.int v2), some (.int v3), some (.int v4), some (.int v5), none] [] w) : ∀ (v0 : Nat) (v1 : Int32) (v2 : Int32) (v3 : Int32) (v5 : Int32) (w : am_w), s_Mo_type_67 k10 v0 v1 v2 v3 v5 w = some r → am_V p l e rm_Mo_type s m args below meth c D classes tys A (am_F A true) 7 0 0 (MQ below (am_Q D classes tys A (am_F A true) (am_ri r)) args s 0 0 (am_F A true)) 67 [some (.ref v0), some (.int v1), some (.int v2), some (.int v3), none, some (.int v5), none] [] w := by
  intro v0 v1 v2 v3 v5 w hX
  unfold s_Mo_type_67 at hX
  refine am_iconst (pc := 67) (v := (1 : Int32)) C d_Mo_type_67 (by decide) ?_
  refine am_goto (pc := 68) (tgt := 72) C d_Mo_type_68 rfl ?_
  exact (L_Mo_type_72 C hret hlk hk10 v0 v1 v2 v3 v5 (1 : Int32) w hX)
def s_Mo_type_71 (k10 : Nat → Int32 → Int32 → Int32 → Int32 → Int32 → am_w → Option (Int32 × am_w)) (v0 : Nat) (v1 : Int32) (v2 : Int32) (v3 : Int32) (v5 : Int32) (w : am_w) : Option (Int32 × am_w) := (s_Mo_type_72 k10 v0 v1 v2 v3 v5 (0 : Int32) w)
set_option maxHeartbeats 4000000 in
theorem L_Mo_type_71 {p : Program} {l : Launch} {e : Env} {s : State} {m : MethodId} {args : Array Value} {below : List Frame} {meth : Method} {c : Code} {D : va_G} {A : Nat → Prop} {r : Int32 × am_w} (C : am_C p m c b_Mo_type 7 s args am_W "RoverMinutesModel" D classes A) (hret : meth.sig.returnType = (some .boolean)) (hlk : meth.locks = false) {k10 : Nat → Int32 → Int32 → Int32 → Int32 → Int32 → am_w → Option (Int32 × am_w)} (hk10 : ∀ (v0 : Nat) (v1 : Int32) (v2 : Int32) (v3 : Int32) (v4 : Int32) (v5 : Int32) (w : am_w), k10 v0 v1 v2 v3 v4 v5 w = some r → am_V p l e rm_Mo_type s m args below meth c D classes tys A (am_F A true) 7 0 0 (MQ below (am_Q D classes tys A (am_F A true) (am_ri r)) args s 0 0 (am_F A true)) 10 [some (.ref v0), some (.int v1), some (.int v2), some (.int v3), some (.int v4), some (.int v5), none] [] w) : ∀ (v0 : Nat) (v1 : Int32) (v2 : Int32) (v3 : Int32) (v5 : Int32) (w : am_w), s_Mo_type_71 k10 v0 v1 v2 v3 v5 w = some r → am_V p l e rm_Mo_type s m args below meth c D classes tys A (am_F A true) 7 0 0 (MQ below (am_Q D classes tys A (am_F A true) (am_ri r)) args s 0 0 (am_F A true)) 71 [some (.ref v0), some (.int v1), some (.int v2), some (.int v3), none, some (.int v5), none] [] w := by
  intro v0 v1 v2 v3 v5 w hX
  unfold s_Mo_type_71 at hX
  refine am_iconst (pc := 71) (v := (0 : Int32)) C d_Mo_type_71 (by decide) ?_
  exact (L_Mo_type_72 C hret hlk hk10 v0 v1 v2 v3 v5 (0 : Int32) w hX)
def s_Mo_type_43 (k10 : Nat → Int32 → Int32 → Int32 → Int32 → Int32 → am_w → Option (Int32 × am_w)) (v0 : Nat) (v1 : Int32) (v2 : Int32) (v4 : Int32) (v5 : Int32) (v6 : Int32) (s0 : Int32) (w : am_w) : Option (Int32 × am_w) := (if v4 = 0 then (if s0 = 0 then (s_Mo_type_71 k10 v0 v1 v2 s0 v5 w) else (if v6 < (32 : Int32) then (s_Mo_type_67 k10 v0 v1 v2 s0 v5 w) else (if v6 ≤ (126 : Int32) then (s_Mo_type_71 k10 v0 v1 v2 s0 v5 w) else (s_Mo_type_67 k10 v0 v1 v2 s0 v5 w)))) else (s_Mo_type_67 k10 v0 v1 v2 s0 v5 w))
set_option maxHeartbeats 4000000 in
theorem L_Mo_type_43 {p : Program} {l : Launch} {e : Env} {s : State} {m : MethodId} {args : Array Value} {below : List Frame} {meth : Method} {c : Code} {D : va_G} {A : Nat → Prop} {r : Int32 × am_w} (C : am_C p m c b_Mo_type 7 s args am_W "RoverMinutesModel" D classes A) (hret : meth.sig.returnType = (some .boolean)) (hlk : meth.locks = false) {k10 : Nat → Int32 → Int32 → Int32 → Int32 → Int32 → am_w → Option (Int32 × am_w)} (hk10 : ∀ (v0 : Nat) (v1 : Int32) (v2 : Int32) (v3 : Int32) (v4 : Int32) (v5 : Int32) (w : am_w), k10 v0 v1 v2 v3 v4 v5 w = some r → am_V p l e rm_Mo_type s m args below meth c D classes tys A (am_F A true) 7 0 0 (MQ below (am_Q D classes tys A (am_F A true) (am_ri r)) args s 0 0 (am_F A true)) 10 [some (.ref v0), some (.int v1), some (.int v2), some (.int v3), some (.int v4), some (.int v5), none] [] w) : ∀ (v0 : Nat) (v1 : Int32) (v2 : Int32) (v4 : Int32) (v5 : Int32) (v6 : Int32) (s0 : Int32) (w : am_w), s_Mo_type_43 k10 v0 v1 v2 v4 v5 v6 s0 w = some r → am_V p l e rm_Mo_type s m args below meth c D classes tys A (am_F A true) 7 0 0 (MQ below (am_Q D classes tys A (am_F A true) (am_ri r)) args s 0 0 (am_F A true)) 43 [some (.ref v0), some (.int v1), some (.int v2), none, some (.int v4), some (.int v5), some (.int v6)] [.int s0] w := by
  intro v0 v1 v2 v4 v5 v6 s0 w hX
  unfold s_Mo_type_43 at hX
  refine am_istore_n (pc := 43) (lo1 := [some (.ref v0), some (.int v1), some (.int v2), some (.int s0), some (.int v4), some (.int v5), some (.int v6)]) C d_Mo_type_43 rfl (by decide) rfl ?_
  refine am_iload (pc := 44) C d_Mo_type_44 rfl ?_
  refine am_if_ne (pc := 46) (tgt := 67) C d_Mo_type_46 rfl hX (fun hX => ?_) (fun hX => ?_)
  · skip
    exact am_sub (am_le_s (am_le_s (am_le_s (am_le_s (am_le_n (am_le_s (am_le_n (am_le_0)))))))) (L_Mo_type_67 C hret hlk hk10 v0 v1 v2 s0 v5 w hX)
  · skip
    refine am_iload_n (pc := 49) C d_Mo_type_49 rfl rfl ?_
    refine am_if_eq (pc := 50) (tgt := 71) C d_Mo_type_50 rfl hX (fun hX => ?_) (fun hX => ?_)
    · skip
      exact am_sub (am_le_s (am_le_s (am_le_s (am_le_s (am_le_n (am_le_s (am_le_n (am_le_0)))))))) (L_Mo_type_71 C hret hlk hk10 v0 v1 v2 s0 v5 w hX)
    · skip
      refine am_iload (pc := 53) C d_Mo_type_53 rfl ?_
      refine am_bipush (pc := 55) (v := (32 : Int32)) C d_Mo_type_55 (by decide) ?_
      refine am_icmp_lt (pc := 57) (tgt := 67) C d_Mo_type_57 rfl hX (fun hX => ?_) (fun hX => ?_)
      · skip
        exact am_sub (am_le_s (am_le_s (am_le_s (am_le_s (am_le_n (am_le_s (am_le_n (am_le_0)))))))) (L_Mo_type_67 C hret hlk hk10 v0 v1 v2 s0 v5 w hX)
      · skip
        refine am_iload (pc := 60) C d_Mo_type_60 rfl ?_
        refine am_bipush (pc := 62) (v := (126 : Int32)) C d_Mo_type_62 (by decide) ?_
        refine am_icmp_le (pc := 64) (tgt := 71) C d_Mo_type_64 rfl hX (fun hX => ?_) (fun hX => ?_)
        · skip
          exact am_sub (am_le_s (am_le_s (am_le_s (am_le_s (am_le_n (am_le_s (am_le_n (am_le_0)))))))) (L_Mo_type_71 C hret hlk hk10 v0 v1 v2 s0 v5 w hX)
        · skip
          exact am_sub (am_le_s (am_le_s (am_le_s (am_le_s (am_le_n (am_le_s (am_le_n (am_le_0)))))))) (L_Mo_type_67 C hret hlk hk10 v0 v1 v2 s0 v5 w hX)
def s_Mo_type_42 (k10 : Nat → Int32 → Int32 → Int32 → Int32 → Int32 → am_w → Option (Int32 × am_w)) (v0 : Nat) (v1 : Int32) (v2 : Int32) (v4 : Int32) (v5 : Int32) (v6 : Int32) (w : am_w) : Option (Int32 × am_w) := (s_Mo_type_43 k10 v0 v1 v2 v4 v5 v6 (0 : Int32) w)
set_option maxHeartbeats 4000000 in
theorem L_Mo_type_42 {p : Program} {l : Launch} {e : Env} {s : State} {m : MethodId} {args : Array Value} {below : List Frame} {meth : Method} {c : Code} {D : va_G} {A : Nat → Prop} {r : Int32 × am_w} (C : am_C p m c b_Mo_type 7 s args am_W "RoverMinutesModel" D classes A) (hret : meth.sig.returnType = (some .boolean)) (hlk : meth.locks = false) {k10 : Nat → Int32 → Int32 → Int32 → Int32 → Int32 → am_w → Option (Int32 × am_w)} (hk10 : ∀ (v0 : Nat) (v1 : Int32) (v2 : Int32) (v3 : Int32) (v4 : Int32) (v5 : Int32) (w : am_w), k10 v0 v1 v2 v3 v4 v5 w = some r → am_V p l e rm_Mo_type s m args below meth c D classes tys A (am_F A true) 7 0 0 (MQ below (am_Q D classes tys A (am_F A true) (am_ri r)) args s 0 0 (am_F A true)) 10 [some (.ref v0), some (.int v1), some (.int v2), some (.int v3), some (.int v4), some (.int v5), none] [] w) : ∀ (v0 : Nat) (v1 : Int32) (v2 : Int32) (v4 : Int32) (v5 : Int32) (v6 : Int32) (w : am_w), s_Mo_type_42 k10 v0 v1 v2 v4 v5 v6 w = some r → am_V p l e rm_Mo_type s m args below meth c D classes tys A (am_F A true) 7 0 0 (MQ below (am_Q D classes tys A (am_F A true) (am_ri r)) args s 0 0 (am_F A true)) 42 [some (.ref v0), some (.int v1), some (.int v2), none, some (.int v4), some (.int v5), some (.int v6)] [] w := by
  intro v0 v1 v2 v4 v5 v6 w hX
  unfold s_Mo_type_42 at hX
  refine am_iconst (pc := 42) (v := (0 : Int32)) C d_Mo_type_42 (by decide) ?_
  exact (L_Mo_type_43 C hret hlk hk10 v0 v1 v2 v4 v5 v6 (0 : Int32) w hX)
def s_Mo_type_10 (k10 : Nat → Int32 → Int32 → Int32 → Int32 → Int32 → am_w → Option (Int32 × am_w)) (v0 : Nat) (v1 : Int32) (v2 : Int32) (v3 : Int32) (v4 : Int32) (v5 : Int32) (w : am_w) : Option (Int32 × am_w) := (if (4 : Int32) ≤ v5 then (if v4 = 0 then (s_Mo_type_103  v0 v1 v2 v4 (0 : Int32) v0 w) else (s_Mo_type_103  v0 v1 v2 v4 (1 : Int32) v0 w)) else (if v3 = 0 then (s_Mo_type_42 k10 v0 v1 v2 v4 v5 ((v1 >>> (((8 : Int32) * v5) &&& 31)) &&& (255 : Int32)) w) else (if ((v1 >>> (((8 : Int32) * v5) &&& 31)) &&& (255 : Int32)) = 0 then (s_Mo_type_42 k10 v0 v1 v2 v4 v5 ((v1 >>> (((8 : Int32) * v5) &&& 31)) &&& (255 : Int32)) w) else (s_Mo_type_43 k10 v0 v1 v2 v4 v5 ((v1 >>> (((8 : Int32) * v5) &&& 31)) &&& (255 : Int32)) (1 : Int32) w))))
def f_Mo_type_10  (n : Nat) : Nat → Int32 → Int32 → Int32 → Int32 → Int32 → am_w → Option (Int32 × am_w) := am_it (fun _ _ _ _ _ _ _ => none) (s_Mo_type_10 ) n
set_option maxHeartbeats 4000000 in
theorem L_Mo_type_10 {p : Program} {l : Launch} {e : Env} {s : State} {m : MethodId} {args : Array Value} {below : List Frame} {meth : Method} {c : Code} {D : va_G} {A : Nat → Prop} {r : Int32 × am_w} (C : am_C p m c b_Mo_type 7 s args am_W "RoverMinutesModel" D classes A) (hret : meth.sig.returnType = (some .boolean)) (hlk : meth.locks = false)   (n : Nat) : ∀ (v0 : Nat) (v1 : Int32) (v2 : Int32) (v3 : Int32) (v4 : Int32) (v5 : Int32) (w : am_w), f_Mo_type_10  n v0 v1 v2 v3 v4 v5 w = some r → am_V p l e rm_Mo_type s m args below meth c D classes tys A (am_F A true) 7 0 0 (MQ below (am_Q D classes tys A (am_F A true) (am_ri r)) args s 0 0 (am_F A true)) 10 [some (.ref v0), some (.int v1), some (.int v2), some (.int v3), some (.int v4), some (.int v5), none] [] w := by
  refine am_it_ind (P := fun (t : Nat → Int32 → Int32 → Int32 → Int32 → Int32 → am_w → Option (Int32 × am_w)) => ∀ (v0 : Nat) (v1 : Int32) (v2 : Int32) (v3 : Int32) (v4 : Int32) (v5 : Int32) (w : am_w), t v0 v1 v2 v3 v4 v5 w = some r → am_V p l e rm_Mo_type s m args below meth c D classes tys A (am_F A true) 7 0 0 (MQ below (am_Q D classes tys A (am_F A true) (am_ri r)) args s 0 0 (am_F A true)) 10 [some (.ref v0), some (.int v1), some (.int v2), some (.int v3), some (.int v4), some (.int v5), none] [] w) ?_ ?_ n
  · intro v0 v1 v2 v3 v4 v5 w hX
    exact (am_nn hX).elim
  · intro k10 hk10 v0 v1 v2 v3 v4 v5 w hX
    unfold s_Mo_type_10 at hX
    refine am_iload (pc := 10) C d_Mo_type_10 rfl ?_
    refine am_iconst (pc := 12) (v := (4 : Int32)) C d_Mo_type_12 (by decide) ?_
    refine am_icmp_ge (pc := 13) (tgt := 92) C d_Mo_type_13 rfl hX (fun hX => ?_) (fun hX => ?_)
    · skip
      refine am_aload_n (pc := 92) C d_Mo_type_92 rfl rfl ?_
      refine am_iload (pc := 93) C d_Mo_type_93 rfl ?_
      refine am_if_eq (pc := 95) (tgt := 102) C d_Mo_type_95 rfl hX (fun hX => ?_) (fun hX => ?_)
      · skip
        refine am_iconst (pc := 102) (v := (0 : Int32)) C d_Mo_type_102 (by decide) ?_
        exact am_sub (am_le_s (am_le_s (am_le_s (am_le_n (am_le_s (am_le_n (am_le_n (am_le_0)))))))) (L_Mo_type_103 C hret hlk  v0 v1 v2 v4 (0 : Int32) v0 w hX)
      · skip
        refine am_iconst (pc := 98) (v := (1 : Int32)) C d_Mo_type_98 (by decide) ?_
        refine am_goto (pc := 99) (tgt := 103) C d_Mo_type_99 rfl ?_
        exact am_sub (am_le_s (am_le_s (am_le_s (am_le_n (am_le_s (am_le_n (am_le_n (am_le_0)))))))) (L_Mo_type_103 C hret hlk  v0 v1 v2 v4 (1 : Int32) v0 w hX)
    · skip
      refine am_iload_n (pc := 16) C d_Mo_type_16 rfl rfl ?_
      refine am_bipush (pc := 17) (v := (8 : Int32)) C d_Mo_type_17 (by decide) ?_
      refine am_iload (pc := 19) C d_Mo_type_19 rfl ?_
      refine am_imul (pc := 21) C d_Mo_type_21 ?_
      refine am_ishr (pc := 22) C d_Mo_type_22 ?_
      refine am_sipush (pc := 23) (v := (255 : Int32)) C d_Mo_type_23 (by decide) ?_
      refine am_iand (pc := 26) C d_Mo_type_26 ?_
      refine am_istore (pc := 27) (lo1 := [some (.ref v0), some (.int v1), some (.int v2), some (.int v3), some (.int v4), some (.int v5), some (.int ((v1 >>> (((8 : Int32) * v5) &&& 31)) &&& (255 : Int32)))]) C d_Mo_type_27 (by decide) rfl ?_
      refine am_iload_n (pc := 29) C d_Mo_type_29 rfl rfl ?_
      refine am_if_eq (pc := 30) (tgt := 42) C d_Mo_type_30 rfl hX (fun hX => ?_) (fun hX => ?_)
      · skip
        exact am_sub (am_le_s (am_le_s (am_le_s (am_le_n (am_le_s (am_le_s (am_le_s (am_le_0)))))))) (L_Mo_type_42 C hret hlk hk10 v0 v1 v2 v4 v5 ((v1 >>> (((8 : Int32) * v5) &&& 31)) &&& (255 : Int32)) w hX)
      · skip
        refine am_iload (pc := 33) C d_Mo_type_33 rfl ?_
        refine am_if_eq (pc := 35) (tgt := 42) C d_Mo_type_35 rfl hX (fun hX => ?_) (fun hX => ?_)
        · skip
          exact am_sub (am_le_s (am_le_s (am_le_s (am_le_n (am_le_s (am_le_s (am_le_s (am_le_0)))))))) (L_Mo_type_42 C hret hlk hk10 v0 v1 v2 v4 v5 ((v1 >>> (((8 : Int32) * v5) &&& 31)) &&& (255 : Int32)) w hX)
        · skip
          refine am_iconst (pc := 38) (v := (1 : Int32)) C d_Mo_type_38 (by decide) ?_
          refine am_goto (pc := 39) (tgt := 43) C d_Mo_type_39 rfl ?_
          exact am_sub (am_le_s (am_le_s (am_le_s (am_le_n (am_le_s (am_le_s (am_le_s (am_le_0)))))))) (L_Mo_type_43 C hret hlk hk10 v0 v1 v2 v4 v5 ((v1 >>> (((8 : Int32) * v5) &&& 31)) &&& (255 : Int32)) (1 : Int32) w hX)
def f_Mo_type (a0 : Nat) (a1 : Int32) (w : am_w) : Option (Int32 × am_w) := (f_Mo_type_10  70 a0 a1 (0 : Int32) (1 : Int32) (0 : Int32) (0 : Int32) w)
theorem hd_Mo_type : y_Mo_type.cls = "RoverMinutesModel" ∧ y_Mo_type.cls ≠ "java/lang/invoke/MethodHandle" ∧ y_Mo_type.cls ≠ "java/lang/invoke/VarHandle" ∧ (parseMethodDescriptor y_Mo_type.desc).map (fun d => d.parameters.length) = some 1 := ⟨rfl, by decide, by decide, by decide +kernel⟩
set_option maxHeartbeats 4000000 in
theorem c_Mo_type {l : Launch} {D : va_G} {A : Nat → Prop} {a0 : Nat} {a1 : Int32} {w : am_w} {r : Int32 × am_w} (hX : f_Mo_type a0 a1 w = some r) : am_Met l D classes tys A (am_F A true) y_Mo_type (Cond.code y_Mo_type b_Mo_type 7 (some .boolean) :: am_W) rm_Mo_type [.ref a0, .int a1] w (am_ri r) 0 0 := by
  refine am_ofV (by decide) am_W_good (Nat.le_of_ble_eq_true rfl) (by simp [Value.category]) ?_
  intro p e s m below meth c C hret hlk hnm
  unfold f_Mo_type at hX
  refine am_iconst (pc := 0) (v := (0 : Int32)) C d_Mo_type_0 (by decide) ?_
  refine am_istore_n (pc := 1) (lo1 := [some (.ref a0), some (.int a1), some (.int (0 : Int32)), none, none, none, none]) C d_Mo_type_1 rfl (by decide) rfl ?_
  refine am_iconst (pc := 2) (v := (1 : Int32)) C d_Mo_type_2 (by decide) ?_
  refine am_istore_n (pc := 3) (lo1 := [some (.ref a0), some (.int a1), some (.int (0 : Int32)), some (.int (1 : Int32)), none, none, none]) C d_Mo_type_3 rfl (by decide) rfl ?_
  refine am_iconst (pc := 4) (v := (0 : Int32)) C d_Mo_type_4 (by decide) ?_
  refine am_istore (pc := 5) (lo1 := [some (.ref a0), some (.int a1), some (.int (0 : Int32)), some (.int (1 : Int32)), some (.int (0 : Int32)), none, none]) C d_Mo_type_5 (by decide) rfl ?_
  refine am_iconst (pc := 7) (v := (0 : Int32)) C d_Mo_type_7 (by decide) ?_
  refine am_istore (pc := 8) (lo1 := [some (.ref a0), some (.int a1), some (.int (0 : Int32)), some (.int (1 : Int32)), some (.int (0 : Int32)), some (.int (0 : Int32)), none]) C d_Mo_type_8 (by decide) rfl ?_
  exact (L_Mo_type_10 C hret hlk  70 a0 a1 (0 : Int32) (1 : Int32) (0 : Int32) (0 : Int32) w hX)
def rm_Mo_look : Room := { frames := 0, cells := 0, slots := 0, locals := 0 }
def f_Mo_look (a0 : Nat) (w : am_w) : Option (Int32 × am_w) := ((am_fg 7 3 a0 w).bind fun x1 => ((am_fg 7 2 a0 w).bind fun x2 => (if x2 ≤ x1 then (some ((0 : Int32), w)) else ((am_rg 7 1 a0 w).bind fun b3 => ((am_fg 7 3 a0 w).bind fun x4 => ((am_ig b3 x4 w).bind fun x5 => (some (x5, w))))))))
theorem hd_Mo_look : y_Mo_look.cls = "RoverMinutesModel" ∧ y_Mo_look.cls ≠ "java/lang/invoke/MethodHandle" ∧ y_Mo_look.cls ≠ "java/lang/invoke/VarHandle" ∧ (parseMethodDescriptor y_Mo_look.desc).map (fun d => d.parameters.length) = some 0 := ⟨rfl, by decide, by decide, by decide +kernel⟩
set_option maxHeartbeats 4000000 in
theorem c_Mo_look {l : Launch} {D : va_G} {A : Nat → Prop} {a0 : Nat} {w : am_w} {r : Int32 × am_w} (hX : f_Mo_look a0 w = some r) : am_Met l D classes tys A (am_F A false) y_Mo_look (Cond.code y_Mo_look b_Mo_look 1 (some .int) :: am_W) rm_Mo_look [.ref a0] w (am_ri r) 0 0 := by
  refine am_ofV (by decide) am_W_good (Nat.le_of_ble_eq_true rfl) (by simp [Value.category]) ?_
  intro p e s m below meth c C hret hlk hnm
  unfold f_Mo_look at hX
  refine am_aload_n (pc := 0) C d_Mo_look_0 rfl rfl ?_
  refine am_get (pc := 1) C hin_Mo rfl (by decide) wd_4_103 rfl d_Mo_look_1 rfl hX (fun x1 hX => ?_)
  refine am_aload_n (pc := 4) C d_Mo_look_4 rfl rfl ?_
  refine am_get (pc := 5) C hin_Mo rfl (by decide) wd_4_102 rfl d_Mo_look_5 rfl hX (fun x2 hX => ?_)
  refine am_icmp_ge (pc := 8) (tgt := 23) C d_Mo_look_8 rfl hX (fun hX => ?_) (fun hX => ?_)
  · skip
    refine am_iconst (pc := 23) (v := (0 : Int32)) C d_Mo_look_23 (by decide) ?_
    exact am_iret (pc := 24) C hret hlk d_Mo_look_24 rfl (by decide) (by decide) hX
  · skip
    refine am_aload_n (pc := 11) C d_Mo_look_11 rfl rfl ?_
    refine am_getr (pc := 12) C hin_Mo rfl (by decide) wd_4_101 rfl d_Mo_look_12 rfl hX (fun b3 hX => ?_)
    refine am_aload_n (pc := 15) C d_Mo_look_15 rfl rfl ?_
    refine am_get (pc := 16) C hin_Mo rfl (by decide) wd_4_103 rfl d_Mo_look_16 rfl hX (fun x4 hX => ?_)
    refine am_iald (pc := 19) C d_Mo_look_19 hX (fun x5 hX => ?_)
    refine am_goto (pc := 20) (tgt := 24) C d_Mo_look_20 rfl ?_
    exact am_iret (pc := 24) C hret hlk d_Mo_look_24 rfl (by decide) (by decide) hX
def rm_Mo_isDigit : Room := { frames := 1, cells := 0, slots := 0, locals := 20 }
def f_Mo_isDigit (a0 : Nat) (w : am_w) : Option (Int32 × am_w) := ((am_ob 7 a0 w (f_Mo_look a0 w)).bind fun q1 => (if q1.1 < (48 : Int32) then (some ((0 : Int32), q1.2)) else ((am_ob 7 a0 q1.2 (f_Mo_look a0 q1.2)).bind fun q2 => (if (57 : Int32) < q2.1 then (some ((0 : Int32), q2.2)) else (some ((1 : Int32), q2.2))))))
theorem hd_Mo_isDigit : y_Mo_isDigit.cls = "RoverMinutesModel" ∧ y_Mo_isDigit.cls ≠ "java/lang/invoke/MethodHandle" ∧ y_Mo_isDigit.cls ≠ "java/lang/invoke/VarHandle" ∧ (parseMethodDescriptor y_Mo_isDigit.desc).map (fun d => d.parameters.length) = some 0 := ⟨rfl, by decide, by decide, by decide +kernel⟩
set_option maxHeartbeats 4000000 in
theorem c_Mo_isDigit {l : Launch} {D : va_G} {A : Nat → Prop} {a0 : Nat} {w : am_w} {r : Int32 × am_w} (hX : f_Mo_isDigit a0 w = some r) : am_Met l D classes tys A (am_F A false) y_Mo_isDigit (Cond.code y_Mo_isDigit b_Mo_isDigit 1 (some .boolean) :: am_W) rm_Mo_isDigit [.ref a0] w (am_ri r) 0 0 := by
  refine am_ofV (by decide) am_W_good (Nat.le_of_ble_eq_true rfl) (by simp [Value.category]) ?_
  intro p e s m below meth c C hret hlk hnm
  unfold f_Mo_isDigit at hX
  refine am_aload_n (pc := 0) C d_Mo_isDigit_0 rfl rfl ?_
  refine am_callVi (pc := 1) (As := []) (st := []) (cells1 := 0) (slots1 := 0) C (fun _ h => h.2) (fun _ h => by cases h.1) (fun q h => c_Mo_look h) wd_4_218 wd_4_220 ws_Mo_look wd_1_9 wd_4_221 rfl rfl hd_Mo_look ⟨by decide, by decide⟩ rfl rfl (Nat.le_of_ble_eq_true rfl) d_Mo_isDigit_1 ⟨by decide, by decide⟩ rfl rfl rfl hX (fun q1 hX => ?_)
  refine am_bipush (pc := 4) (v := (48 : Int32)) C d_Mo_isDigit_4 (by decide) ?_
  refine am_icmp_lt (pc := 6) (tgt := 22) C d_Mo_isDigit_6 rfl hX (fun hX => ?_) (fun hX => ?_)
  · skip
    refine am_iconst (pc := 22) (v := (0 : Int32)) C d_Mo_isDigit_22 (by decide) ?_
    exact am_iret (pc := 23) C hret hlk d_Mo_isDigit_23 am_n0 (by decide) (by decide) hX
  · skip
    refine am_aload_n (pc := 9) C d_Mo_isDigit_9 rfl rfl ?_
    refine am_callVi (pc := 10) (As := []) (st := []) (cells1 := 0) (slots1 := 0) C (fun _ h => h.2) (fun _ h => by cases h.1) (fun q h => c_Mo_look h) wd_4_218 wd_4_220 ws_Mo_look wd_1_9 wd_4_221 rfl rfl hd_Mo_look ⟨by decide, by decide⟩ rfl rfl (Nat.le_of_ble_eq_true rfl) d_Mo_isDigit_10 ⟨by decide, by decide⟩ rfl rfl rfl hX (fun q2 hX => ?_)
    refine am_bipush (pc := 13) (v := (57 : Int32)) C d_Mo_isDigit_13 (by decide) ?_
    refine am_icmp_gt (pc := 15) (tgt := 22) C d_Mo_isDigit_15 rfl hX (fun hX => ?_) (fun hX => ?_)
    · skip
      refine am_iconst (pc := 22) (v := (0 : Int32)) C d_Mo_isDigit_22 (by decide) ?_
      exact am_iret (pc := 23) C hret hlk d_Mo_isDigit_23 am_n0 (by decide) (by decide) hX
    · skip
      refine am_iconst (pc := 18) (v := (1 : Int32)) C d_Mo_isDigit_18 (by decide) ?_
      refine am_goto (pc := 19) (tgt := 23) C d_Mo_isDigit_19 rfl ?_
      exact am_iret (pc := 23) C hret hlk d_Mo_isDigit_23 am_n1 (by decide) (by decide) hX
def rm_Mo_readNumber : Room := { frames := 2, cells := 0, slots := 0, locals := 40 }
def f_Mo_readNumber (a0 : Nat) (w : am_w) : Option (Int32 × am_w) := ((am_ob 7 a0 w (f_Mo_isDigit a0 w)).bind fun q1 => (if q1.1 = 0 then (some ((-1 : Int32), q1.2)) else ((am_ob 7 a0 q1.2 (f_Mo_look a0 q1.2)).bind fun q2 => ((am_fg 7 3 a0 q2.2).bind fun x3 => ((am_fp 7 3 a0 (x3 + (1 : Int32)) q2.2).bind fun w4 => (if (q2.1 - (48 : Int32)) ≤ 0 then (some ((q2.1 - (48 : Int32)), w4)) else ((am_ob 7 a0 w4 (f_Mo_isDigit a0 w4)).bind fun q5 => (if q5.1 = 0 then (some ((q2.1 - (48 : Int32)), q5.2)) else ((am_ob 7 a0 q5.2 (f_Mo_look a0 q5.2)).bind fun q6 => ((am_fg 7 3 a0 q6.2).bind fun x7 => ((am_fp 7 3 a0 (x7 + (1 : Int32)) q6.2).bind fun w8 => (some (((((10 : Int32) * (q2.1 - (48 : Int32))) + q6.1) - (48 : Int32)), w8)))))))))))))
theorem hd_Mo_readNumber : y_Mo_readNumber.cls = "RoverMinutesModel" ∧ y_Mo_readNumber.cls ≠ "java/lang/invoke/MethodHandle" ∧ y_Mo_readNumber.cls ≠ "java/lang/invoke/VarHandle" ∧ (parseMethodDescriptor y_Mo_readNumber.desc).map (fun d => d.parameters.length) = some 0 := ⟨rfl, by decide, by decide, by decide +kernel⟩
set_option maxHeartbeats 4000000 in
theorem c_Mo_readNumber {l : Launch} {D : va_G} {A : Nat → Prop} {a0 : Nat} {w : am_w} {r : Int32 × am_w} (hX : f_Mo_readNumber a0 w = some r) : am_Met l D classes tys A (am_F A true) y_Mo_readNumber (Cond.code y_Mo_readNumber b_Mo_readNumber 2 (some .int) :: am_W) rm_Mo_readNumber [.ref a0] w (am_ri r) 0 0 := by
  refine am_ofV (by decide) am_W_good (Nat.le_of_ble_eq_true rfl) (by simp [Value.category]) ?_
  intro p e s m below meth c C hret hlk hnm
  unfold f_Mo_readNumber at hX
  refine am_aload_n (pc := 0) C d_Mo_readNumber_0 rfl rfl ?_
  refine am_callVi (pc := 1) (As := []) (st := []) (cells1 := 0) (slots1 := 0) C (fun _ h => h.2) (fun _ h => by cases h.1) (fun q h => c_Mo_isDigit h) wd_4_230 wd_4_232 ws_Mo_isDigit wd_1_9 wd_4_233 rfl rfl hd_Mo_isDigit ⟨by decide, by decide⟩ rfl rfl (Nat.le_of_ble_eq_true rfl) d_Mo_readNumber_1 ⟨by decide, by decide⟩ rfl rfl rfl hX (fun q1 hX => ?_)
  refine am_if_ne (pc := 4) (tgt := 9) C d_Mo_readNumber_4 rfl hX (fun hX => ?_) (fun hX => ?_)
  · skip
    refine am_aload_n (pc := 9) C d_Mo_readNumber_9 rfl rfl ?_
    refine am_callVi (pc := 10) (As := []) (st := []) (cells1 := 0) (slots1 := 0) C (fun _ h => h.2) (fun _ h => by cases h.1) (fun q h => c_Mo_look h) wd_4_218 wd_4_220 ws_Mo_look wd_1_9 wd_4_221 rfl rfl hd_Mo_look ⟨by decide, by decide⟩ rfl rfl (Nat.le_of_ble_eq_true rfl) d_Mo_readNumber_10 ⟨by decide, by decide⟩ rfl rfl rfl hX (fun q2 hX => ?_)
    refine am_bipush (pc := 13) (v := (48 : Int32)) C d_Mo_readNumber_13 (by decide) ?_
    refine am_isub (pc := 15) C d_Mo_readNumber_15 ?_
    refine am_istore_n (pc := 16) (lo1 := [some (.ref a0), some (.int (q2.1 - (48 : Int32)))]) C d_Mo_readNumber_16 rfl (by decide) rfl ?_
    refine am_aload_n (pc := 17) C d_Mo_readNumber_17 rfl rfl ?_
    refine am_dup (pc := 18) C d_Mo_readNumber_18 rfl ?_
    refine am_get (pc := 19) C hin_Mo rfl (by decide) wd_4_103 rfl d_Mo_readNumber_19 rfl hX (fun x3 hX => ?_)
    refine am_iconst (pc := 22) (v := (1 : Int32)) C d_Mo_readNumber_22 (by decide) ?_
    refine am_iadd (pc := 23) C d_Mo_readNumber_23 ?_
    refine am_put (pc := 24) C (fun _ h => ⟨rfl, h⟩) hin_Mo t_Mo t_Mo_ok n_Mo rfl (by decide) wd_4_103 rfl rfl (t_Mo_ok 3 (by decide)) rfl rfl rfl d_Mo_readNumber_24 hX (fun w4 hX => ?_)
    refine am_iload_n (pc := 27) C d_Mo_readNumber_27 rfl rfl ?_
    refine am_if_le (pc := 28) (tgt := 61) C d_Mo_readNumber_28 rfl hX (fun hX => ?_) (fun hX => ?_)
    · skip
      refine am_iload_n (pc := 61) C d_Mo_readNumber_61 rfl rfl ?_
      exact am_iret (pc := 62) C hret hlk d_Mo_readNumber_62 rfl (by decide) (by decide) hX
    · skip
      refine am_aload_n (pc := 31) C d_Mo_readNumber_31 rfl rfl ?_
      refine am_callVi (pc := 32) (As := []) (st := []) (cells1 := 0) (slots1 := 0) C (fun _ h => h.2) (fun _ h => by cases h.1) (fun q h => c_Mo_isDigit h) wd_4_230 wd_4_232 ws_Mo_isDigit wd_1_9 wd_4_233 rfl rfl hd_Mo_isDigit ⟨by decide, by decide⟩ rfl rfl (Nat.le_of_ble_eq_true rfl) d_Mo_readNumber_32 ⟨by decide, by decide⟩ rfl rfl rfl hX (fun q5 hX => ?_)
      refine am_if_eq (pc := 35) (tgt := 61) C d_Mo_readNumber_35 rfl hX (fun hX => ?_) (fun hX => ?_)
      · skip
        refine am_iload_n (pc := 61) C d_Mo_readNumber_61 rfl rfl ?_
        exact am_iret (pc := 62) C hret hlk d_Mo_readNumber_62 rfl (by decide) (by decide) hX
      · skip
        refine am_bipush (pc := 38) (v := (10 : Int32)) C d_Mo_readNumber_38 (by decide) ?_
        refine am_iload_n (pc := 40) C d_Mo_readNumber_40 rfl rfl ?_
        refine am_imul (pc := 41) C d_Mo_readNumber_41 ?_
        refine am_aload_n (pc := 42) C d_Mo_readNumber_42 rfl rfl ?_
        refine am_callVi (pc := 43) (As := []) (st := [.int ((10 : Int32) * (q2.1 - (48 : Int32)))]) (cells1 := 0) (slots1 := 0) C (fun _ h => h.2) (fun _ h => by cases h.1) (fun q h => c_Mo_look h) wd_4_218 wd_4_220 ws_Mo_look wd_1_9 wd_4_221 rfl rfl hd_Mo_look ⟨by decide, by decide⟩ rfl rfl (Nat.le_of_ble_eq_true rfl) d_Mo_readNumber_43 ⟨by decide, by decide⟩ rfl rfl rfl hX (fun q6 hX => ?_)
        refine am_iadd (pc := 46) C d_Mo_readNumber_46 ?_
        refine am_bipush (pc := 47) (v := (48 : Int32)) C d_Mo_readNumber_47 (by decide) ?_
        refine am_isub (pc := 49) C d_Mo_readNumber_49 ?_
        refine am_istore_n (pc := 50) (lo1 := [some (.ref a0), some (.int ((((10 : Int32) * (q2.1 - (48 : Int32))) + q6.1) - (48 : Int32)))]) C d_Mo_readNumber_50 rfl (by decide) rfl ?_
        refine am_aload_n (pc := 51) C d_Mo_readNumber_51 rfl rfl ?_
        refine am_dup (pc := 52) C d_Mo_readNumber_52 rfl ?_
        refine am_get (pc := 53) C hin_Mo rfl (by decide) wd_4_103 rfl d_Mo_readNumber_53 rfl hX (fun x7 hX => ?_)
        refine am_iconst (pc := 56) (v := (1 : Int32)) C d_Mo_readNumber_56 (by decide) ?_
        refine am_iadd (pc := 57) C d_Mo_readNumber_57 ?_
        refine am_put (pc := 58) C (fun _ h => ⟨rfl, h⟩) hin_Mo t_Mo t_Mo_ok n_Mo rfl (by decide) wd_4_103 rfl rfl (t_Mo_ok 3 (by decide)) rfl rfl rfl d_Mo_readNumber_58 hX (fun w8 hX => ?_)
        refine am_iload_n (pc := 61) C d_Mo_readNumber_61 rfl rfl ?_
        exact am_iret (pc := 62) C hret hlk d_Mo_readNumber_62 rfl (by decide) (by decide) hX
  · skip
    refine am_iconst (pc := 7) (v := (-1 : Int32)) C d_Mo_readNumber_7 (by decide) ?_
    exact am_iret (pc := 8) C hret hlk d_Mo_readNumber_8 rfl (by decide) (by decide) hX
def rm_Mo_readInto : Room := { frames := 3, cells := 0, slots := 0, locals := 61 }
def f_Mo_readInto (a0 : Nat) (a1 : Int32) (w : am_w) : Option (Int32 × am_w) := ((am_ob 7 a0 w (f_Mo_readNumber a0 w)).bind fun q1 => ((am_rg 7 6 a0 q1.2).bind fun b2 => ((am_fg 7 4 a0 q1.2).bind fun x3 => ((am_is b2 (((8 : Int32) * a1) + x3) q1.1 q1.2).bind fun w4 => (if q1.1 < 0 then (some ((0 : Int32), w4)) else (some ((1 : Int32), w4)))))))
theorem hd_Mo_readInto : y_Mo_readInto.cls = "RoverMinutesModel" ∧ y_Mo_readInto.cls ≠ "java/lang/invoke/MethodHandle" ∧ y_Mo_readInto.cls ≠ "java/lang/invoke/VarHandle" ∧ (parseMethodDescriptor y_Mo_readInto.desc).map (fun d => d.parameters.length) = some 1 := ⟨rfl, by decide, by decide, by decide +kernel⟩
set_option maxHeartbeats 4000000 in
theorem c_Mo_readInto {l : Launch} {D : va_G} {A : Nat → Prop} {a0 : Nat} {a1 : Int32} {w : am_w} {r : Int32 × am_w} (hX : f_Mo_readInto a0 a1 w = some r) : am_Met l D classes tys A (am_F A true) y_Mo_readInto (Cond.code y_Mo_readInto b_Mo_readInto 3 (some .boolean) :: am_W) rm_Mo_readInto [.ref a0, .int a1] w (am_ri r) 0 0 := by
  refine am_ofV (by decide) am_W_good (Nat.le_of_ble_eq_true rfl) (by simp [Value.category]) ?_
  intro p e s m below meth c C hret hlk hnm
  unfold f_Mo_readInto at hX
  refine am_aload_n (pc := 0) C d_Mo_readInto_0 rfl rfl ?_
  refine am_callVi (pc := 1) (As := []) (st := []) (cells1 := 0) (slots1 := 0) C (fun _ h => h.2) (fun _ h => h) (fun q h => c_Mo_readNumber h) wd_4_226 wd_4_228 ws_Mo_readNumber wd_1_9 wd_4_229 rfl rfl hd_Mo_readNumber ⟨by decide, by decide⟩ rfl rfl (Nat.le_of_ble_eq_true rfl) d_Mo_readInto_1 ⟨by decide, by decide⟩ rfl rfl rfl hX (fun q1 hX => ?_)
  refine am_istore_n (pc := 4) (lo1 := [some (.ref a0), some (.int a1), some (.int q1.1)]) C d_Mo_readInto_4 rfl (by decide) rfl ?_
  refine am_aload_n (pc := 5) C d_Mo_readInto_5 rfl rfl ?_
  refine am_getr (pc := 6) C hin_Mo rfl (by decide) wd_4_106 rfl d_Mo_readInto_6 rfl hX (fun b2 hX => ?_)
  refine am_bipush (pc := 9) (v := (8 : Int32)) C d_Mo_readInto_9 (by decide) ?_
  refine am_iload_n (pc := 11) C d_Mo_readInto_11 rfl rfl ?_
  refine am_imul (pc := 12) C d_Mo_readInto_12 ?_
  refine am_aload_n (pc := 13) C d_Mo_readInto_13 rfl rfl ?_
  refine am_get (pc := 14) C hin_Mo rfl (by decide) wd_4_104 rfl d_Mo_readInto_14 rfl hX (fun x3 hX => ?_)
  refine am_iadd (pc := 17) C d_Mo_readInto_17 ?_
  refine am_iload_n (pc := 18) C d_Mo_readInto_18 rfl rfl ?_
  refine am_iast (pc := 19) C (fun _ h => ⟨rfl, h⟩) d_Mo_readInto_19 hX (fun w4 hX => ?_)
  refine am_iload_n (pc := 20) C d_Mo_readInto_20 rfl rfl ?_
  refine am_if_lt (pc := 21) (tgt := 28) C d_Mo_readInto_21 rfl hX (fun hX => ?_) (fun hX => ?_)
  · skip
    refine am_iconst (pc := 28) (v := (0 : Int32)) C d_Mo_readInto_28 (by decide) ?_
    exact am_iret (pc := 29) C hret hlk d_Mo_readInto_29 am_n0 (by decide) (by decide) hX
  · skip
    refine am_iconst (pc := 24) (v := (1 : Int32)) C d_Mo_readInto_24 (by decide) ?_
    refine am_goto (pc := 25) (tgt := 29) C d_Mo_readInto_25 rfl ?_
    exact am_iret (pc := 29) C hret hlk d_Mo_readInto_29 am_n1 (by decide) (by decide) hX
def rm_Mo_rowOf : Room := { frames := 0, cells := 0, slots := 0, locals := 0 }
def f_Mo_rowOf (a0 : Int32) (w : am_w) : Option (Int32 × am_w) := (if a0 = (69 : Int32) then (some ((2 : Int32), w)) else (if a0 = (68 : Int32) then (some ((3 : Int32), w)) else (if a0 = (72 : Int32) then (some ((4 : Int32), w)) else (if a0 = (60 : Int32) then (some ((5 : Int32), w)) else (if a0 = (42 : Int32) then (some ((6 : Int32), w)) else (some ((-1 : Int32), w)))))))
theorem hd_Mo_rowOf : y_Mo_rowOf.cls ≠ "java/lang/invoke/MethodHandle" ∧ y_Mo_rowOf.cls ≠ "java/lang/invoke/VarHandle" ∧ (parseMethodDescriptor y_Mo_rowOf.desc).map (fun d => d.parameters.length) = some 1 := ⟨by decide, by decide, by decide +kernel⟩
set_option maxHeartbeats 4000000 in
theorem c_Mo_rowOf {l : Launch} {D : va_G} {A : Nat → Prop} {a0 : Int32} {w : am_w} {r : Int32 × am_w} (hX : f_Mo_rowOf a0 w = some r) : am_Met l D classes tys A (am_F A false) y_Mo_rowOf (Cond.code y_Mo_rowOf b_Mo_rowOf 1 (some .int) :: am_W) rm_Mo_rowOf [.int a0] w (am_ri r) 0 0 := by
  refine am_ofV (by decide) am_W_good (Nat.le_of_ble_eq_true rfl) (by simp [Value.category]) ?_
  intro p e s m below meth c C hret hlk hnm
  unfold f_Mo_rowOf at hX
  refine am_iload_n (pc := 0) C d_Mo_rowOf_0 rfl rfl ?_
  refine am_bipush (pc := 1) (v := (69 : Int32)) C d_Mo_rowOf_1 (by decide) ?_
  refine am_icmp_ne (pc := 3) (tgt := 10) C d_Mo_rowOf_3 rfl hX (fun hX => ?_) (fun hX => ?_)
  · skip
    refine am_iload_n (pc := 10) C d_Mo_rowOf_10 rfl rfl ?_
    refine am_bipush (pc := 11) (v := (68 : Int32)) C d_Mo_rowOf_11 (by decide) ?_
    refine am_icmp_ne (pc := 13) (tgt := 20) C d_Mo_rowOf_13 rfl hX (fun hX => ?_) (fun hX => ?_)
    · skip
      refine am_iload_n (pc := 20) C d_Mo_rowOf_20 rfl rfl ?_
      refine am_bipush (pc := 21) (v := (72 : Int32)) C d_Mo_rowOf_21 (by decide) ?_
      refine am_icmp_ne (pc := 23) (tgt := 30) C d_Mo_rowOf_23 rfl hX (fun hX => ?_) (fun hX => ?_)
      · skip
        refine am_iload_n (pc := 30) C d_Mo_rowOf_30 rfl rfl ?_
        refine am_bipush (pc := 31) (v := (60 : Int32)) C d_Mo_rowOf_31 (by decide) ?_
        refine am_icmp_ne (pc := 33) (tgt := 40) C d_Mo_rowOf_33 rfl hX (fun hX => ?_) (fun hX => ?_)
        · skip
          refine am_iload_n (pc := 40) C d_Mo_rowOf_40 rfl rfl ?_
          refine am_bipush (pc := 41) (v := (42 : Int32)) C d_Mo_rowOf_41 (by decide) ?_
          refine am_icmp_ne (pc := 43) (tgt := 51) C d_Mo_rowOf_43 rfl hX (fun hX => ?_) (fun hX => ?_)
          · skip
            refine am_iconst (pc := 51) (v := (-1 : Int32)) C d_Mo_rowOf_51 (by decide) ?_
            exact am_iret (pc := 52) C hret hlk d_Mo_rowOf_52 rfl (by decide) (by decide) hX
          · skip
            refine am_bipush (pc := 46) (v := (6 : Int32)) C d_Mo_rowOf_46 (by decide) ?_
            refine am_goto (pc := 48) (tgt := 52) C d_Mo_rowOf_48 rfl ?_
            exact am_iret (pc := 52) C hret hlk d_Mo_rowOf_52 rfl (by decide) (by decide) hX
        · skip
          refine am_iconst (pc := 36) (v := (5 : Int32)) C d_Mo_rowOf_36 (by decide) ?_
          refine am_goto (pc := 37) (tgt := 52) C d_Mo_rowOf_37 rfl ?_
          exact am_iret (pc := 52) C hret hlk d_Mo_rowOf_52 rfl (by decide) (by decide) hX
      · skip
        refine am_iconst (pc := 26) (v := (4 : Int32)) C d_Mo_rowOf_26 (by decide) ?_
        refine am_goto (pc := 27) (tgt := 52) C d_Mo_rowOf_27 rfl ?_
        exact am_iret (pc := 52) C hret hlk d_Mo_rowOf_52 rfl (by decide) (by decide) hX
    · skip
      refine am_iconst (pc := 16) (v := (3 : Int32)) C d_Mo_rowOf_16 (by decide) ?_
      refine am_goto (pc := 17) (tgt := 52) C d_Mo_rowOf_17 rfl ?_
      exact am_iret (pc := 52) C hret hlk d_Mo_rowOf_52 rfl (by decide) (by decide) hX
  · skip
    refine am_iconst (pc := 6) (v := (2 : Int32)) C d_Mo_rowOf_6 (by decide) ?_
    refine am_goto (pc := 7) (tgt := 52) C d_Mo_rowOf_7 rfl ?_
    exact am_iret (pc := 52) C hret hlk d_Mo_rowOf_52 rfl (by decide) (by decide) hX
def rm_Mo_readOption : Room := { frames := 4, cells := 0, slots := 0, locals := 83 }
def s_Mo_readOption_121  (v0 : Nat) (s0 : Int32) (w : am_w) : Option (Int32 × am_w) := ((am_fg 7 4 v0 w).bind fun x7 => ((am_rg 7 6 v0 w).bind fun b8 => ((am_rg 7 6 v0 w).bind fun b9 => ((am_ig b9 (s0 + x7) w).bind fun x10 => ((am_ob 7 v0 w (f_Mo_look v0 w)).bind fun q11 => ((am_is b8 (s0 + x7) (x10 ||| ((1 : Int32) <<< ((q11.1 - (97 : Int32)) &&& 31))) q11.2).bind fun w12 => ((am_fg 7 3 v0 w12).bind fun x13 => ((am_fp 7 3 v0 (x13 + (1 : Int32)) w12).bind fun w14 => (some ((1 : Int32), w14))))))))))
set_option maxHeartbeats 4000000 in
theorem L_Mo_readOption_121 {p : Program} {l : Launch} {e : Env} {s : State} {m : MethodId} {args : Array Value} {below : List Frame} {meth : Method} {c : Code} {D : va_G} {A : Nat → Prop} {r : Int32 × am_w} (C : am_C p m c b_Mo_readOption 4 s args am_W "RoverMinutesModel" D classes A) (hret : meth.sig.returnType = (some .int)) (hlk : meth.locks = false)   : ∀ (v0 : Nat) (s0 : Int32) (w : am_w), s_Mo_readOption_121  v0 s0 w = some r → am_V p l e rm_Mo_readOption s m args below meth c D classes tys A (am_F A true) 4 0 0 (MQ below (am_Q D classes tys A (am_F A true) (am_ri r)) args s 0 0 (am_F A true)) 121 [some (.ref v0), none, none, none] [.int s0] w := by
  intro v0 s0 w hX
  unfold s_Mo_readOption_121 at hX
  refine am_aload_n (pc := 121) C d_Mo_readOption_121 rfl rfl ?_
  refine am_get (pc := 122) C hin_Mo rfl (by decide) wd_4_104 rfl d_Mo_readOption_122 rfl hX (fun x7 hX => ?_)
  refine am_iadd (pc := 125) C d_Mo_readOption_125 ?_
  refine am_istore_n (pc := 126) (lo1 := [some (.ref v0), none, none, some (.int (s0 + x7))]) C d_Mo_readOption_126 rfl (by decide) rfl ?_
  refine am_aload_n (pc := 127) C d_Mo_readOption_127 rfl rfl ?_
  refine am_getr (pc := 128) C hin_Mo rfl (by decide) wd_4_106 rfl d_Mo_readOption_128 rfl hX (fun b8 hX => ?_)
  refine am_iload_n (pc := 131) C d_Mo_readOption_131 rfl rfl ?_
  refine am_aload_n (pc := 132) C d_Mo_readOption_132 rfl rfl ?_
  refine am_getr (pc := 133) C hin_Mo rfl (by decide) wd_4_106 rfl d_Mo_readOption_133 rfl hX (fun b9 hX => ?_)
  refine am_iload_n (pc := 136) C d_Mo_readOption_136 rfl rfl ?_
  refine am_iald (pc := 137) C d_Mo_readOption_137 hX (fun x10 hX => ?_)
  refine am_iconst (pc := 138) (v := (1 : Int32)) C d_Mo_readOption_138 (by decide) ?_
  refine am_aload_n (pc := 139) C d_Mo_readOption_139 rfl rfl ?_
  refine am_callVi (pc := 140) (As := []) (st := [.int (1 : Int32), .int x10, .int (s0 + x7), .ref b8]) (cells1 := 0) (slots1 := 0) C (fun _ h => h.2) (fun _ h => by cases h.1) (fun q h => c_Mo_look h) wd_4_218 wd_4_220 ws_Mo_look wd_1_9 wd_4_221 rfl rfl hd_Mo_look ⟨by decide, by decide⟩ rfl rfl (Nat.le_of_ble_eq_true rfl) d_Mo_readOption_140 ⟨by decide, by decide⟩ rfl rfl rfl hX (fun q11 hX => ?_)
  refine am_bipush (pc := 143) (v := (97 : Int32)) C d_Mo_readOption_143 (by decide) ?_
  refine am_isub (pc := 145) C d_Mo_readOption_145 ?_
  refine am_ishl (pc := 146) C d_Mo_readOption_146 ?_
  refine am_ior (pc := 147) C d_Mo_readOption_147 ?_
  refine am_iast (pc := 148) C (fun _ h => ⟨rfl, h⟩) d_Mo_readOption_148 hX (fun w12 hX => ?_)
  refine am_aload_n (pc := 149) C d_Mo_readOption_149 rfl rfl ?_
  refine am_dup (pc := 150) C d_Mo_readOption_150 rfl ?_
  refine am_get (pc := 151) C hin_Mo rfl (by decide) wd_4_103 rfl d_Mo_readOption_151 rfl hX (fun x13 hX => ?_)
  refine am_iconst (pc := 154) (v := (1 : Int32)) C d_Mo_readOption_154 (by decide) ?_
  refine am_iadd (pc := 155) C d_Mo_readOption_155 ?_
  refine am_put (pc := 156) C (fun _ h => ⟨rfl, h⟩) hin_Mo t_Mo t_Mo_ok n_Mo rfl (by decide) wd_4_103 rfl rfl (t_Mo_ok 3 (by decide)) rfl rfl rfl d_Mo_readOption_156 hX (fun w14 hX => ?_)
  refine am_iconst (pc := 159) (v := (1 : Int32)) C d_Mo_readOption_159 (by decide) ?_
  exact am_iret (pc := 160) C hret hlk d_Mo_readOption_160 rfl (by decide) (by decide) hX
def s_Mo_readOption_78  (v0 : Nat) (v1 : Int32) (w : am_w) : Option (Int32 × am_w) := ((am_fg 7 3 v0 w).bind fun x3 => ((am_fp 7 3 v0 (x3 + (1 : Int32)) w).bind fun w4 => ((am_ob 7 v0 w4 (f_Mo_look v0 w4)).bind fun q5 => (if q5.1 < (97 : Int32) then (some ((-1 : Int32), q5.2)) else ((am_ob 7 v0 q5.2 (f_Mo_look v0 q5.2)).bind fun q6 => (if q6.1 ≤ (122 : Int32) then (if v1 = (62 : Int32) then (s_Mo_readOption_121  v0 (56 : Int32) q6.2) else (s_Mo_readOption_121  v0 (64 : Int32) q6.2)) else (some ((-1 : Int32), q6.2))))))))
set_option maxHeartbeats 4000000 in
theorem L_Mo_readOption_78 {p : Program} {l : Launch} {e : Env} {s : State} {m : MethodId} {args : Array Value} {below : List Frame} {meth : Method} {c : Code} {D : va_G} {A : Nat → Prop} {r : Int32 × am_w} (C : am_C p m c b_Mo_readOption 4 s args am_W "RoverMinutesModel" D classes A) (hret : meth.sig.returnType = (some .int)) (hlk : meth.locks = false)   : ∀ (v0 : Nat) (v1 : Int32) (w : am_w), s_Mo_readOption_78  v0 v1 w = some r → am_V p l e rm_Mo_readOption s m args below meth c D classes tys A (am_F A true) 4 0 0 (MQ below (am_Q D classes tys A (am_F A true) (am_ri r)) args s 0 0 (am_F A true)) 78 [some (.ref v0), some (.int v1), none, none] [] w := by
  intro v0 v1 w hX
  unfold s_Mo_readOption_78 at hX
  refine am_aload_n (pc := 78) C d_Mo_readOption_78 rfl rfl ?_
  refine am_dup (pc := 79) C d_Mo_readOption_79 rfl ?_
  refine am_get (pc := 80) C hin_Mo rfl (by decide) wd_4_103 rfl d_Mo_readOption_80 rfl hX (fun x3 hX => ?_)
  refine am_iconst (pc := 83) (v := (1 : Int32)) C d_Mo_readOption_83 (by decide) ?_
  refine am_iadd (pc := 84) C d_Mo_readOption_84 ?_
  refine am_put (pc := 85) C (fun _ h => ⟨rfl, h⟩) hin_Mo t_Mo t_Mo_ok n_Mo rfl (by decide) wd_4_103 rfl rfl (t_Mo_ok 3 (by decide)) rfl rfl rfl d_Mo_readOption_85 hX (fun w4 hX => ?_)
  refine am_aload_n (pc := 88) C d_Mo_readOption_88 rfl rfl ?_
  refine am_callVi (pc := 89) (As := []) (st := []) (cells1 := 0) (slots1 := 0) C (fun _ h => h.2) (fun _ h => by cases h.1) (fun q h => c_Mo_look h) wd_4_218 wd_4_220 ws_Mo_look wd_1_9 wd_4_221 rfl rfl hd_Mo_look ⟨by decide, by decide⟩ rfl rfl (Nat.le_of_ble_eq_true rfl) d_Mo_readOption_89 ⟨by decide, by decide⟩ rfl rfl rfl hX (fun q5 hX => ?_)
  refine am_bipush (pc := 92) (v := (97 : Int32)) C d_Mo_readOption_92 (by decide) ?_
  refine am_icmp_lt (pc := 94) (tgt := 106) C d_Mo_readOption_94 rfl hX (fun hX => ?_) (fun hX => ?_)
  · skip
    refine am_iconst (pc := 106) (v := (-1 : Int32)) C d_Mo_readOption_106 (by decide) ?_
    exact am_iret (pc := 107) C hret hlk d_Mo_readOption_107 rfl (by decide) (by decide) hX
  · skip
    refine am_aload_n (pc := 97) C d_Mo_readOption_97 rfl rfl ?_
    refine am_callVi (pc := 98) (As := []) (st := []) (cells1 := 0) (slots1 := 0) C (fun _ h => h.2) (fun _ h => by cases h.1) (fun q h => c_Mo_look h) wd_4_218 wd_4_220 ws_Mo_look wd_1_9 wd_4_221 rfl rfl hd_Mo_look ⟨by decide, by decide⟩ rfl rfl (Nat.le_of_ble_eq_true rfl) d_Mo_readOption_98 ⟨by decide, by decide⟩ rfl rfl rfl hX (fun q6 hX => ?_)
    refine am_bipush (pc := 101) (v := (122 : Int32)) C d_Mo_readOption_101 (by decide) ?_
    refine am_icmp_le (pc := 103) (tgt := 108) C d_Mo_readOption_103 rfl hX (fun hX => ?_) (fun hX => ?_)
    · skip
      refine am_iload_n (pc := 108) C d_Mo_readOption_108 rfl rfl ?_
      refine am_bipush (pc := 109) (v := (62 : Int32)) C d_Mo_readOption_109 (by decide) ?_
      refine am_icmp_ne (pc := 111) (tgt := 119) C d_Mo_readOption_111 rfl hX (fun hX => ?_) (fun hX => ?_)
      · skip
        refine am_bipush (pc := 119) (v := (64 : Int32)) C d_Mo_readOption_119 (by decide) ?_
        exact am_sub (am_le_s (am_le_n (am_le_n (am_le_n (am_le_0))))) (L_Mo_readOption_121 C hret hlk  v0 (64 : Int32) q6.2 hX)
      · skip
        refine am_bipush (pc := 114) (v := (56 : Int32)) C d_Mo_readOption_114 (by decide) ?_
        refine am_goto (pc := 116) (tgt := 121) C d_Mo_readOption_116 rfl ?_
        exact am_sub (am_le_s (am_le_n (am_le_n (am_le_n (am_le_0))))) (L_Mo_readOption_121 C hret hlk  v0 (56 : Int32) q6.2 hX)
    · skip
      refine am_iconst (pc := 106) (v := (-1 : Int32)) C d_Mo_readOption_106 (by decide) ?_
      exact am_iret (pc := 107) C hret hlk d_Mo_readOption_107 rfl (by decide) (by decide) hX
def f_Mo_readOption (a0 : Nat) (w : am_w) : Option (Int32 × am_w) := ((am_ob 7 a0 w (f_Mo_look a0 w)).bind fun q1 => ((f_Mo_rowOf q1.1 q1.2).bind fun q2 => (if q2.1 < 0 then (if q1.1 = (62 : Int32) then (s_Mo_readOption_78  a0 q1.1 q2.2) else (if q1.1 = (47 : Int32) then (s_Mo_readOption_78  a0 q1.1 q2.2) else (some ((0 : Int32), q2.2)))) else ((am_fg 7 5 a0 q2.2).bind fun x15 => (if ((x15 >>> (q2.1 &&& 31)) &&& (1 : Int32)) = (1 : Int32) then (some ((-1 : Int32), q2.2)) else ((am_fg 7 5 a0 q2.2).bind fun x16 => ((am_fp 7 5 a0 (x16 ||| ((1 : Int32) <<< (q2.1 &&& 31))) q2.2).bind fun w17 => ((am_fg 7 3 a0 w17).bind fun x18 => ((am_fp 7 3 a0 (x18 + (1 : Int32)) w17).bind fun w19 => ((am_ob 7 a0 w19 (f_Mo_readInto a0 q2.1 w19)).bind fun q20 => (if q20.1 = 0 then (some ((-1 : Int32), q20.2)) else (some ((1 : Int32), q20.2)))))))))))))
theorem hd_Mo_readOption : y_Mo_readOption.cls = "RoverMinutesModel" ∧ y_Mo_readOption.cls ≠ "java/lang/invoke/MethodHandle" ∧ y_Mo_readOption.cls ≠ "java/lang/invoke/VarHandle" ∧ (parseMethodDescriptor y_Mo_readOption.desc).map (fun d => d.parameters.length) = some 0 := ⟨rfl, by decide, by decide, by decide +kernel⟩
set_option maxHeartbeats 4000000 in
theorem c_Mo_readOption {l : Launch} {D : va_G} {A : Nat → Prop} {a0 : Nat} {w : am_w} {r : Int32 × am_w} (hX : f_Mo_readOption a0 w = some r) : am_Met l D classes tys A (am_F A true) y_Mo_readOption (Cond.code y_Mo_readOption b_Mo_readOption 4 (some .int) :: am_W) rm_Mo_readOption [.ref a0] w (am_ri r) 0 0 := by
  refine am_ofV (by decide) am_W_good (Nat.le_of_ble_eq_true rfl) (by simp [Value.category]) ?_
  intro p e s m below meth c C hret hlk hnm
  unfold f_Mo_readOption at hX
  refine am_aload_n (pc := 0) C d_Mo_readOption_0 rfl rfl ?_
  refine am_callVi (pc := 1) (As := []) (st := []) (cells1 := 0) (slots1 := 0) C (fun _ h => h.2) (fun _ h => by cases h.1) (fun q h => c_Mo_look h) wd_4_218 wd_4_220 ws_Mo_look wd_1_9 wd_4_221 rfl rfl hd_Mo_look ⟨by decide, by decide⟩ rfl rfl (Nat.le_of_ble_eq_true rfl) d_Mo_readOption_1 ⟨by decide, by decide⟩ rfl rfl rfl hX (fun q1 hX => ?_)
  refine am_istore_n (pc := 4) (lo1 := [some (.ref a0), some (.int q1.1), none, none]) C d_Mo_readOption_4 rfl (by decide) rfl ?_
  refine am_iload_n (pc := 5) C d_Mo_readOption_5 rfl rfl ?_
  refine am_callSi (pc := 6) (As := [.int q1.1]) (st := []) (cells1 := 0) (slots1 := 0) C (fun _ h => h.2) (fun _ h => by cases h.1) (fun q h => c_Mo_rowOf h) wd_4_238 wd_4_239 wd_1_9 wd_5_0 rfl rfl hd_Mo_rowOf ⟨by decide, by decide⟩ rfl (Nat.le_of_ble_eq_true rfl) d_Mo_readOption_6 ⟨by decide, by decide⟩ rfl rfl rfl hX (fun q2 hX => ?_)
  refine am_istore_n (pc := 9) (lo1 := [some (.ref a0), some (.int q1.1), some (.int q2.1), none]) C d_Mo_readOption_9 rfl (by decide) rfl ?_
  refine am_iload_n (pc := 10) C d_Mo_readOption_10 rfl rfl ?_
  refine am_if_lt (pc := 11) (tgt := 64) C d_Mo_readOption_11 rfl hX (fun hX => ?_) (fun hX => ?_)
  · skip
    refine am_iload_n (pc := 64) C d_Mo_readOption_64 rfl rfl ?_
    refine am_bipush (pc := 65) (v := (62 : Int32)) C d_Mo_readOption_65 (by decide) ?_
    refine am_icmp_eq (pc := 67) (tgt := 78) C d_Mo_readOption_67 rfl hX (fun hX => ?_) (fun hX => ?_)
    · skip
      exact am_sub (am_le_s (am_le_s (am_le_n (am_le_n (am_le_0))))) (L_Mo_readOption_78 C hret hlk  a0 q1.1 q2.2 hX)
    · skip
      refine am_iload_n (pc := 70) C d_Mo_readOption_70 rfl rfl ?_
      refine am_bipush (pc := 71) (v := (47 : Int32)) C d_Mo_readOption_71 (by decide) ?_
      refine am_icmp_eq (pc := 73) (tgt := 78) C d_Mo_readOption_73 rfl hX (fun hX => ?_) (fun hX => ?_)
      · skip
        exact am_sub (am_le_s (am_le_s (am_le_n (am_le_n (am_le_0))))) (L_Mo_readOption_78 C hret hlk  a0 q1.1 q2.2 hX)
      · skip
        refine am_iconst (pc := 76) (v := (0 : Int32)) C d_Mo_readOption_76 (by decide) ?_
        exact am_iret (pc := 77) C hret hlk d_Mo_readOption_77 rfl (by decide) (by decide) hX
  · skip
    refine am_aload_n (pc := 14) C d_Mo_readOption_14 rfl rfl ?_
    refine am_get (pc := 15) C hin_Mo rfl (by decide) wd_4_105 rfl d_Mo_readOption_15 rfl hX (fun x15 hX => ?_)
    refine am_iload_n (pc := 18) C d_Mo_readOption_18 rfl rfl ?_
    refine am_ishr (pc := 19) C d_Mo_readOption_19 ?_
    refine am_iconst (pc := 20) (v := (1 : Int32)) C d_Mo_readOption_20 (by decide) ?_
    refine am_iand (pc := 21) C d_Mo_readOption_21 ?_
    refine am_iconst (pc := 22) (v := (1 : Int32)) C d_Mo_readOption_22 (by decide) ?_
    refine am_icmp_ne (pc := 23) (tgt := 28) C d_Mo_readOption_23 rfl hX (fun hX => ?_) (fun hX => ?_)
    · skip
      refine am_aload_n (pc := 28) C d_Mo_readOption_28 rfl rfl ?_
      refine am_aload_n (pc := 29) C d_Mo_readOption_29 rfl rfl ?_
      refine am_get (pc := 30) C hin_Mo rfl (by decide) wd_4_105 rfl d_Mo_readOption_30 rfl hX (fun x16 hX => ?_)
      refine am_iconst (pc := 33) (v := (1 : Int32)) C d_Mo_readOption_33 (by decide) ?_
      refine am_iload_n (pc := 34) C d_Mo_readOption_34 rfl rfl ?_
      refine am_ishl (pc := 35) C d_Mo_readOption_35 ?_
      refine am_ior (pc := 36) C d_Mo_readOption_36 ?_
      refine am_put (pc := 37) C (fun _ h => ⟨rfl, h⟩) hin_Mo t_Mo t_Mo_ok n_Mo rfl (by decide) wd_4_105 rfl rfl (t_Mo_ok 5 (by decide)) rfl rfl rfl d_Mo_readOption_37 hX (fun w17 hX => ?_)
      refine am_aload_n (pc := 40) C d_Mo_readOption_40 rfl rfl ?_
      refine am_dup (pc := 41) C d_Mo_readOption_41 rfl ?_
      refine am_get (pc := 42) C hin_Mo rfl (by decide) wd_4_103 rfl d_Mo_readOption_42 rfl hX (fun x18 hX => ?_)
      refine am_iconst (pc := 45) (v := (1 : Int32)) C d_Mo_readOption_45 (by decide) ?_
      refine am_iadd (pc := 46) C d_Mo_readOption_46 ?_
      refine am_put (pc := 47) C (fun _ h => ⟨rfl, h⟩) hin_Mo t_Mo t_Mo_ok n_Mo rfl (by decide) wd_4_103 rfl rfl (t_Mo_ok 3 (by decide)) rfl rfl rfl d_Mo_readOption_47 hX (fun w19 hX => ?_)
      refine am_aload_n (pc := 50) C d_Mo_readOption_50 rfl rfl ?_
      refine am_iload_n (pc := 51) C d_Mo_readOption_51 rfl rfl ?_
      refine am_callVi (pc := 52) (As := [.int q2.1]) (st := []) (cells1 := 0) (slots1 := 0) C (fun _ h => h.2) (fun _ h => h) (fun q h => c_Mo_readInto h) wd_4_222 wd_4_224 ws_Mo_readInto wd_1_9 wd_4_225 rfl rfl hd_Mo_readInto ⟨by decide, by decide⟩ rfl rfl (Nat.le_of_ble_eq_true rfl) d_Mo_readOption_52 ⟨by decide, by decide⟩ rfl rfl rfl hX (fun q20 hX => ?_)
      refine am_if_eq (pc := 55) (tgt := 62) C d_Mo_readOption_55 rfl hX (fun hX => ?_) (fun hX => ?_)
      · skip
        refine am_iconst (pc := 62) (v := (-1 : Int32)) C d_Mo_readOption_62 (by decide) ?_
        exact am_iret (pc := 63) C hret hlk d_Mo_readOption_63 rfl (by decide) (by decide) hX
      · skip
        refine am_iconst (pc := 58) (v := (1 : Int32)) C d_Mo_readOption_58 (by decide) ?_
        refine am_goto (pc := 59) (tgt := 63) C d_Mo_readOption_59 rfl ?_
        exact am_iret (pc := 63) C hret hlk d_Mo_readOption_63 rfl (by decide) (by decide) hX
    · skip
      refine am_iconst (pc := 26) (v := (-1 : Int32)) C d_Mo_readOption_26 (by decide) ?_
      exact am_iret (pc := 27) C hret hlk d_Mo_readOption_27 rfl (by decide) (by decide) hX
def rm_Mo_readActivity : Room := { frames := 5, cells := 0, slots := 0, locals := 106 }
def s_Mo_readActivity_111 (k111 : Nat → Int32 → am_w → Option (Int32 × am_w)) (v0 : Nat) (v1 : Int32) (w : am_w) : Option (Int32 × am_w) := (if v1 = (1 : Int32) then ((am_ob 7 v0 w (f_Mo_readOption v0 w)).bind fun q13 => (k111 v0 q13.1 q13.2)) else ((am_fg 7 4 v0 w).bind fun x11 => ((am_fp 7 4 v0 (x11 + (1 : Int32)) w).bind fun w12 => (if v1 = 0 then (some ((1 : Int32), w12)) else (some ((0 : Int32), w12))))))
def f_Mo_readActivity_111  (n : Nat) : Nat → Int32 → am_w → Option (Int32 × am_w) := am_it (fun _ _ _ => none) (s_Mo_readActivity_111 ) n
set_option maxHeartbeats 4000000 in
theorem L_Mo_readActivity_111 {p : Program} {l : Launch} {e : Env} {s : State} {m : MethodId} {args : Array Value} {below : List Frame} {meth : Method} {c : Code} {D : va_G} {A : Nat → Prop} {r : Int32 × am_w} (C : am_C p m c b_Mo_readActivity 2 s args am_W "RoverMinutesModel" D classes A) (hret : meth.sig.returnType = (some .boolean)) (hlk : meth.locks = false)   (n : Nat) : ∀ (v0 : Nat) (v1 : Int32) (w : am_w), f_Mo_readActivity_111  n v0 v1 w = some r → am_V p l e rm_Mo_readActivity s m args below meth c D classes tys A (am_F A true) 2 0 0 (MQ below (am_Q D classes tys A (am_F A true) (am_ri r)) args s 0 0 (am_F A true)) 111 [some (.ref v0), some (.int v1)] [] w := by
  refine am_it_ind (P := fun (t : Nat → Int32 → am_w → Option (Int32 × am_w)) => ∀ (v0 : Nat) (v1 : Int32) (w : am_w), t v0 v1 w = some r → am_V p l e rm_Mo_readActivity s m args below meth c D classes tys A (am_F A true) 2 0 0 (MQ below (am_Q D classes tys A (am_F A true) (am_ri r)) args s 0 0 (am_F A true)) 111 [some (.ref v0), some (.int v1)] [] w) ?_ ?_ n
  · intro v0 v1 w hX
    exact (am_nn hX).elim
  · intro k111 hk111 v0 v1 w hX
    unfold s_Mo_readActivity_111 at hX
    refine am_iload_n (pc := 111) C d_Mo_readActivity_111 rfl rfl ?_
    refine am_iconst (pc := 112) (v := (1 : Int32)) C d_Mo_readActivity_112 (by decide) ?_
    refine am_icmp_ne (pc := 113) (tgt := 124) C d_Mo_readActivity_113 rfl hX (fun hX => ?_) (fun hX => ?_)
    · skip
      refine am_aload_n (pc := 124) C d_Mo_readActivity_124 rfl rfl ?_
      refine am_dup (pc := 125) C d_Mo_readActivity_125 rfl ?_
      refine am_get (pc := 126) C hin_Mo rfl (by decide) wd_4_104 rfl d_Mo_readActivity_126 rfl hX (fun x11 hX => ?_)
      refine am_iconst (pc := 129) (v := (1 : Int32)) C d_Mo_readActivity_129 (by decide) ?_
      refine am_iadd (pc := 130) C d_Mo_readActivity_130 ?_
      refine am_put (pc := 131) C (fun _ h => ⟨rfl, h⟩) hin_Mo t_Mo t_Mo_ok n_Mo rfl (by decide) wd_4_104 rfl rfl (t_Mo_ok 4 (by decide)) rfl rfl rfl d_Mo_readActivity_131 hX (fun w12 hX => ?_)
      refine am_iload_n (pc := 134) C d_Mo_readActivity_134 rfl rfl ?_
      refine am_if_ne (pc := 135) (tgt := 142) C d_Mo_readActivity_135 rfl hX (fun hX => ?_) (fun hX => ?_)
      · skip
        refine am_iconst (pc := 142) (v := (0 : Int32)) C d_Mo_readActivity_142 (by decide) ?_
        exact am_iret (pc := 143) C hret hlk d_Mo_readActivity_143 am_n0 (by decide) (by decide) hX
      · skip
        refine am_iconst (pc := 138) (v := (1 : Int32)) C d_Mo_readActivity_138 (by decide) ?_
        refine am_goto (pc := 139) (tgt := 143) C d_Mo_readActivity_139 rfl ?_
        exact am_iret (pc := 143) C hret hlk d_Mo_readActivity_143 am_n1 (by decide) (by decide) hX
    · skip
      refine am_aload_n (pc := 116) C d_Mo_readActivity_116 rfl rfl ?_
      refine am_callVi (pc := 117) (As := []) (st := []) (cells1 := 0) (slots1 := 0) C (fun _ h => h.2) (fun _ h => h) (fun q h => c_Mo_readOption h) wd_4_234 wd_4_236 ws_Mo_readOption wd_1_9 wd_4_237 rfl rfl hd_Mo_readOption ⟨by decide, by decide⟩ rfl rfl (Nat.le_of_ble_eq_true rfl) d_Mo_readActivity_117 ⟨by decide, by decide⟩ rfl rfl rfl hX (fun q13 hX => ?_)
      refine am_istore_n (pc := 120) (lo1 := [some (.ref v0), some (.int q13.1)]) C d_Mo_readActivity_120 rfl (by decide) rfl ?_
      refine am_goto (pc := 121) (tgt := 111) C d_Mo_readActivity_121 rfl ?_
      exact (hk111 v0 q13.1 q13.2 hX)
def s_Mo_readActivity_2 (k2 : Nat → Int32 → am_w → Option (Int32 × am_w)) (v0 : Nat) (v1 : Int32) (w : am_w) : Option (Int32 × am_w) := (if (9 : Int32) ≤ v1 then ((am_ob 7 v0 w (f_Mo_look v0 w)).bind fun q1 => ((am_fg 7 4 v0 q1.2).bind fun x2 => (if q1.1 = ((97 : Int32) + x2) then ((am_fg 7 3 v0 q1.2).bind fun x3 => ((am_fp 7 3 v0 (x3 + (1 : Int32)) q1.2).bind fun w4 => ((am_ob 7 v0 w4 (f_Mo_readInto v0 (0 : Int32) w4)).bind fun q5 => (if q5.1 = 0 then (some ((0 : Int32), q5.2)) else ((am_ob 7 v0 q5.2 (f_Mo_look v0 q5.2)).bind fun q6 => (if q6.1 = (45 : Int32) then ((am_fg 7 3 v0 q6.2).bind fun x7 => ((am_fp 7 3 v0 (x7 + (1 : Int32)) q6.2).bind fun w8 => ((am_ob 7 v0 w8 (f_Mo_readInto v0 (1 : Int32) w8)).bind fun q9 => (if q9.1 = 0 then (some ((0 : Int32), q9.2)) else ((am_fp 7 5 v0 (0 : Int32) q9.2).bind fun w10 => (f_Mo_readActivity_111  70 v0 (1 : Int32) w10)))))) else (some ((0 : Int32), q6.2)))))))) else (some ((0 : Int32), q1.2))))) else ((am_rg 7 6 v0 w).bind fun b14 => ((am_fg 7 4 v0 w).bind fun x15 => (if v1 = (5 : Int32) then ((am_is b14 (((8 : Int32) * v1) + x15) (99 : Int32) w).bind fun w17 => (k2 v0 (v1 + (1 : Int32)) w17)) else ((am_is b14 (((8 : Int32) * v1) + x15) (0 : Int32) w).bind fun w16 => (k2 v0 (v1 + (1 : Int32)) w16))))))
def f_Mo_readActivity_2  (n : Nat) : Nat → Int32 → am_w → Option (Int32 × am_w) := am_it (fun _ _ _ => none) (s_Mo_readActivity_2 ) n
set_option maxHeartbeats 4000000 in
theorem L_Mo_readActivity_2 {p : Program} {l : Launch} {e : Env} {s : State} {m : MethodId} {args : Array Value} {below : List Frame} {meth : Method} {c : Code} {D : va_G} {A : Nat → Prop} {r : Int32 × am_w} (C : am_C p m c b_Mo_readActivity 2 s args am_W "RoverMinutesModel" D classes A) (hret : meth.sig.returnType = (some .boolean)) (hlk : meth.locks = false)   (n : Nat) : ∀ (v0 : Nat) (v1 : Int32) (w : am_w), f_Mo_readActivity_2  n v0 v1 w = some r → am_V p l e rm_Mo_readActivity s m args below meth c D classes tys A (am_F A true) 2 0 0 (MQ below (am_Q D classes tys A (am_F A true) (am_ri r)) args s 0 0 (am_F A true)) 2 [some (.ref v0), some (.int v1)] [] w := by
  refine am_it_ind (P := fun (t : Nat → Int32 → am_w → Option (Int32 × am_w)) => ∀ (v0 : Nat) (v1 : Int32) (w : am_w), t v0 v1 w = some r → am_V p l e rm_Mo_readActivity s m args below meth c D classes tys A (am_F A true) 2 0 0 (MQ below (am_Q D classes tys A (am_F A true) (am_ri r)) args s 0 0 (am_F A true)) 2 [some (.ref v0), some (.int v1)] [] w) ?_ ?_ n
  · intro v0 v1 w hX
    exact (am_nn hX).elim
  · intro k2 hk2 v0 v1 w hX
    unfold s_Mo_readActivity_2 at hX
    refine am_iload_n (pc := 2) C d_Mo_readActivity_2 rfl rfl ?_
    refine am_bipush (pc := 3) (v := (9 : Int32)) C d_Mo_readActivity_3 (by decide) ?_
    refine am_icmp_ge (pc := 5) (tgt := 39) C d_Mo_readActivity_5 rfl hX (fun hX => ?_) (fun hX => ?_)
    · skip
      refine am_aload_n (pc := 39) C d_Mo_readActivity_39 rfl rfl ?_
      refine am_callVi (pc := 40) (As := []) (st := []) (cells1 := 0) (slots1 := 0) C (fun _ h => h.2) (fun _ h => by cases h.1) (fun q h => c_Mo_look h) wd_4_218 wd_4_220 ws_Mo_look wd_1_9 wd_4_221 rfl rfl hd_Mo_look ⟨by decide, by decide⟩ rfl rfl (Nat.le_of_ble_eq_true rfl) d_Mo_readActivity_40 ⟨by decide, by decide⟩ rfl rfl rfl hX (fun q1 hX => ?_)
      refine am_bipush (pc := 43) (v := (97 : Int32)) C d_Mo_readActivity_43 (by decide) ?_
      refine am_aload_n (pc := 45) C d_Mo_readActivity_45 rfl rfl ?_
      refine am_get (pc := 46) C hin_Mo rfl (by decide) wd_4_104 rfl d_Mo_readActivity_46 rfl hX (fun x2 hX => ?_)
      refine am_iadd (pc := 49) C d_Mo_readActivity_49 ?_
      refine am_icmp_eq (pc := 50) (tgt := 55) C d_Mo_readActivity_50 rfl hX (fun hX => ?_) (fun hX => ?_)
      · skip
        refine am_aload_n (pc := 55) C d_Mo_readActivity_55 rfl rfl ?_
        refine am_dup (pc := 56) C d_Mo_readActivity_56 rfl ?_
        refine am_get (pc := 57) C hin_Mo rfl (by decide) wd_4_103 rfl d_Mo_readActivity_57 rfl hX (fun x3 hX => ?_)
        refine am_iconst (pc := 60) (v := (1 : Int32)) C d_Mo_readActivity_60 (by decide) ?_
        refine am_iadd (pc := 61) C d_Mo_readActivity_61 ?_
        refine am_put (pc := 62) C (fun _ h => ⟨rfl, h⟩) hin_Mo t_Mo t_Mo_ok n_Mo rfl (by decide) wd_4_103 rfl rfl (t_Mo_ok 3 (by decide)) rfl rfl rfl d_Mo_readActivity_62 hX (fun w4 hX => ?_)
        refine am_aload_n (pc := 65) C d_Mo_readActivity_65 rfl rfl ?_
        refine am_iconst (pc := 66) (v := (0 : Int32)) C d_Mo_readActivity_66 (by decide) ?_
        refine am_callVi (pc := 67) (As := [.int (0 : Int32)]) (st := []) (cells1 := 0) (slots1 := 0) C (fun _ h => h.2) (fun _ h => h) (fun q h => c_Mo_readInto h) wd_4_222 wd_4_224 ws_Mo_readInto wd_1_9 wd_4_225 rfl rfl hd_Mo_readInto ⟨by decide, by decide⟩ rfl rfl (Nat.le_of_ble_eq_true rfl) d_Mo_readActivity_67 ⟨by decide, by decide⟩ rfl rfl rfl hX (fun q5 hX => ?_)
        refine am_if_eq (pc := 70) (tgt := 82) C d_Mo_readActivity_70 rfl hX (fun hX => ?_) (fun hX => ?_)
        · skip
          refine am_iconst (pc := 82) (v := (0 : Int32)) C d_Mo_readActivity_82 (by decide) ?_
          exact am_iret (pc := 83) C hret hlk d_Mo_readActivity_83 am_n0 (by decide) (by decide) hX
        · skip
          refine am_aload_n (pc := 73) C d_Mo_readActivity_73 rfl rfl ?_
          refine am_callVi (pc := 74) (As := []) (st := []) (cells1 := 0) (slots1 := 0) C (fun _ h => h.2) (fun _ h => by cases h.1) (fun q h => c_Mo_look h) wd_4_218 wd_4_220 ws_Mo_look wd_1_9 wd_4_221 rfl rfl hd_Mo_look ⟨by decide, by decide⟩ rfl rfl (Nat.le_of_ble_eq_true rfl) d_Mo_readActivity_74 ⟨by decide, by decide⟩ rfl rfl rfl hX (fun q6 hX => ?_)
          refine am_bipush (pc := 77) (v := (45 : Int32)) C d_Mo_readActivity_77 (by decide) ?_
          refine am_icmp_eq (pc := 79) (tgt := 84) C d_Mo_readActivity_79 rfl hX (fun hX => ?_) (fun hX => ?_)
          · skip
            refine am_aload_n (pc := 84) C d_Mo_readActivity_84 rfl rfl ?_
            refine am_dup (pc := 85) C d_Mo_readActivity_85 rfl ?_
            refine am_get (pc := 86) C hin_Mo rfl (by decide) wd_4_103 rfl d_Mo_readActivity_86 rfl hX (fun x7 hX => ?_)
            refine am_iconst (pc := 89) (v := (1 : Int32)) C d_Mo_readActivity_89 (by decide) ?_
            refine am_iadd (pc := 90) C d_Mo_readActivity_90 ?_
            refine am_put (pc := 91) C (fun _ h => ⟨rfl, h⟩) hin_Mo t_Mo t_Mo_ok n_Mo rfl (by decide) wd_4_103 rfl rfl (t_Mo_ok 3 (by decide)) rfl rfl rfl d_Mo_readActivity_91 hX (fun w8 hX => ?_)
            refine am_aload_n (pc := 94) C d_Mo_readActivity_94 rfl rfl ?_
            refine am_iconst (pc := 95) (v := (1 : Int32)) C d_Mo_readActivity_95 (by decide) ?_
            refine am_callVi (pc := 96) (As := [.int (1 : Int32)]) (st := []) (cells1 := 0) (slots1 := 0) C (fun _ h => h.2) (fun _ h => h) (fun q h => c_Mo_readInto h) wd_4_222 wd_4_224 ws_Mo_readInto wd_1_9 wd_4_225 rfl rfl hd_Mo_readInto ⟨by decide, by decide⟩ rfl rfl (Nat.le_of_ble_eq_true rfl) d_Mo_readActivity_96 ⟨by decide, by decide⟩ rfl rfl rfl hX (fun q9 hX => ?_)
            refine am_if_ne (pc := 99) (tgt := 104) C d_Mo_readActivity_99 rfl hX (fun hX => ?_) (fun hX => ?_)
            · skip
              refine am_aload_n (pc := 104) C d_Mo_readActivity_104 rfl rfl ?_
              refine am_iconst (pc := 105) (v := (0 : Int32)) C d_Mo_readActivity_105 (by decide) ?_
              refine am_put (pc := 106) C (fun _ h => ⟨rfl, h⟩) hin_Mo t_Mo t_Mo_ok n_Mo rfl (by decide) wd_4_105 rfl rfl (t_Mo_ok 5 (by decide)) rfl rfl rfl d_Mo_readActivity_106 hX (fun w10 hX => ?_)
              refine am_iconst (pc := 109) (v := (1 : Int32)) C d_Mo_readActivity_109 (by decide) ?_
              refine am_istore_n (pc := 110) (lo1 := [some (.ref v0), some (.int (1 : Int32))]) C d_Mo_readActivity_110 rfl (by decide) rfl ?_
              exact (L_Mo_readActivity_111 C hret hlk  70 v0 (1 : Int32) w10 hX)
            · skip
              refine am_iconst (pc := 102) (v := (0 : Int32)) C d_Mo_readActivity_102 (by decide) ?_
              exact am_iret (pc := 103) C hret hlk d_Mo_readActivity_103 am_n0 (by decide) (by decide) hX
          · skip
            refine am_iconst (pc := 82) (v := (0 : Int32)) C d_Mo_readActivity_82 (by decide) ?_
            exact am_iret (pc := 83) C hret hlk d_Mo_readActivity_83 am_n0 (by decide) (by decide) hX
      · skip
        refine am_iconst (pc := 53) (v := (0 : Int32)) C d_Mo_readActivity_53 (by decide) ?_
        exact am_iret (pc := 54) C hret hlk d_Mo_readActivity_54 am_n0 (by decide) (by decide) hX
    · skip
      refine am_aload_n (pc := 8) C d_Mo_readActivity_8 rfl rfl ?_
      refine am_getr (pc := 9) C hin_Mo rfl (by decide) wd_4_106 rfl d_Mo_readActivity_9 rfl hX (fun b14 hX => ?_)
      refine am_bipush (pc := 12) (v := (8 : Int32)) C d_Mo_readActivity_12 (by decide) ?_
      refine am_iload_n (pc := 14) C d_Mo_readActivity_14 rfl rfl ?_
      refine am_imul (pc := 15) C d_Mo_readActivity_15 ?_
      refine am_aload_n (pc := 16) C d_Mo_readActivity_16 rfl rfl ?_
      refine am_get (pc := 17) C hin_Mo rfl (by decide) wd_4_104 rfl d_Mo_readActivity_17 rfl hX (fun x15 hX => ?_)
      refine am_iadd (pc := 20) C d_Mo_readActivity_20 ?_
      refine am_iload_n (pc := 21) C d_Mo_readActivity_21 rfl rfl ?_
      refine am_iconst (pc := 22) (v := (5 : Int32)) C d_Mo_readActivity_22 (by decide) ?_
      refine am_icmp_ne (pc := 23) (tgt := 31) C d_Mo_readActivity_23 rfl hX (fun hX => ?_) (fun hX => ?_)
      · skip
        refine am_iconst (pc := 31) (v := (0 : Int32)) C d_Mo_readActivity_31 (by decide) ?_
        refine am_iast (pc := 32) C (fun _ h => ⟨rfl, h⟩) d_Mo_readActivity_32 hX (fun w16 hX => ?_)
        refine am_iinc (pc := 33) (y := (1 : Int32)) (lo1 := [some (.ref v0), some (.int (v1 + (1 : Int32)))]) C d_Mo_readActivity_33 rfl (by decide) (by decide) rfl ?_
        refine am_goto (pc := 36) (tgt := 2) C d_Mo_readActivity_36 rfl ?_
        exact (hk2 v0 (v1 + (1 : Int32)) w16 hX)
      · skip
        refine am_bipush (pc := 26) (v := (99 : Int32)) C d_Mo_readActivity_26 (by decide) ?_
        refine am_goto (pc := 28) (tgt := 32) C d_Mo_readActivity_28 rfl ?_
        refine am_iast (pc := 32) C (fun _ h => ⟨rfl, h⟩) d_Mo_readActivity_32 hX (fun w17 hX => ?_)
        refine am_iinc (pc := 33) (y := (1 : Int32)) (lo1 := [some (.ref v0), some (.int (v1 + (1 : Int32)))]) C d_Mo_readActivity_33 rfl (by decide) (by decide) rfl ?_
        refine am_goto (pc := 36) (tgt := 2) C d_Mo_readActivity_36 rfl ?_
        exact (hk2 v0 (v1 + (1 : Int32)) w17 hX)
def f_Mo_readActivity (a0 : Nat) (w : am_w) : Option (Int32 × am_w) := (f_Mo_readActivity_2  70 a0 (0 : Int32) w)
theorem hd_Mo_readActivity : y_Mo_readActivity.cls = "RoverMinutesModel" ∧ y_Mo_readActivity.cls ≠ "java/lang/invoke/MethodHandle" ∧ y_Mo_readActivity.cls ≠ "java/lang/invoke/VarHandle" ∧ (parseMethodDescriptor y_Mo_readActivity.desc).map (fun d => d.parameters.length) = some 0 := ⟨rfl, by decide, by decide, by decide +kernel⟩
set_option maxHeartbeats 4000000 in
theorem c_Mo_readActivity {l : Launch} {D : va_G} {A : Nat → Prop} {a0 : Nat} {w : am_w} {r : Int32 × am_w} (hX : f_Mo_readActivity a0 w = some r) : am_Met l D classes tys A (am_F A true) y_Mo_readActivity (Cond.code y_Mo_readActivity b_Mo_readActivity 2 (some .boolean) :: am_W) rm_Mo_readActivity [.ref a0] w (am_ri r) 0 0 := by
  refine am_ofV (by decide) am_W_good (Nat.le_of_ble_eq_true rfl) (by simp [Value.category]) ?_
  intro p e s m below meth c C hret hlk hnm
  unfold f_Mo_readActivity at hX
  refine am_iconst (pc := 0) (v := (0 : Int32)) C d_Mo_readActivity_0 (by decide) ?_
  refine am_istore_n (pc := 1) (lo1 := [some (.ref a0), some (.int (0 : Int32))]) C d_Mo_readActivity_1 rfl (by decide) rfl ?_
  exact (L_Mo_readActivity_2 C hret hlk  70 a0 (0 : Int32) w hX)
def rm_Mo_readLine : Room := { frames := 6, cells := 0, slots := 0, locals := 127 }
def s_Mo_readLine_55  (v0 : Nat) (v1 : Int32) (w : am_w) : Option (Int32 × am_w) := (if v1 = 0 then (some ((0 : Int32), w)) else ((am_fg 7 3 v0 w).bind fun x4 => ((am_fg 7 2 v0 w).bind fun x5 => (if x4 = x5 then (some ((1 : Int32), w)) else (some ((0 : Int32), w))))))
set_option maxHeartbeats 4000000 in
theorem L_Mo_readLine_55 {p : Program} {l : Launch} {e : Env} {s : State} {m : MethodId} {args : Array Value} {below : List Frame} {meth : Method} {c : Code} {D : va_G} {A : Nat → Prop} {r : Int32 × am_w} (C : am_C p m c b_Mo_readLine 2 s args am_W "RoverMinutesModel" D classes A) (hret : meth.sig.returnType = (some .boolean)) (hlk : meth.locks = false)   : ∀ (v0 : Nat) (v1 : Int32) (w : am_w), s_Mo_readLine_55  v0 v1 w = some r → am_V p l e rm_Mo_readLine s m args below meth c D classes tys A (am_F A true) 2 0 0 (MQ below (am_Q D classes tys A (am_F A true) (am_ri r)) args s 0 0 (am_F A true)) 55 [some (.ref v0), some (.int v1)] [] w := by
  intro v0 v1 w hX
  unfold s_Mo_readLine_55 at hX
  refine am_iload_n (pc := 55) C d_Mo_readLine_55 rfl rfl ?_
  refine am_if_eq (pc := 56) (tgt := 74) C d_Mo_readLine_56 rfl hX (fun hX => ?_) (fun hX => ?_)
  · skip
    refine am_iconst (pc := 74) (v := (0 : Int32)) C d_Mo_readLine_74 (by decide) ?_
    exact am_iret (pc := 75) C hret hlk d_Mo_readLine_75 am_n0 (by decide) (by decide) hX
  · skip
    refine am_aload_n (pc := 59) C d_Mo_readLine_59 rfl rfl ?_
    refine am_get (pc := 60) C hin_Mo rfl (by decide) wd_4_103 rfl d_Mo_readLine_60 rfl hX (fun x4 hX => ?_)
    refine am_aload_n (pc := 63) C d_Mo_readLine_63 rfl rfl ?_
    refine am_get (pc := 64) C hin_Mo rfl (by decide) wd_4_102 rfl d_Mo_readLine_64 rfl hX (fun x5 hX => ?_)
    refine am_icmp_ne (pc := 67) (tgt := 74) C d_Mo_readLine_67 rfl hX (fun hX => ?_) (fun hX => ?_)
    · skip
      refine am_iconst (pc := 74) (v := (0 : Int32)) C d_Mo_readLine_74 (by decide) ?_
      exact am_iret (pc := 75) C hret hlk d_Mo_readLine_75 am_n0 (by decide) (by decide) hX
    · skip
      refine am_iconst (pc := 70) (v := (1 : Int32)) C d_Mo_readLine_70 (by decide) ?_
      refine am_goto (pc := 71) (tgt := 75) C d_Mo_readLine_71 rfl ?_
      exact am_iret (pc := 75) C hret hlk d_Mo_readLine_75 am_n1 (by decide) (by decide) hX
def s_Mo_readLine_15 (k15 : Nat → Int32 → am_w → Option (Int32 × am_w)) (v0 : Nat) (v1 : Int32) (w : am_w) : Option (Int32 × am_w) := (if v1 = 0 then (s_Mo_readLine_55  v0 v1 w) else ((am_ob 7 v0 w (f_Mo_look v0 w)).bind fun q6 => (if q6.1 = (59 : Int32) then ((am_fg 7 4 v0 q6.2).bind fun x7 => (if (8 : Int32) ≤ x7 then (s_Mo_readLine_55  v0 v1 q6.2) else ((am_fg 7 3 v0 q6.2).bind fun x8 => ((am_fp 7 3 v0 (x8 + (1 : Int32)) q6.2).bind fun w9 => ((am_ob 7 v0 w9 (f_Mo_readActivity v0 w9)).bind fun q10 => (k15 v0 q10.1 q10.2)))))) else (s_Mo_readLine_55  v0 v1 q6.2))))
def f_Mo_readLine_15  (n : Nat) : Nat → Int32 → am_w → Option (Int32 × am_w) := am_it (fun _ _ _ => none) (s_Mo_readLine_15 ) n
set_option maxHeartbeats 4000000 in
theorem L_Mo_readLine_15 {p : Program} {l : Launch} {e : Env} {s : State} {m : MethodId} {args : Array Value} {below : List Frame} {meth : Method} {c : Code} {D : va_G} {A : Nat → Prop} {r : Int32 × am_w} (C : am_C p m c b_Mo_readLine 2 s args am_W "RoverMinutesModel" D classes A) (hret : meth.sig.returnType = (some .boolean)) (hlk : meth.locks = false)   (n : Nat) : ∀ (v0 : Nat) (v1 : Int32) (w : am_w), f_Mo_readLine_15  n v0 v1 w = some r → am_V p l e rm_Mo_readLine s m args below meth c D classes tys A (am_F A true) 2 0 0 (MQ below (am_Q D classes tys A (am_F A true) (am_ri r)) args s 0 0 (am_F A true)) 15 [some (.ref v0), some (.int v1)] [] w := by
  refine am_it_ind (P := fun (t : Nat → Int32 → am_w → Option (Int32 × am_w)) => ∀ (v0 : Nat) (v1 : Int32) (w : am_w), t v0 v1 w = some r → am_V p l e rm_Mo_readLine s m args below meth c D classes tys A (am_F A true) 2 0 0 (MQ below (am_Q D classes tys A (am_F A true) (am_ri r)) args s 0 0 (am_F A true)) 15 [some (.ref v0), some (.int v1)] [] w) ?_ ?_ n
  · intro v0 v1 w hX
    exact (am_nn hX).elim
  · intro k15 hk15 v0 v1 w hX
    unfold s_Mo_readLine_15 at hX
    refine am_iload_n (pc := 15) C d_Mo_readLine_15 rfl rfl ?_
    refine am_if_eq (pc := 16) (tgt := 55) C d_Mo_readLine_16 rfl hX (fun hX => ?_) (fun hX => ?_)
    · skip
      exact (L_Mo_readLine_55 C hret hlk  v0 v1 w hX)
    · skip
      refine am_aload_n (pc := 19) C d_Mo_readLine_19 rfl rfl ?_
      refine am_callVi (pc := 20) (As := []) (st := []) (cells1 := 0) (slots1 := 0) C (fun _ h => h.2) (fun _ h => by cases h.1) (fun q h => c_Mo_look h) wd_4_218 wd_4_220 ws_Mo_look wd_1_9 wd_4_221 rfl rfl hd_Mo_look ⟨by decide, by decide⟩ rfl rfl (Nat.le_of_ble_eq_true rfl) d_Mo_readLine_20 ⟨by decide, by decide⟩ rfl rfl rfl hX (fun q6 hX => ?_)
      refine am_bipush (pc := 23) (v := (59 : Int32)) C d_Mo_readLine_23 (by decide) ?_
      refine am_icmp_ne (pc := 25) (tgt := 55) C d_Mo_readLine_25 rfl hX (fun hX => ?_) (fun hX => ?_)
      · skip
        exact (L_Mo_readLine_55 C hret hlk  v0 v1 q6.2 hX)
      · skip
        refine am_aload_n (pc := 28) C d_Mo_readLine_28 rfl rfl ?_
        refine am_get (pc := 29) C hin_Mo rfl (by decide) wd_4_104 rfl d_Mo_readLine_29 rfl hX (fun x7 hX => ?_)
        refine am_bipush (pc := 32) (v := (8 : Int32)) C d_Mo_readLine_32 (by decide) ?_
        refine am_icmp_ge (pc := 34) (tgt := 55) C d_Mo_readLine_34 rfl hX (fun hX => ?_) (fun hX => ?_)
        · skip
          exact (L_Mo_readLine_55 C hret hlk  v0 v1 q6.2 hX)
        · skip
          refine am_aload_n (pc := 37) C d_Mo_readLine_37 rfl rfl ?_
          refine am_dup (pc := 38) C d_Mo_readLine_38 rfl ?_
          refine am_get (pc := 39) C hin_Mo rfl (by decide) wd_4_103 rfl d_Mo_readLine_39 rfl hX (fun x8 hX => ?_)
          refine am_iconst (pc := 42) (v := (1 : Int32)) C d_Mo_readLine_42 (by decide) ?_
          refine am_iadd (pc := 43) C d_Mo_readLine_43 ?_
          refine am_put (pc := 44) C (fun _ h => ⟨rfl, h⟩) hin_Mo t_Mo t_Mo_ok n_Mo rfl (by decide) wd_4_103 rfl rfl (t_Mo_ok 3 (by decide)) rfl rfl rfl d_Mo_readLine_44 hX (fun w9 hX => ?_)
          refine am_aload_n (pc := 47) C d_Mo_readLine_47 rfl rfl ?_
          refine am_callVi (pc := 48) (As := []) (st := []) (cells1 := 0) (slots1 := 0) C (fun _ h => h.2) (fun _ h => h) (fun q h => c_Mo_readActivity h) wd_4_214 wd_4_216 ws_Mo_readActivity wd_1_9 wd_4_217 rfl rfl hd_Mo_readActivity ⟨by decide, by decide⟩ rfl rfl (Nat.le_of_ble_eq_true rfl) d_Mo_readLine_48 ⟨by decide, by decide⟩ rfl rfl rfl hX (fun q10 hX => ?_)
          refine am_istore_n (pc := 51) (lo1 := [some (.ref v0), some (.int q10.1)]) C d_Mo_readLine_51 rfl (by decide) rfl ?_
          refine am_goto (pc := 52) (tgt := 15) C d_Mo_readLine_52 rfl ?_
          exact (hk15 v0 q10.1 q10.2 hX)
def f_Mo_readLine (a0 : Nat) (w : am_w) : Option (Int32 × am_w) := ((am_fp 7 3 a0 (0 : Int32) w).bind fun w1 => ((am_fp 7 4 a0 (0 : Int32) w1).bind fun w2 => ((am_ob 7 a0 w2 (f_Mo_readActivity a0 w2)).bind fun q3 => (f_Mo_readLine_15  70 a0 q3.1 q3.2))))
theorem hd_Mo_readLine : y_Mo_readLine.cls = "RoverMinutesModel" ∧ y_Mo_readLine.cls ≠ "java/lang/invoke/MethodHandle" ∧ y_Mo_readLine.cls ≠ "java/lang/invoke/VarHandle" ∧ (parseMethodDescriptor y_Mo_readLine.desc).map (fun d => d.parameters.length) = some 0 := ⟨rfl, by decide, by decide, by decide +kernel⟩
set_option maxHeartbeats 4000000 in
theorem c_Mo_readLine {l : Launch} {D : va_G} {A : Nat → Prop} {a0 : Nat} {w : am_w} {r : Int32 × am_w} (hX : f_Mo_readLine a0 w = some r) : am_Met l D classes tys A (am_F A true) y_Mo_readLine (Cond.code y_Mo_readLine b_Mo_readLine 2 (some .boolean) :: am_W) rm_Mo_readLine [.ref a0] w (am_ri r) 0 0 := by
  refine am_ofV (by decide) am_W_good (Nat.le_of_ble_eq_true rfl) (by simp [Value.category]) ?_
  intro p e s m below meth c C hret hlk hnm
  unfold f_Mo_readLine at hX
  refine am_aload_n (pc := 0) C d_Mo_readLine_0 rfl rfl ?_
  refine am_iconst (pc := 1) (v := (0 : Int32)) C d_Mo_readLine_1 (by decide) ?_
  refine am_put (pc := 2) C (fun _ h => ⟨rfl, h⟩) hin_Mo t_Mo t_Mo_ok n_Mo rfl (by decide) wd_4_103 rfl rfl (t_Mo_ok 3 (by decide)) rfl rfl rfl d_Mo_readLine_2 hX (fun w1 hX => ?_)
  refine am_aload_n (pc := 5) C d_Mo_readLine_5 rfl rfl ?_
  refine am_iconst (pc := 6) (v := (0 : Int32)) C d_Mo_readLine_6 (by decide) ?_
  refine am_put (pc := 7) C (fun _ h => ⟨rfl, h⟩) hin_Mo t_Mo t_Mo_ok n_Mo rfl (by decide) wd_4_104 rfl rfl (t_Mo_ok 4 (by decide)) rfl rfl rfl d_Mo_readLine_7 hX (fun w2 hX => ?_)
  refine am_aload_n (pc := 10) C d_Mo_readLine_10 rfl rfl ?_
  refine am_callVi (pc := 11) (As := []) (st := []) (cells1 := 0) (slots1 := 0) C (fun _ h => h.2) (fun _ h => h) (fun q h => c_Mo_readActivity h) wd_4_214 wd_4_216 ws_Mo_readActivity wd_1_9 wd_4_217 rfl rfl hd_Mo_readActivity ⟨by decide, by decide⟩ rfl rfl (Nat.le_of_ble_eq_true rfl) d_Mo_readLine_11 ⟨by decide, by decide⟩ rfl rfl rfl hX (fun q3 hX => ?_)
  refine am_istore_n (pc := 14) (lo1 := [some (.ref a0), some (.int q3.1)]) C d_Mo_readLine_14 rfl (by decide) rfl ?_
  exact (L_Mo_readLine_15 C hret hlk  70 a0 q3.1 q3.2 hX)
def rm_Mo_isWrong : Room := { frames := 0, cells := 0, slots := 0, locals := 0 }
def s_Mo_isWrong_59  (v0 : Nat) (v1 : Int32) (v4 : Int32) (s0 : Int32) (w : am_w) : Option (Int32 × am_w) := (if s0 = 0 then (some ((1 : Int32), w)) else ((am_rg 7 6 v0 w).bind fun b9 => ((am_ig b9 ((48 : Int32) + v1) w).bind fun x10 => (if (3 : Int32) < x10 then (some ((1 : Int32), w)) else ((am_fg 7 4 v0 w).bind fun x11 => (if (v4 >>> (x11 &&& 31)) = 0 then (if ((v4 >>> (v1 &&& 31)) &&& (1 : Int32)) = (1 : Int32) then (some ((1 : Int32), w)) else (some ((0 : Int32), w))) else (some ((1 : Int32), w))))))))
set_option maxHeartbeats 4000000 in
theorem L_Mo_isWrong_59 {p : Program} {l : Launch} {e : Env} {s : State} {m : MethodId} {args : Array Value} {below : List Frame} {meth : Method} {c : Code} {D : va_G} {A : Nat → Prop} {r : Int32 × am_w} (C : am_C p m c b_Mo_isWrong 6 s args am_W "RoverMinutesModel" D classes A) (hret : meth.sig.returnType = (some .boolean)) (hlk : meth.locks = false)   : ∀ (v0 : Nat) (v1 : Int32) (v4 : Int32) (s0 : Int32) (w : am_w), s_Mo_isWrong_59  v0 v1 v4 s0 w = some r → am_V p l e rm_Mo_isWrong s m args below meth c D classes tys A (am_F A false) 6 0 0 (MQ below (am_Q D classes tys A (am_F A false) (am_ri r)) args s 0 0 (am_F A false)) 59 [some (.ref v0), some (.int v1), none, none, some (.int v4), none] [.int s0] w := by
  intro v0 v1 v4 s0 w hX
  unfold s_Mo_isWrong_59 at hX
  refine am_istore (pc := 59) (lo1 := [some (.ref v0), some (.int v1), none, none, some (.int v4), some (.int s0)]) C d_Mo_isWrong_59 (by decide) rfl ?_
  refine am_iload (pc := 61) C d_Mo_isWrong_61 rfl ?_
  refine am_if_eq (pc := 63) (tgt := 99) C d_Mo_isWrong_63 rfl hX (fun hX => ?_) (fun hX => ?_)
  · skip
    refine am_iconst (pc := 99) (v := (1 : Int32)) C d_Mo_isWrong_99 (by decide) ?_
    refine am_goto (pc := 100) (tgt := 104) C d_Mo_isWrong_100 rfl ?_
    exact am_iret (pc := 104) C hret hlk d_Mo_isWrong_104 am_n1 (by decide) (by decide) hX
  · skip
    refine am_aload_n (pc := 66) C d_Mo_isWrong_66 rfl rfl ?_
    refine am_getr (pc := 67) C hin_Mo rfl (by decide) wd_4_106 rfl d_Mo_isWrong_67 rfl hX (fun b9 hX => ?_)
    refine am_bipush (pc := 70) (v := (48 : Int32)) C d_Mo_isWrong_70 (by decide) ?_
    refine am_iload_n (pc := 72) C d_Mo_isWrong_72 rfl rfl ?_
    refine am_iadd (pc := 73) C d_Mo_isWrong_73 ?_
    refine am_iald (pc := 74) C d_Mo_isWrong_74 hX (fun x10 hX => ?_)
    refine am_iconst (pc := 75) (v := (3 : Int32)) C d_Mo_isWrong_75 (by decide) ?_
    refine am_icmp_gt (pc := 76) (tgt := 99) C d_Mo_isWrong_76 rfl hX (fun hX => ?_) (fun hX => ?_)
    · skip
      refine am_iconst (pc := 99) (v := (1 : Int32)) C d_Mo_isWrong_99 (by decide) ?_
      refine am_goto (pc := 100) (tgt := 104) C d_Mo_isWrong_100 rfl ?_
      exact am_iret (pc := 104) C hret hlk d_Mo_isWrong_104 am_n1 (by decide) (by decide) hX
    · skip
      refine am_iload (pc := 79) C d_Mo_isWrong_79 rfl ?_
      refine am_aload_n (pc := 81) C d_Mo_isWrong_81 rfl rfl ?_
      refine am_get (pc := 82) C hin_Mo rfl (by decide) wd_4_104 rfl d_Mo_isWrong_82 rfl hX (fun x11 hX => ?_)
      refine am_ishr (pc := 85) C d_Mo_isWrong_85 ?_
      refine am_if_ne (pc := 86) (tgt := 99) C d_Mo_isWrong_86 rfl hX (fun hX => ?_) (fun hX => ?_)
      · skip
        refine am_iconst (pc := 99) (v := (1 : Int32)) C d_Mo_isWrong_99 (by decide) ?_
        refine am_goto (pc := 100) (tgt := 104) C d_Mo_isWrong_100 rfl ?_
        exact am_iret (pc := 104) C hret hlk d_Mo_isWrong_104 am_n1 (by decide) (by decide) hX
      · skip
        refine am_iload (pc := 89) C d_Mo_isWrong_89 rfl ?_
        refine am_iload_n (pc := 91) C d_Mo_isWrong_91 rfl rfl ?_
        refine am_ishr (pc := 92) C d_Mo_isWrong_92 ?_
        refine am_iconst (pc := 93) (v := (1 : Int32)) C d_Mo_isWrong_93 (by decide) ?_
        refine am_iand (pc := 94) C d_Mo_isWrong_94 ?_
        refine am_iconst (pc := 95) (v := (1 : Int32)) C d_Mo_isWrong_95 (by decide) ?_
        refine am_icmp_ne (pc := 96) (tgt := 103) C d_Mo_isWrong_96 rfl hX (fun hX => ?_) (fun hX => ?_)
        · skip
          refine am_iconst (pc := 103) (v := (0 : Int32)) C d_Mo_isWrong_103 (by decide) ?_
          exact am_iret (pc := 104) C hret hlk d_Mo_isWrong_104 am_n0 (by decide) (by decide) hX
        · skip
          refine am_iconst (pc := 99) (v := (1 : Int32)) C d_Mo_isWrong_99 (by decide) ?_
          refine am_goto (pc := 100) (tgt := 104) C d_Mo_isWrong_100 rfl ?_
          exact am_iret (pc := 104) C hret hlk d_Mo_isWrong_104 am_n1 (by decide) (by decide) hX
def s_Mo_isWrong_58  (v0 : Nat) (v1 : Int32) (v4 : Int32) (w : am_w) : Option (Int32 × am_w) := (s_Mo_isWrong_59  v0 v1 v4 (0 : Int32) w)
set_option maxHeartbeats 4000000 in
theorem L_Mo_isWrong_58 {p : Program} {l : Launch} {e : Env} {s : State} {m : MethodId} {args : Array Value} {below : List Frame} {meth : Method} {c : Code} {D : va_G} {A : Nat → Prop} {r : Int32 × am_w} (C : am_C p m c b_Mo_isWrong 6 s args am_W "RoverMinutesModel" D classes A) (hret : meth.sig.returnType = (some .boolean)) (hlk : meth.locks = false)   : ∀ (v0 : Nat) (v1 : Int32) (v4 : Int32) (w : am_w), s_Mo_isWrong_58  v0 v1 v4 w = some r → am_V p l e rm_Mo_isWrong s m args below meth c D classes tys A (am_F A false) 6 0 0 (MQ below (am_Q D classes tys A (am_F A false) (am_ri r)) args s 0 0 (am_F A false)) 58 [some (.ref v0), some (.int v1), none, none, some (.int v4), none] [] w := by
  intro v0 v1 v4 w hX
  unfold s_Mo_isWrong_58 at hX
  refine am_iconst (pc := 58) (v := (0 : Int32)) C d_Mo_isWrong_58 (by decide) ?_
  exact (L_Mo_isWrong_59 C hret hlk  v0 v1 v4 (0 : Int32) w hX)
def f_Mo_isWrong (a0 : Nat) (a1 : Int32) (w : am_w) : Option (Int32 × am_w) := ((am_rg 7 6 a0 w).bind fun b1 => ((am_ig b1 a1 w).bind fun x2 => ((am_rg 7 6 a0 w).bind fun b3 => ((am_ig b3 ((8 : Int32) + a1) w).bind fun x4 => ((am_rg 7 6 a0 w).bind fun b5 => ((am_ig b5 ((56 : Int32) + a1) w).bind fun x6 => ((am_rg 7 6 a0 w).bind fun b7 => ((am_ig b7 ((64 : Int32) + a1) w).bind fun x8 => (if x2 < (1 : Int32) then (s_Mo_isWrong_58  a0 a1 (x6 ||| x8) w) else (if (30 : Int32) < x4 then (s_Mo_isWrong_58  a0 a1 (x6 ||| x8) w) else (if x4 < x2 then (s_Mo_isWrong_58  a0 a1 (x6 ||| x8) w) else (s_Mo_isWrong_59  a0 a1 (x6 ||| x8) (1 : Int32) w))))))))))))
theorem hd_Mo_isWrong : y_Mo_isWrong.cls = "RoverMinutesModel" ∧ y_Mo_isWrong.cls ≠ "java/lang/invoke/MethodHandle" ∧ y_Mo_isWrong.cls ≠ "java/lang/invoke/VarHandle" ∧ (parseMethodDescriptor y_Mo_isWrong.desc).map (fun d => d.parameters.length) = some 1 := ⟨rfl, by decide, by decide, by decide +kernel⟩
set_option maxHeartbeats 4000000 in
theorem c_Mo_isWrong {l : Launch} {D : va_G} {A : Nat → Prop} {a0 : Nat} {a1 : Int32} {w : am_w} {r : Int32 × am_w} (hX : f_Mo_isWrong a0 a1 w = some r) : am_Met l D classes tys A (am_F A false) y_Mo_isWrong (Cond.code y_Mo_isWrong b_Mo_isWrong 6 (some .boolean) :: am_W) rm_Mo_isWrong [.ref a0, .int a1] w (am_ri r) 0 0 := by
  refine am_ofV (by decide) am_W_good (Nat.le_of_ble_eq_true rfl) (by simp [Value.category]) ?_
  intro p e s m below meth c C hret hlk hnm
  unfold f_Mo_isWrong at hX
  refine am_aload_n (pc := 0) C d_Mo_isWrong_0 rfl rfl ?_
  refine am_getr (pc := 1) C hin_Mo rfl (by decide) wd_4_106 rfl d_Mo_isWrong_1 rfl hX (fun b1 hX => ?_)
  refine am_iload_n (pc := 4) C d_Mo_isWrong_4 rfl rfl ?_
  refine am_iald (pc := 5) C d_Mo_isWrong_5 hX (fun x2 hX => ?_)
  refine am_istore_n (pc := 6) (lo1 := [some (.ref a0), some (.int a1), some (.int x2), none, none, none]) C d_Mo_isWrong_6 rfl (by decide) rfl ?_
  refine am_aload_n (pc := 7) C d_Mo_isWrong_7 rfl rfl ?_
  refine am_getr (pc := 8) C hin_Mo rfl (by decide) wd_4_106 rfl d_Mo_isWrong_8 rfl hX (fun b3 hX => ?_)
  refine am_bipush (pc := 11) (v := (8 : Int32)) C d_Mo_isWrong_11 (by decide) ?_
  refine am_iload_n (pc := 13) C d_Mo_isWrong_13 rfl rfl ?_
  refine am_iadd (pc := 14) C d_Mo_isWrong_14 ?_
  refine am_iald (pc := 15) C d_Mo_isWrong_15 hX (fun x4 hX => ?_)
  refine am_istore_n (pc := 16) (lo1 := [some (.ref a0), some (.int a1), some (.int x2), some (.int x4), none, none]) C d_Mo_isWrong_16 rfl (by decide) rfl ?_
  refine am_aload_n (pc := 17) C d_Mo_isWrong_17 rfl rfl ?_
  refine am_getr (pc := 18) C hin_Mo rfl (by decide) wd_4_106 rfl d_Mo_isWrong_18 rfl hX (fun b5 hX => ?_)
  refine am_bipush (pc := 21) (v := (56 : Int32)) C d_Mo_isWrong_21 (by decide) ?_
  refine am_iload_n (pc := 23) C d_Mo_isWrong_23 rfl rfl ?_
  refine am_iadd (pc := 24) C d_Mo_isWrong_24 ?_
  refine am_iald (pc := 25) C d_Mo_isWrong_25 hX (fun x6 hX => ?_)
  refine am_aload_n (pc := 26) C d_Mo_isWrong_26 rfl rfl ?_
  refine am_getr (pc := 27) C hin_Mo rfl (by decide) wd_4_106 rfl d_Mo_isWrong_27 rfl hX (fun b7 hX => ?_)
  refine am_bipush (pc := 30) (v := (64 : Int32)) C d_Mo_isWrong_30 (by decide) ?_
  refine am_iload_n (pc := 32) C d_Mo_isWrong_32 rfl rfl ?_
  refine am_iadd (pc := 33) C d_Mo_isWrong_33 ?_
  refine am_iald (pc := 34) C d_Mo_isWrong_34 hX (fun x8 hX => ?_)
  refine am_ior (pc := 35) C d_Mo_isWrong_35 ?_
  refine am_istore (pc := 36) (lo1 := [some (.ref a0), some (.int a1), some (.int x2), some (.int x4), some (.int (x6 ||| x8)), none]) C d_Mo_isWrong_36 (by decide) rfl ?_
  refine am_iload_n (pc := 38) C d_Mo_isWrong_38 rfl rfl ?_
  refine am_iconst (pc := 39) (v := (1 : Int32)) C d_Mo_isWrong_39 (by decide) ?_
  refine am_icmp_lt (pc := 40) (tgt := 58) C d_Mo_isWrong_40 rfl hX (fun hX => ?_) (fun hX => ?_)
  · skip
    exact am_sub (am_le_s (am_le_s (am_le_n (am_le_n (am_le_s (am_le_n (am_le_0))))))) (L_Mo_isWrong_58 C hret hlk  a0 a1 (x6 ||| x8) w hX)
  · skip
    refine am_iload_n (pc := 43) C d_Mo_isWrong_43 rfl rfl ?_
    refine am_bipush (pc := 44) (v := (30 : Int32)) C d_Mo_isWrong_44 (by decide) ?_
    refine am_icmp_gt (pc := 46) (tgt := 58) C d_Mo_isWrong_46 rfl hX (fun hX => ?_) (fun hX => ?_)
    · skip
      exact am_sub (am_le_s (am_le_s (am_le_n (am_le_n (am_le_s (am_le_n (am_le_0))))))) (L_Mo_isWrong_58 C hret hlk  a0 a1 (x6 ||| x8) w hX)
    · skip
      refine am_iload_n (pc := 49) C d_Mo_isWrong_49 rfl rfl ?_
      refine am_iload_n (pc := 50) C d_Mo_isWrong_50 rfl rfl ?_
      refine am_icmp_gt (pc := 51) (tgt := 58) C d_Mo_isWrong_51 rfl hX (fun hX => ?_) (fun hX => ?_)
      · skip
        exact am_sub (am_le_s (am_le_s (am_le_n (am_le_n (am_le_s (am_le_n (am_le_0))))))) (L_Mo_isWrong_58 C hret hlk  a0 a1 (x6 ||| x8) w hX)
      · skip
        refine am_iconst (pc := 54) (v := (1 : Int32)) C d_Mo_isWrong_54 (by decide) ?_
        refine am_goto (pc := 55) (tgt := 59) C d_Mo_isWrong_55 rfl ?_
        exact am_sub (am_le_s (am_le_s (am_le_n (am_le_n (am_le_s (am_le_n (am_le_0))))))) (L_Mo_isWrong_59 C hret hlk  a0 a1 (x6 ||| x8) (1 : Int32) w hX)
def rm_Mo_findRings : Room := { frames := 0, cells := 0, slots := 0, locals := 0 }
def s_Mo_findRings_51 (k33 : Nat → Int32 → am_w → Option (Int32 × am_w)) (k41 : Nat → Int32 → Int32 → am_w → Option (Int32 × am_w)) (k51 : Nat → Int32 → Int32 → Int32 → am_w → Option (Int32 × am_w)) (v0 : Nat) (v1 : Int32) (v2 : Int32) (v3 : Int32) (w : am_w) : Option (Int32 × am_w) := ((am_fg 7 4 v0 w).bind fun x3 => (if x3 ≤ v3 then (k41 v0 v1 (v2 + (1 : Int32)) w) else ((am_rg 7 7 v0 w).bind fun b4 => ((am_rg 7 7 v0 w).bind fun b5 => ((am_ig b5 v2 w).bind fun x6 => (if ((x6 >>> (v3 &&& 31)) &&& (1 : Int32)) = (1 : Int32) then ((am_rg 7 7 v0 w).bind fun b10 => ((am_ig b10 v2 w).bind fun x11 => ((am_rg 7 7 v0 w).bind fun b12 => ((am_ig b12 v3 w).bind fun x13 => ((am_is b4 v2 (x11 ||| x13) w).bind fun w14 => (k51 v0 v1 v2 (v3 + (1 : Int32)) w14)))))) else ((am_rg 7 7 v0 w).bind fun b7 => ((am_ig b7 v2 w).bind fun x8 => ((am_is b4 v2 x8 w).bind fun w9 => (k51 v0 v1 v2 (v3 + (1 : Int32)) w9))))))))))
def f_Mo_findRings_51 (k33 : Nat → Int32 → am_w → Option (Int32 × am_w)) (k41 : Nat → Int32 → Int32 → am_w → Option (Int32 × am_w)) (n : Nat) : Nat → Int32 → Int32 → Int32 → am_w → Option (Int32 × am_w) := am_it (fun _ _ _ _ _ => none) (s_Mo_findRings_51 k33 k41) n
set_option maxHeartbeats 4000000 in
theorem L_Mo_findRings_51 {p : Program} {l : Launch} {e : Env} {s : State} {m : MethodId} {args : Array Value} {below : List Frame} {meth : Method} {c : Code} {D : va_G} {A : Nat → Prop} {r : Int32 × am_w} (C : am_C p m c b_Mo_findRings 4 s args am_W "RoverMinutesModel" D classes A) (hret : meth.sig.returnType = none) (hlk : meth.locks = false) {k33 : Nat → Int32 → am_w → Option (Int32 × am_w)} {k41 : Nat → Int32 → Int32 → am_w → Option (Int32 × am_w)} (hk33 : ∀ (v0 : Nat) (v1 : Int32) (w : am_w), k33 v0 v1 w = some r → am_V p l e rm_Mo_findRings s m args below meth c D classes tys A (am_F A true) 4 0 0 (MQ below (am_Q D classes tys A (am_F A true) (am_rv r)) args s 0 0 (am_F A true)) 33 [some (.ref v0), some (.int v1), none, none] [] w) (hk41 : ∀ (v0 : Nat) (v1 : Int32) (v2 : Int32) (w : am_w), k41 v0 v1 v2 w = some r → am_V p l e rm_Mo_findRings s m args below meth c D classes tys A (am_F A true) 4 0 0 (MQ below (am_Q D classes tys A (am_F A true) (am_rv r)) args s 0 0 (am_F A true)) 41 [some (.ref v0), some (.int v1), some (.int v2), none] [] w) (n : Nat) : ∀ (v0 : Nat) (v1 : Int32) (v2 : Int32) (v3 : Int32) (w : am_w), f_Mo_findRings_51 k33 k41 n v0 v1 v2 v3 w = some r → am_V p l e rm_Mo_findRings s m args below meth c D classes tys A (am_F A true) 4 0 0 (MQ below (am_Q D classes tys A (am_F A true) (am_rv r)) args s 0 0 (am_F A true)) 51 [some (.ref v0), some (.int v1), some (.int v2), some (.int v3)] [] w := by
  refine am_it_ind (P := fun (t : Nat → Int32 → Int32 → Int32 → am_w → Option (Int32 × am_w)) => ∀ (v0 : Nat) (v1 : Int32) (v2 : Int32) (v3 : Int32) (w : am_w), t v0 v1 v2 v3 w = some r → am_V p l e rm_Mo_findRings s m args below meth c D classes tys A (am_F A true) 4 0 0 (MQ below (am_Q D classes tys A (am_F A true) (am_rv r)) args s 0 0 (am_F A true)) 51 [some (.ref v0), some (.int v1), some (.int v2), some (.int v3)] [] w) ?_ ?_ n
  · intro v0 v1 v2 v3 w hX
    exact (am_nn hX).elim
  · intro k51 hk51 v0 v1 v2 v3 w hX
    unfold s_Mo_findRings_51 at hX
    refine am_iload_n (pc := 51) C d_Mo_findRings_51 rfl rfl ?_
    refine am_aload_n (pc := 52) C d_Mo_findRings_52 rfl rfl ?_
    refine am_get (pc := 53) C hin_Mo rfl (by decide) wd_4_104 rfl d_Mo_findRings_53 rfl hX (fun x3 hX => ?_)
    refine am_icmp_ge (pc := 56) (tgt := 107) C d_Mo_findRings_56 rfl hX (fun hX => ?_) (fun hX => ?_)
    · skip
      refine am_iinc (pc := 107) (y := (1 : Int32)) (lo1 := [some (.ref v0), some (.int v1), some (.int (v2 + (1 : Int32))), some (.int v3)]) C d_Mo_findRings_107 rfl (by decide) (by decide) rfl ?_
      refine am_goto (pc := 110) (tgt := 41) C d_Mo_findRings_110 rfl ?_
      exact am_sub (am_le_s (am_le_s (am_le_s (am_le_n (am_le_0))))) (hk41 v0 v1 (v2 + (1 : Int32)) w hX)
    · skip
      refine am_aload_n (pc := 59) C d_Mo_findRings_59 rfl rfl ?_
      refine am_getr (pc := 60) C hin_Mo rfl (by decide) wd_4_107 rfl d_Mo_findRings_60 rfl hX (fun b4 hX => ?_)
      refine am_iload_n (pc := 63) C d_Mo_findRings_63 rfl rfl ?_
      refine am_aload_n (pc := 64) C d_Mo_findRings_64 rfl rfl ?_
      refine am_getr (pc := 65) C hin_Mo rfl (by decide) wd_4_107 rfl d_Mo_findRings_65 rfl hX (fun b5 hX => ?_)
      refine am_iload_n (pc := 68) C d_Mo_findRings_68 rfl rfl ?_
      refine am_iald (pc := 69) C d_Mo_findRings_69 hX (fun x6 hX => ?_)
      refine am_iload_n (pc := 70) C d_Mo_findRings_70 rfl rfl ?_
      refine am_ishr (pc := 71) C d_Mo_findRings_71 ?_
      refine am_iconst (pc := 72) (v := (1 : Int32)) C d_Mo_findRings_72 (by decide) ?_
      refine am_iand (pc := 73) C d_Mo_findRings_73 ?_
      refine am_iconst (pc := 74) (v := (1 : Int32)) C d_Mo_findRings_74 (by decide) ?_
      refine am_icmp_ne (pc := 75) (tgt := 94) C d_Mo_findRings_75 rfl hX (fun hX => ?_) (fun hX => ?_)
      · skip
        refine am_aload_n (pc := 94) C d_Mo_findRings_94 rfl rfl ?_
        refine am_getr (pc := 95) C hin_Mo rfl (by decide) wd_4_107 rfl d_Mo_findRings_95 rfl hX (fun b7 hX => ?_)
        refine am_iload_n (pc := 98) C d_Mo_findRings_98 rfl rfl ?_
        refine am_iald (pc := 99) C d_Mo_findRings_99 hX (fun x8 hX => ?_)
        refine am_iast (pc := 100) C (fun _ h => ⟨rfl, h⟩) d_Mo_findRings_100 hX (fun w9 hX => ?_)
        refine am_iinc (pc := 101) (y := (1 : Int32)) (lo1 := [some (.ref v0), some (.int v1), some (.int v2), some (.int (v3 + (1 : Int32)))]) C d_Mo_findRings_101 rfl (by decide) (by decide) rfl ?_
        refine am_goto (pc := 104) (tgt := 51) C d_Mo_findRings_104 rfl ?_
        exact (hk51 v0 v1 v2 (v3 + (1 : Int32)) w9 hX)
      · skip
        refine am_aload_n (pc := 78) C d_Mo_findRings_78 rfl rfl ?_
        refine am_getr (pc := 79) C hin_Mo rfl (by decide) wd_4_107 rfl d_Mo_findRings_79 rfl hX (fun b10 hX => ?_)
        refine am_iload_n (pc := 82) C d_Mo_findRings_82 rfl rfl ?_
        refine am_iald (pc := 83) C d_Mo_findRings_83 hX (fun x11 hX => ?_)
        refine am_aload_n (pc := 84) C d_Mo_findRings_84 rfl rfl ?_
        refine am_getr (pc := 85) C hin_Mo rfl (by decide) wd_4_107 rfl d_Mo_findRings_85 rfl hX (fun b12 hX => ?_)
        refine am_iload_n (pc := 88) C d_Mo_findRings_88 rfl rfl ?_
        refine am_iald (pc := 89) C d_Mo_findRings_89 hX (fun x13 hX => ?_)
        refine am_ior (pc := 90) C d_Mo_findRings_90 ?_
        refine am_goto (pc := 91) (tgt := 100) C d_Mo_findRings_91 rfl ?_
        refine am_iast (pc := 100) C (fun _ h => ⟨rfl, h⟩) d_Mo_findRings_100 hX (fun w14 hX => ?_)
        refine am_iinc (pc := 101) (y := (1 : Int32)) (lo1 := [some (.ref v0), some (.int v1), some (.int v2), some (.int (v3 + (1 : Int32)))]) C d_Mo_findRings_101 rfl (by decide) (by decide) rfl ?_
        refine am_goto (pc := 104) (tgt := 51) C d_Mo_findRings_104 rfl ?_
        exact (hk51 v0 v1 v2 (v3 + (1 : Int32)) w14 hX)
def s_Mo_findRings_41 (k33 : Nat → Int32 → am_w → Option (Int32 × am_w)) (k41 : Nat → Int32 → Int32 → am_w → Option (Int32 × am_w)) (v0 : Nat) (v1 : Int32) (v2 : Int32) (w : am_w) : Option (Int32 × am_w) := ((am_fg 7 4 v0 w).bind fun x2 => (if x2 ≤ v2 then (k33 v0 (v1 + (1 : Int32)) w) else (f_Mo_findRings_51 k33 k41 70 v0 v1 v2 (0 : Int32) w)))
def f_Mo_findRings_41 (k33 : Nat → Int32 → am_w → Option (Int32 × am_w)) (n : Nat) : Nat → Int32 → Int32 → am_w → Option (Int32 × am_w) := am_it (fun _ _ _ _ => none) (s_Mo_findRings_41 k33) n
set_option maxHeartbeats 4000000 in
theorem L_Mo_findRings_41 {p : Program} {l : Launch} {e : Env} {s : State} {m : MethodId} {args : Array Value} {below : List Frame} {meth : Method} {c : Code} {D : va_G} {A : Nat → Prop} {r : Int32 × am_w} (C : am_C p m c b_Mo_findRings 4 s args am_W "RoverMinutesModel" D classes A) (hret : meth.sig.returnType = none) (hlk : meth.locks = false) {k33 : Nat → Int32 → am_w → Option (Int32 × am_w)} (hk33 : ∀ (v0 : Nat) (v1 : Int32) (w : am_w), k33 v0 v1 w = some r → am_V p l e rm_Mo_findRings s m args below meth c D classes tys A (am_F A true) 4 0 0 (MQ below (am_Q D classes tys A (am_F A true) (am_rv r)) args s 0 0 (am_F A true)) 33 [some (.ref v0), some (.int v1), none, none] [] w) (n : Nat) : ∀ (v0 : Nat) (v1 : Int32) (v2 : Int32) (w : am_w), f_Mo_findRings_41 k33 n v0 v1 v2 w = some r → am_V p l e rm_Mo_findRings s m args below meth c D classes tys A (am_F A true) 4 0 0 (MQ below (am_Q D classes tys A (am_F A true) (am_rv r)) args s 0 0 (am_F A true)) 41 [some (.ref v0), some (.int v1), some (.int v2), none] [] w := by
  refine am_it_ind (P := fun (t : Nat → Int32 → Int32 → am_w → Option (Int32 × am_w)) => ∀ (v0 : Nat) (v1 : Int32) (v2 : Int32) (w : am_w), t v0 v1 v2 w = some r → am_V p l e rm_Mo_findRings s m args below meth c D classes tys A (am_F A true) 4 0 0 (MQ below (am_Q D classes tys A (am_F A true) (am_rv r)) args s 0 0 (am_F A true)) 41 [some (.ref v0), some (.int v1), some (.int v2), none] [] w) ?_ ?_ n
  · intro v0 v1 v2 w hX
    exact (am_nn hX).elim
  · intro k41 hk41 v0 v1 v2 w hX
    unfold s_Mo_findRings_41 at hX
    refine am_iload_n (pc := 41) C d_Mo_findRings_41 rfl rfl ?_
    refine am_aload_n (pc := 42) C d_Mo_findRings_42 rfl rfl ?_
    refine am_get (pc := 43) C hin_Mo rfl (by decide) wd_4_104 rfl d_Mo_findRings_43 rfl hX (fun x2 hX => ?_)
    refine am_icmp_ge (pc := 46) (tgt := 113) C d_Mo_findRings_46 rfl hX (fun hX => ?_) (fun hX => ?_)
    · skip
      refine am_iinc (pc := 113) (y := (1 : Int32)) (lo1 := [some (.ref v0), some (.int (v1 + (1 : Int32))), some (.int v2), none]) C d_Mo_findRings_113 rfl (by decide) (by decide) rfl ?_
      refine am_goto (pc := 116) (tgt := 33) C d_Mo_findRings_116 rfl ?_
      exact am_sub (am_le_s (am_le_s (am_le_n (am_le_n (am_le_0))))) (hk33 v0 (v1 + (1 : Int32)) w hX)
    · skip
      refine am_iconst (pc := 49) (v := (0 : Int32)) C d_Mo_findRings_49 (by decide) ?_
      refine am_istore_n (pc := 50) (lo1 := [some (.ref v0), some (.int v1), some (.int v2), some (.int (0 : Int32))]) C d_Mo_findRings_50 rfl (by decide) rfl ?_
      exact (L_Mo_findRings_51 C hret hlk hk33 hk41 70 v0 v1 v2 (0 : Int32) w hX)
def s_Mo_findRings_33 (k33 : Nat → Int32 → am_w → Option (Int32 × am_w)) (v0 : Nat) (v1 : Int32) (w : am_w) : Option (Int32 × am_w) := (if (8 : Int32) ≤ v1 then (some (0, w)) else (f_Mo_findRings_41 k33 70 v0 v1 (0 : Int32) w))
def f_Mo_findRings_33  (n : Nat) : Nat → Int32 → am_w → Option (Int32 × am_w) := am_it (fun _ _ _ => none) (s_Mo_findRings_33 ) n
set_option maxHeartbeats 4000000 in
theorem L_Mo_findRings_33 {p : Program} {l : Launch} {e : Env} {s : State} {m : MethodId} {args : Array Value} {below : List Frame} {meth : Method} {c : Code} {D : va_G} {A : Nat → Prop} {r : Int32 × am_w} (C : am_C p m c b_Mo_findRings 4 s args am_W "RoverMinutesModel" D classes A) (hret : meth.sig.returnType = none) (hlk : meth.locks = false)   (n : Nat) : ∀ (v0 : Nat) (v1 : Int32) (w : am_w), f_Mo_findRings_33  n v0 v1 w = some r → am_V p l e rm_Mo_findRings s m args below meth c D classes tys A (am_F A true) 4 0 0 (MQ below (am_Q D classes tys A (am_F A true) (am_rv r)) args s 0 0 (am_F A true)) 33 [some (.ref v0), some (.int v1), none, none] [] w := by
  refine am_it_ind (P := fun (t : Nat → Int32 → am_w → Option (Int32 × am_w)) => ∀ (v0 : Nat) (v1 : Int32) (w : am_w), t v0 v1 w = some r → am_V p l e rm_Mo_findRings s m args below meth c D classes tys A (am_F A true) 4 0 0 (MQ below (am_Q D classes tys A (am_F A true) (am_rv r)) args s 0 0 (am_F A true)) 33 [some (.ref v0), some (.int v1), none, none] [] w) ?_ ?_ n
  · intro v0 v1 w hX
    exact (am_nn hX).elim
  · intro k33 hk33 v0 v1 w hX
    unfold s_Mo_findRings_33 at hX
    refine am_iload_n (pc := 33) C d_Mo_findRings_33 rfl rfl ?_
    refine am_bipush (pc := 34) (v := (8 : Int32)) C d_Mo_findRings_34 (by decide) ?_
    refine am_icmp_ge (pc := 36) (tgt := 119) C d_Mo_findRings_36 rfl hX (fun hX => ?_) (fun hX => ?_)
    · skip
      exact am_vret (pc := 119) C hret hlk d_Mo_findRings_119 (by decide) (by decide) hX
    · skip
      refine am_iconst (pc := 39) (v := (0 : Int32)) C d_Mo_findRings_39 (by decide) ?_
      refine am_istore_n (pc := 40) (lo1 := [some (.ref v0), some (.int v1), some (.int (0 : Int32)), none]) C d_Mo_findRings_40 rfl (by decide) rfl ?_
      exact (L_Mo_findRings_41 C hret hlk hk33 70 v0 v1 (0 : Int32) w hX)
def s_Mo_findRings_2 (k2 : Nat → Int32 → am_w → Option (Int32 × am_w)) (v0 : Nat) (v1 : Int32) (w : am_w) : Option (Int32 × am_w) := ((am_fg 7 4 v0 w).bind fun x1 => (if x1 ≤ v1 then (f_Mo_findRings_33  70 v0 (0 : Int32) w) else ((am_rg 7 7 v0 w).bind fun b15 => ((am_rg 7 6 v0 w).bind fun b16 => ((am_ig b16 ((56 : Int32) + v1) w).bind fun x17 => ((am_is b15 v1 x17 w).bind fun w18 => (k2 v0 (v1 + (1 : Int32)) w18)))))))
def f_Mo_findRings_2  (n : Nat) : Nat → Int32 → am_w → Option (Int32 × am_w) := am_it (fun _ _ _ => none) (s_Mo_findRings_2 ) n
set_option maxHeartbeats 4000000 in
theorem L_Mo_findRings_2 {p : Program} {l : Launch} {e : Env} {s : State} {m : MethodId} {args : Array Value} {below : List Frame} {meth : Method} {c : Code} {D : va_G} {A : Nat → Prop} {r : Int32 × am_w} (C : am_C p m c b_Mo_findRings 4 s args am_W "RoverMinutesModel" D classes A) (hret : meth.sig.returnType = none) (hlk : meth.locks = false)   (n : Nat) : ∀ (v0 : Nat) (v1 : Int32) (w : am_w), f_Mo_findRings_2  n v0 v1 w = some r → am_V p l e rm_Mo_findRings s m args below meth c D classes tys A (am_F A true) 4 0 0 (MQ below (am_Q D classes tys A (am_F A true) (am_rv r)) args s 0 0 (am_F A true)) 2 [some (.ref v0), some (.int v1), none, none] [] w := by
  refine am_it_ind (P := fun (t : Nat → Int32 → am_w → Option (Int32 × am_w)) => ∀ (v0 : Nat) (v1 : Int32) (w : am_w), t v0 v1 w = some r → am_V p l e rm_Mo_findRings s m args below meth c D classes tys A (am_F A true) 4 0 0 (MQ below (am_Q D classes tys A (am_F A true) (am_rv r)) args s 0 0 (am_F A true)) 2 [some (.ref v0), some (.int v1), none, none] [] w) ?_ ?_ n
  · intro v0 v1 w hX
    exact (am_nn hX).elim
  · intro k2 hk2 v0 v1 w hX
    unfold s_Mo_findRings_2 at hX
    refine am_iload_n (pc := 2) C d_Mo_findRings_2 rfl rfl ?_
    refine am_aload_n (pc := 3) C d_Mo_findRings_3 rfl rfl ?_
    refine am_get (pc := 4) C hin_Mo rfl (by decide) wd_4_104 rfl d_Mo_findRings_4 rfl hX (fun x1 hX => ?_)
    refine am_icmp_ge (pc := 7) (tgt := 31) C d_Mo_findRings_7 rfl hX (fun hX => ?_) (fun hX => ?_)
    · skip
      refine am_iconst (pc := 31) (v := (0 : Int32)) C d_Mo_findRings_31 (by decide) ?_
      refine am_istore_n (pc := 32) (lo1 := [some (.ref v0), some (.int (0 : Int32)), none, none]) C d_Mo_findRings_32 rfl (by decide) rfl ?_
      exact (L_Mo_findRings_33 C hret hlk  70 v0 (0 : Int32) w hX)
    · skip
      refine am_aload_n (pc := 10) C d_Mo_findRings_10 rfl rfl ?_
      refine am_getr (pc := 11) C hin_Mo rfl (by decide) wd_4_107 rfl d_Mo_findRings_11 rfl hX (fun b15 hX => ?_)
      refine am_iload_n (pc := 14) C d_Mo_findRings_14 rfl rfl ?_
      refine am_aload_n (pc := 15) C d_Mo_findRings_15 rfl rfl ?_
      refine am_getr (pc := 16) C hin_Mo rfl (by decide) wd_4_106 rfl d_Mo_findRings_16 rfl hX (fun b16 hX => ?_)
      refine am_bipush (pc := 19) (v := (56 : Int32)) C d_Mo_findRings_19 (by decide) ?_
      refine am_iload_n (pc := 21) C d_Mo_findRings_21 rfl rfl ?_
      refine am_iadd (pc := 22) C d_Mo_findRings_22 ?_
      refine am_iald (pc := 23) C d_Mo_findRings_23 hX (fun x17 hX => ?_)
      refine am_iast (pc := 24) C (fun _ h => ⟨rfl, h⟩) d_Mo_findRings_24 hX (fun w18 hX => ?_)
      refine am_iinc (pc := 25) (y := (1 : Int32)) (lo1 := [some (.ref v0), some (.int (v1 + (1 : Int32))), none, none]) C d_Mo_findRings_25 rfl (by decide) (by decide) rfl ?_
      refine am_goto (pc := 28) (tgt := 2) C d_Mo_findRings_28 rfl ?_
      exact (hk2 v0 (v1 + (1 : Int32)) w18 hX)
def f_Mo_findRings (a0 : Nat) (w : am_w) : Option (Int32 × am_w) := (f_Mo_findRings_2  70 a0 (0 : Int32) w)
theorem hd_Mo_findRings : y_Mo_findRings.cls = "RoverMinutesModel" ∧ y_Mo_findRings.cls ≠ "java/lang/invoke/MethodHandle" ∧ y_Mo_findRings.cls ≠ "java/lang/invoke/VarHandle" ∧ (parseMethodDescriptor y_Mo_findRings.desc).map (fun d => d.parameters.length) = some 0 := ⟨rfl, by decide, by decide, by decide +kernel⟩
set_option maxHeartbeats 4000000 in
theorem c_Mo_findRings {l : Launch} {D : va_G} {A : Nat → Prop} {a0 : Nat} {w : am_w} {r : Int32 × am_w} (hX : f_Mo_findRings a0 w = some r) : am_Met l D classes tys A (am_F A true) y_Mo_findRings (Cond.code y_Mo_findRings b_Mo_findRings 4 none :: am_W) rm_Mo_findRings [.ref a0] w (am_rv r) 0 0 := by
  refine am_ofV (by decide) am_W_good (Nat.le_of_ble_eq_true rfl) (by simp [Value.category]) ?_
  intro p e s m below meth c C hret hlk hnm
  unfold f_Mo_findRings at hX
  refine am_iconst (pc := 0) (v := (0 : Int32)) C d_Mo_findRings_0 (by decide) ?_
  refine am_istore_n (pc := 1) (lo1 := [some (.ref a0), some (.int (0 : Int32)), none, none]) C d_Mo_findRings_1 rfl (by decide) rfl ?_
  exact (L_Mo_findRings_2 C hret hlk  70 a0 (0 : Int32) w hX)
def rm_Mo_findFirsts : Room := { frames := 0, cells := 0, slots := 0, locals := 0 }
def s_Mo_findFirsts_102 (k23 : Nat → Int32 → am_w → Option (Int32 × am_w)) (k31 : Nat → Int32 → Int32 → am_w → Option (Int32 × am_w)) (k41 : Nat → Int32 → Int32 → Int32 → am_w → Option (Int32 × am_w)) (v0 : Nat) (v1 : Int32) (v2 : Int32) (v3 : Int32) (s0 : Int32) (s1 : Nat) (w : am_w) : Option (Int32 × am_w) := ((am_rg 7 8 v0 w).bind fun b10 => ((am_ig b10 v2 w).bind fun x11 => ((am_is s1 s0 x11 w).bind fun w12 => (k41 v0 v1 v2 (v3 + (1 : Int32)) w12))))
set_option maxHeartbeats 4000000 in
theorem L_Mo_findFirsts_102 {p : Program} {l : Launch} {e : Env} {s : State} {m : MethodId} {args : Array Value} {below : List Frame} {meth : Method} {c : Code} {D : va_G} {A : Nat → Prop} {r : Int32 × am_w} (C : am_C p m c b_Mo_findFirsts 5 s args am_W "RoverMinutesModel" D classes A) (hret : meth.sig.returnType = none) (hlk : meth.locks = false) {k23 : Nat → Int32 → am_w → Option (Int32 × am_w)} {k31 : Nat → Int32 → Int32 → am_w → Option (Int32 × am_w)} {k41 : Nat → Int32 → Int32 → Int32 → am_w → Option (Int32 × am_w)} (hk23 : ∀ (v0 : Nat) (v1 : Int32) (w : am_w), k23 v0 v1 w = some r → am_V p l e rm_Mo_findFirsts s m args below meth c D classes tys A (am_F A true) 5 0 0 (MQ below (am_Q D classes tys A (am_F A true) (am_rv r)) args s 0 0 (am_F A true)) 23 [some (.ref v0), some (.int v1), none, none, none] [] w) (hk31 : ∀ (v0 : Nat) (v1 : Int32) (v2 : Int32) (w : am_w), k31 v0 v1 v2 w = some r → am_V p l e rm_Mo_findFirsts s m args below meth c D classes tys A (am_F A true) 5 0 0 (MQ below (am_Q D classes tys A (am_F A true) (am_rv r)) args s 0 0 (am_F A true)) 31 [some (.ref v0), some (.int v1), some (.int v2), none, none] [] w) (hk41 : ∀ (v0 : Nat) (v1 : Int32) (v2 : Int32) (v3 : Int32) (w : am_w), k41 v0 v1 v2 v3 w = some r → am_V p l e rm_Mo_findFirsts s m args below meth c D classes tys A (am_F A true) 5 0 0 (MQ below (am_Q D classes tys A (am_F A true) (am_rv r)) args s 0 0 (am_F A true)) 41 [some (.ref v0), some (.int v1), some (.int v2), some (.int v3), none] [] w) : ∀ (v0 : Nat) (v1 : Int32) (v2 : Int32) (v3 : Int32) (s0 : Int32) (s1 : Nat) (w : am_w), s_Mo_findFirsts_102 k23 k31 k41 v0 v1 v2 v3 s0 s1 w = some r → am_V p l e rm_Mo_findFirsts s m args below meth c D classes tys A (am_F A true) 5 0 0 (MQ below (am_Q D classes tys A (am_F A true) (am_rv r)) args s 0 0 (am_F A true)) 102 [some (.ref v0), some (.int v1), some (.int v2), some (.int v3), none] [.int s0, .ref s1] w := by
  intro v0 v1 v2 v3 s0 s1 w hX
  unfold s_Mo_findFirsts_102 at hX
  refine am_aload_n (pc := 102) C d_Mo_findFirsts_102 rfl rfl ?_
  refine am_getr (pc := 103) C hin_Mo rfl (by decide) wd_4_108 rfl d_Mo_findFirsts_103 rfl hX (fun b10 hX => ?_)
  refine am_iload_n (pc := 106) C d_Mo_findFirsts_106 rfl rfl ?_
  refine am_iald (pc := 107) C d_Mo_findFirsts_107 hX (fun x11 hX => ?_)
  refine am_iast (pc := 108) C (fun _ h => ⟨rfl, h⟩) d_Mo_findFirsts_108 hX (fun w12 hX => ?_)
  refine am_iinc (pc := 109) (y := (1 : Int32)) (lo1 := [some (.ref v0), some (.int v1), some (.int v2), some (.int (v3 + (1 : Int32))), none]) C d_Mo_findFirsts_109 rfl (by decide) (by decide) rfl ?_
  refine am_goto (pc := 112) (tgt := 41) C d_Mo_findFirsts_112 rfl ?_
  exact (hk41 v0 v1 v2 (v3 + (1 : Int32)) w12 hX)
def s_Mo_findFirsts_41 (k23 : Nat → Int32 → am_w → Option (Int32 × am_w)) (k31 : Nat → Int32 → Int32 → am_w → Option (Int32 × am_w)) (k41 : Nat → Int32 → Int32 → Int32 → am_w → Option (Int32 × am_w)) (v0 : Nat) (v1 : Int32) (v2 : Int32) (v3 : Int32) (w : am_w) : Option (Int32 × am_w) := ((am_fg 7 4 v0 w).bind fun x2 => (if x2 ≤ v3 then (k31 v0 v1 (v2 + (1 : Int32)) w) else ((am_rg 7 8 v0 w).bind fun b3 => ((am_ig b3 v3 w).bind fun x4 => ((am_rg 7 6 v0 w).bind fun b5 => ((am_ig b5 v3 w).bind fun x6 => ((am_rg 7 8 v0 w).bind fun b7 => ((am_rg 7 6 v0 w).bind fun b8 => ((am_ig b8 ((56 : Int32) + v2) w).bind fun x9 => (if ((x9 >>> (v3 &&& 31)) &&& (1 : Int32)) = (1 : Int32) then ((am_rg 7 8 v0 w).bind fun b13 => ((am_ig b13 v2 w).bind fun x14 => (if (x4 + x6) ≤ x14 then (s_Mo_findFirsts_102 k23 k31 k41 v0 v1 v2 v3 v2 b7 w) else ((am_is b7 v2 (x4 + x6) w).bind fun w15 => (k41 v0 v1 v2 (v3 + (1 : Int32)) w15))))) else (s_Mo_findFirsts_102 k23 k31 k41 v0 v1 v2 v3 v2 b7 w)))))))))))
def f_Mo_findFirsts_41 (k23 : Nat → Int32 → am_w → Option (Int32 × am_w)) (k31 : Nat → Int32 → Int32 → am_w → Option (Int32 × am_w)) (n : Nat) : Nat → Int32 → Int32 → Int32 → am_w → Option (Int32 × am_w) := am_it (fun _ _ _ _ _ => none) (s_Mo_findFirsts_41 k23 k31) n
set_option maxHeartbeats 4000000 in
theorem L_Mo_findFirsts_41 {p : Program} {l : Launch} {e : Env} {s : State} {m : MethodId} {args : Array Value} {below : List Frame} {meth : Method} {c : Code} {D : va_G} {A : Nat → Prop} {r : Int32 × am_w} (C : am_C p m c b_Mo_findFirsts 5 s args am_W "RoverMinutesModel" D classes A) (hret : meth.sig.returnType = none) (hlk : meth.locks = false) {k23 : Nat → Int32 → am_w → Option (Int32 × am_w)} {k31 : Nat → Int32 → Int32 → am_w → Option (Int32 × am_w)} (hk23 : ∀ (v0 : Nat) (v1 : Int32) (w : am_w), k23 v0 v1 w = some r → am_V p l e rm_Mo_findFirsts s m args below meth c D classes tys A (am_F A true) 5 0 0 (MQ below (am_Q D classes tys A (am_F A true) (am_rv r)) args s 0 0 (am_F A true)) 23 [some (.ref v0), some (.int v1), none, none, none] [] w) (hk31 : ∀ (v0 : Nat) (v1 : Int32) (v2 : Int32) (w : am_w), k31 v0 v1 v2 w = some r → am_V p l e rm_Mo_findFirsts s m args below meth c D classes tys A (am_F A true) 5 0 0 (MQ below (am_Q D classes tys A (am_F A true) (am_rv r)) args s 0 0 (am_F A true)) 31 [some (.ref v0), some (.int v1), some (.int v2), none, none] [] w) (n : Nat) : ∀ (v0 : Nat) (v1 : Int32) (v2 : Int32) (v3 : Int32) (w : am_w), f_Mo_findFirsts_41 k23 k31 n v0 v1 v2 v3 w = some r → am_V p l e rm_Mo_findFirsts s m args below meth c D classes tys A (am_F A true) 5 0 0 (MQ below (am_Q D classes tys A (am_F A true) (am_rv r)) args s 0 0 (am_F A true)) 41 [some (.ref v0), some (.int v1), some (.int v2), some (.int v3), none] [] w := by
  refine am_it_ind (P := fun (t : Nat → Int32 → Int32 → Int32 → am_w → Option (Int32 × am_w)) => ∀ (v0 : Nat) (v1 : Int32) (v2 : Int32) (v3 : Int32) (w : am_w), t v0 v1 v2 v3 w = some r → am_V p l e rm_Mo_findFirsts s m args below meth c D classes tys A (am_F A true) 5 0 0 (MQ below (am_Q D classes tys A (am_F A true) (am_rv r)) args s 0 0 (am_F A true)) 41 [some (.ref v0), some (.int v1), some (.int v2), some (.int v3), none] [] w) ?_ ?_ n
  · intro v0 v1 v2 v3 w hX
    exact (am_nn hX).elim
  · intro k41 hk41 v0 v1 v2 v3 w hX
    unfold s_Mo_findFirsts_41 at hX
    refine am_iload_n (pc := 41) C d_Mo_findFirsts_41 rfl rfl ?_
    refine am_aload_n (pc := 42) C d_Mo_findFirsts_42 rfl rfl ?_
    refine am_get (pc := 43) C hin_Mo rfl (by decide) wd_4_104 rfl d_Mo_findFirsts_43 rfl hX (fun x2 hX => ?_)
    refine am_icmp_ge (pc := 46) (tgt := 115) C d_Mo_findFirsts_46 rfl hX (fun hX => ?_) (fun hX => ?_)
    · skip
      refine am_iinc (pc := 115) (y := (1 : Int32)) (lo1 := [some (.ref v0), some (.int v1), some (.int (v2 + (1 : Int32))), some (.int v3), none]) C d_Mo_findFirsts_115 rfl (by decide) (by decide) rfl ?_
      refine am_goto (pc := 118) (tgt := 31) C d_Mo_findFirsts_118 rfl ?_
      exact am_sub (am_le_s (am_le_s (am_le_s (am_le_n (am_le_n (am_le_0)))))) (hk31 v0 v1 (v2 + (1 : Int32)) w hX)
    · skip
      refine am_aload_n (pc := 49) C d_Mo_findFirsts_49 rfl rfl ?_
      refine am_getr (pc := 50) C hin_Mo rfl (by decide) wd_4_108 rfl d_Mo_findFirsts_50 rfl hX (fun b3 hX => ?_)
      refine am_iload_n (pc := 53) C d_Mo_findFirsts_53 rfl rfl ?_
      refine am_iald (pc := 54) C d_Mo_findFirsts_54 hX (fun x4 hX => ?_)
      refine am_aload_n (pc := 55) C d_Mo_findFirsts_55 rfl rfl ?_
      refine am_getr (pc := 56) C hin_Mo rfl (by decide) wd_4_106 rfl d_Mo_findFirsts_56 rfl hX (fun b5 hX => ?_)
      refine am_iload_n (pc := 59) C d_Mo_findFirsts_59 rfl rfl ?_
      refine am_iald (pc := 60) C d_Mo_findFirsts_60 hX (fun x6 hX => ?_)
      refine am_iadd (pc := 61) C d_Mo_findFirsts_61 ?_
      refine am_istore (pc := 62) (lo1 := [some (.ref v0), some (.int v1), some (.int v2), some (.int v3), some (.int (x4 + x6))]) C d_Mo_findFirsts_62 (by decide) rfl ?_
      refine am_aload_n (pc := 64) C d_Mo_findFirsts_64 rfl rfl ?_
      refine am_getr (pc := 65) C hin_Mo rfl (by decide) wd_4_108 rfl d_Mo_findFirsts_65 rfl hX (fun b7 hX => ?_)
      refine am_iload_n (pc := 68) C d_Mo_findFirsts_68 rfl rfl ?_
      refine am_aload_n (pc := 69) C d_Mo_findFirsts_69 rfl rfl ?_
      refine am_getr (pc := 70) C hin_Mo rfl (by decide) wd_4_106 rfl d_Mo_findFirsts_70 rfl hX (fun b8 hX => ?_)
      refine am_bipush (pc := 73) (v := (56 : Int32)) C d_Mo_findFirsts_73 (by decide) ?_
      refine am_iload_n (pc := 75) C d_Mo_findFirsts_75 rfl rfl ?_
      refine am_iadd (pc := 76) C d_Mo_findFirsts_76 ?_
      refine am_iald (pc := 77) C d_Mo_findFirsts_77 hX (fun x9 hX => ?_)
      refine am_iload_n (pc := 78) C d_Mo_findFirsts_78 rfl rfl ?_
      refine am_ishr (pc := 79) C d_Mo_findFirsts_79 ?_
      refine am_iconst (pc := 80) (v := (1 : Int32)) C d_Mo_findFirsts_80 (by decide) ?_
      refine am_iand (pc := 81) C d_Mo_findFirsts_81 ?_
      refine am_iconst (pc := 82) (v := (1 : Int32)) C d_Mo_findFirsts_82 (by decide) ?_
      refine am_icmp_ne (pc := 83) (tgt := 102) C d_Mo_findFirsts_83 rfl hX (fun hX => ?_) (fun hX => ?_)
      · skip
        exact am_sub (am_le_s (am_le_s (am_le_s (am_le_s (am_le_n (am_le_0)))))) (L_Mo_findFirsts_102 C hret hlk hk23 hk31 hk41 v0 v1 v2 v3 v2 b7 w hX)
      · skip
        refine am_iload (pc := 86) C d_Mo_findFirsts_86 rfl ?_
        refine am_aload_n (pc := 88) C d_Mo_findFirsts_88 rfl rfl ?_
        refine am_getr (pc := 89) C hin_Mo rfl (by decide) wd_4_108 rfl d_Mo_findFirsts_89 rfl hX (fun b13 hX => ?_)
        refine am_iload_n (pc := 92) C d_Mo_findFirsts_92 rfl rfl ?_
        refine am_iald (pc := 93) C d_Mo_findFirsts_93 hX (fun x14 hX => ?_)
        refine am_icmp_le (pc := 94) (tgt := 102) C d_Mo_findFirsts_94 rfl hX (fun hX => ?_) (fun hX => ?_)
        · skip
          exact am_sub (am_le_s (am_le_s (am_le_s (am_le_s (am_le_n (am_le_0)))))) (L_Mo_findFirsts_102 C hret hlk hk23 hk31 hk41 v0 v1 v2 v3 v2 b7 w hX)
        · skip
          refine am_iload (pc := 97) C d_Mo_findFirsts_97 rfl ?_
          refine am_goto (pc := 99) (tgt := 108) C d_Mo_findFirsts_99 rfl ?_
          refine am_iast (pc := 108) C (fun _ h => ⟨rfl, h⟩) d_Mo_findFirsts_108 hX (fun w15 hX => ?_)
          refine am_iinc (pc := 109) (y := (1 : Int32)) (lo1 := [some (.ref v0), some (.int v1), some (.int v2), some (.int (v3 + (1 : Int32))), some (.int (x4 + x6))]) C d_Mo_findFirsts_109 rfl (by decide) (by decide) rfl ?_
          refine am_goto (pc := 112) (tgt := 41) C d_Mo_findFirsts_112 rfl ?_
          exact am_sub (am_le_s (am_le_s (am_le_s (am_le_s (am_le_n (am_le_0)))))) (hk41 v0 v1 v2 (v3 + (1 : Int32)) w15 hX)
def s_Mo_findFirsts_31 (k23 : Nat → Int32 → am_w → Option (Int32 × am_w)) (k31 : Nat → Int32 → Int32 → am_w → Option (Int32 × am_w)) (v0 : Nat) (v1 : Int32) (v2 : Int32) (w : am_w) : Option (Int32 × am_w) := ((am_fg 7 4 v0 w).bind fun x1 => (if x1 ≤ v2 then (k23 v0 (v1 + (1 : Int32)) w) else (f_Mo_findFirsts_41 k23 k31 70 v0 v1 v2 (0 : Int32) w)))
def f_Mo_findFirsts_31 (k23 : Nat → Int32 → am_w → Option (Int32 × am_w)) (n : Nat) : Nat → Int32 → Int32 → am_w → Option (Int32 × am_w) := am_it (fun _ _ _ _ => none) (s_Mo_findFirsts_31 k23) n
set_option maxHeartbeats 4000000 in
theorem L_Mo_findFirsts_31 {p : Program} {l : Launch} {e : Env} {s : State} {m : MethodId} {args : Array Value} {below : List Frame} {meth : Method} {c : Code} {D : va_G} {A : Nat → Prop} {r : Int32 × am_w} (C : am_C p m c b_Mo_findFirsts 5 s args am_W "RoverMinutesModel" D classes A) (hret : meth.sig.returnType = none) (hlk : meth.locks = false) {k23 : Nat → Int32 → am_w → Option (Int32 × am_w)} (hk23 : ∀ (v0 : Nat) (v1 : Int32) (w : am_w), k23 v0 v1 w = some r → am_V p l e rm_Mo_findFirsts s m args below meth c D classes tys A (am_F A true) 5 0 0 (MQ below (am_Q D classes tys A (am_F A true) (am_rv r)) args s 0 0 (am_F A true)) 23 [some (.ref v0), some (.int v1), none, none, none] [] w) (n : Nat) : ∀ (v0 : Nat) (v1 : Int32) (v2 : Int32) (w : am_w), f_Mo_findFirsts_31 k23 n v0 v1 v2 w = some r → am_V p l e rm_Mo_findFirsts s m args below meth c D classes tys A (am_F A true) 5 0 0 (MQ below (am_Q D classes tys A (am_F A true) (am_rv r)) args s 0 0 (am_F A true)) 31 [some (.ref v0), some (.int v1), some (.int v2), none, none] [] w := by
  refine am_it_ind (P := fun (t : Nat → Int32 → Int32 → am_w → Option (Int32 × am_w)) => ∀ (v0 : Nat) (v1 : Int32) (v2 : Int32) (w : am_w), t v0 v1 v2 w = some r → am_V p l e rm_Mo_findFirsts s m args below meth c D classes tys A (am_F A true) 5 0 0 (MQ below (am_Q D classes tys A (am_F A true) (am_rv r)) args s 0 0 (am_F A true)) 31 [some (.ref v0), some (.int v1), some (.int v2), none, none] [] w) ?_ ?_ n
  · intro v0 v1 v2 w hX
    exact (am_nn hX).elim
  · intro k31 hk31 v0 v1 v2 w hX
    unfold s_Mo_findFirsts_31 at hX
    refine am_iload_n (pc := 31) C d_Mo_findFirsts_31 rfl rfl ?_
    refine am_aload_n (pc := 32) C d_Mo_findFirsts_32 rfl rfl ?_
    refine am_get (pc := 33) C hin_Mo rfl (by decide) wd_4_104 rfl d_Mo_findFirsts_33 rfl hX (fun x1 hX => ?_)
    refine am_icmp_ge (pc := 36) (tgt := 121) C d_Mo_findFirsts_36 rfl hX (fun hX => ?_) (fun hX => ?_)
    · skip
      refine am_iinc (pc := 121) (y := (1 : Int32)) (lo1 := [some (.ref v0), some (.int (v1 + (1 : Int32))), some (.int v2), none, none]) C d_Mo_findFirsts_121 rfl (by decide) (by decide) rfl ?_
      refine am_goto (pc := 124) (tgt := 23) C d_Mo_findFirsts_124 rfl ?_
      exact am_sub (am_le_s (am_le_s (am_le_n (am_le_n (am_le_n (am_le_0)))))) (hk23 v0 (v1 + (1 : Int32)) w hX)
    · skip
      refine am_iconst (pc := 39) (v := (0 : Int32)) C d_Mo_findFirsts_39 (by decide) ?_
      refine am_istore_n (pc := 40) (lo1 := [some (.ref v0), some (.int v1), some (.int v2), some (.int (0 : Int32)), none]) C d_Mo_findFirsts_40 rfl (by decide) rfl ?_
      exact (L_Mo_findFirsts_41 C hret hlk hk23 hk31 70 v0 v1 v2 (0 : Int32) w hX)
def s_Mo_findFirsts_23 (k23 : Nat → Int32 → am_w → Option (Int32 × am_w)) (v0 : Nat) (v1 : Int32) (w : am_w) : Option (Int32 × am_w) := (if (8 : Int32) ≤ v1 then (some (0, w)) else (f_Mo_findFirsts_31 k23 70 v0 v1 (0 : Int32) w))
def f_Mo_findFirsts_23  (n : Nat) : Nat → Int32 → am_w → Option (Int32 × am_w) := am_it (fun _ _ _ => none) (s_Mo_findFirsts_23 ) n
set_option maxHeartbeats 4000000 in
theorem L_Mo_findFirsts_23 {p : Program} {l : Launch} {e : Env} {s : State} {m : MethodId} {args : Array Value} {below : List Frame} {meth : Method} {c : Code} {D : va_G} {A : Nat → Prop} {r : Int32 × am_w} (C : am_C p m c b_Mo_findFirsts 5 s args am_W "RoverMinutesModel" D classes A) (hret : meth.sig.returnType = none) (hlk : meth.locks = false)   (n : Nat) : ∀ (v0 : Nat) (v1 : Int32) (w : am_w), f_Mo_findFirsts_23  n v0 v1 w = some r → am_V p l e rm_Mo_findFirsts s m args below meth c D classes tys A (am_F A true) 5 0 0 (MQ below (am_Q D classes tys A (am_F A true) (am_rv r)) args s 0 0 (am_F A true)) 23 [some (.ref v0), some (.int v1), none, none, none] [] w := by
  refine am_it_ind (P := fun (t : Nat → Int32 → am_w → Option (Int32 × am_w)) => ∀ (v0 : Nat) (v1 : Int32) (w : am_w), t v0 v1 w = some r → am_V p l e rm_Mo_findFirsts s m args below meth c D classes tys A (am_F A true) 5 0 0 (MQ below (am_Q D classes tys A (am_F A true) (am_rv r)) args s 0 0 (am_F A true)) 23 [some (.ref v0), some (.int v1), none, none, none] [] w) ?_ ?_ n
  · intro v0 v1 w hX
    exact (am_nn hX).elim
  · intro k23 hk23 v0 v1 w hX
    unfold s_Mo_findFirsts_23 at hX
    refine am_iload_n (pc := 23) C d_Mo_findFirsts_23 rfl rfl ?_
    refine am_bipush (pc := 24) (v := (8 : Int32)) C d_Mo_findFirsts_24 (by decide) ?_
    refine am_icmp_ge (pc := 26) (tgt := 127) C d_Mo_findFirsts_26 rfl hX (fun hX => ?_) (fun hX => ?_)
    · skip
      exact am_vret (pc := 127) C hret hlk d_Mo_findFirsts_127 (by decide) (by decide) hX
    · skip
      refine am_iconst (pc := 29) (v := (0 : Int32)) C d_Mo_findFirsts_29 (by decide) ?_
      refine am_istore_n (pc := 30) (lo1 := [some (.ref v0), some (.int v1), some (.int (0 : Int32)), none, none]) C d_Mo_findFirsts_30 rfl (by decide) rfl ?_
      exact (L_Mo_findFirsts_31 C hret hlk hk23 70 v0 v1 (0 : Int32) w hX)
def s_Mo_findFirsts_2 (k2 : Nat → Int32 → am_w → Option (Int32 × am_w)) (v0 : Nat) (v1 : Int32) (w : am_w) : Option (Int32 × am_w) := (if (8 : Int32) ≤ v1 then (f_Mo_findFirsts_23  70 v0 (0 : Int32) w) else ((am_rg 7 8 v0 w).bind fun b16 => ((am_is b16 v1 (0 : Int32) w).bind fun w17 => (k2 v0 (v1 + (1 : Int32)) w17))))
def f_Mo_findFirsts_2  (n : Nat) : Nat → Int32 → am_w → Option (Int32 × am_w) := am_it (fun _ _ _ => none) (s_Mo_findFirsts_2 ) n
set_option maxHeartbeats 4000000 in
theorem L_Mo_findFirsts_2 {p : Program} {l : Launch} {e : Env} {s : State} {m : MethodId} {args : Array Value} {below : List Frame} {meth : Method} {c : Code} {D : va_G} {A : Nat → Prop} {r : Int32 × am_w} (C : am_C p m c b_Mo_findFirsts 5 s args am_W "RoverMinutesModel" D classes A) (hret : meth.sig.returnType = none) (hlk : meth.locks = false)   (n : Nat) : ∀ (v0 : Nat) (v1 : Int32) (w : am_w), f_Mo_findFirsts_2  n v0 v1 w = some r → am_V p l e rm_Mo_findFirsts s m args below meth c D classes tys A (am_F A true) 5 0 0 (MQ below (am_Q D classes tys A (am_F A true) (am_rv r)) args s 0 0 (am_F A true)) 2 [some (.ref v0), some (.int v1), none, none, none] [] w := by
  refine am_it_ind (P := fun (t : Nat → Int32 → am_w → Option (Int32 × am_w)) => ∀ (v0 : Nat) (v1 : Int32) (w : am_w), t v0 v1 w = some r → am_V p l e rm_Mo_findFirsts s m args below meth c D classes tys A (am_F A true) 5 0 0 (MQ below (am_Q D classes tys A (am_F A true) (am_rv r)) args s 0 0 (am_F A true)) 2 [some (.ref v0), some (.int v1), none, none, none] [] w) ?_ ?_ n
  · intro v0 v1 w hX
    exact (am_nn hX).elim
  · intro k2 hk2 v0 v1 w hX
    unfold s_Mo_findFirsts_2 at hX
    refine am_iload_n (pc := 2) C d_Mo_findFirsts_2 rfl rfl ?_
    refine am_bipush (pc := 3) (v := (8 : Int32)) C d_Mo_findFirsts_3 (by decide) ?_
    refine am_icmp_ge (pc := 5) (tgt := 21) C d_Mo_findFirsts_5 rfl hX (fun hX => ?_) (fun hX => ?_)
    · skip
      refine am_iconst (pc := 21) (v := (0 : Int32)) C d_Mo_findFirsts_21 (by decide) ?_
      refine am_istore_n (pc := 22) (lo1 := [some (.ref v0), some (.int (0 : Int32)), none, none, none]) C d_Mo_findFirsts_22 rfl (by decide) rfl ?_
      exact (L_Mo_findFirsts_23 C hret hlk  70 v0 (0 : Int32) w hX)
    · skip
      refine am_aload_n (pc := 8) C d_Mo_findFirsts_8 rfl rfl ?_
      refine am_getr (pc := 9) C hin_Mo rfl (by decide) wd_4_108 rfl d_Mo_findFirsts_9 rfl hX (fun b16 hX => ?_)
      refine am_iload_n (pc := 12) C d_Mo_findFirsts_12 rfl rfl ?_
      refine am_iconst (pc := 13) (v := (0 : Int32)) C d_Mo_findFirsts_13 (by decide) ?_
      refine am_iast (pc := 14) C (fun _ h => ⟨rfl, h⟩) d_Mo_findFirsts_14 hX (fun w17 hX => ?_)
      refine am_iinc (pc := 15) (y := (1 : Int32)) (lo1 := [some (.ref v0), some (.int (v1 + (1 : Int32))), none, none, none]) C d_Mo_findFirsts_15 rfl (by decide) (by decide) rfl ?_
      refine am_goto (pc := 18) (tgt := 2) C d_Mo_findFirsts_18 rfl ?_
      exact (hk2 v0 (v1 + (1 : Int32)) w17 hX)
def f_Mo_findFirsts (a0 : Nat) (w : am_w) : Option (Int32 × am_w) := (f_Mo_findFirsts_2  70 a0 (0 : Int32) w)
theorem hd_Mo_findFirsts : y_Mo_findFirsts.cls = "RoverMinutesModel" ∧ y_Mo_findFirsts.cls ≠ "java/lang/invoke/MethodHandle" ∧ y_Mo_findFirsts.cls ≠ "java/lang/invoke/VarHandle" ∧ (parseMethodDescriptor y_Mo_findFirsts.desc).map (fun d => d.parameters.length) = some 0 := ⟨rfl, by decide, by decide, by decide +kernel⟩
set_option maxHeartbeats 4000000 in
theorem c_Mo_findFirsts {l : Launch} {D : va_G} {A : Nat → Prop} {a0 : Nat} {w : am_w} {r : Int32 × am_w} (hX : f_Mo_findFirsts a0 w = some r) : am_Met l D classes tys A (am_F A true) y_Mo_findFirsts (Cond.code y_Mo_findFirsts b_Mo_findFirsts 5 none :: am_W) rm_Mo_findFirsts [.ref a0] w (am_rv r) 0 0 := by
  refine am_ofV (by decide) am_W_good (Nat.le_of_ble_eq_true rfl) (by simp [Value.category]) ?_
  intro p e s m below meth c C hret hlk hnm
  unfold f_Mo_findFirsts at hX
  refine am_iconst (pc := 0) (v := (0 : Int32)) C d_Mo_findFirsts_0 (by decide) ?_
  refine am_istore_n (pc := 1) (lo1 := [some (.ref a0), some (.int (0 : Int32)), none, none, none]) C d_Mo_findFirsts_1 rfl (by decide) rfl ?_
  exact (L_Mo_findFirsts_2 C hret hlk  70 a0 (0 : Int32) w hX)
def rm_Mo_unfit : Room := { frames := 1, cells := 0, slots := 0, locals := 25 }
def s_Mo_unfit_75 (k75 : Nat → Int32 → am_w → Option (Int32 × am_w)) (v0 : Nat) (v1 : Int32) (w : am_w) : Option (Int32 × am_w) := ((am_fg 7 4 v0 w).bind fun x5 => (if x5 ≤ v1 then (some ((0 : Int32), w)) else ((am_rg 7 8 v0 w).bind fun b6 => ((am_ig b6 v1 w).bind fun x7 => ((am_rg 7 6 v0 w).bind fun b8 => ((am_ig b8 ((40 : Int32) + v1) w).bind fun x9 => (if x7 ≤ x9 then (k75 v0 (v1 + (1 : Int32)) w) else (some (((300 : Int32) + v1), w)))))))))
def f_Mo_unfit_75  (n : Nat) : Nat → Int32 → am_w → Option (Int32 × am_w) := am_it (fun _ _ _ => none) (s_Mo_unfit_75 ) n
set_option maxHeartbeats 4000000 in
theorem L_Mo_unfit_75 {p : Program} {l : Launch} {e : Env} {s : State} {m : MethodId} {args : Array Value} {below : List Frame} {meth : Method} {c : Code} {D : va_G} {A : Nat → Prop} {r : Int32 × am_w} (C : am_C p m c b_Mo_unfit 2 s args am_W "RoverMinutesModel" D classes A) (hret : meth.sig.returnType = (some .int)) (hlk : meth.locks = false)   (n : Nat) : ∀ (v0 : Nat) (v1 : Int32) (w : am_w), f_Mo_unfit_75  n v0 v1 w = some r → am_V p l e rm_Mo_unfit s m args below meth c D classes tys A (am_F A true) 2 0 0 (MQ below (am_Q D classes tys A (am_F A true) (am_ri r)) args s 0 0 (am_F A true)) 75 [some (.ref v0), some (.int v1)] [] w := by
  refine am_it_ind (P := fun (t : Nat → Int32 → am_w → Option (Int32 × am_w)) => ∀ (v0 : Nat) (v1 : Int32) (w : am_w), t v0 v1 w = some r → am_V p l e rm_Mo_unfit s m args below meth c D classes tys A (am_F A true) 2 0 0 (MQ below (am_Q D classes tys A (am_F A true) (am_ri r)) args s 0 0 (am_F A true)) 75 [some (.ref v0), some (.int v1)] [] w) ?_ ?_ n
  · intro v0 v1 w hX
    exact (am_nn hX).elim
  · intro k75 hk75 v0 v1 w hX
    unfold s_Mo_unfit_75 at hX
    refine am_iload_n (pc := 75) C d_Mo_unfit_75 rfl rfl ?_
    refine am_aload_n (pc := 76) C d_Mo_unfit_76 rfl rfl ?_
    refine am_get (pc := 77) C hin_Mo rfl (by decide) wd_4_104 rfl d_Mo_unfit_77 rfl hX (fun x5 hX => ?_)
    refine am_icmp_ge (pc := 80) (tgt := 113) C d_Mo_unfit_80 rfl hX (fun hX => ?_) (fun hX => ?_)
    · skip
      refine am_iconst (pc := 113) (v := (0 : Int32)) C d_Mo_unfit_113 (by decide) ?_
      exact am_iret (pc := 114) C hret hlk d_Mo_unfit_114 rfl (by decide) (by decide) hX
    · skip
      refine am_aload_n (pc := 83) C d_Mo_unfit_83 rfl rfl ?_
      refine am_getr (pc := 84) C hin_Mo rfl (by decide) wd_4_108 rfl d_Mo_unfit_84 rfl hX (fun b6 hX => ?_)
      refine am_iload_n (pc := 87) C d_Mo_unfit_87 rfl rfl ?_
      refine am_iald (pc := 88) C d_Mo_unfit_88 hX (fun x7 hX => ?_)
      refine am_aload_n (pc := 89) C d_Mo_unfit_89 rfl rfl ?_
      refine am_getr (pc := 90) C hin_Mo rfl (by decide) wd_4_106 rfl d_Mo_unfit_90 rfl hX (fun b8 hX => ?_)
      refine am_bipush (pc := 93) (v := (40 : Int32)) C d_Mo_unfit_93 (by decide) ?_
      refine am_iload_n (pc := 95) C d_Mo_unfit_95 rfl rfl ?_
      refine am_iadd (pc := 96) C d_Mo_unfit_96 ?_
      refine am_iald (pc := 97) C d_Mo_unfit_97 hX (fun x9 hX => ?_)
      refine am_icmp_le (pc := 98) (tgt := 107) C d_Mo_unfit_98 rfl hX (fun hX => ?_) (fun hX => ?_)
      · skip
        refine am_iinc (pc := 107) (y := (1 : Int32)) (lo1 := [some (.ref v0), some (.int (v1 + (1 : Int32)))]) C d_Mo_unfit_107 rfl (by decide) (by decide) rfl ?_
        refine am_goto (pc := 110) (tgt := 75) C d_Mo_unfit_110 rfl ?_
        exact (hk75 v0 (v1 + (1 : Int32)) w hX)
      · skip
        refine am_sipush (pc := 101) (v := (300 : Int32)) C d_Mo_unfit_101 (by decide) ?_
        refine am_iload_n (pc := 104) C d_Mo_unfit_104 rfl rfl ?_
        refine am_iadd (pc := 105) C d_Mo_unfit_105 ?_
        exact am_iret (pc := 106) C hret hlk d_Mo_unfit_106 rfl (by decide) (by decide) hX
def s_Mo_unfit_35 (k35 : Nat → Int32 → am_w → Option (Int32 × am_w)) (v0 : Nat) (v1 : Int32) (w : am_w) : Option (Int32 × am_w) := ((am_fg 7 4 v0 w).bind fun x3 => (if x3 ≤ v1 then ((am_ob 7 v0 w (f_Mo_findFirsts v0 w)).bind fun q4 => (f_Mo_unfit_75  70 v0 (0 : Int32) q4.2)) else ((am_rg 7 7 v0 w).bind fun b10 => ((am_ig b10 v1 w).bind fun x11 => (if ((x11 >>> (v1 &&& 31)) &&& (1 : Int32)) = (1 : Int32) then (some (((200 : Int32) + v1), w)) else (k35 v0 (v1 + (1 : Int32)) w))))))
def f_Mo_unfit_35  (n : Nat) : Nat → Int32 → am_w → Option (Int32 × am_w) := am_it (fun _ _ _ => none) (s_Mo_unfit_35 ) n
set_option maxHeartbeats 4000000 in
theorem L_Mo_unfit_35 {p : Program} {l : Launch} {e : Env} {s : State} {m : MethodId} {args : Array Value} {below : List Frame} {meth : Method} {c : Code} {D : va_G} {A : Nat → Prop} {r : Int32 × am_w} (C : am_C p m c b_Mo_unfit 2 s args am_W "RoverMinutesModel" D classes A) (hret : meth.sig.returnType = (some .int)) (hlk : meth.locks = false)   (n : Nat) : ∀ (v0 : Nat) (v1 : Int32) (w : am_w), f_Mo_unfit_35  n v0 v1 w = some r → am_V p l e rm_Mo_unfit s m args below meth c D classes tys A (am_F A true) 2 0 0 (MQ below (am_Q D classes tys A (am_F A true) (am_ri r)) args s 0 0 (am_F A true)) 35 [some (.ref v0), some (.int v1)] [] w := by
  refine am_it_ind (P := fun (t : Nat → Int32 → am_w → Option (Int32 × am_w)) => ∀ (v0 : Nat) (v1 : Int32) (w : am_w), t v0 v1 w = some r → am_V p l e rm_Mo_unfit s m args below meth c D classes tys A (am_F A true) 2 0 0 (MQ below (am_Q D classes tys A (am_F A true) (am_ri r)) args s 0 0 (am_F A true)) 35 [some (.ref v0), some (.int v1)] [] w) ?_ ?_ n
  · intro v0 v1 w hX
    exact (am_nn hX).elim
  · intro k35 hk35 v0 v1 w hX
    unfold s_Mo_unfit_35 at hX
    refine am_iload_n (pc := 35) C d_Mo_unfit_35 rfl rfl ?_
    refine am_aload_n (pc := 36) C d_Mo_unfit_36 rfl rfl ?_
    refine am_get (pc := 37) C hin_Mo rfl (by decide) wd_4_104 rfl d_Mo_unfit_37 rfl hX (fun x3 hX => ?_)
    refine am_icmp_ge (pc := 40) (tgt := 69) C d_Mo_unfit_40 rfl hX (fun hX => ?_) (fun hX => ?_)
    · skip
      refine am_aload_n (pc := 69) C d_Mo_unfit_69 rfl rfl ?_
      refine am_callVv (pc := 70) (As := []) (st := []) (cells1 := 0) (slots1 := 0) C (fun _ h => h.2) (fun _ h => h) (fun q h => c_Mo_findFirsts h) wd_5_13 wd_5_15 ws_Mo_findFirsts wd_1_9 wd_5_16 rfl rfl hd_Mo_findFirsts ⟨by decide, by decide⟩ rfl rfl (Nat.le_of_ble_eq_true rfl) d_Mo_unfit_70 ⟨by decide, by decide⟩ rfl rfl rfl hX (fun q4 hX => ?_)
      refine am_iconst (pc := 73) (v := (0 : Int32)) C d_Mo_unfit_73 (by decide) ?_
      refine am_istore_n (pc := 74) (lo1 := [some (.ref v0), some (.int (0 : Int32))]) C d_Mo_unfit_74 rfl (by decide) rfl ?_
      exact (L_Mo_unfit_75 C hret hlk  70 v0 (0 : Int32) q4.2 hX)
    · skip
      refine am_aload_n (pc := 43) C d_Mo_unfit_43 rfl rfl ?_
      refine am_getr (pc := 44) C hin_Mo rfl (by decide) wd_4_107 rfl d_Mo_unfit_44 rfl hX (fun b10 hX => ?_)
      refine am_iload_n (pc := 47) C d_Mo_unfit_47 rfl rfl ?_
      refine am_iald (pc := 48) C d_Mo_unfit_48 hX (fun x11 hX => ?_)
      refine am_iload_n (pc := 49) C d_Mo_unfit_49 rfl rfl ?_
      refine am_ishr (pc := 50) C d_Mo_unfit_50 ?_
      refine am_iconst (pc := 51) (v := (1 : Int32)) C d_Mo_unfit_51 (by decide) ?_
      refine am_iand (pc := 52) C d_Mo_unfit_52 ?_
      refine am_iconst (pc := 53) (v := (1 : Int32)) C d_Mo_unfit_53 (by decide) ?_
      refine am_icmp_ne (pc := 54) (tgt := 63) C d_Mo_unfit_54 rfl hX (fun hX => ?_) (fun hX => ?_)
      · skip
        refine am_iinc (pc := 63) (y := (1 : Int32)) (lo1 := [some (.ref v0), some (.int (v1 + (1 : Int32)))]) C d_Mo_unfit_63 rfl (by decide) (by decide) rfl ?_
        refine am_goto (pc := 66) (tgt := 35) C d_Mo_unfit_66 rfl ?_
        exact (hk35 v0 (v1 + (1 : Int32)) w hX)
      · skip
        refine am_sipush (pc := 57) (v := (200 : Int32)) C d_Mo_unfit_57 (by decide) ?_
        refine am_iload_n (pc := 60) C d_Mo_unfit_60 rfl rfl ?_
        refine am_iadd (pc := 61) C d_Mo_unfit_61 ?_
        exact am_iret (pc := 62) C hret hlk d_Mo_unfit_62 rfl (by decide) (by decide) hX
def s_Mo_unfit_2 (k2 : Nat → Int32 → am_w → Option (Int32 × am_w)) (v0 : Nat) (v1 : Int32) (w : am_w) : Option (Int32 × am_w) := ((am_fg 7 4 v0 w).bind fun x1 => (if x1 ≤ v1 then ((am_ob 7 v0 w (f_Mo_findRings v0 w)).bind fun q2 => (f_Mo_unfit_35  70 v0 (0 : Int32) q2.2)) else ((am_ob 7 v0 w (f_Mo_isWrong v0 v1 w)).bind fun q12 => (if q12.1 = 0 then (k2 v0 (v1 + (1 : Int32)) q12.2) else (some (((100 : Int32) + v1), q12.2))))))
def f_Mo_unfit_2  (n : Nat) : Nat → Int32 → am_w → Option (Int32 × am_w) := am_it (fun _ _ _ => none) (s_Mo_unfit_2 ) n
set_option maxHeartbeats 4000000 in
theorem L_Mo_unfit_2 {p : Program} {l : Launch} {e : Env} {s : State} {m : MethodId} {args : Array Value} {below : List Frame} {meth : Method} {c : Code} {D : va_G} {A : Nat → Prop} {r : Int32 × am_w} (C : am_C p m c b_Mo_unfit 2 s args am_W "RoverMinutesModel" D classes A) (hret : meth.sig.returnType = (some .int)) (hlk : meth.locks = false)   (n : Nat) : ∀ (v0 : Nat) (v1 : Int32) (w : am_w), f_Mo_unfit_2  n v0 v1 w = some r → am_V p l e rm_Mo_unfit s m args below meth c D classes tys A (am_F A true) 2 0 0 (MQ below (am_Q D classes tys A (am_F A true) (am_ri r)) args s 0 0 (am_F A true)) 2 [some (.ref v0), some (.int v1)] [] w := by
  refine am_it_ind (P := fun (t : Nat → Int32 → am_w → Option (Int32 × am_w)) => ∀ (v0 : Nat) (v1 : Int32) (w : am_w), t v0 v1 w = some r → am_V p l e rm_Mo_unfit s m args below meth c D classes tys A (am_F A true) 2 0 0 (MQ below (am_Q D classes tys A (am_F A true) (am_ri r)) args s 0 0 (am_F A true)) 2 [some (.ref v0), some (.int v1)] [] w) ?_ ?_ n
  · intro v0 v1 w hX
    exact (am_nn hX).elim
  · intro k2 hk2 v0 v1 w hX
    unfold s_Mo_unfit_2 at hX
    refine am_iload_n (pc := 2) C d_Mo_unfit_2 rfl rfl ?_
    refine am_aload_n (pc := 3) C d_Mo_unfit_3 rfl rfl ?_
    refine am_get (pc := 4) C hin_Mo rfl (by decide) wd_4_104 rfl d_Mo_unfit_4 rfl hX (fun x1 hX => ?_)
    refine am_icmp_ge (pc := 7) (tgt := 29) C d_Mo_unfit_7 rfl hX (fun hX => ?_) (fun hX => ?_)
    · skip
      refine am_aload_n (pc := 29) C d_Mo_unfit_29 rfl rfl ?_
      refine am_callVv (pc := 30) (As := []) (st := []) (cells1 := 0) (slots1 := 0) C (fun _ h => h.2) (fun _ h => h) (fun q h => c_Mo_findRings h) wd_5_9 wd_5_11 ws_Mo_findRings wd_1_9 wd_5_12 rfl rfl hd_Mo_findRings ⟨by decide, by decide⟩ rfl rfl (Nat.le_of_ble_eq_true rfl) d_Mo_unfit_30 ⟨by decide, by decide⟩ rfl rfl rfl hX (fun q2 hX => ?_)
      refine am_iconst (pc := 33) (v := (0 : Int32)) C d_Mo_unfit_33 (by decide) ?_
      refine am_istore_n (pc := 34) (lo1 := [some (.ref v0), some (.int (0 : Int32))]) C d_Mo_unfit_34 rfl (by decide) rfl ?_
      exact (L_Mo_unfit_35 C hret hlk  70 v0 (0 : Int32) q2.2 hX)
    · skip
      refine am_aload_n (pc := 10) C d_Mo_unfit_10 rfl rfl ?_
      refine am_iload_n (pc := 11) C d_Mo_unfit_11 rfl rfl ?_
      refine am_callVi (pc := 12) (As := [.int v1]) (st := []) (cells1 := 0) (slots1 := 0) C (fun _ h => h.2) (fun _ h => by cases h.1) (fun q h => c_Mo_isWrong h) wd_5_5 wd_5_7 ws_Mo_isWrong wd_1_9 wd_5_8 rfl rfl hd_Mo_isWrong ⟨by decide, by decide⟩ rfl rfl (Nat.le_of_ble_eq_true rfl) d_Mo_unfit_12 ⟨by decide, by decide⟩ rfl rfl rfl hX (fun q12 hX => ?_)
      refine am_if_eq (pc := 15) (tgt := 23) C d_Mo_unfit_15 rfl hX (fun hX => ?_) (fun hX => ?_)
      · skip
        refine am_iinc (pc := 23) (y := (1 : Int32)) (lo1 := [some (.ref v0), some (.int (v1 + (1 : Int32)))]) C d_Mo_unfit_23 rfl (by decide) (by decide) rfl ?_
        refine am_goto (pc := 26) (tgt := 2) C d_Mo_unfit_26 rfl ?_
        exact (hk2 v0 (v1 + (1 : Int32)) q12.2 hX)
      · skip
        refine am_bipush (pc := 18) (v := (100 : Int32)) C d_Mo_unfit_18 (by decide) ?_
        refine am_iload_n (pc := 20) C d_Mo_unfit_20 rfl rfl ?_
        refine am_iadd (pc := 21) C d_Mo_unfit_21 ?_
        exact am_iret (pc := 22) C hret hlk d_Mo_unfit_22 rfl (by decide) (by decide) hX
def f_Mo_unfit (a0 : Nat) (w : am_w) : Option (Int32 × am_w) := (f_Mo_unfit_2  70 a0 (0 : Int32) w)
theorem hd_Mo_unfit : y_Mo_unfit.cls = "RoverMinutesModel" ∧ y_Mo_unfit.cls ≠ "java/lang/invoke/MethodHandle" ∧ y_Mo_unfit.cls ≠ "java/lang/invoke/VarHandle" ∧ (parseMethodDescriptor y_Mo_unfit.desc).map (fun d => d.parameters.length) = some 0 := ⟨rfl, by decide, by decide, by decide +kernel⟩
set_option maxHeartbeats 4000000 in
theorem c_Mo_unfit {l : Launch} {D : va_G} {A : Nat → Prop} {a0 : Nat} {w : am_w} {r : Int32 × am_w} (hX : f_Mo_unfit a0 w = some r) : am_Met l D classes tys A (am_F A true) y_Mo_unfit (Cond.code y_Mo_unfit b_Mo_unfit 2 (some .int) :: am_W) rm_Mo_unfit [.ref a0] w (am_ri r) 0 0 := by
  refine am_ofV (by decide) am_W_good (Nat.le_of_ble_eq_true rfl) (by simp [Value.category]) ?_
  intro p e s m below meth c C hret hlk hnm
  unfold f_Mo_unfit at hX
  refine am_iconst (pc := 0) (v := (0 : Int32)) C d_Mo_unfit_0 (by decide) ?_
  refine am_istore_n (pc := 1) (lo1 := [some (.ref a0), some (.int (0 : Int32))]) C d_Mo_unfit_1 rfl (by decide) rfl ?_
  exact (L_Mo_unfit_2 C hret hlk  70 a0 (0 : Int32) w hX)
def rm_Mo_rest : Room := { frames := 0, cells := 0, slots := 0, locals := 0 }
def s_Mo_rest_2 (k2 : Nat → Int32 → am_w → Option (Int32 × am_w)) (v0 : Nat) (v1 : Int32) (w : am_w) : Option (Int32 × am_w) := ((am_fg 7 9 v0 w).bind fun x1 => (if x1 ≤ v1 then (some (0, w)) else ((am_rg 7 12 v0 w).bind fun b2 => ((am_is b2 v1 (0 : Int32) w).bind fun w3 => ((am_rg 7 13 v0 w3).bind fun b4 => ((am_is b4 v1 (-1 : Int32) w3).bind fun w5 => ((am_rg 7 14 v0 w5).bind fun b6 => ((am_is b6 v1 (0 : Int32) w5).bind fun w7 => ((am_rg 7 15 v0 w7).bind fun b8 => ((am_rg 7 10 v0 w7).bind fun b9 => ((am_ig b9 ((48 : Int32) + v1) w7).bind fun x10 => ((am_is b8 v1 x10 w7).bind fun w11 => ((am_rg 7 16 v0 w11).bind fun b12 => ((am_is b12 v1 (0 : Int32) w11).bind fun w13 => (k2 v0 (v1 + (1 : Int32)) w13)))))))))))))))
def f_Mo_rest_2  (n : Nat) : Nat → Int32 → am_w → Option (Int32 × am_w) := am_it (fun _ _ _ => none) (s_Mo_rest_2 ) n
set_option maxHeartbeats 4000000 in
theorem L_Mo_rest_2 {p : Program} {l : Launch} {e : Env} {s : State} {m : MethodId} {args : Array Value} {below : List Frame} {meth : Method} {c : Code} {D : va_G} {A : Nat → Prop} {r : Int32 × am_w} (C : am_C p m c b_Mo_rest 2 s args am_W "RoverMinutesModel" D classes A) (hret : meth.sig.returnType = none) (hlk : meth.locks = false)   (n : Nat) : ∀ (v0 : Nat) (v1 : Int32) (w : am_w), f_Mo_rest_2  n v0 v1 w = some r → am_V p l e rm_Mo_rest s m args below meth c D classes tys A (am_F A true) 2 0 0 (MQ below (am_Q D classes tys A (am_F A true) (am_rv r)) args s 0 0 (am_F A true)) 2 [some (.ref v0), some (.int v1)] [] w := by
  refine am_it_ind (P := fun (t : Nat → Int32 → am_w → Option (Int32 × am_w)) => ∀ (v0 : Nat) (v1 : Int32) (w : am_w), t v0 v1 w = some r → am_V p l e rm_Mo_rest s m args below meth c D classes tys A (am_F A true) 2 0 0 (MQ below (am_Q D classes tys A (am_F A true) (am_rv r)) args s 0 0 (am_F A true)) 2 [some (.ref v0), some (.int v1)] [] w) ?_ ?_ n
  · intro v0 v1 w hX
    exact (am_nn hX).elim
  · intro k2 hk2 v0 v1 w hX
    unfold s_Mo_rest_2 at hX
    refine am_iload_n (pc := 2) C d_Mo_rest_2 rfl rfl ?_
    refine am_aload_n (pc := 3) C d_Mo_rest_3 rfl rfl ?_
    refine am_get (pc := 4) C hin_Mo rfl (by decide) wd_4_109 rfl d_Mo_rest_4 rfl hX (fun x1 hX => ?_)
    refine am_icmp_ge (pc := 7) (tgt := 59) C d_Mo_rest_7 rfl hX (fun hX => ?_) (fun hX => ?_)
    · skip
      exact am_vret (pc := 59) C hret hlk d_Mo_rest_59 (by decide) (by decide) hX
    · skip
      refine am_aload_n (pc := 10) C d_Mo_rest_10 rfl rfl ?_
      refine am_getr (pc := 11) C hin_Mo rfl (by decide) wd_4_112 rfl d_Mo_rest_11 rfl hX (fun b2 hX => ?_)
      refine am_iload_n (pc := 14) C d_Mo_rest_14 rfl rfl ?_
      refine am_iconst (pc := 15) (v := (0 : Int32)) C d_Mo_rest_15 (by decide) ?_
      refine am_iast (pc := 16) C (fun _ h => ⟨rfl, h⟩) d_Mo_rest_16 hX (fun w3 hX => ?_)
      refine am_aload_n (pc := 17) C d_Mo_rest_17 rfl rfl ?_
      refine am_getr (pc := 18) C hin_Mo rfl (by decide) wd_4_113 rfl d_Mo_rest_18 rfl hX (fun b4 hX => ?_)
      refine am_iload_n (pc := 21) C d_Mo_rest_21 rfl rfl ?_
      refine am_iconst (pc := 22) (v := (-1 : Int32)) C d_Mo_rest_22 (by decide) ?_
      refine am_iast (pc := 23) C (fun _ h => ⟨rfl, h⟩) d_Mo_rest_23 hX (fun w5 hX => ?_)
      refine am_aload_n (pc := 24) C d_Mo_rest_24 rfl rfl ?_
      refine am_getr (pc := 25) C hin_Mo rfl (by decide) wd_4_114 rfl d_Mo_rest_25 rfl hX (fun b6 hX => ?_)
      refine am_iload_n (pc := 28) C d_Mo_rest_28 rfl rfl ?_
      refine am_iconst (pc := 29) (v := (0 : Int32)) C d_Mo_rest_29 (by decide) ?_
      refine am_iast (pc := 30) C (fun _ h => ⟨rfl, h⟩) d_Mo_rest_30 hX (fun w7 hX => ?_)
      refine am_aload_n (pc := 31) C d_Mo_rest_31 rfl rfl ?_
      refine am_getr (pc := 32) C hin_Mo rfl (by decide) wd_4_115 rfl d_Mo_rest_32 rfl hX (fun b8 hX => ?_)
      refine am_iload_n (pc := 35) C d_Mo_rest_35 rfl rfl ?_
      refine am_aload_n (pc := 36) C d_Mo_rest_36 rfl rfl ?_
      refine am_getr (pc := 37) C hin_Mo rfl (by decide) wd_4_110 rfl d_Mo_rest_37 rfl hX (fun b9 hX => ?_)
      refine am_bipush (pc := 40) (v := (48 : Int32)) C d_Mo_rest_40 (by decide) ?_
      refine am_iload_n (pc := 42) C d_Mo_rest_42 rfl rfl ?_
      refine am_iadd (pc := 43) C d_Mo_rest_43 ?_
      refine am_iald (pc := 44) C d_Mo_rest_44 hX (fun x10 hX => ?_)
      refine am_iast (pc := 45) C (fun _ h => ⟨rfl, h⟩) d_Mo_rest_45 hX (fun w11 hX => ?_)
      refine am_aload_n (pc := 46) C d_Mo_rest_46 rfl rfl ?_
      refine am_getr (pc := 47) C hin_Mo rfl (by decide) wd_4_116 rfl d_Mo_rest_47 rfl hX (fun b12 hX => ?_)
      refine am_iload_n (pc := 50) C d_Mo_rest_50 rfl rfl ?_
      refine am_iconst (pc := 51) (v := (0 : Int32)) C d_Mo_rest_51 (by decide) ?_
      refine am_iast (pc := 52) C (fun _ h => ⟨rfl, h⟩) d_Mo_rest_52 hX (fun w13 hX => ?_)
      refine am_iinc (pc := 53) (y := (1 : Int32)) (lo1 := [some (.ref v0), some (.int (v1 + (1 : Int32)))]) C d_Mo_rest_53 rfl (by decide) (by decide) rfl ?_
      refine am_goto (pc := 56) (tgt := 2) C d_Mo_rest_56 rfl ?_
      exact (hk2 v0 (v1 + (1 : Int32)) w13 hX)
def f_Mo_rest (a0 : Nat) (w : am_w) : Option (Int32 × am_w) := (f_Mo_rest_2  70 a0 (0 : Int32) w)
theorem hd_Mo_rest : y_Mo_rest.cls = "RoverMinutesModel" ∧ y_Mo_rest.cls ≠ "java/lang/invoke/MethodHandle" ∧ y_Mo_rest.cls ≠ "java/lang/invoke/VarHandle" ∧ (parseMethodDescriptor y_Mo_rest.desc).map (fun d => d.parameters.length) = some 0 := ⟨rfl, by decide, by decide, by decide +kernel⟩
set_option maxHeartbeats 4000000 in
theorem c_Mo_rest {l : Launch} {D : va_G} {A : Nat → Prop} {a0 : Nat} {w : am_w} {r : Int32 × am_w} (hX : f_Mo_rest a0 w = some r) : am_Met l D classes tys A (am_F A true) y_Mo_rest (Cond.code y_Mo_rest b_Mo_rest 2 none :: am_W) rm_Mo_rest [.ref a0] w (am_rv r) 0 0 := by
  refine am_ofV (by decide) am_W_good (Nat.le_of_ble_eq_true rfl) (by simp [Value.category]) ?_
  intro p e s m below meth c C hret hlk hnm
  unfold f_Mo_rest at hX
  refine am_iconst (pc := 0) (v := (0 : Int32)) C d_Mo_rest_0 (by decide) ?_
  refine am_istore_n (pc := 1) (lo1 := [some (.ref a0), some (.int (0 : Int32))]) C d_Mo_rest_1 rfl (by decide) rfl ?_
  exact (L_Mo_rest_2 C hret hlk  70 a0 (0 : Int32) w hX)
def rm_Mo_submit : Room := { frames := 7, cells := 0, slots := 0, locals := 148 }
def s_Mo_submit_92 (k92 : Nat → Int32 → am_w → Option (Int32 × am_w)) (v0 : Nat) (v3 : Int32) (w : am_w) : Option (Int32 × am_w) := (if (8 : Int32) ≤ v3 then ((am_ob 7 v0 w (f_Mo_rest v0 w)).bind fun q8 => (some ((0 : Int32), q8.2))) else ((am_rg 7 11 v0 w).bind fun b9 => ((am_rg 7 8 v0 w).bind fun b10 => ((am_ig b10 v3 w).bind fun x11 => ((am_is b9 v3 x11 w).bind fun w12 => ((am_rg 7 19 v0 w12).bind fun b13 => ((am_is b13 v3 (-1 : Int32) w12).bind fun w14 => ((am_rg 7 20 v0 w14).bind fun b15 => ((am_is b15 v3 (-1 : Int32) w14).bind fun w16 => (k92 v0 (v3 + (1 : Int32)) w16))))))))))
def f_Mo_submit_92  (n : Nat) : Nat → Int32 → am_w → Option (Int32 × am_w) := am_it (fun _ _ _ => none) (s_Mo_submit_92 ) n
set_option maxHeartbeats 4000000 in
theorem L_Mo_submit_92 {p : Program} {l : Launch} {e : Env} {s : State} {m : MethodId} {args : Array Value} {below : List Frame} {meth : Method} {c : Code} {D : va_G} {A : Nat → Prop} {r : Int32 × am_w} (C : am_C p m c b_Mo_submit 4 s args am_W "RoverMinutesModel" D classes A) (hret : meth.sig.returnType = (some .int)) (hlk : meth.locks = false)   (n : Nat) : ∀ (v0 : Nat) (v3 : Int32) (w : am_w), f_Mo_submit_92  n v0 v3 w = some r → am_V p l e rm_Mo_submit s m args below meth c D classes tys A (am_F A true) 4 0 0 (MQ below (am_Q D classes tys A (am_F A true) (am_ri r)) args s 0 0 (am_F A true)) 92 [some (.ref v0), none, none, some (.int v3)] [] w := by
  refine am_it_ind (P := fun (t : Nat → Int32 → am_w → Option (Int32 × am_w)) => ∀ (v0 : Nat) (v3 : Int32) (w : am_w), t v0 v3 w = some r → am_V p l e rm_Mo_submit s m args below meth c D classes tys A (am_F A true) 4 0 0 (MQ below (am_Q D classes tys A (am_F A true) (am_ri r)) args s 0 0 (am_F A true)) 92 [some (.ref v0), none, none, some (.int v3)] [] w) ?_ ?_ n
  · intro v0 v3 w hX
    exact (am_nn hX).elim
  · intro k92 hk92 v0 v3 w hX
    unfold s_Mo_submit_92 at hX
    refine am_iload_n (pc := 92) C d_Mo_submit_92 rfl rfl ?_
    refine am_bipush (pc := 93) (v := (8 : Int32)) C d_Mo_submit_93 (by decide) ?_
    refine am_icmp_ge (pc := 95) (tgt := 130) C d_Mo_submit_95 rfl hX (fun hX => ?_) (fun hX => ?_)
    · skip
      refine am_aload_n (pc := 130) C d_Mo_submit_130 rfl rfl ?_
      refine am_callVv (pc := 131) (As := []) (st := []) (cells1 := 0) (slots1 := 0) C (fun _ h => h.2) (fun _ h => h) (fun q h => c_Mo_rest h) wd_5_17 wd_5_19 ws_Mo_rest wd_1_9 wd_5_20 rfl rfl hd_Mo_rest ⟨by decide, by decide⟩ rfl rfl (Nat.le_of_ble_eq_true rfl) d_Mo_submit_131 ⟨by decide, by decide⟩ rfl rfl rfl hX (fun q8 hX => ?_)
      refine am_iconst (pc := 134) (v := (0 : Int32)) C d_Mo_submit_134 (by decide) ?_
      exact am_iret (pc := 135) C hret hlk d_Mo_submit_135 rfl (by decide) (by decide) hX
    · skip
      refine am_aload_n (pc := 98) C d_Mo_submit_98 rfl rfl ?_
      refine am_getr (pc := 99) C hin_Mo rfl (by decide) wd_4_111 rfl d_Mo_submit_99 rfl hX (fun b9 hX => ?_)
      refine am_iload_n (pc := 102) C d_Mo_submit_102 rfl rfl ?_
      refine am_aload_n (pc := 103) C d_Mo_submit_103 rfl rfl ?_
      refine am_getr (pc := 104) C hin_Mo rfl (by decide) wd_4_108 rfl d_Mo_submit_104 rfl hX (fun b10 hX => ?_)
      refine am_iload_n (pc := 107) C d_Mo_submit_107 rfl rfl ?_
      refine am_iald (pc := 108) C d_Mo_submit_108 hX (fun x11 hX => ?_)
      refine am_iast (pc := 109) C (fun _ h => ⟨rfl, h⟩) d_Mo_submit_109 hX (fun w12 hX => ?_)
      refine am_aload_n (pc := 110) C d_Mo_submit_110 rfl rfl ?_
      refine am_getr (pc := 111) C hin_Mo rfl (by decide) wd_4_119 rfl d_Mo_submit_111 rfl hX (fun b13 hX => ?_)
      refine am_iload_n (pc := 114) C d_Mo_submit_114 rfl rfl ?_
      refine am_iconst (pc := 115) (v := (-1 : Int32)) C d_Mo_submit_115 (by decide) ?_
      refine am_iast (pc := 116) C (fun _ h => ⟨rfl, h⟩) d_Mo_submit_116 hX (fun w14 hX => ?_)
      refine am_aload_n (pc := 117) C d_Mo_submit_117 rfl rfl ?_
      refine am_getr (pc := 118) C hin_Mo rfl (by decide) wd_4_120 rfl d_Mo_submit_118 rfl hX (fun b15 hX => ?_)
      refine am_iload_n (pc := 121) C d_Mo_submit_121 rfl rfl ?_
      refine am_iconst (pc := 122) (v := (-1 : Int32)) C d_Mo_submit_122 (by decide) ?_
      refine am_iast (pc := 123) C (fun _ h => ⟨rfl, h⟩) d_Mo_submit_123 hX (fun w16 hX => ?_)
      refine am_iinc (pc := 124) (y := (1 : Int32)) (lo1 := [some (.ref v0), none, none, some (.int (v3 + (1 : Int32)))]) C d_Mo_submit_124 rfl (by decide) (by decide) rfl ?_
      refine am_goto (pc := 127) (tgt := 92) C d_Mo_submit_127 rfl ?_
      exact (hk92 v0 (v3 + (1 : Int32)) w16 hX)
def s_Mo_submit_66 (k66 : Nat → Int32 → am_w → Option (Int32 × am_w)) (v0 : Nat) (v3 : Int32) (w : am_w) : Option (Int32 × am_w) := (if (72 : Int32) ≤ v3 then (f_Mo_submit_92  70 v0 (0 : Int32) w) else ((am_rg 7 10 v0 w).bind fun b17 => ((am_rg 7 6 v0 w).bind fun b18 => ((am_ig b18 v3 w).bind fun x19 => ((am_is b17 v3 x19 w).bind fun w20 => (k66 v0 (v3 + (1 : Int32)) w20))))))
def f_Mo_submit_66  (n : Nat) : Nat → Int32 → am_w → Option (Int32 × am_w) := am_it (fun _ _ _ => none) (s_Mo_submit_66 ) n
set_option maxHeartbeats 4000000 in
theorem L_Mo_submit_66 {p : Program} {l : Launch} {e : Env} {s : State} {m : MethodId} {args : Array Value} {below : List Frame} {meth : Method} {c : Code} {D : va_G} {A : Nat → Prop} {r : Int32 × am_w} (C : am_C p m c b_Mo_submit 4 s args am_W "RoverMinutesModel" D classes A) (hret : meth.sig.returnType = (some .int)) (hlk : meth.locks = false)   (n : Nat) : ∀ (v0 : Nat) (v3 : Int32) (w : am_w), f_Mo_submit_66  n v0 v3 w = some r → am_V p l e rm_Mo_submit s m args below meth c D classes tys A (am_F A true) 4 0 0 (MQ below (am_Q D classes tys A (am_F A true) (am_ri r)) args s 0 0 (am_F A true)) 66 [some (.ref v0), none, none, some (.int v3)] [] w := by
  refine am_it_ind (P := fun (t : Nat → Int32 → am_w → Option (Int32 × am_w)) => ∀ (v0 : Nat) (v3 : Int32) (w : am_w), t v0 v3 w = some r → am_V p l e rm_Mo_submit s m args below meth c D classes tys A (am_F A true) 4 0 0 (MQ below (am_Q D classes tys A (am_F A true) (am_ri r)) args s 0 0 (am_F A true)) 66 [some (.ref v0), none, none, some (.int v3)] [] w) ?_ ?_ n
  · intro v0 v3 w hX
    exact (am_nn hX).elim
  · intro k66 hk66 v0 v3 w hX
    unfold s_Mo_submit_66 at hX
    refine am_iload_n (pc := 66) C d_Mo_submit_66 rfl rfl ?_
    refine am_bipush (pc := 67) (v := (72 : Int32)) C d_Mo_submit_67 (by decide) ?_
    refine am_icmp_ge (pc := 69) (tgt := 90) C d_Mo_submit_69 rfl hX (fun hX => ?_) (fun hX => ?_)
    · skip
      refine am_iconst (pc := 90) (v := (0 : Int32)) C d_Mo_submit_90 (by decide) ?_
      refine am_istore_n (pc := 91) (lo1 := [some (.ref v0), none, none, some (.int (0 : Int32))]) C d_Mo_submit_91 rfl (by decide) rfl ?_
      exact (L_Mo_submit_92 C hret hlk  70 v0 (0 : Int32) w hX)
    · skip
      refine am_aload_n (pc := 72) C d_Mo_submit_72 rfl rfl ?_
      refine am_getr (pc := 73) C hin_Mo rfl (by decide) wd_4_110 rfl d_Mo_submit_73 rfl hX (fun b17 hX => ?_)
      refine am_iload_n (pc := 76) C d_Mo_submit_76 rfl rfl ?_
      refine am_aload_n (pc := 77) C d_Mo_submit_77 rfl rfl ?_
      refine am_getr (pc := 78) C hin_Mo rfl (by decide) wd_4_106 rfl d_Mo_submit_78 rfl hX (fun b18 hX => ?_)
      refine am_iload_n (pc := 81) C d_Mo_submit_81 rfl rfl ?_
      refine am_iald (pc := 82) C d_Mo_submit_82 hX (fun x19 hX => ?_)
      refine am_iast (pc := 83) C (fun _ h => ⟨rfl, h⟩) d_Mo_submit_83 hX (fun w20 hX => ?_)
      refine am_iinc (pc := 84) (y := (1 : Int32)) (lo1 := [some (.ref v0), none, none, some (.int (v3 + (1 : Int32)))]) C d_Mo_submit_84 rfl (by decide) (by decide) rfl ?_
      refine am_goto (pc := 87) (tgt := 66) C d_Mo_submit_87 rfl ?_
      exact (hk66 v0 (v3 + (1 : Int32)) w20 hX)
def s_Mo_submit_49  (v0 : Nat) (s0 : Int32) (w : am_w) : Option (Int32 × am_w) := (if s0 = 0 then ((am_fg 7 4 v0 w).bind fun x6 => ((am_fp 7 9 v0 x6 w).bind fun w7 => (f_Mo_submit_66  80 v0 (0 : Int32) w7))) else (some (s0, w)))
set_option maxHeartbeats 4000000 in
theorem L_Mo_submit_49 {p : Program} {l : Launch} {e : Env} {s : State} {m : MethodId} {args : Array Value} {below : List Frame} {meth : Method} {c : Code} {D : va_G} {A : Nat → Prop} {r : Int32 × am_w} (C : am_C p m c b_Mo_submit 4 s args am_W "RoverMinutesModel" D classes A) (hret : meth.sig.returnType = (some .int)) (hlk : meth.locks = false)   : ∀ (v0 : Nat) (s0 : Int32) (w : am_w), s_Mo_submit_49  v0 s0 w = some r → am_V p l e rm_Mo_submit s m args below meth c D classes tys A (am_F A true) 4 0 0 (MQ below (am_Q D classes tys A (am_F A true) (am_ri r)) args s 0 0 (am_F A true)) 49 [some (.ref v0), none, none, none] [.int s0] w := by
  intro v0 s0 w hX
  unfold s_Mo_submit_49 at hX
  refine am_istore_n (pc := 49) (lo1 := [some (.ref v0), none, some (.int s0), none]) C d_Mo_submit_49 rfl (by decide) rfl ?_
  refine am_iload_n (pc := 50) C d_Mo_submit_50 rfl rfl ?_
  refine am_if_eq (pc := 51) (tgt := 56) C d_Mo_submit_51 rfl hX (fun hX => ?_) (fun hX => ?_)
  · skip
    refine am_aload_n (pc := 56) C d_Mo_submit_56 rfl rfl ?_
    refine am_aload_n (pc := 57) C d_Mo_submit_57 rfl rfl ?_
    refine am_get (pc := 58) C hin_Mo rfl (by decide) wd_4_104 rfl d_Mo_submit_58 rfl hX (fun x6 hX => ?_)
    refine am_put (pc := 61) C (fun _ h => ⟨rfl, h⟩) hin_Mo t_Mo t_Mo_ok n_Mo rfl (by decide) wd_4_109 rfl rfl (t_Mo_ok 9 (by decide)) rfl rfl rfl d_Mo_submit_61 hX (fun w7 hX => ?_)
    refine am_iconst (pc := 64) (v := (0 : Int32)) C d_Mo_submit_64 (by decide) ?_
    refine am_istore_n (pc := 65) (lo1 := [some (.ref v0), none, some (.int s0), some (.int (0 : Int32))]) C d_Mo_submit_65 rfl (by decide) rfl ?_
    exact am_sub (am_le_s (am_le_n (am_le_n (am_le_s (am_le_0))))) (L_Mo_submit_66 C hret hlk  80 v0 (0 : Int32) w7 hX)
  · skip
    refine am_iload_n (pc := 54) C d_Mo_submit_54 rfl rfl ?_
    exact am_iret (pc := 55) C hret hlk d_Mo_submit_55 rfl (by decide) (by decide) hX
def s_Mo_submit_13  (v0 : Nat) (s0 : Int32) (s1 : Nat) (w : am_w) : Option (Int32 × am_w) := ((am_ob 7 s1 w (f_Mo_refused s1 s0 (0 : Int32) w)).bind fun q2 => (if q2.1 = 0 then ((am_ob 7 v0 q2.2 (f_Mo_readLine v0 q2.2)).bind fun q3 => ((am_fp 7 2 v0 (0 : Int32) q3.2).bind fun w4 => (if q3.1 = 0 then ((am_fg 7 3 v0 w4).bind fun x5 => (s_Mo_submit_49  v0 (x5 + (1 : Int32)) w4)) else ((am_ob 7 v0 w4 (f_Mo_unfit v0 w4)).bind fun q21 => (s_Mo_submit_49  v0 q21.1 q21.2))))) else (some ((0 : Int32), q2.2))))
set_option maxHeartbeats 4000000 in
theorem L_Mo_submit_13 {p : Program} {l : Launch} {e : Env} {s : State} {m : MethodId} {args : Array Value} {below : List Frame} {meth : Method} {c : Code} {D : va_G} {A : Nat → Prop} {r : Int32 × am_w} (C : am_C p m c b_Mo_submit 4 s args am_W "RoverMinutesModel" D classes A) (hret : meth.sig.returnType = (some .int)) (hlk : meth.locks = false)   : ∀ (v0 : Nat) (s0 : Int32) (s1 : Nat) (w : am_w), s_Mo_submit_13  v0 s0 s1 w = some r → am_V p l e rm_Mo_submit s m args below meth c D classes tys A (am_F A true) 4 0 0 (MQ below (am_Q D classes tys A (am_F A true) (am_ri r)) args s 0 0 (am_F A true)) 13 [some (.ref v0), none, none, none] [.int s0, .ref s1] w := by
  intro v0 s0 s1 w hX
  unfold s_Mo_submit_13 at hX
  refine am_iconst (pc := 13) (v := (0 : Int32)) C d_Mo_submit_13 (by decide) ?_
  refine am_callVi (pc := 14) (As := [.int s0, .int (0 : Int32)]) (st := []) (cells1 := 0) (slots1 := 0) C (fun _ h => h.2) (fun _ h => h) (fun q h => c_Mo_refused h) wd_4_206 wd_4_208 ws_Mo_refused wd_1_9 wd_4_209 rfl rfl hd_Mo_refused ⟨by decide, by decide⟩ rfl rfl (Nat.le_of_ble_eq_true rfl) d_Mo_submit_14 ⟨by decide, by decide⟩ rfl rfl rfl hX (fun q2 hX => ?_)
  refine am_if_eq (pc := 17) (tgt := 22) C d_Mo_submit_17 rfl hX (fun hX => ?_) (fun hX => ?_)
  · skip
    refine am_aload_n (pc := 22) C d_Mo_submit_22 rfl rfl ?_
    refine am_callVi (pc := 23) (As := []) (st := []) (cells1 := 0) (slots1 := 0) C (fun _ h => h.2) (fun _ h => h) (fun q h => c_Mo_readLine h) wd_4_210 wd_4_212 ws_Mo_readLine wd_1_9 wd_4_213 rfl rfl hd_Mo_readLine ⟨by decide, by decide⟩ rfl rfl (Nat.le_of_ble_eq_true rfl) d_Mo_submit_23 ⟨by decide, by decide⟩ rfl rfl rfl hX (fun q3 hX => ?_)
    refine am_istore_n (pc := 26) (lo1 := [some (.ref v0), some (.int q3.1), none, none]) C d_Mo_submit_26 rfl (by decide) rfl ?_
    refine am_aload_n (pc := 27) C d_Mo_submit_27 rfl rfl ?_
    refine am_iconst (pc := 28) (v := (0 : Int32)) C d_Mo_submit_28 (by decide) ?_
    refine am_put (pc := 29) C (fun _ h => ⟨rfl, h⟩) hin_Mo t_Mo t_Mo_ok n_Mo rfl (by decide) wd_4_102 rfl rfl (t_Mo_ok 2 (by decide)) rfl rfl rfl d_Mo_submit_29 hX (fun w4 hX => ?_)
    refine am_iload_n (pc := 32) C d_Mo_submit_32 rfl rfl ?_
    refine am_if_eq (pc := 33) (tgt := 43) C d_Mo_submit_33 rfl hX (fun hX => ?_) (fun hX => ?_)
    · skip
      refine am_aload_n (pc := 43) C d_Mo_submit_43 rfl rfl ?_
      refine am_get (pc := 44) C hin_Mo rfl (by decide) wd_4_103 rfl d_Mo_submit_44 rfl hX (fun x5 hX => ?_)
      refine am_iconst (pc := 47) (v := (1 : Int32)) C d_Mo_submit_47 (by decide) ?_
      refine am_iadd (pc := 48) C d_Mo_submit_48 ?_
      exact am_sub (am_le_s (am_le_n (am_le_n (am_le_n (am_le_0))))) (L_Mo_submit_49 C hret hlk  v0 (x5 + (1 : Int32)) w4 hX)
    · skip
      refine am_aload_n (pc := 36) C d_Mo_submit_36 rfl rfl ?_
      refine am_callVi (pc := 37) (As := []) (st := []) (cells1 := 0) (slots1 := 0) C (fun _ h => h.2) (fun _ h => h) (fun q h => c_Mo_unfit h) wd_5_1 wd_5_3 ws_Mo_unfit wd_1_9 wd_5_4 rfl rfl hd_Mo_unfit ⟨by decide, by decide⟩ rfl rfl (Nat.le_of_ble_eq_true rfl) d_Mo_submit_37 ⟨by decide, by decide⟩ rfl rfl rfl hX (fun q21 hX => ?_)
      refine am_goto (pc := 40) (tgt := 49) C d_Mo_submit_40 rfl ?_
      exact am_sub (am_le_s (am_le_n (am_le_n (am_le_n (am_le_0))))) (L_Mo_submit_49 C hret hlk  v0 q21.1 q21.2 hX)
  · skip
    refine am_iconst (pc := 20) (v := (0 : Int32)) C d_Mo_submit_20 (by decide) ?_
    exact am_iret (pc := 21) C hret hlk d_Mo_submit_21 rfl (by decide) (by decide) hX
def f_Mo_submit (a0 : Nat) (w : am_w) : Option (Int32 × am_w) := ((am_fg 7 22 a0 w).bind fun x1 => (if x1 = 0 then (s_Mo_submit_13  a0 (0 : Int32) a0 w) else (s_Mo_submit_13  a0 (1 : Int32) a0 w)))
theorem hd_Mo_submit : y_Mo_submit.cls = "RoverMinutesModel" ∧ y_Mo_submit.cls ≠ "java/lang/invoke/MethodHandle" ∧ y_Mo_submit.cls ≠ "java/lang/invoke/VarHandle" ∧ (parseMethodDescriptor y_Mo_submit.desc).map (fun d => d.parameters.length) = some 0 := ⟨rfl, by decide, by decide, by decide +kernel⟩
set_option maxHeartbeats 4000000 in
theorem c_Mo_submit {l : Launch} {D : va_G} {A : Nat → Prop} {a0 : Nat} {w : am_w} {r : Int32 × am_w} (hX : f_Mo_submit a0 w = some r) : am_Met l D classes tys A (am_F A true) y_Mo_submit (Cond.code y_Mo_submit b_Mo_submit 4 (some .int) :: am_W) rm_Mo_submit [.ref a0] w (am_ri r) 0 0 := by
  refine am_ofV (by decide) am_W_good (Nat.le_of_ble_eq_true rfl) (by simp [Value.category]) ?_
  intro p e s m below meth c C hret hlk hnm
  unfold f_Mo_submit at hX
  refine am_aload_n (pc := 0) C d_Mo_submit_0 rfl rfl ?_
  refine am_aload_n (pc := 1) C d_Mo_submit_1 rfl rfl ?_
  refine am_get (pc := 2) C hin_Mo rfl (by decide) wd_4_122 rfl d_Mo_submit_2 rfl hX (fun x1 hX => ?_)
  refine am_if_eq (pc := 5) (tgt := 12) C d_Mo_submit_5 rfl hX (fun hX => ?_) (fun hX => ?_)
  · skip
    refine am_iconst (pc := 12) (v := (0 : Int32)) C d_Mo_submit_12 (by decide) ?_
    exact (L_Mo_submit_13 C hret hlk  a0 (0 : Int32) a0 w hX)
  · skip
    refine am_iconst (pc := 8) (v := (1 : Int32)) C d_Mo_submit_8 (by decide) ?_
    refine am_goto (pc := 9) (tgt := 13) C d_Mo_submit_9 rfl ?_
    exact (L_Mo_submit_13 C hret hlk  a0 (1 : Int32) a0 w hX)
def rm_Mo_afterMinute : Room := { frames := 0, cells := 0, slots := 0, locals := 0 }
def f_Mo_afterMinute (a0 : Nat) (a1 : Int32) (a2 : Int32) (a3 : Int32) (w : am_w) : Option (Int32 × am_w) := ((am_rg 7 25 a0 w).bind fun b1 => ((am_ig b1 (a2 - a2 / (24 : Int32) * (24 : Int32)) w).bind fun x2 => (if ((a1 + x2) - a3) ≤ (1000 : Int32) then (some (((a1 + x2) - a3), w)) else (some ((1000 : Int32), w)))))
theorem hd_Mo_afterMinute : y_Mo_afterMinute.cls = "RoverMinutesModel" ∧ y_Mo_afterMinute.cls ≠ "java/lang/invoke/MethodHandle" ∧ y_Mo_afterMinute.cls ≠ "java/lang/invoke/VarHandle" ∧ (parseMethodDescriptor y_Mo_afterMinute.desc).map (fun d => d.parameters.length) = some 3 := ⟨rfl, by decide, by decide, by decide +kernel⟩
set_option maxHeartbeats 4000000 in
theorem c_Mo_afterMinute {l : Launch} {D : va_G} {A : Nat → Prop} {a0 : Nat} {a1 : Int32} {a2 : Int32} {a3 : Int32} {w : am_w} {r : Int32 × am_w} (hX : f_Mo_afterMinute a0 a1 a2 a3 w = some r) : am_Met l D classes tys A (am_F A false) y_Mo_afterMinute (Cond.code y_Mo_afterMinute b_Mo_afterMinute 5 (some .int) :: am_W) rm_Mo_afterMinute [.ref a0, .int a1, .int a2, .int a3] w (am_ri r) 0 0 := by
  refine am_ofV (by decide) am_W_good (Nat.le_of_ble_eq_true rfl) (by simp [Value.category]) ?_
  intro p e s m below meth c C hret hlk hnm
  unfold f_Mo_afterMinute at hX
  refine am_iload_n (pc := 0) C d_Mo_afterMinute_0 rfl rfl ?_
  refine am_aload_n (pc := 1) C d_Mo_afterMinute_1 rfl rfl ?_
  refine am_getr (pc := 2) C hin_Mo rfl (by decide) wd_4_125 rfl d_Mo_afterMinute_2 rfl hX (fun b1 hX => ?_)
  refine am_iload_n (pc := 5) C d_Mo_afterMinute_5 rfl rfl ?_
  refine am_bipush (pc := 6) (v := (24 : Int32)) C d_Mo_afterMinute_6 (by decide) ?_
  refine am_irem (pc := 8) C d_Mo_afterMinute_8 (by decide) ?_
  refine am_iald (pc := 9) C d_Mo_afterMinute_9 hX (fun x2 hX => ?_)
  refine am_iadd (pc := 10) C d_Mo_afterMinute_10 ?_
  refine am_iload_n (pc := 11) C d_Mo_afterMinute_11 rfl rfl ?_
  refine am_isub (pc := 12) C d_Mo_afterMinute_12 ?_
  refine am_istore (pc := 13) (lo1 := [some (.ref a0), some (.int a1), some (.int a2), some (.int a3), some (.int ((a1 + x2) - a3))]) C d_Mo_afterMinute_13 (by decide) rfl ?_
  refine am_iload (pc := 15) C d_Mo_afterMinute_15 rfl ?_
  refine am_sipush (pc := 17) (v := (1000 : Int32)) C d_Mo_afterMinute_17 (by decide) ?_
  refine am_icmp_le (pc := 20) (tgt := 29) C d_Mo_afterMinute_20 rfl hX (fun hX => ?_) (fun hX => ?_)
  · skip
    refine am_iload (pc := 29) C d_Mo_afterMinute_29 rfl ?_
    exact am_iret (pc := 31) C hret hlk d_Mo_afterMinute_31 rfl (by decide) (by decide) hX
  · skip
    refine am_sipush (pc := 23) (v := (1000 : Int32)) C d_Mo_afterMinute_23 (by decide) ?_
    refine am_goto (pc := 26) (tgt := 31) C d_Mo_afterMinute_26 rfl ?_
    exact am_iret (pc := 31) C hret hlk d_Mo_afterMinute_31 rfl (by decide) (by decide) hX
def rm_Mo_isOpen : Room := { frames := 1, cells := 0, slots := 0, locals := 24 }
def s_Mo_isOpen_8 (k8 : Nat → Int32 → Int32 → Int32 → Int32 → am_w → Option (Int32 × am_w)) (v0 : Nat) (v2 : Int32) (v3 : Int32) (v4 : Int32) (v5 : Int32) (w : am_w) : Option (Int32 × am_w) := ((am_fg 7 27 v0 w).bind fun x1 => (if x1 < v5 then (if v4 &&& 1 = v4 then some (v4, w) else none) else (if v4 = 0 then (if v4 &&& 1 = v4 then some (v4, w) else none) else ((am_fg 7 28 v0 w).bind fun x2 => ((am_ob 7 v0 w (f_Mo_afterMinute v0 v3 (v2 + v5) x2 w)).bind fun q3 => (if q3.1 < 0 then (k8 v0 v2 q3.1 (0 : Int32) (v5 + (1 : Int32)) q3.2) else (k8 v0 v2 q3.1 (1 : Int32) (v5 + (1 : Int32)) q3.2)))))))
def f_Mo_isOpen_8  (n : Nat) : Nat → Int32 → Int32 → Int32 → Int32 → am_w → Option (Int32 × am_w) := am_it (fun _ _ _ _ _ _ => none) (s_Mo_isOpen_8 ) n
set_option maxHeartbeats 4000000 in
theorem L_Mo_isOpen_8 {p : Program} {l : Launch} {e : Env} {s : State} {m : MethodId} {args : Array Value} {below : List Frame} {meth : Method} {c : Code} {D : va_G} {A : Nat → Prop} {r : Int32 × am_w} (C : am_C p m c b_Mo_isOpen 6 s args am_W "RoverMinutesModel" D classes A) (hret : meth.sig.returnType = (some .boolean)) (hlk : meth.locks = false)   (n : Nat) : ∀ (v0 : Nat) (v2 : Int32) (v3 : Int32) (v4 : Int32) (v5 : Int32) (w : am_w), f_Mo_isOpen_8  n v0 v2 v3 v4 v5 w = some r → am_V p l e rm_Mo_isOpen s m args below meth c D classes tys A (am_F A false) 6 0 0 (MQ below (am_Q D classes tys A (am_F A false) (am_ri r)) args s 0 0 (am_F A false)) 8 [some (.ref v0), none, some (.int v2), some (.int v3), some (.int v4), some (.int v5)] [] w := by
  refine am_it_ind (P := fun (t : Nat → Int32 → Int32 → Int32 → Int32 → am_w → Option (Int32 × am_w)) => ∀ (v0 : Nat) (v2 : Int32) (v3 : Int32) (v4 : Int32) (v5 : Int32) (w : am_w), t v0 v2 v3 v4 v5 w = some r → am_V p l e rm_Mo_isOpen s m args below meth c D classes tys A (am_F A false) 6 0 0 (MQ below (am_Q D classes tys A (am_F A false) (am_ri r)) args s 0 0 (am_F A false)) 8 [some (.ref v0), none, some (.int v2), some (.int v3), some (.int v4), some (.int v5)] [] w) ?_ ?_ n
  · intro v0 v2 v3 v4 v5 w hX
    exact (am_nn hX).elim
  · intro k8 hk8 v0 v2 v3 v4 v5 w hX
    unfold s_Mo_isOpen_8 at hX
    refine am_iload (pc := 8) C d_Mo_isOpen_8 rfl ?_
    refine am_aload_n (pc := 10) C d_Mo_isOpen_10 rfl rfl ?_
    refine am_get (pc := 11) C hin_Mo rfl (by decide) wd_4_127 rfl d_Mo_isOpen_11 rfl hX (fun x1 hX => ?_)
    refine am_icmp_gt (pc := 14) (tgt := 53) C d_Mo_isOpen_14 rfl hX (fun hX => ?_) (fun hX => ?_)
    · skip
      refine am_iload (pc := 53) C d_Mo_isOpen_53 rfl ?_
      exact am_zret (pc := 55) C hret hlk d_Mo_isOpen_55 (by decide) (by decide) hX
    · skip
      refine am_iload (pc := 17) C d_Mo_isOpen_17 rfl ?_
      refine am_if_eq (pc := 19) (tgt := 53) C d_Mo_isOpen_19 rfl hX (fun hX => ?_) (fun hX => ?_)
      · skip
        refine am_iload (pc := 53) C d_Mo_isOpen_53 rfl ?_
        exact am_zret (pc := 55) C hret hlk d_Mo_isOpen_55 (by decide) (by decide) hX
      · skip
        refine am_aload_n (pc := 22) C d_Mo_isOpen_22 rfl rfl ?_
        refine am_iload_n (pc := 23) C d_Mo_isOpen_23 rfl rfl ?_
        refine am_iload_n (pc := 24) C d_Mo_isOpen_24 rfl rfl ?_
        refine am_iload (pc := 25) C d_Mo_isOpen_25 rfl ?_
        refine am_iadd (pc := 27) C d_Mo_isOpen_27 ?_
        refine am_aload_n (pc := 28) C d_Mo_isOpen_28 rfl rfl ?_
        refine am_get (pc := 29) C hin_Mo rfl (by decide) wd_4_128 rfl d_Mo_isOpen_29 rfl hX (fun x2 hX => ?_)
        refine am_callVi (pc := 32) (As := [.int v3, .int (v2 + v5), .int x2]) (st := []) (cells1 := 0) (slots1 := 0) C (fun _ h => h.2) (fun _ h => by cases h.1) (fun q h => c_Mo_afterMinute h) wd_5_29 wd_5_31 ws_Mo_afterMinute wd_1_9 wd_5_32 rfl rfl hd_Mo_afterMinute ⟨by decide, by decide⟩ rfl rfl (Nat.le_of_ble_eq_true rfl) d_Mo_isOpen_32 ⟨by decide, by decide⟩ rfl rfl rfl hX (fun q3 hX => ?_)
        refine am_istore_n (pc := 35) (lo1 := [some (.ref v0), none, some (.int v2), some (.int q3.1), some (.int v4), some (.int v5)]) C d_Mo_isOpen_35 rfl (by decide) rfl ?_
        refine am_iload_n (pc := 36) C d_Mo_isOpen_36 rfl rfl ?_
        refine am_if_lt (pc := 37) (tgt := 44) C d_Mo_isOpen_37 rfl hX (fun hX => ?_) (fun hX => ?_)
        · skip
          refine am_iconst (pc := 44) (v := (0 : Int32)) C d_Mo_isOpen_44 (by decide) ?_
          refine am_istore (pc := 45) (lo1 := [some (.ref v0), none, some (.int v2), some (.int q3.1), some (.int (0 : Int32)), some (.int v5)]) C d_Mo_isOpen_45 (by decide) rfl ?_
          refine am_iinc (pc := 47) (y := (1 : Int32)) (lo1 := [some (.ref v0), none, some (.int v2), some (.int q3.1), some (.int (0 : Int32)), some (.int (v5 + (1 : Int32)))]) C d_Mo_isOpen_47 rfl (by decide) (by decide) rfl ?_
          refine am_goto (pc := 50) (tgt := 8) C d_Mo_isOpen_50 rfl ?_
          exact (hk8 v0 v2 q3.1 (0 : Int32) (v5 + (1 : Int32)) q3.2 hX)
        · skip
          refine am_iconst (pc := 40) (v := (1 : Int32)) C d_Mo_isOpen_40 (by decide) ?_
          refine am_goto (pc := 41) (tgt := 45) C d_Mo_isOpen_41 rfl ?_
          refine am_istore (pc := 45) (lo1 := [some (.ref v0), none, some (.int v2), some (.int q3.1), some (.int (1 : Int32)), some (.int v5)]) C d_Mo_isOpen_45 (by decide) rfl ?_
          refine am_iinc (pc := 47) (y := (1 : Int32)) (lo1 := [some (.ref v0), none, some (.int v2), some (.int q3.1), some (.int (1 : Int32)), some (.int (v5 + (1 : Int32)))]) C d_Mo_isOpen_47 rfl (by decide) (by decide) rfl ?_
          refine am_goto (pc := 50) (tgt := 8) C d_Mo_isOpen_50 rfl ?_
          exact (hk8 v0 v2 q3.1 (1 : Int32) (v5 + (1 : Int32)) q3.2 hX)
def f_Mo_isOpen (a0 : Nat) (a1 : Int32) (a2 : Int32) (w : am_w) : Option (Int32 × am_w) := (f_Mo_isOpen_8  70 a0 a2 a1 (1 : Int32) (1 : Int32) w)
theorem hd_Mo_isOpen : y_Mo_isOpen.cls = "RoverMinutesModel" ∧ y_Mo_isOpen.cls ≠ "java/lang/invoke/MethodHandle" ∧ y_Mo_isOpen.cls ≠ "java/lang/invoke/VarHandle" ∧ (parseMethodDescriptor y_Mo_isOpen.desc).map (fun d => d.parameters.length) = some 2 := ⟨rfl, by decide, by decide, by decide +kernel⟩
set_option maxHeartbeats 4000000 in
theorem c_Mo_isOpen {l : Launch} {D : va_G} {A : Nat → Prop} {a0 : Nat} {a1 : Int32} {a2 : Int32} {w : am_w} {r : Int32 × am_w} (hX : f_Mo_isOpen a0 a1 a2 w = some r) : am_Met l D classes tys A (am_F A false) y_Mo_isOpen (Cond.code y_Mo_isOpen b_Mo_isOpen 6 (some .boolean) :: am_W) rm_Mo_isOpen [.ref a0, .int a1, .int a2] w (am_ri r) 0 0 := by
  refine am_ofV (by decide) am_W_good (Nat.le_of_ble_eq_true rfl) (by simp [Value.category]) ?_
  intro p e s m below meth c C hret hlk hnm
  unfold f_Mo_isOpen at hX
  refine am_iload_n (pc := 0) C d_Mo_isOpen_0 rfl rfl ?_
  refine am_istore_n (pc := 1) (lo1 := [some (.ref a0), some (.int a1), some (.int a2), some (.int a1), none, none]) C d_Mo_isOpen_1 rfl (by decide) rfl ?_
  refine am_iconst (pc := 2) (v := (1 : Int32)) C d_Mo_isOpen_2 (by decide) ?_
  refine am_istore (pc := 3) (lo1 := [some (.ref a0), some (.int a1), some (.int a2), some (.int a1), some (.int (1 : Int32)), none]) C d_Mo_isOpen_3 (by decide) rfl ?_
  refine am_iconst (pc := 5) (v := (1 : Int32)) C d_Mo_isOpen_5 (by decide) ?_
  refine am_istore (pc := 6) (lo1 := [some (.ref a0), some (.int a1), some (.int a2), some (.int a1), some (.int (1 : Int32)), some (.int (1 : Int32))]) C d_Mo_isOpen_6 (by decide) rfl ?_
  exact am_sub (am_le_s (am_le_n (am_le_s (am_le_s (am_le_s (am_le_s (am_le_0))))))) (L_Mo_isOpen_8 C hret hlk  70 a0 a2 a1 (1 : Int32) (1 : Int32) w hX)
def rm_Mo_isRunningOr : Room := { frames := 0, cells := 0, slots := 0, locals := 0 }
def f_Mo_isRunningOr (a0 : Nat) (a1 : Int32) (a2 : Int32) (w : am_w) : Option (Int32 × am_w) := ((am_rg 7 12 a0 w).bind fun b1 => ((am_ig b1 a1 w).bind fun x2 => (if x2 = (1 : Int32) then (some ((1 : Int32), w)) else (if a1 = a2 then (some ((1 : Int32), w)) else (some ((0 : Int32), w))))))
theorem hd_Mo_isRunningOr : y_Mo_isRunningOr.cls = "RoverMinutesModel" ∧ y_Mo_isRunningOr.cls ≠ "java/lang/invoke/MethodHandle" ∧ y_Mo_isRunningOr.cls ≠ "java/lang/invoke/VarHandle" ∧ (parseMethodDescriptor y_Mo_isRunningOr.desc).map (fun d => d.parameters.length) = some 2 := ⟨rfl, by decide, by decide, by decide +kernel⟩
set_option maxHeartbeats 4000000 in
theorem c_Mo_isRunningOr {l : Launch} {D : va_G} {A : Nat → Prop} {a0 : Nat} {a1 : Int32} {a2 : Int32} {w : am_w} {r : Int32 × am_w} (hX : f_Mo_isRunningOr a0 a1 a2 w = some r) : am_Met l D classes tys A (am_F A false) y_Mo_isRunningOr (Cond.code y_Mo_isRunningOr b_Mo_isRunningOr 3 (some .boolean) :: am_W) rm_Mo_isRunningOr [.ref a0, .int a1, .int a2] w (am_ri r) 0 0 := by
  refine am_ofV (by decide) am_W_good (Nat.le_of_ble_eq_true rfl) (by simp [Value.category]) ?_
  intro p e s m below meth c C hret hlk hnm
  unfold f_Mo_isRunningOr at hX
  refine am_aload_n (pc := 0) C d_Mo_isRunningOr_0 rfl rfl ?_
  refine am_getr (pc := 1) C hin_Mo rfl (by decide) wd_4_112 rfl d_Mo_isRunningOr_1 rfl hX (fun b1 hX => ?_)
  refine am_iload_n (pc := 4) C d_Mo_isRunningOr_4 rfl rfl ?_
  refine am_iald (pc := 5) C d_Mo_isRunningOr_5 hX (fun x2 hX => ?_)
  refine am_iconst (pc := 6) (v := (1 : Int32)) C d_Mo_isRunningOr_6 (by decide) ?_
  refine am_icmp_eq (pc := 7) (tgt := 15) C d_Mo_isRunningOr_7 rfl hX (fun hX => ?_) (fun hX => ?_)
  · skip
    refine am_iconst (pc := 15) (v := (1 : Int32)) C d_Mo_isRunningOr_15 (by decide) ?_
    refine am_goto (pc := 16) (tgt := 20) C d_Mo_isRunningOr_16 rfl ?_
    exact am_iret (pc := 20) C hret hlk d_Mo_isRunningOr_20 am_n1 (by decide) (by decide) hX
  · skip
    refine am_iload_n (pc := 10) C d_Mo_isRunningOr_10 rfl rfl ?_
    refine am_iload_n (pc := 11) C d_Mo_isRunningOr_11 rfl rfl ?_
    refine am_icmp_ne (pc := 12) (tgt := 19) C d_Mo_isRunningOr_12 rfl hX (fun hX => ?_) (fun hX => ?_)
    · skip
      refine am_iconst (pc := 19) (v := (0 : Int32)) C d_Mo_isRunningOr_19 (by decide) ?_
      exact am_iret (pc := 20) C hret hlk d_Mo_isRunningOr_20 am_n0 (by decide) (by decide) hX
    · skip
      refine am_iconst (pc := 15) (v := (1 : Int32)) C d_Mo_isRunningOr_15 (by decide) ?_
      refine am_goto (pc := 16) (tgt := 20) C d_Mo_isRunningOr_16 rfl ?_
      exact am_iret (pc := 20) C hret hlk d_Mo_isRunningOr_20 am_n1 (by decide) (by decide) hX
def rm_Mo_leftOf : Room := { frames := 0, cells := 0, slots := 0, locals := 0 }
def f_Mo_leftOf (a0 : Nat) (a1 : Int32) (a2 : Int32) (w : am_w) : Option (Int32 × am_w) := ((am_rg 7 10 a0 w).bind fun b1 => ((am_ig b1 ((8 : Int32) + a1) w).bind fun x2 => (if a1 = a2 then (some ((x2 - (0 : Int32)), w)) else ((am_rg 7 14 a0 w).bind fun b3 => ((am_ig b3 a1 w).bind fun x4 => (some ((x2 - x4), w)))))))
theorem hd_Mo_leftOf : y_Mo_leftOf.cls = "RoverMinutesModel" ∧ y_Mo_leftOf.cls ≠ "java/lang/invoke/MethodHandle" ∧ y_Mo_leftOf.cls ≠ "java/lang/invoke/VarHandle" ∧ (parseMethodDescriptor y_Mo_leftOf.desc).map (fun d => d.parameters.length) = some 2 := ⟨rfl, by decide, by decide, by decide +kernel⟩
set_option maxHeartbeats 4000000 in
theorem c_Mo_leftOf {l : Launch} {D : va_G} {A : Nat → Prop} {a0 : Nat} {a1 : Int32} {a2 : Int32} {w : am_w} {r : Int32 × am_w} (hX : f_Mo_leftOf a0 a1 a2 w = some r) : am_Met l D classes tys A (am_F A false) y_Mo_leftOf (Cond.code y_Mo_leftOf b_Mo_leftOf 3 (some .int) :: am_W) rm_Mo_leftOf [.ref a0, .int a1, .int a2] w (am_ri r) 0 0 := by
  refine am_ofV (by decide) am_W_good (Nat.le_of_ble_eq_true rfl) (by simp [Value.category]) ?_
  intro p e s m below meth c C hret hlk hnm
  unfold f_Mo_leftOf at hX
  refine am_aload_n (pc := 0) C d_Mo_leftOf_0 rfl rfl ?_
  refine am_getr (pc := 1) C hin_Mo rfl (by decide) wd_4_110 rfl d_Mo_leftOf_1 rfl hX (fun b1 hX => ?_)
  refine am_bipush (pc := 4) (v := (8 : Int32)) C d_Mo_leftOf_4 (by decide) ?_
  refine am_iload_n (pc := 6) C d_Mo_leftOf_6 rfl rfl ?_
  refine am_iadd (pc := 7) C d_Mo_leftOf_7 ?_
  refine am_iald (pc := 8) C d_Mo_leftOf_8 hX (fun x2 hX => ?_)
  refine am_iload_n (pc := 9) C d_Mo_leftOf_9 rfl rfl ?_
  refine am_iload_n (pc := 10) C d_Mo_leftOf_10 rfl rfl ?_
  refine am_icmp_ne (pc := 11) (tgt := 18) C d_Mo_leftOf_11 rfl hX (fun hX => ?_) (fun hX => ?_)
  · skip
    refine am_aload_n (pc := 18) C d_Mo_leftOf_18 rfl rfl ?_
    refine am_getr (pc := 19) C hin_Mo rfl (by decide) wd_4_114 rfl d_Mo_leftOf_19 rfl hX (fun b3 hX => ?_)
    refine am_iload_n (pc := 22) C d_Mo_leftOf_22 rfl rfl ?_
    refine am_iald (pc := 23) C d_Mo_leftOf_23 hX (fun x4 hX => ?_)
    refine am_isub (pc := 24) C d_Mo_leftOf_24 ?_
    exact am_iret (pc := 25) C hret hlk d_Mo_leftOf_25 rfl (by decide) (by decide) hX
  · skip
    refine am_iconst (pc := 14) (v := (0 : Int32)) C d_Mo_leftOf_14 (by decide) ?_
    refine am_goto (pc := 15) (tgt := 24) C d_Mo_leftOf_15 rfl ?_
    refine am_isub (pc := 24) C d_Mo_leftOf_24 ?_
    exact am_iret (pc := 25) C hret hlk d_Mo_leftOf_25 rfl (by decide) (by decide) hX
def rm_Mo_drawIn : Room := { frames := 1, cells := 0, slots := 0, locals := 22 }
def s_Mo_drawIn_77 (k8 : Nat → Int32 → Int32 → Int32 → Int32 → Int32 → am_w → Option (Int32 × am_w)) (v0 : Nat) (v1 : Int32) (v2 : Int32) (v3 : Int32) (v5 : Int32) (w : am_w) : Option (Int32 × am_w) := (k8 v0 v1 v2 v3 (1 : Int32) (v5 + (1 : Int32)) w)
set_option maxHeartbeats 4000000 in
theorem L_Mo_drawIn_77 {p : Program} {l : Launch} {e : Env} {s : State} {m : MethodId} {args : Array Value} {below : List Frame} {meth : Method} {c : Code} {D : va_G} {A : Nat → Prop} {r : Int32 × am_w} (C : am_C p m c b_Mo_drawIn 7 s args am_W "RoverMinutesModel" D classes A) (hret : meth.sig.returnType = (some .int)) (hlk : meth.locks = false) {k8 : Nat → Int32 → Int32 → Int32 → Int32 → Int32 → am_w → Option (Int32 × am_w)} (hk8 : ∀ (v0 : Nat) (v1 : Int32) (v2 : Int32) (v3 : Int32) (v4 : Int32) (v5 : Int32) (w : am_w), k8 v0 v1 v2 v3 v4 v5 w = some r → am_V p l e rm_Mo_drawIn s m args below meth c D classes tys A (am_F A false) 7 0 0 (MQ below (am_Q D classes tys A (am_F A false) (am_ri r)) args s 0 0 (am_F A false)) 8 [some (.ref v0), some (.int v1), some (.int v2), some (.int v3), some (.int v4), some (.int v5), none] [] w) : ∀ (v0 : Nat) (v1 : Int32) (v2 : Int32) (v3 : Int32) (v5 : Int32) (w : am_w), s_Mo_drawIn_77 k8 v0 v1 v2 v3 v5 w = some r → am_V p l e rm_Mo_drawIn s m args below meth c D classes tys A (am_F A false) 7 0 0 (MQ below (am_Q D classes tys A (am_F A false) (am_ri r)) args s 0 0 (am_F A false)) 77 [some (.ref v0), some (.int v1), some (.int v2), some (.int v3), none, some (.int v5), none] [] w := by
  intro v0 v1 v2 v3 v5 w hX
  unfold s_Mo_drawIn_77 at hX
  refine am_iconst (pc := 77) (v := (1 : Int32)) C d_Mo_drawIn_77 (by decide) ?_
  refine am_goto (pc := 78) (tgt := 82) C d_Mo_drawIn_78 rfl ?_
  refine am_istore (pc := 82) (lo1 := [some (.ref v0), some (.int v1), some (.int v2), some (.int v3), some (.int (1 : Int32)), some (.int v5), none]) C d_Mo_drawIn_82 (by decide) rfl ?_
  refine am_iinc (pc := 84) (y := (1 : Int32)) (lo1 := [some (.ref v0), some (.int v1), some (.int v2), some (.int v3), some (.int (1 : Int32)), some (.int (v5 + (1 : Int32))), none]) C d_Mo_drawIn_84 rfl (by decide) (by decide) rfl ?_
  refine am_goto (pc := 87) (tgt := 8) C d_Mo_drawIn_87 rfl ?_
  exact (hk8 v0 v1 v2 v3 (1 : Int32) (v5 + (1 : Int32)) w hX)
def s_Mo_drawIn_66 (k8 : Nat → Int32 → Int32 → Int32 → Int32 → Int32 → am_w → Option (Int32 × am_w)) (v0 : Nat) (v1 : Int32) (v2 : Int32) (v4 : Int32) (v5 : Int32) (v6 : Int32) (s0 : Int32) (w : am_w) : Option (Int32 × am_w) := (if v4 = 0 then (if v6 = 0 then (k8 v0 v1 v2 s0 (0 : Int32) (v5 + (1 : Int32)) w) else (s_Mo_drawIn_77 k8 v0 v1 v2 s0 v5 w)) else (s_Mo_drawIn_77 k8 v0 v1 v2 s0 v5 w))
set_option maxHeartbeats 4000000 in
theorem L_Mo_drawIn_66 {p : Program} {l : Launch} {e : Env} {s : State} {m : MethodId} {args : Array Value} {below : List Frame} {meth : Method} {c : Code} {D : va_G} {A : Nat → Prop} {r : Int32 × am_w} (C : am_C p m c b_Mo_drawIn 7 s args am_W "RoverMinutesModel" D classes A) (hret : meth.sig.returnType = (some .int)) (hlk : meth.locks = false) {k8 : Nat → Int32 → Int32 → Int32 → Int32 → Int32 → am_w → Option (Int32 × am_w)} (hk8 : ∀ (v0 : Nat) (v1 : Int32) (v2 : Int32) (v3 : Int32) (v4 : Int32) (v5 : Int32) (w : am_w), k8 v0 v1 v2 v3 v4 v5 w = some r → am_V p l e rm_Mo_drawIn s m args below meth c D classes tys A (am_F A false) 7 0 0 (MQ below (am_Q D classes tys A (am_F A false) (am_ri r)) args s 0 0 (am_F A false)) 8 [some (.ref v0), some (.int v1), some (.int v2), some (.int v3), some (.int v4), some (.int v5), none] [] w) : ∀ (v0 : Nat) (v1 : Int32) (v2 : Int32) (v4 : Int32) (v5 : Int32) (v6 : Int32) (s0 : Int32) (w : am_w), s_Mo_drawIn_66 k8 v0 v1 v2 v4 v5 v6 s0 w = some r → am_V p l e rm_Mo_drawIn s m args below meth c D classes tys A (am_F A false) 7 0 0 (MQ below (am_Q D classes tys A (am_F A false) (am_ri r)) args s 0 0 (am_F A false)) 66 [some (.ref v0), some (.int v1), some (.int v2), none, some (.int v4), some (.int v5), some (.int v6)] [.int s0] w := by
  intro v0 v1 v2 v4 v5 v6 s0 w hX
  unfold s_Mo_drawIn_66 at hX
  refine am_istore_n (pc := 66) (lo1 := [some (.ref v0), some (.int v1), some (.int v2), some (.int s0), some (.int v4), some (.int v5), some (.int v6)]) C d_Mo_drawIn_66 rfl (by decide) rfl ?_
  refine am_iload (pc := 67) C d_Mo_drawIn_67 rfl ?_
  refine am_if_ne (pc := 69) (tgt := 77) C d_Mo_drawIn_69 rfl hX (fun hX => ?_) (fun hX => ?_)
  · skip
    exact am_sub (am_le_s (am_le_s (am_le_s (am_le_s (am_le_n (am_le_s (am_le_n (am_le_0)))))))) (L_Mo_drawIn_77 C hret hlk hk8 v0 v1 v2 s0 v5 w hX)
  · skip
    refine am_iload (pc := 72) C d_Mo_drawIn_72 rfl ?_
    refine am_if_eq (pc := 74) (tgt := 81) C d_Mo_drawIn_74 rfl hX (fun hX => ?_) (fun hX => ?_)
    · skip
      refine am_iconst (pc := 81) (v := (0 : Int32)) C d_Mo_drawIn_81 (by decide) ?_
      refine am_istore (pc := 82) (lo1 := [some (.ref v0), some (.int v1), some (.int v2), some (.int s0), some (.int (0 : Int32)), some (.int v5), some (.int v6)]) C d_Mo_drawIn_82 (by decide) rfl ?_
      refine am_iinc (pc := 84) (y := (1 : Int32)) (lo1 := [some (.ref v0), some (.int v1), some (.int v2), some (.int s0), some (.int (0 : Int32)), some (.int (v5 + (1 : Int32))), some (.int v6)]) C d_Mo_drawIn_84 rfl (by decide) (by decide) rfl ?_
      refine am_goto (pc := 87) (tgt := 8) C d_Mo_drawIn_87 rfl ?_
      exact am_sub (am_le_s (am_le_s (am_le_s (am_le_s (am_le_s (am_le_s (am_le_n (am_le_0)))))))) (hk8 v0 v1 v2 s0 (0 : Int32) (v5 + (1 : Int32)) w hX)
    · skip
      exact am_sub (am_le_s (am_le_s (am_le_s (am_le_s (am_le_n (am_le_s (am_le_n (am_le_0)))))))) (L_Mo_drawIn_77 C hret hlk hk8 v0 v1 v2 s0 v5 w hX)
def s_Mo_drawIn_43 (k8 : Nat → Int32 → Int32 → Int32 → Int32 → Int32 → am_w → Option (Int32 × am_w)) (v0 : Nat) (v1 : Int32) (v2 : Int32) (v3 : Int32) (v4 : Int32) (v5 : Int32) (s0 : Int32) (w : am_w) : Option (Int32 × am_w) := (if s0 = 0 then (s_Mo_drawIn_66 k8 v0 v1 v2 v4 v5 s0 v3 w) else ((am_rg 7 10 v0 w).bind fun b3 => ((am_ig b3 ((16 : Int32) + v5) w).bind fun x4 => (s_Mo_drawIn_66 k8 v0 v1 v2 v4 v5 s0 (v3 + x4) w))))
set_option maxHeartbeats 4000000 in
theorem L_Mo_drawIn_43 {p : Program} {l : Launch} {e : Env} {s : State} {m : MethodId} {args : Array Value} {below : List Frame} {meth : Method} {c : Code} {D : va_G} {A : Nat → Prop} {r : Int32 × am_w} (C : am_C p m c b_Mo_drawIn 7 s args am_W "RoverMinutesModel" D classes A) (hret : meth.sig.returnType = (some .int)) (hlk : meth.locks = false) {k8 : Nat → Int32 → Int32 → Int32 → Int32 → Int32 → am_w → Option (Int32 × am_w)} (hk8 : ∀ (v0 : Nat) (v1 : Int32) (v2 : Int32) (v3 : Int32) (v4 : Int32) (v5 : Int32) (w : am_w), k8 v0 v1 v2 v3 v4 v5 w = some r → am_V p l e rm_Mo_drawIn s m args below meth c D classes tys A (am_F A false) 7 0 0 (MQ below (am_Q D classes tys A (am_F A false) (am_ri r)) args s 0 0 (am_F A false)) 8 [some (.ref v0), some (.int v1), some (.int v2), some (.int v3), some (.int v4), some (.int v5), none] [] w) : ∀ (v0 : Nat) (v1 : Int32) (v2 : Int32) (v3 : Int32) (v4 : Int32) (v5 : Int32) (s0 : Int32) (w : am_w), s_Mo_drawIn_43 k8 v0 v1 v2 v3 v4 v5 s0 w = some r → am_V p l e rm_Mo_drawIn s m args below meth c D classes tys A (am_F A false) 7 0 0 (MQ below (am_Q D classes tys A (am_F A false) (am_ri r)) args s 0 0 (am_F A false)) 43 [some (.ref v0), some (.int v1), some (.int v2), some (.int v3), some (.int v4), some (.int v5), none] [.int s0] w := by
  intro v0 v1 v2 v3 v4 v5 s0 w hX
  unfold s_Mo_drawIn_43 at hX
  refine am_istore (pc := 43) (lo1 := [some (.ref v0), some (.int v1), some (.int v2), some (.int v3), some (.int v4), some (.int v5), some (.int s0)]) C d_Mo_drawIn_43 (by decide) rfl ?_
  refine am_iload (pc := 45) C d_Mo_drawIn_45 rfl ?_
  refine am_if_eq (pc := 47) (tgt := 65) C d_Mo_drawIn_47 rfl hX (fun hX => ?_) (fun hX => ?_)
  · skip
    refine am_iload_n (pc := 65) C d_Mo_drawIn_65 rfl rfl ?_
    exact am_sub (am_le_s (am_le_s (am_le_s (am_le_n (am_le_s (am_le_s (am_le_s (am_le_0)))))))) (L_Mo_drawIn_66 C hret hlk hk8 v0 v1 v2 v4 v5 s0 v3 w hX)
  · skip
    refine am_iload_n (pc := 50) C d_Mo_drawIn_50 rfl rfl ?_
    refine am_aload_n (pc := 51) C d_Mo_drawIn_51 rfl rfl ?_
    refine am_getr (pc := 52) C hin_Mo rfl (by decide) wd_4_110 rfl d_Mo_drawIn_52 rfl hX (fun b3 hX => ?_)
    refine am_bipush (pc := 55) (v := (16 : Int32)) C d_Mo_drawIn_55 (by decide) ?_
    refine am_iload (pc := 57) C d_Mo_drawIn_57 rfl ?_
    refine am_iadd (pc := 59) C d_Mo_drawIn_59 ?_
    refine am_iald (pc := 60) C d_Mo_drawIn_60 hX (fun x4 hX => ?_)
    refine am_iadd (pc := 61) C d_Mo_drawIn_61 ?_
    refine am_goto (pc := 62) (tgt := 66) C d_Mo_drawIn_62 rfl ?_
    exact am_sub (am_le_s (am_le_s (am_le_s (am_le_n (am_le_s (am_le_s (am_le_s (am_le_0)))))))) (L_Mo_drawIn_66 C hret hlk hk8 v0 v1 v2 v4 v5 s0 (v3 + x4) w hX)
def s_Mo_drawIn_42 (k8 : Nat → Int32 → Int32 → Int32 → Int32 → Int32 → am_w → Option (Int32 × am_w)) (v0 : Nat) (v1 : Int32) (v2 : Int32) (v3 : Int32) (v4 : Int32) (v5 : Int32) (w : am_w) : Option (Int32 × am_w) := (s_Mo_drawIn_43 k8 v0 v1 v2 v3 v4 v5 (0 : Int32) w)
set_option maxHeartbeats 4000000 in
theorem L_Mo_drawIn_42 {p : Program} {l : Launch} {e : Env} {s : State} {m : MethodId} {args : Array Value} {below : List Frame} {meth : Method} {c : Code} {D : va_G} {A : Nat → Prop} {r : Int32 × am_w} (C : am_C p m c b_Mo_drawIn 7 s args am_W "RoverMinutesModel" D classes A) (hret : meth.sig.returnType = (some .int)) (hlk : meth.locks = false) {k8 : Nat → Int32 → Int32 → Int32 → Int32 → Int32 → am_w → Option (Int32 × am_w)} (hk8 : ∀ (v0 : Nat) (v1 : Int32) (v2 : Int32) (v3 : Int32) (v4 : Int32) (v5 : Int32) (w : am_w), k8 v0 v1 v2 v3 v4 v5 w = some r → am_V p l e rm_Mo_drawIn s m args below meth c D classes tys A (am_F A false) 7 0 0 (MQ below (am_Q D classes tys A (am_F A false) (am_ri r)) args s 0 0 (am_F A false)) 8 [some (.ref v0), some (.int v1), some (.int v2), some (.int v3), some (.int v4), some (.int v5), none] [] w) : ∀ (v0 : Nat) (v1 : Int32) (v2 : Int32) (v3 : Int32) (v4 : Int32) (v5 : Int32) (w : am_w), s_Mo_drawIn_42 k8 v0 v1 v2 v3 v4 v5 w = some r → am_V p l e rm_Mo_drawIn s m args below meth c D classes tys A (am_F A false) 7 0 0 (MQ below (am_Q D classes tys A (am_F A false) (am_ri r)) args s 0 0 (am_F A false)) 42 [some (.ref v0), some (.int v1), some (.int v2), some (.int v3), some (.int v4), some (.int v5), none] [] w := by
  intro v0 v1 v2 v3 v4 v5 w hX
  unfold s_Mo_drawIn_42 at hX
  refine am_iconst (pc := 42) (v := (0 : Int32)) C d_Mo_drawIn_42 (by decide) ?_
  exact (L_Mo_drawIn_43 C hret hlk hk8 v0 v1 v2 v3 v4 v5 (0 : Int32) w hX)
def s_Mo_drawIn_8 (k8 : Nat → Int32 → Int32 → Int32 → Int32 → Int32 → am_w → Option (Int32 × am_w)) (v0 : Nat) (v1 : Int32) (v2 : Int32) (v3 : Int32) (v4 : Int32) (v5 : Int32) (w : am_w) : Option (Int32 × am_w) := ((am_fg 7 9 v0 w).bind fun x1 => (if x1 ≤ v5 then (if v4 = 0 then (some ((-1 : Int32), w)) else (some (v3, w))) else ((am_ob 7 v0 w (f_Mo_isRunningOr v0 v5 v2 w)).bind fun q2 => (if q2.1 = 0 then (s_Mo_drawIn_42 k8 v0 v1 v2 v3 v4 v5 q2.2) else ((am_ob 7 v0 q2.2 (f_Mo_leftOf v0 v5 v2 q2.2)).bind fun q5 => (if q5.1 < v1 then (s_Mo_drawIn_42 k8 v0 v1 v2 v3 v4 v5 q5.2) else (s_Mo_drawIn_43 k8 v0 v1 v2 v3 v4 v5 (1 : Int32) q5.2)))))))
def f_Mo_drawIn_8  (n : Nat) : Nat → Int32 → Int32 → Int32 → Int32 → Int32 → am_w → Option (Int32 × am_w) := am_it (fun _ _ _ _ _ _ _ => none) (s_Mo_drawIn_8 ) n
set_option maxHeartbeats 4000000 in
theorem L_Mo_drawIn_8 {p : Program} {l : Launch} {e : Env} {s : State} {m : MethodId} {args : Array Value} {below : List Frame} {meth : Method} {c : Code} {D : va_G} {A : Nat → Prop} {r : Int32 × am_w} (C : am_C p m c b_Mo_drawIn 7 s args am_W "RoverMinutesModel" D classes A) (hret : meth.sig.returnType = (some .int)) (hlk : meth.locks = false)   (n : Nat) : ∀ (v0 : Nat) (v1 : Int32) (v2 : Int32) (v3 : Int32) (v4 : Int32) (v5 : Int32) (w : am_w), f_Mo_drawIn_8  n v0 v1 v2 v3 v4 v5 w = some r → am_V p l e rm_Mo_drawIn s m args below meth c D classes tys A (am_F A false) 7 0 0 (MQ below (am_Q D classes tys A (am_F A false) (am_ri r)) args s 0 0 (am_F A false)) 8 [some (.ref v0), some (.int v1), some (.int v2), some (.int v3), some (.int v4), some (.int v5), none] [] w := by
  refine am_it_ind (P := fun (t : Nat → Int32 → Int32 → Int32 → Int32 → Int32 → am_w → Option (Int32 × am_w)) => ∀ (v0 : Nat) (v1 : Int32) (v2 : Int32) (v3 : Int32) (v4 : Int32) (v5 : Int32) (w : am_w), t v0 v1 v2 v3 v4 v5 w = some r → am_V p l e rm_Mo_drawIn s m args below meth c D classes tys A (am_F A false) 7 0 0 (MQ below (am_Q D classes tys A (am_F A false) (am_ri r)) args s 0 0 (am_F A false)) 8 [some (.ref v0), some (.int v1), some (.int v2), some (.int v3), some (.int v4), some (.int v5), none] [] w) ?_ ?_ n
  · intro v0 v1 v2 v3 v4 v5 w hX
    exact (am_nn hX).elim
  · intro k8 hk8 v0 v1 v2 v3 v4 v5 w hX
    unfold s_Mo_drawIn_8 at hX
    refine am_iload (pc := 8) C d_Mo_drawIn_8 rfl ?_
    refine am_aload_n (pc := 10) C d_Mo_drawIn_10 rfl rfl ?_
    refine am_get (pc := 11) C hin_Mo rfl (by decide) wd_4_109 rfl d_Mo_drawIn_11 rfl hX (fun x1 hX => ?_)
    refine am_icmp_ge (pc := 14) (tgt := 90) C d_Mo_drawIn_14 rfl hX (fun hX => ?_) (fun hX => ?_)
    · skip
      refine am_iload (pc := 90) C d_Mo_drawIn_90 rfl ?_
      refine am_if_eq (pc := 92) (tgt := 99) C d_Mo_drawIn_92 rfl hX (fun hX => ?_) (fun hX => ?_)
      · skip
        refine am_iconst (pc := 99) (v := (-1 : Int32)) C d_Mo_drawIn_99 (by decide) ?_
        exact am_iret (pc := 100) C hret hlk d_Mo_drawIn_100 rfl (by decide) (by decide) hX
      · skip
        refine am_iload_n (pc := 95) C d_Mo_drawIn_95 rfl rfl ?_
        refine am_goto (pc := 96) (tgt := 100) C d_Mo_drawIn_96 rfl ?_
        exact am_iret (pc := 100) C hret hlk d_Mo_drawIn_100 rfl (by decide) (by decide) hX
    · skip
      refine am_aload_n (pc := 17) C d_Mo_drawIn_17 rfl rfl ?_
      refine am_iload (pc := 18) C d_Mo_drawIn_18 rfl ?_
      refine am_iload_n (pc := 20) C d_Mo_drawIn_20 rfl rfl ?_
      refine am_callVi (pc := 21) (As := [.int v5, .int v2]) (st := []) (cells1 := 0) (slots1 := 0) C (fun _ h => h.2) (fun _ h => by cases h.1) (fun q h => c_Mo_isRunningOr h) wd_5_53 wd_5_55 ws_Mo_isRunningOr wd_1_9 wd_5_56 rfl rfl hd_Mo_isRunningOr ⟨by decide, by decide⟩ rfl rfl (Nat.le_of_ble_eq_true rfl) d_Mo_drawIn_21 ⟨by decide, by decide⟩ rfl rfl rfl hX (fun q2 hX => ?_)
      refine am_if_eq (pc := 24) (tgt := 42) C d_Mo_drawIn_24 rfl hX (fun hX => ?_) (fun hX => ?_)
      · skip
        exact (L_Mo_drawIn_42 C hret hlk hk8 v0 v1 v2 v3 v4 v5 q2.2 hX)
      · skip
        refine am_aload_n (pc := 27) C d_Mo_drawIn_27 rfl rfl ?_
        refine am_iload (pc := 28) C d_Mo_drawIn_28 rfl ?_
        refine am_iload_n (pc := 30) C d_Mo_drawIn_30 rfl rfl ?_
        refine am_callVi (pc := 31) (As := [.int v5, .int v2]) (st := []) (cells1 := 0) (slots1 := 0) C (fun _ h => h.2) (fun _ h => by cases h.1) (fun q h => c_Mo_leftOf h) wd_5_57 wd_5_59 ws_Mo_leftOf wd_1_9 wd_5_60 rfl rfl hd_Mo_leftOf ⟨by decide, by decide⟩ rfl rfl (Nat.le_of_ble_eq_true rfl) d_Mo_drawIn_31 ⟨by decide, by decide⟩ rfl rfl rfl hX (fun q5 hX => ?_)
        refine am_iload_n (pc := 34) C d_Mo_drawIn_34 rfl rfl ?_
        refine am_icmp_lt (pc := 35) (tgt := 42) C d_Mo_drawIn_35 rfl hX (fun hX => ?_) (fun hX => ?_)
        · skip
          exact (L_Mo_drawIn_42 C hret hlk hk8 v0 v1 v2 v3 v4 v5 q5.2 hX)
        · skip
          refine am_iconst (pc := 38) (v := (1 : Int32)) C d_Mo_drawIn_38 (by decide) ?_
          refine am_goto (pc := 39) (tgt := 43) C d_Mo_drawIn_39 rfl ?_
          exact (L_Mo_drawIn_43 C hret hlk hk8 v0 v1 v2 v3 v4 v5 (1 : Int32) q5.2 hX)
def f_Mo_drawIn (a0 : Nat) (a1 : Int32) (a2 : Int32) (w : am_w) : Option (Int32 × am_w) := (f_Mo_drawIn_8  70 a0 a1 a2 (0 : Int32) (0 : Int32) (0 : Int32) w)
theorem hd_Mo_drawIn : y_Mo_drawIn.cls = "RoverMinutesModel" ∧ y_Mo_drawIn.cls ≠ "java/lang/invoke/MethodHandle" ∧ y_Mo_drawIn.cls ≠ "java/lang/invoke/VarHandle" ∧ (parseMethodDescriptor y_Mo_drawIn.desc).map (fun d => d.parameters.length) = some 2 := ⟨rfl, by decide, by decide, by decide +kernel⟩
set_option maxHeartbeats 4000000 in
theorem c_Mo_drawIn {l : Launch} {D : va_G} {A : Nat → Prop} {a0 : Nat} {a1 : Int32} {a2 : Int32} {w : am_w} {r : Int32 × am_w} (hX : f_Mo_drawIn a0 a1 a2 w = some r) : am_Met l D classes tys A (am_F A false) y_Mo_drawIn (Cond.code y_Mo_drawIn b_Mo_drawIn 7 (some .int) :: am_W) rm_Mo_drawIn [.ref a0, .int a1, .int a2] w (am_ri r) 0 0 := by
  refine am_ofV (by decide) am_W_good (Nat.le_of_ble_eq_true rfl) (by simp [Value.category]) ?_
  intro p e s m below meth c C hret hlk hnm
  unfold f_Mo_drawIn at hX
  refine am_iconst (pc := 0) (v := (0 : Int32)) C d_Mo_drawIn_0 (by decide) ?_
  refine am_istore_n (pc := 1) (lo1 := [some (.ref a0), some (.int a1), some (.int a2), some (.int (0 : Int32)), none, none, none]) C d_Mo_drawIn_1 rfl (by decide) rfl ?_
  refine am_iconst (pc := 2) (v := (0 : Int32)) C d_Mo_drawIn_2 (by decide) ?_
  refine am_istore (pc := 3) (lo1 := [some (.ref a0), some (.int a1), some (.int a2), some (.int (0 : Int32)), some (.int (0 : Int32)), none, none]) C d_Mo_drawIn_3 (by decide) rfl ?_
  refine am_iconst (pc := 5) (v := (0 : Int32)) C d_Mo_drawIn_5 (by decide) ?_
  refine am_istore (pc := 6) (lo1 := [some (.ref a0), some (.int a1), some (.int a2), some (.int (0 : Int32)), some (.int (0 : Int32)), some (.int (0 : Int32)), none]) C d_Mo_drawIn_6 (by decide) rfl ?_
  exact (L_Mo_drawIn_8 C hret hlk  70 a0 a1 a2 (0 : Int32) (0 : Int32) (0 : Int32) w hX)
def rm_Mo_holds : Room := { frames := 2, cells := 0, slots := 0, locals := 49 }
def s_Mo_holds_111 (k111 : Nat → Int32 → Int32 → Int32 → Int32 → am_w → Option (Int32 × am_w)) (v0 : Nat) (v1 : Int32) (v4 : Int32) (v5 : Int32) (v6 : Int32) (w : am_w) : Option (Int32 × am_w) := (if (30 : Int32) < v6 then (if v5 &&& 1 = v5 then some (v5, w) else none) else (if v5 = 0 then (if v5 &&& 1 = v5 then some (v5, w) else none) else ((am_ob 7 v0 w (f_Mo_drawIn v0 v6 v1 w)).bind fun q4 => (if q4.1 < 0 then (if v5 &&& 1 = v5 then some (v5, q4.2) else none) else ((am_fg 7 21 v0 q4.2).bind fun x5 => ((am_ob 7 v0 q4.2 (f_Mo_drawIn v0 v6 v1 q4.2)).bind fun q6 => ((am_ob 7 v0 q6.2 (f_Mo_afterMinute v0 v4 (x5 + v6) q6.1 q6.2)).bind fun q7 => (if q7.1 < 0 then (k111 v0 v1 q7.1 (0 : Int32) (v6 + (1 : Int32)) q7.2) else ((am_fg 7 21 v0 q7.2).bind fun x8 => ((am_ob 7 v0 q7.2 (f_Mo_isOpen v0 q7.1 (x8 + v6) q7.2)).bind fun q9 => (if q9.1 = 0 then (k111 v0 v1 q7.1 (0 : Int32) (v6 + (1 : Int32)) q9.2) else (k111 v0 v1 q7.1 (1 : Int32) (v6 + (1 : Int32)) q9.2))))))))))))
def f_Mo_holds_111  (n : Nat) : Nat → Int32 → Int32 → Int32 → Int32 → am_w → Option (Int32 × am_w) := am_it (fun _ _ _ _ _ _ => none) (s_Mo_holds_111 ) n
set_option maxHeartbeats 4000000 in
theorem L_Mo_holds_111 {p : Program} {l : Launch} {e : Env} {s : State} {m : MethodId} {args : Array Value} {below : List Frame} {meth : Method} {c : Code} {D : va_G} {A : Nat → Prop} {r : Int32 × am_w} (C : am_C p m c b_Mo_holds 7 s args am_W "RoverMinutesModel" D classes A) (hret : meth.sig.returnType = (some .boolean)) (hlk : meth.locks = false)   (n : Nat) : ∀ (v0 : Nat) (v1 : Int32) (v4 : Int32) (v5 : Int32) (v6 : Int32) (w : am_w), f_Mo_holds_111  n v0 v1 v4 v5 v6 w = some r → am_V p l e rm_Mo_holds s m args below meth c D classes tys A (am_F A false) 7 0 0 (MQ below (am_Q D classes tys A (am_F A false) (am_ri r)) args s 0 0 (am_F A false)) 111 [some (.ref v0), some (.int v1), none, none, some (.int v4), some (.int v5), some (.int v6)] [] w := by
  refine am_it_ind (P := fun (t : Nat → Int32 → Int32 → Int32 → Int32 → am_w → Option (Int32 × am_w)) => ∀ (v0 : Nat) (v1 : Int32) (v4 : Int32) (v5 : Int32) (v6 : Int32) (w : am_w), t v0 v1 v4 v5 v6 w = some r → am_V p l e rm_Mo_holds s m args below meth c D classes tys A (am_F A false) 7 0 0 (MQ below (am_Q D classes tys A (am_F A false) (am_ri r)) args s 0 0 (am_F A false)) 111 [some (.ref v0), some (.int v1), none, none, some (.int v4), some (.int v5), some (.int v6)] [] w) ?_ ?_ n
  · intro v0 v1 v4 v5 v6 w hX
    exact (am_nn hX).elim
  · intro k111 hk111 v0 v1 v4 v5 v6 w hX
    unfold s_Mo_holds_111 at hX
    refine am_iload (pc := 111) C d_Mo_holds_111 rfl ?_
    refine am_bipush (pc := 113) (v := (30 : Int32)) C d_Mo_holds_113 (by decide) ?_
    refine am_icmp_gt (pc := 115) (tgt := 189) C d_Mo_holds_115 rfl hX (fun hX => ?_) (fun hX => ?_)
    · skip
      refine am_iload (pc := 189) C d_Mo_holds_189 rfl ?_
      exact am_zret (pc := 191) C hret hlk d_Mo_holds_191 (by decide) (by decide) hX
    · skip
      refine am_iload (pc := 118) C d_Mo_holds_118 rfl ?_
      refine am_if_eq (pc := 120) (tgt := 189) C d_Mo_holds_120 rfl hX (fun hX => ?_) (fun hX => ?_)
      · skip
        refine am_iload (pc := 189) C d_Mo_holds_189 rfl ?_
        exact am_zret (pc := 191) C hret hlk d_Mo_holds_191 (by decide) (by decide) hX
      · skip
        refine am_aload_n (pc := 123) C d_Mo_holds_123 rfl rfl ?_
        refine am_iload (pc := 124) C d_Mo_holds_124 rfl ?_
        refine am_iload_n (pc := 126) C d_Mo_holds_126 rfl rfl ?_
        refine am_callVi (pc := 127) (As := [.int v6, .int v1]) (st := []) (cells1 := 0) (slots1 := 0) C (fun _ h => h.2) (fun _ h => by cases h.1) (fun q h => c_Mo_drawIn h) wd_5_61 wd_5_63 ws_Mo_drawIn wd_1_9 wd_5_64 rfl rfl hd_Mo_drawIn ⟨by decide, by decide⟩ rfl rfl (Nat.le_of_ble_eq_true rfl) d_Mo_holds_127 ⟨by decide, by decide⟩ rfl rfl rfl hX (fun q4 hX => ?_)
        refine am_if_lt (pc := 130) (tgt := 189) C d_Mo_holds_130 rfl hX (fun hX => ?_) (fun hX => ?_)
        · skip
          refine am_iload (pc := 189) C d_Mo_holds_189 rfl ?_
          exact am_zret (pc := 191) C hret hlk d_Mo_holds_191 (by decide) (by decide) hX
        · skip
          refine am_aload_n (pc := 133) C d_Mo_holds_133 rfl rfl ?_
          refine am_iload (pc := 134) C d_Mo_holds_134 rfl ?_
          refine am_aload_n (pc := 136) C d_Mo_holds_136 rfl rfl ?_
          refine am_get (pc := 137) C hin_Mo rfl (by decide) wd_4_121 rfl d_Mo_holds_137 rfl hX (fun x5 hX => ?_)
          refine am_iload (pc := 140) C d_Mo_holds_140 rfl ?_
          refine am_iadd (pc := 142) C d_Mo_holds_142 ?_
          refine am_aload_n (pc := 143) C d_Mo_holds_143 rfl rfl ?_
          refine am_iload (pc := 144) C d_Mo_holds_144 rfl ?_
          refine am_iload_n (pc := 146) C d_Mo_holds_146 rfl rfl ?_
          refine am_callVi (pc := 147) (As := [.int v6, .int v1]) (st := [.int (x5 + v6), .int v4, .ref v0]) (cells1 := 0) (slots1 := 0) C (fun _ h => h.2) (fun _ h => by cases h.1) (fun q h => c_Mo_drawIn h) wd_5_61 wd_5_63 ws_Mo_drawIn wd_1_9 wd_5_64 rfl rfl hd_Mo_drawIn ⟨by decide, by decide⟩ rfl rfl (Nat.le_of_ble_eq_true rfl) d_Mo_holds_147 ⟨by decide, by decide⟩ rfl rfl rfl hX (fun q6 hX => ?_)
          refine am_callVi (pc := 150) (As := [.int v4, .int (x5 + v6), .int q6.1]) (st := []) (cells1 := 0) (slots1 := 0) C (fun _ h => h.2) (fun _ h => by cases h.1) (fun q h => c_Mo_afterMinute h) wd_5_29 wd_5_31 ws_Mo_afterMinute wd_1_9 wd_5_32 rfl rfl hd_Mo_afterMinute ⟨by decide, by decide⟩ rfl rfl (Nat.le_of_ble_eq_true rfl) d_Mo_holds_150 ⟨by decide, by decide⟩ rfl rfl rfl hX (fun q7 hX => ?_)
          refine am_istore (pc := 153) (lo1 := [some (.ref v0), some (.int v1), none, none, some (.int q7.1), some (.int v5), some (.int v6)]) C d_Mo_holds_153 (by decide) rfl ?_
          refine am_iload (pc := 155) C d_Mo_holds_155 rfl ?_
          refine am_if_lt (pc := 157) (tgt := 180) C d_Mo_holds_157 rfl hX (fun hX => ?_) (fun hX => ?_)
          · skip
            refine am_iconst (pc := 180) (v := (0 : Int32)) C d_Mo_holds_180 (by decide) ?_
            refine am_istore (pc := 181) (lo1 := [some (.ref v0), some (.int v1), none, none, some (.int q7.1), some (.int (0 : Int32)), some (.int v6)]) C d_Mo_holds_181 (by decide) rfl ?_
            refine am_iinc (pc := 183) (y := (1 : Int32)) (lo1 := [some (.ref v0), some (.int v1), none, none, some (.int q7.1), some (.int (0 : Int32)), some (.int (v6 + (1 : Int32)))]) C d_Mo_holds_183 rfl (by decide) (by decide) rfl ?_
            refine am_goto (pc := 186) (tgt := 111) C d_Mo_holds_186 rfl ?_
            exact (hk111 v0 v1 q7.1 (0 : Int32) (v6 + (1 : Int32)) q7.2 hX)
          · skip
            refine am_aload_n (pc := 160) C d_Mo_holds_160 rfl rfl ?_
            refine am_iload (pc := 161) C d_Mo_holds_161 rfl ?_
            refine am_aload_n (pc := 163) C d_Mo_holds_163 rfl rfl ?_
            refine am_get (pc := 164) C hin_Mo rfl (by decide) wd_4_121 rfl d_Mo_holds_164 rfl hX (fun x8 hX => ?_)
            refine am_iload (pc := 167) C d_Mo_holds_167 rfl ?_
            refine am_iadd (pc := 169) C d_Mo_holds_169 ?_
            refine am_callVi (pc := 170) (As := [.int q7.1, .int (x8 + v6)]) (st := []) (cells1 := 0) (slots1 := 0) C (fun _ h => h.2) (fun _ h => by cases h.1) (fun q h => c_Mo_isOpen h) wd_5_25 wd_5_27 ws_Mo_isOpen wd_1_9 wd_5_28 rfl rfl hd_Mo_isOpen ⟨by decide, by decide⟩ rfl rfl (Nat.le_of_ble_eq_true rfl) d_Mo_holds_170 ⟨by decide, by decide⟩ rfl rfl rfl hX (fun q9 hX => ?_)
            refine am_if_eq (pc := 173) (tgt := 180) C d_Mo_holds_173 rfl hX (fun hX => ?_) (fun hX => ?_)
            · skip
              refine am_iconst (pc := 180) (v := (0 : Int32)) C d_Mo_holds_180 (by decide) ?_
              refine am_istore (pc := 181) (lo1 := [some (.ref v0), some (.int v1), none, none, some (.int q7.1), some (.int (0 : Int32)), some (.int v6)]) C d_Mo_holds_181 (by decide) rfl ?_
              refine am_iinc (pc := 183) (y := (1 : Int32)) (lo1 := [some (.ref v0), some (.int v1), none, none, some (.int q7.1), some (.int (0 : Int32)), some (.int (v6 + (1 : Int32)))]) C d_Mo_holds_183 rfl (by decide) (by decide) rfl ?_
              refine am_goto (pc := 186) (tgt := 111) C d_Mo_holds_186 rfl ?_
              exact (hk111 v0 v1 q7.1 (0 : Int32) (v6 + (1 : Int32)) q9.2 hX)
            · skip
              refine am_iconst (pc := 176) (v := (1 : Int32)) C d_Mo_holds_176 (by decide) ?_
              refine am_goto (pc := 177) (tgt := 181) C d_Mo_holds_177 rfl ?_
              refine am_istore (pc := 181) (lo1 := [some (.ref v0), some (.int v1), none, none, some (.int q7.1), some (.int (1 : Int32)), some (.int v6)]) C d_Mo_holds_181 (by decide) rfl ?_
              refine am_iinc (pc := 183) (y := (1 : Int32)) (lo1 := [some (.ref v0), some (.int v1), none, none, some (.int q7.1), some (.int (1 : Int32)), some (.int (v6 + (1 : Int32)))]) C d_Mo_holds_183 rfl (by decide) (by decide) rfl ?_
              refine am_goto (pc := 186) (tgt := 111) C d_Mo_holds_186 rfl ?_
              exact (hk111 v0 v1 q7.1 (1 : Int32) (v6 + (1 : Int32)) q9.2 hX)
def s_Mo_holds_10 (k10 : Nat → Int32 → Int32 → Int32 → Int32 → am_w → Option (Int32 × am_w)) (v0 : Nat) (v1 : Int32) (v2 : Int32) (v3 : Int32) (v4 : Int32) (w : am_w) : Option (Int32 × am_w) := ((am_fg 7 9 v0 w).bind fun x2 => (if x2 ≤ v4 then ((am_fg 7 23 v0 w).bind fun x3 => (if (100 : Int32) < v2 then (f_Mo_holds_111  70 v0 v1 x3 (0 : Int32) (1 : Int32) w) else (if (500 : Int32) < v3 then (f_Mo_holds_111  70 v0 v1 x3 (0 : Int32) (1 : Int32) w) else ((am_fg 7 21 v0 w).bind fun x10 => ((am_ob 7 v0 w (f_Mo_isOpen v0 x3 x10 w)).bind fun q11 => (if q11.1 = 0 then (f_Mo_holds_111  70 v0 v1 x3 (0 : Int32) (1 : Int32) q11.2) else (f_Mo_holds_111  70 v0 v1 x3 (1 : Int32) (1 : Int32) q11.2))))))) else ((am_ob 7 v0 w (f_Mo_isRunningOr v0 v4 v1 w)).bind fun q12 => (if q12.1 = 0 then (k10 v0 v1 v2 v3 (v4 + (1 : Int32)) q12.2) else ((am_rg 7 10 v0 q12.2).bind fun b13 => ((am_ig b13 ((32 : Int32) + v4) q12.2).bind fun x14 => ((am_rg 7 10 v0 q12.2).bind fun b15 => ((am_ig b15 ((24 : Int32) + v4) q12.2).bind fun x16 => ((am_ob 7 v0 q12.2 (f_Mo_leftOf v0 v4 v1 q12.2)).bind fun q17 => (k10 v0 v1 (v2 + x14) (v3 + (x16 * q17.1)) (v4 + (1 : Int32)) q17.2))))))))))
def f_Mo_holds_10  (n : Nat) : Nat → Int32 → Int32 → Int32 → Int32 → am_w → Option (Int32 × am_w) := am_it (fun _ _ _ _ _ _ => none) (s_Mo_holds_10 ) n
set_option maxHeartbeats 4000000 in
theorem L_Mo_holds_10 {p : Program} {l : Launch} {e : Env} {s : State} {m : MethodId} {args : Array Value} {below : List Frame} {meth : Method} {c : Code} {D : va_G} {A : Nat → Prop} {r : Int32 × am_w} (C : am_C p m c b_Mo_holds 7 s args am_W "RoverMinutesModel" D classes A) (hret : meth.sig.returnType = (some .boolean)) (hlk : meth.locks = false)   (n : Nat) : ∀ (v0 : Nat) (v1 : Int32) (v2 : Int32) (v3 : Int32) (v4 : Int32) (w : am_w), f_Mo_holds_10  n v0 v1 v2 v3 v4 w = some r → am_V p l e rm_Mo_holds s m args below meth c D classes tys A (am_F A false) 7 0 0 (MQ below (am_Q D classes tys A (am_F A false) (am_ri r)) args s 0 0 (am_F A false)) 10 [some (.ref v0), some (.int v1), some (.int v2), some (.int v3), some (.int v4), none, none] [] w := by
  refine am_it_ind (P := fun (t : Nat → Int32 → Int32 → Int32 → Int32 → am_w → Option (Int32 × am_w)) => ∀ (v0 : Nat) (v1 : Int32) (v2 : Int32) (v3 : Int32) (v4 : Int32) (w : am_w), t v0 v1 v2 v3 v4 w = some r → am_V p l e rm_Mo_holds s m args below meth c D classes tys A (am_F A false) 7 0 0 (MQ below (am_Q D classes tys A (am_F A false) (am_ri r)) args s 0 0 (am_F A false)) 10 [some (.ref v0), some (.int v1), some (.int v2), some (.int v3), some (.int v4), none, none] [] w) ?_ ?_ n
  · intro v0 v1 v2 v3 v4 w hX
    exact (am_nn hX).elim
  · intro k10 hk10 v0 v1 v2 v3 v4 w hX
    unfold s_Mo_holds_10 at hX
    refine am_iload (pc := 10) C d_Mo_holds_10 rfl ?_
    refine am_aload_n (pc := 12) C d_Mo_holds_12 rfl rfl ?_
    refine am_get (pc := 13) C hin_Mo rfl (by decide) wd_4_109 rfl d_Mo_holds_13 rfl hX (fun x2 hX => ?_)
    refine am_icmp_ge (pc := 16) (tgt := 69) C d_Mo_holds_16 rfl hX (fun hX => ?_) (fun hX => ?_)
    · skip
      refine am_aload_n (pc := 69) C d_Mo_holds_69 rfl rfl ?_
      refine am_get (pc := 70) C hin_Mo rfl (by decide) wd_4_123 rfl d_Mo_holds_70 rfl hX (fun x3 hX => ?_)
      refine am_istore (pc := 73) (lo1 := [some (.ref v0), some (.int v1), some (.int v2), some (.int v3), some (.int x3), none, none]) C d_Mo_holds_73 (by decide) rfl ?_
      refine am_iload_n (pc := 75) C d_Mo_holds_75 rfl rfl ?_
      refine am_bipush (pc := 76) (v := (100 : Int32)) C d_Mo_holds_76 (by decide) ?_
      refine am_icmp_gt (pc := 78) (tgt := 105) C d_Mo_holds_78 rfl hX (fun hX => ?_) (fun hX => ?_)
      · skip
        refine am_iconst (pc := 105) (v := (0 : Int32)) C d_Mo_holds_105 (by decide) ?_
        refine am_istore (pc := 106) (lo1 := [some (.ref v0), some (.int v1), some (.int v2), some (.int v3), some (.int x3), some (.int (0 : Int32)), none]) C d_Mo_holds_106 (by decide) rfl ?_
        refine am_iconst (pc := 108) (v := (1 : Int32)) C d_Mo_holds_108 (by decide) ?_
        refine am_istore (pc := 109) (lo1 := [some (.ref v0), some (.int v1), some (.int v2), some (.int v3), some (.int x3), some (.int (0 : Int32)), some (.int (1 : Int32))]) C d_Mo_holds_109 (by decide) rfl ?_
        exact am_sub (am_le_s (am_le_s (am_le_n (am_le_n (am_le_s (am_le_s (am_le_s (am_le_0)))))))) (L_Mo_holds_111 C hret hlk  70 v0 v1 x3 (0 : Int32) (1 : Int32) w hX)
      · skip
        refine am_iload_n (pc := 81) C d_Mo_holds_81 rfl rfl ?_
        refine am_sipush (pc := 82) (v := (500 : Int32)) C d_Mo_holds_82 (by decide) ?_
        refine am_icmp_gt (pc := 85) (tgt := 105) C d_Mo_holds_85 rfl hX (fun hX => ?_) (fun hX => ?_)
        · skip
          refine am_iconst (pc := 105) (v := (0 : Int32)) C d_Mo_holds_105 (by decide) ?_
          refine am_istore (pc := 106) (lo1 := [some (.ref v0), some (.int v1), some (.int v2), some (.int v3), some (.int x3), some (.int (0 : Int32)), none]) C d_Mo_holds_106 (by decide) rfl ?_
          refine am_iconst (pc := 108) (v := (1 : Int32)) C d_Mo_holds_108 (by decide) ?_
          refine am_istore (pc := 109) (lo1 := [some (.ref v0), some (.int v1), some (.int v2), some (.int v3), some (.int x3), some (.int (0 : Int32)), some (.int (1 : Int32))]) C d_Mo_holds_109 (by decide) rfl ?_
          exact am_sub (am_le_s (am_le_s (am_le_n (am_le_n (am_le_s (am_le_s (am_le_s (am_le_0)))))))) (L_Mo_holds_111 C hret hlk  70 v0 v1 x3 (0 : Int32) (1 : Int32) w hX)
        · skip
          refine am_aload_n (pc := 88) C d_Mo_holds_88 rfl rfl ?_
          refine am_iload (pc := 89) C d_Mo_holds_89 rfl ?_
          refine am_aload_n (pc := 91) C d_Mo_holds_91 rfl rfl ?_
          refine am_get (pc := 92) C hin_Mo rfl (by decide) wd_4_121 rfl d_Mo_holds_92 rfl hX (fun x10 hX => ?_)
          refine am_callVi (pc := 95) (As := [.int x3, .int x10]) (st := []) (cells1 := 0) (slots1 := 0) C (fun _ h => h.2) (fun _ h => by cases h.1) (fun q h => c_Mo_isOpen h) wd_5_25 wd_5_27 ws_Mo_isOpen wd_1_9 wd_5_28 rfl rfl hd_Mo_isOpen ⟨by decide, by decide⟩ rfl rfl (Nat.le_of_ble_eq_true rfl) d_Mo_holds_95 ⟨by decide, by decide⟩ rfl rfl rfl hX (fun q11 hX => ?_)
          refine am_if_eq (pc := 98) (tgt := 105) C d_Mo_holds_98 rfl hX (fun hX => ?_) (fun hX => ?_)
          · skip
            refine am_iconst (pc := 105) (v := (0 : Int32)) C d_Mo_holds_105 (by decide) ?_
            refine am_istore (pc := 106) (lo1 := [some (.ref v0), some (.int v1), some (.int v2), some (.int v3), some (.int x3), some (.int (0 : Int32)), none]) C d_Mo_holds_106 (by decide) rfl ?_
            refine am_iconst (pc := 108) (v := (1 : Int32)) C d_Mo_holds_108 (by decide) ?_
            refine am_istore (pc := 109) (lo1 := [some (.ref v0), some (.int v1), some (.int v2), some (.int v3), some (.int x3), some (.int (0 : Int32)), some (.int (1 : Int32))]) C d_Mo_holds_109 (by decide) rfl ?_
            exact am_sub (am_le_s (am_le_s (am_le_n (am_le_n (am_le_s (am_le_s (am_le_s (am_le_0)))))))) (L_Mo_holds_111 C hret hlk  70 v0 v1 x3 (0 : Int32) (1 : Int32) q11.2 hX)
          · skip
            refine am_iconst (pc := 101) (v := (1 : Int32)) C d_Mo_holds_101 (by decide) ?_
            refine am_goto (pc := 102) (tgt := 106) C d_Mo_holds_102 rfl ?_
            refine am_istore (pc := 106) (lo1 := [some (.ref v0), some (.int v1), some (.int v2), some (.int v3), some (.int x3), some (.int (1 : Int32)), none]) C d_Mo_holds_106 (by decide) rfl ?_
            refine am_iconst (pc := 108) (v := (1 : Int32)) C d_Mo_holds_108 (by decide) ?_
            refine am_istore (pc := 109) (lo1 := [some (.ref v0), some (.int v1), some (.int v2), some (.int v3), some (.int x3), some (.int (1 : Int32)), some (.int (1 : Int32))]) C d_Mo_holds_109 (by decide) rfl ?_
            exact am_sub (am_le_s (am_le_s (am_le_n (am_le_n (am_le_s (am_le_s (am_le_s (am_le_0)))))))) (L_Mo_holds_111 C hret hlk  70 v0 v1 x3 (1 : Int32) (1 : Int32) q11.2 hX)
    · skip
      refine am_aload_n (pc := 19) C d_Mo_holds_19 rfl rfl ?_
      refine am_iload (pc := 20) C d_Mo_holds_20 rfl ?_
      refine am_iload_n (pc := 22) C d_Mo_holds_22 rfl rfl ?_
      refine am_callVi (pc := 23) (As := [.int v4, .int v1]) (st := []) (cells1 := 0) (slots1 := 0) C (fun _ h => h.2) (fun _ h => by cases h.1) (fun q h => c_Mo_isRunningOr h) wd_5_53 wd_5_55 ws_Mo_isRunningOr wd_1_9 wd_5_56 rfl rfl hd_Mo_isRunningOr ⟨by decide, by decide⟩ rfl rfl (Nat.le_of_ble_eq_true rfl) d_Mo_holds_23 ⟨by decide, by decide⟩ rfl rfl rfl hX (fun q12 hX => ?_)
      refine am_if_eq (pc := 26) (tgt := 63) C d_Mo_holds_26 rfl hX (fun hX => ?_) (fun hX => ?_)
      · skip
        refine am_iinc (pc := 63) (y := (1 : Int32)) (lo1 := [some (.ref v0), some (.int v1), some (.int v2), some (.int v3), some (.int (v4 + (1 : Int32))), none, none]) C d_Mo_holds_63 rfl (by decide) (by decide) rfl ?_
        refine am_goto (pc := 66) (tgt := 10) C d_Mo_holds_66 rfl ?_
        exact (hk10 v0 v1 v2 v3 (v4 + (1 : Int32)) q12.2 hX)
      · skip
        refine am_iload_n (pc := 29) C d_Mo_holds_29 rfl rfl ?_
        refine am_aload_n (pc := 30) C d_Mo_holds_30 rfl rfl ?_
        refine am_getr (pc := 31) C hin_Mo rfl (by decide) wd_4_110 rfl d_Mo_holds_31 rfl hX (fun b13 hX => ?_)
        refine am_bipush (pc := 34) (v := (32 : Int32)) C d_Mo_holds_34 (by decide) ?_
        refine am_iload (pc := 36) C d_Mo_holds_36 rfl ?_
        refine am_iadd (pc := 38) C d_Mo_holds_38 ?_
        refine am_iald (pc := 39) C d_Mo_holds_39 hX (fun x14 hX => ?_)
        refine am_iadd (pc := 40) C d_Mo_holds_40 ?_
        refine am_istore_n (pc := 41) (lo1 := [some (.ref v0), some (.int v1), some (.int (v2 + x14)), some (.int v3), some (.int v4), none, none]) C d_Mo_holds_41 rfl (by decide) rfl ?_
        refine am_iload_n (pc := 42) C d_Mo_holds_42 rfl rfl ?_
        refine am_aload_n (pc := 43) C d_Mo_holds_43 rfl rfl ?_
        refine am_getr (pc := 44) C hin_Mo rfl (by decide) wd_4_110 rfl d_Mo_holds_44 rfl hX (fun b15 hX => ?_)
        refine am_bipush (pc := 47) (v := (24 : Int32)) C d_Mo_holds_47 (by decide) ?_
        refine am_iload (pc := 49) C d_Mo_holds_49 rfl ?_
        refine am_iadd (pc := 51) C d_Mo_holds_51 ?_
        refine am_iald (pc := 52) C d_Mo_holds_52 hX (fun x16 hX => ?_)
        refine am_aload_n (pc := 53) C d_Mo_holds_53 rfl rfl ?_
        refine am_iload (pc := 54) C d_Mo_holds_54 rfl ?_
        refine am_iload_n (pc := 56) C d_Mo_holds_56 rfl rfl ?_
        refine am_callVi (pc := 57) (As := [.int v4, .int v1]) (st := [.int x16, .int v3]) (cells1 := 0) (slots1 := 0) C (fun _ h => h.2) (fun _ h => by cases h.1) (fun q h => c_Mo_leftOf h) wd_5_57 wd_5_59 ws_Mo_leftOf wd_1_9 wd_5_60 rfl rfl hd_Mo_leftOf ⟨by decide, by decide⟩ rfl rfl (Nat.le_of_ble_eq_true rfl) d_Mo_holds_57 ⟨by decide, by decide⟩ rfl rfl rfl hX (fun q17 hX => ?_)
        refine am_imul (pc := 60) C d_Mo_holds_60 ?_
        refine am_iadd (pc := 61) C d_Mo_holds_61 ?_
        refine am_istore_n (pc := 62) (lo1 := [some (.ref v0), some (.int v1), some (.int (v2 + x14)), some (.int (v3 + (x16 * q17.1))), some (.int v4), none, none]) C d_Mo_holds_62 rfl (by decide) rfl ?_
        refine am_iinc (pc := 63) (y := (1 : Int32)) (lo1 := [some (.ref v0), some (.int v1), some (.int (v2 + x14)), some (.int (v3 + (x16 * q17.1))), some (.int (v4 + (1 : Int32))), none, none]) C d_Mo_holds_63 rfl (by decide) (by decide) rfl ?_
        refine am_goto (pc := 66) (tgt := 10) C d_Mo_holds_66 rfl ?_
        exact (hk10 v0 v1 (v2 + x14) (v3 + (x16 * q17.1)) (v4 + (1 : Int32)) q17.2 hX)
def f_Mo_holds (a0 : Nat) (a1 : Int32) (w : am_w) : Option (Int32 × am_w) := ((am_fg 7 24 a0 w).bind fun x1 => (f_Mo_holds_10  70 a0 a1 (0 : Int32) x1 (0 : Int32) w))
theorem hd_Mo_holds : y_Mo_holds.cls = "RoverMinutesModel" ∧ y_Mo_holds.cls ≠ "java/lang/invoke/MethodHandle" ∧ y_Mo_holds.cls ≠ "java/lang/invoke/VarHandle" ∧ (parseMethodDescriptor y_Mo_holds.desc).map (fun d => d.parameters.length) = some 1 := ⟨rfl, by decide, by decide, by decide +kernel⟩
set_option maxHeartbeats 4000000 in
theorem c_Mo_holds {l : Launch} {D : va_G} {A : Nat → Prop} {a0 : Nat} {a1 : Int32} {w : am_w} {r : Int32 × am_w} (hX : f_Mo_holds a0 a1 w = some r) : am_Met l D classes tys A (am_F A false) y_Mo_holds (Cond.code y_Mo_holds b_Mo_holds 7 (some .boolean) :: am_W) rm_Mo_holds [.ref a0, .int a1] w (am_ri r) 0 0 := by
  refine am_ofV (by decide) am_W_good (Nat.le_of_ble_eq_true rfl) (by simp [Value.category]) ?_
  intro p e s m below meth c C hret hlk hnm
  unfold f_Mo_holds at hX
  refine am_iconst (pc := 0) (v := (0 : Int32)) C d_Mo_holds_0 (by decide) ?_
  refine am_istore_n (pc := 1) (lo1 := [some (.ref a0), some (.int a1), some (.int (0 : Int32)), none, none, none, none]) C d_Mo_holds_1 rfl (by decide) rfl ?_
  refine am_aload_n (pc := 2) C d_Mo_holds_2 rfl rfl ?_
  refine am_get (pc := 3) C hin_Mo rfl (by decide) wd_4_124 rfl d_Mo_holds_3 rfl hX (fun x1 hX => ?_)
  refine am_istore_n (pc := 6) (lo1 := [some (.ref a0), some (.int a1), some (.int (0 : Int32)), some (.int x1), none, none, none]) C d_Mo_holds_6 rfl (by decide) rfl ?_
  refine am_iconst (pc := 7) (v := (0 : Int32)) C d_Mo_holds_7 (by decide) ?_
  refine am_istore (pc := 8) (lo1 := [some (.ref a0), some (.int a1), some (.int (0 : Int32)), some (.int x1), some (.int (0 : Int32)), none, none]) C d_Mo_holds_8 (by decide) rfl ?_
  exact (L_Mo_holds_10 C hret hlk  70 a0 a1 (0 : Int32) x1 (0 : Int32) w hX)
def rm_Mo_howMany : Room := { frames := 0, cells := 0, slots := 0, locals := 0 }
def s_Mo_howMany_4 (k4 : Nat → Int32 → Int32 → Int32 → am_w → Option (Int32 × am_w)) (v0 : Nat) (v1 : Int32) (v2 : Int32) (v3 : Int32) (w : am_w) : Option (Int32 × am_w) := ((am_fg 7 9 v0 w).bind fun x1 => (if x1 ≤ v3 then (some (v2, w)) else ((am_rg 7 12 v0 w).bind fun b2 => ((am_ig b2 v3 w).bind fun x3 => (if x3 = v1 then (k4 v0 v1 (v2 + (1 : Int32)) (v3 + (1 : Int32)) w) else (k4 v0 v1 v2 (v3 + (1 : Int32)) w))))))
def f_Mo_howMany_4  (n : Nat) : Nat → Int32 → Int32 → Int32 → am_w → Option (Int32 × am_w) := am_it (fun _ _ _ _ _ => none) (s_Mo_howMany_4 ) n
set_option maxHeartbeats 4000000 in
theorem L_Mo_howMany_4 {p : Program} {l : Launch} {e : Env} {s : State} {m : MethodId} {args : Array Value} {below : List Frame} {meth : Method} {c : Code} {D : va_G} {A : Nat → Prop} {r : Int32 × am_w} (C : am_C p m c b_Mo_howMany 4 s args am_W "RoverMinutesModel" D classes A) (hret : meth.sig.returnType = (some .int)) (hlk : meth.locks = false)   (n : Nat) : ∀ (v0 : Nat) (v1 : Int32) (v2 : Int32) (v3 : Int32) (w : am_w), f_Mo_howMany_4  n v0 v1 v2 v3 w = some r → am_V p l e rm_Mo_howMany s m args below meth c D classes tys A (am_F A false) 4 0 0 (MQ below (am_Q D classes tys A (am_F A false) (am_ri r)) args s 0 0 (am_F A false)) 4 [some (.ref v0), some (.int v1), some (.int v2), some (.int v3)] [] w := by
  refine am_it_ind (P := fun (t : Nat → Int32 → Int32 → Int32 → am_w → Option (Int32 × am_w)) => ∀ (v0 : Nat) (v1 : Int32) (v2 : Int32) (v3 : Int32) (w : am_w), t v0 v1 v2 v3 w = some r → am_V p l e rm_Mo_howMany s m args below meth c D classes tys A (am_F A false) 4 0 0 (MQ below (am_Q D classes tys A (am_F A false) (am_ri r)) args s 0 0 (am_F A false)) 4 [some (.ref v0), some (.int v1), some (.int v2), some (.int v3)] [] w) ?_ ?_ n
  · intro v0 v1 v2 v3 w hX
    exact (am_nn hX).elim
  · intro k4 hk4 v0 v1 v2 v3 w hX
    unfold s_Mo_howMany_4 at hX
    refine am_iload_n (pc := 4) C d_Mo_howMany_4 rfl rfl ?_
    refine am_aload_n (pc := 5) C d_Mo_howMany_5 rfl rfl ?_
    refine am_get (pc := 6) C hin_Mo rfl (by decide) wd_4_109 rfl d_Mo_howMany_6 rfl hX (fun x1 hX => ?_)
    refine am_icmp_ge (pc := 9) (tgt := 36) C d_Mo_howMany_9 rfl hX (fun hX => ?_) (fun hX => ?_)
    · skip
      refine am_iload_n (pc := 36) C d_Mo_howMany_36 rfl rfl ?_
      exact am_iret (pc := 37) C hret hlk d_Mo_howMany_37 rfl (by decide) (by decide) hX
    · skip
      refine am_aload_n (pc := 12) C d_Mo_howMany_12 rfl rfl ?_
      refine am_getr (pc := 13) C hin_Mo rfl (by decide) wd_4_112 rfl d_Mo_howMany_13 rfl hX (fun b2 hX => ?_)
      refine am_iload_n (pc := 16) C d_Mo_howMany_16 rfl rfl ?_
      refine am_iald (pc := 17) C d_Mo_howMany_17 hX (fun x3 hX => ?_)
      refine am_iload_n (pc := 18) C d_Mo_howMany_18 rfl rfl ?_
      refine am_icmp_ne (pc := 19) (tgt := 28) C d_Mo_howMany_19 rfl hX (fun hX => ?_) (fun hX => ?_)
      · skip
        refine am_iload_n (pc := 28) C d_Mo_howMany_28 rfl rfl ?_
        refine am_istore_n (pc := 29) (lo1 := [some (.ref v0), some (.int v1), some (.int v2), some (.int v3)]) C d_Mo_howMany_29 rfl (by decide) rfl ?_
        refine am_iinc (pc := 30) (y := (1 : Int32)) (lo1 := [some (.ref v0), some (.int v1), some (.int v2), some (.int (v3 + (1 : Int32)))]) C d_Mo_howMany_30 rfl (by decide) (by decide) rfl ?_
        refine am_goto (pc := 33) (tgt := 4) C d_Mo_howMany_33 rfl ?_
        exact (hk4 v0 v1 v2 (v3 + (1 : Int32)) w hX)
      · skip
        refine am_iload_n (pc := 22) C d_Mo_howMany_22 rfl rfl ?_
        refine am_iconst (pc := 23) (v := (1 : Int32)) C d_Mo_howMany_23 (by decide) ?_
        refine am_iadd (pc := 24) C d_Mo_howMany_24 ?_
        refine am_goto (pc := 25) (tgt := 29) C d_Mo_howMany_25 rfl ?_
        refine am_istore_n (pc := 29) (lo1 := [some (.ref v0), some (.int v1), some (.int (v2 + (1 : Int32))), some (.int v3)]) C d_Mo_howMany_29 rfl (by decide) rfl ?_
        refine am_iinc (pc := 30) (y := (1 : Int32)) (lo1 := [some (.ref v0), some (.int v1), some (.int (v2 + (1 : Int32))), some (.int (v3 + (1 : Int32)))]) C d_Mo_howMany_30 rfl (by decide) (by decide) rfl ?_
        refine am_goto (pc := 33) (tgt := 4) C d_Mo_howMany_33 rfl ?_
        exact (hk4 v0 v1 (v2 + (1 : Int32)) (v3 + (1 : Int32)) w hX)
def f_Mo_howMany (a0 : Nat) (a1 : Int32) (w : am_w) : Option (Int32 × am_w) := (f_Mo_howMany_4  70 a0 a1 (0 : Int32) (0 : Int32) w)
theorem hd_Mo_howMany : y_Mo_howMany.cls = "RoverMinutesModel" ∧ y_Mo_howMany.cls ≠ "java/lang/invoke/MethodHandle" ∧ y_Mo_howMany.cls ≠ "java/lang/invoke/VarHandle" ∧ (parseMethodDescriptor y_Mo_howMany.desc).map (fun d => d.parameters.length) = some 1 := ⟨rfl, by decide, by decide, by decide +kernel⟩
set_option maxHeartbeats 4000000 in
theorem c_Mo_howMany {l : Launch} {D : va_G} {A : Nat → Prop} {a0 : Nat} {a1 : Int32} {w : am_w} {r : Int32 × am_w} (hX : f_Mo_howMany a0 a1 w = some r) : am_Met l D classes tys A (am_F A false) y_Mo_howMany (Cond.code y_Mo_howMany b_Mo_howMany 4 (some .int) :: am_W) rm_Mo_howMany [.ref a0, .int a1] w (am_ri r) 0 0 := by
  refine am_ofV (by decide) am_W_good (Nat.le_of_ble_eq_true rfl) (by simp [Value.category]) ?_
  intro p e s m below meth c C hret hlk hnm
  unfold f_Mo_howMany at hX
  refine am_iconst (pc := 0) (v := (0 : Int32)) C d_Mo_howMany_0 (by decide) ?_
  refine am_istore_n (pc := 1) (lo1 := [some (.ref a0), some (.int a1), some (.int (0 : Int32)), none]) C d_Mo_howMany_1 rfl (by decide) rfl ?_
  refine am_iconst (pc := 2) (v := (0 : Int32)) C d_Mo_howMany_2 (by decide) ?_
  refine am_istore_n (pc := 3) (lo1 := [some (.ref a0), some (.int a1), some (.int (0 : Int32)), some (.int (0 : Int32))]) C d_Mo_howMany_3 rfl (by decide) rfl ?_
  exact (L_Mo_howMany_4 C hret hlk  70 a0 a1 (0 : Int32) (0 : Int32) w hX)
def rm_Mo_hasIn : Room := { frames := 0, cells := 0, slots := 0, locals := 0 }
def s_Mo_hasIn_52 (k6 : Nat → Int32 → Int32 → Int32 → Int32 → Int32 → am_w → Option (Int32 × am_w)) (v0 : Nat) (v1 : Int32) (v2 : Int32) (v3 : Int32) (v5 : Int32) (w : am_w) : Option (Int32 × am_w) := (k6 v0 v1 v2 v3 (1 : Int32) (v5 + (1 : Int32)) w)
set_option maxHeartbeats 4000000 in
theorem L_Mo_hasIn_52 {p : Program} {l : Launch} {e : Env} {s : State} {m : MethodId} {args : Array Value} {below : List Frame} {meth : Method} {c : Code} {D : va_G} {A : Nat → Prop} {r : Int32 × am_w} (C : am_C p m c b_Mo_hasIn 6 s args am_W "RoverMinutesModel" D classes A) (hret : meth.sig.returnType = (some .boolean)) (hlk : meth.locks = false) {k6 : Nat → Int32 → Int32 → Int32 → Int32 → Int32 → am_w → Option (Int32 × am_w)} (hk6 : ∀ (v0 : Nat) (v1 : Int32) (v2 : Int32) (v3 : Int32) (v4 : Int32) (v5 : Int32) (w : am_w), k6 v0 v1 v2 v3 v4 v5 w = some r → am_V p l e rm_Mo_hasIn s m args below meth c D classes tys A (am_F A false) 6 0 0 (MQ below (am_Q D classes tys A (am_F A false) (am_ri r)) args s 0 0 (am_F A false)) 6 [some (.ref v0), some (.int v1), some (.int v2), some (.int v3), some (.int v4), some (.int v5)] [] w) : ∀ (v0 : Nat) (v1 : Int32) (v2 : Int32) (v3 : Int32) (v5 : Int32) (w : am_w), s_Mo_hasIn_52 k6 v0 v1 v2 v3 v5 w = some r → am_V p l e rm_Mo_hasIn s m args below meth c D classes tys A (am_F A false) 6 0 0 (MQ below (am_Q D classes tys A (am_F A false) (am_ri r)) args s 0 0 (am_F A false)) 52 [some (.ref v0), some (.int v1), some (.int v2), some (.int v3), none, some (.int v5)] [] w := by
  intro v0 v1 v2 v3 v5 w hX
  unfold s_Mo_hasIn_52 at hX
  refine am_iconst (pc := 52) (v := (1 : Int32)) C d_Mo_hasIn_52 (by decide) ?_
  refine am_goto (pc := 53) (tgt := 57) C d_Mo_hasIn_53 rfl ?_
  refine am_istore (pc := 57) (lo1 := [some (.ref v0), some (.int v1), some (.int v2), some (.int v3), some (.int (1 : Int32)), some (.int v5)]) C d_Mo_hasIn_57 (by decide) rfl ?_
  refine am_iinc (pc := 59) (y := (1 : Int32)) (lo1 := [some (.ref v0), some (.int v1), some (.int v2), some (.int v3), some (.int (1 : Int32)), some (.int (v5 + (1 : Int32)))]) C d_Mo_hasIn_59 rfl (by decide) (by decide) rfl ?_
  refine am_goto (pc := 62) (tgt := 6) C d_Mo_hasIn_62 rfl ?_
  exact (hk6 v0 v1 v2 v3 (1 : Int32) (v5 + (1 : Int32)) w hX)
def s_Mo_hasIn_6 (k6 : Nat → Int32 → Int32 → Int32 → Int32 → Int32 → am_w → Option (Int32 × am_w)) (v0 : Nat) (v1 : Int32) (v2 : Int32) (v3 : Int32) (v4 : Int32) (v5 : Int32) (w : am_w) : Option (Int32 × am_w) := ((am_fg 7 9 v0 w).bind fun x1 => (if x1 ≤ v5 then (if v4 &&& 1 = v4 then some (v4, w) else none) else (if v4 = 0 then (if ((v1 >>> (v5 &&& 31)) &&& (1 : Int32)) = (1 : Int32) then ((am_rg 7 12 v0 w).bind fun b2 => ((am_ig b2 v5 w).bind fun x3 => (if x3 = v2 then (s_Mo_hasIn_52 k6 v0 v1 v2 v3 v5 w) else ((am_rg 7 12 v0 w).bind fun b4 => ((am_ig b4 v5 w).bind fun x5 => (if x5 = v3 then (s_Mo_hasIn_52 k6 v0 v1 v2 v3 v5 w) else (k6 v0 v1 v2 v3 (0 : Int32) (v5 + (1 : Int32)) w))))))) else (k6 v0 v1 v2 v3 (0 : Int32) (v5 + (1 : Int32)) w)) else (s_Mo_hasIn_52 k6 v0 v1 v2 v3 v5 w))))
def f_Mo_hasIn_6  (n : Nat) : Nat → Int32 → Int32 → Int32 → Int32 → Int32 → am_w → Option (Int32 × am_w) := am_it (fun _ _ _ _ _ _ _ => none) (s_Mo_hasIn_6 ) n
set_option maxHeartbeats 4000000 in
theorem L_Mo_hasIn_6 {p : Program} {l : Launch} {e : Env} {s : State} {m : MethodId} {args : Array Value} {below : List Frame} {meth : Method} {c : Code} {D : va_G} {A : Nat → Prop} {r : Int32 × am_w} (C : am_C p m c b_Mo_hasIn 6 s args am_W "RoverMinutesModel" D classes A) (hret : meth.sig.returnType = (some .boolean)) (hlk : meth.locks = false)   (n : Nat) : ∀ (v0 : Nat) (v1 : Int32) (v2 : Int32) (v3 : Int32) (v4 : Int32) (v5 : Int32) (w : am_w), f_Mo_hasIn_6  n v0 v1 v2 v3 v4 v5 w = some r → am_V p l e rm_Mo_hasIn s m args below meth c D classes tys A (am_F A false) 6 0 0 (MQ below (am_Q D classes tys A (am_F A false) (am_ri r)) args s 0 0 (am_F A false)) 6 [some (.ref v0), some (.int v1), some (.int v2), some (.int v3), some (.int v4), some (.int v5)] [] w := by
  refine am_it_ind (P := fun (t : Nat → Int32 → Int32 → Int32 → Int32 → Int32 → am_w → Option (Int32 × am_w)) => ∀ (v0 : Nat) (v1 : Int32) (v2 : Int32) (v3 : Int32) (v4 : Int32) (v5 : Int32) (w : am_w), t v0 v1 v2 v3 v4 v5 w = some r → am_V p l e rm_Mo_hasIn s m args below meth c D classes tys A (am_F A false) 6 0 0 (MQ below (am_Q D classes tys A (am_F A false) (am_ri r)) args s 0 0 (am_F A false)) 6 [some (.ref v0), some (.int v1), some (.int v2), some (.int v3), some (.int v4), some (.int v5)] [] w) ?_ ?_ n
  · intro v0 v1 v2 v3 v4 v5 w hX
    exact (am_nn hX).elim
  · intro k6 hk6 v0 v1 v2 v3 v4 v5 w hX
    unfold s_Mo_hasIn_6 at hX
    refine am_iload (pc := 6) C d_Mo_hasIn_6 rfl ?_
    refine am_aload_n (pc := 8) C d_Mo_hasIn_8 rfl rfl ?_
    refine am_get (pc := 9) C hin_Mo rfl (by decide) wd_4_109 rfl d_Mo_hasIn_9 rfl hX (fun x1 hX => ?_)
    refine am_icmp_ge (pc := 12) (tgt := 65) C d_Mo_hasIn_12 rfl hX (fun hX => ?_) (fun hX => ?_)
    · skip
      refine am_iload (pc := 65) C d_Mo_hasIn_65 rfl ?_
      exact am_zret (pc := 67) C hret hlk d_Mo_hasIn_67 (by decide) (by decide) hX
    · skip
      refine am_iload (pc := 15) C d_Mo_hasIn_15 rfl ?_
      refine am_if_ne (pc := 17) (tgt := 52) C d_Mo_hasIn_17 rfl hX (fun hX => ?_) (fun hX => ?_)
      · skip
        exact am_sub (am_le_s (am_le_s (am_le_s (am_le_s (am_le_n (am_le_s (am_le_0))))))) (L_Mo_hasIn_52 C hret hlk hk6 v0 v1 v2 v3 v5 w hX)
      · skip
        refine am_iload_n (pc := 20) C d_Mo_hasIn_20 rfl rfl ?_
        refine am_iload (pc := 21) C d_Mo_hasIn_21 rfl ?_
        refine am_ishr (pc := 23) C d_Mo_hasIn_23 ?_
        refine am_iconst (pc := 24) (v := (1 : Int32)) C d_Mo_hasIn_24 (by decide) ?_
        refine am_iand (pc := 25) C d_Mo_hasIn_25 ?_
        refine am_iconst (pc := 26) (v := (1 : Int32)) C d_Mo_hasIn_26 (by decide) ?_
        refine am_icmp_ne (pc := 27) (tgt := 56) C d_Mo_hasIn_27 rfl hX (fun hX => ?_) (fun hX => ?_)
        · skip
          refine am_iconst (pc := 56) (v := (0 : Int32)) C d_Mo_hasIn_56 (by decide) ?_
          refine am_istore (pc := 57) (lo1 := [some (.ref v0), some (.int v1), some (.int v2), some (.int v3), some (.int (0 : Int32)), some (.int v5)]) C d_Mo_hasIn_57 (by decide) rfl ?_
          refine am_iinc (pc := 59) (y := (1 : Int32)) (lo1 := [some (.ref v0), some (.int v1), some (.int v2), some (.int v3), some (.int (0 : Int32)), some (.int (v5 + (1 : Int32)))]) C d_Mo_hasIn_59 rfl (by decide) (by decide) rfl ?_
          refine am_goto (pc := 62) (tgt := 6) C d_Mo_hasIn_62 rfl ?_
          exact (hk6 v0 v1 v2 v3 (0 : Int32) (v5 + (1 : Int32)) w hX)
        · skip
          refine am_aload_n (pc := 30) C d_Mo_hasIn_30 rfl rfl ?_
          refine am_getr (pc := 31) C hin_Mo rfl (by decide) wd_4_112 rfl d_Mo_hasIn_31 rfl hX (fun b2 hX => ?_)
          refine am_iload (pc := 34) C d_Mo_hasIn_34 rfl ?_
          refine am_iald (pc := 36) C d_Mo_hasIn_36 hX (fun x3 hX => ?_)
          refine am_iload_n (pc := 37) C d_Mo_hasIn_37 rfl rfl ?_
          refine am_icmp_eq (pc := 38) (tgt := 52) C d_Mo_hasIn_38 rfl hX (fun hX => ?_) (fun hX => ?_)
          · skip
            exact am_sub (am_le_s (am_le_s (am_le_s (am_le_s (am_le_n (am_le_s (am_le_0))))))) (L_Mo_hasIn_52 C hret hlk hk6 v0 v1 v2 v3 v5 w hX)
          · skip
            refine am_aload_n (pc := 41) C d_Mo_hasIn_41 rfl rfl ?_
            refine am_getr (pc := 42) C hin_Mo rfl (by decide) wd_4_112 rfl d_Mo_hasIn_42 rfl hX (fun b4 hX => ?_)
            refine am_iload (pc := 45) C d_Mo_hasIn_45 rfl ?_
            refine am_iald (pc := 47) C d_Mo_hasIn_47 hX (fun x5 hX => ?_)
            refine am_iload_n (pc := 48) C d_Mo_hasIn_48 rfl rfl ?_
            refine am_icmp_ne (pc := 49) (tgt := 56) C d_Mo_hasIn_49 rfl hX (fun hX => ?_) (fun hX => ?_)
            · skip
              refine am_iconst (pc := 56) (v := (0 : Int32)) C d_Mo_hasIn_56 (by decide) ?_
              refine am_istore (pc := 57) (lo1 := [some (.ref v0), some (.int v1), some (.int v2), some (.int v3), some (.int (0 : Int32)), some (.int v5)]) C d_Mo_hasIn_57 (by decide) rfl ?_
              refine am_iinc (pc := 59) (y := (1 : Int32)) (lo1 := [some (.ref v0), some (.int v1), some (.int v2), some (.int v3), some (.int (0 : Int32)), some (.int (v5 + (1 : Int32)))]) C d_Mo_hasIn_59 rfl (by decide) (by decide) rfl ?_
              refine am_goto (pc := 62) (tgt := 6) C d_Mo_hasIn_62 rfl ?_
              exact (hk6 v0 v1 v2 v3 (0 : Int32) (v5 + (1 : Int32)) w hX)
            · skip
              exact am_sub (am_le_s (am_le_s (am_le_s (am_le_s (am_le_n (am_le_s (am_le_0))))))) (L_Mo_hasIn_52 C hret hlk hk6 v0 v1 v2 v3 v5 w hX)
def f_Mo_hasIn (a0 : Nat) (a1 : Int32) (a2 : Int32) (a3 : Int32) (w : am_w) : Option (Int32 × am_w) := (f_Mo_hasIn_6  70 a0 a1 a2 a3 (0 : Int32) (0 : Int32) w)
theorem hd_Mo_hasIn : y_Mo_hasIn.cls = "RoverMinutesModel" ∧ y_Mo_hasIn.cls ≠ "java/lang/invoke/MethodHandle" ∧ y_Mo_hasIn.cls ≠ "java/lang/invoke/VarHandle" ∧ (parseMethodDescriptor y_Mo_hasIn.desc).map (fun d => d.parameters.length) = some 3 := ⟨rfl, by decide, by decide, by decide +kernel⟩
set_option maxHeartbeats 4000000 in
theorem c_Mo_hasIn {l : Launch} {D : va_G} {A : Nat → Prop} {a0 : Nat} {a1 : Int32} {a2 : Int32} {a3 : Int32} {w : am_w} {r : Int32 × am_w} (hX : f_Mo_hasIn a0 a1 a2 a3 w = some r) : am_Met l D classes tys A (am_F A false) y_Mo_hasIn (Cond.code y_Mo_hasIn b_Mo_hasIn 6 (some .boolean) :: am_W) rm_Mo_hasIn [.ref a0, .int a1, .int a2, .int a3] w (am_ri r) 0 0 := by
  refine am_ofV (by decide) am_W_good (Nat.le_of_ble_eq_true rfl) (by simp [Value.category]) ?_
  intro p e s m below meth c C hret hlk hnm
  unfold f_Mo_hasIn at hX
  refine am_iconst (pc := 0) (v := (0 : Int32)) C d_Mo_hasIn_0 (by decide) ?_
  refine am_istore (pc := 1) (lo1 := [some (.ref a0), some (.int a1), some (.int a2), some (.int a3), some (.int (0 : Int32)), none]) C d_Mo_hasIn_1 (by decide) rfl ?_
  refine am_iconst (pc := 3) (v := (0 : Int32)) C d_Mo_hasIn_3 (by decide) ?_
  refine am_istore (pc := 4) (lo1 := [some (.ref a0), some (.int a1), some (.int a2), some (.int a3), some (.int (0 : Int32)), some (.int (0 : Int32))]) C d_Mo_hasIn_4 (by decide) rfl ?_
  exact (L_Mo_hasIn_6 C hret hlk  70 a0 a1 a2 a3 (0 : Int32) (0 : Int32) w hX)
def rm_Mo_skip : Room := { frames := 1, cells := 0, slots := 0, locals := 25 }
def s_Mo_skip_80 (k2 : Nat → Int32 → am_w → Option (Int32 × am_w)) (k10 : Nat → Int32 → Int32 → am_w → Option (Int32 × am_w)) (v0 : Nat) (v1 : Int32) (v2 : Int32) (s0 : Int32) (w : am_w) : Option (Int32 × am_w) := ((am_rg 7 12 v0 w).bind fun b6 => ((am_ig b6 v2 w).bind fun x7 => (if x7 = 0 then (if s0 = 0 then (k10 v0 v1 (v2 + (1 : Int32)) w) else ((am_rg 7 12 v0 w).bind fun b8 => ((am_is b8 v2 (4 : Int32) w).bind fun w9 => (k10 v0 (1 : Int32) (v2 + (1 : Int32)) w9)))) else (k10 v0 v1 (v2 + (1 : Int32)) w))))
set_option maxHeartbeats 4000000 in
theorem L_Mo_skip_80 {p : Program} {l : Launch} {e : Env} {s : State} {m : MethodId} {args : Array Value} {below : List Frame} {meth : Method} {c : Code} {D : va_G} {A : Nat → Prop} {r : Int32 × am_w} (C : am_C p m c b_Mo_skip 4 s args am_W "RoverMinutesModel" D classes A) (hret : meth.sig.returnType = none) (hlk : meth.locks = false) {k2 : Nat → Int32 → am_w → Option (Int32 × am_w)} {k10 : Nat → Int32 → Int32 → am_w → Option (Int32 × am_w)} (hk2 : ∀ (v0 : Nat) (v1 : Int32) (w : am_w), k2 v0 v1 w = some r → am_V p l e rm_Mo_skip s m args below meth c D classes tys A (am_F A true) 4 0 0 (MQ below (am_Q D classes tys A (am_F A true) (am_rv r)) args s 0 0 (am_F A true)) 2 [some (.ref v0), some (.int v1), none, none] [] w) (hk10 : ∀ (v0 : Nat) (v1 : Int32) (v2 : Int32) (w : am_w), k10 v0 v1 v2 w = some r → am_V p l e rm_Mo_skip s m args below meth c D classes tys A (am_F A true) 4 0 0 (MQ below (am_Q D classes tys A (am_F A true) (am_rv r)) args s 0 0 (am_F A true)) 10 [some (.ref v0), some (.int v1), some (.int v2), none] [] w) : ∀ (v0 : Nat) (v1 : Int32) (v2 : Int32) (s0 : Int32) (w : am_w), s_Mo_skip_80 k2 k10 v0 v1 v2 s0 w = some r → am_V p l e rm_Mo_skip s m args below meth c D classes tys A (am_F A true) 4 0 0 (MQ below (am_Q D classes tys A (am_F A true) (am_rv r)) args s 0 0 (am_F A true)) 80 [some (.ref v0), some (.int v1), some (.int v2), none] [.int s0] w := by
  intro v0 v1 v2 s0 w hX
  unfold s_Mo_skip_80 at hX
  refine am_istore_n (pc := 80) (lo1 := [some (.ref v0), some (.int v1), some (.int v2), some (.int s0)]) C d_Mo_skip_80 rfl (by decide) rfl ?_
  refine am_aload_n (pc := 81) C d_Mo_skip_81 rfl rfl ?_
  refine am_getr (pc := 82) C hin_Mo rfl (by decide) wd_4_112 rfl d_Mo_skip_82 rfl hX (fun b6 hX => ?_)
  refine am_iload_n (pc := 85) C d_Mo_skip_85 rfl rfl ?_
  refine am_iald (pc := 86) C d_Mo_skip_86 hX (fun x7 hX => ?_)
  refine am_if_ne (pc := 87) (tgt := 103) C d_Mo_skip_87 rfl hX (fun hX => ?_) (fun hX => ?_)
  · skip
    refine am_iinc (pc := 103) (y := (1 : Int32)) (lo1 := [some (.ref v0), some (.int v1), some (.int (v2 + (1 : Int32))), some (.int s0)]) C d_Mo_skip_103 rfl (by decide) (by decide) rfl ?_
    refine am_goto (pc := 106) (tgt := 10) C d_Mo_skip_106 rfl ?_
    exact am_sub (am_le_s (am_le_s (am_le_s (am_le_n (am_le_0))))) (hk10 v0 v1 (v2 + (1 : Int32)) w hX)
  · skip
    refine am_iload_n (pc := 90) C d_Mo_skip_90 rfl rfl ?_
    refine am_if_eq (pc := 91) (tgt := 103) C d_Mo_skip_91 rfl hX (fun hX => ?_) (fun hX => ?_)
    · skip
      refine am_iinc (pc := 103) (y := (1 : Int32)) (lo1 := [some (.ref v0), some (.int v1), some (.int (v2 + (1 : Int32))), some (.int s0)]) C d_Mo_skip_103 rfl (by decide) (by decide) rfl ?_
      refine am_goto (pc := 106) (tgt := 10) C d_Mo_skip_106 rfl ?_
      exact am_sub (am_le_s (am_le_s (am_le_s (am_le_n (am_le_0))))) (hk10 v0 v1 (v2 + (1 : Int32)) w hX)
    · skip
      refine am_aload_n (pc := 94) C d_Mo_skip_94 rfl rfl ?_
      refine am_getr (pc := 95) C hin_Mo rfl (by decide) wd_4_112 rfl d_Mo_skip_95 rfl hX (fun b8 hX => ?_)
      refine am_iload_n (pc := 98) C d_Mo_skip_98 rfl rfl ?_
      refine am_iconst (pc := 99) (v := (4 : Int32)) C d_Mo_skip_99 (by decide) ?_
      refine am_iast (pc := 100) C (fun _ h => ⟨rfl, h⟩) d_Mo_skip_100 hX (fun w9 hX => ?_)
      refine am_iconst (pc := 101) (v := (1 : Int32)) C d_Mo_skip_101 (by decide) ?_
      refine am_istore_n (pc := 102) (lo1 := [some (.ref v0), some (.int (1 : Int32)), some (.int v2), some (.int s0)]) C d_Mo_skip_102 rfl (by decide) rfl ?_
      refine am_iinc (pc := 103) (y := (1 : Int32)) (lo1 := [some (.ref v0), some (.int (1 : Int32)), some (.int (v2 + (1 : Int32))), some (.int s0)]) C d_Mo_skip_103 rfl (by decide) (by decide) rfl ?_
      refine am_goto (pc := 106) (tgt := 10) C d_Mo_skip_106 rfl ?_
      exact am_sub (am_le_s (am_le_s (am_le_s (am_le_n (am_le_0))))) (hk10 v0 (1 : Int32) (v2 + (1 : Int32)) w9 hX)
def s_Mo_skip_75 (k2 : Nat → Int32 → am_w → Option (Int32 × am_w)) (k10 : Nat → Int32 → Int32 → am_w → Option (Int32 × am_w)) (v0 : Nat) (v1 : Int32) (v2 : Int32) (w : am_w) : Option (Int32 × am_w) := (s_Mo_skip_80 k2 k10 v0 v1 v2 (1 : Int32) w)
set_option maxHeartbeats 4000000 in
theorem L_Mo_skip_75 {p : Program} {l : Launch} {e : Env} {s : State} {m : MethodId} {args : Array Value} {below : List Frame} {meth : Method} {c : Code} {D : va_G} {A : Nat → Prop} {r : Int32 × am_w} (C : am_C p m c b_Mo_skip 4 s args am_W "RoverMinutesModel" D classes A) (hret : meth.sig.returnType = none) (hlk : meth.locks = false) {k2 : Nat → Int32 → am_w → Option (Int32 × am_w)} {k10 : Nat → Int32 → Int32 → am_w → Option (Int32 × am_w)} (hk2 : ∀ (v0 : Nat) (v1 : Int32) (w : am_w), k2 v0 v1 w = some r → am_V p l e rm_Mo_skip s m args below meth c D classes tys A (am_F A true) 4 0 0 (MQ below (am_Q D classes tys A (am_F A true) (am_rv r)) args s 0 0 (am_F A true)) 2 [some (.ref v0), some (.int v1), none, none] [] w) (hk10 : ∀ (v0 : Nat) (v1 : Int32) (v2 : Int32) (w : am_w), k10 v0 v1 v2 w = some r → am_V p l e rm_Mo_skip s m args below meth c D classes tys A (am_F A true) 4 0 0 (MQ below (am_Q D classes tys A (am_F A true) (am_rv r)) args s 0 0 (am_F A true)) 10 [some (.ref v0), some (.int v1), some (.int v2), none] [] w) : ∀ (v0 : Nat) (v1 : Int32) (v2 : Int32) (w : am_w), s_Mo_skip_75 k2 k10 v0 v1 v2 w = some r → am_V p l e rm_Mo_skip s m args below meth c D classes tys A (am_F A true) 4 0 0 (MQ below (am_Q D classes tys A (am_F A true) (am_rv r)) args s 0 0 (am_F A true)) 75 [some (.ref v0), some (.int v1), some (.int v2), none] [] w := by
  intro v0 v1 v2 w hX
  unfold s_Mo_skip_75 at hX
  refine am_iconst (pc := 75) (v := (1 : Int32)) C d_Mo_skip_75 (by decide) ?_
  refine am_goto (pc := 76) (tgt := 80) C d_Mo_skip_76 rfl ?_
  exact (L_Mo_skip_80 C hret hlk hk2 hk10 v0 v1 v2 (1 : Int32) w hX)
def s_Mo_skip_10 (k2 : Nat → Int32 → am_w → Option (Int32 × am_w)) (k10 : Nat → Int32 → Int32 → am_w → Option (Int32 × am_w)) (v0 : Nat) (v1 : Int32) (v2 : Int32) (w : am_w) : Option (Int32 × am_w) := ((am_fg 7 9 v0 w).bind fun x1 => (if x1 ≤ v2 then (k2 v0 v1 w) else ((am_fg 7 21 v0 w).bind fun x2 => ((am_fg 7 30 v0 w).bind fun x3 => ((am_rg 7 10 v0 w).bind fun b4 => ((am_ig b4 ((40 : Int32) + v2) w).bind fun x5 => (if x5 < (x2 - x3) then (s_Mo_skip_75 k2 k10 v0 v1 v2 w) else ((am_rg 7 10 v0 w).bind fun b10 => ((am_ig b10 ((56 : Int32) + v2) w).bind fun x11 => ((am_ob 7 v0 w (f_Mo_hasIn v0 x11 (3 : Int32) (4 : Int32) w)).bind fun q12 => (if q12.1 = 0 then ((am_rg 7 10 v0 q12.2).bind fun b13 => ((am_ig b13 ((64 : Int32) + v2) q12.2).bind fun x14 => ((am_ob 7 v0 q12.2 (f_Mo_hasIn v0 x14 (2 : Int32) (2 : Int32) q12.2)).bind fun q15 => (if q15.1 = 0 then (s_Mo_skip_80 k2 k10 v0 v1 v2 (0 : Int32) q15.2) else (s_Mo_skip_75 k2 k10 v0 v1 v2 q15.2))))) else (s_Mo_skip_75 k2 k10 v0 v1 v2 q12.2))))))))))))
def f_Mo_skip_10 (k2 : Nat → Int32 → am_w → Option (Int32 × am_w)) (n : Nat) : Nat → Int32 → Int32 → am_w → Option (Int32 × am_w) := am_it (fun _ _ _ _ => none) (s_Mo_skip_10 k2) n
set_option maxHeartbeats 4000000 in
theorem L_Mo_skip_10 {p : Program} {l : Launch} {e : Env} {s : State} {m : MethodId} {args : Array Value} {below : List Frame} {meth : Method} {c : Code} {D : va_G} {A : Nat → Prop} {r : Int32 × am_w} (C : am_C p m c b_Mo_skip 4 s args am_W "RoverMinutesModel" D classes A) (hret : meth.sig.returnType = none) (hlk : meth.locks = false) {k2 : Nat → Int32 → am_w → Option (Int32 × am_w)} (hk2 : ∀ (v0 : Nat) (v1 : Int32) (w : am_w), k2 v0 v1 w = some r → am_V p l e rm_Mo_skip s m args below meth c D classes tys A (am_F A true) 4 0 0 (MQ below (am_Q D classes tys A (am_F A true) (am_rv r)) args s 0 0 (am_F A true)) 2 [some (.ref v0), some (.int v1), none, none] [] w) (n : Nat) : ∀ (v0 : Nat) (v1 : Int32) (v2 : Int32) (w : am_w), f_Mo_skip_10 k2 n v0 v1 v2 w = some r → am_V p l e rm_Mo_skip s m args below meth c D classes tys A (am_F A true) 4 0 0 (MQ below (am_Q D classes tys A (am_F A true) (am_rv r)) args s 0 0 (am_F A true)) 10 [some (.ref v0), some (.int v1), some (.int v2), none] [] w := by
  refine am_it_ind (P := fun (t : Nat → Int32 → Int32 → am_w → Option (Int32 × am_w)) => ∀ (v0 : Nat) (v1 : Int32) (v2 : Int32) (w : am_w), t v0 v1 v2 w = some r → am_V p l e rm_Mo_skip s m args below meth c D classes tys A (am_F A true) 4 0 0 (MQ below (am_Q D classes tys A (am_F A true) (am_rv r)) args s 0 0 (am_F A true)) 10 [some (.ref v0), some (.int v1), some (.int v2), none] [] w) ?_ ?_ n
  · intro v0 v1 v2 w hX
    exact (am_nn hX).elim
  · intro k10 hk10 v0 v1 v2 w hX
    unfold s_Mo_skip_10 at hX
    refine am_iload_n (pc := 10) C d_Mo_skip_10 rfl rfl ?_
    refine am_aload_n (pc := 11) C d_Mo_skip_11 rfl rfl ?_
    refine am_get (pc := 12) C hin_Mo rfl (by decide) wd_4_109 rfl d_Mo_skip_12 rfl hX (fun x1 hX => ?_)
    refine am_icmp_ge (pc := 15) (tgt := 109) C d_Mo_skip_15 rfl hX (fun hX => ?_) (fun hX => ?_)
    · skip
      refine am_goto (pc := 109) (tgt := 2) C d_Mo_skip_109 rfl ?_
      exact am_sub (am_le_s (am_le_s (am_le_n (am_le_n (am_le_0))))) (hk2 v0 v1 w hX)
    · skip
      refine am_aload_n (pc := 18) C d_Mo_skip_18 rfl rfl ?_
      refine am_get (pc := 19) C hin_Mo rfl (by decide) wd_4_121 rfl d_Mo_skip_19 rfl hX (fun x2 hX => ?_)
      refine am_aload_n (pc := 22) C d_Mo_skip_22 rfl rfl ?_
      refine am_get (pc := 23) C hin_Mo rfl (by decide) wd_4_130 rfl d_Mo_skip_23 rfl hX (fun x3 hX => ?_)
      refine am_isub (pc := 26) C d_Mo_skip_26 ?_
      refine am_aload_n (pc := 27) C d_Mo_skip_27 rfl rfl ?_
      refine am_getr (pc := 28) C hin_Mo rfl (by decide) wd_4_110 rfl d_Mo_skip_28 rfl hX (fun b4 hX => ?_)
      refine am_bipush (pc := 31) (v := (40 : Int32)) C d_Mo_skip_31 (by decide) ?_
      refine am_iload_n (pc := 33) C d_Mo_skip_33 rfl rfl ?_
      refine am_iadd (pc := 34) C d_Mo_skip_34 ?_
      refine am_iald (pc := 35) C d_Mo_skip_35 hX (fun x5 hX => ?_)
      refine am_icmp_gt (pc := 36) (tgt := 75) C d_Mo_skip_36 rfl hX (fun hX => ?_) (fun hX => ?_)
      · skip
        exact (L_Mo_skip_75 C hret hlk hk2 hk10 v0 v1 v2 w hX)
      · skip
        refine am_aload_n (pc := 39) C d_Mo_skip_39 rfl rfl ?_
        refine am_aload_n (pc := 40) C d_Mo_skip_40 rfl rfl ?_
        refine am_getr (pc := 41) C hin_Mo rfl (by decide) wd_4_110 rfl d_Mo_skip_41 rfl hX (fun b10 hX => ?_)
        refine am_bipush (pc := 44) (v := (56 : Int32)) C d_Mo_skip_44 (by decide) ?_
        refine am_iload_n (pc := 46) C d_Mo_skip_46 rfl rfl ?_
        refine am_iadd (pc := 47) C d_Mo_skip_47 ?_
        refine am_iald (pc := 48) C d_Mo_skip_48 hX (fun x11 hX => ?_)
        refine am_iconst (pc := 49) (v := (3 : Int32)) C d_Mo_skip_49 (by decide) ?_
        refine am_iconst (pc := 50) (v := (4 : Int32)) C d_Mo_skip_50 (by decide) ?_
        refine am_callVi (pc := 51) (As := [.int x11, .int (3 : Int32), .int (4 : Int32)]) (st := []) (cells1 := 0) (slots1 := 0) C (fun _ h => h.2) (fun _ h => by cases h.1) (fun q h => c_Mo_hasIn h) wd_5_37 wd_5_39 ws_Mo_hasIn wd_1_9 wd_5_40 rfl rfl hd_Mo_hasIn ⟨by decide, by decide⟩ rfl rfl (Nat.le_of_ble_eq_true rfl) d_Mo_skip_51 ⟨by decide, by decide⟩ rfl rfl rfl hX (fun q12 hX => ?_)
        refine am_if_ne (pc := 54) (tgt := 75) C d_Mo_skip_54 rfl hX (fun hX => ?_) (fun hX => ?_)
        · skip
          exact (L_Mo_skip_75 C hret hlk hk2 hk10 v0 v1 v2 q12.2 hX)
        · skip
          refine am_aload_n (pc := 57) C d_Mo_skip_57 rfl rfl ?_
          refine am_aload_n (pc := 58) C d_Mo_skip_58 rfl rfl ?_
          refine am_getr (pc := 59) C hin_Mo rfl (by decide) wd_4_110 rfl d_Mo_skip_59 rfl hX (fun b13 hX => ?_)
          refine am_bipush (pc := 62) (v := (64 : Int32)) C d_Mo_skip_62 (by decide) ?_
          refine am_iload_n (pc := 64) C d_Mo_skip_64 rfl rfl ?_
          refine am_iadd (pc := 65) C d_Mo_skip_65 ?_
          refine am_iald (pc := 66) C d_Mo_skip_66 hX (fun x14 hX => ?_)
          refine am_iconst (pc := 67) (v := (2 : Int32)) C d_Mo_skip_67 (by decide) ?_
          refine am_iconst (pc := 68) (v := (2 : Int32)) C d_Mo_skip_68 (by decide) ?_
          refine am_callVi (pc := 69) (As := [.int x14, .int (2 : Int32), .int (2 : Int32)]) (st := []) (cells1 := 0) (slots1 := 0) C (fun _ h => h.2) (fun _ h => by cases h.1) (fun q h => c_Mo_hasIn h) wd_5_37 wd_5_39 ws_Mo_hasIn wd_1_9 wd_5_40 rfl rfl hd_Mo_hasIn ⟨by decide, by decide⟩ rfl rfl (Nat.le_of_ble_eq_true rfl) d_Mo_skip_69 ⟨by decide, by decide⟩ rfl rfl rfl hX (fun q15 hX => ?_)
          refine am_if_eq (pc := 72) (tgt := 79) C d_Mo_skip_72 rfl hX (fun hX => ?_) (fun hX => ?_)
          · skip
            refine am_iconst (pc := 79) (v := (0 : Int32)) C d_Mo_skip_79 (by decide) ?_
            exact (L_Mo_skip_80 C hret hlk hk2 hk10 v0 v1 v2 (0 : Int32) q15.2 hX)
          · skip
            exact (L_Mo_skip_75 C hret hlk hk2 hk10 v0 v1 v2 q15.2 hX)
def s_Mo_skip_2 (k2 : Nat → Int32 → am_w → Option (Int32 × am_w)) (v0 : Nat) (v1 : Int32) (w : am_w) : Option (Int32 × am_w) := (if v1 = 0 then (some (0, w)) else (f_Mo_skip_10 k2 70 v0 (0 : Int32) (0 : Int32) w))
def f_Mo_skip_2  (n : Nat) : Nat → Int32 → am_w → Option (Int32 × am_w) := am_it (fun _ _ _ => none) (s_Mo_skip_2 ) n
set_option maxHeartbeats 4000000 in
theorem L_Mo_skip_2 {p : Program} {l : Launch} {e : Env} {s : State} {m : MethodId} {args : Array Value} {below : List Frame} {meth : Method} {c : Code} {D : va_G} {A : Nat → Prop} {r : Int32 × am_w} (C : am_C p m c b_Mo_skip 4 s args am_W "RoverMinutesModel" D classes A) (hret : meth.sig.returnType = none) (hlk : meth.locks = false)   (n : Nat) : ∀ (v0 : Nat) (v1 : Int32) (w : am_w), f_Mo_skip_2  n v0 v1 w = some r → am_V p l e rm_Mo_skip s m args below meth c D classes tys A (am_F A true) 4 0 0 (MQ below (am_Q D classes tys A (am_F A true) (am_rv r)) args s 0 0 (am_F A true)) 2 [some (.ref v0), some (.int v1), none, none] [] w := by
  refine am_it_ind (P := fun (t : Nat → Int32 → am_w → Option (Int32 × am_w)) => ∀ (v0 : Nat) (v1 : Int32) (w : am_w), t v0 v1 w = some r → am_V p l e rm_Mo_skip s m args below meth c D classes tys A (am_F A true) 4 0 0 (MQ below (am_Q D classes tys A (am_F A true) (am_rv r)) args s 0 0 (am_F A true)) 2 [some (.ref v0), some (.int v1), none, none] [] w) ?_ ?_ n
  · intro v0 v1 w hX
    exact (am_nn hX).elim
  · intro k2 hk2 v0 v1 w hX
    unfold s_Mo_skip_2 at hX
    refine am_iload_n (pc := 2) C d_Mo_skip_2 rfl rfl ?_
    refine am_if_eq (pc := 3) (tgt := 112) C d_Mo_skip_3 rfl hX (fun hX => ?_) (fun hX => ?_)
    · skip
      exact am_vret (pc := 112) C hret hlk d_Mo_skip_112 (by decide) (by decide) hX
    · skip
      refine am_iconst (pc := 6) (v := (0 : Int32)) C d_Mo_skip_6 (by decide) ?_
      refine am_istore_n (pc := 7) (lo1 := [some (.ref v0), some (.int (0 : Int32)), none, none]) C d_Mo_skip_7 rfl (by decide) rfl ?_
      refine am_iconst (pc := 8) (v := (0 : Int32)) C d_Mo_skip_8 (by decide) ?_
      refine am_istore_n (pc := 9) (lo1 := [some (.ref v0), some (.int (0 : Int32)), some (.int (0 : Int32)), none]) C d_Mo_skip_9 rfl (by decide) rfl ?_
      exact (L_Mo_skip_10 C hret hlk hk2 70 v0 (0 : Int32) (0 : Int32) w hX)
def f_Mo_skip (a0 : Nat) (w : am_w) : Option (Int32 × am_w) := (f_Mo_skip_2  70 a0 (1 : Int32) w)
theorem hd_Mo_skip : y_Mo_skip.cls = "RoverMinutesModel" ∧ y_Mo_skip.cls ≠ "java/lang/invoke/MethodHandle" ∧ y_Mo_skip.cls ≠ "java/lang/invoke/VarHandle" ∧ (parseMethodDescriptor y_Mo_skip.desc).map (fun d => d.parameters.length) = some 0 := ⟨rfl, by decide, by decide, by decide +kernel⟩
set_option maxHeartbeats 4000000 in
theorem c_Mo_skip {l : Launch} {D : va_G} {A : Nat → Prop} {a0 : Nat} {w : am_w} {r : Int32 × am_w} (hX : f_Mo_skip a0 w = some r) : am_Met l D classes tys A (am_F A true) y_Mo_skip (Cond.code y_Mo_skip b_Mo_skip 4 none :: am_W) rm_Mo_skip [.ref a0] w (am_rv r) 0 0 := by
  refine am_ofV (by decide) am_W_good (Nat.le_of_ble_eq_true rfl) (by simp [Value.category]) ?_
  intro p e s m below meth c C hret hlk hnm
  unfold f_Mo_skip at hX
  refine am_iconst (pc := 0) (v := (1 : Int32)) C d_Mo_skip_0 (by decide) ?_
  refine am_istore_n (pc := 1) (lo1 := [some (.ref a0), some (.int (1 : Int32)), none, none]) C d_Mo_skip_1 rfl (by decide) rfl ?_
  exact (L_Mo_skip_2 C hret hlk  70 a0 (1 : Int32) w hX)
def rm_Mo_mayStart : Room := { frames := 3, cells := 0, slots := 0, locals := 75 }
def s_Mo_mayStart_83  (v0 : Nat) (v1 : Int32) (v2 : Int32) (s0 : Int32) (w : am_w) : Option (Int32 × am_w) := ((am_rg 7 12 v0 w).bind fun b7 => ((am_ig b7 v1 w).bind fun x8 => (if x8 = 0 then (if v2 = 0 then (some ((0 : Int32), w)) else (if s0 = 0 then (some ((0 : Int32), w)) else ((am_ob 7 v0 w (f_Mo_holds v0 v1 w)).bind fun q9 => (if q9.1 = 0 then (some ((0 : Int32), q9.2)) else (some ((1 : Int32), q9.2)))))) else (some ((0 : Int32), w)))))
set_option maxHeartbeats 4000000 in
theorem L_Mo_mayStart_83 {p : Program} {l : Launch} {e : Env} {s : State} {m : MethodId} {args : Array Value} {below : List Frame} {meth : Method} {c : Code} {D : va_G} {A : Nat → Prop} {r : Int32 × am_w} (C : am_C p m c b_Mo_mayStart 4 s args am_W "RoverMinutesModel" D classes A) (hret : meth.sig.returnType = (some .boolean)) (hlk : meth.locks = false)   : ∀ (v0 : Nat) (v1 : Int32) (v2 : Int32) (s0 : Int32) (w : am_w), s_Mo_mayStart_83  v0 v1 v2 s0 w = some r → am_V p l e rm_Mo_mayStart s m args below meth c D classes tys A (am_F A false) 4 0 0 (MQ below (am_Q D classes tys A (am_F A false) (am_ri r)) args s 0 0 (am_F A false)) 83 [some (.ref v0), some (.int v1), some (.int v2), none] [.int s0] w := by
  intro v0 v1 v2 s0 w hX
  unfold s_Mo_mayStart_83 at hX
  refine am_istore_n (pc := 83) (lo1 := [some (.ref v0), some (.int v1), some (.int v2), some (.int s0)]) C d_Mo_mayStart_83 rfl (by decide) rfl ?_
  refine am_aload_n (pc := 84) C d_Mo_mayStart_84 rfl rfl ?_
  refine am_getr (pc := 85) C hin_Mo rfl (by decide) wd_4_112 rfl d_Mo_mayStart_85 rfl hX (fun b7 hX => ?_)
  refine am_iload_n (pc := 88) C d_Mo_mayStart_88 rfl rfl ?_
  refine am_iald (pc := 89) C d_Mo_mayStart_89 hX (fun x8 hX => ?_)
  refine am_if_ne (pc := 90) (tgt := 113) C d_Mo_mayStart_90 rfl hX (fun hX => ?_) (fun hX => ?_)
  · skip
    refine am_iconst (pc := 113) (v := (0 : Int32)) C d_Mo_mayStart_113 (by decide) ?_
    exact am_iret (pc := 114) C hret hlk d_Mo_mayStart_114 am_n0 (by decide) (by decide) hX
  · skip
    refine am_iload_n (pc := 93) C d_Mo_mayStart_93 rfl rfl ?_
    refine am_if_eq (pc := 94) (tgt := 113) C d_Mo_mayStart_94 rfl hX (fun hX => ?_) (fun hX => ?_)
    · skip
      refine am_iconst (pc := 113) (v := (0 : Int32)) C d_Mo_mayStart_113 (by decide) ?_
      exact am_iret (pc := 114) C hret hlk d_Mo_mayStart_114 am_n0 (by decide) (by decide) hX
    · skip
      refine am_iload_n (pc := 97) C d_Mo_mayStart_97 rfl rfl ?_
      refine am_if_eq (pc := 98) (tgt := 113) C d_Mo_mayStart_98 rfl hX (fun hX => ?_) (fun hX => ?_)
      · skip
        refine am_iconst (pc := 113) (v := (0 : Int32)) C d_Mo_mayStart_113 (by decide) ?_
        exact am_iret (pc := 114) C hret hlk d_Mo_mayStart_114 am_n0 (by decide) (by decide) hX
      · skip
        refine am_aload_n (pc := 101) C d_Mo_mayStart_101 rfl rfl ?_
        refine am_iload_n (pc := 102) C d_Mo_mayStart_102 rfl rfl ?_
        refine am_callVi (pc := 103) (As := [.int v1]) (st := []) (cells1 := 0) (slots1 := 0) C (fun _ h => h.2) (fun _ h => by cases h.1) (fun q h => c_Mo_holds h) wd_5_49 wd_5_51 ws_Mo_holds wd_1_9 wd_5_52 rfl rfl hd_Mo_holds ⟨by decide, by decide⟩ rfl rfl (Nat.le_of_ble_eq_true rfl) d_Mo_mayStart_103 ⟨by decide, by decide⟩ rfl rfl rfl hX (fun q9 hX => ?_)
        refine am_if_eq (pc := 106) (tgt := 113) C d_Mo_mayStart_106 rfl hX (fun hX => ?_) (fun hX => ?_)
        · skip
          refine am_iconst (pc := 113) (v := (0 : Int32)) C d_Mo_mayStart_113 (by decide) ?_
          exact am_iret (pc := 114) C hret hlk d_Mo_mayStart_114 am_n0 (by decide) (by decide) hX
        · skip
          refine am_iconst (pc := 109) (v := (1 : Int32)) C d_Mo_mayStart_109 (by decide) ?_
          refine am_goto (pc := 110) (tgt := 114) C d_Mo_mayStart_110 rfl ?_
          exact am_iret (pc := 114) C hret hlk d_Mo_mayStart_114 am_n1 (by decide) (by decide) hX
def s_Mo_mayStart_82  (v0 : Nat) (v1 : Int32) (v2 : Int32) (w : am_w) : Option (Int32 × am_w) := (s_Mo_mayStart_83  v0 v1 v2 (0 : Int32) w)
set_option maxHeartbeats 4000000 in
theorem L_Mo_mayStart_82 {p : Program} {l : Launch} {e : Env} {s : State} {m : MethodId} {args : Array Value} {below : List Frame} {meth : Method} {c : Code} {D : va_G} {A : Nat → Prop} {r : Int32 × am_w} (C : am_C p m c b_Mo_mayStart 4 s args am_W "RoverMinutesModel" D classes A) (hret : meth.sig.returnType = (some .boolean)) (hlk : meth.locks = false)   : ∀ (v0 : Nat) (v1 : Int32) (v2 : Int32) (w : am_w), s_Mo_mayStart_82  v0 v1 v2 w = some r → am_V p l e rm_Mo_mayStart s m args below meth c D classes tys A (am_F A false) 4 0 0 (MQ below (am_Q D classes tys A (am_F A false) (am_ri r)) args s 0 0 (am_F A false)) 82 [some (.ref v0), some (.int v1), some (.int v2), none] [] w := by
  intro v0 v1 v2 w hX
  unfold s_Mo_mayStart_82 at hX
  refine am_iconst (pc := 82) (v := (0 : Int32)) C d_Mo_mayStart_82 (by decide) ?_
  exact (L_Mo_mayStart_83 C hret hlk  v0 v1 v2 (0 : Int32) w hX)
def s_Mo_mayStart_41  (v0 : Nat) (v1 : Int32) (s0 : Int32) (w : am_w) : Option (Int32 × am_w) := ((am_rg 7 10 v0 w).bind fun b4 => ((am_ig b4 ((64 : Int32) + v1) w).bind fun x5 => ((am_ob 7 v0 w (f_Mo_hasIn v0 x5 (0 : Int32) (1 : Int32) w)).bind fun q6 => (if q6.1 = 0 then ((am_rg 7 10 v0 q6.2).bind fun b10 => ((am_ig b10 ((64 : Int32) + v1) q6.2).bind fun x11 => ((am_ob 7 v0 q6.2 (f_Mo_hasIn v0 x11 (2 : Int32) (2 : Int32) q6.2)).bind fun q12 => (if q12.1 = 0 then (s_Mo_mayStart_83  v0 v1 s0 (1 : Int32) q12.2) else (s_Mo_mayStart_82  v0 v1 s0 q12.2))))) else (s_Mo_mayStart_82  v0 v1 s0 q6.2)))))
set_option maxHeartbeats 4000000 in
theorem L_Mo_mayStart_41 {p : Program} {l : Launch} {e : Env} {s : State} {m : MethodId} {args : Array Value} {below : List Frame} {meth : Method} {c : Code} {D : va_G} {A : Nat → Prop} {r : Int32 × am_w} (C : am_C p m c b_Mo_mayStart 4 s args am_W "RoverMinutesModel" D classes A) (hret : meth.sig.returnType = (some .boolean)) (hlk : meth.locks = false)   : ∀ (v0 : Nat) (v1 : Int32) (s0 : Int32) (w : am_w), s_Mo_mayStart_41  v0 v1 s0 w = some r → am_V p l e rm_Mo_mayStart s m args below meth c D classes tys A (am_F A false) 4 0 0 (MQ below (am_Q D classes tys A (am_F A false) (am_ri r)) args s 0 0 (am_F A false)) 41 [some (.ref v0), some (.int v1), none, none] [.int s0] w := by
  intro v0 v1 s0 w hX
  unfold s_Mo_mayStart_41 at hX
  refine am_istore_n (pc := 41) (lo1 := [some (.ref v0), some (.int v1), some (.int s0), none]) C d_Mo_mayStart_41 rfl (by decide) rfl ?_
  refine am_aload_n (pc := 42) C d_Mo_mayStart_42 rfl rfl ?_
  refine am_aload_n (pc := 43) C d_Mo_mayStart_43 rfl rfl ?_
  refine am_getr (pc := 44) C hin_Mo rfl (by decide) wd_4_110 rfl d_Mo_mayStart_44 rfl hX (fun b4 hX => ?_)
  refine am_bipush (pc := 47) (v := (64 : Int32)) C d_Mo_mayStart_47 (by decide) ?_
  refine am_iload_n (pc := 49) C d_Mo_mayStart_49 rfl rfl ?_
  refine am_iadd (pc := 50) C d_Mo_mayStart_50 ?_
  refine am_iald (pc := 51) C d_Mo_mayStart_51 hX (fun x5 hX => ?_)
  refine am_iconst (pc := 52) (v := (0 : Int32)) C d_Mo_mayStart_52 (by decide) ?_
  refine am_iconst (pc := 53) (v := (1 : Int32)) C d_Mo_mayStart_53 (by decide) ?_
  refine am_callVi (pc := 54) (As := [.int x5, .int (0 : Int32), .int (1 : Int32)]) (st := []) (cells1 := 0) (slots1 := 0) C (fun _ h => h.2) (fun _ h => by cases h.1) (fun q h => c_Mo_hasIn h) wd_5_37 wd_5_39 ws_Mo_hasIn wd_1_9 wd_5_40 rfl rfl hd_Mo_hasIn ⟨by decide, by decide⟩ rfl rfl (Nat.le_of_ble_eq_true rfl) d_Mo_mayStart_54 ⟨by decide, by decide⟩ rfl rfl rfl hX (fun q6 hX => ?_)
  refine am_if_ne (pc := 57) (tgt := 82) C d_Mo_mayStart_57 rfl hX (fun hX => ?_) (fun hX => ?_)
  · skip
    exact (L_Mo_mayStart_82 C hret hlk  v0 v1 s0 q6.2 hX)
  · skip
    refine am_aload_n (pc := 60) C d_Mo_mayStart_60 rfl rfl ?_
    refine am_aload_n (pc := 61) C d_Mo_mayStart_61 rfl rfl ?_
    refine am_getr (pc := 62) C hin_Mo rfl (by decide) wd_4_110 rfl d_Mo_mayStart_62 rfl hX (fun b10 hX => ?_)
    refine am_bipush (pc := 65) (v := (64 : Int32)) C d_Mo_mayStart_65 (by decide) ?_
    refine am_iload_n (pc := 67) C d_Mo_mayStart_67 rfl rfl ?_
    refine am_iadd (pc := 68) C d_Mo_mayStart_68 ?_
    refine am_iald (pc := 69) C d_Mo_mayStart_69 hX (fun x11 hX => ?_)
    refine am_iconst (pc := 70) (v := (2 : Int32)) C d_Mo_mayStart_70 (by decide) ?_
    refine am_iconst (pc := 71) (v := (2 : Int32)) C d_Mo_mayStart_71 (by decide) ?_
    refine am_callVi (pc := 72) (As := [.int x11, .int (2 : Int32), .int (2 : Int32)]) (st := []) (cells1 := 0) (slots1 := 0) C (fun _ h => h.2) (fun _ h => by cases h.1) (fun q h => c_Mo_hasIn h) wd_5_37 wd_5_39 ws_Mo_hasIn wd_1_9 wd_5_40 rfl rfl hd_Mo_hasIn ⟨by decide, by decide⟩ rfl rfl (Nat.le_of_ble_eq_true rfl) d_Mo_mayStart_72 ⟨by decide, by decide⟩ rfl rfl rfl hX (fun q12 hX => ?_)
    refine am_if_ne (pc := 75) (tgt := 82) C d_Mo_mayStart_75 rfl hX (fun hX => ?_) (fun hX => ?_)
    · skip
      exact (L_Mo_mayStart_82 C hret hlk  v0 v1 s0 q12.2 hX)
    · skip
      refine am_iconst (pc := 78) (v := (1 : Int32)) C d_Mo_mayStart_78 (by decide) ?_
      refine am_goto (pc := 79) (tgt := 83) C d_Mo_mayStart_79 rfl ?_
      exact (L_Mo_mayStart_83 C hret hlk  v0 v1 s0 (1 : Int32) q12.2 hX)
def s_Mo_mayStart_40  (v0 : Nat) (v1 : Int32) (w : am_w) : Option (Int32 × am_w) := (s_Mo_mayStart_41  v0 v1 (0 : Int32) w)
set_option maxHeartbeats 4000000 in
theorem L_Mo_mayStart_40 {p : Program} {l : Launch} {e : Env} {s : State} {m : MethodId} {args : Array Value} {below : List Frame} {meth : Method} {c : Code} {D : va_G} {A : Nat → Prop} {r : Int32 × am_w} (C : am_C p m c b_Mo_mayStart 4 s args am_W "RoverMinutesModel" D classes A) (hret : meth.sig.returnType = (some .boolean)) (hlk : meth.locks = false)   : ∀ (v0 : Nat) (v1 : Int32) (w : am_w), s_Mo_mayStart_40  v0 v1 w = some r → am_V p l e rm_Mo_mayStart s m args below meth c D classes tys A (am_F A false) 4 0 0 (MQ below (am_Q D classes tys A (am_F A false) (am_ri r)) args s 0 0 (am_F A false)) 40 [some (.ref v0), some (.int v1), none, none] [] w := by
  intro v0 v1 w hX
  unfold s_Mo_mayStart_40 at hX
  refine am_iconst (pc := 40) (v := (0 : Int32)) C d_Mo_mayStart_40 (by decide) ?_
  exact (L_Mo_mayStart_41 C hret hlk  v0 v1 (0 : Int32) w hX)
def f_Mo_mayStart (a0 : Nat) (a1 : Int32) (w : am_w) : Option (Int32 × am_w) := ((am_rg 7 10 a0 w).bind fun b1 => ((am_ig b1 ((56 : Int32) + a1) w).bind fun x2 => ((am_ob 7 a0 w (f_Mo_hasIn a0 x2 (0 : Int32) (1 : Int32) w)).bind fun q3 => (if q3.1 = 0 then ((am_rg 7 10 a0 q3.2).bind fun b13 => ((am_ig b13 ((56 : Int32) + a1) q3.2).bind fun x14 => ((am_ob 7 a0 q3.2 (f_Mo_hasIn a0 x14 (3 : Int32) (4 : Int32) q3.2)).bind fun q15 => (if q15.1 = 0 then (s_Mo_mayStart_41  a0 a1 (1 : Int32) q15.2) else (s_Mo_mayStart_40  a0 a1 q15.2))))) else (s_Mo_mayStart_40  a0 a1 q3.2)))))
theorem hd_Mo_mayStart : y_Mo_mayStart.cls = "RoverMinutesModel" ∧ y_Mo_mayStart.cls ≠ "java/lang/invoke/MethodHandle" ∧ y_Mo_mayStart.cls ≠ "java/lang/invoke/VarHandle" ∧ (parseMethodDescriptor y_Mo_mayStart.desc).map (fun d => d.parameters.length) = some 1 := ⟨rfl, by decide, by decide, by decide +kernel⟩
set_option maxHeartbeats 4000000 in
theorem c_Mo_mayStart {l : Launch} {D : va_G} {A : Nat → Prop} {a0 : Nat} {a1 : Int32} {w : am_w} {r : Int32 × am_w} (hX : f_Mo_mayStart a0 a1 w = some r) : am_Met l D classes tys A (am_F A false) y_Mo_mayStart (Cond.code y_Mo_mayStart b_Mo_mayStart 4 (some .boolean) :: am_W) rm_Mo_mayStart [.ref a0, .int a1] w (am_ri r) 0 0 := by
  refine am_ofV (by decide) am_W_good (Nat.le_of_ble_eq_true rfl) (by simp [Value.category]) ?_
  intro p e s m below meth c C hret hlk hnm
  unfold f_Mo_mayStart at hX
  refine am_aload_n (pc := 0) C d_Mo_mayStart_0 rfl rfl ?_
  refine am_aload_n (pc := 1) C d_Mo_mayStart_1 rfl rfl ?_
  refine am_getr (pc := 2) C hin_Mo rfl (by decide) wd_4_110 rfl d_Mo_mayStart_2 rfl hX (fun b1 hX => ?_)
  refine am_bipush (pc := 5) (v := (56 : Int32)) C d_Mo_mayStart_5 (by decide) ?_
  refine am_iload_n (pc := 7) C d_Mo_mayStart_7 rfl rfl ?_
  refine am_iadd (pc := 8) C d_Mo_mayStart_8 ?_
  refine am_iald (pc := 9) C d_Mo_mayStart_9 hX (fun x2 hX => ?_)
  refine am_iconst (pc := 10) (v := (0 : Int32)) C d_Mo_mayStart_10 (by decide) ?_
  refine am_iconst (pc := 11) (v := (1 : Int32)) C d_Mo_mayStart_11 (by decide) ?_
  refine am_callVi (pc := 12) (As := [.int x2, .int (0 : Int32), .int (1 : Int32)]) (st := []) (cells1 := 0) (slots1 := 0) C (fun _ h => h.2) (fun _ h => by cases h.1) (fun q h => c_Mo_hasIn h) wd_5_37 wd_5_39 ws_Mo_hasIn wd_1_9 wd_5_40 rfl rfl hd_Mo_hasIn ⟨by decide, by decide⟩ rfl rfl (Nat.le_of_ble_eq_true rfl) d_Mo_mayStart_12 ⟨by decide, by decide⟩ rfl rfl rfl hX (fun q3 hX => ?_)
  refine am_if_ne (pc := 15) (tgt := 40) C d_Mo_mayStart_15 rfl hX (fun hX => ?_) (fun hX => ?_)
  · skip
    exact (L_Mo_mayStart_40 C hret hlk  a0 a1 q3.2 hX)
  · skip
    refine am_aload_n (pc := 18) C d_Mo_mayStart_18 rfl rfl ?_
    refine am_aload_n (pc := 19) C d_Mo_mayStart_19 rfl rfl ?_
    refine am_getr (pc := 20) C hin_Mo rfl (by decide) wd_4_110 rfl d_Mo_mayStart_20 rfl hX (fun b13 hX => ?_)
    refine am_bipush (pc := 23) (v := (56 : Int32)) C d_Mo_mayStart_23 (by decide) ?_
    refine am_iload_n (pc := 25) C d_Mo_mayStart_25 rfl rfl ?_
    refine am_iadd (pc := 26) C d_Mo_mayStart_26 ?_
    refine am_iald (pc := 27) C d_Mo_mayStart_27 hX (fun x14 hX => ?_)
    refine am_iconst (pc := 28) (v := (3 : Int32)) C d_Mo_mayStart_28 (by decide) ?_
    refine am_iconst (pc := 29) (v := (4 : Int32)) C d_Mo_mayStart_29 (by decide) ?_
    refine am_callVi (pc := 30) (As := [.int x14, .int (3 : Int32), .int (4 : Int32)]) (st := []) (cells1 := 0) (slots1 := 0) C (fun _ h => h.2) (fun _ h => by cases h.1) (fun q h => c_Mo_hasIn h) wd_5_37 wd_5_39 ws_Mo_hasIn wd_1_9 wd_5_40 rfl rfl hd_Mo_hasIn ⟨by decide, by decide⟩ rfl rfl (Nat.le_of_ble_eq_true rfl) d_Mo_mayStart_30 ⟨by decide, by decide⟩ rfl rfl rfl hX (fun q15 hX => ?_)
    refine am_if_ne (pc := 33) (tgt := 40) C d_Mo_mayStart_33 rfl hX (fun hX => ?_) (fun hX => ?_)
    · skip
      exact (L_Mo_mayStart_40 C hret hlk  a0 a1 q15.2 hX)
    · skip
      refine am_iconst (pc := 36) (v := (1 : Int32)) C d_Mo_mayStart_36 (by decide) ?_
      refine am_goto (pc := 37) (tgt := 41) C d_Mo_mayStart_37 rfl ?_
      exact (L_Mo_mayStart_41 C hret hlk  a0 a1 (1 : Int32) q15.2 hX)
def rm_Mo_startAll : Room := { frames := 4, cells := 0, slots := 0, locals := 98 }
def s_Mo_startAll_119 (k4 : Nat → Int32 → Int32 → am_w → Option (Int32 × am_w)) (v0 : Nat) (v1 : Int32) (v2 : Int32) (s0 : Int32) (s1 : Int32) (s2 : Nat) (w : am_w) : Option (Int32 × am_w) := ((am_is s2 s1 s0 w).bind fun w28 => ((am_rg 7 19 v0 w28).bind fun b29 => ((am_is b29 v2 (-1 : Int32) w28).bind fun w30 => ((am_rg 7 20 v0 w30).bind fun b31 => ((am_is b31 v2 (-1 : Int32) w30).bind fun w32 => (k4 v0 (v1 + (1 : Int32)) (v2 + (1 : Int32)) w32))))))
set_option maxHeartbeats 4000000 in
theorem L_Mo_startAll_119 {p : Program} {l : Launch} {e : Env} {s : State} {m : MethodId} {args : Array Value} {below : List Frame} {meth : Method} {c : Code} {D : va_G} {A : Nat → Prop} {r : Int32 × am_w} (C : am_C p m c b_Mo_startAll 3 s args am_W "RoverMinutesModel" D classes A) (hret : meth.sig.returnType = (some .int)) (hlk : meth.locks = false) {k4 : Nat → Int32 → Int32 → am_w → Option (Int32 × am_w)} (hk4 : ∀ (v0 : Nat) (v1 : Int32) (v2 : Int32) (w : am_w), k4 v0 v1 v2 w = some r → am_V p l e rm_Mo_startAll s m args below meth c D classes tys A (am_F A true) 3 0 0 (MQ below (am_Q D classes tys A (am_F A true) (am_ri r)) args s 0 0 (am_F A true)) 4 [some (.ref v0), some (.int v1), some (.int v2)] [] w) : ∀ (v0 : Nat) (v1 : Int32) (v2 : Int32) (s0 : Int32) (s1 : Int32) (s2 : Nat) (w : am_w), s_Mo_startAll_119 k4 v0 v1 v2 s0 s1 s2 w = some r → am_V p l e rm_Mo_startAll s m args below meth c D classes tys A (am_F A true) 3 0 0 (MQ below (am_Q D classes tys A (am_F A true) (am_ri r)) args s 0 0 (am_F A true)) 119 [some (.ref v0), some (.int v1), some (.int v2)] [.int s0, .int s1, .ref s2] w := by
  intro v0 v1 v2 s0 s1 s2 w hX
  unfold s_Mo_startAll_119 at hX
  refine am_iast (pc := 119) C (fun _ h => ⟨rfl, h⟩) d_Mo_startAll_119 hX (fun w28 hX => ?_)
  refine am_aload_n (pc := 120) C d_Mo_startAll_120 rfl rfl ?_
  refine am_getr (pc := 121) C hin_Mo rfl (by decide) wd_4_119 rfl d_Mo_startAll_121 rfl hX (fun b29 hX => ?_)
  refine am_iload_n (pc := 124) C d_Mo_startAll_124 rfl rfl ?_
  refine am_iconst (pc := 125) (v := (-1 : Int32)) C d_Mo_startAll_125 (by decide) ?_
  refine am_iast (pc := 126) C (fun _ h => ⟨rfl, h⟩) d_Mo_startAll_126 hX (fun w30 hX => ?_)
  refine am_aload_n (pc := 127) C d_Mo_startAll_127 rfl rfl ?_
  refine am_getr (pc := 128) C hin_Mo rfl (by decide) wd_4_120 rfl d_Mo_startAll_128 rfl hX (fun b31 hX => ?_)
  refine am_iload_n (pc := 131) C d_Mo_startAll_131 rfl rfl ?_
  refine am_iconst (pc := 132) (v := (-1 : Int32)) C d_Mo_startAll_132 (by decide) ?_
  refine am_iast (pc := 133) C (fun _ h => ⟨rfl, h⟩) d_Mo_startAll_133 hX (fun w32 hX => ?_)
  refine am_iinc (pc := 134) (y := (1 : Int32)) (lo1 := [some (.ref v0), some (.int (v1 + (1 : Int32))), some (.int v2)]) C d_Mo_startAll_134 rfl (by decide) (by decide) rfl ?_
  refine am_iinc (pc := 137) (y := (1 : Int32)) (lo1 := [some (.ref v0), some (.int (v1 + (1 : Int32))), some (.int (v2 + (1 : Int32)))]) C d_Mo_startAll_137 rfl (by decide) (by decide) rfl ?_
  refine am_goto (pc := 140) (tgt := 4) C d_Mo_startAll_140 rfl ?_
  exact (hk4 v0 (v1 + (1 : Int32)) (v2 + (1 : Int32)) w32 hX)
def s_Mo_startAll_86 (k4 : Nat → Int32 → Int32 → am_w → Option (Int32 × am_w)) (v0 : Nat) (v1 : Int32) (v2 : Int32) (s0 : Int32) (s1 : Int32) (s2 : Nat) (w : am_w) : Option (Int32 × am_w) := ((am_is s2 s1 s0 w).bind fun w22 => ((am_rg 7 18 v0 w22).bind fun b23 => ((am_rg 7 20 v0 w22).bind fun b24 => ((am_ig b24 v2 w22).bind fun x25 => (if 0 ≤ x25 then ((am_rg 7 20 v0 w22).bind fun b26 => ((am_ig b26 v2 w22).bind fun x27 => (s_Mo_startAll_119 k4 v0 v1 v2 x27 v2 b23 w22))) else ((am_rg 7 10 v0 w22).bind fun b33 => ((am_ig b33 ((16 : Int32) + v2) w22).bind fun x34 => (s_Mo_startAll_119 k4 v0 v1 v2 x34 v2 b23 w22))))))))
set_option maxHeartbeats 4000000 in
theorem L_Mo_startAll_86 {p : Program} {l : Launch} {e : Env} {s : State} {m : MethodId} {args : Array Value} {below : List Frame} {meth : Method} {c : Code} {D : va_G} {A : Nat → Prop} {r : Int32 × am_w} (C : am_C p m c b_Mo_startAll 3 s args am_W "RoverMinutesModel" D classes A) (hret : meth.sig.returnType = (some .int)) (hlk : meth.locks = false) {k4 : Nat → Int32 → Int32 → am_w → Option (Int32 × am_w)} (hk4 : ∀ (v0 : Nat) (v1 : Int32) (v2 : Int32) (w : am_w), k4 v0 v1 v2 w = some r → am_V p l e rm_Mo_startAll s m args below meth c D classes tys A (am_F A true) 3 0 0 (MQ below (am_Q D classes tys A (am_F A true) (am_ri r)) args s 0 0 (am_F A true)) 4 [some (.ref v0), some (.int v1), some (.int v2)] [] w) : ∀ (v0 : Nat) (v1 : Int32) (v2 : Int32) (s0 : Int32) (s1 : Int32) (s2 : Nat) (w : am_w), s_Mo_startAll_86 k4 v0 v1 v2 s0 s1 s2 w = some r → am_V p l e rm_Mo_startAll s m args below meth c D classes tys A (am_F A true) 3 0 0 (MQ below (am_Q D classes tys A (am_F A true) (am_ri r)) args s 0 0 (am_F A true)) 86 [some (.ref v0), some (.int v1), some (.int v2)] [.int s0, .int s1, .ref s2] w := by
  intro v0 v1 v2 s0 s1 s2 w hX
  unfold s_Mo_startAll_86 at hX
  refine am_iast (pc := 86) C (fun _ h => ⟨rfl, h⟩) d_Mo_startAll_86 hX (fun w22 hX => ?_)
  refine am_aload_n (pc := 87) C d_Mo_startAll_87 rfl rfl ?_
  refine am_getr (pc := 88) C hin_Mo rfl (by decide) wd_4_118 rfl d_Mo_startAll_88 rfl hX (fun b23 hX => ?_)
  refine am_iload_n (pc := 91) C d_Mo_startAll_91 rfl rfl ?_
  refine am_aload_n (pc := 92) C d_Mo_startAll_92 rfl rfl ?_
  refine am_getr (pc := 93) C hin_Mo rfl (by decide) wd_4_120 rfl d_Mo_startAll_93 rfl hX (fun b24 hX => ?_)
  refine am_iload_n (pc := 96) C d_Mo_startAll_96 rfl rfl ?_
  refine am_iald (pc := 97) C d_Mo_startAll_97 hX (fun x25 hX => ?_)
  refine am_if_ge (pc := 98) (tgt := 113) C d_Mo_startAll_98 rfl hX (fun hX => ?_) (fun hX => ?_)
  · skip
    refine am_aload_n (pc := 113) C d_Mo_startAll_113 rfl rfl ?_
    refine am_getr (pc := 114) C hin_Mo rfl (by decide) wd_4_120 rfl d_Mo_startAll_114 rfl hX (fun b26 hX => ?_)
    refine am_iload_n (pc := 117) C d_Mo_startAll_117 rfl rfl ?_
    refine am_iald (pc := 118) C d_Mo_startAll_118 hX (fun x27 hX => ?_)
    exact (L_Mo_startAll_119 C hret hlk hk4 v0 v1 v2 x27 v2 b23 w22 hX)
  · skip
    refine am_aload_n (pc := 101) C d_Mo_startAll_101 rfl rfl ?_
    refine am_getr (pc := 102) C hin_Mo rfl (by decide) wd_4_110 rfl d_Mo_startAll_102 rfl hX (fun b33 hX => ?_)
    refine am_bipush (pc := 105) (v := (16 : Int32)) C d_Mo_startAll_105 (by decide) ?_
    refine am_iload_n (pc := 107) C d_Mo_startAll_107 rfl rfl ?_
    refine am_iadd (pc := 108) C d_Mo_startAll_108 ?_
    refine am_iald (pc := 109) C d_Mo_startAll_109 hX (fun x34 hX => ?_)
    refine am_goto (pc := 110) (tgt := 119) C d_Mo_startAll_110 rfl ?_
    exact (L_Mo_startAll_119 C hret hlk hk4 v0 v1 v2 x34 v2 b23 w22 hX)
def s_Mo_startAll_4 (k4 : Nat → Int32 → Int32 → am_w → Option (Int32 × am_w)) (v0 : Nat) (v1 : Int32) (v2 : Int32) (w : am_w) : Option (Int32 × am_w) := ((am_fg 7 9 v0 w).bind fun x1 => (if x1 ≤ v2 then ((am_ob 7 v0 w (f_Mo_howMany v0 (0 : Int32) w)).bind fun q2 => ((am_ob 7 v0 q2.2 (f_Mo_howMany v0 (1 : Int32) q2.2)).bind fun q3 => (if (q2.1 + q3.1) = 0 then ((am_fp 7 22 v0 (0 : Int32) q3.2).bind fun w5 => (some (v1, w5))) else ((am_fp 7 22 v0 (1 : Int32) q3.2).bind fun w4 => (some (v1, w4)))))) else ((am_ob 7 v0 w (f_Mo_mayStart v0 v2 w)).bind fun q6 => (if q6.1 = 0 then (k4 v0 v1 (v2 + (1 : Int32)) q6.2) else ((am_rg 7 12 v0 q6.2).bind fun b7 => ((am_is b7 v2 (1 : Int32) q6.2).bind fun w8 => ((am_rg 7 13 v0 w8).bind fun b9 => ((am_fg 7 21 v0 w8).bind fun x10 => ((am_is b9 v2 x10 w8).bind fun w11 => ((am_rg 7 14 v0 w11).bind fun b12 => ((am_is b12 v2 (0 : Int32) w11).bind fun w13 => ((am_rg 7 16 v0 w13).bind fun b14 => ((am_ig b14 v2 w13).bind fun x15 => ((am_is b14 v2 (x15 + (1 : Int32)) w13).bind fun w16 => ((am_rg 7 17 v0 w16).bind fun b17 => ((am_rg 7 19 v0 w16).bind fun b18 => ((am_ig b18 v2 w16).bind fun x19 => (if 0 ≤ x19 then ((am_rg 7 19 v0 w16).bind fun b20 => ((am_ig b20 v2 w16).bind fun x21 => (s_Mo_startAll_86 k4 v0 v1 v2 x21 v2 b17 w16))) else ((am_rg 7 10 v0 w16).bind fun b35 => ((am_ig b35 ((8 : Int32) + v2) w16).bind fun x36 => (s_Mo_startAll_86 k4 v0 v1 v2 x36 v2 b17 w16)))))))))))))))))))))
def f_Mo_startAll_4  (n : Nat) : Nat → Int32 → Int32 → am_w → Option (Int32 × am_w) := am_it (fun _ _ _ _ => none) (s_Mo_startAll_4 ) n
set_option maxHeartbeats 4000000 in
theorem L_Mo_startAll_4 {p : Program} {l : Launch} {e : Env} {s : State} {m : MethodId} {args : Array Value} {below : List Frame} {meth : Method} {c : Code} {D : va_G} {A : Nat → Prop} {r : Int32 × am_w} (C : am_C p m c b_Mo_startAll 3 s args am_W "RoverMinutesModel" D classes A) (hret : meth.sig.returnType = (some .int)) (hlk : meth.locks = false)   (n : Nat) : ∀ (v0 : Nat) (v1 : Int32) (v2 : Int32) (w : am_w), f_Mo_startAll_4  n v0 v1 v2 w = some r → am_V p l e rm_Mo_startAll s m args below meth c D classes tys A (am_F A true) 3 0 0 (MQ below (am_Q D classes tys A (am_F A true) (am_ri r)) args s 0 0 (am_F A true)) 4 [some (.ref v0), some (.int v1), some (.int v2)] [] w := by
  refine am_it_ind (P := fun (t : Nat → Int32 → Int32 → am_w → Option (Int32 × am_w)) => ∀ (v0 : Nat) (v1 : Int32) (v2 : Int32) (w : am_w), t v0 v1 v2 w = some r → am_V p l e rm_Mo_startAll s m args below meth c D classes tys A (am_F A true) 3 0 0 (MQ below (am_Q D classes tys A (am_F A true) (am_ri r)) args s 0 0 (am_F A true)) 4 [some (.ref v0), some (.int v1), some (.int v2)] [] w) ?_ ?_ n
  · intro v0 v1 v2 w hX
    exact (am_nn hX).elim
  · intro k4 hk4 v0 v1 v2 w hX
    unfold s_Mo_startAll_4 at hX
    refine am_iload_n (pc := 4) C d_Mo_startAll_4 rfl rfl ?_
    refine am_aload_n (pc := 5) C d_Mo_startAll_5 rfl rfl ?_
    refine am_get (pc := 6) C hin_Mo rfl (by decide) wd_4_109 rfl d_Mo_startAll_6 rfl hX (fun x1 hX => ?_)
    refine am_icmp_ge (pc := 9) (tgt := 143) C d_Mo_startAll_9 rfl hX (fun hX => ?_) (fun hX => ?_)
    · skip
      refine am_aload_n (pc := 143) C d_Mo_startAll_143 rfl rfl ?_
      refine am_aload_n (pc := 144) C d_Mo_startAll_144 rfl rfl ?_
      refine am_iconst (pc := 145) (v := (0 : Int32)) C d_Mo_startAll_145 (by decide) ?_
      refine am_callVi (pc := 146) (As := [.int (0 : Int32)]) (st := [.ref v0]) (cells1 := 0) (slots1 := 0) C (fun _ h => h.2) (fun _ h => by cases h.1) (fun q h => c_Mo_howMany h) wd_5_65 wd_5_67 ws_Mo_howMany wd_1_9 wd_5_68 rfl rfl hd_Mo_howMany ⟨by decide, by decide⟩ rfl rfl (Nat.le_of_ble_eq_true rfl) d_Mo_startAll_146 ⟨by decide, by decide⟩ rfl rfl rfl hX (fun q2 hX => ?_)
      refine am_aload_n (pc := 149) C d_Mo_startAll_149 rfl rfl ?_
      refine am_iconst (pc := 150) (v := (1 : Int32)) C d_Mo_startAll_150 (by decide) ?_
      refine am_callVi (pc := 151) (As := [.int (1 : Int32)]) (st := [.int q2.1, .ref v0]) (cells1 := 0) (slots1 := 0) C (fun _ h => h.2) (fun _ h => by cases h.1) (fun q h => c_Mo_howMany h) wd_5_65 wd_5_67 ws_Mo_howMany wd_1_9 wd_5_68 rfl rfl hd_Mo_howMany ⟨by decide, by decide⟩ rfl rfl (Nat.le_of_ble_eq_true rfl) d_Mo_startAll_151 ⟨by decide, by decide⟩ rfl rfl rfl hX (fun q3 hX => ?_)
      refine am_iadd (pc := 154) C d_Mo_startAll_154 ?_
      refine am_if_ne (pc := 155) (tgt := 162) C d_Mo_startAll_155 rfl hX (fun hX => ?_) (fun hX => ?_)
      · skip
        refine am_iconst (pc := 162) (v := (1 : Int32)) C d_Mo_startAll_162 (by decide) ?_
        refine am_put (pc := 163) C (fun _ h => ⟨rfl, h⟩) hin_Mo t_Mo t_Mo_ok n_Mo rfl (by decide) wd_4_122 rfl rfl (t_Mo_ok 22 (by decide)) rfl rfl rfl d_Mo_startAll_163 hX (fun w4 hX => ?_)
        refine am_iload_n (pc := 166) C d_Mo_startAll_166 rfl rfl ?_
        exact am_iret (pc := 167) C hret hlk d_Mo_startAll_167 rfl (by decide) (by decide) hX
      · skip
        refine am_iconst (pc := 158) (v := (0 : Int32)) C d_Mo_startAll_158 (by decide) ?_
        refine am_goto (pc := 159) (tgt := 163) C d_Mo_startAll_159 rfl ?_
        refine am_put (pc := 163) C (fun _ h => ⟨rfl, h⟩) hin_Mo t_Mo t_Mo_ok n_Mo rfl (by decide) wd_4_122 rfl rfl (t_Mo_ok 22 (by decide)) rfl rfl rfl d_Mo_startAll_163 hX (fun w5 hX => ?_)
        refine am_iload_n (pc := 166) C d_Mo_startAll_166 rfl rfl ?_
        exact am_iret (pc := 167) C hret hlk d_Mo_startAll_167 rfl (by decide) (by decide) hX
    · skip
      refine am_aload_n (pc := 12) C d_Mo_startAll_12 rfl rfl ?_
      refine am_iload_n (pc := 13) C d_Mo_startAll_13 rfl rfl ?_
      refine am_callVi (pc := 14) (As := [.int v2]) (st := []) (cells1 := 0) (slots1 := 0) C (fun _ h => h.2) (fun _ h => by cases h.1) (fun q h => c_Mo_mayStart h) wd_5_45 wd_5_47 ws_Mo_mayStart wd_1_9 wd_5_48 rfl rfl hd_Mo_mayStart ⟨by decide, by decide⟩ rfl rfl (Nat.le_of_ble_eq_true rfl) d_Mo_startAll_14 ⟨by decide, by decide⟩ rfl rfl rfl hX (fun q6 hX => ?_)
      refine am_if_eq (pc := 17) (tgt := 137) C d_Mo_startAll_17 rfl hX (fun hX => ?_) (fun hX => ?_)
      · skip
        refine am_iinc (pc := 137) (y := (1 : Int32)) (lo1 := [some (.ref v0), some (.int v1), some (.int (v2 + (1 : Int32)))]) C d_Mo_startAll_137 rfl (by decide) (by decide) rfl ?_
        refine am_goto (pc := 140) (tgt := 4) C d_Mo_startAll_140 rfl ?_
        exact (hk4 v0 v1 (v2 + (1 : Int32)) q6.2 hX)
      · skip
        refine am_aload_n (pc := 20) C d_Mo_startAll_20 rfl rfl ?_
        refine am_getr (pc := 21) C hin_Mo rfl (by decide) wd_4_112 rfl d_Mo_startAll_21 rfl hX (fun b7 hX => ?_)
        refine am_iload_n (pc := 24) C d_Mo_startAll_24 rfl rfl ?_
        refine am_iconst (pc := 25) (v := (1 : Int32)) C d_Mo_startAll_25 (by decide) ?_
        refine am_iast (pc := 26) C (fun _ h => ⟨rfl, h⟩) d_Mo_startAll_26 hX (fun w8 hX => ?_)
        refine am_aload_n (pc := 27) C d_Mo_startAll_27 rfl rfl ?_
        refine am_getr (pc := 28) C hin_Mo rfl (by decide) wd_4_113 rfl d_Mo_startAll_28 rfl hX (fun b9 hX => ?_)
        refine am_iload_n (pc := 31) C d_Mo_startAll_31 rfl rfl ?_
        refine am_aload_n (pc := 32) C d_Mo_startAll_32 rfl rfl ?_
        refine am_get (pc := 33) C hin_Mo rfl (by decide) wd_4_121 rfl d_Mo_startAll_33 rfl hX (fun x10 hX => ?_)
        refine am_iast (pc := 36) C (fun _ h => ⟨rfl, h⟩) d_Mo_startAll_36 hX (fun w11 hX => ?_)
        refine am_aload_n (pc := 37) C d_Mo_startAll_37 rfl rfl ?_
        refine am_getr (pc := 38) C hin_Mo rfl (by decide) wd_4_114 rfl d_Mo_startAll_38 rfl hX (fun b12 hX => ?_)
        refine am_iload_n (pc := 41) C d_Mo_startAll_41 rfl rfl ?_
        refine am_iconst (pc := 42) (v := (0 : Int32)) C d_Mo_startAll_42 (by decide) ?_
        refine am_iast (pc := 43) C (fun _ h => ⟨rfl, h⟩) d_Mo_startAll_43 hX (fun w13 hX => ?_)
        refine am_aload_n (pc := 44) C d_Mo_startAll_44 rfl rfl ?_
        refine am_getr (pc := 45) C hin_Mo rfl (by decide) wd_4_116 rfl d_Mo_startAll_45 rfl hX (fun b14 hX => ?_)
        refine am_iload_n (pc := 48) C d_Mo_startAll_48 rfl rfl ?_
        refine am_dup2 (pc := 49) C d_Mo_startAll_49 rfl rfl ?_
        refine am_iald (pc := 50) C d_Mo_startAll_50 hX (fun x15 hX => ?_)
        refine am_iconst (pc := 51) (v := (1 : Int32)) C d_Mo_startAll_51 (by decide) ?_
        refine am_iadd (pc := 52) C d_Mo_startAll_52 ?_
        refine am_iast (pc := 53) C (fun _ h => ⟨rfl, h⟩) d_Mo_startAll_53 hX (fun w16 hX => ?_)
        refine am_aload_n (pc := 54) C d_Mo_startAll_54 rfl rfl ?_
        refine am_getr (pc := 55) C hin_Mo rfl (by decide) wd_4_117 rfl d_Mo_startAll_55 rfl hX (fun b17 hX => ?_)
        refine am_iload_n (pc := 58) C d_Mo_startAll_58 rfl rfl ?_
        refine am_aload_n (pc := 59) C d_Mo_startAll_59 rfl rfl ?_
        refine am_getr (pc := 60) C hin_Mo rfl (by decide) wd_4_119 rfl d_Mo_startAll_60 rfl hX (fun b18 hX => ?_)
        refine am_iload_n (pc := 63) C d_Mo_startAll_63 rfl rfl ?_
        refine am_iald (pc := 64) C d_Mo_startAll_64 hX (fun x19 hX => ?_)
        refine am_if_ge (pc := 65) (tgt := 80) C d_Mo_startAll_65 rfl hX (fun hX => ?_) (fun hX => ?_)
        · skip
          refine am_aload_n (pc := 80) C d_Mo_startAll_80 rfl rfl ?_
          refine am_getr (pc := 81) C hin_Mo rfl (by decide) wd_4_119 rfl d_Mo_startAll_81 rfl hX (fun b20 hX => ?_)
          refine am_iload_n (pc := 84) C d_Mo_startAll_84 rfl rfl ?_
          refine am_iald (pc := 85) C d_Mo_startAll_85 hX (fun x21 hX => ?_)
          exact (L_Mo_startAll_86 C hret hlk hk4 v0 v1 v2 x21 v2 b17 w16 hX)
        · skip
          refine am_aload_n (pc := 68) C d_Mo_startAll_68 rfl rfl ?_
          refine am_getr (pc := 69) C hin_Mo rfl (by decide) wd_4_110 rfl d_Mo_startAll_69 rfl hX (fun b35 hX => ?_)
          refine am_bipush (pc := 72) (v := (8 : Int32)) C d_Mo_startAll_72 (by decide) ?_
          refine am_iload_n (pc := 74) C d_Mo_startAll_74 rfl rfl ?_
          refine am_iadd (pc := 75) C d_Mo_startAll_75 ?_
          refine am_iald (pc := 76) C d_Mo_startAll_76 hX (fun x36 hX => ?_)
          refine am_goto (pc := 77) (tgt := 86) C d_Mo_startAll_77 rfl ?_
          exact (L_Mo_startAll_86 C hret hlk hk4 v0 v1 v2 x36 v2 b17 w16 hX)
def f_Mo_startAll (a0 : Nat) (w : am_w) : Option (Int32 × am_w) := (f_Mo_startAll_4  70 a0 (0 : Int32) (0 : Int32) w)
theorem hd_Mo_startAll : y_Mo_startAll.cls = "RoverMinutesModel" ∧ y_Mo_startAll.cls ≠ "java/lang/invoke/MethodHandle" ∧ y_Mo_startAll.cls ≠ "java/lang/invoke/VarHandle" ∧ (parseMethodDescriptor y_Mo_startAll.desc).map (fun d => d.parameters.length) = some 0 := ⟨rfl, by decide, by decide, by decide +kernel⟩
set_option maxHeartbeats 4000000 in
theorem c_Mo_startAll {l : Launch} {D : va_G} {A : Nat → Prop} {a0 : Nat} {w : am_w} {r : Int32 × am_w} (hX : f_Mo_startAll a0 w = some r) : am_Met l D classes tys A (am_F A true) y_Mo_startAll (Cond.code y_Mo_startAll b_Mo_startAll 3 (some .int) :: am_W) rm_Mo_startAll [.ref a0] w (am_ri r) 0 0 := by
  refine am_ofV (by decide) am_W_good (Nat.le_of_ble_eq_true rfl) (by simp [Value.category]) ?_
  intro p e s m below meth c C hret hlk hnm
  unfold f_Mo_startAll at hX
  refine am_iconst (pc := 0) (v := (0 : Int32)) C d_Mo_startAll_0 (by decide) ?_
  refine am_istore_n (pc := 1) (lo1 := [some (.ref a0), some (.int (0 : Int32)), none]) C d_Mo_startAll_1 rfl (by decide) rfl ?_
  refine am_iconst (pc := 2) (v := (0 : Int32)) C d_Mo_startAll_2 (by decide) ?_
  refine am_istore_n (pc := 3) (lo1 := [some (.ref a0), some (.int (0 : Int32)), some (.int (0 : Int32))]) C d_Mo_startAll_3 rfl (by decide) rfl ?_
  exact (L_Mo_startAll_4 C hret hlk  70 a0 (0 : Int32) (0 : Int32) w hX)
def rm_Mo_goHome : Room := { frames := 0, cells := 0, slots := 0, locals := 0 }
def s_Mo_goHome_2 (k2 : Nat → Int32 → am_w → Option (Int32 × am_w)) (v0 : Nat) (v1 : Int32) (w : am_w) : Option (Int32 × am_w) := ((am_fg 7 9 v0 w).bind fun x1 => (if x1 ≤ v1 then ((am_fp 7 22 v0 (2 : Int32) w).bind fun w2 => ((am_fg 7 27 v0 w2).bind fun x3 => ((am_fp 7 29 v0 x3 w2).bind fun w4 => (some (0, w4))))) else ((am_rg 7 12 v0 w).bind fun b5 => ((am_rg 7 12 v0 w).bind fun b6 => ((am_ig b6 v1 w).bind fun x7 => (if x7 = (1 : Int32) then ((am_is b5 v1 (3 : Int32) w).bind fun w14 => (k2 v0 (v1 + (1 : Int32)) w14)) else ((am_rg 7 12 v0 w).bind fun b8 => ((am_ig b8 v1 w).bind fun x9 => (if x9 = 0 then ((am_is b5 v1 (4 : Int32) w).bind fun w13 => (k2 v0 (v1 + (1 : Int32)) w13)) else ((am_rg 7 12 v0 w).bind fun b10 => ((am_ig b10 v1 w).bind fun x11 => ((am_is b5 v1 x11 w).bind fun w12 => (k2 v0 (v1 + (1 : Int32)) w12)))))))))))))
def f_Mo_goHome_2  (n : Nat) : Nat → Int32 → am_w → Option (Int32 × am_w) := am_it (fun _ _ _ => none) (s_Mo_goHome_2 ) n
set_option maxHeartbeats 4000000 in
theorem L_Mo_goHome_2 {p : Program} {l : Launch} {e : Env} {s : State} {m : MethodId} {args : Array Value} {below : List Frame} {meth : Method} {c : Code} {D : va_G} {A : Nat → Prop} {r : Int32 × am_w} (C : am_C p m c b_Mo_goHome 2 s args am_W "RoverMinutesModel" D classes A) (hret : meth.sig.returnType = none) (hlk : meth.locks = false)   (n : Nat) : ∀ (v0 : Nat) (v1 : Int32) (w : am_w), f_Mo_goHome_2  n v0 v1 w = some r → am_V p l e rm_Mo_goHome s m args below meth c D classes tys A (am_F A true) 2 0 0 (MQ below (am_Q D classes tys A (am_F A true) (am_rv r)) args s 0 0 (am_F A true)) 2 [some (.ref v0), some (.int v1)] [] w := by
  refine am_it_ind (P := fun (t : Nat → Int32 → am_w → Option (Int32 × am_w)) => ∀ (v0 : Nat) (v1 : Int32) (w : am_w), t v0 v1 w = some r → am_V p l e rm_Mo_goHome s m args below meth c D classes tys A (am_F A true) 2 0 0 (MQ below (am_Q D classes tys A (am_F A true) (am_rv r)) args s 0 0 (am_F A true)) 2 [some (.ref v0), some (.int v1)] [] w) ?_ ?_ n
  · intro v0 v1 w hX
    exact (am_nn hX).elim
  · intro k2 hk2 v0 v1 w hX
    unfold s_Mo_goHome_2 at hX
    refine am_iload_n (pc := 2) C d_Mo_goHome_2 rfl rfl ?_
    refine am_aload_n (pc := 3) C d_Mo_goHome_3 rfl rfl ?_
    refine am_get (pc := 4) C hin_Mo rfl (by decide) wd_4_109 rfl d_Mo_goHome_4 rfl hX (fun x1 hX => ?_)
    refine am_icmp_ge (pc := 7) (tgt := 55) C d_Mo_goHome_7 rfl hX (fun hX => ?_) (fun hX => ?_)
    · skip
      refine am_aload_n (pc := 55) C d_Mo_goHome_55 rfl rfl ?_
      refine am_iconst (pc := 56) (v := (2 : Int32)) C d_Mo_goHome_56 (by decide) ?_
      refine am_put (pc := 57) C (fun _ h => ⟨rfl, h⟩) hin_Mo t_Mo t_Mo_ok n_Mo rfl (by decide) wd_4_122 rfl rfl (t_Mo_ok 22 (by decide)) rfl rfl rfl d_Mo_goHome_57 hX (fun w2 hX => ?_)
      refine am_aload_n (pc := 60) C d_Mo_goHome_60 rfl rfl ?_
      refine am_aload_n (pc := 61) C d_Mo_goHome_61 rfl rfl ?_
      refine am_get (pc := 62) C hin_Mo rfl (by decide) wd_4_127 rfl d_Mo_goHome_62 rfl hX (fun x3 hX => ?_)
      refine am_put (pc := 65) C (fun _ h => ⟨rfl, h⟩) hin_Mo t_Mo t_Mo_ok n_Mo rfl (by decide) wd_4_129 rfl rfl (t_Mo_ok 29 (by decide)) rfl rfl rfl d_Mo_goHome_65 hX (fun w4 hX => ?_)
      exact am_vret (pc := 68) C hret hlk d_Mo_goHome_68 (by decide) (by decide) hX
    · skip
      refine am_aload_n (pc := 10) C d_Mo_goHome_10 rfl rfl ?_
      refine am_getr (pc := 11) C hin_Mo rfl (by decide) wd_4_112 rfl d_Mo_goHome_11 rfl hX (fun b5 hX => ?_)
      refine am_iload_n (pc := 14) C d_Mo_goHome_14 rfl rfl ?_
      refine am_aload_n (pc := 15) C d_Mo_goHome_15 rfl rfl ?_
      refine am_getr (pc := 16) C hin_Mo rfl (by decide) wd_4_112 rfl d_Mo_goHome_16 rfl hX (fun b6 hX => ?_)
      refine am_iload_n (pc := 19) C d_Mo_goHome_19 rfl rfl ?_
      refine am_iald (pc := 20) C d_Mo_goHome_20 hX (fun x7 hX => ?_)
      refine am_iconst (pc := 21) (v := (1 : Int32)) C d_Mo_goHome_21 (by decide) ?_
      refine am_icmp_ne (pc := 22) (tgt := 29) C d_Mo_goHome_22 rfl hX (fun hX => ?_) (fun hX => ?_)
      · skip
        refine am_aload_n (pc := 29) C d_Mo_goHome_29 rfl rfl ?_
        refine am_getr (pc := 30) C hin_Mo rfl (by decide) wd_4_112 rfl d_Mo_goHome_30 rfl hX (fun b8 hX => ?_)
        refine am_iload_n (pc := 33) C d_Mo_goHome_33 rfl rfl ?_
        refine am_iald (pc := 34) C d_Mo_goHome_34 hX (fun x9 hX => ?_)
        refine am_if_ne (pc := 35) (tgt := 42) C d_Mo_goHome_35 rfl hX (fun hX => ?_) (fun hX => ?_)
        · skip
          refine am_aload_n (pc := 42) C d_Mo_goHome_42 rfl rfl ?_
          refine am_getr (pc := 43) C hin_Mo rfl (by decide) wd_4_112 rfl d_Mo_goHome_43 rfl hX (fun b10 hX => ?_)
          refine am_iload_n (pc := 46) C d_Mo_goHome_46 rfl rfl ?_
          refine am_iald (pc := 47) C d_Mo_goHome_47 hX (fun x11 hX => ?_)
          refine am_iast (pc := 48) C (fun _ h => ⟨rfl, h⟩) d_Mo_goHome_48 hX (fun w12 hX => ?_)
          refine am_iinc (pc := 49) (y := (1 : Int32)) (lo1 := [some (.ref v0), some (.int (v1 + (1 : Int32)))]) C d_Mo_goHome_49 rfl (by decide) (by decide) rfl ?_
          refine am_goto (pc := 52) (tgt := 2) C d_Mo_goHome_52 rfl ?_
          exact (hk2 v0 (v1 + (1 : Int32)) w12 hX)
        · skip
          refine am_iconst (pc := 38) (v := (4 : Int32)) C d_Mo_goHome_38 (by decide) ?_
          refine am_goto (pc := 39) (tgt := 48) C d_Mo_goHome_39 rfl ?_
          refine am_iast (pc := 48) C (fun _ h => ⟨rfl, h⟩) d_Mo_goHome_48 hX (fun w13 hX => ?_)
          refine am_iinc (pc := 49) (y := (1 : Int32)) (lo1 := [some (.ref v0), some (.int (v1 + (1 : Int32)))]) C d_Mo_goHome_49 rfl (by decide) (by decide) rfl ?_
          refine am_goto (pc := 52) (tgt := 2) C d_Mo_goHome_52 rfl ?_
          exact (hk2 v0 (v1 + (1 : Int32)) w13 hX)
      · skip
        refine am_iconst (pc := 25) (v := (3 : Int32)) C d_Mo_goHome_25 (by decide) ?_
        refine am_goto (pc := 26) (tgt := 48) C d_Mo_goHome_26 rfl ?_
        refine am_iast (pc := 48) C (fun _ h => ⟨rfl, h⟩) d_Mo_goHome_48 hX (fun w14 hX => ?_)
        refine am_iinc (pc := 49) (y := (1 : Int32)) (lo1 := [some (.ref v0), some (.int (v1 + (1 : Int32)))]) C d_Mo_goHome_49 rfl (by decide) (by decide) rfl ?_
        refine am_goto (pc := 52) (tgt := 2) C d_Mo_goHome_52 rfl ?_
        exact (hk2 v0 (v1 + (1 : Int32)) w14 hX)
def f_Mo_goHome (a0 : Nat) (w : am_w) : Option (Int32 × am_w) := (f_Mo_goHome_2  70 a0 (0 : Int32) w)
theorem hd_Mo_goHome : y_Mo_goHome.cls = "RoverMinutesModel" ∧ y_Mo_goHome.cls ≠ "java/lang/invoke/MethodHandle" ∧ y_Mo_goHome.cls ≠ "java/lang/invoke/VarHandle" ∧ (parseMethodDescriptor y_Mo_goHome.desc).map (fun d => d.parameters.length) = some 0 := ⟨rfl, by decide, by decide, by decide +kernel⟩
set_option maxHeartbeats 4000000 in
theorem c_Mo_goHome {l : Launch} {D : va_G} {A : Nat → Prop} {a0 : Nat} {w : am_w} {r : Int32 × am_w} (hX : f_Mo_goHome a0 w = some r) : am_Met l D classes tys A (am_F A true) y_Mo_goHome (Cond.code y_Mo_goHome b_Mo_goHome 2 none :: am_W) rm_Mo_goHome [.ref a0] w (am_rv r) 0 0 := by
  refine am_ofV (by decide) am_W_good (Nat.le_of_ble_eq_true rfl) (by simp [Value.category]) ?_
  intro p e s m below meth c C hret hlk hnm
  unfold f_Mo_goHome at hX
  refine am_iconst (pc := 0) (v := (0 : Int32)) C d_Mo_goHome_0 (by decide) ?_
  refine am_istore_n (pc := 1) (lo1 := [some (.ref a0), some (.int (0 : Int32))]) C d_Mo_goHome_1 rfl (by decide) rfl ?_
  exact (L_Mo_goHome_2 C hret hlk  70 a0 (0 : Int32) w hX)
def rm_Mo_enable : Room := { frames := 5, cells := 0, slots := 0, locals := 120 }
def s_Mo_enable_35  (v0 : Nat) (s0 : Int32) (s1 : Nat) (w : am_w) : Option (Int32 × am_w) := ((am_ob 7 s1 w (f_Mo_refused s1 s0 (0 : Int32) w)).bind fun q2 => (if q2.1 = 0 then ((am_ob 7 v0 q2.2 (f_Mo_rest v0 q2.2)).bind fun q3 => ((am_fg 7 21 v0 q3.2).bind fun x4 => ((am_fp 7 30 v0 x4 q3.2).bind fun w5 => ((am_ob 7 v0 w5 (f_Mo_skip v0 w5)).bind fun q6 => ((am_ob 7 v0 q6.2 (f_Mo_startAll v0 q6.2)).bind fun q7 => (some (q7.1, q7.2))))))) else (some ((0 : Int32), q2.2))))
set_option maxHeartbeats 4000000 in
theorem L_Mo_enable_35 {p : Program} {l : Launch} {e : Env} {s : State} {m : MethodId} {args : Array Value} {below : List Frame} {meth : Method} {c : Code} {D : va_G} {A : Nat → Prop} {r : Int32 × am_w} (C : am_C p m c b_Mo_enable 1 s args am_W "RoverMinutesModel" D classes A) (hret : meth.sig.returnType = (some .int)) (hlk : meth.locks = false)   : ∀ (v0 : Nat) (s0 : Int32) (s1 : Nat) (w : am_w), s_Mo_enable_35  v0 s0 s1 w = some r → am_V p l e rm_Mo_enable s m args below meth c D classes tys A (am_F A true) 1 0 0 (MQ below (am_Q D classes tys A (am_F A true) (am_ri r)) args s 0 0 (am_F A true)) 35 [some (.ref v0)] [.int s0, .ref s1] w := by
  intro v0 s0 s1 w hX
  unfold s_Mo_enable_35 at hX
  refine am_iconst (pc := 35) (v := (0 : Int32)) C d_Mo_enable_35 (by decide) ?_
  refine am_callVi (pc := 36) (As := [.int s0, .int (0 : Int32)]) (st := []) (cells1 := 0) (slots1 := 0) C (fun _ h => h.2) (fun _ h => h) (fun q h => c_Mo_refused h) wd_4_206 wd_4_208 ws_Mo_refused wd_1_9 wd_4_209 rfl rfl hd_Mo_refused ⟨by decide, by decide⟩ rfl rfl (Nat.le_of_ble_eq_true rfl) d_Mo_enable_36 ⟨by decide, by decide⟩ rfl rfl rfl hX (fun q2 hX => ?_)
  refine am_if_eq (pc := 39) (tgt := 44) C d_Mo_enable_39 rfl hX (fun hX => ?_) (fun hX => ?_)
  · skip
    refine am_aload_n (pc := 44) C d_Mo_enable_44 rfl rfl ?_
    refine am_callVv (pc := 45) (As := []) (st := []) (cells1 := 0) (slots1 := 0) C (fun _ h => h.2) (fun _ h => h) (fun q h => c_Mo_rest h) wd_5_17 wd_5_19 ws_Mo_rest wd_1_9 wd_5_20 rfl rfl hd_Mo_rest ⟨by decide, by decide⟩ rfl rfl (Nat.le_of_ble_eq_true rfl) d_Mo_enable_45 ⟨by decide, by decide⟩ rfl rfl rfl hX (fun q3 hX => ?_)
    refine am_aload_n (pc := 48) C d_Mo_enable_48 rfl rfl ?_
    refine am_aload_n (pc := 49) C d_Mo_enable_49 rfl rfl ?_
    refine am_get (pc := 50) C hin_Mo rfl (by decide) wd_4_121 rfl d_Mo_enable_50 rfl hX (fun x4 hX => ?_)
    refine am_put (pc := 53) C (fun _ h => ⟨rfl, h⟩) hin_Mo t_Mo t_Mo_ok n_Mo rfl (by decide) wd_4_130 rfl rfl (t_Mo_ok 30 (by decide)) rfl rfl rfl d_Mo_enable_53 hX (fun w5 hX => ?_)
    refine am_aload_n (pc := 56) C d_Mo_enable_56 rfl rfl ?_
    refine am_callVv (pc := 57) (As := []) (st := []) (cells1 := 0) (slots1 := 0) C (fun _ h => h.2) (fun _ h => h) (fun q h => c_Mo_skip h) wd_5_33 wd_5_35 ws_Mo_skip wd_1_9 wd_5_36 rfl rfl hd_Mo_skip ⟨by decide, by decide⟩ rfl rfl (Nat.le_of_ble_eq_true rfl) d_Mo_enable_57 ⟨by decide, by decide⟩ rfl rfl rfl hX (fun q6 hX => ?_)
    refine am_aload_n (pc := 60) C d_Mo_enable_60 rfl rfl ?_
    refine am_callVi (pc := 61) (As := []) (st := []) (cells1 := 0) (slots1 := 0) C (fun _ h => h.2) (fun _ h => h) (fun q h => c_Mo_startAll h) wd_5_41 wd_5_43 ws_Mo_startAll wd_1_9 wd_5_44 rfl rfl hd_Mo_startAll ⟨by decide, by decide⟩ rfl rfl (Nat.le_of_ble_eq_true rfl) d_Mo_enable_61 ⟨by decide, by decide⟩ rfl rfl rfl hX (fun q7 hX => ?_)
    exact am_iret (pc := 64) C hret hlk d_Mo_enable_64 rfl (by decide) (by decide) hX
  · skip
    refine am_iconst (pc := 42) (v := (0 : Int32)) C d_Mo_enable_42 (by decide) ?_
    exact am_iret (pc := 43) C hret hlk d_Mo_enable_43 rfl (by decide) (by decide) hX
def s_Mo_enable_30  (v0 : Nat) (s0 : Nat) (w : am_w) : Option (Int32 × am_w) := (s_Mo_enable_35  v0 (1 : Int32) s0 w)
set_option maxHeartbeats 4000000 in
theorem L_Mo_enable_30 {p : Program} {l : Launch} {e : Env} {s : State} {m : MethodId} {args : Array Value} {below : List Frame} {meth : Method} {c : Code} {D : va_G} {A : Nat → Prop} {r : Int32 × am_w} (C : am_C p m c b_Mo_enable 1 s args am_W "RoverMinutesModel" D classes A) (hret : meth.sig.returnType = (some .int)) (hlk : meth.locks = false)   : ∀ (v0 : Nat) (s0 : Nat) (w : am_w), s_Mo_enable_30  v0 s0 w = some r → am_V p l e rm_Mo_enable s m args below meth c D classes tys A (am_F A true) 1 0 0 (MQ below (am_Q D classes tys A (am_F A true) (am_ri r)) args s 0 0 (am_F A true)) 30 [some (.ref v0)] [.ref s0] w := by
  intro v0 s0 w hX
  unfold s_Mo_enable_30 at hX
  refine am_iconst (pc := 30) (v := (1 : Int32)) C d_Mo_enable_30 (by decide) ?_
  refine am_goto (pc := 31) (tgt := 35) C d_Mo_enable_31 rfl ?_
  exact (L_Mo_enable_35 C hret hlk  v0 (1 : Int32) s0 w hX)
def f_Mo_enable (a0 : Nat) (w : am_w) : Option (Int32 × am_w) := ((am_fg 7 22 a0 w).bind fun x1 => (if x1 = 0 then ((am_fg 7 9 a0 w).bind fun x8 => (if x8 = 0 then (s_Mo_enable_30  a0 a0 w) else ((am_fg 7 23 a0 w).bind fun x9 => ((am_fg 7 21 a0 w).bind fun x10 => ((am_ob 7 a0 w (f_Mo_isOpen a0 x9 x10 w)).bind fun q11 => (if q11.1 = 0 then (s_Mo_enable_30  a0 a0 q11.2) else (s_Mo_enable_35  a0 (0 : Int32) a0 q11.2))))))) else (s_Mo_enable_30  a0 a0 w)))
theorem hd_Mo_enable : y_Mo_enable.cls = "RoverMinutesModel" ∧ y_Mo_enable.cls ≠ "java/lang/invoke/MethodHandle" ∧ y_Mo_enable.cls ≠ "java/lang/invoke/VarHandle" ∧ (parseMethodDescriptor y_Mo_enable.desc).map (fun d => d.parameters.length) = some 0 := ⟨rfl, by decide, by decide, by decide +kernel⟩
set_option maxHeartbeats 4000000 in
theorem c_Mo_enable {l : Launch} {D : va_G} {A : Nat → Prop} {a0 : Nat} {w : am_w} {r : Int32 × am_w} (hX : f_Mo_enable a0 w = some r) : am_Met l D classes tys A (am_F A true) y_Mo_enable (Cond.code y_Mo_enable b_Mo_enable 1 (some .int) :: am_W) rm_Mo_enable [.ref a0] w (am_ri r) 0 0 := by
  refine am_ofV (by decide) am_W_good (Nat.le_of_ble_eq_true rfl) (by simp [Value.category]) ?_
  intro p e s m below meth c C hret hlk hnm
  unfold f_Mo_enable at hX
  refine am_aload_n (pc := 0) C d_Mo_enable_0 rfl rfl ?_
  refine am_aload_n (pc := 1) C d_Mo_enable_1 rfl rfl ?_
  refine am_get (pc := 2) C hin_Mo rfl (by decide) wd_4_122 rfl d_Mo_enable_2 rfl hX (fun x1 hX => ?_)
  refine am_if_ne (pc := 5) (tgt := 30) C d_Mo_enable_5 rfl hX (fun hX => ?_) (fun hX => ?_)
  · skip
    exact (L_Mo_enable_30 C hret hlk  a0 a0 w hX)
  · skip
    refine am_aload_n (pc := 8) C d_Mo_enable_8 rfl rfl ?_
    refine am_get (pc := 9) C hin_Mo rfl (by decide) wd_4_109 rfl d_Mo_enable_9 rfl hX (fun x8 hX => ?_)
    refine am_if_eq (pc := 12) (tgt := 30) C d_Mo_enable_12 rfl hX (fun hX => ?_) (fun hX => ?_)
    · skip
      exact (L_Mo_enable_30 C hret hlk  a0 a0 w hX)
    · skip
      refine am_aload_n (pc := 15) C d_Mo_enable_15 rfl rfl ?_
      refine am_aload_n (pc := 16) C d_Mo_enable_16 rfl rfl ?_
      refine am_get (pc := 17) C hin_Mo rfl (by decide) wd_4_123 rfl d_Mo_enable_17 rfl hX (fun x9 hX => ?_)
      refine am_aload_n (pc := 20) C d_Mo_enable_20 rfl rfl ?_
      refine am_get (pc := 21) C hin_Mo rfl (by decide) wd_4_121 rfl d_Mo_enable_21 rfl hX (fun x10 hX => ?_)
      refine am_callVi (pc := 24) (As := [.int x9, .int x10]) (st := [.ref a0]) (cells1 := 0) (slots1 := 0) C (fun _ h => h.2) (fun _ h => by cases h.1) (fun q h => c_Mo_isOpen h) wd_5_25 wd_5_27 ws_Mo_isOpen wd_1_9 wd_5_28 rfl rfl hd_Mo_isOpen ⟨by decide, by decide⟩ rfl rfl (Nat.le_of_ble_eq_true rfl) d_Mo_enable_24 ⟨by decide, by decide⟩ rfl rfl rfl hX (fun q11 hX => ?_)
      refine am_if_ne (pc := 27) (tgt := 34) C d_Mo_enable_27 rfl hX (fun hX => ?_) (fun hX => ?_)
      · skip
        refine am_iconst (pc := 34) (v := (0 : Int32)) C d_Mo_enable_34 (by decide) ?_
        exact (L_Mo_enable_35 C hret hlk  a0 (0 : Int32) a0 q11.2 hX)
      · skip
        exact (L_Mo_enable_30 C hret hlk  a0 a0 q11.2 hX)
def rm_Mo_cancel : Room := { frames := 1, cells := 0, slots := 0, locals := 22 }
def s_Mo_cancel_14  (v0 : Nat) (s0 : Int32) (s1 : Nat) (w : am_w) : Option (Int32 × am_w) := ((am_ob 7 s1 w (f_Mo_refused s1 s0 (0 : Int32) w)).bind fun q2 => (if q2.1 = 0 then ((am_ob 7 v0 q2.2 (f_Mo_goHome v0 q2.2)).bind fun q3 => (some (0, q3.2))) else (some (0, q2.2))))
set_option maxHeartbeats 4000000 in
theorem L_Mo_cancel_14 {p : Program} {l : Launch} {e : Env} {s : State} {m : MethodId} {args : Array Value} {below : List Frame} {meth : Method} {c : Code} {D : va_G} {A : Nat → Prop} {r : Int32 × am_w} (C : am_C p m c b_Mo_cancel 1 s args am_W "RoverMinutesModel" D classes A) (hret : meth.sig.returnType = none) (hlk : meth.locks = false)   : ∀ (v0 : Nat) (s0 : Int32) (s1 : Nat) (w : am_w), s_Mo_cancel_14  v0 s0 s1 w = some r → am_V p l e rm_Mo_cancel s m args below meth c D classes tys A (am_F A true) 1 0 0 (MQ below (am_Q D classes tys A (am_F A true) (am_rv r)) args s 0 0 (am_F A true)) 14 [some (.ref v0)] [.int s0, .ref s1] w := by
  intro v0 s0 s1 w hX
  unfold s_Mo_cancel_14 at hX
  refine am_iconst (pc := 14) (v := (0 : Int32)) C d_Mo_cancel_14 (by decide) ?_
  refine am_callVi (pc := 15) (As := [.int s0, .int (0 : Int32)]) (st := []) (cells1 := 0) (slots1 := 0) C (fun _ h => h.2) (fun _ h => h) (fun q h => c_Mo_refused h) wd_4_206 wd_4_208 ws_Mo_refused wd_1_9 wd_4_209 rfl rfl hd_Mo_refused ⟨by decide, by decide⟩ rfl rfl (Nat.le_of_ble_eq_true rfl) d_Mo_cancel_15 ⟨by decide, by decide⟩ rfl rfl rfl hX (fun q2 hX => ?_)
  refine am_if_ne (pc := 18) (tgt := 25) C d_Mo_cancel_18 rfl hX (fun hX => ?_) (fun hX => ?_)
  · skip
    exact am_vret (pc := 25) C hret hlk d_Mo_cancel_25 (by decide) (by decide) hX
  · skip
    refine am_aload_n (pc := 21) C d_Mo_cancel_21 rfl rfl ?_
    refine am_callVv (pc := 22) (As := []) (st := []) (cells1 := 0) (slots1 := 0) C (fun _ h => h.2) (fun _ h => h) (fun q h => c_Mo_goHome h) wd_5_73 wd_5_75 ws_Mo_goHome wd_1_9 wd_5_76 rfl rfl hd_Mo_goHome ⟨by decide, by decide⟩ rfl rfl (Nat.le_of_ble_eq_true rfl) d_Mo_cancel_22 ⟨by decide, by decide⟩ rfl rfl rfl hX (fun q3 hX => ?_)
    exact am_vret (pc := 25) C hret hlk d_Mo_cancel_25 (by decide) (by decide) hX
def f_Mo_cancel (a0 : Nat) (w : am_w) : Option (Int32 × am_w) := ((am_fg 7 22 a0 w).bind fun x1 => (if x1 = (1 : Int32) then (s_Mo_cancel_14  a0 (0 : Int32) a0 w) else (s_Mo_cancel_14  a0 (1 : Int32) a0 w)))
theorem hd_Mo_cancel : y_Mo_cancel.cls = "RoverMinutesModel" ∧ y_Mo_cancel.cls ≠ "java/lang/invoke/MethodHandle" ∧ y_Mo_cancel.cls ≠ "java/lang/invoke/VarHandle" ∧ (parseMethodDescriptor y_Mo_cancel.desc).map (fun d => d.parameters.length) = some 0 := ⟨rfl, by decide, by decide, by decide +kernel⟩
set_option maxHeartbeats 4000000 in
theorem c_Mo_cancel {l : Launch} {D : va_G} {A : Nat → Prop} {a0 : Nat} {w : am_w} {r : Int32 × am_w} (hX : f_Mo_cancel a0 w = some r) : am_Met l D classes tys A (am_F A true) y_Mo_cancel (Cond.code y_Mo_cancel b_Mo_cancel 1 none :: am_W) rm_Mo_cancel [.ref a0] w (am_rv r) 0 0 := by
  refine am_ofV (by decide) am_W_good (Nat.le_of_ble_eq_true rfl) (by simp [Value.category]) ?_
  intro p e s m below meth c C hret hlk hnm
  unfold f_Mo_cancel at hX
  refine am_aload_n (pc := 0) C d_Mo_cancel_0 rfl rfl ?_
  refine am_aload_n (pc := 1) C d_Mo_cancel_1 rfl rfl ?_
  refine am_get (pc := 2) C hin_Mo rfl (by decide) wd_4_122 rfl d_Mo_cancel_2 rfl hX (fun x1 hX => ?_)
  refine am_iconst (pc := 5) (v := (1 : Int32)) C d_Mo_cancel_5 (by decide) ?_
  refine am_icmp_eq (pc := 6) (tgt := 13) C d_Mo_cancel_6 rfl hX (fun hX => ?_) (fun hX => ?_)
  · skip
    refine am_iconst (pc := 13) (v := (0 : Int32)) C d_Mo_cancel_13 (by decide) ?_
    exact (L_Mo_cancel_14 C hret hlk  a0 (0 : Int32) a0 w hX)
  · skip
    refine am_iconst (pc := 9) (v := (1 : Int32)) C d_Mo_cancel_9 (by decide) ?_
    refine am_goto (pc := 10) (tgt := 14) C d_Mo_cancel_10 rfl ?_
    exact (L_Mo_cancel_14 C hret hlk  a0 (1 : Int32) a0 w hX)
def rm_Mo_draw : Room := { frames := 0, cells := 0, slots := 0, locals := 0 }
def s_Mo_draw_26  (v0 : Nat) (v1 : Int32) (s0 : Int32) (w : am_w) : Option (Int32 × am_w) := ((am_fg 7 23 v0 w).bind fun x3 => (if ((x3 + s0) - v1) ≤ (1000 : Int32) then (if 0 ≤ ((x3 + s0) - v1) then ((am_fp 7 23 v0 ((x3 + s0) - v1) w).bind fun w4 => (some (0, w4))) else ((am_fp 7 23 v0 (0 : Int32) w).bind fun w5 => (some (0, w5)))) else ((am_fp 7 23 v0 (1000 : Int32) w).bind fun w6 => (some (0, w6)))))
set_option maxHeartbeats 4000000 in
theorem L_Mo_draw_26 {p : Program} {l : Launch} {e : Env} {s : State} {m : MethodId} {args : Array Value} {below : List Frame} {meth : Method} {c : Code} {D : va_G} {A : Nat → Prop} {r : Int32 × am_w} (C : am_C p m c b_Mo_draw 4 s args am_W "RoverMinutesModel" D classes A) (hret : meth.sig.returnType = none) (hlk : meth.locks = false)   : ∀ (v0 : Nat) (v1 : Int32) (s0 : Int32) (w : am_w), s_Mo_draw_26  v0 v1 s0 w = some r → am_V p l e rm_Mo_draw s m args below meth c D classes tys A (am_F A true) 4 0 0 (MQ below (am_Q D classes tys A (am_F A true) (am_rv r)) args s 0 0 (am_F A true)) 26 [some (.ref v0), some (.int v1), none, none] [.int s0] w := by
  intro v0 v1 s0 w hX
  unfold s_Mo_draw_26 at hX
  refine am_istore_n (pc := 26) (lo1 := [some (.ref v0), some (.int v1), some (.int s0), none]) C d_Mo_draw_26 rfl (by decide) rfl ?_
  refine am_aload_n (pc := 27) C d_Mo_draw_27 rfl rfl ?_
  refine am_get (pc := 28) C hin_Mo rfl (by decide) wd_4_123 rfl d_Mo_draw_28 rfl hX (fun x3 hX => ?_)
  refine am_iload_n (pc := 31) C d_Mo_draw_31 rfl rfl ?_
  refine am_iadd (pc := 32) C d_Mo_draw_32 ?_
  refine am_iload_n (pc := 33) C d_Mo_draw_33 rfl rfl ?_
  refine am_isub (pc := 34) C d_Mo_draw_34 ?_
  refine am_istore_n (pc := 35) (lo1 := [some (.ref v0), some (.int v1), some (.int s0), some (.int ((x3 + s0) - v1))]) C d_Mo_draw_35 rfl (by decide) rfl ?_
  refine am_aload_n (pc := 36) C d_Mo_draw_36 rfl rfl ?_
  refine am_iload_n (pc := 37) C d_Mo_draw_37 rfl rfl ?_
  refine am_sipush (pc := 38) (v := (1000 : Int32)) C d_Mo_draw_38 (by decide) ?_
  refine am_icmp_le (pc := 41) (tgt := 50) C d_Mo_draw_41 rfl hX (fun hX => ?_) (fun hX => ?_)
  · skip
    refine am_iload_n (pc := 50) C d_Mo_draw_50 rfl rfl ?_
    refine am_if_ge (pc := 51) (tgt := 58) C d_Mo_draw_51 rfl hX (fun hX => ?_) (fun hX => ?_)
    · skip
      refine am_iload_n (pc := 58) C d_Mo_draw_58 rfl rfl ?_
      refine am_put (pc := 59) C (fun _ h => ⟨rfl, h⟩) hin_Mo t_Mo t_Mo_ok n_Mo rfl (by decide) wd_4_123 rfl rfl (t_Mo_ok 23 (by decide)) rfl rfl rfl d_Mo_draw_59 hX (fun w4 hX => ?_)
      exact am_vret (pc := 62) C hret hlk d_Mo_draw_62 (by decide) (by decide) hX
    · skip
      refine am_iconst (pc := 54) (v := (0 : Int32)) C d_Mo_draw_54 (by decide) ?_
      refine am_goto (pc := 55) (tgt := 59) C d_Mo_draw_55 rfl ?_
      refine am_put (pc := 59) C (fun _ h => ⟨rfl, h⟩) hin_Mo t_Mo t_Mo_ok n_Mo rfl (by decide) wd_4_123 rfl rfl (t_Mo_ok 23 (by decide)) rfl rfl rfl d_Mo_draw_59 hX (fun w5 hX => ?_)
      exact am_vret (pc := 62) C hret hlk d_Mo_draw_62 (by decide) (by decide) hX
  · skip
    refine am_sipush (pc := 44) (v := (1000 : Int32)) C d_Mo_draw_44 (by decide) ?_
    refine am_goto (pc := 47) (tgt := 59) C d_Mo_draw_47 rfl ?_
    refine am_put (pc := 59) C (fun _ h => ⟨rfl, h⟩) hin_Mo t_Mo t_Mo_ok n_Mo rfl (by decide) wd_4_123 rfl rfl (t_Mo_ok 23 (by decide)) rfl rfl rfl d_Mo_draw_59 hX (fun w6 hX => ?_)
    exact am_vret (pc := 62) C hret hlk d_Mo_draw_62 (by decide) (by decide) hX
def f_Mo_draw (a0 : Nat) (a1 : Int32) (w : am_w) : Option (Int32 × am_w) := ((am_fg 7 26 a0 w).bind fun x1 => (if 0 ≤ x1 then ((am_fg 7 26 a0 w).bind fun x2 => (s_Mo_draw_26  a0 a1 x2 w)) else ((am_rg 7 25 a0 w).bind fun b7 => ((am_fg 7 21 a0 w).bind fun x8 => ((am_ig b7 (x8 - x8 / (24 : Int32) * (24 : Int32)) w).bind fun x9 => (s_Mo_draw_26  a0 a1 x9 w))))))
theorem hd_Mo_draw : y_Mo_draw.cls = "RoverMinutesModel" ∧ y_Mo_draw.cls ≠ "java/lang/invoke/MethodHandle" ∧ y_Mo_draw.cls ≠ "java/lang/invoke/VarHandle" ∧ (parseMethodDescriptor y_Mo_draw.desc).map (fun d => d.parameters.length) = some 1 := ⟨rfl, by decide, by decide, by decide +kernel⟩
set_option maxHeartbeats 4000000 in
theorem c_Mo_draw {l : Launch} {D : va_G} {A : Nat → Prop} {a0 : Nat} {a1 : Int32} {w : am_w} {r : Int32 × am_w} (hX : f_Mo_draw a0 a1 w = some r) : am_Met l D classes tys A (am_F A true) y_Mo_draw (Cond.code y_Mo_draw b_Mo_draw 4 none :: am_W) rm_Mo_draw [.ref a0, .int a1] w (am_rv r) 0 0 := by
  refine am_ofV (by decide) am_W_good (Nat.le_of_ble_eq_true rfl) (by simp [Value.category]) ?_
  intro p e s m below meth c C hret hlk hnm
  unfold f_Mo_draw at hX
  refine am_aload_n (pc := 0) C d_Mo_draw_0 rfl rfl ?_
  refine am_get (pc := 1) C hin_Mo rfl (by decide) wd_4_126 rfl d_Mo_draw_1 rfl hX (fun x1 hX => ?_)
  refine am_if_ge (pc := 4) (tgt := 22) C d_Mo_draw_4 rfl hX (fun hX => ?_) (fun hX => ?_)
  · skip
    refine am_aload_n (pc := 22) C d_Mo_draw_22 rfl rfl ?_
    refine am_get (pc := 23) C hin_Mo rfl (by decide) wd_4_126 rfl d_Mo_draw_23 rfl hX (fun x2 hX => ?_)
    exact (L_Mo_draw_26 C hret hlk  a0 a1 x2 w hX)
  · skip
    refine am_aload_n (pc := 7) C d_Mo_draw_7 rfl rfl ?_
    refine am_getr (pc := 8) C hin_Mo rfl (by decide) wd_4_125 rfl d_Mo_draw_8 rfl hX (fun b7 hX => ?_)
    refine am_aload_n (pc := 11) C d_Mo_draw_11 rfl rfl ?_
    refine am_get (pc := 12) C hin_Mo rfl (by decide) wd_4_121 rfl d_Mo_draw_12 rfl hX (fun x8 hX => ?_)
    refine am_bipush (pc := 15) (v := (24 : Int32)) C d_Mo_draw_15 (by decide) ?_
    refine am_irem (pc := 17) C d_Mo_draw_17 (by decide) ?_
    refine am_iald (pc := 18) C d_Mo_draw_18 hX (fun x9 hX => ?_)
    refine am_goto (pc := 19) (tgt := 26) C d_Mo_draw_19 rfl ?_
    exact (L_Mo_draw_26 C hret hlk  a0 a1 x9 w hX)
def rm_Mo_age : Room := { frames := 1, cells := 0, slots := 0, locals := 23 }
def s_Mo_age_194 (k86 : Nat → Int32 → am_w → Option (Int32 × am_w)) (v0 : Nat) (v2 : Int32) (s0 : Int32) (s1 : Int32) (s2 : Nat) (w : am_w) : Option (Int32 × am_w) := ((am_is s2 s1 s0 w).bind fun w25 => ((am_rg 7 15 v0 w25).bind fun b26 => ((am_rg 7 15 v0 w25).bind fun b27 => ((am_ig b27 v2 w25).bind fun x28 => (if x28 ≤ 0 then ((am_is b26 v2 (0 : Int32) w25).bind fun w29 => (k86 v0 (v2 + (1 : Int32)) w29)) else ((am_rg 7 15 v0 w25).bind fun b30 => ((am_ig b30 v2 w25).bind fun x31 => ((am_is b26 v2 (x31 - (1 : Int32)) w25).bind fun w32 => (k86 v0 (v2 + (1 : Int32)) w32)))))))))
set_option maxHeartbeats 4000000 in
theorem L_Mo_age_194 {p : Program} {l : Launch} {e : Env} {s : State} {m : MethodId} {args : Array Value} {below : List Frame} {meth : Method} {c : Code} {D : va_G} {A : Nat → Prop} {r : Int32 × am_w} (C : am_C p m c b_Mo_age 4 s args am_W "RoverMinutesModel" D classes A) (hret : meth.sig.returnType = none) (hlk : meth.locks = false) {k86 : Nat → Int32 → am_w → Option (Int32 × am_w)} (hk86 : ∀ (v0 : Nat) (v2 : Int32) (w : am_w), k86 v0 v2 w = some r → am_V p l e rm_Mo_age s m args below meth c D classes tys A (am_F A true) 4 0 0 (MQ below (am_Q D classes tys A (am_F A true) (am_rv r)) args s 0 0 (am_F A true)) 86 [some (.ref v0), none, some (.int v2), none] [] w) : ∀ (v0 : Nat) (v2 : Int32) (s0 : Int32) (s1 : Int32) (s2 : Nat) (w : am_w), s_Mo_age_194 k86 v0 v2 s0 s1 s2 w = some r → am_V p l e rm_Mo_age s m args below meth c D classes tys A (am_F A true) 4 0 0 (MQ below (am_Q D classes tys A (am_F A true) (am_rv r)) args s 0 0 (am_F A true)) 194 [some (.ref v0), none, some (.int v2), none] [.int s0, .int s1, .ref s2] w := by
  intro v0 v2 s0 s1 s2 w hX
  unfold s_Mo_age_194 at hX
  refine am_iast (pc := 194) C (fun _ h => ⟨rfl, h⟩) d_Mo_age_194 hX (fun w25 hX => ?_)
  refine am_aload_n (pc := 195) C d_Mo_age_195 rfl rfl ?_
  refine am_getr (pc := 196) C hin_Mo rfl (by decide) wd_4_115 rfl d_Mo_age_196 rfl hX (fun b26 hX => ?_)
  refine am_iload_n (pc := 199) C d_Mo_age_199 rfl rfl ?_
  refine am_aload_n (pc := 200) C d_Mo_age_200 rfl rfl ?_
  refine am_getr (pc := 201) C hin_Mo rfl (by decide) wd_4_115 rfl d_Mo_age_201 rfl hX (fun b27 hX => ?_)
  refine am_iload_n (pc := 204) C d_Mo_age_204 rfl rfl ?_
  refine am_iald (pc := 205) C d_Mo_age_205 hX (fun x28 hX => ?_)
  refine am_if_le (pc := 206) (tgt := 220) C d_Mo_age_206 rfl hX (fun hX => ?_) (fun hX => ?_)
  · skip
    refine am_iconst (pc := 220) (v := (0 : Int32)) C d_Mo_age_220 (by decide) ?_
    refine am_iast (pc := 221) C (fun _ h => ⟨rfl, h⟩) d_Mo_age_221 hX (fun w29 hX => ?_)
    refine am_goto (pc := 222) (tgt := 247) C d_Mo_age_222 rfl ?_
    refine am_iinc (pc := 247) (y := (1 : Int32)) (lo1 := [some (.ref v0), none, some (.int (v2 + (1 : Int32))), none]) C d_Mo_age_247 rfl (by decide) (by decide) rfl ?_
    refine am_goto (pc := 250) (tgt := 86) C d_Mo_age_250 rfl ?_
    exact (hk86 v0 (v2 + (1 : Int32)) w29 hX)
  · skip
    refine am_aload_n (pc := 209) C d_Mo_age_209 rfl rfl ?_
    refine am_getr (pc := 210) C hin_Mo rfl (by decide) wd_4_115 rfl d_Mo_age_210 rfl hX (fun b30 hX => ?_)
    refine am_iload_n (pc := 213) C d_Mo_age_213 rfl rfl ?_
    refine am_iald (pc := 214) C d_Mo_age_214 hX (fun x31 hX => ?_)
    refine am_iconst (pc := 215) (v := (1 : Int32)) C d_Mo_age_215 (by decide) ?_
    refine am_isub (pc := 216) C d_Mo_age_216 ?_
    refine am_goto (pc := 217) (tgt := 221) C d_Mo_age_217 rfl ?_
    refine am_iast (pc := 221) C (fun _ h => ⟨rfl, h⟩) d_Mo_age_221 hX (fun w32 hX => ?_)
    refine am_goto (pc := 222) (tgt := 247) C d_Mo_age_222 rfl ?_
    refine am_iinc (pc := 247) (y := (1 : Int32)) (lo1 := [some (.ref v0), none, some (.int (v2 + (1 : Int32))), none]) C d_Mo_age_247 rfl (by decide) (by decide) rfl ?_
    refine am_goto (pc := 250) (tgt := 86) C d_Mo_age_250 rfl ?_
    exact (hk86 v0 (v2 + (1 : Int32)) w32 hX)
def s_Mo_age_170 (k86 : Nat → Int32 → am_w → Option (Int32 × am_w)) (v0 : Nat) (v2 : Int32) (s0 : Int32) (w : am_w) : Option (Int32 × am_w) := (if s0 = 0 then ((am_rg 7 14 v0 w).bind fun b16 => ((am_ig b16 v2 w).bind fun x17 => ((am_rg 7 17 v0 w).bind fun b18 => ((am_ig b18 v2 w).bind fun x19 => (if x17 < x19 then (k86 v0 (v2 + (1 : Int32)) w) else ((am_rg 7 12 v0 w).bind fun b20 => ((am_is b20 v2 (2 : Int32) w).bind fun w21 => (k86 v0 (v2 + (1 : Int32)) w21)))))))) else ((am_rg 7 12 v0 w).bind fun b22 => ((am_rg 7 15 v0 w).bind fun b23 => ((am_ig b23 v2 w).bind fun x24 => (if x24 ≤ 0 then (s_Mo_age_194 k86 v0 v2 (3 : Int32) v2 b22 w) else (s_Mo_age_194 k86 v0 v2 (0 : Int32) v2 b22 w))))))
set_option maxHeartbeats 4000000 in
theorem L_Mo_age_170 {p : Program} {l : Launch} {e : Env} {s : State} {m : MethodId} {args : Array Value} {below : List Frame} {meth : Method} {c : Code} {D : va_G} {A : Nat → Prop} {r : Int32 × am_w} (C : am_C p m c b_Mo_age 4 s args am_W "RoverMinutesModel" D classes A) (hret : meth.sig.returnType = none) (hlk : meth.locks = false) {k86 : Nat → Int32 → am_w → Option (Int32 × am_w)} (hk86 : ∀ (v0 : Nat) (v2 : Int32) (w : am_w), k86 v0 v2 w = some r → am_V p l e rm_Mo_age s m args below meth c D classes tys A (am_F A true) 4 0 0 (MQ below (am_Q D classes tys A (am_F A true) (am_rv r)) args s 0 0 (am_F A true)) 86 [some (.ref v0), none, some (.int v2), none] [] w) : ∀ (v0 : Nat) (v2 : Int32) (s0 : Int32) (w : am_w), s_Mo_age_170 k86 v0 v2 s0 w = some r → am_V p l e rm_Mo_age s m args below meth c D classes tys A (am_F A true) 4 0 0 (MQ below (am_Q D classes tys A (am_F A true) (am_rv r)) args s 0 0 (am_F A true)) 170 [some (.ref v0), none, some (.int v2), none] [.int s0] w := by
  intro v0 v2 s0 w hX
  unfold s_Mo_age_170 at hX
  refine am_istore_n (pc := 170) (lo1 := [some (.ref v0), none, some (.int v2), some (.int s0)]) C d_Mo_age_170 rfl (by decide) rfl ?_
  refine am_iload_n (pc := 171) C d_Mo_age_171 rfl rfl ?_
  refine am_if_eq (pc := 172) (tgt := 225) C d_Mo_age_172 rfl hX (fun hX => ?_) (fun hX => ?_)
  · skip
    refine am_aload_n (pc := 225) C d_Mo_age_225 rfl rfl ?_
    refine am_getr (pc := 226) C hin_Mo rfl (by decide) wd_4_114 rfl d_Mo_age_226 rfl hX (fun b16 hX => ?_)
    refine am_iload_n (pc := 229) C d_Mo_age_229 rfl rfl ?_
    refine am_iald (pc := 230) C d_Mo_age_230 hX (fun x17 hX => ?_)
    refine am_aload_n (pc := 231) C d_Mo_age_231 rfl rfl ?_
    refine am_getr (pc := 232) C hin_Mo rfl (by decide) wd_4_117 rfl d_Mo_age_232 rfl hX (fun b18 hX => ?_)
    refine am_iload_n (pc := 235) C d_Mo_age_235 rfl rfl ?_
    refine am_iald (pc := 236) C d_Mo_age_236 hX (fun x19 hX => ?_)
    refine am_icmp_lt (pc := 237) (tgt := 247) C d_Mo_age_237 rfl hX (fun hX => ?_) (fun hX => ?_)
    · skip
      refine am_iinc (pc := 247) (y := (1 : Int32)) (lo1 := [some (.ref v0), none, some (.int (v2 + (1 : Int32))), some (.int s0)]) C d_Mo_age_247 rfl (by decide) (by decide) rfl ?_
      refine am_goto (pc := 250) (tgt := 86) C d_Mo_age_250 rfl ?_
      exact am_sub (am_le_s (am_le_n (am_le_s (am_le_n (am_le_0))))) (hk86 v0 (v2 + (1 : Int32)) w hX)
    · skip
      refine am_aload_n (pc := 240) C d_Mo_age_240 rfl rfl ?_
      refine am_getr (pc := 241) C hin_Mo rfl (by decide) wd_4_112 rfl d_Mo_age_241 rfl hX (fun b20 hX => ?_)
      refine am_iload_n (pc := 244) C d_Mo_age_244 rfl rfl ?_
      refine am_iconst (pc := 245) (v := (2 : Int32)) C d_Mo_age_245 (by decide) ?_
      refine am_iast (pc := 246) C (fun _ h => ⟨rfl, h⟩) d_Mo_age_246 hX (fun w21 hX => ?_)
      refine am_iinc (pc := 247) (y := (1 : Int32)) (lo1 := [some (.ref v0), none, some (.int (v2 + (1 : Int32))), some (.int s0)]) C d_Mo_age_247 rfl (by decide) (by decide) rfl ?_
      refine am_goto (pc := 250) (tgt := 86) C d_Mo_age_250 rfl ?_
      exact am_sub (am_le_s (am_le_n (am_le_s (am_le_n (am_le_0))))) (hk86 v0 (v2 + (1 : Int32)) w21 hX)
  · skip
    refine am_aload_n (pc := 175) C d_Mo_age_175 rfl rfl ?_
    refine am_getr (pc := 176) C hin_Mo rfl (by decide) wd_4_112 rfl d_Mo_age_176 rfl hX (fun b22 hX => ?_)
    refine am_iload_n (pc := 179) C d_Mo_age_179 rfl rfl ?_
    refine am_aload_n (pc := 180) C d_Mo_age_180 rfl rfl ?_
    refine am_getr (pc := 181) C hin_Mo rfl (by decide) wd_4_115 rfl d_Mo_age_181 rfl hX (fun b23 hX => ?_)
    refine am_iload_n (pc := 184) C d_Mo_age_184 rfl rfl ?_
    refine am_iald (pc := 185) C d_Mo_age_185 hX (fun x24 hX => ?_)
    refine am_if_le (pc := 186) (tgt := 193) C d_Mo_age_186 rfl hX (fun hX => ?_) (fun hX => ?_)
    · skip
      refine am_iconst (pc := 193) (v := (3 : Int32)) C d_Mo_age_193 (by decide) ?_
      exact am_sub (am_le_s (am_le_n (am_le_s (am_le_n (am_le_0))))) (L_Mo_age_194 C hret hlk hk86 v0 v2 (3 : Int32) v2 b22 w hX)
    · skip
      refine am_iconst (pc := 189) (v := (0 : Int32)) C d_Mo_age_189 (by decide) ?_
      refine am_goto (pc := 190) (tgt := 194) C d_Mo_age_190 rfl ?_
      exact am_sub (am_le_s (am_le_n (am_le_s (am_le_n (am_le_0))))) (L_Mo_age_194 C hret hlk hk86 v0 v2 (0 : Int32) v2 b22 w hX)
def s_Mo_age_165 (k86 : Nat → Int32 → am_w → Option (Int32 × am_w)) (v0 : Nat) (v2 : Int32) (w : am_w) : Option (Int32 × am_w) := (s_Mo_age_170 k86 v0 v2 (1 : Int32) w)
set_option maxHeartbeats 4000000 in
theorem L_Mo_age_165 {p : Program} {l : Launch} {e : Env} {s : State} {m : MethodId} {args : Array Value} {below : List Frame} {meth : Method} {c : Code} {D : va_G} {A : Nat → Prop} {r : Int32 × am_w} (C : am_C p m c b_Mo_age 4 s args am_W "RoverMinutesModel" D classes A) (hret : meth.sig.returnType = none) (hlk : meth.locks = false) {k86 : Nat → Int32 → am_w → Option (Int32 × am_w)} (hk86 : ∀ (v0 : Nat) (v2 : Int32) (w : am_w), k86 v0 v2 w = some r → am_V p l e rm_Mo_age s m args below meth c D classes tys A (am_F A true) 4 0 0 (MQ below (am_Q D classes tys A (am_F A true) (am_rv r)) args s 0 0 (am_F A true)) 86 [some (.ref v0), none, some (.int v2), none] [] w) : ∀ (v0 : Nat) (v2 : Int32) (w : am_w), s_Mo_age_165 k86 v0 v2 w = some r → am_V p l e rm_Mo_age s m args below meth c D classes tys A (am_F A true) 4 0 0 (MQ below (am_Q D classes tys A (am_F A true) (am_rv r)) args s 0 0 (am_F A true)) 165 [some (.ref v0), none, some (.int v2), none] [] w := by
  intro v0 v2 w hX
  unfold s_Mo_age_165 at hX
  refine am_iconst (pc := 165) (v := (1 : Int32)) C d_Mo_age_165 (by decide) ?_
  refine am_goto (pc := 166) (tgt := 170) C d_Mo_age_166 rfl ?_
  exact (L_Mo_age_170 C hret hlk hk86 v0 v2 (1 : Int32) w hX)
def s_Mo_age_169 (k86 : Nat → Int32 → am_w → Option (Int32 × am_w)) (v0 : Nat) (v2 : Int32) (w : am_w) : Option (Int32 × am_w) := (s_Mo_age_170 k86 v0 v2 (0 : Int32) w)
set_option maxHeartbeats 4000000 in
theorem L_Mo_age_169 {p : Program} {l : Launch} {e : Env} {s : State} {m : MethodId} {args : Array Value} {below : List Frame} {meth : Method} {c : Code} {D : va_G} {A : Nat → Prop} {r : Int32 × am_w} (C : am_C p m c b_Mo_age 4 s args am_W "RoverMinutesModel" D classes A) (hret : meth.sig.returnType = none) (hlk : meth.locks = false) {k86 : Nat → Int32 → am_w → Option (Int32 × am_w)} (hk86 : ∀ (v0 : Nat) (v2 : Int32) (w : am_w), k86 v0 v2 w = some r → am_V p l e rm_Mo_age s m args below meth c D classes tys A (am_F A true) 4 0 0 (MQ below (am_Q D classes tys A (am_F A true) (am_rv r)) args s 0 0 (am_F A true)) 86 [some (.ref v0), none, some (.int v2), none] [] w) : ∀ (v0 : Nat) (v2 : Int32) (w : am_w), s_Mo_age_169 k86 v0 v2 w = some r → am_V p l e rm_Mo_age s m args below meth c D classes tys A (am_F A true) 4 0 0 (MQ below (am_Q D classes tys A (am_F A true) (am_rv r)) args s 0 0 (am_F A true)) 169 [some (.ref v0), none, some (.int v2), none] [] w := by
  intro v0 v2 w hX
  unfold s_Mo_age_169 at hX
  refine am_iconst (pc := 169) (v := (0 : Int32)) C d_Mo_age_169 (by decide) ?_
  exact (L_Mo_age_170 C hret hlk hk86 v0 v2 (0 : Int32) w hX)
def s_Mo_age_86 (k86 : Nat → Int32 → am_w → Option (Int32 × am_w)) (v0 : Nat) (v2 : Int32) (w : am_w) : Option (Int32 × am_w) := ((am_fg 7 9 v0 w).bind fun x6 => (if x6 ≤ v2 then (some (0, w)) else ((am_rg 7 12 v0 w).bind fun b7 => ((am_ig b7 v2 w).bind fun x8 => (if x8 = (1 : Int32) then ((am_rg 7 14 v0 w).bind fun b9 => ((am_ig b9 v2 w).bind fun x10 => ((am_is b9 v2 (x10 + (1 : Int32)) w).bind fun w11 => ((am_rg 7 18 v0 w11).bind fun b12 => ((am_ig b12 v2 w11).bind fun x13 => ((am_rg 7 10 v0 w11).bind fun b14 => ((am_ig b14 ((16 : Int32) + v2) w11).bind fun x15 => (if x15 < x13 then (s_Mo_age_165 k86 v0 v2 w11) else ((am_rg 7 14 v0 w11).bind fun b33 => ((am_ig b33 v2 w11).bind fun x34 => ((am_rg 7 10 v0 w11).bind fun b35 => ((am_ig b35 ((8 : Int32) + v2) w11).bind fun x36 => (if x34 = x36 then ((am_rg 7 17 v0 w11).bind fun b37 => ((am_ig b37 v2 w11).bind fun x38 => ((am_rg 7 14 v0 w11).bind fun b39 => ((am_ig b39 v2 w11).bind fun x40 => (if x38 ≤ x40 then (s_Mo_age_169 k86 v0 v2 w11) else (s_Mo_age_165 k86 v0 v2 w11)))))) else (s_Mo_age_169 k86 v0 v2 w11)))))))))))))) else (k86 v0 (v2 + (1 : Int32)) w))))))
def f_Mo_age_86  (n : Nat) : Nat → Int32 → am_w → Option (Int32 × am_w) := am_it (fun _ _ _ => none) (s_Mo_age_86 ) n
set_option maxHeartbeats 4000000 in
theorem L_Mo_age_86 {p : Program} {l : Launch} {e : Env} {s : State} {m : MethodId} {args : Array Value} {below : List Frame} {meth : Method} {c : Code} {D : va_G} {A : Nat → Prop} {r : Int32 × am_w} (C : am_C p m c b_Mo_age 4 s args am_W "RoverMinutesModel" D classes A) (hret : meth.sig.returnType = none) (hlk : meth.locks = false)   (n : Nat) : ∀ (v0 : Nat) (v2 : Int32) (w : am_w), f_Mo_age_86  n v0 v2 w = some r → am_V p l e rm_Mo_age s m args below meth c D classes tys A (am_F A true) 4 0 0 (MQ below (am_Q D classes tys A (am_F A true) (am_rv r)) args s 0 0 (am_F A true)) 86 [some (.ref v0), none, some (.int v2), none] [] w := by
  refine am_it_ind (P := fun (t : Nat → Int32 → am_w → Option (Int32 × am_w)) => ∀ (v0 : Nat) (v2 : Int32) (w : am_w), t v0 v2 w = some r → am_V p l e rm_Mo_age s m args below meth c D classes tys A (am_F A true) 4 0 0 (MQ below (am_Q D classes tys A (am_F A true) (am_rv r)) args s 0 0 (am_F A true)) 86 [some (.ref v0), none, some (.int v2), none] [] w) ?_ ?_ n
  · intro v0 v2 w hX
    exact (am_nn hX).elim
  · intro k86 hk86 v0 v2 w hX
    unfold s_Mo_age_86 at hX
    refine am_iload_n (pc := 86) C d_Mo_age_86 rfl rfl ?_
    refine am_aload_n (pc := 87) C d_Mo_age_87 rfl rfl ?_
    refine am_get (pc := 88) C hin_Mo rfl (by decide) wd_4_109 rfl d_Mo_age_88 rfl hX (fun x6 hX => ?_)
    refine am_icmp_ge (pc := 91) (tgt := 253) C d_Mo_age_91 rfl hX (fun hX => ?_) (fun hX => ?_)
    · skip
      exact am_vret (pc := 253) C hret hlk d_Mo_age_253 (by decide) (by decide) hX
    · skip
      refine am_aload_n (pc := 94) C d_Mo_age_94 rfl rfl ?_
      refine am_getr (pc := 95) C hin_Mo rfl (by decide) wd_4_112 rfl d_Mo_age_95 rfl hX (fun b7 hX => ?_)
      refine am_iload_n (pc := 98) C d_Mo_age_98 rfl rfl ?_
      refine am_iald (pc := 99) C d_Mo_age_99 hX (fun x8 hX => ?_)
      refine am_iconst (pc := 100) (v := (1 : Int32)) C d_Mo_age_100 (by decide) ?_
      refine am_icmp_ne (pc := 101) (tgt := 247) C d_Mo_age_101 rfl hX (fun hX => ?_) (fun hX => ?_)
      · skip
        refine am_iinc (pc := 247) (y := (1 : Int32)) (lo1 := [some (.ref v0), none, some (.int (v2 + (1 : Int32))), none]) C d_Mo_age_247 rfl (by decide) (by decide) rfl ?_
        refine am_goto (pc := 250) (tgt := 86) C d_Mo_age_250 rfl ?_
        exact (hk86 v0 (v2 + (1 : Int32)) w hX)
      · skip
        refine am_aload_n (pc := 104) C d_Mo_age_104 rfl rfl ?_
        refine am_getr (pc := 105) C hin_Mo rfl (by decide) wd_4_114 rfl d_Mo_age_105 rfl hX (fun b9 hX => ?_)
        refine am_iload_n (pc := 108) C d_Mo_age_108 rfl rfl ?_
        refine am_dup2 (pc := 109) C d_Mo_age_109 rfl rfl ?_
        refine am_iald (pc := 110) C d_Mo_age_110 hX (fun x10 hX => ?_)
        refine am_iconst (pc := 111) (v := (1 : Int32)) C d_Mo_age_111 (by decide) ?_
        refine am_iadd (pc := 112) C d_Mo_age_112 ?_
        refine am_iast (pc := 113) C (fun _ h => ⟨rfl, h⟩) d_Mo_age_113 hX (fun w11 hX => ?_)
        refine am_aload_n (pc := 114) C d_Mo_age_114 rfl rfl ?_
        refine am_getr (pc := 115) C hin_Mo rfl (by decide) wd_4_118 rfl d_Mo_age_115 rfl hX (fun b12 hX => ?_)
        refine am_iload_n (pc := 118) C d_Mo_age_118 rfl rfl ?_
        refine am_iald (pc := 119) C d_Mo_age_119 hX (fun x13 hX => ?_)
        refine am_aload_n (pc := 120) C d_Mo_age_120 rfl rfl ?_
        refine am_getr (pc := 121) C hin_Mo rfl (by decide) wd_4_110 rfl d_Mo_age_121 rfl hX (fun b14 hX => ?_)
        refine am_bipush (pc := 124) (v := (16 : Int32)) C d_Mo_age_124 (by decide) ?_
        refine am_iload_n (pc := 126) C d_Mo_age_126 rfl rfl ?_
        refine am_iadd (pc := 127) C d_Mo_age_127 ?_
        refine am_iald (pc := 128) C d_Mo_age_128 hX (fun x15 hX => ?_)
        refine am_icmp_gt (pc := 129) (tgt := 165) C d_Mo_age_129 rfl hX (fun hX => ?_) (fun hX => ?_)
        · skip
          exact (L_Mo_age_165 C hret hlk hk86 v0 v2 w11 hX)
        · skip
          refine am_aload_n (pc := 132) C d_Mo_age_132 rfl rfl ?_
          refine am_getr (pc := 133) C hin_Mo rfl (by decide) wd_4_114 rfl d_Mo_age_133 rfl hX (fun b33 hX => ?_)
          refine am_iload_n (pc := 136) C d_Mo_age_136 rfl rfl ?_
          refine am_iald (pc := 137) C d_Mo_age_137 hX (fun x34 hX => ?_)
          refine am_aload_n (pc := 138) C d_Mo_age_138 rfl rfl ?_
          refine am_getr (pc := 139) C hin_Mo rfl (by decide) wd_4_110 rfl d_Mo_age_139 rfl hX (fun b35 hX => ?_)
          refine am_bipush (pc := 142) (v := (8 : Int32)) C d_Mo_age_142 (by decide) ?_
          refine am_iload_n (pc := 144) C d_Mo_age_144 rfl rfl ?_
          refine am_iadd (pc := 145) C d_Mo_age_145 ?_
          refine am_iald (pc := 146) C d_Mo_age_146 hX (fun x36 hX => ?_)
          refine am_icmp_ne (pc := 147) (tgt := 169) C d_Mo_age_147 rfl hX (fun hX => ?_) (fun hX => ?_)
          · skip
            exact (L_Mo_age_169 C hret hlk hk86 v0 v2 w11 hX)
          · skip
            refine am_aload_n (pc := 150) C d_Mo_age_150 rfl rfl ?_
            refine am_getr (pc := 151) C hin_Mo rfl (by decide) wd_4_117 rfl d_Mo_age_151 rfl hX (fun b37 hX => ?_)
            refine am_iload_n (pc := 154) C d_Mo_age_154 rfl rfl ?_
            refine am_iald (pc := 155) C d_Mo_age_155 hX (fun x38 hX => ?_)
            refine am_aload_n (pc := 156) C d_Mo_age_156 rfl rfl ?_
            refine am_getr (pc := 157) C hin_Mo rfl (by decide) wd_4_114 rfl d_Mo_age_157 rfl hX (fun b39 hX => ?_)
            refine am_iload_n (pc := 160) C d_Mo_age_160 rfl rfl ?_
            refine am_iald (pc := 161) C d_Mo_age_161 hX (fun x40 hX => ?_)
            refine am_icmp_le (pc := 162) (tgt := 169) C d_Mo_age_162 rfl hX (fun hX => ?_) (fun hX => ?_)
            · skip
              exact (L_Mo_age_169 C hret hlk hk86 v0 v2 w11 hX)
            · skip
              exact (L_Mo_age_165 C hret hlk hk86 v0 v2 w11 hX)
def s_Mo_age_4 (k4 : Nat → Int32 → Int32 → am_w → Option (Int32 × am_w)) (v0 : Nat) (v1 : Int32) (v2 : Int32) (w : am_w) : Option (Int32 × am_w) := ((am_fg 7 9 v0 w).bind fun x1 => (if x1 ≤ v2 then ((am_ob 7 v0 w (f_Mo_draw v0 v1 w)).bind fun q2 => ((am_fg 7 24 v0 q2.2).bind fun x3 => (if x3 ≤ (500 : Int32) then ((am_fg 7 24 v0 q2.2).bind fun x4 => ((am_fp 7 24 v0 x4 q2.2).bind fun w5 => (f_Mo_age_86  70 v0 (0 : Int32) w5))) else ((am_fp 7 24 v0 (500 : Int32) q2.2).bind fun w41 => (f_Mo_age_86  70 v0 (0 : Int32) w41))))) else ((am_rg 7 12 v0 w).bind fun b42 => ((am_ig b42 v2 w).bind fun x43 => (if x43 = (1 : Int32) then ((am_rg 7 18 v0 w).bind fun b44 => ((am_ig b44 v2 w).bind fun x45 => ((am_fg 7 24 v0 w).bind fun x46 => ((am_rg 7 10 v0 w).bind fun b47 => ((am_ig b47 ((24 : Int32) + v2) w).bind fun x48 => ((am_fp 7 24 v0 (x46 + x48) w).bind fun w49 => (k4 v0 (v1 + x45) (v2 + (1 : Int32)) w49))))))) else (k4 v0 v1 (v2 + (1 : Int32)) w))))))
def f_Mo_age_4  (n : Nat) : Nat → Int32 → Int32 → am_w → Option (Int32 × am_w) := am_it (fun _ _ _ _ => none) (s_Mo_age_4 ) n
set_option maxHeartbeats 4000000 in
theorem L_Mo_age_4 {p : Program} {l : Launch} {e : Env} {s : State} {m : MethodId} {args : Array Value} {below : List Frame} {meth : Method} {c : Code} {D : va_G} {A : Nat → Prop} {r : Int32 × am_w} (C : am_C p m c b_Mo_age 4 s args am_W "RoverMinutesModel" D classes A) (hret : meth.sig.returnType = none) (hlk : meth.locks = false)   (n : Nat) : ∀ (v0 : Nat) (v1 : Int32) (v2 : Int32) (w : am_w), f_Mo_age_4  n v0 v1 v2 w = some r → am_V p l e rm_Mo_age s m args below meth c D classes tys A (am_F A true) 4 0 0 (MQ below (am_Q D classes tys A (am_F A true) (am_rv r)) args s 0 0 (am_F A true)) 4 [some (.ref v0), some (.int v1), some (.int v2), none] [] w := by
  refine am_it_ind (P := fun (t : Nat → Int32 → Int32 → am_w → Option (Int32 × am_w)) => ∀ (v0 : Nat) (v1 : Int32) (v2 : Int32) (w : am_w), t v0 v1 v2 w = some r → am_V p l e rm_Mo_age s m args below meth c D classes tys A (am_F A true) 4 0 0 (MQ below (am_Q D classes tys A (am_F A true) (am_rv r)) args s 0 0 (am_F A true)) 4 [some (.ref v0), some (.int v1), some (.int v2), none] [] w) ?_ ?_ n
  · intro v0 v1 v2 w hX
    exact (am_nn hX).elim
  · intro k4 hk4 v0 v1 v2 w hX
    unfold s_Mo_age_4 at hX
    refine am_iload_n (pc := 4) C d_Mo_age_4 rfl rfl ?_
    refine am_aload_n (pc := 5) C d_Mo_age_5 rfl rfl ?_
    refine am_get (pc := 6) C hin_Mo rfl (by decide) wd_4_109 rfl d_Mo_age_6 rfl hX (fun x1 hX => ?_)
    refine am_icmp_ge (pc := 9) (tgt := 55) C d_Mo_age_9 rfl hX (fun hX => ?_) (fun hX => ?_)
    · skip
      refine am_aload_n (pc := 55) C d_Mo_age_55 rfl rfl ?_
      refine am_iload_n (pc := 56) C d_Mo_age_56 rfl rfl ?_
      refine am_callVv (pc := 57) (As := [.int v1]) (st := []) (cells1 := 0) (slots1 := 0) C (fun _ h => h.2) (fun _ h => h) (fun q h => c_Mo_draw h) wd_5_85 wd_5_87 ws_Mo_draw wd_1_9 wd_5_88 rfl rfl hd_Mo_draw ⟨by decide, by decide⟩ rfl rfl (Nat.le_of_ble_eq_true rfl) d_Mo_age_57 ⟨by decide, by decide⟩ rfl rfl rfl hX (fun q2 hX => ?_)
      refine am_aload_n (pc := 60) C d_Mo_age_60 rfl rfl ?_
      refine am_aload_n (pc := 61) C d_Mo_age_61 rfl rfl ?_
      refine am_get (pc := 62) C hin_Mo rfl (by decide) wd_4_124 rfl d_Mo_age_62 rfl hX (fun x3 hX => ?_)
      refine am_sipush (pc := 65) (v := (500 : Int32)) C d_Mo_age_65 (by decide) ?_
      refine am_icmp_le (pc := 68) (tgt := 77) C d_Mo_age_68 rfl hX (fun hX => ?_) (fun hX => ?_)
      · skip
        refine am_aload_n (pc := 77) C d_Mo_age_77 rfl rfl ?_
        refine am_get (pc := 78) C hin_Mo rfl (by decide) wd_4_124 rfl d_Mo_age_78 rfl hX (fun x4 hX => ?_)
        refine am_put (pc := 81) C (fun _ h => ⟨rfl, h⟩) hin_Mo t_Mo t_Mo_ok n_Mo rfl (by decide) wd_4_124 rfl rfl (t_Mo_ok 24 (by decide)) rfl rfl rfl d_Mo_age_81 hX (fun w5 hX => ?_)
        refine am_iconst (pc := 84) (v := (0 : Int32)) C d_Mo_age_84 (by decide) ?_
        refine am_istore_n (pc := 85) (lo1 := [some (.ref v0), some (.int v1), some (.int (0 : Int32)), none]) C d_Mo_age_85 rfl (by decide) rfl ?_
        exact am_sub (am_le_s (am_le_n (am_le_s (am_le_n (am_le_0))))) (L_Mo_age_86 C hret hlk  70 v0 (0 : Int32) w5 hX)
      · skip
        refine am_sipush (pc := 71) (v := (500 : Int32)) C d_Mo_age_71 (by decide) ?_
        refine am_goto (pc := 74) (tgt := 81) C d_Mo_age_74 rfl ?_
        refine am_put (pc := 81) C (fun _ h => ⟨rfl, h⟩) hin_Mo t_Mo t_Mo_ok n_Mo rfl (by decide) wd_4_124 rfl rfl (t_Mo_ok 24 (by decide)) rfl rfl rfl d_Mo_age_81 hX (fun w41 hX => ?_)
        refine am_iconst (pc := 84) (v := (0 : Int32)) C d_Mo_age_84 (by decide) ?_
        refine am_istore_n (pc := 85) (lo1 := [some (.ref v0), some (.int v1), some (.int (0 : Int32)), none]) C d_Mo_age_85 rfl (by decide) rfl ?_
        exact am_sub (am_le_s (am_le_n (am_le_s (am_le_n (am_le_0))))) (L_Mo_age_86 C hret hlk  70 v0 (0 : Int32) w41 hX)
    · skip
      refine am_aload_n (pc := 12) C d_Mo_age_12 rfl rfl ?_
      refine am_getr (pc := 13) C hin_Mo rfl (by decide) wd_4_112 rfl d_Mo_age_13 rfl hX (fun b42 hX => ?_)
      refine am_iload_n (pc := 16) C d_Mo_age_16 rfl rfl ?_
      refine am_iald (pc := 17) C d_Mo_age_17 hX (fun x43 hX => ?_)
      refine am_iconst (pc := 18) (v := (1 : Int32)) C d_Mo_age_18 (by decide) ?_
      refine am_icmp_ne (pc := 19) (tgt := 49) C d_Mo_age_19 rfl hX (fun hX => ?_) (fun hX => ?_)
      · skip
        refine am_iinc (pc := 49) (y := (1 : Int32)) (lo1 := [some (.ref v0), some (.int v1), some (.int (v2 + (1 : Int32))), none]) C d_Mo_age_49 rfl (by decide) (by decide) rfl ?_
        refine am_goto (pc := 52) (tgt := 4) C d_Mo_age_52 rfl ?_
        exact (hk4 v0 v1 (v2 + (1 : Int32)) w hX)
      · skip
        refine am_iload_n (pc := 22) C d_Mo_age_22 rfl rfl ?_
        refine am_aload_n (pc := 23) C d_Mo_age_23 rfl rfl ?_
        refine am_getr (pc := 24) C hin_Mo rfl (by decide) wd_4_118 rfl d_Mo_age_24 rfl hX (fun b44 hX => ?_)
        refine am_iload_n (pc := 27) C d_Mo_age_27 rfl rfl ?_
        refine am_iald (pc := 28) C d_Mo_age_28 hX (fun x45 hX => ?_)
        refine am_iadd (pc := 29) C d_Mo_age_29 ?_
        refine am_istore_n (pc := 30) (lo1 := [some (.ref v0), some (.int (v1 + x45)), some (.int v2), none]) C d_Mo_age_30 rfl (by decide) rfl ?_
        refine am_aload_n (pc := 31) C d_Mo_age_31 rfl rfl ?_
        refine am_aload_n (pc := 32) C d_Mo_age_32 rfl rfl ?_
        refine am_get (pc := 33) C hin_Mo rfl (by decide) wd_4_124 rfl d_Mo_age_33 rfl hX (fun x46 hX => ?_)
        refine am_aload_n (pc := 36) C d_Mo_age_36 rfl rfl ?_
        refine am_getr (pc := 37) C hin_Mo rfl (by decide) wd_4_110 rfl d_Mo_age_37 rfl hX (fun b47 hX => ?_)
        refine am_bipush (pc := 40) (v := (24 : Int32)) C d_Mo_age_40 (by decide) ?_
        refine am_iload_n (pc := 42) C d_Mo_age_42 rfl rfl ?_
        refine am_iadd (pc := 43) C d_Mo_age_43 ?_
        refine am_iald (pc := 44) C d_Mo_age_44 hX (fun x48 hX => ?_)
        refine am_iadd (pc := 45) C d_Mo_age_45 ?_
        refine am_put (pc := 46) C (fun _ h => ⟨rfl, h⟩) hin_Mo t_Mo t_Mo_ok n_Mo rfl (by decide) wd_4_124 rfl rfl (t_Mo_ok 24 (by decide)) rfl rfl rfl d_Mo_age_46 hX (fun w49 hX => ?_)
        refine am_iinc (pc := 49) (y := (1 : Int32)) (lo1 := [some (.ref v0), some (.int (v1 + x45)), some (.int (v2 + (1 : Int32))), none]) C d_Mo_age_49 rfl (by decide) (by decide) rfl ?_
        refine am_goto (pc := 52) (tgt := 4) C d_Mo_age_52 rfl ?_
        exact (hk4 v0 (v1 + x45) (v2 + (1 : Int32)) w49 hX)
def f_Mo_age (a0 : Nat) (w : am_w) : Option (Int32 × am_w) := (f_Mo_age_4  70 a0 (0 : Int32) (0 : Int32) w)
theorem hd_Mo_age : y_Mo_age.cls = "RoverMinutesModel" ∧ y_Mo_age.cls ≠ "java/lang/invoke/MethodHandle" ∧ y_Mo_age.cls ≠ "java/lang/invoke/VarHandle" ∧ (parseMethodDescriptor y_Mo_age.desc).map (fun d => d.parameters.length) = some 0 := ⟨rfl, by decide, by decide, by decide +kernel⟩
set_option maxHeartbeats 4000000 in
theorem c_Mo_age {l : Launch} {D : va_G} {A : Nat → Prop} {a0 : Nat} {w : am_w} {r : Int32 × am_w} (hX : f_Mo_age a0 w = some r) : am_Met l D classes tys A (am_F A true) y_Mo_age (Cond.code y_Mo_age b_Mo_age 4 none :: am_W) rm_Mo_age [.ref a0] w (am_rv r) 0 0 := by
  refine am_ofV (by decide) am_W_good (Nat.le_of_ble_eq_true rfl) (by simp [Value.category]) ?_
  intro p e s m below meth c C hret hlk hnm
  unfold f_Mo_age at hX
  refine am_iconst (pc := 0) (v := (0 : Int32)) C d_Mo_age_0 (by decide) ?_
  refine am_istore_n (pc := 1) (lo1 := [some (.ref a0), some (.int (0 : Int32)), none, none]) C d_Mo_age_1 rfl (by decide) rfl ?_
  refine am_iconst (pc := 2) (v := (0 : Int32)) C d_Mo_age_2 (by decide) ?_
  refine am_istore_n (pc := 3) (lo1 := [some (.ref a0), some (.int (0 : Int32)), some (.int (0 : Int32)), none]) C d_Mo_age_3 rfl (by decide) rfl ?_
  exact (L_Mo_age_4 C hret hlk  70 a0 (0 : Int32) (0 : Int32) w hX)
def rm_Mo_minute : Room := { frames := 5, cells := 0, slots := 0, locals := 120 }
def f_Mo_minute (a0 : Nat) (w : am_w) : Option (Int32 × am_w) := ((am_fg 7 21 a0 w).bind fun x1 => ((am_fp 7 21 a0 (x1 + (1 : Int32)) w).bind fun w2 => ((am_fg 7 22 a0 w2).bind fun x3 => (if x3 = 0 then ((am_ob 7 a0 w2 (f_Mo_draw a0 (0 : Int32) w2)).bind fun q19 => (some ((0 : Int32), q19.2))) else ((am_fg 7 22 a0 w2).bind fun x4 => (if x4 = (2 : Int32) then ((am_fg 7 28 a0 w2).bind fun x12 => ((am_ob 7 a0 w2 (f_Mo_draw a0 x12 w2)).bind fun q13 => ((am_fg 7 29 a0 q13.2).bind fun x14 => ((am_fp 7 29 a0 (x14 - (1 : Int32)) q13.2).bind fun w15 => ((am_fg 7 29 a0 w15).bind fun x16 => (if x16 = 0 then ((am_fp 7 22 a0 (0 : Int32) w15).bind fun w18 => (some ((0 : Int32), w18))) else ((am_fp 7 22 a0 (2 : Int32) w15).bind fun w17 => (some ((0 : Int32), w17))))))))) else ((am_ob 7 a0 w2 (f_Mo_age a0 w2)).bind fun q5 => ((am_ob 7 a0 q5.2 (f_Mo_skip a0 q5.2)).bind fun q6 => ((am_fg 7 23 a0 q6.2).bind fun x7 => ((am_fg 7 21 a0 q6.2).bind fun x8 => ((am_ob 7 a0 q6.2 (f_Mo_isOpen a0 x7 x8 q6.2)).bind fun q9 => (if q9.1 = 0 then ((am_ob 7 a0 q9.2 (f_Mo_goHome a0 q9.2)).bind fun q11 => (some ((0 : Int32), q11.2))) else ((am_ob 7 a0 q9.2 (f_Mo_startAll a0 q9.2)).bind fun q10 => (some (q10.1, q10.2)))))))))))))))
theorem hd_Mo_minute : y_Mo_minute.cls = "RoverMinutesModel" ∧ y_Mo_minute.cls ≠ "java/lang/invoke/MethodHandle" ∧ y_Mo_minute.cls ≠ "java/lang/invoke/VarHandle" ∧ (parseMethodDescriptor y_Mo_minute.desc).map (fun d => d.parameters.length) = some 0 := ⟨rfl, by decide, by decide, by decide +kernel⟩
set_option maxHeartbeats 4000000 in
theorem c_Mo_minute {l : Launch} {D : va_G} {A : Nat → Prop} {a0 : Nat} {w : am_w} {r : Int32 × am_w} (hX : f_Mo_minute a0 w = some r) : am_Met l D classes tys A (am_F A true) y_Mo_minute (Cond.code y_Mo_minute b_Mo_minute 1 (some .int) :: am_W) rm_Mo_minute [.ref a0] w (am_ri r) 0 0 := by
  refine am_ofV (by decide) am_W_good (Nat.le_of_ble_eq_true rfl) (by simp [Value.category]) ?_
  intro p e s m below meth c C hret hlk hnm
  unfold f_Mo_minute at hX
  refine am_aload_n (pc := 0) C d_Mo_minute_0 rfl rfl ?_
  refine am_dup (pc := 1) C d_Mo_minute_1 rfl ?_
  refine am_get (pc := 2) C hin_Mo rfl (by decide) wd_4_121 rfl d_Mo_minute_2 rfl hX (fun x1 hX => ?_)
  refine am_iconst (pc := 5) (v := (1 : Int32)) C d_Mo_minute_5 (by decide) ?_
  refine am_iadd (pc := 6) C d_Mo_minute_6 ?_
  refine am_put (pc := 7) C (fun _ h => ⟨rfl, h⟩) hin_Mo t_Mo t_Mo_ok n_Mo rfl (by decide) wd_4_121 rfl rfl (t_Mo_ok 21 (by decide)) rfl rfl rfl d_Mo_minute_7 hX (fun w2 hX => ?_)
  refine am_aload_n (pc := 10) C d_Mo_minute_10 rfl rfl ?_
  refine am_get (pc := 11) C hin_Mo rfl (by decide) wd_4_122 rfl d_Mo_minute_11 rfl hX (fun x3 hX => ?_)
  refine am_if_ne (pc := 14) (tgt := 24) C d_Mo_minute_14 rfl hX (fun hX => ?_) (fun hX => ?_)
  · skip
    refine am_aload_n (pc := 24) C d_Mo_minute_24 rfl rfl ?_
    refine am_get (pc := 25) C hin_Mo rfl (by decide) wd_4_122 rfl d_Mo_minute_25 rfl hX (fun x4 hX => ?_)
    refine am_iconst (pc := 28) (v := (2 : Int32)) C d_Mo_minute_28 (by decide) ?_
    refine am_icmp_ne (pc := 29) (tgt := 68) C d_Mo_minute_29 rfl hX (fun hX => ?_) (fun hX => ?_)
    · skip
      refine am_aload_n (pc := 68) C d_Mo_minute_68 rfl rfl ?_
      refine am_callVv (pc := 69) (As := []) (st := []) (cells1 := 0) (slots1 := 0) C (fun _ h => h.2) (fun _ h => h) (fun q h => c_Mo_age h) wd_5_89 wd_5_91 ws_Mo_age wd_1_9 wd_5_92 rfl rfl hd_Mo_age ⟨by decide, by decide⟩ rfl rfl (Nat.le_of_ble_eq_true rfl) d_Mo_minute_69 ⟨by decide, by decide⟩ rfl rfl rfl hX (fun q5 hX => ?_)
      refine am_aload_n (pc := 72) C d_Mo_minute_72 rfl rfl ?_
      refine am_callVv (pc := 73) (As := []) (st := []) (cells1 := 0) (slots1 := 0) C (fun _ h => h.2) (fun _ h => h) (fun q h => c_Mo_skip h) wd_5_33 wd_5_35 ws_Mo_skip wd_1_9 wd_5_36 rfl rfl hd_Mo_skip ⟨by decide, by decide⟩ rfl rfl (Nat.le_of_ble_eq_true rfl) d_Mo_minute_73 ⟨by decide, by decide⟩ rfl rfl rfl hX (fun q6 hX => ?_)
      refine am_aload_n (pc := 76) C d_Mo_minute_76 rfl rfl ?_
      refine am_aload_n (pc := 77) C d_Mo_minute_77 rfl rfl ?_
      refine am_get (pc := 78) C hin_Mo rfl (by decide) wd_4_123 rfl d_Mo_minute_78 rfl hX (fun x7 hX => ?_)
      refine am_aload_n (pc := 81) C d_Mo_minute_81 rfl rfl ?_
      refine am_get (pc := 82) C hin_Mo rfl (by decide) wd_4_121 rfl d_Mo_minute_82 rfl hX (fun x8 hX => ?_)
      refine am_callVi (pc := 85) (As := [.int x7, .int x8]) (st := []) (cells1 := 0) (slots1 := 0) C (fun _ h => h.2) (fun _ h => by cases h.1) (fun q h => c_Mo_isOpen h) wd_5_25 wd_5_27 ws_Mo_isOpen wd_1_9 wd_5_28 rfl rfl hd_Mo_isOpen ⟨by decide, by decide⟩ rfl rfl (Nat.le_of_ble_eq_true rfl) d_Mo_minute_85 ⟨by decide, by decide⟩ rfl rfl rfl hX (fun q9 hX => ?_)
      refine am_if_ne (pc := 88) (tgt := 97) C d_Mo_minute_88 rfl hX (fun hX => ?_) (fun hX => ?_)
      · skip
        refine am_aload_n (pc := 97) C d_Mo_minute_97 rfl rfl ?_
        refine am_callVi (pc := 98) (As := []) (st := []) (cells1 := 0) (slots1 := 0) C (fun _ h => h.2) (fun _ h => h) (fun q h => c_Mo_startAll h) wd_5_41 wd_5_43 ws_Mo_startAll wd_1_9 wd_5_44 rfl rfl hd_Mo_startAll ⟨by decide, by decide⟩ rfl rfl (Nat.le_of_ble_eq_true rfl) d_Mo_minute_98 ⟨by decide, by decide⟩ rfl rfl rfl hX (fun q10 hX => ?_)
        exact am_iret (pc := 101) C hret hlk d_Mo_minute_101 rfl (by decide) (by decide) hX
      · skip
        refine am_aload_n (pc := 91) C d_Mo_minute_91 rfl rfl ?_
        refine am_callVv (pc := 92) (As := []) (st := []) (cells1 := 0) (slots1 := 0) C (fun _ h => h.2) (fun _ h => h) (fun q h => c_Mo_goHome h) wd_5_73 wd_5_75 ws_Mo_goHome wd_1_9 wd_5_76 rfl rfl hd_Mo_goHome ⟨by decide, by decide⟩ rfl rfl (Nat.le_of_ble_eq_true rfl) d_Mo_minute_92 ⟨by decide, by decide⟩ rfl rfl rfl hX (fun q11 hX => ?_)
        refine am_iconst (pc := 95) (v := (0 : Int32)) C d_Mo_minute_95 (by decide) ?_
        exact am_iret (pc := 96) C hret hlk d_Mo_minute_96 rfl (by decide) (by decide) hX
    · skip
      refine am_aload_n (pc := 32) C d_Mo_minute_32 rfl rfl ?_
      refine am_aload_n (pc := 33) C d_Mo_minute_33 rfl rfl ?_
      refine am_get (pc := 34) C hin_Mo rfl (by decide) wd_4_128 rfl d_Mo_minute_34 rfl hX (fun x12 hX => ?_)
      refine am_callVv (pc := 37) (As := [.int x12]) (st := []) (cells1 := 0) (slots1 := 0) C (fun _ h => h.2) (fun _ h => h) (fun q h => c_Mo_draw h) wd_5_85 wd_5_87 ws_Mo_draw wd_1_9 wd_5_88 rfl rfl hd_Mo_draw ⟨by decide, by decide⟩ rfl rfl (Nat.le_of_ble_eq_true rfl) d_Mo_minute_37 ⟨by decide, by decide⟩ rfl rfl rfl hX (fun q13 hX => ?_)
      refine am_aload_n (pc := 40) C d_Mo_minute_40 rfl rfl ?_
      refine am_dup (pc := 41) C d_Mo_minute_41 rfl ?_
      refine am_get (pc := 42) C hin_Mo rfl (by decide) wd_4_129 rfl d_Mo_minute_42 rfl hX (fun x14 hX => ?_)
      refine am_iconst (pc := 45) (v := (1 : Int32)) C d_Mo_minute_45 (by decide) ?_
      refine am_isub (pc := 46) C d_Mo_minute_46 ?_
      refine am_put (pc := 47) C (fun _ h => ⟨rfl, h⟩) hin_Mo t_Mo t_Mo_ok n_Mo rfl (by decide) wd_4_129 rfl rfl (t_Mo_ok 29 (by decide)) rfl rfl rfl d_Mo_minute_47 hX (fun w15 hX => ?_)
      refine am_aload_n (pc := 50) C d_Mo_minute_50 rfl rfl ?_
      refine am_aload_n (pc := 51) C d_Mo_minute_51 rfl rfl ?_
      refine am_get (pc := 52) C hin_Mo rfl (by decide) wd_4_129 rfl d_Mo_minute_52 rfl hX (fun x16 hX => ?_)
      refine am_if_ne (pc := 55) (tgt := 62) C d_Mo_minute_55 rfl hX (fun hX => ?_) (fun hX => ?_)
      · skip
        refine am_iconst (pc := 62) (v := (2 : Int32)) C d_Mo_minute_62 (by decide) ?_
        refine am_put (pc := 63) C (fun _ h => ⟨rfl, h⟩) hin_Mo t_Mo t_Mo_ok n_Mo rfl (by decide) wd_4_122 rfl rfl (t_Mo_ok 22 (by decide)) rfl rfl rfl d_Mo_minute_63 hX (fun w17 hX => ?_)
        refine am_iconst (pc := 66) (v := (0 : Int32)) C d_Mo_minute_66 (by decide) ?_
        exact am_iret (pc := 67) C hret hlk d_Mo_minute_67 rfl (by decide) (by decide) hX
      · skip
        refine am_iconst (pc := 58) (v := (0 : Int32)) C d_Mo_minute_58 (by decide) ?_
        refine am_goto (pc := 59) (tgt := 63) C d_Mo_minute_59 rfl ?_
        refine am_put (pc := 63) C (fun _ h => ⟨rfl, h⟩) hin_Mo t_Mo t_Mo_ok n_Mo rfl (by decide) wd_4_122 rfl rfl (t_Mo_ok 22 (by decide)) rfl rfl rfl d_Mo_minute_63 hX (fun w18 hX => ?_)
        refine am_iconst (pc := 66) (v := (0 : Int32)) C d_Mo_minute_66 (by decide) ?_
        exact am_iret (pc := 67) C hret hlk d_Mo_minute_67 rfl (by decide) (by decide) hX
  · skip
    refine am_aload_n (pc := 17) C d_Mo_minute_17 rfl rfl ?_
    refine am_iconst (pc := 18) (v := (0 : Int32)) C d_Mo_minute_18 (by decide) ?_
    refine am_callVv (pc := 19) (As := [.int (0 : Int32)]) (st := []) (cells1 := 0) (slots1 := 0) C (fun _ h => h.2) (fun _ h => h) (fun q h => c_Mo_draw h) wd_5_85 wd_5_87 ws_Mo_draw wd_1_9 wd_5_88 rfl rfl hd_Mo_draw ⟨by decide, by decide⟩ rfl rfl (Nat.le_of_ble_eq_true rfl) d_Mo_minute_19 ⟨by decide, by decide⟩ rfl rfl rfl hX (fun q19 hX => ?_)
    refine am_iconst (pc := 22) (v := (0 : Int32)) C d_Mo_minute_22 (by decide) ?_
    exact am_iret (pc := 23) C hret hlk d_Mo_minute_23 rfl (by decide) (by decide) hX
def rm_Mo_minutes : Room := { frames := 6, cells := 0, slots := 0, locals := 140 }
def s_Mo_minutes_29 (k29 : Nat → Int32 → Int32 → Int32 → am_w → Option (Int32 × am_w)) (v0 : Nat) (v1 : Int32) (v2 : Int32) (v3 : Int32) (w : am_w) : Option (Int32 × am_w) := (if v1 ≤ v3 then (some (v2, w)) else ((am_ob 7 v0 w (f_Mo_minute v0 w)).bind fun q2 => (k29 v0 v1 (v2 + q2.1) (v3 + (1 : Int32)) q2.2)))
def f_Mo_minutes_29  (n : Nat) : Nat → Int32 → Int32 → Int32 → am_w → Option (Int32 × am_w) := am_it (fun _ _ _ _ _ => none) (s_Mo_minutes_29 ) n
set_option maxHeartbeats 4000000 in
theorem L_Mo_minutes_29 {p : Program} {l : Launch} {e : Env} {s : State} {m : MethodId} {args : Array Value} {below : List Frame} {meth : Method} {c : Code} {D : va_G} {A : Nat → Prop} {r : Int32 × am_w} (C : am_C p m c b_Mo_minutes 4 s args am_W "RoverMinutesModel" D classes A) (hret : meth.sig.returnType = (some .int)) (hlk : meth.locks = false)   (n : Nat) : ∀ (v0 : Nat) (v1 : Int32) (v2 : Int32) (v3 : Int32) (w : am_w), f_Mo_minutes_29  n v0 v1 v2 v3 w = some r → am_V p l e rm_Mo_minutes s m args below meth c D classes tys A (am_F A true) 4 0 0 (MQ below (am_Q D classes tys A (am_F A true) (am_ri r)) args s 0 0 (am_F A true)) 29 [some (.ref v0), some (.int v1), some (.int v2), some (.int v3)] [] w := by
  refine am_it_ind (P := fun (t : Nat → Int32 → Int32 → Int32 → am_w → Option (Int32 × am_w)) => ∀ (v0 : Nat) (v1 : Int32) (v2 : Int32) (v3 : Int32) (w : am_w), t v0 v1 v2 v3 w = some r → am_V p l e rm_Mo_minutes s m args below meth c D classes tys A (am_F A true) 4 0 0 (MQ below (am_Q D classes tys A (am_F A true) (am_ri r)) args s 0 0 (am_F A true)) 29 [some (.ref v0), some (.int v1), some (.int v2), some (.int v3)] [] w) ?_ ?_ n
  · intro v0 v1 v2 v3 w hX
    exact (am_nn hX).elim
  · intro k29 hk29 v0 v1 v2 v3 w hX
    unfold s_Mo_minutes_29 at hX
    refine am_iload_n (pc := 29) C d_Mo_minutes_29 rfl rfl ?_
    refine am_iload_n (pc := 30) C d_Mo_minutes_30 rfl rfl ?_
    refine am_icmp_ge (pc := 31) (tgt := 47) C d_Mo_minutes_31 rfl hX (fun hX => ?_) (fun hX => ?_)
    · skip
      refine am_iload_n (pc := 47) C d_Mo_minutes_47 rfl rfl ?_
      exact am_iret (pc := 48) C hret hlk d_Mo_minutes_48 rfl (by decide) (by decide) hX
    · skip
      refine am_iload_n (pc := 34) C d_Mo_minutes_34 rfl rfl ?_
      refine am_aload_n (pc := 35) C d_Mo_minutes_35 rfl rfl ?_
      refine am_callVi (pc := 36) (As := []) (st := [.int v2]) (cells1 := 0) (slots1 := 0) C (fun _ h => h.2) (fun _ h => h) (fun q h => c_Mo_minute h) wd_5_81 wd_5_83 ws_Mo_minute wd_1_9 wd_5_84 rfl rfl hd_Mo_minute ⟨by decide, by decide⟩ rfl rfl (Nat.le_of_ble_eq_true rfl) d_Mo_minutes_36 ⟨by decide, by decide⟩ rfl rfl rfl hX (fun q2 hX => ?_)
      refine am_iadd (pc := 39) C d_Mo_minutes_39 ?_
      refine am_istore_n (pc := 40) (lo1 := [some (.ref v0), some (.int v1), some (.int (v2 + q2.1)), some (.int v3)]) C d_Mo_minutes_40 rfl (by decide) rfl ?_
      refine am_iinc (pc := 41) (y := (1 : Int32)) (lo1 := [some (.ref v0), some (.int v1), some (.int (v2 + q2.1)), some (.int (v3 + (1 : Int32)))]) C d_Mo_minutes_41 rfl (by decide) (by decide) rfl ?_
      refine am_goto (pc := 44) (tgt := 29) C d_Mo_minutes_44 rfl ?_
      exact (hk29 v0 v1 (v2 + q2.1) (v3 + (1 : Int32)) q2.2 hX)
def s_Mo_minutes_16  (v0 : Nat) (v1 : Int32) (s0 : Int32) (s1 : Nat) (w : am_w) : Option (Int32 × am_w) := ((am_ob 7 s1 w (f_Mo_refused s1 s0 (0 : Int32) w)).bind fun q1 => (if q1.1 = 0 then (f_Mo_minutes_29  70 v0 v1 (0 : Int32) (0 : Int32) q1.2) else (some ((0 : Int32), q1.2))))
set_option maxHeartbeats 4000000 in
theorem L_Mo_minutes_16 {p : Program} {l : Launch} {e : Env} {s : State} {m : MethodId} {args : Array Value} {below : List Frame} {meth : Method} {c : Code} {D : va_G} {A : Nat → Prop} {r : Int32 × am_w} (C : am_C p m c b_Mo_minutes 4 s args am_W "RoverMinutesModel" D classes A) (hret : meth.sig.returnType = (some .int)) (hlk : meth.locks = false)   : ∀ (v0 : Nat) (v1 : Int32) (s0 : Int32) (s1 : Nat) (w : am_w), s_Mo_minutes_16  v0 v1 s0 s1 w = some r → am_V p l e rm_Mo_minutes s m args below meth c D classes tys A (am_F A true) 4 0 0 (MQ below (am_Q D classes tys A (am_F A true) (am_ri r)) args s 0 0 (am_F A true)) 16 [some (.ref v0), some (.int v1), none, none] [.int s0, .ref s1] w := by
  intro v0 v1 s0 s1 w hX
  unfold s_Mo_minutes_16 at hX
  refine am_iconst (pc := 16) (v := (0 : Int32)) C d_Mo_minutes_16 (by decide) ?_
  refine am_callVi (pc := 17) (As := [.int s0, .int (0 : Int32)]) (st := []) (cells1 := 0) (slots1 := 0) C (fun _ h => h.2) (fun _ h => h) (fun q h => c_Mo_refused h) wd_4_206 wd_4_208 ws_Mo_refused wd_1_9 wd_4_209 rfl rfl hd_Mo_refused ⟨by decide, by decide⟩ rfl rfl (Nat.le_of_ble_eq_true rfl) d_Mo_minutes_17 ⟨by decide, by decide⟩ rfl rfl rfl hX (fun q1 hX => ?_)
  refine am_if_eq (pc := 20) (tgt := 25) C d_Mo_minutes_20 rfl hX (fun hX => ?_) (fun hX => ?_)
  · skip
    refine am_iconst (pc := 25) (v := (0 : Int32)) C d_Mo_minutes_25 (by decide) ?_
    refine am_istore_n (pc := 26) (lo1 := [some (.ref v0), some (.int v1), some (.int (0 : Int32)), none]) C d_Mo_minutes_26 rfl (by decide) rfl ?_
    refine am_iconst (pc := 27) (v := (0 : Int32)) C d_Mo_minutes_27 (by decide) ?_
    refine am_istore_n (pc := 28) (lo1 := [some (.ref v0), some (.int v1), some (.int (0 : Int32)), some (.int (0 : Int32))]) C d_Mo_minutes_28 rfl (by decide) rfl ?_
    exact (L_Mo_minutes_29 C hret hlk  70 v0 v1 (0 : Int32) (0 : Int32) q1.2 hX)
  · skip
    refine am_iconst (pc := 23) (v := (0 : Int32)) C d_Mo_minutes_23 (by decide) ?_
    exact am_iret (pc := 24) C hret hlk d_Mo_minutes_24 rfl (by decide) (by decide) hX
def s_Mo_minutes_11  (v0 : Nat) (v1 : Int32) (s0 : Nat) (w : am_w) : Option (Int32 × am_w) := (s_Mo_minutes_16  v0 v1 (1 : Int32) s0 w)
set_option maxHeartbeats 4000000 in
theorem L_Mo_minutes_11 {p : Program} {l : Launch} {e : Env} {s : State} {m : MethodId} {args : Array Value} {below : List Frame} {meth : Method} {c : Code} {D : va_G} {A : Nat → Prop} {r : Int32 × am_w} (C : am_C p m c b_Mo_minutes 4 s args am_W "RoverMinutesModel" D classes A) (hret : meth.sig.returnType = (some .int)) (hlk : meth.locks = false)   : ∀ (v0 : Nat) (v1 : Int32) (s0 : Nat) (w : am_w), s_Mo_minutes_11  v0 v1 s0 w = some r → am_V p l e rm_Mo_minutes s m args below meth c D classes tys A (am_F A true) 4 0 0 (MQ below (am_Q D classes tys A (am_F A true) (am_ri r)) args s 0 0 (am_F A true)) 11 [some (.ref v0), some (.int v1), none, none] [.ref s0] w := by
  intro v0 v1 s0 w hX
  unfold s_Mo_minutes_11 at hX
  refine am_iconst (pc := 11) (v := (1 : Int32)) C d_Mo_minutes_11 (by decide) ?_
  refine am_goto (pc := 12) (tgt := 16) C d_Mo_minutes_12 rfl ?_
  exact (L_Mo_minutes_16 C hret hlk  v0 v1 (1 : Int32) s0 w hX)
def f_Mo_minutes (a0 : Nat) (a1 : Int32) (w : am_w) : Option (Int32 × am_w) := (if a1 < 0 then (s_Mo_minutes_11  a0 a1 a0 w) else (if a1 ≤ (60 : Int32) then (s_Mo_minutes_16  a0 a1 (0 : Int32) a0 w) else (s_Mo_minutes_11  a0 a1 a0 w)))
theorem hd_Mo_minutes : y_Mo_minutes.cls = "RoverMinutesModel" ∧ y_Mo_minutes.cls ≠ "java/lang/invoke/MethodHandle" ∧ y_Mo_minutes.cls ≠ "java/lang/invoke/VarHandle" ∧ (parseMethodDescriptor y_Mo_minutes.desc).map (fun d => d.parameters.length) = some 1 := ⟨rfl, by decide, by decide, by decide +kernel⟩
set_option maxHeartbeats 4000000 in
theorem c_Mo_minutes {l : Launch} {D : va_G} {A : Nat → Prop} {a0 : Nat} {a1 : Int32} {w : am_w} {r : Int32 × am_w} (hX : f_Mo_minutes a0 a1 w = some r) : am_Met l D classes tys A (am_F A true) y_Mo_minutes (Cond.code y_Mo_minutes b_Mo_minutes 4 (some .int) :: am_W) rm_Mo_minutes [.ref a0, .int a1] w (am_ri r) 0 0 := by
  refine am_ofV (by decide) am_W_good (Nat.le_of_ble_eq_true rfl) (by simp [Value.category]) ?_
  intro p e s m below meth c C hret hlk hnm
  unfold f_Mo_minutes at hX
  refine am_aload_n (pc := 0) C d_Mo_minutes_0 rfl rfl ?_
  refine am_iload_n (pc := 1) C d_Mo_minutes_1 rfl rfl ?_
  refine am_if_lt (pc := 2) (tgt := 11) C d_Mo_minutes_2 rfl hX (fun hX => ?_) (fun hX => ?_)
  · skip
    exact (L_Mo_minutes_11 C hret hlk  a0 a1 a0 w hX)
  · skip
    refine am_iload_n (pc := 5) C d_Mo_minutes_5 rfl rfl ?_
    refine am_bipush (pc := 6) (v := (60 : Int32)) C d_Mo_minutes_6 (by decide) ?_
    refine am_icmp_le (pc := 8) (tgt := 15) C d_Mo_minutes_8 rfl hX (fun hX => ?_) (fun hX => ?_)
    · skip
      refine am_iconst (pc := 15) (v := (0 : Int32)) C d_Mo_minutes_15 (by decide) ?_
      exact (L_Mo_minutes_16 C hret hlk  a0 a1 (0 : Int32) a0 w hX)
    · skip
      exact (L_Mo_minutes_11 C hret hlk  a0 a1 a0 w hX)
def rm_Mo_isActivity : Room := { frames := 0, cells := 0, slots := 0, locals := 0 }
def f_Mo_isActivity (a0 : Nat) (a1 : Int32) (w : am_w) : Option (Int32 × am_w) := (if a1 < 0 then (some ((0 : Int32), w)) else ((am_fg 7 9 a0 w).bind fun x1 => (if x1 ≤ a1 then (some ((0 : Int32), w)) else (some ((1 : Int32), w)))))
theorem hd_Mo_isActivity : y_Mo_isActivity.cls = "RoverMinutesModel" ∧ y_Mo_isActivity.cls ≠ "java/lang/invoke/MethodHandle" ∧ y_Mo_isActivity.cls ≠ "java/lang/invoke/VarHandle" ∧ (parseMethodDescriptor y_Mo_isActivity.desc).map (fun d => d.parameters.length) = some 1 := ⟨rfl, by decide, by decide, by decide +kernel⟩
set_option maxHeartbeats 4000000 in
theorem c_Mo_isActivity {l : Launch} {D : va_G} {A : Nat → Prop} {a0 : Nat} {a1 : Int32} {w : am_w} {r : Int32 × am_w} (hX : f_Mo_isActivity a0 a1 w = some r) : am_Met l D classes tys A (am_F A false) y_Mo_isActivity (Cond.code y_Mo_isActivity b_Mo_isActivity 2 (some .boolean) :: am_W) rm_Mo_isActivity [.ref a0, .int a1] w (am_ri r) 0 0 := by
  refine am_ofV (by decide) am_W_good (Nat.le_of_ble_eq_true rfl) (by simp [Value.category]) ?_
  intro p e s m below meth c C hret hlk hnm
  unfold f_Mo_isActivity at hX
  refine am_iload_n (pc := 0) C d_Mo_isActivity_0 rfl rfl ?_
  refine am_if_lt (pc := 1) (tgt := 16) C d_Mo_isActivity_1 rfl hX (fun hX => ?_) (fun hX => ?_)
  · skip
    refine am_iconst (pc := 16) (v := (0 : Int32)) C d_Mo_isActivity_16 (by decide) ?_
    exact am_iret (pc := 17) C hret hlk d_Mo_isActivity_17 am_n0 (by decide) (by decide) hX
  · skip
    refine am_iload_n (pc := 4) C d_Mo_isActivity_4 rfl rfl ?_
    refine am_aload_n (pc := 5) C d_Mo_isActivity_5 rfl rfl ?_
    refine am_get (pc := 6) C hin_Mo rfl (by decide) wd_4_109 rfl d_Mo_isActivity_6 rfl hX (fun x1 hX => ?_)
    refine am_icmp_ge (pc := 9) (tgt := 16) C d_Mo_isActivity_9 rfl hX (fun hX => ?_) (fun hX => ?_)
    · skip
      refine am_iconst (pc := 16) (v := (0 : Int32)) C d_Mo_isActivity_16 (by decide) ?_
      exact am_iret (pc := 17) C hret hlk d_Mo_isActivity_17 am_n0 (by decide) (by decide) hX
    · skip
      refine am_iconst (pc := 12) (v := (1 : Int32)) C d_Mo_isActivity_12 (by decide) ?_
      refine am_goto (pc := 13) (tgt := 17) C d_Mo_isActivity_13 rfl ?_
      exact am_iret (pc := 17) C hret hlk d_Mo_isActivity_17 am_n1 (by decide) (by decide) hX
def rm_Mo_lasts : Room := { frames := 1, cells := 0, slots := 0, locals := 22 }
def s_Mo_lasts_30  (v0 : Nat) (v1 : Int32) (v2 : Int32) (s0 : Int32) (s1 : Int32) (s2 : Nat) (w : am_w) : Option (Int32 × am_w) := ((am_ob 7 s2 w (f_Mo_refused s2 s1 s0 w)).bind fun q2 => (if q2.1 = 0 then ((am_rg 7 19 v0 q2.2).bind fun b3 => ((am_is b3 v1 v2 q2.2).bind fun w4 => (some (0, w4)))) else (some (0, q2.2))))
set_option maxHeartbeats 4000000 in
theorem L_Mo_lasts_30 {p : Program} {l : Launch} {e : Env} {s : State} {m : MethodId} {args : Array Value} {below : List Frame} {meth : Method} {c : Code} {D : va_G} {A : Nat → Prop} {r : Int32 × am_w} (C : am_C p m c b_Mo_lasts 3 s args am_W "RoverMinutesModel" D classes A) (hret : meth.sig.returnType = none) (hlk : meth.locks = false)   : ∀ (v0 : Nat) (v1 : Int32) (v2 : Int32) (s0 : Int32) (s1 : Int32) (s2 : Nat) (w : am_w), s_Mo_lasts_30  v0 v1 v2 s0 s1 s2 w = some r → am_V p l e rm_Mo_lasts s m args below meth c D classes tys A (am_F A true) 3 0 0 (MQ below (am_Q D classes tys A (am_F A true) (am_rv r)) args s 0 0 (am_F A true)) 30 [some (.ref v0), some (.int v1), some (.int v2)] [.int s0, .int s1, .ref s2] w := by
  intro v0 v1 v2 s0 s1 s2 w hX
  unfold s_Mo_lasts_30 at hX
  refine am_callVi (pc := 30) (As := [.int s1, .int s0]) (st := []) (cells1 := 0) (slots1 := 0) C (fun _ h => h.2) (fun _ h => h) (fun q h => c_Mo_refused h) wd_4_206 wd_4_208 ws_Mo_refused wd_1_9 wd_4_209 rfl rfl hd_Mo_refused ⟨by decide, by decide⟩ rfl rfl (Nat.le_of_ble_eq_true rfl) d_Mo_lasts_30 ⟨by decide, by decide⟩ rfl rfl rfl hX (fun q2 hX => ?_)
  refine am_if_ne (pc := 33) (tgt := 43) C d_Mo_lasts_33 rfl hX (fun hX => ?_) (fun hX => ?_)
  · skip
    exact am_vret (pc := 43) C hret hlk d_Mo_lasts_43 (by decide) (by decide) hX
  · skip
    refine am_aload_n (pc := 36) C d_Mo_lasts_36 rfl rfl ?_
    refine am_getr (pc := 37) C hin_Mo rfl (by decide) wd_4_119 rfl d_Mo_lasts_37 rfl hX (fun b3 hX => ?_)
    refine am_iload_n (pc := 40) C d_Mo_lasts_40 rfl rfl ?_
    refine am_iload_n (pc := 41) C d_Mo_lasts_41 rfl rfl ?_
    refine am_iast (pc := 42) C (fun _ h => ⟨rfl, h⟩) d_Mo_lasts_42 hX (fun w4 hX => ?_)
    exact am_vret (pc := 43) C hret hlk d_Mo_lasts_43 (by decide) (by decide) hX
def s_Mo_lasts_25  (v0 : Nat) (v1 : Int32) (v2 : Int32) (s0 : Int32) (s1 : Nat) (w : am_w) : Option (Int32 × am_w) := (s_Mo_lasts_30  v0 v1 v2 (1 : Int32) s0 s1 w)
set_option maxHeartbeats 4000000 in
theorem L_Mo_lasts_25 {p : Program} {l : Launch} {e : Env} {s : State} {m : MethodId} {args : Array Value} {below : List Frame} {meth : Method} {c : Code} {D : va_G} {A : Nat → Prop} {r : Int32 × am_w} (C : am_C p m c b_Mo_lasts 3 s args am_W "RoverMinutesModel" D classes A) (hret : meth.sig.returnType = none) (hlk : meth.locks = false)   : ∀ (v0 : Nat) (v1 : Int32) (v2 : Int32) (s0 : Int32) (s1 : Nat) (w : am_w), s_Mo_lasts_25  v0 v1 v2 s0 s1 w = some r → am_V p l e rm_Mo_lasts s m args below meth c D classes tys A (am_F A true) 3 0 0 (MQ below (am_Q D classes tys A (am_F A true) (am_rv r)) args s 0 0 (am_F A true)) 25 [some (.ref v0), some (.int v1), some (.int v2)] [.int s0, .ref s1] w := by
  intro v0 v1 v2 s0 s1 w hX
  unfold s_Mo_lasts_25 at hX
  refine am_iconst (pc := 25) (v := (1 : Int32)) C d_Mo_lasts_25 (by decide) ?_
  refine am_goto (pc := 26) (tgt := 30) C d_Mo_lasts_26 rfl ?_
  exact (L_Mo_lasts_30 C hret hlk  v0 v1 v2 (1 : Int32) s0 s1 w hX)
def s_Mo_lasts_14  (v0 : Nat) (v1 : Int32) (v2 : Int32) (s0 : Int32) (s1 : Nat) (w : am_w) : Option (Int32 × am_w) := (if v2 < (1 : Int32) then (s_Mo_lasts_25  v0 v1 v2 s0 s1 w) else (if v2 ≤ (40 : Int32) then (s_Mo_lasts_30  v0 v1 v2 (0 : Int32) s0 s1 w) else (s_Mo_lasts_25  v0 v1 v2 s0 s1 w)))
set_option maxHeartbeats 4000000 in
theorem L_Mo_lasts_14 {p : Program} {l : Launch} {e : Env} {s : State} {m : MethodId} {args : Array Value} {below : List Frame} {meth : Method} {c : Code} {D : va_G} {A : Nat → Prop} {r : Int32 × am_w} (C : am_C p m c b_Mo_lasts 3 s args am_W "RoverMinutesModel" D classes A) (hret : meth.sig.returnType = none) (hlk : meth.locks = false)   : ∀ (v0 : Nat) (v1 : Int32) (v2 : Int32) (s0 : Int32) (s1 : Nat) (w : am_w), s_Mo_lasts_14  v0 v1 v2 s0 s1 w = some r → am_V p l e rm_Mo_lasts s m args below meth c D classes tys A (am_F A true) 3 0 0 (MQ below (am_Q D classes tys A (am_F A true) (am_rv r)) args s 0 0 (am_F A true)) 14 [some (.ref v0), some (.int v1), some (.int v2)] [.int s0, .ref s1] w := by
  intro v0 v1 v2 s0 s1 w hX
  unfold s_Mo_lasts_14 at hX
  refine am_iload_n (pc := 14) C d_Mo_lasts_14 rfl rfl ?_
  refine am_iconst (pc := 15) (v := (1 : Int32)) C d_Mo_lasts_15 (by decide) ?_
  refine am_icmp_lt (pc := 16) (tgt := 25) C d_Mo_lasts_16 rfl hX (fun hX => ?_) (fun hX => ?_)
  · skip
    exact (L_Mo_lasts_25 C hret hlk  v0 v1 v2 s0 s1 w hX)
  · skip
    refine am_iload_n (pc := 19) C d_Mo_lasts_19 rfl rfl ?_
    refine am_bipush (pc := 20) (v := (40 : Int32)) C d_Mo_lasts_20 (by decide) ?_
    refine am_icmp_le (pc := 22) (tgt := 29) C d_Mo_lasts_22 rfl hX (fun hX => ?_) (fun hX => ?_)
    · skip
      refine am_iconst (pc := 29) (v := (0 : Int32)) C d_Mo_lasts_29 (by decide) ?_
      exact (L_Mo_lasts_30 C hret hlk  v0 v1 v2 (0 : Int32) s0 s1 w hX)
    · skip
      exact (L_Mo_lasts_25 C hret hlk  v0 v1 v2 s0 s1 w hX)
def f_Mo_lasts (a0 : Nat) (a1 : Int32) (a2 : Int32) (w : am_w) : Option (Int32 × am_w) := ((am_ob 7 a0 w (f_Mo_isActivity a0 a1 w)).bind fun q1 => (if q1.1 = 0 then (s_Mo_lasts_14  a0 a1 a2 (1 : Int32) a0 q1.2) else (s_Mo_lasts_14  a0 a1 a2 (0 : Int32) a0 q1.2)))
theorem hd_Mo_lasts : y_Mo_lasts.cls = "RoverMinutesModel" ∧ y_Mo_lasts.cls ≠ "java/lang/invoke/MethodHandle" ∧ y_Mo_lasts.cls ≠ "java/lang/invoke/VarHandle" ∧ (parseMethodDescriptor y_Mo_lasts.desc).map (fun d => d.parameters.length) = some 2 := ⟨rfl, by decide, by decide, by decide +kernel⟩
set_option maxHeartbeats 4000000 in
theorem c_Mo_lasts {l : Launch} {D : va_G} {A : Nat → Prop} {a0 : Nat} {a1 : Int32} {a2 : Int32} {w : am_w} {r : Int32 × am_w} (hX : f_Mo_lasts a0 a1 a2 w = some r) : am_Met l D classes tys A (am_F A true) y_Mo_lasts (Cond.code y_Mo_lasts b_Mo_lasts 3 none :: am_W) rm_Mo_lasts [.ref a0, .int a1, .int a2] w (am_rv r) 0 0 := by
  refine am_ofV (by decide) am_W_good (Nat.le_of_ble_eq_true rfl) (by simp [Value.category]) ?_
  intro p e s m below meth c C hret hlk hnm
  unfold f_Mo_lasts at hX
  refine am_aload_n (pc := 0) C d_Mo_lasts_0 rfl rfl ?_
  refine am_aload_n (pc := 1) C d_Mo_lasts_1 rfl rfl ?_
  refine am_iload_n (pc := 2) C d_Mo_lasts_2 rfl rfl ?_
  refine am_callVi (pc := 3) (As := [.int a1]) (st := [.ref a0]) (cells1 := 0) (slots1 := 0) C (fun _ h => h.2) (fun _ h => by cases h.1) (fun q h => c_Mo_isActivity h) wd_5_97 wd_5_99 ws_Mo_isActivity wd_1_9 wd_5_100 rfl rfl hd_Mo_isActivity ⟨by decide, by decide⟩ rfl rfl (Nat.le_of_ble_eq_true rfl) d_Mo_lasts_3 ⟨by decide, by decide⟩ rfl rfl rfl hX (fun q1 hX => ?_)
  refine am_if_ne (pc := 6) (tgt := 13) C d_Mo_lasts_6 rfl hX (fun hX => ?_) (fun hX => ?_)
  · skip
    refine am_iconst (pc := 13) (v := (0 : Int32)) C d_Mo_lasts_13 (by decide) ?_
    exact (L_Mo_lasts_14 C hret hlk  a0 a1 a2 (0 : Int32) a0 q1.2 hX)
  · skip
    refine am_iconst (pc := 9) (v := (1 : Int32)) C d_Mo_lasts_9 (by decide) ?_
    refine am_goto (pc := 10) (tgt := 14) C d_Mo_lasts_10 rfl ?_
    exact (L_Mo_lasts_14 C hret hlk  a0 a1 a2 (1 : Int32) a0 q1.2 hX)
def rm_Mo_draws : Room := { frames := 1, cells := 0, slots := 0, locals := 22 }
def s_Mo_draws_30  (v0 : Nat) (v1 : Int32) (v2 : Int32) (s0 : Int32) (s1 : Int32) (s2 : Nat) (w : am_w) : Option (Int32 × am_w) := ((am_ob 7 s2 w (f_Mo_refused s2 s1 s0 w)).bind fun q2 => (if q2.1 = 0 then ((am_rg 7 20 v0 q2.2).bind fun b3 => ((am_is b3 v1 v2 q2.2).bind fun w4 => (some (0, w4)))) else (some (0, q2.2))))
set_option maxHeartbeats 4000000 in
theorem L_Mo_draws_30 {p : Program} {l : Launch} {e : Env} {s : State} {m : MethodId} {args : Array Value} {below : List Frame} {meth : Method} {c : Code} {D : va_G} {A : Nat → Prop} {r : Int32 × am_w} (C : am_C p m c b_Mo_draws 3 s args am_W "RoverMinutesModel" D classes A) (hret : meth.sig.returnType = none) (hlk : meth.locks = false)   : ∀ (v0 : Nat) (v1 : Int32) (v2 : Int32) (s0 : Int32) (s1 : Int32) (s2 : Nat) (w : am_w), s_Mo_draws_30  v0 v1 v2 s0 s1 s2 w = some r → am_V p l e rm_Mo_draws s m args below meth c D classes tys A (am_F A true) 3 0 0 (MQ below (am_Q D classes tys A (am_F A true) (am_rv r)) args s 0 0 (am_F A true)) 30 [some (.ref v0), some (.int v1), some (.int v2)] [.int s0, .int s1, .ref s2] w := by
  intro v0 v1 v2 s0 s1 s2 w hX
  unfold s_Mo_draws_30 at hX
  refine am_callVi (pc := 30) (As := [.int s1, .int s0]) (st := []) (cells1 := 0) (slots1 := 0) C (fun _ h => h.2) (fun _ h => h) (fun q h => c_Mo_refused h) wd_4_206 wd_4_208 ws_Mo_refused wd_1_9 wd_4_209 rfl rfl hd_Mo_refused ⟨by decide, by decide⟩ rfl rfl (Nat.le_of_ble_eq_true rfl) d_Mo_draws_30 ⟨by decide, by decide⟩ rfl rfl rfl hX (fun q2 hX => ?_)
  refine am_if_ne (pc := 33) (tgt := 43) C d_Mo_draws_33 rfl hX (fun hX => ?_) (fun hX => ?_)
  · skip
    exact am_vret (pc := 43) C hret hlk d_Mo_draws_43 (by decide) (by decide) hX
  · skip
    refine am_aload_n (pc := 36) C d_Mo_draws_36 rfl rfl ?_
    refine am_getr (pc := 37) C hin_Mo rfl (by decide) wd_4_120 rfl d_Mo_draws_37 rfl hX (fun b3 hX => ?_)
    refine am_iload_n (pc := 40) C d_Mo_draws_40 rfl rfl ?_
    refine am_iload_n (pc := 41) C d_Mo_draws_41 rfl rfl ?_
    refine am_iast (pc := 42) C (fun _ h => ⟨rfl, h⟩) d_Mo_draws_42 hX (fun w4 hX => ?_)
    exact am_vret (pc := 43) C hret hlk d_Mo_draws_43 (by decide) (by decide) hX
def s_Mo_draws_25  (v0 : Nat) (v1 : Int32) (v2 : Int32) (s0 : Int32) (s1 : Nat) (w : am_w) : Option (Int32 × am_w) := (s_Mo_draws_30  v0 v1 v2 (1 : Int32) s0 s1 w)
set_option maxHeartbeats 4000000 in
theorem L_Mo_draws_25 {p : Program} {l : Launch} {e : Env} {s : State} {m : MethodId} {args : Array Value} {below : List Frame} {meth : Method} {c : Code} {D : va_G} {A : Nat → Prop} {r : Int32 × am_w} (C : am_C p m c b_Mo_draws 3 s args am_W "RoverMinutesModel" D classes A) (hret : meth.sig.returnType = none) (hlk : meth.locks = false)   : ∀ (v0 : Nat) (v1 : Int32) (v2 : Int32) (s0 : Int32) (s1 : Nat) (w : am_w), s_Mo_draws_25  v0 v1 v2 s0 s1 w = some r → am_V p l e rm_Mo_draws s m args below meth c D classes tys A (am_F A true) 3 0 0 (MQ below (am_Q D classes tys A (am_F A true) (am_rv r)) args s 0 0 (am_F A true)) 25 [some (.ref v0), some (.int v1), some (.int v2)] [.int s0, .ref s1] w := by
  intro v0 v1 v2 s0 s1 w hX
  unfold s_Mo_draws_25 at hX
  refine am_iconst (pc := 25) (v := (1 : Int32)) C d_Mo_draws_25 (by decide) ?_
  refine am_goto (pc := 26) (tgt := 30) C d_Mo_draws_26 rfl ?_
  exact (L_Mo_draws_30 C hret hlk  v0 v1 v2 (1 : Int32) s0 s1 w hX)
def s_Mo_draws_14  (v0 : Nat) (v1 : Int32) (v2 : Int32) (s0 : Int32) (s1 : Nat) (w : am_w) : Option (Int32 × am_w) := (if v2 < 0 then (s_Mo_draws_25  v0 v1 v2 s0 s1 w) else (if v2 ≤ (200 : Int32) then (s_Mo_draws_30  v0 v1 v2 (0 : Int32) s0 s1 w) else (s_Mo_draws_25  v0 v1 v2 s0 s1 w)))
set_option maxHeartbeats 4000000 in
theorem L_Mo_draws_14 {p : Program} {l : Launch} {e : Env} {s : State} {m : MethodId} {args : Array Value} {below : List Frame} {meth : Method} {c : Code} {D : va_G} {A : Nat → Prop} {r : Int32 × am_w} (C : am_C p m c b_Mo_draws 3 s args am_W "RoverMinutesModel" D classes A) (hret : meth.sig.returnType = none) (hlk : meth.locks = false)   : ∀ (v0 : Nat) (v1 : Int32) (v2 : Int32) (s0 : Int32) (s1 : Nat) (w : am_w), s_Mo_draws_14  v0 v1 v2 s0 s1 w = some r → am_V p l e rm_Mo_draws s m args below meth c D classes tys A (am_F A true) 3 0 0 (MQ below (am_Q D classes tys A (am_F A true) (am_rv r)) args s 0 0 (am_F A true)) 14 [some (.ref v0), some (.int v1), some (.int v2)] [.int s0, .ref s1] w := by
  intro v0 v1 v2 s0 s1 w hX
  unfold s_Mo_draws_14 at hX
  refine am_iload_n (pc := 14) C d_Mo_draws_14 rfl rfl ?_
  refine am_if_lt (pc := 15) (tgt := 25) C d_Mo_draws_15 rfl hX (fun hX => ?_) (fun hX => ?_)
  · skip
    exact (L_Mo_draws_25 C hret hlk  v0 v1 v2 s0 s1 w hX)
  · skip
    refine am_iload_n (pc := 18) C d_Mo_draws_18 rfl rfl ?_
    refine am_sipush (pc := 19) (v := (200 : Int32)) C d_Mo_draws_19 (by decide) ?_
    refine am_icmp_le (pc := 22) (tgt := 29) C d_Mo_draws_22 rfl hX (fun hX => ?_) (fun hX => ?_)
    · skip
      refine am_iconst (pc := 29) (v := (0 : Int32)) C d_Mo_draws_29 (by decide) ?_
      exact (L_Mo_draws_30 C hret hlk  v0 v1 v2 (0 : Int32) s0 s1 w hX)
    · skip
      exact (L_Mo_draws_25 C hret hlk  v0 v1 v2 s0 s1 w hX)
def f_Mo_draws (a0 : Nat) (a1 : Int32) (a2 : Int32) (w : am_w) : Option (Int32 × am_w) := ((am_ob 7 a0 w (f_Mo_isActivity a0 a1 w)).bind fun q1 => (if q1.1 = 0 then (s_Mo_draws_14  a0 a1 a2 (1 : Int32) a0 q1.2) else (s_Mo_draws_14  a0 a1 a2 (0 : Int32) a0 q1.2)))
theorem hd_Mo_draws : y_Mo_draws.cls = "RoverMinutesModel" ∧ y_Mo_draws.cls ≠ "java/lang/invoke/MethodHandle" ∧ y_Mo_draws.cls ≠ "java/lang/invoke/VarHandle" ∧ (parseMethodDescriptor y_Mo_draws.desc).map (fun d => d.parameters.length) = some 2 := ⟨rfl, by decide, by decide, by decide +kernel⟩
set_option maxHeartbeats 4000000 in
theorem c_Mo_draws {l : Launch} {D : va_G} {A : Nat → Prop} {a0 : Nat} {a1 : Int32} {a2 : Int32} {w : am_w} {r : Int32 × am_w} (hX : f_Mo_draws a0 a1 a2 w = some r) : am_Met l D classes tys A (am_F A true) y_Mo_draws (Cond.code y_Mo_draws b_Mo_draws 3 none :: am_W) rm_Mo_draws [.ref a0, .int a1, .int a2] w (am_rv r) 0 0 := by
  refine am_ofV (by decide) am_W_good (Nat.le_of_ble_eq_true rfl) (by simp [Value.category]) ?_
  intro p e s m below meth c C hret hlk hnm
  unfold f_Mo_draws at hX
  refine am_aload_n (pc := 0) C d_Mo_draws_0 rfl rfl ?_
  refine am_aload_n (pc := 1) C d_Mo_draws_1 rfl rfl ?_
  refine am_iload_n (pc := 2) C d_Mo_draws_2 rfl rfl ?_
  refine am_callVi (pc := 3) (As := [.int a1]) (st := [.ref a0]) (cells1 := 0) (slots1 := 0) C (fun _ h => h.2) (fun _ h => by cases h.1) (fun q h => c_Mo_isActivity h) wd_5_97 wd_5_99 ws_Mo_isActivity wd_1_9 wd_5_100 rfl rfl hd_Mo_isActivity ⟨by decide, by decide⟩ rfl rfl (Nat.le_of_ble_eq_true rfl) d_Mo_draws_3 ⟨by decide, by decide⟩ rfl rfl rfl hX (fun q1 hX => ?_)
  refine am_if_ne (pc := 6) (tgt := 13) C d_Mo_draws_6 rfl hX (fun hX => ?_) (fun hX => ?_)
  · skip
    refine am_iconst (pc := 13) (v := (0 : Int32)) C d_Mo_draws_13 (by decide) ?_
    exact (L_Mo_draws_14 C hret hlk  a0 a1 a2 (0 : Int32) a0 q1.2 hX)
  · skip
    refine am_iconst (pc := 9) (v := (1 : Int32)) C d_Mo_draws_9 (by decide) ?_
    refine am_goto (pc := 10) (tgt := 14) C d_Mo_draws_10 rfl ?_
    exact (L_Mo_draws_14 C hret hlk  a0 a1 a2 (1 : Int32) a0 q1.2 hX)
def rm_Mo_curve : Room := { frames := 1, cells := 0, slots := 0, locals := 22 }
def s_Mo_curve_31  (v0 : Nat) (v1 : Int32) (v2 : Int32) (s0 : Int32) (s1 : Int32) (s2 : Nat) (w : am_w) : Option (Int32 × am_w) := ((am_ob 7 s2 w (f_Mo_refused s2 s1 s0 w)).bind fun q1 => (if q1.1 = 0 then ((am_rg 7 25 v0 q1.2).bind fun b2 => ((am_is b2 v1 v2 q1.2).bind fun w3 => (some (0, w3)))) else (some (0, q1.2))))
set_option maxHeartbeats 4000000 in
theorem L_Mo_curve_31 {p : Program} {l : Launch} {e : Env} {s : State} {m : MethodId} {args : Array Value} {below : List Frame} {meth : Method} {c : Code} {D : va_G} {A : Nat → Prop} {r : Int32 × am_w} (C : am_C p m c b_Mo_curve 3 s args am_W "RoverMinutesModel" D classes A) (hret : meth.sig.returnType = none) (hlk : meth.locks = false)   : ∀ (v0 : Nat) (v1 : Int32) (v2 : Int32) (s0 : Int32) (s1 : Int32) (s2 : Nat) (w : am_w), s_Mo_curve_31  v0 v1 v2 s0 s1 s2 w = some r → am_V p l e rm_Mo_curve s m args below meth c D classes tys A (am_F A true) 3 0 0 (MQ below (am_Q D classes tys A (am_F A true) (am_rv r)) args s 0 0 (am_F A true)) 31 [some (.ref v0), some (.int v1), some (.int v2)] [.int s0, .int s1, .ref s2] w := by
  intro v0 v1 v2 s0 s1 s2 w hX
  unfold s_Mo_curve_31 at hX
  refine am_callVi (pc := 31) (As := [.int s1, .int s0]) (st := []) (cells1 := 0) (slots1 := 0) C (fun _ h => h.2) (fun _ h => h) (fun q h => c_Mo_refused h) wd_4_206 wd_4_208 ws_Mo_refused wd_1_9 wd_4_209 rfl rfl hd_Mo_refused ⟨by decide, by decide⟩ rfl rfl (Nat.le_of_ble_eq_true rfl) d_Mo_curve_31 ⟨by decide, by decide⟩ rfl rfl rfl hX (fun q1 hX => ?_)
  refine am_if_ne (pc := 34) (tgt := 44) C d_Mo_curve_34 rfl hX (fun hX => ?_) (fun hX => ?_)
  · skip
    exact am_vret (pc := 44) C hret hlk d_Mo_curve_44 (by decide) (by decide) hX
  · skip
    refine am_aload_n (pc := 37) C d_Mo_curve_37 rfl rfl ?_
    refine am_getr (pc := 38) C hin_Mo rfl (by decide) wd_4_125 rfl d_Mo_curve_38 rfl hX (fun b2 hX => ?_)
    refine am_iload_n (pc := 41) C d_Mo_curve_41 rfl rfl ?_
    refine am_iload_n (pc := 42) C d_Mo_curve_42 rfl rfl ?_
    refine am_iast (pc := 43) C (fun _ h => ⟨rfl, h⟩) d_Mo_curve_43 hX (fun w3 hX => ?_)
    exact am_vret (pc := 44) C hret hlk d_Mo_curve_44 (by decide) (by decide) hX
def s_Mo_curve_26  (v0 : Nat) (v1 : Int32) (v2 : Int32) (s0 : Int32) (s1 : Nat) (w : am_w) : Option (Int32 × am_w) := (s_Mo_curve_31  v0 v1 v2 (1 : Int32) s0 s1 w)
set_option maxHeartbeats 4000000 in
theorem L_Mo_curve_26 {p : Program} {l : Launch} {e : Env} {s : State} {m : MethodId} {args : Array Value} {below : List Frame} {meth : Method} {c : Code} {D : va_G} {A : Nat → Prop} {r : Int32 × am_w} (C : am_C p m c b_Mo_curve 3 s args am_W "RoverMinutesModel" D classes A) (hret : meth.sig.returnType = none) (hlk : meth.locks = false)   : ∀ (v0 : Nat) (v1 : Int32) (v2 : Int32) (s0 : Int32) (s1 : Nat) (w : am_w), s_Mo_curve_26  v0 v1 v2 s0 s1 w = some r → am_V p l e rm_Mo_curve s m args below meth c D classes tys A (am_F A true) 3 0 0 (MQ below (am_Q D classes tys A (am_F A true) (am_rv r)) args s 0 0 (am_F A true)) 26 [some (.ref v0), some (.int v1), some (.int v2)] [.int s0, .ref s1] w := by
  intro v0 v1 v2 s0 s1 w hX
  unfold s_Mo_curve_26 at hX
  refine am_iconst (pc := 26) (v := (1 : Int32)) C d_Mo_curve_26 (by decide) ?_
  refine am_goto (pc := 27) (tgt := 31) C d_Mo_curve_27 rfl ?_
  exact (L_Mo_curve_31 C hret hlk  v0 v1 v2 (1 : Int32) s0 s1 w hX)
def s_Mo_curve_16  (v0 : Nat) (v1 : Int32) (v2 : Int32) (s0 : Int32) (s1 : Nat) (w : am_w) : Option (Int32 × am_w) := (if v2 < 0 then (s_Mo_curve_26  v0 v1 v2 s0 s1 w) else (if v2 ≤ (50 : Int32) then (s_Mo_curve_31  v0 v1 v2 (0 : Int32) s0 s1 w) else (s_Mo_curve_26  v0 v1 v2 s0 s1 w)))
set_option maxHeartbeats 4000000 in
theorem L_Mo_curve_16 {p : Program} {l : Launch} {e : Env} {s : State} {m : MethodId} {args : Array Value} {below : List Frame} {meth : Method} {c : Code} {D : va_G} {A : Nat → Prop} {r : Int32 × am_w} (C : am_C p m c b_Mo_curve 3 s args am_W "RoverMinutesModel" D classes A) (hret : meth.sig.returnType = none) (hlk : meth.locks = false)   : ∀ (v0 : Nat) (v1 : Int32) (v2 : Int32) (s0 : Int32) (s1 : Nat) (w : am_w), s_Mo_curve_16  v0 v1 v2 s0 s1 w = some r → am_V p l e rm_Mo_curve s m args below meth c D classes tys A (am_F A true) 3 0 0 (MQ below (am_Q D classes tys A (am_F A true) (am_rv r)) args s 0 0 (am_F A true)) 16 [some (.ref v0), some (.int v1), some (.int v2)] [.int s0, .ref s1] w := by
  intro v0 v1 v2 s0 s1 w hX
  unfold s_Mo_curve_16 at hX
  refine am_iload_n (pc := 16) C d_Mo_curve_16 rfl rfl ?_
  refine am_if_lt (pc := 17) (tgt := 26) C d_Mo_curve_17 rfl hX (fun hX => ?_) (fun hX => ?_)
  · skip
    exact (L_Mo_curve_26 C hret hlk  v0 v1 v2 s0 s1 w hX)
  · skip
    refine am_iload_n (pc := 20) C d_Mo_curve_20 rfl rfl ?_
    refine am_bipush (pc := 21) (v := (50 : Int32)) C d_Mo_curve_21 (by decide) ?_
    refine am_icmp_le (pc := 23) (tgt := 30) C d_Mo_curve_23 rfl hX (fun hX => ?_) (fun hX => ?_)
    · skip
      refine am_iconst (pc := 30) (v := (0 : Int32)) C d_Mo_curve_30 (by decide) ?_
      exact (L_Mo_curve_31 C hret hlk  v0 v1 v2 (0 : Int32) s0 s1 w hX)
    · skip
      exact (L_Mo_curve_26 C hret hlk  v0 v1 v2 s0 s1 w hX)
def s_Mo_curve_11  (v0 : Nat) (v1 : Int32) (v2 : Int32) (s0 : Nat) (w : am_w) : Option (Int32 × am_w) := (s_Mo_curve_16  v0 v1 v2 (1 : Int32) s0 w)
set_option maxHeartbeats 4000000 in
theorem L_Mo_curve_11 {p : Program} {l : Launch} {e : Env} {s : State} {m : MethodId} {args : Array Value} {below : List Frame} {meth : Method} {c : Code} {D : va_G} {A : Nat → Prop} {r : Int32 × am_w} (C : am_C p m c b_Mo_curve 3 s args am_W "RoverMinutesModel" D classes A) (hret : meth.sig.returnType = none) (hlk : meth.locks = false)   : ∀ (v0 : Nat) (v1 : Int32) (v2 : Int32) (s0 : Nat) (w : am_w), s_Mo_curve_11  v0 v1 v2 s0 w = some r → am_V p l e rm_Mo_curve s m args below meth c D classes tys A (am_F A true) 3 0 0 (MQ below (am_Q D classes tys A (am_F A true) (am_rv r)) args s 0 0 (am_F A true)) 11 [some (.ref v0), some (.int v1), some (.int v2)] [.ref s0] w := by
  intro v0 v1 v2 s0 w hX
  unfold s_Mo_curve_11 at hX
  refine am_iconst (pc := 11) (v := (1 : Int32)) C d_Mo_curve_11 (by decide) ?_
  refine am_goto (pc := 12) (tgt := 16) C d_Mo_curve_12 rfl ?_
  exact (L_Mo_curve_16 C hret hlk  v0 v1 v2 (1 : Int32) s0 w hX)
def f_Mo_curve (a0 : Nat) (a1 : Int32) (a2 : Int32) (w : am_w) : Option (Int32 × am_w) := (if a1 < 0 then (s_Mo_curve_11  a0 a1 a2 a0 w) else (if a1 ≤ (23 : Int32) then (s_Mo_curve_16  a0 a1 a2 (0 : Int32) a0 w) else (s_Mo_curve_11  a0 a1 a2 a0 w)))
theorem hd_Mo_curve : y_Mo_curve.cls = "RoverMinutesModel" ∧ y_Mo_curve.cls ≠ "java/lang/invoke/MethodHandle" ∧ y_Mo_curve.cls ≠ "java/lang/invoke/VarHandle" ∧ (parseMethodDescriptor y_Mo_curve.desc).map (fun d => d.parameters.length) = some 2 := ⟨rfl, by decide, by decide, by decide +kernel⟩
set_option maxHeartbeats 4000000 in
theorem c_Mo_curve {l : Launch} {D : va_G} {A : Nat → Prop} {a0 : Nat} {a1 : Int32} {a2 : Int32} {w : am_w} {r : Int32 × am_w} (hX : f_Mo_curve a0 a1 a2 w = some r) : am_Met l D classes tys A (am_F A true) y_Mo_curve (Cond.code y_Mo_curve b_Mo_curve 3 none :: am_W) rm_Mo_curve [.ref a0, .int a1, .int a2] w (am_rv r) 0 0 := by
  refine am_ofV (by decide) am_W_good (Nat.le_of_ble_eq_true rfl) (by simp [Value.category]) ?_
  intro p e s m below meth c C hret hlk hnm
  unfold f_Mo_curve at hX
  refine am_aload_n (pc := 0) C d_Mo_curve_0 rfl rfl ?_
  refine am_iload_n (pc := 1) C d_Mo_curve_1 rfl rfl ?_
  refine am_if_lt (pc := 2) (tgt := 11) C d_Mo_curve_2 rfl hX (fun hX => ?_) (fun hX => ?_)
  · skip
    exact (L_Mo_curve_11 C hret hlk  a0 a1 a2 a0 w hX)
  · skip
    refine am_iload_n (pc := 5) C d_Mo_curve_5 rfl rfl ?_
    refine am_bipush (pc := 6) (v := (23 : Int32)) C d_Mo_curve_6 (by decide) ?_
    refine am_icmp_le (pc := 8) (tgt := 15) C d_Mo_curve_8 rfl hX (fun hX => ?_) (fun hX => ?_)
    · skip
      refine am_iconst (pc := 15) (v := (0 : Int32)) C d_Mo_curve_15 (by decide) ?_
      exact (L_Mo_curve_16 C hret hlk  a0 a1 a2 (0 : Int32) a0 w hX)
    · skip
      exact (L_Mo_curve_11 C hret hlk  a0 a1 a2 a0 w hX)
def rm_Mo_gain : Room := { frames := 1, cells := 0, slots := 0, locals := 22 }
def s_Mo_gain_17  (v0 : Nat) (v1 : Int32) (s0 : Int32) (s1 : Nat) (w : am_w) : Option (Int32 × am_w) := ((am_ob 7 s1 w (f_Mo_refused s1 s0 (0 : Int32) w)).bind fun q1 => (if q1.1 = 0 then ((am_fp 7 26 v0 v1 q1.2).bind fun w2 => (some (0, w2))) else (some (0, q1.2))))
set_option maxHeartbeats 4000000 in
theorem L_Mo_gain_17 {p : Program} {l : Launch} {e : Env} {s : State} {m : MethodId} {args : Array Value} {below : List Frame} {meth : Method} {c : Code} {D : va_G} {A : Nat → Prop} {r : Int32 × am_w} (C : am_C p m c b_Mo_gain 2 s args am_W "RoverMinutesModel" D classes A) (hret : meth.sig.returnType = none) (hlk : meth.locks = false)   : ∀ (v0 : Nat) (v1 : Int32) (s0 : Int32) (s1 : Nat) (w : am_w), s_Mo_gain_17  v0 v1 s0 s1 w = some r → am_V p l e rm_Mo_gain s m args below meth c D classes tys A (am_F A true) 2 0 0 (MQ below (am_Q D classes tys A (am_F A true) (am_rv r)) args s 0 0 (am_F A true)) 17 [some (.ref v0), some (.int v1)] [.int s0, .ref s1] w := by
  intro v0 v1 s0 s1 w hX
  unfold s_Mo_gain_17 at hX
  refine am_iconst (pc := 17) (v := (0 : Int32)) C d_Mo_gain_17 (by decide) ?_
  refine am_callVi (pc := 18) (As := [.int s0, .int (0 : Int32)]) (st := []) (cells1 := 0) (slots1 := 0) C (fun _ h => h.2) (fun _ h => h) (fun q h => c_Mo_refused h) wd_4_206 wd_4_208 ws_Mo_refused wd_1_9 wd_4_209 rfl rfl hd_Mo_refused ⟨by decide, by decide⟩ rfl rfl (Nat.le_of_ble_eq_true rfl) d_Mo_gain_18 ⟨by decide, by decide⟩ rfl rfl rfl hX (fun q1 hX => ?_)
  refine am_if_ne (pc := 21) (tgt := 29) C d_Mo_gain_21 rfl hX (fun hX => ?_) (fun hX => ?_)
  · skip
    exact am_vret (pc := 29) C hret hlk d_Mo_gain_29 (by decide) (by decide) hX
  · skip
    refine am_aload_n (pc := 24) C d_Mo_gain_24 rfl rfl ?_
    refine am_iload_n (pc := 25) C d_Mo_gain_25 rfl rfl ?_
    refine am_put (pc := 26) C (fun _ h => ⟨rfl, h⟩) hin_Mo t_Mo t_Mo_ok n_Mo rfl (by decide) wd_4_126 rfl rfl (t_Mo_ok 26 (by decide)) rfl rfl rfl d_Mo_gain_26 hX (fun w2 hX => ?_)
    exact am_vret (pc := 29) C hret hlk d_Mo_gain_29 (by decide) (by decide) hX
def s_Mo_gain_12  (v0 : Nat) (v1 : Int32) (s0 : Nat) (w : am_w) : Option (Int32 × am_w) := (s_Mo_gain_17  v0 v1 (1 : Int32) s0 w)
set_option maxHeartbeats 4000000 in
theorem L_Mo_gain_12 {p : Program} {l : Launch} {e : Env} {s : State} {m : MethodId} {args : Array Value} {below : List Frame} {meth : Method} {c : Code} {D : va_G} {A : Nat → Prop} {r : Int32 × am_w} (C : am_C p m c b_Mo_gain 2 s args am_W "RoverMinutesModel" D classes A) (hret : meth.sig.returnType = none) (hlk : meth.locks = false)   : ∀ (v0 : Nat) (v1 : Int32) (s0 : Nat) (w : am_w), s_Mo_gain_12  v0 v1 s0 w = some r → am_V p l e rm_Mo_gain s m args below meth c D classes tys A (am_F A true) 2 0 0 (MQ below (am_Q D classes tys A (am_F A true) (am_rv r)) args s 0 0 (am_F A true)) 12 [some (.ref v0), some (.int v1)] [.ref s0] w := by
  intro v0 v1 s0 w hX
  unfold s_Mo_gain_12 at hX
  refine am_iconst (pc := 12) (v := (1 : Int32)) C d_Mo_gain_12 (by decide) ?_
  refine am_goto (pc := 13) (tgt := 17) C d_Mo_gain_13 rfl ?_
  exact (L_Mo_gain_17 C hret hlk  v0 v1 (1 : Int32) s0 w hX)
def f_Mo_gain (a0 : Nat) (a1 : Int32) (w : am_w) : Option (Int32 × am_w) := (if a1 < (-1 : Int32) then (s_Mo_gain_12  a0 a1 a0 w) else (if a1 ≤ (100 : Int32) then (s_Mo_gain_17  a0 a1 (0 : Int32) a0 w) else (s_Mo_gain_12  a0 a1 a0 w)))
theorem hd_Mo_gain : y_Mo_gain.cls = "RoverMinutesModel" ∧ y_Mo_gain.cls ≠ "java/lang/invoke/MethodHandle" ∧ y_Mo_gain.cls ≠ "java/lang/invoke/VarHandle" ∧ (parseMethodDescriptor y_Mo_gain.desc).map (fun d => d.parameters.length) = some 1 := ⟨rfl, by decide, by decide, by decide +kernel⟩
set_option maxHeartbeats 4000000 in
theorem c_Mo_gain {l : Launch} {D : va_G} {A : Nat → Prop} {a0 : Nat} {a1 : Int32} {w : am_w} {r : Int32 × am_w} (hX : f_Mo_gain a0 a1 w = some r) : am_Met l D classes tys A (am_F A true) y_Mo_gain (Cond.code y_Mo_gain b_Mo_gain 2 none :: am_W) rm_Mo_gain [.ref a0, .int a1] w (am_rv r) 0 0 := by
  refine am_ofV (by decide) am_W_good (Nat.le_of_ble_eq_true rfl) (by simp [Value.category]) ?_
  intro p e s m below meth c C hret hlk hnm
  unfold f_Mo_gain at hX
  refine am_aload_n (pc := 0) C d_Mo_gain_0 rfl rfl ?_
  refine am_iload_n (pc := 1) C d_Mo_gain_1 rfl rfl ?_
  refine am_iconst (pc := 2) (v := (-1 : Int32)) C d_Mo_gain_2 (by decide) ?_
  refine am_icmp_lt (pc := 3) (tgt := 12) C d_Mo_gain_3 rfl hX (fun hX => ?_) (fun hX => ?_)
  · skip
    exact (L_Mo_gain_12 C hret hlk  a0 a1 a0 w hX)
  · skip
    refine am_iload_n (pc := 6) C d_Mo_gain_6 rfl rfl ?_
    refine am_bipush (pc := 7) (v := (100 : Int32)) C d_Mo_gain_7 (by decide) ?_
    refine am_icmp_le (pc := 9) (tgt := 16) C d_Mo_gain_9 rfl hX (fun hX => ?_) (fun hX => ?_)
    · skip
      refine am_iconst (pc := 16) (v := (0 : Int32)) C d_Mo_gain_16 (by decide) ?_
      exact (L_Mo_gain_17 C hret hlk  a0 a1 (0 : Int32) a0 w hX)
    · skip
      exact (L_Mo_gain_12 C hret hlk  a0 a1 a0 w hX)
def rm_Mo_home : Room := { frames := 1, cells := 0, slots := 0, locals := 22 }
def s_Mo_home_39  (v0 : Nat) (v1 : Int32) (v2 : Int32) (s0 : Int32) (s1 : Int32) (s2 : Nat) (w : am_w) : Option (Int32 × am_w) := ((am_ob 7 s2 w (f_Mo_refused s2 s1 s0 w)).bind fun q2 => (if q2.1 = 0 then ((am_fp 7 27 v0 v1 q2.2).bind fun w3 => ((am_fp 7 28 v0 v2 w3).bind fun w4 => (some (0, w4)))) else (some (0, q2.2))))
set_option maxHeartbeats 4000000 in
theorem L_Mo_home_39 {p : Program} {l : Launch} {e : Env} {s : State} {m : MethodId} {args : Array Value} {below : List Frame} {meth : Method} {c : Code} {D : va_G} {A : Nat → Prop} {r : Int32 × am_w} (C : am_C p m c b_Mo_home 3 s args am_W "RoverMinutesModel" D classes A) (hret : meth.sig.returnType = none) (hlk : meth.locks = false)   : ∀ (v0 : Nat) (v1 : Int32) (v2 : Int32) (s0 : Int32) (s1 : Int32) (s2 : Nat) (w : am_w), s_Mo_home_39  v0 v1 v2 s0 s1 s2 w = some r → am_V p l e rm_Mo_home s m args below meth c D classes tys A (am_F A true) 3 0 0 (MQ below (am_Q D classes tys A (am_F A true) (am_rv r)) args s 0 0 (am_F A true)) 39 [some (.ref v0), some (.int v1), some (.int v2)] [.int s0, .int s1, .ref s2] w := by
  intro v0 v1 v2 s0 s1 s2 w hX
  unfold s_Mo_home_39 at hX
  refine am_callVi (pc := 39) (As := [.int s1, .int s0]) (st := []) (cells1 := 0) (slots1 := 0) C (fun _ h => h.2) (fun _ h => h) (fun q h => c_Mo_refused h) wd_4_206 wd_4_208 ws_Mo_refused wd_1_9 wd_4_209 rfl rfl hd_Mo_refused ⟨by decide, by decide⟩ rfl rfl (Nat.le_of_ble_eq_true rfl) d_Mo_home_39 ⟨by decide, by decide⟩ rfl rfl rfl hX (fun q2 hX => ?_)
  refine am_if_ne (pc := 42) (tgt := 55) C d_Mo_home_42 rfl hX (fun hX => ?_) (fun hX => ?_)
  · skip
    exact am_vret (pc := 55) C hret hlk d_Mo_home_55 (by decide) (by decide) hX
  · skip
    refine am_aload_n (pc := 45) C d_Mo_home_45 rfl rfl ?_
    refine am_iload_n (pc := 46) C d_Mo_home_46 rfl rfl ?_
    refine am_put (pc := 47) C (fun _ h => ⟨rfl, h⟩) hin_Mo t_Mo t_Mo_ok n_Mo rfl (by decide) wd_4_127 rfl rfl (t_Mo_ok 27 (by decide)) rfl rfl rfl d_Mo_home_47 hX (fun w3 hX => ?_)
    refine am_aload_n (pc := 50) C d_Mo_home_50 rfl rfl ?_
    refine am_iload_n (pc := 51) C d_Mo_home_51 rfl rfl ?_
    refine am_put (pc := 52) C (fun _ h => ⟨rfl, h⟩) hin_Mo t_Mo t_Mo_ok n_Mo rfl (by decide) wd_4_128 rfl rfl (t_Mo_ok 28 (by decide)) rfl rfl rfl d_Mo_home_52 hX (fun w4 hX => ?_)
    exact am_vret (pc := 55) C hret hlk d_Mo_home_55 (by decide) (by decide) hX
def s_Mo_home_27  (v0 : Nat) (v1 : Int32) (v2 : Int32) (s0 : Int32) (s1 : Nat) (w : am_w) : Option (Int32 × am_w) := ((am_fg 7 22 v0 w).bind fun x1 => (if x1 = 0 then (s_Mo_home_39  v0 v1 v2 (0 : Int32) s0 s1 w) else (s_Mo_home_39  v0 v1 v2 (1 : Int32) s0 s1 w)))
set_option maxHeartbeats 4000000 in
theorem L_Mo_home_27 {p : Program} {l : Launch} {e : Env} {s : State} {m : MethodId} {args : Array Value} {below : List Frame} {meth : Method} {c : Code} {D : va_G} {A : Nat → Prop} {r : Int32 × am_w} (C : am_C p m c b_Mo_home 3 s args am_W "RoverMinutesModel" D classes A) (hret : meth.sig.returnType = none) (hlk : meth.locks = false)   : ∀ (v0 : Nat) (v1 : Int32) (v2 : Int32) (s0 : Int32) (s1 : Nat) (w : am_w), s_Mo_home_27  v0 v1 v2 s0 s1 w = some r → am_V p l e rm_Mo_home s m args below meth c D classes tys A (am_F A true) 3 0 0 (MQ below (am_Q D classes tys A (am_F A true) (am_rv r)) args s 0 0 (am_F A true)) 27 [some (.ref v0), some (.int v1), some (.int v2)] [.int s0, .ref s1] w := by
  intro v0 v1 v2 s0 s1 w hX
  unfold s_Mo_home_27 at hX
  refine am_aload_n (pc := 27) C d_Mo_home_27 rfl rfl ?_
  refine am_get (pc := 28) C hin_Mo rfl (by decide) wd_4_122 rfl d_Mo_home_28 rfl hX (fun x1 hX => ?_)
  refine am_if_eq (pc := 31) (tgt := 38) C d_Mo_home_31 rfl hX (fun hX => ?_) (fun hX => ?_)
  · skip
    refine am_iconst (pc := 38) (v := (0 : Int32)) C d_Mo_home_38 (by decide) ?_
    exact (L_Mo_home_39 C hret hlk  v0 v1 v2 (0 : Int32) s0 s1 w hX)
  · skip
    refine am_iconst (pc := 34) (v := (1 : Int32)) C d_Mo_home_34 (by decide) ?_
    refine am_goto (pc := 35) (tgt := 39) C d_Mo_home_35 rfl ?_
    exact (L_Mo_home_39 C hret hlk  v0 v1 v2 (1 : Int32) s0 s1 w hX)
def s_Mo_home_22  (v0 : Nat) (v1 : Int32) (v2 : Int32) (s0 : Nat) (w : am_w) : Option (Int32 × am_w) := (s_Mo_home_27  v0 v1 v2 (1 : Int32) s0 w)
set_option maxHeartbeats 4000000 in
theorem L_Mo_home_22 {p : Program} {l : Launch} {e : Env} {s : State} {m : MethodId} {args : Array Value} {below : List Frame} {meth : Method} {c : Code} {D : va_G} {A : Nat → Prop} {r : Int32 × am_w} (C : am_C p m c b_Mo_home 3 s args am_W "RoverMinutesModel" D classes A) (hret : meth.sig.returnType = none) (hlk : meth.locks = false)   : ∀ (v0 : Nat) (v1 : Int32) (v2 : Int32) (s0 : Nat) (w : am_w), s_Mo_home_22  v0 v1 v2 s0 w = some r → am_V p l e rm_Mo_home s m args below meth c D classes tys A (am_F A true) 3 0 0 (MQ below (am_Q D classes tys A (am_F A true) (am_rv r)) args s 0 0 (am_F A true)) 22 [some (.ref v0), some (.int v1), some (.int v2)] [.ref s0] w := by
  intro v0 v1 v2 s0 w hX
  unfold s_Mo_home_22 at hX
  refine am_iconst (pc := 22) (v := (1 : Int32)) C d_Mo_home_22 (by decide) ?_
  refine am_goto (pc := 23) (tgt := 27) C d_Mo_home_23 rfl ?_
  exact (L_Mo_home_27 C hret hlk  v0 v1 v2 (1 : Int32) s0 w hX)
def f_Mo_home (a0 : Nat) (a1 : Int32) (a2 : Int32) (w : am_w) : Option (Int32 × am_w) := (if a1 < (1 : Int32) then (s_Mo_home_22  a0 a1 a2 a0 w) else (if (20 : Int32) < a1 then (s_Mo_home_22  a0 a1 a2 a0 w) else (if a2 < 0 then (s_Mo_home_22  a0 a1 a2 a0 w) else (if a2 ≤ (99 : Int32) then (s_Mo_home_27  a0 a1 a2 (0 : Int32) a0 w) else (s_Mo_home_22  a0 a1 a2 a0 w)))))
theorem hd_Mo_home : y_Mo_home.cls = "RoverMinutesModel" ∧ y_Mo_home.cls ≠ "java/lang/invoke/MethodHandle" ∧ y_Mo_home.cls ≠ "java/lang/invoke/VarHandle" ∧ (parseMethodDescriptor y_Mo_home.desc).map (fun d => d.parameters.length) = some 2 := ⟨rfl, by decide, by decide, by decide +kernel⟩
set_option maxHeartbeats 4000000 in
theorem c_Mo_home {l : Launch} {D : va_G} {A : Nat → Prop} {a0 : Nat} {a1 : Int32} {a2 : Int32} {w : am_w} {r : Int32 × am_w} (hX : f_Mo_home a0 a1 a2 w = some r) : am_Met l D classes tys A (am_F A true) y_Mo_home (Cond.code y_Mo_home b_Mo_home 3 none :: am_W) rm_Mo_home [.ref a0, .int a1, .int a2] w (am_rv r) 0 0 := by
  refine am_ofV (by decide) am_W_good (Nat.le_of_ble_eq_true rfl) (by simp [Value.category]) ?_
  intro p e s m below meth c C hret hlk hnm
  unfold f_Mo_home at hX
  refine am_aload_n (pc := 0) C d_Mo_home_0 rfl rfl ?_
  refine am_iload_n (pc := 1) C d_Mo_home_1 rfl rfl ?_
  refine am_iconst (pc := 2) (v := (1 : Int32)) C d_Mo_home_2 (by decide) ?_
  refine am_icmp_lt (pc := 3) (tgt := 22) C d_Mo_home_3 rfl hX (fun hX => ?_) (fun hX => ?_)
  · skip
    exact (L_Mo_home_22 C hret hlk  a0 a1 a2 a0 w hX)
  · skip
    refine am_iload_n (pc := 6) C d_Mo_home_6 rfl rfl ?_
    refine am_bipush (pc := 7) (v := (20 : Int32)) C d_Mo_home_7 (by decide) ?_
    refine am_icmp_gt (pc := 9) (tgt := 22) C d_Mo_home_9 rfl hX (fun hX => ?_) (fun hX => ?_)
    · skip
      exact (L_Mo_home_22 C hret hlk  a0 a1 a2 a0 w hX)
    · skip
      refine am_iload_n (pc := 12) C d_Mo_home_12 rfl rfl ?_
      refine am_if_lt (pc := 13) (tgt := 22) C d_Mo_home_13 rfl hX (fun hX => ?_) (fun hX => ?_)
      · skip
        exact (L_Mo_home_22 C hret hlk  a0 a1 a2 a0 w hX)
      · skip
        refine am_iload_n (pc := 16) C d_Mo_home_16 rfl rfl ?_
        refine am_bipush (pc := 17) (v := (99 : Int32)) C d_Mo_home_17 (by decide) ?_
        refine am_icmp_le (pc := 19) (tgt := 26) C d_Mo_home_19 rfl hX (fun hX => ?_) (fun hX => ?_)
        · skip
          refine am_iconst (pc := 26) (v := (0 : Int32)) C d_Mo_home_26 (by decide) ?_
          exact (L_Mo_home_27 C hret hlk  a0 a1 a2 (0 : Int32) a0 w hX)
        · skip
          exact (L_Mo_home_22 C hret hlk  a0 a1 a2 a0 w hX)
def rm_Mo_fill : Room := { frames := 1, cells := 0, slots := 0, locals := 22 }
def s_Mo_fill_40  (v0 : Nat) (v1 : Int32) (v2 : Int32) (s0 : Int32) (s1 : Int32) (s2 : Nat) (w : am_w) : Option (Int32 × am_w) := ((am_ob 7 s2 w (f_Mo_refused s2 s1 s0 w)).bind fun q2 => (if q2.1 = 0 then ((am_fp 7 23 v0 v1 q2.2).bind fun w3 => ((am_fp 7 24 v0 v2 w3).bind fun w4 => (some (0, w4)))) else (some (0, q2.2))))
set_option maxHeartbeats 4000000 in
theorem L_Mo_fill_40 {p : Program} {l : Launch} {e : Env} {s : State} {m : MethodId} {args : Array Value} {below : List Frame} {meth : Method} {c : Code} {D : va_G} {A : Nat → Prop} {r : Int32 × am_w} (C : am_C p m c b_Mo_fill 3 s args am_W "RoverMinutesModel" D classes A) (hret : meth.sig.returnType = none) (hlk : meth.locks = false)   : ∀ (v0 : Nat) (v1 : Int32) (v2 : Int32) (s0 : Int32) (s1 : Int32) (s2 : Nat) (w : am_w), s_Mo_fill_40  v0 v1 v2 s0 s1 s2 w = some r → am_V p l e rm_Mo_fill s m args below meth c D classes tys A (am_F A true) 3 0 0 (MQ below (am_Q D classes tys A (am_F A true) (am_rv r)) args s 0 0 (am_F A true)) 40 [some (.ref v0), some (.int v1), some (.int v2)] [.int s0, .int s1, .ref s2] w := by
  intro v0 v1 v2 s0 s1 s2 w hX
  unfold s_Mo_fill_40 at hX
  refine am_callVi (pc := 40) (As := [.int s1, .int s0]) (st := []) (cells1 := 0) (slots1 := 0) C (fun _ h => h.2) (fun _ h => h) (fun q h => c_Mo_refused h) wd_4_206 wd_4_208 ws_Mo_refused wd_1_9 wd_4_209 rfl rfl hd_Mo_refused ⟨by decide, by decide⟩ rfl rfl (Nat.le_of_ble_eq_true rfl) d_Mo_fill_40 ⟨by decide, by decide⟩ rfl rfl rfl hX (fun q2 hX => ?_)
  refine am_if_ne (pc := 43) (tgt := 56) C d_Mo_fill_43 rfl hX (fun hX => ?_) (fun hX => ?_)
  · skip
    exact am_vret (pc := 56) C hret hlk d_Mo_fill_56 (by decide) (by decide) hX
  · skip
    refine am_aload_n (pc := 46) C d_Mo_fill_46 rfl rfl ?_
    refine am_iload_n (pc := 47) C d_Mo_fill_47 rfl rfl ?_
    refine am_put (pc := 48) C (fun _ h => ⟨rfl, h⟩) hin_Mo t_Mo t_Mo_ok n_Mo rfl (by decide) wd_4_123 rfl rfl (t_Mo_ok 23 (by decide)) rfl rfl rfl d_Mo_fill_48 hX (fun w3 hX => ?_)
    refine am_aload_n (pc := 51) C d_Mo_fill_51 rfl rfl ?_
    refine am_iload_n (pc := 52) C d_Mo_fill_52 rfl rfl ?_
    refine am_put (pc := 53) C (fun _ h => ⟨rfl, h⟩) hin_Mo t_Mo t_Mo_ok n_Mo rfl (by decide) wd_4_124 rfl rfl (t_Mo_ok 24 (by decide)) rfl rfl rfl d_Mo_fill_53 hX (fun w4 hX => ?_)
    exact am_vret (pc := 56) C hret hlk d_Mo_fill_56 (by decide) (by decide) hX
def s_Mo_fill_28  (v0 : Nat) (v1 : Int32) (v2 : Int32) (s0 : Int32) (s1 : Nat) (w : am_w) : Option (Int32 × am_w) := ((am_fg 7 22 v0 w).bind fun x1 => (if x1 = 0 then (s_Mo_fill_40  v0 v1 v2 (0 : Int32) s0 s1 w) else (s_Mo_fill_40  v0 v1 v2 (1 : Int32) s0 s1 w)))
set_option maxHeartbeats 4000000 in
theorem L_Mo_fill_28 {p : Program} {l : Launch} {e : Env} {s : State} {m : MethodId} {args : Array Value} {below : List Frame} {meth : Method} {c : Code} {D : va_G} {A : Nat → Prop} {r : Int32 × am_w} (C : am_C p m c b_Mo_fill 3 s args am_W "RoverMinutesModel" D classes A) (hret : meth.sig.returnType = none) (hlk : meth.locks = false)   : ∀ (v0 : Nat) (v1 : Int32) (v2 : Int32) (s0 : Int32) (s1 : Nat) (w : am_w), s_Mo_fill_28  v0 v1 v2 s0 s1 w = some r → am_V p l e rm_Mo_fill s m args below meth c D classes tys A (am_F A true) 3 0 0 (MQ below (am_Q D classes tys A (am_F A true) (am_rv r)) args s 0 0 (am_F A true)) 28 [some (.ref v0), some (.int v1), some (.int v2)] [.int s0, .ref s1] w := by
  intro v0 v1 v2 s0 s1 w hX
  unfold s_Mo_fill_28 at hX
  refine am_aload_n (pc := 28) C d_Mo_fill_28 rfl rfl ?_
  refine am_get (pc := 29) C hin_Mo rfl (by decide) wd_4_122 rfl d_Mo_fill_29 rfl hX (fun x1 hX => ?_)
  refine am_if_eq (pc := 32) (tgt := 39) C d_Mo_fill_32 rfl hX (fun hX => ?_) (fun hX => ?_)
  · skip
    refine am_iconst (pc := 39) (v := (0 : Int32)) C d_Mo_fill_39 (by decide) ?_
    exact (L_Mo_fill_40 C hret hlk  v0 v1 v2 (0 : Int32) s0 s1 w hX)
  · skip
    refine am_iconst (pc := 35) (v := (1 : Int32)) C d_Mo_fill_35 (by decide) ?_
    refine am_goto (pc := 36) (tgt := 40) C d_Mo_fill_36 rfl ?_
    exact (L_Mo_fill_40 C hret hlk  v0 v1 v2 (1 : Int32) s0 s1 w hX)
def s_Mo_fill_23  (v0 : Nat) (v1 : Int32) (v2 : Int32) (s0 : Nat) (w : am_w) : Option (Int32 × am_w) := (s_Mo_fill_28  v0 v1 v2 (1 : Int32) s0 w)
set_option maxHeartbeats 4000000 in
theorem L_Mo_fill_23 {p : Program} {l : Launch} {e : Env} {s : State} {m : MethodId} {args : Array Value} {below : List Frame} {meth : Method} {c : Code} {D : va_G} {A : Nat → Prop} {r : Int32 × am_w} (C : am_C p m c b_Mo_fill 3 s args am_W "RoverMinutesModel" D classes A) (hret : meth.sig.returnType = none) (hlk : meth.locks = false)   : ∀ (v0 : Nat) (v1 : Int32) (v2 : Int32) (s0 : Nat) (w : am_w), s_Mo_fill_23  v0 v1 v2 s0 w = some r → am_V p l e rm_Mo_fill s m args below meth c D classes tys A (am_F A true) 3 0 0 (MQ below (am_Q D classes tys A (am_F A true) (am_rv r)) args s 0 0 (am_F A true)) 23 [some (.ref v0), some (.int v1), some (.int v2)] [.ref s0] w := by
  intro v0 v1 v2 s0 w hX
  unfold s_Mo_fill_23 at hX
  refine am_iconst (pc := 23) (v := (1 : Int32)) C d_Mo_fill_23 (by decide) ?_
  refine am_goto (pc := 24) (tgt := 28) C d_Mo_fill_24 rfl ?_
  exact (L_Mo_fill_28 C hret hlk  v0 v1 v2 (1 : Int32) s0 w hX)
def f_Mo_fill (a0 : Nat) (a1 : Int32) (a2 : Int32) (w : am_w) : Option (Int32 × am_w) := (if a1 < 0 then (s_Mo_fill_23  a0 a1 a2 a0 w) else (if (1000 : Int32) < a1 then (s_Mo_fill_23  a0 a1 a2 a0 w) else (if a2 < 0 then (s_Mo_fill_23  a0 a1 a2 a0 w) else (if a2 ≤ (500 : Int32) then (s_Mo_fill_28  a0 a1 a2 (0 : Int32) a0 w) else (s_Mo_fill_23  a0 a1 a2 a0 w)))))
theorem hd_Mo_fill : y_Mo_fill.cls = "RoverMinutesModel" ∧ y_Mo_fill.cls ≠ "java/lang/invoke/MethodHandle" ∧ y_Mo_fill.cls ≠ "java/lang/invoke/VarHandle" ∧ (parseMethodDescriptor y_Mo_fill.desc).map (fun d => d.parameters.length) = some 2 := ⟨rfl, by decide, by decide, by decide +kernel⟩
set_option maxHeartbeats 4000000 in
theorem c_Mo_fill {l : Launch} {D : va_G} {A : Nat → Prop} {a0 : Nat} {a1 : Int32} {a2 : Int32} {w : am_w} {r : Int32 × am_w} (hX : f_Mo_fill a0 a1 a2 w = some r) : am_Met l D classes tys A (am_F A true) y_Mo_fill (Cond.code y_Mo_fill b_Mo_fill 3 none :: am_W) rm_Mo_fill [.ref a0, .int a1, .int a2] w (am_rv r) 0 0 := by
  refine am_ofV (by decide) am_W_good (Nat.le_of_ble_eq_true rfl) (by simp [Value.category]) ?_
  intro p e s m below meth c C hret hlk hnm
  unfold f_Mo_fill at hX
  refine am_aload_n (pc := 0) C d_Mo_fill_0 rfl rfl ?_
  refine am_iload_n (pc := 1) C d_Mo_fill_1 rfl rfl ?_
  refine am_if_lt (pc := 2) (tgt := 23) C d_Mo_fill_2 rfl hX (fun hX => ?_) (fun hX => ?_)
  · skip
    exact (L_Mo_fill_23 C hret hlk  a0 a1 a2 a0 w hX)
  · skip
    refine am_iload_n (pc := 5) C d_Mo_fill_5 rfl rfl ?_
    refine am_sipush (pc := 6) (v := (1000 : Int32)) C d_Mo_fill_6 (by decide) ?_
    refine am_icmp_gt (pc := 9) (tgt := 23) C d_Mo_fill_9 rfl hX (fun hX => ?_) (fun hX => ?_)
    · skip
      exact (L_Mo_fill_23 C hret hlk  a0 a1 a2 a0 w hX)
    · skip
      refine am_iload_n (pc := 12) C d_Mo_fill_12 rfl rfl ?_
      refine am_if_lt (pc := 13) (tgt := 23) C d_Mo_fill_13 rfl hX (fun hX => ?_) (fun hX => ?_)
      · skip
        exact (L_Mo_fill_23 C hret hlk  a0 a1 a2 a0 w hX)
      · skip
        refine am_iload_n (pc := 16) C d_Mo_fill_16 rfl rfl ?_
        refine am_sipush (pc := 17) (v := (500 : Int32)) C d_Mo_fill_17 (by decide) ?_
        refine am_icmp_le (pc := 20) (tgt := 27) C d_Mo_fill_20 rfl hX (fun hX => ?_) (fun hX => ?_)
        · skip
          refine am_iconst (pc := 27) (v := (0 : Int32)) C d_Mo_fill_27 (by decide) ?_
          exact (L_Mo_fill_28 C hret hlk  a0 a1 a2 (0 : Int32) a0 w hX)
        · skip
          exact (L_Mo_fill_23 C hret hlk  a0 a1 a2 a0 w hX)
def rm_Mo_now : Room := { frames := 0, cells := 0, slots := 0, locals := 0 }
def f_Mo_now (a0 : Nat) (w : am_w) : Option (Int32 × am_w) := ((am_fp 7 0 a0 (0 : Int32) w).bind fun w1 => ((am_fg 7 21 a0 w1).bind fun x2 => (some (x2, w1))))
theorem hd_Mo_now : y_Mo_now.cls = "RoverMinutesModel" ∧ y_Mo_now.cls ≠ "java/lang/invoke/MethodHandle" ∧ y_Mo_now.cls ≠ "java/lang/invoke/VarHandle" ∧ (parseMethodDescriptor y_Mo_now.desc).map (fun d => d.parameters.length) = some 0 := ⟨rfl, by decide, by decide, by decide +kernel⟩
set_option maxHeartbeats 4000000 in
theorem c_Mo_now {l : Launch} {D : va_G} {A : Nat → Prop} {a0 : Nat} {w : am_w} {r : Int32 × am_w} (hX : f_Mo_now a0 w = some r) : am_Met l D classes tys A (am_F A true) y_Mo_now (Cond.code y_Mo_now b_Mo_now 1 (some .int) :: am_W) rm_Mo_now [.ref a0] w (am_ri r) 0 0 := by
  refine am_ofV (by decide) am_W_good (Nat.le_of_ble_eq_true rfl) (by simp [Value.category]) ?_
  intro p e s m below meth c C hret hlk hnm
  unfold f_Mo_now at hX
  refine am_aload_n (pc := 0) C d_Mo_now_0 rfl rfl ?_
  refine am_iconst (pc := 1) (v := (0 : Int32)) C d_Mo_now_1 (by decide) ?_
  refine am_put (pc := 2) C (fun _ h => ⟨rfl, h⟩) hin_Mo t_Mo t_Mo_ok n_Mo rfl (by decide) wd_4_100 rfl rfl (t_Mo_ok 0 (by decide)) rfl rfl rfl d_Mo_now_2 hX (fun w1 hX => ?_)
  refine am_aload_n (pc := 5) C d_Mo_now_5 rfl rfl ?_
  refine am_get (pc := 6) C hin_Mo rfl (by decide) wd_4_121 rfl d_Mo_now_6 rfl hX (fun x2 hX => ?_)
  exact am_iret (pc := 9) C hret hlk d_Mo_now_9 rfl (by decide) (by decide) hX
def rm_Mo_mode : Room := { frames := 0, cells := 0, slots := 0, locals := 0 }
def f_Mo_mode (a0 : Nat) (w : am_w) : Option (Int32 × am_w) := ((am_fp 7 0 a0 (0 : Int32) w).bind fun w1 => ((am_fg 7 22 a0 w1).bind fun x2 => (some (x2, w1))))
theorem hd_Mo_mode : y_Mo_mode.cls = "RoverMinutesModel" ∧ y_Mo_mode.cls ≠ "java/lang/invoke/MethodHandle" ∧ y_Mo_mode.cls ≠ "java/lang/invoke/VarHandle" ∧ (parseMethodDescriptor y_Mo_mode.desc).map (fun d => d.parameters.length) = some 0 := ⟨rfl, by decide, by decide, by decide +kernel⟩
set_option maxHeartbeats 4000000 in
theorem c_Mo_mode {l : Launch} {D : va_G} {A : Nat → Prop} {a0 : Nat} {w : am_w} {r : Int32 × am_w} (hX : f_Mo_mode a0 w = some r) : am_Met l D classes tys A (am_F A true) y_Mo_mode (Cond.code y_Mo_mode b_Mo_mode 1 (some .int) :: am_W) rm_Mo_mode [.ref a0] w (am_ri r) 0 0 := by
  refine am_ofV (by decide) am_W_good (Nat.le_of_ble_eq_true rfl) (by simp [Value.category]) ?_
  intro p e s m below meth c C hret hlk hnm
  unfold f_Mo_mode at hX
  refine am_aload_n (pc := 0) C d_Mo_mode_0 rfl rfl ?_
  refine am_iconst (pc := 1) (v := (0 : Int32)) C d_Mo_mode_1 (by decide) ?_
  refine am_put (pc := 2) C (fun _ h => ⟨rfl, h⟩) hin_Mo t_Mo t_Mo_ok n_Mo rfl (by decide) wd_4_100 rfl rfl (t_Mo_ok 0 (by decide)) rfl rfl rfl d_Mo_mode_2 hX (fun w1 hX => ?_)
  refine am_aload_n (pc := 5) C d_Mo_mode_5 rfl rfl ?_
  refine am_get (pc := 6) C hin_Mo rfl (by decide) wd_4_122 rfl d_Mo_mode_6 rfl hX (fun x2 hX => ?_)
  exact am_iret (pc := 9) C hret hlk d_Mo_mode_9 rfl (by decide) (by decide) hX
def rm_Mo_heatNow : Room := { frames := 0, cells := 0, slots := 0, locals := 0 }
def s_Mo_heatNow_4 (k4 : Nat → Int32 → Int32 → am_w → Option (Int32 × am_w)) (v0 : Nat) (v1 : Int32) (v2 : Int32) (w : am_w) : Option (Int32 × am_w) := ((am_fg 7 9 v0 w).bind fun x1 => (if x1 ≤ v2 then (some (v1, w)) else ((am_rg 7 12 v0 w).bind fun b2 => ((am_ig b2 v2 w).bind fun x3 => (if x3 = (1 : Int32) then ((am_rg 7 10 v0 w).bind fun b4 => ((am_ig b4 ((32 : Int32) + v2) w).bind fun x5 => (k4 v0 (v1 + x5) (v2 + (1 : Int32)) w))) else (k4 v0 v1 (v2 + (1 : Int32)) w))))))
def f_Mo_heatNow_4  (n : Nat) : Nat → Int32 → Int32 → am_w → Option (Int32 × am_w) := am_it (fun _ _ _ _ => none) (s_Mo_heatNow_4 ) n
set_option maxHeartbeats 4000000 in
theorem L_Mo_heatNow_4 {p : Program} {l : Launch} {e : Env} {s : State} {m : MethodId} {args : Array Value} {below : List Frame} {meth : Method} {c : Code} {D : va_G} {A : Nat → Prop} {r : Int32 × am_w} (C : am_C p m c b_Mo_heatNow 3 s args am_W "RoverMinutesModel" D classes A) (hret : meth.sig.returnType = (some .int)) (hlk : meth.locks = false)   (n : Nat) : ∀ (v0 : Nat) (v1 : Int32) (v2 : Int32) (w : am_w), f_Mo_heatNow_4  n v0 v1 v2 w = some r → am_V p l e rm_Mo_heatNow s m args below meth c D classes tys A (am_F A false) 3 0 0 (MQ below (am_Q D classes tys A (am_F A false) (am_ri r)) args s 0 0 (am_F A false)) 4 [some (.ref v0), some (.int v1), some (.int v2)] [] w := by
  refine am_it_ind (P := fun (t : Nat → Int32 → Int32 → am_w → Option (Int32 × am_w)) => ∀ (v0 : Nat) (v1 : Int32) (v2 : Int32) (w : am_w), t v0 v1 v2 w = some r → am_V p l e rm_Mo_heatNow s m args below meth c D classes tys A (am_F A false) 3 0 0 (MQ below (am_Q D classes tys A (am_F A false) (am_ri r)) args s 0 0 (am_F A false)) 4 [some (.ref v0), some (.int v1), some (.int v2)] [] w) ?_ ?_ n
  · intro v0 v1 v2 w hX
    exact (am_nn hX).elim
  · intro k4 hk4 v0 v1 v2 w hX
    unfold s_Mo_heatNow_4 at hX
    refine am_iload_n (pc := 4) C d_Mo_heatNow_4 rfl rfl ?_
    refine am_aload_n (pc := 5) C d_Mo_heatNow_5 rfl rfl ?_
    refine am_get (pc := 6) C hin_Mo rfl (by decide) wd_4_109 rfl d_Mo_heatNow_6 rfl hX (fun x1 hX => ?_)
    refine am_icmp_ge (pc := 9) (tgt := 44) C d_Mo_heatNow_9 rfl hX (fun hX => ?_) (fun hX => ?_)
    · skip
      refine am_iload_n (pc := 44) C d_Mo_heatNow_44 rfl rfl ?_
      exact am_iret (pc := 45) C hret hlk d_Mo_heatNow_45 rfl (by decide) (by decide) hX
    · skip
      refine am_aload_n (pc := 12) C d_Mo_heatNow_12 rfl rfl ?_
      refine am_getr (pc := 13) C hin_Mo rfl (by decide) wd_4_112 rfl d_Mo_heatNow_13 rfl hX (fun b2 hX => ?_)
      refine am_iload_n (pc := 16) C d_Mo_heatNow_16 rfl rfl ?_
      refine am_iald (pc := 17) C d_Mo_heatNow_17 hX (fun x3 hX => ?_)
      refine am_iconst (pc := 18) (v := (1 : Int32)) C d_Mo_heatNow_18 (by decide) ?_
      refine am_icmp_ne (pc := 19) (tgt := 36) C d_Mo_heatNow_19 rfl hX (fun hX => ?_) (fun hX => ?_)
      · skip
        refine am_iload_n (pc := 36) C d_Mo_heatNow_36 rfl rfl ?_
        refine am_istore_n (pc := 37) (lo1 := [some (.ref v0), some (.int v1), some (.int v2)]) C d_Mo_heatNow_37 rfl (by decide) rfl ?_
        refine am_iinc (pc := 38) (y := (1 : Int32)) (lo1 := [some (.ref v0), some (.int v1), some (.int (v2 + (1 : Int32)))]) C d_Mo_heatNow_38 rfl (by decide) (by decide) rfl ?_
        refine am_goto (pc := 41) (tgt := 4) C d_Mo_heatNow_41 rfl ?_
        exact (hk4 v0 v1 (v2 + (1 : Int32)) w hX)
      · skip
        refine am_iload_n (pc := 22) C d_Mo_heatNow_22 rfl rfl ?_
        refine am_aload_n (pc := 23) C d_Mo_heatNow_23 rfl rfl ?_
        refine am_getr (pc := 24) C hin_Mo rfl (by decide) wd_4_110 rfl d_Mo_heatNow_24 rfl hX (fun b4 hX => ?_)
        refine am_bipush (pc := 27) (v := (32 : Int32)) C d_Mo_heatNow_27 (by decide) ?_
        refine am_iload_n (pc := 29) C d_Mo_heatNow_29 rfl rfl ?_
        refine am_iadd (pc := 30) C d_Mo_heatNow_30 ?_
        refine am_iald (pc := 31) C d_Mo_heatNow_31 hX (fun x5 hX => ?_)
        refine am_iadd (pc := 32) C d_Mo_heatNow_32 ?_
        refine am_goto (pc := 33) (tgt := 37) C d_Mo_heatNow_33 rfl ?_
        refine am_istore_n (pc := 37) (lo1 := [some (.ref v0), some (.int (v1 + x5)), some (.int v2)]) C d_Mo_heatNow_37 rfl (by decide) rfl ?_
        refine am_iinc (pc := 38) (y := (1 : Int32)) (lo1 := [some (.ref v0), some (.int (v1 + x5)), some (.int (v2 + (1 : Int32)))]) C d_Mo_heatNow_38 rfl (by decide) (by decide) rfl ?_
        refine am_goto (pc := 41) (tgt := 4) C d_Mo_heatNow_41 rfl ?_
        exact (hk4 v0 (v1 + x5) (v2 + (1 : Int32)) w hX)
def f_Mo_heatNow (a0 : Nat) (w : am_w) : Option (Int32 × am_w) := (f_Mo_heatNow_4  70 a0 (0 : Int32) (0 : Int32) w)
theorem hd_Mo_heatNow : y_Mo_heatNow.cls = "RoverMinutesModel" ∧ y_Mo_heatNow.cls ≠ "java/lang/invoke/MethodHandle" ∧ y_Mo_heatNow.cls ≠ "java/lang/invoke/VarHandle" ∧ (parseMethodDescriptor y_Mo_heatNow.desc).map (fun d => d.parameters.length) = some 0 := ⟨rfl, by decide, by decide, by decide +kernel⟩
set_option maxHeartbeats 4000000 in
theorem c_Mo_heatNow {l : Launch} {D : va_G} {A : Nat → Prop} {a0 : Nat} {w : am_w} {r : Int32 × am_w} (hX : f_Mo_heatNow a0 w = some r) : am_Met l D classes tys A (am_F A false) y_Mo_heatNow (Cond.code y_Mo_heatNow b_Mo_heatNow 3 (some .int) :: am_W) rm_Mo_heatNow [.ref a0] w (am_ri r) 0 0 := by
  refine am_ofV (by decide) am_W_good (Nat.le_of_ble_eq_true rfl) (by simp [Value.category]) ?_
  intro p e s m below meth c C hret hlk hnm
  unfold f_Mo_heatNow at hX
  refine am_iconst (pc := 0) (v := (0 : Int32)) C d_Mo_heatNow_0 (by decide) ?_
  refine am_istore_n (pc := 1) (lo1 := [some (.ref a0), some (.int (0 : Int32)), none]) C d_Mo_heatNow_1 rfl (by decide) rfl ?_
  refine am_iconst (pc := 2) (v := (0 : Int32)) C d_Mo_heatNow_2 (by decide) ?_
  refine am_istore_n (pc := 3) (lo1 := [some (.ref a0), some (.int (0 : Int32)), some (.int (0 : Int32))]) C d_Mo_heatNow_3 rfl (by decide) rfl ?_
  exact (L_Mo_heatNow_4 C hret hlk  70 a0 (0 : Int32) (0 : Int32) w hX)
def rm_Mo_level : Room := { frames := 1, cells := 0, slots := 0, locals := 22 }
def s_Mo_level_15  (v0 : Nat) (v1 : Int32) (s0 : Int32) (s1 : Nat) (w : am_w) : Option (Int32 × am_w) := ((am_ob 7 s1 w (f_Mo_refused s1 s0 (0 : Int32) w)).bind fun q1 => (if q1.1 = 0 then (if v1 = 0 then ((am_fg 7 23 v0 q1.2).bind fun x4 => (some (x4, q1.2))) else (if v1 = (1 : Int32) then ((am_fg 7 24 v0 q1.2).bind fun x3 => (some (x3, q1.2))) else ((am_ob 7 v0 q1.2 (f_Mo_heatNow v0 q1.2)).bind fun q2 => (some (q2.1, q2.2))))) else (some ((0 : Int32), q1.2))))
set_option maxHeartbeats 4000000 in
theorem L_Mo_level_15 {p : Program} {l : Launch} {e : Env} {s : State} {m : MethodId} {args : Array Value} {below : List Frame} {meth : Method} {c : Code} {D : va_G} {A : Nat → Prop} {r : Int32 × am_w} (C : am_C p m c b_Mo_level 2 s args am_W "RoverMinutesModel" D classes A) (hret : meth.sig.returnType = (some .int)) (hlk : meth.locks = false)   : ∀ (v0 : Nat) (v1 : Int32) (s0 : Int32) (s1 : Nat) (w : am_w), s_Mo_level_15  v0 v1 s0 s1 w = some r → am_V p l e rm_Mo_level s m args below meth c D classes tys A (am_F A true) 2 0 0 (MQ below (am_Q D classes tys A (am_F A true) (am_ri r)) args s 0 0 (am_F A true)) 15 [some (.ref v0), some (.int v1)] [.int s0, .ref s1] w := by
  intro v0 v1 s0 s1 w hX
  unfold s_Mo_level_15 at hX
  refine am_iconst (pc := 15) (v := (0 : Int32)) C d_Mo_level_15 (by decide) ?_
  refine am_callVi (pc := 16) (As := [.int s0, .int (0 : Int32)]) (st := []) (cells1 := 0) (slots1 := 0) C (fun _ h => h.2) (fun _ h => h) (fun q h => c_Mo_refused h) wd_4_206 wd_4_208 ws_Mo_refused wd_1_9 wd_4_209 rfl rfl hd_Mo_refused ⟨by decide, by decide⟩ rfl rfl (Nat.le_of_ble_eq_true rfl) d_Mo_level_16 ⟨by decide, by decide⟩ rfl rfl rfl hX (fun q1 hX => ?_)
  refine am_if_eq (pc := 19) (tgt := 24) C d_Mo_level_19 rfl hX (fun hX => ?_) (fun hX => ?_)
  · skip
    refine am_iload_n (pc := 24) C d_Mo_level_24 rfl rfl ?_
    refine am_if_ne (pc := 25) (tgt := 35) C d_Mo_level_25 rfl hX (fun hX => ?_) (fun hX => ?_)
    · skip
      refine am_iload_n (pc := 35) C d_Mo_level_35 rfl rfl ?_
      refine am_iconst (pc := 36) (v := (1 : Int32)) C d_Mo_level_36 (by decide) ?_
      refine am_icmp_ne (pc := 37) (tgt := 47) C d_Mo_level_37 rfl hX (fun hX => ?_) (fun hX => ?_)
      · skip
        refine am_aload_n (pc := 47) C d_Mo_level_47 rfl rfl ?_
        refine am_callVi (pc := 48) (As := []) (st := []) (cells1 := 0) (slots1 := 0) C (fun _ h => h.2) (fun _ h => by cases h.1) (fun q h => c_Mo_heatNow h) wd_5_133 wd_5_135 ws_Mo_heatNow wd_1_9 wd_5_136 rfl rfl hd_Mo_heatNow ⟨by decide, by decide⟩ rfl rfl (Nat.le_of_ble_eq_true rfl) d_Mo_level_48 ⟨by decide, by decide⟩ rfl rfl rfl hX (fun q2 hX => ?_)
        exact am_iret (pc := 51) C hret hlk d_Mo_level_51 rfl (by decide) (by decide) hX
      · skip
        refine am_aload_n (pc := 40) C d_Mo_level_40 rfl rfl ?_
        refine am_get (pc := 41) C hin_Mo rfl (by decide) wd_4_124 rfl d_Mo_level_41 rfl hX (fun x3 hX => ?_)
        refine am_goto (pc := 44) (tgt := 51) C d_Mo_level_44 rfl ?_
        exact am_iret (pc := 51) C hret hlk d_Mo_level_51 rfl (by decide) (by decide) hX
    · skip
      refine am_aload_n (pc := 28) C d_Mo_level_28 rfl rfl ?_
      refine am_get (pc := 29) C hin_Mo rfl (by decide) wd_4_123 rfl d_Mo_level_29 rfl hX (fun x4 hX => ?_)
      refine am_goto (pc := 32) (tgt := 51) C d_Mo_level_32 rfl ?_
      exact am_iret (pc := 51) C hret hlk d_Mo_level_51 rfl (by decide) (by decide) hX
  · skip
    refine am_iconst (pc := 22) (v := (0 : Int32)) C d_Mo_level_22 (by decide) ?_
    exact am_iret (pc := 23) C hret hlk d_Mo_level_23 rfl (by decide) (by decide) hX
def s_Mo_level_10  (v0 : Nat) (v1 : Int32) (s0 : Nat) (w : am_w) : Option (Int32 × am_w) := (s_Mo_level_15  v0 v1 (1 : Int32) s0 w)
set_option maxHeartbeats 4000000 in
theorem L_Mo_level_10 {p : Program} {l : Launch} {e : Env} {s : State} {m : MethodId} {args : Array Value} {below : List Frame} {meth : Method} {c : Code} {D : va_G} {A : Nat → Prop} {r : Int32 × am_w} (C : am_C p m c b_Mo_level 2 s args am_W "RoverMinutesModel" D classes A) (hret : meth.sig.returnType = (some .int)) (hlk : meth.locks = false)   : ∀ (v0 : Nat) (v1 : Int32) (s0 : Nat) (w : am_w), s_Mo_level_10  v0 v1 s0 w = some r → am_V p l e rm_Mo_level s m args below meth c D classes tys A (am_F A true) 2 0 0 (MQ below (am_Q D classes tys A (am_F A true) (am_ri r)) args s 0 0 (am_F A true)) 10 [some (.ref v0), some (.int v1)] [.ref s0] w := by
  intro v0 v1 s0 w hX
  unfold s_Mo_level_10 at hX
  refine am_iconst (pc := 10) (v := (1 : Int32)) C d_Mo_level_10 (by decide) ?_
  refine am_goto (pc := 11) (tgt := 15) C d_Mo_level_11 rfl ?_
  exact (L_Mo_level_15 C hret hlk  v0 v1 (1 : Int32) s0 w hX)
def f_Mo_level (a0 : Nat) (a1 : Int32) (w : am_w) : Option (Int32 × am_w) := (if a1 < 0 then (s_Mo_level_10  a0 a1 a0 w) else (if a1 ≤ (2 : Int32) then (s_Mo_level_15  a0 a1 (0 : Int32) a0 w) else (s_Mo_level_10  a0 a1 a0 w)))
theorem hd_Mo_level : y_Mo_level.cls = "RoverMinutesModel" ∧ y_Mo_level.cls ≠ "java/lang/invoke/MethodHandle" ∧ y_Mo_level.cls ≠ "java/lang/invoke/VarHandle" ∧ (parseMethodDescriptor y_Mo_level.desc).map (fun d => d.parameters.length) = some 1 := ⟨rfl, by decide, by decide, by decide +kernel⟩
set_option maxHeartbeats 4000000 in
theorem c_Mo_level {l : Launch} {D : va_G} {A : Nat → Prop} {a0 : Nat} {a1 : Int32} {w : am_w} {r : Int32 × am_w} (hX : f_Mo_level a0 a1 w = some r) : am_Met l D classes tys A (am_F A true) y_Mo_level (Cond.code y_Mo_level b_Mo_level 2 (some .int) :: am_W) rm_Mo_level [.ref a0, .int a1] w (am_ri r) 0 0 := by
  refine am_ofV (by decide) am_W_good (Nat.le_of_ble_eq_true rfl) (by simp [Value.category]) ?_
  intro p e s m below meth c C hret hlk hnm
  unfold f_Mo_level at hX
  refine am_aload_n (pc := 0) C d_Mo_level_0 rfl rfl ?_
  refine am_iload_n (pc := 1) C d_Mo_level_1 rfl rfl ?_
  refine am_if_lt (pc := 2) (tgt := 10) C d_Mo_level_2 rfl hX (fun hX => ?_) (fun hX => ?_)
  · skip
    exact (L_Mo_level_10 C hret hlk  a0 a1 a0 w hX)
  · skip
    refine am_iload_n (pc := 5) C d_Mo_level_5 rfl rfl ?_
    refine am_iconst (pc := 6) (v := (2 : Int32)) C d_Mo_level_6 (by decide) ?_
    refine am_icmp_le (pc := 7) (tgt := 14) C d_Mo_level_7 rfl hX (fun hX => ?_) (fun hX => ?_)
    · skip
      refine am_iconst (pc := 14) (v := (0 : Int32)) C d_Mo_level_14 (by decide) ?_
      exact (L_Mo_level_15 C hret hlk  a0 a1 (0 : Int32) a0 w hX)
    · skip
      exact (L_Mo_level_10 C hret hlk  a0 a1 a0 w hX)
def rm_Mo_reserve : Room := { frames := 2, cells := 0, slots := 0, locals := 49 }
def s_Mo_reserve_7 (k7 : Nat → Int32 → am_w → Option (Int32 × am_w)) (v0 : Nat) (v1 : Int32) (w : am_w) : Option (Int32 × am_w) := (if (1000 : Int32) < v1 then (some ((-1 : Int32), w)) else ((am_fg 7 21 v0 w).bind fun x2 => ((am_ob 7 v0 w (f_Mo_isOpen v0 v1 x2 w)).bind fun q3 => (if q3.1 = 0 then (k7 v0 (v1 + (1 : Int32)) q3.2) else (some (v1, q3.2))))))
def f_Mo_reserve_7  (n : Nat) : Nat → Int32 → am_w → Option (Int32 × am_w) := am_it (fun _ _ _ => none) (s_Mo_reserve_7 ) n
set_option maxHeartbeats 4000000 in
theorem L_Mo_reserve_7 {p : Program} {l : Launch} {e : Env} {s : State} {m : MethodId} {args : Array Value} {below : List Frame} {meth : Method} {c : Code} {D : va_G} {A : Nat → Prop} {r : Int32 × am_w} (C : am_C p m c b_Mo_reserve 2 s args am_W "RoverMinutesModel" D classes A) (hret : meth.sig.returnType = (some .int)) (hlk : meth.locks = false)   (n : Nat) : ∀ (v0 : Nat) (v1 : Int32) (w : am_w), f_Mo_reserve_7  n v0 v1 w = some r → am_V p l e rm_Mo_reserve s m args below meth c D classes tys A (am_F A true) 2 0 0 (MQ below (am_Q D classes tys A (am_F A true) (am_ri r)) args s 0 0 (am_F A true)) 7 [some (.ref v0), some (.int v1)] [] w := by
  refine am_it_ind (P := fun (t : Nat → Int32 → am_w → Option (Int32 × am_w)) => ∀ (v0 : Nat) (v1 : Int32) (w : am_w), t v0 v1 w = some r → am_V p l e rm_Mo_reserve s m args below meth c D classes tys A (am_F A true) 2 0 0 (MQ below (am_Q D classes tys A (am_F A true) (am_ri r)) args s 0 0 (am_F A true)) 7 [some (.ref v0), some (.int v1)] [] w) ?_ ?_ n
  · intro v0 v1 w hX
    exact (am_nn hX).elim
  · intro k7 hk7 v0 v1 w hX
    unfold s_Mo_reserve_7 at hX
    refine am_iload_n (pc := 7) C d_Mo_reserve_7 rfl rfl ?_
    refine am_sipush (pc := 8) (v := (1000 : Int32)) C d_Mo_reserve_8 (by decide) ?_
    refine am_icmp_gt (pc := 11) (tgt := 34) C d_Mo_reserve_11 rfl hX (fun hX => ?_) (fun hX => ?_)
    · skip
      refine am_iconst (pc := 34) (v := (-1 : Int32)) C d_Mo_reserve_34 (by decide) ?_
      exact am_iret (pc := 35) C hret hlk d_Mo_reserve_35 rfl (by decide) (by decide) hX
    · skip
      refine am_aload_n (pc := 14) C d_Mo_reserve_14 rfl rfl ?_
      refine am_iload_n (pc := 15) C d_Mo_reserve_15 rfl rfl ?_
      refine am_aload_n (pc := 16) C d_Mo_reserve_16 rfl rfl ?_
      refine am_get (pc := 17) C hin_Mo rfl (by decide) wd_4_121 rfl d_Mo_reserve_17 rfl hX (fun x2 hX => ?_)
      refine am_callVi (pc := 20) (As := [.int v1, .int x2]) (st := []) (cells1 := 0) (slots1 := 0) C (fun _ h => h.2) (fun _ h => by cases h.1) (fun q h => c_Mo_isOpen h) wd_5_25 wd_5_27 ws_Mo_isOpen wd_1_9 wd_5_28 rfl rfl hd_Mo_isOpen ⟨by decide, by decide⟩ rfl rfl (Nat.le_of_ble_eq_true rfl) d_Mo_reserve_20 ⟨by decide, by decide⟩ rfl rfl rfl hX (fun q3 hX => ?_)
      refine am_if_eq (pc := 23) (tgt := 28) C d_Mo_reserve_23 rfl hX (fun hX => ?_) (fun hX => ?_)
      · skip
        refine am_iinc (pc := 28) (y := (1 : Int32)) (lo1 := [some (.ref v0), some (.int (v1 + (1 : Int32)))]) C d_Mo_reserve_28 rfl (by decide) (by decide) rfl ?_
        refine am_goto (pc := 31) (tgt := 7) C d_Mo_reserve_31 rfl ?_
        exact (hk7 v0 (v1 + (1 : Int32)) q3.2 hX)
      · skip
        refine am_iload_n (pc := 26) C d_Mo_reserve_26 rfl rfl ?_
        exact am_iret (pc := 27) C hret hlk d_Mo_reserve_27 rfl (by decide) (by decide) hX
def f_Mo_reserve (a0 : Nat) (w : am_w) : Option (Int32 × am_w) := ((am_fp 7 0 a0 (0 : Int32) w).bind fun w1 => (f_Mo_reserve_7  1002 a0 (0 : Int32) w1))
theorem hd_Mo_reserve : y_Mo_reserve.cls = "RoverMinutesModel" ∧ y_Mo_reserve.cls ≠ "java/lang/invoke/MethodHandle" ∧ y_Mo_reserve.cls ≠ "java/lang/invoke/VarHandle" ∧ (parseMethodDescriptor y_Mo_reserve.desc).map (fun d => d.parameters.length) = some 0 := ⟨rfl, by decide, by decide, by decide +kernel⟩
set_option maxHeartbeats 4000000 in
theorem c_Mo_reserve {l : Launch} {D : va_G} {A : Nat → Prop} {a0 : Nat} {w : am_w} {r : Int32 × am_w} (hX : f_Mo_reserve a0 w = some r) : am_Met l D classes tys A (am_F A true) y_Mo_reserve (Cond.code y_Mo_reserve b_Mo_reserve 2 (some .int) :: am_W) rm_Mo_reserve [.ref a0] w (am_ri r) 0 0 := by
  refine am_ofV (by decide) am_W_good (Nat.le_of_ble_eq_true rfl) (by simp [Value.category]) ?_
  intro p e s m below meth c C hret hlk hnm
  unfold f_Mo_reserve at hX
  refine am_aload_n (pc := 0) C d_Mo_reserve_0 rfl rfl ?_
  refine am_iconst (pc := 1) (v := (0 : Int32)) C d_Mo_reserve_1 (by decide) ?_
  refine am_put (pc := 2) C (fun _ h => ⟨rfl, h⟩) hin_Mo t_Mo t_Mo_ok n_Mo rfl (by decide) wd_4_100 rfl rfl (t_Mo_ok 0 (by decide)) rfl rfl rfl d_Mo_reserve_2 hX (fun w1 hX => ?_)
  refine am_iconst (pc := 5) (v := (0 : Int32)) C d_Mo_reserve_5 (by decide) ?_
  refine am_istore_n (pc := 6) (lo1 := [some (.ref a0), some (.int (0 : Int32))]) C d_Mo_reserve_6 rfl (by decide) rfl ?_
  exact (L_Mo_reserve_7 C hret hlk  1002 a0 (0 : Int32) w1 hX)
def rm_Mo_activities : Room := { frames := 0, cells := 0, slots := 0, locals := 0 }
def f_Mo_activities (a0 : Nat) (w : am_w) : Option (Int32 × am_w) := ((am_fp 7 0 a0 (0 : Int32) w).bind fun w1 => ((am_fg 7 9 a0 w1).bind fun x2 => (some (x2, w1))))
theorem hd_Mo_activities : y_Mo_activities.cls = "RoverMinutesModel" ∧ y_Mo_activities.cls ≠ "java/lang/invoke/MethodHandle" ∧ y_Mo_activities.cls ≠ "java/lang/invoke/VarHandle" ∧ (parseMethodDescriptor y_Mo_activities.desc).map (fun d => d.parameters.length) = some 0 := ⟨rfl, by decide, by decide, by decide +kernel⟩
set_option maxHeartbeats 4000000 in
theorem c_Mo_activities {l : Launch} {D : va_G} {A : Nat → Prop} {a0 : Nat} {w : am_w} {r : Int32 × am_w} (hX : f_Mo_activities a0 w = some r) : am_Met l D classes tys A (am_F A true) y_Mo_activities (Cond.code y_Mo_activities b_Mo_activities 1 (some .int) :: am_W) rm_Mo_activities [.ref a0] w (am_ri r) 0 0 := by
  refine am_ofV (by decide) am_W_good (Nat.le_of_ble_eq_true rfl) (by simp [Value.category]) ?_
  intro p e s m below meth c C hret hlk hnm
  unfold f_Mo_activities at hX
  refine am_aload_n (pc := 0) C d_Mo_activities_0 rfl rfl ?_
  refine am_iconst (pc := 1) (v := (0 : Int32)) C d_Mo_activities_1 (by decide) ?_
  refine am_put (pc := 2) C (fun _ h => ⟨rfl, h⟩) hin_Mo t_Mo t_Mo_ok n_Mo rfl (by decide) wd_4_100 rfl rfl (t_Mo_ok 0 (by decide)) rfl rfl rfl d_Mo_activities_2 hX (fun w1 hX => ?_)
  refine am_aload_n (pc := 5) C d_Mo_activities_5 rfl rfl ?_
  refine am_get (pc := 6) C hin_Mo rfl (by decide) wd_4_109 rfl d_Mo_activities_6 rfl hX (fun x2 hX => ?_)
  exact am_iret (pc := 9) C hret hlk d_Mo_activities_9 rfl (by decide) (by decide) hX
def rm_Mo_activity : Room := { frames := 1, cells := 0, slots := 0, locals := 22 }
def s_Mo_activity_23  (v0 : Nat) (v1 : Int32) (v2 : Int32) (s0 : Int32) (s1 : Nat) (w : am_w) : Option (Int32 × am_w) := ((am_ob 7 s1 w (f_Mo_refused s1 s0 (0 : Int32) w)).bind fun q2 => (if q2.1 = 0 then (if v2 = (0 : Int32) then ((am_rg 7 12 v0 q2.2).bind fun b3 => ((am_ig b3 v1 q2.2).bind fun x4 => (some (x4, q2.2)))) else (if v2 = (1 : Int32) then ((am_rg 7 13 v0 q2.2).bind fun b5 => ((am_ig b5 v1 q2.2).bind fun x6 => (some (x6, q2.2)))) else (if v2 = (2 : Int32) then ((am_rg 7 14 v0 q2.2).bind fun b7 => ((am_ig b7 v1 q2.2).bind fun x8 => (some (x8, q2.2)))) else (if v2 = (3 : Int32) then ((am_rg 7 15 v0 q2.2).bind fun b9 => ((am_ig b9 v1 q2.2).bind fun x10 => (some (x10, q2.2)))) else (if v2 = (4 : Int32) then ((am_rg 7 16 v0 q2.2).bind fun b11 => ((am_ig b11 v1 q2.2).bind fun x12 => (some (x12, q2.2)))) else ((am_rg 7 11 v0 q2.2).bind fun b13 => ((am_ig b13 v1 q2.2).bind fun x14 => (some (x14, q2.2))))))))) else (some ((0 : Int32), q2.2))))
set_option maxHeartbeats 4000000 in
theorem L_Mo_activity_23 {p : Program} {l : Launch} {e : Env} {s : State} {m : MethodId} {args : Array Value} {below : List Frame} {meth : Method} {c : Code} {D : va_G} {A : Nat → Prop} {r : Int32 × am_w} (C : am_C p m c b_Mo_activity 3 s args am_W "RoverMinutesModel" D classes A) (hret : meth.sig.returnType = (some .int)) (hlk : meth.locks = false)   : ∀ (v0 : Nat) (v1 : Int32) (v2 : Int32) (s0 : Int32) (s1 : Nat) (w : am_w), s_Mo_activity_23  v0 v1 v2 s0 s1 w = some r → am_V p l e rm_Mo_activity s m args below meth c D classes tys A (am_F A true) 3 0 0 (MQ below (am_Q D classes tys A (am_F A true) (am_ri r)) args s 0 0 (am_F A true)) 23 [some (.ref v0), some (.int v1), some (.int v2)] [.int s0, .ref s1] w := by
  intro v0 v1 v2 s0 s1 w hX
  unfold s_Mo_activity_23 at hX
  refine am_iconst (pc := 23) (v := (0 : Int32)) C d_Mo_activity_23 (by decide) ?_
  refine am_callVi (pc := 24) (As := [.int s0, .int (0 : Int32)]) (st := []) (cells1 := 0) (slots1 := 0) C (fun _ h => h.2) (fun _ h => h) (fun q h => c_Mo_refused h) wd_4_206 wd_4_208 ws_Mo_refused wd_1_9 wd_4_209 rfl rfl hd_Mo_refused ⟨by decide, by decide⟩ rfl rfl (Nat.le_of_ble_eq_true rfl) d_Mo_activity_24 ⟨by decide, by decide⟩ rfl rfl rfl hX (fun q2 hX => ?_)
  refine am_if_eq (pc := 27) (tgt := 32) C d_Mo_activity_27 rfl hX (fun hX => ?_) (fun hX => ?_)
  · skip
    refine am_iload_n (pc := 32) C d_Mo_activity_32 rfl rfl ?_
    refine am_tsw (pc := 33) (k := (0 : Int32)) (tgt := 68) C d_Mo_activity_33 (by decide) (by decide) rfl rfl hX (fun hX => ?_) (fun hn33_0 hX => ?_)
    · skip
      refine am_aload_n (pc := 68) C d_Mo_activity_68 rfl rfl ?_
      refine am_getr (pc := 69) C hin_Mo rfl (by decide) wd_4_112 rfl d_Mo_activity_69 rfl hX (fun b3 hX => ?_)
      refine am_iload_n (pc := 72) C d_Mo_activity_72 rfl rfl ?_
      refine am_iald (pc := 73) C d_Mo_activity_73 hX (fun x4 hX => ?_)
      exact am_iret (pc := 74) C hret hlk d_Mo_activity_74 rfl (by decide) (by decide) hX
    refine am_tsw (pc := 33) (k := (1 : Int32)) (tgt := 75) C d_Mo_activity_33 (by decide) (by decide) rfl rfl hX (fun hX => ?_) (fun hn33_1 hX => ?_)
    · skip
      refine am_aload_n (pc := 75) C d_Mo_activity_75 rfl rfl ?_
      refine am_getr (pc := 76) C hin_Mo rfl (by decide) wd_4_113 rfl d_Mo_activity_76 rfl hX (fun b5 hX => ?_)
      refine am_iload_n (pc := 79) C d_Mo_activity_79 rfl rfl ?_
      refine am_iald (pc := 80) C d_Mo_activity_80 hX (fun x6 hX => ?_)
      exact am_iret (pc := 81) C hret hlk d_Mo_activity_81 rfl (by decide) (by decide) hX
    refine am_tsw (pc := 33) (k := (2 : Int32)) (tgt := 82) C d_Mo_activity_33 (by decide) (by decide) rfl rfl hX (fun hX => ?_) (fun hn33_2 hX => ?_)
    · skip
      refine am_aload_n (pc := 82) C d_Mo_activity_82 rfl rfl ?_
      refine am_getr (pc := 83) C hin_Mo rfl (by decide) wd_4_114 rfl d_Mo_activity_83 rfl hX (fun b7 hX => ?_)
      refine am_iload_n (pc := 86) C d_Mo_activity_86 rfl rfl ?_
      refine am_iald (pc := 87) C d_Mo_activity_87 hX (fun x8 hX => ?_)
      exact am_iret (pc := 88) C hret hlk d_Mo_activity_88 rfl (by decide) (by decide) hX
    refine am_tsw (pc := 33) (k := (3 : Int32)) (tgt := 89) C d_Mo_activity_33 (by decide) (by decide) rfl rfl hX (fun hX => ?_) (fun hn33_3 hX => ?_)
    · skip
      refine am_aload_n (pc := 89) C d_Mo_activity_89 rfl rfl ?_
      refine am_getr (pc := 90) C hin_Mo rfl (by decide) wd_4_115 rfl d_Mo_activity_90 rfl hX (fun b9 hX => ?_)
      refine am_iload_n (pc := 93) C d_Mo_activity_93 rfl rfl ?_
      refine am_iald (pc := 94) C d_Mo_activity_94 hX (fun x10 hX => ?_)
      exact am_iret (pc := 95) C hret hlk d_Mo_activity_95 rfl (by decide) (by decide) hX
    refine am_tsw (pc := 33) (k := (4 : Int32)) (tgt := 96) C d_Mo_activity_33 (by decide) (by decide) rfl rfl hX (fun hX => ?_) (fun hn33_4 hX => ?_)
    · skip
      refine am_aload_n (pc := 96) C d_Mo_activity_96 rfl rfl ?_
      refine am_getr (pc := 97) C hin_Mo rfl (by decide) wd_4_116 rfl d_Mo_activity_97 rfl hX (fun b11 hX => ?_)
      refine am_iload_n (pc := 100) C d_Mo_activity_100 rfl rfl ?_
      refine am_iald (pc := 101) C d_Mo_activity_101 hX (fun x12 hX => ?_)
      exact am_iret (pc := 102) C hret hlk d_Mo_activity_102 rfl (by decide) (by decide) hX
    have hout : Int32.toInt v2 < 0 ∨ 4 < Int32.toInt v2 := by
      have q60 := am_ne (k := 0) hn33_0 (by decide)
      have q61 := am_ne (k := 1) hn33_1 (by decide)
      have q62 := am_ne (k := 2) hn33_2 (by decide)
      have q63 := am_ne (k := 3) hn33_3 (by decide)
      have q64 := am_ne (k := 4) hn33_4 (by decide)
      omega
    refine am_tableOut (pc := 33) (tgt := 103) C d_Mo_activity_33 hout rfl ?_
    refine am_aload_n (pc := 103) C d_Mo_activity_103 rfl rfl ?_
    refine am_getr (pc := 104) C hin_Mo rfl (by decide) wd_4_111 rfl d_Mo_activity_104 rfl hX (fun b13 hX => ?_)
    refine am_iload_n (pc := 107) C d_Mo_activity_107 rfl rfl ?_
    refine am_iald (pc := 108) C d_Mo_activity_108 hX (fun x14 hX => ?_)
    exact am_iret (pc := 109) C hret hlk d_Mo_activity_109 rfl (by decide) (by decide) hX
  · skip
    refine am_iconst (pc := 30) (v := (0 : Int32)) C d_Mo_activity_30 (by decide) ?_
    exact am_iret (pc := 31) C hret hlk d_Mo_activity_31 rfl (by decide) (by decide) hX
def s_Mo_activity_18  (v0 : Nat) (v1 : Int32) (v2 : Int32) (s0 : Nat) (w : am_w) : Option (Int32 × am_w) := (s_Mo_activity_23  v0 v1 v2 (1 : Int32) s0 w)
set_option maxHeartbeats 4000000 in
theorem L_Mo_activity_18 {p : Program} {l : Launch} {e : Env} {s : State} {m : MethodId} {args : Array Value} {below : List Frame} {meth : Method} {c : Code} {D : va_G} {A : Nat → Prop} {r : Int32 × am_w} (C : am_C p m c b_Mo_activity 3 s args am_W "RoverMinutesModel" D classes A) (hret : meth.sig.returnType = (some .int)) (hlk : meth.locks = false)   : ∀ (v0 : Nat) (v1 : Int32) (v2 : Int32) (s0 : Nat) (w : am_w), s_Mo_activity_18  v0 v1 v2 s0 w = some r → am_V p l e rm_Mo_activity s m args below meth c D classes tys A (am_F A true) 3 0 0 (MQ below (am_Q D classes tys A (am_F A true) (am_ri r)) args s 0 0 (am_F A true)) 18 [some (.ref v0), some (.int v1), some (.int v2)] [.ref s0] w := by
  intro v0 v1 v2 s0 w hX
  unfold s_Mo_activity_18 at hX
  refine am_iconst (pc := 18) (v := (1 : Int32)) C d_Mo_activity_18 (by decide) ?_
  refine am_goto (pc := 19) (tgt := 23) C d_Mo_activity_19 rfl ?_
  exact (L_Mo_activity_23 C hret hlk  v0 v1 v2 (1 : Int32) s0 w hX)
def f_Mo_activity (a0 : Nat) (a1 : Int32) (a2 : Int32) (w : am_w) : Option (Int32 × am_w) := ((am_ob 7 a0 w (f_Mo_isActivity a0 a1 w)).bind fun q1 => (if q1.1 = 0 then (s_Mo_activity_18  a0 a1 a2 a0 q1.2) else (if a2 < 0 then (s_Mo_activity_18  a0 a1 a2 a0 q1.2) else (if a2 ≤ (5 : Int32) then (s_Mo_activity_23  a0 a1 a2 (0 : Int32) a0 q1.2) else (s_Mo_activity_18  a0 a1 a2 a0 q1.2)))))
theorem hd_Mo_activity : y_Mo_activity.cls = "RoverMinutesModel" ∧ y_Mo_activity.cls ≠ "java/lang/invoke/MethodHandle" ∧ y_Mo_activity.cls ≠ "java/lang/invoke/VarHandle" ∧ (parseMethodDescriptor y_Mo_activity.desc).map (fun d => d.parameters.length) = some 2 := ⟨rfl, by decide, by decide, by decide +kernel⟩
set_option maxHeartbeats 4000000 in
theorem c_Mo_activity {l : Launch} {D : va_G} {A : Nat → Prop} {a0 : Nat} {a1 : Int32} {a2 : Int32} {w : am_w} {r : Int32 × am_w} (hX : f_Mo_activity a0 a1 a2 w = some r) : am_Met l D classes tys A (am_F A true) y_Mo_activity (Cond.code y_Mo_activity b_Mo_activity 3 (some .int) :: am_W) rm_Mo_activity [.ref a0, .int a1, .int a2] w (am_ri r) 0 0 := by
  refine am_ofV (by decide) am_W_good (Nat.le_of_ble_eq_true rfl) (by simp [Value.category]) ?_
  intro p e s m below meth c C hret hlk hnm
  unfold f_Mo_activity at hX
  refine am_aload_n (pc := 0) C d_Mo_activity_0 rfl rfl ?_
  refine am_aload_n (pc := 1) C d_Mo_activity_1 rfl rfl ?_
  refine am_iload_n (pc := 2) C d_Mo_activity_2 rfl rfl ?_
  refine am_callVi (pc := 3) (As := [.int a1]) (st := [.ref a0]) (cells1 := 0) (slots1 := 0) C (fun _ h => h.2) (fun _ h => by cases h.1) (fun q h => c_Mo_isActivity h) wd_5_97 wd_5_99 ws_Mo_isActivity wd_1_9 wd_5_100 rfl rfl hd_Mo_isActivity ⟨by decide, by decide⟩ rfl rfl (Nat.le_of_ble_eq_true rfl) d_Mo_activity_3 ⟨by decide, by decide⟩ rfl rfl rfl hX (fun q1 hX => ?_)
  refine am_if_eq (pc := 6) (tgt := 18) C d_Mo_activity_6 rfl hX (fun hX => ?_) (fun hX => ?_)
  · skip
    exact (L_Mo_activity_18 C hret hlk  a0 a1 a2 a0 q1.2 hX)
  · skip
    refine am_iload_n (pc := 9) C d_Mo_activity_9 rfl rfl ?_
    refine am_if_lt (pc := 10) (tgt := 18) C d_Mo_activity_10 rfl hX (fun hX => ?_) (fun hX => ?_)
    · skip
      exact (L_Mo_activity_18 C hret hlk  a0 a1 a2 a0 q1.2 hX)
    · skip
      refine am_iload_n (pc := 13) C d_Mo_activity_13 rfl rfl ?_
      refine am_iconst (pc := 14) (v := (5 : Int32)) C d_Mo_activity_14 (by decide) ?_
      refine am_icmp_le (pc := 15) (tgt := 22) C d_Mo_activity_15 rfl hX (fun hX => ?_) (fun hX => ?_)
      · skip
        refine am_iconst (pc := 22) (v := (0 : Int32)) C d_Mo_activity_22 (by decide) ?_
        exact (L_Mo_activity_23 C hret hlk  a0 a1 a2 (0 : Int32) a0 q1.2 hX)
      · skip
        exact (L_Mo_activity_18 C hret hlk  a0 a1 a2 a0 q1.2 hX)
def rm_Mo_lowest : Room := { frames := 2, cells := 0, slots := 0, locals := 48 }
def s_Mo_lowest_67  (v2 : Int32) (w : am_w) : Option (Int32 × am_w) := (if 0 ≤ v2 then (some (v2, w)) else (some ((0 : Int32), w)))
set_option maxHeartbeats 4000000 in
theorem L_Mo_lowest_67 {p : Program} {l : Launch} {e : Env} {s : State} {m : MethodId} {args : Array Value} {below : List Frame} {meth : Method} {c : Code} {D : va_G} {A : Nat → Prop} {r : Int32 × am_w} (C : am_C p m c b_Mo_lowest 4 s args am_W "RoverMinutesModel" D classes A) (hret : meth.sig.returnType = (some .int)) (hlk : meth.locks = false)   : ∀ (v2 : Int32) (w : am_w), s_Mo_lowest_67  v2 w = some r → am_V p l e rm_Mo_lowest s m args below meth c D classes tys A (am_F A true) 4 0 0 (MQ below (am_Q D classes tys A (am_F A true) (am_ri r)) args s 0 0 (am_F A true)) 67 [none, none, some (.int v2), none] [] w := by
  intro v2 w hX
  unfold s_Mo_lowest_67 at hX
  refine am_iload_n (pc := 67) C d_Mo_lowest_67 rfl rfl ?_
  refine am_if_ge (pc := 68) (tgt := 75) C d_Mo_lowest_68 rfl hX (fun hX => ?_) (fun hX => ?_)
  · skip
    refine am_iload_n (pc := 75) C d_Mo_lowest_75 rfl rfl ?_
    exact am_iret (pc := 76) C hret hlk d_Mo_lowest_76 rfl (by decide) (by decide) hX
  · skip
    refine am_iconst (pc := 71) (v := (0 : Int32)) C d_Mo_lowest_71 (by decide) ?_
    refine am_goto (pc := 72) (tgt := 76) C d_Mo_lowest_72 rfl ?_
    exact am_iret (pc := 76) C hret hlk d_Mo_lowest_76 rfl (by decide) (by decide) hX
def s_Mo_lowest_17 (k17 : Nat → Int32 → Int32 → Int32 → am_w → Option (Int32 × am_w)) (v0 : Nat) (v1 : Int32) (v2 : Int32) (v3 : Int32) (w : am_w) : Option (Int32 × am_w) := (if (30 : Int32) < v3 then (s_Mo_lowest_67  v2 w) else ((am_ob 7 v0 w (f_Mo_drawIn v0 v3 (-1 : Int32) w)).bind fun q4 => (if q4.1 < 0 then (s_Mo_lowest_67  v2 q4.2) else ((am_fg 7 21 v0 q4.2).bind fun x5 => ((am_ob 7 v0 q4.2 (f_Mo_drawIn v0 v3 (-1 : Int32) q4.2)).bind fun q6 => ((am_ob 7 v0 q6.2 (f_Mo_afterMinute v0 v1 (x5 + v3) q6.1 q6.2)).bind fun q7 => (if v2 ≤ q7.1 then (k17 v0 q7.1 v2 (v3 + (1 : Int32)) q7.2) else (k17 v0 q7.1 q7.1 (v3 + (1 : Int32)) q7.2))))))))
def f_Mo_lowest_17  (n : Nat) : Nat → Int32 → Int32 → Int32 → am_w → Option (Int32 × am_w) := am_it (fun _ _ _ _ _ => none) (s_Mo_lowest_17 ) n
set_option maxHeartbeats 4000000 in
theorem L_Mo_lowest_17 {p : Program} {l : Launch} {e : Env} {s : State} {m : MethodId} {args : Array Value} {below : List Frame} {meth : Method} {c : Code} {D : va_G} {A : Nat → Prop} {r : Int32 × am_w} (C : am_C p m c b_Mo_lowest 4 s args am_W "RoverMinutesModel" D classes A) (hret : meth.sig.returnType = (some .int)) (hlk : meth.locks = false)   (n : Nat) : ∀ (v0 : Nat) (v1 : Int32) (v2 : Int32) (v3 : Int32) (w : am_w), f_Mo_lowest_17  n v0 v1 v2 v3 w = some r → am_V p l e rm_Mo_lowest s m args below meth c D classes tys A (am_F A true) 4 0 0 (MQ below (am_Q D classes tys A (am_F A true) (am_ri r)) args s 0 0 (am_F A true)) 17 [some (.ref v0), some (.int v1), some (.int v2), some (.int v3)] [] w := by
  refine am_it_ind (P := fun (t : Nat → Int32 → Int32 → Int32 → am_w → Option (Int32 × am_w)) => ∀ (v0 : Nat) (v1 : Int32) (v2 : Int32) (v3 : Int32) (w : am_w), t v0 v1 v2 v3 w = some r → am_V p l e rm_Mo_lowest s m args below meth c D classes tys A (am_F A true) 4 0 0 (MQ below (am_Q D classes tys A (am_F A true) (am_ri r)) args s 0 0 (am_F A true)) 17 [some (.ref v0), some (.int v1), some (.int v2), some (.int v3)] [] w) ?_ ?_ n
  · intro v0 v1 v2 v3 w hX
    exact (am_nn hX).elim
  · intro k17 hk17 v0 v1 v2 v3 w hX
    unfold s_Mo_lowest_17 at hX
    refine am_iload_n (pc := 17) C d_Mo_lowest_17 rfl rfl ?_
    refine am_bipush (pc := 18) (v := (30 : Int32)) C d_Mo_lowest_18 (by decide) ?_
    refine am_icmp_gt (pc := 20) (tgt := 67) C d_Mo_lowest_20 rfl hX (fun hX => ?_) (fun hX => ?_)
    · skip
      exact am_sub (am_le_n (am_le_n (am_le_s (am_le_n (am_le_0))))) (L_Mo_lowest_67 C hret hlk  v2 w hX)
    · skip
      refine am_aload_n (pc := 23) C d_Mo_lowest_23 rfl rfl ?_
      refine am_iload_n (pc := 24) C d_Mo_lowest_24 rfl rfl ?_
      refine am_iconst (pc := 25) (v := (-1 : Int32)) C d_Mo_lowest_25 (by decide) ?_
      refine am_callVi (pc := 26) (As := [.int v3, .int (-1 : Int32)]) (st := []) (cells1 := 0) (slots1 := 0) C (fun _ h => h.2) (fun _ h => by cases h.1) (fun q h => c_Mo_drawIn h) wd_5_61 wd_5_63 ws_Mo_drawIn wd_1_9 wd_5_64 rfl rfl hd_Mo_drawIn ⟨by decide, by decide⟩ rfl rfl (Nat.le_of_ble_eq_true rfl) d_Mo_lowest_26 ⟨by decide, by decide⟩ rfl rfl rfl hX (fun q4 hX => ?_)
      refine am_if_lt (pc := 29) (tgt := 67) C d_Mo_lowest_29 rfl hX (fun hX => ?_) (fun hX => ?_)
      · skip
        exact am_sub (am_le_n (am_le_n (am_le_s (am_le_n (am_le_0))))) (L_Mo_lowest_67 C hret hlk  v2 q4.2 hX)
      · skip
        refine am_aload_n (pc := 32) C d_Mo_lowest_32 rfl rfl ?_
        refine am_iload_n (pc := 33) C d_Mo_lowest_33 rfl rfl ?_
        refine am_aload_n (pc := 34) C d_Mo_lowest_34 rfl rfl ?_
        refine am_get (pc := 35) C hin_Mo rfl (by decide) wd_4_121 rfl d_Mo_lowest_35 rfl hX (fun x5 hX => ?_)
        refine am_iload_n (pc := 38) C d_Mo_lowest_38 rfl rfl ?_
        refine am_iadd (pc := 39) C d_Mo_lowest_39 ?_
        refine am_aload_n (pc := 40) C d_Mo_lowest_40 rfl rfl ?_
        refine am_iload_n (pc := 41) C d_Mo_lowest_41 rfl rfl ?_
        refine am_iconst (pc := 42) (v := (-1 : Int32)) C d_Mo_lowest_42 (by decide) ?_
        refine am_callVi (pc := 43) (As := [.int v3, .int (-1 : Int32)]) (st := [.int (x5 + v3), .int v1, .ref v0]) (cells1 := 0) (slots1 := 0) C (fun _ h => h.2) (fun _ h => by cases h.1) (fun q h => c_Mo_drawIn h) wd_5_61 wd_5_63 ws_Mo_drawIn wd_1_9 wd_5_64 rfl rfl hd_Mo_drawIn ⟨by decide, by decide⟩ rfl rfl (Nat.le_of_ble_eq_true rfl) d_Mo_lowest_43 ⟨by decide, by decide⟩ rfl rfl rfl hX (fun q6 hX => ?_)
        refine am_callVi (pc := 46) (As := [.int v1, .int (x5 + v3), .int q6.1]) (st := []) (cells1 := 0) (slots1 := 0) C (fun _ h => h.2) (fun _ h => by cases h.1) (fun q h => c_Mo_afterMinute h) wd_5_29 wd_5_31 ws_Mo_afterMinute wd_1_9 wd_5_32 rfl rfl hd_Mo_afterMinute ⟨by decide, by decide⟩ rfl rfl (Nat.le_of_ble_eq_true rfl) d_Mo_lowest_46 ⟨by decide, by decide⟩ rfl rfl rfl hX (fun q7 hX => ?_)
        refine am_istore_n (pc := 49) (lo1 := [some (.ref v0), some (.int q7.1), some (.int v2), some (.int v3)]) C d_Mo_lowest_49 rfl (by decide) rfl ?_
        refine am_iload_n (pc := 50) C d_Mo_lowest_50 rfl rfl ?_
        refine am_iload_n (pc := 51) C d_Mo_lowest_51 rfl rfl ?_
        refine am_icmp_ge (pc := 52) (tgt := 59) C d_Mo_lowest_52 rfl hX (fun hX => ?_) (fun hX => ?_)
        · skip
          refine am_iload_n (pc := 59) C d_Mo_lowest_59 rfl rfl ?_
          refine am_istore_n (pc := 60) (lo1 := [some (.ref v0), some (.int q7.1), some (.int v2), some (.int v3)]) C d_Mo_lowest_60 rfl (by decide) rfl ?_
          refine am_iinc (pc := 61) (y := (1 : Int32)) (lo1 := [some (.ref v0), some (.int q7.1), some (.int v2), some (.int (v3 + (1 : Int32)))]) C d_Mo_lowest_61 rfl (by decide) (by decide) rfl ?_
          refine am_goto (pc := 64) (tgt := 17) C d_Mo_lowest_64 rfl ?_
          exact (hk17 v0 q7.1 v2 (v3 + (1 : Int32)) q7.2 hX)
        · skip
          refine am_iload_n (pc := 55) C d_Mo_lowest_55 rfl rfl ?_
          refine am_goto (pc := 56) (tgt := 60) C d_Mo_lowest_56 rfl ?_
          refine am_istore_n (pc := 60) (lo1 := [some (.ref v0), some (.int q7.1), some (.int q7.1), some (.int v3)]) C d_Mo_lowest_60 rfl (by decide) rfl ?_
          refine am_iinc (pc := 61) (y := (1 : Int32)) (lo1 := [some (.ref v0), some (.int q7.1), some (.int q7.1), some (.int (v3 + (1 : Int32)))]) C d_Mo_lowest_61 rfl (by decide) (by decide) rfl ?_
          refine am_goto (pc := 64) (tgt := 17) C d_Mo_lowest_64 rfl ?_
          exact (hk17 v0 q7.1 q7.1 (v3 + (1 : Int32)) q7.2 hX)
def f_Mo_lowest (a0 : Nat) (w : am_w) : Option (Int32 × am_w) := ((am_fp 7 0 a0 (0 : Int32) w).bind fun w1 => ((am_fg 7 23 a0 w1).bind fun x2 => ((am_fg 7 23 a0 w1).bind fun x3 => (f_Mo_lowest_17  70 a0 x2 x3 (1 : Int32) w1))))
theorem hd_Mo_lowest : y_Mo_lowest.cls = "RoverMinutesModel" ∧ y_Mo_lowest.cls ≠ "java/lang/invoke/MethodHandle" ∧ y_Mo_lowest.cls ≠ "java/lang/invoke/VarHandle" ∧ (parseMethodDescriptor y_Mo_lowest.desc).map (fun d => d.parameters.length) = some 0 := ⟨rfl, by decide, by decide, by decide +kernel⟩
set_option maxHeartbeats 4000000 in
theorem c_Mo_lowest {l : Launch} {D : va_G} {A : Nat → Prop} {a0 : Nat} {w : am_w} {r : Int32 × am_w} (hX : f_Mo_lowest a0 w = some r) : am_Met l D classes tys A (am_F A true) y_Mo_lowest (Cond.code y_Mo_lowest b_Mo_lowest 4 (some .int) :: am_W) rm_Mo_lowest [.ref a0] w (am_ri r) 0 0 := by
  refine am_ofV (by decide) am_W_good (Nat.le_of_ble_eq_true rfl) (by simp [Value.category]) ?_
  intro p e s m below meth c C hret hlk hnm
  unfold f_Mo_lowest at hX
  refine am_aload_n (pc := 0) C d_Mo_lowest_0 rfl rfl ?_
  refine am_iconst (pc := 1) (v := (0 : Int32)) C d_Mo_lowest_1 (by decide) ?_
  refine am_put (pc := 2) C (fun _ h => ⟨rfl, h⟩) hin_Mo t_Mo t_Mo_ok n_Mo rfl (by decide) wd_4_100 rfl rfl (t_Mo_ok 0 (by decide)) rfl rfl rfl d_Mo_lowest_2 hX (fun w1 hX => ?_)
  refine am_aload_n (pc := 5) C d_Mo_lowest_5 rfl rfl ?_
  refine am_get (pc := 6) C hin_Mo rfl (by decide) wd_4_123 rfl d_Mo_lowest_6 rfl hX (fun x2 hX => ?_)
  refine am_istore_n (pc := 9) (lo1 := [some (.ref a0), some (.int x2), none, none]) C d_Mo_lowest_9 rfl (by decide) rfl ?_
  refine am_aload_n (pc := 10) C d_Mo_lowest_10 rfl rfl ?_
  refine am_get (pc := 11) C hin_Mo rfl (by decide) wd_4_123 rfl d_Mo_lowest_11 rfl hX (fun x3 hX => ?_)
  refine am_istore_n (pc := 14) (lo1 := [some (.ref a0), some (.int x2), some (.int x3), none]) C d_Mo_lowest_14 rfl (by decide) rfl ?_
  refine am_iconst (pc := 15) (v := (1 : Int32)) C d_Mo_lowest_15 (by decide) ?_
  refine am_istore_n (pc := 16) (lo1 := [some (.ref a0), some (.int x2), some (.int x3), some (.int (1 : Int32))]) C d_Mo_lowest_16 rfl (by decide) rfl ?_
  exact (L_Mo_lowest_17 C hret hlk  70 a0 x2 x3 (1 : Int32) w1 hX)
def rm_Mo_could : Room := { frames := 4, cells := 0, slots := 0, locals := 98 }
def s_Mo_could_14  (v0 : Nat) (v1 : Int32) (s0 : Int32) (s1 : Nat) (w : am_w) : Option (Int32 × am_w) := ((am_ob 7 s1 w (f_Mo_refused s1 s0 (0 : Int32) w)).bind fun q2 => (if q2.1 = 0 then ((am_fg 7 22 v0 q2.2).bind fun x3 => (if x3 = (1 : Int32) then ((am_ob 7 v0 q2.2 (f_Mo_mayStart v0 v1 q2.2)).bind fun q4 => (if q4.1 = 0 then (some ((0 : Int32), q4.2)) else (some ((1 : Int32), q4.2)))) else (some ((0 : Int32), q2.2)))) else (some ((0 : Int32), q2.2))))
set_option maxHeartbeats 4000000 in
theorem L_Mo_could_14 {p : Program} {l : Launch} {e : Env} {s : State} {m : MethodId} {args : Array Value} {below : List Frame} {meth : Method} {c : Code} {D : va_G} {A : Nat → Prop} {r : Int32 × am_w} (C : am_C p m c b_Mo_could 2 s args am_W "RoverMinutesModel" D classes A) (hret : meth.sig.returnType = (some .boolean)) (hlk : meth.locks = false)   : ∀ (v0 : Nat) (v1 : Int32) (s0 : Int32) (s1 : Nat) (w : am_w), s_Mo_could_14  v0 v1 s0 s1 w = some r → am_V p l e rm_Mo_could s m args below meth c D classes tys A (am_F A true) 2 0 0 (MQ below (am_Q D classes tys A (am_F A true) (am_ri r)) args s 0 0 (am_F A true)) 14 [some (.ref v0), some (.int v1)] [.int s0, .ref s1] w := by
  intro v0 v1 s0 s1 w hX
  unfold s_Mo_could_14 at hX
  refine am_iconst (pc := 14) (v := (0 : Int32)) C d_Mo_could_14 (by decide) ?_
  refine am_callVi (pc := 15) (As := [.int s0, .int (0 : Int32)]) (st := []) (cells1 := 0) (slots1 := 0) C (fun _ h => h.2) (fun _ h => h) (fun q h => c_Mo_refused h) wd_4_206 wd_4_208 ws_Mo_refused wd_1_9 wd_4_209 rfl rfl hd_Mo_refused ⟨by decide, by decide⟩ rfl rfl (Nat.le_of_ble_eq_true rfl) d_Mo_could_15 ⟨by decide, by decide⟩ rfl rfl rfl hX (fun q2 hX => ?_)
  refine am_if_ne (pc := 18) (tgt := 41) C d_Mo_could_18 rfl hX (fun hX => ?_) (fun hX => ?_)
  · skip
    refine am_iconst (pc := 41) (v := (0 : Int32)) C d_Mo_could_41 (by decide) ?_
    exact am_iret (pc := 42) C hret hlk d_Mo_could_42 am_n0 (by decide) (by decide) hX
  · skip
    refine am_aload_n (pc := 21) C d_Mo_could_21 rfl rfl ?_
    refine am_get (pc := 22) C hin_Mo rfl (by decide) wd_4_122 rfl d_Mo_could_22 rfl hX (fun x3 hX => ?_)
    refine am_iconst (pc := 25) (v := (1 : Int32)) C d_Mo_could_25 (by decide) ?_
    refine am_icmp_ne (pc := 26) (tgt := 41) C d_Mo_could_26 rfl hX (fun hX => ?_) (fun hX => ?_)
    · skip
      refine am_iconst (pc := 41) (v := (0 : Int32)) C d_Mo_could_41 (by decide) ?_
      exact am_iret (pc := 42) C hret hlk d_Mo_could_42 am_n0 (by decide) (by decide) hX
    · skip
      refine am_aload_n (pc := 29) C d_Mo_could_29 rfl rfl ?_
      refine am_iload_n (pc := 30) C d_Mo_could_30 rfl rfl ?_
      refine am_callVi (pc := 31) (As := [.int v1]) (st := []) (cells1 := 0) (slots1 := 0) C (fun _ h => h.2) (fun _ h => by cases h.1) (fun q h => c_Mo_mayStart h) wd_5_45 wd_5_47 ws_Mo_mayStart wd_1_9 wd_5_48 rfl rfl hd_Mo_mayStart ⟨by decide, by decide⟩ rfl rfl (Nat.le_of_ble_eq_true rfl) d_Mo_could_31 ⟨by decide, by decide⟩ rfl rfl rfl hX (fun q4 hX => ?_)
      refine am_if_eq (pc := 34) (tgt := 41) C d_Mo_could_34 rfl hX (fun hX => ?_) (fun hX => ?_)
      · skip
        refine am_iconst (pc := 41) (v := (0 : Int32)) C d_Mo_could_41 (by decide) ?_
        exact am_iret (pc := 42) C hret hlk d_Mo_could_42 am_n0 (by decide) (by decide) hX
      · skip
        refine am_iconst (pc := 37) (v := (1 : Int32)) C d_Mo_could_37 (by decide) ?_
        refine am_goto (pc := 38) (tgt := 42) C d_Mo_could_38 rfl ?_
        exact am_iret (pc := 42) C hret hlk d_Mo_could_42 am_n1 (by decide) (by decide) hX
def f_Mo_could (a0 : Nat) (a1 : Int32) (w : am_w) : Option (Int32 × am_w) := ((am_ob 7 a0 w (f_Mo_isActivity a0 a1 w)).bind fun q1 => (if q1.1 = 0 then (s_Mo_could_14  a0 a1 (1 : Int32) a0 q1.2) else (s_Mo_could_14  a0 a1 (0 : Int32) a0 q1.2)))
theorem hd_Mo_could : y_Mo_could.cls = "RoverMinutesModel" ∧ y_Mo_could.cls ≠ "java/lang/invoke/MethodHandle" ∧ y_Mo_could.cls ≠ "java/lang/invoke/VarHandle" ∧ (parseMethodDescriptor y_Mo_could.desc).map (fun d => d.parameters.length) = some 1 := ⟨rfl, by decide, by decide, by decide +kernel⟩
set_option maxHeartbeats 4000000 in
theorem c_Mo_could {l : Launch} {D : va_G} {A : Nat → Prop} {a0 : Nat} {a1 : Int32} {w : am_w} {r : Int32 × am_w} (hX : f_Mo_could a0 a1 w = some r) : am_Met l D classes tys A (am_F A true) y_Mo_could (Cond.code y_Mo_could b_Mo_could 2 (some .boolean) :: am_W) rm_Mo_could [.ref a0, .int a1] w (am_ri r) 0 0 := by
  refine am_ofV (by decide) am_W_good (Nat.le_of_ble_eq_true rfl) (by simp [Value.category]) ?_
  intro p e s m below meth c C hret hlk hnm
  unfold f_Mo_could at hX
  refine am_aload_n (pc := 0) C d_Mo_could_0 rfl rfl ?_
  refine am_aload_n (pc := 1) C d_Mo_could_1 rfl rfl ?_
  refine am_iload_n (pc := 2) C d_Mo_could_2 rfl rfl ?_
  refine am_callVi (pc := 3) (As := [.int a1]) (st := [.ref a0]) (cells1 := 0) (slots1 := 0) C (fun _ h => h.2) (fun _ h => by cases h.1) (fun q h => c_Mo_isActivity h) wd_5_97 wd_5_99 ws_Mo_isActivity wd_1_9 wd_5_100 rfl rfl hd_Mo_isActivity ⟨by decide, by decide⟩ rfl rfl (Nat.le_of_ble_eq_true rfl) d_Mo_could_3 ⟨by decide, by decide⟩ rfl rfl rfl hX (fun q1 hX => ?_)
  refine am_if_ne (pc := 6) (tgt := 13) C d_Mo_could_6 rfl hX (fun hX => ?_) (fun hX => ?_)
  · skip
    refine am_iconst (pc := 13) (v := (0 : Int32)) C d_Mo_could_13 (by decide) ?_
    exact (L_Mo_could_14 C hret hlk  a0 a1 (0 : Int32) a0 q1.2 hX)
  · skip
    refine am_iconst (pc := 9) (v := (1 : Int32)) C d_Mo_could_9 (by decide) ?_
    refine am_goto (pc := 10) (tgt := 14) C d_Mo_could_10 rfl ?_
    exact (L_Mo_could_14 C hret hlk  a0 a1 (1 : Int32) a0 q1.2 hX)
