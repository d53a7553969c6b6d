def rm_PlanReader_init : Room := { frames := 1, cells := 0, slots := 0, locals := 21 }
def f_PlanReader_init (a0 : Nat) (a1 : Nat) (w : am_w) : Option (Int32 × am_w) := ((am_rp 2 0 a0 a1 w).bind fun w1 => (some (0, w1)))
theorem hd_PlanReader_init : y_PlanReader_init.cls ≠ "java/lang/invoke/MethodHandle" ∧ y_PlanReader_init.cls ≠ "java/lang/invoke/VarHandle" ∧ (parseMethodDescriptor y_PlanReader_init.desc).map (fun d => d.parameters.length) = some 1 := ⟨by decide, by decide, by decide +kernel⟩
set_option maxHeartbeats 4000000 in
theorem c_PlanReader_init {l : Launch} {D : va_G} {A : Nat → Prop} {a0 : Nat} {a1 : Nat} {w : am_w} {r : Int32 × am_w} (hX : f_PlanReader_init a0 a1 w = some r) : am_Met l D classes tys A (am_F A true) y_PlanReader_init (Cond.code y_PlanReader_init b_PlanReader_init 2 none :: am_W) rm_PlanReader_init [.ref a0, .ref a1] w (am_rv r) 0 0 := by
  refine am_ofV (by decide) am_W_good (Nat.le_of_ble_eq_true rfl) (by simp [Value.category]) ?_
  intro p e s m below meth c C hret hlk hnm
  unfold f_PlanReader_init at hX
  refine am_aload_n (pc := 0) C d_PlanReader_init_0 rfl rfl ?_
  refine am_objInit (pc := 1) C wd_1_50 wd_1_27 wd_1_28 d_PlanReader_init_1 (by decide) (Nat.le_of_ble_eq_true rfl) ?_
  refine am_aload_n (pc := 4) C d_PlanReader_init_4 rfl rfl ?_
  refine am_aload_n (pc := 5) C d_PlanReader_init_5 rfl rfl ?_
  refine am_putrF (pc := 6) C (fun _ h => ⟨rfl, h⟩) hin_PlanReader t_PlanReader t_PlanReader_ok n_PlanReader rfl (by decide) wd_1_51 rfl rfl rfl hnm (t_PlanReader_ok 0 (by decide)) rfl rfl rfl d_PlanReader_init_6 hX (fun w1 hX => ?_)
  exact am_vret (pc := 9) C hret hlk d_PlanReader_init_9 (by decide) (by decide) hX
def rm_PlanReader_take : Room := { frames := 0, cells := 0, slots := 0, locals := 0 }
def f_PlanReader_take (a0 : Nat) (a1 : Int32) (w : am_w) : Option (Int32 × am_w) := ((am_fg 2 1 a0 w).bind fun x1 => ((am_rg 2 0 a0 w).bind fun b2 => ((am_fg 1 1 b2 w).bind fun x3 => (if x3 ≤ x1 then (some ((0 : Int32), w)) else ((am_rg 2 0 a0 w).bind fun b4 => ((am_rg 1 0 b4 w).bind fun b5 => ((am_fg 2 1 a0 w).bind fun x6 => ((am_cg b5 x6 w).bind fun x7 => (if x7 = a1 then ((am_fg 2 1 a0 w).bind fun x8 => ((am_fp 2 1 a0 (x8 + (1 : Int32)) w).bind fun w9 => (some ((1 : Int32), w9)))) else (some ((0 : Int32), w)))))))))))
theorem hd_PlanReader_take : y_PlanReader_take.cls = "RoverMinutes$PlanReader" ∧ y_PlanReader_take.cls ≠ "java/lang/invoke/MethodHandle" ∧ y_PlanReader_take.cls ≠ "java/lang/invoke/VarHandle" ∧ (parseMethodDescriptor y_PlanReader_take.desc).map (fun d => d.parameters.length) = some 1 := ⟨rfl, by decide, by decide, by decide +kernel⟩
set_option maxHeartbeats 4000000 in
theorem c_PlanReader_take {l : Launch} {D : va_G} {A : Nat → Prop} {a0 : Nat} {a1 : Int32} {w : am_w} {r : Int32 × am_w} (hX : f_PlanReader_take a0 a1 w = some r) : am_Met l D classes tys A (am_F A true) y_PlanReader_take (Cond.code y_PlanReader_take b_PlanReader_take 2 (some .boolean) :: am_W) rm_PlanReader_take [.ref a0, .int a1] w (am_ri r) 0 0 := by
  refine am_ofV (by decide) am_W_good (Nat.le_of_ble_eq_true rfl) (by simp [Value.category]) ?_
  intro p e s m below meth c C hret hlk hnm
  unfold f_PlanReader_take at hX
  refine am_aload_n (pc := 0) C d_PlanReader_take_0 rfl rfl ?_
  refine am_get (pc := 1) C hin_PlanReader rfl (by decide) wd_1_52 rfl d_PlanReader_take_1 rfl hX (fun x1 hX => ?_)
  refine am_aload_n (pc := 4) C d_PlanReader_take_4 rfl rfl ?_
  refine am_getr (pc := 5) C hin_PlanReader rfl (by decide) wd_1_51 rfl d_PlanReader_take_5 rfl hX (fun b2 hX => ?_)
  refine am_get (pc := 8) C hin_Line rfl (by decide) wd_1_37 rfl d_PlanReader_take_8 rfl hX (fun x3 hX => ?_)
  refine am_icmp_ge (pc := 11) (tgt := 30) C d_PlanReader_take_11 rfl hX (fun hX => ?_) (fun hX => ?_)
  · skip
    refine am_iconst (pc := 30) (v := (0 : Int32)) C d_PlanReader_take_30 (by decide) ?_
    exact am_iret (pc := 31) C hret hlk d_PlanReader_take_31 am_n0 (by decide) (by decide) hX
  · skip
    refine am_aload_n (pc := 14) C d_PlanReader_take_14 rfl rfl ?_
    refine am_getr (pc := 15) C hin_PlanReader rfl (by decide) wd_1_51 rfl d_PlanReader_take_15 rfl hX (fun b4 hX => ?_)
    refine am_getr (pc := 18) C hin_Line rfl (by decide) wd_1_36 rfl d_PlanReader_take_18 rfl hX (fun b5 hX => ?_)
    refine am_aload_n (pc := 21) C d_PlanReader_take_21 rfl rfl ?_
    refine am_get (pc := 22) C hin_PlanReader rfl (by decide) wd_1_52 rfl d_PlanReader_take_22 rfl hX (fun x6 hX => ?_)
    refine am_cald (pc := 25) C d_PlanReader_take_25 hX (fun x7 hX => ?_)
    refine am_iload_n (pc := 26) C d_PlanReader_take_26 rfl rfl ?_
    refine am_icmp_eq (pc := 27) (tgt := 32) C d_PlanReader_take_27 rfl hX (fun hX => ?_) (fun hX => ?_)
    · skip
      refine am_aload_n (pc := 32) C d_PlanReader_take_32 rfl rfl ?_
      refine am_dup (pc := 33) C d_PlanReader_take_33 rfl ?_
      refine am_get (pc := 34) C hin_PlanReader rfl (by decide) wd_1_52 rfl d_PlanReader_take_34 rfl hX (fun x8 hX => ?_)
      refine am_iconst (pc := 37) (v := (1 : Int32)) C d_PlanReader_take_37 (by decide) ?_
      refine am_iadd (pc := 38) C d_PlanReader_take_38 ?_
      refine am_put (pc := 39) C (fun _ h => ⟨rfl, h⟩) hin_PlanReader t_PlanReader t_PlanReader_ok n_PlanReader rfl (by decide) wd_1_52 rfl rfl (t_PlanReader_ok 1 (by decide)) rfl rfl rfl d_PlanReader_take_39 hX (fun w9 hX => ?_)
      refine am_iconst (pc := 42) (v := (1 : Int32)) C d_PlanReader_take_42 (by decide) ?_
      exact am_iret (pc := 43) C hret hlk d_PlanReader_take_43 am_n1 (by decide) (by decide) hX
    · skip
      refine am_iconst (pc := 30) (v := (0 : Int32)) C d_PlanReader_take_30 (by decide) ?_
      exact am_iret (pc := 31) C hret hlk d_PlanReader_take_31 am_n0 (by decide) (by decide) hX
def rm_PlanReader_takeDigit : Room := { frames := 0, cells := 0, slots := 0, locals := 0 }
def f_PlanReader_takeDigit (a0 : Nat) (w : am_w) : Option (Int32 × am_w) := ((am_fg 2 1 a0 w).bind fun x1 => ((am_rg 2 0 a0 w).bind fun b2 => ((am_fg 1 1 b2 w).bind fun x3 => (if x3 ≤ x1 then (some ((-1 : Int32), w)) else ((am_rg 2 0 a0 w).bind fun b4 => ((am_rg 1 0 b4 w).bind fun b5 => ((am_fg 2 1 a0 w).bind fun x6 => ((am_cg b5 x6 w).bind fun x7 => (if x7 < (48 : Int32) then (some ((-1 : Int32), w)) else ((am_rg 2 0 a0 w).bind fun b8 => ((am_rg 1 0 b8 w).bind fun b9 => ((am_fg 2 1 a0 w).bind fun x10 => ((am_cg b9 x10 w).bind fun x11 => (if x11 ≤ (57 : Int32) then ((am_rg 2 0 a0 w).bind fun b12 => ((am_rg 1 0 b12 w).bind fun b13 => ((am_fg 2 1 a0 w).bind fun x14 => ((am_cg b13 x14 w).bind fun x15 => ((am_fg 2 1 a0 w).bind fun x16 => ((am_fp 2 1 a0 (x16 + (1 : Int32)) w).bind fun w17 => (some ((x15 - (48 : Int32)), w17)))))))) else (some ((-1 : Int32), w))))))))))))))))
theorem hd_PlanReader_takeDigit : y_PlanReader_takeDigit.cls = "RoverMinutes$PlanReader" ∧ y_PlanReader_takeDigit.cls ≠ "java/lang/invoke/MethodHandle" ∧ y_PlanReader_takeDigit.cls ≠ "java/lang/invoke/VarHandle" ∧ (parseMethodDescriptor y_PlanReader_takeDigit.desc).map (fun d => d.parameters.length) = some 0 := ⟨rfl, by decide, by decide, by decide +kernel⟩
set_option maxHeartbeats 4000000 in
theorem c_PlanReader_takeDigit {l : Launch} {D : va_G} {A : Nat → Prop} {a0 : Nat} {w : am_w} {r : Int32 × am_w} (hX : f_PlanReader_takeDigit a0 w = some r) : am_Met l D classes tys A (am_F A true) y_PlanReader_takeDigit (Cond.code y_PlanReader_takeDigit b_PlanReader_takeDigit 2 (some .int) :: am_W) rm_PlanReader_takeDigit [.ref a0] w (am_ri r) 0 0 := by
  refine am_ofV (by decide) am_W_good (Nat.le_of_ble_eq_true rfl) (by simp [Value.category]) ?_
  intro p e s m below meth c C hret hlk hnm
  unfold f_PlanReader_takeDigit at hX
  refine am_aload_n (pc := 0) C d_PlanReader_takeDigit_0 rfl rfl ?_
  refine am_get (pc := 1) C hin_PlanReader rfl (by decide) wd_1_52 rfl d_PlanReader_takeDigit_1 rfl hX (fun x1 hX => ?_)
  refine am_aload_n (pc := 4) C d_PlanReader_takeDigit_4 rfl rfl ?_
  refine am_getr (pc := 5) C hin_PlanReader rfl (by decide) wd_1_51 rfl d_PlanReader_takeDigit_5 rfl hX (fun b2 hX => ?_)
  refine am_get (pc := 8) C hin_Line rfl (by decide) wd_1_37 rfl d_PlanReader_takeDigit_8 rfl hX (fun x3 hX => ?_)
  refine am_icmp_ge (pc := 11) (tgt := 48) C d_PlanReader_takeDigit_11 rfl hX (fun hX => ?_) (fun hX => ?_)
  · skip
    refine am_iconst (pc := 48) (v := (-1 : Int32)) C d_PlanReader_takeDigit_48 (by decide) ?_
    exact am_iret (pc := 49) C hret hlk d_PlanReader_takeDigit_49 rfl (by decide) (by decide) hX
  · skip
    refine am_aload_n (pc := 14) C d_PlanReader_takeDigit_14 rfl rfl ?_
    refine am_getr (pc := 15) C hin_PlanReader rfl (by decide) wd_1_51 rfl d_PlanReader_takeDigit_15 rfl hX (fun b4 hX => ?_)
    refine am_getr (pc := 18) C hin_Line rfl (by decide) wd_1_36 rfl d_PlanReader_takeDigit_18 rfl hX (fun b5 hX => ?_)
    refine am_aload_n (pc := 21) C d_PlanReader_takeDigit_21 rfl rfl ?_
    refine am_get (pc := 22) C hin_PlanReader rfl (by decide) wd_1_52 rfl d_PlanReader_takeDigit_22 rfl hX (fun x6 hX => ?_)
    refine am_cald (pc := 25) C d_PlanReader_takeDigit_25 hX (fun x7 hX => ?_)
    refine am_bipush (pc := 26) (v := (48 : Int32)) C d_PlanReader_takeDigit_26 (by decide) ?_
    refine am_icmp_lt (pc := 28) (tgt := 48) C d_PlanReader_takeDigit_28 rfl hX (fun hX => ?_) (fun hX => ?_)
    · skip
      refine am_iconst (pc := 48) (v := (-1 : Int32)) C d_PlanReader_takeDigit_48 (by decide) ?_
      exact am_iret (pc := 49) C hret hlk d_PlanReader_takeDigit_49 rfl (by decide) (by decide) hX
    · skip
      refine am_aload_n (pc := 31) C d_PlanReader_takeDigit_31 rfl rfl ?_
      refine am_getr (pc := 32) C hin_PlanReader rfl (by decide) wd_1_51 rfl d_PlanReader_takeDigit_32 rfl hX (fun b8 hX => ?_)
      refine am_getr (pc := 35) C hin_Line rfl (by decide) wd_1_36 rfl d_PlanReader_takeDigit_35 rfl hX (fun b9 hX => ?_)
      refine am_aload_n (pc := 38) C d_PlanReader_takeDigit_38 rfl rfl ?_
      refine am_get (pc := 39) C hin_PlanReader rfl (by decide) wd_1_52 rfl d_PlanReader_takeDigit_39 rfl hX (fun x10 hX => ?_)
      refine am_cald (pc := 42) C d_PlanReader_takeDigit_42 hX (fun x11 hX => ?_)
      refine am_bipush (pc := 43) (v := (57 : Int32)) C d_PlanReader_takeDigit_43 (by decide) ?_
      refine am_icmp_le (pc := 45) (tgt := 50) C d_PlanReader_takeDigit_45 rfl hX (fun hX => ?_) (fun hX => ?_)
      · skip
        refine am_aload_n (pc := 50) C d_PlanReader_takeDigit_50 rfl rfl ?_
        refine am_getr (pc := 51) C hin_PlanReader rfl (by decide) wd_1_51 rfl d_PlanReader_takeDigit_51 rfl hX (fun b12 hX => ?_)
        refine am_getr (pc := 54) C hin_Line rfl (by decide) wd_1_36 rfl d_PlanReader_takeDigit_54 rfl hX (fun b13 hX => ?_)
        refine am_aload_n (pc := 57) C d_PlanReader_takeDigit_57 rfl rfl ?_
        refine am_get (pc := 58) C hin_PlanReader rfl (by decide) wd_1_52 rfl d_PlanReader_takeDigit_58 rfl hX (fun x14 hX => ?_)
        refine am_cald (pc := 61) C d_PlanReader_takeDigit_61 hX (fun x15 hX => ?_)
        refine am_bipush (pc := 62) (v := (48 : Int32)) C d_PlanReader_takeDigit_62 (by decide) ?_
        refine am_isub (pc := 64) C d_PlanReader_takeDigit_64 ?_
        refine am_istore_n (pc := 65) (lo1 := [some (.ref a0), some (.int (x15 - (48 : Int32)))]) C d_PlanReader_takeDigit_65 rfl (by decide) rfl ?_
        refine am_aload_n (pc := 66) C d_PlanReader_takeDigit_66 rfl rfl ?_
        refine am_dup (pc := 67) C d_PlanReader_takeDigit_67 rfl ?_
        refine am_get (pc := 68) C hin_PlanReader rfl (by decide) wd_1_52 rfl d_PlanReader_takeDigit_68 rfl hX (fun x16 hX => ?_)
        refine am_iconst (pc := 71) (v := (1 : Int32)) C d_PlanReader_takeDigit_71 (by decide) ?_
        refine am_iadd (pc := 72) C d_PlanReader_takeDigit_72 ?_
        refine am_put (pc := 73) C (fun _ h => ⟨rfl, h⟩) hin_PlanReader t_PlanReader t_PlanReader_ok n_PlanReader rfl (by decide) wd_1_52 rfl rfl (t_PlanReader_ok 1 (by decide)) rfl rfl rfl d_PlanReader_takeDigit_73 hX (fun w17 hX => ?_)
        refine am_iload_n (pc := 76) C d_PlanReader_takeDigit_76 rfl rfl ?_
        exact am_iret (pc := 77) C hret hlk d_PlanReader_takeDigit_77 rfl (by decide) (by decide) hX
      · skip
        refine am_iconst (pc := 48) (v := (-1 : Int32)) C d_PlanReader_takeDigit_48 (by decide) ?_
        exact am_iret (pc := 49) C hret hlk d_PlanReader_takeDigit_49 rfl (by decide) (by decide) hX
def rm_PlanReader_takeNumber : Room := { frames := 1, cells := 0, slots := 0, locals := 21 }
def f_PlanReader_takeNumber (a0 : Nat) (w : am_w) : Option (Int32 × am_w) := ((am_ob 2 a0 w (f_PlanReader_takeDigit a0 w)).bind fun q1 => (if 0 < q1.1 then ((am_ob 2 a0 q1.2 (f_PlanReader_takeDigit a0 q1.2)).bind fun q2 => (if q2.1 = (-1 : Int32) then (some (q1.1, q2.2)) else (some ((((10 : Int32) * q1.1) + q2.1), q2.2)))) else (some (q1.1, q1.2))))
theorem hd_PlanReader_takeNumber : y_PlanReader_takeNumber.cls = "RoverMinutes$PlanReader" ∧ y_PlanReader_takeNumber.cls ≠ "java/lang/invoke/MethodHandle" ∧ y_PlanReader_takeNumber.cls ≠ "java/lang/invoke/VarHandle" ∧ (parseMethodDescriptor y_PlanReader_takeNumber.desc).map (fun d => d.parameters.length) = some 0 := ⟨rfl, by decide, by decide, by decide +kernel⟩
set_option maxHeartbeats 4000000 in
theorem c_PlanReader_takeNumber {l : Launch} {D : va_G} {A : Nat → Prop} {a0 : Nat} {w : am_w} {r : Int32 × am_w} (hX : f_PlanReader_takeNumber a0 w = some r) : am_Met l D classes tys A (am_F A true) y_PlanReader_takeNumber (Cond.code y_PlanReader_takeNumber b_PlanReader_takeNumber 3 (some .int) :: am_W) rm_PlanReader_takeNumber [.ref a0] w (am_ri r) 0 0 := by
  refine am_ofV (by decide) am_W_good (Nat.le_of_ble_eq_true rfl) (by simp [Value.category]) ?_
  intro p e s m below meth c C hret hlk hnm
  unfold f_PlanReader_takeNumber at hX
  refine am_aload_n (pc := 0) C d_PlanReader_takeNumber_0 rfl rfl ?_
  refine am_callVi (pc := 1) (As := []) (st := []) (cells1 := 0) (slots1 := 0) C (fun _ h => h.2) (fun _ h => h) (fun q h => c_PlanReader_takeDigit h) wd_2_223 wd_2_225 ws_PlanReader_takeDigit wd_1_3 wd_2_226 rfl rfl hd_PlanReader_takeDigit ⟨by decide, by decide⟩ rfl rfl (Nat.le_of_ble_eq_true rfl) d_PlanReader_takeNumber_1 ⟨by decide, by decide⟩ rfl rfl rfl hX (fun q1 hX => ?_)
  refine am_istore_n (pc := 4) (lo1 := [some (.ref a0), some (.int q1.1), none]) C d_PlanReader_takeNumber_4 rfl (by decide) rfl ?_
  refine am_iload_n (pc := 5) C d_PlanReader_takeNumber_5 rfl rfl ?_
  refine am_if_gt (pc := 6) (tgt := 11) C d_PlanReader_takeNumber_6 rfl hX (fun hX => ?_) (fun hX => ?_)
  · skip
    refine am_aload_n (pc := 11) C d_PlanReader_takeNumber_11 rfl rfl ?_
    refine am_callVi (pc := 12) (As := []) (st := []) (cells1 := 0) (slots1 := 0) C (fun _ h => h.2) (fun _ h => h) (fun q h => c_PlanReader_takeDigit h) wd_2_223 wd_2_225 ws_PlanReader_takeDigit wd_1_3 wd_2_226 rfl rfl hd_PlanReader_takeDigit ⟨by decide, by decide⟩ rfl rfl (Nat.le_of_ble_eq_true rfl) d_PlanReader_takeNumber_12 ⟨by decide, by decide⟩ rfl rfl rfl hX (fun q2 hX => ?_)
    refine am_istore_n (pc := 15) (lo1 := [some (.ref a0), some (.int q1.1), some (.int q2.1)]) C d_PlanReader_takeNumber_15 rfl (by decide) rfl ?_
    refine am_iload_n (pc := 16) C d_PlanReader_takeNumber_16 rfl rfl ?_
    refine am_iconst (pc := 17) (v := (-1 : Int32)) C d_PlanReader_takeNumber_17 (by decide) ?_
    refine am_icmp_ne (pc := 18) (tgt := 25) C d_PlanReader_takeNumber_18 rfl hX (fun hX => ?_) (fun hX => ?_)
    · skip
      refine am_bipush (pc := 25) (v := (10 : Int32)) C d_PlanReader_takeNumber_25 (by decide) ?_
      refine am_iload_n (pc := 27) C d_PlanReader_takeNumber_27 rfl rfl ?_
      refine am_imul (pc := 28) C d_PlanReader_takeNumber_28 ?_
      refine am_iload_n (pc := 29) C d_PlanReader_takeNumber_29 rfl rfl ?_
      refine am_iadd (pc := 30) C d_PlanReader_takeNumber_30 ?_
      exact am_iret (pc := 31) C hret hlk d_PlanReader_takeNumber_31 rfl (by decide) (by decide) hX
    · skip
      refine am_iload_n (pc := 21) C d_PlanReader_takeNumber_21 rfl rfl ?_
      refine am_goto (pc := 22) (tgt := 31) C d_PlanReader_takeNumber_22 rfl ?_
      exact am_iret (pc := 31) C hret hlk d_PlanReader_takeNumber_31 rfl (by decide) (by decide) hX
  · skip
    refine am_iload_n (pc := 9) C d_PlanReader_takeNumber_9 rfl rfl ?_
    exact am_iret (pc := 10) C hret hlk d_PlanReader_takeNumber_10 rfl (by decide) (by decide) hX
def rm_PlanReader_readTimes : Room := { frames := 2, cells := 0, slots := 0, locals := 43 }
def f_PlanReader_readTimes (a0 : Nat) (a1 : Nat) (a2 : Int32) (w : am_w) : Option (Int32 × am_w) := ((am_ob 2 a0 w (f_PlanReader_take a0 a2 w)).bind fun q1 => (if q1.1 = 0 then (some ((0 : Int32), q1.2)) else ((am_ob 2 a0 q1.2 (f_PlanReader_takeNumber a0 q1.2)).bind fun q2 => ((am_fp 6 0 a1 q2.1 q2.2).bind fun w3 => ((am_fg 6 0 a1 w3).bind fun x4 => (if x4 = (-1 : Int32) then (some ((0 : Int32), w3)) else ((am_ob 2 a0 w3 (f_PlanReader_take a0 (45 : Int32) w3)).bind fun q5 => (if q5.1 = 0 then (some ((0 : Int32), q5.2)) else ((am_ob 2 a0 q5.2 (f_PlanReader_takeNumber a0 q5.2)).bind fun q6 => ((am_fp 6 1 a1 q6.1 q6.2).bind fun w7 => ((am_fg 6 1 a1 w7).bind fun x8 => (if x8 = (-1 : Int32) then (some ((0 : Int32), w7)) else (some ((1 : Int32), w7))))))))))))))
theorem hd_PlanReader_readTimes : y_PlanReader_readTimes.cls = "RoverMinutes$PlanReader" ∧ y_PlanReader_readTimes.cls ≠ "java/lang/invoke/MethodHandle" ∧ y_PlanReader_readTimes.cls ≠ "java/lang/invoke/VarHandle" ∧ (parseMethodDescriptor y_PlanReader_readTimes.desc).map (fun d => d.parameters.length) = some 2 := ⟨rfl, by decide, by decide, by decide +kernel⟩
set_option maxHeartbeats 4000000 in
theorem c_PlanReader_readTimes {l : Launch} {D : va_G} {A : Nat → Prop} {a0 : Nat} {a1 : Nat} {a2 : Int32} {w : am_w} {r : Int32 × am_w} (hX : f_PlanReader_readTimes a0 a1 a2 w = some r) : am_Met l D classes tys A (am_F A true) y_PlanReader_readTimes (Cond.code y_PlanReader_readTimes b_PlanReader_readTimes 3 (some .boolean) :: am_W) rm_PlanReader_readTimes [.ref a0, .ref a1, .int a2] w (am_ri r) 0 0 := by
  refine am_ofV (by decide) am_W_good (Nat.le_of_ble_eq_true rfl) (by simp [Value.category]) ?_
  intro p e s m below meth c C hret hlk hnm
  unfold f_PlanReader_readTimes at hX
  refine am_aload_n (pc := 0) C d_PlanReader_readTimes_0 rfl rfl ?_
  refine am_iload_n (pc := 1) C d_PlanReader_readTimes_1 rfl rfl ?_
  refine am_callVi (pc := 2) (As := [.int a2]) (st := []) (cells1 := 0) (slots1 := 0) C (fun _ h => h.2) (fun _ h => h) (fun q h => c_PlanReader_take h) wd_2_211 wd_2_213 ws_PlanReader_take wd_1_3 wd_2_214 rfl rfl hd_PlanReader_take ⟨by decide, by decide⟩ rfl rfl (Nat.le_of_ble_eq_true rfl) d_PlanReader_readTimes_2 ⟨by decide, by decide⟩ rfl rfl rfl hX (fun q1 hX => ?_)
  refine am_if_ne (pc := 5) (tgt := 10) C d_PlanReader_readTimes_5 rfl hX (fun hX => ?_) (fun hX => ?_)
  · skip
    refine am_aload_n (pc := 10) C d_PlanReader_readTimes_10 rfl rfl ?_
    refine am_aload_n (pc := 11) C d_PlanReader_readTimes_11 rfl rfl ?_
    refine am_callVi (pc := 12) (As := []) (st := [.ref a1]) (cells1 := 0) (slots1 := 0) C (fun _ h => h.2) (fun _ h => h) (fun q h => c_PlanReader_takeNumber h) wd_2_219 wd_2_221 ws_PlanReader_takeNumber wd_1_3 wd_2_222 rfl rfl hd_PlanReader_takeNumber ⟨by decide, by decide⟩ rfl rfl (Nat.le_of_ble_eq_true rfl) d_PlanReader_readTimes_12 ⟨by decide, by decide⟩ rfl rfl rfl hX (fun q2 hX => ?_)
    refine am_put (pc := 15) C (fun _ h => ⟨rfl, h⟩) hin_Activity t_Activity t_Activity_ok n_Activity rfl (by decide) wd_1_142 rfl rfl (t_Activity_ok 0 (by decide)) rfl rfl rfl d_PlanReader_readTimes_15 hX (fun w3 hX => ?_)
    refine am_aload_n (pc := 18) C d_PlanReader_readTimes_18 rfl rfl ?_
    refine am_get (pc := 19) C hin_Activity rfl (by decide) wd_1_142 rfl d_PlanReader_readTimes_19 rfl hX (fun x4 hX => ?_)
    refine am_iconst (pc := 22) (v := (-1 : Int32)) C d_PlanReader_readTimes_22 (by decide) ?_
    refine am_icmp_eq (pc := 23) (tgt := 35) C d_PlanReader_readTimes_23 rfl hX (fun hX => ?_) (fun hX => ?_)
    · skip
      refine am_iconst (pc := 35) (v := (0 : Int32)) C d_PlanReader_readTimes_35 (by decide) ?_
      exact am_iret (pc := 36) C hret hlk d_PlanReader_readTimes_36 am_n0 (by decide) (by decide) hX
    · skip
      refine am_aload_n (pc := 26) C d_PlanReader_readTimes_26 rfl rfl ?_
      refine am_bipush (pc := 27) (v := (45 : Int32)) C d_PlanReader_readTimes_27 (by decide) ?_
      refine am_callVi (pc := 29) (As := [.int (45 : Int32)]) (st := []) (cells1 := 0) (slots1 := 0) C (fun _ h => h.2) (fun _ h => h) (fun q h => c_PlanReader_take h) wd_2_211 wd_2_213 ws_PlanReader_take wd_1_3 wd_2_214 rfl rfl hd_PlanReader_take ⟨by decide, by decide⟩ rfl rfl (Nat.le_of_ble_eq_true rfl) d_PlanReader_readTimes_29 ⟨by decide, by decide⟩ rfl rfl rfl hX (fun q5 hX => ?_)
      refine am_if_ne (pc := 32) (tgt := 37) C d_PlanReader_readTimes_32 rfl hX (fun hX => ?_) (fun hX => ?_)
      · skip
        refine am_aload_n (pc := 37) C d_PlanReader_readTimes_37 rfl rfl ?_
        refine am_aload_n (pc := 38) C d_PlanReader_readTimes_38 rfl rfl ?_
        refine am_callVi (pc := 39) (As := []) (st := [.ref a1]) (cells1 := 0) (slots1 := 0) C (fun _ h => h.2) (fun _ h => h) (fun q h => c_PlanReader_takeNumber h) wd_2_219 wd_2_221 ws_PlanReader_takeNumber wd_1_3 wd_2_222 rfl rfl hd_PlanReader_takeNumber ⟨by decide, by decide⟩ rfl rfl (Nat.le_of_ble_eq_true rfl) d_PlanReader_readTimes_39 ⟨by decide, by decide⟩ rfl rfl rfl hX (fun q6 hX => ?_)
        refine am_put (pc := 42) C (fun _ h => ⟨rfl, h⟩) hin_Activity t_Activity t_Activity_ok n_Activity rfl (by decide) wd_1_146 rfl rfl (t_Activity_ok 1 (by decide)) rfl rfl rfl d_PlanReader_readTimes_42 hX (fun w7 hX => ?_)
        refine am_aload_n (pc := 45) C d_PlanReader_readTimes_45 rfl rfl ?_
        refine am_get (pc := 46) C hin_Activity rfl (by decide) wd_1_146 rfl d_PlanReader_readTimes_46 rfl hX (fun x8 hX => ?_)
        refine am_iconst (pc := 49) (v := (-1 : Int32)) C d_PlanReader_readTimes_49 (by decide) ?_
        refine am_icmp_eq (pc := 50) (tgt := 57) C d_PlanReader_readTimes_50 rfl hX (fun hX => ?_) (fun hX => ?_)
        · skip
          refine am_iconst (pc := 57) (v := (0 : Int32)) C d_PlanReader_readTimes_57 (by decide) ?_
          exact am_iret (pc := 58) C hret hlk d_PlanReader_readTimes_58 am_n0 (by decide) (by decide) hX
        · skip
          refine am_iconst (pc := 53) (v := (1 : Int32)) C d_PlanReader_readTimes_53 (by decide) ?_
          refine am_goto (pc := 54) (tgt := 58) C d_PlanReader_readTimes_54 rfl ?_
          exact am_iret (pc := 58) C hret hlk d_PlanReader_readTimes_58 am_n1 (by decide) (by decide) hX
      · skip
        refine am_iconst (pc := 35) (v := (0 : Int32)) C d_PlanReader_readTimes_35 (by decide) ?_
        exact am_iret (pc := 36) C hret hlk d_PlanReader_readTimes_36 am_n0 (by decide) (by decide) hX
  · skip
    refine am_iconst (pc := 8) (v := (0 : Int32)) C d_PlanReader_readTimes_8 (by decide) ?_
    exact am_iret (pc := 9) C hret hlk d_PlanReader_readTimes_9 am_n0 (by decide) (by decide) hX
def rm_PlanReader_readValue : Room := { frames := 2, cells := 0, slots := 0, locals := 43 }
def f_PlanReader_readValue (a0 : Nat) (a1 : Nat) (a2 : Int32) (w : am_w) : Option (Int32 × am_w) := ((am_ob 2 a0 w (f_PlanReader_takeNumber a0 w)).bind fun q1 => (if q1.1 = (-1 : Int32) then (some ((0 : Int32), q1.2)) else (if a2 = (0 : Int32) then ((am_fp 6 2 a1 q1.1 q1.2).bind fun w2 => (some ((1 : Int32), w2))) else (if a2 = (1 : Int32) then ((am_fp 6 3 a1 q1.1 q1.2).bind fun w3 => (some ((1 : Int32), w3))) else (if a2 = (2 : Int32) then ((am_fp 6 4 a1 q1.1 q1.2).bind fun w4 => (some ((1 : Int32), w4))) else (if a2 = (3 : Int32) then ((am_fp 6 5 a1 q1.1 q1.2).bind fun w5 => (some ((1 : Int32), w5))) else ((am_fp 6 6 a1 q1.1 q1.2).bind fun w6 => (some ((1 : Int32), w6)))))))))
theorem hd_PlanReader_readValue : y_PlanReader_readValue.cls = "RoverMinutes$PlanReader" ∧ y_PlanReader_readValue.cls ≠ "java/lang/invoke/MethodHandle" ∧ y_PlanReader_readValue.cls ≠ "java/lang/invoke/VarHandle" ∧ (parseMethodDescriptor y_PlanReader_readValue.desc).map (fun d => d.parameters.length) = some 2 := ⟨rfl, by decide, by decide, by decide +kernel⟩
set_option maxHeartbeats 4000000 in
theorem c_PlanReader_readValue {l : Launch} {D : va_G} {A : Nat → Prop} {a0 : Nat} {a1 : Nat} {a2 : Int32} {w : am_w} {r : Int32 × am_w} (hX : f_PlanReader_readValue a0 a1 a2 w = some r) : am_Met l D classes tys A (am_F A true) y_PlanReader_readValue (Cond.code y_PlanReader_readValue b_PlanReader_readValue 4 (some .boolean) :: am_W) rm_PlanReader_readValue [.ref a0, .ref a1, .int a2] w (am_ri r) 0 0 := by
  refine am_ofV (by decide) am_W_good (Nat.le_of_ble_eq_true rfl) (by simp [Value.category]) ?_
  intro p e s m below meth c C hret hlk hnm
  unfold f_PlanReader_readValue at hX
  refine am_aload_n (pc := 0) C d_PlanReader_readValue_0 rfl rfl ?_
  refine am_callVi (pc := 1) (As := []) (st := []) (cells1 := 0) (slots1 := 0) C (fun _ h => h.2) (fun _ h => h) (fun q h => c_PlanReader_takeNumber h) wd_2_219 wd_2_221 ws_PlanReader_takeNumber wd_1_3 wd_2_222 rfl rfl hd_PlanReader_takeNumber ⟨by decide, by decide⟩ rfl rfl (Nat.le_of_ble_eq_true rfl) d_PlanReader_readValue_1 ⟨by decide, by decide⟩ rfl rfl rfl hX (fun q1 hX => ?_)
  refine am_istore_n (pc := 4) (lo1 := [some (.ref a0), some (.ref a1), some (.int a2), some (.int q1.1)]) C d_PlanReader_readValue_4 rfl (by decide) rfl ?_
  refine am_iload_n (pc := 5) C d_PlanReader_readValue_5 rfl rfl ?_
  refine am_iconst (pc := 6) (v := (-1 : Int32)) C d_PlanReader_readValue_6 (by decide) ?_
  refine am_icmp_ne (pc := 7) (tgt := 12) C d_PlanReader_readValue_7 rfl hX (fun hX => ?_) (fun hX => ?_)
  · skip
    refine am_iload_n (pc := 12) C d_PlanReader_readValue_12 rfl rfl ?_
    refine am_tsw (pc := 13) (k := (0 : Int32)) (tgt := 44) C d_PlanReader_readValue_13 (by decide) (by decide) rfl rfl hX (fun hX => ?_) (fun hn13_0 hX => ?_)
    · skip
      refine am_aload_n (pc := 44) C d_PlanReader_readValue_44 rfl rfl ?_
      refine am_iload_n (pc := 45) C d_PlanReader_readValue_45 rfl rfl ?_
      refine am_put (pc := 46) C (fun _ h => ⟨rfl, h⟩) hin_Activity t_Activity t_Activity_ok n_Activity rfl (by decide) wd_1_150 rfl rfl (t_Activity_ok 2 (by decide)) rfl rfl rfl d_PlanReader_readValue_46 hX (fun w2 hX => ?_)
      refine am_goto (pc := 49) (tgt := 81) C d_PlanReader_readValue_49 rfl ?_
      refine am_iconst (pc := 81) (v := (1 : Int32)) C d_PlanReader_readValue_81 (by decide) ?_
      exact am_iret (pc := 82) C hret hlk d_PlanReader_readValue_82 am_n1 (by decide) (by decide) hX
    refine am_tsw (pc := 13) (k := (1 : Int32)) (tgt := 52) C d_PlanReader_readValue_13 (by decide) (by decide) rfl rfl hX (fun hX => ?_) (fun hn13_1 hX => ?_)
    · skip
      refine am_aload_n (pc := 52) C d_PlanReader_readValue_52 rfl rfl ?_
      refine am_iload_n (pc := 53) C d_PlanReader_readValue_53 rfl rfl ?_
      refine am_put (pc := 54) C (fun _ h => ⟨rfl, h⟩) hin_Activity t_Activity t_Activity_ok n_Activity rfl (by decide) wd_1_153 rfl rfl (t_Activity_ok 3 (by decide)) rfl rfl rfl d_PlanReader_readValue_54 hX (fun w3 hX => ?_)
      refine am_goto (pc := 57) (tgt := 81) C d_PlanReader_readValue_57 rfl ?_
      refine am_iconst (pc := 81) (v := (1 : Int32)) C d_PlanReader_readValue_81 (by decide) ?_
      exact am_iret (pc := 82) C hret hlk d_PlanReader_readValue_82 am_n1 (by decide) (by decide) hX
    refine am_tsw (pc := 13) (k := (2 : Int32)) (tgt := 60) C d_PlanReader_readValue_13 (by decide) (by decide) rfl rfl hX (fun hX => ?_) (fun hn13_2 hX => ?_)
    · skip
      refine am_aload_n (pc := 60) C d_PlanReader_readValue_60 rfl rfl ?_
      refine am_iload_n (pc := 61) C d_PlanReader_readValue_61 rfl rfl ?_
      refine am_put (pc := 62) C (fun _ h => ⟨rfl, h⟩) hin_Activity t_Activity t_Activity_ok n_Activity rfl (by decide) wd_1_157 rfl rfl (t_Activity_ok 4 (by decide)) rfl rfl rfl d_PlanReader_readValue_62 hX (fun w4 hX => ?_)
      refine am_goto (pc := 65) (tgt := 81) C d_PlanReader_readValue_65 rfl ?_
      refine am_iconst (pc := 81) (v := (1 : Int32)) C d_PlanReader_readValue_81 (by decide) ?_
      exact am_iret (pc := 82) C hret hlk d_PlanReader_readValue_82 am_n1 (by decide) (by decide) hX
    refine am_tsw (pc := 13) (k := (3 : Int32)) (tgt := 68) C d_PlanReader_readValue_13 (by decide) (by decide) rfl rfl hX (fun hX => ?_) (fun hn13_3 hX => ?_)
    · skip
      refine am_aload_n (pc := 68) C d_PlanReader_readValue_68 rfl rfl ?_
      refine am_iload_n (pc := 69) C d_PlanReader_readValue_69 rfl rfl ?_
      refine am_put (pc := 70) C (fun _ h => ⟨rfl, h⟩) hin_Activity t_Activity t_Activity_ok n_Activity rfl (by decide) wd_1_161 rfl rfl (t_Activity_ok 5 (by decide)) rfl rfl rfl d_PlanReader_readValue_70 hX (fun w5 hX => ?_)
      refine am_goto (pc := 73) (tgt := 81) C d_PlanReader_readValue_73 rfl ?_
      refine am_iconst (pc := 81) (v := (1 : Int32)) C d_PlanReader_readValue_81 (by decide) ?_
      exact am_iret (pc := 82) C hret hlk d_PlanReader_readValue_82 am_n1 (by decide) (by decide) hX
    have hout : Int32.toInt a2 < 0 ∨ 3 < Int32.toInt a2 := by
      have q60 := am_ne (k := 0) hn13_0 (by decide)
      have q61 := am_ne (k := 1) hn13_1 (by decide)
      have q62 := am_ne (k := 2) hn13_2 (by decide)
      have q63 := am_ne (k := 3) hn13_3 (by decide)
      omega
    refine am_tableOut (pc := 13) (tgt := 76) C d_PlanReader_readValue_13 hout rfl ?_
    refine am_aload_n (pc := 76) C d_PlanReader_readValue_76 rfl rfl ?_
    refine am_iload_n (pc := 77) C d_PlanReader_readValue_77 rfl rfl ?_
    refine am_put (pc := 78) C (fun _ h => ⟨rfl, h⟩) hin_Activity t_Activity t_Activity_ok n_Activity rfl (by decide) wd_1_164 rfl rfl (t_Activity_ok 6 (by decide)) rfl rfl rfl d_PlanReader_readValue_78 hX (fun w6 hX => ?_)
    refine am_iconst (pc := 81) (v := (1 : Int32)) C d_PlanReader_readValue_81 (by decide) ?_
    exact am_iret (pc := 82) C hret hlk d_PlanReader_readValue_82 am_n1 (by decide) (by decide) hX
  · skip
    refine am_iconst (pc := 10) (v := (0 : Int32)) C d_PlanReader_readValue_10 (by decide) ?_
    exact am_iret (pc := 11) C hret hlk d_PlanReader_readValue_11 am_n0 (by decide) (by decide) hX
def rm_PlanReader_readLink : Room := { frames := 0, cells := 0, slots := 0, locals := 0 }
def f_PlanReader_readLink (a0 : Nat) (a1 : Nat) (a2 : Int32) (w : am_w) : Option (Int32 × am_w) := ((am_fg 2 1 a0 w).bind fun x1 => ((am_rg 2 0 a0 w).bind fun b2 => ((am_fg 1 1 b2 w).bind fun x3 => (if x3 ≤ x1 then (some ((0 : Int32), w)) else ((am_rg 2 0 a0 w).bind fun b4 => ((am_rg 1 0 b4 w).bind fun b5 => ((am_fg 2 1 a0 w).bind fun x6 => ((am_cg b5 x6 w).bind fun x7 => (if x7 < (97 : Int32) then (some ((0 : Int32), w)) else ((am_rg 2 0 a0 w).bind fun b8 => ((am_rg 1 0 b8 w).bind fun b9 => ((am_fg 2 1 a0 w).bind fun x10 => ((am_cg b9 x10 w).bind fun x11 => (if x11 ≤ (122 : Int32) then ((am_rg 2 0 a0 w).bind fun b12 => ((am_rg 1 0 b12 w).bind fun b13 => ((am_fg 2 1 a0 w).bind fun x14 => ((am_cg b13 x14 w).bind fun x15 => ((am_fg 2 1 a0 w).bind fun x16 => ((am_fp 2 1 a0 (x16 + (1 : Int32)) w).bind fun w17 => (if a2 = (62 : Int32) then ((am_fg 6 7 a1 w17).bind fun x20 => ((am_fp 6 7 a1 (x20 ||| ((1 : Int32) <<< ((x15 - (97 : Int32)) &&& 31))) w17).bind fun w21 => (some ((1 : Int32), w21)))) else ((am_fg 6 8 a1 w17).bind fun x18 => ((am_fp 6 8 a1 (x18 ||| ((1 : Int32) <<< ((x15 - (97 : Int32)) &&& 31))) w17).bind fun w19 => (some ((1 : Int32), w19))))))))))) else (some ((0 : Int32), w))))))))))))))))
theorem hd_PlanReader_readLink : y_PlanReader_readLink.cls = "RoverMinutes$PlanReader" ∧ y_PlanReader_readLink.cls ≠ "java/lang/invoke/MethodHandle" ∧ y_PlanReader_readLink.cls ≠ "java/lang/invoke/VarHandle" ∧ (parseMethodDescriptor y_PlanReader_readLink.desc).map (fun d => d.parameters.length) = some 2 := ⟨rfl, by decide, by decide, by decide +kernel⟩
set_option maxHeartbeats 4000000 in
theorem c_PlanReader_readLink {l : Launch} {D : va_G} {A : Nat → Prop} {a0 : Nat} {a1 : Nat} {a2 : Int32} {w : am_w} {r : Int32 × am_w} (hX : f_PlanReader_readLink a0 a1 a2 w = some r) : am_Met l D classes tys A (am_F A true) y_PlanReader_readLink (Cond.code y_PlanReader_readLink b_PlanReader_readLink 4 (some .boolean) :: am_W) rm_PlanReader_readLink [.ref a0, .ref a1, .int a2] w (am_ri r) 0 0 := by
  refine am_ofV (by decide) am_W_good (Nat.le_of_ble_eq_true rfl) (by simp [Value.category]) ?_
  intro p e s m below meth c C hret hlk hnm
  unfold f_PlanReader_readLink at hX
  refine am_aload_n (pc := 0) C d_PlanReader_readLink_0 rfl rfl ?_
  refine am_get (pc := 1) C hin_PlanReader rfl (by decide) wd_1_52 rfl d_PlanReader_readLink_1 rfl hX (fun x1 hX => ?_)
  refine am_aload_n (pc := 4) C d_PlanReader_readLink_4 rfl rfl ?_
  refine am_getr (pc := 5) C hin_PlanReader rfl (by decide) wd_1_51 rfl d_PlanReader_readLink_5 rfl hX (fun b2 hX => ?_)
  refine am_get (pc := 8) C hin_Line rfl (by decide) wd_1_37 rfl d_PlanReader_readLink_8 rfl hX (fun x3 hX => ?_)
  refine am_icmp_ge (pc := 11) (tgt := 48) C d_PlanReader_readLink_11 rfl hX (fun hX => ?_) (fun hX => ?_)
  · skip
    refine am_iconst (pc := 48) (v := (0 : Int32)) C d_PlanReader_readLink_48 (by decide) ?_
    exact am_iret (pc := 49) C hret hlk d_PlanReader_readLink_49 am_n0 (by decide) (by decide) hX
  · skip
    refine am_aload_n (pc := 14) C d_PlanReader_readLink_14 rfl rfl ?_
    refine am_getr (pc := 15) C hin_PlanReader rfl (by decide) wd_1_51 rfl d_PlanReader_readLink_15 rfl hX (fun b4 hX => ?_)
    refine am_getr (pc := 18) C hin_Line rfl (by decide) wd_1_36 rfl d_PlanReader_readLink_18 rfl hX (fun b5 hX => ?_)
    refine am_aload_n (pc := 21) C d_PlanReader_readLink_21 rfl rfl ?_
    refine am_get (pc := 22) C hin_PlanReader rfl (by decide) wd_1_52 rfl d_PlanReader_readLink_22 rfl hX (fun x6 hX => ?_)
    refine am_cald (pc := 25) C d_PlanReader_readLink_25 hX (fun x7 hX => ?_)
    refine am_bipush (pc := 26) (v := (97 : Int32)) C d_PlanReader_readLink_26 (by decide) ?_
    refine am_icmp_lt (pc := 28) (tgt := 48) C d_PlanReader_readLink_28 rfl hX (fun hX => ?_) (fun hX => ?_)
    · skip
      refine am_iconst (pc := 48) (v := (0 : Int32)) C d_PlanReader_readLink_48 (by decide) ?_
      exact am_iret (pc := 49) C hret hlk d_PlanReader_readLink_49 am_n0 (by decide) (by decide) hX
    · skip
      refine am_aload_n (pc := 31) C d_PlanReader_readLink_31 rfl rfl ?_
      refine am_getr (pc := 32) C hin_PlanReader rfl (by decide) wd_1_51 rfl d_PlanReader_readLink_32 rfl hX (fun b8 hX => ?_)
      refine am_getr (pc := 35) C hin_Line rfl (by decide) wd_1_36 rfl d_PlanReader_readLink_35 rfl hX (fun b9 hX => ?_)
      refine am_aload_n (pc := 38) C d_PlanReader_readLink_38 rfl rfl ?_
      refine am_get (pc := 39) C hin_PlanReader rfl (by decide) wd_1_52 rfl d_PlanReader_readLink_39 rfl hX (fun x10 hX => ?_)
      refine am_cald (pc := 42) C d_PlanReader_readLink_42 hX (fun x11 hX => ?_)
      refine am_bipush (pc := 43) (v := (122 : Int32)) C d_PlanReader_readLink_43 (by decide) ?_
      refine am_icmp_le (pc := 45) (tgt := 50) C d_PlanReader_readLink_45 rfl hX (fun hX => ?_) (fun hX => ?_)
      · skip
        refine am_iconst (pc := 50) (v := (1 : Int32)) C d_PlanReader_readLink_50 (by decide) ?_
        refine am_aload_n (pc := 51) C d_PlanReader_readLink_51 rfl rfl ?_
        refine am_getr (pc := 52) C hin_PlanReader rfl (by decide) wd_1_51 rfl d_PlanReader_readLink_52 rfl hX (fun b12 hX => ?_)
        refine am_getr (pc := 55) C hin_Line rfl (by decide) wd_1_36 rfl d_PlanReader_readLink_55 rfl hX (fun b13 hX => ?_)
        refine am_aload_n (pc := 58) C d_PlanReader_readLink_58 rfl rfl ?_
        refine am_get (pc := 59) C hin_PlanReader rfl (by decide) wd_1_52 rfl d_PlanReader_readLink_59 rfl hX (fun x14 hX => ?_)
        refine am_cald (pc := 62) C d_PlanReader_readLink_62 hX (fun x15 hX => ?_)
        refine am_bipush (pc := 63) (v := (97 : Int32)) C d_PlanReader_readLink_63 (by decide) ?_
        refine am_isub (pc := 65) C d_PlanReader_readLink_65 ?_
        refine am_ishl (pc := 66) C d_PlanReader_readLink_66 ?_
        refine am_istore_n (pc := 67) (lo1 := [some (.ref a0), some (.ref a1), some (.int a2), some (.int ((1 : Int32) <<< ((x15 - (97 : Int32)) &&& 31)))]) C d_PlanReader_readLink_67 rfl (by decide) rfl ?_
        refine am_aload_n (pc := 68) C d_PlanReader_readLink_68 rfl rfl ?_
        refine am_dup (pc := 69) C d_PlanReader_readLink_69 rfl ?_
        refine am_get (pc := 70) C hin_PlanReader rfl (by decide) wd_1_52 rfl d_PlanReader_readLink_70 rfl hX (fun x16 hX => ?_)
        refine am_iconst (pc := 73) (v := (1 : Int32)) C d_PlanReader_readLink_73 (by decide) ?_
        refine am_iadd (pc := 74) C d_PlanReader_readLink_74 ?_
        refine am_put (pc := 75) C (fun _ h => ⟨rfl, h⟩) hin_PlanReader t_PlanReader t_PlanReader_ok n_PlanReader rfl (by decide) wd_1_52 rfl rfl (t_PlanReader_ok 1 (by decide)) rfl rfl rfl d_PlanReader_readLink_75 hX (fun w17 hX => ?_)
        refine am_iload_n (pc := 78) C d_PlanReader_readLink_78 rfl rfl ?_
        refine am_bipush (pc := 79) (v := (62 : Int32)) C d_PlanReader_readLink_79 (by decide) ?_
        refine am_icmp_ne (pc := 81) (tgt := 97) C d_PlanReader_readLink_81 rfl hX (fun hX => ?_) (fun hX => ?_)
        · skip
          refine am_aload_n (pc := 97) C d_PlanReader_readLink_97 rfl rfl ?_
          refine am_dup (pc := 98) C d_PlanReader_readLink_98 rfl ?_
          refine am_get (pc := 99) C hin_Activity rfl (by decide) wd_1_170 rfl d_PlanReader_readLink_99 rfl hX (fun x18 hX => ?_)
          refine am_iload_n (pc := 102) C d_PlanReader_readLink_102 rfl rfl ?_
          refine am_ior (pc := 103) C d_PlanReader_readLink_103 ?_
          refine am_put (pc := 104) C (fun _ h => ⟨rfl, h⟩) hin_Activity t_Activity t_Activity_ok n_Activity rfl (by decide) wd_1_170 rfl rfl (t_Activity_ok 8 (by decide)) rfl rfl rfl d_PlanReader_readLink_104 hX (fun w19 hX => ?_)
          refine am_iconst (pc := 107) (v := (1 : Int32)) C d_PlanReader_readLink_107 (by decide) ?_
          exact am_iret (pc := 108) C hret hlk d_PlanReader_readLink_108 am_n1 (by decide) (by decide) hX
        · skip
          refine am_aload_n (pc := 84) C d_PlanReader_readLink_84 rfl rfl ?_
          refine am_dup (pc := 85) C d_PlanReader_readLink_85 rfl ?_
          refine am_get (pc := 86) C hin_Activity rfl (by decide) wd_1_167 rfl d_PlanReader_readLink_86 rfl hX (fun x20 hX => ?_)
          refine am_iload_n (pc := 89) C d_PlanReader_readLink_89 rfl rfl ?_
          refine am_ior (pc := 90) C d_PlanReader_readLink_90 ?_
          refine am_put (pc := 91) C (fun _ h => ⟨rfl, h⟩) hin_Activity t_Activity t_Activity_ok n_Activity rfl (by decide) wd_1_167 rfl rfl (t_Activity_ok 7 (by decide)) rfl rfl rfl d_PlanReader_readLink_91 hX (fun w21 hX => ?_)
          refine am_goto (pc := 94) (tgt := 107) C d_PlanReader_readLink_94 rfl ?_
          refine am_iconst (pc := 107) (v := (1 : Int32)) C d_PlanReader_readLink_107 (by decide) ?_
          exact am_iret (pc := 108) C hret hlk d_PlanReader_readLink_108 am_n1 (by decide) (by decide) hX
      · skip
        refine am_iconst (pc := 48) (v := (0 : Int32)) C d_PlanReader_readLink_48 (by decide) ?_
        exact am_iret (pc := 49) C hret hlk d_PlanReader_readLink_49 am_n0 (by decide) (by decide) hX
def rm_PlanReader_readOptions : Room := { frames := 4, cells := 0, slots := 0, locals := 91 }
def s_PlanReader_readOptions_106 (k4 : Nat → Nat → Int32 → Int32 → am_w → Option (Int32 × am_w)) (v0 : Nat) (v1 : Nat) (v2 : Int32) (v3 : Int32) (v4 : Int32) (w : am_w) : Option (Int32 × am_w) := ((am_fg 2 1 v0 w).bind fun x9 => ((am_fp 2 1 v0 (x9 + (1 : Int32)) w).bind fun w10 => ((am_ob 2 v0 w10 (f_PlanReader_readLink v0 v1 v4 w10)).bind fun q11 => (if q11.1 = 0 then (some ((0 : Int32), q11.2)) else (k4 v0 v1 v2 (v3 + (1 : Int32)) q11.2)))))
set_option maxHeartbeats 4000000 in
theorem L_PlanReader_readOptions_106 {p : Program} {l : Launch} {e : Env} {s : State} {m : MethodId} {args : Array Value} {below : List Frame} {meth : Method} {c : Code} {D : va_G} {A : Nat → Prop} {r : Int32 × am_w} (C : am_C p m c b_PlanReader_readOptions 6 s args am_W "RoverMinutes$PlanReader" D classes A) (hret : meth.sig.returnType = (some .boolean)) (hlk : meth.locks = false) {k4 : Nat → Nat → Int32 → Int32 → am_w → Option (Int32 × am_w)} (hk4 : ∀ (v0 : Nat) (v1 : Nat) (v2 : Int32) (v3 : Int32) (w : am_w), k4 v0 v1 v2 v3 w = some r → am_V p l e rm_PlanReader_readOptions s m args below meth c D classes tys A (am_F A true) 6 0 0 (MQ below (am_Q D classes tys A (am_F A true) (am_ri r)) args s 0 0 (am_F A true)) 4 [some (.ref v0), some (.ref v1), some (.int v2), some (.int v3), none, none] [] w) : ∀ (v0 : Nat) (v1 : Nat) (v2 : Int32) (v3 : Int32) (v4 : Int32) (w : am_w), s_PlanReader_readOptions_106 k4 v0 v1 v2 v3 v4 w = some r → am_V p l e rm_PlanReader_readOptions s m args below meth c D classes tys A (am_F A true) 6 0 0 (MQ below (am_Q D classes tys A (am_F A true) (am_ri r)) args s 0 0 (am_F A true)) 106 [some (.ref v0), some (.ref v1), some (.int v2), some (.int v3), some (.int v4), none] [] w := by
  intro v0 v1 v2 v3 v4 w hX
  unfold s_PlanReader_readOptions_106 at hX
  refine am_aload_n (pc := 106) C d_PlanReader_readOptions_106 rfl rfl ?_
  refine am_dup (pc := 107) C d_PlanReader_readOptions_107 rfl ?_
  refine am_get (pc := 108) C hin_PlanReader rfl (by decide) wd_1_52 rfl d_PlanReader_readOptions_108 rfl hX (fun x9 hX => ?_)
  refine am_iconst (pc := 111) (v := (1 : Int32)) C d_PlanReader_readOptions_111 (by decide) ?_
  refine am_iadd (pc := 112) C d_PlanReader_readOptions_112 ?_
  refine am_put (pc := 113) C (fun _ h => ⟨rfl, h⟩) hin_PlanReader t_PlanReader t_PlanReader_ok n_PlanReader rfl (by decide) wd_1_52 rfl rfl (t_PlanReader_ok 1 (by decide)) rfl rfl rfl d_PlanReader_readOptions_113 hX (fun w10 hX => ?_)
  refine am_aload_n (pc := 116) C d_PlanReader_readOptions_116 rfl rfl ?_
  refine am_aload_n (pc := 117) C d_PlanReader_readOptions_117 rfl rfl ?_
  refine am_iload (pc := 118) C d_PlanReader_readOptions_118 rfl ?_
  refine am_callVi (pc := 120) (As := [.ref v1, .int v4]) (st := []) (cells1 := 0) (slots1 := 0) C (fun _ h => h.2) (fun _ h => h) (fun q h => c_PlanReader_readLink h) wd_3_78 wd_3_80 ws_PlanReader_readLink wd_1_3 wd_3_81 rfl rfl hd_PlanReader_readLink ⟨by decide, by decide⟩ rfl rfl (Nat.le_of_ble_eq_true rfl) d_PlanReader_readOptions_120 ⟨by decide, by decide⟩ rfl rfl rfl hX (fun q11 hX => ?_)
  refine am_if_ne (pc := 123) (tgt := 130) C d_PlanReader_readOptions_123 rfl hX (fun hX => ?_) (fun hX => ?_)
  · skip
    refine am_iinc (pc := 130) (y := (1 : Int32)) (lo1 := [some (.ref v0), some (.ref v1), some (.int v2), some (.int (v3 + (1 : Int32))), some (.int v4), none]) C d_PlanReader_readOptions_130 rfl (by decide) (by decide) rfl ?_
    refine am_goto (pc := 133) (tgt := 4) C d_PlanReader_readOptions_133 rfl ?_
    exact am_sub (am_le_s (am_le_s (am_le_s (am_le_s (am_le_n (am_le_n (am_le_0))))))) (hk4 v0 v1 v2 (v3 + (1 : Int32)) q11.2 hX)
  · skip
    refine am_iconst (pc := 126) (v := (0 : Int32)) C d_PlanReader_readOptions_126 (by decide) ?_
    exact am_iret (pc := 127) C hret hlk d_PlanReader_readOptions_127 am_n0 (by decide) (by decide) hX
def s_PlanReader_readOptions_4 (k4 : Nat → Nat → Int32 → Int32 → am_w → Option (Int32 × am_w)) (v0 : Nat) (v1 : Nat) (v2 : Int32) (v3 : Int32) (w : am_w) : Option (Int32 × am_w) := (if (64 : Int32) ≤ v3 then (some ((1 : Int32), w)) else ((am_fg 2 1 v0 w).bind fun x1 => ((am_rg 2 0 v0 w).bind fun b2 => ((am_fg 1 1 b2 w).bind fun x3 => (if x3 ≤ x1 then (some ((1 : Int32), w)) else ((am_rg 2 0 v0 w).bind fun b4 => ((am_rg 1 0 b4 w).bind fun b5 => ((am_fg 2 1 v0 w).bind fun x6 => ((am_cg b5 x6 w).bind fun x7 => ((f_Str_indexOf x7 w).bind fun q8 => (if q8.1 < 0 then (if x7 = (62 : Int32) then (s_PlanReader_readOptions_106 k4 v0 v1 v2 v3 x7 q8.2) else (if x7 = (47 : Int32) then (s_PlanReader_readOptions_106 k4 v0 v1 v2 v3 x7 q8.2) else (some ((1 : Int32), q8.2)))) else (if ((v2 >>> (q8.1 &&& 31)) &&& (1 : Int32)) = 0 then ((am_fg 2 1 v0 q8.2).bind fun x12 => ((am_fp 2 1 v0 (x12 + (1 : Int32)) q8.2).bind fun w13 => ((am_ob 2 v0 w13 (f_PlanReader_readValue v0 v1 q8.1 w13)).bind fun q14 => (if q14.1 = 0 then (some ((0 : Int32), q14.2)) else (k4 v0 v1 (v2 ||| ((1 : Int32) <<< (q8.1 &&& 31))) (v3 + (1 : Int32)) q14.2))))) else (some ((0 : Int32), q8.2))))))))))))))
def f_PlanReader_readOptions_4  (n : Nat) : Nat → Nat → Int32 → Int32 → am_w → Option (Int32 × am_w) := am_it (fun _ _ _ _ _ => none) (s_PlanReader_readOptions_4 ) n
set_option maxHeartbeats 4000000 in
theorem L_PlanReader_readOptions_4 {p : Program} {l : Launch} {e : Env} {s : State} {m : MethodId} {args : Array Value} {below : List Frame} {meth : Method} {c : Code} {D : va_G} {A : Nat → Prop} {r : Int32 × am_w} (C : am_C p m c b_PlanReader_readOptions 6 s args am_W "RoverMinutes$PlanReader" D classes A) (hret : meth.sig.returnType = (some .boolean)) (hlk : meth.locks = false)   (n : Nat) : ∀ (v0 : Nat) (v1 : Nat) (v2 : Int32) (v3 : Int32) (w : am_w), f_PlanReader_readOptions_4  n v0 v1 v2 v3 w = some r → am_V p l e rm_PlanReader_readOptions s m args below meth c D classes tys A (am_F A true) 6 0 0 (MQ below (am_Q D classes tys A (am_F A true) (am_ri r)) args s 0 0 (am_F A true)) 4 [some (.ref v0), some (.ref v1), some (.int v2), some (.int v3), none, none] [] w := by
  refine am_it_ind (P := fun (t : Nat → Nat → Int32 → Int32 → am_w → Option (Int32 × am_w)) => ∀ (v0 : Nat) (v1 : Nat) (v2 : Int32) (v3 : Int32) (w : am_w), t v0 v1 v2 v3 w = some r → am_V p l e rm_PlanReader_readOptions s m args below meth c D classes tys A (am_F A true) 6 0 0 (MQ below (am_Q D classes tys A (am_F A true) (am_ri r)) args s 0 0 (am_F A true)) 4 [some (.ref v0), some (.ref v1), some (.int v2), some (.int v3), none, none] [] w) ?_ ?_ n
  · intro v0 v1 v2 v3 w hX
    exact (am_nn hX).elim
  · intro k4 hk4 v0 v1 v2 v3 w hX
    unfold s_PlanReader_readOptions_4 at hX
    refine am_iload_n (pc := 4) C d_PlanReader_readOptions_4 rfl rfl ?_
    refine am_bipush (pc := 5) (v := (64 : Int32)) C d_PlanReader_readOptions_5 (by decide) ?_
    refine am_icmp_ge (pc := 7) (tgt := 136) C d_PlanReader_readOptions_7 rfl hX (fun hX => ?_) (fun hX => ?_)
    · skip
      refine am_iconst (pc := 136) (v := (1 : Int32)) C d_PlanReader_readOptions_136 (by decide) ?_
      exact am_iret (pc := 137) C hret hlk d_PlanReader_readOptions_137 am_n1 (by decide) (by decide) hX
    · skip
      refine am_aload_n (pc := 10) C d_PlanReader_readOptions_10 rfl rfl ?_
      refine am_get (pc := 11) C hin_PlanReader rfl (by decide) wd_1_52 rfl d_PlanReader_readOptions_11 rfl hX (fun x1 hX => ?_)
      refine am_aload_n (pc := 14) C d_PlanReader_readOptions_14 rfl rfl ?_
      refine am_getr (pc := 15) C hin_PlanReader rfl (by decide) wd_1_51 rfl d_PlanReader_readOptions_15 rfl hX (fun b2 hX => ?_)
      refine am_get (pc := 18) C hin_Line rfl (by decide) wd_1_37 rfl d_PlanReader_readOptions_18 rfl hX (fun x3 hX => ?_)
      refine am_icmp_ge (pc := 21) (tgt := 136) C d_PlanReader_readOptions_21 rfl hX (fun hX => ?_) (fun hX => ?_)
      · skip
        refine am_iconst (pc := 136) (v := (1 : Int32)) C d_PlanReader_readOptions_136 (by decide) ?_
        exact am_iret (pc := 137) C hret hlk d_PlanReader_readOptions_137 am_n1 (by decide) (by decide) hX
      · skip
        refine am_aload_n (pc := 24) C d_PlanReader_readOptions_24 rfl rfl ?_
        refine am_getr (pc := 25) C hin_PlanReader rfl (by decide) wd_1_51 rfl d_PlanReader_readOptions_25 rfl hX (fun b4 hX => ?_)
        refine am_getr (pc := 28) C hin_Line rfl (by decide) wd_1_36 rfl d_PlanReader_readOptions_28 rfl hX (fun b5 hX => ?_)
        refine am_aload_n (pc := 31) C d_PlanReader_readOptions_31 rfl rfl ?_
        refine am_get (pc := 32) C hin_PlanReader rfl (by decide) wd_1_52 rfl d_PlanReader_readOptions_32 rfl hX (fun x6 hX => ?_)
        refine am_cald (pc := 35) C d_PlanReader_readOptions_35 hX (fun x7 hX => ?_)
        refine am_istore (pc := 36) (lo1 := [some (.ref v0), some (.ref v1), some (.int v2), some (.int v3), some (.int x7), none]) C d_PlanReader_readOptions_36 (by decide) rfl ?_
        refine am_ldcK (pc := 38) C rfl d_PlanReader_readOptions_38 ?_
        refine am_iload (pc := 40) C d_PlanReader_readOptions_40 rfl ?_
        refine am_callK (pc := 42) (As := [.int x7]) (st := []) (cells1 := 0) (slots1 := 0) C (fun _ h => h.2) (fun _ h => by cases h.1) (fun q h => c_Str_indexOf h) wd_2_232 wd_2_233 wd_2_234 wd_1_15 wd_2_235 rfl rfl hd_Str_indexOf ⟨by decide, by decide⟩ rfl (Nat.le_of_ble_eq_true rfl) d_PlanReader_readOptions_42 ⟨by decide, by decide⟩ rfl rfl rfl hX (fun q8 hX => ?_)
        refine am_istore (pc := 45) (lo1 := [some (.ref v0), some (.ref v1), some (.int v2), some (.int v3), some (.int x7), some (.int q8.1)]) C d_PlanReader_readOptions_45 (by decide) rfl ?_
        refine am_iload (pc := 47) C d_PlanReader_readOptions_47 rfl ?_
        refine am_if_lt (pc := 49) (tgt := 92) C d_PlanReader_readOptions_49 rfl hX (fun hX => ?_) (fun hX => ?_)
        · skip
          refine am_iload (pc := 92) C d_PlanReader_readOptions_92 rfl ?_
          refine am_bipush (pc := 94) (v := (62 : Int32)) C d_PlanReader_readOptions_94 (by decide) ?_
          refine am_icmp_eq (pc := 96) (tgt := 106) C d_PlanReader_readOptions_96 rfl hX (fun hX => ?_) (fun hX => ?_)
          · skip
            exact am_sub (am_le_s (am_le_s (am_le_s (am_le_s (am_le_s (am_le_n (am_le_0))))))) (L_PlanReader_readOptions_106 C hret hlk hk4 v0 v1 v2 v3 x7 q8.2 hX)
          · skip
            refine am_iload (pc := 99) C d_PlanReader_readOptions_99 rfl ?_
            refine am_bipush (pc := 101) (v := (47 : Int32)) C d_PlanReader_readOptions_101 (by decide) ?_
            refine am_icmp_ne (pc := 103) (tgt := 128) C d_PlanReader_readOptions_103 rfl hX (fun hX => ?_) (fun hX => ?_)
            · skip
              refine am_iconst (pc := 128) (v := (1 : Int32)) C d_PlanReader_readOptions_128 (by decide) ?_
              exact am_iret (pc := 129) C hret hlk d_PlanReader_readOptions_129 am_n1 (by decide) (by decide) hX
            · skip
              exact am_sub (am_le_s (am_le_s (am_le_s (am_le_s (am_le_s (am_le_n (am_le_0))))))) (L_PlanReader_readOptions_106 C hret hlk hk4 v0 v1 v2 v3 x7 q8.2 hX)
        · skip
          refine am_iload_n (pc := 52) C d_PlanReader_readOptions_52 rfl rfl ?_
          refine am_iload (pc := 53) C d_PlanReader_readOptions_53 rfl ?_
          refine am_ishr (pc := 55) C d_PlanReader_readOptions_55 ?_
          refine am_iconst (pc := 56) (v := (1 : Int32)) C d_PlanReader_readOptions_56 (by decide) ?_
          refine am_iand (pc := 57) C d_PlanReader_readOptions_57 ?_
          refine am_if_eq (pc := 58) (tgt := 63) C d_PlanReader_readOptions_58 rfl hX (fun hX => ?_) (fun hX => ?_)
          · skip
            refine am_iload_n (pc := 63) C d_PlanReader_readOptions_63 rfl rfl ?_
            refine am_iconst (pc := 64) (v := (1 : Int32)) C d_PlanReader_readOptions_64 (by decide) ?_
            refine am_iload (pc := 65) C d_PlanReader_readOptions_65 rfl ?_
            refine am_ishl (pc := 67) C d_PlanReader_readOptions_67 ?_
            refine am_ior (pc := 68) C d_PlanReader_readOptions_68 ?_
            refine am_istore_n (pc := 69) (lo1 := [some (.ref v0), some (.ref v1), some (.int (v2 ||| ((1 : Int32) <<< (q8.1 &&& 31)))), some (.int v3), some (.int x7), some (.int q8.1)]) C d_PlanReader_readOptions_69 rfl (by decide) rfl ?_
            refine am_aload_n (pc := 70) C d_PlanReader_readOptions_70 rfl rfl ?_
            refine am_dup (pc := 71) C d_PlanReader_readOptions_71 rfl ?_
            refine am_get (pc := 72) C hin_PlanReader rfl (by decide) wd_1_52 rfl d_PlanReader_readOptions_72 rfl hX (fun x12 hX => ?_)
            refine am_iconst (pc := 75) (v := (1 : Int32)) C d_PlanReader_readOptions_75 (by decide) ?_
            refine am_iadd (pc := 76) C d_PlanReader_readOptions_76 ?_
            refine am_put (pc := 77) C (fun _ h => ⟨rfl, h⟩) hin_PlanReader t_PlanReader t_PlanReader_ok n_PlanReader rfl (by decide) wd_1_52 rfl rfl (t_PlanReader_ok 1 (by decide)) rfl rfl rfl d_PlanReader_readOptions_77 hX (fun w13 hX => ?_)
            refine am_aload_n (pc := 80) C d_PlanReader_readOptions_80 rfl rfl ?_
            refine am_aload_n (pc := 81) C d_PlanReader_readOptions_81 rfl rfl ?_
            refine am_iload (pc := 82) C d_PlanReader_readOptions_82 rfl ?_
            refine am_callVi (pc := 84) (As := [.ref v1, .int q8.1]) (st := []) (cells1 := 0) (slots1 := 0) C (fun _ h => h.2) (fun _ h => h) (fun q h => c_PlanReader_readValue h) wd_3_74 wd_3_76 ws_PlanReader_readValue wd_1_3 wd_3_77 rfl rfl hd_PlanReader_readValue ⟨by decide, by decide⟩ rfl rfl (Nat.le_of_ble_eq_true rfl) d_PlanReader_readOptions_84 ⟨by decide, by decide⟩ rfl rfl rfl hX (fun q14 hX => ?_)
            refine am_if_ne (pc := 87) (tgt := 130) C d_PlanReader_readOptions_87 rfl hX (fun hX => ?_) (fun hX => ?_)
            · skip
              refine am_iinc (pc := 130) (y := (1 : Int32)) (lo1 := [some (.ref v0), some (.ref v1), some (.int (v2 ||| ((1 : Int32) <<< (q8.1 &&& 31)))), some (.int (v3 + (1 : Int32))), some (.int x7), some (.int q8.1)]) C d_PlanReader_readOptions_130 rfl (by decide) (by decide) rfl ?_
              refine am_goto (pc := 133) (tgt := 4) C d_PlanReader_readOptions_133 rfl ?_
              exact am_sub (am_le_s (am_le_s (am_le_s (am_le_s (am_le_n (am_le_n (am_le_0))))))) (hk4 v0 v1 (v2 ||| ((1 : Int32) <<< (q8.1 &&& 31))) (v3 + (1 : Int32)) q14.2 hX)
            · skip
              refine am_iconst (pc := 90) (v := (0 : Int32)) C d_PlanReader_readOptions_90 (by decide) ?_
              exact am_iret (pc := 91) C hret hlk d_PlanReader_readOptions_91 am_n0 (by decide) (by decide) hX
          · skip
            refine am_iconst (pc := 61) (v := (0 : Int32)) C d_PlanReader_readOptions_61 (by decide) ?_
            exact am_iret (pc := 62) C hret hlk d_PlanReader_readOptions_62 am_n0 (by decide) (by decide) hX
def f_PlanReader_readOptions (a0 : Nat) (a1 : Nat) (w : am_w) : Option (Int32 × am_w) := (f_PlanReader_readOptions_4  70 a0 a1 (0 : Int32) (0 : Int32) w)
theorem hd_PlanReader_readOptions : y_PlanReader_readOptions.cls = "RoverMinutes$PlanReader" ∧ y_PlanReader_readOptions.cls ≠ "java/lang/invoke/MethodHandle" ∧ y_PlanReader_readOptions.cls ≠ "java/lang/invoke/VarHandle" ∧ (parseMethodDescriptor y_PlanReader_readOptions.desc).map (fun d => d.parameters.length) = some 1 := ⟨rfl, by decide, by decide, by decide +kernel⟩
set_option maxHeartbeats 4000000 in
theorem c_PlanReader_readOptions {l : Launch} {D : va_G} {A : Nat → Prop} {a0 : Nat} {a1 : Nat} {w : am_w} {r : Int32 × am_w} (hX : f_PlanReader_readOptions a0 a1 w = some r) : am_Met l D classes tys A (am_F A true) y_PlanReader_readOptions (Cond.code y_PlanReader_readOptions b_PlanReader_readOptions 6 (some .boolean) :: am_W) rm_PlanReader_readOptions [.ref a0, .ref a1] w (am_ri r) 0 0 := by
  refine am_ofV (by decide) am_W_good (Nat.le_of_ble_eq_true rfl) (by simp [Value.category]) ?_
  intro p e s m below meth c C hret hlk hnm
  unfold f_PlanReader_readOptions at hX
  refine am_iconst (pc := 0) (v := (0 : Int32)) C d_PlanReader_readOptions_0 (by decide) ?_
  refine am_istore_n (pc := 1) (lo1 := [some (.ref a0), some (.ref a1), some (.int (0 : Int32)), none, none, none]) C d_PlanReader_readOptions_1 rfl (by decide) rfl ?_
  refine am_iconst (pc := 2) (v := (0 : Int32)) C d_PlanReader_readOptions_2 (by decide) ?_
  refine am_istore_n (pc := 3) (lo1 := [some (.ref a0), some (.ref a1), some (.int (0 : Int32)), some (.int (0 : Int32)), none, none]) C d_PlanReader_readOptions_3 rfl (by decide) rfl ?_
  exact (L_PlanReader_readOptions_4 C hret hlk  70 a0 a1 (0 : Int32) (0 : Int32) w hX)
def rm_PlanReader_read : Room := { frames := 5, cells := 0, slots := 0, locals := 116 }
def s_PlanReader_read_58  (v0 : Nat) (w : am_w) : Option (Int32 × am_w) := ((am_fg 2 1 v0 w).bind fun x7 => (some ((x7 + (1 : Int32)), w)))
set_option maxHeartbeats 4000000 in
theorem L_PlanReader_read_58 {p : Program} {l : Launch} {e : Env} {s : State} {m : MethodId} {args : Array Value} {below : List Frame} {meth : Method} {c : Code} {D : va_G} {A : Nat → Prop} {r : Int32 × am_w} (C : am_C p m c b_PlanReader_read 4 s args am_W "RoverMinutes$PlanReader" D classes A) (hret : meth.sig.returnType = (some .int)) (hlk : meth.locks = false)   : ∀ (v0 : Nat) (w : am_w), s_PlanReader_read_58  v0 w = some r → am_V p l e rm_PlanReader_read s m args below meth c D classes tys A (am_F A true) 4 0 0 (MQ below (am_Q D classes tys A (am_F A true) (am_ri r)) args s 0 0 (am_F A true)) 58 [some (.ref v0), none, none, none] [] w := by
  intro v0 w hX
  unfold s_PlanReader_read_58 at hX
  refine am_aload_n (pc := 58) C d_PlanReader_read_58 rfl rfl ?_
  refine am_get (pc := 59) C hin_PlanReader rfl (by decide) wd_1_52 rfl d_PlanReader_read_59 rfl hX (fun x7 hX => ?_)
  refine am_iconst (pc := 62) (v := (1 : Int32)) C d_PlanReader_read_62 (by decide) ?_
  refine am_iadd (pc := 63) C d_PlanReader_read_63 ?_
  exact am_iret (pc := 64) C hret hlk d_PlanReader_read_64 rfl (by decide) (by decide) hX
def s_PlanReader_read_37 (k7 : Nat → Nat → Int32 → am_w → Option (Int32 × am_w)) (v0 : Nat) (v1 : Nat) (v2 : Int32) (v3 : Nat) (w : am_w) : Option (Int32 × am_w) := ((am_ob 2 v0 w (f_PlanReader_readTimes v0 v3 (((Int32.toUInt32 ((97 : Int32) + v2)) % 65536).toInt32) w)).bind fun q6 => (if q6.1 = 0 then (s_PlanReader_read_58  v0 q6.2) else ((am_ob 2 v0 q6.2 (f_PlanReader_readOptions v0 v3 q6.2)).bind fun q8 => (if q8.1 = 0 then (s_PlanReader_read_58  v0 q8.2) else ((am_fp 5 1 v1 (v2 + (1 : Int32)) q8.2).bind fun w9 => ((am_fg 2 1 v0 w9).bind fun x10 => ((am_rg 2 0 v0 w9).bind fun b11 => ((am_fg 1 1 b11 w9).bind fun x12 => (if x10 = x12 then (some ((0 : Int32), w9)) else (k7 v0 v1 (v2 + (1 : Int32)) w9))))))))))
set_option maxHeartbeats 4000000 in
theorem L_PlanReader_read_37 {p : Program} {l : Launch} {e : Env} {s : State} {m : MethodId} {args : Array Value} {below : List Frame} {meth : Method} {c : Code} {D : va_G} {A : Nat → Prop} {r : Int32 × am_w} (C : am_C p m c b_PlanReader_read 4 s args am_W "RoverMinutes$PlanReader" D classes A) (hret : meth.sig.returnType = (some .int)) (hlk : meth.locks = false) {k7 : Nat → Nat → Int32 → am_w → Option (Int32 × am_w)} (hk7 : ∀ (v0 : Nat) (v1 : Nat) (v2 : Int32) (w : am_w), k7 v0 v1 v2 w = some r → am_V p l e rm_PlanReader_read s m args below meth c D classes tys A (am_F A true) 4 0 0 (MQ below (am_Q D classes tys A (am_F A true) (am_ri r)) args s 0 0 (am_F A true)) 7 [some (.ref v0), some (.ref v1), some (.int v2), none] [] w) : ∀ (v0 : Nat) (v1 : Nat) (v2 : Int32) (v3 : Nat) (w : am_w), s_PlanReader_read_37 k7 v0 v1 v2 v3 w = some r → am_V p l e rm_PlanReader_read s m args below meth c D classes tys A (am_F A true) 4 0 0 (MQ below (am_Q D classes tys A (am_F A true) (am_ri r)) args s 0 0 (am_F A true)) 37 [some (.ref v0), some (.ref v1), some (.int v2), some (.ref v3)] [] w := by
  intro v0 v1 v2 v3 w hX
  unfold s_PlanReader_read_37 at hX
  refine am_aload_n (pc := 37) C d_PlanReader_read_37 rfl rfl ?_
  refine am_aload_n (pc := 38) C d_PlanReader_read_38 rfl rfl ?_
  refine am_bipush (pc := 39) (v := (97 : Int32)) C d_PlanReader_read_39 (by decide) ?_
  refine am_iload_n (pc := 41) C d_PlanReader_read_41 rfl rfl ?_
  refine am_iadd (pc := 42) C d_PlanReader_read_42 ?_
  refine am_i2c (pc := 43) C d_PlanReader_read_43 rfl ?_
  refine am_callVi (pc := 44) (As := [.ref v3, .int (((Int32.toUInt32 ((97 : Int32) + v2)) % 65536).toInt32)]) (st := []) (cells1 := 0) (slots1 := 0) C (fun _ h => h.2) (fun _ h => h) (fun q h => c_PlanReader_readTimes h) wd_2_215 wd_2_217 ws_PlanReader_readTimes wd_1_3 wd_2_218 rfl rfl hd_PlanReader_readTimes ⟨by decide, by decide⟩ rfl rfl (Nat.le_of_ble_eq_true rfl) d_PlanReader_read_44 ⟨by decide, by decide⟩ rfl rfl rfl hX (fun q6 hX => ?_)
  refine am_if_eq (pc := 47) (tgt := 58) C d_PlanReader_read_47 rfl hX (fun hX => ?_) (fun hX => ?_)
  · skip
    exact am_sub (am_le_s (am_le_n (am_le_n (am_le_n (am_le_0))))) (L_PlanReader_read_58 C hret hlk  v0 q6.2 hX)
  · skip
    refine am_aload_n (pc := 50) C d_PlanReader_read_50 rfl rfl ?_
    refine am_aload_n (pc := 51) C d_PlanReader_read_51 rfl rfl ?_
    refine am_callVi (pc := 52) (As := [.ref v3]) (st := []) (cells1 := 0) (slots1 := 0) C (fun _ h => h.2) (fun _ h => h) (fun q h => c_PlanReader_readOptions h) wd_2_227 wd_2_229 ws_PlanReader_readOptions wd_1_3 wd_2_230 rfl rfl hd_PlanReader_readOptions ⟨by decide, by decide⟩ rfl rfl (Nat.le_of_ble_eq_true rfl) d_PlanReader_read_52 ⟨by decide, by decide⟩ rfl rfl rfl hX (fun q8 hX => ?_)
    refine am_if_ne (pc := 55) (tgt := 65) C d_PlanReader_read_55 rfl hX (fun hX => ?_) (fun hX => ?_)
    · skip
      refine am_aload_n (pc := 65) C d_PlanReader_read_65 rfl rfl ?_
      refine am_iload_n (pc := 66) C d_PlanReader_read_66 rfl rfl ?_
      refine am_iconst (pc := 67) (v := (1 : Int32)) C d_PlanReader_read_67 (by decide) ?_
      refine am_iadd (pc := 68) C d_PlanReader_read_68 ?_
      refine am_put (pc := 69) C (fun _ h => ⟨rfl, h⟩) hin_Plan t_Plan t_Plan_ok n_Plan rfl (by decide) wd_1_238 rfl rfl (t_Plan_ok 1 (by decide)) rfl rfl rfl d_PlanReader_read_69 hX (fun w9 hX => ?_)
      refine am_aload_n (pc := 72) C d_PlanReader_read_72 rfl rfl ?_
      refine am_get (pc := 73) C hin_PlanReader rfl (by decide) wd_1_52 rfl d_PlanReader_read_73 rfl hX (fun x10 hX => ?_)
      refine am_aload_n (pc := 76) C d_PlanReader_read_76 rfl rfl ?_
      refine am_getr (pc := 77) C hin_PlanReader rfl (by decide) wd_1_51 rfl d_PlanReader_read_77 rfl hX (fun b11 hX => ?_)
      refine am_get (pc := 80) C hin_Line rfl (by decide) wd_1_37 rfl d_PlanReader_read_80 rfl hX (fun x12 hX => ?_)
      refine am_icmp_ne (pc := 83) (tgt := 88) C d_PlanReader_read_83 rfl hX (fun hX => ?_) (fun hX => ?_)
      · skip
        refine am_iinc (pc := 88) (y := (1 : Int32)) (lo1 := [some (.ref v0), some (.ref v1), some (.int (v2 + (1 : Int32))), some (.ref v3)]) C d_PlanReader_read_88 rfl (by decide) (by decide) rfl ?_
        refine am_goto (pc := 91) (tgt := 7) C d_PlanReader_read_91 rfl ?_
        exact am_sub (am_le_s (am_le_s (am_le_s (am_le_n (am_le_0))))) (hk7 v0 v1 (v2 + (1 : Int32)) w9 hX)
      · skip
        refine am_iconst (pc := 86) (v := (0 : Int32)) C d_PlanReader_read_86 (by decide) ?_
        exact am_iret (pc := 87) C hret hlk d_PlanReader_read_87 rfl (by decide) (by decide) hX
    · skip
      exact am_sub (am_le_s (am_le_n (am_le_n (am_le_n (am_le_0))))) (L_PlanReader_read_58 C hret hlk  v0 q8.2 hX)
def s_PlanReader_read_7 (k7 : Nat → Nat → Int32 → am_w → Option (Int32 × am_w)) (v0 : Nat) (v1 : Nat) (v2 : Int32) (w : am_w) : Option (Int32 × am_w) := (if (8 : Int32) ≤ v2 then ((am_fg 2 1 v0 w).bind fun x2 => (some ((x2 + (1 : Int32)), w))) else ((am_rg 5 0 v1 w).bind fun b3 => ((am_ag b3 v2 w).bind fun b4 => ((am_ob 6 b4 w (f_Activity_clear b4 w)).bind fun q5 => (if v2 ≤ 0 then (s_PlanReader_read_37 k7 v0 v1 v2 b4 q5.2) else ((am_ob 2 v0 q5.2 (f_PlanReader_take v0 (59 : Int32) q5.2)).bind fun q13 => (if q13.1 = 0 then (s_PlanReader_read_58  v0 q13.2) else (s_PlanReader_read_37 k7 v0 v1 v2 b4 q13.2))))))))
def f_PlanReader_read_7  (n : Nat) : Nat → Nat → Int32 → am_w → Option (Int32 × am_w) := am_it (fun _ _ _ _ => none) (s_PlanReader_read_7 ) n
set_option maxHeartbeats 4000000 in
theorem L_PlanReader_read_7 {p : Program} {l : Launch} {e : Env} {s : State} {m : MethodId} {args : Array Value} {below : List Frame} {meth : Method} {c : Code} {D : va_G} {A : Nat → Prop} {r : Int32 × am_w} (C : am_C p m c b_PlanReader_read 4 s args am_W "RoverMinutes$PlanReader" D classes A) (hret : meth.sig.returnType = (some .int)) (hlk : meth.locks = false)   (n : Nat) : ∀ (v0 : Nat) (v1 : Nat) (v2 : Int32) (w : am_w), f_PlanReader_read_7  n v0 v1 v2 w = some r → am_V p l e rm_PlanReader_read s m args below meth c D classes tys A (am_F A true) 4 0 0 (MQ below (am_Q D classes tys A (am_F A true) (am_ri r)) args s 0 0 (am_F A true)) 7 [some (.ref v0), some (.ref v1), some (.int v2), none] [] w := by
  refine am_it_ind (P := fun (t : Nat → Nat → Int32 → am_w → Option (Int32 × am_w)) => ∀ (v0 : Nat) (v1 : Nat) (v2 : Int32) (w : am_w), t v0 v1 v2 w = some r → am_V p l e rm_PlanReader_read s m args below meth c D classes tys A (am_F A true) 4 0 0 (MQ below (am_Q D classes tys A (am_F A true) (am_ri r)) args s 0 0 (am_F A true)) 7 [some (.ref v0), some (.ref v1), some (.int v2), none] [] w) ?_ ?_ n
  · intro v0 v1 v2 w hX
    exact (am_nn hX).elim
  · intro k7 hk7 v0 v1 v2 w hX
    unfold s_PlanReader_read_7 at hX
    refine am_iload_n (pc := 7) C d_PlanReader_read_7 rfl rfl ?_
    refine am_bipush (pc := 8) (v := (8 : Int32)) C d_PlanReader_read_8 (by decide) ?_
    refine am_icmp_ge (pc := 10) (tgt := 94) C d_PlanReader_read_10 rfl hX (fun hX => ?_) (fun hX => ?_)
    · skip
      refine am_aload_n (pc := 94) C d_PlanReader_read_94 rfl rfl ?_
      refine am_get (pc := 95) C hin_PlanReader rfl (by decide) wd_1_52 rfl d_PlanReader_read_95 rfl hX (fun x2 hX => ?_)
      refine am_iconst (pc := 98) (v := (1 : Int32)) C d_PlanReader_read_98 (by decide) ?_
      refine am_iadd (pc := 99) C d_PlanReader_read_99 ?_
      exact am_iret (pc := 100) C hret hlk d_PlanReader_read_100 rfl (by decide) (by decide) hX
    · skip
      refine am_aload_n (pc := 13) C d_PlanReader_read_13 rfl rfl ?_
      refine am_getr (pc := 14) C hin_Plan rfl (by decide) wd_1_233 rfl d_PlanReader_read_14 rfl hX (fun b3 hX => ?_)
      refine am_iload_n (pc := 17) C d_PlanReader_read_17 rfl rfl ?_
      refine am_aald (pc := 18) C d_PlanReader_read_18 hX (fun b4 hX => ?_)
      refine am_astore_n (pc := 19) (lo1 := [some (.ref v0), some (.ref v1), some (.int v2), some (.ref b4)]) C d_PlanReader_read_19 rfl (by decide) rfl ?_
      refine am_aload_n (pc := 20) C d_PlanReader_read_20 rfl rfl ?_
      refine am_callVv (pc := 21) (As := []) (st := []) (cells1 := 0) (slots1 := 0) C (fun _ h => h.2) (fun _ h => h) (fun q h => c_Activity_clear h) wd_2_207 wd_2_208 wd_2_209 wd_1_8 wd_2_210 rfl rfl hd_Activity_clear ⟨by decide, by decide⟩ rfl rfl (Nat.le_of_ble_eq_true rfl) d_PlanReader_read_21 ⟨by decide, by decide⟩ rfl rfl rfl hX (fun q5 hX => ?_)
      refine am_iload_n (pc := 24) C d_PlanReader_read_24 rfl rfl ?_
      refine am_if_le (pc := 25) (tgt := 37) C d_PlanReader_read_25 rfl hX (fun hX => ?_) (fun hX => ?_)
      · skip
        exact (L_PlanReader_read_37 C hret hlk hk7 v0 v1 v2 b4 q5.2 hX)
      · skip
        refine am_aload_n (pc := 28) C d_PlanReader_read_28 rfl rfl ?_
        refine am_bipush (pc := 29) (v := (59 : Int32)) C d_PlanReader_read_29 (by decide) ?_
        refine am_callVi (pc := 31) (As := [.int (59 : Int32)]) (st := []) (cells1 := 0) (slots1 := 0) C (fun _ h => h.2) (fun _ h => h) (fun q h => c_PlanReader_take h) wd_2_211 wd_2_213 ws_PlanReader_take wd_1_3 wd_2_214 rfl rfl hd_PlanReader_take ⟨by decide, by decide⟩ rfl rfl (Nat.le_of_ble_eq_true rfl) d_PlanReader_read_31 ⟨by decide, by decide⟩ rfl rfl rfl hX (fun q13 hX => ?_)
        refine am_if_eq (pc := 34) (tgt := 58) C d_PlanReader_read_34 rfl hX (fun hX => ?_) (fun hX => ?_)
        · skip
          exact am_sub (am_le_s (am_le_n (am_le_n (am_le_n (am_le_0))))) (L_PlanReader_read_58 C hret hlk  v0 q13.2 hX)
        · skip
          exact (L_PlanReader_read_37 C hret hlk hk7 v0 v1 v2 b4 q13.2 hX)
def f_PlanReader_read (a0 : Nat) (a1 : Nat) (w : am_w) : Option (Int32 × am_w) := ((am_fp 2 1 a0 (0 : Int32) w).bind fun w1 => (f_PlanReader_read_7  70 a0 a1 (0 : Int32) w1))
theorem hd_PlanReader_read : y_PlanReader_read.cls = "RoverMinutes$PlanReader" ∧ y_PlanReader_read.cls ≠ "java/lang/invoke/MethodHandle" ∧ y_PlanReader_read.cls ≠ "java/lang/invoke/VarHandle" ∧ (parseMethodDescriptor y_PlanReader_read.desc).map (fun d => d.parameters.length) = some 1 := ⟨rfl, by decide, by decide, by decide +kernel⟩
set_option maxHeartbeats 4000000 in
theorem c_PlanReader_read {l : Launch} {D : va_G} {A : Nat → Prop} {a0 : Nat} {a1 : Nat} {w : am_w} {r : Int32 × am_w} (hX : f_PlanReader_read a0 a1 w = some r) : am_Met l D classes tys A (am_F A true) y_PlanReader_read (Cond.code y_PlanReader_read b_PlanReader_read 4 (some .int) :: am_W) rm_PlanReader_read [.ref a0, .ref a1] w (am_ri r) 0 0 := by
  refine am_ofV (by decide) am_W_good (Nat.le_of_ble_eq_true rfl) (by simp [Value.category]) ?_
  intro p e s m below meth c C hret hlk hnm
  unfold f_PlanReader_read at hX
  refine am_aload_n (pc := 0) C d_PlanReader_read_0 rfl rfl ?_
  refine am_iconst (pc := 1) (v := (0 : Int32)) C d_PlanReader_read_1 (by decide) ?_
  refine am_put (pc := 2) C (fun _ h => ⟨rfl, h⟩) hin_PlanReader t_PlanReader t_PlanReader_ok n_PlanReader rfl (by decide) wd_1_52 rfl rfl (t_PlanReader_ok 1 (by decide)) rfl rfl rfl d_PlanReader_read_2 hX (fun w1 hX => ?_)
  refine am_iconst (pc := 5) (v := (0 : Int32)) C d_PlanReader_read_5 (by decide) ?_
  refine am_istore_n (pc := 6) (lo1 := [some (.ref a0), some (.ref a1), some (.int (0 : Int32)), none]) C d_PlanReader_read_6 rfl (by decide) rfl ?_
  exact (L_PlanReader_read_7 C hret hlk  70 a0 a1 (0 : Int32) w1 hX)
