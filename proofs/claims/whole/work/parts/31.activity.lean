def rm_Activity_init : Room := { frames := 1, cells := 0, slots := 0, locals := 21 }
def f_Activity_init (a0 : Nat) (w : am_w) : Option (Int32 × am_w) := (some (0, w))
theorem hd_Activity_init : y_Activity_init.cls ≠ "java/lang/invoke/MethodHandle" ∧ y_Activity_init.cls ≠ "java/lang/invoke/VarHandle" ∧ (parseMethodDescriptor y_Activity_init.desc).map (fun d => d.parameters.length) = some 0 := ⟨by decide, by decide, by decide +kernel⟩
set_option maxHeartbeats 4000000 in
theorem c_Activity_init {l : Launch} {D : va_G} {A : Nat → Prop} {a0 : Nat} {w : am_w} {r : Int32 × am_w} (hX : f_Activity_init a0 w = some r) : am_Met l D classes tys A (am_F A false) y_Activity_init (Cond.code y_Activity_init b_Activity_init 1 none :: am_W) rm_Activity_init [.ref a0] w (am_rv r) 0 0 := by
  refine am_ofV (by decide) am_W_good (Nat.le_of_ble_eq_true rfl) (by simp [Value.category]) ?_
  intro p e s m below meth c C hret hlk hnm
  unfold f_Activity_init at hX
  refine am_aload_n (pc := 0) C d_Activity_init_0 rfl rfl ?_
  refine am_objInit (pc := 1) C wd_1_140 wd_1_27 wd_1_28 d_Activity_init_1 (by decide) (Nat.le_of_ble_eq_true rfl) ?_
  exact am_vret (pc := 4) C hret hlk d_Activity_init_4 (by decide) (by decide) hX
def rm_Activity_clear : Room := { frames := 0, cells := 0, slots := 0, locals := 0 }
def f_Activity_clear (a0 : Nat) (w : am_w) : Option (Int32 × am_w) := ((am_fp 6 0 a0 (0 : Int32) w).bind fun w1 => ((am_fp 6 1 a0 (0 : Int32) w1).bind fun w2 => ((am_fp 6 2 a0 (0 : Int32) w2).bind fun w3 => ((am_fp 6 3 a0 (0 : Int32) w3).bind fun w4 => ((am_fp 6 4 a0 (0 : Int32) w4).bind fun w5 => ((am_fp 6 5 a0 (99 : Int32) w5).bind fun w6 => ((am_fp 6 6 a0 (0 : Int32) w6).bind fun w7 => ((am_fp 6 7 a0 (0 : Int32) w7).bind fun w8 => ((am_fp 6 8 a0 (0 : Int32) w8).bind fun w9 => ((am_fp 6 9 a0 (0 : Int32) w9).bind fun w10 => ((am_fp 6 17 a0 (-1 : Int32) w10).bind fun w11 => ((am_fp 6 18 a0 (-1 : Int32) w11).bind fun w12 => (some (0, w12))))))))))))))
theorem hd_Activity_clear : y_Activity_clear.cls = "RoverMinutes$Activity" ∧ y_Activity_clear.cls ≠ "java/lang/invoke/MethodHandle" ∧ y_Activity_clear.cls ≠ "java/lang/invoke/VarHandle" ∧ (parseMethodDescriptor y_Activity_clear.desc).map (fun d => d.parameters.length) = some 0 := ⟨rfl, by decide, by decide, by decide +kernel⟩
set_option maxHeartbeats 4000000 in
theorem c_Activity_clear {l : Launch} {D : va_G} {A : Nat → Prop} {a0 : Nat} {w : am_w} {r : Int32 × am_w} (hX : f_Activity_clear a0 w = some r) : am_Met l D classes tys A (am_F A true) y_Activity_clear (Cond.code y_Activity_clear b_Activity_clear 1 none :: am_W) rm_Activity_clear [.ref a0] w (am_rv r) 0 0 := by
  refine am_ofV (by decide) am_W_good (Nat.le_of_ble_eq_true rfl) (by simp [Value.category]) ?_
  intro p e s m below meth c C hret hlk hnm
  unfold f_Activity_clear at hX
  refine am_aload_n (pc := 0) C d_Activity_clear_0 rfl rfl ?_
  refine am_iconst (pc := 1) (v := (0 : Int32)) C d_Activity_clear_1 (by decide) ?_
  refine am_put (pc := 2) C (fun _ h => ⟨rfl, h⟩) hin_Activity t_Activity t_Activity_ok n_Activity rfl (by decide) wd_1_141 rfl rfl (t_Activity_ok 0 (by decide)) rfl rfl rfl d_Activity_clear_2 hX (fun w1 hX => ?_)
  refine am_aload_n (pc := 5) C d_Activity_clear_5 rfl rfl ?_
  refine am_iconst (pc := 6) (v := (0 : Int32)) C d_Activity_clear_6 (by decide) ?_
  refine am_put (pc := 7) C (fun _ h => ⟨rfl, h⟩) hin_Activity t_Activity t_Activity_ok n_Activity rfl (by decide) wd_1_144 rfl rfl (t_Activity_ok 1 (by decide)) rfl rfl rfl d_Activity_clear_7 hX (fun w2 hX => ?_)
  refine am_aload_n (pc := 10) C d_Activity_clear_10 rfl rfl ?_
  refine am_iconst (pc := 11) (v := (0 : Int32)) C d_Activity_clear_11 (by decide) ?_
  refine am_put (pc := 12) C (fun _ h => ⟨rfl, h⟩) hin_Activity t_Activity t_Activity_ok n_Activity rfl (by decide) wd_1_148 rfl rfl (t_Activity_ok 2 (by decide)) rfl rfl rfl d_Activity_clear_12 hX (fun w3 hX => ?_)
  refine am_aload_n (pc := 15) C d_Activity_clear_15 rfl rfl ?_
  refine am_iconst (pc := 16) (v := (0 : Int32)) C d_Activity_clear_16 (by decide) ?_
  refine am_put (pc := 17) C (fun _ h => ⟨rfl, h⟩) hin_Activity t_Activity t_Activity_ok n_Activity rfl (by decide) wd_1_151 rfl rfl (t_Activity_ok 3 (by decide)) rfl rfl rfl d_Activity_clear_17 hX (fun w4 hX => ?_)
  refine am_aload_n (pc := 20) C d_Activity_clear_20 rfl rfl ?_
  refine am_iconst (pc := 21) (v := (0 : Int32)) C d_Activity_clear_21 (by decide) ?_
  refine am_put (pc := 22) C (fun _ h => ⟨rfl, h⟩) hin_Activity t_Activity t_Activity_ok n_Activity rfl (by decide) wd_1_155 rfl rfl (t_Activity_ok 4 (by decide)) rfl rfl rfl d_Activity_clear_22 hX (fun w5 hX => ?_)
  refine am_aload_n (pc := 25) C d_Activity_clear_25 rfl rfl ?_
  refine am_bipush (pc := 26) (v := (99 : Int32)) C d_Activity_clear_26 (by decide) ?_
  refine am_put (pc := 28) C (fun _ h => ⟨rfl, h⟩) hin_Activity t_Activity t_Activity_ok n_Activity rfl (by decide) wd_1_159 rfl rfl (t_Activity_ok 5 (by decide)) rfl rfl rfl d_Activity_clear_28 hX (fun w6 hX => ?_)
  refine am_aload_n (pc := 31) C d_Activity_clear_31 rfl rfl ?_
  refine am_iconst (pc := 32) (v := (0 : Int32)) C d_Activity_clear_32 (by decide) ?_
  refine am_put (pc := 33) C (fun _ h => ⟨rfl, h⟩) hin_Activity t_Activity t_Activity_ok n_Activity rfl (by decide) wd_1_162 rfl rfl (t_Activity_ok 6 (by decide)) rfl rfl rfl d_Activity_clear_33 hX (fun w7 hX => ?_)
  refine am_aload_n (pc := 36) C d_Activity_clear_36 rfl rfl ?_
  refine am_iconst (pc := 37) (v := (0 : Int32)) C d_Activity_clear_37 (by decide) ?_
  refine am_put (pc := 38) C (fun _ h => ⟨rfl, h⟩) hin_Activity t_Activity t_Activity_ok n_Activity rfl (by decide) wd_1_165 rfl rfl (t_Activity_ok 7 (by decide)) rfl rfl rfl d_Activity_clear_38 hX (fun w8 hX => ?_)
  refine am_aload_n (pc := 41) C d_Activity_clear_41 rfl rfl ?_
  refine am_iconst (pc := 42) (v := (0 : Int32)) C d_Activity_clear_42 (by decide) ?_
  refine am_put (pc := 43) C (fun _ h => ⟨rfl, h⟩) hin_Activity t_Activity t_Activity_ok n_Activity rfl (by decide) wd_1_168 rfl rfl (t_Activity_ok 8 (by decide)) rfl rfl rfl d_Activity_clear_43 hX (fun w9 hX => ?_)
  refine am_aload_n (pc := 46) C d_Activity_clear_46 rfl rfl ?_
  refine am_iconst (pc := 47) (v := (0 : Int32)) C d_Activity_clear_47 (by decide) ?_
  refine am_put (pc := 48) C (fun _ h => ⟨rfl, h⟩) hin_Activity t_Activity t_Activity_ok n_Activity rfl (by decide) wd_1_171 rfl rfl (t_Activity_ok 9 (by decide)) rfl rfl rfl d_Activity_clear_48 hX (fun w10 hX => ?_)
  refine am_aload_n (pc := 51) C d_Activity_clear_51 rfl rfl ?_
  refine am_iconst (pc := 52) (v := (-1 : Int32)) C d_Activity_clear_52 (by decide) ?_
  refine am_put (pc := 53) C (fun _ h => ⟨rfl, h⟩) hin_Activity t_Activity t_Activity_ok n_Activity rfl (by decide) wd_1_189 rfl rfl (t_Activity_ok 17 (by decide)) rfl rfl rfl d_Activity_clear_53 hX (fun w11 hX => ?_)
  refine am_aload_n (pc := 56) C d_Activity_clear_56 rfl rfl ?_
  refine am_iconst (pc := 57) (v := (-1 : Int32)) C d_Activity_clear_57 (by decide) ?_
  refine am_put (pc := 58) C (fun _ h => ⟨rfl, h⟩) hin_Activity t_Activity t_Activity_ok n_Activity rfl (by decide) wd_1_191 rfl rfl (t_Activity_ok 18 (by decide)) rfl rfl rfl d_Activity_clear_58 hX (fun w12 hX => ?_)
  exact am_vret (pc := 61) C hret hlk d_Activity_clear_61 (by decide) (by decide) hX
def rm_Activity_makeReady : Room := { frames := 0, cells := 0, slots := 0, locals := 0 }
def f_Activity_makeReady (a0 : Nat) (w : am_w) : Option (Int32 × am_w) := ((am_fp 6 10 a0 (0 : Int32) w).bind fun w1 => ((am_fp 6 11 a0 (-1 : Int32) w1).bind fun w2 => ((am_fp 6 12 a0 (0 : Int32) w2).bind fun w3 => ((am_fg 6 6 a0 w3).bind fun x4 => ((am_fp 6 13 a0 x4 w3).bind fun w5 => ((am_fp 6 14 a0 (0 : Int32) w5).bind fun w6 => (some (0, w6))))))))
theorem hd_Activity_makeReady : y_Activity_makeReady.cls = "RoverMinutes$Activity" ∧ y_Activity_makeReady.cls ≠ "java/lang/invoke/MethodHandle" ∧ y_Activity_makeReady.cls ≠ "java/lang/invoke/VarHandle" ∧ (parseMethodDescriptor y_Activity_makeReady.desc).map (fun d => d.parameters.length) = some 0 := ⟨rfl, by decide, by decide, by decide +kernel⟩
set_option maxHeartbeats 4000000 in
theorem c_Activity_makeReady {l : Launch} {D : va_G} {A : Nat → Prop} {a0 : Nat} {w : am_w} {r : Int32 × am_w} (hX : f_Activity_makeReady a0 w = some r) : am_Met l D classes tys A (am_F A true) y_Activity_makeReady (Cond.code y_Activity_makeReady b_Activity_makeReady 1 none :: am_W) rm_Activity_makeReady [.ref a0] w (am_rv r) 0 0 := by
  refine am_ofV (by decide) am_W_good (Nat.le_of_ble_eq_true rfl) (by simp [Value.category]) ?_
  intro p e s m below meth c C hret hlk hnm
  unfold f_Activity_makeReady at hX
  refine am_aload_n (pc := 0) C d_Activity_makeReady_0 rfl rfl ?_
  refine am_iconst (pc := 1) (v := (0 : Int32)) C d_Activity_makeReady_1 (by decide) ?_
  refine am_put (pc := 2) C (fun _ h => ⟨rfl, h⟩) hin_Activity t_Activity t_Activity_ok n_Activity rfl (by decide) wd_1_174 rfl rfl (t_Activity_ok 10 (by decide)) rfl rfl rfl d_Activity_makeReady_2 hX (fun w1 hX => ?_)
  refine am_aload_n (pc := 5) C d_Activity_makeReady_5 rfl rfl ?_
  refine am_iconst (pc := 6) (v := (-1 : Int32)) C d_Activity_makeReady_6 (by decide) ?_
  refine am_put (pc := 7) C (fun _ h => ⟨rfl, h⟩) hin_Activity t_Activity t_Activity_ok n_Activity rfl (by decide) wd_1_177 rfl rfl (t_Activity_ok 11 (by decide)) rfl rfl rfl d_Activity_makeReady_7 hX (fun w2 hX => ?_)
  refine am_aload_n (pc := 10) C d_Activity_makeReady_10 rfl rfl ?_
  refine am_iconst (pc := 11) (v := (0 : Int32)) C d_Activity_makeReady_11 (by decide) ?_
  refine am_put (pc := 12) C (fun _ h => ⟨rfl, h⟩) hin_Activity t_Activity t_Activity_ok n_Activity rfl (by decide) wd_1_180 rfl rfl (t_Activity_ok 12 (by decide)) rfl rfl rfl d_Activity_makeReady_12 hX (fun w3 hX => ?_)
  refine am_aload_n (pc := 15) C d_Activity_makeReady_15 rfl rfl ?_
  refine am_aload_n (pc := 16) C d_Activity_makeReady_16 rfl rfl ?_
  refine am_get (pc := 17) C hin_Activity rfl (by decide) wd_1_162 rfl d_Activity_makeReady_17 rfl hX (fun x4 hX => ?_)
  refine am_put (pc := 20) C (fun _ h => ⟨rfl, h⟩) hin_Activity t_Activity t_Activity_ok n_Activity rfl (by decide) wd_1_182 rfl rfl (t_Activity_ok 13 (by decide)) rfl rfl rfl d_Activity_makeReady_20 hX (fun w5 hX => ?_)
  refine am_aload_n (pc := 23) C d_Activity_makeReady_23 rfl rfl ?_
  refine am_iconst (pc := 24) (v := (0 : Int32)) C d_Activity_makeReady_24 (by decide) ?_
  refine am_put (pc := 25) C (fun _ h => ⟨rfl, h⟩) hin_Activity t_Activity t_Activity_ok n_Activity rfl (by decide) wd_1_184 rfl rfl (t_Activity_ok 14 (by decide)) rfl rfl rfl d_Activity_makeReady_25 hX (fun w6 hX => ?_)
  exact am_vret (pc := 28) C hret hlk d_Activity_makeReady_28 (by decide) (by decide) hX
def rm_Activity_isAfter : Room := { frames := 0, cells := 0, slots := 0, locals := 0 }
def f_Activity_isAfter (a0 : Nat) (a1 : Int32) (w : am_w) : Option (Int32 × am_w) := ((am_fg 6 7 a0 w).bind fun x1 => (if ((x1 >>> (a1 &&& 31)) &&& (1 : Int32)) = 0 then (some ((0 : Int32), w)) else (some ((1 : Int32), w))))
theorem hd_Activity_isAfter : y_Activity_isAfter.cls = "RoverMinutes$Activity" ∧ y_Activity_isAfter.cls ≠ "java/lang/invoke/MethodHandle" ∧ y_Activity_isAfter.cls ≠ "java/lang/invoke/VarHandle" ∧ (parseMethodDescriptor y_Activity_isAfter.desc).map (fun d => d.parameters.length) = some 1 := ⟨rfl, by decide, by decide, by decide +kernel⟩
set_option maxHeartbeats 4000000 in
theorem c_Activity_isAfter {l : Launch} {D : va_G} {A : Nat → Prop} {a0 : Nat} {a1 : Int32} {w : am_w} {r : Int32 × am_w} (hX : f_Activity_isAfter a0 a1 w = some r) : am_Met l D classes tys A (am_F A false) y_Activity_isAfter (Cond.code y_Activity_isAfter b_Activity_isAfter 2 (some .boolean) :: am_W) rm_Activity_isAfter [.ref a0, .int a1] w (am_ri r) 0 0 := by
  refine am_ofV (by decide) am_W_good (Nat.le_of_ble_eq_true rfl) (by simp [Value.category]) ?_
  intro p e s m below meth c C hret hlk hnm
  unfold f_Activity_isAfter at hX
  refine am_aload_n (pc := 0) C d_Activity_isAfter_0 rfl rfl ?_
  refine am_get (pc := 1) C hin_Activity rfl (by decide) wd_1_165 rfl d_Activity_isAfter_1 rfl hX (fun x1 hX => ?_)
  refine am_iload_n (pc := 4) C d_Activity_isAfter_4 rfl rfl ?_
  refine am_ishr (pc := 5) C d_Activity_isAfter_5 ?_
  refine am_iconst (pc := 6) (v := (1 : Int32)) C d_Activity_isAfter_6 (by decide) ?_
  refine am_iand (pc := 7) C d_Activity_isAfter_7 ?_
  refine am_if_eq (pc := 8) (tgt := 15) C d_Activity_isAfter_8 rfl hX (fun hX => ?_) (fun hX => ?_)
  · skip
    refine am_iconst (pc := 15) (v := (0 : Int32)) C d_Activity_isAfter_15 (by decide) ?_
    exact am_iret (pc := 16) C hret hlk d_Activity_isAfter_16 am_n0 (by decide) (by decide) hX
  · skip
    refine am_iconst (pc := 11) (v := (1 : Int32)) C d_Activity_isAfter_11 (by decide) ?_
    refine am_goto (pc := 12) (tgt := 16) C d_Activity_isAfter_12 rfl ?_
    exact am_iret (pc := 16) C hret hlk d_Activity_isAfter_16 am_n1 (by decide) (by decide) hX
def rm_Activity_isInsteadOf : Room := { frames := 0, cells := 0, slots := 0, locals := 0 }
def f_Activity_isInsteadOf (a0 : Nat) (a1 : Int32) (w : am_w) : Option (Int32 × am_w) := ((am_fg 6 8 a0 w).bind fun x1 => (if ((x1 >>> (a1 &&& 31)) &&& (1 : Int32)) = 0 then (some ((0 : Int32), w)) else (some ((1 : Int32), w))))
theorem hd_Activity_isInsteadOf : y_Activity_isInsteadOf.cls = "RoverMinutes$Activity" ∧ y_Activity_isInsteadOf.cls ≠ "java/lang/invoke/MethodHandle" ∧ y_Activity_isInsteadOf.cls ≠ "java/lang/invoke/VarHandle" ∧ (parseMethodDescriptor y_Activity_isInsteadOf.desc).map (fun d => d.parameters.length) = some 1 := ⟨rfl, by decide, by decide, by decide +kernel⟩
set_option maxHeartbeats 4000000 in
theorem c_Activity_isInsteadOf {l : Launch} {D : va_G} {A : Nat → Prop} {a0 : Nat} {a1 : Int32} {w : am_w} {r : Int32 × am_w} (hX : f_Activity_isInsteadOf a0 a1 w = some r) : am_Met l D classes tys A (am_F A false) y_Activity_isInsteadOf (Cond.code y_Activity_isInsteadOf b_Activity_isInsteadOf 2 (some .boolean) :: am_W) rm_Activity_isInsteadOf [.ref a0, .int a1] w (am_ri r) 0 0 := by
  refine am_ofV (by decide) am_W_good (Nat.le_of_ble_eq_true rfl) (by simp [Value.category]) ?_
  intro p e s m below meth c C hret hlk hnm
  unfold f_Activity_isInsteadOf at hX
  refine am_aload_n (pc := 0) C d_Activity_isInsteadOf_0 rfl rfl ?_
  refine am_get (pc := 1) C hin_Activity rfl (by decide) wd_1_168 rfl d_Activity_isInsteadOf_1 rfl hX (fun x1 hX => ?_)
  refine am_iload_n (pc := 4) C d_Activity_isInsteadOf_4 rfl rfl ?_
  refine am_ishr (pc := 5) C d_Activity_isInsteadOf_5 ?_
  refine am_iconst (pc := 6) (v := (1 : Int32)) C d_Activity_isInsteadOf_6 (by decide) ?_
  refine am_iand (pc := 7) C d_Activity_isInsteadOf_7 ?_
  refine am_if_eq (pc := 8) (tgt := 15) C d_Activity_isInsteadOf_8 rfl hX (fun hX => ?_) (fun hX => ?_)
  · skip
    refine am_iconst (pc := 15) (v := (0 : Int32)) C d_Activity_isInsteadOf_15 (by decide) ?_
    exact am_iret (pc := 16) C hret hlk d_Activity_isInsteadOf_16 am_n0 (by decide) (by decide) hX
  · skip
    refine am_iconst (pc := 11) (v := (1 : Int32)) C d_Activity_isInsteadOf_11 (by decide) ?_
    refine am_goto (pc := 12) (tgt := 16) C d_Activity_isInsteadOf_12 rfl ?_
    exact am_iret (pc := 16) C hret hlk d_Activity_isInsteadOf_16 am_n1 (by decide) (by decide) hX
def rm_Activity_isRunning : Room := { frames := 0, cells := 0, slots := 0, locals := 0 }
def f_Activity_isRunning (a0 : Nat) (w : am_w) : Option (Int32 × am_w) := ((am_fg 6 10 a0 w).bind fun x1 => (if x1 = (1 : Int32) then (some ((1 : Int32), w)) else (some ((0 : Int32), w))))
theorem hd_Activity_isRunning : y_Activity_isRunning.cls = "RoverMinutes$Activity" ∧ y_Activity_isRunning.cls ≠ "java/lang/invoke/MethodHandle" ∧ y_Activity_isRunning.cls ≠ "java/lang/invoke/VarHandle" ∧ (parseMethodDescriptor y_Activity_isRunning.desc).map (fun d => d.parameters.length) = some 0 := ⟨rfl, by decide, by decide, by decide +kernel⟩
set_option maxHeartbeats 4000000 in
theorem c_Activity_isRunning {l : Launch} {D : va_G} {A : Nat → Prop} {a0 : Nat} {w : am_w} {r : Int32 × am_w} (hX : f_Activity_isRunning a0 w = some r) : am_Met l D classes tys A (am_F A false) y_Activity_isRunning (Cond.code y_Activity_isRunning b_Activity_isRunning 1 (some .boolean) :: am_W) rm_Activity_isRunning [.ref a0] w (am_ri r) 0 0 := by
  refine am_ofV (by decide) am_W_good (Nat.le_of_ble_eq_true rfl) (by simp [Value.category]) ?_
  intro p e s m below meth c C hret hlk hnm
  unfold f_Activity_isRunning at hX
  refine am_aload_n (pc := 0) C d_Activity_isRunning_0 rfl rfl ?_
  refine am_get (pc := 1) C hin_Activity rfl (by decide) wd_1_174 rfl d_Activity_isRunning_1 rfl hX (fun x1 hX => ?_)
  refine am_iconst (pc := 4) (v := (1 : Int32)) C d_Activity_isRunning_4 (by decide) ?_
  refine am_icmp_ne (pc := 5) (tgt := 12) C d_Activity_isRunning_5 rfl hX (fun hX => ?_) (fun hX => ?_)
  · skip
    refine am_iconst (pc := 12) (v := (0 : Int32)) C d_Activity_isRunning_12 (by decide) ?_
    exact am_iret (pc := 13) C hret hlk d_Activity_isRunning_13 am_n0 (by decide) (by decide) hX
  · skip
    refine am_iconst (pc := 8) (v := (1 : Int32)) C d_Activity_isRunning_8 (by decide) ?_
    refine am_goto (pc := 9) (tgt := 13) C d_Activity_isRunning_9 rfl ?_
    exact am_iret (pc := 13) C hret hlk d_Activity_isRunning_13 am_n1 (by decide) (by decide) hX
def rm_Activity_isWaiting : Room := { frames := 0, cells := 0, slots := 0, locals := 0 }
def f_Activity_isWaiting (a0 : Nat) (w : am_w) : Option (Int32 × am_w) := ((am_fg 6 10 a0 w).bind fun x1 => (if x1 = 0 then (some ((1 : Int32), w)) else (some ((0 : Int32), w))))
theorem hd_Activity_isWaiting : y_Activity_isWaiting.cls = "RoverMinutes$Activity" ∧ y_Activity_isWaiting.cls ≠ "java/lang/invoke/MethodHandle" ∧ y_Activity_isWaiting.cls ≠ "java/lang/invoke/VarHandle" ∧ (parseMethodDescriptor y_Activity_isWaiting.desc).map (fun d => d.parameters.length) = some 0 := ⟨rfl, by decide, by decide, by decide +kernel⟩
set_option maxHeartbeats 4000000 in
theorem c_Activity_isWaiting {l : Launch} {D : va_G} {A : Nat → Prop} {a0 : Nat} {w : am_w} {r : Int32 × am_w} (hX : f_Activity_isWaiting a0 w = some r) : am_Met l D classes tys A (am_F A false) y_Activity_isWaiting (Cond.code y_Activity_isWaiting b_Activity_isWaiting 1 (some .boolean) :: am_W) rm_Activity_isWaiting [.ref a0] w (am_ri r) 0 0 := by
  refine am_ofV (by decide) am_W_good (Nat.le_of_ble_eq_true rfl) (by simp [Value.category]) ?_
  intro p e s m below meth c C hret hlk hnm
  unfold f_Activity_isWaiting at hX
  refine am_aload_n (pc := 0) C d_Activity_isWaiting_0 rfl rfl ?_
  refine am_get (pc := 1) C hin_Activity rfl (by decide) wd_1_174 rfl d_Activity_isWaiting_1 rfl hX (fun x1 hX => ?_)
  refine am_if_ne (pc := 4) (tgt := 11) C d_Activity_isWaiting_4 rfl hX (fun hX => ?_) (fun hX => ?_)
  · skip
    refine am_iconst (pc := 11) (v := (0 : Int32)) C d_Activity_isWaiting_11 (by decide) ?_
    exact am_iret (pc := 12) C hret hlk d_Activity_isWaiting_12 am_n0 (by decide) (by decide) hX
  · skip
    refine am_iconst (pc := 7) (v := (1 : Int32)) C d_Activity_isWaiting_7 (by decide) ?_
    refine am_goto (pc := 8) (tgt := 12) C d_Activity_isWaiting_8 rfl ?_
    exact am_iret (pc := 12) C hret hlk d_Activity_isWaiting_12 am_n1 (by decide) (by decide) hX
def rm_Activity_isDone : Room := { frames := 0, cells := 0, slots := 0, locals := 0 }
def f_Activity_isDone (a0 : Nat) (w : am_w) : Option (Int32 × am_w) := ((am_fg 6 10 a0 w).bind fun x1 => (if x1 = (2 : Int32) then (some ((1 : Int32), w)) else (some ((0 : Int32), w))))
theorem hd_Activity_isDone : y_Activity_isDone.cls = "RoverMinutes$Activity" ∧ y_Activity_isDone.cls ≠ "java/lang/invoke/MethodHandle" ∧ y_Activity_isDone.cls ≠ "java/lang/invoke/VarHandle" ∧ (parseMethodDescriptor y_Activity_isDone.desc).map (fun d => d.parameters.length) = some 0 := ⟨rfl, by decide, by decide, by decide +kernel⟩
set_option maxHeartbeats 4000000 in
theorem c_Activity_isDone {l : Launch} {D : va_G} {A : Nat → Prop} {a0 : Nat} {w : am_w} {r : Int32 × am_w} (hX : f_Activity_isDone a0 w = some r) : am_Met l D classes tys A (am_F A false) y_Activity_isDone (Cond.code y_Activity_isDone b_Activity_isDone 1 (some .boolean) :: am_W) rm_Activity_isDone [.ref a0] w (am_ri r) 0 0 := by
  refine am_ofV (by decide) am_W_good (Nat.le_of_ble_eq_true rfl) (by simp [Value.category]) ?_
  intro p e s m below meth c C hret hlk hnm
  unfold f_Activity_isDone at hX
  refine am_aload_n (pc := 0) C d_Activity_isDone_0 rfl rfl ?_
  refine am_get (pc := 1) C hin_Activity rfl (by decide) wd_1_174 rfl d_Activity_isDone_1 rfl hX (fun x1 hX => ?_)
  refine am_iconst (pc := 4) (v := (2 : Int32)) C d_Activity_isDone_4 (by decide) ?_
  refine am_icmp_ne (pc := 5) (tgt := 12) C d_Activity_isDone_5 rfl hX (fun hX => ?_) (fun hX => ?_)
  · skip
    refine am_iconst (pc := 12) (v := (0 : Int32)) C d_Activity_isDone_12 (by decide) ?_
    exact am_iret (pc := 13) C hret hlk d_Activity_isDone_13 am_n0 (by decide) (by decide) hX
  · skip
    refine am_iconst (pc := 8) (v := (1 : Int32)) C d_Activity_isDone_8 (by decide) ?_
    refine am_goto (pc := 9) (tgt := 13) C d_Activity_isDone_9 rfl ?_
    exact am_iret (pc := 13) C hret hlk d_Activity_isDone_13 am_n1 (by decide) (by decide) hX
def rm_Activity_hasFailed : Room := { frames := 0, cells := 0, slots := 0, locals := 0 }
def f_Activity_hasFailed (a0 : Nat) (w : am_w) : Option (Int32 × am_w) := ((am_fg 6 10 a0 w).bind fun x1 => (if x1 = (3 : Int32) then (some ((1 : Int32), w)) else ((am_fg 6 10 a0 w).bind fun x2 => (if x2 = (4 : Int32) then (some ((1 : Int32), w)) else (some ((0 : Int32), w))))))
theorem hd_Activity_hasFailed : y_Activity_hasFailed.cls = "RoverMinutes$Activity" ∧ y_Activity_hasFailed.cls ≠ "java/lang/invoke/MethodHandle" ∧ y_Activity_hasFailed.cls ≠ "java/lang/invoke/VarHandle" ∧ (parseMethodDescriptor y_Activity_hasFailed.desc).map (fun d => d.parameters.length) = some 0 := ⟨rfl, by decide, by decide, by decide +kernel⟩
set_option maxHeartbeats 4000000 in
theorem c_Activity_hasFailed {l : Launch} {D : va_G} {A : Nat → Prop} {a0 : Nat} {w : am_w} {r : Int32 × am_w} (hX : f_Activity_hasFailed a0 w = some r) : am_Met l D classes tys A (am_F A false) y_Activity_hasFailed (Cond.code y_Activity_hasFailed b_Activity_hasFailed 1 (some .boolean) :: am_W) rm_Activity_hasFailed [.ref a0] w (am_ri r) 0 0 := by
  refine am_ofV (by decide) am_W_good (Nat.le_of_ble_eq_true rfl) (by simp [Value.category]) ?_
  intro p e s m below meth c C hret hlk hnm
  unfold f_Activity_hasFailed at hX
  refine am_aload_n (pc := 0) C d_Activity_hasFailed_0 rfl rfl ?_
  refine am_get (pc := 1) C hin_Activity rfl (by decide) wd_1_174 rfl d_Activity_hasFailed_1 rfl hX (fun x1 hX => ?_)
  refine am_iconst (pc := 4) (v := (3 : Int32)) C d_Activity_hasFailed_4 (by decide) ?_
  refine am_icmp_eq (pc := 5) (tgt := 16) C d_Activity_hasFailed_5 rfl hX (fun hX => ?_) (fun hX => ?_)
  · skip
    refine am_iconst (pc := 16) (v := (1 : Int32)) C d_Activity_hasFailed_16 (by decide) ?_
    refine am_goto (pc := 17) (tgt := 21) C d_Activity_hasFailed_17 rfl ?_
    exact am_iret (pc := 21) C hret hlk d_Activity_hasFailed_21 am_n1 (by decide) (by decide) hX
  · skip
    refine am_aload_n (pc := 8) C d_Activity_hasFailed_8 rfl rfl ?_
    refine am_get (pc := 9) C hin_Activity rfl (by decide) wd_1_174 rfl d_Activity_hasFailed_9 rfl hX (fun x2 hX => ?_)
    refine am_iconst (pc := 12) (v := (4 : Int32)) C d_Activity_hasFailed_12 (by decide) ?_
    refine am_icmp_ne (pc := 13) (tgt := 20) C d_Activity_hasFailed_13 rfl hX (fun hX => ?_) (fun hX => ?_)
    · skip
      refine am_iconst (pc := 20) (v := (0 : Int32)) C d_Activity_hasFailed_20 (by decide) ?_
      exact am_iret (pc := 21) C hret hlk d_Activity_hasFailed_21 am_n0 (by decide) (by decide) hX
    · skip
      refine am_iconst (pc := 16) (v := (1 : Int32)) C d_Activity_hasFailed_16 (by decide) ?_
      refine am_goto (pc := 17) (tgt := 21) C d_Activity_hasFailed_17 rfl ?_
      exact am_iret (pc := 21) C hret hlk d_Activity_hasFailed_21 am_n1 (by decide) (by decide) hX
def rm_Activity_start : Room := { frames := 0, cells := 0, slots := 0, locals := 0 }
def s_Activity_start_68  (v0 : Nat) (s0 : Int32) (s1 : Nat) (w : am_w) : Option (Int32 × am_w) := ((am_fp 6 16 s1 s0 w).bind fun w11 => ((am_fp 6 17 v0 (-1 : Int32) w11).bind fun w12 => ((am_fp 6 18 v0 (-1 : Int32) w12).bind fun w13 => (some (0, w13)))))
set_option maxHeartbeats 4000000 in
theorem L_Activity_start_68 {p : Program} {l : Launch} {e : Env} {s : State} {m : MethodId} {args : Array Value} {below : List Frame} {meth : Method} {c : Code} {D : va_G} {A : Nat → Prop} {r : Int32 × am_w} (C : am_C p m c b_Activity_start 2 s args am_W "RoverMinutes$Activity" D classes A) (hret : meth.sig.returnType = none) (hlk : meth.locks = false)   : ∀ (v0 : Nat) (s0 : Int32) (s1 : Nat) (w : am_w), s_Activity_start_68  v0 s0 s1 w = some r → am_V p l e rm_Activity_start s m args below meth c D classes tys A (am_F A true) 2 0 0 (MQ below (am_Q D classes tys A (am_F A true) (am_rv r)) args s 0 0 (am_F A true)) 68 [some (.ref v0), none] [.int s0, .ref s1] w := by
  intro v0 s0 s1 w hX
  unfold s_Activity_start_68 at hX
  refine am_put (pc := 68) C (fun _ h => ⟨rfl, h⟩) hin_Activity t_Activity t_Activity_ok n_Activity rfl (by decide) wd_1_188 rfl rfl (t_Activity_ok 16 (by decide)) rfl rfl rfl d_Activity_start_68 hX (fun w11 hX => ?_)
  refine am_aload_n (pc := 71) C d_Activity_start_71 rfl rfl ?_
  refine am_iconst (pc := 72) (v := (-1 : Int32)) C d_Activity_start_72 (by decide) ?_
  refine am_put (pc := 73) C (fun _ h => ⟨rfl, h⟩) hin_Activity t_Activity t_Activity_ok n_Activity rfl (by decide) wd_1_189 rfl rfl (t_Activity_ok 17 (by decide)) rfl rfl rfl d_Activity_start_73 hX (fun w12 hX => ?_)
  refine am_aload_n (pc := 76) C d_Activity_start_76 rfl rfl ?_
  refine am_iconst (pc := 77) (v := (-1 : Int32)) C d_Activity_start_77 (by decide) ?_
  refine am_put (pc := 78) C (fun _ h => ⟨rfl, h⟩) hin_Activity t_Activity t_Activity_ok n_Activity rfl (by decide) wd_1_191 rfl rfl (t_Activity_ok 18 (by decide)) rfl rfl rfl d_Activity_start_78 hX (fun w13 hX => ?_)
  exact am_vret (pc := 81) C hret hlk d_Activity_start_81 (by decide) (by decide) hX
def s_Activity_start_45  (v0 : Nat) (s0 : Int32) (s1 : Nat) (w : am_w) : Option (Int32 × am_w) := ((am_fp 6 15 s1 s0 w).bind fun w8 => ((am_fg 6 18 v0 w8).bind fun x9 => (if x9 = (-1 : Int32) then ((am_fg 6 2 v0 w8).bind fun x14 => (s_Activity_start_68  v0 x14 v0 w8)) else ((am_fg 6 18 v0 w8).bind fun x10 => (s_Activity_start_68  v0 x10 v0 w8)))))
set_option maxHeartbeats 4000000 in
theorem L_Activity_start_45 {p : Program} {l : Launch} {e : Env} {s : State} {m : MethodId} {args : Array Value} {below : List Frame} {meth : Method} {c : Code} {D : va_G} {A : Nat → Prop} {r : Int32 × am_w} (C : am_C p m c b_Activity_start 2 s args am_W "RoverMinutes$Activity" D classes A) (hret : meth.sig.returnType = none) (hlk : meth.locks = false)   : ∀ (v0 : Nat) (s0 : Int32) (s1 : Nat) (w : am_w), s_Activity_start_45  v0 s0 s1 w = some r → am_V p l e rm_Activity_start s m args below meth c D classes tys A (am_F A true) 2 0 0 (MQ below (am_Q D classes tys A (am_F A true) (am_rv r)) args s 0 0 (am_F A true)) 45 [some (.ref v0), none] [.int s0, .ref s1] w := by
  intro v0 s0 s1 w hX
  unfold s_Activity_start_45 at hX
  refine am_put (pc := 45) C (fun _ h => ⟨rfl, h⟩) hin_Activity t_Activity t_Activity_ok n_Activity rfl (by decide) wd_1_186 rfl rfl (t_Activity_ok 15 (by decide)) rfl rfl rfl d_Activity_start_45 hX (fun w8 hX => ?_)
  refine am_aload_n (pc := 48) C d_Activity_start_48 rfl rfl ?_
  refine am_aload_n (pc := 49) C d_Activity_start_49 rfl rfl ?_
  refine am_get (pc := 50) C hin_Activity rfl (by decide) wd_1_191 rfl d_Activity_start_50 rfl hX (fun x9 hX => ?_)
  refine am_iconst (pc := 53) (v := (-1 : Int32)) C d_Activity_start_53 (by decide) ?_
  refine am_icmp_ne (pc := 54) (tgt := 64) C d_Activity_start_54 rfl hX (fun hX => ?_) (fun hX => ?_)
  · skip
    refine am_aload_n (pc := 64) C d_Activity_start_64 rfl rfl ?_
    refine am_get (pc := 65) C hin_Activity rfl (by decide) wd_1_191 rfl d_Activity_start_65 rfl hX (fun x10 hX => ?_)
    exact (L_Activity_start_68 C hret hlk  v0 x10 v0 w8 hX)
  · skip
    refine am_aload_n (pc := 57) C d_Activity_start_57 rfl rfl ?_
    refine am_get (pc := 58) C hin_Activity rfl (by decide) wd_1_148 rfl d_Activity_start_58 rfl hX (fun x14 hX => ?_)
    refine am_goto (pc := 61) (tgt := 68) C d_Activity_start_61 rfl ?_
    exact (L_Activity_start_68 C hret hlk  v0 x14 v0 w8 hX)
def f_Activity_start (a0 : Nat) (a1 : Int32) (w : am_w) : Option (Int32 × am_w) := ((am_fp 6 10 a0 (1 : Int32) w).bind fun w1 => ((am_fp 6 11 a0 a1 w1).bind fun w2 => ((am_fp 6 12 a0 (0 : Int32) w2).bind fun w3 => ((am_fg 6 14 a0 w3).bind fun x4 => ((am_fp 6 14 a0 (x4 + (1 : Int32)) w3).bind fun w5 => ((am_fg 6 17 a0 w5).bind fun x6 => (if x6 = (-1 : Int32) then ((am_fg 6 1 a0 w5).bind fun x15 => (s_Activity_start_45  a0 x15 a0 w5)) else ((am_fg 6 17 a0 w5).bind fun x7 => (s_Activity_start_45  a0 x7 a0 w5)))))))))
theorem hd_Activity_start : y_Activity_start.cls = "RoverMinutes$Activity" ∧ y_Activity_start.cls ≠ "java/lang/invoke/MethodHandle" ∧ y_Activity_start.cls ≠ "java/lang/invoke/VarHandle" ∧ (parseMethodDescriptor y_Activity_start.desc).map (fun d => d.parameters.length) = some 1 := ⟨rfl, by decide, by decide, by decide +kernel⟩
set_option maxHeartbeats 4000000 in
theorem c_Activity_start {l : Launch} {D : va_G} {A : Nat → Prop} {a0 : Nat} {a1 : Int32} {w : am_w} {r : Int32 × am_w} (hX : f_Activity_start a0 a1 w = some r) : am_Met l D classes tys A (am_F A true) y_Activity_start (Cond.code y_Activity_start b_Activity_start 2 none :: am_W) rm_Activity_start [.ref a0, .int a1] w (am_rv r) 0 0 := by
  refine am_ofV (by decide) am_W_good (Nat.le_of_ble_eq_true rfl) (by simp [Value.category]) ?_
  intro p e s m below meth c C hret hlk hnm
  unfold f_Activity_start at hX
  refine am_aload_n (pc := 0) C d_Activity_start_0 rfl rfl ?_
  refine am_iconst (pc := 1) (v := (1 : Int32)) C d_Activity_start_1 (by decide) ?_
  refine am_put (pc := 2) C (fun _ h => ⟨rfl, h⟩) hin_Activity t_Activity t_Activity_ok n_Activity rfl (by decide) wd_1_174 rfl rfl (t_Activity_ok 10 (by decide)) rfl rfl rfl d_Activity_start_2 hX (fun w1 hX => ?_)
  refine am_aload_n (pc := 5) C d_Activity_start_5 rfl rfl ?_
  refine am_iload_n (pc := 6) C d_Activity_start_6 rfl rfl ?_
  refine am_put (pc := 7) C (fun _ h => ⟨rfl, h⟩) hin_Activity t_Activity t_Activity_ok n_Activity rfl (by decide) wd_1_177 rfl rfl (t_Activity_ok 11 (by decide)) rfl rfl rfl d_Activity_start_7 hX (fun w2 hX => ?_)
  refine am_aload_n (pc := 10) C d_Activity_start_10 rfl rfl ?_
  refine am_iconst (pc := 11) (v := (0 : Int32)) C d_Activity_start_11 (by decide) ?_
  refine am_put (pc := 12) C (fun _ h => ⟨rfl, h⟩) hin_Activity t_Activity t_Activity_ok n_Activity rfl (by decide) wd_1_180 rfl rfl (t_Activity_ok 12 (by decide)) rfl rfl rfl d_Activity_start_12 hX (fun w3 hX => ?_)
  refine am_aload_n (pc := 15) C d_Activity_start_15 rfl rfl ?_
  refine am_dup (pc := 16) C d_Activity_start_16 rfl ?_
  refine am_get (pc := 17) C hin_Activity rfl (by decide) wd_1_184 rfl d_Activity_start_17 rfl hX (fun x4 hX => ?_)
  refine am_iconst (pc := 20) (v := (1 : Int32)) C d_Activity_start_20 (by decide) ?_
  refine am_iadd (pc := 21) C d_Activity_start_21 ?_
  refine am_put (pc := 22) C (fun _ h => ⟨rfl, h⟩) hin_Activity t_Activity t_Activity_ok n_Activity rfl (by decide) wd_1_184 rfl rfl (t_Activity_ok 14 (by decide)) rfl rfl rfl d_Activity_start_22 hX (fun w5 hX => ?_)
  refine am_aload_n (pc := 25) C d_Activity_start_25 rfl rfl ?_
  refine am_aload_n (pc := 26) C d_Activity_start_26 rfl rfl ?_
  refine am_get (pc := 27) C hin_Activity rfl (by decide) wd_1_189 rfl d_Activity_start_27 rfl hX (fun x6 hX => ?_)
  refine am_iconst (pc := 30) (v := (-1 : Int32)) C d_Activity_start_30 (by decide) ?_
  refine am_icmp_ne (pc := 31) (tgt := 41) C d_Activity_start_31 rfl hX (fun hX => ?_) (fun hX => ?_)
  · skip
    refine am_aload_n (pc := 41) C d_Activity_start_41 rfl rfl ?_
    refine am_get (pc := 42) C hin_Activity rfl (by decide) wd_1_189 rfl d_Activity_start_42 rfl hX (fun x7 hX => ?_)
    exact am_sub (am_le_s (am_le_n (am_le_0))) (L_Activity_start_45 C hret hlk  a0 x7 a0 w5 hX)
  · skip
    refine am_aload_n (pc := 34) C d_Activity_start_34 rfl rfl ?_
    refine am_get (pc := 35) C hin_Activity rfl (by decide) wd_1_144 rfl d_Activity_start_35 rfl hX (fun x15 hX => ?_)
    refine am_goto (pc := 38) (tgt := 45) C d_Activity_start_38 rfl ?_
    exact am_sub (am_le_s (am_le_n (am_le_0))) (L_Activity_start_45 C hret hlk  a0 x15 a0 w5 hX)
def rm_Activity_stop : Room := { frames := 0, cells := 0, slots := 0, locals := 0 }
def f_Activity_stop (a0 : Nat) (w : am_w) : Option (Int32 × am_w) := ((am_fg 6 13 a0 w).bind fun x1 => (if x1 ≤ 0 then ((am_fp 6 10 a0 (3 : Int32) w).bind fun w2 => (some (0, w2))) else ((am_fg 6 13 a0 w).bind fun x3 => ((am_fp 6 13 a0 (x3 - (1 : Int32)) w).bind fun w4 => ((am_fp 6 10 a0 (0 : Int32) w4).bind fun w5 => (some (0, w5)))))))
theorem hd_Activity_stop : y_Activity_stop.cls = "RoverMinutes$Activity" ∧ y_Activity_stop.cls ≠ "java/lang/invoke/MethodHandle" ∧ y_Activity_stop.cls ≠ "java/lang/invoke/VarHandle" ∧ (parseMethodDescriptor y_Activity_stop.desc).map (fun d => d.parameters.length) = some 0 := ⟨rfl, by decide, by decide, by decide +kernel⟩
set_option maxHeartbeats 4000000 in
theorem c_Activity_stop {l : Launch} {D : va_G} {A : Nat → Prop} {a0 : Nat} {w : am_w} {r : Int32 × am_w} (hX : f_Activity_stop a0 w = some r) : am_Met l D classes tys A (am_F A true) y_Activity_stop (Cond.code y_Activity_stop b_Activity_stop 1 none :: am_W) rm_Activity_stop [.ref a0] w (am_rv r) 0 0 := by
  refine am_ofV (by decide) am_W_good (Nat.le_of_ble_eq_true rfl) (by simp [Value.category]) ?_
  intro p e s m below meth c C hret hlk hnm
  unfold f_Activity_stop at hX
  refine am_aload_n (pc := 0) C d_Activity_stop_0 rfl rfl ?_
  refine am_get (pc := 1) C hin_Activity rfl (by decide) wd_1_182 rfl d_Activity_stop_1 rfl hX (fun x1 hX => ?_)
  refine am_if_le (pc := 4) (tgt := 25) C d_Activity_stop_4 rfl hX (fun hX => ?_) (fun hX => ?_)
  · skip
    refine am_aload_n (pc := 25) C d_Activity_stop_25 rfl rfl ?_
    refine am_iconst (pc := 26) (v := (3 : Int32)) C d_Activity_stop_26 (by decide) ?_
    refine am_put (pc := 27) C (fun _ h => ⟨rfl, h⟩) hin_Activity t_Activity t_Activity_ok n_Activity rfl (by decide) wd_1_174 rfl rfl (t_Activity_ok 10 (by decide)) rfl rfl rfl d_Activity_stop_27 hX (fun w2 hX => ?_)
    exact am_vret (pc := 30) C hret hlk d_Activity_stop_30 (by decide) (by decide) hX
  · skip
    refine am_aload_n (pc := 7) C d_Activity_stop_7 rfl rfl ?_
    refine am_dup (pc := 8) C d_Activity_stop_8 rfl ?_
    refine am_get (pc := 9) C hin_Activity rfl (by decide) wd_1_182 rfl d_Activity_stop_9 rfl hX (fun x3 hX => ?_)
    refine am_iconst (pc := 12) (v := (1 : Int32)) C d_Activity_stop_12 (by decide) ?_
    refine am_isub (pc := 13) C d_Activity_stop_13 ?_
    refine am_put (pc := 14) C (fun _ h => ⟨rfl, h⟩) hin_Activity t_Activity t_Activity_ok n_Activity rfl (by decide) wd_1_182 rfl rfl (t_Activity_ok 13 (by decide)) rfl rfl rfl d_Activity_stop_14 hX (fun w4 hX => ?_)
    refine am_aload_n (pc := 17) C d_Activity_stop_17 rfl rfl ?_
    refine am_iconst (pc := 18) (v := (0 : Int32)) C d_Activity_stop_18 (by decide) ?_
    refine am_put (pc := 19) C (fun _ h => ⟨rfl, h⟩) hin_Activity t_Activity t_Activity_ok n_Activity rfl (by decide) wd_1_174 rfl rfl (t_Activity_ok 10 (by decide)) rfl rfl rfl d_Activity_stop_19 hX (fun w5 hX => ?_)
    refine am_goto (pc := 22) (tgt := 30) C d_Activity_stop_22 rfl ?_
    exact am_vret (pc := 30) C hret hlk d_Activity_stop_30 (by decide) (by decide) hX
def rm_Activity_growOlder : Room := { frames := 1, cells := 0, slots := 0, locals := 20 }
def s_Activity_growOlder_50  (v0 : Nat) (w : am_w) : Option (Int32 × am_w) := ((am_fg 6 12 v0 w).bind fun x8 => ((am_fg 6 15 v0 w).bind fun x9 => (if x8 < x9 then (some (0, w)) else ((am_fp 6 10 v0 (2 : Int32) w).bind fun w10 => (some (0, w10))))))
set_option maxHeartbeats 4000000 in
theorem L_Activity_growOlder_50 {p : Program} {l : Launch} {e : Env} {s : State} {m : MethodId} {args : Array Value} {below : List Frame} {meth : Method} {c : Code} {D : va_G} {A : Nat → Prop} {r : Int32 × am_w} (C : am_C p m c b_Activity_growOlder 1 s args am_W "RoverMinutes$Activity" D classes A) (hret : meth.sig.returnType = none) (hlk : meth.locks = false)   : ∀ (v0 : Nat) (w : am_w), s_Activity_growOlder_50  v0 w = some r → am_V p l e rm_Activity_growOlder s m args below meth c D classes tys A (am_F A true) 1 0 0 (MQ below (am_Q D classes tys A (am_F A true) (am_rv r)) args s 0 0 (am_F A true)) 50 [some (.ref v0)] [] w := by
  intro v0 w hX
  unfold s_Activity_growOlder_50 at hX
  refine am_aload_n (pc := 50) C d_Activity_growOlder_50 rfl rfl ?_
  refine am_get (pc := 51) C hin_Activity rfl (by decide) wd_1_180 rfl d_Activity_growOlder_51 rfl hX (fun x8 hX => ?_)
  refine am_aload_n (pc := 54) C d_Activity_growOlder_54 rfl rfl ?_
  refine am_get (pc := 55) C hin_Activity rfl (by decide) wd_1_186 rfl d_Activity_growOlder_55 rfl hX (fun x9 hX => ?_)
  refine am_icmp_lt (pc := 58) (tgt := 66) C d_Activity_growOlder_58 rfl hX (fun hX => ?_) (fun hX => ?_)
  · skip
    exact am_vret (pc := 66) C hret hlk d_Activity_growOlder_66 (by decide) (by decide) hX
  · skip
    refine am_aload_n (pc := 61) C d_Activity_growOlder_61 rfl rfl ?_
    refine am_iconst (pc := 62) (v := (2 : Int32)) C d_Activity_growOlder_62 (by decide) ?_
    refine am_put (pc := 63) C (fun _ h => ⟨rfl, h⟩) hin_Activity t_Activity t_Activity_ok n_Activity rfl (by decide) wd_1_174 rfl rfl (t_Activity_ok 10 (by decide)) rfl rfl rfl d_Activity_growOlder_63 hX (fun w10 hX => ?_)
    exact am_vret (pc := 66) C hret hlk d_Activity_growOlder_66 (by decide) (by decide) hX
def f_Activity_growOlder (a0 : Nat) (w : am_w) : Option (Int32 × am_w) := ((am_fg 6 12 a0 w).bind fun x1 => ((am_fp 6 12 a0 (x1 + (1 : Int32)) w).bind fun w2 => ((am_fg 6 16 a0 w2).bind fun x3 => ((am_fg 6 2 a0 w2).bind fun x4 => (if x4 < x3 then ((am_ob 6 a0 w2 (f_Activity_stop a0 w2)).bind fun q5 => (some (0, q5.2))) else ((am_fg 6 12 a0 w2).bind fun x6 => ((am_fg 6 1 a0 w2).bind fun x7 => (if x6 < x7 then (s_Activity_growOlder_50  a0 w2) else ((am_fg 6 15 a0 w2).bind fun x11 => ((am_fg 6 12 a0 w2).bind fun x12 => (if x11 ≤ x12 then (s_Activity_growOlder_50  a0 w2) else ((am_ob 6 a0 w2 (f_Activity_stop a0 w2)).bind fun q13 => (some (0, q13.2))))))))))))))
theorem hd_Activity_growOlder : y_Activity_growOlder.cls = "RoverMinutes$Activity" ∧ y_Activity_growOlder.cls ≠ "java/lang/invoke/MethodHandle" ∧ y_Activity_growOlder.cls ≠ "java/lang/invoke/VarHandle" ∧ (parseMethodDescriptor y_Activity_growOlder.desc).map (fun d => d.parameters.length) = some 0 := ⟨rfl, by decide, by decide, by decide +kernel⟩
set_option maxHeartbeats 4000000 in
theorem c_Activity_growOlder {l : Launch} {D : va_G} {A : Nat → Prop} {a0 : Nat} {w : am_w} {r : Int32 × am_w} (hX : f_Activity_growOlder a0 w = some r) : am_Met l D classes tys A (am_F A true) y_Activity_growOlder (Cond.code y_Activity_growOlder b_Activity_growOlder 1 none :: am_W) rm_Activity_growOlder [.ref a0] w (am_rv r) 0 0 := by
  refine am_ofV (by decide) am_W_good (Nat.le_of_ble_eq_true rfl) (by simp [Value.category]) ?_
  intro p e s m below meth c C hret hlk hnm
  unfold f_Activity_growOlder at hX
  refine am_aload_n (pc := 0) C d_Activity_growOlder_0 rfl rfl ?_
  refine am_dup (pc := 1) C d_Activity_growOlder_1 rfl ?_
  refine am_get (pc := 2) C hin_Activity rfl (by decide) wd_1_180 rfl d_Activity_growOlder_2 rfl hX (fun x1 hX => ?_)
  refine am_iconst (pc := 5) (v := (1 : Int32)) C d_Activity_growOlder_5 (by decide) ?_
  refine am_iadd (pc := 6) C d_Activity_growOlder_6 ?_
  refine am_put (pc := 7) C (fun _ h => ⟨rfl, h⟩) hin_Activity t_Activity t_Activity_ok n_Activity rfl (by decide) wd_1_180 rfl rfl (t_Activity_ok 12 (by decide)) rfl rfl rfl d_Activity_growOlder_7 hX (fun w2 hX => ?_)
  refine am_aload_n (pc := 10) C d_Activity_growOlder_10 rfl rfl ?_
  refine am_get (pc := 11) C hin_Activity rfl (by decide) wd_1_188 rfl d_Activity_growOlder_11 rfl hX (fun x3 hX => ?_)
  refine am_aload_n (pc := 14) C d_Activity_growOlder_14 rfl rfl ?_
  refine am_get (pc := 15) C hin_Activity rfl (by decide) wd_1_148 rfl d_Activity_growOlder_15 rfl hX (fun x4 hX => ?_)
  refine am_icmp_gt (pc := 18) (tgt := 43) C d_Activity_growOlder_18 rfl hX (fun hX => ?_) (fun hX => ?_)
  · skip
    refine am_aload_n (pc := 43) C d_Activity_growOlder_43 rfl rfl ?_
    refine am_callVv (pc := 44) (As := []) (st := []) (cells1 := 0) (slots1 := 0) C (fun _ h => h.2) (fun _ h => h) (fun q h => c_Activity_stop h) wd_3_234 wd_3_236 ws_Activity_stop wd_1_8 wd_3_237 rfl rfl hd_Activity_stop ⟨by decide, by decide⟩ rfl rfl (Nat.le_of_ble_eq_true rfl) d_Activity_growOlder_44 ⟨by decide, by decide⟩ rfl rfl rfl hX (fun q5 hX => ?_)
    refine am_goto (pc := 47) (tgt := 66) C d_Activity_growOlder_47 rfl ?_
    exact am_vret (pc := 66) C hret hlk d_Activity_growOlder_66 (by decide) (by decide) hX
  · skip
    refine am_aload_n (pc := 21) C d_Activity_growOlder_21 rfl rfl ?_
    refine am_get (pc := 22) C hin_Activity rfl (by decide) wd_1_180 rfl d_Activity_growOlder_22 rfl hX (fun x6 hX => ?_)
    refine am_aload_n (pc := 25) C d_Activity_growOlder_25 rfl rfl ?_
    refine am_get (pc := 26) C hin_Activity rfl (by decide) wd_1_144 rfl d_Activity_growOlder_26 rfl hX (fun x7 hX => ?_)
    refine am_icmp_lt (pc := 29) (tgt := 50) C d_Activity_growOlder_29 rfl hX (fun hX => ?_) (fun hX => ?_)
    · skip
      exact (L_Activity_growOlder_50 C hret hlk  a0 w2 hX)
    · skip
      refine am_aload_n (pc := 32) C d_Activity_growOlder_32 rfl rfl ?_
      refine am_get (pc := 33) C hin_Activity rfl (by decide) wd_1_186 rfl d_Activity_growOlder_33 rfl hX (fun x11 hX => ?_)
      refine am_aload_n (pc := 36) C d_Activity_growOlder_36 rfl rfl ?_
      refine am_get (pc := 37) C hin_Activity rfl (by decide) wd_1_180 rfl d_Activity_growOlder_37 rfl hX (fun x12 hX => ?_)
      refine am_icmp_le (pc := 40) (tgt := 50) C d_Activity_growOlder_40 rfl hX (fun hX => ?_) (fun hX => ?_)
      · skip
        exact (L_Activity_growOlder_50 C hret hlk  a0 w2 hX)
      · skip
        refine am_aload_n (pc := 43) C d_Activity_growOlder_43 rfl rfl ?_
        refine am_callVv (pc := 44) (As := []) (st := []) (cells1 := 0) (slots1 := 0) C (fun _ h => h.2) (fun _ h => h) (fun q h => c_Activity_stop h) wd_3_234 wd_3_236 ws_Activity_stop wd_1_8 wd_3_237 rfl rfl hd_Activity_stop ⟨by decide, by decide⟩ rfl rfl (Nat.le_of_ble_eq_true rfl) d_Activity_growOlder_44 ⟨by decide, by decide⟩ rfl rfl rfl hX (fun q13 hX => ?_)
        refine am_goto (pc := 47) (tgt := 66) C d_Activity_growOlder_47 rfl ?_
        exact am_vret (pc := 66) C hret hlk d_Activity_growOlder_66 (by decide) (by decide) hX
