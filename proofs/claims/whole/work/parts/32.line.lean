def rm_Line_init : Room := { frames := 1, cells := 1, slots := 64, locals := 21 }
def f_Line_init (a0 : Nat) (w : am_w) : Option (Int32 × am_w) := (am_let (am_nw (.inr (.char, 64)) w) fun w1 => ((am_rp 1 0 a0 w.1 w1).bind fun w3 => (some (0, w3))))
theorem hd_Line_init : y_Line_init.cls ≠ "java/lang/invoke/MethodHandle" ∧ y_Line_init.cls ≠ "java/lang/invoke/VarHandle" ∧ (parseMethodDescriptor y_Line_init.desc).map (fun d => d.parameters.length) = some 0 := ⟨by decide, by decide, by decide +kernel⟩
set_option maxHeartbeats 4000000 in
theorem c_Line_init {l : Launch} {D : va_G} {A : Nat → Prop} {a0 : Nat} {w : am_w} {r : Int32 × am_w} (hX : f_Line_init a0 w = some r) : am_Met l D classes tys A (am_F A true) y_Line_init (Cond.code y_Line_init b_Line_init 1 none :: am_W) rm_Line_init [.ref a0] w (am_rv r) 1 64 := by
  refine am_ofV (by decide) am_W_good (Nat.le_of_ble_eq_true rfl) (by simp [Value.category]) ?_
  intro p e s m below meth c C hret hlk hnm
  unfold f_Line_init at hX
  refine am_aload_n (pc := 0) C d_Line_init_0 rfl rfl ?_
  refine am_objInit (pc := 1) C wd_1_34 wd_1_27 wd_1_28 d_Line_init_1 (by decide) (Nat.le_of_ble_eq_true rfl) ?_
  refine am_aload_n (pc := 4) C d_Line_init_4 rfl rfl ?_
  refine am_bipush (pc := 5) (v := (64 : Int32)) C d_Line_init_5 (by decide) ?_
  refine am_newa (pc := 7) (atype := .char) (N := 64) (t9 := .char) C wd_1_44 rfl rfl (by decide) (by decide) (by decide) (by decide) (by decide) d_Line_init_7 ?_
  obtain ⟨w1, ew1, hX⟩ := am_let_of hX
  rw [← ew1]
  refine am_putrF (pc := 9) C (fun _ h => ⟨rfl, h⟩) hin_Line t_Line t_Line_ok n_Line rfl (by decide) wd_1_35 rfl rfl rfl hnm (t_Line_ok 0 (by decide)) rfl rfl rfl d_Line_init_9 hX (fun w3 hX => ?_)
  exact am_vret (pc := 12) C hret hlk d_Line_init_12 (by decide) (by decide) hX
def rm_Line_canHold : Room := { frames := 0, cells := 0, slots := 0, locals := 0 }
def f_Line_canHold (a0 : Int32) (w : am_w) : Option (Int32 × am_w) := (if a0 < (32 : Int32) then (some ((0 : Int32), w)) else (if (126 : Int32) < a0 then (some ((0 : Int32), w)) else (some ((1 : Int32), w))))
theorem hd_Line_canHold : y_Line_canHold.cls ≠ "java/lang/invoke/MethodHandle" ∧ y_Line_canHold.cls ≠ "java/lang/invoke/VarHandle" ∧ (parseMethodDescriptor y_Line_canHold.desc).map (fun d => d.parameters.length) = some 1 := ⟨by decide, by decide, by decide +kernel⟩
set_option maxHeartbeats 4000000 in
theorem c_Line_canHold {l : Launch} {D : va_G} {A : Nat → Prop} {a0 : Int32} {w : am_w} {r : Int32 × am_w} (hX : f_Line_canHold a0 w = some r) : am_Met l D classes tys A (am_F A false) y_Line_canHold (Cond.code y_Line_canHold b_Line_canHold 1 (some .boolean) :: am_W) rm_Line_canHold [.int a0] w (am_ri r) 0 0 := by
  refine am_ofV (by decide) am_W_good (Nat.le_of_ble_eq_true rfl) (by simp [Value.category]) ?_
  intro p e s m below meth c C hret hlk hnm
  unfold f_Line_canHold at hX
  refine am_iload_n (pc := 0) C d_Line_canHold_0 rfl rfl ?_
  refine am_bipush (pc := 1) (v := (32 : Int32)) C d_Line_canHold_1 (by decide) ?_
  refine am_icmp_lt (pc := 3) (tgt := 16) C d_Line_canHold_3 rfl hX (fun hX => ?_) (fun hX => ?_)
  · skip
    refine am_iconst (pc := 16) (v := (0 : Int32)) C d_Line_canHold_16 (by decide) ?_
    exact am_iret (pc := 17) C hret hlk d_Line_canHold_17 am_n0 (by decide) (by decide) hX
  · skip
    refine am_iload_n (pc := 6) C d_Line_canHold_6 rfl rfl ?_
    refine am_bipush (pc := 7) (v := (126 : Int32)) C d_Line_canHold_7 (by decide) ?_
    refine am_icmp_gt (pc := 9) (tgt := 16) C d_Line_canHold_9 rfl hX (fun hX => ?_) (fun hX => ?_)
    · skip
      refine am_iconst (pc := 16) (v := (0 : Int32)) C d_Line_canHold_16 (by decide) ?_
      exact am_iret (pc := 17) C hret hlk d_Line_canHold_17 am_n0 (by decide) (by decide) hX
    · skip
      refine am_iconst (pc := 12) (v := (1 : Int32)) C d_Line_canHold_12 (by decide) ?_
      refine am_goto (pc := 13) (tgt := 17) C d_Line_canHold_13 rfl ?_
      exact am_iret (pc := 17) C hret hlk d_Line_canHold_17 am_n1 (by decide) (by decide) hX
def rm_Line_hasRoomFor : Room := { frames := 0, cells := 0, slots := 0, locals := 0 }
def f_Line_hasRoomFor (a0 : Nat) (a1 : Int32) (w : am_w) : Option (Int32 × am_w) := ((am_fg 1 1 a0 w).bind fun x1 => (if (64 : Int32) < (x1 + a1) then (some ((0 : Int32), w)) else (some ((1 : Int32), w))))
theorem hd_Line_hasRoomFor : y_Line_hasRoomFor.cls = "RoverMinutes$Line" ∧ y_Line_hasRoomFor.cls ≠ "java/lang/invoke/MethodHandle" ∧ y_Line_hasRoomFor.cls ≠ "java/lang/invoke/VarHandle" ∧ (parseMethodDescriptor y_Line_hasRoomFor.desc).map (fun d => d.parameters.length) = some 1 := ⟨rfl, by decide, by decide, by decide +kernel⟩
set_option maxHeartbeats 4000000 in
theorem c_Line_hasRoomFor {l : Launch} {D : va_G} {A : Nat → Prop} {a0 : Nat} {a1 : Int32} {w : am_w} {r : Int32 × am_w} (hX : f_Line_hasRoomFor a0 a1 w = some r) : am_Met l D classes tys A (am_F A false) y_Line_hasRoomFor (Cond.code y_Line_hasRoomFor b_Line_hasRoomFor 2 (some .boolean) :: am_W) rm_Line_hasRoomFor [.ref a0, .int a1] w (am_ri r) 0 0 := by
  refine am_ofV (by decide) am_W_good (Nat.le_of_ble_eq_true rfl) (by simp [Value.category]) ?_
  intro p e s m below meth c C hret hlk hnm
  unfold f_Line_hasRoomFor at hX
  refine am_aload_n (pc := 0) C d_Line_hasRoomFor_0 rfl rfl ?_
  refine am_get (pc := 1) C hin_Line rfl (by decide) wd_1_38 rfl d_Line_hasRoomFor_1 rfl hX (fun x1 hX => ?_)
  refine am_iload_n (pc := 4) C d_Line_hasRoomFor_4 rfl rfl ?_
  refine am_iadd (pc := 5) C d_Line_hasRoomFor_5 ?_
  refine am_bipush (pc := 6) (v := (64 : Int32)) C d_Line_hasRoomFor_6 (by decide) ?_
  refine am_icmp_gt (pc := 8) (tgt := 15) C d_Line_hasRoomFor_8 rfl hX (fun hX => ?_) (fun hX => ?_)
  · skip
    refine am_iconst (pc := 15) (v := (0 : Int32)) C d_Line_hasRoomFor_15 (by decide) ?_
    exact am_iret (pc := 16) C hret hlk d_Line_hasRoomFor_16 am_n0 (by decide) (by decide) hX
  · skip
    refine am_iconst (pc := 11) (v := (1 : Int32)) C d_Line_hasRoomFor_11 (by decide) ?_
    refine am_goto (pc := 12) (tgt := 16) C d_Line_hasRoomFor_12 rfl ?_
    exact am_iret (pc := 16) C hret hlk d_Line_hasRoomFor_16 am_n1 (by decide) (by decide) hX
def rm_Line_put : Room := { frames := 0, cells := 0, slots := 0, locals := 0 }
def f_Line_put (a0 : Nat) (a1 : Int32) (w : am_w) : Option (Int32 × am_w) := ((am_fg 1 1 a0 w).bind fun x1 => (if (64 : Int32) ≤ x1 then (some (0, w)) else ((am_rg 1 0 a0 w).bind fun b2 => ((am_fg 1 1 a0 w).bind fun x3 => ((am_cs b2 x3 a1 w).bind fun w4 => ((am_fg 1 1 a0 w4).bind fun x5 => ((am_fp 1 1 a0 (x5 + (1 : Int32)) w4).bind fun w6 => (some (0, w6)))))))))
theorem hd_Line_put : y_Line_put.cls = "RoverMinutes$Line" ∧ y_Line_put.cls ≠ "java/lang/invoke/MethodHandle" ∧ y_Line_put.cls ≠ "java/lang/invoke/VarHandle" ∧ (parseMethodDescriptor y_Line_put.desc).map (fun d => d.parameters.length) = some 1 := ⟨rfl, by decide, by decide, by decide +kernel⟩
set_option maxHeartbeats 4000000 in
theorem c_Line_put {l : Launch} {D : va_G} {A : Nat → Prop} {a0 : Nat} {a1 : Int32} {w : am_w} {r : Int32 × am_w} (hX : f_Line_put a0 a1 w = some r) : am_Met l D classes tys A (am_F A true) y_Line_put (Cond.code y_Line_put b_Line_put 2 none :: am_W) rm_Line_put [.ref a0, .int a1] w (am_rv r) 0 0 := by
  refine am_ofV (by decide) am_W_good (Nat.le_of_ble_eq_true rfl) (by simp [Value.category]) ?_
  intro p e s m below meth c C hret hlk hnm
  unfold f_Line_put at hX
  refine am_aload_n (pc := 0) C d_Line_put_0 rfl rfl ?_
  refine am_get (pc := 1) C hin_Line rfl (by decide) wd_1_38 rfl d_Line_put_1 rfl hX (fun x1 hX => ?_)
  refine am_bipush (pc := 4) (v := (64 : Int32)) C d_Line_put_4 (by decide) ?_
  refine am_icmp_ge (pc := 6) (tgt := 29) C d_Line_put_6 rfl hX (fun hX => ?_) (fun hX => ?_)
  · skip
    exact am_vret (pc := 29) C hret hlk d_Line_put_29 (by decide) (by decide) hX
  · skip
    refine am_aload_n (pc := 9) C d_Line_put_9 rfl rfl ?_
    refine am_getr (pc := 10) C hin_Line rfl (by decide) wd_1_35 rfl d_Line_put_10 rfl hX (fun b2 hX => ?_)
    refine am_aload_n (pc := 13) C d_Line_put_13 rfl rfl ?_
    refine am_get (pc := 14) C hin_Line rfl (by decide) wd_1_38 rfl d_Line_put_14 rfl hX (fun x3 hX => ?_)
    refine am_iload_n (pc := 17) C d_Line_put_17 rfl rfl ?_
    refine am_cast (pc := 18) C (fun _ h => ⟨rfl, h⟩) d_Line_put_18 hX (fun w4 hX => ?_)
    refine am_aload_n (pc := 19) C d_Line_put_19 rfl rfl ?_
    refine am_dup (pc := 20) C d_Line_put_20 rfl ?_
    refine am_get (pc := 21) C hin_Line rfl (by decide) wd_1_38 rfl d_Line_put_21 rfl hX (fun x5 hX => ?_)
    refine am_iconst (pc := 24) (v := (1 : Int32)) C d_Line_put_24 (by decide) ?_
    refine am_iadd (pc := 25) C d_Line_put_25 ?_
    refine am_put (pc := 26) C (fun _ h => ⟨rfl, h⟩) hin_Line t_Line t_Line_ok n_Line rfl (by decide) wd_1_38 rfl rfl (t_Line_ok 1 (by decide)) rfl rfl rfl d_Line_put_26 hX (fun w6 hX => ?_)
    exact am_vret (pc := 29) C hret hlk d_Line_put_29 (by decide) (by decide) hX
def rm_Line_clear : Room := { frames := 0, cells := 0, slots := 0, locals := 0 }
def f_Line_clear (a0 : Nat) (w : am_w) : Option (Int32 × am_w) := ((am_fp 1 1 a0 (0 : Int32) w).bind fun w1 => (some (0, w1)))
theorem hd_Line_clear : y_Line_clear.cls = "RoverMinutes$Line" ∧ y_Line_clear.cls ≠ "java/lang/invoke/MethodHandle" ∧ y_Line_clear.cls ≠ "java/lang/invoke/VarHandle" ∧ (parseMethodDescriptor y_Line_clear.desc).map (fun d => d.parameters.length) = some 0 := ⟨rfl, by decide, by decide, by decide +kernel⟩
set_option maxHeartbeats 4000000 in
theorem c_Line_clear {l : Launch} {D : va_G} {A : Nat → Prop} {a0 : Nat} {w : am_w} {r : Int32 × am_w} (hX : f_Line_clear a0 w = some r) : am_Met l D classes tys A (am_F A true) y_Line_clear (Cond.code y_Line_clear b_Line_clear 1 none :: am_W) rm_Line_clear [.ref a0] w (am_rv r) 0 0 := by
  refine am_ofV (by decide) am_W_good (Nat.le_of_ble_eq_true rfl) (by simp [Value.category]) ?_
  intro p e s m below meth c C hret hlk hnm
  unfold f_Line_clear at hX
  refine am_aload_n (pc := 0) C d_Line_clear_0 rfl rfl ?_
  refine am_iconst (pc := 1) (v := (0 : Int32)) C d_Line_clear_1 (by decide) ?_
  refine am_put (pc := 2) C (fun _ h => ⟨rfl, h⟩) hin_Line t_Line t_Line_ok n_Line rfl (by decide) wd_1_38 rfl rfl (t_Line_ok 1 (by decide)) rfl rfl rfl d_Line_clear_2 hX (fun w1 hX => ?_)
  exact am_vret (pc := 5) C hret hlk d_Line_clear_5 (by decide) (by decide) hX
