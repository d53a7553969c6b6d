def rm_La_type : Room := { frames := 7, cells := 1, slots := 6, locals := 113 }
def f_La_type (a0 : Nat) (a1 : Int32) (a2 : Nat) (w : am_w) : Option (Int32 × am_w) := ((am_ob 0 a0 w (f_Rm_type a0 a1 w)).bind fun q1 => (if q1.2.1 = 0 then (if q1.1 = 0 then ((am_lp a2 (0 : Int32) (0 : Int32) q1.2.2).bind fun w2 => (some ((0 : Int32), w2))) else ((am_lp a2 (0 : Int32) (1 : Int32) q1.2.2).bind fun w3 => (some ((0 : Int32), w3)))) else (if q1.2.1 = 1 then (some ((1 : Int32), q1.2.2)) else none)))
theorem hd_La_type : y_La_type.cls ≠ "java/lang/invoke/MethodHandle" ∧ y_La_type.cls ≠ "java/lang/invoke/VarHandle" ∧ (parseMethodDescriptor y_La_type.desc).map (fun d => d.parameters.length) = some 3 := ⟨by decide, by decide, by decide +kernel⟩
set_option maxHeartbeats 4000000 in
theorem c_La_type {l : Launch} {D : va_G} {A : Nat → Prop} (hl : l.stackTraces = false) {a0 : Nat} {a1 : Int32} {a2 : Nat} {w : am_w} {r : Int32 × am_w} (hX : f_La_type a0 a1 a2 w = some r) : am_Met l D classes tys A (am_F A true) y_La_type (Cond.codeWith y_La_type b_La_type 4 (some .int) [(0, 16, 19, 13)] :: am_W) rm_La_type [.ref a0, .int a1, .ref a2] w (am_ri r) 1 6 := by
  refine am_ofVW (by decide) am_W_good (Nat.le_of_ble_eq_true rfl) (by simp [Value.category]) ?_
  intro p e s m below meth c C hret hlk htab
  unfold f_La_type at hX
  refine am_aload_n (pc := 0) C d_La_type_0 rfl rfl ?_
  refine am_iconst (pc := 1) (v := (0 : Int32)) C d_La_type_1 (by decide) ?_
  refine am_aload_n (pc := 2) C d_La_type_2 rfl rfl ?_
  refine am_iload_n (pc := 3) C d_La_type_3 rfl rfl ?_
  refine am_callTi (pc := 4) (As := [.int a1]) (st := [.int (0 : Int32), .ref a2]) (cells1 := 1) (slots1 := 6) C (fun _ h => h.2) (fun _ h => h) rfl htab la_lk la_cs (fun q h => c_Rm_type hl h) wd_2_99 wd_2_100 wd_2_101 wd_1_1 wd_2_102 rfl rfl hd_Rm_type ⟨by decide, by decide⟩ rfl rfl (Nat.le_of_ble_eq_true rfl) d_La_type_4 ⟨by decide, by decide⟩ rfl rfl rfl hX (fun q1 hq1 hX => ?_) (fun q1 hq1 hX => ?_)
  · rw [if_pos hq1] at hX
    refine am_if_eq (pc := 7) (tgt := 14) C d_La_type_7 rfl hX (fun hX => ?_) (fun hX => ?_)
    · skip
      refine am_lconst (pc := 14) (v := Int32.toInt64 (0 : Int32)) C d_La_type_14 (by decide) ?_
      refine am_last (pc := 15) C (fun _ h => ⟨rfl, h⟩) d_La_type_15 hX (fun w2 hX => ?_)
      refine am_goto (pc := 16) (tgt := 22) C d_La_type_16 rfl ?_
      refine am_iconst (pc := 22) (v := (0 : Int32)) C d_La_type_22 (by decide) ?_
      exact am_iret (pc := 23) C hret hlk d_La_type_23 rfl (by decide) (by decide) hX
    · skip
      refine am_lconst (pc := 10) (v := Int32.toInt64 (1 : Int32)) C d_La_type_10 (by decide) ?_
      refine am_goto (pc := 11) (tgt := 15) C d_La_type_11 rfl ?_
      refine am_last (pc := 15) C (fun _ h => ⟨rfl, h⟩) d_La_type_15 hX (fun w3 hX => ?_)
      refine am_goto (pc := 16) (tgt := 22) C d_La_type_16 rfl ?_
      refine am_iconst (pc := 22) (v := (0 : Int32)) C d_La_type_22 (by decide) ?_
      exact am_iret (pc := 23) C hret hlk d_La_type_23 rfl (by decide) (by decide) hX
  · rw [if_neg hq1] at hX
    by_cases hk1 : q1.2.1 = 1
    · rw [if_pos hk1] at hX
      refine ⟨by omega, 19, by rw [hk1]; decide, fun ex4 => ?_⟩
      refine am_astore_n (pc := 19) (lo1 := [some (.ref a0), some (.int a1), some (.ref a2), some (.ref ex4)]) C d_La_type_19 rfl (by decide) rfl ?_
      refine am_iconst (pc := 20) (v := (1 : Int32)) C d_La_type_20 (by decide) ?_
      exact am_iret (pc := 21) C hret hlk d_La_type_21 rfl (by decide) (by decide) hX
    rw [if_neg hk1] at hX
    exact (am_nn hX).elim
def rm_La_submit : Room := { frames := 7, cells := 1, slots := 6, locals := 161 }
def f_La_submit (a0 : Nat) (a1 : Nat) (w : am_w) : Option (Int32 × am_w) := ((am_ob 0 a0 w (f_Rm_submit a0 w)).bind fun q1 => (if q1.2.1 = 0 then ((am_lp a1 (0 : Int32) q1.1 q1.2.2).bind fun w2 => (some ((0 : Int32), w2))) else (if q1.2.1 = 2 then (some ((1 : Int32), q1.2.2)) else none)))
theorem hd_La_submit : y_La_submit.cls ≠ "java/lang/invoke/MethodHandle" ∧ y_La_submit.cls ≠ "java/lang/invoke/VarHandle" ∧ (parseMethodDescriptor y_La_submit.desc).map (fun d => d.parameters.length) = some 2 := ⟨by decide, by decide, by decide +kernel⟩
set_option maxHeartbeats 4000000 in
theorem c_La_submit {l : Launch} {D : va_G} {A : Nat → Prop} (hl : l.stackTraces = false) {a0 : Nat} {a1 : Nat} {w : am_w} {r : Int32 × am_w} (hX : f_La_submit a0 a1 w = some r) : am_Met l D classes tys A (am_F A true) y_La_submit (Cond.codeWith y_La_submit b_La_submit 3 (some .int) [(0, 8, 11, 19)] :: am_W) rm_La_submit [.ref a0, .ref a1] w (am_ri r) 1 6 := by
  refine am_ofVW (by decide) am_W_good (Nat.le_of_ble_eq_true rfl) (by simp [Value.category]) ?_
  intro p e s m below meth c C hret hlk htab
  unfold f_La_submit at hX
  refine am_aload_n (pc := 0) C d_La_submit_0 rfl rfl ?_
  refine am_iconst (pc := 1) (v := (0 : Int32)) C d_La_submit_1 (by decide) ?_
  refine am_aload_n (pc := 2) C d_La_submit_2 rfl rfl ?_
  refine am_callTi (pc := 3) (As := []) (st := [.int (0 : Int32), .ref a1]) (cells1 := 1) (slots1 := 6) C (fun _ h => h.2) (fun _ h => h) rfl htab la_lk la_cs (fun q h => c_Rm_submit hl h) wd_2_184 wd_2_185 wd_2_186 wd_1_1 wd_2_187 rfl rfl hd_Rm_submit ⟨by decide, by decide⟩ rfl rfl (Nat.le_of_ble_eq_true rfl) d_La_submit_3 ⟨by decide, by decide⟩ rfl rfl rfl hX (fun q1 hq1 hX => ?_) (fun q1 hq1 hX => ?_)
  · rw [if_pos hq1] at hX
    refine am_i2l (pc := 6) C d_La_submit_6 rfl ?_
    refine am_last (pc := 7) C (fun _ h => ⟨rfl, h⟩) d_La_submit_7 hX (fun w2 hX => ?_)
    refine am_goto (pc := 8) (tgt := 14) C d_La_submit_8 rfl ?_
    refine am_iconst (pc := 14) (v := (0 : Int32)) C d_La_submit_14 (by decide) ?_
    exact am_iret (pc := 15) C hret hlk d_La_submit_15 rfl (by decide) (by decide) hX
  · rw [if_neg hq1] at hX
    by_cases hk2 : q1.2.1 = 2
    · rw [if_pos hk2] at hX
      refine ⟨by omega, 11, by rw [hk2]; decide, fun ex3 => ?_⟩
      refine am_astore_n (pc := 11) (lo1 := [some (.ref a0), some (.ref a1), some (.ref ex3)]) C d_La_submit_11 rfl (by decide) rfl ?_
      refine am_iconst (pc := 12) (v := (1 : Int32)) C d_La_submit_12 (by decide) ?_
      exact am_iret (pc := 13) C hret hlk d_La_submit_13 rfl (by decide) (by decide) hX
    rw [if_neg hk2] at hX
    exact (am_nn hX).elim
def rm_La_enable : Room := { frames := 7, cells := 1, slots := 6, locals := 154 }
def f_La_enable (a0 : Nat) (a1 : Nat) (w : am_w) : Option (Int32 × am_w) := ((am_ob 0 a0 w (f_Rm_enable a0 w)).bind fun q1 => (if q1.2.1 = 0 then ((am_lp a1 (0 : Int32) q1.1 q1.2.2).bind fun w2 => (some ((0 : Int32), w2))) else (if q1.2.1 = 2 then (some ((1 : Int32), q1.2.2)) else none)))
theorem hd_La_enable : y_La_enable.cls ≠ "java/lang/invoke/MethodHandle" ∧ y_La_enable.cls ≠ "java/lang/invoke/VarHandle" ∧ (parseMethodDescriptor y_La_enable.desc).map (fun d => d.parameters.length) = some 2 := ⟨by decide, by decide, by decide +kernel⟩
set_option maxHeartbeats 4000000 in
theorem c_La_enable {l : Launch} {D : va_G} {A : Nat → Prop} (hl : l.stackTraces = false) {a0 : Nat} {a1 : Nat} {w : am_w} {r : Int32 × am_w} (hX : f_La_enable a0 a1 w = some r) : am_Met l D classes tys A (am_F A true) y_La_enable (Cond.codeWith y_La_enable b_La_enable 3 (some .int) [(0, 8, 11, 19)] :: am_W) rm_La_enable [.ref a0, .ref a1] w (am_ri r) 1 6 := by
  refine am_ofVW (by decide) am_W_good (Nat.le_of_ble_eq_true rfl) (by simp [Value.category]) ?_
  intro p e s m below meth c C hret hlk htab
  unfold f_La_enable at hX
  refine am_aload_n (pc := 0) C d_La_enable_0 rfl rfl ?_
  refine am_iconst (pc := 1) (v := (0 : Int32)) C d_La_enable_1 (by decide) ?_
  refine am_aload_n (pc := 2) C d_La_enable_2 rfl rfl ?_
  refine am_callTi (pc := 3) (As := []) (st := [.int (0 : Int32), .ref a1]) (cells1 := 1) (slots1 := 6) C (fun _ h => h.2) (fun _ h => h) rfl htab la_lk la_cs (fun q h => c_Rm_enable hl h) wd_3_123 wd_3_124 wd_3_125 wd_1_1 wd_3_126 rfl rfl hd_Rm_enable ⟨by decide, by decide⟩ rfl rfl (Nat.le_of_ble_eq_true rfl) d_La_enable_3 ⟨by decide, by decide⟩ rfl rfl rfl hX (fun q1 hq1 hX => ?_) (fun q1 hq1 hX => ?_)
  · rw [if_pos hq1] at hX
    refine am_i2l (pc := 6) C d_La_enable_6 rfl ?_
    refine am_last (pc := 7) C (fun _ h => ⟨rfl, h⟩) d_La_enable_7 hX (fun w2 hX => ?_)
    refine am_goto (pc := 8) (tgt := 14) C d_La_enable_8 rfl ?_
    refine am_iconst (pc := 14) (v := (0 : Int32)) C d_La_enable_14 (by decide) ?_
    exact am_iret (pc := 15) C hret hlk d_La_enable_15 rfl (by decide) (by decide) hX
  · rw [if_neg hq1] at hX
    by_cases hk2 : q1.2.1 = 2
    · rw [if_pos hk2] at hX
      refine ⟨by omega, 11, by rw [hk2]; decide, fun ex3 => ?_⟩
      refine am_astore_n (pc := 11) (lo1 := [some (.ref a0), some (.ref a1), some (.ref ex3)]) C d_La_enable_11 rfl (by decide) rfl ?_
      refine am_iconst (pc := 12) (v := (1 : Int32)) C d_La_enable_12 (by decide) ?_
      exact am_iret (pc := 13) C hret hlk d_La_enable_13 rfl (by decide) (by decide) hX
    rw [if_neg hk2] at hX
    exact (am_nn hX).elim
def rm_La_cancel : Room := { frames := 7, cells := 1, slots := 6, locals := 110 }
def f_La_cancel (a0 : Nat) (w : am_w) : Option (Int32 × am_w) := ((am_ob 0 a0 w (f_Rm_cancel a0 w)).bind fun q1 => (if q1.2.1 = 0 then (some ((0 : Int32), q1.2.2)) else (if q1.2.1 = 2 then (some ((1 : Int32), q1.2.2)) else none)))
theorem hd_La_cancel : y_La_cancel.cls ≠ "java/lang/invoke/MethodHandle" ∧ y_La_cancel.cls ≠ "java/lang/invoke/VarHandle" ∧ (parseMethodDescriptor y_La_cancel.desc).map (fun d => d.parameters.length) = some 1 := ⟨by decide, by decide, by decide +kernel⟩
set_option maxHeartbeats 4000000 in
theorem c_La_cancel {l : Launch} {D : va_G} {A : Nat → Prop} (hl : l.stackTraces = false) {a0 : Nat} {w : am_w} {r : Int32 × am_w} (hX : f_La_cancel a0 w = some r) : am_Met l D classes tys A (am_F A true) y_La_cancel (Cond.codeWith y_La_cancel b_La_cancel 2 (some .int) [(0, 4, 7, 19)] :: am_W) rm_La_cancel [.ref a0] w (am_ri r) 1 6 := by
  refine am_ofVW (by decide) am_W_good (Nat.le_of_ble_eq_true rfl) (by simp [Value.category]) ?_
  intro p e s m below meth c C hret hlk htab
  unfold f_La_cancel at hX
  refine am_aload_n (pc := 0) C d_La_cancel_0 rfl rfl ?_
  refine am_callTv (pc := 1) (As := []) (st := []) (cells1 := 1) (slots1 := 6) C (fun _ h => h.2) (fun _ h => h) rfl htab la_lk la_cs (fun q h => c_Rm_cancel hl h) wd_3_185 wd_3_186 wd_3_187 wd_1_1 wd_3_188 rfl rfl hd_Rm_cancel ⟨by decide, by decide⟩ rfl rfl (Nat.le_of_ble_eq_true rfl) d_La_cancel_1 ⟨by decide, by decide⟩ rfl rfl rfl hX (fun q1 hq1 hX => ?_) (fun q1 hq1 hX => ?_)
  · rw [if_pos hq1] at hX
    refine am_goto (pc := 4) (tgt := 10) C d_La_cancel_4 rfl ?_
    refine am_iconst (pc := 10) (v := (0 : Int32)) C d_La_cancel_10 (by decide) ?_
    exact am_iret (pc := 11) C hret hlk d_La_cancel_11 rfl (by decide) (by decide) hX
  · rw [if_neg hq1] at hX
    by_cases hk2 : q1.2.1 = 2
    · rw [if_pos hk2] at hX
      refine ⟨by omega, 7, by rw [hk2]; decide, fun ex2 => ?_⟩
      refine am_astore_n (pc := 7) (lo1 := [some (.ref a0), some (.ref ex2)]) C d_La_cancel_7 rfl (by decide) rfl ?_
      refine am_iconst (pc := 8) (v := (1 : Int32)) C d_La_cancel_8 (by decide) ?_
      exact am_iret (pc := 9) C hret hlk d_La_cancel_9 rfl (by decide) (by decide) hX
    rw [if_neg hk2] at hX
    exact (am_nn hX).elim
def rm_La_minutes : Room := { frames := 8, cells := 1, slots := 6, locals := 177 }
def f_La_minutes (a0 : Nat) (a1 : Int32) (a2 : Nat) (w : am_w) : Option (Int32 × am_w) := ((am_ob 0 a0 w (f_Rm_minutes a0 a1 w)).bind fun q1 => (if q1.2.1 = 0 then ((am_lp a2 (0 : Int32) q1.1 q1.2.2).bind fun w2 => (some ((0 : Int32), w2))) else (if q1.2.1 = 1 then (some ((1 : Int32), q1.2.2)) else none)))
theorem hd_La_minutes : y_La_minutes.cls ≠ "java/lang/invoke/MethodHandle" ∧ y_La_minutes.cls ≠ "java/lang/invoke/VarHandle" ∧ (parseMethodDescriptor y_La_minutes.desc).map (fun d => d.parameters.length) = some 3 := ⟨by decide, by decide, by decide +kernel⟩
set_option maxHeartbeats 4000000 in
theorem c_La_minutes {l : Launch} {D : va_G} {A : Nat → Prop} (hl : l.stackTraces = false) {a0 : Nat} {a1 : Int32} {a2 : Nat} {w : am_w} {r : Int32 × am_w} (hX : f_La_minutes a0 a1 a2 w = some r) : am_Met l D classes tys A (am_F A true) y_La_minutes (Cond.codeWith y_La_minutes b_La_minutes 4 (some .int) [(0, 9, 12, 13)] :: am_W) rm_La_minutes [.ref a0, .int a1, .ref a2] w (am_ri r) 1 6 := by
  refine am_ofVW (by decide) am_W_good (Nat.le_of_ble_eq_true rfl) (by simp [Value.category]) ?_
  intro p e s m below meth c C hret hlk htab
  unfold f_La_minutes at hX
  refine am_aload_n (pc := 0) C d_La_minutes_0 rfl rfl ?_
  refine am_iconst (pc := 1) (v := (0 : Int32)) C d_La_minutes_1 (by decide) ?_
  refine am_aload_n (pc := 2) C d_La_minutes_2 rfl rfl ?_
  refine am_iload_n (pc := 3) C d_La_minutes_3 rfl rfl ?_
  refine am_callTi (pc := 4) (As := [.int a1]) (st := [.int (0 : Int32), .ref a2]) (cells1 := 1) (slots1 := 6) C (fun _ h => h.2) (fun _ h => h) rfl htab la_lk la_cs (fun q h => c_Rm_minutes hl h) wd_3_200 wd_3_201 wd_3_202 wd_1_1 wd_3_203 rfl rfl hd_Rm_minutes ⟨by decide, by decide⟩ rfl rfl (Nat.le_of_ble_eq_true rfl) d_La_minutes_4 ⟨by decide, by decide⟩ rfl rfl rfl hX (fun q1 hq1 hX => ?_) (fun q1 hq1 hX => ?_)
  · rw [if_pos hq1] at hX
    refine am_i2l (pc := 7) C d_La_minutes_7 rfl ?_
    refine am_last (pc := 8) C (fun _ h => ⟨rfl, h⟩) d_La_minutes_8 hX (fun w2 hX => ?_)
    refine am_goto (pc := 9) (tgt := 15) C d_La_minutes_9 rfl ?_
    refine am_iconst (pc := 15) (v := (0 : Int32)) C d_La_minutes_15 (by decide) ?_
    exact am_iret (pc := 16) C hret hlk d_La_minutes_16 rfl (by decide) (by decide) hX
  · rw [if_neg hq1] at hX
    by_cases hk1 : q1.2.1 = 1
    · rw [if_pos hk1] at hX
      refine ⟨by omega, 12, by rw [hk1]; decide, fun ex3 => ?_⟩
      refine am_astore_n (pc := 12) (lo1 := [some (.ref a0), some (.int a1), some (.ref a2), some (.ref ex3)]) C d_La_minutes_12 rfl (by decide) rfl ?_
      refine am_iconst (pc := 13) (v := (1 : Int32)) C d_La_minutes_13 (by decide) ?_
      exact am_iret (pc := 14) C hret hlk d_La_minutes_14 rfl (by decide) (by decide) hX
    rw [if_neg hk1] at hX
    exact (am_nn hX).elim
def rm_La_lasts : Room := { frames := 7, cells := 1, slots := 6, locals := 112 }
def f_La_lasts (a0 : Nat) (a1 : Int32) (a2 : Int32) (w : am_w) : Option (Int32 × am_w) := ((am_ob 0 a0 w (f_Rm_lasts a0 a1 a2 w)).bind fun q1 => (if q1.2.1 = 0 then (some ((0 : Int32), q1.2.2)) else (if q1.2.1 = 3 then (some ((1 : Int32), q1.2.2)) else (if q1.2.1 = 1 then (some ((2 : Int32), q1.2.2)) else none))))
theorem hd_La_lasts : y_La_lasts.cls ≠ "java/lang/invoke/MethodHandle" ∧ y_La_lasts.cls ≠ "java/lang/invoke/VarHandle" ∧ (parseMethodDescriptor y_La_lasts.desc).map (fun d => d.parameters.length) = some 3 := ⟨by decide, by decide, by decide +kernel⟩
set_option maxHeartbeats 4000000 in
theorem c_La_lasts {l : Launch} {D : va_G} {A : Nat → Prop} (hl : l.stackTraces = false) {a0 : Nat} {a1 : Int32} {a2 : Int32} {w : am_w} {r : Int32 × am_w} (hX : f_La_lasts a0 a1 a2 w = some r) : am_Met l D classes tys A (am_F A true) y_La_lasts (Cond.codeWith y_La_lasts b_La_lasts 4 (some .int) [(0, 6, 9, 35), (0, 6, 12, 13)] :: am_W) rm_La_lasts [.ref a0, .int a1, .int a2] w (am_ri r) 1 6 := by
  refine am_ofVW (by decide) am_W_good (Nat.le_of_ble_eq_true rfl) (by simp [Value.category]) ?_
  intro p e s m below meth c C hret hlk htab
  unfold f_La_lasts at hX
  refine am_aload_n (pc := 0) C d_La_lasts_0 rfl rfl ?_
  refine am_iload_n (pc := 1) C d_La_lasts_1 rfl rfl ?_
  refine am_iload_n (pc := 2) C d_La_lasts_2 rfl rfl ?_
  refine am_callTv (pc := 3) (As := [.int a1, .int a2]) (st := []) (cells1 := 1) (slots1 := 6) C (fun _ h => h.2) (fun _ h => h) rfl htab la_lk la_cs (fun q h => c_Rm_lasts hl h) wd_4_6 wd_4_7 wd_4_8 wd_1_1 wd_4_9 rfl rfl hd_Rm_lasts ⟨by decide, by decide⟩ rfl rfl (Nat.le_of_ble_eq_true rfl) d_La_lasts_3 ⟨by decide, by decide⟩ rfl rfl rfl hX (fun q1 hq1 hX => ?_) (fun q1 hq1 hX => ?_)
  · rw [if_pos hq1] at hX
    refine am_goto (pc := 6) (tgt := 15) C d_La_lasts_6 rfl ?_
    refine am_iconst (pc := 15) (v := (0 : Int32)) C d_La_lasts_15 (by decide) ?_
    exact am_iret (pc := 16) C hret hlk d_La_lasts_16 rfl (by decide) (by decide) hX
  · rw [if_neg hq1] at hX
    by_cases hk3 : q1.2.1 = 3
    · rw [if_pos hk3] at hX
      refine ⟨by omega, 9, by rw [hk3]; decide, fun ex2 => ?_⟩
      refine am_astore_n (pc := 9) (lo1 := [some (.ref a0), some (.int a1), some (.int a2), some (.ref ex2)]) C d_La_lasts_9 rfl (by decide) rfl ?_
      refine am_iconst (pc := 10) (v := (1 : Int32)) C d_La_lasts_10 (by decide) ?_
      exact am_iret (pc := 11) C hret hlk d_La_lasts_11 rfl (by decide) (by decide) hX
    rw [if_neg hk3] at hX
    by_cases hk1 : q1.2.1 = 1
    · rw [if_pos hk1] at hX
      refine ⟨by omega, 12, by rw [hk1]; decide, fun ex3 => ?_⟩
      refine am_astore_n (pc := 12) (lo1 := [some (.ref a0), some (.int a1), some (.int a2), some (.ref ex3)]) C d_La_lasts_12 rfl (by decide) rfl ?_
      refine am_iconst (pc := 13) (v := (2 : Int32)) C d_La_lasts_13 (by decide) ?_
      exact am_iret (pc := 14) C hret hlk d_La_lasts_14 rfl (by decide) (by decide) hX
    rw [if_neg hk1] at hX
    exact (am_nn hX).elim
def rm_La_draws : Room := { frames := 7, cells := 1, slots := 6, locals := 112 }
def f_La_draws (a0 : Nat) (a1 : Int32) (a2 : Int32) (w : am_w) : Option (Int32 × am_w) := ((am_ob 0 a0 w (f_Rm_draws a0 a1 a2 w)).bind fun q1 => (if q1.2.1 = 0 then (some ((0 : Int32), q1.2.2)) else (if q1.2.1 = 3 then (some ((1 : Int32), q1.2.2)) else (if q1.2.1 = 1 then (some ((2 : Int32), q1.2.2)) else none))))
theorem hd_La_draws : y_La_draws.cls ≠ "java/lang/invoke/MethodHandle" ∧ y_La_draws.cls ≠ "java/lang/invoke/VarHandle" ∧ (parseMethodDescriptor y_La_draws.desc).map (fun d => d.parameters.length) = some 3 := ⟨by decide, by decide, by decide +kernel⟩
set_option maxHeartbeats 4000000 in
theorem c_La_draws {l : Launch} {D : va_G} {A : Nat → Prop} (hl : l.stackTraces = false) {a0 : Nat} {a1 : Int32} {a2 : Int32} {w : am_w} {r : Int32 × am_w} (hX : f_La_draws a0 a1 a2 w = some r) : am_Met l D classes tys A (am_F A true) y_La_draws (Cond.codeWith y_La_draws b_La_draws 4 (some .int) [(0, 6, 9, 35), (0, 6, 12, 13)] :: am_W) rm_La_draws [.ref a0, .int a1, .int a2] w (am_ri r) 1 6 := by
  refine am_ofVW (by decide) am_W_good (Nat.le_of_ble_eq_true rfl) (by simp [Value.category]) ?_
  intro p e s m below meth c C hret hlk htab
  unfold f_La_draws at hX
  refine am_aload_n (pc := 0) C d_La_draws_0 rfl rfl ?_
  refine am_iload_n (pc := 1) C d_La_draws_1 rfl rfl ?_
  refine am_iload_n (pc := 2) C d_La_draws_2 rfl rfl ?_
  refine am_callTv (pc := 3) (As := [.int a1, .int a2]) (st := []) (cells1 := 1) (slots1 := 6) C (fun _ h => h.2) (fun _ h => h) rfl htab la_lk la_cs (fun q h => c_Rm_draws hl h) wd_4_32 wd_4_33 wd_4_34 wd_1_1 wd_4_35 rfl rfl hd_Rm_draws ⟨by decide, by decide⟩ rfl rfl (Nat.le_of_ble_eq_true rfl) d_La_draws_3 ⟨by decide, by decide⟩ rfl rfl rfl hX (fun q1 hq1 hX => ?_) (fun q1 hq1 hX => ?_)
  · rw [if_pos hq1] at hX
    refine am_goto (pc := 6) (tgt := 15) C d_La_draws_6 rfl ?_
    refine am_iconst (pc := 15) (v := (0 : Int32)) C d_La_draws_15 (by decide) ?_
    exact am_iret (pc := 16) C hret hlk d_La_draws_16 rfl (by decide) (by decide) hX
  · rw [if_neg hq1] at hX
    by_cases hk3 : q1.2.1 = 3
    · rw [if_pos hk3] at hX
      refine ⟨by omega, 9, by rw [hk3]; decide, fun ex2 => ?_⟩
      refine am_astore_n (pc := 9) (lo1 := [some (.ref a0), some (.int a1), some (.int a2), some (.ref ex2)]) C d_La_draws_9 rfl (by decide) rfl ?_
      refine am_iconst (pc := 10) (v := (1 : Int32)) C d_La_draws_10 (by decide) ?_
      exact am_iret (pc := 11) C hret hlk d_La_draws_11 rfl (by decide) (by decide) hX
    rw [if_neg hk3] at hX
    by_cases hk1 : q1.2.1 = 1
    · rw [if_pos hk1] at hX
      refine ⟨by omega, 12, by rw [hk1]; decide, fun ex3 => ?_⟩
      refine am_astore_n (pc := 12) (lo1 := [some (.ref a0), some (.int a1), some (.int a2), some (.ref ex3)]) C d_La_draws_12 rfl (by decide) rfl ?_
      refine am_iconst (pc := 13) (v := (2 : Int32)) C d_La_draws_13 (by decide) ?_
      exact am_iret (pc := 14) C hret hlk d_La_draws_14 rfl (by decide) (by decide) hX
    rw [if_neg hk1] at hX
    exact (am_nn hX).elim
def rm_La_curve : Room := { frames := 7, cells := 1, slots := 6, locals := 112 }
def f_La_curve (a0 : Nat) (a1 : Int32) (a2 : Int32) (w : am_w) : Option (Int32 × am_w) := ((am_ob 0 a0 w (f_Rm_curve a0 a1 a2 w)).bind fun q1 => (if q1.2.1 = 0 then (some ((0 : Int32), q1.2.2)) else (if q1.2.1 = 3 then (some ((1 : Int32), q1.2.2)) else (if q1.2.1 = 1 then (some ((2 : Int32), q1.2.2)) else none))))
theorem hd_La_curve : y_La_curve.cls ≠ "java/lang/invoke/MethodHandle" ∧ y_La_curve.cls ≠ "java/lang/invoke/VarHandle" ∧ (parseMethodDescriptor y_La_curve.desc).map (fun d => d.parameters.length) = some 3 := ⟨by decide, by decide, by decide +kernel⟩
set_option maxHeartbeats 4000000 in
theorem c_La_curve {l : Launch} {D : va_G} {A : Nat → Prop} (hl : l.stackTraces = false) {a0 : Nat} {a1 : Int32} {a2 : Int32} {w : am_w} {r : Int32 × am_w} (hX : f_La_curve a0 a1 a2 w = some r) : am_Met l D classes tys A (am_F A true) y_La_curve (Cond.codeWith y_La_curve b_La_curve 4 (some .int) [(0, 6, 9, 35), (0, 6, 12, 13)] :: am_W) rm_La_curve [.ref a0, .int a1, .int a2] w (am_ri r) 1 6 := by
  refine am_ofVW (by decide) am_W_good (Nat.le_of_ble_eq_true rfl) (by simp [Value.category]) ?_
  intro p e s m below meth c C hret hlk htab
  unfold f_La_curve at hX
  refine am_aload_n (pc := 0) C d_La_curve_0 rfl rfl ?_
  refine am_iload_n (pc := 1) C d_La_curve_1 rfl rfl ?_
  refine am_iload_n (pc := 2) C d_La_curve_2 rfl rfl ?_
  refine am_callTv (pc := 3) (As := [.int a1, .int a2]) (st := []) (cells1 := 1) (slots1 := 6) C (fun _ h => h.2) (fun _ h => h) rfl htab la_lk la_cs (fun q h => c_Rm_curve hl h) wd_4_39 wd_4_40 wd_4_41 wd_1_1 wd_4_42 rfl rfl hd_Rm_curve ⟨by decide, by decide⟩ rfl rfl (Nat.le_of_ble_eq_true rfl) d_La_curve_3 ⟨by decide, by decide⟩ rfl rfl rfl hX (fun q1 hq1 hX => ?_) (fun q1 hq1 hX => ?_)
  · rw [if_pos hq1] at hX
    refine am_goto (pc := 6) (tgt := 15) C d_La_curve_6 rfl ?_
    refine am_iconst (pc := 15) (v := (0 : Int32)) C d_La_curve_15 (by decide) ?_
    exact am_iret (pc := 16) C hret hlk d_La_curve_16 rfl (by decide) (by decide) hX
  · rw [if_neg hq1] at hX
    by_cases hk3 : q1.2.1 = 3
    · rw [if_pos hk3] at hX
      refine ⟨by omega, 9, by rw [hk3]; decide, fun ex2 => ?_⟩
      refine am_astore_n (pc := 9) (lo1 := [some (.ref a0), some (.int a1), some (.int a2), some (.ref ex2)]) C d_La_curve_9 rfl (by decide) rfl ?_
      refine am_iconst (pc := 10) (v := (1 : Int32)) C d_La_curve_10 (by decide) ?_
      exact am_iret (pc := 11) C hret hlk d_La_curve_11 rfl (by decide) (by decide) hX
    rw [if_neg hk3] at hX
    by_cases hk1 : q1.2.1 = 1
    · rw [if_pos hk1] at hX
      refine ⟨by omega, 12, by rw [hk1]; decide, fun ex3 => ?_⟩
      refine am_astore_n (pc := 12) (lo1 := [some (.ref a0), some (.int a1), some (.int a2), some (.ref ex3)]) C d_La_curve_12 rfl (by decide) rfl ?_
      refine am_iconst (pc := 13) (v := (2 : Int32)) C d_La_curve_13 (by decide) ?_
      exact am_iret (pc := 14) C hret hlk d_La_curve_14 rfl (by decide) (by decide) hX
    rw [if_neg hk1] at hX
    exact (am_nn hX).elim
def rm_La_gain : Room := { frames := 7, cells := 1, slots := 6, locals := 111 }
def f_La_gain (a0 : Nat) (a1 : Int32) (w : am_w) : Option (Int32 × am_w) := ((am_ob 0 a0 w (f_Rm_gain a0 a1 w)).bind fun q1 => (if q1.2.1 = 0 then (some ((0 : Int32), q1.2.2)) else (if q1.2.1 = 1 then (some ((1 : Int32), q1.2.2)) else none)))
theorem hd_La_gain : y_La_gain.cls ≠ "java/lang/invoke/MethodHandle" ∧ y_La_gain.cls ≠ "java/lang/invoke/VarHandle" ∧ (parseMethodDescriptor y_La_gain.desc).map (fun d => d.parameters.length) = some 2 := ⟨by decide, by decide, by decide +kernel⟩
set_option maxHeartbeats 4000000 in
theorem c_La_gain {l : Launch} {D : va_G} {A : Nat → Prop} (hl : l.stackTraces = false) {a0 : Nat} {a1 : Int32} {w : am_w} {r : Int32 × am_w} (hX : f_La_gain a0 a1 w = some r) : am_Met l D classes tys A (am_F A true) y_La_gain (Cond.codeWith y_La_gain b_La_gain 3 (some .int) [(0, 5, 8, 13)] :: am_W) rm_La_gain [.ref a0, .int a1] w (am_ri r) 1 6 := by
  refine am_ofVW (by decide) am_W_good (Nat.le_of_ble_eq_true rfl) (by simp [Value.category]) ?_
  intro p e s m below meth c C hret hlk htab
  unfold f_La_gain at hX
  refine am_aload_n (pc := 0) C d_La_gain_0 rfl rfl ?_
  refine am_iload_n (pc := 1) C d_La_gain_1 rfl rfl ?_
  refine am_callTv (pc := 2) (As := [.int a1]) (st := []) (cells1 := 1) (slots1 := 6) C (fun _ h => h.2) (fun _ h => h) rfl htab la_lk la_cs (fun q h => c_Rm_gain hl h) wd_4_50 wd_4_51 wd_4_52 wd_1_1 wd_4_53 rfl rfl hd_Rm_gain ⟨by decide, by decide⟩ rfl rfl (Nat.le_of_ble_eq_true rfl) d_La_gain_2 ⟨by decide, by decide⟩ rfl rfl rfl hX (fun q1 hq1 hX => ?_) (fun q1 hq1 hX => ?_)
  · rw [if_pos hq1] at hX
    refine am_goto (pc := 5) (tgt := 11) C d_La_gain_5 rfl ?_
    refine am_iconst (pc := 11) (v := (0 : Int32)) C d_La_gain_11 (by decide) ?_
    exact am_iret (pc := 12) C hret hlk d_La_gain_12 rfl (by decide) (by decide) hX
  · rw [if_neg hq1] at hX
    by_cases hk1 : q1.2.1 = 1
    · rw [if_pos hk1] at hX
      refine ⟨by omega, 8, by rw [hk1]; decide, fun ex2 => ?_⟩
      refine am_astore_n (pc := 8) (lo1 := [some (.ref a0), some (.int a1), some (.ref ex2)]) C d_La_gain_8 rfl (by decide) rfl ?_
      refine am_iconst (pc := 9) (v := (1 : Int32)) C d_La_gain_9 (by decide) ?_
      exact am_iret (pc := 10) C hret hlk d_La_gain_10 rfl (by decide) (by decide) hX
    rw [if_neg hk1] at hX
    exact (am_nn hX).elim
def rm_La_home : Room := { frames := 7, cells := 1, slots := 6, locals := 112 }
def f_La_home (a0 : Nat) (a1 : Int32) (a2 : Int32) (w : am_w) : Option (Int32 × am_w) := ((am_ob 0 a0 w (f_Rm_home a0 a1 a2 w)).bind fun q1 => (if q1.2.1 = 0 then (some ((0 : Int32), q1.2.2)) else (if q1.2.1 = 1 then (some ((1 : Int32), q1.2.2)) else (if q1.2.1 = 2 then (some ((2 : Int32), q1.2.2)) else none))))
theorem hd_La_home : y_La_home.cls ≠ "java/lang/invoke/MethodHandle" ∧ y_La_home.cls ≠ "java/lang/invoke/VarHandle" ∧ (parseMethodDescriptor y_La_home.desc).map (fun d => d.parameters.length) = some 3 := ⟨by decide, by decide, by decide +kernel⟩
set_option maxHeartbeats 4000000 in
theorem c_La_home {l : Launch} {D : va_G} {A : Nat → Prop} (hl : l.stackTraces = false) {a0 : Nat} {a1 : Int32} {a2 : Int32} {w : am_w} {r : Int32 × am_w} (hX : f_La_home a0 a1 a2 w = some r) : am_Met l D classes tys A (am_F A true) y_La_home (Cond.codeWith y_La_home b_La_home 4 (some .int) [(0, 6, 9, 13), (0, 6, 12, 19)] :: am_W) rm_La_home [.ref a0, .int a1, .int a2] w (am_ri r) 1 6 := by
  refine am_ofVW (by decide) am_W_good (Nat.le_of_ble_eq_true rfl) (by simp [Value.category]) ?_
  intro p e s m below meth c C hret hlk htab
  unfold f_La_home at hX
  refine am_aload_n (pc := 0) C d_La_home_0 rfl rfl ?_
  refine am_iload_n (pc := 1) C d_La_home_1 rfl rfl ?_
  refine am_iload_n (pc := 2) C d_La_home_2 rfl rfl ?_
  refine am_callTv (pc := 3) (As := [.int a1, .int a2]) (st := []) (cells1 := 1) (slots1 := 6) C (fun _ h => h.2) (fun _ h => h) rfl htab la_lk la_cs (fun q h => c_Rm_home hl h) wd_4_57 wd_4_58 wd_4_59 wd_1_1 wd_4_60 rfl rfl hd_Rm_home ⟨by decide, by decide⟩ rfl rfl (Nat.le_of_ble_eq_true rfl) d_La_home_3 ⟨by decide, by decide⟩ rfl rfl rfl hX (fun q1 hq1 hX => ?_) (fun q1 hq1 hX => ?_)
  · rw [if_pos hq1] at hX
    refine am_goto (pc := 6) (tgt := 15) C d_La_home_6 rfl ?_
    refine am_iconst (pc := 15) (v := (0 : Int32)) C d_La_home_15 (by decide) ?_
    exact am_iret (pc := 16) C hret hlk d_La_home_16 rfl (by decide) (by decide) hX
  · rw [if_neg hq1] at hX
    by_cases hk1 : q1.2.1 = 1
    · rw [if_pos hk1] at hX
      refine ⟨by omega, 9, by rw [hk1]; decide, fun ex2 => ?_⟩
      refine am_astore_n (pc := 9) (lo1 := [some (.ref a0), some (.int a1), some (.int a2), some (.ref ex2)]) C d_La_home_9 rfl (by decide) rfl ?_
      refine am_iconst (pc := 10) (v := (1 : Int32)) C d_La_home_10 (by decide) ?_
      exact am_iret (pc := 11) C hret hlk d_La_home_11 rfl (by decide) (by decide) hX
    rw [if_neg hk1] at hX
    by_cases hk2 : q1.2.1 = 2
    · rw [if_pos hk2] at hX
      refine ⟨by omega, 12, by rw [hk2]; decide, fun ex3 => ?_⟩
      refine am_astore_n (pc := 12) (lo1 := [some (.ref a0), some (.int a1), some (.int a2), some (.ref ex3)]) C d_La_home_12 rfl (by decide) rfl ?_
      refine am_iconst (pc := 13) (v := (2 : Int32)) C d_La_home_13 (by decide) ?_
      exact am_iret (pc := 14) C hret hlk d_La_home_14 rfl (by decide) (by decide) hX
    rw [if_neg hk2] at hX
    exact (am_nn hX).elim
def rm_La_fill : Room := { frames := 7, cells := 1, slots := 6, locals := 112 }
def f_La_fill (a0 : Nat) (a1 : Int32) (a2 : Int32) (w : am_w) : Option (Int32 × am_w) := ((am_ob 0 a0 w (f_Rm_fill a0 a1 a2 w)).bind fun q1 => (if q1.2.1 = 0 then (some ((0 : Int32), q1.2.2)) else (if q1.2.1 = 1 then (some ((1 : Int32), q1.2.2)) else (if q1.2.1 = 2 then (some ((2 : Int32), q1.2.2)) else none))))
theorem hd_La_fill : y_La_fill.cls ≠ "java/lang/invoke/MethodHandle" ∧ y_La_fill.cls ≠ "java/lang/invoke/VarHandle" ∧ (parseMethodDescriptor y_La_fill.desc).map (fun d => d.parameters.length) = some 3 := ⟨by decide, by decide, by decide +kernel⟩
set_option maxHeartbeats 4000000 in
theorem c_La_fill {l : Launch} {D : va_G} {A : Nat → Prop} (hl : l.stackTraces = false) {a0 : Nat} {a1 : Int32} {a2 : Int32} {w : am_w} {r : Int32 × am_w} (hX : f_La_fill a0 a1 a2 w = some r) : am_Met l D classes tys A (am_F A true) y_La_fill (Cond.codeWith y_La_fill b_La_fill 4 (some .int) [(0, 6, 9, 13), (0, 6, 12, 19)] :: am_W) rm_La_fill [.ref a0, .int a1, .int a2] w (am_ri r) 1 6 := by
  refine am_ofVW (by decide) am_W_good (Nat.le_of_ble_eq_true rfl) (by simp [Value.category]) ?_
  intro p e s m below meth c C hret hlk htab
  unfold f_La_fill at hX
  refine am_aload_n (pc := 0) C d_La_fill_0 rfl rfl ?_
  refine am_iload_n (pc := 1) C d_La_fill_1 rfl rfl ?_
  refine am_iload_n (pc := 2) C d_La_fill_2 rfl rfl ?_
  refine am_callTv (pc := 3) (As := [.int a1, .int a2]) (st := []) (cells1 := 1) (slots1 := 6) C (fun _ h => h.2) (fun _ h => h) rfl htab la_lk la_cs (fun q h => c_Rm_fill hl h) wd_4_65 wd_4_66 wd_4_67 wd_1_1 wd_4_68 rfl rfl hd_Rm_fill ⟨by decide, by decide⟩ rfl rfl (Nat.le_of_ble_eq_true rfl) d_La_fill_3 ⟨by decide, by decide⟩ rfl rfl rfl hX (fun q1 hq1 hX => ?_) (fun q1 hq1 hX => ?_)
  · rw [if_pos hq1] at hX
    refine am_goto (pc := 6) (tgt := 15) C d_La_fill_6 rfl ?_
    refine am_iconst (pc := 15) (v := (0 : Int32)) C d_La_fill_15 (by decide) ?_
    exact am_iret (pc := 16) C hret hlk d_La_fill_16 rfl (by decide) (by decide) hX
  · rw [if_neg hq1] at hX
    by_cases hk1 : q1.2.1 = 1
    · rw [if_pos hk1] at hX
      refine ⟨by omega, 9, by rw [hk1]; decide, fun ex2 => ?_⟩
      refine am_astore_n (pc := 9) (lo1 := [some (.ref a0), some (.int a1), some (.int a2), some (.ref ex2)]) C d_La_fill_9 rfl (by decide) rfl ?_
      refine am_iconst (pc := 10) (v := (1 : Int32)) C d_La_fill_10 (by decide) ?_
      exact am_iret (pc := 11) C hret hlk d_La_fill_11 rfl (by decide) (by decide) hX
    rw [if_neg hk1] at hX
    by_cases hk2 : q1.2.1 = 2
    · rw [if_pos hk2] at hX
      refine ⟨by omega, 12, by rw [hk2]; decide, fun ex3 => ?_⟩
      refine am_astore_n (pc := 12) (lo1 := [some (.ref a0), some (.int a1), some (.int a2), some (.ref ex3)]) C d_La_fill_12 rfl (by decide) rfl ?_
      refine am_iconst (pc := 13) (v := (2 : Int32)) C d_La_fill_13 (by decide) ?_
      exact am_iret (pc := 14) C hret hlk d_La_fill_14 rfl (by decide) (by decide) hX
    rw [if_neg hk2] at hX
    exact (am_nn hX).elim
def rm_La_level : Room := { frames := 7, cells := 1, slots := 6, locals := 111 }
def f_La_level (a0 : Nat) (a1 : Int32) (a2 : Nat) (w : am_w) : Option (Int32 × am_w) := ((am_ob 0 a0 w (f_Rm_level a0 a1 w)).bind fun q1 => (if q1.2.1 = 0 then ((am_lp a2 (0 : Int32) q1.1 q1.2.2).bind fun w2 => (some ((0 : Int32), w2))) else (if q1.2.1 = 3 then (some ((1 : Int32), q1.2.2)) else none)))
theorem hd_La_level : y_La_level.cls ≠ "java/lang/invoke/MethodHandle" ∧ y_La_level.cls ≠ "java/lang/invoke/VarHandle" ∧ (parseMethodDescriptor y_La_level.desc).map (fun d => d.parameters.length) = some 3 := ⟨by decide, by decide, by decide +kernel⟩
set_option maxHeartbeats 4000000 in
theorem c_La_level {l : Launch} {D : va_G} {A : Nat → Prop} (hl : l.stackTraces = false) {a0 : Nat} {a1 : Int32} {a2 : Nat} {w : am_w} {r : Int32 × am_w} (hX : f_La_level a0 a1 a2 w = some r) : am_Met l D classes tys A (am_F A true) y_La_level (Cond.codeWith y_La_level b_La_level 4 (some .int) [(0, 9, 12, 35)] :: am_W) rm_La_level [.ref a0, .int a1, .ref a2] w (am_ri r) 1 6 := by
  refine am_ofVW (by decide) am_W_good (Nat.le_of_ble_eq_true rfl) (by simp [Value.category]) ?_
  intro p e s m below meth c C hret hlk htab
  unfold f_La_level at hX
  refine am_aload_n (pc := 0) C d_La_level_0 rfl rfl ?_
  refine am_iconst (pc := 1) (v := (0 : Int32)) C d_La_level_1 (by decide) ?_
  refine am_aload_n (pc := 2) C d_La_level_2 rfl rfl ?_
  refine am_iload_n (pc := 3) C d_La_level_3 rfl rfl ?_
  refine am_callTi (pc := 4) (As := [.int a1]) (st := [.int (0 : Int32), .ref a2]) (cells1 := 1) (slots1 := 6) C (fun _ h => h.2) (fun _ h => by cases h.1) rfl htab la_lk la_cs (fun q h => c_Rm_level hl h) wd_4_72 wd_4_73 wd_4_74 wd_1_1 wd_4_75 rfl rfl hd_Rm_level ⟨by decide, by decide⟩ rfl rfl (Nat.le_of_ble_eq_true rfl) d_La_level_4 ⟨by decide, by decide⟩ rfl rfl rfl hX (fun q1 hq1 hX => ?_) (fun q1 hq1 hX => ?_)
  · rw [if_pos hq1] at hX
    refine am_i2l (pc := 7) C d_La_level_7 rfl ?_
    refine am_last (pc := 8) C (fun _ h => ⟨rfl, h⟩) d_La_level_8 hX (fun w2 hX => ?_)
    refine am_goto (pc := 9) (tgt := 15) C d_La_level_9 rfl ?_
    refine am_iconst (pc := 15) (v := (0 : Int32)) C d_La_level_15 (by decide) ?_
    exact am_iret (pc := 16) C hret hlk d_La_level_16 rfl (by decide) (by decide) hX
  · rw [if_neg hq1] at hX
    by_cases hk3 : q1.2.1 = 3
    · rw [if_pos hk3] at hX
      refine ⟨by omega, 12, by rw [hk3]; decide, fun ex3 => ?_⟩
      refine am_astore_n (pc := 12) (lo1 := [some (.ref a0), some (.int a1), some (.ref a2), some (.ref ex3)]) C d_La_level_12 rfl (by decide) rfl ?_
      refine am_iconst (pc := 13) (v := (1 : Int32)) C d_La_level_13 (by decide) ?_
      exact am_iret (pc := 14) C hret hlk d_La_level_14 rfl (by decide) (by decide) hX
    rw [if_neg hk3] at hX
    exact (am_nn hX).elim
def rm_La_activity : Room := { frames := 7, cells := 1, slots := 6, locals := 113 }
def f_La_activity (a0 : Nat) (a1 : Int32) (a2 : Int32) (a3 : Nat) (w : am_w) : Option (Int32 × am_w) := ((am_ob 0 a0 w (f_Rm_activity a0 a1 a2 w)).bind fun q1 => (if q1.2.1 = 0 then ((am_lp a3 (0 : Int32) q1.1 q1.2.2).bind fun w2 => (some ((0 : Int32), w2))) else (if q1.2.1 = 3 then (some ((1 : Int32), q1.2.2)) else none)))
theorem hd_La_activity : y_La_activity.cls ≠ "java/lang/invoke/MethodHandle" ∧ y_La_activity.cls ≠ "java/lang/invoke/VarHandle" ∧ (parseMethodDescriptor y_La_activity.desc).map (fun d => d.parameters.length) = some 4 := ⟨by decide, by decide, by decide +kernel⟩
set_option maxHeartbeats 4000000 in
theorem c_La_activity {l : Launch} {D : va_G} {A : Nat → Prop} (hl : l.stackTraces = false) {a0 : Nat} {a1 : Int32} {a2 : Int32} {a3 : Nat} {w : am_w} {r : Int32 × am_w} (hX : f_La_activity a0 a1 a2 a3 w = some r) : am_Met l D classes tys A (am_F A true) y_La_activity (Cond.codeWith y_La_activity b_La_activity 5 (some .int) [(0, 10, 13, 35)] :: am_W) rm_La_activity [.ref a0, .int a1, .int a2, .ref a3] w (am_ri r) 1 6 := by
  refine am_ofVW (by decide) am_W_good (Nat.le_of_ble_eq_true rfl) (by simp [Value.category]) ?_
  intro p e s m below meth c C hret hlk htab
  unfold f_La_activity at hX
  refine am_aload_n (pc := 0) C d_La_activity_0 rfl rfl ?_
  refine am_iconst (pc := 1) (v := (0 : Int32)) C d_La_activity_1 (by decide) ?_
  refine am_aload_n (pc := 2) C d_La_activity_2 rfl rfl ?_
  refine am_iload_n (pc := 3) C d_La_activity_3 rfl rfl ?_
  refine am_iload_n (pc := 4) C d_La_activity_4 rfl rfl ?_
  refine am_callTi (pc := 5) (As := [.int a1, .int a2]) (st := [.int (0 : Int32), .ref a3]) (cells1 := 1) (slots1 := 6) C (fun _ h => h.2) (fun _ h => by cases h.1) rfl htab la_lk la_cs (fun q h => c_Rm_activity hl h) wd_4_83 wd_4_84 wd_4_85 wd_1_1 wd_4_86 rfl rfl hd_Rm_activity ⟨by decide, by decide⟩ rfl rfl (Nat.le_of_ble_eq_true rfl) d_La_activity_5 ⟨by decide, by decide⟩ rfl rfl rfl hX (fun q1 hq1 hX => ?_) (fun q1 hq1 hX => ?_)
  · rw [if_pos hq1] at hX
    refine am_i2l (pc := 8) C d_La_activity_8 rfl ?_
    refine am_last (pc := 9) C (fun _ h => ⟨rfl, h⟩) d_La_activity_9 hX (fun w2 hX => ?_)
    refine am_goto (pc := 10) (tgt := 17) C d_La_activity_10 rfl ?_
    refine am_iconst (pc := 17) (v := (0 : Int32)) C d_La_activity_17 (by decide) ?_
    exact am_iret (pc := 18) C hret hlk d_La_activity_18 rfl (by decide) (by decide) hX
  · rw [if_neg hq1] at hX
    by_cases hk3 : q1.2.1 = 3
    · rw [if_pos hk3] at hX
      refine ⟨by omega, 13, by rw [hk3]; decide, fun ex3 => ?_⟩
      refine am_astore (pc := 13) (lo1 := [some (.ref a0), some (.int a1), some (.int a2), some (.ref a3), some (.ref ex3)]) C d_La_activity_13 (by decide) rfl ?_
      refine am_iconst (pc := 15) (v := (1 : Int32)) C d_La_activity_15 (by decide) ?_
      exact am_iret (pc := 16) C hret hlk d_La_activity_16 rfl (by decide) (by decide) hX
    rw [if_neg hk3] at hX
    exact (am_nn hX).elim
def rm_La_could : Room := { frames := 7, cells := 1, slots := 6, locals := 133 }
def f_La_could (a0 : Nat) (a1 : Int32) (a2 : Nat) (w : am_w) : Option (Int32 × am_w) := ((am_ob 0 a0 w (f_Rm_could a0 a1 w)).bind fun q1 => (if q1.2.1 = 0 then (if q1.1 = 0 then ((am_lp a2 (0 : Int32) (0 : Int32) q1.2.2).bind fun w2 => (some ((0 : Int32), w2))) else ((am_lp a2 (0 : Int32) (1 : Int32) q1.2.2).bind fun w3 => (some ((0 : Int32), w3)))) else (if q1.2.1 = 3 then (some ((1 : Int32), q1.2.2)) else none)))
theorem hd_La_could : y_La_could.cls ≠ "java/lang/invoke/MethodHandle" ∧ y_La_could.cls ≠ "java/lang/invoke/VarHandle" ∧ (parseMethodDescriptor y_La_could.desc).map (fun d => d.parameters.length) = some 3 := ⟨by decide, by decide, by decide +kernel⟩
set_option maxHeartbeats 4000000 in
theorem c_La_could {l : Launch} {D : va_G} {A : Nat → Prop} (hl : l.stackTraces = false) {a0 : Nat} {a1 : Int32} {a2 : Nat} {w : am_w} {r : Int32 × am_w} (hX : f_La_could a0 a1 a2 w = some r) : am_Met l D classes tys A (am_F A true) y_La_could (Cond.codeWith y_La_could b_La_could 4 (some .int) [(0, 16, 19, 35)] :: am_W) rm_La_could [.ref a0, .int a1, .ref a2] w (am_ri r) 1 6 := by
  refine am_ofVW (by decide) am_W_good (Nat.le_of_ble_eq_true rfl) (by simp [Value.category]) ?_
  intro p e s m below meth c C hret hlk htab
  unfold f_La_could at hX
  refine am_aload_n (pc := 0) C d_La_could_0 rfl rfl ?_
  refine am_iconst (pc := 1) (v := (0 : Int32)) C d_La_could_1 (by decide) ?_
  refine am_aload_n (pc := 2) C d_La_could_2 rfl rfl ?_
  refine am_iload_n (pc := 3) C d_La_could_3 rfl rfl ?_
  refine am_callTi (pc := 4) (As := [.int a1]) (st := [.int (0 : Int32), .ref a2]) (cells1 := 1) (slots1 := 6) C (fun _ h => h.2) (fun _ h => h) rfl htab la_lk la_cs (fun q h => c_Rm_could hl h) wd_4_90 wd_4_91 wd_4_92 wd_1_1 wd_4_93 rfl rfl hd_Rm_could ⟨by decide, by decide⟩ rfl rfl (Nat.le_of_ble_eq_true rfl) d_La_could_4 ⟨by decide, by decide⟩ rfl rfl rfl hX (fun q1 hq1 hX => ?_) (fun q1 hq1 hX => ?_)
  · rw [if_pos hq1] at hX
    refine am_if_eq (pc := 7) (tgt := 14) C d_La_could_7 rfl hX (fun hX => ?_) (fun hX => ?_)
    · skip
      refine am_lconst (pc := 14) (v := Int32.toInt64 (0 : Int32)) C d_La_could_14 (by decide) ?_
      refine am_last (pc := 15) C (fun _ h => ⟨rfl, h⟩) d_La_could_15 hX (fun w2 hX => ?_)
      refine am_goto (pc := 16) (tgt := 22) C d_La_could_16 rfl ?_
      refine am_iconst (pc := 22) (v := (0 : Int32)) C d_La_could_22 (by decide) ?_
      exact am_iret (pc := 23) C hret hlk d_La_could_23 rfl (by decide) (by decide) hX
    · skip
      refine am_lconst (pc := 10) (v := Int32.toInt64 (1 : Int32)) C d_La_could_10 (by decide) ?_
      refine am_goto (pc := 11) (tgt := 15) C d_La_could_11 rfl ?_
      refine am_last (pc := 15) C (fun _ h => ⟨rfl, h⟩) d_La_could_15 hX (fun w3 hX => ?_)
      refine am_goto (pc := 16) (tgt := 22) C d_La_could_16 rfl ?_
      refine am_iconst (pc := 22) (v := (0 : Int32)) C d_La_could_22 (by decide) ?_
      exact am_iret (pc := 23) C hret hlk d_La_could_23 rfl (by decide) (by decide) hX
  · rw [if_neg hq1] at hX
    by_cases hk3 : q1.2.1 = 3
    · rw [if_pos hk3] at hX
      refine ⟨by omega, 19, by rw [hk3]; decide, fun ex4 => ?_⟩
      refine am_astore_n (pc := 19) (lo1 := [some (.ref a0), some (.int a1), some (.ref a2), some (.ref ex4)]) C d_La_could_19 rfl (by decide) rfl ?_
      refine am_iconst (pc := 20) (v := (1 : Int32)) C d_La_could_20 (by decide) ?_
      exact am_iret (pc := 21) C hret hlk d_La_could_21 rfl (by decide) (by decide) hX
    rw [if_neg hk3] at hX
    exact (am_nn hX).elim
