def rm_Rm_init : Room := { frames := 5, cells := 28, slots := 482, locals := 107 }
def f_Rm_init (a0 : Nat) (w : am_w) : Option (Int32 × am_w) := (am_let (am_nw (.inl 1) w) fun w1 => ((f_Line_init w.1 w1).bind fun q3 => ((am_rp 0 0 a0 w.1 q3.2).bind fun w4 => (am_let (am_nw (.inl 2) w4) fun w5 => ((am_rg 0 0 a0 w5).bind fun b7 => ((f_PlanReader_init w4.1 b7 w5).bind fun q8 => ((am_rp 0 1 a0 w4.1 q8.2).bind fun w9 => (am_let (am_nw (.inl 3) w9) fun w10 => ((f_Supply_init w9.1 w10).bind fun q12 => ((am_rp 0 2 a0 w9.1 q12.2).bind fun w13 => (am_let (am_nw (.inl 4) w13) fun w14 => ((f_Envelope_init w13.1 w14).bind fun q16 => ((am_rp 0 3 a0 w13.1 q16.2).bind fun w17 => (am_let (am_nw (.inl 5) w17) fun w18 => ((f_Plan_init w17.1 w18).bind fun q20 => ((am_rp 0 4 a0 w17.1 q20.2).bind fun w21 => (am_let (am_nw (.inl 5) w21) fun w22 => ((f_Plan_init w21.1 w22).bind fun q24 => ((am_rp 0 5 a0 w21.1 q24.2).bind fun w25 => ((am_fp 0 6 a0 (0 : Int32) w25).bind fun w26 => (some (0, w26))))))))))))))))))))))
theorem hd_Rm_init : y_Rm_init.cls ≠ "java/lang/invoke/MethodHandle" ∧ y_Rm_init.cls ≠ "java/lang/invoke/VarHandle" ∧ (parseMethodDescriptor y_Rm_init.desc).map (fun d => d.parameters.length) = some 0 := ⟨by decide, by decide, by decide +kernel⟩
set_option maxHeartbeats 4000000 in
theorem c_Rm_init {l : Launch} {D : va_G} {A : Nat → Prop} {a0 : Nat} {w : am_w} {r : Int32 × am_w} (hX : f_Rm_init a0 w = some r) : am_Met l D classes tys A (am_F A true) y_Rm_init (Cond.code y_Rm_init b_Rm_init 1 none :: am_W) rm_Rm_init [.ref a0] w (am_rv r) 28 482 := by
  refine am_ofV (by decide) am_W_good (Nat.le_of_ble_eq_true rfl) (by simp [Value.category]) ?_
  intro p e s m below meth c C hret hlk hnm
  unfold f_Rm_init at hX
  refine am_aload_n (pc := 0) C d_Rm_init_0 rfl rfl ?_
  refine am_objInit (pc := 1) C wd_1_26 wd_1_27 wd_1_28 d_Rm_init_1 (by decide) (Nat.le_of_ble_eq_true rfl) ?_
  refine am_aload_n (pc := 4) C d_Rm_init_4 rfl rfl ?_
  refine am_new (pc := 5) (ci := 1) C hin_Line t_Line_ok df_Line wd_1_29 wd_1_30 wd_1_2 rfl (by decide) (by decide) d_Rm_init_5 ?_
  obtain ⟨w1, ew1, hX⟩ := am_let_of hX
  rw [← ew1]
  refine am_dup (pc := 8) C d_Rm_init_8 rfl ?_
  refine am_callI (pc := 9) (As := []) (st := [.ref w.1, .ref a0]) (cells1 := 2) (slots1 := 66) C (fun _ h => h.2) (fun _ h => h) (fun q h => c_Line_init h) wd_1_33 rfl rfl wd_1_2 wd_1_31 wd_1_32 rfl hd_Line_init ⟨by decide, by decide⟩ rfl (Nat.le_of_ble_eq_true rfl) d_Rm_init_9 ⟨by decide, by decide⟩ rfl rfl rfl hX (fun q3 hX => ?_)
  refine am_putrF (pc := 12) C (fun _ h => ⟨rfl, h⟩) hin_Rm t_Rm t_Rm_ok n_Rm rfl (by decide) wd_2_5 rfl rfl rfl hnm (t_Rm_ok 0 (by decide)) rfl rfl rfl d_Rm_init_12 hX (fun w4 hX => ?_)
  refine am_aload_n (pc := 15) C d_Rm_init_15 rfl rfl ?_
  refine am_new (pc := 16) (ci := 2) C hin_PlanReader t_PlanReader_ok df_PlanReader wd_1_45 wd_1_46 wd_1_3 rfl (by decide) (by decide) d_Rm_init_16 ?_
  obtain ⟨w5, ew5, hX⟩ := am_let_of hX
  rw [← ew5]
  refine am_dup (pc := 19) C d_Rm_init_19 rfl ?_
  refine am_aload_n (pc := 20) C d_Rm_init_20 rfl rfl ?_
  refine am_getr (pc := 21) C hin_Rm rfl (by decide) wd_2_5 rfl d_Rm_init_21 rfl hX (fun b7 hX => ?_)
  refine am_callI (pc := 24) (As := [.ref b7]) (st := [.ref w4.1, .ref a0]) (cells1 := 3) (slots1 := 68) C (fun _ h => h.2) (fun _ h => h) (fun q h => c_PlanReader_init h) wd_1_49 rfl rfl wd_1_3 wd_1_47 wd_1_48 rfl hd_PlanReader_init ⟨by decide, by decide⟩ rfl (Nat.le_of_ble_eq_true rfl) d_Rm_init_24 ⟨by decide, by decide⟩ rfl rfl rfl hX (fun q8 hX => ?_)
  refine am_putrF (pc := 27) C (fun _ h => ⟨rfl, h⟩) hin_Rm t_Rm t_Rm_ok n_Rm rfl (by decide) wd_2_6 rfl rfl rfl hnm (t_Rm_ok 1 (by decide)) rfl rfl rfl d_Rm_init_27 hX (fun w9 hX => ?_)
  refine am_aload_n (pc := 30) C d_Rm_init_30 rfl rfl ?_
  refine am_new (pc := 31) (ci := 3) C hin_Supply t_Supply_ok df_Supply wd_1_58 wd_1_59 wd_1_4 rfl (by decide) (by decide) d_Rm_init_31 ?_
  obtain ⟨w10, ew10, hX⟩ := am_let_of hX
  rw [← ew10]
  refine am_dup (pc := 34) C d_Rm_init_34 rfl ?_
  refine am_callI (pc := 35) (As := []) (st := [.ref w9.1, .ref a0]) (cells1 := 6) (slots1 := 123) C (fun _ h => h.2) (fun _ h => h) (fun q h => c_Supply_init h) wd_1_62 rfl rfl wd_1_4 wd_1_60 wd_1_61 rfl hd_Supply_init ⟨by decide, by decide⟩ rfl (Nat.le_of_ble_eq_true rfl) d_Rm_init_35 ⟨by decide, by decide⟩ rfl rfl rfl hX (fun q12 hX => ?_)
  refine am_putrF (pc := 38) C (fun _ h => ⟨rfl, h⟩) hin_Rm t_Rm t_Rm_ok n_Rm rfl (by decide) wd_2_7 rfl rfl rfl hnm (t_Rm_ok 2 (by decide)) rfl rfl rfl d_Rm_init_38 hX (fun w13 hX => ?_)
  refine am_aload_n (pc := 41) C d_Rm_init_41 rfl rfl ?_
  refine am_new (pc := 42) (ci := 4) C hin_Envelope t_Envelope_ok df_Envelope wd_1_109 wd_1_110 wd_1_6 rfl (by decide) (by decide) d_Rm_init_42 ?_
  obtain ⟨w14, ew14, hX⟩ := am_let_of hX
  rw [← ew14]
  refine am_dup (pc := 45) C d_Rm_init_45 rfl ?_
  refine am_callI (pc := 46) (As := []) (st := [.ref w13.1, .ref a0]) (cells1 := 8) (slots1 := 158) C (fun _ h => h.2) (fun _ h => h) (fun q h => c_Envelope_init h) wd_1_113 rfl rfl wd_1_6 wd_1_111 wd_1_112 rfl hd_Envelope_init ⟨by decide, by decide⟩ rfl (Nat.le_of_ble_eq_true rfl) d_Rm_init_46 ⟨by decide, by decide⟩ rfl rfl rfl hX (fun q16 hX => ?_)
  refine am_putrF (pc := 49) C (fun _ h => ⟨rfl, h⟩) hin_Rm t_Rm t_Rm_ok n_Rm rfl (by decide) wd_2_8 rfl rfl rfl hnm (t_Rm_ok 3 (by decide)) rfl rfl rfl d_Rm_init_49 hX (fun w17 hX => ?_)
  refine am_aload_n (pc := 52) C d_Rm_init_52 rfl rfl ?_
  refine am_new (pc := 53) (ci := 5) C hin_Plan t_Plan_ok df_Plan wd_1_128 wd_1_129 wd_1_7 rfl (by decide) (by decide) d_Rm_init_53 ?_
  obtain ⟨w18, ew18, hX⟩ := am_let_of hX
  rw [← ew18]
  refine am_dup (pc := 56) C d_Rm_init_56 rfl ?_
  refine am_callI (pc := 57) (As := []) (st := [.ref w17.1, .ref a0]) (cells1 := 18) (slots1 := 320) C (fun _ h => h.2) (fun _ h => h) (fun q h => c_Plan_init h) wd_1_132 rfl rfl wd_1_7 wd_1_130 wd_1_131 rfl hd_Plan_init ⟨by decide, by decide⟩ rfl (Nat.le_of_ble_eq_true rfl) d_Rm_init_57 ⟨by decide, by decide⟩ rfl rfl rfl hX (fun q20 hX => ?_)
  refine am_putr (pc := 60) C (fun _ h => ⟨rfl, h⟩) hin_Rm t_Rm t_Rm_ok n_Rm rfl (by decide) wd_2_9 rfl rfl (t_Rm_ok 4 (by decide)) rfl rfl rfl d_Rm_init_60 hX (fun w21 hX => ?_)
  refine am_aload_n (pc := 63) C d_Rm_init_63 rfl rfl ?_
  refine am_new (pc := 64) (ci := 5) C hin_Plan t_Plan_ok df_Plan wd_1_128 wd_1_129 wd_1_7 rfl (by decide) (by decide) d_Rm_init_64 ?_
  obtain ⟨w22, ew22, hX⟩ := am_let_of hX
  rw [← ew22]
  refine am_dup (pc := 67) C d_Rm_init_67 rfl ?_
  refine am_callI (pc := 68) (As := []) (st := [.ref w21.1, .ref a0]) (cells1 := 28) (slots1 := 482) C (fun _ h => h.2) (fun _ h => h) (fun q h => c_Plan_init h) wd_1_132 rfl rfl wd_1_7 wd_1_130 wd_1_131 rfl hd_Plan_init ⟨by decide, by decide⟩ rfl (Nat.le_of_ble_eq_true rfl) d_Rm_init_68 ⟨by decide, by decide⟩ rfl rfl rfl hX (fun q24 hX => ?_)
  refine am_putr (pc := 71) C (fun _ h => ⟨rfl, h⟩) hin_Rm t_Rm t_Rm_ok n_Rm rfl (by decide) wd_2_10 rfl rfl (t_Rm_ok 5 (by decide)) rfl rfl rfl d_Rm_init_71 hX (fun w25 hX => ?_)
  refine am_aload_n (pc := 74) C d_Rm_init_74 rfl rfl ?_
  refine am_iconst (pc := 75) (v := (0 : Int32)) C d_Rm_init_75 (by decide) ?_
  refine am_put (pc := 76) C (fun _ h => ⟨rfl, h⟩) hin_Rm t_Rm t_Rm_ok n_Rm rfl (by decide) wd_2_11 rfl rfl (t_Rm_ok 6 (by decide)) rfl rfl rfl d_Rm_init_76 hX (fun w26 hX => ?_)
  exact am_vret (pc := 79) C hret hlk d_Rm_init_79 (by decide) (by decide) hX
def rm_Rm_byteOf : Room := { frames := 0, cells := 0, slots := 0, locals := 0 }
def f_Rm_byteOf (a0 : Int32) (a1 : Int32) (w : am_w) : Option (Int32 × am_w) := (some ((((Int32.toUInt32 a0 >>> (Int32.toUInt32 ((8 : Int32) * a1) &&& Int32.toUInt32 31)).toInt32) &&& (255 : Int32)), w))
theorem hd_Rm_byteOf : y_Rm_byteOf.cls ≠ "java/lang/invoke/MethodHandle" ∧ y_Rm_byteOf.cls ≠ "java/lang/invoke/VarHandle" ∧ (parseMethodDescriptor y_Rm_byteOf.desc).map (fun d => d.parameters.length) = some 2 := ⟨by decide, by decide, by decide +kernel⟩
set_option maxHeartbeats 4000000 in
theorem c_Rm_byteOf {l : Launch} {D : va_G} {A : Nat → Prop} {a0 : Int32} {a1 : Int32} {w : am_w} {r : Int32 × am_w} (hX : f_Rm_byteOf a0 a1 w = some r) : am_Met l D classes tys A (am_F A false) y_Rm_byteOf (Cond.code y_Rm_byteOf b_Rm_byteOf 2 (some .int) :: am_W) rm_Rm_byteOf [.int a0, .int a1] w (am_ri r) 0 0 := by
  refine am_ofV (by decide) am_W_good (Nat.le_of_ble_eq_true rfl) (by simp [Value.category]) ?_
  intro p e s m below meth c C hret hlk hnm
  unfold f_Rm_byteOf at hX
  refine am_iload_n (pc := 0) C d_Rm_byteOf_0 rfl rfl ?_
  refine am_bipush (pc := 1) (v := (8 : Int32)) C d_Rm_byteOf_1 (by decide) ?_
  refine am_iload_n (pc := 3) C d_Rm_byteOf_3 rfl rfl ?_
  refine am_imul (pc := 4) C d_Rm_byteOf_4 ?_
  refine am_iushr (pc := 5) C d_Rm_byteOf_5 rfl ?_
  refine am_sipush (pc := 6) (v := (255 : Int32)) C d_Rm_byteOf_6 (by decide) ?_
  refine am_iand (pc := 9) C d_Rm_byteOf_9 ?_
  exact am_iret (pc := 10) C hret hlk d_Rm_byteOf_10 rfl (by decide) (by decide) hX
def rm_Rm_type : Room := { frames := 6, cells := 1, slots := 6, locals := 90 }
def s_Rm_type_55 (k55 : Nat → Int32 → Int32 → Int32 → am_w → Option (Int32 × Nat × am_w)) (v0 : Nat) (v1 : Int32) (v2 : Int32) (v3 : Int32) (w : am_w) : Option (Int32 × Nat × am_w) := (if v2 ≤ v3 then (some ((1 : Int32), 0, w)) else ((am_rg 0 0 v0 w).bind fun b3 => ((f_Rm_byteOf v1 v3 w).bind fun q4 => ((am_ob 1 b3 q4.2 (f_Line_put b3 (((Int32.toUInt32 q4.1) % 65536).toInt32) q4.2)).bind fun q5 => (k55 v0 v1 v2 (v3 + (1 : Int32)) q5.2)))))
def f_Rm_type_55  (n : Nat) : Nat → Int32 → Int32 → Int32 → am_w → Option (Int32 × Nat × am_w) := am_it (fun _ _ _ _ _ => none) (s_Rm_type_55 ) n
set_option maxHeartbeats 4000000 in
theorem L_Rm_type_55 {p : Program} {l : Launch} {e : Env} {s : State} {m : MethodId} {args : Array Value} {below : List Frame} {meth : Method} {c : Code} {D : va_G} {A : Nat → Prop} {r : Int32 × Nat × am_w} (C : am_C p m c b_Rm_type 4 s args am_W "RoverMinutes" D classes A) (hl : l.stackTraces = false) (hret : meth.sig.returnType = (some .boolean)) (hlk : meth.locks = false) (hex : c.exceptionTable.toList = [])   (n : Nat) : ∀ (v0 : Nat) (v1 : Int32) (v2 : Int32) (v3 : Int32) (w : am_w), f_Rm_type_55  n v0 v1 v2 v3 w = some r → am_V p l e rm_Rm_type s m args below meth c D classes tys A (am_F A true) 4 0 0 (am_MQt below (am_Qt D classes tys A (am_F A true) (am_ti r)) args s 1 6 (am_F A true)) 55 [some (.ref v0), some (.int v1), some (.int v2), some (.int v3)] [] w := by
  refine am_it_ind (P := fun (t : Nat → Int32 → Int32 → Int32 → am_w → Option (Int32 × Nat × am_w)) => ∀ (v0 : Nat) (v1 : Int32) (v2 : Int32) (v3 : Int32) (w : am_w), t v0 v1 v2 v3 w = some r → am_V p l e rm_Rm_type s m args below meth c D classes tys A (am_F A true) 4 0 0 (am_MQt below (am_Qt D classes tys A (am_F A true) (am_ti r)) args s 1 6 (am_F A true)) 55 [some (.ref v0), some (.int v1), some (.int v2), some (.int v3)] [] w) ?_ ?_ n
  · intro v0 v1 v2 v3 w hX
    exact (am_nn hX).elim
  · intro k55 hk55 v0 v1 v2 v3 w hX
    unfold s_Rm_type_55 at hX
    refine am_iload_n (pc := 55) C d_Rm_type_55 rfl rfl ?_
    refine am_iload_n (pc := 56) C d_Rm_type_56 rfl rfl ?_
    refine am_icmp_ge (pc := 57) (tgt := 79) C d_Rm_type_57 rfl hX (fun hX => ?_) (fun hX => ?_)
    · skip
      refine am_iconst (pc := 79) (v := (1 : Int32)) C d_Rm_type_79 (by decide) ?_
      exact am_irett (pc := 80) C hret hlk d_Rm_type_80 am_n1 (by decide) (by decide) hX
    · skip
      refine am_aload_n (pc := 60) C d_Rm_type_60 rfl rfl ?_
      refine am_getr (pc := 61) C hin_Rm rfl (by decide) wd_2_5 rfl d_Rm_type_61 rfl hX (fun b3 hX => ?_)
      refine am_iload_n (pc := 64) C d_Rm_type_64 rfl rfl ?_
      refine am_iload_n (pc := 65) C d_Rm_type_65 rfl rfl ?_
      refine am_callSi (pc := 66) (As := [.int v1, .int v3]) (st := [.ref b3]) (cells1 := 0) (slots1 := 0) C (fun _ h => h.2) (fun _ h => by cases h.1) (fun q h => c_Rm_byteOf h) wd_2_103 wd_2_104 wd_1_1 wd_2_105 rfl rfl hd_Rm_byteOf ⟨by decide, by decide⟩ rfl (Nat.le_of_ble_eq_true rfl) d_Rm_type_66 ⟨by decide, by decide⟩ rfl rfl rfl hX (fun q4 hX => ?_)
      refine am_i2c (pc := 69) C d_Rm_type_69 rfl ?_
      refine am_callVv (pc := 70) (As := [.int (((Int32.toUInt32 q4.1) % 65536).toInt32)]) (st := []) (cells1 := 0) (slots1 := 0) C (fun _ h => h.2) (fun _ h => h) (fun q h => c_Line_put h) wd_2_176 wd_2_177 wd_2_178 wd_1_2 wd_2_179 rfl rfl hd_Line_put ⟨by decide, by decide⟩ rfl rfl (Nat.le_of_ble_eq_true rfl) d_Rm_type_70 ⟨by decide, by decide⟩ rfl rfl rfl hX (fun q5 hX => ?_)
      refine am_iinc (pc := 73) (y := (1 : Int32)) (lo1 := [some (.ref v0), some (.int v1), some (.int v2), some (.int (v3 + (1 : Int32)))]) C d_Rm_type_73 rfl (by decide) (by decide) rfl ?_
      refine am_goto (pc := 76) (tgt := 55) C d_Rm_type_76 rfl ?_
      exact (hk55 v0 v1 v2 (v3 + (1 : Int32)) q5.2 hX)
def s_Rm_type_40  (v0 : Nat) (v1 : Int32) (v2 : Int32) (w : am_w) : Option (Int32 × Nat × am_w) := ((am_rg 0 0 v0 w).bind fun b1 => ((am_ob 1 b1 w (f_Line_hasRoomFor b1 v2 w)).bind fun q2 => (if q2.1 = 0 then (some ((0 : Int32), 0, q2.2)) else (f_Rm_type_55  70 v0 v1 v2 (0 : Int32) q2.2))))
set_option maxHeartbeats 4000000 in
theorem L_Rm_type_40 {p : Program} {l : Launch} {e : Env} {s : State} {m : MethodId} {args : Array Value} {below : List Frame} {meth : Method} {c : Code} {D : va_G} {A : Nat → Prop} {r : Int32 × Nat × am_w} (C : am_C p m c b_Rm_type 4 s args am_W "RoverMinutes" D classes A) (hl : l.stackTraces = false) (hret : meth.sig.returnType = (some .boolean)) (hlk : meth.locks = false) (hex : c.exceptionTable.toList = [])   : ∀ (v0 : Nat) (v1 : Int32) (v2 : Int32) (w : am_w), s_Rm_type_40  v0 v1 v2 w = some r → am_V p l e rm_Rm_type s m args below meth c D classes tys A (am_F A false) 4 0 0 (am_MQt below (am_Qt D classes tys A (am_F A true) (am_ti r)) args s 1 6 (am_F A true)) 40 [some (.ref v0), some (.int v1), some (.int v2), none] [] w := by
  intro v0 v1 v2 w hX
  unfold s_Rm_type_40 at hX
  refine am_aload_n (pc := 40) C d_Rm_type_40 rfl rfl ?_
  refine am_getr (pc := 41) C hin_Rm rfl (by decide) wd_2_5 rfl d_Rm_type_41 rfl hX (fun b1 hX => ?_)
  refine am_iload_n (pc := 44) C d_Rm_type_44 rfl rfl ?_
  refine am_callVi (pc := 45) (As := [.int v2]) (st := []) (cells1 := 0) (slots1 := 0) C (fun _ h => h.2) (fun _ h => by cases h.1) (fun q h => c_Line_hasRoomFor h) wd_2_172 wd_2_173 wd_2_174 wd_1_2 wd_2_175 rfl rfl hd_Line_hasRoomFor ⟨by decide, by decide⟩ rfl rfl (Nat.le_of_ble_eq_true rfl) d_Rm_type_45 ⟨by decide, by decide⟩ rfl rfl rfl hX (fun q2 hX => ?_)
  refine am_if_ne (pc := 48) (tgt := 53) C d_Rm_type_48 rfl hX (fun hX => ?_) (fun hX => ?_)
  · skip
    refine am_iconst (pc := 53) (v := (0 : Int32)) C d_Rm_type_53 (by decide) ?_
    refine am_istore_n (pc := 54) (lo1 := [some (.ref v0), some (.int v1), some (.int v2), some (.int (0 : Int32))]) C d_Rm_type_54 rfl (by decide) rfl ?_
    refine am_grow (F1 := (am_F A true)) (fun _ h => ⟨rfl, h.2⟩) ?_
    exact (L_Rm_type_55 C hl hret hlk hex  70 v0 v1 v2 (0 : Int32) q2.2 hX)
  · skip
    refine am_iconst (pc := 51) (v := (0 : Int32)) C d_Rm_type_51 (by decide) ?_
    refine am_grow (F1 := (am_F A true)) (fun _ h => ⟨rfl, h.2⟩) ?_
    exact am_irett (pc := 52) C hret hlk d_Rm_type_52 am_n0 (by decide) (by decide) hX
def s_Rm_type_2 (k2 : Nat → Int32 → Int32 → am_w → Option (Int32 × Nat × am_w)) (v0 : Nat) (v1 : Int32) (v2 : Int32) (w : am_w) : Option (Int32 × Nat × am_w) := (if (4 : Int32) ≤ v2 then (s_Rm_type_40  v0 v1 v2 w) else ((f_Rm_byteOf v1 v2 w).bind fun q6 => (if q6.1 = 0 then (s_Rm_type_40  v0 v1 v2 q6.2) else ((f_Rm_byteOf v1 v2 q6.2).bind fun q7 => ((f_Line_canHold q7.1 q7.2).bind fun q8 => (if q8.1 = 0 then (some (0, 1, am_th q8.2)) else (k2 v0 v1 (v2 + (1 : Int32)) q8.2)))))))
def f_Rm_type_2  (n : Nat) : Nat → Int32 → Int32 → am_w → Option (Int32 × Nat × am_w) := am_it (fun _ _ _ _ => none) (s_Rm_type_2 ) n
set_option maxHeartbeats 4000000 in
theorem L_Rm_type_2 {p : Program} {l : Launch} {e : Env} {s : State} {m : MethodId} {args : Array Value} {below : List Frame} {meth : Method} {c : Code} {D : va_G} {A : Nat → Prop} {r : Int32 × Nat × am_w} (C : am_C p m c b_Rm_type 4 s args am_W "RoverMinutes" D classes A) (hl : l.stackTraces = false) (hret : meth.sig.returnType = (some .boolean)) (hlk : meth.locks = false) (hex : c.exceptionTable.toList = [])   (n : Nat) : ∀ (v0 : Nat) (v1 : Int32) (v2 : Int32) (w : am_w), f_Rm_type_2  n v0 v1 v2 w = some r → am_V p l e rm_Rm_type s m args below meth c D classes tys A (am_F A false) 4 0 0 (am_MQt below (am_Qt D classes tys A (am_F A true) (am_ti r)) args s 1 6 (am_F A true)) 2 [some (.ref v0), some (.int v1), some (.int v2), none] [] w := by
  refine am_it_ind (P := fun (t : Nat → Int32 → Int32 → am_w → Option (Int32 × Nat × am_w)) => ∀ (v0 : Nat) (v1 : Int32) (v2 : Int32) (w : am_w), t v0 v1 v2 w = some r → am_V p l e rm_Rm_type s m args below meth c D classes tys A (am_F A false) 4 0 0 (am_MQt below (am_Qt D classes tys A (am_F A true) (am_ti r)) args s 1 6 (am_F A true)) 2 [some (.ref v0), some (.int v1), some (.int v2), none] [] w) ?_ ?_ n
  · intro v0 v1 v2 w hX
    exact (am_nn hX).elim
  · intro k2 hk2 v0 v1 v2 w hX
    unfold s_Rm_type_2 at hX
    refine am_iload_n (pc := 2) C d_Rm_type_2 rfl rfl ?_
    refine am_iconst (pc := 3) (v := (4 : Int32)) C d_Rm_type_3 (by decide) ?_
    refine am_icmp_ge (pc := 4) (tgt := 40) C d_Rm_type_4 rfl hX (fun hX => ?_) (fun hX => ?_)
    · skip
      exact (L_Rm_type_40 C hl hret hlk hex  v0 v1 v2 w hX)
    · skip
      refine am_iload_n (pc := 7) C d_Rm_type_7 rfl rfl ?_
      refine am_iload_n (pc := 8) C d_Rm_type_8 rfl rfl ?_
      refine am_callSi (pc := 9) (As := [.int v1, .int v2]) (st := []) (cells1 := 0) (slots1 := 0) C (fun _ h => h.2) (fun _ h => by cases h.1) (fun q h => c_Rm_byteOf h) wd_2_103 wd_2_104 wd_1_1 wd_2_105 rfl rfl hd_Rm_byteOf ⟨by decide, by decide⟩ rfl (Nat.le_of_ble_eq_true rfl) d_Rm_type_9 ⟨by decide, by decide⟩ rfl rfl rfl hX (fun q6 hX => ?_)
      refine am_if_eq (pc := 12) (tgt := 40) C d_Rm_type_12 rfl hX (fun hX => ?_) (fun hX => ?_)
      · skip
        exact (L_Rm_type_40 C hl hret hlk hex  v0 v1 v2 q6.2 hX)
      · skip
        refine am_iload_n (pc := 15) C d_Rm_type_15 rfl rfl ?_
        refine am_iload_n (pc := 16) C d_Rm_type_16 rfl rfl ?_
        refine am_callSi (pc := 17) (As := [.int v1, .int v2]) (st := []) (cells1 := 0) (slots1 := 0) C (fun _ h => h.2) (fun _ h => by cases h.1) (fun q h => c_Rm_byteOf h) wd_2_103 wd_2_104 wd_1_1 wd_2_105 rfl rfl hd_Rm_byteOf ⟨by decide, by decide⟩ rfl (Nat.le_of_ble_eq_true rfl) d_Rm_type_17 ⟨by decide, by decide⟩ rfl rfl rfl hX (fun q7 hX => ?_)
        refine am_callSi (pc := 20) (As := [.int q7.1]) (st := []) (cells1 := 0) (slots1 := 0) C (fun _ h => h.2) (fun _ h => by cases h.1) (fun q h => c_Line_canHold h) wd_2_106 wd_2_107 wd_1_2 wd_2_108 rfl rfl hd_Line_canHold ⟨by decide, by decide⟩ rfl (Nat.le_of_ble_eq_true rfl) d_Rm_type_20 ⟨by decide, by decide⟩ rfl rfl rfl hX (fun q8 hX => ?_)
        refine am_if_ne (pc := 23) (tgt := 34) C d_Rm_type_23 rfl hX (fun hX => ?_) (fun hX => ?_)
        · skip
          refine am_iinc (pc := 34) (y := (1 : Int32)) (lo1 := [some (.ref v0), some (.int v1), some (.int (v2 + (1 : Int32))), none]) C d_Rm_type_34 rfl (by decide) (by decide) rfl ?_
          refine am_goto (pc := 37) (tgt := 2) C d_Rm_type_37 rfl ?_
          exact (hk2 v0 v1 (v2 + (1 : Int32)) q8.2 hX)
        · skip
          exact am_throw (pc := 26) (k := 1) C hl hlk hex (by decide) wd_2_109 wd_2_110 wd_1_13 oa_Rm_1 d_Rm_type_26 d_Rm_type_29 d_Rm_type_30 d_Rm_type_33 (by decide) (Nat.le_of_ble_eq_true rfl) (by decide) (by decide) true (am_ti_of hX)
def f_Rm_type (a0 : Nat) (a1 : Int32) (w : am_w) : Option (Int32 × Nat × am_w) := (f_Rm_type_2  70 a0 a1 (0 : Int32) w)
theorem hd_Rm_type : y_Rm_type.cls = "RoverMinutes" ∧ y_Rm_type.cls ≠ "java/lang/invoke/MethodHandle" ∧ y_Rm_type.cls ≠ "java/lang/invoke/VarHandle" ∧ (parseMethodDescriptor y_Rm_type.desc).map (fun d => d.parameters.length) = some 1 := ⟨rfl, by decide, by decide, by decide +kernel⟩
set_option maxHeartbeats 4000000 in
theorem c_Rm_type {l : Launch} {D : va_G} {A : Nat → Prop} (hl : l.stackTraces = false) {a0 : Nat} {a1 : Int32} {w : am_w} {r : Int32 × Nat × am_w} (hX : f_Rm_type a0 a1 w = some r) : am_Mett l D classes tys A (am_F A true) y_Rm_type (Cond.code y_Rm_type b_Rm_type 4 (some .boolean) :: am_W) rm_Rm_type [.ref a0, .int a1] w (am_ti r) 1 6 := by
  refine am_ofVt (F0 := am_F A false) (by decide) am_W_good (Nat.le_of_ble_eq_true rfl) (by simp [Value.category]) ?_
  intro p e s m below meth c C hret hlk hnm hex
  unfold f_Rm_type at hX
  refine am_iconst (pc := 0) (v := (0 : Int32)) C d_Rm_type_0 (by decide) ?_
  refine am_istore_n (pc := 1) (lo1 := [some (.ref a0), some (.int a1), some (.int (0 : Int32)), none]) C d_Rm_type_1 rfl (by decide) rfl ?_
  exact (L_Rm_type_2 C hl hret hlk hex  70 a0 a1 (0 : Int32) w hX)
def rm_Rm_submit : Room := { frames := 6, cells := 1, slots := 6, locals := 139 }
def s_Rm_submit_46  (v0 : Nat) (v1 : Int32) (w : am_w) : Option (Int32 × Nat × am_w) := (if v1 = 0 then ((am_rg 0 4 v0 w).bind fun b7 => ((am_rg 0 5 v0 w).bind fun b8 => ((am_rp 0 4 v0 b8 w).bind fun w9 => ((am_rp 0 5 v0 b7 w9).bind fun w10 => ((am_rg 0 4 v0 w10).bind fun b11 => ((am_ob 5 b11 w10 (f_Plan_makeReady b11 w10)).bind fun q12 => (some (v1, 0, q12.2)))))))) else (some (v1, 0, w)))
set_option maxHeartbeats 4000000 in
theorem L_Rm_submit_46 {p : Program} {l : Launch} {e : Env} {s : State} {m : MethodId} {args : Array Value} {below : List Frame} {meth : Method} {c : Code} {D : va_G} {A : Nat → Prop} {r : Int32 × Nat × am_w} (C : am_C p m c b_Rm_submit 3 s args am_W "RoverMinutes" D classes A) (hl : l.stackTraces = false) (hret : meth.sig.returnType = (some .int)) (hlk : meth.locks = false) (hex : c.exceptionTable.toList = [])   : ∀ (v0 : Nat) (v1 : Int32) (w : am_w), s_Rm_submit_46  v0 v1 w = some r → am_V p l e rm_Rm_submit s m args below meth c D classes tys A (am_F A true) 3 0 0 (am_MQt below (am_Qt D classes tys A (am_F A true) (am_ti r)) args s 1 6 (am_F A true)) 46 [some (.ref v0), some (.int v1), none] [] w := by
  intro v0 v1 w hX
  unfold s_Rm_submit_46 at hX
  refine am_iload_n (pc := 46) C d_Rm_submit_46 rfl rfl ?_
  refine am_if_ne (pc := 47) (tgt := 75) C d_Rm_submit_47 rfl hX (fun hX => ?_) (fun hX => ?_)
  · skip
    refine am_iload_n (pc := 75) C d_Rm_submit_75 rfl rfl ?_
    exact am_irett (pc := 76) C hret hlk d_Rm_submit_76 rfl (by decide) (by decide) hX
  · skip
    refine am_aload_n (pc := 50) C d_Rm_submit_50 rfl rfl ?_
    refine am_getr (pc := 51) C hin_Rm rfl (by decide) wd_2_9 rfl d_Rm_submit_51 rfl hX (fun b7 hX => ?_)
    refine am_astore_n (pc := 54) (lo1 := [some (.ref v0), some (.int v1), some (.ref b7)]) C d_Rm_submit_54 rfl (by decide) rfl ?_
    refine am_aload_n (pc := 55) C d_Rm_submit_55 rfl rfl ?_
    refine am_aload_n (pc := 56) C d_Rm_submit_56 rfl rfl ?_
    refine am_getr (pc := 57) C hin_Rm rfl (by decide) wd_2_10 rfl d_Rm_submit_57 rfl hX (fun b8 hX => ?_)
    refine am_putr (pc := 60) C (fun _ h => ⟨rfl, h⟩) hin_Rm t_Rm t_Rm_ok n_Rm rfl (by decide) wd_2_9 rfl rfl (t_Rm_ok 4 (by decide)) rfl rfl rfl d_Rm_submit_60 hX (fun w9 hX => ?_)
    refine am_aload_n (pc := 63) C d_Rm_submit_63 rfl rfl ?_
    refine am_aload_n (pc := 64) C d_Rm_submit_64 rfl rfl ?_
    refine am_putr (pc := 65) C (fun _ h => ⟨rfl, h⟩) hin_Rm t_Rm t_Rm_ok n_Rm rfl (by decide) wd_2_10 rfl rfl (t_Rm_ok 5 (by decide)) rfl rfl rfl d_Rm_submit_65 hX (fun w10 hX => ?_)
    refine am_aload_n (pc := 68) C d_Rm_submit_68 rfl rfl ?_
    refine am_getr (pc := 69) C hin_Rm rfl (by decide) wd_2_9 rfl d_Rm_submit_69 rfl hX (fun b11 hX => ?_)
    refine am_callVv (pc := 72) (As := []) (st := []) (cells1 := 0) (slots1 := 0) C (fun _ h => h.2) (fun _ h => h) (fun q h => c_Plan_makeReady h) wd_3_111 wd_3_112 wd_3_113 wd_1_7 wd_3_114 rfl rfl hd_Plan_makeReady ⟨by decide, by decide⟩ rfl rfl (Nat.le_of_ble_eq_true rfl) d_Rm_submit_72 ⟨by decide, by decide⟩ rfl rfl rfl hX (fun q12 hX => ?_)
    refine am_iload_n (pc := 75) C d_Rm_submit_75 rfl rfl ?_
    exact am_irett (pc := 76) C hret hlk d_Rm_submit_76 rfl (by decide) (by decide) hX
def f_Rm_submit (a0 : Nat) (w : am_w) : Option (Int32 × Nat × am_w) := ((am_fg 0 6 a0 w).bind fun x1 => (if x1 = 0 then ((am_rg 0 1 a0 w).bind fun b2 => ((am_rg 0 5 a0 w).bind fun b3 => ((am_ob 2 b2 w (f_PlanReader_read b2 b3 w)).bind fun q4 => ((am_rg 0 0 a0 q4.2).bind fun b5 => ((am_ob 1 b5 q4.2 (f_Line_clear b5 q4.2)).bind fun q6 => (if q4.1 = 0 then ((am_rg 0 5 a0 q6.2).bind fun b13 => ((am_ob 5 b13 q6.2 (f_Plan_findUnfit b13 q6.2)).bind fun q14 => (s_Rm_submit_46  a0 q14.1 q14.2))) else (s_Rm_submit_46  a0 q4.1 q6.2))))))) else (some (0, 2, am_th w))))
theorem hd_Rm_submit : y_Rm_submit.cls = "RoverMinutes" ∧ y_Rm_submit.cls ≠ "java/lang/invoke/MethodHandle" ∧ y_Rm_submit.cls ≠ "java/lang/invoke/VarHandle" ∧ (parseMethodDescriptor y_Rm_submit.desc).map (fun d => d.parameters.length) = some 0 := ⟨rfl, by decide, by decide, by decide +kernel⟩
set_option maxHeartbeats 4000000 in
theorem c_Rm_submit {l : Launch} {D : va_G} {A : Nat → Prop} (hl : l.stackTraces = false) {a0 : Nat} {w : am_w} {r : Int32 × Nat × am_w} (hX : f_Rm_submit a0 w = some r) : am_Mett l D classes tys A (am_F A true) y_Rm_submit (Cond.code y_Rm_submit b_Rm_submit 3 (some .int) :: am_W) rm_Rm_submit [.ref a0] w (am_ti r) 1 6 := by
  refine am_ofVt (F0 := am_F A false) (by decide) am_W_good (Nat.le_of_ble_eq_true rfl) (by simp [Value.category]) ?_
  intro p e s m below meth c C hret hlk hnm hex
  unfold f_Rm_submit at hX
  refine am_aload_n (pc := 0) C d_Rm_submit_0 rfl rfl ?_
  refine am_get (pc := 1) C hin_Rm rfl (by decide) wd_2_11 rfl d_Rm_submit_1 rfl hX (fun x1 hX => ?_)
  refine am_if_eq (pc := 4) (tgt := 15) C d_Rm_submit_4 rfl hX (fun hX => ?_) (fun hX => ?_)
  · skip
    refine am_aload_n (pc := 15) C d_Rm_submit_15 rfl rfl ?_
    refine am_getr (pc := 16) C hin_Rm rfl (by decide) wd_2_6 rfl d_Rm_submit_16 rfl hX (fun b2 hX => ?_)
    refine am_aload_n (pc := 19) C d_Rm_submit_19 rfl rfl ?_
    refine am_getr (pc := 20) C hin_Rm rfl (by decide) wd_2_10 rfl d_Rm_submit_20 rfl hX (fun b3 hX => ?_)
    refine am_grow (F1 := (am_F A true)) (fun _ h => ⟨rfl, h.2⟩) ?_
    refine am_callVi (pc := 23) (As := [.ref b3]) (st := []) (cells1 := 0) (slots1 := 0) C (fun _ h => h.2) (fun _ h => h) (fun q h => c_PlanReader_read h) wd_2_203 wd_2_204 wd_2_205 wd_1_3 wd_2_206 rfl rfl hd_PlanReader_read ⟨by decide, by decide⟩ rfl rfl (Nat.le_of_ble_eq_true rfl) d_Rm_submit_23 ⟨by decide, by decide⟩ rfl rfl rfl hX (fun q4 hX => ?_)
    refine am_istore_n (pc := 26) (lo1 := [some (.ref a0), some (.int q4.1), none]) C d_Rm_submit_26 rfl (by decide) rfl ?_
    refine am_aload_n (pc := 27) C d_Rm_submit_27 rfl rfl ?_
    refine am_getr (pc := 28) C hin_Rm rfl (by decide) wd_2_5 rfl d_Rm_submit_28 rfl hX (fun b5 hX => ?_)
    refine am_callVv (pc := 31) (As := []) (st := []) (cells1 := 0) (slots1 := 0) C (fun _ h => h.2) (fun _ h => h) (fun q h => c_Line_clear h) wd_3_82 wd_3_83 wd_3_84 wd_1_2 wd_3_85 rfl rfl hd_Line_clear ⟨by decide, by decide⟩ rfl rfl (Nat.le_of_ble_eq_true rfl) d_Rm_submit_31 ⟨by decide, by decide⟩ rfl rfl rfl hX (fun q6 hX => ?_)
    refine am_iload_n (pc := 34) C d_Rm_submit_34 rfl rfl ?_
    refine am_if_ne (pc := 35) (tgt := 46) C d_Rm_submit_35 rfl hX (fun hX => ?_) (fun hX => ?_)
    · skip
      exact (L_Rm_submit_46 C hl hret hlk hex  a0 q4.1 q6.2 hX)
    · skip
      refine am_aload_n (pc := 38) C d_Rm_submit_38 rfl rfl ?_
      refine am_getr (pc := 39) C hin_Rm rfl (by decide) wd_2_10 rfl d_Rm_submit_39 rfl hX (fun b13 hX => ?_)
      refine am_callVi (pc := 42) (As := []) (st := []) (cells1 := 0) (slots1 := 0) C (fun _ h => h.2) (fun _ h => h) (fun q h => c_Plan_findUnfit h) wd_3_86 wd_3_87 wd_3_88 wd_1_7 wd_3_89 rfl rfl hd_Plan_findUnfit ⟨by decide, by decide⟩ rfl rfl (Nat.le_of_ble_eq_true rfl) d_Rm_submit_42 ⟨by decide, by decide⟩ rfl rfl rfl hX (fun q14 hX => ?_)
      refine am_istore_n (pc := 45) (lo1 := [some (.ref a0), some (.int q14.1), none]) C d_Rm_submit_45 rfl (by decide) rfl ?_
      exact (L_Rm_submit_46 C hl hret hlk hex  a0 q14.1 q14.2 hX)
  · skip
    exact am_throw (pc := 7) (k := 2) C hl hlk hex (by decide) wd_2_188 wd_2_189 wd_1_14 oa_Rm_2 d_Rm_submit_7 d_Rm_submit_10 d_Rm_submit_11 d_Rm_submit_14 (by decide) (Nat.le_of_ble_eq_true rfl) (by decide) (by decide) true (am_ti_of hX)
def rm_Rm_mayStart : Room := { frames := 4, cells := 0, slots := 0, locals := 91 }
def f_Rm_mayStart (a0 : Nat) (a1 : Int32) (w : am_w) : Option (Int32 × am_w) := ((am_rg 0 4 a0 w).bind fun b1 => ((am_ob 5 b1 w (f_Plan_isReady b1 a1 w)).bind fun q2 => (if q2.1 = 0 then (some ((0 : Int32), q2.2)) else ((am_rg 0 3 a0 q2.2).bind fun b3 => ((am_rg 0 4 a0 q2.2).bind fun b4 => ((am_ob 4 b3 q2.2 (f_Envelope_gather b3 b4 a1 q2.2)).bind fun q5 => ((am_rg 0 3 a0 q5.2).bind fun b6 => ((am_rg 0 2 a0 q5.2).bind fun b7 => ((am_fg 0 7 a0 q5.2).bind fun x8 => ((am_ob 4 b6 q5.2 (f_Envelope_holds b6 b7 x8 q5.2)).bind fun q9 => (if q9.1 &&& 1 = q9.1 then some (q9.1, q9.2) else none)))))))))))
theorem hd_Rm_mayStart : y_Rm_mayStart.cls = "RoverMinutes" ∧ y_Rm_mayStart.cls ≠ "java/lang/invoke/MethodHandle" ∧ y_Rm_mayStart.cls ≠ "java/lang/invoke/VarHandle" ∧ (parseMethodDescriptor y_Rm_mayStart.desc).map (fun d => d.parameters.length) = some 1 := ⟨rfl, by decide, by decide, by decide +kernel⟩
set_option maxHeartbeats 4000000 in
theorem c_Rm_mayStart {l : Launch} {D : va_G} {A : Nat → Prop} {a0 : Nat} {a1 : Int32} {w : am_w} {r : Int32 × am_w} (hX : f_Rm_mayStart a0 a1 w = some r) : am_Met l D classes tys A (am_F A true) y_Rm_mayStart (Cond.code y_Rm_mayStart b_Rm_mayStart 2 (some .boolean) :: am_W) rm_Rm_mayStart [.ref a0, .int a1] w (am_ri r) 0 0 := by
  refine am_ofV (by decide) am_W_good (Nat.le_of_ble_eq_true rfl) (by simp [Value.category]) ?_
  intro p e s m below meth c C hret hlk hnm
  unfold f_Rm_mayStart at hX
  refine am_aload_n (pc := 0) C d_Rm_mayStart_0 rfl rfl ?_
  refine am_getr (pc := 1) C hin_Rm rfl (by decide) wd_2_9 rfl d_Rm_mayStart_1 rfl hX (fun b1 hX => ?_)
  refine am_iload_n (pc := 4) C d_Rm_mayStart_4 rfl rfl ?_
  refine am_callVi (pc := 5) (As := [.int a1]) (st := []) (cells1 := 0) (slots1 := 0) C (fun _ h => h.2) (fun _ h => by cases h.1) (fun q h => c_Plan_isReady h) wd_3_164 wd_3_165 wd_3_166 wd_1_7 wd_3_167 rfl rfl hd_Plan_isReady ⟨by decide, by decide⟩ rfl rfl (Nat.le_of_ble_eq_true rfl) d_Rm_mayStart_5 ⟨by decide, by decide⟩ rfl rfl rfl hX (fun q2 hX => ?_)
  refine am_if_ne (pc := 8) (tgt := 13) C d_Rm_mayStart_8 rfl hX (fun hX => ?_) (fun hX => ?_)
  · skip
    refine am_aload_n (pc := 13) C d_Rm_mayStart_13 rfl rfl ?_
    refine am_getr (pc := 14) C hin_Rm rfl (by decide) wd_2_8 rfl d_Rm_mayStart_14 rfl hX (fun b3 hX => ?_)
    refine am_aload_n (pc := 17) C d_Rm_mayStart_17 rfl rfl ?_
    refine am_getr (pc := 18) C hin_Rm rfl (by decide) wd_2_9 rfl d_Rm_mayStart_18 rfl hX (fun b4 hX => ?_)
    refine am_iload_n (pc := 21) C d_Rm_mayStart_21 rfl rfl ?_
    refine am_callVv (pc := 22) (As := [.ref b4, .int a1]) (st := []) (cells1 := 0) (slots1 := 0) C (fun _ h => h.2) (fun _ h => h) (fun q h => c_Envelope_gather h) wd_2_63 wd_2_64 wd_2_65 wd_1_6 wd_2_66 rfl rfl hd_Envelope_gather ⟨by decide, by decide⟩ rfl rfl (Nat.le_of_ble_eq_true rfl) d_Rm_mayStart_22 ⟨by decide, by decide⟩ rfl rfl rfl hX (fun q5 hX => ?_)
    refine am_aload_n (pc := 25) C d_Rm_mayStart_25 rfl rfl ?_
    refine am_getr (pc := 26) C hin_Rm rfl (by decide) wd_2_8 rfl d_Rm_mayStart_26 rfl hX (fun b6 hX => ?_)
    refine am_aload_n (pc := 29) C d_Rm_mayStart_29 rfl rfl ?_
    refine am_getr (pc := 30) C hin_Rm rfl (by decide) wd_2_7 rfl d_Rm_mayStart_30 rfl hX (fun b7 hX => ?_)
    refine am_aload_n (pc := 33) C d_Rm_mayStart_33 rfl rfl ?_
    refine am_get (pc := 34) C hin_Rm rfl (by decide) wd_2_12 rfl d_Rm_mayStart_34 rfl hX (fun x8 hX => ?_)
    refine am_callVi (pc := 37) (As := [.ref b7, .int x8]) (st := []) (cells1 := 0) (slots1 := 0) C (fun _ h => h.2) (fun _ h => by cases h.1) (fun q h => c_Envelope_holds h) wd_3_168 wd_3_169 wd_3_170 wd_1_6 wd_3_171 rfl rfl hd_Envelope_holds ⟨by decide, by decide⟩ rfl rfl (Nat.le_of_ble_eq_true rfl) d_Rm_mayStart_37 ⟨by decide, by decide⟩ rfl rfl rfl hX (fun q9 hX => ?_)
    exact am_zret (pc := 40) C hret hlk d_Rm_mayStart_40 (by decide) (by decide) hX
  · skip
    refine am_iconst (pc := 11) (v := (0 : Int32)) C d_Rm_mayStart_11 (by decide) ?_
    exact am_iret (pc := 12) C hret hlk d_Rm_mayStart_12 am_n0 (by decide) (by decide) hX
def rm_Rm_startAndSettle : Room := { frames := 5, cells := 0, slots := 0, locals := 112 }
def s_Rm_startAndSettle_4 (k4 : Nat → Int32 → Int32 → am_w → Option (Int32 × am_w)) (v0 : Nat) (v1 : Int32) (v2 : Int32) (w : am_w) : Option (Int32 × am_w) := ((am_rg 0 4 v0 w).bind fun b1 => ((am_fg 5 1 b1 w).bind fun x2 => (if x2 ≤ v2 then ((am_rg 0 4 v0 w).bind fun b3 => ((am_ob 5 b3 w (f_Plan_isOver b3 w)).bind fun q4 => (if q4.1 = 0 then (some (v1, q4.2)) else ((am_fp 0 6 v0 (0 : Int32) q4.2).bind fun w5 => (some (v1, w5)))))) else ((am_ob 0 v0 w (f_Rm_mayStart v0 v2 w)).bind fun q6 => (if q6.1 = 0 then (k4 v0 v1 (v2 + (1 : Int32)) q6.2) else ((am_rg 0 4 v0 q6.2).bind fun b7 => ((am_rg 5 0 b7 q6.2).bind fun b8 => ((am_ag b8 v2 q6.2).bind fun b9 => ((am_fg 0 7 v0 q6.2).bind fun x10 => ((am_ob 6 b9 q6.2 (f_Activity_start b9 x10 q6.2)).bind fun q11 => (k4 v0 (v1 + (1 : Int32)) (v2 + (1 : Int32)) q11.2)))))))))))
def f_Rm_startAndSettle_4  (n : Nat) : Nat → Int32 → Int32 → am_w → Option (Int32 × am_w) := am_it (fun _ _ _ _ => none) (s_Rm_startAndSettle_4 ) n
set_option maxHeartbeats 4000000 in
theorem L_Rm_startAndSettle_4 {p : Program} {l : Launch} {e : Env} {s : State} {m : MethodId} {args : Array Value} {below : List Frame} {meth : Method} {c : Code} {D : va_G} {A : Nat → Prop} {r : Int32 × am_w} (C : am_C p m c b_Rm_startAndSettle 3 s args am_W "RoverMinutes" D classes A) (hret : meth.sig.returnType = (some .int)) (hlk : meth.locks = false)   (n : Nat) : ∀ (v0 : Nat) (v1 : Int32) (v2 : Int32) (w : am_w), f_Rm_startAndSettle_4  n v0 v1 v2 w = some r → am_V p l e rm_Rm_startAndSettle s m args below meth c D classes tys A (am_F A true) 3 0 0 (MQ below (am_Q D classes tys A (am_F A true) (am_ri r)) args s 0 0 (am_F A true)) 4 [some (.ref v0), some (.int v1), some (.int v2)] [] w := by
  refine am_it_ind (P := fun (t : Nat → Int32 → Int32 → am_w → Option (Int32 × am_w)) => ∀ (v0 : Nat) (v1 : Int32) (v2 : Int32) (w : am_w), t v0 v1 v2 w = some r → am_V p l e rm_Rm_startAndSettle s m args below meth c D classes tys A (am_F A true) 3 0 0 (MQ below (am_Q D classes tys A (am_F A true) (am_ri r)) args s 0 0 (am_F A true)) 4 [some (.ref v0), some (.int v1), some (.int v2)] [] w) ?_ ?_ n
  · intro v0 v1 v2 w hX
    exact (am_nn hX).elim
  · intro k4 hk4 v0 v1 v2 w hX
    unfold s_Rm_startAndSettle_4 at hX
    refine am_iload_n (pc := 4) C d_Rm_startAndSettle_4 rfl rfl ?_
    refine am_aload_n (pc := 5) C d_Rm_startAndSettle_5 rfl rfl ?_
    refine am_getr (pc := 6) C hin_Rm rfl (by decide) wd_2_9 rfl d_Rm_startAndSettle_6 rfl hX (fun b1 hX => ?_)
    refine am_get (pc := 9) C hin_Plan rfl (by decide) wd_1_239 rfl d_Rm_startAndSettle_9 rfl hX (fun x2 hX => ?_)
    refine am_icmp_ge (pc := 12) (tgt := 48) C d_Rm_startAndSettle_12 rfl hX (fun hX => ?_) (fun hX => ?_)
    · skip
      refine am_aload_n (pc := 48) C d_Rm_startAndSettle_48 rfl rfl ?_
      refine am_getr (pc := 49) C hin_Rm rfl (by decide) wd_2_9 rfl d_Rm_startAndSettle_49 rfl hX (fun b3 hX => ?_)
      refine am_callVi (pc := 52) (As := []) (st := []) (cells1 := 0) (slots1 := 0) C (fun _ h => h.2) (fun _ h => by cases h.1) (fun q h => c_Plan_isOver h) wd_3_177 wd_3_178 wd_3_179 wd_1_7 wd_3_180 rfl rfl hd_Plan_isOver ⟨by decide, by decide⟩ rfl rfl (Nat.le_of_ble_eq_true rfl) d_Rm_startAndSettle_52 ⟨by decide, by decide⟩ rfl rfl rfl hX (fun q4 hX => ?_)
      refine am_if_eq (pc := 55) (tgt := 63) C d_Rm_startAndSettle_55 rfl hX (fun hX => ?_) (fun hX => ?_)
      · skip
        refine am_iload_n (pc := 63) C d_Rm_startAndSettle_63 rfl rfl ?_
        exact am_iret (pc := 64) C hret hlk d_Rm_startAndSettle_64 rfl (by decide) (by decide) hX
      · skip
        refine am_aload_n (pc := 58) C d_Rm_startAndSettle_58 rfl rfl ?_
        refine am_iconst (pc := 59) (v := (0 : Int32)) C d_Rm_startAndSettle_59 (by decide) ?_
        refine am_put (pc := 60) C (fun _ h => ⟨rfl, h⟩) hin_Rm t_Rm t_Rm_ok n_Rm rfl (by decide) wd_2_11 rfl rfl (t_Rm_ok 6 (by decide)) rfl rfl rfl d_Rm_startAndSettle_60 hX (fun w5 hX => ?_)
        refine am_iload_n (pc := 63) C d_Rm_startAndSettle_63 rfl rfl ?_
        exact am_iret (pc := 64) C hret hlk d_Rm_startAndSettle_64 rfl (by decide) (by decide) hX
    · skip
      refine am_aload_n (pc := 15) C d_Rm_startAndSettle_15 rfl rfl ?_
      refine am_iload_n (pc := 16) C d_Rm_startAndSettle_16 rfl rfl ?_
      refine am_callVi (pc := 17) (As := [.int v2]) (st := []) (cells1 := 0) (slots1 := 0) C (fun _ h => h.2) (fun _ h => h) (fun q h => c_Rm_mayStart h) wd_3_160 wd_3_162 ws_Rm_mayStart wd_1_1 wd_3_163 rfl rfl hd_Rm_mayStart ⟨by decide, by decide⟩ rfl rfl (Nat.le_of_ble_eq_true rfl) d_Rm_startAndSettle_17 ⟨by decide, by decide⟩ rfl rfl rfl hX (fun q6 hX => ?_)
      refine am_if_eq (pc := 20) (tgt := 42) C d_Rm_startAndSettle_20 rfl hX (fun hX => ?_) (fun hX => ?_)
      · skip
        refine am_iinc (pc := 42) (y := (1 : Int32)) (lo1 := [some (.ref v0), some (.int v1), some (.int (v2 + (1 : Int32)))]) C d_Rm_startAndSettle_42 rfl (by decide) (by decide) rfl ?_
        refine am_goto (pc := 45) (tgt := 4) C d_Rm_startAndSettle_45 rfl ?_
        exact (hk4 v0 v1 (v2 + (1 : Int32)) q6.2 hX)
      · skip
        refine am_aload_n (pc := 23) C d_Rm_startAndSettle_23 rfl rfl ?_
        refine am_getr (pc := 24) C hin_Rm rfl (by decide) wd_2_9 rfl d_Rm_startAndSettle_24 rfl hX (fun b7 hX => ?_)
        refine am_getr (pc := 27) C hin_Plan rfl (by decide) wd_1_235 rfl d_Rm_startAndSettle_27 rfl hX (fun b8 hX => ?_)
        refine am_iload_n (pc := 30) C d_Rm_startAndSettle_30 rfl rfl ?_
        refine am_aald (pc := 31) C d_Rm_startAndSettle_31 hX (fun b9 hX => ?_)
        refine am_aload_n (pc := 32) C d_Rm_startAndSettle_32 rfl rfl ?_
        refine am_get (pc := 33) C hin_Rm rfl (by decide) wd_2_12 rfl d_Rm_startAndSettle_33 rfl hX (fun x10 hX => ?_)
        refine am_callVv (pc := 36) (As := [.int x10]) (st := []) (cells1 := 0) (slots1 := 0) C (fun _ h => h.2) (fun _ h => h) (fun q h => c_Activity_start h) wd_3_173 wd_3_174 wd_3_175 wd_1_8 wd_3_176 rfl rfl hd_Activity_start ⟨by decide, by decide⟩ rfl rfl (Nat.le_of_ble_eq_true rfl) d_Rm_startAndSettle_36 ⟨by decide, by decide⟩ rfl rfl rfl hX (fun q11 hX => ?_)
        refine am_iinc (pc := 39) (y := (1 : Int32)) (lo1 := [some (.ref v0), some (.int (v1 + (1 : Int32))), some (.int v2)]) C d_Rm_startAndSettle_39 rfl (by decide) (by decide) rfl ?_
        refine am_iinc (pc := 42) (y := (1 : Int32)) (lo1 := [some (.ref v0), some (.int (v1 + (1 : Int32))), some (.int (v2 + (1 : Int32)))]) C d_Rm_startAndSettle_42 rfl (by decide) (by decide) rfl ?_
        refine am_goto (pc := 45) (tgt := 4) C d_Rm_startAndSettle_45 rfl ?_
        exact (hk4 v0 (v1 + (1 : Int32)) (v2 + (1 : Int32)) q11.2 hX)
def f_Rm_startAndSettle (a0 : Nat) (w : am_w) : Option (Int32 × am_w) := (f_Rm_startAndSettle_4  70 a0 (0 : Int32) (0 : Int32) w)
theorem hd_Rm_startAndSettle : y_Rm_startAndSettle.cls = "RoverMinutes" ∧ y_Rm_startAndSettle.cls ≠ "java/lang/invoke/MethodHandle" ∧ y_Rm_startAndSettle.cls ≠ "java/lang/invoke/VarHandle" ∧ (parseMethodDescriptor y_Rm_startAndSettle.desc).map (fun d => d.parameters.length) = some 0 := ⟨rfl, by decide, by decide, by decide +kernel⟩
set_option maxHeartbeats 4000000 in
theorem c_Rm_startAndSettle {l : Launch} {D : va_G} {A : Nat → Prop} {a0 : Nat} {w : am_w} {r : Int32 × am_w} (hX : f_Rm_startAndSettle a0 w = some r) : am_Met l D classes tys A (am_F A true) y_Rm_startAndSettle (Cond.code y_Rm_startAndSettle b_Rm_startAndSettle 3 (some .int) :: am_W) rm_Rm_startAndSettle [.ref a0] w (am_ri r) 0 0 := by
  refine am_ofV (by decide) am_W_good (Nat.le_of_ble_eq_true rfl) (by simp [Value.category]) ?_
  intro p e s m below meth c C hret hlk hnm
  unfold f_Rm_startAndSettle at hX
  refine am_iconst (pc := 0) (v := (0 : Int32)) C d_Rm_startAndSettle_0 (by decide) ?_
  refine am_istore_n (pc := 1) (lo1 := [some (.ref a0), some (.int (0 : Int32)), none]) C d_Rm_startAndSettle_1 rfl (by decide) rfl ?_
  refine am_iconst (pc := 2) (v := (0 : Int32)) C d_Rm_startAndSettle_2 (by decide) ?_
  refine am_istore_n (pc := 3) (lo1 := [some (.ref a0), some (.int (0 : Int32)), some (.int (0 : Int32))]) C d_Rm_startAndSettle_3 rfl (by decide) rfl ?_
  exact (L_Rm_startAndSettle_4 C hret hlk  70 a0 (0 : Int32) (0 : Int32) w hX)
def rm_Rm_enable : Room := { frames := 6, cells := 1, slots := 6, locals := 134 }
def f_Rm_enable (a0 : Nat) (w : am_w) : Option (Int32 × Nat × am_w) := ((am_fg 0 6 a0 w).bind fun x1 => (if x1 = 0 then ((am_rg 0 4 a0 w).bind fun b2 => ((am_fg 5 1 b2 w).bind fun x3 => (if x3 = 0 then (some (0, 2, am_th w)) else ((am_rg 0 2 a0 w).bind fun b4 => ((am_rg 0 2 a0 w).bind fun b5 => ((am_fg 3 0 b5 w).bind fun x6 => ((am_fg 0 7 a0 w).bind fun x7 => ((am_ob 3 b4 w (f_Supply_isOpen b4 x6 x7 w)).bind fun q8 => (if q8.1 = 0 then (some (0, 2, am_th q8.2)) else ((am_rg 0 4 a0 q8.2).bind fun b9 => ((am_ob 5 b9 q8.2 (f_Plan_makeReady b9 q8.2)).bind fun q10 => ((am_fp 0 6 a0 (1 : Int32) q10.2).bind fun w11 => ((am_fg 0 7 a0 w11).bind fun x12 => ((am_fp 0 8 a0 x12 w11).bind fun w13 => ((am_rg 0 4 a0 w13).bind fun b14 => ((am_ob 5 b14 w13 (f_Plan_skipHopeless b14 (0 : Int32) w13)).bind fun q15 => ((am_ob 0 a0 q15.2 (f_Rm_startAndSettle a0 q15.2)).bind fun q16 => (some (q16.1, 0, q16.2))))))))))))))))))) else (some (0, 2, am_th w))))
theorem hd_Rm_enable : y_Rm_enable.cls = "RoverMinutes" ∧ y_Rm_enable.cls ≠ "java/lang/invoke/MethodHandle" ∧ y_Rm_enable.cls ≠ "java/lang/invoke/VarHandle" ∧ (parseMethodDescriptor y_Rm_enable.desc).map (fun d => d.parameters.length) = some 0 := ⟨rfl, by decide, by decide, by decide +kernel⟩
set_option maxHeartbeats 4000000 in
theorem c_Rm_enable {l : Launch} {D : va_G} {A : Nat → Prop} (hl : l.stackTraces = false) {a0 : Nat} {w : am_w} {r : Int32 × Nat × am_w} (hX : f_Rm_enable a0 w = some r) : am_Mett l D classes tys A (am_F A true) y_Rm_enable (Cond.code y_Rm_enable b_Rm_enable 1 (some .int) :: am_W) rm_Rm_enable [.ref a0] w (am_ti r) 1 6 := by
  refine am_ofVt (F0 := am_F A false) (by decide) am_W_good (Nat.le_of_ble_eq_true rfl) (by simp [Value.category]) ?_
  intro p e s m below meth c C hret hlk hnm hex
  unfold f_Rm_enable at hX
  refine am_aload_n (pc := 0) C d_Rm_enable_0 rfl rfl ?_
  refine am_get (pc := 1) C hin_Rm rfl (by decide) wd_2_11 rfl d_Rm_enable_1 rfl hX (fun x1 hX => ?_)
  refine am_if_ne (pc := 4) (tgt := 38) C d_Rm_enable_4 rfl hX (fun hX => ?_) (fun hX => ?_)
  · skip
    exact am_throw (pc := 38) (k := 2) C hl hlk hex (by decide) wd_2_188 wd_2_189 wd_1_14 oa_Rm_2 d_Rm_enable_38 d_Rm_enable_41 d_Rm_enable_42 d_Rm_enable_45 (by decide) (Nat.le_of_ble_eq_true rfl) (by decide) (by decide) true (am_ti_of hX)
  · skip
    refine am_aload_n (pc := 7) C d_Rm_enable_7 rfl rfl ?_
    refine am_getr (pc := 8) C hin_Rm rfl (by decide) wd_2_9 rfl d_Rm_enable_8 rfl hX (fun b2 hX => ?_)
    refine am_get (pc := 11) C hin_Plan rfl (by decide) wd_1_239 rfl d_Rm_enable_11 rfl hX (fun x3 hX => ?_)
    refine am_if_eq (pc := 14) (tgt := 38) C d_Rm_enable_14 rfl hX (fun hX => ?_) (fun hX => ?_)
    · skip
      exact am_throw (pc := 38) (k := 2) C hl hlk hex (by decide) wd_2_188 wd_2_189 wd_1_14 oa_Rm_2 d_Rm_enable_38 d_Rm_enable_41 d_Rm_enable_42 d_Rm_enable_45 (by decide) (Nat.le_of_ble_eq_true rfl) (by decide) (by decide) true (am_ti_of hX)
    · skip
      refine am_aload_n (pc := 17) C d_Rm_enable_17 rfl rfl ?_
      refine am_getr (pc := 18) C hin_Rm rfl (by decide) wd_2_7 rfl d_Rm_enable_18 rfl hX (fun b4 hX => ?_)
      refine am_aload_n (pc := 21) C d_Rm_enable_21 rfl rfl ?_
      refine am_getr (pc := 22) C hin_Rm rfl (by decide) wd_2_7 rfl d_Rm_enable_22 rfl hX (fun b5 hX => ?_)
      refine am_get (pc := 25) C hin_Supply rfl (by decide) wd_1_80 rfl d_Rm_enable_25 rfl hX (fun x6 hX => ?_)
      refine am_aload_n (pc := 28) C d_Rm_enable_28 rfl rfl ?_
      refine am_get (pc := 29) C hin_Rm rfl (by decide) wd_2_12 rfl d_Rm_enable_29 rfl hX (fun x7 hX => ?_)
      refine am_callVi (pc := 32) (As := [.int x6, .int x7]) (st := []) (cells1 := 0) (slots1 := 0) C (fun _ h => h.2) (fun _ h => by cases h.1) (fun q h => c_Supply_isOpen h) wd_3_127 wd_3_128 wd_3_129 wd_1_4 wd_3_130 rfl rfl hd_Supply_isOpen ⟨by decide, by decide⟩ rfl rfl (Nat.le_of_ble_eq_true rfl) d_Rm_enable_32 ⟨by decide, by decide⟩ rfl rfl rfl hX (fun q8 hX => ?_)
      refine am_if_ne (pc := 35) (tgt := 46) C d_Rm_enable_35 rfl hX (fun hX => ?_) (fun hX => ?_)
      · skip
        refine am_aload_n (pc := 46) C d_Rm_enable_46 rfl rfl ?_
        refine am_getr (pc := 47) C hin_Rm rfl (by decide) wd_2_9 rfl d_Rm_enable_47 rfl hX (fun b9 hX => ?_)
        refine am_grow (F1 := (am_F A true)) (fun _ h => ⟨rfl, h.2⟩) ?_
        refine am_callVv (pc := 50) (As := []) (st := []) (cells1 := 0) (slots1 := 0) C (fun _ h => h.2) (fun _ h => h) (fun q h => c_Plan_makeReady h) wd_3_111 wd_3_112 wd_3_113 wd_1_7 wd_3_114 rfl rfl hd_Plan_makeReady ⟨by decide, by decide⟩ rfl rfl (Nat.le_of_ble_eq_true rfl) d_Rm_enable_50 ⟨by decide, by decide⟩ rfl rfl rfl hX (fun q10 hX => ?_)
        refine am_aload_n (pc := 53) C d_Rm_enable_53 rfl rfl ?_
        refine am_iconst (pc := 54) (v := (1 : Int32)) C d_Rm_enable_54 (by decide) ?_
        refine am_put (pc := 55) C (fun _ h => ⟨rfl, h⟩) hin_Rm t_Rm t_Rm_ok n_Rm rfl (by decide) wd_2_11 rfl rfl (t_Rm_ok 6 (by decide)) rfl rfl rfl d_Rm_enable_55 hX (fun w11 hX => ?_)
        refine am_aload_n (pc := 58) C d_Rm_enable_58 rfl rfl ?_
        refine am_aload_n (pc := 59) C d_Rm_enable_59 rfl rfl ?_
        refine am_get (pc := 60) C hin_Rm rfl (by decide) wd_2_12 rfl d_Rm_enable_60 rfl hX (fun x12 hX => ?_)
        refine am_put (pc := 63) C (fun _ h => ⟨rfl, h⟩) hin_Rm t_Rm t_Rm_ok n_Rm rfl (by decide) wd_2_13 rfl rfl (t_Rm_ok 8 (by decide)) rfl rfl rfl d_Rm_enable_63 hX (fun w13 hX => ?_)
        refine am_aload_n (pc := 66) C d_Rm_enable_66 rfl rfl ?_
        refine am_getr (pc := 67) C hin_Rm rfl (by decide) wd_2_9 rfl d_Rm_enable_67 rfl hX (fun b14 hX => ?_)
        refine am_iconst (pc := 70) (v := (0 : Int32)) C d_Rm_enable_70 (by decide) ?_
        refine am_callVv (pc := 71) (As := [.int (0 : Int32)]) (st := []) (cells1 := 0) (slots1 := 0) C (fun _ h => h.2) (fun _ h => h) (fun q h => c_Plan_skipHopeless h) wd_3_132 wd_3_133 wd_3_134 wd_1_7 wd_3_135 rfl rfl hd_Plan_skipHopeless ⟨by decide, by decide⟩ rfl rfl (Nat.le_of_ble_eq_true rfl) d_Rm_enable_71 ⟨by decide, by decide⟩ rfl rfl rfl hX (fun q15 hX => ?_)
        refine am_aload_n (pc := 74) C d_Rm_enable_74 rfl rfl ?_
        refine am_callVi (pc := 75) (As := []) (st := []) (cells1 := 0) (slots1 := 0) C (fun _ h => h.2) (fun _ h => h) (fun q h => c_Rm_startAndSettle h) wd_3_156 wd_3_158 ws_Rm_startAndSettle wd_1_1 wd_3_159 rfl rfl hd_Rm_startAndSettle ⟨by decide, by decide⟩ rfl rfl (Nat.le_of_ble_eq_true rfl) d_Rm_enable_75 ⟨by decide, by decide⟩ rfl rfl rfl hX (fun q16 hX => ?_)
        exact am_irett (pc := 78) C hret hlk d_Rm_enable_78 rfl (by decide) (by decide) hX
      · skip
        exact am_throw (pc := 38) (k := 2) C hl hlk hex (by decide) wd_2_188 wd_2_189 wd_1_14 oa_Rm_2 d_Rm_enable_38 d_Rm_enable_41 d_Rm_enable_42 d_Rm_enable_45 (by decide) (Nat.le_of_ble_eq_true rfl) (by decide) (by decide) true (am_ti_of hX)
def rm_Rm_beginReturn : Room := { frames := 2, cells := 0, slots := 0, locals := 41 }
def f_Rm_beginReturn (a0 : Nat) (w : am_w) : Option (Int32 × am_w) := ((am_rg 0 4 a0 w).bind fun b1 => ((am_ob 5 b1 w (f_Plan_giveUp b1 w)).bind fun q2 => ((am_fp 0 6 a0 (2 : Int32) q2.2).bind fun w3 => ((am_rg 0 2 a0 w3).bind fun b4 => ((am_fg 3 3 b4 w3).bind fun x5 => ((am_fp 0 9 a0 x5 w3).bind fun w6 => (some (0, w6))))))))
theorem hd_Rm_beginReturn : y_Rm_beginReturn.cls = "RoverMinutes" ∧ y_Rm_beginReturn.cls ≠ "java/lang/invoke/MethodHandle" ∧ y_Rm_beginReturn.cls ≠ "java/lang/invoke/VarHandle" ∧ (parseMethodDescriptor y_Rm_beginReturn.desc).map (fun d => d.parameters.length) = some 0 := ⟨rfl, by decide, by decide, by decide +kernel⟩
set_option maxHeartbeats 4000000 in
theorem c_Rm_beginReturn {l : Launch} {D : va_G} {A : Nat → Prop} {a0 : Nat} {w : am_w} {r : Int32 × am_w} (hX : f_Rm_beginReturn a0 w = some r) : am_Met l D classes tys A (am_F A true) y_Rm_beginReturn (Cond.code y_Rm_beginReturn b_Rm_beginReturn 1 none :: am_W) rm_Rm_beginReturn [.ref a0] w (am_rv r) 0 0 := by
  refine am_ofV (by decide) am_W_good (Nat.le_of_ble_eq_true rfl) (by simp [Value.category]) ?_
  intro p e s m below meth c C hret hlk hnm
  unfold f_Rm_beginReturn at hX
  refine am_aload_n (pc := 0) C d_Rm_beginReturn_0 rfl rfl ?_
  refine am_getr (pc := 1) C hin_Rm rfl (by decide) wd_2_9 rfl d_Rm_beginReturn_1 rfl hX (fun b1 hX => ?_)
  refine am_callVv (pc := 4) (As := []) (st := []) (cells1 := 0) (slots1 := 0) C (fun _ h => h.2) (fun _ h => h) (fun q h => c_Plan_giveUp h) wd_3_193 wd_3_194 wd_3_195 wd_1_7 wd_3_196 rfl rfl hd_Plan_giveUp ⟨by decide, by decide⟩ rfl rfl (Nat.le_of_ble_eq_true rfl) d_Rm_beginReturn_4 ⟨by decide, by decide⟩ rfl rfl rfl hX (fun q2 hX => ?_)
  refine am_aload_n (pc := 7) C d_Rm_beginReturn_7 rfl rfl ?_
  refine am_iconst (pc := 8) (v := (2 : Int32)) C d_Rm_beginReturn_8 (by decide) ?_
  refine am_put (pc := 9) C (fun _ h => ⟨rfl, h⟩) hin_Rm t_Rm t_Rm_ok n_Rm rfl (by decide) wd_2_11 rfl rfl (t_Rm_ok 6 (by decide)) rfl rfl rfl d_Rm_beginReturn_9 hX (fun w3 hX => ?_)
  refine am_aload_n (pc := 12) C d_Rm_beginReturn_12 rfl rfl ?_
  refine am_aload_n (pc := 13) C d_Rm_beginReturn_13 rfl rfl ?_
  refine am_getr (pc := 14) C hin_Rm rfl (by decide) wd_2_7 rfl d_Rm_beginReturn_14 rfl hX (fun b4 hX => ?_)
  refine am_get (pc := 17) C hin_Supply rfl (by decide) wd_1_88 rfl d_Rm_beginReturn_17 rfl hX (fun x5 hX => ?_)
  refine am_put (pc := 20) C (fun _ h => ⟨rfl, h⟩) hin_Rm t_Rm t_Rm_ok n_Rm rfl (by decide) wd_2_14 rfl rfl (t_Rm_ok 9 (by decide)) rfl rfl rfl d_Rm_beginReturn_20 hX (fun w6 hX => ?_)
  exact am_vret (pc := 23) C hret hlk d_Rm_beginReturn_23 (by decide) (by decide) hX
def rm_Rm_cancel : Room := { frames := 6, cells := 1, slots := 6, locals := 90 }
def f_Rm_cancel (a0 : Nat) (w : am_w) : Option (Int32 × Nat × am_w) := ((am_fg 0 6 a0 w).bind fun x1 => (if x1 = (1 : Int32) then ((am_ob 0 a0 w (f_Rm_beginReturn a0 w)).bind fun q2 => (some (0, 0, q2.2))) else (some (0, 2, am_th w))))
theorem hd_Rm_cancel : y_Rm_cancel.cls = "RoverMinutes" ∧ y_Rm_cancel.cls ≠ "java/lang/invoke/MethodHandle" ∧ y_Rm_cancel.cls ≠ "java/lang/invoke/VarHandle" ∧ (parseMethodDescriptor y_Rm_cancel.desc).map (fun d => d.parameters.length) = some 0 := ⟨rfl, by decide, by decide, by decide +kernel⟩
set_option maxHeartbeats 4000000 in
theorem c_Rm_cancel {l : Launch} {D : va_G} {A : Nat → Prop} (hl : l.stackTraces = false) {a0 : Nat} {w : am_w} {r : Int32 × Nat × am_w} (hX : f_Rm_cancel a0 w = some r) : am_Mett l D classes tys A (am_F A true) y_Rm_cancel (Cond.code y_Rm_cancel b_Rm_cancel 1 none :: am_W) rm_Rm_cancel [.ref a0] w (am_tv r) 1 6 := by
  refine am_ofVt (F0 := am_F A false) (by decide) am_W_good (Nat.le_of_ble_eq_true rfl) (by simp [Value.category]) ?_
  intro p e s m below meth c C hret hlk hnm hex
  unfold f_Rm_cancel at hX
  refine am_aload_n (pc := 0) C d_Rm_cancel_0 rfl rfl ?_
  refine am_get (pc := 1) C hin_Rm rfl (by decide) wd_2_11 rfl d_Rm_cancel_1 rfl hX (fun x1 hX => ?_)
  refine am_iconst (pc := 4) (v := (1 : Int32)) C d_Rm_cancel_4 (by decide) ?_
  refine am_icmp_eq (pc := 5) (tgt := 16) C d_Rm_cancel_5 rfl hX (fun hX => ?_) (fun hX => ?_)
  · skip
    refine am_aload_n (pc := 16) C d_Rm_cancel_16 rfl rfl ?_
    refine am_grow (F1 := (am_F A true)) (fun _ h => ⟨rfl, h.2⟩) ?_
    refine am_callVv (pc := 17) (As := []) (st := []) (cells1 := 0) (slots1 := 0) C (fun _ h => h.2) (fun _ h => h) (fun q h => c_Rm_beginReturn h) wd_3_189 wd_3_191 ws_Rm_beginReturn wd_1_1 wd_3_192 rfl rfl hd_Rm_beginReturn ⟨by decide, by decide⟩ rfl rfl (Nat.le_of_ble_eq_true rfl) d_Rm_cancel_17 ⟨by decide, by decide⟩ rfl rfl rfl hX (fun q2 hX => ?_)
    exact am_vrett (pc := 20) C hret hlk d_Rm_cancel_20 (by decide) (by decide) hX
  · skip
    exact am_throw (pc := 8) (k := 2) C hl hlk hex (by decide) wd_2_188 wd_2_189 wd_1_14 oa_Rm_2 d_Rm_cancel_8 d_Rm_cancel_11 d_Rm_cancel_12 d_Rm_cancel_15 (by decide) (Nat.le_of_ble_eq_true rfl) (by decide) (by decide) true (am_tv_of hX)
def rm_Rm_passInPlan : Room := { frames := 6, cells := 0, slots := 0, locals := 134 }
def f_Rm_passInPlan (a0 : Nat) (w : am_w) : Option (Int32 × am_w) := ((am_rg 0 2 a0 w).bind fun b1 => ((am_fg 0 7 a0 w).bind fun x2 => ((am_rg 0 4 a0 w).bind fun b3 => ((am_ob 5 b3 w (f_Plan_runningDraw b3 w)).bind fun q4 => ((am_ob 3 b1 q4.2 (f_Supply_pass b1 x2 q4.1 q4.2)).bind fun q5 => ((am_rg 0 2 a0 q5.2).bind fun b6 => ((am_rg 0 4 a0 q5.2).bind fun b7 => ((am_ob 5 b7 q5.2 (f_Plan_runningData b7 q5.2)).bind fun q8 => ((am_ob 3 b6 q8.2 (f_Supply_keep b6 q8.1 q8.2)).bind fun q9 => ((am_rg 0 4 a0 q9.2).bind fun b10 => ((am_ob 5 b10 q9.2 (f_Plan_growOlder b10 q9.2)).bind fun q11 => ((am_rg 0 4 a0 q11.2).bind fun b12 => ((am_fg 0 7 a0 q11.2).bind fun x13 => ((am_fg 0 8 a0 q11.2).bind fun x14 => ((am_ob 5 b12 q11.2 (f_Plan_skipHopeless b12 (x13 - x14) q11.2)).bind fun q15 => ((am_rg 0 2 a0 q15.2).bind fun b16 => ((am_rg 0 2 a0 q15.2).bind fun b17 => ((am_fg 3 0 b17 q15.2).bind fun x18 => ((am_fg 0 7 a0 q15.2).bind fun x19 => ((am_ob 3 b16 q15.2 (f_Supply_isOpen b16 x18 x19 q15.2)).bind fun q20 => (if q20.1 = 0 then ((am_ob 0 a0 q20.2 (f_Rm_beginReturn a0 q20.2)).bind fun q22 => (some ((0 : Int32), q22.2))) else ((am_ob 0 a0 q20.2 (f_Rm_startAndSettle a0 q20.2)).bind fun q21 => (some (q21.1, q21.2))))))))))))))))))))))))
theorem hd_Rm_passInPlan : y_Rm_passInPlan.cls = "RoverMinutes" ∧ y_Rm_passInPlan.cls ≠ "java/lang/invoke/MethodHandle" ∧ y_Rm_passInPlan.cls ≠ "java/lang/invoke/VarHandle" ∧ (parseMethodDescriptor y_Rm_passInPlan.desc).map (fun d => d.parameters.length) = some 0 := ⟨rfl, by decide, by decide, by decide +kernel⟩
set_option maxHeartbeats 4000000 in
theorem c_Rm_passInPlan {l : Launch} {D : va_G} {A : Nat → Prop} {a0 : Nat} {w : am_w} {r : Int32 × am_w} (hX : f_Rm_passInPlan a0 w = some r) : am_Met l D classes tys A (am_F A true) y_Rm_passInPlan (Cond.code y_Rm_passInPlan b_Rm_passInPlan 1 (some .int) :: am_W) rm_Rm_passInPlan [.ref a0] w (am_ri r) 0 0 := by
  refine am_ofV (by decide) am_W_good (Nat.le_of_ble_eq_true rfl) (by simp [Value.category]) ?_
  intro p e s m below meth c C hret hlk hnm
  unfold f_Rm_passInPlan at hX
  refine am_aload_n (pc := 0) C d_Rm_passInPlan_0 rfl rfl ?_
  refine am_getr (pc := 1) C hin_Rm rfl (by decide) wd_2_7 rfl d_Rm_passInPlan_1 rfl hX (fun b1 hX => ?_)
  refine am_aload_n (pc := 4) C d_Rm_passInPlan_4 rfl rfl ?_
  refine am_get (pc := 5) C hin_Rm rfl (by decide) wd_2_12 rfl d_Rm_passInPlan_5 rfl hX (fun x2 hX => ?_)
  refine am_aload_n (pc := 8) C d_Rm_passInPlan_8 rfl rfl ?_
  refine am_getr (pc := 9) C hin_Rm rfl (by decide) wd_2_9 rfl d_Rm_passInPlan_9 rfl hX (fun b3 hX => ?_)
  refine am_callVi (pc := 12) (As := []) (st := [.int x2, .ref b1]) (cells1 := 0) (slots1 := 0) C (fun _ h => h.2) (fun _ h => by cases h.1) (fun q h => c_Plan_runningDraw h) wd_3_208 wd_3_209 wd_3_210 wd_1_7 wd_3_211 rfl rfl hd_Plan_runningDraw ⟨by decide, by decide⟩ rfl rfl (Nat.le_of_ble_eq_true rfl) d_Rm_passInPlan_12 ⟨by decide, by decide⟩ rfl rfl rfl hX (fun q4 hX => ?_)
  refine am_callVv (pc := 15) (As := [.int x2, .int q4.1]) (st := []) (cells1 := 0) (slots1 := 0) C (fun _ h => h.2) (fun _ h => h) (fun q h => c_Supply_pass h) wd_3_212 wd_3_213 wd_3_214 wd_1_4 wd_3_215 rfl rfl hd_Supply_pass ⟨by decide, by decide⟩ rfl rfl (Nat.le_of_ble_eq_true rfl) d_Rm_passInPlan_15 ⟨by decide, by decide⟩ rfl rfl rfl hX (fun q5 hX => ?_)
  refine am_aload_n (pc := 18) C d_Rm_passInPlan_18 rfl rfl ?_
  refine am_getr (pc := 19) C hin_Rm rfl (by decide) wd_2_7 rfl d_Rm_passInPlan_19 rfl hX (fun b6 hX => ?_)
  refine am_aload_n (pc := 22) C d_Rm_passInPlan_22 rfl rfl ?_
  refine am_getr (pc := 23) C hin_Rm rfl (by decide) wd_2_9 rfl d_Rm_passInPlan_23 rfl hX (fun b7 hX => ?_)
  refine am_callVi (pc := 26) (As := []) (st := [.ref b6]) (cells1 := 0) (slots1 := 0) C (fun _ h => h.2) (fun _ h => by cases h.1) (fun q h => c_Plan_runningData h) wd_3_218 wd_3_219 wd_3_220 wd_1_7 wd_3_221 rfl rfl hd_Plan_runningData ⟨by decide, by decide⟩ rfl rfl (Nat.le_of_ble_eq_true rfl) d_Rm_passInPlan_26 ⟨by decide, by decide⟩ rfl rfl rfl hX (fun q8 hX => ?_)
  refine am_callVv (pc := 29) (As := [.int q8.1]) (st := []) (cells1 := 0) (slots1 := 0) C (fun _ h => h.2) (fun _ h => h) (fun q h => c_Supply_keep h) wd_3_222 wd_3_223 wd_3_224 wd_1_4 wd_3_225 rfl rfl hd_Supply_keep ⟨by decide, by decide⟩ rfl rfl (Nat.le_of_ble_eq_true rfl) d_Rm_passInPlan_29 ⟨by decide, by decide⟩ rfl rfl rfl hX (fun q9 hX => ?_)
  refine am_aload_n (pc := 32) C d_Rm_passInPlan_32 rfl rfl ?_
  refine am_getr (pc := 33) C hin_Rm rfl (by decide) wd_2_9 rfl d_Rm_passInPlan_33 rfl hX (fun b10 hX => ?_)
  refine am_callVv (pc := 36) (As := []) (st := []) (cells1 := 0) (slots1 := 0) C (fun _ h => h.2) (fun _ h => h) (fun q h => c_Plan_growOlder h) wd_3_226 wd_3_227 wd_3_228 wd_1_7 wd_3_229 rfl rfl hd_Plan_growOlder ⟨by decide, by decide⟩ rfl rfl (Nat.le_of_ble_eq_true rfl) d_Rm_passInPlan_36 ⟨by decide, by decide⟩ rfl rfl rfl hX (fun q11 hX => ?_)
  refine am_aload_n (pc := 39) C d_Rm_passInPlan_39 rfl rfl ?_
  refine am_getr (pc := 40) C hin_Rm rfl (by decide) wd_2_9 rfl d_Rm_passInPlan_40 rfl hX (fun b12 hX => ?_)
  refine am_aload_n (pc := 43) C d_Rm_passInPlan_43 rfl rfl ?_
  refine am_get (pc := 44) C hin_Rm rfl (by decide) wd_2_12 rfl d_Rm_passInPlan_44 rfl hX (fun x13 hX => ?_)
  refine am_aload_n (pc := 47) C d_Rm_passInPlan_47 rfl rfl ?_
  refine am_get (pc := 48) C hin_Rm rfl (by decide) wd_2_13 rfl d_Rm_passInPlan_48 rfl hX (fun x14 hX => ?_)
  refine am_isub (pc := 51) C d_Rm_passInPlan_51 ?_
  refine am_callVv (pc := 52) (As := [.int (x13 - x14)]) (st := []) (cells1 := 0) (slots1 := 0) C (fun _ h => h.2) (fun _ h => h) (fun q h => c_Plan_skipHopeless h) wd_3_132 wd_3_133 wd_3_134 wd_1_7 wd_3_135 rfl rfl hd_Plan_skipHopeless ⟨by decide, by decide⟩ rfl rfl (Nat.le_of_ble_eq_true rfl) d_Rm_passInPlan_52 ⟨by decide, by decide⟩ rfl rfl rfl hX (fun q15 hX => ?_)
  refine am_aload_n (pc := 55) C d_Rm_passInPlan_55 rfl rfl ?_
  refine am_getr (pc := 56) C hin_Rm rfl (by decide) wd_2_7 rfl d_Rm_passInPlan_56 rfl hX (fun b16 hX => ?_)
  refine am_aload_n (pc := 59) C d_Rm_passInPlan_59 rfl rfl ?_
  refine am_getr (pc := 60) C hin_Rm rfl (by decide) wd_2_7 rfl d_Rm_passInPlan_60 rfl hX (fun b17 hX => ?_)
  refine am_get (pc := 63) C hin_Supply rfl (by decide) wd_1_80 rfl d_Rm_passInPlan_63 rfl hX (fun x18 hX => ?_)
  refine am_aload_n (pc := 66) C d_Rm_passInPlan_66 rfl rfl ?_
  refine am_get (pc := 67) C hin_Rm rfl (by decide) wd_2_12 rfl d_Rm_passInPlan_67 rfl hX (fun x19 hX => ?_)
  refine am_callVi (pc := 70) (As := [.int x18, .int x19]) (st := []) (cells1 := 0) (slots1 := 0) C (fun _ h => h.2) (fun _ h => by cases h.1) (fun q h => c_Supply_isOpen h) wd_3_127 wd_3_128 wd_3_129 wd_1_4 wd_3_130 rfl rfl hd_Supply_isOpen ⟨by decide, by decide⟩ rfl rfl (Nat.le_of_ble_eq_true rfl) d_Rm_passInPlan_70 ⟨by decide, by decide⟩ rfl rfl rfl hX (fun q20 hX => ?_)
  refine am_if_ne (pc := 73) (tgt := 82) C d_Rm_passInPlan_73 rfl hX (fun hX => ?_) (fun hX => ?_)
  · skip
    refine am_aload_n (pc := 82) C d_Rm_passInPlan_82 rfl rfl ?_
    refine am_callVi (pc := 83) (As := []) (st := []) (cells1 := 0) (slots1 := 0) C (fun _ h => h.2) (fun _ h => h) (fun q h => c_Rm_startAndSettle h) wd_3_156 wd_3_158 ws_Rm_startAndSettle wd_1_1 wd_3_159 rfl rfl hd_Rm_startAndSettle ⟨by decide, by decide⟩ rfl rfl (Nat.le_of_ble_eq_true rfl) d_Rm_passInPlan_83 ⟨by decide, by decide⟩ rfl rfl rfl hX (fun q21 hX => ?_)
    exact am_iret (pc := 86) C hret hlk d_Rm_passInPlan_86 rfl (by decide) (by decide) hX
  · skip
    refine am_aload_n (pc := 76) C d_Rm_passInPlan_76 rfl rfl ?_
    refine am_callVv (pc := 77) (As := []) (st := []) (cells1 := 0) (slots1 := 0) C (fun _ h => h.2) (fun _ h => h) (fun q h => c_Rm_beginReturn h) wd_3_189 wd_3_191 ws_Rm_beginReturn wd_1_1 wd_3_192 rfl rfl hd_Rm_beginReturn ⟨by decide, by decide⟩ rfl rfl (Nat.le_of_ble_eq_true rfl) d_Rm_passInPlan_77 ⟨by decide, by decide⟩ rfl rfl rfl hX (fun q22 hX => ?_)
    refine am_iconst (pc := 80) (v := (0 : Int32)) C d_Rm_passInPlan_80 (by decide) ?_
    exact am_iret (pc := 81) C hret hlk d_Rm_passInPlan_81 rfl (by decide) (by decide) hX
def rm_Rm_passInReturn : Room := { frames := 3, cells := 0, slots := 0, locals := 66 }
def f_Rm_passInReturn (a0 : Nat) (w : am_w) : Option (Int32 × am_w) := ((am_rg 0 2 a0 w).bind fun b1 => ((am_fg 0 7 a0 w).bind fun x2 => ((am_rg 0 2 a0 w).bind fun b3 => ((am_fg 3 4 b3 w).bind fun x4 => ((am_ob 3 b1 w (f_Supply_pass b1 x2 x4 w)).bind fun q5 => ((am_fg 0 9 a0 q5.2).bind fun x6 => ((am_fp 0 9 a0 (x6 - (1 : Int32)) q5.2).bind fun w7 => ((am_fg 0 9 a0 w7).bind fun x8 => (if 0 < x8 then (some (0, w7)) else ((am_fp 0 6 a0 (0 : Int32) w7).bind fun w9 => (some (0, w9))))))))))))
theorem hd_Rm_passInReturn : y_Rm_passInReturn.cls = "RoverMinutes" ∧ y_Rm_passInReturn.cls ≠ "java/lang/invoke/MethodHandle" ∧ y_Rm_passInReturn.cls ≠ "java/lang/invoke/VarHandle" ∧ (parseMethodDescriptor y_Rm_passInReturn.desc).map (fun d => d.parameters.length) = some 0 := ⟨rfl, by decide, by decide, by decide +kernel⟩
set_option maxHeartbeats 4000000 in
theorem c_Rm_passInReturn {l : Launch} {D : va_G} {A : Nat → Prop} {a0 : Nat} {w : am_w} {r : Int32 × am_w} (hX : f_Rm_passInReturn a0 w = some r) : am_Met l D classes tys A (am_F A true) y_Rm_passInReturn (Cond.code y_Rm_passInReturn b_Rm_passInReturn 1 none :: am_W) rm_Rm_passInReturn [.ref a0] w (am_rv r) 0 0 := by
  refine am_ofV (by decide) am_W_good (Nat.le_of_ble_eq_true rfl) (by simp [Value.category]) ?_
  intro p e s m below meth c C hret hlk hnm
  unfold f_Rm_passInReturn at hX
  refine am_aload_n (pc := 0) C d_Rm_passInReturn_0 rfl rfl ?_
  refine am_getr (pc := 1) C hin_Rm rfl (by decide) wd_2_7 rfl d_Rm_passInReturn_1 rfl hX (fun b1 hX => ?_)
  refine am_aload_n (pc := 4) C d_Rm_passInReturn_4 rfl rfl ?_
  refine am_get (pc := 5) C hin_Rm rfl (by decide) wd_2_12 rfl d_Rm_passInReturn_5 rfl hX (fun x2 hX => ?_)
  refine am_aload_n (pc := 8) C d_Rm_passInReturn_8 rfl rfl ?_
  refine am_getr (pc := 9) C hin_Rm rfl (by decide) wd_2_7 rfl d_Rm_passInReturn_9 rfl hX (fun b3 hX => ?_)
  refine am_get (pc := 12) C hin_Supply rfl (by decide) wd_1_90 rfl d_Rm_passInReturn_12 rfl hX (fun x4 hX => ?_)
  refine am_callVv (pc := 15) (As := [.int x2, .int x4]) (st := []) (cells1 := 0) (slots1 := 0) C (fun _ h => h.2) (fun _ h => h) (fun q h => c_Supply_pass h) wd_3_212 wd_3_213 wd_3_214 wd_1_4 wd_3_215 rfl rfl hd_Supply_pass ⟨by decide, by decide⟩ rfl rfl (Nat.le_of_ble_eq_true rfl) d_Rm_passInReturn_15 ⟨by decide, by decide⟩ rfl rfl rfl hX (fun q5 hX => ?_)
  refine am_aload_n (pc := 18) C d_Rm_passInReturn_18 rfl rfl ?_
  refine am_dup (pc := 19) C d_Rm_passInReturn_19 rfl ?_
  refine am_get (pc := 20) C hin_Rm rfl (by decide) wd_2_14 rfl d_Rm_passInReturn_20 rfl hX (fun x6 hX => ?_)
  refine am_iconst (pc := 23) (v := (1 : Int32)) C d_Rm_passInReturn_23 (by decide) ?_
  refine am_isub (pc := 24) C d_Rm_passInReturn_24 ?_
  refine am_put (pc := 25) C (fun _ h => ⟨rfl, h⟩) hin_Rm t_Rm t_Rm_ok n_Rm rfl (by decide) wd_2_14 rfl rfl (t_Rm_ok 9 (by decide)) rfl rfl rfl d_Rm_passInReturn_25 hX (fun w7 hX => ?_)
  refine am_aload_n (pc := 28) C d_Rm_passInReturn_28 rfl rfl ?_
  refine am_get (pc := 29) C hin_Rm rfl (by decide) wd_2_14 rfl d_Rm_passInReturn_29 rfl hX (fun x8 hX => ?_)
  refine am_if_gt (pc := 32) (tgt := 40) C d_Rm_passInReturn_32 rfl hX (fun hX => ?_) (fun hX => ?_)
  · skip
    exact am_vret (pc := 40) C hret hlk d_Rm_passInReturn_40 (by decide) (by decide) hX
  · skip
    refine am_aload_n (pc := 35) C d_Rm_passInReturn_35 rfl rfl ?_
    refine am_iconst (pc := 36) (v := (0 : Int32)) C d_Rm_passInReturn_36 (by decide) ?_
    refine am_put (pc := 37) C (fun _ h => ⟨rfl, h⟩) hin_Rm t_Rm t_Rm_ok n_Rm rfl (by decide) wd_2_11 rfl rfl (t_Rm_ok 6 (by decide)) rfl rfl rfl d_Rm_passInReturn_37 hX (fun w9 hX => ?_)
    exact am_vret (pc := 40) C hret hlk d_Rm_passInReturn_40 (by decide) (by decide) hX
def rm_Rm_minutes : Room := { frames := 7, cells := 1, slots := 6, locals := 154 }
def s_Rm_minutes_22 (k22 : Nat → Int32 → Int32 → Int32 → am_w → Option (Int32 × Nat × am_w)) (v0 : Nat) (v1 : Int32) (v2 : Int32) (v3 : Int32) (w : am_w) : Option (Int32 × Nat × am_w) := (if v1 ≤ v3 then (some (v2, 0, w)) else ((am_fg 0 7 v0 w).bind fun x1 => ((am_fp 0 7 v0 (x1 + (1 : Int32)) w).bind fun w2 => ((am_fg 0 6 v0 w2).bind fun x3 => (if x3 = (1 : Int32) then ((am_ob 0 v0 w2 (f_Rm_passInPlan v0 w2)).bind fun q9 => (k22 v0 v1 (v2 + q9.1) (v3 + (1 : Int32)) q9.2)) else ((am_fg 0 6 v0 w2).bind fun x4 => (if x4 = (2 : Int32) then ((am_ob 0 v0 w2 (f_Rm_passInReturn v0 w2)).bind fun q8 => (k22 v0 v1 v2 (v3 + (1 : Int32)) q8.2)) else ((am_rg 0 2 v0 w2).bind fun b5 => ((am_fg 0 7 v0 w2).bind fun x6 => ((am_ob 3 b5 w2 (f_Supply_pass b5 x6 (0 : Int32) w2)).bind fun q7 => (k22 v0 v1 v2 (v3 + (1 : Int32)) q7.2)))))))))))
def f_Rm_minutes_22  (n : Nat) : Nat → Int32 → Int32 → Int32 → am_w → Option (Int32 × Nat × am_w) := am_it (fun _ _ _ _ _ => none) (s_Rm_minutes_22 ) n
set_option maxHeartbeats 4000000 in
theorem L_Rm_minutes_22 {p : Program} {l : Launch} {e : Env} {s : State} {m : MethodId} {args : Array Value} {below : List Frame} {meth : Method} {c : Code} {D : va_G} {A : Nat → Prop} {r : Int32 × Nat × am_w} (C : am_C p m c b_Rm_minutes 4 s args am_W "RoverMinutes" D classes A) (hl : l.stackTraces = false) (hret : meth.sig.returnType = (some .int)) (hlk : meth.locks = false) (hex : c.exceptionTable.toList = [])   (n : Nat) : ∀ (v0 : Nat) (v1 : Int32) (v2 : Int32) (v3 : Int32) (w : am_w), f_Rm_minutes_22  n v0 v1 v2 v3 w = some r → am_V p l e rm_Rm_minutes s m args below meth c D classes tys A (am_F A true) 4 0 0 (am_MQt below (am_Qt D classes tys A (am_F A true) (am_ti r)) args s 1 6 (am_F A true)) 22 [some (.ref v0), some (.int v1), some (.int v2), some (.int v3)] [] w := by
  refine am_it_ind (P := fun (t : Nat → Int32 → Int32 → Int32 → am_w → Option (Int32 × Nat × am_w)) => ∀ (v0 : Nat) (v1 : Int32) (v2 : Int32) (v3 : Int32) (w : am_w), t v0 v1 v2 v3 w = some r → am_V p l e rm_Rm_minutes s m args below meth c D classes tys A (am_F A true) 4 0 0 (am_MQt below (am_Qt D classes tys A (am_F A true) (am_ti r)) args s 1 6 (am_F A true)) 22 [some (.ref v0), some (.int v1), some (.int v2), some (.int v3)] [] w) ?_ ?_ n
  · intro v0 v1 v2 v3 w hX
    exact (am_nn hX).elim
  · intro k22 hk22 v0 v1 v2 v3 w hX
    unfold s_Rm_minutes_22 at hX
    refine am_iload_n (pc := 22) C d_Rm_minutes_22 rfl rfl ?_
    refine am_iload_n (pc := 23) C d_Rm_minutes_23 rfl rfl ?_
    refine am_icmp_ge (pc := 24) (tgt := 88) C d_Rm_minutes_24 rfl hX (fun hX => ?_) (fun hX => ?_)
    · skip
      refine am_iload_n (pc := 88) C d_Rm_minutes_88 rfl rfl ?_
      exact am_irett (pc := 89) C hret hlk d_Rm_minutes_89 rfl (by decide) (by decide) hX
    · skip
      refine am_aload_n (pc := 27) C d_Rm_minutes_27 rfl rfl ?_
      refine am_dup (pc := 28) C d_Rm_minutes_28 rfl ?_
      refine am_get (pc := 29) C hin_Rm rfl (by decide) wd_2_12 rfl d_Rm_minutes_29 rfl hX (fun x1 hX => ?_)
      refine am_iconst (pc := 32) (v := (1 : Int32)) C d_Rm_minutes_32 (by decide) ?_
      refine am_iadd (pc := 33) C d_Rm_minutes_33 ?_
      refine am_put (pc := 34) C (fun _ h => ⟨rfl, h⟩) hin_Rm t_Rm t_Rm_ok n_Rm rfl (by decide) wd_2_12 rfl rfl (t_Rm_ok 7 (by decide)) rfl rfl rfl d_Rm_minutes_34 hX (fun w2 hX => ?_)
      refine am_aload_n (pc := 37) C d_Rm_minutes_37 rfl rfl ?_
      refine am_get (pc := 38) C hin_Rm rfl (by decide) wd_2_11 rfl d_Rm_minutes_38 rfl hX (fun x3 hX => ?_)
      refine am_iconst (pc := 41) (v := (1 : Int32)) C d_Rm_minutes_41 (by decide) ?_
      refine am_icmp_ne (pc := 42) (tgt := 55) C d_Rm_minutes_42 rfl hX (fun hX => ?_) (fun hX => ?_)
      · skip
        refine am_aload_n (pc := 55) C d_Rm_minutes_55 rfl rfl ?_
        refine am_get (pc := 56) C hin_Rm rfl (by decide) wd_2_11 rfl d_Rm_minutes_56 rfl hX (fun x4 hX => ?_)
        refine am_iconst (pc := 59) (v := (2 : Int32)) C d_Rm_minutes_59 (by decide) ?_
        refine am_icmp_ne (pc := 60) (tgt := 70) C d_Rm_minutes_60 rfl hX (fun hX => ?_) (fun hX => ?_)
        · skip
          refine am_aload_n (pc := 70) C d_Rm_minutes_70 rfl rfl ?_
          refine am_getr (pc := 71) C hin_Rm rfl (by decide) wd_2_7 rfl d_Rm_minutes_71 rfl hX (fun b5 hX => ?_)
          refine am_aload_n (pc := 74) C d_Rm_minutes_74 rfl rfl ?_
          refine am_get (pc := 75) C hin_Rm rfl (by decide) wd_2_12 rfl d_Rm_minutes_75 rfl hX (fun x6 hX => ?_)
          refine am_iconst (pc := 78) (v := (0 : Int32)) C d_Rm_minutes_78 (by decide) ?_
          refine am_callVv (pc := 79) (As := [.int x6, .int (0 : Int32)]) (st := []) (cells1 := 0) (slots1 := 0) C (fun _ h => h.2) (fun _ h => h) (fun q h => c_Supply_pass h) wd_3_212 wd_3_213 wd_3_214 wd_1_4 wd_3_215 rfl rfl hd_Supply_pass ⟨by decide, by decide⟩ rfl rfl (Nat.le_of_ble_eq_true rfl) d_Rm_minutes_79 ⟨by decide, by decide⟩ rfl rfl rfl hX (fun q7 hX => ?_)
          refine am_iinc (pc := 82) (y := (1 : Int32)) (lo1 := [some (.ref v0), some (.int v1), some (.int v2), some (.int (v3 + (1 : Int32)))]) C d_Rm_minutes_82 rfl (by decide) (by decide) rfl ?_
          refine am_goto (pc := 85) (tgt := 22) C d_Rm_minutes_85 rfl ?_
          exact (hk22 v0 v1 v2 (v3 + (1 : Int32)) q7.2 hX)
        · skip
          refine am_aload_n (pc := 63) C d_Rm_minutes_63 rfl rfl ?_
          refine am_callVv (pc := 64) (As := []) (st := []) (cells1 := 0) (slots1 := 0) C (fun _ h => h.2) (fun _ h => h) (fun q h => c_Rm_passInReturn h) wd_3_238 wd_4_0 ws_Rm_passInReturn wd_1_1 wd_4_1 rfl rfl hd_Rm_passInReturn ⟨by decide, by decide⟩ rfl rfl (Nat.le_of_ble_eq_true rfl) d_Rm_minutes_64 ⟨by decide, by decide⟩ rfl rfl rfl hX (fun q8 hX => ?_)
          refine am_goto (pc := 67) (tgt := 82) C d_Rm_minutes_67 rfl ?_
          refine am_iinc (pc := 82) (y := (1 : Int32)) (lo1 := [some (.ref v0), some (.int v1), some (.int v2), some (.int (v3 + (1 : Int32)))]) C d_Rm_minutes_82 rfl (by decide) (by decide) rfl ?_
          refine am_goto (pc := 85) (tgt := 22) C d_Rm_minutes_85 rfl ?_
          exact (hk22 v0 v1 v2 (v3 + (1 : Int32)) q8.2 hX)
      · skip
        refine am_iload_n (pc := 45) C d_Rm_minutes_45 rfl rfl ?_
        refine am_aload_n (pc := 46) C d_Rm_minutes_46 rfl rfl ?_
        refine am_callVi (pc := 47) (As := []) (st := [.int v2]) (cells1 := 0) (slots1 := 0) C (fun _ h => h.2) (fun _ h => h) (fun q h => c_Rm_passInPlan h) wd_3_204 wd_3_206 ws_Rm_passInPlan wd_1_1 wd_3_207 rfl rfl hd_Rm_passInPlan ⟨by decide, by decide⟩ rfl rfl (Nat.le_of_ble_eq_true rfl) d_Rm_minutes_47 ⟨by decide, by decide⟩ rfl rfl rfl hX (fun q9 hX => ?_)
        refine am_iadd (pc := 50) C d_Rm_minutes_50 ?_
        refine am_istore_n (pc := 51) (lo1 := [some (.ref v0), some (.int v1), some (.int (v2 + q9.1)), some (.int v3)]) C d_Rm_minutes_51 rfl (by decide) rfl ?_
        refine am_goto (pc := 52) (tgt := 82) C d_Rm_minutes_52 rfl ?_
        refine am_iinc (pc := 82) (y := (1 : Int32)) (lo1 := [some (.ref v0), some (.int v1), some (.int (v2 + q9.1)), some (.int (v3 + (1 : Int32)))]) C d_Rm_minutes_82 rfl (by decide) (by decide) rfl ?_
        refine am_goto (pc := 85) (tgt := 22) C d_Rm_minutes_85 rfl ?_
        exact (hk22 v0 v1 (v2 + q9.1) (v3 + (1 : Int32)) q9.2 hX)
def f_Rm_minutes (a0 : Nat) (a1 : Int32) (w : am_w) : Option (Int32 × Nat × am_w) := (if a1 < 0 then (some (0, 1, am_th w)) else (if a1 ≤ (60 : Int32) then (f_Rm_minutes_22  70 a0 a1 (0 : Int32) (0 : Int32) w) else (some (0, 1, am_th w))))
theorem hd_Rm_minutes : y_Rm_minutes.cls = "RoverMinutes" ∧ y_Rm_minutes.cls ≠ "java/lang/invoke/MethodHandle" ∧ y_Rm_minutes.cls ≠ "java/lang/invoke/VarHandle" ∧ (parseMethodDescriptor y_Rm_minutes.desc).map (fun d => d.parameters.length) = some 1 := ⟨rfl, by decide, by decide, by decide +kernel⟩
set_option maxHeartbeats 4000000 in
theorem c_Rm_minutes {l : Launch} {D : va_G} {A : Nat → Prop} (hl : l.stackTraces = false) {a0 : Nat} {a1 : Int32} {w : am_w} {r : Int32 × Nat × am_w} (hX : f_Rm_minutes a0 a1 w = some r) : am_Mett l D classes tys A (am_F A true) y_Rm_minutes (Cond.code y_Rm_minutes b_Rm_minutes 4 (some .int) :: am_W) rm_Rm_minutes [.ref a0, .int a1] w (am_ti r) 1 6 := by
  refine am_ofVt (F0 := am_F A false) (by decide) am_W_good (Nat.le_of_ble_eq_true rfl) (by simp [Value.category]) ?_
  intro p e s m below meth c C hret hlk hnm hex
  unfold f_Rm_minutes at hX
  refine am_iload_n (pc := 0) C d_Rm_minutes_0 rfl rfl ?_
  refine am_if_lt (pc := 1) (tgt := 10) C d_Rm_minutes_1 rfl hX (fun hX => ?_) (fun hX => ?_)
  · skip
    exact am_throw (pc := 10) (k := 1) C hl hlk hex (by decide) wd_2_109 wd_2_110 wd_1_13 oa_Rm_1 d_Rm_minutes_10 d_Rm_minutes_13 d_Rm_minutes_14 d_Rm_minutes_17 (by decide) (Nat.le_of_ble_eq_true rfl) (by decide) (by decide) true (am_ti_of hX)
  · skip
    refine am_iload_n (pc := 4) C d_Rm_minutes_4 rfl rfl ?_
    refine am_bipush (pc := 5) (v := (60 : Int32)) C d_Rm_minutes_5 (by decide) ?_
    refine am_icmp_le (pc := 7) (tgt := 18) C d_Rm_minutes_7 rfl hX (fun hX => ?_) (fun hX => ?_)
    · skip
      refine am_iconst (pc := 18) (v := (0 : Int32)) C d_Rm_minutes_18 (by decide) ?_
      refine am_istore_n (pc := 19) (lo1 := [some (.ref a0), some (.int a1), some (.int (0 : Int32)), none]) C d_Rm_minutes_19 rfl (by decide) rfl ?_
      refine am_iconst (pc := 20) (v := (0 : Int32)) C d_Rm_minutes_20 (by decide) ?_
      refine am_istore_n (pc := 21) (lo1 := [some (.ref a0), some (.int a1), some (.int (0 : Int32)), some (.int (0 : Int32))]) C d_Rm_minutes_21 rfl (by decide) rfl ?_
      refine am_grow (F1 := (am_F A true)) (fun _ h => ⟨rfl, h.2⟩) ?_
      exact (L_Rm_minutes_22 C hl hret hlk hex  70 a0 a1 (0 : Int32) (0 : Int32) w hX)
    · skip
      exact am_throw (pc := 10) (k := 1) C hl hlk hex (by decide) wd_2_109 wd_2_110 wd_1_13 oa_Rm_1 d_Rm_minutes_10 d_Rm_minutes_13 d_Rm_minutes_14 d_Rm_minutes_17 (by decide) (Nat.le_of_ble_eq_true rfl) (by decide) (by decide) true (am_ti_of hX)
def rm_Rm_lasts : Room := { frames := 6, cells := 1, slots := 6, locals := 90 }
def f_Rm_lasts (a0 : Nat) (a1 : Int32) (a2 : Int32) (w : am_w) : Option (Int32 × Nat × am_w) := ((am_rg 0 4 a0 w).bind fun b1 => ((am_ob 5 b1 w (f_Plan_has b1 a1 w)).bind fun q2 => (if q2.1 = 0 then (some (0, 3, am_th q2.2)) else (if a2 < (1 : Int32) then (some (0, 1, am_th q2.2)) else (if a2 ≤ (40 : Int32) then ((am_rg 0 4 a0 q2.2).bind fun b3 => ((am_rg 5 0 b3 q2.2).bind fun b4 => ((am_ag b4 a1 q2.2).bind fun b5 => ((am_fp 6 17 b5 a2 q2.2).bind fun w6 => (some (0, 0, w6)))))) else (some (0, 1, am_th q2.2)))))))
theorem hd_Rm_lasts : y_Rm_lasts.cls = "RoverMinutes" ∧ y_Rm_lasts.cls ≠ "java/lang/invoke/MethodHandle" ∧ y_Rm_lasts.cls ≠ "java/lang/invoke/VarHandle" ∧ (parseMethodDescriptor y_Rm_lasts.desc).map (fun d => d.parameters.length) = some 2 := ⟨rfl, by decide, by decide, by decide +kernel⟩
set_option maxHeartbeats 4000000 in
theorem c_Rm_lasts {l : Launch} {D : va_G} {A : Nat → Prop} (hl : l.stackTraces = false) {a0 : Nat} {a1 : Int32} {a2 : Int32} {w : am_w} {r : Int32 × Nat × am_w} (hX : f_Rm_lasts a0 a1 a2 w = some r) : am_Mett l D classes tys A (am_F A true) y_Rm_lasts (Cond.code y_Rm_lasts b_Rm_lasts 3 none :: am_W) rm_Rm_lasts [.ref a0, .int a1, .int a2] w (am_tv r) 1 6 := by
  refine am_ofVt (F0 := am_F A false) (by decide) am_W_good (Nat.le_of_ble_eq_true rfl) (by simp [Value.category]) ?_
  intro p e s m below meth c C hret hlk hnm hex
  unfold f_Rm_lasts at hX
  refine am_aload_n (pc := 0) C d_Rm_lasts_0 rfl rfl ?_
  refine am_getr (pc := 1) C hin_Rm rfl (by decide) wd_2_9 rfl d_Rm_lasts_1 rfl hX (fun b1 hX => ?_)
  refine am_iload_n (pc := 4) C d_Rm_lasts_4 rfl rfl ?_
  refine am_callVi (pc := 5) (As := [.int a1]) (st := []) (cells1 := 0) (slots1 := 0) C (fun _ h => h.2) (fun _ h => by cases h.1) (fun q h => c_Plan_has h) wd_4_10 wd_4_11 wd_4_12 wd_1_7 wd_4_13 rfl rfl hd_Plan_has ⟨by decide, by decide⟩ rfl rfl (Nat.le_of_ble_eq_true rfl) d_Rm_lasts_5 ⟨by decide, by decide⟩ rfl rfl rfl hX (fun q2 hX => ?_)
  refine am_if_ne (pc := 8) (tgt := 19) C d_Rm_lasts_8 rfl hX (fun hX => ?_) (fun hX => ?_)
  · skip
    refine am_iload_n (pc := 19) C d_Rm_lasts_19 rfl rfl ?_
    refine am_iconst (pc := 20) (v := (1 : Int32)) C d_Rm_lasts_20 (by decide) ?_
    refine am_icmp_lt (pc := 21) (tgt := 30) C d_Rm_lasts_21 rfl hX (fun hX => ?_) (fun hX => ?_)
    · skip
      exact am_throw (pc := 30) (k := 1) C hl hlk hex (by decide) wd_2_109 wd_2_110 wd_1_13 oa_Rm_1 d_Rm_lasts_30 d_Rm_lasts_33 d_Rm_lasts_34 d_Rm_lasts_37 (by decide) (Nat.le_of_ble_eq_true rfl) (by decide) (by decide) true (am_tv_of hX)
    · skip
      refine am_iload_n (pc := 24) C d_Rm_lasts_24 rfl rfl ?_
      refine am_bipush (pc := 25) (v := (40 : Int32)) C d_Rm_lasts_25 (by decide) ?_
      refine am_icmp_le (pc := 27) (tgt := 38) C d_Rm_lasts_27 rfl hX (fun hX => ?_) (fun hX => ?_)
      · skip
        refine am_aload_n (pc := 38) C d_Rm_lasts_38 rfl rfl ?_
        refine am_getr (pc := 39) C hin_Rm rfl (by decide) wd_2_9 rfl d_Rm_lasts_39 rfl hX (fun b3 hX => ?_)
        refine am_getr (pc := 42) C hin_Plan rfl (by decide) wd_1_235 rfl d_Rm_lasts_42 rfl hX (fun b4 hX => ?_)
        refine am_iload_n (pc := 45) C d_Rm_lasts_45 rfl rfl ?_
        refine am_aald (pc := 46) C d_Rm_lasts_46 hX (fun b5 hX => ?_)
        refine am_iload_n (pc := 47) C d_Rm_lasts_47 rfl rfl ?_
        refine am_grow (F1 := (am_F A true)) (fun _ h => ⟨rfl, h.2⟩) ?_
        refine am_put (pc := 48) C (fun _ h => ⟨rfl, h⟩) hin_Activity t_Activity t_Activity_ok n_Activity rfl (by decide) wd_1_190 rfl rfl (t_Activity_ok 17 (by decide)) rfl rfl rfl d_Rm_lasts_48 hX (fun w6 hX => ?_)
        exact am_vrett (pc := 51) C hret hlk d_Rm_lasts_51 (by decide) (by decide) hX
      · skip
        exact am_throw (pc := 30) (k := 1) C hl hlk hex (by decide) wd_2_109 wd_2_110 wd_1_13 oa_Rm_1 d_Rm_lasts_30 d_Rm_lasts_33 d_Rm_lasts_34 d_Rm_lasts_37 (by decide) (Nat.le_of_ble_eq_true rfl) (by decide) (by decide) true (am_tv_of hX)
  · skip
    exact am_throw (pc := 11) (k := 3) C hl hlk hex (by decide) wd_4_14 wd_4_15 wd_1_20 oa_Rm_3 d_Rm_lasts_11 d_Rm_lasts_14 d_Rm_lasts_15 d_Rm_lasts_18 (by decide) (Nat.le_of_ble_eq_true rfl) (by decide) (by decide) true (am_tv_of hX)
def rm_Rm_draws : Room := { frames := 6, cells := 1, slots := 6, locals := 90 }
def f_Rm_draws (a0 : Nat) (a1 : Int32) (a2 : Int32) (w : am_w) : Option (Int32 × Nat × am_w) := ((am_rg 0 4 a0 w).bind fun b1 => ((am_ob 5 b1 w (f_Plan_has b1 a1 w)).bind fun q2 => (if q2.1 = 0 then (some (0, 3, am_th q2.2)) else (if a2 < 0 then (some (0, 1, am_th q2.2)) else (if a2 ≤ (200 : Int32) then ((am_rg 0 4 a0 q2.2).bind fun b3 => ((am_rg 5 0 b3 q2.2).bind fun b4 => ((am_ag b4 a1 q2.2).bind fun b5 => ((am_fp 6 18 b5 a2 q2.2).bind fun w6 => (some (0, 0, w6)))))) else (some (0, 1, am_th q2.2)))))))
theorem hd_Rm_draws : y_Rm_draws.cls = "RoverMinutes" ∧ y_Rm_draws.cls ≠ "java/lang/invoke/MethodHandle" ∧ y_Rm_draws.cls ≠ "java/lang/invoke/VarHandle" ∧ (parseMethodDescriptor y_Rm_draws.desc).map (fun d => d.parameters.length) = some 2 := ⟨rfl, by decide, by decide, by decide +kernel⟩
set_option maxHeartbeats 4000000 in
theorem c_Rm_draws {l : Launch} {D : va_G} {A : Nat → Prop} (hl : l.stackTraces = false) {a0 : Nat} {a1 : Int32} {a2 : Int32} {w : am_w} {r : Int32 × Nat × am_w} (hX : f_Rm_draws a0 a1 a2 w = some r) : am_Mett l D classes tys A (am_F A true) y_Rm_draws (Cond.code y_Rm_draws b_Rm_draws 3 none :: am_W) rm_Rm_draws [.ref a0, .int a1, .int a2] w (am_tv r) 1 6 := by
  refine am_ofVt (F0 := am_F A false) (by decide) am_W_good (Nat.le_of_ble_eq_true rfl) (by simp [Value.category]) ?_
  intro p e s m below meth c C hret hlk hnm hex
  unfold f_Rm_draws at hX
  refine am_aload_n (pc := 0) C d_Rm_draws_0 rfl rfl ?_
  refine am_getr (pc := 1) C hin_Rm rfl (by decide) wd_2_9 rfl d_Rm_draws_1 rfl hX (fun b1 hX => ?_)
  refine am_iload_n (pc := 4) C d_Rm_draws_4 rfl rfl ?_
  refine am_callVi (pc := 5) (As := [.int a1]) (st := []) (cells1 := 0) (slots1 := 0) C (fun _ h => h.2) (fun _ h => by cases h.1) (fun q h => c_Plan_has h) wd_4_10 wd_4_11 wd_4_12 wd_1_7 wd_4_13 rfl rfl hd_Plan_has ⟨by decide, by decide⟩ rfl rfl (Nat.le_of_ble_eq_true rfl) d_Rm_draws_5 ⟨by decide, by decide⟩ rfl rfl rfl hX (fun q2 hX => ?_)
  refine am_if_ne (pc := 8) (tgt := 19) C d_Rm_draws_8 rfl hX (fun hX => ?_) (fun hX => ?_)
  · skip
    refine am_iload_n (pc := 19) C d_Rm_draws_19 rfl rfl ?_
    refine am_if_lt (pc := 20) (tgt := 30) C d_Rm_draws_20 rfl hX (fun hX => ?_) (fun hX => ?_)
    · skip
      exact am_throw (pc := 30) (k := 1) C hl hlk hex (by decide) wd_2_109 wd_2_110 wd_1_13 oa_Rm_1 d_Rm_draws_30 d_Rm_draws_33 d_Rm_draws_34 d_Rm_draws_37 (by decide) (Nat.le_of_ble_eq_true rfl) (by decide) (by decide) true (am_tv_of hX)
    · skip
      refine am_iload_n (pc := 23) C d_Rm_draws_23 rfl rfl ?_
      refine am_sipush (pc := 24) (v := (200 : Int32)) C d_Rm_draws_24 (by decide) ?_
      refine am_icmp_le (pc := 27) (tgt := 38) C d_Rm_draws_27 rfl hX (fun hX => ?_) (fun hX => ?_)
      · skip
        refine am_aload_n (pc := 38) C d_Rm_draws_38 rfl rfl ?_
        refine am_getr (pc := 39) C hin_Rm rfl (by decide) wd_2_9 rfl d_Rm_draws_39 rfl hX (fun b3 hX => ?_)
        refine am_getr (pc := 42) C hin_Plan rfl (by decide) wd_1_235 rfl d_Rm_draws_42 rfl hX (fun b4 hX => ?_)
        refine am_iload_n (pc := 45) C d_Rm_draws_45 rfl rfl ?_
        refine am_aald (pc := 46) C d_Rm_draws_46 hX (fun b5 hX => ?_)
        refine am_iload_n (pc := 47) C d_Rm_draws_47 rfl rfl ?_
        refine am_grow (F1 := (am_F A true)) (fun _ h => ⟨rfl, h.2⟩) ?_
        refine am_put (pc := 48) C (fun _ h => ⟨rfl, h⟩) hin_Activity t_Activity t_Activity_ok n_Activity rfl (by decide) wd_1_192 rfl rfl (t_Activity_ok 18 (by decide)) rfl rfl rfl d_Rm_draws_48 hX (fun w6 hX => ?_)
        exact am_vrett (pc := 51) C hret hlk d_Rm_draws_51 (by decide) (by decide) hX
      · skip
        exact am_throw (pc := 30) (k := 1) C hl hlk hex (by decide) wd_2_109 wd_2_110 wd_1_13 oa_Rm_1 d_Rm_draws_30 d_Rm_draws_33 d_Rm_draws_34 d_Rm_draws_37 (by decide) (Nat.le_of_ble_eq_true rfl) (by decide) (by decide) true (am_tv_of hX)
  · skip
    exact am_throw (pc := 11) (k := 3) C hl hlk hex (by decide) wd_4_14 wd_4_15 wd_1_20 oa_Rm_3 d_Rm_draws_11 d_Rm_draws_14 d_Rm_draws_15 d_Rm_draws_18 (by decide) (Nat.le_of_ble_eq_true rfl) (by decide) (by decide) true (am_tv_of hX)
def rm_Rm_curve : Room := { frames := 6, cells := 1, slots := 6, locals := 90 }
def f_Rm_curve (a0 : Nat) (a1 : Int32) (a2 : Int32) (w : am_w) : Option (Int32 × Nat × am_w) := (if a1 < 0 then (some (0, 3, am_th w)) else (if a1 < (24 : Int32) then (if a2 < 0 then (some (0, 1, am_th w)) else (if a2 ≤ (50 : Int32) then ((am_rg 0 2 a0 w).bind fun b1 => ((am_ob 3 b1 w (f_Supply_setLowerGain b1 a1 a2 w)).bind fun q2 => (some (0, 0, q2.2)))) else (some (0, 1, am_th w)))) else (some (0, 3, am_th w))))
theorem hd_Rm_curve : y_Rm_curve.cls = "RoverMinutes" ∧ y_Rm_curve.cls ≠ "java/lang/invoke/MethodHandle" ∧ y_Rm_curve.cls ≠ "java/lang/invoke/VarHandle" ∧ (parseMethodDescriptor y_Rm_curve.desc).map (fun d => d.parameters.length) = some 2 := ⟨rfl, by decide, by decide, by decide +kernel⟩
set_option maxHeartbeats 4000000 in
theorem c_Rm_curve {l : Launch} {D : va_G} {A : Nat → Prop} (hl : l.stackTraces = false) {a0 : Nat} {a1 : Int32} {a2 : Int32} {w : am_w} {r : Int32 × Nat × am_w} (hX : f_Rm_curve a0 a1 a2 w = some r) : am_Mett l D classes tys A (am_F A true) y_Rm_curve (Cond.code y_Rm_curve b_Rm_curve 3 none :: am_W) rm_Rm_curve [.ref a0, .int a1, .int a2] w (am_tv r) 1 6 := by
  refine am_ofVt (F0 := am_F A false) (by decide) am_W_good (Nat.le_of_ble_eq_true rfl) (by simp [Value.category]) ?_
  intro p e s m below meth c C hret hlk hnm hex
  unfold f_Rm_curve at hX
  refine am_iload_n (pc := 0) C d_Rm_curve_0 rfl rfl ?_
  refine am_if_lt (pc := 1) (tgt := 10) C d_Rm_curve_1 rfl hX (fun hX => ?_) (fun hX => ?_)
  · skip
    exact am_throw (pc := 10) (k := 3) C hl hlk hex (by decide) wd_4_14 wd_4_15 wd_1_20 oa_Rm_3 d_Rm_curve_10 d_Rm_curve_13 d_Rm_curve_14 d_Rm_curve_17 (by decide) (Nat.le_of_ble_eq_true rfl) (by decide) (by decide) true (am_tv_of hX)
  · skip
    refine am_iload_n (pc := 4) C d_Rm_curve_4 rfl rfl ?_
    refine am_bipush (pc := 5) (v := (24 : Int32)) C d_Rm_curve_5 (by decide) ?_
    refine am_icmp_lt (pc := 7) (tgt := 18) C d_Rm_curve_7 rfl hX (fun hX => ?_) (fun hX => ?_)
    · skip
      refine am_iload_n (pc := 18) C d_Rm_curve_18 rfl rfl ?_
      refine am_if_lt (pc := 19) (tgt := 28) C d_Rm_curve_19 rfl hX (fun hX => ?_) (fun hX => ?_)
      · skip
        exact am_throw (pc := 28) (k := 1) C hl hlk hex (by decide) wd_2_109 wd_2_110 wd_1_13 oa_Rm_1 d_Rm_curve_28 d_Rm_curve_31 d_Rm_curve_32 d_Rm_curve_35 (by decide) (Nat.le_of_ble_eq_true rfl) (by decide) (by decide) true (am_tv_of hX)
      · skip
        refine am_iload_n (pc := 22) C d_Rm_curve_22 rfl rfl ?_
        refine am_bipush (pc := 23) (v := (50 : Int32)) C d_Rm_curve_23 (by decide) ?_
        refine am_icmp_le (pc := 25) (tgt := 36) C d_Rm_curve_25 rfl hX (fun hX => ?_) (fun hX => ?_)
        · skip
          refine am_aload_n (pc := 36) C d_Rm_curve_36 rfl rfl ?_
          refine am_getr (pc := 37) C hin_Rm rfl (by decide) wd_2_7 rfl d_Rm_curve_37 rfl hX (fun b1 hX => ?_)
          refine am_iload_n (pc := 40) C d_Rm_curve_40 rfl rfl ?_
          refine am_iload_n (pc := 41) C d_Rm_curve_41 rfl rfl ?_
          refine am_grow (F1 := (am_F A true)) (fun _ h => ⟨rfl, h.2⟩) ?_
          refine am_callVv (pc := 42) (As := [.int a1, .int a2]) (st := []) (cells1 := 0) (slots1 := 0) C (fun _ h => h.2) (fun _ h => h) (fun q h => c_Supply_setLowerGain h) wd_4_43 wd_4_44 wd_4_45 wd_1_4 wd_4_46 rfl rfl hd_Supply_setLowerGain ⟨by decide, by decide⟩ rfl rfl (Nat.le_of_ble_eq_true rfl) d_Rm_curve_42 ⟨by decide, by decide⟩ rfl rfl rfl hX (fun q2 hX => ?_)
          exact am_vrett (pc := 45) C hret hlk d_Rm_curve_45 (by decide) (by decide) hX
        · skip
          exact am_throw (pc := 28) (k := 1) C hl hlk hex (by decide) wd_2_109 wd_2_110 wd_1_13 oa_Rm_1 d_Rm_curve_28 d_Rm_curve_31 d_Rm_curve_32 d_Rm_curve_35 (by decide) (Nat.le_of_ble_eq_true rfl) (by decide) (by decide) true (am_tv_of hX)
    · skip
      exact am_throw (pc := 10) (k := 3) C hl hlk hex (by decide) wd_4_14 wd_4_15 wd_1_20 oa_Rm_3 d_Rm_curve_10 d_Rm_curve_13 d_Rm_curve_14 d_Rm_curve_17 (by decide) (Nat.le_of_ble_eq_true rfl) (by decide) (by decide) true (am_tv_of hX)
def rm_Rm_gain : Room := { frames := 6, cells := 1, slots := 6, locals := 90 }
def f_Rm_gain (a0 : Nat) (a1 : Int32) (w : am_w) : Option (Int32 × Nat × am_w) := (if a1 < (-1 : Int32) then (some (0, 1, am_th w)) else (if a1 ≤ (100 : Int32) then ((am_rg 0 2 a0 w).bind fun b1 => ((am_fp 3 2 b1 a1 w).bind fun w2 => (some (0, 0, w2)))) else (some (0, 1, am_th w))))
theorem hd_Rm_gain : y_Rm_gain.cls = "RoverMinutes" ∧ y_Rm_gain.cls ≠ "java/lang/invoke/MethodHandle" ∧ y_Rm_gain.cls ≠ "java/lang/invoke/VarHandle" ∧ (parseMethodDescriptor y_Rm_gain.desc).map (fun d => d.parameters.length) = some 1 := ⟨rfl, by decide, by decide, by decide +kernel⟩
set_option maxHeartbeats 4000000 in
theorem c_Rm_gain {l : Launch} {D : va_G} {A : Nat → Prop} (hl : l.stackTraces = false) {a0 : Nat} {a1 : Int32} {w : am_w} {r : Int32 × Nat × am_w} (hX : f_Rm_gain a0 a1 w = some r) : am_Mett l D classes tys A (am_F A true) y_Rm_gain (Cond.code y_Rm_gain b_Rm_gain 2 none :: am_W) rm_Rm_gain [.ref a0, .int a1] w (am_tv r) 1 6 := by
  refine am_ofVt (F0 := am_F A false) (by decide) am_W_good (Nat.le_of_ble_eq_true rfl) (by simp [Value.category]) ?_
  intro p e s m below meth c C hret hlk hnm hex
  unfold f_Rm_gain at hX
  refine am_iload_n (pc := 0) C d_Rm_gain_0 rfl rfl ?_
  refine am_iconst (pc := 1) (v := (-1 : Int32)) C d_Rm_gain_1 (by decide) ?_
  refine am_icmp_lt (pc := 2) (tgt := 11) C d_Rm_gain_2 rfl hX (fun hX => ?_) (fun hX => ?_)
  · skip
    exact am_throw (pc := 11) (k := 1) C hl hlk hex (by decide) wd_2_109 wd_2_110 wd_1_13 oa_Rm_1 d_Rm_gain_11 d_Rm_gain_14 d_Rm_gain_15 d_Rm_gain_18 (by decide) (Nat.le_of_ble_eq_true rfl) (by decide) (by decide) true (am_tv_of hX)
  · skip
    refine am_iload_n (pc := 5) C d_Rm_gain_5 rfl rfl ?_
    refine am_bipush (pc := 6) (v := (100 : Int32)) C d_Rm_gain_6 (by decide) ?_
    refine am_icmp_le (pc := 8) (tgt := 19) C d_Rm_gain_8 rfl hX (fun hX => ?_) (fun hX => ?_)
    · skip
      refine am_aload_n (pc := 19) C d_Rm_gain_19 rfl rfl ?_
      refine am_getr (pc := 20) C hin_Rm rfl (by decide) wd_2_7 rfl d_Rm_gain_20 rfl hX (fun b1 hX => ?_)
      refine am_iload_n (pc := 23) C d_Rm_gain_23 rfl rfl ?_
      refine am_grow (F1 := (am_F A true)) (fun _ h => ⟨rfl, h.2⟩) ?_
      refine am_put (pc := 24) C (fun _ h => ⟨rfl, h⟩) hin_Supply t_Supply t_Supply_ok n_Supply rfl (by decide) wd_1_86 rfl rfl (t_Supply_ok 2 (by decide)) rfl rfl rfl d_Rm_gain_24 hX (fun w2 hX => ?_)
      exact am_vrett (pc := 27) C hret hlk d_Rm_gain_27 (by decide) (by decide) hX
    · skip
      exact am_throw (pc := 11) (k := 1) C hl hlk hex (by decide) wd_2_109 wd_2_110 wd_1_13 oa_Rm_1 d_Rm_gain_11 d_Rm_gain_14 d_Rm_gain_15 d_Rm_gain_18 (by decide) (Nat.le_of_ble_eq_true rfl) (by decide) (by decide) true (am_tv_of hX)
def rm_Rm_home : Room := { frames := 6, cells := 1, slots := 6, locals := 90 }
def f_Rm_home (a0 : Nat) (a1 : Int32) (a2 : Int32) (w : am_w) : Option (Int32 × Nat × am_w) := (if a1 < (1 : Int32) then (some (0, 1, am_th w)) else (if (20 : Int32) < a1 then (some (0, 1, am_th w)) else (if a2 < 0 then (some (0, 1, am_th w)) else (if a2 ≤ (99 : Int32) then ((am_fg 0 6 a0 w).bind fun x1 => (if x1 = 0 then ((am_rg 0 2 a0 w).bind fun b2 => ((am_ob 3 b2 w (f_Supply_setWayHome b2 a1 a2 w)).bind fun q3 => (some (0, 0, q3.2)))) else (some (0, 2, am_th w)))) else (some (0, 1, am_th w))))))
theorem hd_Rm_home : y_Rm_home.cls = "RoverMinutes" ∧ y_Rm_home.cls ≠ "java/lang/invoke/MethodHandle" ∧ y_Rm_home.cls ≠ "java/lang/invoke/VarHandle" ∧ (parseMethodDescriptor y_Rm_home.desc).map (fun d => d.parameters.length) = some 2 := ⟨rfl, by decide, by decide, by decide +kernel⟩
set_option maxHeartbeats 4000000 in
theorem c_Rm_home {l : Launch} {D : va_G} {A : Nat → Prop} (hl : l.stackTraces = false) {a0 : Nat} {a1 : Int32} {a2 : Int32} {w : am_w} {r : Int32 × Nat × am_w} (hX : f_Rm_home a0 a1 a2 w = some r) : am_Mett l D classes tys A (am_F A true) y_Rm_home (Cond.code y_Rm_home b_Rm_home 3 none :: am_W) rm_Rm_home [.ref a0, .int a1, .int a2] w (am_tv r) 1 6 := by
  refine am_ofVt (F0 := am_F A false) (by decide) am_W_good (Nat.le_of_ble_eq_true rfl) (by simp [Value.category]) ?_
  intro p e s m below meth c C hret hlk hnm hex
  unfold f_Rm_home at hX
  refine am_iload_n (pc := 0) C d_Rm_home_0 rfl rfl ?_
  refine am_iconst (pc := 1) (v := (1 : Int32)) C d_Rm_home_1 (by decide) ?_
  refine am_icmp_lt (pc := 2) (tgt := 21) C d_Rm_home_2 rfl hX (fun hX => ?_) (fun hX => ?_)
  · skip
    exact am_throw (pc := 21) (k := 1) C hl hlk hex (by decide) wd_2_109 wd_2_110 wd_1_13 oa_Rm_1 d_Rm_home_21 d_Rm_home_24 d_Rm_home_25 d_Rm_home_28 (by decide) (Nat.le_of_ble_eq_true rfl) (by decide) (by decide) true (am_tv_of hX)
  · skip
    refine am_iload_n (pc := 5) C d_Rm_home_5 rfl rfl ?_
    refine am_bipush (pc := 6) (v := (20 : Int32)) C d_Rm_home_6 (by decide) ?_
    refine am_icmp_gt (pc := 8) (tgt := 21) C d_Rm_home_8 rfl hX (fun hX => ?_) (fun hX => ?_)
    · skip
      exact am_throw (pc := 21) (k := 1) C hl hlk hex (by decide) wd_2_109 wd_2_110 wd_1_13 oa_Rm_1 d_Rm_home_21 d_Rm_home_24 d_Rm_home_25 d_Rm_home_28 (by decide) (Nat.le_of_ble_eq_true rfl) (by decide) (by decide) true (am_tv_of hX)
    · skip
      refine am_iload_n (pc := 11) C d_Rm_home_11 rfl rfl ?_
      refine am_if_lt (pc := 12) (tgt := 21) C d_Rm_home_12 rfl hX (fun hX => ?_) (fun hX => ?_)
      · skip
        exact am_throw (pc := 21) (k := 1) C hl hlk hex (by decide) wd_2_109 wd_2_110 wd_1_13 oa_Rm_1 d_Rm_home_21 d_Rm_home_24 d_Rm_home_25 d_Rm_home_28 (by decide) (Nat.le_of_ble_eq_true rfl) (by decide) (by decide) true (am_tv_of hX)
      · skip
        refine am_iload_n (pc := 15) C d_Rm_home_15 rfl rfl ?_
        refine am_bipush (pc := 16) (v := (99 : Int32)) C d_Rm_home_16 (by decide) ?_
        refine am_icmp_le (pc := 18) (tgt := 29) C d_Rm_home_18 rfl hX (fun hX => ?_) (fun hX => ?_)
        · skip
          refine am_aload_n (pc := 29) C d_Rm_home_29 rfl rfl ?_
          refine am_get (pc := 30) C hin_Rm rfl (by decide) wd_2_11 rfl d_Rm_home_30 rfl hX (fun x1 hX => ?_)
          refine am_if_eq (pc := 33) (tgt := 44) C d_Rm_home_33 rfl hX (fun hX => ?_) (fun hX => ?_)
          · skip
            refine am_aload_n (pc := 44) C d_Rm_home_44 rfl rfl ?_
            refine am_getr (pc := 45) C hin_Rm rfl (by decide) wd_2_7 rfl d_Rm_home_45 rfl hX (fun b2 hX => ?_)
            refine am_iload_n (pc := 48) C d_Rm_home_48 rfl rfl ?_
            refine am_iload_n (pc := 49) C d_Rm_home_49 rfl rfl ?_
            refine am_grow (F1 := (am_F A true)) (fun _ h => ⟨rfl, h.2⟩) ?_
            refine am_callVv (pc := 50) (As := [.int a1, .int a2]) (st := []) (cells1 := 0) (slots1 := 0) C (fun _ h => h.2) (fun _ h => h) (fun q h => c_Supply_setWayHome h) wd_4_61 wd_1_65 wd_1_66 wd_1_4 wd_1_67 rfl rfl hd_Supply_setWayHome ⟨by decide, by decide⟩ rfl rfl (Nat.le_of_ble_eq_true rfl) d_Rm_home_50 ⟨by decide, by decide⟩ rfl rfl rfl hX (fun q3 hX => ?_)
            exact am_vrett (pc := 53) C hret hlk d_Rm_home_53 (by decide) (by decide) hX
          · skip
            exact am_throw (pc := 36) (k := 2) C hl hlk hex (by decide) wd_2_188 wd_2_189 wd_1_14 oa_Rm_2 d_Rm_home_36 d_Rm_home_39 d_Rm_home_40 d_Rm_home_43 (by decide) (Nat.le_of_ble_eq_true rfl) (by decide) (by decide) true (am_tv_of hX)
        · skip
          exact am_throw (pc := 21) (k := 1) C hl hlk hex (by decide) wd_2_109 wd_2_110 wd_1_13 oa_Rm_1 d_Rm_home_21 d_Rm_home_24 d_Rm_home_25 d_Rm_home_28 (by decide) (Nat.le_of_ble_eq_true rfl) (by decide) (by decide) true (am_tv_of hX)
def rm_Rm_fill : Room := { frames := 6, cells := 1, slots := 6, locals := 90 }
def f_Rm_fill (a0 : Nat) (a1 : Int32) (a2 : Int32) (w : am_w) : Option (Int32 × Nat × am_w) := (if a1 < 0 then (some (0, 1, am_th w)) else (if (1000 : Int32) < a1 then (some (0, 1, am_th w)) else (if a2 < 0 then (some (0, 1, am_th w)) else (if a2 ≤ (500 : Int32) then ((am_fg 0 6 a0 w).bind fun x1 => (if x1 = 0 then ((am_rg 0 2 a0 w).bind fun b2 => ((am_fp 3 0 b2 a1 w).bind fun w3 => ((am_rg 0 2 a0 w3).bind fun b4 => ((am_fp 3 1 b4 a2 w3).bind fun w5 => (some (0, 0, w5)))))) else (some (0, 2, am_th w)))) else (some (0, 1, am_th w))))))
theorem hd_Rm_fill : y_Rm_fill.cls = "RoverMinutes" ∧ y_Rm_fill.cls ≠ "java/lang/invoke/MethodHandle" ∧ y_Rm_fill.cls ≠ "java/lang/invoke/VarHandle" ∧ (parseMethodDescriptor y_Rm_fill.desc).map (fun d => d.parameters.length) = some 2 := ⟨rfl, by decide, by decide, by decide +kernel⟩
set_option maxHeartbeats 4000000 in
theorem c_Rm_fill {l : Launch} {D : va_G} {A : Nat → Prop} (hl : l.stackTraces = false) {a0 : Nat} {a1 : Int32} {a2 : Int32} {w : am_w} {r : Int32 × Nat × am_w} (hX : f_Rm_fill a0 a1 a2 w = some r) : am_Mett l D classes tys A (am_F A true) y_Rm_fill (Cond.code y_Rm_fill b_Rm_fill 3 none :: am_W) rm_Rm_fill [.ref a0, .int a1, .int a2] w (am_tv r) 1 6 := by
  refine am_ofVt (F0 := am_F A false) (by decide) am_W_good (Nat.le_of_ble_eq_true rfl) (by simp [Value.category]) ?_
  intro p e s m below meth c C hret hlk hnm hex
  unfold f_Rm_fill at hX
  refine am_iload_n (pc := 0) C d_Rm_fill_0 rfl rfl ?_
  refine am_if_lt (pc := 1) (tgt := 22) C d_Rm_fill_1 rfl hX (fun hX => ?_) (fun hX => ?_)
  · skip
    exact am_throw (pc := 22) (k := 1) C hl hlk hex (by decide) wd_2_109 wd_2_110 wd_1_13 oa_Rm_1 d_Rm_fill_22 d_Rm_fill_25 d_Rm_fill_26 d_Rm_fill_29 (by decide) (Nat.le_of_ble_eq_true rfl) (by decide) (by decide) true (am_tv_of hX)
  · skip
    refine am_iload_n (pc := 4) C d_Rm_fill_4 rfl rfl ?_
    refine am_sipush (pc := 5) (v := (1000 : Int32)) C d_Rm_fill_5 (by decide) ?_
    refine am_icmp_gt (pc := 8) (tgt := 22) C d_Rm_fill_8 rfl hX (fun hX => ?_) (fun hX => ?_)
    · skip
      exact am_throw (pc := 22) (k := 1) C hl hlk hex (by decide) wd_2_109 wd_2_110 wd_1_13 oa_Rm_1 d_Rm_fill_22 d_Rm_fill_25 d_Rm_fill_26 d_Rm_fill_29 (by decide) (Nat.le_of_ble_eq_true rfl) (by decide) (by decide) true (am_tv_of hX)
    · skip
      refine am_iload_n (pc := 11) C d_Rm_fill_11 rfl rfl ?_
      refine am_if_lt (pc := 12) (tgt := 22) C d_Rm_fill_12 rfl hX (fun hX => ?_) (fun hX => ?_)
      · skip
        exact am_throw (pc := 22) (k := 1) C hl hlk hex (by decide) wd_2_109 wd_2_110 wd_1_13 oa_Rm_1 d_Rm_fill_22 d_Rm_fill_25 d_Rm_fill_26 d_Rm_fill_29 (by decide) (Nat.le_of_ble_eq_true rfl) (by decide) (by decide) true (am_tv_of hX)
      · skip
        refine am_iload_n (pc := 15) C d_Rm_fill_15 rfl rfl ?_
        refine am_sipush (pc := 16) (v := (500 : Int32)) C d_Rm_fill_16 (by decide) ?_
        refine am_icmp_le (pc := 19) (tgt := 30) C d_Rm_fill_19 rfl hX (fun hX => ?_) (fun hX => ?_)
        · skip
          refine am_aload_n (pc := 30) C d_Rm_fill_30 rfl rfl ?_
          refine am_get (pc := 31) C hin_Rm rfl (by decide) wd_2_11 rfl d_Rm_fill_31 rfl hX (fun x1 hX => ?_)
          refine am_if_eq (pc := 34) (tgt := 45) C d_Rm_fill_34 rfl hX (fun hX => ?_) (fun hX => ?_)
          · skip
            refine am_aload_n (pc := 45) C d_Rm_fill_45 rfl rfl ?_
            refine am_getr (pc := 46) C hin_Rm rfl (by decide) wd_2_7 rfl d_Rm_fill_46 rfl hX (fun b2 hX => ?_)
            refine am_iload_n (pc := 49) C d_Rm_fill_49 rfl rfl ?_
            refine am_grow (F1 := (am_F A true)) (fun _ h => ⟨rfl, h.2⟩) ?_
            refine am_put (pc := 50) C (fun _ h => ⟨rfl, h⟩) hin_Supply t_Supply t_Supply_ok n_Supply rfl (by decide) wd_1_80 rfl rfl (t_Supply_ok 0 (by decide)) rfl rfl rfl d_Rm_fill_50 hX (fun w3 hX => ?_)
            refine am_aload_n (pc := 53) C d_Rm_fill_53 rfl rfl ?_
            refine am_getr (pc := 54) C hin_Rm rfl (by decide) wd_2_7 rfl d_Rm_fill_54 rfl hX (fun b4 hX => ?_)
            refine am_iload_n (pc := 57) C d_Rm_fill_57 rfl rfl ?_
            refine am_put (pc := 58) C (fun _ h => ⟨rfl, h⟩) hin_Supply t_Supply t_Supply_ok n_Supply rfl (by decide) wd_1_84 rfl rfl (t_Supply_ok 1 (by decide)) rfl rfl rfl d_Rm_fill_58 hX (fun w5 hX => ?_)
            exact am_vrett (pc := 61) C hret hlk d_Rm_fill_61 (by decide) (by decide) hX
          · skip
            exact am_throw (pc := 37) (k := 2) C hl hlk hex (by decide) wd_2_188 wd_2_189 wd_1_14 oa_Rm_2 d_Rm_fill_37 d_Rm_fill_40 d_Rm_fill_41 d_Rm_fill_44 (by decide) (Nat.le_of_ble_eq_true rfl) (by decide) (by decide) true (am_tv_of hX)
        · skip
          exact am_throw (pc := 22) (k := 1) C hl hlk hex (by decide) wd_2_109 wd_2_110 wd_1_13 oa_Rm_1 d_Rm_fill_22 d_Rm_fill_25 d_Rm_fill_26 d_Rm_fill_29 (by decide) (Nat.le_of_ble_eq_true rfl) (by decide) (by decide) true (am_tv_of hX)
def rm_Rm_now : Room := { frames := 0, cells := 0, slots := 0, locals := 0 }
def f_Rm_now (a0 : Nat) (w : am_w) : Option (Int32 × am_w) := ((am_fg 0 7 a0 w).bind fun x1 => (some (x1, w)))
theorem hd_Rm_now : y_Rm_now.cls = "RoverMinutes" ∧ y_Rm_now.cls ≠ "java/lang/invoke/MethodHandle" ∧ y_Rm_now.cls ≠ "java/lang/invoke/VarHandle" ∧ (parseMethodDescriptor y_Rm_now.desc).map (fun d => d.parameters.length) = some 0 := ⟨rfl, by decide, by decide, by decide +kernel⟩
set_option maxHeartbeats 4000000 in
theorem c_Rm_now {l : Launch} {D : va_G} {A : Nat → Prop} {a0 : Nat} {w : am_w} {r : Int32 × am_w} (hX : f_Rm_now a0 w = some r) : am_Met l D classes tys A (am_F A false) y_Rm_now (Cond.code y_Rm_now b_Rm_now 1 (some .int) :: am_W) rm_Rm_now [.ref a0] w (am_ri r) 0 0 := by
  refine am_ofV (by decide) am_W_good (Nat.le_of_ble_eq_true rfl) (by simp [Value.category]) ?_
  intro p e s m below meth c C hret hlk hnm
  unfold f_Rm_now at hX
  refine am_aload_n (pc := 0) C d_Rm_now_0 rfl rfl ?_
  refine am_get (pc := 1) C hin_Rm rfl (by decide) wd_2_12 rfl d_Rm_now_1 rfl hX (fun x1 hX => ?_)
  exact am_iret (pc := 4) C hret hlk d_Rm_now_4 rfl (by decide) (by decide) hX
def rm_Rm_mode : Room := { frames := 0, cells := 0, slots := 0, locals := 0 }
def f_Rm_mode (a0 : Nat) (w : am_w) : Option (Int32 × am_w) := ((am_fg 0 6 a0 w).bind fun x1 => (some (x1, w)))
theorem hd_Rm_mode : y_Rm_mode.cls = "RoverMinutes" ∧ y_Rm_mode.cls ≠ "java/lang/invoke/MethodHandle" ∧ y_Rm_mode.cls ≠ "java/lang/invoke/VarHandle" ∧ (parseMethodDescriptor y_Rm_mode.desc).map (fun d => d.parameters.length) = some 0 := ⟨rfl, by decide, by decide, by decide +kernel⟩
set_option maxHeartbeats 4000000 in
theorem c_Rm_mode {l : Launch} {D : va_G} {A : Nat → Prop} {a0 : Nat} {w : am_w} {r : Int32 × am_w} (hX : f_Rm_mode a0 w = some r) : am_Met l D classes tys A (am_F A false) y_Rm_mode (Cond.code y_Rm_mode b_Rm_mode 1 (some .int) :: am_W) rm_Rm_mode [.ref a0] w (am_ri r) 0 0 := by
  refine am_ofV (by decide) am_W_good (Nat.le_of_ble_eq_true rfl) (by simp [Value.category]) ?_
  intro p e s m below meth c C hret hlk hnm
  unfold f_Rm_mode at hX
  refine am_aload_n (pc := 0) C d_Rm_mode_0 rfl rfl ?_
  refine am_get (pc := 1) C hin_Rm rfl (by decide) wd_2_11 rfl d_Rm_mode_1 rfl hX (fun x1 hX => ?_)
  exact am_iret (pc := 4) C hret hlk d_Rm_mode_4 rfl (by decide) (by decide) hX
def rm_Rm_level : Room := { frames := 6, cells := 1, slots := 6, locals := 90 }
def f_Rm_level (a0 : Nat) (a1 : Int32) (w : am_w) : Option (Int32 × Nat × am_w) := (if a1 = (0 : Int32) then ((am_rg 0 2 a0 w).bind fun b1 => ((am_fg 3 0 b1 w).bind fun x2 => (some (x2, 0, w)))) else (if a1 = (1 : Int32) then ((am_rg 0 2 a0 w).bind fun b3 => ((am_fg 3 1 b3 w).bind fun x4 => (some (x4, 0, w)))) else (if a1 = (2 : Int32) then ((am_rg 0 4 a0 w).bind fun b5 => ((am_ob 5 b5 w (f_Plan_runningHeat b5 w)).bind fun q6 => (some (q6.1, 0, q6.2)))) else (some (0, 3, am_th w)))))
theorem hd_Rm_level : y_Rm_level.cls = "RoverMinutes" ∧ y_Rm_level.cls ≠ "java/lang/invoke/MethodHandle" ∧ y_Rm_level.cls ≠ "java/lang/invoke/VarHandle" ∧ (parseMethodDescriptor y_Rm_level.desc).map (fun d => d.parameters.length) = some 1 := ⟨rfl, by decide, by decide, by decide +kernel⟩
set_option maxHeartbeats 4000000 in
theorem c_Rm_level {l : Launch} {D : va_G} {A : Nat → Prop} (hl : l.stackTraces = false) {a0 : Nat} {a1 : Int32} {w : am_w} {r : Int32 × Nat × am_w} (hX : f_Rm_level a0 a1 w = some r) : am_Mett l D classes tys A (am_F A false) y_Rm_level (Cond.code y_Rm_level b_Rm_level 2 (some .int) :: am_W) rm_Rm_level [.ref a0, .int a1] w (am_ti r) 1 6 := by
  refine am_ofVt (F0 := am_F A false) (by decide) am_W_good (Nat.le_of_ble_eq_true rfl) (by simp [Value.category]) ?_
  intro p e s m below meth c C hret hlk hnm hex
  unfold f_Rm_level at hX
  refine am_iload_n (pc := 0) C d_Rm_level_0 rfl rfl ?_
  refine am_tsw (pc := 1) (k := (0 : Int32)) (tgt := 28) C d_Rm_level_1 (by decide) (by decide) rfl rfl hX (fun hX => ?_) (fun hn1_0 hX => ?_)
  · skip
    refine am_aload_n (pc := 28) C d_Rm_level_28 rfl rfl ?_
    refine am_getr (pc := 29) C hin_Rm rfl (by decide) wd_2_7 rfl d_Rm_level_29 rfl hX (fun b1 hX => ?_)
    refine am_get (pc := 32) C hin_Supply rfl (by decide) wd_1_80 rfl d_Rm_level_32 rfl hX (fun x2 hX => ?_)
    exact am_irett (pc := 35) C hret hlk d_Rm_level_35 rfl (by decide) (by decide) hX
  refine am_tsw (pc := 1) (k := (1 : Int32)) (tgt := 36) C d_Rm_level_1 (by decide) (by decide) rfl rfl hX (fun hX => ?_) (fun hn1_1 hX => ?_)
  · skip
    refine am_aload_n (pc := 36) C d_Rm_level_36 rfl rfl ?_
    refine am_getr (pc := 37) C hin_Rm rfl (by decide) wd_2_7 rfl d_Rm_level_37 rfl hX (fun b3 hX => ?_)
    refine am_get (pc := 40) C hin_Supply rfl (by decide) wd_1_84 rfl d_Rm_level_40 rfl hX (fun x4 hX => ?_)
    exact am_irett (pc := 43) C hret hlk d_Rm_level_43 rfl (by decide) (by decide) hX
  refine am_tsw (pc := 1) (k := (2 : Int32)) (tgt := 44) C d_Rm_level_1 (by decide) (by decide) rfl rfl hX (fun hX => ?_) (fun hn1_2 hX => ?_)
  · skip
    refine am_aload_n (pc := 44) C d_Rm_level_44 rfl rfl ?_
    refine am_getr (pc := 45) C hin_Rm rfl (by decide) wd_2_9 rfl d_Rm_level_45 rfl hX (fun b5 hX => ?_)
    refine am_callVi (pc := 48) (As := []) (st := []) (cells1 := 0) (slots1 := 0) C (fun _ h => h.2) (fun _ h => by cases h.1) (fun q h => c_Plan_runningHeat h) wd_4_76 wd_4_77 wd_4_78 wd_1_7 wd_4_79 rfl rfl hd_Plan_runningHeat ⟨by decide, by decide⟩ rfl rfl (Nat.le_of_ble_eq_true rfl) d_Rm_level_48 ⟨by decide, by decide⟩ rfl rfl rfl hX (fun q6 hX => ?_)
    exact am_irett (pc := 51) C hret hlk d_Rm_level_51 rfl (by decide) (by decide) hX
  have hout : Int32.toInt a1 < 0 ∨ 2 < Int32.toInt a1 := by
    have q50 := am_ne (k := 0) hn1_0 (by decide)
    have q51 := am_ne (k := 1) hn1_1 (by decide)
    have q52 := am_ne (k := 2) hn1_2 (by decide)
    omega
  refine am_tableOut (pc := 1) (tgt := 52) C d_Rm_level_1 hout rfl ?_
  exact am_throw (pc := 52) (k := 3) C hl hlk hex (by decide) wd_4_14 wd_4_15 wd_1_20 oa_Rm_3 d_Rm_level_52 d_Rm_level_55 d_Rm_level_56 d_Rm_level_59 (by decide) (Nat.le_of_ble_eq_true rfl) (by decide) (by decide) false (am_ti_of hX)
def rm_Rm_reserve : Room := { frames := 2, cells := 0, slots := 0, locals := 43 }
def f_Rm_reserve (a0 : Nat) (w : am_w) : Option (Int32 × am_w) := ((am_rg 0 2 a0 w).bind fun b1 => ((am_fg 0 7 a0 w).bind fun x2 => ((am_ob 3 b1 w (f_Supply_needBehind b1 x2 w)).bind fun q3 => (some (q3.1, q3.2)))))
theorem hd_Rm_reserve : y_Rm_reserve.cls = "RoverMinutes" ∧ y_Rm_reserve.cls ≠ "java/lang/invoke/MethodHandle" ∧ y_Rm_reserve.cls ≠ "java/lang/invoke/VarHandle" ∧ (parseMethodDescriptor y_Rm_reserve.desc).map (fun d => d.parameters.length) = some 0 := ⟨rfl, by decide, by decide, by decide +kernel⟩
set_option maxHeartbeats 4000000 in
theorem c_Rm_reserve {l : Launch} {D : va_G} {A : Nat → Prop} {a0 : Nat} {w : am_w} {r : Int32 × am_w} (hX : f_Rm_reserve a0 w = some r) : am_Met l D classes tys A (am_F A false) y_Rm_reserve (Cond.code y_Rm_reserve b_Rm_reserve 1 (some .int) :: am_W) rm_Rm_reserve [.ref a0] w (am_ri r) 0 0 := by
  refine am_ofV (by decide) am_W_good (Nat.le_of_ble_eq_true rfl) (by simp [Value.category]) ?_
  intro p e s m below meth c C hret hlk hnm
  unfold f_Rm_reserve at hX
  refine am_aload_n (pc := 0) C d_Rm_reserve_0 rfl rfl ?_
  refine am_getr (pc := 1) C hin_Rm rfl (by decide) wd_2_7 rfl d_Rm_reserve_1 rfl hX (fun b1 hX => ?_)
  refine am_aload_n (pc := 4) C d_Rm_reserve_4 rfl rfl ?_
  refine am_get (pc := 5) C hin_Rm rfl (by decide) wd_2_12 rfl d_Rm_reserve_5 rfl hX (fun x2 hX => ?_)
  refine am_callVi (pc := 8) (As := [.int x2]) (st := []) (cells1 := 0) (slots1 := 0) C (fun _ h => h.2) (fun _ h => by cases h.1) (fun q h => c_Supply_needBehind h) wd_2_48 wd_2_49 wd_2_50 wd_1_4 wd_2_51 rfl rfl hd_Supply_needBehind ⟨by decide, by decide⟩ rfl rfl (Nat.le_of_ble_eq_true rfl) d_Rm_reserve_8 ⟨by decide, by decide⟩ rfl rfl rfl hX (fun q3 hX => ?_)
  exact am_iret (pc := 11) C hret hlk d_Rm_reserve_11 rfl (by decide) (by decide) hX
def rm_Rm_activities : Room := { frames := 0, cells := 0, slots := 0, locals := 0 }
def f_Rm_activities (a0 : Nat) (w : am_w) : Option (Int32 × am_w) := ((am_rg 0 4 a0 w).bind fun b1 => ((am_fg 5 1 b1 w).bind fun x2 => (some (x2, w))))
theorem hd_Rm_activities : y_Rm_activities.cls = "RoverMinutes" ∧ y_Rm_activities.cls ≠ "java/lang/invoke/MethodHandle" ∧ y_Rm_activities.cls ≠ "java/lang/invoke/VarHandle" ∧ (parseMethodDescriptor y_Rm_activities.desc).map (fun d => d.parameters.length) = some 0 := ⟨rfl, by decide, by decide, by decide +kernel⟩
set_option maxHeartbeats 4000000 in
theorem c_Rm_activities {l : Launch} {D : va_G} {A : Nat → Prop} {a0 : Nat} {w : am_w} {r : Int32 × am_w} (hX : f_Rm_activities a0 w = some r) : am_Met l D classes tys A (am_F A false) y_Rm_activities (Cond.code y_Rm_activities b_Rm_activities 1 (some .int) :: am_W) rm_Rm_activities [.ref a0] w (am_ri r) 0 0 := by
  refine am_ofV (by decide) am_W_good (Nat.le_of_ble_eq_true rfl) (by simp [Value.category]) ?_
  intro p e s m below meth c C hret hlk hnm
  unfold f_Rm_activities at hX
  refine am_aload_n (pc := 0) C d_Rm_activities_0 rfl rfl ?_
  refine am_getr (pc := 1) C hin_Rm rfl (by decide) wd_2_9 rfl d_Rm_activities_1 rfl hX (fun b1 hX => ?_)
  refine am_get (pc := 4) C hin_Plan rfl (by decide) wd_1_239 rfl d_Rm_activities_4 rfl hX (fun x2 hX => ?_)
  exact am_iret (pc := 7) C hret hlk d_Rm_activities_7 rfl (by decide) (by decide) hX
def rm_Rm_activity : Room := { frames := 6, cells := 1, slots := 6, locals := 90 }
def f_Rm_activity (a0 : Nat) (a1 : Int32) (a2 : Int32) (w : am_w) : Option (Int32 × Nat × am_w) := ((am_rg 0 4 a0 w).bind fun b1 => ((am_ob 5 b1 w (f_Plan_has b1 a1 w)).bind fun q2 => (if q2.1 = 0 then (some (0, 3, am_th q2.2)) else ((am_rg 0 4 a0 q2.2).bind fun b3 => ((am_rg 5 0 b3 q2.2).bind fun b4 => ((am_ag b4 a1 q2.2).bind fun b5 => (if a2 = (0 : Int32) then ((am_fg 6 10 b5 q2.2).bind fun x6 => (some (x6, 0, q2.2))) else (if a2 = (1 : Int32) then ((am_fg 6 11 b5 q2.2).bind fun x7 => (some (x7, 0, q2.2))) else (if a2 = (2 : Int32) then ((am_fg 6 12 b5 q2.2).bind fun x8 => (some (x8, 0, q2.2))) else (if a2 = (3 : Int32) then ((am_fg 6 13 b5 q2.2).bind fun x9 => (some (x9, 0, q2.2))) else (if a2 = (4 : Int32) then ((am_fg 6 14 b5 q2.2).bind fun x10 => (some (x10, 0, q2.2))) else (if a2 = (5 : Int32) then ((am_fg 6 9 b5 q2.2).bind fun x11 => (some (x11, 0, q2.2))) else (some (0, 3, am_th q2.2))))))))))))))
theorem hd_Rm_activity : y_Rm_activity.cls = "RoverMinutes" ∧ y_Rm_activity.cls ≠ "java/lang/invoke/MethodHandle" ∧ y_Rm_activity.cls ≠ "java/lang/invoke/VarHandle" ∧ (parseMethodDescriptor y_Rm_activity.desc).map (fun d => d.parameters.length) = some 2 := ⟨rfl, by decide, by decide, by decide +kernel⟩
set_option maxHeartbeats 4000000 in
theorem c_Rm_activity {l : Launch} {D : va_G} {A : Nat → Prop} (hl : l.stackTraces = false) {a0 : Nat} {a1 : Int32} {a2 : Int32} {w : am_w} {r : Int32 × Nat × am_w} (hX : f_Rm_activity a0 a1 a2 w = some r) : am_Mett l D classes tys A (am_F A false) y_Rm_activity (Cond.code y_Rm_activity b_Rm_activity 4 (some .int) :: am_W) rm_Rm_activity [.ref a0, .int a1, .int a2] w (am_ti r) 1 6 := by
  refine am_ofVt (F0 := am_F A false) (by decide) am_W_good (Nat.le_of_ble_eq_true rfl) (by simp [Value.category]) ?_
  intro p e s m below meth c C hret hlk hnm hex
  unfold f_Rm_activity at hX
  refine am_aload_n (pc := 0) C d_Rm_activity_0 rfl rfl ?_
  refine am_getr (pc := 1) C hin_Rm rfl (by decide) wd_2_9 rfl d_Rm_activity_1 rfl hX (fun b1 hX => ?_)
  refine am_iload_n (pc := 4) C d_Rm_activity_4 rfl rfl ?_
  refine am_callVi (pc := 5) (As := [.int a1]) (st := []) (cells1 := 0) (slots1 := 0) C (fun _ h => h.2) (fun _ h => by cases h.1) (fun q h => c_Plan_has h) wd_4_10 wd_4_11 wd_4_12 wd_1_7 wd_4_13 rfl rfl hd_Plan_has ⟨by decide, by decide⟩ rfl rfl (Nat.le_of_ble_eq_true rfl) d_Rm_activity_5 ⟨by decide, by decide⟩ rfl rfl rfl hX (fun q2 hX => ?_)
  refine am_if_ne (pc := 8) (tgt := 19) C d_Rm_activity_8 rfl hX (fun hX => ?_) (fun hX => ?_)
  · skip
    refine am_aload_n (pc := 19) C d_Rm_activity_19 rfl rfl ?_
    refine am_getr (pc := 20) C hin_Rm rfl (by decide) wd_2_9 rfl d_Rm_activity_20 rfl hX (fun b3 hX => ?_)
    refine am_getr (pc := 23) C hin_Plan rfl (by decide) wd_1_235 rfl d_Rm_activity_23 rfl hX (fun b4 hX => ?_)
    refine am_iload_n (pc := 26) C d_Rm_activity_26 rfl rfl ?_
    refine am_aald (pc := 27) C d_Rm_activity_27 hX (fun b5 hX => ?_)
    refine am_astore_n (pc := 28) (lo1 := [some (.ref a0), some (.int a1), some (.int a2), some (.ref b5)]) C d_Rm_activity_28 rfl (by decide) rfl ?_
    refine am_iload_n (pc := 29) C d_Rm_activity_29 rfl rfl ?_
    refine am_tsw (pc := 30) (k := (0 : Int32)) (tgt := 68) C d_Rm_activity_30 (by decide) (by decide) rfl rfl hX (fun hX => ?_) (fun hn30_0 hX => ?_)
    · skip
      refine am_aload_n (pc := 68) C d_Rm_activity_68 rfl rfl ?_
      refine am_get (pc := 69) C hin_Activity rfl (by decide) wd_1_176 rfl d_Rm_activity_69 rfl hX (fun x6 hX => ?_)
      exact am_irett (pc := 72) C hret hlk d_Rm_activity_72 rfl (by decide) (by decide) hX
    refine am_tsw (pc := 30) (k := (1 : Int32)) (tgt := 73) C d_Rm_activity_30 (by decide) (by decide) rfl rfl hX (fun hX => ?_) (fun hn30_1 hX => ?_)
    · skip
      refine am_aload_n (pc := 73) C d_Rm_activity_73 rfl rfl ?_
      refine am_get (pc := 74) C hin_Activity rfl (by decide) wd_1_178 rfl d_Rm_activity_74 rfl hX (fun x7 hX => ?_)
      exact am_irett (pc := 77) C hret hlk d_Rm_activity_77 rfl (by decide) (by decide) hX
    refine am_tsw (pc := 30) (k := (2 : Int32)) (tgt := 78) C d_Rm_activity_30 (by decide) (by decide) rfl rfl hX (fun hX => ?_) (fun hn30_2 hX => ?_)
    · skip
      refine am_aload_n (pc := 78) C d_Rm_activity_78 rfl rfl ?_
      refine am_get (pc := 79) C hin_Activity rfl (by decide) wd_1_181 rfl d_Rm_activity_79 rfl hX (fun x8 hX => ?_)
      exact am_irett (pc := 82) C hret hlk d_Rm_activity_82 rfl (by decide) (by decide) hX
    refine am_tsw (pc := 30) (k := (3 : Int32)) (tgt := 83) C d_Rm_activity_30 (by decide) (by decide) rfl rfl hX (fun hX => ?_) (fun hn30_3 hX => ?_)
    · skip
      refine am_aload_n (pc := 83) C d_Rm_activity_83 rfl rfl ?_
      refine am_get (pc := 84) C hin_Activity rfl (by decide) wd_1_183 rfl d_Rm_activity_84 rfl hX (fun x9 hX => ?_)
      exact am_irett (pc := 87) C hret hlk d_Rm_activity_87 rfl (by decide) (by decide) hX
    refine am_tsw (pc := 30) (k := (4 : Int32)) (tgt := 88) C d_Rm_activity_30 (by decide) (by decide) rfl rfl hX (fun hX => ?_) (fun hn30_4 hX => ?_)
    · skip
      refine am_aload_n (pc := 88) C d_Rm_activity_88 rfl rfl ?_
      refine am_get (pc := 89) C hin_Activity rfl (by decide) wd_1_185 rfl d_Rm_activity_89 rfl hX (fun x10 hX => ?_)
      exact am_irett (pc := 92) C hret hlk d_Rm_activity_92 rfl (by decide) (by decide) hX
    refine am_tsw (pc := 30) (k := (5 : Int32)) (tgt := 93) C d_Rm_activity_30 (by decide) (by decide) rfl rfl hX (fun hX => ?_) (fun hn30_5 hX => ?_)
    · skip
      refine am_aload_n (pc := 93) C d_Rm_activity_93 rfl rfl ?_
      refine am_get (pc := 94) C hin_Activity rfl (by decide) wd_1_173 rfl d_Rm_activity_94 rfl hX (fun x11 hX => ?_)
      exact am_irett (pc := 97) C hret hlk d_Rm_activity_97 rfl (by decide) (by decide) hX
    have hout : Int32.toInt a2 < 0 ∨ 5 < Int32.toInt a2 := by
      have q60 := am_ne (k := 0) hn30_0 (by decide)
      have q61 := am_ne (k := 1) hn30_1 (by decide)
      have q62 := am_ne (k := 2) hn30_2 (by decide)
      have q63 := am_ne (k := 3) hn30_3 (by decide)
      have q64 := am_ne (k := 4) hn30_4 (by decide)
      have q65 := am_ne (k := 5) hn30_5 (by decide)
      omega
    refine am_tableOut (pc := 30) (tgt := 98) C d_Rm_activity_30 hout rfl ?_
    exact am_throw (pc := 98) (k := 3) C hl hlk hex (by decide) wd_4_14 wd_4_15 wd_1_20 oa_Rm_3 d_Rm_activity_98 d_Rm_activity_101 d_Rm_activity_102 d_Rm_activity_105 (by decide) (Nat.le_of_ble_eq_true rfl) (by decide) (by decide) false (am_ti_of hX)
  · skip
    exact am_throw (pc := 11) (k := 3) C hl hlk hex (by decide) wd_4_14 wd_4_15 wd_1_20 oa_Rm_3 d_Rm_activity_11 d_Rm_activity_14 d_Rm_activity_15 d_Rm_activity_18 (by decide) (Nat.le_of_ble_eq_true rfl) (by decide) (by decide) false (am_ti_of hX)
def rm_Rm_lowest : Room := { frames := 3, cells := 0, slots := 0, locals := 68 }
def f_Rm_lowest (a0 : Nat) (w : am_w) : Option (Int32 × am_w) := ((am_rg 0 3 a0 w).bind fun b1 => ((am_rg 0 4 a0 w).bind fun b2 => ((am_ob 4 b1 w (f_Envelope_gather b1 b2 (-1 : Int32) w)).bind fun q3 => ((am_rg 0 3 a0 q3.2).bind fun b4 => ((am_rg 0 2 a0 q3.2).bind fun b5 => ((am_fg 0 7 a0 q3.2).bind fun x6 => ((am_ob 4 b4 q3.2 (f_Envelope_deepest b4 b5 x6 q3.2)).bind fun q7 => (some (q7.1, q7.2)))))))))
theorem hd_Rm_lowest : y_Rm_lowest.cls = "RoverMinutes" ∧ y_Rm_lowest.cls ≠ "java/lang/invoke/MethodHandle" ∧ y_Rm_lowest.cls ≠ "java/lang/invoke/VarHandle" ∧ (parseMethodDescriptor y_Rm_lowest.desc).map (fun d => d.parameters.length) = some 0 := ⟨rfl, by decide, by decide, by decide +kernel⟩
set_option maxHeartbeats 4000000 in
theorem c_Rm_lowest {l : Launch} {D : va_G} {A : Nat → Prop} {a0 : Nat} {w : am_w} {r : Int32 × am_w} (hX : f_Rm_lowest a0 w = some r) : am_Met l D classes tys A (am_F A true) y_Rm_lowest (Cond.code y_Rm_lowest b_Rm_lowest 1 (some .int) :: am_W) rm_Rm_lowest [.ref a0] w (am_ri r) 0 0 := by
  refine am_ofV (by decide) am_W_good (Nat.le_of_ble_eq_true rfl) (by simp [Value.category]) ?_
  intro p e s m below meth c C hret hlk hnm
  unfold f_Rm_lowest at hX
  refine am_aload_n (pc := 0) C d_Rm_lowest_0 rfl rfl ?_
  refine am_getr (pc := 1) C hin_Rm rfl (by decide) wd_2_8 rfl d_Rm_lowest_1 rfl hX (fun b1 hX => ?_)
  refine am_aload_n (pc := 4) C d_Rm_lowest_4 rfl rfl ?_
  refine am_getr (pc := 5) C hin_Rm rfl (by decide) wd_2_9 rfl d_Rm_lowest_5 rfl hX (fun b2 hX => ?_)
  refine am_iconst (pc := 8) (v := (-1 : Int32)) C d_Rm_lowest_8 (by decide) ?_
  refine am_callVv (pc := 9) (As := [.ref b2, .int (-1 : Int32)]) (st := []) (cells1 := 0) (slots1 := 0) C (fun _ h => h.2) (fun _ h => h) (fun q h => c_Envelope_gather h) wd_2_63 wd_2_64 wd_2_65 wd_1_6 wd_2_66 rfl rfl hd_Envelope_gather ⟨by decide, by decide⟩ rfl rfl (Nat.le_of_ble_eq_true rfl) d_Rm_lowest_9 ⟨by decide, by decide⟩ rfl rfl rfl hX (fun q3 hX => ?_)
  refine am_aload_n (pc := 12) C d_Rm_lowest_12 rfl rfl ?_
  refine am_getr (pc := 13) C hin_Rm rfl (by decide) wd_2_8 rfl d_Rm_lowest_13 rfl hX (fun b4 hX => ?_)
  refine am_aload_n (pc := 16) C d_Rm_lowest_16 rfl rfl ?_
  refine am_getr (pc := 17) C hin_Rm rfl (by decide) wd_2_7 rfl d_Rm_lowest_17 rfl hX (fun b5 hX => ?_)
  refine am_aload_n (pc := 20) C d_Rm_lowest_20 rfl rfl ?_
  refine am_get (pc := 21) C hin_Rm rfl (by decide) wd_2_12 rfl d_Rm_lowest_21 rfl hX (fun x6 hX => ?_)
  refine am_callVi (pc := 24) (As := [.ref b5, .int x6]) (st := []) (cells1 := 0) (slots1 := 0) C (fun _ h => h.2) (fun _ h => by cases h.1) (fun q h => c_Envelope_deepest h) wd_2_80 wd_2_81 wd_2_82 wd_1_6 wd_2_83 rfl rfl hd_Envelope_deepest ⟨by decide, by decide⟩ rfl rfl (Nat.le_of_ble_eq_true rfl) d_Rm_lowest_24 ⟨by decide, by decide⟩ rfl rfl rfl hX (fun q7 hX => ?_)
  exact am_iret (pc := 27) C hret hlk d_Rm_lowest_27 rfl (by decide) (by decide) hX
def rm_Rm_could : Room := { frames := 6, cells := 1, slots := 6, locals := 112 }
def f_Rm_could (a0 : Nat) (a1 : Int32) (w : am_w) : Option (Int32 × Nat × am_w) := ((am_rg 0 4 a0 w).bind fun b1 => ((am_ob 5 b1 w (f_Plan_has b1 a1 w)).bind fun q2 => (if q2.1 = 0 then (some (0, 3, am_th q2.2)) else ((am_fg 0 6 a0 q2.2).bind fun x3 => (if x3 = (1 : Int32) then ((am_ob 0 a0 q2.2 (f_Rm_mayStart a0 a1 q2.2)).bind fun q4 => (if q4.1 = 0 then (some ((0 : Int32), 0, q4.2)) else (some ((1 : Int32), 0, q4.2)))) else (some ((0 : Int32), 0, q2.2)))))))
theorem hd_Rm_could : y_Rm_could.cls = "RoverMinutes" ∧ y_Rm_could.cls ≠ "java/lang/invoke/MethodHandle" ∧ y_Rm_could.cls ≠ "java/lang/invoke/VarHandle" ∧ (parseMethodDescriptor y_Rm_could.desc).map (fun d => d.parameters.length) = some 1 := ⟨rfl, by decide, by decide, by decide +kernel⟩
set_option maxHeartbeats 4000000 in
theorem c_Rm_could {l : Launch} {D : va_G} {A : Nat → Prop} (hl : l.stackTraces = false) {a0 : Nat} {a1 : Int32} {w : am_w} {r : Int32 × Nat × am_w} (hX : f_Rm_could a0 a1 w = some r) : am_Mett l D classes tys A (am_F A true) y_Rm_could (Cond.code y_Rm_could b_Rm_could 2 (some .boolean) :: am_W) rm_Rm_could [.ref a0, .int a1] w (am_ti r) 1 6 := by
  refine am_ofVt (F0 := am_F A false) (by decide) am_W_good (Nat.le_of_ble_eq_true rfl) (by simp [Value.category]) ?_
  intro p e s m below meth c C hret hlk hnm hex
  unfold f_Rm_could at hX
  refine am_aload_n (pc := 0) C d_Rm_could_0 rfl rfl ?_
  refine am_getr (pc := 1) C hin_Rm rfl (by decide) wd_2_9 rfl d_Rm_could_1 rfl hX (fun b1 hX => ?_)
  refine am_iload_n (pc := 4) C d_Rm_could_4 rfl rfl ?_
  refine am_callVi (pc := 5) (As := [.int a1]) (st := []) (cells1 := 0) (slots1 := 0) C (fun _ h => h.2) (fun _ h => by cases h.1) (fun q h => c_Plan_has h) wd_4_10 wd_4_11 wd_4_12 wd_1_7 wd_4_13 rfl rfl hd_Plan_has ⟨by decide, by decide⟩ rfl rfl (Nat.le_of_ble_eq_true rfl) d_Rm_could_5 ⟨by decide, by decide⟩ rfl rfl rfl hX (fun q2 hX => ?_)
  refine am_if_ne (pc := 8) (tgt := 19) C d_Rm_could_8 rfl hX (fun hX => ?_) (fun hX => ?_)
  · skip
    refine am_aload_n (pc := 19) C d_Rm_could_19 rfl rfl ?_
    refine am_get (pc := 20) C hin_Rm rfl (by decide) wd_2_11 rfl d_Rm_could_20 rfl hX (fun x3 hX => ?_)
    refine am_iconst (pc := 23) (v := (1 : Int32)) C d_Rm_could_23 (by decide) ?_
    refine am_icmp_ne (pc := 24) (tgt := 39) C d_Rm_could_24 rfl hX (fun hX => ?_) (fun hX => ?_)
    · skip
      refine am_iconst (pc := 39) (v := (0 : Int32)) C d_Rm_could_39 (by decide) ?_
      refine am_grow (F1 := (am_F A true)) (fun _ h => ⟨rfl, h.2⟩) ?_
      exact am_irett (pc := 40) C hret hlk d_Rm_could_40 am_n0 (by decide) (by decide) hX
    · skip
      refine am_aload_n (pc := 27) C d_Rm_could_27 rfl rfl ?_
      refine am_iload_n (pc := 28) C d_Rm_could_28 rfl rfl ?_
      refine am_grow (F1 := (am_F A true)) (fun _ h => ⟨rfl, h.2⟩) ?_
      refine am_callVi (pc := 29) (As := [.int a1]) (st := []) (cells1 := 0) (slots1 := 0) C (fun _ h => h.2) (fun _ h => h) (fun q h => c_Rm_mayStart h) wd_3_160 wd_3_162 ws_Rm_mayStart wd_1_1 wd_3_163 rfl rfl hd_Rm_mayStart ⟨by decide, by decide⟩ rfl rfl (Nat.le_of_ble_eq_true rfl) d_Rm_could_29 ⟨by decide, by decide⟩ rfl rfl rfl hX (fun q4 hX => ?_)
      refine am_if_eq (pc := 32) (tgt := 39) C d_Rm_could_32 rfl hX (fun hX => ?_) (fun hX => ?_)
      · skip
        refine am_iconst (pc := 39) (v := (0 : Int32)) C d_Rm_could_39 (by decide) ?_
        exact am_irett (pc := 40) C hret hlk d_Rm_could_40 am_n0 (by decide) (by decide) hX
      · skip
        refine am_iconst (pc := 35) (v := (1 : Int32)) C d_Rm_could_35 (by decide) ?_
        refine am_goto (pc := 36) (tgt := 40) C d_Rm_could_36 rfl ?_
        exact am_irett (pc := 40) C hret hlk d_Rm_could_40 am_n1 (by decide) (by decide) hX
  · skip
    exact am_throw (pc := 11) (k := 3) C hl hlk hex (by decide) wd_4_14 wd_4_15 wd_1_20 oa_Rm_3 d_Rm_could_11 d_Rm_could_14 d_Rm_could_15 d_Rm_could_18 (by decide) (Nat.le_of_ble_eq_true rfl) (by decide) (by decide) true (am_ti_of hX)
