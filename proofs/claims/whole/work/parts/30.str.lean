def rm_Str_coder : Room := { frames := 0, cells := 0, slots := 0, locals := 0 }
def f_Str_coder  (w : am_w) : Option (Int32 × am_w) := (if (1 : Int32) = 0 then (some ((1 : Int32), w)) else (some ((0 : Int32), w)))
theorem hd_Str_coder : y_Str_coder.cls = "java/lang/String" ∧ y_Str_coder.cls ≠ "java/lang/invoke/MethodHandle" ∧ y_Str_coder.cls ≠ "java/lang/invoke/VarHandle" ∧ (parseMethodDescriptor y_Str_coder.desc).map (fun d => d.parameters.length) = some 0 := ⟨rfl, by decide, by decide, by decide +kernel⟩
set_option maxHeartbeats 4000000 in
theorem c_Str_coder {l : Launch} {D : va_G} {A : Nat → Prop}  {w : am_w} {r : Int32 × am_w} (hX : f_Str_coder  w = some r) : am_Met l D classes tys A (am_F A false) y_Str_coder (Cond.code y_Str_coder b_Str_coder 1 (some .byte) :: am_W) rm_Str_coder [.ref (D.1 1000)] w (am_ri r) 0 0 := by
  refine am_ofVF (by decide +kernel) am_W_good (Nat.le_of_ble_eq_true rfl) (by simp [Value.category]) ?_
  intro p e s m below meth c C hret hlk hnm
  unfold f_Str_coder at hX
  refine am_getsK (pc := 0) C (fun _ h => h.2) wd_3_4 d_Str_coder_0 ?_
  refine am_if_eq (pc := 3) (tgt := 13) C d_Str_coder_3 rfl hX (fun hX => ?_) (fun hX => ?_)
  · skip
    refine am_iconst (pc := 13) (v := (1 : Int32)) C d_Str_coder_13 (by decide) ?_
    exact am_iret (pc := 14) C hret hlk d_Str_coder_14 rfl (by decide) (by decide) hX
  · skip
    refine am_aload_n (pc := 6) C d_Str_coder_6 rfl rfl ?_
    refine am_getKc (pc := 7) C (fun _ h => h.2) wd_5_159 d_Str_coder_7 ?_
    refine am_goto (pc := 10) (tgt := 14) C d_Str_coder_10 rfl ?_
    exact am_iret (pc := 14) C hret hlk d_Str_coder_14 rfl (by decide) (by decide) hX
def rm_Str_isLatin1 : Room := { frames := 0, cells := 0, slots := 0, locals := 0 }
def f_Str_isLatin1  (w : am_w) : Option (Int32 × am_w) := (if (1 : Int32) = 0 then (some ((0 : Int32), w)) else (if (0 : Int32) = 0 then (some ((1 : Int32), w)) else (some ((0 : Int32), w))))
theorem hd_Str_isLatin1 : y_Str_isLatin1.cls = "java/lang/String" ∧ y_Str_isLatin1.cls ≠ "java/lang/invoke/MethodHandle" ∧ y_Str_isLatin1.cls ≠ "java/lang/invoke/VarHandle" ∧ (parseMethodDescriptor y_Str_isLatin1.desc).map (fun d => d.parameters.length) = some 0 := ⟨rfl, by decide, by decide, by decide +kernel⟩
set_option maxHeartbeats 4000000 in
theorem c_Str_isLatin1 {l : Launch} {D : va_G} {A : Nat → Prop}  {w : am_w} {r : Int32 × am_w} (hX : f_Str_isLatin1  w = some r) : am_Met l D classes tys A (am_F A false) y_Str_isLatin1 (Cond.code y_Str_isLatin1 b_Str_isLatin1 1 (some .boolean) :: am_W) rm_Str_isLatin1 [.ref (D.1 1000)] w (am_ri r) 0 0 := by
  refine am_ofVF (by decide +kernel) am_W_good (Nat.le_of_ble_eq_true rfl) (by simp [Value.category]) ?_
  intro p e s m below meth c C hret hlk hnm
  unfold f_Str_isLatin1 at hX
  refine am_getsK (pc := 0) C (fun _ h => h.2) wd_3_4 d_Str_isLatin1_0 ?_
  refine am_if_eq (pc := 3) (tgt := 17) C d_Str_isLatin1_3 rfl hX (fun hX => ?_) (fun hX => ?_)
  · skip
    refine am_iconst (pc := 17) (v := (0 : Int32)) C d_Str_isLatin1_17 (by decide) ?_
    exact am_iret (pc := 18) C hret hlk d_Str_isLatin1_18 am_n0 (by decide) (by decide) hX
  · skip
    refine am_aload_n (pc := 6) C d_Str_isLatin1_6 rfl rfl ?_
    refine am_getKc (pc := 7) C (fun _ h => h.2) wd_5_159 d_Str_isLatin1_7 ?_
    refine am_if_ne (pc := 10) (tgt := 17) C d_Str_isLatin1_10 rfl hX (fun hX => ?_) (fun hX => ?_)
    · skip
      refine am_iconst (pc := 17) (v := (0 : Int32)) C d_Str_isLatin1_17 (by decide) ?_
      exact am_iret (pc := 18) C hret hlk d_Str_isLatin1_18 am_n0 (by decide) (by decide) hX
    · skip
      refine am_iconst (pc := 13) (v := (1 : Int32)) C d_Str_isLatin1_13 (by decide) ?_
      refine am_goto (pc := 14) (tgt := 18) C d_Str_isLatin1_14 rfl ?_
      exact am_iret (pc := 18) C hret hlk d_Str_isLatin1_18 am_n1 (by decide) (by decide) hX
def rm_Str_length : Room := { frames := 1, cells := 0, slots := 0, locals := 20 }
def f_Str_length  (w : am_w) : Option (Int32 × am_w) := ((f_Str_coder  w).bind fun q1 => (some (((5 : Int32) >>> (q1.1 &&& 31)), q1.2)))
theorem hd_Str_length : y_Str_length.cls = "java/lang/String" ∧ y_Str_length.cls ≠ "java/lang/invoke/MethodHandle" ∧ y_Str_length.cls ≠ "java/lang/invoke/VarHandle" ∧ (parseMethodDescriptor y_Str_length.desc).map (fun d => d.parameters.length) = some 0 := ⟨rfl, by decide, by decide, by decide +kernel⟩
set_option maxHeartbeats 4000000 in
theorem c_Str_length {l : Launch} {D : va_G} {A : Nat → Prop}  {w : am_w} {r : Int32 × am_w} (hX : f_Str_length  w = some r) : am_Met l D classes tys A (am_F A false) y_Str_length (Cond.code y_Str_length b_Str_length 1 (some .int) :: am_W) rm_Str_length [.ref (D.1 1000)] w (am_ri r) 0 0 := by
  refine am_ofVF (by decide +kernel) am_W_good (Nat.le_of_ble_eq_true rfl) (by simp [Value.category]) ?_
  intro p e s m below meth c C hret hlk hnm
  unfold f_Str_length at hX
  refine am_aload_n (pc := 0) C d_Str_length_0 rfl rfl ?_
  refine am_getKv (pc := 1) C (fun _ h => h.2) wd_5_160 d_Str_length_1 ?_
  refine am_alenK (pc := 4) C (fun _ h => h.2) d_Str_length_4 ?_
  refine am_aload_n (pc := 5) C d_Str_length_5 rfl rfl ?_
  refine am_callK (pc := 6) (As := []) (st := [.int (5 : Int32)]) (cells1 := 0) (slots1 := 0) C (fun _ h => h.2) (fun _ h => by cases h.1) (fun q h => c_Str_coder h) wd_3_10 wd_3_11 wd_3_12 wd_1_15 wd_3_13 rfl rfl hd_Str_coder ⟨by decide, by decide⟩ rfl (Nat.le_of_ble_eq_true rfl) d_Str_length_6 ⟨by decide, by decide⟩ rfl rfl rfl hX (fun q1 hX => ?_)
  refine am_ishr (pc := 9) C d_Str_length_9 ?_
  exact am_iret (pc := 10) C hret hlk d_Str_length_10 rfl (by decide) (by decide) hX
def rm_Lat_canEncode : Room := { frames := 0, cells := 0, slots := 0, locals := 0 }
def f_Lat_canEncode (a0 : Int32) (w : am_w) : Option (Int32 × am_w) := (if a0 < 0 then (some ((0 : Int32), w)) else (if (255 : Int32) < a0 then (some ((0 : Int32), w)) else (some ((1 : Int32), w))))
theorem hd_Lat_canEncode : y_Lat_canEncode.cls ≠ "java/lang/invoke/MethodHandle" ∧ y_Lat_canEncode.cls ≠ "java/lang/invoke/VarHandle" ∧ (parseMethodDescriptor y_Lat_canEncode.desc).map (fun d => d.parameters.length) = some 1 := ⟨by decide, by decide, by decide +kernel⟩
set_option maxHeartbeats 4000000 in
theorem c_Lat_canEncode {l : Launch} {D : va_G} {A : Nat → Prop} {a0 : Int32} {w : am_w} {r : Int32 × am_w} (hX : f_Lat_canEncode a0 w = some r) : am_Met l D classes tys A (am_F A false) y_Lat_canEncode (Cond.code y_Lat_canEncode b_Lat_canEncode 1 (some .boolean) :: am_W) rm_Lat_canEncode [.int a0] w (am_ri r) 0 0 := by
  refine am_ofVF (by decide +kernel) am_W_good (Nat.le_of_ble_eq_true rfl) (by simp [Value.category]) ?_
  intro p e s m below meth c C hret hlk hnm
  unfold f_Lat_canEncode at hX
  refine am_iload_n (pc := 0) C d_Lat_canEncode_0 rfl rfl ?_
  refine am_if_lt (pc := 1) (tgt := 15) C d_Lat_canEncode_1 rfl hX (fun hX => ?_) (fun hX => ?_)
  · skip
    refine am_iconst (pc := 15) (v := (0 : Int32)) C d_Lat_canEncode_15 (by decide) ?_
    exact am_iret (pc := 16) C hret hlk d_Lat_canEncode_16 am_n0 (by decide) (by decide) hX
  · skip
    refine am_iload_n (pc := 4) C d_Lat_canEncode_4 rfl rfl ?_
    refine am_sipush (pc := 5) (v := (255 : Int32)) C d_Lat_canEncode_5 (by decide) ?_
    refine am_icmp_gt (pc := 8) (tgt := 15) C d_Lat_canEncode_8 rfl hX (fun hX => ?_) (fun hX => ?_)
    · skip
      refine am_iconst (pc := 15) (v := (0 : Int32)) C d_Lat_canEncode_15 (by decide) ?_
      exact am_iret (pc := 16) C hret hlk d_Lat_canEncode_16 am_n0 (by decide) (by decide) hX
    · skip
      refine am_iconst (pc := 11) (v := (1 : Int32)) C d_Lat_canEncode_11 (by decide) ?_
      refine am_goto (pc := 12) (tgt := 16) C d_Lat_canEncode_12 rfl ?_
      exact am_iret (pc := 16) C hret hlk d_Lat_canEncode_16 am_n1 (by decide) (by decide) hX
def rm_Lat_indexOfChar : Room := { frames := 0, cells := 0, slots := 0, locals := 0 }
def s_Lat_indexOfChar_7 (k7 : Int32 → Int32 → Int32 → am_w → Option (Int32 × am_w)) (v3 : Int32) (v4 : Int32) (v5 : Int32) (w : am_w) : Option (Int32 × am_w) := (if v3 ≤ v5 then (some ((-1 : Int32), w)) else ((am_bg v5).bind fun x1 => (if x1 = v4 then (some (v5, w)) else (k7 v3 v4 (v5 + (1 : Int32)) w))))
def f_Lat_indexOfChar_7  (n : Nat) : Int32 → Int32 → Int32 → am_w → Option (Int32 × am_w) := am_it (fun _ _ _ _ => none) (s_Lat_indexOfChar_7 ) n
set_option maxHeartbeats 4000000 in
theorem L_Lat_indexOfChar_7 {p : Program} {l : Launch} {e : Env} {s : State} {m : MethodId} {args : Array Value} {below : List Frame} {meth : Method} {c : Code} {D : va_G} {A : Nat → Prop} {r : Int32 × am_w} (C : am_C p m c b_Lat_indexOfChar 6 s args am_W "java/lang/StringLatin1" D classes A) (hret : meth.sig.returnType = (some .int)) (hlk : meth.locks = false)   (n : Nat) : ∀ (v3 : Int32) (v4 : Int32) (v5 : Int32) (w : am_w), f_Lat_indexOfChar_7  n v3 v4 v5 w = some r → am_V p l e rm_Lat_indexOfChar s m args below meth c D classes tys A (am_F A false) 6 0 0 (MQ below (am_Q D classes tys A (am_F A false) (am_ri r)) args s 0 0 (am_F A false)) 7 [some (.ref (D.1 1001)), none, none, some (.int v3), some (.int v4), some (.int v5)] [] w := by
  refine am_it_ind (P := fun (t : Int32 → Int32 → Int32 → am_w → Option (Int32 × am_w)) => ∀ (v3 : Int32) (v4 : Int32) (v5 : Int32) (w : am_w), t v3 v4 v5 w = some r → am_V p l e rm_Lat_indexOfChar s m args below meth c D classes tys A (am_F A false) 6 0 0 (MQ below (am_Q D classes tys A (am_F A false) (am_ri r)) args s 0 0 (am_F A false)) 7 [some (.ref (D.1 1001)), none, none, some (.int v3), some (.int v4), some (.int v5)] [] w) ?_ ?_ n
  · intro v3 v4 v5 w hX
    exact (am_nn hX).elim
  · intro k7 hk7 v3 v4 v5 w hX
    unfold s_Lat_indexOfChar_7 at hX
    refine am_iload (pc := 7) C d_Lat_indexOfChar_7 rfl ?_
    refine am_iload_n (pc := 9) C d_Lat_indexOfChar_9 rfl rfl ?_
    refine am_icmp_ge (pc := 10) (tgt := 31) C d_Lat_indexOfChar_10 rfl hX (fun hX => ?_) (fun hX => ?_)
    · skip
      refine am_iconst (pc := 31) (v := (-1 : Int32)) C d_Lat_indexOfChar_31 (by decide) ?_
      exact am_iret (pc := 32) C hret hlk d_Lat_indexOfChar_32 rfl (by decide) (by decide) hX
    · skip
      refine am_aload_n (pc := 13) C d_Lat_indexOfChar_13 rfl rfl ?_
      refine am_iload (pc := 14) C d_Lat_indexOfChar_14 rfl ?_
      refine am_baldK (pc := 16) C (fun _ h => h.2) d_Lat_indexOfChar_16 hX (fun x1 hX => ?_)
      refine am_iload (pc := 17) C d_Lat_indexOfChar_17 rfl ?_
      refine am_icmp_ne (pc := 19) (tgt := 25) C d_Lat_indexOfChar_19 rfl hX (fun hX => ?_) (fun hX => ?_)
      · skip
        refine am_iinc (pc := 25) (y := (1 : Int32)) (lo1 := [some (.ref (D.1 1001)), none, none, some (.int v3), some (.int v4), some (.int (v5 + (1 : Int32)))]) C d_Lat_indexOfChar_25 rfl (by decide) (by decide) rfl ?_
        refine am_goto (pc := 28) (tgt := 7) C d_Lat_indexOfChar_28 rfl ?_
        exact (hk7 v3 v4 (v5 + (1 : Int32)) w hX)
      · skip
        refine am_iload (pc := 22) C d_Lat_indexOfChar_22 rfl ?_
        exact am_iret (pc := 24) C hret hlk d_Lat_indexOfChar_24 rfl (by decide) (by decide) hX
def f_Lat_indexOfChar (a1 : Int32) (a2 : Int32) (a3 : Int32) (w : am_w) : Option (Int32 × am_w) := (f_Lat_indexOfChar_7  70 a3 ((Int32.toInt8 a1).toInt32) a2 w)
theorem hd_Lat_indexOfChar : y_Lat_indexOfChar.cls ≠ "java/lang/invoke/MethodHandle" ∧ y_Lat_indexOfChar.cls ≠ "java/lang/invoke/VarHandle" ∧ (parseMethodDescriptor y_Lat_indexOfChar.desc).map (fun d => d.parameters.length) = some 4 := ⟨by decide, by decide, by decide +kernel⟩
set_option maxHeartbeats 4000000 in
theorem c_Lat_indexOfChar {l : Launch} {D : va_G} {A : Nat → Prop} {a1 : Int32} {a2 : Int32} {a3 : Int32} {w : am_w} {r : Int32 × am_w} (hX : f_Lat_indexOfChar a1 a2 a3 w = some r) : am_Met l D classes tys A (am_F A false) y_Lat_indexOfChar (Cond.code y_Lat_indexOfChar b_Lat_indexOfChar 6 (some .int) :: am_W) rm_Lat_indexOfChar [.ref (D.1 1001), .int a1, .int a2, .int a3] w (am_ri r) 0 0 := by
  refine am_ofVF (by decide +kernel) am_W_good (Nat.le_of_ble_eq_true rfl) (by simp [Value.category]) ?_
  intro p e s m below meth c C hret hlk hnm
  unfold f_Lat_indexOfChar at hX
  refine am_iload_n (pc := 0) C d_Lat_indexOfChar_0 rfl rfl ?_
  refine am_i2b (pc := 1) C d_Lat_indexOfChar_1 rfl ?_
  refine am_istore (pc := 2) (lo1 := [some (.ref (D.1 1001)), some (.int a1), some (.int a2), some (.int a3), some (.int ((Int32.toInt8 a1).toInt32)), none]) C d_Lat_indexOfChar_2 (by decide) rfl ?_
  refine am_iload_n (pc := 4) C d_Lat_indexOfChar_4 rfl rfl ?_
  refine am_istore (pc := 5) (lo1 := [some (.ref (D.1 1001)), some (.int a1), some (.int a2), some (.int a3), some (.int ((Int32.toInt8 a1).toInt32)), some (.int a2)]) C d_Lat_indexOfChar_5 (by decide) rfl ?_
  exact am_sub (am_le_s (am_le_n (am_le_n (am_le_s (am_le_s (am_le_s (am_le_0))))))) (L_Lat_indexOfChar_7 C hret hlk  70 a3 ((Int32.toInt8 a1).toInt32) a2 w hX)
def rm_Lat_indexOf : Room := { frames := 1, cells := 0, slots := 0, locals := 25 }
def f_Lat_indexOf (a1 : Int32) (a2 : Int32) (a3 : Int32) (w : am_w) : Option (Int32 × am_w) := ((f_Lat_canEncode a1 w).bind fun q1 => (if q1.1 = 0 then (some ((-1 : Int32), q1.2)) else (am_let (if a2 < (0 : Int32) then (0 : Int32) else a2) fun x2 => (am_let (if (5 : Int32) < a3 then (5 : Int32) else a3) fun x3 => (if x2 < x3 then ((f_Lat_indexOfChar a1 x2 x3 q1.2).bind fun q4 => (some (q4.1, q4.2))) else (some ((-1 : Int32), q1.2)))))))
theorem hd_Lat_indexOf : y_Lat_indexOf.cls ≠ "java/lang/invoke/MethodHandle" ∧ y_Lat_indexOf.cls ≠ "java/lang/invoke/VarHandle" ∧ (parseMethodDescriptor y_Lat_indexOf.desc).map (fun d => d.parameters.length) = some 4 := ⟨by decide, by decide, by decide +kernel⟩
set_option maxHeartbeats 4000000 in
theorem c_Lat_indexOf {l : Launch} {D : va_G} {A : Nat → Prop} {a1 : Int32} {a2 : Int32} {a3 : Int32} {w : am_w} {r : Int32 × am_w} (hX : f_Lat_indexOf a1 a2 a3 w = some r) : am_Met l D classes tys A (am_F A false) y_Lat_indexOf (Cond.code y_Lat_indexOf b_Lat_indexOf 4 (some .int) :: am_W) rm_Lat_indexOf [.ref (D.1 1001), .int a1, .int a2, .int a3] w (am_ri r) 0 0 := by
  refine am_ofVF (by decide +kernel) am_W_good (Nat.le_of_ble_eq_true rfl) (by simp [Value.category]) ?_
  intro p e s m below meth c C hret hlk hnm
  unfold f_Lat_indexOf at hX
  refine am_iload_n (pc := 0) C d_Lat_indexOf_0 rfl rfl ?_
  refine am_callSi (pc := 1) (As := [.int a1]) (st := []) (cells1 := 0) (slots1 := 0) C (fun _ h => h.2) (fun _ h => by cases h.1) (fun q h => c_Lat_canEncode h) wd_3_17 wd_3_18 wd_1_16 wd_3_19 rfl rfl hd_Lat_canEncode ⟨by decide, by decide⟩ rfl (Nat.le_of_ble_eq_true rfl) d_Lat_indexOf_1 ⟨by decide, by decide⟩ rfl rfl rfl hX (fun q1 hX => ?_)
  refine am_if_ne (pc := 4) (tgt := 9) C d_Lat_indexOf_4 rfl hX (fun hX => ?_) (fun hX => ?_)
  · skip
    refine am_iload_n (pc := 9) C d_Lat_indexOf_9 rfl rfl ?_
    refine am_iconst (pc := 10) (v := (0 : Int32)) C d_Lat_indexOf_10 (by decide) ?_
    refine am_mmax (pc := 11) C wd_3_20 wd_1_77 wd_1_5 wd_1_78 (by decide) (Nat.le_of_ble_eq_true rfl) (by decide) (by decide) d_Lat_indexOf_11 ?_
    obtain ⟨x2, ex2, hX⟩ := am_let_of hX
    rw [← ex2]
    refine am_istore_n (pc := 14) (lo1 := [some (.ref (D.1 1001)), some (.int a1), some (.int x2), some (.int a3)]) C d_Lat_indexOf_14 rfl (by decide) rfl ?_
    refine am_iload_n (pc := 15) C d_Lat_indexOf_15 rfl rfl ?_
    refine am_aload_n (pc := 16) C d_Lat_indexOf_16 rfl rfl ?_
    refine am_alenK (pc := 17) C (fun _ h => h.2) d_Lat_indexOf_17 ?_
    refine am_mmin (pc := 18) C wd_3_21 wd_2_92 wd_1_5 wd_2_93 (by decide) (Nat.le_of_ble_eq_true rfl) (by decide) (by decide) d_Lat_indexOf_18 ?_
    obtain ⟨x3, ex3, hX⟩ := am_let_of hX
    rw [← ex3]
    refine am_istore_n (pc := 21) (lo1 := [some (.ref (D.1 1001)), some (.int a1), some (.int x2), some (.int x3)]) C d_Lat_indexOf_21 rfl (by decide) rfl ?_
    refine am_iload_n (pc := 22) C d_Lat_indexOf_22 rfl rfl ?_
    refine am_iload_n (pc := 23) C d_Lat_indexOf_23 rfl rfl ?_
    refine am_icmp_lt (pc := 24) (tgt := 29) C d_Lat_indexOf_24 rfl hX (fun hX => ?_) (fun hX => ?_)
    · skip
      refine am_aload_n (pc := 29) C d_Lat_indexOf_29 rfl rfl ?_
      refine am_iload_n (pc := 30) C d_Lat_indexOf_30 rfl rfl ?_
      refine am_iload_n (pc := 31) C d_Lat_indexOf_31 rfl rfl ?_
      refine am_iload_n (pc := 32) C d_Lat_indexOf_32 rfl rfl ?_
      refine am_callSi (pc := 33) (As := [.ref (D.1 1001), .int a1, .int x2, .int x3]) (st := []) (cells1 := 0) (slots1 := 0) C (fun _ h => h.2) (fun _ h => by cases h.1) (fun q h => c_Lat_indexOfChar h) wd_3_22 wd_3_23 wd_1_16 wd_3_24 rfl rfl hd_Lat_indexOfChar ⟨by decide, by decide⟩ rfl (Nat.le_of_ble_eq_true rfl) d_Lat_indexOf_33 ⟨by decide, by decide⟩ rfl rfl rfl hX (fun q4 hX => ?_)
      exact am_iret (pc := 36) C hret hlk d_Lat_indexOf_36 rfl (by decide) (by decide) hX
    · skip
      refine am_iconst (pc := 27) (v := (-1 : Int32)) C d_Lat_indexOf_27 (by decide) ?_
      exact am_iret (pc := 28) C hret hlk d_Lat_indexOf_28 rfl (by decide) (by decide) hX
  · skip
    refine am_iconst (pc := 7) (v := (-1 : Int32)) C d_Lat_indexOf_7 (by decide) ?_
    exact am_iret (pc := 8) C hret hlk d_Lat_indexOf_8 rfl (by decide) (by decide) hX
def rm_Str_indexOf2 : Room := { frames := 2, cells := 0, slots := 0, locals := 48 }
def f_Str_indexOf2 (a1 : Int32) (a2 : Int32) (w : am_w) : Option (Int32 × am_w) := ((f_Str_isLatin1  w).bind fun q1 => (if q1.1 = 0 then ((f_Str_length  q1.2).bind fun q2 => none) else ((f_Str_length  q1.2).bind fun q3 => ((f_Lat_indexOf a1 a2 q3.1 q3.2).bind fun q4 => (some (q4.1, q4.2))))))
theorem hd_Str_indexOf2 : y_Str_indexOf2.cls = "java/lang/String" ∧ y_Str_indexOf2.cls ≠ "java/lang/invoke/MethodHandle" ∧ y_Str_indexOf2.cls ≠ "java/lang/invoke/VarHandle" ∧ (parseMethodDescriptor y_Str_indexOf2.desc).map (fun d => d.parameters.length) = some 2 := ⟨rfl, by decide, by decide, by decide +kernel⟩
set_option maxHeartbeats 4000000 in
theorem c_Str_indexOf2 {l : Launch} {D : va_G} {A : Nat → Prop} {a1 : Int32} {a2 : Int32} {w : am_w} {r : Int32 × am_w} (hX : f_Str_indexOf2 a1 a2 w = some r) : am_Met l D classes tys A (am_F A false) y_Str_indexOf2 (Cond.code y_Str_indexOf2 b_Str_indexOf2 3 (some .int) :: am_W) rm_Str_indexOf2 [.ref (D.1 1000), .int a1, .int a2] w (am_ri r) 0 0 := by
  refine am_ofVF (by decide +kernel) am_W_good (Nat.le_of_ble_eq_true rfl) (by simp [Value.category]) ?_
  intro p e s m below meth c C hret hlk hnm
  unfold f_Str_indexOf2 at hX
  refine am_aload_n (pc := 0) C d_Str_indexOf2_0 rfl rfl ?_
  refine am_callK (pc := 1) (As := []) (st := []) (cells1 := 0) (slots1 := 0) C (fun _ h => h.2) (fun _ h => by cases h.1) (fun q h => c_Str_isLatin1 h) wd_3_0 wd_3_1 wd_3_2 wd_1_15 wd_3_3 rfl rfl hd_Str_isLatin1 ⟨by decide, by decide⟩ rfl (Nat.le_of_ble_eq_true rfl) d_Str_indexOf2_1 ⟨by decide, by decide⟩ rfl rfl rfl hX (fun q1 hX => ?_)
  refine am_if_eq (pc := 4) (tgt := 23) C d_Str_indexOf2_4 rfl hX (fun hX => ?_) (fun hX => ?_)
  · skip
    refine am_aload_n (pc := 23) C d_Str_indexOf2_23 rfl rfl ?_
    refine am_getKv (pc := 24) C (fun _ h => h.2) wd_5_160 d_Str_indexOf2_24 ?_
    refine am_iload_n (pc := 27) C d_Str_indexOf2_27 rfl rfl ?_
    refine am_iload_n (pc := 28) C d_Str_indexOf2_28 rfl rfl ?_
    refine am_aload_n (pc := 29) C d_Str_indexOf2_29 rfl rfl ?_
    refine am_callK (pc := 30) (As := []) (st := [.int a2, .int a1, .ref (D.1 1001)]) (cells1 := 0) (slots1 := 0) C (fun _ h => h.2) (fun _ h => by cases h.1) (fun q h => c_Str_length h) wd_3_6 wd_3_7 wd_3_8 wd_1_15 wd_3_9 rfl rfl hd_Str_length ⟨by decide, by decide⟩ rfl (Nat.le_of_ble_eq_true rfl) d_Str_indexOf2_30 ⟨by decide, by decide⟩ rfl rfl rfl hX (fun q2 hX => ?_)
    exact (am_nn hX).elim
  · skip
    refine am_aload_n (pc := 7) C d_Str_indexOf2_7 rfl rfl ?_
    refine am_getKv (pc := 8) C (fun _ h => h.2) wd_5_160 d_Str_indexOf2_8 ?_
    refine am_iload_n (pc := 11) C d_Str_indexOf2_11 rfl rfl ?_
    refine am_iload_n (pc := 12) C d_Str_indexOf2_12 rfl rfl ?_
    refine am_aload_n (pc := 13) C d_Str_indexOf2_13 rfl rfl ?_
    refine am_callK (pc := 14) (As := []) (st := [.int a2, .int a1, .ref (D.1 1001)]) (cells1 := 0) (slots1 := 0) C (fun _ h => h.2) (fun _ h => by cases h.1) (fun q h => c_Str_length h) wd_3_6 wd_3_7 wd_3_8 wd_1_15 wd_3_9 rfl rfl hd_Str_length ⟨by decide, by decide⟩ rfl (Nat.le_of_ble_eq_true rfl) d_Str_indexOf2_14 ⟨by decide, by decide⟩ rfl rfl rfl hX (fun q3 hX => ?_)
    refine am_callSi (pc := 17) (As := [.ref (D.1 1001), .int a1, .int a2, .int q3.1]) (st := []) (cells1 := 0) (slots1 := 0) C (fun _ h => h.2) (fun _ h => by cases h.1) (fun q h => c_Lat_indexOf h) wd_3_14 wd_3_15 wd_1_16 wd_3_16 rfl rfl hd_Lat_indexOf ⟨by decide, by decide⟩ rfl (Nat.le_of_ble_eq_true rfl) d_Str_indexOf2_17 ⟨by decide, by decide⟩ rfl rfl rfl hX (fun q4 hX => ?_)
    refine am_goto (pc := 20) (tgt := 36) C d_Str_indexOf2_20 rfl ?_
    exact am_iret (pc := 36) C hret hlk d_Str_indexOf2_36 rfl (by decide) (by decide) hX
def rm_Str_indexOf : Room := { frames := 3, cells := 0, slots := 0, locals := 70 }
def f_Str_indexOf (a1 : Int32) (w : am_w) : Option (Int32 × am_w) := ((f_Str_indexOf2 a1 (0 : Int32) w).bind fun q1 => (some (q1.1, q1.2)))
theorem hd_Str_indexOf : y_Str_indexOf.cls = "java/lang/String" ∧ y_Str_indexOf.cls ≠ "java/lang/invoke/MethodHandle" ∧ y_Str_indexOf.cls ≠ "java/lang/invoke/VarHandle" ∧ (parseMethodDescriptor y_Str_indexOf.desc).map (fun d => d.parameters.length) = some 1 := ⟨rfl, by decide, by decide, by decide +kernel⟩
set_option maxHeartbeats 4000000 in
theorem c_Str_indexOf {l : Launch} {D : va_G} {A : Nat → Prop} {a1 : Int32} {w : am_w} {r : Int32 × am_w} (hX : f_Str_indexOf a1 w = some r) : am_Met l D classes tys A (am_F A false) y_Str_indexOf (Cond.code y_Str_indexOf b_Str_indexOf 2 (some .int) :: am_W) rm_Str_indexOf [.ref (D.1 1000), .int a1] w (am_ri r) 0 0 := by
  refine am_ofVF (by decide +kernel) am_W_good (Nat.le_of_ble_eq_true rfl) (by simp [Value.category]) ?_
  intro p e s m below meth c C hret hlk hnm
  unfold f_Str_indexOf at hX
  refine am_aload_n (pc := 0) C d_Str_indexOf_0 rfl rfl ?_
  refine am_iload_n (pc := 1) C d_Str_indexOf_1 rfl rfl ?_
  refine am_iconst (pc := 2) (v := (0 : Int32)) C d_Str_indexOf_2 (by decide) ?_
  refine am_callK (pc := 3) (As := [.int a1, .int (0 : Int32)]) (st := []) (cells1 := 0) (slots1 := 0) C (fun _ h => h.2) (fun _ h => by cases h.1) (fun q h => c_Str_indexOf2 h) wd_2_236 wd_2_237 wd_2_238 wd_1_15 wd_2_239 rfl rfl hd_Str_indexOf2 ⟨by decide, by decide⟩ rfl (Nat.le_of_ble_eq_true rfl) d_Str_indexOf_3 ⟨by decide, by decide⟩ rfl rfl rfl hX (fun q1 hX => ?_)
  exact am_iret (pc := 6) C hret hlk d_Str_indexOf_6 rfl (by decide) (by decide) hX
