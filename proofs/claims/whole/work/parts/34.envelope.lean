def rm_Envelope_init : Room := { frames := 1, cells := 1, slots := 31, locals := 21 }
def f_Envelope_init (a0 : Nat) (w : am_w) : Option (Int32 × am_w) := (am_let (am_nw (.inr (.int, 31)) w) fun w1 => ((am_rp 4 0 a0 w.1 w1).bind fun w3 => (some (0, w3))))
theorem hd_Envelope_init : y_Envelope_init.cls ≠ "java/lang/invoke/MethodHandle" ∧ y_Envelope_init.cls ≠ "java/lang/invoke/VarHandle" ∧ (parseMethodDescriptor y_Envelope_init.desc).map (fun d => d.parameters.length) = some 0 := ⟨by decide, by decide, by decide +kernel⟩
set_option maxHeartbeats 4000000 in
theorem c_Envelope_init {l : Launch} {D : va_G} {A : Nat → Prop} {a0 : Nat} {w : am_w} {r : Int32 × am_w} (hX : f_Envelope_init a0 w = some r) : am_Met l D classes tys A (am_F A true) y_Envelope_init (Cond.code y_Envelope_init b_Envelope_init 1 none :: am_W) rm_Envelope_init [.ref a0] w (am_rv r) 1 31 := by
  refine am_ofV (by decide) am_W_good (Nat.le_of_ble_eq_true rfl) (by simp [Value.category]) ?_
  intro p e s m below meth c C hret hlk hnm
  unfold f_Envelope_init at hX
  refine am_aload_n (pc := 0) C d_Envelope_init_0 rfl rfl ?_
  refine am_objInit (pc := 1) C wd_1_114 wd_1_27 wd_1_28 d_Envelope_init_1 (by decide) (Nat.le_of_ble_eq_true rfl) ?_
  refine am_aload_n (pc := 4) C d_Envelope_init_4 rfl rfl ?_
  refine am_bipush (pc := 5) (v := (31 : Int32)) C d_Envelope_init_5 (by decide) ?_
  refine am_newa (pc := 7) (atype := .int) (N := 31) (t9 := .int) C wd_1_108 rfl rfl (by decide) (by decide) (by decide) (by decide) (by decide) d_Envelope_init_7 ?_
  obtain ⟨w1, ew1, hX⟩ := am_let_of hX
  rw [← ew1]
  refine am_putrF (pc := 9) C (fun _ h => ⟨rfl, h⟩) hin_Envelope t_Envelope t_Envelope_ok n_Envelope rfl (by decide) wd_1_115 rfl rfl rfl hnm (t_Envelope_ok 0 (by decide)) rfl rfl rfl d_Envelope_init_9 hX (fun w3 hX => ?_)
  exact am_vret (pc := 12) C hret hlk d_Envelope_init_12 (by decide) (by decide) hX
def rm_Envelope_clear : Room := { frames := 0, cells := 0, slots := 0, locals := 0 }
def s_Envelope_clear_17 (k17 : Nat → Int32 → am_w → Option (Int32 × am_w)) (v0 : Nat) (v1 : Int32) (w : am_w) : Option (Int32 × am_w) := ((am_rg 4 0 v0 w).bind fun b4 => ((am_al b4 w).bind fun x5 => (if x5 ≤ v1 then (some (0, w)) else ((am_rg 4 0 v0 w).bind fun b6 => ((am_is b6 v1 (0 : Int32) w).bind fun w7 => (k17 v0 (v1 + (1 : Int32)) w7))))))
def f_Envelope_clear_17  (n : Nat) : Nat → Int32 → am_w → Option (Int32 × am_w) := am_it (fun _ _ _ => none) (s_Envelope_clear_17 ) n
set_option maxHeartbeats 4000000 in
theorem L_Envelope_clear_17 {p : Program} {l : Launch} {e : Env} {s : State} {m : MethodId} {args : Array Value} {below : List Frame} {meth : Method} {c : Code} {D : va_G} {A : Nat → Prop} {r : Int32 × am_w} (C : am_C p m c b_Envelope_clear 2 s args am_W "RoverMinutes$Envelope" D classes A) (hret : meth.sig.returnType = none) (hlk : meth.locks = false)   (n : Nat) : ∀ (v0 : Nat) (v1 : Int32) (w : am_w), f_Envelope_clear_17  n v0 v1 w = some r → am_V p l e rm_Envelope_clear s m args below meth c D classes tys A (am_F A true) 2 0 0 (MQ below (am_Q D classes tys A (am_F A true) (am_rv r)) args s 0 0 (am_F A true)) 17 [some (.ref v0), some (.int v1)] [] w := by
  refine am_it_ind (P := fun (t : Nat → Int32 → am_w → Option (Int32 × am_w)) => ∀ (v0 : Nat) (v1 : Int32) (w : am_w), t v0 v1 w = some r → am_V p l e rm_Envelope_clear s m args below meth c D classes tys A (am_F A true) 2 0 0 (MQ below (am_Q D classes tys A (am_F A true) (am_rv r)) args s 0 0 (am_F A true)) 17 [some (.ref v0), some (.int v1)] [] w) ?_ ?_ n
  · intro v0 v1 w hX
    exact (am_nn hX).elim
  · intro k17 hk17 v0 v1 w hX
    unfold s_Envelope_clear_17 at hX
    refine am_iload_n (pc := 17) C d_Envelope_clear_17 rfl rfl ?_
    refine am_aload_n (pc := 18) C d_Envelope_clear_18 rfl rfl ?_
    refine am_getr (pc := 19) C hin_Envelope rfl (by decide) wd_1_115 rfl d_Envelope_clear_19 rfl hX (fun b4 hX => ?_)
    refine am_arlen (pc := 22) C d_Envelope_clear_22 hX (fun x5 hX => ?_)
    refine am_icmp_ge (pc := 23) (tgt := 39) C d_Envelope_clear_23 rfl hX (fun hX => ?_) (fun hX => ?_)
    · skip
      exact am_vret (pc := 39) C hret hlk d_Envelope_clear_39 (by decide) (by decide) hX
    · skip
      refine am_aload_n (pc := 26) C d_Envelope_clear_26 rfl rfl ?_
      refine am_getr (pc := 27) C hin_Envelope rfl (by decide) wd_1_115 rfl d_Envelope_clear_27 rfl hX (fun b6 hX => ?_)
      refine am_iload_n (pc := 30) C d_Envelope_clear_30 rfl rfl ?_
      refine am_iconst (pc := 31) (v := (0 : Int32)) C d_Envelope_clear_31 (by decide) ?_
      refine am_iast (pc := 32) C (fun _ h => ⟨rfl, h⟩) d_Envelope_clear_32 hX (fun w7 hX => ?_)
      refine am_iinc (pc := 33) (y := (1 : Int32)) (lo1 := [some (.ref v0), some (.int (v1 + (1 : Int32)))]) C d_Envelope_clear_33 rfl (by decide) (by decide) rfl ?_
      refine am_goto (pc := 36) (tgt := 17) C d_Envelope_clear_36 rfl ?_
      exact (hk17 v0 (v1 + (1 : Int32)) w7 hX)
def f_Envelope_clear (a0 : Nat) (w : am_w) : Option (Int32 × am_w) := ((am_fp 4 1 a0 (0 : Int32) w).bind fun w1 => ((am_fp 4 2 a0 (0 : Int32) w1).bind fun w2 => ((am_fp 4 3 a0 (0 : Int32) w2).bind fun w3 => (f_Envelope_clear_17  70 a0 (0 : Int32) w3))))
theorem hd_Envelope_clear : y_Envelope_clear.cls = "RoverMinutes$Envelope" ∧ y_Envelope_clear.cls ≠ "java/lang/invoke/MethodHandle" ∧ y_Envelope_clear.cls ≠ "java/lang/invoke/VarHandle" ∧ (parseMethodDescriptor y_Envelope_clear.desc).map (fun d => d.parameters.length) = some 0 := ⟨rfl, by decide, by decide, by decide +kernel⟩
set_option maxHeartbeats 4000000 in
theorem c_Envelope_clear {l : Launch} {D : va_G} {A : Nat → Prop} {a0 : Nat} {w : am_w} {r : Int32 × am_w} (hX : f_Envelope_clear a0 w = some r) : am_Met l D classes tys A (am_F A true) y_Envelope_clear (Cond.code y_Envelope_clear b_Envelope_clear 2 none :: am_W) rm_Envelope_clear [.ref a0] w (am_rv r) 0 0 := by
  refine am_ofV (by decide) am_W_good (Nat.le_of_ble_eq_true rfl) (by simp [Value.category]) ?_
  intro p e s m below meth c C hret hlk hnm
  unfold f_Envelope_clear at hX
  refine am_aload_n (pc := 0) C d_Envelope_clear_0 rfl rfl ?_
  refine am_iconst (pc := 1) (v := (0 : Int32)) C d_Envelope_clear_1 (by decide) ?_
  refine am_put (pc := 2) C (fun _ h => ⟨rfl, h⟩) hin_Envelope t_Envelope t_Envelope_ok n_Envelope rfl (by decide) wd_1_116 rfl rfl (t_Envelope_ok 1 (by decide)) rfl rfl rfl d_Envelope_clear_2 hX (fun w1 hX => ?_)
  refine am_aload_n (pc := 5) C d_Envelope_clear_5 rfl rfl ?_
  refine am_iconst (pc := 6) (v := (0 : Int32)) C d_Envelope_clear_6 (by decide) ?_
  refine am_put (pc := 7) C (fun _ h => ⟨rfl, h⟩) hin_Envelope t_Envelope t_Envelope_ok n_Envelope rfl (by decide) wd_1_117 rfl rfl (t_Envelope_ok 2 (by decide)) rfl rfl rfl d_Envelope_clear_7 hX (fun w2 hX => ?_)
  refine am_aload_n (pc := 10) C d_Envelope_clear_10 rfl rfl ?_
  refine am_iconst (pc := 11) (v := (0 : Int32)) C d_Envelope_clear_11 (by decide) ?_
  refine am_put (pc := 12) C (fun _ h => ⟨rfl, h⟩) hin_Envelope t_Envelope t_Envelope_ok n_Envelope rfl (by decide) wd_1_118 rfl rfl (t_Envelope_ok 3 (by decide)) rfl rfl rfl d_Envelope_clear_12 hX (fun w3 hX => ?_)
  refine am_iconst (pc := 15) (v := (0 : Int32)) C d_Envelope_clear_15 (by decide) ?_
  refine am_istore_n (pc := 16) (lo1 := [some (.ref a0), some (.int (0 : Int32))]) C d_Envelope_clear_16 rfl (by decide) rfl ?_
  exact (L_Envelope_clear_17 C hret hlk  70 a0 (0 : Int32) w3 hX)
def rm_Envelope_add : Room := { frames := 1, cells := 0, slots := 0, locals := 21 }
def s_Envelope_add_30 (k30 : Nat → Nat → Int32 → Int32 → am_w → Option (Int32 × am_w)) (v0 : Nat) (v1 : Nat) (v2 : Int32) (v3 : Int32) (w : am_w) : Option (Int32 × am_w) := (if v2 < v3 then (some (0, w)) else ((am_rg 4 0 v0 w).bind fun b7 => ((am_al b7 w).bind fun x8 => (if x8 ≤ v3 then (some (0, w)) else ((am_rg 4 0 v0 w).bind fun b9 => ((am_ig b9 v3 w).bind fun x10 => ((am_fg 6 2 v1 w).bind fun x11 => ((am_is b9 v3 (x10 + x11) w).bind fun w12 => ((am_fg 4 1 v0 w12).bind fun x13 => (am_let (if x13 < v3 then v3 else x13) fun x14 => ((am_fp 4 1 v0 x14 w12).bind fun w15 => (k30 v0 v1 v2 (v3 + (1 : Int32)) w15))))))))))))
def f_Envelope_add_30  (n : Nat) : Nat → Nat → Int32 → Int32 → am_w → Option (Int32 × am_w) := am_it (fun _ _ _ _ _ => none) (s_Envelope_add_30 ) n
set_option maxHeartbeats 4000000 in
theorem L_Envelope_add_30 {p : Program} {l : Launch} {e : Env} {s : State} {m : MethodId} {args : Array Value} {below : List Frame} {meth : Method} {c : Code} {D : va_G} {A : Nat → Prop} {r : Int32 × am_w} (C : am_C p m c b_Envelope_add 4 s args am_W "RoverMinutes$Envelope" D classes A) (hret : meth.sig.returnType = none) (hlk : meth.locks = false)   (n : Nat) : ∀ (v0 : Nat) (v1 : Nat) (v2 : Int32) (v3 : Int32) (w : am_w), f_Envelope_add_30  n v0 v1 v2 v3 w = some r → am_V p l e rm_Envelope_add s m args below meth c D classes tys A (am_F A true) 4 0 0 (MQ below (am_Q D classes tys A (am_F A true) (am_rv r)) args s 0 0 (am_F A true)) 30 [some (.ref v0), some (.ref v1), some (.int v2), some (.int v3)] [] w := by
  refine am_it_ind (P := fun (t : Nat → Nat → Int32 → Int32 → am_w → Option (Int32 × am_w)) => ∀ (v0 : Nat) (v1 : Nat) (v2 : Int32) (v3 : Int32) (w : am_w), t v0 v1 v2 v3 w = some r → am_V p l e rm_Envelope_add s m args below meth c D classes tys A (am_F A true) 4 0 0 (MQ below (am_Q D classes tys A (am_F A true) (am_rv r)) args s 0 0 (am_F A true)) 30 [some (.ref v0), some (.ref v1), some (.int v2), some (.int v3)] [] w) ?_ ?_ n
  · intro v0 v1 v2 v3 w hX
    exact (am_nn hX).elim
  · intro k30 hk30 v0 v1 v2 v3 w hX
    unfold s_Envelope_add_30 at hX
    refine am_iload_n (pc := 30) C d_Envelope_add_30 rfl rfl ?_
    refine am_iload_n (pc := 31) C d_Envelope_add_31 rfl rfl ?_
    refine am_icmp_gt (pc := 32) (tgt := 75) C d_Envelope_add_32 rfl hX (fun hX => ?_) (fun hX => ?_)
    · skip
      exact am_vret (pc := 75) C hret hlk d_Envelope_add_75 (by decide) (by decide) hX
    · skip
      refine am_iload_n (pc := 35) C d_Envelope_add_35 rfl rfl ?_
      refine am_aload_n (pc := 36) C d_Envelope_add_36 rfl rfl ?_
      refine am_getr (pc := 37) C hin_Envelope rfl (by decide) wd_1_115 rfl d_Envelope_add_37 rfl hX (fun b7 hX => ?_)
      refine am_arlen (pc := 40) C d_Envelope_add_40 hX (fun x8 hX => ?_)
      refine am_icmp_ge (pc := 41) (tgt := 75) C d_Envelope_add_41 rfl hX (fun hX => ?_) (fun hX => ?_)
      · skip
        exact am_vret (pc := 75) C hret hlk d_Envelope_add_75 (by decide) (by decide) hX
      · skip
        refine am_aload_n (pc := 44) C d_Envelope_add_44 rfl rfl ?_
        refine am_getr (pc := 45) C hin_Envelope rfl (by decide) wd_1_115 rfl d_Envelope_add_45 rfl hX (fun b9 hX => ?_)
        refine am_iload_n (pc := 48) C d_Envelope_add_48 rfl rfl ?_
        refine am_dup2 (pc := 49) C d_Envelope_add_49 rfl rfl ?_
        refine am_iald (pc := 50) C d_Envelope_add_50 hX (fun x10 hX => ?_)
        refine am_aload_n (pc := 51) C d_Envelope_add_51 rfl rfl ?_
        refine am_get (pc := 52) C hin_Activity rfl (by decide) wd_1_149 rfl d_Envelope_add_52 rfl hX (fun x11 hX => ?_)
        refine am_iadd (pc := 55) C d_Envelope_add_55 ?_
        refine am_iast (pc := 56) C (fun _ h => ⟨rfl, h⟩) d_Envelope_add_56 hX (fun w12 hX => ?_)
        refine am_aload_n (pc := 57) C d_Envelope_add_57 rfl rfl ?_
        refine am_aload_n (pc := 58) C d_Envelope_add_58 rfl rfl ?_
        refine am_get (pc := 59) C hin_Envelope rfl (by decide) wd_1_116 rfl d_Envelope_add_59 rfl hX (fun x13 hX => ?_)
        refine am_iload_n (pc := 62) C d_Envelope_add_62 rfl rfl ?_
        refine am_mmax (pc := 63) C wd_2_79 wd_1_77 wd_1_5 wd_1_78 (by decide) (Nat.le_of_ble_eq_true rfl) (by decide) (by decide) d_Envelope_add_63 ?_
        obtain ⟨x14, ex14, hX⟩ := am_let_of hX
        rw [← ex14]
        refine am_put (pc := 66) C (fun _ h => ⟨rfl, h⟩) hin_Envelope t_Envelope t_Envelope_ok n_Envelope rfl (by decide) wd_1_116 rfl rfl (t_Envelope_ok 1 (by decide)) rfl rfl rfl d_Envelope_add_66 hX (fun w15 hX => ?_)
        refine am_iinc (pc := 69) (y := (1 : Int32)) (lo1 := [some (.ref v0), some (.ref v1), some (.int v2), some (.int (v3 + (1 : Int32)))]) C d_Envelope_add_69 rfl (by decide) (by decide) rfl ?_
        refine am_goto (pc := 72) (tgt := 30) C d_Envelope_add_72 rfl ?_
        exact (hk30 v0 v1 v2 (v3 + (1 : Int32)) w15 hX)
def f_Envelope_add (a0 : Nat) (a1 : Nat) (a2 : Int32) (w : am_w) : Option (Int32 × am_w) := ((am_fg 4 2 a0 w).bind fun x1 => ((am_fg 6 4 a1 w).bind fun x2 => ((am_fp 4 2 a0 (x1 + x2) w).bind fun w3 => ((am_fg 4 3 a0 w3).bind fun x4 => ((am_fg 6 3 a1 w3).bind fun x5 => ((am_fp 4 3 a0 (x4 + (x5 * a2)) w3).bind fun w6 => (f_Envelope_add_30  70 a0 a1 a2 (1 : Int32) w6)))))))
theorem hd_Envelope_add : y_Envelope_add.cls = "RoverMinutes$Envelope" ∧ y_Envelope_add.cls ≠ "java/lang/invoke/MethodHandle" ∧ y_Envelope_add.cls ≠ "java/lang/invoke/VarHandle" ∧ (parseMethodDescriptor y_Envelope_add.desc).map (fun d => d.parameters.length) = some 2 := ⟨rfl, by decide, by decide, by decide +kernel⟩
set_option maxHeartbeats 4000000 in
theorem c_Envelope_add {l : Launch} {D : va_G} {A : Nat → Prop} {a0 : Nat} {a1 : Nat} {a2 : Int32} {w : am_w} {r : Int32 × am_w} (hX : f_Envelope_add a0 a1 a2 w = some r) : am_Met l D classes tys A (am_F A true) y_Envelope_add (Cond.code y_Envelope_add b_Envelope_add 4 none :: am_W) rm_Envelope_add [.ref a0, .ref a1, .int a2] w (am_rv r) 0 0 := by
  refine am_ofV (by decide) am_W_good (Nat.le_of_ble_eq_true rfl) (by simp [Value.category]) ?_
  intro p e s m below meth c C hret hlk hnm
  unfold f_Envelope_add at hX
  refine am_aload_n (pc := 0) C d_Envelope_add_0 rfl rfl ?_
  refine am_dup (pc := 1) C d_Envelope_add_1 rfl ?_
  refine am_get (pc := 2) C hin_Envelope rfl (by decide) wd_1_117 rfl d_Envelope_add_2 rfl hX (fun x1 hX => ?_)
  refine am_aload_n (pc := 5) C d_Envelope_add_5 rfl rfl ?_
  refine am_get (pc := 6) C hin_Activity rfl (by decide) wd_1_156 rfl d_Envelope_add_6 rfl hX (fun x2 hX => ?_)
  refine am_iadd (pc := 9) C d_Envelope_add_9 ?_
  refine am_put (pc := 10) C (fun _ h => ⟨rfl, h⟩) hin_Envelope t_Envelope t_Envelope_ok n_Envelope rfl (by decide) wd_1_117 rfl rfl (t_Envelope_ok 2 (by decide)) rfl rfl rfl d_Envelope_add_10 hX (fun w3 hX => ?_)
  refine am_aload_n (pc := 13) C d_Envelope_add_13 rfl rfl ?_
  refine am_dup (pc := 14) C d_Envelope_add_14 rfl ?_
  refine am_get (pc := 15) C hin_Envelope rfl (by decide) wd_1_118 rfl d_Envelope_add_15 rfl hX (fun x4 hX => ?_)
  refine am_aload_n (pc := 18) C d_Envelope_add_18 rfl rfl ?_
  refine am_get (pc := 19) C hin_Activity rfl (by decide) wd_1_152 rfl d_Envelope_add_19 rfl hX (fun x5 hX => ?_)
  refine am_iload_n (pc := 22) C d_Envelope_add_22 rfl rfl ?_
  refine am_imul (pc := 23) C d_Envelope_add_23 ?_
  refine am_iadd (pc := 24) C d_Envelope_add_24 ?_
  refine am_put (pc := 25) C (fun _ h => ⟨rfl, h⟩) hin_Envelope t_Envelope t_Envelope_ok n_Envelope rfl (by decide) wd_1_118 rfl rfl (t_Envelope_ok 3 (by decide)) rfl rfl rfl d_Envelope_add_25 hX (fun w6 hX => ?_)
  refine am_iconst (pc := 28) (v := (1 : Int32)) C d_Envelope_add_28 (by decide) ?_
  refine am_istore_n (pc := 29) (lo1 := [some (.ref a0), some (.ref a1), some (.int a2), some (.int (1 : Int32))]) C d_Envelope_add_29 rfl (by decide) rfl ?_
  exact (L_Envelope_add_30 C hret hlk  70 a0 a1 a2 (1 : Int32) w6 hX)
def rm_Envelope_gather : Room := { frames := 2, cells := 0, slots := 0, locals := 44 }
def s_Envelope_gather_6 (k6 : Nat → Nat → Int32 → Int32 → am_w → Option (Int32 × am_w)) (v0 : Nat) (v1 : Nat) (v2 : Int32) (v3 : Int32) (w : am_w) : Option (Int32 × am_w) := ((am_fg 5 1 v1 w).bind fun x2 => (if x2 ≤ v3 then (some (0, w)) else ((am_rg 5 0 v1 w).bind fun b3 => ((am_ag b3 v3 w).bind fun b4 => ((am_ob 6 b4 w (f_Activity_isRunning b4 w)).bind fun q5 => (if q5.1 = 0 then (if v3 = v2 then ((am_fg 6 1 b4 q5.2).bind fun x6 => ((am_ob 4 v0 q5.2 (f_Envelope_add v0 b4 x6 q5.2)).bind fun q7 => (k6 v0 v1 v2 (v3 + (1 : Int32)) q7.2))) else (k6 v0 v1 v2 (v3 + (1 : Int32)) q5.2)) else ((am_fg 6 1 b4 q5.2).bind fun x8 => ((am_fg 6 12 b4 q5.2).bind fun x9 => ((am_ob 4 v0 q5.2 (f_Envelope_add v0 b4 (x8 - x9) q5.2)).bind fun q10 => (k6 v0 v1 v2 (v3 + (1 : Int32)) q10.2))))))))))
def f_Envelope_gather_6  (n : Nat) : Nat → Nat → Int32 → Int32 → am_w → Option (Int32 × am_w) := am_it (fun _ _ _ _ _ => none) (s_Envelope_gather_6 ) n
set_option maxHeartbeats 4000000 in
theorem L_Envelope_gather_6 {p : Program} {l : Launch} {e : Env} {s : State} {m : MethodId} {args : Array Value} {below : List Frame} {meth : Method} {c : Code} {D : va_G} {A : Nat → Prop} {r : Int32 × am_w} (C : am_C p m c b_Envelope_gather 5 s args am_W "RoverMinutes$Envelope" D classes A) (hret : meth.sig.returnType = none) (hlk : meth.locks = false)   (n : Nat) : ∀ (v0 : Nat) (v1 : Nat) (v2 : Int32) (v3 : Int32) (w : am_w), f_Envelope_gather_6  n v0 v1 v2 v3 w = some r → am_V p l e rm_Envelope_gather s m args below meth c D classes tys A (am_F A true) 5 0 0 (MQ below (am_Q D classes tys A (am_F A true) (am_rv r)) args s 0 0 (am_F A true)) 6 [some (.ref v0), some (.ref v1), some (.int v2), some (.int v3), none] [] w := by
  refine am_it_ind (P := fun (t : Nat → Nat → Int32 → Int32 → am_w → Option (Int32 × am_w)) => ∀ (v0 : Nat) (v1 : Nat) (v2 : Int32) (v3 : Int32) (w : am_w), t v0 v1 v2 v3 w = some r → am_V p l e rm_Envelope_gather s m args below meth c D classes tys A (am_F A true) 5 0 0 (MQ below (am_Q D classes tys A (am_F A true) (am_rv r)) args s 0 0 (am_F A true)) 6 [some (.ref v0), some (.ref v1), some (.int v2), some (.int v3), none] [] w) ?_ ?_ n
  · intro v0 v1 v2 v3 w hX
    exact (am_nn hX).elim
  · intro k6 hk6 v0 v1 v2 v3 w hX
    unfold s_Envelope_gather_6 at hX
    refine am_iload_n (pc := 6) C d_Envelope_gather_6 rfl rfl ?_
    refine am_aload_n (pc := 7) C d_Envelope_gather_7 rfl rfl ?_
    refine am_get (pc := 8) C hin_Plan rfl (by decide) wd_1_237 rfl d_Envelope_gather_8 rfl hX (fun x2 hX => ?_)
    refine am_icmp_ge (pc := 11) (tgt := 72) C d_Envelope_gather_11 rfl hX (fun hX => ?_) (fun hX => ?_)
    · skip
      exact am_vret (pc := 72) C hret hlk d_Envelope_gather_72 (by decide) (by decide) hX
    · skip
      refine am_aload_n (pc := 14) C d_Envelope_gather_14 rfl rfl ?_
      refine am_getr (pc := 15) C hin_Plan rfl (by decide) wd_1_234 rfl d_Envelope_gather_15 rfl hX (fun b3 hX => ?_)
      refine am_iload_n (pc := 18) C d_Envelope_gather_18 rfl rfl ?_
      refine am_aald (pc := 19) C d_Envelope_gather_19 hX (fun b4 hX => ?_)
      refine am_astore (pc := 20) (lo1 := [some (.ref v0), some (.ref v1), some (.int v2), some (.int v3), some (.ref b4)]) C d_Envelope_gather_20 (by decide) rfl ?_
      refine am_aload (pc := 22) C d_Envelope_gather_22 rfl ?_
      refine am_callVi (pc := 24) (As := []) (st := []) (cells1 := 0) (slots1 := 0) C (fun _ h => h.2) (fun _ h => by cases h.1) (fun q h => c_Activity_isRunning h) wd_2_71 wd_2_72 wd_2_73 wd_1_8 wd_2_74 rfl rfl hd_Activity_isRunning ⟨by decide, by decide⟩ rfl rfl (Nat.le_of_ble_eq_true rfl) d_Envelope_gather_24 ⟨by decide, by decide⟩ rfl rfl rfl hX (fun q5 hX => ?_)
      refine am_if_eq (pc := 27) (tgt := 50) C d_Envelope_gather_27 rfl hX (fun hX => ?_) (fun hX => ?_)
      · skip
        refine am_iload_n (pc := 50) C d_Envelope_gather_50 rfl rfl ?_
        refine am_iload_n (pc := 51) C d_Envelope_gather_51 rfl rfl ?_
        refine am_icmp_ne (pc := 52) (tgt := 66) C d_Envelope_gather_52 rfl hX (fun hX => ?_) (fun hX => ?_)
        · skip
          refine am_iinc (pc := 66) (y := (1 : Int32)) (lo1 := [some (.ref v0), some (.ref v1), some (.int v2), some (.int (v3 + (1 : Int32))), some (.ref b4)]) C d_Envelope_gather_66 rfl (by decide) (by decide) rfl ?_
          refine am_goto (pc := 69) (tgt := 6) C d_Envelope_gather_69 rfl ?_
          exact am_sub (am_le_s (am_le_s (am_le_s (am_le_s (am_le_n (am_le_0)))))) (hk6 v0 v1 v2 (v3 + (1 : Int32)) q5.2 hX)
        · skip
          refine am_aload_n (pc := 55) C d_Envelope_gather_55 rfl rfl ?_
          refine am_aload (pc := 56) C d_Envelope_gather_56 rfl ?_
          refine am_aload (pc := 58) C d_Envelope_gather_58 rfl ?_
          refine am_get (pc := 60) C hin_Activity rfl (by decide) wd_1_145 rfl d_Envelope_gather_60 rfl hX (fun x6 hX => ?_)
          refine am_callVv (pc := 63) (As := [.ref b4, .int x6]) (st := []) (cells1 := 0) (slots1 := 0) C (fun _ h => h.2) (fun _ h => h) (fun q h => c_Envelope_add h) wd_2_75 wd_2_77 ws_Envelope_add wd_1_6 wd_2_78 rfl rfl hd_Envelope_add ⟨by decide, by decide⟩ rfl rfl (Nat.le_of_ble_eq_true rfl) d_Envelope_gather_63 ⟨by decide, by decide⟩ rfl rfl rfl hX (fun q7 hX => ?_)
          refine am_iinc (pc := 66) (y := (1 : Int32)) (lo1 := [some (.ref v0), some (.ref v1), some (.int v2), some (.int (v3 + (1 : Int32))), some (.ref b4)]) C d_Envelope_gather_66 rfl (by decide) (by decide) rfl ?_
          refine am_goto (pc := 69) (tgt := 6) C d_Envelope_gather_69 rfl ?_
          exact am_sub (am_le_s (am_le_s (am_le_s (am_le_s (am_le_n (am_le_0)))))) (hk6 v0 v1 v2 (v3 + (1 : Int32)) q7.2 hX)
      · skip
        refine am_aload_n (pc := 30) C d_Envelope_gather_30 rfl rfl ?_
        refine am_aload (pc := 31) C d_Envelope_gather_31 rfl ?_
        refine am_aload (pc := 33) C d_Envelope_gather_33 rfl ?_
        refine am_get (pc := 35) C hin_Activity rfl (by decide) wd_1_145 rfl d_Envelope_gather_35 rfl hX (fun x8 hX => ?_)
        refine am_aload (pc := 38) C d_Envelope_gather_38 rfl ?_
        refine am_get (pc := 40) C hin_Activity rfl (by decide) wd_1_179 rfl d_Envelope_gather_40 rfl hX (fun x9 hX => ?_)
        refine am_isub (pc := 43) C d_Envelope_gather_43 ?_
        refine am_callVv (pc := 44) (As := [.ref b4, .int (x8 - x9)]) (st := []) (cells1 := 0) (slots1 := 0) C (fun _ h => h.2) (fun _ h => h) (fun q h => c_Envelope_add h) wd_2_75 wd_2_77 ws_Envelope_add wd_1_6 wd_2_78 rfl rfl hd_Envelope_add ⟨by decide, by decide⟩ rfl rfl (Nat.le_of_ble_eq_true rfl) d_Envelope_gather_44 ⟨by decide, by decide⟩ rfl rfl rfl hX (fun q10 hX => ?_)
        refine am_goto (pc := 47) (tgt := 66) C d_Envelope_gather_47 rfl ?_
        refine am_iinc (pc := 66) (y := (1 : Int32)) (lo1 := [some (.ref v0), some (.ref v1), some (.int v2), some (.int (v3 + (1 : Int32))), some (.ref b4)]) C d_Envelope_gather_66 rfl (by decide) (by decide) rfl ?_
        refine am_goto (pc := 69) (tgt := 6) C d_Envelope_gather_69 rfl ?_
        exact am_sub (am_le_s (am_le_s (am_le_s (am_le_s (am_le_n (am_le_0)))))) (hk6 v0 v1 v2 (v3 + (1 : Int32)) q10.2 hX)
def f_Envelope_gather (a0 : Nat) (a1 : Nat) (a2 : Int32) (w : am_w) : Option (Int32 × am_w) := ((am_ob 4 a0 w (f_Envelope_clear a0 w)).bind fun q1 => (f_Envelope_gather_6  70 a0 a1 a2 (0 : Int32) q1.2))
theorem hd_Envelope_gather : y_Envelope_gather.cls = "RoverMinutes$Envelope" ∧ y_Envelope_gather.cls ≠ "java/lang/invoke/MethodHandle" ∧ y_Envelope_gather.cls ≠ "java/lang/invoke/VarHandle" ∧ (parseMethodDescriptor y_Envelope_gather.desc).map (fun d => d.parameters.length) = some 2 := ⟨rfl, by decide, by decide, by decide +kernel⟩
set_option maxHeartbeats 4000000 in
theorem c_Envelope_gather {l : Launch} {D : va_G} {A : Nat → Prop} {a0 : Nat} {a1 : Nat} {a2 : Int32} {w : am_w} {r : Int32 × am_w} (hX : f_Envelope_gather a0 a1 a2 w = some r) : am_Met l D classes tys A (am_F A true) y_Envelope_gather (Cond.code y_Envelope_gather b_Envelope_gather 5 none :: am_W) rm_Envelope_gather [.ref a0, .ref a1, .int a2] w (am_rv r) 0 0 := by
  refine am_ofV (by decide) am_W_good (Nat.le_of_ble_eq_true rfl) (by simp [Value.category]) ?_
  intro p e s m below meth c C hret hlk hnm
  unfold f_Envelope_gather at hX
  refine am_aload_n (pc := 0) C d_Envelope_gather_0 rfl rfl ?_
  refine am_callVv (pc := 1) (As := []) (st := []) (cells1 := 0) (slots1 := 0) C (fun _ h => h.2) (fun _ h => h) (fun q h => c_Envelope_clear h) wd_2_67 wd_2_69 ws_Envelope_clear wd_1_6 wd_2_70 rfl rfl hd_Envelope_clear ⟨by decide, by decide⟩ rfl rfl (Nat.le_of_ble_eq_true rfl) d_Envelope_gather_1 ⟨by decide, by decide⟩ rfl rfl rfl hX (fun q1 hX => ?_)
  refine am_iconst (pc := 4) (v := (0 : Int32)) C d_Envelope_gather_4 (by decide) ?_
  refine am_istore_n (pc := 5) (lo1 := [some (.ref a0), some (.ref a1), some (.int a2), some (.int (0 : Int32)), none]) C d_Envelope_gather_5 rfl (by decide) rfl ?_
  exact (L_Envelope_gather_6 C hret hlk  70 a0 a1 a2 (0 : Int32) q1.2 hX)
def rm_Envelope_holds : Room := { frames := 3, cells := 0, slots := 0, locals := 66 }
def s_Envelope_holds_42 (k42 : Nat → Nat → Int32 → Int32 → Int32 → Int32 → am_w → Option (Int32 × am_w)) (v0 : Nat) (v1 : Nat) (v2 : Int32) (v3 : Int32) (v4 : Int32) (v5 : Int32) (w : am_w) : Option (Int32 × am_w) := ((am_fg 4 1 v0 w).bind fun x6 => (if x6 < v5 then (if v4 &&& 1 = v4 then some (v4, w) else none) else (if v4 = 0 then (if v4 &&& 1 = v4 then some (v4, w) else none) else ((am_ob 3 v1 w (f_Supply_lowerGain v1 (v2 + v5) w)).bind fun q7 => ((am_rg 4 0 v0 q7.2).bind fun b8 => ((am_ig b8 v5 q7.2).bind fun x9 => ((f_Supply_goOn v3 q7.1 x9 q7.2).bind fun q10 => ((am_ob 3 v1 q10.2 (f_Supply_isOpen v1 q10.1 (v2 + v5) q10.2)).bind fun q11 => (k42 v0 v1 v2 q10.1 q11.1 (v5 + (1 : Int32)) q11.2)))))))))
def f_Envelope_holds_42  (n : Nat) : Nat → Nat → Int32 → Int32 → Int32 → Int32 → am_w → Option (Int32 × am_w) := am_it (fun _ _ _ _ _ _ _ => none) (s_Envelope_holds_42 ) n
set_option maxHeartbeats 4000000 in
theorem L_Envelope_holds_42 {p : Program} {l : Launch} {e : Env} {s : State} {m : MethodId} {args : Array Value} {below : List Frame} {meth : Method} {c : Code} {D : va_G} {A : Nat → Prop} {r : Int32 × am_w} (C : am_C p m c b_Envelope_holds 6 s args am_W "RoverMinutes$Envelope" D classes A) (hret : meth.sig.returnType = (some .boolean)) (hlk : meth.locks = false)   (n : Nat) : ∀ (v0 : Nat) (v1 : Nat) (v2 : Int32) (v3 : Int32) (v4 : Int32) (v5 : Int32) (w : am_w), f_Envelope_holds_42  n v0 v1 v2 v3 v4 v5 w = some r → am_V p l e rm_Envelope_holds s m args below meth c D classes tys A (am_F A false) 6 0 0 (MQ below (am_Q D classes tys A (am_F A false) (am_ri r)) args s 0 0 (am_F A false)) 42 [some (.ref v0), some (.ref v1), some (.int v2), some (.int v3), some (.int v4), some (.int v5)] [] w := by
  refine am_it_ind (P := fun (t : Nat → Nat → Int32 → Int32 → Int32 → Int32 → am_w → Option (Int32 × am_w)) => ∀ (v0 : Nat) (v1 : Nat) (v2 : Int32) (v3 : Int32) (v4 : Int32) (v5 : Int32) (w : am_w), t v0 v1 v2 v3 v4 v5 w = some r → am_V p l e rm_Envelope_holds s m args below meth c D classes tys A (am_F A false) 6 0 0 (MQ below (am_Q D classes tys A (am_F A false) (am_ri r)) args s 0 0 (am_F A false)) 42 [some (.ref v0), some (.ref v1), some (.int v2), some (.int v3), some (.int v4), some (.int v5)] [] w) ?_ ?_ n
  · intro v0 v1 v2 v3 v4 v5 w hX
    exact (am_nn hX).elim
  · intro k42 hk42 v0 v1 v2 v3 v4 v5 w hX
    unfold s_Envelope_holds_42 at hX
    refine am_iload (pc := 42) C d_Envelope_holds_42 rfl ?_
    refine am_aload_n (pc := 44) C d_Envelope_holds_44 rfl rfl ?_
    refine am_get (pc := 45) C hin_Envelope rfl (by decide) wd_1_116 rfl d_Envelope_holds_45 rfl hX (fun x6 hX => ?_)
    refine am_icmp_gt (pc := 48) (tgt := 93) C d_Envelope_holds_48 rfl hX (fun hX => ?_) (fun hX => ?_)
    · skip
      refine am_iload (pc := 93) C d_Envelope_holds_93 rfl ?_
      exact am_zret (pc := 95) C hret hlk d_Envelope_holds_95 (by decide) (by decide) hX
    · skip
      refine am_iload (pc := 51) C d_Envelope_holds_51 rfl ?_
      refine am_if_eq (pc := 53) (tgt := 93) C d_Envelope_holds_53 rfl hX (fun hX => ?_) (fun hX => ?_)
      · skip
        refine am_iload (pc := 93) C d_Envelope_holds_93 rfl ?_
        exact am_zret (pc := 95) C hret hlk d_Envelope_holds_95 (by decide) (by decide) hX
      · skip
        refine am_iload_n (pc := 56) C d_Envelope_holds_56 rfl rfl ?_
        refine am_aload_n (pc := 57) C d_Envelope_holds_57 rfl rfl ?_
        refine am_iload_n (pc := 58) C d_Envelope_holds_58 rfl rfl ?_
        refine am_iload (pc := 59) C d_Envelope_holds_59 rfl ?_
        refine am_iadd (pc := 61) C d_Envelope_holds_61 ?_
        refine am_callVi (pc := 62) (As := [.int (v2 + v5)]) (st := [.int v3]) (cells1 := 0) (slots1 := 0) C (fun _ h => h.2) (fun _ h => by cases h.1) (fun q h => c_Supply_lowerGain h) wd_2_84 wd_2_85 wd_2_86 wd_1_4 wd_2_87 rfl rfl hd_Supply_lowerGain ⟨by decide, by decide⟩ rfl rfl (Nat.le_of_ble_eq_true rfl) d_Envelope_holds_62 ⟨by decide, by decide⟩ rfl rfl rfl hX (fun q7 hX => ?_)
        refine am_aload_n (pc := 65) C d_Envelope_holds_65 rfl rfl ?_
        refine am_getr (pc := 66) C hin_Envelope rfl (by decide) wd_1_115 rfl d_Envelope_holds_66 rfl hX (fun b8 hX => ?_)
        refine am_iload (pc := 69) C d_Envelope_holds_69 rfl ?_
        refine am_iald (pc := 71) C d_Envelope_holds_71 hX (fun x9 hX => ?_)
        refine am_callSi (pc := 72) (As := [.int v3, .int q7.1, .int x9]) (st := []) (cells1 := 0) (slots1 := 0) C (fun _ h => h.2) (fun _ h => by cases h.1) (fun q h => c_Supply_goOn h) wd_2_88 wd_2_89 wd_1_4 wd_2_90 rfl rfl hd_Supply_goOn ⟨by decide, by decide⟩ rfl (Nat.le_of_ble_eq_true rfl) d_Envelope_holds_72 ⟨by decide, by decide⟩ rfl rfl rfl hX (fun q10 hX => ?_)
        refine am_istore_n (pc := 75) (lo1 := [some (.ref v0), some (.ref v1), some (.int v2), some (.int q10.1), some (.int v4), some (.int v5)]) C d_Envelope_holds_75 rfl (by decide) rfl ?_
        refine am_aload_n (pc := 76) C d_Envelope_holds_76 rfl rfl ?_
        refine am_iload_n (pc := 77) C d_Envelope_holds_77 rfl rfl ?_
        refine am_iload_n (pc := 78) C d_Envelope_holds_78 rfl rfl ?_
        refine am_iload (pc := 79) C d_Envelope_holds_79 rfl ?_
        refine am_iadd (pc := 81) C d_Envelope_holds_81 ?_
        refine am_callVi (pc := 82) (As := [.int q10.1, .int (v2 + v5)]) (st := []) (cells1 := 0) (slots1 := 0) C (fun _ h => h.2) (fun _ h => by cases h.1) (fun q h => c_Supply_isOpen h) wd_3_172 wd_3_128 wd_3_129 wd_1_4 wd_3_130 rfl rfl hd_Supply_isOpen ⟨by decide, by decide⟩ rfl rfl (Nat.le_of_ble_eq_true rfl) d_Envelope_holds_82 ⟨by decide, by decide⟩ rfl rfl rfl hX (fun q11 hX => ?_)
        refine am_istore (pc := 85) (lo1 := [some (.ref v0), some (.ref v1), some (.int v2), some (.int q10.1), some (.int q11.1), some (.int v5)]) C d_Envelope_holds_85 (by decide) rfl ?_
        refine am_iinc (pc := 87) (y := (1 : Int32)) (lo1 := [some (.ref v0), some (.ref v1), some (.int v2), some (.int q10.1), some (.int q11.1), some (.int (v5 + (1 : Int32)))]) C d_Envelope_holds_87 rfl (by decide) (by decide) rfl ?_
        refine am_goto (pc := 90) (tgt := 42) C d_Envelope_holds_90 rfl ?_
        exact (hk42 v0 v1 v2 q10.1 q11.1 (v5 + (1 : Int32)) q11.2 hX)
def f_Envelope_holds (a0 : Nat) (a1 : Nat) (a2 : Int32) (w : am_w) : Option (Int32 × am_w) := ((am_fg 4 2 a0 w).bind fun x1 => (if (100 : Int32) < x1 then (some ((0 : Int32), w)) else ((am_fg 3 1 a1 w).bind fun x2 => ((am_fg 4 3 a0 w).bind fun x3 => (if (x2 + x3) ≤ (500 : Int32) then ((am_fg 3 0 a1 w).bind fun x4 => ((am_ob 3 a1 w (f_Supply_isOpen a1 x4 a2 w)).bind fun q5 => (f_Envelope_holds_42  70 a0 a1 a2 x4 q5.1 (1 : Int32) q5.2))) else (some ((0 : Int32), w)))))))
theorem hd_Envelope_holds : y_Envelope_holds.cls = "RoverMinutes$Envelope" ∧ y_Envelope_holds.cls ≠ "java/lang/invoke/MethodHandle" ∧ y_Envelope_holds.cls ≠ "java/lang/invoke/VarHandle" ∧ (parseMethodDescriptor y_Envelope_holds.desc).map (fun d => d.parameters.length) = some 2 := ⟨rfl, by decide, by decide, by decide +kernel⟩
set_option maxHeartbeats 4000000 in
theorem c_Envelope_holds {l : Launch} {D : va_G} {A : Nat → Prop} {a0 : Nat} {a1 : Nat} {a2 : Int32} {w : am_w} {r : Int32 × am_w} (hX : f_Envelope_holds a0 a1 a2 w = some r) : am_Met l D classes tys A (am_F A false) y_Envelope_holds (Cond.code y_Envelope_holds b_Envelope_holds 6 (some .boolean) :: am_W) rm_Envelope_holds [.ref a0, .ref a1, .int a2] w (am_ri r) 0 0 := by
  refine am_ofV (by decide) am_W_good (Nat.le_of_ble_eq_true rfl) (by simp [Value.category]) ?_
  intro p e s m below meth c C hret hlk hnm
  unfold f_Envelope_holds at hX
  refine am_aload_n (pc := 0) C d_Envelope_holds_0 rfl rfl ?_
  refine am_get (pc := 1) C hin_Envelope rfl (by decide) wd_1_117 rfl d_Envelope_holds_1 rfl hX (fun x1 hX => ?_)
  refine am_bipush (pc := 4) (v := (100 : Int32)) C d_Envelope_holds_4 (by decide) ?_
  refine am_icmp_gt (pc := 6) (tgt := 24) C d_Envelope_holds_6 rfl hX (fun hX => ?_) (fun hX => ?_)
  · skip
    refine am_iconst (pc := 24) (v := (0 : Int32)) C d_Envelope_holds_24 (by decide) ?_
    exact am_iret (pc := 25) C hret hlk d_Envelope_holds_25 am_n0 (by decide) (by decide) hX
  · skip
    refine am_aload_n (pc := 9) C d_Envelope_holds_9 rfl rfl ?_
    refine am_get (pc := 10) C hin_Supply rfl (by decide) wd_1_82 rfl d_Envelope_holds_10 rfl hX (fun x2 hX => ?_)
    refine am_aload_n (pc := 13) C d_Envelope_holds_13 rfl rfl ?_
    refine am_get (pc := 14) C hin_Envelope rfl (by decide) wd_1_118 rfl d_Envelope_holds_14 rfl hX (fun x3 hX => ?_)
    refine am_iadd (pc := 17) C d_Envelope_holds_17 ?_
    refine am_sipush (pc := 18) (v := (500 : Int32)) C d_Envelope_holds_18 (by decide) ?_
    refine am_icmp_le (pc := 21) (tgt := 26) C d_Envelope_holds_21 rfl hX (fun hX => ?_) (fun hX => ?_)
    · skip
      refine am_aload_n (pc := 26) C d_Envelope_holds_26 rfl rfl ?_
      refine am_get (pc := 27) C hin_Supply rfl (by decide) wd_1_81 rfl d_Envelope_holds_27 rfl hX (fun x4 hX => ?_)
      refine am_istore_n (pc := 30) (lo1 := [some (.ref a0), some (.ref a1), some (.int a2), some (.int x4), none, none]) C d_Envelope_holds_30 rfl (by decide) rfl ?_
      refine am_aload_n (pc := 31) C d_Envelope_holds_31 rfl rfl ?_
      refine am_iload_n (pc := 32) C d_Envelope_holds_32 rfl rfl ?_
      refine am_iload_n (pc := 33) C d_Envelope_holds_33 rfl rfl ?_
      refine am_callVi (pc := 34) (As := [.int x4, .int a2]) (st := []) (cells1 := 0) (slots1 := 0) C (fun _ h => h.2) (fun _ h => by cases h.1) (fun q h => c_Supply_isOpen h) wd_3_172 wd_3_128 wd_3_129 wd_1_4 wd_3_130 rfl rfl hd_Supply_isOpen ⟨by decide, by decide⟩ rfl rfl (Nat.le_of_ble_eq_true rfl) d_Envelope_holds_34 ⟨by decide, by decide⟩ rfl rfl rfl hX (fun q5 hX => ?_)
      refine am_istore (pc := 37) (lo1 := [some (.ref a0), some (.ref a1), some (.int a2), some (.int x4), some (.int q5.1), none]) C d_Envelope_holds_37 (by decide) rfl ?_
      refine am_iconst (pc := 39) (v := (1 : Int32)) C d_Envelope_holds_39 (by decide) ?_
      refine am_istore (pc := 40) (lo1 := [some (.ref a0), some (.ref a1), some (.int a2), some (.int x4), some (.int q5.1), some (.int (1 : Int32))]) C d_Envelope_holds_40 (by decide) rfl ?_
      exact (L_Envelope_holds_42 C hret hlk  70 a0 a1 a2 x4 q5.1 (1 : Int32) q5.2 hX)
    · skip
      refine am_iconst (pc := 24) (v := (0 : Int32)) C d_Envelope_holds_24 (by decide) ?_
      exact am_iret (pc := 25) C hret hlk d_Envelope_holds_25 am_n0 (by decide) (by decide) hX
def rm_Envelope_deepest : Room := { frames := 2, cells := 0, slots := 0, locals := 43 }
def s_Envelope_deepest_11 (k11 : Nat → Nat → Int32 → Int32 → Int32 → Int32 → am_w → Option (Int32 × am_w)) (v0 : Nat) (v1 : Nat) (v2 : Int32) (v3 : Int32) (v4 : Int32) (v5 : Int32) (w : am_w) : Option (Int32 × am_w) := ((am_fg 4 1 v0 w).bind fun x2 => (if x2 < v5 then (am_let (if (0 : Int32) < v4 then v4 else (0 : Int32)) fun x3 => (some (x3, w))) else ((am_ob 3 v1 w (f_Supply_lowerGain v1 (v2 + v5) w)).bind fun q4 => ((am_rg 4 0 v0 q4.2).bind fun b5 => ((am_ig b5 v5 q4.2).bind fun x6 => ((f_Supply_goOn v3 q4.1 x6 q4.2).bind fun q7 => (am_let (if q7.1 < v4 then q7.1 else v4) fun x8 => (k11 v0 v1 v2 q7.1 x8 (v5 + (1 : Int32)) q7.2))))))))
def f_Envelope_deepest_11  (n : Nat) : Nat → Nat → Int32 → Int32 → Int32 → Int32 → am_w → Option (Int32 × am_w) := am_it (fun _ _ _ _ _ _ _ => none) (s_Envelope_deepest_11 ) n
set_option maxHeartbeats 4000000 in
theorem L_Envelope_deepest_11 {p : Program} {l : Launch} {e : Env} {s : State} {m : MethodId} {args : Array Value} {below : List Frame} {meth : Method} {c : Code} {D : va_G} {A : Nat → Prop} {r : Int32 × am_w} (C : am_C p m c b_Envelope_deepest 6 s args am_W "RoverMinutes$Envelope" D classes A) (hret : meth.sig.returnType = (some .int)) (hlk : meth.locks = false)   (n : Nat) : ∀ (v0 : Nat) (v1 : Nat) (v2 : Int32) (v3 : Int32) (v4 : Int32) (v5 : Int32) (w : am_w), f_Envelope_deepest_11  n v0 v1 v2 v3 v4 v5 w = some r → am_V p l e rm_Envelope_deepest s m args below meth c D classes tys A (am_F A false) 6 0 0 (MQ below (am_Q D classes tys A (am_F A false) (am_ri r)) args s 0 0 (am_F A false)) 11 [some (.ref v0), some (.ref v1), some (.int v2), some (.int v3), some (.int v4), some (.int v5)] [] w := by
  refine am_it_ind (P := fun (t : Nat → Nat → Int32 → Int32 → Int32 → Int32 → am_w → Option (Int32 × am_w)) => ∀ (v0 : Nat) (v1 : Nat) (v2 : Int32) (v3 : Int32) (v4 : Int32) (v5 : Int32) (w : am_w), t v0 v1 v2 v3 v4 v5 w = some r → am_V p l e rm_Envelope_deepest s m args below meth c D classes tys A (am_F A false) 6 0 0 (MQ below (am_Q D classes tys A (am_F A false) (am_ri r)) args s 0 0 (am_F A false)) 11 [some (.ref v0), some (.ref v1), some (.int v2), some (.int v3), some (.int v4), some (.int v5)] [] w) ?_ ?_ n
  · intro v0 v1 v2 v3 v4 v5 w hX
    exact (am_nn hX).elim
  · intro k11 hk11 v0 v1 v2 v3 v4 v5 w hX
    unfold s_Envelope_deepest_11 at hX
    refine am_iload (pc := 11) C d_Envelope_deepest_11 rfl ?_
    refine am_aload_n (pc := 13) C d_Envelope_deepest_13 rfl rfl ?_
    refine am_get (pc := 14) C hin_Envelope rfl (by decide) wd_1_116 rfl d_Envelope_deepest_14 rfl hX (fun x2 hX => ?_)
    refine am_icmp_gt (pc := 17) (tgt := 54) C d_Envelope_deepest_17 rfl hX (fun hX => ?_) (fun hX => ?_)
    · skip
      refine am_iconst (pc := 54) (v := (0 : Int32)) C d_Envelope_deepest_54 (by decide) ?_
      refine am_iload (pc := 55) C d_Envelope_deepest_55 rfl ?_
      refine am_mmax (pc := 57) C wd_2_79 wd_1_77 wd_1_5 wd_1_78 (by decide) (Nat.le_of_ble_eq_true rfl) (by decide) (by decide) d_Envelope_deepest_57 ?_
      obtain ⟨x3, ex3, hX⟩ := am_let_of hX
      rw [← ex3]
      exact am_iret (pc := 60) C hret hlk d_Envelope_deepest_60 rfl (by decide) (by decide) hX
    · skip
      refine am_iload_n (pc := 20) C d_Envelope_deepest_20 rfl rfl ?_
      refine am_aload_n (pc := 21) C d_Envelope_deepest_21 rfl rfl ?_
      refine am_iload_n (pc := 22) C d_Envelope_deepest_22 rfl rfl ?_
      refine am_iload (pc := 23) C d_Envelope_deepest_23 rfl ?_
      refine am_iadd (pc := 25) C d_Envelope_deepest_25 ?_
      refine am_callVi (pc := 26) (As := [.int (v2 + v5)]) (st := [.int v3]) (cells1 := 0) (slots1 := 0) C (fun _ h => h.2) (fun _ h => by cases h.1) (fun q h => c_Supply_lowerGain h) wd_2_84 wd_2_85 wd_2_86 wd_1_4 wd_2_87 rfl rfl hd_Supply_lowerGain ⟨by decide, by decide⟩ rfl rfl (Nat.le_of_ble_eq_true rfl) d_Envelope_deepest_26 ⟨by decide, by decide⟩ rfl rfl rfl hX (fun q4 hX => ?_)
      refine am_aload_n (pc := 29) C d_Envelope_deepest_29 rfl rfl ?_
      refine am_getr (pc := 30) C hin_Envelope rfl (by decide) wd_1_115 rfl d_Envelope_deepest_30 rfl hX (fun b5 hX => ?_)
      refine am_iload (pc := 33) C d_Envelope_deepest_33 rfl ?_
      refine am_iald (pc := 35) C d_Envelope_deepest_35 hX (fun x6 hX => ?_)
      refine am_callSi (pc := 36) (As := [.int v3, .int q4.1, .int x6]) (st := []) (cells1 := 0) (slots1 := 0) C (fun _ h => h.2) (fun _ h => by cases h.1) (fun q h => c_Supply_goOn h) wd_2_88 wd_2_89 wd_1_4 wd_2_90 rfl rfl hd_Supply_goOn ⟨by decide, by decide⟩ rfl (Nat.le_of_ble_eq_true rfl) d_Envelope_deepest_36 ⟨by decide, by decide⟩ rfl rfl rfl hX (fun q7 hX => ?_)
      refine am_istore_n (pc := 39) (lo1 := [some (.ref v0), some (.ref v1), some (.int v2), some (.int q7.1), some (.int v4), some (.int v5)]) C d_Envelope_deepest_39 rfl (by decide) rfl ?_
      refine am_iload (pc := 40) C d_Envelope_deepest_40 rfl ?_
      refine am_iload_n (pc := 42) C d_Envelope_deepest_42 rfl rfl ?_
      refine am_mmin (pc := 43) C wd_2_94 wd_2_92 wd_1_5 wd_2_93 (by decide) (Nat.le_of_ble_eq_true rfl) (by decide) (by decide) d_Envelope_deepest_43 ?_
      obtain ⟨x8, ex8, hX⟩ := am_let_of hX
      rw [← ex8]
      refine am_istore (pc := 46) (lo1 := [some (.ref v0), some (.ref v1), some (.int v2), some (.int q7.1), some (.int x8), some (.int v5)]) C d_Envelope_deepest_46 (by decide) rfl ?_
      refine am_iinc (pc := 48) (y := (1 : Int32)) (lo1 := [some (.ref v0), some (.ref v1), some (.int v2), some (.int q7.1), some (.int x8), some (.int (v5 + (1 : Int32)))]) C d_Envelope_deepest_48 rfl (by decide) (by decide) rfl ?_
      refine am_goto (pc := 51) (tgt := 11) C d_Envelope_deepest_51 rfl ?_
      exact (hk11 v0 v1 v2 q7.1 x8 (v5 + (1 : Int32)) q7.2 hX)
def f_Envelope_deepest (a0 : Nat) (a1 : Nat) (a2 : Int32) (w : am_w) : Option (Int32 × am_w) := ((am_fg 3 0 a1 w).bind fun x1 => (f_Envelope_deepest_11  70 a0 a1 a2 x1 x1 (1 : Int32) w))
theorem hd_Envelope_deepest : y_Envelope_deepest.cls = "RoverMinutes$Envelope" ∧ y_Envelope_deepest.cls ≠ "java/lang/invoke/MethodHandle" ∧ y_Envelope_deepest.cls ≠ "java/lang/invoke/VarHandle" ∧ (parseMethodDescriptor y_Envelope_deepest.desc).map (fun d => d.parameters.length) = some 2 := ⟨rfl, by decide, by decide, by decide +kernel⟩
set_option maxHeartbeats 4000000 in
theorem c_Envelope_deepest {l : Launch} {D : va_G} {A : Nat → Prop} {a0 : Nat} {a1 : Nat} {a2 : Int32} {w : am_w} {r : Int32 × am_w} (hX : f_Envelope_deepest a0 a1 a2 w = some r) : am_Met l D classes tys A (am_F A false) y_Envelope_deepest (Cond.code y_Envelope_deepest b_Envelope_deepest 6 (some .int) :: am_W) rm_Envelope_deepest [.ref a0, .ref a1, .int a2] w (am_ri r) 0 0 := by
  refine am_ofV (by decide) am_W_good (Nat.le_of_ble_eq_true rfl) (by simp [Value.category]) ?_
  intro p e s m below meth c C hret hlk hnm
  unfold f_Envelope_deepest at hX
  refine am_aload_n (pc := 0) C d_Envelope_deepest_0 rfl rfl ?_
  refine am_get (pc := 1) C hin_Supply rfl (by decide) wd_1_81 rfl d_Envelope_deepest_1 rfl hX (fun x1 hX => ?_)
  refine am_istore_n (pc := 4) (lo1 := [some (.ref a0), some (.ref a1), some (.int a2), some (.int x1), none, none]) C d_Envelope_deepest_4 rfl (by decide) rfl ?_
  refine am_iload_n (pc := 5) C d_Envelope_deepest_5 rfl rfl ?_
  refine am_istore (pc := 6) (lo1 := [some (.ref a0), some (.ref a1), some (.int a2), some (.int x1), some (.int x1), none]) C d_Envelope_deepest_6 (by decide) rfl ?_
  refine am_iconst (pc := 8) (v := (1 : Int32)) C d_Envelope_deepest_8 (by decide) ?_
  refine am_istore (pc := 9) (lo1 := [some (.ref a0), some (.ref a1), some (.int a2), some (.int x1), some (.int x1), some (.int (1 : Int32))]) C d_Envelope_deepest_9 (by decide) rfl ?_
  exact (L_Envelope_deepest_11 C hret hlk  70 a0 a1 a2 x1 x1 (1 : Int32) w hX)
