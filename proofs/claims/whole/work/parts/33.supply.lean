def rm_Supply_needFrom : Room := { frames := 1, cells := 0, slots := 0, locals := 21 }
def s_Supply_needFrom_7 (k7 : Nat → Int32 → Int32 → Int32 → am_w → Option (Int32 × am_w)) (v0 : Nat) (v1 : Int32) (v2 : Int32) (v3 : Int32) (w : am_w) : Option (Int32 × am_w) := (if v3 < (1 : Int32) then (some (v2, w)) else ((am_fg 3 4 v0 w).bind fun x2 => ((am_rg 3 5 v0 w).bind fun b3 => ((am_ig b3 ((v1 + v3) - (v1 + v3) / (24 : Int32) * (24 : Int32)) w).bind fun x4 => (am_let (if (0 : Int32) < ((v2 + x2) - x4) then ((v2 + x2) - x4) else (0 : Int32)) fun x5 => (if x5 ≤ (1000 : Int32) then (k7 v0 v1 x5 (v3 + (-1 : Int32)) w) else (some ((-1 : Int32), w))))))))
def f_Supply_needFrom_7  (n : Nat) : Nat → Int32 → Int32 → Int32 → am_w → Option (Int32 × am_w) := am_it (fun _ _ _ _ _ => none) (s_Supply_needFrom_7 ) n
set_option maxHeartbeats 4000000 in
theorem L_Supply_needFrom_7 {p : Program} {l : Launch} {e : Env} {s : State} {m : MethodId} {args : Array Value} {below : List Frame} {meth : Method} {c : Code} {D : va_G} {A : Nat → Prop} {r : Int32 × am_w} (C : am_C p m c b_Supply_needFrom 4 s args am_W "RoverMinutes$Supply" D classes A) (hret : meth.sig.returnType = (some .int)) (hlk : meth.locks = false)   (n : Nat) : ∀ (v0 : Nat) (v1 : Int32) (v2 : Int32) (v3 : Int32) (w : am_w), f_Supply_needFrom_7  n v0 v1 v2 v3 w = some r → am_V p l e rm_Supply_needFrom s m args below meth c D classes tys A (am_F A false) 4 0 0 (MQ below (am_Q D classes tys A (am_F A false) (am_ri r)) args s 0 0 (am_F A false)) 7 [some (.ref v0), some (.int v1), some (.int v2), some (.int v3)] [] w := by
  refine am_it_ind (P := fun (t : Nat → Int32 → Int32 → Int32 → am_w → Option (Int32 × am_w)) => ∀ (v0 : Nat) (v1 : Int32) (v2 : Int32) (v3 : Int32) (w : am_w), t v0 v1 v2 v3 w = some r → am_V p l e rm_Supply_needFrom s m args below meth c D classes tys A (am_F A false) 4 0 0 (MQ below (am_Q D classes tys A (am_F A false) (am_ri r)) args s 0 0 (am_F A false)) 7 [some (.ref v0), some (.int v1), some (.int v2), some (.int v3)] [] w) ?_ ?_ n
  · intro v0 v1 v2 v3 w hX
    exact (am_nn hX).elim
  · intro k7 hk7 v0 v1 v2 v3 w hX
    unfold s_Supply_needFrom_7 at hX
    refine am_iload_n (pc := 7) C d_Supply_needFrom_7 rfl rfl ?_
    refine am_iconst (pc := 8) (v := (1 : Int32)) C d_Supply_needFrom_8 (by decide) ?_
    refine am_icmp_lt (pc := 9) (tgt := 50) C d_Supply_needFrom_9 rfl hX (fun hX => ?_) (fun hX => ?_)
    · skip
      refine am_iload_n (pc := 50) C d_Supply_needFrom_50 rfl rfl ?_
      exact am_iret (pc := 51) C hret hlk d_Supply_needFrom_51 rfl (by decide) (by decide) hX
    · skip
      refine am_iconst (pc := 12) (v := (0 : Int32)) C d_Supply_needFrom_12 (by decide) ?_
      refine am_iload_n (pc := 13) C d_Supply_needFrom_13 rfl rfl ?_
      refine am_aload_n (pc := 14) C d_Supply_needFrom_14 rfl rfl ?_
      refine am_get (pc := 15) C hin_Supply rfl (by decide) wd_1_89 rfl d_Supply_needFrom_15 rfl hX (fun x2 hX => ?_)
      refine am_iadd (pc := 18) C d_Supply_needFrom_18 ?_
      refine am_aload_n (pc := 19) C d_Supply_needFrom_19 rfl rfl ?_
      refine am_getr (pc := 20) C hin_Supply rfl (by decide) wd_1_91 rfl d_Supply_needFrom_20 rfl hX (fun b3 hX => ?_)
      refine am_iload_n (pc := 23) C d_Supply_needFrom_23 rfl rfl ?_
      refine am_iload_n (pc := 24) C d_Supply_needFrom_24 rfl rfl ?_
      refine am_iadd (pc := 25) C d_Supply_needFrom_25 ?_
      refine am_bipush (pc := 26) (v := (24 : Int32)) C d_Supply_needFrom_26 (by decide) ?_
      refine am_irem (pc := 28) C d_Supply_needFrom_28 (by decide) ?_
      refine am_iald (pc := 29) C d_Supply_needFrom_29 hX (fun x4 hX => ?_)
      refine am_isub (pc := 30) C d_Supply_needFrom_30 ?_
      refine am_mmax (pc := 31) C wd_1_76 wd_1_77 wd_1_5 wd_1_78 (by decide) (Nat.le_of_ble_eq_true rfl) (by decide) (by decide) d_Supply_needFrom_31 ?_
      obtain ⟨x5, ex5, hX⟩ := am_let_of hX
      rw [← ex5]
      refine am_istore_n (pc := 34) (lo1 := [some (.ref v0), some (.int v1), some (.int x5), some (.int v3)]) C d_Supply_needFrom_34 rfl (by decide) rfl ?_
      refine am_iload_n (pc := 35) C d_Supply_needFrom_35 rfl rfl ?_
      refine am_sipush (pc := 36) (v := (1000 : Int32)) C d_Supply_needFrom_36 (by decide) ?_
      refine am_icmp_le (pc := 39) (tgt := 44) C d_Supply_needFrom_39 rfl hX (fun hX => ?_) (fun hX => ?_)
      · skip
        refine am_iinc (pc := 44) (y := (-1 : Int32)) (lo1 := [some (.ref v0), some (.int v1), some (.int x5), some (.int (v3 + (-1 : Int32)))]) C d_Supply_needFrom_44 rfl (by decide) (by decide) rfl ?_
        refine am_goto (pc := 47) (tgt := 7) C d_Supply_needFrom_47 rfl ?_
        exact (hk7 v0 v1 x5 (v3 + (-1 : Int32)) w hX)
      · skip
        refine am_iconst (pc := 42) (v := (-1 : Int32)) C d_Supply_needFrom_42 (by decide) ?_
        exact am_iret (pc := 43) C hret hlk d_Supply_needFrom_43 rfl (by decide) (by decide) hX
def f_Supply_needFrom (a0 : Nat) (a1 : Int32) (w : am_w) : Option (Int32 × am_w) := ((am_fg 3 3 a0 w).bind fun x1 => (f_Supply_needFrom_7  70 a0 a1 (0 : Int32) x1 w))
theorem hd_Supply_needFrom : y_Supply_needFrom.cls = "RoverMinutes$Supply" ∧ y_Supply_needFrom.cls ≠ "java/lang/invoke/MethodHandle" ∧ y_Supply_needFrom.cls ≠ "java/lang/invoke/VarHandle" ∧ (parseMethodDescriptor y_Supply_needFrom.desc).map (fun d => d.parameters.length) = some 1 := ⟨rfl, by decide, by decide, by decide +kernel⟩
set_option maxHeartbeats 4000000 in
theorem c_Supply_needFrom {l : Launch} {D : va_G} {A : Nat → Prop} {a0 : Nat} {a1 : Int32} {w : am_w} {r : Int32 × am_w} (hX : f_Supply_needFrom a0 a1 w = some r) : am_Met l D classes tys A (am_F A false) y_Supply_needFrom (Cond.code y_Supply_needFrom b_Supply_needFrom 4 (some .int) :: am_W) rm_Supply_needFrom [.ref a0, .int a1] w (am_ri r) 0 0 := by
  refine am_ofV (by decide) am_W_good (Nat.le_of_ble_eq_true rfl) (by simp [Value.category]) ?_
  intro p e s m below meth c C hret hlk hnm
  unfold f_Supply_needFrom at hX
  refine am_iconst (pc := 0) (v := (0 : Int32)) C d_Supply_needFrom_0 (by decide) ?_
  refine am_istore_n (pc := 1) (lo1 := [some (.ref a0), some (.int a1), some (.int (0 : Int32)), none]) C d_Supply_needFrom_1 rfl (by decide) rfl ?_
  refine am_aload_n (pc := 2) C d_Supply_needFrom_2 rfl rfl ?_
  refine am_get (pc := 3) C hin_Supply rfl (by decide) wd_1_87 rfl d_Supply_needFrom_3 rfl hX (fun x1 hX => ?_)
  refine am_istore_n (pc := 6) (lo1 := [some (.ref a0), some (.int a1), some (.int (0 : Int32)), some (.int x1)]) C d_Supply_needFrom_6 rfl (by decide) rfl ?_
  exact (L_Supply_needFrom_7 C hret hlk  70 a0 a1 (0 : Int32) x1 w hX)
def rm_Supply_reckonNeeds : Room := { frames := 2, cells := 0, slots := 0, locals := 44 }
def s_Supply_reckonNeeds_2 (k2 : Nat → Int32 → am_w → Option (Int32 × am_w)) (v0 : Nat) (v1 : Int32) (w : am_w) : Option (Int32 × am_w) := (if (24 : Int32) ≤ v1 then (some (0, w)) else ((am_rg 3 6 v0 w).bind fun b1 => ((am_ob 3 v0 w (f_Supply_needFrom v0 v1 w)).bind fun q2 => ((am_is b1 v1 q2.1 q2.2).bind fun w3 => (k2 v0 (v1 + (1 : Int32)) w3)))))
def f_Supply_reckonNeeds_2  (n : Nat) : Nat → Int32 → am_w → Option (Int32 × am_w) := am_it (fun _ _ _ => none) (s_Supply_reckonNeeds_2 ) n
set_option maxHeartbeats 4000000 in
theorem L_Supply_reckonNeeds_2 {p : Program} {l : Launch} {e : Env} {s : State} {m : MethodId} {args : Array Value} {below : List Frame} {meth : Method} {c : Code} {D : va_G} {A : Nat → Prop} {r : Int32 × am_w} (C : am_C p m c b_Supply_reckonNeeds 2 s args am_W "RoverMinutes$Supply" D classes A) (hret : meth.sig.returnType = none) (hlk : meth.locks = false)   (n : Nat) : ∀ (v0 : Nat) (v1 : Int32) (w : am_w), f_Supply_reckonNeeds_2  n v0 v1 w = some r → am_V p l e rm_Supply_reckonNeeds s m args below meth c D classes tys A (am_F A true) 2 0 0 (MQ below (am_Q D classes tys A (am_F A true) (am_rv r)) args s 0 0 (am_F A true)) 2 [some (.ref v0), some (.int v1)] [] w := by
  refine am_it_ind (P := fun (t : Nat → Int32 → am_w → Option (Int32 × am_w)) => ∀ (v0 : Nat) (v1 : Int32) (w : am_w), t v0 v1 w = some r → am_V p l e rm_Supply_reckonNeeds s m args below meth c D classes tys A (am_F A true) 2 0 0 (MQ below (am_Q D classes tys A (am_F A true) (am_rv r)) args s 0 0 (am_F A true)) 2 [some (.ref v0), some (.int v1)] [] w) ?_ ?_ n
  · intro v0 v1 w hX
    exact (am_nn hX).elim
  · intro k2 hk2 v0 v1 w hX
    unfold s_Supply_reckonNeeds_2 at hX
    refine am_iload_n (pc := 2) C d_Supply_reckonNeeds_2 rfl rfl ?_
    refine am_bipush (pc := 3) (v := (24 : Int32)) C d_Supply_reckonNeeds_3 (by decide) ?_
    refine am_icmp_ge (pc := 5) (tgt := 25) C d_Supply_reckonNeeds_5 rfl hX (fun hX => ?_) (fun hX => ?_)
    · skip
      exact am_vret (pc := 25) C hret hlk d_Supply_reckonNeeds_25 (by decide) (by decide) hX
    · skip
      refine am_aload_n (pc := 8) C d_Supply_reckonNeeds_8 rfl rfl ?_
      refine am_getr (pc := 9) C hin_Supply rfl (by decide) wd_1_92 rfl d_Supply_reckonNeeds_9 rfl hX (fun b1 hX => ?_)
      refine am_iload_n (pc := 12) C d_Supply_reckonNeeds_12 rfl rfl ?_
      refine am_aload_n (pc := 13) C d_Supply_reckonNeeds_13 rfl rfl ?_
      refine am_iload_n (pc := 14) C d_Supply_reckonNeeds_14 rfl rfl ?_
      refine am_callVi (pc := 15) (As := [.int v1]) (st := [.int v1, .ref b1]) (cells1 := 0) (slots1 := 0) C (fun _ h => h.2) (fun _ h => by cases h.1) (fun q h => c_Supply_needFrom h) wd_1_72 wd_1_74 ws_Supply_needFrom wd_1_4 wd_1_75 rfl rfl hd_Supply_needFrom ⟨by decide, by decide⟩ rfl rfl (Nat.le_of_ble_eq_true rfl) d_Supply_reckonNeeds_15 ⟨by decide, by decide⟩ rfl rfl rfl hX (fun q2 hX => ?_)
      refine am_iast (pc := 18) C (fun _ h => ⟨rfl, h⟩) d_Supply_reckonNeeds_18 hX (fun w3 hX => ?_)
      refine am_iinc (pc := 19) (y := (1 : Int32)) (lo1 := [some (.ref v0), some (.int (v1 + (1 : Int32)))]) C d_Supply_reckonNeeds_19 rfl (by decide) (by decide) rfl ?_
      refine am_goto (pc := 22) (tgt := 2) C d_Supply_reckonNeeds_22 rfl ?_
      exact (hk2 v0 (v1 + (1 : Int32)) w3 hX)
def f_Supply_reckonNeeds (a0 : Nat) (w : am_w) : Option (Int32 × am_w) := (f_Supply_reckonNeeds_2  70 a0 (0 : Int32) w)
theorem hd_Supply_reckonNeeds : y_Supply_reckonNeeds.cls = "RoverMinutes$Supply" ∧ y_Supply_reckonNeeds.cls ≠ "java/lang/invoke/MethodHandle" ∧ y_Supply_reckonNeeds.cls ≠ "java/lang/invoke/VarHandle" ∧ (parseMethodDescriptor y_Supply_reckonNeeds.desc).map (fun d => d.parameters.length) = some 0 := ⟨rfl, by decide, by decide, by decide +kernel⟩
set_option maxHeartbeats 4000000 in
theorem c_Supply_reckonNeeds {l : Launch} {D : va_G} {A : Nat → Prop} {a0 : Nat} {w : am_w} {r : Int32 × am_w} (hX : f_Supply_reckonNeeds a0 w = some r) : am_Met l D classes tys A (am_F A true) y_Supply_reckonNeeds (Cond.code y_Supply_reckonNeeds b_Supply_reckonNeeds 2 none :: am_W) rm_Supply_reckonNeeds [.ref a0] w (am_rv r) 0 0 := by
  refine am_ofV (by decide) am_W_good (Nat.le_of_ble_eq_true rfl) (by simp [Value.category]) ?_
  intro p e s m below meth c C hret hlk hnm
  unfold f_Supply_reckonNeeds at hX
  refine am_iconst (pc := 0) (v := (0 : Int32)) C d_Supply_reckonNeeds_0 (by decide) ?_
  refine am_istore_n (pc := 1) (lo1 := [some (.ref a0), some (.int (0 : Int32))]) C d_Supply_reckonNeeds_1 rfl (by decide) rfl ?_
  exact (L_Supply_reckonNeeds_2 C hret hlk  70 a0 (0 : Int32) w hX)
def rm_Supply_setWayHome : Room := { frames := 3, cells := 0, slots := 0, locals := 65 }
def f_Supply_setWayHome (a0 : Nat) (a1 : Int32) (a2 : Int32) (w : am_w) : Option (Int32 × am_w) := ((am_fp 3 3 a0 a1 w).bind fun w1 => ((am_fp 3 4 a0 a2 w1).bind fun w2 => ((am_ob 3 a0 w2 (f_Supply_reckonNeeds a0 w2)).bind fun q3 => (some (0, q3.2)))))
theorem hd_Supply_setWayHome : y_Supply_setWayHome.cls = "RoverMinutes$Supply" ∧ y_Supply_setWayHome.cls ≠ "java/lang/invoke/MethodHandle" ∧ y_Supply_setWayHome.cls ≠ "java/lang/invoke/VarHandle" ∧ (parseMethodDescriptor y_Supply_setWayHome.desc).map (fun d => d.parameters.length) = some 2 := ⟨rfl, by decide, by decide, by decide +kernel⟩
set_option maxHeartbeats 4000000 in
theorem c_Supply_setWayHome {l : Launch} {D : va_G} {A : Nat → Prop} {a0 : Nat} {a1 : Int32} {a2 : Int32} {w : am_w} {r : Int32 × am_w} (hX : f_Supply_setWayHome a0 a1 a2 w = some r) : am_Met l D classes tys A (am_F A true) y_Supply_setWayHome (Cond.code y_Supply_setWayHome b_Supply_setWayHome 3 none :: am_W) rm_Supply_setWayHome [.ref a0, .int a1, .int a2] w (am_rv r) 0 0 := by
  refine am_ofV (by decide) am_W_good (Nat.le_of_ble_eq_true rfl) (by simp [Value.category]) ?_
  intro p e s m below meth c C hret hlk hnm
  unfold f_Supply_setWayHome at hX
  refine am_aload_n (pc := 0) C d_Supply_setWayHome_0 rfl rfl ?_
  refine am_iload_n (pc := 1) C d_Supply_setWayHome_1 rfl rfl ?_
  refine am_put (pc := 2) C (fun _ h => ⟨rfl, h⟩) hin_Supply t_Supply t_Supply_ok n_Supply rfl (by decide) wd_1_87 rfl rfl (t_Supply_ok 3 (by decide)) rfl rfl rfl d_Supply_setWayHome_2 hX (fun w1 hX => ?_)
  refine am_aload_n (pc := 5) C d_Supply_setWayHome_5 rfl rfl ?_
  refine am_iload_n (pc := 6) C d_Supply_setWayHome_6 rfl rfl ?_
  refine am_put (pc := 7) C (fun _ h => ⟨rfl, h⟩) hin_Supply t_Supply t_Supply_ok n_Supply rfl (by decide) wd_1_89 rfl rfl (t_Supply_ok 4 (by decide)) rfl rfl rfl d_Supply_setWayHome_7 hX (fun w2 hX => ?_)
  refine am_aload_n (pc := 10) C d_Supply_setWayHome_10 rfl rfl ?_
  refine am_callVv (pc := 11) (As := []) (st := []) (cells1 := 0) (slots1 := 0) C (fun _ h => h.2) (fun _ h => h) (fun q h => c_Supply_reckonNeeds h) wd_1_68 wd_1_70 ws_Supply_reckonNeeds wd_1_4 wd_1_71 rfl rfl hd_Supply_reckonNeeds ⟨by decide, by decide⟩ rfl rfl (Nat.le_of_ble_eq_true rfl) d_Supply_setWayHome_11 ⟨by decide, by decide⟩ rfl rfl rfl hX (fun q3 hX => ?_)
  exact am_vret (pc := 14) C hret hlk d_Supply_setWayHome_14 (by decide) (by decide) hX
def rm_Supply_init : Room := { frames := 4, cells := 2, slots := 48, locals := 87 }
def f_Supply_init (a0 : Nat) (w : am_w) : Option (Int32 × am_w) := ((am_fp 3 0 a0 (1000 : Int32) w).bind fun w1 => ((am_fp 3 2 a0 (-1 : Int32) w1).bind fun w2 => (am_let (am_nw (.inr (.int, 24)) w2) fun w3 => ((am_rp 3 5 a0 w2.1 w3).bind fun w5 => (am_let (am_nw (.inr (.int, 24)) w5) fun w6 => ((am_rp 3 6 a0 w5.1 w6).bind fun w8 => ((am_ob 3 a0 w8 (f_Supply_setWayHome a0 (5 : Int32) (20 : Int32) w8)).bind fun q9 => (some (0, q9.2)))))))))
theorem hd_Supply_init : y_Supply_init.cls ≠ "java/lang/invoke/MethodHandle" ∧ y_Supply_init.cls ≠ "java/lang/invoke/VarHandle" ∧ (parseMethodDescriptor y_Supply_init.desc).map (fun d => d.parameters.length) = some 0 := ⟨by decide, by decide, by decide +kernel⟩
set_option maxHeartbeats 4000000 in
theorem c_Supply_init {l : Launch} {D : va_G} {A : Nat → Prop} {a0 : Nat} {w : am_w} {r : Int32 × am_w} (hX : f_Supply_init a0 w = some r) : am_Met l D classes tys A (am_F A true) y_Supply_init (Cond.code y_Supply_init b_Supply_init 1 none :: am_W) rm_Supply_init [.ref a0] w (am_rv r) 2 48 := by
  refine am_ofV (by decide) am_W_good (Nat.le_of_ble_eq_true rfl) (by simp [Value.category]) ?_
  intro p e s m below meth c C hret hlk hnm
  unfold f_Supply_init at hX
  refine am_aload_n (pc := 0) C d_Supply_init_0 rfl rfl ?_
  refine am_objInit (pc := 1) C wd_1_63 wd_1_27 wd_1_28 d_Supply_init_1 (by decide) (Nat.le_of_ble_eq_true rfl) ?_
  refine am_aload_n (pc := 4) C d_Supply_init_4 rfl rfl ?_
  refine am_sipush (pc := 5) (v := (1000 : Int32)) C d_Supply_init_5 (by decide) ?_
  refine am_put (pc := 8) C (fun _ h => ⟨rfl, h⟩) hin_Supply t_Supply t_Supply_ok n_Supply rfl (by decide) wd_1_79 rfl rfl (t_Supply_ok 0 (by decide)) rfl rfl rfl d_Supply_init_8 hX (fun w1 hX => ?_)
  refine am_aload_n (pc := 11) C d_Supply_init_11 rfl rfl ?_
  refine am_iconst (pc := 12) (v := (-1 : Int32)) C d_Supply_init_12 (by decide) ?_
  refine am_put (pc := 13) C (fun _ h => ⟨rfl, h⟩) hin_Supply t_Supply t_Supply_ok n_Supply rfl (by decide) wd_1_85 rfl rfl (t_Supply_ok 2 (by decide)) rfl rfl rfl d_Supply_init_13 hX (fun w2 hX => ?_)
  refine am_aload_n (pc := 16) C d_Supply_init_16 rfl rfl ?_
  refine am_bipush (pc := 17) (v := (24 : Int32)) C d_Supply_init_17 (by decide) ?_
  refine am_newa (pc := 19) (atype := .int) (N := 24) (t9 := .int) C wd_1_108 rfl rfl (by decide) (by decide) (by decide) (by decide) (by decide) d_Supply_init_19 ?_
  obtain ⟨w3, ew3, hX⟩ := am_let_of hX
  rw [← ew3]
  refine am_putrF (pc := 21) C (fun _ h => ⟨rfl, h⟩) hin_Supply t_Supply t_Supply_ok n_Supply rfl (by decide) wd_1_91 rfl rfl rfl hnm (t_Supply_ok 5 (by decide)) rfl rfl rfl d_Supply_init_21 hX (fun w5 hX => ?_)
  refine am_aload_n (pc := 24) C d_Supply_init_24 rfl rfl ?_
  refine am_bipush (pc := 25) (v := (24 : Int32)) C d_Supply_init_25 (by decide) ?_
  refine am_newa (pc := 27) (atype := .int) (N := 24) (t9 := .int) C wd_1_108 rfl rfl (by decide) (by decide) (by decide) (by decide) (by decide) d_Supply_init_27 ?_
  obtain ⟨w6, ew6, hX⟩ := am_let_of hX
  rw [← ew6]
  refine am_putrF (pc := 29) C (fun _ h => ⟨rfl, h⟩) hin_Supply t_Supply t_Supply_ok n_Supply rfl (by decide) wd_1_92 rfl rfl rfl hnm (t_Supply_ok 6 (by decide)) rfl rfl rfl d_Supply_init_29 hX (fun w8 hX => ?_)
  refine am_aload_n (pc := 32) C d_Supply_init_32 rfl rfl ?_
  refine am_iconst (pc := 33) (v := (5 : Int32)) C d_Supply_init_33 (by decide) ?_
  refine am_bipush (pc := 34) (v := (20 : Int32)) C d_Supply_init_34 (by decide) ?_
  refine am_callVv (pc := 36) (As := [.int (5 : Int32), .int (20 : Int32)]) (st := []) (cells1 := 2) (slots1 := 48) C (fun _ h => h.2) (fun _ h => h) (fun q h => c_Supply_setWayHome h) wd_1_64 wd_1_65 wd_1_66 wd_1_4 wd_1_67 rfl rfl hd_Supply_setWayHome ⟨by decide, by decide⟩ rfl rfl (Nat.le_of_ble_eq_true rfl) d_Supply_init_36 ⟨by decide, by decide⟩ rfl rfl rfl hX (fun q9 hX => ?_)
  exact am_vret (pc := 39) C hret hlk d_Supply_init_39 (by decide) (by decide) hX
def rm_Supply_setLowerGain : Room := { frames := 3, cells := 0, slots := 0, locals := 65 }
def f_Supply_setLowerGain (a0 : Nat) (a1 : Int32) (a2 : Int32) (w : am_w) : Option (Int32 × am_w) := ((am_rg 3 5 a0 w).bind fun b1 => ((am_is b1 a1 a2 w).bind fun w2 => ((am_ob 3 a0 w2 (f_Supply_reckonNeeds a0 w2)).bind fun q3 => (some (0, q3.2)))))
theorem hd_Supply_setLowerGain : y_Supply_setLowerGain.cls = "RoverMinutes$Supply" ∧ y_Supply_setLowerGain.cls ≠ "java/lang/invoke/MethodHandle" ∧ y_Supply_setLowerGain.cls ≠ "java/lang/invoke/VarHandle" ∧ (parseMethodDescriptor y_Supply_setLowerGain.desc).map (fun d => d.parameters.length) = some 2 := ⟨rfl, by decide, by decide, by decide +kernel⟩
set_option maxHeartbeats 4000000 in
theorem c_Supply_setLowerGain {l : Launch} {D : va_G} {A : Nat → Prop} {a0 : Nat} {a1 : Int32} {a2 : Int32} {w : am_w} {r : Int32 × am_w} (hX : f_Supply_setLowerGain a0 a1 a2 w = some r) : am_Met l D classes tys A (am_F A true) y_Supply_setLowerGain (Cond.code y_Supply_setLowerGain b_Supply_setLowerGain 3 none :: am_W) rm_Supply_setLowerGain [.ref a0, .int a1, .int a2] w (am_rv r) 0 0 := by
  refine am_ofV (by decide) am_W_good (Nat.le_of_ble_eq_true rfl) (by simp [Value.category]) ?_
  intro p e s m below meth c C hret hlk hnm
  unfold f_Supply_setLowerGain at hX
  refine am_aload_n (pc := 0) C d_Supply_setLowerGain_0 rfl rfl ?_
  refine am_getr (pc := 1) C hin_Supply rfl (by decide) wd_1_91 rfl d_Supply_setLowerGain_1 rfl hX (fun b1 hX => ?_)
  refine am_iload_n (pc := 4) C d_Supply_setLowerGain_4 rfl rfl ?_
  refine am_iload_n (pc := 5) C d_Supply_setLowerGain_5 rfl rfl ?_
  refine am_iast (pc := 6) C (fun _ h => ⟨rfl, h⟩) d_Supply_setLowerGain_6 hX (fun w2 hX => ?_)
  refine am_aload_n (pc := 7) C d_Supply_setLowerGain_7 rfl rfl ?_
  refine am_callVv (pc := 8) (As := []) (st := []) (cells1 := 0) (slots1 := 0) C (fun _ h => h.2) (fun _ h => h) (fun q h => c_Supply_reckonNeeds h) wd_1_68 wd_1_70 ws_Supply_reckonNeeds wd_1_4 wd_1_71 rfl rfl hd_Supply_reckonNeeds ⟨by decide, by decide⟩ rfl rfl (Nat.le_of_ble_eq_true rfl) d_Supply_setLowerGain_8 ⟨by decide, by decide⟩ rfl rfl rfl hX (fun q3 hX => ?_)
  exact am_vret (pc := 11) C hret hlk d_Supply_setLowerGain_11 (by decide) (by decide) hX
def rm_Supply_lowerGain : Room := { frames := 1, cells := 0, slots := 0, locals := 22 }
def f_Supply_lowerGain (a0 : Nat) (a1 : Int32) (w : am_w) : Option (Int32 × am_w) := ((am_rg 3 5 a0 w).bind fun b1 => ((f_floorMod a1 (24 : Int32) w).bind fun q2 => ((am_ig b1 q2.1 q2.2).bind fun x3 => (some (x3, q2.2)))))
theorem hd_Supply_lowerGain : y_Supply_lowerGain.cls = "RoverMinutes$Supply" ∧ y_Supply_lowerGain.cls ≠ "java/lang/invoke/MethodHandle" ∧ y_Supply_lowerGain.cls ≠ "java/lang/invoke/VarHandle" ∧ (parseMethodDescriptor y_Supply_lowerGain.desc).map (fun d => d.parameters.length) = some 1 := ⟨rfl, by decide, by decide, by decide +kernel⟩
set_option maxHeartbeats 4000000 in
theorem c_Supply_lowerGain {l : Launch} {D : va_G} {A : Nat → Prop} {a0 : Nat} {a1 : Int32} {w : am_w} {r : Int32 × am_w} (hX : f_Supply_lowerGain a0 a1 w = some r) : am_Met l D classes tys A (am_F A false) y_Supply_lowerGain (Cond.code y_Supply_lowerGain b_Supply_lowerGain 2 (some .int) :: am_W) rm_Supply_lowerGain [.ref a0, .int a1] w (am_ri r) 0 0 := by
  refine am_ofV (by decide) am_W_good (Nat.le_of_ble_eq_true rfl) (by simp [Value.category]) ?_
  intro p e s m below meth c C hret hlk hnm
  unfold f_Supply_lowerGain at hX
  refine am_aload_n (pc := 0) C d_Supply_lowerGain_0 rfl rfl ?_
  refine am_getr (pc := 1) C hin_Supply rfl (by decide) wd_1_91 rfl d_Supply_lowerGain_1 rfl hX (fun b1 hX => ?_)
  refine am_iload_n (pc := 4) C d_Supply_lowerGain_4 rfl rfl ?_
  refine am_bipush (pc := 5) (v := (24 : Int32)) C d_Supply_lowerGain_5 (by decide) ?_
  refine am_callSi (pc := 7) (As := [.int a1, .int (24 : Int32)]) (st := [.ref b1]) (cells1 := 0) (slots1 := 0) C (fun _ h => h.2) (fun _ h => by cases h.1) (fun q h => c_floorMod h) wd_2_52 wd_2_53 wd_1_5 wd_2_54 rfl rfl hd_floorMod ⟨by decide, by decide⟩ rfl (Nat.le_of_ble_eq_true rfl) d_Supply_lowerGain_7 ⟨by decide, by decide⟩ rfl rfl rfl hX (fun q2 hX => ?_)
  refine am_iald (pc := 10) C d_Supply_lowerGain_10 hX (fun x3 hX => ?_)
  exact am_iret (pc := 11) C hret hlk d_Supply_lowerGain_11 rfl (by decide) (by decide) hX
def rm_Supply_needBehind : Room := { frames := 1, cells := 0, slots := 0, locals := 22 }
def f_Supply_needBehind (a0 : Nat) (a1 : Int32) (w : am_w) : Option (Int32 × am_w) := ((am_rg 3 6 a0 w).bind fun b1 => ((f_floorMod a1 (24 : Int32) w).bind fun q2 => ((am_ig b1 q2.1 q2.2).bind fun x3 => (some (x3, q2.2)))))
theorem hd_Supply_needBehind : y_Supply_needBehind.cls = "RoverMinutes$Supply" ∧ y_Supply_needBehind.cls ≠ "java/lang/invoke/MethodHandle" ∧ y_Supply_needBehind.cls ≠ "java/lang/invoke/VarHandle" ∧ (parseMethodDescriptor y_Supply_needBehind.desc).map (fun d => d.parameters.length) = some 1 := ⟨rfl, by decide, by decide, by decide +kernel⟩
set_option maxHeartbeats 4000000 in
theorem c_Supply_needBehind {l : Launch} {D : va_G} {A : Nat → Prop} {a0 : Nat} {a1 : Int32} {w : am_w} {r : Int32 × am_w} (hX : f_Supply_needBehind a0 a1 w = some r) : am_Met l D classes tys A (am_F A false) y_Supply_needBehind (Cond.code y_Supply_needBehind b_Supply_needBehind 2 (some .int) :: am_W) rm_Supply_needBehind [.ref a0, .int a1] w (am_ri r) 0 0 := by
  refine am_ofV (by decide) am_W_good (Nat.le_of_ble_eq_true rfl) (by simp [Value.category]) ?_
  intro p e s m below meth c C hret hlk hnm
  unfold f_Supply_needBehind at hX
  refine am_aload_n (pc := 0) C d_Supply_needBehind_0 rfl rfl ?_
  refine am_getr (pc := 1) C hin_Supply rfl (by decide) wd_1_92 rfl d_Supply_needBehind_1 rfl hX (fun b1 hX => ?_)
  refine am_iload_n (pc := 4) C d_Supply_needBehind_4 rfl rfl ?_
  refine am_bipush (pc := 5) (v := (24 : Int32)) C d_Supply_needBehind_5 (by decide) ?_
  refine am_callSi (pc := 7) (As := [.int a1, .int (24 : Int32)]) (st := [.ref b1]) (cells1 := 0) (slots1 := 0) C (fun _ h => h.2) (fun _ h => by cases h.1) (fun q h => c_floorMod h) wd_2_52 wd_2_53 wd_1_5 wd_2_54 rfl rfl hd_floorMod ⟨by decide, by decide⟩ rfl (Nat.le_of_ble_eq_true rfl) d_Supply_needBehind_7 ⟨by decide, by decide⟩ rfl rfl rfl hX (fun q2 hX => ?_)
  refine am_iald (pc := 10) C d_Supply_needBehind_10 hX (fun x3 hX => ?_)
  exact am_iret (pc := 11) C hret hlk d_Supply_needBehind_11 rfl (by decide) (by decide) hX
def rm_Supply_isOpen : Room := { frames := 2, cells := 0, slots := 0, locals := 43 }
def f_Supply_isOpen (a0 : Nat) (a1 : Int32) (a2 : Int32) (w : am_w) : Option (Int32 × am_w) := ((am_ob 3 a0 w (f_Supply_needBehind a0 a2 w)).bind fun q1 => (if q1.1 = (-1 : Int32) then (some ((0 : Int32), q1.2)) else (if a1 < q1.1 then (some ((0 : Int32), q1.2)) else (some ((1 : Int32), q1.2)))))
theorem hd_Supply_isOpen : y_Supply_isOpen.cls = "RoverMinutes$Supply" ∧ y_Supply_isOpen.cls ≠ "java/lang/invoke/MethodHandle" ∧ y_Supply_isOpen.cls ≠ "java/lang/invoke/VarHandle" ∧ (parseMethodDescriptor y_Supply_isOpen.desc).map (fun d => d.parameters.length) = some 2 := ⟨rfl, by decide, by decide, by decide +kernel⟩
set_option maxHeartbeats 4000000 in
theorem c_Supply_isOpen {l : Launch} {D : va_G} {A : Nat → Prop} {a0 : Nat} {a1 : Int32} {a2 : Int32} {w : am_w} {r : Int32 × am_w} (hX : f_Supply_isOpen a0 a1 a2 w = some r) : am_Met l D classes tys A (am_F A false) y_Supply_isOpen (Cond.code y_Supply_isOpen b_Supply_isOpen 4 (some .boolean) :: am_W) rm_Supply_isOpen [.ref a0, .int a1, .int a2] w (am_ri r) 0 0 := by
  refine am_ofV (by decide) am_W_good (Nat.le_of_ble_eq_true rfl) (by simp [Value.category]) ?_
  intro p e s m below meth c C hret hlk hnm
  unfold f_Supply_isOpen at hX
  refine am_aload_n (pc := 0) C d_Supply_isOpen_0 rfl rfl ?_
  refine am_iload_n (pc := 1) C d_Supply_isOpen_1 rfl rfl ?_
  refine am_callVi (pc := 2) (As := [.int a2]) (st := []) (cells1 := 0) (slots1 := 0) C (fun _ h => h.2) (fun _ h => by cases h.1) (fun q h => c_Supply_needBehind h) wd_3_131 wd_2_49 wd_2_50 wd_1_4 wd_2_51 rfl rfl hd_Supply_needBehind ⟨by decide, by decide⟩ rfl rfl (Nat.le_of_ble_eq_true rfl) d_Supply_isOpen_2 ⟨by decide, by decide⟩ rfl rfl rfl hX (fun q1 hX => ?_)
  refine am_istore_n (pc := 5) (lo1 := [some (.ref a0), some (.int a1), some (.int a2), some (.int q1.1)]) C d_Supply_isOpen_5 rfl (by decide) rfl ?_
  refine am_iload_n (pc := 6) C d_Supply_isOpen_6 rfl rfl ?_
  refine am_iconst (pc := 7) (v := (-1 : Int32)) C d_Supply_isOpen_7 (by decide) ?_
  refine am_icmp_eq (pc := 8) (tgt := 20) C d_Supply_isOpen_8 rfl hX (fun hX => ?_) (fun hX => ?_)
  · skip
    refine am_iconst (pc := 20) (v := (0 : Int32)) C d_Supply_isOpen_20 (by decide) ?_
    exact am_iret (pc := 21) C hret hlk d_Supply_isOpen_21 am_n0 (by decide) (by decide) hX
  · skip
    refine am_iload_n (pc := 11) C d_Supply_isOpen_11 rfl rfl ?_
    refine am_iload_n (pc := 12) C d_Supply_isOpen_12 rfl rfl ?_
    refine am_icmp_lt (pc := 13) (tgt := 20) C d_Supply_isOpen_13 rfl hX (fun hX => ?_) (fun hX => ?_)
    · skip
      refine am_iconst (pc := 20) (v := (0 : Int32)) C d_Supply_isOpen_20 (by decide) ?_
      exact am_iret (pc := 21) C hret hlk d_Supply_isOpen_21 am_n0 (by decide) (by decide) hX
    · skip
      refine am_iconst (pc := 16) (v := (1 : Int32)) C d_Supply_isOpen_16 (by decide) ?_
      refine am_goto (pc := 17) (tgt := 21) C d_Supply_isOpen_17 rfl ?_
      exact am_iret (pc := 21) C hret hlk d_Supply_isOpen_21 am_n1 (by decide) (by decide) hX
def rm_Supply_goOn : Room := { frames := 1, cells := 0, slots := 0, locals := 21 }
def f_Supply_goOn (a0 : Int32) (a1 : Int32) (a2 : Int32) (w : am_w) : Option (Int32 × am_w) := (am_let (if ((a0 + a1) - a2) < (1000 : Int32) then ((a0 + a1) - a2) else (1000 : Int32)) fun x1 => (some (x1, w)))
theorem hd_Supply_goOn : y_Supply_goOn.cls ≠ "java/lang/invoke/MethodHandle" ∧ y_Supply_goOn.cls ≠ "java/lang/invoke/VarHandle" ∧ (parseMethodDescriptor y_Supply_goOn.desc).map (fun d => d.parameters.length) = some 3 := ⟨by decide, by decide, by decide +kernel⟩
set_option maxHeartbeats 4000000 in
theorem c_Supply_goOn {l : Launch} {D : va_G} {A : Nat → Prop} {a0 : Int32} {a1 : Int32} {a2 : Int32} {w : am_w} {r : Int32 × am_w} (hX : f_Supply_goOn a0 a1 a2 w = some r) : am_Met l D classes tys A (am_F A false) y_Supply_goOn (Cond.code y_Supply_goOn b_Supply_goOn 3 (some .int) :: am_W) rm_Supply_goOn [.int a0, .int a1, .int a2] w (am_ri r) 0 0 := by
  refine am_ofV (by decide) am_W_good (Nat.le_of_ble_eq_true rfl) (by simp [Value.category]) ?_
  intro p e s m below meth c C hret hlk hnm
  unfold f_Supply_goOn at hX
  refine am_sipush (pc := 0) (v := (1000 : Int32)) C d_Supply_goOn_0 (by decide) ?_
  refine am_iload_n (pc := 3) C d_Supply_goOn_3 rfl rfl ?_
  refine am_iload_n (pc := 4) C d_Supply_goOn_4 rfl rfl ?_
  refine am_iadd (pc := 5) C d_Supply_goOn_5 ?_
  refine am_iload_n (pc := 6) C d_Supply_goOn_6 rfl rfl ?_
  refine am_isub (pc := 7) C d_Supply_goOn_7 ?_
  refine am_mmin (pc := 8) C wd_2_91 wd_2_92 wd_1_5 wd_2_93 (by decide) (Nat.le_of_ble_eq_true rfl) (by decide) (by decide) d_Supply_goOn_8 ?_
  obtain ⟨x1, ex1, hX⟩ := am_let_of hX
  rw [← ex1]
  exact am_iret (pc := 11) C hret hlk d_Supply_goOn_11 rfl (by decide) (by decide) hX
def rm_Supply_pass : Room := { frames := 2, cells := 0, slots := 0, locals := 43 }
def s_Supply_pass_20  (v0 : Nat) (v2 : Int32) (s0 : Int32) (w : am_w) : Option (Int32 × am_w) := ((am_fg 3 0 v0 w).bind fun x3 => ((f_Supply_goOn x3 s0 v2 w).bind fun q4 => (am_let (if (0 : Int32) < q4.1 then q4.1 else (0 : Int32)) fun x5 => ((am_fp 3 0 v0 x5 q4.2).bind fun w6 => (some (0, w6))))))
set_option maxHeartbeats 4000000 in
theorem L_Supply_pass_20 {p : Program} {l : Launch} {e : Env} {s : State} {m : MethodId} {args : Array Value} {below : List Frame} {meth : Method} {c : Code} {D : va_G} {A : Nat → Prop} {r : Int32 × am_w} (C : am_C p m c b_Supply_pass 4 s args am_W "RoverMinutes$Supply" D classes A) (hret : meth.sig.returnType = none) (hlk : meth.locks = false)   : ∀ (v0 : Nat) (v2 : Int32) (s0 : Int32) (w : am_w), s_Supply_pass_20  v0 v2 s0 w = some r → am_V p l e rm_Supply_pass s m args below meth c D classes tys A (am_F A true) 4 0 0 (MQ below (am_Q D classes tys A (am_F A true) (am_rv r)) args s 0 0 (am_F A true)) 20 [some (.ref v0), none, some (.int v2), none] [.int s0] w := by
  intro v0 v2 s0 w hX
  unfold s_Supply_pass_20 at hX
  refine am_istore_n (pc := 20) (lo1 := [some (.ref v0), none, some (.int v2), some (.int s0)]) C d_Supply_pass_20 rfl (by decide) rfl ?_
  refine am_aload_n (pc := 21) C d_Supply_pass_21 rfl rfl ?_
  refine am_iconst (pc := 22) (v := (0 : Int32)) C d_Supply_pass_22 (by decide) ?_
  refine am_aload_n (pc := 23) C d_Supply_pass_23 rfl rfl ?_
  refine am_get (pc := 24) C hin_Supply rfl (by decide) wd_1_79 rfl d_Supply_pass_24 rfl hX (fun x3 hX => ?_)
  refine am_iload_n (pc := 27) C d_Supply_pass_27 rfl rfl ?_
  refine am_iload_n (pc := 28) C d_Supply_pass_28 rfl rfl ?_
  refine am_callSi (pc := 29) (As := [.int x3, .int s0, .int v2]) (st := [.int (0 : Int32), .ref v0]) (cells1 := 0) (slots1 := 0) C (fun _ h => h.2) (fun _ h => by cases h.1) (fun q h => c_Supply_goOn h) wd_3_217 wd_2_89 wd_1_4 wd_2_90 rfl rfl hd_Supply_goOn ⟨by decide, by decide⟩ rfl (Nat.le_of_ble_eq_true rfl) d_Supply_pass_29 ⟨by decide, by decide⟩ rfl rfl rfl hX (fun q4 hX => ?_)
  refine am_mmax (pc := 32) C wd_1_76 wd_1_77 wd_1_5 wd_1_78 (by decide) (Nat.le_of_ble_eq_true rfl) (by decide) (by decide) d_Supply_pass_32 ?_
  obtain ⟨x5, ex5, hX⟩ := am_let_of hX
  rw [← ex5]
  refine am_put (pc := 35) C (fun _ h => ⟨rfl, h⟩) hin_Supply t_Supply t_Supply_ok n_Supply rfl (by decide) wd_1_79 rfl rfl (t_Supply_ok 0 (by decide)) rfl rfl rfl d_Supply_pass_35 hX (fun w6 hX => ?_)
  exact am_vret (pc := 38) C hret hlk d_Supply_pass_38 (by decide) (by decide) hX
def f_Supply_pass (a0 : Nat) (a1 : Int32) (a2 : Int32) (w : am_w) : Option (Int32 × am_w) := ((am_fg 3 2 a0 w).bind fun x1 => (if x1 = (-1 : Int32) then ((am_ob 3 a0 w (f_Supply_lowerGain a0 a1 w)).bind fun q7 => (s_Supply_pass_20  a0 a2 q7.1 q7.2)) else ((am_fg 3 2 a0 w).bind fun x2 => (s_Supply_pass_20  a0 a2 x2 w))))
theorem hd_Supply_pass : y_Supply_pass.cls = "RoverMinutes$Supply" ∧ y_Supply_pass.cls ≠ "java/lang/invoke/MethodHandle" ∧ y_Supply_pass.cls ≠ "java/lang/invoke/VarHandle" ∧ (parseMethodDescriptor y_Supply_pass.desc).map (fun d => d.parameters.length) = some 2 := ⟨rfl, by decide, by decide, by decide +kernel⟩
set_option maxHeartbeats 4000000 in
theorem c_Supply_pass {l : Launch} {D : va_G} {A : Nat → Prop} {a0 : Nat} {a1 : Int32} {a2 : Int32} {w : am_w} {r : Int32 × am_w} (hX : f_Supply_pass a0 a1 a2 w = some r) : am_Met l D classes tys A (am_F A true) y_Supply_pass (Cond.code y_Supply_pass b_Supply_pass 4 none :: am_W) rm_Supply_pass [.ref a0, .int a1, .int a2] w (am_rv r) 0 0 := by
  refine am_ofV (by decide) am_W_good (Nat.le_of_ble_eq_true rfl) (by simp [Value.category]) ?_
  intro p e s m below meth c C hret hlk hnm
  unfold f_Supply_pass at hX
  refine am_aload_n (pc := 0) C d_Supply_pass_0 rfl rfl ?_
  refine am_get (pc := 1) C hin_Supply rfl (by decide) wd_1_85 rfl d_Supply_pass_1 rfl hX (fun x1 hX => ?_)
  refine am_iconst (pc := 4) (v := (-1 : Int32)) C d_Supply_pass_4 (by decide) ?_
  refine am_icmp_ne (pc := 5) (tgt := 16) C d_Supply_pass_5 rfl hX (fun hX => ?_) (fun hX => ?_)
  · skip
    refine am_aload_n (pc := 16) C d_Supply_pass_16 rfl rfl ?_
    refine am_get (pc := 17) C hin_Supply rfl (by decide) wd_1_85 rfl d_Supply_pass_17 rfl hX (fun x2 hX => ?_)
    exact am_sub (am_le_s (am_le_n (am_le_s (am_le_n (am_le_0))))) (L_Supply_pass_20 C hret hlk  a0 a2 x2 w hX)
  · skip
    refine am_aload_n (pc := 8) C d_Supply_pass_8 rfl rfl ?_
    refine am_iload_n (pc := 9) C d_Supply_pass_9 rfl rfl ?_
    refine am_callVi (pc := 10) (As := [.int a1]) (st := []) (cells1 := 0) (slots1 := 0) C (fun _ h => h.2) (fun _ h => by cases h.1) (fun q h => c_Supply_lowerGain h) wd_3_216 wd_2_85 wd_2_86 wd_1_4 wd_2_87 rfl rfl hd_Supply_lowerGain ⟨by decide, by decide⟩ rfl rfl (Nat.le_of_ble_eq_true rfl) d_Supply_pass_10 ⟨by decide, by decide⟩ rfl rfl rfl hX (fun q7 hX => ?_)
    refine am_goto (pc := 13) (tgt := 20) C d_Supply_pass_13 rfl ?_
    exact am_sub (am_le_s (am_le_n (am_le_s (am_le_n (am_le_0))))) (L_Supply_pass_20 C hret hlk  a0 a2 q7.1 q7.2 hX)
def rm_Supply_keep : Room := { frames := 1, cells := 0, slots := 0, locals := 21 }
def f_Supply_keep (a0 : Nat) (a1 : Int32) (w : am_w) : Option (Int32 × am_w) := ((am_fg 3 1 a0 w).bind fun x1 => (am_let (if (x1 + a1) < (500 : Int32) then (x1 + a1) else (500 : Int32)) fun x2 => ((am_fp 3 1 a0 x2 w).bind fun w3 => (some (0, w3)))))
theorem hd_Supply_keep : y_Supply_keep.cls = "RoverMinutes$Supply" ∧ y_Supply_keep.cls ≠ "java/lang/invoke/MethodHandle" ∧ y_Supply_keep.cls ≠ "java/lang/invoke/VarHandle" ∧ (parseMethodDescriptor y_Supply_keep.desc).map (fun d => d.parameters.length) = some 1 := ⟨rfl, by decide, by decide, by decide +kernel⟩
set_option maxHeartbeats 4000000 in
theorem c_Supply_keep {l : Launch} {D : va_G} {A : Nat → Prop} {a0 : Nat} {a1 : Int32} {w : am_w} {r : Int32 × am_w} (hX : f_Supply_keep a0 a1 w = some r) : am_Met l D classes tys A (am_F A true) y_Supply_keep (Cond.code y_Supply_keep b_Supply_keep 2 none :: am_W) rm_Supply_keep [.ref a0, .int a1] w (am_rv r) 0 0 := by
  refine am_ofV (by decide) am_W_good (Nat.le_of_ble_eq_true rfl) (by simp [Value.category]) ?_
  intro p e s m below meth c C hret hlk hnm
  unfold f_Supply_keep at hX
  refine am_aload_n (pc := 0) C d_Supply_keep_0 rfl rfl ?_
  refine am_sipush (pc := 1) (v := (500 : Int32)) C d_Supply_keep_1 (by decide) ?_
  refine am_aload_n (pc := 4) C d_Supply_keep_4 rfl rfl ?_
  refine am_get (pc := 5) C hin_Supply rfl (by decide) wd_1_83 rfl d_Supply_keep_5 rfl hX (fun x1 hX => ?_)
  refine am_iload_n (pc := 8) C d_Supply_keep_8 rfl rfl ?_
  refine am_iadd (pc := 9) C d_Supply_keep_9 ?_
  refine am_mmin (pc := 10) C wd_2_91 wd_2_92 wd_1_5 wd_2_93 (by decide) (Nat.le_of_ble_eq_true rfl) (by decide) (by decide) d_Supply_keep_10 ?_
  obtain ⟨x2, ex2, hX⟩ := am_let_of hX
  rw [← ex2]
  refine am_put (pc := 13) C (fun _ h => ⟨rfl, h⟩) hin_Supply t_Supply t_Supply_ok n_Supply rfl (by decide) wd_1_83 rfl rfl (t_Supply_ok 1 (by decide)) rfl rfl rfl d_Supply_keep_13 hX (fun w3 hX => ?_)
  exact am_vret (pc := 16) C hret hlk d_Supply_keep_16 (by decide) (by decide) hX
