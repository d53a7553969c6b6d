def rm_Plan_init : Room := { frames := 2, cells := 9, slots := 160, locals := 41 }
def f_Plan_init (a0 : Nat) (w : am_w) : Option (Int32 × am_w) := (am_let (am_nw (.inr (.object "RoverMinutes$Activity", 8)) w) fun w1 => ((am_rp 5 0 a0 w.1 w1).bind fun w3 => (if (8 : Int32) ≤ (0 : Int32) then (some (0, w3)) else ((am_rg 5 0 a0 w3).bind fun b4 => (am_let (am_nw (.inl 6) w3) fun w5 => ((f_Activity_init w3.1 w5).bind fun q7 => ((am_as9 "RoverMinutes$Activity" 6 b4 (0 : Int32) w3.1 q7.2).bind fun w8 => (if (8 : Int32) ≤ ((0 : Int32) + (1 : Int32)) then (some (0, w8)) else ((am_rg 5 0 a0 w8).bind fun b9 => (am_let (am_nw (.inl 6) w8) fun w10 => ((f_Activity_init w8.1 w10).bind fun q12 => ((am_as9 "RoverMinutes$Activity" 6 b9 ((0 : Int32) + (1 : Int32)) w8.1 q12.2).bind fun w13 => (if (8 : Int32) ≤ (((0 : Int32) + (1 : Int32)) + (1 : Int32)) then (some (0, w13)) else ((am_rg 5 0 a0 w13).bind fun b14 => (am_let (am_nw (.inl 6) w13) fun w15 => ((f_Activity_init w13.1 w15).bind fun q17 => ((am_as9 "RoverMinutes$Activity" 6 b14 (((0 : Int32) + (1 : Int32)) + (1 : Int32)) w13.1 q17.2).bind fun w18 => (if (8 : Int32) ≤ ((((0 : Int32) + (1 : Int32)) + (1 : Int32)) + (1 : Int32)) then (some (0, w18)) else ((am_rg 5 0 a0 w18).bind fun b19 => (am_let (am_nw (.inl 6) w18) fun w20 => ((f_Activity_init w18.1 w20).bind fun q22 => ((am_as9 "RoverMinutes$Activity" 6 b19 ((((0 : Int32) + (1 : Int32)) + (1 : Int32)) + (1 : Int32)) w18.1 q22.2).bind fun w23 => (if (8 : Int32) ≤ (((((0 : Int32) + (1 : Int32)) + (1 : Int32)) + (1 : Int32)) + (1 : Int32)) then (some (0, w23)) else ((am_rg 5 0 a0 w23).bind fun b24 => (am_let (am_nw (.inl 6) w23) fun w25 => ((f_Activity_init w23.1 w25).bind fun q27 => ((am_as9 "RoverMinutes$Activity" 6 b24 (((((0 : Int32) + (1 : Int32)) + (1 : Int32)) + (1 : Int32)) + (1 : Int32)) w23.1 q27.2).bind fun w28 => (if (8 : Int32) ≤ ((((((0 : Int32) + (1 : Int32)) + (1 : Int32)) + (1 : Int32)) + (1 : Int32)) + (1 : Int32)) then (some (0, w28)) else ((am_rg 5 0 a0 w28).bind fun b29 => (am_let (am_nw (.inl 6) w28) fun w30 => ((f_Activity_init w28.1 w30).bind fun q32 => ((am_as9 "RoverMinutes$Activity" 6 b29 ((((((0 : Int32) + (1 : Int32)) + (1 : Int32)) + (1 : Int32)) + (1 : Int32)) + (1 : Int32)) w28.1 q32.2).bind fun w33 => (if (8 : Int32) ≤ (((((((0 : Int32) + (1 : Int32)) + (1 : Int32)) + (1 : Int32)) + (1 : Int32)) + (1 : Int32)) + (1 : Int32)) then (some (0, w33)) else ((am_rg 5 0 a0 w33).bind fun b34 => (am_let (am_nw (.inl 6) w33) fun w35 => ((f_Activity_init w33.1 w35).bind fun q37 => ((am_as9 "RoverMinutes$Activity" 6 b34 (((((((0 : Int32) + (1 : Int32)) + (1 : Int32)) + (1 : Int32)) + (1 : Int32)) + (1 : Int32)) + (1 : Int32)) w33.1 q37.2).bind fun w38 => (if (8 : Int32) ≤ ((((((((0 : Int32) + (1 : Int32)) + (1 : Int32)) + (1 : Int32)) + (1 : Int32)) + (1 : Int32)) + (1 : Int32)) + (1 : Int32)) then (some (0, w38)) else ((am_rg 5 0 a0 w38).bind fun b39 => (am_let (am_nw (.inl 6) w38) fun w40 => ((f_Activity_init w38.1 w40).bind fun q42 => ((am_as9 "RoverMinutes$Activity" 6 b39 ((((((((0 : Int32) + (1 : Int32)) + (1 : Int32)) + (1 : Int32)) + (1 : Int32)) + (1 : Int32)) + (1 : Int32)) + (1 : Int32)) w38.1 q42.2).bind fun w43 => (if (8 : Int32) ≤ (((((((((0 : Int32) + (1 : Int32)) + (1 : Int32)) + (1 : Int32)) + (1 : Int32)) + (1 : Int32)) + (1 : Int32)) + (1 : Int32)) + (1 : Int32)) then (some (0, w43)) else none)))))))))))))))))))))))))))))))))))))))))))
theorem hd_Plan_init : y_Plan_init.cls ≠ "java/lang/invoke/MethodHandle" ∧ y_Plan_init.cls ≠ "java/lang/invoke/VarHandle" ∧ (parseMethodDescriptor y_Plan_init.desc).map (fun d => d.parameters.length) = some 0 := ⟨by decide, by decide, by decide +kernel⟩
set_option maxHeartbeats 4000000 in
theorem c_Plan_init {l : Launch} {D : va_G} {A : Nat → Prop} {a0 : Nat} {w : am_w} {r : Int32 × am_w} (hX : f_Plan_init a0 w = some r) : am_Met l D classes tys A (am_F A true) y_Plan_init (Cond.code y_Plan_init b_Plan_init 2 none :: am_W) rm_Plan_init [.ref a0] w (am_rv r) 9 160 := by
  refine am_ofV (by decide) am_W_good (Nat.le_of_ble_eq_true rfl) (by simp [Value.category]) ?_
  intro p e s m below meth c C hret hlk hnm
  unfold f_Plan_init at hX
  refine am_aload_n (pc := 0) C d_Plan_init_0 rfl rfl ?_
  refine am_objInit (pc := 1) C wd_1_133 wd_1_27 wd_1_28 d_Plan_init_1 (by decide) (Nat.le_of_ble_eq_true rfl) ?_
  refine am_aload_n (pc := 4) C d_Plan_init_4 rfl rfl ?_
  refine am_bipush (pc := 5) (v := (8 : Int32)) C d_Plan_init_5 (by decide) ?_
  refine am_newq (pc := 7) (N := 8) C wd_1_134 C.2.2.2.2.1.1 (by decide) (by decide) (by decide) (by decide) (by decide) d_Plan_init_7 ?_
  obtain ⟨w1, ew1, hX⟩ := am_let_of hX
  rw [← ew1]
  refine am_putrF (pc := 10) C (fun _ h => ⟨rfl, h⟩) hin_Plan t_Plan t_Plan_ok n_Plan rfl (by decide) wd_1_232 rfl rfl rfl hnm (t_Plan_ok 0 (by decide)) rfl rfl rfl d_Plan_init_10 hX (fun w3 hX => ?_)
  refine am_iconst (pc := 13) (v := (0 : Int32)) C d_Plan_init_13 (by decide) ?_
  refine am_istore_n (pc := 14) (lo1 := [some (.ref a0), some (.int (0 : Int32))]) C d_Plan_init_14 rfl (by decide) rfl ?_
  refine am_iload_n (pc := 15) C d_Plan_init_15 rfl rfl ?_
  refine am_bipush (pc := 16) (v := (8 : Int32)) C d_Plan_init_16 (by decide) ?_
  refine am_icmp_ge (pc := 18) (tgt := 40) C d_Plan_init_18 rfl hX (fun hX => ?_) (fun hX => ?_)
  · skip
    exact am_vret (pc := 40) C hret hlk d_Plan_init_40 (by decide) (by decide) hX
  · skip
    refine am_aload_n (pc := 21) C d_Plan_init_21 rfl rfl ?_
    refine am_getr (pc := 22) C hin_Plan rfl (by decide) wd_1_232 rfl d_Plan_init_22 rfl hX (fun b4 hX => ?_)
    refine am_iload_n (pc := 25) C d_Plan_init_25 rfl rfl ?_
    refine am_new (pc := 26) (ci := 6) C hin_Activity t_Activity_ok df_Activity wd_1_134 wd_1_136 wd_1_8 rfl (by decide) (by decide) d_Plan_init_26 ?_
    obtain ⟨w5, ew5, hX⟩ := am_let_of hX
    rw [← ew5]
    refine am_dup (pc := 29) C d_Plan_init_29 rfl ?_
    refine am_callIN (pc := 30) (As := []) (st := [.ref w3.1, .int (0 : Int32), .ref b4]) (cells1 := 2) (slots1 := 27) C (fun _ h => h.2) (fun _ h => by cases h.1) (fun q h => c_Activity_init h) wd_1_139 rfl rfl wd_1_8 "RoverMinutes" C.2.2.2.2.1.2.1 wd_1_138 rfl hd_Activity_init ⟨by decide, by decide⟩ rfl (Nat.le_of_ble_eq_true rfl) d_Plan_init_30 ⟨by decide, by decide⟩ rfl rfl rfl hX (fun q7 hX => ?_)
    refine am_aast (pc := 33) (ci := 6) C (fun _ h => ⟨rfl, h⟩) rfl d_Plan_init_33 hX (fun w8 hX => ?_)
    refine am_iinc (pc := 34) (y := (1 : Int32)) (lo1 := [some (.ref a0), some (.int ((0 : Int32) + (1 : Int32)))]) C d_Plan_init_34 rfl (by decide) (by decide) rfl ?_
    refine am_goto (pc := 37) (tgt := 15) C d_Plan_init_37 rfl ?_
    refine am_iload_n (pc := 15) C d_Plan_init_15 rfl rfl ?_
    refine am_bipush (pc := 16) (v := (8 : Int32)) C d_Plan_init_16 (by decide) ?_
    refine am_icmp_ge (pc := 18) (tgt := 40) C d_Plan_init_18 rfl hX (fun hX => ?_) (fun hX => ?_)
    · skip
      exact am_vret (pc := 40) C hret hlk d_Plan_init_40 (by decide) (by decide) hX
    · skip
      refine am_aload_n (pc := 21) C d_Plan_init_21 rfl rfl ?_
      refine am_getr (pc := 22) C hin_Plan rfl (by decide) wd_1_232 rfl d_Plan_init_22 rfl hX (fun b9 hX => ?_)
      refine am_iload_n (pc := 25) C d_Plan_init_25 rfl rfl ?_
      refine am_new (pc := 26) (ci := 6) C hin_Activity t_Activity_ok df_Activity wd_1_134 wd_1_136 wd_1_8 rfl (by decide) (by decide) d_Plan_init_26 ?_
      obtain ⟨w10, ew10, hX⟩ := am_let_of hX
      rw [← ew10]
      refine am_dup (pc := 29) C d_Plan_init_29 rfl ?_
      refine am_callIN (pc := 30) (As := []) (st := [.ref w8.1, .int ((0 : Int32) + (1 : Int32)), .ref b9]) (cells1 := 3) (slots1 := 46) C (fun _ h => h.2) (fun _ h => by cases h.1) (fun q h => c_Activity_init h) wd_1_139 rfl rfl wd_1_8 "RoverMinutes" C.2.2.2.2.1.2.1 wd_1_138 rfl hd_Activity_init ⟨by decide, by decide⟩ rfl (Nat.le_of_ble_eq_true rfl) d_Plan_init_30 ⟨by decide, by decide⟩ rfl rfl rfl hX (fun q12 hX => ?_)
      refine am_aast (pc := 33) (ci := 6) C (fun _ h => ⟨rfl, h⟩) rfl d_Plan_init_33 hX (fun w13 hX => ?_)
      refine am_iinc (pc := 34) (y := (1 : Int32)) (lo1 := [some (.ref a0), some (.int (((0 : Int32) + (1 : Int32)) + (1 : Int32)))]) C d_Plan_init_34 rfl (by decide) (by decide) rfl ?_
      refine am_goto (pc := 37) (tgt := 15) C d_Plan_init_37 rfl ?_
      refine am_iload_n (pc := 15) C d_Plan_init_15 rfl rfl ?_
      refine am_bipush (pc := 16) (v := (8 : Int32)) C d_Plan_init_16 (by decide) ?_
      refine am_icmp_ge (pc := 18) (tgt := 40) C d_Plan_init_18 rfl hX (fun hX => ?_) (fun hX => ?_)
      · skip
        exact am_vret (pc := 40) C hret hlk d_Plan_init_40 (by decide) (by decide) hX
      · skip
        refine am_aload_n (pc := 21) C d_Plan_init_21 rfl rfl ?_
        refine am_getr (pc := 22) C hin_Plan rfl (by decide) wd_1_232 rfl d_Plan_init_22 rfl hX (fun b14 hX => ?_)
        refine am_iload_n (pc := 25) C d_Plan_init_25 rfl rfl ?_
        refine am_new (pc := 26) (ci := 6) C hin_Activity t_Activity_ok df_Activity wd_1_134 wd_1_136 wd_1_8 rfl (by decide) (by decide) d_Plan_init_26 ?_
        obtain ⟨w15, ew15, hX⟩ := am_let_of hX
        rw [← ew15]
        refine am_dup (pc := 29) C d_Plan_init_29 rfl ?_
        refine am_callIN (pc := 30) (As := []) (st := [.ref w13.1, .int (((0 : Int32) + (1 : Int32)) + (1 : Int32)), .ref b14]) (cells1 := 4) (slots1 := 65) C (fun _ h => h.2) (fun _ h => by cases h.1) (fun q h => c_Activity_init h) wd_1_139 rfl rfl wd_1_8 "RoverMinutes" C.2.2.2.2.1.2.1 wd_1_138 rfl hd_Activity_init ⟨by decide, by decide⟩ rfl (Nat.le_of_ble_eq_true rfl) d_Plan_init_30 ⟨by decide, by decide⟩ rfl rfl rfl hX (fun q17 hX => ?_)
        refine am_aast (pc := 33) (ci := 6) C (fun _ h => ⟨rfl, h⟩) rfl d_Plan_init_33 hX (fun w18 hX => ?_)
        refine am_iinc (pc := 34) (y := (1 : Int32)) (lo1 := [some (.ref a0), some (.int ((((0 : Int32) + (1 : Int32)) + (1 : Int32)) + (1 : Int32)))]) C d_Plan_init_34 rfl (by decide) (by decide) rfl ?_
        refine am_goto (pc := 37) (tgt := 15) C d_Plan_init_37 rfl ?_
        refine am_iload_n (pc := 15) C d_Plan_init_15 rfl rfl ?_
        refine am_bipush (pc := 16) (v := (8 : Int32)) C d_Plan_init_16 (by decide) ?_
        refine am_icmp_ge (pc := 18) (tgt := 40) C d_Plan_init_18 rfl hX (fun hX => ?_) (fun hX => ?_)
        · skip
          exact am_vret (pc := 40) C hret hlk d_Plan_init_40 (by decide) (by decide) hX
        · skip
          refine am_aload_n (pc := 21) C d_Plan_init_21 rfl rfl ?_
          refine am_getr (pc := 22) C hin_Plan rfl (by decide) wd_1_232 rfl d_Plan_init_22 rfl hX (fun b19 hX => ?_)
          refine am_iload_n (pc := 25) C d_Plan_init_25 rfl rfl ?_
          refine am_new (pc := 26) (ci := 6) C hin_Activity t_Activity_ok df_Activity wd_1_134 wd_1_136 wd_1_8 rfl (by decide) (by decide) d_Plan_init_26 ?_
          obtain ⟨w20, ew20, hX⟩ := am_let_of hX
          rw [← ew20]
          refine am_dup (pc := 29) C d_Plan_init_29 rfl ?_
          refine am_callIN (pc := 30) (As := []) (st := [.ref w18.1, .int ((((0 : Int32) + (1 : Int32)) + (1 : Int32)) + (1 : Int32)), .ref b19]) (cells1 := 5) (slots1 := 84) C (fun _ h => h.2) (fun _ h => by cases h.1) (fun q h => c_Activity_init h) wd_1_139 rfl rfl wd_1_8 "RoverMinutes" C.2.2.2.2.1.2.1 wd_1_138 rfl hd_Activity_init ⟨by decide, by decide⟩ rfl (Nat.le_of_ble_eq_true rfl) d_Plan_init_30 ⟨by decide, by decide⟩ rfl rfl rfl hX (fun q22 hX => ?_)
          refine am_aast (pc := 33) (ci := 6) C (fun _ h => ⟨rfl, h⟩) rfl d_Plan_init_33 hX (fun w23 hX => ?_)
          refine am_iinc (pc := 34) (y := (1 : Int32)) (lo1 := [some (.ref a0), some (.int (((((0 : Int32) + (1 : Int32)) + (1 : Int32)) + (1 : Int32)) + (1 : Int32)))]) C d_Plan_init_34 rfl (by decide) (by decide) rfl ?_
          refine am_goto (pc := 37) (tgt := 15) C d_Plan_init_37 rfl ?_
          refine am_iload_n (pc := 15) C d_Plan_init_15 rfl rfl ?_
          refine am_bipush (pc := 16) (v := (8 : Int32)) C d_Plan_init_16 (by decide) ?_
          refine am_icmp_ge (pc := 18) (tgt := 40) C d_Plan_init_18 rfl hX (fun hX => ?_) (fun hX => ?_)
          · skip
            exact am_vret (pc := 40) C hret hlk d_Plan_init_40 (by decide) (by decide) hX
          · skip
            refine am_aload_n (pc := 21) C d_Plan_init_21 rfl rfl ?_
            refine am_getr (pc := 22) C hin_Plan rfl (by decide) wd_1_232 rfl d_Plan_init_22 rfl hX (fun b24 hX => ?_)
            refine am_iload_n (pc := 25) C d_Plan_init_25 rfl rfl ?_
            refine am_new (pc := 26) (ci := 6) C hin_Activity t_Activity_ok df_Activity wd_1_134 wd_1_136 wd_1_8 rfl (by decide) (by decide) d_Plan_init_26 ?_
            obtain ⟨w25, ew25, hX⟩ := am_let_of hX
            rw [← ew25]
            refine am_dup (pc := 29) C d_Plan_init_29 rfl ?_
            refine am_callIN (pc := 30) (As := []) (st := [.ref w23.1, .int (((((0 : Int32) + (1 : Int32)) + (1 : Int32)) + (1 : Int32)) + (1 : Int32)), .ref b24]) (cells1 := 6) (slots1 := 103) C (fun _ h => h.2) (fun _ h => by cases h.1) (fun q h => c_Activity_init h) wd_1_139 rfl rfl wd_1_8 "RoverMinutes" C.2.2.2.2.1.2.1 wd_1_138 rfl hd_Activity_init ⟨by decide, by decide⟩ rfl (Nat.le_of_ble_eq_true rfl) d_Plan_init_30 ⟨by decide, by decide⟩ rfl rfl rfl hX (fun q27 hX => ?_)
            refine am_aast (pc := 33) (ci := 6) C (fun _ h => ⟨rfl, h⟩) rfl d_Plan_init_33 hX (fun w28 hX => ?_)
            refine am_iinc (pc := 34) (y := (1 : Int32)) (lo1 := [some (.ref a0), some (.int ((((((0 : Int32) + (1 : Int32)) + (1 : Int32)) + (1 : Int32)) + (1 : Int32)) + (1 : Int32)))]) C d_Plan_init_34 rfl (by decide) (by decide) rfl ?_
            refine am_goto (pc := 37) (tgt := 15) C d_Plan_init_37 rfl ?_
            refine am_iload_n (pc := 15) C d_Plan_init_15 rfl rfl ?_
            refine am_bipush (pc := 16) (v := (8 : Int32)) C d_Plan_init_16 (by decide) ?_
            refine am_icmp_ge (pc := 18) (tgt := 40) C d_Plan_init_18 rfl hX (fun hX => ?_) (fun hX => ?_)
            · skip
              exact am_vret (pc := 40) C hret hlk d_Plan_init_40 (by decide) (by decide) hX
            · skip
              refine am_aload_n (pc := 21) C d_Plan_init_21 rfl rfl ?_
              refine am_getr (pc := 22) C hin_Plan rfl (by decide) wd_1_232 rfl d_Plan_init_22 rfl hX (fun b29 hX => ?_)
              refine am_iload_n (pc := 25) C d_Plan_init_25 rfl rfl ?_
              refine am_new (pc := 26) (ci := 6) C hin_Activity t_Activity_ok df_Activity wd_1_134 wd_1_136 wd_1_8 rfl (by decide) (by decide) d_Plan_init_26 ?_
              obtain ⟨w30, ew30, hX⟩ := am_let_of hX
              rw [← ew30]
              refine am_dup (pc := 29) C d_Plan_init_29 rfl ?_
              refine am_callIN (pc := 30) (As := []) (st := [.ref w28.1, .int ((((((0 : Int32) + (1 : Int32)) + (1 : Int32)) + (1 : Int32)) + (1 : Int32)) + (1 : Int32)), .ref b29]) (cells1 := 7) (slots1 := 122) C (fun _ h => h.2) (fun _ h => by cases h.1) (fun q h => c_Activity_init h) wd_1_139 rfl rfl wd_1_8 "RoverMinutes" C.2.2.2.2.1.2.1 wd_1_138 rfl hd_Activity_init ⟨by decide, by decide⟩ rfl (Nat.le_of_ble_eq_true rfl) d_Plan_init_30 ⟨by decide, by decide⟩ rfl rfl rfl hX (fun q32 hX => ?_)
              refine am_aast (pc := 33) (ci := 6) C (fun _ h => ⟨rfl, h⟩) rfl d_Plan_init_33 hX (fun w33 hX => ?_)
              refine am_iinc (pc := 34) (y := (1 : Int32)) (lo1 := [some (.ref a0), some (.int (((((((0 : Int32) + (1 : Int32)) + (1 : Int32)) + (1 : Int32)) + (1 : Int32)) + (1 : Int32)) + (1 : Int32)))]) C d_Plan_init_34 rfl (by decide) (by decide) rfl ?_
              refine am_goto (pc := 37) (tgt := 15) C d_Plan_init_37 rfl ?_
              refine am_iload_n (pc := 15) C d_Plan_init_15 rfl rfl ?_
              refine am_bipush (pc := 16) (v := (8 : Int32)) C d_Plan_init_16 (by decide) ?_
              refine am_icmp_ge (pc := 18) (tgt := 40) C d_Plan_init_18 rfl hX (fun hX => ?_) (fun hX => ?_)
              · skip
                exact am_vret (pc := 40) C hret hlk d_Plan_init_40 (by decide) (by decide) hX
              · skip
                refine am_aload_n (pc := 21) C d_Plan_init_21 rfl rfl ?_
                refine am_getr (pc := 22) C hin_Plan rfl (by decide) wd_1_232 rfl d_Plan_init_22 rfl hX (fun b34 hX => ?_)
                refine am_iload_n (pc := 25) C d_Plan_init_25 rfl rfl ?_
                refine am_new (pc := 26) (ci := 6) C hin_Activity t_Activity_ok df_Activity wd_1_134 wd_1_136 wd_1_8 rfl (by decide) (by decide) d_Plan_init_26 ?_
                obtain ⟨w35, ew35, hX⟩ := am_let_of hX
                rw [← ew35]
                refine am_dup (pc := 29) C d_Plan_init_29 rfl ?_
                refine am_callIN (pc := 30) (As := []) (st := [.ref w33.1, .int (((((((0 : Int32) + (1 : Int32)) + (1 : Int32)) + (1 : Int32)) + (1 : Int32)) + (1 : Int32)) + (1 : Int32)), .ref b34]) (cells1 := 8) (slots1 := 141) C (fun _ h => h.2) (fun _ h => by cases h.1) (fun q h => c_Activity_init h) wd_1_139 rfl rfl wd_1_8 "RoverMinutes" C.2.2.2.2.1.2.1 wd_1_138 rfl hd_Activity_init ⟨by decide, by decide⟩ rfl (Nat.le_of_ble_eq_true rfl) d_Plan_init_30 ⟨by decide, by decide⟩ rfl rfl rfl hX (fun q37 hX => ?_)
                refine am_aast (pc := 33) (ci := 6) C (fun _ h => ⟨rfl, h⟩) rfl d_Plan_init_33 hX (fun w38 hX => ?_)
                refine am_iinc (pc := 34) (y := (1 : Int32)) (lo1 := [some (.ref a0), some (.int ((((((((0 : Int32) + (1 : Int32)) + (1 : Int32)) + (1 : Int32)) + (1 : Int32)) + (1 : Int32)) + (1 : Int32)) + (1 : Int32)))]) C d_Plan_init_34 rfl (by decide) (by decide) rfl ?_
                refine am_goto (pc := 37) (tgt := 15) C d_Plan_init_37 rfl ?_
                refine am_iload_n (pc := 15) C d_Plan_init_15 rfl rfl ?_
                refine am_bipush (pc := 16) (v := (8 : Int32)) C d_Plan_init_16 (by decide) ?_
                refine am_icmp_ge (pc := 18) (tgt := 40) C d_Plan_init_18 rfl hX (fun hX => ?_) (fun hX => ?_)
                · skip
                  exact am_vret (pc := 40) C hret hlk d_Plan_init_40 (by decide) (by decide) hX
                · skip
                  refine am_aload_n (pc := 21) C d_Plan_init_21 rfl rfl ?_
                  refine am_getr (pc := 22) C hin_Plan rfl (by decide) wd_1_232 rfl d_Plan_init_22 rfl hX (fun b39 hX => ?_)
                  refine am_iload_n (pc := 25) C d_Plan_init_25 rfl rfl ?_
                  refine am_new (pc := 26) (ci := 6) C hin_Activity t_Activity_ok df_Activity wd_1_134 wd_1_136 wd_1_8 rfl (by decide) (by decide) d_Plan_init_26 ?_
                  obtain ⟨w40, ew40, hX⟩ := am_let_of hX
                  rw [← ew40]
                  refine am_dup (pc := 29) C d_Plan_init_29 rfl ?_
                  refine am_callIN (pc := 30) (As := []) (st := [.ref w38.1, .int ((((((((0 : Int32) + (1 : Int32)) + (1 : Int32)) + (1 : Int32)) + (1 : Int32)) + (1 : Int32)) + (1 : Int32)) + (1 : Int32)), .ref b39]) (cells1 := 9) (slots1 := 160) C (fun _ h => h.2) (fun _ h => by cases h.1) (fun q h => c_Activity_init h) wd_1_139 rfl rfl wd_1_8 "RoverMinutes" C.2.2.2.2.1.2.1 wd_1_138 rfl hd_Activity_init ⟨by decide, by decide⟩ rfl (Nat.le_of_ble_eq_true rfl) d_Plan_init_30 ⟨by decide, by decide⟩ rfl rfl rfl hX (fun q42 hX => ?_)
                  refine am_aast (pc := 33) (ci := 6) C (fun _ h => ⟨rfl, h⟩) rfl d_Plan_init_33 hX (fun w43 hX => ?_)
                  refine am_iinc (pc := 34) (y := (1 : Int32)) (lo1 := [some (.ref a0), some (.int (((((((((0 : Int32) + (1 : Int32)) + (1 : Int32)) + (1 : Int32)) + (1 : Int32)) + (1 : Int32)) + (1 : Int32)) + (1 : Int32)) + (1 : Int32)))]) C d_Plan_init_34 rfl (by decide) (by decide) rfl ?_
                  refine am_goto (pc := 37) (tgt := 15) C d_Plan_init_37 rfl ?_
                  refine am_iload_n (pc := 15) C d_Plan_init_15 rfl rfl ?_
                  refine am_bipush (pc := 16) (v := (8 : Int32)) C d_Plan_init_16 (by decide) ?_
                  refine am_icmp_ge (pc := 18) (tgt := 40) C d_Plan_init_18 rfl hX (fun hX => ?_) (fun hX => ?_)
                  · skip
                    exact am_vret (pc := 40) C hret hlk d_Plan_init_40 (by decide) (by decide) hX
                  · skip
                    exact (am_nn hX).elim
def rm_Plan_has : Room := { frames := 0, cells := 0, slots := 0, locals := 0 }
def f_Plan_has (a0 : Nat) (a1 : Int32) (w : am_w) : Option (Int32 × am_w) := (if a1 < 0 then (some ((0 : Int32), w)) else ((am_fg 5 1 a0 w).bind fun x1 => (if x1 ≤ a1 then (some ((0 : Int32), w)) else (some ((1 : Int32), w)))))
theorem hd_Plan_has : y_Plan_has.cls = "RoverMinutes$Plan" ∧ y_Plan_has.cls ≠ "java/lang/invoke/MethodHandle" ∧ y_Plan_has.cls ≠ "java/lang/invoke/VarHandle" ∧ (parseMethodDescriptor y_Plan_has.desc).map (fun d => d.parameters.length) = some 1 := ⟨rfl, by decide, by decide, by decide +kernel⟩
set_option maxHeartbeats 4000000 in
theorem c_Plan_has {l : Launch} {D : va_G} {A : Nat → Prop} {a0 : Nat} {a1 : Int32} {w : am_w} {r : Int32 × am_w} (hX : f_Plan_has a0 a1 w = some r) : am_Met l D classes tys A (am_F A false) y_Plan_has (Cond.code y_Plan_has b_Plan_has 2 (some .boolean) :: am_W) rm_Plan_has [.ref a0, .int a1] w (am_ri r) 0 0 := by
  refine am_ofV (by decide) am_W_good (Nat.le_of_ble_eq_true rfl) (by simp [Value.category]) ?_
  intro p e s m below meth c C hret hlk hnm
  unfold f_Plan_has at hX
  refine am_iload_n (pc := 0) C d_Plan_has_0 rfl rfl ?_
  refine am_if_lt (pc := 1) (tgt := 16) C d_Plan_has_1 rfl hX (fun hX => ?_) (fun hX => ?_)
  · skip
    refine am_iconst (pc := 16) (v := (0 : Int32)) C d_Plan_has_16 (by decide) ?_
    exact am_iret (pc := 17) C hret hlk d_Plan_has_17 am_n0 (by decide) (by decide) hX
  · skip
    refine am_iload_n (pc := 4) C d_Plan_has_4 rfl rfl ?_
    refine am_aload_n (pc := 5) C d_Plan_has_5 rfl rfl ?_
    refine am_get (pc := 6) C hin_Plan rfl (by decide) wd_1_236 rfl d_Plan_has_6 rfl hX (fun x1 hX => ?_)
    refine am_icmp_ge (pc := 9) (tgt := 16) C d_Plan_has_9 rfl hX (fun hX => ?_) (fun hX => ?_)
    · skip
      refine am_iconst (pc := 16) (v := (0 : Int32)) C d_Plan_has_16 (by decide) ?_
      exact am_iret (pc := 17) C hret hlk d_Plan_has_17 am_n0 (by decide) (by decide) hX
    · skip
      refine am_iconst (pc := 12) (v := (1 : Int32)) C d_Plan_has_12 (by decide) ?_
      refine am_goto (pc := 13) (tgt := 17) C d_Plan_has_13 rfl ?_
      exact am_iret (pc := 17) C hret hlk d_Plan_has_17 am_n1 (by decide) (by decide) hX
def rm_Plan_makeReady : Room := { frames := 1, cells := 0, slots := 0, locals := 20 }
def s_Plan_makeReady_2 (k2 : Nat → Int32 → am_w → Option (Int32 × am_w)) (v0 : Nat) (v1 : Int32) (w : am_w) : Option (Int32 × am_w) := ((am_fg 5 1 v0 w).bind fun x1 => (if x1 ≤ v1 then (some (0, w)) else ((am_rg 5 0 v0 w).bind fun b2 => ((am_ag b2 v1 w).bind fun b3 => ((am_ob 6 b3 w (f_Activity_makeReady b3 w)).bind fun q4 => (k2 v0 (v1 + (1 : Int32)) q4.2))))))
def f_Plan_makeReady_2  (n : Nat) : Nat → Int32 → am_w → Option (Int32 × am_w) := am_it (fun _ _ _ => none) (s_Plan_makeReady_2 ) n
set_option maxHeartbeats 4000000 in
theorem L_Plan_makeReady_2 {p : Program} {l : Launch} {e : Env} {s : State} {m : MethodId} {args : Array Value} {below : List Frame} {meth : Method} {c : Code} {D : va_G} {A : Nat → Prop} {r : Int32 × am_w} (C : am_C p m c b_Plan_makeReady 2 s args am_W "RoverMinutes$Plan" D classes A) (hret : meth.sig.returnType = none) (hlk : meth.locks = false)   (n : Nat) : ∀ (v0 : Nat) (v1 : Int32) (w : am_w), f_Plan_makeReady_2  n v0 v1 w = some r → am_V p l e rm_Plan_makeReady s m args below meth c D classes tys A (am_F A true) 2 0 0 (MQ below (am_Q D classes tys A (am_F A true) (am_rv r)) args s 0 0 (am_F A true)) 2 [some (.ref v0), some (.int v1)] [] w := by
  refine am_it_ind (P := fun (t : Nat → Int32 → am_w → Option (Int32 × am_w)) => ∀ (v0 : Nat) (v1 : Int32) (w : am_w), t v0 v1 w = some r → am_V p l e rm_Plan_makeReady s m args below meth c D classes tys A (am_F A true) 2 0 0 (MQ below (am_Q D classes tys A (am_F A true) (am_rv r)) args s 0 0 (am_F A true)) 2 [some (.ref v0), some (.int v1)] [] w) ?_ ?_ n
  · intro v0 v1 w hX
    exact (am_nn hX).elim
  · intro k2 hk2 v0 v1 w hX
    unfold s_Plan_makeReady_2 at hX
    refine am_iload_n (pc := 2) C d_Plan_makeReady_2 rfl rfl ?_
    refine am_aload_n (pc := 3) C d_Plan_makeReady_3 rfl rfl ?_
    refine am_get (pc := 4) C hin_Plan rfl (by decide) wd_1_236 rfl d_Plan_makeReady_4 rfl hX (fun x1 hX => ?_)
    refine am_icmp_ge (pc := 7) (tgt := 25) C d_Plan_makeReady_7 rfl hX (fun hX => ?_) (fun hX => ?_)
    · skip
      exact am_vret (pc := 25) C hret hlk d_Plan_makeReady_25 (by decide) (by decide) hX
    · skip
      refine am_aload_n (pc := 10) C d_Plan_makeReady_10 rfl rfl ?_
      refine am_getr (pc := 11) C hin_Plan rfl (by decide) wd_1_232 rfl d_Plan_makeReady_11 rfl hX (fun b2 hX => ?_)
      refine am_iload_n (pc := 14) C d_Plan_makeReady_14 rfl rfl ?_
      refine am_aald (pc := 15) C d_Plan_makeReady_15 hX (fun b3 hX => ?_)
      refine am_callVv (pc := 16) (As := []) (st := []) (cells1 := 0) (slots1 := 0) C (fun _ h => h.2) (fun _ h => h) (fun q h => c_Activity_makeReady h) wd_3_115 wd_3_116 wd_3_117 wd_1_8 wd_3_118 rfl rfl hd_Activity_makeReady ⟨by decide, by decide⟩ rfl rfl (Nat.le_of_ble_eq_true rfl) d_Plan_makeReady_16 ⟨by decide, by decide⟩ rfl rfl rfl hX (fun q4 hX => ?_)
      refine am_iinc (pc := 19) (y := (1 : Int32)) (lo1 := [some (.ref v0), some (.int (v1 + (1 : Int32)))]) C d_Plan_makeReady_19 rfl (by decide) (by decide) rfl ?_
      refine am_goto (pc := 22) (tgt := 2) C d_Plan_makeReady_22 rfl ?_
      exact (hk2 v0 (v1 + (1 : Int32)) q4.2 hX)
def f_Plan_makeReady (a0 : Nat) (w : am_w) : Option (Int32 × am_w) := (f_Plan_makeReady_2  70 a0 (0 : Int32) w)
theorem hd_Plan_makeReady : y_Plan_makeReady.cls = "RoverMinutes$Plan" ∧ y_Plan_makeReady.cls ≠ "java/lang/invoke/MethodHandle" ∧ y_Plan_makeReady.cls ≠ "java/lang/invoke/VarHandle" ∧ (parseMethodDescriptor y_Plan_makeReady.desc).map (fun d => d.parameters.length) = some 0 := ⟨rfl, by decide, by decide, by decide +kernel⟩
set_option maxHeartbeats 4000000 in
theorem c_Plan_makeReady {l : Launch} {D : va_G} {A : Nat → Prop} {a0 : Nat} {w : am_w} {r : Int32 × am_w} (hX : f_Plan_makeReady a0 w = some r) : am_Met l D classes tys A (am_F A true) y_Plan_makeReady (Cond.code y_Plan_makeReady b_Plan_makeReady 2 none :: am_W) rm_Plan_makeReady [.ref a0] w (am_rv r) 0 0 := by
  refine am_ofV (by decide) am_W_good (Nat.le_of_ble_eq_true rfl) (by simp [Value.category]) ?_
  intro p e s m below meth c C hret hlk hnm
  unfold f_Plan_makeReady at hX
  refine am_iconst (pc := 0) (v := (0 : Int32)) C d_Plan_makeReady_0 (by decide) ?_
  refine am_istore_n (pc := 1) (lo1 := [some (.ref a0), some (.int (0 : Int32))]) C d_Plan_makeReady_1 rfl (by decide) rfl ?_
  exact (L_Plan_makeReady_2 C hret hlk  70 a0 (0 : Int32) w hX)
def rm_Plan_saysWrong : Room := { frames := 0, cells := 0, slots := 0, locals := 0 }
def f_Plan_saysWrong (a0 : Nat) (a1 : Int32) (w : am_w) : Option (Int32 × am_w) := ((am_rg 5 0 a0 w).bind fun b1 => ((am_ag b1 a1 w).bind fun b2 => ((am_fg 5 1 a0 w).bind fun x3 => ((am_fg 6 0 b2 w).bind fun x4 => (if x4 < (1 : Int32) then (some ((1 : Int32), w)) else ((am_fg 6 1 b2 w).bind fun x5 => (if (30 : Int32) < x5 then (some ((1 : Int32), w)) else ((am_fg 6 0 b2 w).bind fun x6 => ((am_fg 6 1 b2 w).bind fun x7 => (if x7 < x6 then (some ((1 : Int32), w)) else ((am_fg 6 6 b2 w).bind fun x8 => (if (3 : Int32) < x8 then (some ((1 : Int32), w)) else ((am_fg 6 7 b2 w).bind fun x9 => ((am_fg 6 8 b2 w).bind fun x10 => (if ((x9 ||| x10) &&& (((((1 : Int32) <<< (x3 &&& 31)) - (1 : Int32)) &&& (((1 : Int32) <<< (a1 &&& 31)) ^^^ (-1 : Int32))) ^^^ (-1 : Int32))) = 0 then (some ((0 : Int32), w)) else (some ((1 : Int32), w)))))))))))))))))
theorem hd_Plan_saysWrong : y_Plan_saysWrong.cls = "RoverMinutes$Plan" ∧ y_Plan_saysWrong.cls ≠ "java/lang/invoke/MethodHandle" ∧ y_Plan_saysWrong.cls ≠ "java/lang/invoke/VarHandle" ∧ (parseMethodDescriptor y_Plan_saysWrong.desc).map (fun d => d.parameters.length) = some 1 := ⟨rfl, by decide, by decide, by decide +kernel⟩
set_option maxHeartbeats 4000000 in
theorem c_Plan_saysWrong {l : Launch} {D : va_G} {A : Nat → Prop} {a0 : Nat} {a1 : Int32} {w : am_w} {r : Int32 × am_w} (hX : f_Plan_saysWrong a0 a1 w = some r) : am_Met l D classes tys A (am_F A false) y_Plan_saysWrong (Cond.code y_Plan_saysWrong b_Plan_saysWrong 4 (some .boolean) :: am_W) rm_Plan_saysWrong [.ref a0, .int a1] w (am_ri r) 0 0 := by
  refine am_ofV (by decide) am_W_good (Nat.le_of_ble_eq_true rfl) (by simp [Value.category]) ?_
  intro p e s m below meth c C hret hlk hnm
  unfold f_Plan_saysWrong at hX
  refine am_aload_n (pc := 0) C d_Plan_saysWrong_0 rfl rfl ?_
  refine am_getr (pc := 1) C hin_Plan rfl (by decide) wd_1_232 rfl d_Plan_saysWrong_1 rfl hX (fun b1 hX => ?_)
  refine am_iload_n (pc := 4) C d_Plan_saysWrong_4 rfl rfl ?_
  refine am_aald (pc := 5) C d_Plan_saysWrong_5 hX (fun b2 hX => ?_)
  refine am_astore_n (pc := 6) (lo1 := [some (.ref a0), some (.int a1), some (.ref b2), none]) C d_Plan_saysWrong_6 rfl (by decide) rfl ?_
  refine am_iconst (pc := 7) (v := (1 : Int32)) C d_Plan_saysWrong_7 (by decide) ?_
  refine am_aload_n (pc := 8) C d_Plan_saysWrong_8 rfl rfl ?_
  refine am_get (pc := 9) C hin_Plan rfl (by decide) wd_1_236 rfl d_Plan_saysWrong_9 rfl hX (fun x3 hX => ?_)
  refine am_ishl (pc := 12) C d_Plan_saysWrong_12 ?_
  refine am_iconst (pc := 13) (v := (1 : Int32)) C d_Plan_saysWrong_13 (by decide) ?_
  refine am_isub (pc := 14) C d_Plan_saysWrong_14 ?_
  refine am_iconst (pc := 15) (v := (1 : Int32)) C d_Plan_saysWrong_15 (by decide) ?_
  refine am_iload_n (pc := 16) C d_Plan_saysWrong_16 rfl rfl ?_
  refine am_ishl (pc := 17) C d_Plan_saysWrong_17 ?_
  refine am_iconst (pc := 18) (v := (-1 : Int32)) C d_Plan_saysWrong_18 (by decide) ?_
  refine am_ixor (pc := 19) C d_Plan_saysWrong_19 ?_
  refine am_iand (pc := 20) C d_Plan_saysWrong_20 ?_
  refine am_istore_n (pc := 21) (lo1 := [some (.ref a0), some (.int a1), some (.ref b2), some (.int ((((1 : Int32) <<< (x3 &&& 31)) - (1 : Int32)) &&& (((1 : Int32) <<< (a1 &&& 31)) ^^^ (-1 : Int32))))]) C d_Plan_saysWrong_21 rfl (by decide) rfl ?_
  refine am_aload_n (pc := 22) C d_Plan_saysWrong_22 rfl rfl ?_
  refine am_get (pc := 23) C hin_Activity rfl (by decide) wd_1_143 rfl d_Plan_saysWrong_23 rfl hX (fun x4 hX => ?_)
  refine am_iconst (pc := 26) (v := (1 : Int32)) C d_Plan_saysWrong_26 (by decide) ?_
  refine am_icmp_lt (pc := 27) (tgt := 74) C d_Plan_saysWrong_27 rfl hX (fun hX => ?_) (fun hX => ?_)
  · skip
    refine am_iconst (pc := 74) (v := (1 : Int32)) C d_Plan_saysWrong_74 (by decide) ?_
    refine am_goto (pc := 75) (tgt := 79) C d_Plan_saysWrong_75 rfl ?_
    exact am_iret (pc := 79) C hret hlk d_Plan_saysWrong_79 am_n1 (by decide) (by decide) hX
  · skip
    refine am_aload_n (pc := 30) C d_Plan_saysWrong_30 rfl rfl ?_
    refine am_get (pc := 31) C hin_Activity rfl (by decide) wd_1_147 rfl d_Plan_saysWrong_31 rfl hX (fun x5 hX => ?_)
    refine am_bipush (pc := 34) (v := (30 : Int32)) C d_Plan_saysWrong_34 (by decide) ?_
    refine am_icmp_gt (pc := 36) (tgt := 74) C d_Plan_saysWrong_36 rfl hX (fun hX => ?_) (fun hX => ?_)
    · skip
      refine am_iconst (pc := 74) (v := (1 : Int32)) C d_Plan_saysWrong_74 (by decide) ?_
      refine am_goto (pc := 75) (tgt := 79) C d_Plan_saysWrong_75 rfl ?_
      exact am_iret (pc := 79) C hret hlk d_Plan_saysWrong_79 am_n1 (by decide) (by decide) hX
    · skip
      refine am_aload_n (pc := 39) C d_Plan_saysWrong_39 rfl rfl ?_
      refine am_get (pc := 40) C hin_Activity rfl (by decide) wd_1_143 rfl d_Plan_saysWrong_40 rfl hX (fun x6 hX => ?_)
      refine am_aload_n (pc := 43) C d_Plan_saysWrong_43 rfl rfl ?_
      refine am_get (pc := 44) C hin_Activity rfl (by decide) wd_1_147 rfl d_Plan_saysWrong_44 rfl hX (fun x7 hX => ?_)
      refine am_icmp_gt (pc := 47) (tgt := 74) C d_Plan_saysWrong_47 rfl hX (fun hX => ?_) (fun hX => ?_)
      · skip
        refine am_iconst (pc := 74) (v := (1 : Int32)) C d_Plan_saysWrong_74 (by decide) ?_
        refine am_goto (pc := 75) (tgt := 79) C d_Plan_saysWrong_75 rfl ?_
        exact am_iret (pc := 79) C hret hlk d_Plan_saysWrong_79 am_n1 (by decide) (by decide) hX
      · skip
        refine am_aload_n (pc := 50) C d_Plan_saysWrong_50 rfl rfl ?_
        refine am_get (pc := 51) C hin_Activity rfl (by decide) wd_1_163 rfl d_Plan_saysWrong_51 rfl hX (fun x8 hX => ?_)
        refine am_iconst (pc := 54) (v := (3 : Int32)) C d_Plan_saysWrong_54 (by decide) ?_
        refine am_icmp_gt (pc := 55) (tgt := 74) C d_Plan_saysWrong_55 rfl hX (fun hX => ?_) (fun hX => ?_)
        · skip
          refine am_iconst (pc := 74) (v := (1 : Int32)) C d_Plan_saysWrong_74 (by decide) ?_
          refine am_goto (pc := 75) (tgt := 79) C d_Plan_saysWrong_75 rfl ?_
          exact am_iret (pc := 79) C hret hlk d_Plan_saysWrong_79 am_n1 (by decide) (by decide) hX
        · skip
          refine am_aload_n (pc := 58) C d_Plan_saysWrong_58 rfl rfl ?_
          refine am_get (pc := 59) C hin_Activity rfl (by decide) wd_1_166 rfl d_Plan_saysWrong_59 rfl hX (fun x9 hX => ?_)
          refine am_aload_n (pc := 62) C d_Plan_saysWrong_62 rfl rfl ?_
          refine am_get (pc := 63) C hin_Activity rfl (by decide) wd_1_169 rfl d_Plan_saysWrong_63 rfl hX (fun x10 hX => ?_)
          refine am_ior (pc := 66) C d_Plan_saysWrong_66 ?_
          refine am_iload_n (pc := 67) C d_Plan_saysWrong_67 rfl rfl ?_
          refine am_iconst (pc := 68) (v := (-1 : Int32)) C d_Plan_saysWrong_68 (by decide) ?_
          refine am_ixor (pc := 69) C d_Plan_saysWrong_69 ?_
          refine am_iand (pc := 70) C d_Plan_saysWrong_70 ?_
          refine am_if_eq (pc := 71) (tgt := 78) C d_Plan_saysWrong_71 rfl hX (fun hX => ?_) (fun hX => ?_)
          · skip
            refine am_iconst (pc := 78) (v := (0 : Int32)) C d_Plan_saysWrong_78 (by decide) ?_
            exact am_iret (pc := 79) C hret hlk d_Plan_saysWrong_79 am_n0 (by decide) (by decide) hX
          · skip
            refine am_iconst (pc := 74) (v := (1 : Int32)) C d_Plan_saysWrong_74 (by decide) ?_
            refine am_goto (pc := 75) (tgt := 79) C d_Plan_saysWrong_75 rfl ?_
            exact am_iret (pc := 79) C hret hlk d_Plan_saysWrong_79 am_n1 (by decide) (by decide) hX
def rm_Plan_isInRing : Room := { frames := 0, cells := 0, slots := 0, locals := 0 }
def s_Plan_isInRing_23 (k12 : Nat → Int32 → Int32 → Int32 → am_w → Option (Int32 × am_w)) (k23 : Nat → Int32 → Int32 → Int32 → Int32 → am_w → Option (Int32 × am_w)) (v0 : Nat) (v1 : Int32) (v2 : Int32) (v3 : Int32) (v4 : Int32) (w : am_w) : Option (Int32 × am_w) := ((am_fg 5 1 v0 w).bind fun x5 => (if x5 ≤ v4 then (k12 v0 v1 v2 (v3 + (1 : Int32)) w) else (if ((v2 >>> (v4 &&& 31)) &&& (1 : Int32)) = 0 then (k23 v0 v1 v2 v3 (v4 + (1 : Int32)) w) else ((am_rg 5 0 v0 w).bind fun b6 => ((am_ag b6 v4 w).bind fun b7 => ((am_fg 6 7 b7 w).bind fun x8 => (k23 v0 v1 (v2 ||| x8) v3 (v4 + (1 : Int32)) w)))))))
def f_Plan_isInRing_23 (k12 : Nat → Int32 → Int32 → Int32 → am_w → Option (Int32 × am_w)) (n : Nat) : Nat → Int32 → Int32 → Int32 → Int32 → am_w → Option (Int32 × am_w) := am_it (fun _ _ _ _ _ _ => none) (s_Plan_isInRing_23 k12) n
set_option maxHeartbeats 4000000 in
theorem L_Plan_isInRing_23 {p : Program} {l : Launch} {e : Env} {s : State} {m : MethodId} {args : Array Value} {below : List Frame} {meth : Method} {c : Code} {D : va_G} {A : Nat → Prop} {r : Int32 × am_w} (C : am_C p m c b_Plan_isInRing 5 s args am_W "RoverMinutes$Plan" D classes A) (hret : meth.sig.returnType = (some .boolean)) (hlk : meth.locks = false) {k12 : Nat → Int32 → Int32 → Int32 → am_w → Option (Int32 × am_w)} (hk12 : ∀ (v0 : Nat) (v1 : Int32) (v2 : Int32) (v3 : Int32) (w : am_w), k12 v0 v1 v2 v3 w = some r → am_V p l e rm_Plan_isInRing s m args below meth c D classes tys A (am_F A false) 5 0 0 (MQ below (am_Q D classes tys A (am_F A false) (am_ri r)) args s 0 0 (am_F A false)) 12 [some (.ref v0), some (.int v1), some (.int v2), some (.int v3), none] [] w) (n : Nat) : ∀ (v0 : Nat) (v1 : Int32) (v2 : Int32) (v3 : Int32) (v4 : Int32) (w : am_w), f_Plan_isInRing_23 k12 n v0 v1 v2 v3 v4 w = some r → am_V p l e rm_Plan_isInRing s m args below meth c D classes tys A (am_F A false) 5 0 0 (MQ below (am_Q D classes tys A (am_F A false) (am_ri r)) args s 0 0 (am_F A false)) 23 [some (.ref v0), some (.int v1), some (.int v2), some (.int v3), some (.int v4)] [] w := by
  refine am_it_ind (P := fun (t : Nat → Int32 → Int32 → Int32 → Int32 → am_w → Option (Int32 × am_w)) => ∀ (v0 : Nat) (v1 : Int32) (v2 : Int32) (v3 : Int32) (v4 : Int32) (w : am_w), t v0 v1 v2 v3 v4 w = some r → am_V p l e rm_Plan_isInRing s m args below meth c D classes tys A (am_F A false) 5 0 0 (MQ below (am_Q D classes tys A (am_F A false) (am_ri r)) args s 0 0 (am_F A false)) 23 [some (.ref v0), some (.int v1), some (.int v2), some (.int v3), some (.int v4)] [] w) ?_ ?_ n
  · intro v0 v1 v2 v3 v4 w hX
    exact (am_nn hX).elim
  · intro k23 hk23 v0 v1 v2 v3 v4 w hX
    unfold s_Plan_isInRing_23 at hX
    refine am_iload (pc := 23) C d_Plan_isInRing_23 rfl ?_
    refine am_aload_n (pc := 25) C d_Plan_isInRing_25 rfl rfl ?_
    refine am_get (pc := 26) C hin_Plan rfl (by decide) wd_1_236 rfl d_Plan_isInRing_26 rfl hX (fun x5 hX => ?_)
    refine am_icmp_ge (pc := 29) (tgt := 60) C d_Plan_isInRing_29 rfl hX (fun hX => ?_) (fun hX => ?_)
    · skip
      refine am_iinc (pc := 60) (y := (1 : Int32)) (lo1 := [some (.ref v0), some (.int v1), some (.int v2), some (.int (v3 + (1 : Int32))), some (.int v4)]) C d_Plan_isInRing_60 rfl (by decide) (by decide) rfl ?_
      refine am_goto (pc := 63) (tgt := 12) C d_Plan_isInRing_63 rfl ?_
      exact am_sub (am_le_s (am_le_s (am_le_s (am_le_s (am_le_n (am_le_0)))))) (hk12 v0 v1 v2 (v3 + (1 : Int32)) w hX)
    · skip
      refine am_iload_n (pc := 32) C d_Plan_isInRing_32 rfl rfl ?_
      refine am_iload (pc := 33) C d_Plan_isInRing_33 rfl ?_
      refine am_ishr (pc := 35) C d_Plan_isInRing_35 ?_
      refine am_iconst (pc := 36) (v := (1 : Int32)) C d_Plan_isInRing_36 (by decide) ?_
      refine am_iand (pc := 37) C d_Plan_isInRing_37 ?_
      refine am_if_eq (pc := 38) (tgt := 54) C d_Plan_isInRing_38 rfl hX (fun hX => ?_) (fun hX => ?_)
      · skip
        refine am_iinc (pc := 54) (y := (1 : Int32)) (lo1 := [some (.ref v0), some (.int v1), some (.int v2), some (.int v3), some (.int (v4 + (1 : Int32)))]) C d_Plan_isInRing_54 rfl (by decide) (by decide) rfl ?_
        refine am_goto (pc := 57) (tgt := 23) C d_Plan_isInRing_57 rfl ?_
        exact (hk23 v0 v1 v2 v3 (v4 + (1 : Int32)) w hX)
      · skip
        refine am_iload_n (pc := 41) C d_Plan_isInRing_41 rfl rfl ?_
        refine am_aload_n (pc := 42) C d_Plan_isInRing_42 rfl rfl ?_
        refine am_getr (pc := 43) C hin_Plan rfl (by decide) wd_1_232 rfl d_Plan_isInRing_43 rfl hX (fun b6 hX => ?_)
        refine am_iload (pc := 46) C d_Plan_isInRing_46 rfl ?_
        refine am_aald (pc := 48) C d_Plan_isInRing_48 hX (fun b7 hX => ?_)
        refine am_get (pc := 49) C hin_Activity rfl (by decide) wd_1_166 rfl d_Plan_isInRing_49 rfl hX (fun x8 hX => ?_)
        refine am_ior (pc := 52) C d_Plan_isInRing_52 ?_
        refine am_istore_n (pc := 53) (lo1 := [some (.ref v0), some (.int v1), some (.int (v2 ||| x8)), some (.int v3), some (.int v4)]) C d_Plan_isInRing_53 rfl (by decide) rfl ?_
        refine am_iinc (pc := 54) (y := (1 : Int32)) (lo1 := [some (.ref v0), some (.int v1), some (.int (v2 ||| x8)), some (.int v3), some (.int (v4 + (1 : Int32)))]) C d_Plan_isInRing_54 rfl (by decide) (by decide) rfl ?_
        refine am_goto (pc := 57) (tgt := 23) C d_Plan_isInRing_57 rfl ?_
        exact (hk23 v0 v1 (v2 ||| x8) v3 (v4 + (1 : Int32)) w hX)
def s_Plan_isInRing_12 (k12 : Nat → Int32 → Int32 → Int32 → am_w → Option (Int32 × am_w)) (v0 : Nat) (v1 : Int32) (v2 : Int32) (v3 : Int32) (w : am_w) : Option (Int32 × am_w) := ((am_fg 5 1 v0 w).bind fun x4 => (if x4 ≤ v3 then (if ((v2 >>> (v1 &&& 31)) &&& (1 : Int32)) = 0 then (some ((0 : Int32), w)) else (some ((1 : Int32), w))) else (f_Plan_isInRing_23 k12 70 v0 v1 v2 v3 (0 : Int32) w)))
def f_Plan_isInRing_12  (n : Nat) : Nat → Int32 → Int32 → Int32 → am_w → Option (Int32 × am_w) := am_it (fun _ _ _ _ _ => none) (s_Plan_isInRing_12 ) n
set_option maxHeartbeats 4000000 in
theorem L_Plan_isInRing_12 {p : Program} {l : Launch} {e : Env} {s : State} {m : MethodId} {args : Array Value} {below : List Frame} {meth : Method} {c : Code} {D : va_G} {A : Nat → Prop} {r : Int32 × am_w} (C : am_C p m c b_Plan_isInRing 5 s args am_W "RoverMinutes$Plan" D classes A) (hret : meth.sig.returnType = (some .boolean)) (hlk : meth.locks = false)   (n : Nat) : ∀ (v0 : Nat) (v1 : Int32) (v2 : Int32) (v3 : Int32) (w : am_w), f_Plan_isInRing_12  n v0 v1 v2 v3 w = some r → am_V p l e rm_Plan_isInRing s m args below meth c D classes tys A (am_F A false) 5 0 0 (MQ below (am_Q D classes tys A (am_F A false) (am_ri r)) args s 0 0 (am_F A false)) 12 [some (.ref v0), some (.int v1), some (.int v2), some (.int v3), none] [] w := by
  refine am_it_ind (P := fun (t : Nat → Int32 → Int32 → Int32 → am_w → Option (Int32 × am_w)) => ∀ (v0 : Nat) (v1 : Int32) (v2 : Int32) (v3 : Int32) (w : am_w), t v0 v1 v2 v3 w = some r → am_V p l e rm_Plan_isInRing s m args below meth c D classes tys A (am_F A false) 5 0 0 (MQ below (am_Q D classes tys A (am_F A false) (am_ri r)) args s 0 0 (am_F A false)) 12 [some (.ref v0), some (.int v1), some (.int v2), some (.int v3), none] [] w) ?_ ?_ n
  · intro v0 v1 v2 v3 w hX
    exact (am_nn hX).elim
  · intro k12 hk12 v0 v1 v2 v3 w hX
    unfold s_Plan_isInRing_12 at hX
    refine am_iload_n (pc := 12) C d_Plan_isInRing_12 rfl rfl ?_
    refine am_aload_n (pc := 13) C d_Plan_isInRing_13 rfl rfl ?_
    refine am_get (pc := 14) C hin_Plan rfl (by decide) wd_1_236 rfl d_Plan_isInRing_14 rfl hX (fun x4 hX => ?_)
    refine am_icmp_ge (pc := 17) (tgt := 66) C d_Plan_isInRing_17 rfl hX (fun hX => ?_) (fun hX => ?_)
    · skip
      refine am_iload_n (pc := 66) C d_Plan_isInRing_66 rfl rfl ?_
      refine am_iload_n (pc := 67) C d_Plan_isInRing_67 rfl rfl ?_
      refine am_ishr (pc := 68) C d_Plan_isInRing_68 ?_
      refine am_iconst (pc := 69) (v := (1 : Int32)) C d_Plan_isInRing_69 (by decide) ?_
      refine am_iand (pc := 70) C d_Plan_isInRing_70 ?_
      refine am_if_eq (pc := 71) (tgt := 78) C d_Plan_isInRing_71 rfl hX (fun hX => ?_) (fun hX => ?_)
      · skip
        refine am_iconst (pc := 78) (v := (0 : Int32)) C d_Plan_isInRing_78 (by decide) ?_
        exact am_iret (pc := 79) C hret hlk d_Plan_isInRing_79 am_n0 (by decide) (by decide) hX
      · skip
        refine am_iconst (pc := 74) (v := (1 : Int32)) C d_Plan_isInRing_74 (by decide) ?_
        refine am_goto (pc := 75) (tgt := 79) C d_Plan_isInRing_75 rfl ?_
        exact am_iret (pc := 79) C hret hlk d_Plan_isInRing_79 am_n1 (by decide) (by decide) hX
    · skip
      refine am_iconst (pc := 20) (v := (0 : Int32)) C d_Plan_isInRing_20 (by decide) ?_
      refine am_istore (pc := 21) (lo1 := [some (.ref v0), some (.int v1), some (.int v2), some (.int v3), some (.int (0 : Int32))]) C d_Plan_isInRing_21 (by decide) rfl ?_
      exact (L_Plan_isInRing_23 C hret hlk hk12 70 v0 v1 v2 v3 (0 : Int32) w hX)
def f_Plan_isInRing (a0 : Nat) (a1 : Int32) (w : am_w) : Option (Int32 × am_w) := ((am_rg 5 0 a0 w).bind fun b1 => ((am_ag b1 a1 w).bind fun b2 => ((am_fg 6 7 b2 w).bind fun x3 => (f_Plan_isInRing_12  70 a0 a1 x3 (0 : Int32) w))))
theorem hd_Plan_isInRing : y_Plan_isInRing.cls = "RoverMinutes$Plan" ∧ y_Plan_isInRing.cls ≠ "java/lang/invoke/MethodHandle" ∧ y_Plan_isInRing.cls ≠ "java/lang/invoke/VarHandle" ∧ (parseMethodDescriptor y_Plan_isInRing.desc).map (fun d => d.parameters.length) = some 1 := ⟨rfl, by decide, by decide, by decide +kernel⟩
set_option maxHeartbeats 4000000 in
theorem c_Plan_isInRing {l : Launch} {D : va_G} {A : Nat → Prop} {a0 : Nat} {a1 : Int32} {w : am_w} {r : Int32 × am_w} (hX : f_Plan_isInRing a0 a1 w = some r) : am_Met l D classes tys A (am_F A false) y_Plan_isInRing (Cond.code y_Plan_isInRing b_Plan_isInRing 5 (some .boolean) :: am_W) rm_Plan_isInRing [.ref a0, .int a1] w (am_ri r) 0 0 := by
  refine am_ofV (by decide) am_W_good (Nat.le_of_ble_eq_true rfl) (by simp [Value.category]) ?_
  intro p e s m below meth c C hret hlk hnm
  unfold f_Plan_isInRing at hX
  refine am_aload_n (pc := 0) C d_Plan_isInRing_0 rfl rfl ?_
  refine am_getr (pc := 1) C hin_Plan rfl (by decide) wd_1_232 rfl d_Plan_isInRing_1 rfl hX (fun b1 hX => ?_)
  refine am_iload_n (pc := 4) C d_Plan_isInRing_4 rfl rfl ?_
  refine am_aald (pc := 5) C d_Plan_isInRing_5 hX (fun b2 hX => ?_)
  refine am_get (pc := 6) C hin_Activity rfl (by decide) wd_1_166 rfl d_Plan_isInRing_6 rfl hX (fun x3 hX => ?_)
  refine am_istore_n (pc := 9) (lo1 := [some (.ref a0), some (.int a1), some (.int x3), none, none]) C d_Plan_isInRing_9 rfl (by decide) rfl ?_
  refine am_iconst (pc := 10) (v := (0 : Int32)) C d_Plan_isInRing_10 (by decide) ?_
  refine am_istore_n (pc := 11) (lo1 := [some (.ref a0), some (.int a1), some (.int x3), some (.int (0 : Int32)), none]) C d_Plan_isInRing_11 rfl (by decide) rfl ?_
  exact (L_Plan_isInRing_12 C hret hlk  70 a0 a1 x3 (0 : Int32) w hX)
def rm_Plan_earliestOf : Room := { frames := 1, cells := 0, slots := 0, locals := 21 }
def s_Plan_earliestOf_4 (k4 : Nat → Nat → Int32 → Int32 → am_w → Option (Int32 × am_w)) (v0 : Nat) (v1 : Nat) (v2 : Int32) (v3 : Int32) (w : am_w) : Option (Int32 × am_w) := ((am_fg 5 1 v0 w).bind fun x1 => (if x1 ≤ v3 then (some (v2, w)) else ((am_ob 6 v1 w (f_Activity_isAfter v1 v3 w)).bind fun q2 => (if q2.1 = 0 then (k4 v0 v1 v2 (v3 + (1 : Int32)) q2.2) else ((am_rg 5 0 v0 q2.2).bind fun b3 => ((am_ag b3 v3 q2.2).bind fun b4 => ((am_fg 6 9 b4 q2.2).bind fun x5 => ((am_rg 5 0 v0 q2.2).bind fun b6 => ((am_ag b6 v3 q2.2).bind fun b7 => ((am_fg 6 0 b7 q2.2).bind fun x8 => (am_let (if v2 < (x5 + x8) then (x5 + x8) else v2) fun x9 => (k4 v0 v1 x9 (v3 + (1 : Int32)) q2.2))))))))))))
def f_Plan_earliestOf_4  (n : Nat) : Nat → Nat → Int32 → Int32 → am_w → Option (Int32 × am_w) := am_it (fun _ _ _ _ _ => none) (s_Plan_earliestOf_4 ) n
set_option maxHeartbeats 4000000 in
theorem L_Plan_earliestOf_4 {p : Program} {l : Launch} {e : Env} {s : State} {m : MethodId} {args : Array Value} {below : List Frame} {meth : Method} {c : Code} {D : va_G} {A : Nat → Prop} {r : Int32 × am_w} (C : am_C p m c b_Plan_earliestOf 4 s args am_W "RoverMinutes$Plan" D classes A) (hret : meth.sig.returnType = (some .int)) (hlk : meth.locks = false)   (n : Nat) : ∀ (v0 : Nat) (v1 : Nat) (v2 : Int32) (v3 : Int32) (w : am_w), f_Plan_earliestOf_4  n v0 v1 v2 v3 w = some r → am_V p l e rm_Plan_earliestOf s m args below meth c D classes tys A (am_F A false) 4 0 0 (MQ below (am_Q D classes tys A (am_F A false) (am_ri r)) args s 0 0 (am_F A false)) 4 [some (.ref v0), some (.ref v1), some (.int v2), some (.int v3)] [] w := by
  refine am_it_ind (P := fun (t : Nat → Nat → Int32 → Int32 → am_w → Option (Int32 × am_w)) => ∀ (v0 : Nat) (v1 : Nat) (v2 : Int32) (v3 : Int32) (w : am_w), t v0 v1 v2 v3 w = some r → am_V p l e rm_Plan_earliestOf s m args below meth c D classes tys A (am_F A false) 4 0 0 (MQ below (am_Q D classes tys A (am_F A false) (am_ri r)) args s 0 0 (am_F A false)) 4 [some (.ref v0), some (.ref v1), some (.int v2), some (.int v3)] [] w) ?_ ?_ n
  · intro v0 v1 v2 v3 w hX
    exact (am_nn hX).elim
  · intro k4 hk4 v0 v1 v2 v3 w hX
    unfold s_Plan_earliestOf_4 at hX
    refine am_iload_n (pc := 4) C d_Plan_earliestOf_4 rfl rfl ?_
    refine am_aload_n (pc := 5) C d_Plan_earliestOf_5 rfl rfl ?_
    refine am_get (pc := 6) C hin_Plan rfl (by decide) wd_1_236 rfl d_Plan_earliestOf_6 rfl hX (fun x1 hX => ?_)
    refine am_icmp_ge (pc := 9) (tgt := 50) C d_Plan_earliestOf_9 rfl hX (fun hX => ?_) (fun hX => ?_)
    · skip
      refine am_iload_n (pc := 50) C d_Plan_earliestOf_50 rfl rfl ?_
      exact am_iret (pc := 51) C hret hlk d_Plan_earliestOf_51 rfl (by decide) (by decide) hX
    · skip
      refine am_aload_n (pc := 12) C d_Plan_earliestOf_12 rfl rfl ?_
      refine am_iload_n (pc := 13) C d_Plan_earliestOf_13 rfl rfl ?_
      refine am_callVi (pc := 14) (As := [.int v3]) (st := []) (cells1 := 0) (slots1 := 0) C (fun _ h => h.2) (fun _ h => by cases h.1) (fun q h => c_Activity_isAfter h) wd_3_106 wd_3_107 wd_3_108 wd_1_8 wd_3_109 rfl rfl hd_Activity_isAfter ⟨by decide, by decide⟩ rfl rfl (Nat.le_of_ble_eq_true rfl) d_Plan_earliestOf_14 ⟨by decide, by decide⟩ rfl rfl rfl hX (fun q2 hX => ?_)
      refine am_if_eq (pc := 17) (tgt := 44) C d_Plan_earliestOf_17 rfl hX (fun hX => ?_) (fun hX => ?_)
      · skip
        refine am_iinc (pc := 44) (y := (1 : Int32)) (lo1 := [some (.ref v0), some (.ref v1), some (.int v2), some (.int (v3 + (1 : Int32)))]) C d_Plan_earliestOf_44 rfl (by decide) (by decide) rfl ?_
        refine am_goto (pc := 47) (tgt := 4) C d_Plan_earliestOf_47 rfl ?_
        exact (hk4 v0 v1 v2 (v3 + (1 : Int32)) q2.2 hX)
      · skip
        refine am_iload_n (pc := 20) C d_Plan_earliestOf_20 rfl rfl ?_
        refine am_aload_n (pc := 21) C d_Plan_earliestOf_21 rfl rfl ?_
        refine am_getr (pc := 22) C hin_Plan rfl (by decide) wd_1_232 rfl d_Plan_earliestOf_22 rfl hX (fun b3 hX => ?_)
        refine am_iload_n (pc := 25) C d_Plan_earliestOf_25 rfl rfl ?_
        refine am_aald (pc := 26) C d_Plan_earliestOf_26 hX (fun b4 hX => ?_)
        refine am_get (pc := 27) C hin_Activity rfl (by decide) wd_1_172 rfl d_Plan_earliestOf_27 rfl hX (fun x5 hX => ?_)
        refine am_aload_n (pc := 30) C d_Plan_earliestOf_30 rfl rfl ?_
        refine am_getr (pc := 31) C hin_Plan rfl (by decide) wd_1_232 rfl d_Plan_earliestOf_31 rfl hX (fun b6 hX => ?_)
        refine am_iload_n (pc := 34) C d_Plan_earliestOf_34 rfl rfl ?_
        refine am_aald (pc := 35) C d_Plan_earliestOf_35 hX (fun b7 hX => ?_)
        refine am_get (pc := 36) C hin_Activity rfl (by decide) wd_1_143 rfl d_Plan_earliestOf_36 rfl hX (fun x8 hX => ?_)
        refine am_iadd (pc := 39) C d_Plan_earliestOf_39 ?_
        refine am_mmax (pc := 40) C wd_3_110 wd_1_77 wd_1_5 wd_1_78 (by decide) (Nat.le_of_ble_eq_true rfl) (by decide) (by decide) d_Plan_earliestOf_40 ?_
        obtain ⟨x9, ex9, hX⟩ := am_let_of hX
        rw [← ex9]
        refine am_istore_n (pc := 43) (lo1 := [some (.ref v0), some (.ref v1), some (.int x9), some (.int v3)]) C d_Plan_earliestOf_43 rfl (by decide) rfl ?_
        refine am_iinc (pc := 44) (y := (1 : Int32)) (lo1 := [some (.ref v0), some (.ref v1), some (.int x9), some (.int (v3 + (1 : Int32)))]) C d_Plan_earliestOf_44 rfl (by decide) (by decide) rfl ?_
        refine am_goto (pc := 47) (tgt := 4) C d_Plan_earliestOf_47 rfl ?_
        exact (hk4 v0 v1 x9 (v3 + (1 : Int32)) q2.2 hX)
def f_Plan_earliestOf (a0 : Nat) (a1 : Nat) (w : am_w) : Option (Int32 × am_w) := (f_Plan_earliestOf_4  70 a0 a1 (0 : Int32) (0 : Int32) w)
theorem hd_Plan_earliestOf : y_Plan_earliestOf.cls = "RoverMinutes$Plan" ∧ y_Plan_earliestOf.cls ≠ "java/lang/invoke/MethodHandle" ∧ y_Plan_earliestOf.cls ≠ "java/lang/invoke/VarHandle" ∧ (parseMethodDescriptor y_Plan_earliestOf.desc).map (fun d => d.parameters.length) = some 1 := ⟨rfl, by decide, by decide, by decide +kernel⟩
set_option maxHeartbeats 4000000 in
theorem c_Plan_earliestOf {l : Launch} {D : va_G} {A : Nat → Prop} {a0 : Nat} {a1 : Nat} {w : am_w} {r : Int32 × am_w} (hX : f_Plan_earliestOf a0 a1 w = some r) : am_Met l D classes tys A (am_F A false) y_Plan_earliestOf (Cond.code y_Plan_earliestOf b_Plan_earliestOf 4 (some .int) :: am_W) rm_Plan_earliestOf [.ref a0, .ref a1] w (am_ri r) 0 0 := by
  refine am_ofV (by decide) am_W_good (Nat.le_of_ble_eq_true rfl) (by simp [Value.category]) ?_
  intro p e s m below meth c C hret hlk hnm
  unfold f_Plan_earliestOf at hX
  refine am_iconst (pc := 0) (v := (0 : Int32)) C d_Plan_earliestOf_0 (by decide) ?_
  refine am_istore_n (pc := 1) (lo1 := [some (.ref a0), some (.ref a1), some (.int (0 : Int32)), none]) C d_Plan_earliestOf_1 rfl (by decide) rfl ?_
  refine am_iconst (pc := 2) (v := (0 : Int32)) C d_Plan_earliestOf_2 (by decide) ?_
  refine am_istore_n (pc := 3) (lo1 := [some (.ref a0), some (.ref a1), some (.int (0 : Int32)), some (.int (0 : Int32))]) C d_Plan_earliestOf_3 rfl (by decide) rfl ?_
  exact (L_Plan_earliestOf_4 C hret hlk  70 a0 a1 (0 : Int32) (0 : Int32) w hX)
def rm_Plan_reckonEarliest : Room := { frames := 2, cells := 0, slots := 0, locals := 44 }
def s_Plan_reckonEarliest_12 (k2 : Nat → Int32 → am_w → Option (Int32 × am_w)) (k12 : Nat → Int32 → Int32 → am_w → Option (Int32 × am_w)) (v0 : Nat) (v1 : Int32) (v2 : Int32) (w : am_w) : Option (Int32 × am_w) := ((am_fg 5 1 v0 w).bind fun x2 => (if x2 ≤ v2 then (k2 v0 (v1 + (1 : Int32)) w) else ((am_rg 5 0 v0 w).bind fun b3 => ((am_ag b3 v2 w).bind fun b4 => ((am_rg 5 0 v0 w).bind fun b5 => ((am_ag b5 v2 w).bind fun b6 => ((am_ob 5 v0 w (f_Plan_earliestOf v0 b6 w)).bind fun q7 => ((am_fp 6 9 b4 q7.1 q7.2).bind fun w8 => (k12 v0 v1 (v2 + (1 : Int32)) w8)))))))))
def f_Plan_reckonEarliest_12 (k2 : Nat → Int32 → am_w → Option (Int32 × am_w)) (n : Nat) : Nat → Int32 → Int32 → am_w → Option (Int32 × am_w) := am_it (fun _ _ _ _ => none) (s_Plan_reckonEarliest_12 k2) n
set_option maxHeartbeats 4000000 in
theorem L_Plan_reckonEarliest_12 {p : Program} {l : Launch} {e : Env} {s : State} {m : MethodId} {args : Array Value} {below : List Frame} {meth : Method} {c : Code} {D : va_G} {A : Nat → Prop} {r : Int32 × am_w} (C : am_C p m c b_Plan_reckonEarliest 3 s args am_W "RoverMinutes$Plan" D classes A) (hret : meth.sig.returnType = none) (hlk : meth.locks = false) {k2 : Nat → Int32 → am_w → Option (Int32 × am_w)} (hk2 : ∀ (v0 : Nat) (v1 : Int32) (w : am_w), k2 v0 v1 w = some r → am_V p l e rm_Plan_reckonEarliest s m args below meth c D classes tys A (am_F A true) 3 0 0 (MQ below (am_Q D classes tys A (am_F A true) (am_rv r)) args s 0 0 (am_F A true)) 2 [some (.ref v0), some (.int v1), none] [] w) (n : Nat) : ∀ (v0 : Nat) (v1 : Int32) (v2 : Int32) (w : am_w), f_Plan_reckonEarliest_12 k2 n v0 v1 v2 w = some r → am_V p l e rm_Plan_reckonEarliest s m args below meth c D classes tys A (am_F A true) 3 0 0 (MQ below (am_Q D classes tys A (am_F A true) (am_rv r)) args s 0 0 (am_F A true)) 12 [some (.ref v0), some (.int v1), some (.int v2)] [] w := by
  refine am_it_ind (P := fun (t : Nat → Int32 → Int32 → am_w → Option (Int32 × am_w)) => ∀ (v0 : Nat) (v1 : Int32) (v2 : Int32) (w : am_w), t v0 v1 v2 w = some r → am_V p l e rm_Plan_reckonEarliest s m args below meth c D classes tys A (am_F A true) 3 0 0 (MQ below (am_Q D classes tys A (am_F A true) (am_rv r)) args s 0 0 (am_F A true)) 12 [some (.ref v0), some (.int v1), some (.int v2)] [] w) ?_ ?_ n
  · intro v0 v1 v2 w hX
    exact (am_nn hX).elim
  · intro k12 hk12 v0 v1 v2 w hX
    unfold s_Plan_reckonEarliest_12 at hX
    refine am_iload_n (pc := 12) C d_Plan_reckonEarliest_12 rfl rfl ?_
    refine am_aload_n (pc := 13) C d_Plan_reckonEarliest_13 rfl rfl ?_
    refine am_get (pc := 14) C hin_Plan rfl (by decide) wd_1_236 rfl d_Plan_reckonEarliest_14 rfl hX (fun x2 hX => ?_)
    refine am_icmp_ge (pc := 17) (tgt := 45) C d_Plan_reckonEarliest_17 rfl hX (fun hX => ?_) (fun hX => ?_)
    · skip
      refine am_iinc (pc := 45) (y := (1 : Int32)) (lo1 := [some (.ref v0), some (.int (v1 + (1 : Int32))), some (.int v2)]) C d_Plan_reckonEarliest_45 rfl (by decide) (by decide) rfl ?_
      refine am_goto (pc := 48) (tgt := 2) C d_Plan_reckonEarliest_48 rfl ?_
      exact am_sub (am_le_s (am_le_s (am_le_n (am_le_0)))) (hk2 v0 (v1 + (1 : Int32)) w hX)
    · skip
      refine am_aload_n (pc := 20) C d_Plan_reckonEarliest_20 rfl rfl ?_
      refine am_getr (pc := 21) C hin_Plan rfl (by decide) wd_1_232 rfl d_Plan_reckonEarliest_21 rfl hX (fun b3 hX => ?_)
      refine am_iload_n (pc := 24) C d_Plan_reckonEarliest_24 rfl rfl ?_
      refine am_aald (pc := 25) C d_Plan_reckonEarliest_25 hX (fun b4 hX => ?_)
      refine am_aload_n (pc := 26) C d_Plan_reckonEarliest_26 rfl rfl ?_
      refine am_aload_n (pc := 27) C d_Plan_reckonEarliest_27 rfl rfl ?_
      refine am_getr (pc := 28) C hin_Plan rfl (by decide) wd_1_232 rfl d_Plan_reckonEarliest_28 rfl hX (fun b5 hX => ?_)
      refine am_iload_n (pc := 31) C d_Plan_reckonEarliest_31 rfl rfl ?_
      refine am_aald (pc := 32) C d_Plan_reckonEarliest_32 hX (fun b6 hX => ?_)
      refine am_callVi (pc := 33) (As := [.ref b6]) (st := [.ref b4]) (cells1 := 0) (slots1 := 0) C (fun _ h => h.2) (fun _ h => by cases h.1) (fun q h => c_Plan_earliestOf h) wd_3_102 wd_3_104 ws_Plan_earliestOf wd_1_7 wd_3_105 rfl rfl hd_Plan_earliestOf ⟨by decide, by decide⟩ rfl rfl (Nat.le_of_ble_eq_true rfl) d_Plan_reckonEarliest_33 ⟨by decide, by decide⟩ rfl rfl rfl hX (fun q7 hX => ?_)
      refine am_put (pc := 36) C (fun _ h => ⟨rfl, h⟩) hin_Activity t_Activity t_Activity_ok n_Activity rfl (by decide) wd_1_172 rfl rfl (t_Activity_ok 9 (by decide)) rfl rfl rfl d_Plan_reckonEarliest_36 hX (fun w8 hX => ?_)
      refine am_iinc (pc := 39) (y := (1 : Int32)) (lo1 := [some (.ref v0), some (.int v1), some (.int (v2 + (1 : Int32)))]) C d_Plan_reckonEarliest_39 rfl (by decide) (by decide) rfl ?_
      refine am_goto (pc := 42) (tgt := 12) C d_Plan_reckonEarliest_42 rfl ?_
      exact (hk12 v0 v1 (v2 + (1 : Int32)) w8 hX)
def s_Plan_reckonEarliest_2 (k2 : Nat → Int32 → am_w → Option (Int32 × am_w)) (v0 : Nat) (v1 : Int32) (w : am_w) : Option (Int32 × am_w) := ((am_fg 5 1 v0 w).bind fun x1 => (if x1 ≤ v1 then (some (0, w)) else (f_Plan_reckonEarliest_12 k2 70 v0 v1 (0 : Int32) w)))
def f_Plan_reckonEarliest_2  (n : Nat) : Nat → Int32 → am_w → Option (Int32 × am_w) := am_it (fun _ _ _ => none) (s_Plan_reckonEarliest_2 ) n
set_option maxHeartbeats 4000000 in
theorem L_Plan_reckonEarliest_2 {p : Program} {l : Launch} {e : Env} {s : State} {m : MethodId} {args : Array Value} {below : List Frame} {meth : Method} {c : Code} {D : va_G} {A : Nat → Prop} {r : Int32 × am_w} (C : am_C p m c b_Plan_reckonEarliest 3 s args am_W "RoverMinutes$Plan" D classes A) (hret : meth.sig.returnType = none) (hlk : meth.locks = false)   (n : Nat) : ∀ (v0 : Nat) (v1 : Int32) (w : am_w), f_Plan_reckonEarliest_2  n v0 v1 w = some r → am_V p l e rm_Plan_reckonEarliest s m args below meth c D classes tys A (am_F A true) 3 0 0 (MQ below (am_Q D classes tys A (am_F A true) (am_rv r)) args s 0 0 (am_F A true)) 2 [some (.ref v0), some (.int v1), none] [] w := by
  refine am_it_ind (P := fun (t : Nat → Int32 → am_w → Option (Int32 × am_w)) => ∀ (v0 : Nat) (v1 : Int32) (w : am_w), t v0 v1 w = some r → am_V p l e rm_Plan_reckonEarliest s m args below meth c D classes tys A (am_F A true) 3 0 0 (MQ below (am_Q D classes tys A (am_F A true) (am_rv r)) args s 0 0 (am_F A true)) 2 [some (.ref v0), some (.int v1), none] [] w) ?_ ?_ n
  · intro v0 v1 w hX
    exact (am_nn hX).elim
  · intro k2 hk2 v0 v1 w hX
    unfold s_Plan_reckonEarliest_2 at hX
    refine am_iload_n (pc := 2) C d_Plan_reckonEarliest_2 rfl rfl ?_
    refine am_aload_n (pc := 3) C d_Plan_reckonEarliest_3 rfl rfl ?_
    refine am_get (pc := 4) C hin_Plan rfl (by decide) wd_1_236 rfl d_Plan_reckonEarliest_4 rfl hX (fun x1 hX => ?_)
    refine am_icmp_ge (pc := 7) (tgt := 51) C d_Plan_reckonEarliest_7 rfl hX (fun hX => ?_) (fun hX => ?_)
    · skip
      exact am_vret (pc := 51) C hret hlk d_Plan_reckonEarliest_51 (by decide) (by decide) hX
    · skip
      refine am_iconst (pc := 10) (v := (0 : Int32)) C d_Plan_reckonEarliest_10 (by decide) ?_
      refine am_istore_n (pc := 11) (lo1 := [some (.ref v0), some (.int v1), some (.int (0 : Int32))]) C d_Plan_reckonEarliest_11 rfl (by decide) rfl ?_
      exact (L_Plan_reckonEarliest_12 C hret hlk hk2 70 v0 v1 (0 : Int32) w hX)
def f_Plan_reckonEarliest (a0 : Nat) (w : am_w) : Option (Int32 × am_w) := (f_Plan_reckonEarliest_2  70 a0 (0 : Int32) w)
theorem hd_Plan_reckonEarliest : y_Plan_reckonEarliest.cls = "RoverMinutes$Plan" ∧ y_Plan_reckonEarliest.cls ≠ "java/lang/invoke/MethodHandle" ∧ y_Plan_reckonEarliest.cls ≠ "java/lang/invoke/VarHandle" ∧ (parseMethodDescriptor y_Plan_reckonEarliest.desc).map (fun d => d.parameters.length) = some 0 := ⟨rfl, by decide, by decide, by decide +kernel⟩
set_option maxHeartbeats 4000000 in
theorem c_Plan_reckonEarliest {l : Launch} {D : va_G} {A : Nat → Prop} {a0 : Nat} {w : am_w} {r : Int32 × am_w} (hX : f_Plan_reckonEarliest a0 w = some r) : am_Met l D classes tys A (am_F A true) y_Plan_reckonEarliest (Cond.code y_Plan_reckonEarliest b_Plan_reckonEarliest 3 none :: am_W) rm_Plan_reckonEarliest [.ref a0] w (am_rv r) 0 0 := by
  refine am_ofV (by decide) am_W_good (Nat.le_of_ble_eq_true rfl) (by simp [Value.category]) ?_
  intro p e s m below meth c C hret hlk hnm
  unfold f_Plan_reckonEarliest at hX
  refine am_iconst (pc := 0) (v := (0 : Int32)) C d_Plan_reckonEarliest_0 (by decide) ?_
  refine am_istore_n (pc := 1) (lo1 := [some (.ref a0), some (.int (0 : Int32)), none]) C d_Plan_reckonEarliest_1 rfl (by decide) rfl ?_
  exact (L_Plan_reckonEarliest_2 C hret hlk  70 a0 (0 : Int32) w hX)
def rm_Plan_findUnfit : Room := { frames := 3, cells := 0, slots := 0, locals := 66 }
def s_Plan_findUnfit_65 (k65 : Nat → Int32 → am_w → Option (Int32 × am_w)) (v0 : Nat) (v1 : Int32) (w : am_w) : Option (Int32 × am_w) := ((am_fg 5 1 v0 w).bind fun x4 => (if x4 ≤ v1 then (some ((0 : Int32), w)) else ((am_rg 5 0 v0 w).bind fun b5 => ((am_ag b5 v1 w).bind fun b6 => ((am_fg 6 9 b6 w).bind fun x7 => ((am_rg 5 0 v0 w).bind fun b8 => ((am_ag b8 v1 w).bind fun b9 => ((am_fg 6 5 b9 w).bind fun x10 => (if x7 ≤ x10 then (k65 v0 (v1 + (1 : Int32)) w) else (some (((300 : Int32) + v1), w)))))))))))
def f_Plan_findUnfit_65  (n : Nat) : Nat → Int32 → am_w → Option (Int32 × am_w) := am_it (fun _ _ _ => none) (s_Plan_findUnfit_65 ) n
set_option maxHeartbeats 4000000 in
theorem L_Plan_findUnfit_65 {p : Program} {l : Launch} {e : Env} {s : State} {m : MethodId} {args : Array Value} {below : List Frame} {meth : Method} {c : Code} {D : va_G} {A : Nat → Prop} {r : Int32 × am_w} (C : am_C p m c b_Plan_findUnfit 2 s args am_W "RoverMinutes$Plan" D classes A) (hret : meth.sig.returnType = (some .int)) (hlk : meth.locks = false)   (n : Nat) : ∀ (v0 : Nat) (v1 : Int32) (w : am_w), f_Plan_findUnfit_65  n v0 v1 w = some r → am_V p l e rm_Plan_findUnfit s m args below meth c D classes tys A (am_F A true) 2 0 0 (MQ below (am_Q D classes tys A (am_F A true) (am_ri r)) args s 0 0 (am_F A true)) 65 [some (.ref v0), some (.int v1)] [] w := by
  refine am_it_ind (P := fun (t : Nat → Int32 → am_w → Option (Int32 × am_w)) => ∀ (v0 : Nat) (v1 : Int32) (w : am_w), t v0 v1 w = some r → am_V p l e rm_Plan_findUnfit s m args below meth c D classes tys A (am_F A true) 2 0 0 (MQ below (am_Q D classes tys A (am_F A true) (am_ri r)) args s 0 0 (am_F A true)) 65 [some (.ref v0), some (.int v1)] [] w) ?_ ?_ n
  · intro v0 v1 w hX
    exact (am_nn hX).elim
  · intro k65 hk65 v0 v1 w hX
    unfold s_Plan_findUnfit_65 at hX
    refine am_iload_n (pc := 65) C d_Plan_findUnfit_65 rfl rfl ?_
    refine am_aload_n (pc := 66) C d_Plan_findUnfit_66 rfl rfl ?_
    refine am_get (pc := 67) C hin_Plan rfl (by decide) wd_1_236 rfl d_Plan_findUnfit_67 rfl hX (fun x4 hX => ?_)
    refine am_icmp_ge (pc := 70) (tgt := 106) C d_Plan_findUnfit_70 rfl hX (fun hX => ?_) (fun hX => ?_)
    · skip
      refine am_iconst (pc := 106) (v := (0 : Int32)) C d_Plan_findUnfit_106 (by decide) ?_
      exact am_iret (pc := 107) C hret hlk d_Plan_findUnfit_107 rfl (by decide) (by decide) hX
    · skip
      refine am_aload_n (pc := 73) C d_Plan_findUnfit_73 rfl rfl ?_
      refine am_getr (pc := 74) C hin_Plan rfl (by decide) wd_1_232 rfl d_Plan_findUnfit_74 rfl hX (fun b5 hX => ?_)
      refine am_iload_n (pc := 77) C d_Plan_findUnfit_77 rfl rfl ?_
      refine am_aald (pc := 78) C d_Plan_findUnfit_78 hX (fun b6 hX => ?_)
      refine am_get (pc := 79) C hin_Activity rfl (by decide) wd_1_172 rfl d_Plan_findUnfit_79 rfl hX (fun x7 hX => ?_)
      refine am_aload_n (pc := 82) C d_Plan_findUnfit_82 rfl rfl ?_
      refine am_getr (pc := 83) C hin_Plan rfl (by decide) wd_1_232 rfl d_Plan_findUnfit_83 rfl hX (fun b8 hX => ?_)
      refine am_iload_n (pc := 86) C d_Plan_findUnfit_86 rfl rfl ?_
      refine am_aald (pc := 87) C d_Plan_findUnfit_87 hX (fun b9 hX => ?_)
      refine am_get (pc := 88) C hin_Activity rfl (by decide) wd_1_160 rfl d_Plan_findUnfit_88 rfl hX (fun x10 hX => ?_)
      refine am_icmp_le (pc := 91) (tgt := 100) C d_Plan_findUnfit_91 rfl hX (fun hX => ?_) (fun hX => ?_)
      · skip
        refine am_iinc (pc := 100) (y := (1 : Int32)) (lo1 := [some (.ref v0), some (.int (v1 + (1 : Int32)))]) C d_Plan_findUnfit_100 rfl (by decide) (by decide) rfl ?_
        refine am_goto (pc := 103) (tgt := 65) C d_Plan_findUnfit_103 rfl ?_
        exact (hk65 v0 (v1 + (1 : Int32)) w hX)
      · skip
        refine am_sipush (pc := 94) (v := (300 : Int32)) C d_Plan_findUnfit_94 (by decide) ?_
        refine am_iload_n (pc := 97) C d_Plan_findUnfit_97 rfl rfl ?_
        refine am_iadd (pc := 98) C d_Plan_findUnfit_98 ?_
        exact am_iret (pc := 99) C hret hlk d_Plan_findUnfit_99 rfl (by decide) (by decide) hX
def s_Plan_findUnfit_31 (k31 : Nat → Int32 → am_w → Option (Int32 × am_w)) (v0 : Nat) (v1 : Int32) (w : am_w) : Option (Int32 × am_w) := ((am_fg 5 1 v0 w).bind fun x2 => (if x2 ≤ v1 then ((am_ob 5 v0 w (f_Plan_reckonEarliest v0 w)).bind fun q3 => (f_Plan_findUnfit_65  70 v0 (0 : Int32) q3.2)) else ((am_ob 5 v0 w (f_Plan_isInRing v0 v1 w)).bind fun q11 => (if q11.1 = 0 then (k31 v0 (v1 + (1 : Int32)) q11.2) else (some (((200 : Int32) + v1), q11.2))))))
def f_Plan_findUnfit_31  (n : Nat) : Nat → Int32 → am_w → Option (Int32 × am_w) := am_it (fun _ _ _ => none) (s_Plan_findUnfit_31 ) n
set_option maxHeartbeats 4000000 in
theorem L_Plan_findUnfit_31 {p : Program} {l : Launch} {e : Env} {s : State} {m : MethodId} {args : Array Value} {below : List Frame} {meth : Method} {c : Code} {D : va_G} {A : Nat → Prop} {r : Int32 × am_w} (C : am_C p m c b_Plan_findUnfit 2 s args am_W "RoverMinutes$Plan" D classes A) (hret : meth.sig.returnType = (some .int)) (hlk : meth.locks = false)   (n : Nat) : ∀ (v0 : Nat) (v1 : Int32) (w : am_w), f_Plan_findUnfit_31  n v0 v1 w = some r → am_V p l e rm_Plan_findUnfit s m args below meth c D classes tys A (am_F A true) 2 0 0 (MQ below (am_Q D classes tys A (am_F A true) (am_ri r)) args s 0 0 (am_F A true)) 31 [some (.ref v0), some (.int v1)] [] w := by
  refine am_it_ind (P := fun (t : Nat → Int32 → am_w → Option (Int32 × am_w)) => ∀ (v0 : Nat) (v1 : Int32) (w : am_w), t v0 v1 w = some r → am_V p l e rm_Plan_findUnfit s m args below meth c D classes tys A (am_F A true) 2 0 0 (MQ below (am_Q D classes tys A (am_F A true) (am_ri r)) args s 0 0 (am_F A true)) 31 [some (.ref v0), some (.int v1)] [] w) ?_ ?_ n
  · intro v0 v1 w hX
    exact (am_nn hX).elim
  · intro k31 hk31 v0 v1 w hX
    unfold s_Plan_findUnfit_31 at hX
    refine am_iload_n (pc := 31) C d_Plan_findUnfit_31 rfl rfl ?_
    refine am_aload_n (pc := 32) C d_Plan_findUnfit_32 rfl rfl ?_
    refine am_get (pc := 33) C hin_Plan rfl (by decide) wd_1_236 rfl d_Plan_findUnfit_33 rfl hX (fun x2 hX => ?_)
    refine am_icmp_ge (pc := 36) (tgt := 59) C d_Plan_findUnfit_36 rfl hX (fun hX => ?_) (fun hX => ?_)
    · skip
      refine am_aload_n (pc := 59) C d_Plan_findUnfit_59 rfl rfl ?_
      refine am_callVv (pc := 60) (As := []) (st := []) (cells1 := 0) (slots1 := 0) C (fun _ h => h.2) (fun _ h => h) (fun q h => c_Plan_reckonEarliest h) wd_3_98 wd_3_100 ws_Plan_reckonEarliest wd_1_7 wd_3_101 rfl rfl hd_Plan_reckonEarliest ⟨by decide, by decide⟩ rfl rfl (Nat.le_of_ble_eq_true rfl) d_Plan_findUnfit_60 ⟨by decide, by decide⟩ rfl rfl rfl hX (fun q3 hX => ?_)
      refine am_iconst (pc := 63) (v := (0 : Int32)) C d_Plan_findUnfit_63 (by decide) ?_
      refine am_istore_n (pc := 64) (lo1 := [some (.ref v0), some (.int (0 : Int32))]) C d_Plan_findUnfit_64 rfl (by decide) rfl ?_
      exact (L_Plan_findUnfit_65 C hret hlk  70 v0 (0 : Int32) q3.2 hX)
    · skip
      refine am_aload_n (pc := 39) C d_Plan_findUnfit_39 rfl rfl ?_
      refine am_iload_n (pc := 40) C d_Plan_findUnfit_40 rfl rfl ?_
      refine am_callVi (pc := 41) (As := [.int v1]) (st := []) (cells1 := 0) (slots1 := 0) C (fun _ h => h.2) (fun _ h => by cases h.1) (fun q h => c_Plan_isInRing h) wd_3_94 wd_3_96 ws_Plan_isInRing wd_1_7 wd_3_97 rfl rfl hd_Plan_isInRing ⟨by decide, by decide⟩ rfl rfl (Nat.le_of_ble_eq_true rfl) d_Plan_findUnfit_41 ⟨by decide, by decide⟩ rfl rfl rfl hX (fun q11 hX => ?_)
      refine am_if_eq (pc := 44) (tgt := 53) C d_Plan_findUnfit_44 rfl hX (fun hX => ?_) (fun hX => ?_)
      · skip
        refine am_iinc (pc := 53) (y := (1 : Int32)) (lo1 := [some (.ref v0), some (.int (v1 + (1 : Int32)))]) C d_Plan_findUnfit_53 rfl (by decide) (by decide) rfl ?_
        refine am_goto (pc := 56) (tgt := 31) C d_Plan_findUnfit_56 rfl ?_
        exact (hk31 v0 (v1 + (1 : Int32)) q11.2 hX)
      · skip
        refine am_sipush (pc := 47) (v := (200 : Int32)) C d_Plan_findUnfit_47 (by decide) ?_
        refine am_iload_n (pc := 50) C d_Plan_findUnfit_50 rfl rfl ?_
        refine am_iadd (pc := 51) C d_Plan_findUnfit_51 ?_
        exact am_iret (pc := 52) C hret hlk d_Plan_findUnfit_52 rfl (by decide) (by decide) hX
def s_Plan_findUnfit_2 (k2 : Nat → Int32 → am_w → Option (Int32 × am_w)) (v0 : Nat) (v1 : Int32) (w : am_w) : Option (Int32 × am_w) := ((am_fg 5 1 v0 w).bind fun x1 => (if x1 ≤ v1 then (f_Plan_findUnfit_31  70 v0 (0 : Int32) w) else ((am_ob 5 v0 w (f_Plan_saysWrong v0 v1 w)).bind fun q12 => (if q12.1 = 0 then (k2 v0 (v1 + (1 : Int32)) q12.2) else (some (((100 : Int32) + v1), q12.2))))))
def f_Plan_findUnfit_2  (n : Nat) : Nat → Int32 → am_w → Option (Int32 × am_w) := am_it (fun _ _ _ => none) (s_Plan_findUnfit_2 ) n
set_option maxHeartbeats 4000000 in
theorem L_Plan_findUnfit_2 {p : Program} {l : Launch} {e : Env} {s : State} {m : MethodId} {args : Array Value} {below : List Frame} {meth : Method} {c : Code} {D : va_G} {A : Nat → Prop} {r : Int32 × am_w} (C : am_C p m c b_Plan_findUnfit 2 s args am_W "RoverMinutes$Plan" D classes A) (hret : meth.sig.returnType = (some .int)) (hlk : meth.locks = false)   (n : Nat) : ∀ (v0 : Nat) (v1 : Int32) (w : am_w), f_Plan_findUnfit_2  n v0 v1 w = some r → am_V p l e rm_Plan_findUnfit s m args below meth c D classes tys A (am_F A true) 2 0 0 (MQ below (am_Q D classes tys A (am_F A true) (am_ri r)) args s 0 0 (am_F A true)) 2 [some (.ref v0), some (.int v1)] [] w := by
  refine am_it_ind (P := fun (t : Nat → Int32 → am_w → Option (Int32 × am_w)) => ∀ (v0 : Nat) (v1 : Int32) (w : am_w), t v0 v1 w = some r → am_V p l e rm_Plan_findUnfit s m args below meth c D classes tys A (am_F A true) 2 0 0 (MQ below (am_Q D classes tys A (am_F A true) (am_ri r)) args s 0 0 (am_F A true)) 2 [some (.ref v0), some (.int v1)] [] w) ?_ ?_ n
  · intro v0 v1 w hX
    exact (am_nn hX).elim
  · intro k2 hk2 v0 v1 w hX
    unfold s_Plan_findUnfit_2 at hX
    refine am_iload_n (pc := 2) C d_Plan_findUnfit_2 rfl rfl ?_
    refine am_aload_n (pc := 3) C d_Plan_findUnfit_3 rfl rfl ?_
    refine am_get (pc := 4) C hin_Plan rfl (by decide) wd_1_236 rfl d_Plan_findUnfit_4 rfl hX (fun x1 hX => ?_)
    refine am_icmp_ge (pc := 7) (tgt := 29) C d_Plan_findUnfit_7 rfl hX (fun hX => ?_) (fun hX => ?_)
    · skip
      refine am_iconst (pc := 29) (v := (0 : Int32)) C d_Plan_findUnfit_29 (by decide) ?_
      refine am_istore_n (pc := 30) (lo1 := [some (.ref v0), some (.int (0 : Int32))]) C d_Plan_findUnfit_30 rfl (by decide) rfl ?_
      exact (L_Plan_findUnfit_31 C hret hlk  70 v0 (0 : Int32) w hX)
    · skip
      refine am_aload_n (pc := 10) C d_Plan_findUnfit_10 rfl rfl ?_
      refine am_iload_n (pc := 11) C d_Plan_findUnfit_11 rfl rfl ?_
      refine am_callVi (pc := 12) (As := [.int v1]) (st := []) (cells1 := 0) (slots1 := 0) C (fun _ h => h.2) (fun _ h => by cases h.1) (fun q h => c_Plan_saysWrong h) wd_3_90 wd_3_92 ws_Plan_saysWrong wd_1_7 wd_3_93 rfl rfl hd_Plan_saysWrong ⟨by decide, by decide⟩ rfl rfl (Nat.le_of_ble_eq_true rfl) d_Plan_findUnfit_12 ⟨by decide, by decide⟩ rfl rfl rfl hX (fun q12 hX => ?_)
      refine am_if_eq (pc := 15) (tgt := 23) C d_Plan_findUnfit_15 rfl hX (fun hX => ?_) (fun hX => ?_)
      · skip
        refine am_iinc (pc := 23) (y := (1 : Int32)) (lo1 := [some (.ref v0), some (.int (v1 + (1 : Int32)))]) C d_Plan_findUnfit_23 rfl (by decide) (by decide) rfl ?_
        refine am_goto (pc := 26) (tgt := 2) C d_Plan_findUnfit_26 rfl ?_
        exact (hk2 v0 (v1 + (1 : Int32)) q12.2 hX)
      · skip
        refine am_bipush (pc := 18) (v := (100 : Int32)) C d_Plan_findUnfit_18 (by decide) ?_
        refine am_iload_n (pc := 20) C d_Plan_findUnfit_20 rfl rfl ?_
        refine am_iadd (pc := 21) C d_Plan_findUnfit_21 ?_
        exact am_iret (pc := 22) C hret hlk d_Plan_findUnfit_22 rfl (by decide) (by decide) hX
def f_Plan_findUnfit (a0 : Nat) (w : am_w) : Option (Int32 × am_w) := (f_Plan_findUnfit_2  70 a0 (0 : Int32) w)
theorem hd_Plan_findUnfit : y_Plan_findUnfit.cls = "RoverMinutes$Plan" ∧ y_Plan_findUnfit.cls ≠ "java/lang/invoke/MethodHandle" ∧ y_Plan_findUnfit.cls ≠ "java/lang/invoke/VarHandle" ∧ (parseMethodDescriptor y_Plan_findUnfit.desc).map (fun d => d.parameters.length) = some 0 := ⟨rfl, by decide, by decide, by decide +kernel⟩
set_option maxHeartbeats 4000000 in
theorem c_Plan_findUnfit {l : Launch} {D : va_G} {A : Nat → Prop} {a0 : Nat} {w : am_w} {r : Int32 × am_w} (hX : f_Plan_findUnfit a0 w = some r) : am_Met l D classes tys A (am_F A true) y_Plan_findUnfit (Cond.code y_Plan_findUnfit b_Plan_findUnfit 2 (some .int) :: am_W) rm_Plan_findUnfit [.ref a0] w (am_ri r) 0 0 := by
  refine am_ofV (by decide) am_W_good (Nat.le_of_ble_eq_true rfl) (by simp [Value.category]) ?_
  intro p e s m below meth c C hret hlk hnm
  unfold f_Plan_findUnfit at hX
  refine am_iconst (pc := 0) (v := (0 : Int32)) C d_Plan_findUnfit_0 (by decide) ?_
  refine am_istore_n (pc := 1) (lo1 := [some (.ref a0), some (.int (0 : Int32))]) C d_Plan_findUnfit_1 rfl (by decide) rfl ?_
  exact (L_Plan_findUnfit_2 C hret hlk  70 a0 (0 : Int32) w hX)
def rm_Plan_runningDraw : Room := { frames := 1, cells := 0, slots := 0, locals := 20 }
def s_Plan_runningDraw_4 (k4 : Nat → Int32 → Int32 → am_w → Option (Int32 × am_w)) (v0 : Nat) (v1 : Int32) (v2 : Int32) (w : am_w) : Option (Int32 × am_w) := ((am_fg 5 1 v0 w).bind fun x1 => (if x1 ≤ v2 then (some (v1, w)) else ((am_rg 5 0 v0 w).bind fun b2 => ((am_ag b2 v2 w).bind fun b3 => ((am_ob 6 b3 w (f_Activity_isRunning b3 w)).bind fun q4 => (if q4.1 = 0 then (k4 v0 v1 (v2 + (1 : Int32)) q4.2) else ((am_rg 5 0 v0 q4.2).bind fun b5 => ((am_ag b5 v2 q4.2).bind fun b6 => ((am_fg 6 16 b6 q4.2).bind fun x7 => (k4 v0 (v1 + x7) (v2 + (1 : Int32)) q4.2))))))))))
def f_Plan_runningDraw_4  (n : Nat) : Nat → Int32 → Int32 → am_w → Option (Int32 × am_w) := am_it (fun _ _ _ _ => none) (s_Plan_runningDraw_4 ) n
set_option maxHeartbeats 4000000 in
theorem L_Plan_runningDraw_4 {p : Program} {l : Launch} {e : Env} {s : State} {m : MethodId} {args : Array Value} {below : List Frame} {meth : Method} {c : Code} {D : va_G} {A : Nat → Prop} {r : Int32 × am_w} (C : am_C p m c b_Plan_runningDraw 3 s args am_W "RoverMinutes$Plan" D classes A) (hret : meth.sig.returnType = (some .int)) (hlk : meth.locks = false)   (n : Nat) : ∀ (v0 : Nat) (v1 : Int32) (v2 : Int32) (w : am_w), f_Plan_runningDraw_4  n v0 v1 v2 w = some r → am_V p l e rm_Plan_runningDraw s m args below meth c D classes tys A (am_F A false) 3 0 0 (MQ below (am_Q D classes tys A (am_F A false) (am_ri r)) args s 0 0 (am_F A false)) 4 [some (.ref v0), some (.int v1), some (.int v2)] [] w := by
  refine am_it_ind (P := fun (t : Nat → Int32 → Int32 → am_w → Option (Int32 × am_w)) => ∀ (v0 : Nat) (v1 : Int32) (v2 : Int32) (w : am_w), t v0 v1 v2 w = some r → am_V p l e rm_Plan_runningDraw s m args below meth c D classes tys A (am_F A false) 3 0 0 (MQ below (am_Q D classes tys A (am_F A false) (am_ri r)) args s 0 0 (am_F A false)) 4 [some (.ref v0), some (.int v1), some (.int v2)] [] w) ?_ ?_ n
  · intro v0 v1 v2 w hX
    exact (am_nn hX).elim
  · intro k4 hk4 v0 v1 v2 w hX
    unfold s_Plan_runningDraw_4 at hX
    refine am_iload_n (pc := 4) C d_Plan_runningDraw_4 rfl rfl ?_
    refine am_aload_n (pc := 5) C d_Plan_runningDraw_5 rfl rfl ?_
    refine am_get (pc := 6) C hin_Plan rfl (by decide) wd_1_236 rfl d_Plan_runningDraw_6 rfl hX (fun x1 hX => ?_)
    refine am_icmp_ge (pc := 9) (tgt := 42) C d_Plan_runningDraw_9 rfl hX (fun hX => ?_) (fun hX => ?_)
    · skip
      refine am_iload_n (pc := 42) C d_Plan_runningDraw_42 rfl rfl ?_
      exact am_iret (pc := 43) C hret hlk d_Plan_runningDraw_43 rfl (by decide) (by decide) hX
    · skip
      refine am_aload_n (pc := 12) C d_Plan_runningDraw_12 rfl rfl ?_
      refine am_getr (pc := 13) C hin_Plan rfl (by decide) wd_1_232 rfl d_Plan_runningDraw_13 rfl hX (fun b2 hX => ?_)
      refine am_iload_n (pc := 16) C d_Plan_runningDraw_16 rfl rfl ?_
      refine am_aald (pc := 17) C d_Plan_runningDraw_17 hX (fun b3 hX => ?_)
      refine am_callVi (pc := 18) (As := []) (st := []) (cells1 := 0) (slots1 := 0) C (fun _ h => h.2) (fun _ h => by cases h.1) (fun q h => c_Activity_isRunning h) wd_3_181 wd_2_72 wd_2_73 wd_1_8 wd_2_74 rfl rfl hd_Activity_isRunning ⟨by decide, by decide⟩ rfl rfl (Nat.le_of_ble_eq_true rfl) d_Plan_runningDraw_18 ⟨by decide, by decide⟩ rfl rfl rfl hX (fun q4 hX => ?_)
      refine am_if_eq (pc := 21) (tgt := 36) C d_Plan_runningDraw_21 rfl hX (fun hX => ?_) (fun hX => ?_)
      · skip
        refine am_iinc (pc := 36) (y := (1 : Int32)) (lo1 := [some (.ref v0), some (.int v1), some (.int (v2 + (1 : Int32)))]) C d_Plan_runningDraw_36 rfl (by decide) (by decide) rfl ?_
        refine am_goto (pc := 39) (tgt := 4) C d_Plan_runningDraw_39 rfl ?_
        exact (hk4 v0 v1 (v2 + (1 : Int32)) q4.2 hX)
      · skip
        refine am_iload_n (pc := 24) C d_Plan_runningDraw_24 rfl rfl ?_
        refine am_aload_n (pc := 25) C d_Plan_runningDraw_25 rfl rfl ?_
        refine am_getr (pc := 26) C hin_Plan rfl (by decide) wd_1_232 rfl d_Plan_runningDraw_26 rfl hX (fun b5 hX => ?_)
        refine am_iload_n (pc := 29) C d_Plan_runningDraw_29 rfl rfl ?_
        refine am_aald (pc := 30) C d_Plan_runningDraw_30 hX (fun b6 hX => ?_)
        refine am_get (pc := 31) C hin_Activity rfl (by decide) wd_1_187 rfl d_Plan_runningDraw_31 rfl hX (fun x7 hX => ?_)
        refine am_iadd (pc := 34) C d_Plan_runningDraw_34 ?_
        refine am_istore_n (pc := 35) (lo1 := [some (.ref v0), some (.int (v1 + x7)), some (.int v2)]) C d_Plan_runningDraw_35 rfl (by decide) rfl ?_
        refine am_iinc (pc := 36) (y := (1 : Int32)) (lo1 := [some (.ref v0), some (.int (v1 + x7)), some (.int (v2 + (1 : Int32)))]) C d_Plan_runningDraw_36 rfl (by decide) (by decide) rfl ?_
        refine am_goto (pc := 39) (tgt := 4) C d_Plan_runningDraw_39 rfl ?_
        exact (hk4 v0 (v1 + x7) (v2 + (1 : Int32)) q4.2 hX)
def f_Plan_runningDraw (a0 : Nat) (w : am_w) : Option (Int32 × am_w) := (f_Plan_runningDraw_4  70 a0 (0 : Int32) (0 : Int32) w)
theorem hd_Plan_runningDraw : y_Plan_runningDraw.cls = "RoverMinutes$Plan" ∧ y_Plan_runningDraw.cls ≠ "java/lang/invoke/MethodHandle" ∧ y_Plan_runningDraw.cls ≠ "java/lang/invoke/VarHandle" ∧ (parseMethodDescriptor y_Plan_runningDraw.desc).map (fun d => d.parameters.length) = some 0 := ⟨rfl, by decide, by decide, by decide +kernel⟩
set_option maxHeartbeats 4000000 in
theorem c_Plan_runningDraw {l : Launch} {D : va_G} {A : Nat → Prop} {a0 : Nat} {w : am_w} {r : Int32 × am_w} (hX : f_Plan_runningDraw a0 w = some r) : am_Met l D classes tys A (am_F A false) y_Plan_runningDraw (Cond.code y_Plan_runningDraw b_Plan_runningDraw 3 (some .int) :: am_W) rm_Plan_runningDraw [.ref a0] w (am_ri r) 0 0 := by
  refine am_ofV (by decide) am_W_good (Nat.le_of_ble_eq_true rfl) (by simp [Value.category]) ?_
  intro p e s m below meth c C hret hlk hnm
  unfold f_Plan_runningDraw at hX
  refine am_iconst (pc := 0) (v := (0 : Int32)) C d_Plan_runningDraw_0 (by decide) ?_
  refine am_istore_n (pc := 1) (lo1 := [some (.ref a0), some (.int (0 : Int32)), none]) C d_Plan_runningDraw_1 rfl (by decide) rfl ?_
  refine am_iconst (pc := 2) (v := (0 : Int32)) C d_Plan_runningDraw_2 (by decide) ?_
  refine am_istore_n (pc := 3) (lo1 := [some (.ref a0), some (.int (0 : Int32)), some (.int (0 : Int32))]) C d_Plan_runningDraw_3 rfl (by decide) rfl ?_
  exact (L_Plan_runningDraw_4 C hret hlk  70 a0 (0 : Int32) (0 : Int32) w hX)
def rm_Plan_runningData : Room := { frames := 1, cells := 0, slots := 0, locals := 20 }
def s_Plan_runningData_4 (k4 : Nat → Int32 → Int32 → am_w → Option (Int32 × am_w)) (v0 : Nat) (v1 : Int32) (v2 : Int32) (w : am_w) : Option (Int32 × am_w) := ((am_fg 5 1 v0 w).bind fun x1 => (if x1 ≤ v2 then (some (v1, w)) else ((am_rg 5 0 v0 w).bind fun b2 => ((am_ag b2 v2 w).bind fun b3 => ((am_ob 6 b3 w (f_Activity_isRunning b3 w)).bind fun q4 => (if q4.1 = 0 then (k4 v0 v1 (v2 + (1 : Int32)) q4.2) else ((am_rg 5 0 v0 q4.2).bind fun b5 => ((am_ag b5 v2 q4.2).bind fun b6 => ((am_fg 6 3 b6 q4.2).bind fun x7 => (k4 v0 (v1 + x7) (v2 + (1 : Int32)) q4.2))))))))))
def f_Plan_runningData_4  (n : Nat) : Nat → Int32 → Int32 → am_w → Option (Int32 × am_w) := am_it (fun _ _ _ _ => none) (s_Plan_runningData_4 ) n
set_option maxHeartbeats 4000000 in
theorem L_Plan_runningData_4 {p : Program} {l : Launch} {e : Env} {s : State} {m : MethodId} {args : Array Value} {below : List Frame} {meth : Method} {c : Code} {D : va_G} {A : Nat → Prop} {r : Int32 × am_w} (C : am_C p m c b_Plan_runningData 3 s args am_W "RoverMinutes$Plan" D classes A) (hret : meth.sig.returnType = (some .int)) (hlk : meth.locks = false)   (n : Nat) : ∀ (v0 : Nat) (v1 : Int32) (v2 : Int32) (w : am_w), f_Plan_runningData_4  n v0 v1 v2 w = some r → am_V p l e rm_Plan_runningData s m args below meth c D classes tys A (am_F A false) 3 0 0 (MQ below (am_Q D classes tys A (am_F A false) (am_ri r)) args s 0 0 (am_F A false)) 4 [some (.ref v0), some (.int v1), some (.int v2)] [] w := by
  refine am_it_ind (P := fun (t : Nat → Int32 → Int32 → am_w → Option (Int32 × am_w)) => ∀ (v0 : Nat) (v1 : Int32) (v2 : Int32) (w : am_w), t v0 v1 v2 w = some r → am_V p l e rm_Plan_runningData s m args below meth c D classes tys A (am_F A false) 3 0 0 (MQ below (am_Q D classes tys A (am_F A false) (am_ri r)) args s 0 0 (am_F A false)) 4 [some (.ref v0), some (.int v1), some (.int v2)] [] w) ?_ ?_ n
  · intro v0 v1 v2 w hX
    exact (am_nn hX).elim
  · intro k4 hk4 v0 v1 v2 w hX
    unfold s_Plan_runningData_4 at hX
    refine am_iload_n (pc := 4) C d_Plan_runningData_4 rfl rfl ?_
    refine am_aload_n (pc := 5) C d_Plan_runningData_5 rfl rfl ?_
    refine am_get (pc := 6) C hin_Plan rfl (by decide) wd_1_236 rfl d_Plan_runningData_6 rfl hX (fun x1 hX => ?_)
    refine am_icmp_ge (pc := 9) (tgt := 42) C d_Plan_runningData_9 rfl hX (fun hX => ?_) (fun hX => ?_)
    · skip
      refine am_iload_n (pc := 42) C d_Plan_runningData_42 rfl rfl ?_
      exact am_iret (pc := 43) C hret hlk d_Plan_runningData_43 rfl (by decide) (by decide) hX
    · skip
      refine am_aload_n (pc := 12) C d_Plan_runningData_12 rfl rfl ?_
      refine am_getr (pc := 13) C hin_Plan rfl (by decide) wd_1_232 rfl d_Plan_runningData_13 rfl hX (fun b2 hX => ?_)
      refine am_iload_n (pc := 16) C d_Plan_runningData_16 rfl rfl ?_
      refine am_aald (pc := 17) C d_Plan_runningData_17 hX (fun b3 hX => ?_)
      refine am_callVi (pc := 18) (As := []) (st := []) (cells1 := 0) (slots1 := 0) C (fun _ h => h.2) (fun _ h => by cases h.1) (fun q h => c_Activity_isRunning h) wd_3_181 wd_2_72 wd_2_73 wd_1_8 wd_2_74 rfl rfl hd_Activity_isRunning ⟨by decide, by decide⟩ rfl rfl (Nat.le_of_ble_eq_true rfl) d_Plan_runningData_18 ⟨by decide, by decide⟩ rfl rfl rfl hX (fun q4 hX => ?_)
      refine am_if_eq (pc := 21) (tgt := 36) C d_Plan_runningData_21 rfl hX (fun hX => ?_) (fun hX => ?_)
      · skip
        refine am_iinc (pc := 36) (y := (1 : Int32)) (lo1 := [some (.ref v0), some (.int v1), some (.int (v2 + (1 : Int32)))]) C d_Plan_runningData_36 rfl (by decide) (by decide) rfl ?_
        refine am_goto (pc := 39) (tgt := 4) C d_Plan_runningData_39 rfl ?_
        exact (hk4 v0 v1 (v2 + (1 : Int32)) q4.2 hX)
      · skip
        refine am_iload_n (pc := 24) C d_Plan_runningData_24 rfl rfl ?_
        refine am_aload_n (pc := 25) C d_Plan_runningData_25 rfl rfl ?_
        refine am_getr (pc := 26) C hin_Plan rfl (by decide) wd_1_232 rfl d_Plan_runningData_26 rfl hX (fun b5 hX => ?_)
        refine am_iload_n (pc := 29) C d_Plan_runningData_29 rfl rfl ?_
        refine am_aald (pc := 30) C d_Plan_runningData_30 hX (fun b6 hX => ?_)
        refine am_get (pc := 31) C hin_Activity rfl (by decide) wd_1_154 rfl d_Plan_runningData_31 rfl hX (fun x7 hX => ?_)
        refine am_iadd (pc := 34) C d_Plan_runningData_34 ?_
        refine am_istore_n (pc := 35) (lo1 := [some (.ref v0), some (.int (v1 + x7)), some (.int v2)]) C d_Plan_runningData_35 rfl (by decide) rfl ?_
        refine am_iinc (pc := 36) (y := (1 : Int32)) (lo1 := [some (.ref v0), some (.int (v1 + x7)), some (.int (v2 + (1 : Int32)))]) C d_Plan_runningData_36 rfl (by decide) (by decide) rfl ?_
        refine am_goto (pc := 39) (tgt := 4) C d_Plan_runningData_39 rfl ?_
        exact (hk4 v0 (v1 + x7) (v2 + (1 : Int32)) q4.2 hX)
def f_Plan_runningData (a0 : Nat) (w : am_w) : Option (Int32 × am_w) := (f_Plan_runningData_4  70 a0 (0 : Int32) (0 : Int32) w)
theorem hd_Plan_runningData : y_Plan_runningData.cls = "RoverMinutes$Plan" ∧ y_Plan_runningData.cls ≠ "java/lang/invoke/MethodHandle" ∧ y_Plan_runningData.cls ≠ "java/lang/invoke/VarHandle" ∧ (parseMethodDescriptor y_Plan_runningData.desc).map (fun d => d.parameters.length) = some 0 := ⟨rfl, by decide, by decide, by decide +kernel⟩
set_option maxHeartbeats 4000000 in
theorem c_Plan_runningData {l : Launch} {D : va_G} {A : Nat → Prop} {a0 : Nat} {w : am_w} {r : Int32 × am_w} (hX : f_Plan_runningData a0 w = some r) : am_Met l D classes tys A (am_F A false) y_Plan_runningData (Cond.code y_Plan_runningData b_Plan_runningData 3 (some .int) :: am_W) rm_Plan_runningData [.ref a0] w (am_ri r) 0 0 := by
  refine am_ofV (by decide) am_W_good (Nat.le_of_ble_eq_true rfl) (by simp [Value.category]) ?_
  intro p e s m below meth c C hret hlk hnm
  unfold f_Plan_runningData at hX
  refine am_iconst (pc := 0) (v := (0 : Int32)) C d_Plan_runningData_0 (by decide) ?_
  refine am_istore_n (pc := 1) (lo1 := [some (.ref a0), some (.int (0 : Int32)), none]) C d_Plan_runningData_1 rfl (by decide) rfl ?_
  refine am_iconst (pc := 2) (v := (0 : Int32)) C d_Plan_runningData_2 (by decide) ?_
  refine am_istore_n (pc := 3) (lo1 := [some (.ref a0), some (.int (0 : Int32)), some (.int (0 : Int32))]) C d_Plan_runningData_3 rfl (by decide) rfl ?_
  exact (L_Plan_runningData_4 C hret hlk  70 a0 (0 : Int32) (0 : Int32) w hX)
def rm_Plan_runningHeat : Room := { frames := 1, cells := 0, slots := 0, locals := 20 }
def s_Plan_runningHeat_4 (k4 : Nat → Int32 → Int32 → am_w → Option (Int32 × am_w)) (v0 : Nat) (v1 : Int32) (v2 : Int32) (w : am_w) : Option (Int32 × am_w) := ((am_fg 5 1 v0 w).bind fun x1 => (if x1 ≤ v2 then (some (v1, w)) else ((am_rg 5 0 v0 w).bind fun b2 => ((am_ag b2 v2 w).bind fun b3 => ((am_ob 6 b3 w (f_Activity_isRunning b3 w)).bind fun q4 => (if q4.1 = 0 then (k4 v0 v1 (v2 + (1 : Int32)) q4.2) else ((am_rg 5 0 v0 q4.2).bind fun b5 => ((am_ag b5 v2 q4.2).bind fun b6 => ((am_fg 6 4 b6 q4.2).bind fun x7 => (k4 v0 (v1 + x7) (v2 + (1 : Int32)) q4.2))))))))))
def f_Plan_runningHeat_4  (n : Nat) : Nat → Int32 → Int32 → am_w → Option (Int32 × am_w) := am_it (fun _ _ _ _ => none) (s_Plan_runningHeat_4 ) n
set_option maxHeartbeats 4000000 in
theorem L_Plan_runningHeat_4 {p : Program} {l : Launch} {e : Env} {s : State} {m : MethodId} {args : Array Value} {below : List Frame} {meth : Method} {c : Code} {D : va_G} {A : Nat → Prop} {r : Int32 × am_w} (C : am_C p m c b_Plan_runningHeat 3 s args am_W "RoverMinutes$Plan" D classes A) (hret : meth.sig.returnType = (some .int)) (hlk : meth.locks = false)   (n : Nat) : ∀ (v0 : Nat) (v1 : Int32) (v2 : Int32) (w : am_w), f_Plan_runningHeat_4  n v0 v1 v2 w = some r → am_V p l e rm_Plan_runningHeat s m args below meth c D classes tys A (am_F A false) 3 0 0 (MQ below (am_Q D classes tys A (am_F A false) (am_ri r)) args s 0 0 (am_F A false)) 4 [some (.ref v0), some (.int v1), some (.int v2)] [] w := by
  refine am_it_ind (P := fun (t : Nat → Int32 → Int32 → am_w → Option (Int32 × am_w)) => ∀ (v0 : Nat) (v1 : Int32) (v2 : Int32) (w : am_w), t v0 v1 v2 w = some r → am_V p l e rm_Plan_runningHeat s m args below meth c D classes tys A (am_F A false) 3 0 0 (MQ below (am_Q D classes tys A (am_F A false) (am_ri r)) args s 0 0 (am_F A false)) 4 [some (.ref v0), some (.int v1), some (.int v2)] [] w) ?_ ?_ n
  · intro v0 v1 v2 w hX
    exact (am_nn hX).elim
  · intro k4 hk4 v0 v1 v2 w hX
    unfold s_Plan_runningHeat_4 at hX
    refine am_iload_n (pc := 4) C d_Plan_runningHeat_4 rfl rfl ?_
    refine am_aload_n (pc := 5) C d_Plan_runningHeat_5 rfl rfl ?_
    refine am_get (pc := 6) C hin_Plan rfl (by decide) wd_1_236 rfl d_Plan_runningHeat_6 rfl hX (fun x1 hX => ?_)
    refine am_icmp_ge (pc := 9) (tgt := 42) C d_Plan_runningHeat_9 rfl hX (fun hX => ?_) (fun hX => ?_)
    · skip
      refine am_iload_n (pc := 42) C d_Plan_runningHeat_42 rfl rfl ?_
      exact am_iret (pc := 43) C hret hlk d_Plan_runningHeat_43 rfl (by decide) (by decide) hX
    · skip
      refine am_aload_n (pc := 12) C d_Plan_runningHeat_12 rfl rfl ?_
      refine am_getr (pc := 13) C hin_Plan rfl (by decide) wd_1_232 rfl d_Plan_runningHeat_13 rfl hX (fun b2 hX => ?_)
      refine am_iload_n (pc := 16) C d_Plan_runningHeat_16 rfl rfl ?_
      refine am_aald (pc := 17) C d_Plan_runningHeat_17 hX (fun b3 hX => ?_)
      refine am_callVi (pc := 18) (As := []) (st := []) (cells1 := 0) (slots1 := 0) C (fun _ h => h.2) (fun _ h => by cases h.1) (fun q h => c_Activity_isRunning h) wd_3_181 wd_2_72 wd_2_73 wd_1_8 wd_2_74 rfl rfl hd_Activity_isRunning ⟨by decide, by decide⟩ rfl rfl (Nat.le_of_ble_eq_true rfl) d_Plan_runningHeat_18 ⟨by decide, by decide⟩ rfl rfl rfl hX (fun q4 hX => ?_)
      refine am_if_eq (pc := 21) (tgt := 36) C d_Plan_runningHeat_21 rfl hX (fun hX => ?_) (fun hX => ?_)
      · skip
        refine am_iinc (pc := 36) (y := (1 : Int32)) (lo1 := [some (.ref v0), some (.int v1), some (.int (v2 + (1 : Int32)))]) C d_Plan_runningHeat_36 rfl (by decide) (by decide) rfl ?_
        refine am_goto (pc := 39) (tgt := 4) C d_Plan_runningHeat_39 rfl ?_
        exact (hk4 v0 v1 (v2 + (1 : Int32)) q4.2 hX)
      · skip
        refine am_iload_n (pc := 24) C d_Plan_runningHeat_24 rfl rfl ?_
        refine am_aload_n (pc := 25) C d_Plan_runningHeat_25 rfl rfl ?_
        refine am_getr (pc := 26) C hin_Plan rfl (by decide) wd_1_232 rfl d_Plan_runningHeat_26 rfl hX (fun b5 hX => ?_)
        refine am_iload_n (pc := 29) C d_Plan_runningHeat_29 rfl rfl ?_
        refine am_aald (pc := 30) C d_Plan_runningHeat_30 hX (fun b6 hX => ?_)
        refine am_get (pc := 31) C hin_Activity rfl (by decide) wd_1_158 rfl d_Plan_runningHeat_31 rfl hX (fun x7 hX => ?_)
        refine am_iadd (pc := 34) C d_Plan_runningHeat_34 ?_
        refine am_istore_n (pc := 35) (lo1 := [some (.ref v0), some (.int (v1 + x7)), some (.int v2)]) C d_Plan_runningHeat_35 rfl (by decide) rfl ?_
        refine am_iinc (pc := 36) (y := (1 : Int32)) (lo1 := [some (.ref v0), some (.int (v1 + x7)), some (.int (v2 + (1 : Int32)))]) C d_Plan_runningHeat_36 rfl (by decide) (by decide) rfl ?_
        refine am_goto (pc := 39) (tgt := 4) C d_Plan_runningHeat_39 rfl ?_
        exact (hk4 v0 (v1 + x7) (v2 + (1 : Int32)) q4.2 hX)
def f_Plan_runningHeat (a0 : Nat) (w : am_w) : Option (Int32 × am_w) := (f_Plan_runningHeat_4  70 a0 (0 : Int32) (0 : Int32) w)
theorem hd_Plan_runningHeat : y_Plan_runningHeat.cls = "RoverMinutes$Plan" ∧ y_Plan_runningHeat.cls ≠ "java/lang/invoke/MethodHandle" ∧ y_Plan_runningHeat.cls ≠ "java/lang/invoke/VarHandle" ∧ (parseMethodDescriptor y_Plan_runningHeat.desc).map (fun d => d.parameters.length) = some 0 := ⟨rfl, by decide, by decide, by decide +kernel⟩
set_option maxHeartbeats 4000000 in
theorem c_Plan_runningHeat {l : Launch} {D : va_G} {A : Nat → Prop} {a0 : Nat} {w : am_w} {r : Int32 × am_w} (hX : f_Plan_runningHeat a0 w = some r) : am_Met l D classes tys A (am_F A false) y_Plan_runningHeat (Cond.code y_Plan_runningHeat b_Plan_runningHeat 3 (some .int) :: am_W) rm_Plan_runningHeat [.ref a0] w (am_ri r) 0 0 := by
  refine am_ofV (by decide) am_W_good (Nat.le_of_ble_eq_true rfl) (by simp [Value.category]) ?_
  intro p e s m below meth c C hret hlk hnm
  unfold f_Plan_runningHeat at hX
  refine am_iconst (pc := 0) (v := (0 : Int32)) C d_Plan_runningHeat_0 (by decide) ?_
  refine am_istore_n (pc := 1) (lo1 := [some (.ref a0), some (.int (0 : Int32)), none]) C d_Plan_runningHeat_1 rfl (by decide) rfl ?_
  refine am_iconst (pc := 2) (v := (0 : Int32)) C d_Plan_runningHeat_2 (by decide) ?_
  refine am_istore_n (pc := 3) (lo1 := [some (.ref a0), some (.int (0 : Int32)), some (.int (0 : Int32))]) C d_Plan_runningHeat_3 rfl (by decide) rfl ?_
  exact (L_Plan_runningHeat_4 C hret hlk  70 a0 (0 : Int32) (0 : Int32) w hX)
def rm_Plan_growOlder : Room := { frames := 2, cells := 0, slots := 0, locals := 40 }
def s_Plan_growOlder_2 (k2 : Nat → Int32 → am_w → Option (Int32 × am_w)) (v0 : Nat) (v1 : Int32) (w : am_w) : Option (Int32 × am_w) := ((am_fg 5 1 v0 w).bind fun x1 => (if x1 ≤ v1 then (some (0, w)) else ((am_rg 5 0 v0 w).bind fun b2 => ((am_ag b2 v1 w).bind fun b3 => ((am_ob 6 b3 w (f_Activity_isRunning b3 w)).bind fun q4 => (if q4.1 = 0 then (k2 v0 (v1 + (1 : Int32)) q4.2) else ((am_rg 5 0 v0 q4.2).bind fun b5 => ((am_ag b5 v1 q4.2).bind fun b6 => ((am_ob 6 b6 q4.2 (f_Activity_growOlder b6 q4.2)).bind fun q7 => (k2 v0 (v1 + (1 : Int32)) q7.2))))))))))
def f_Plan_growOlder_2  (n : Nat) : Nat → Int32 → am_w → Option (Int32 × am_w) := am_it (fun _ _ _ => none) (s_Plan_growOlder_2 ) n
set_option maxHeartbeats 4000000 in
theorem L_Plan_growOlder_2 {p : Program} {l : Launch} {e : Env} {s : State} {m : MethodId} {args : Array Value} {below : List Frame} {meth : Method} {c : Code} {D : va_G} {A : Nat → Prop} {r : Int32 × am_w} (C : am_C p m c b_Plan_growOlder 2 s args am_W "RoverMinutes$Plan" D classes A) (hret : meth.sig.returnType = none) (hlk : meth.locks = false)   (n : Nat) : ∀ (v0 : Nat) (v1 : Int32) (w : am_w), f_Plan_growOlder_2  n v0 v1 w = some r → am_V p l e rm_Plan_growOlder s m args below meth c D classes tys A (am_F A true) 2 0 0 (MQ below (am_Q D classes tys A (am_F A true) (am_rv r)) args s 0 0 (am_F A true)) 2 [some (.ref v0), some (.int v1)] [] w := by
  refine am_it_ind (P := fun (t : Nat → Int32 → am_w → Option (Int32 × am_w)) => ∀ (v0 : Nat) (v1 : Int32) (w : am_w), t v0 v1 w = some r → am_V p l e rm_Plan_growOlder s m args below meth c D classes tys A (am_F A true) 2 0 0 (MQ below (am_Q D classes tys A (am_F A true) (am_rv r)) args s 0 0 (am_F A true)) 2 [some (.ref v0), some (.int v1)] [] w) ?_ ?_ n
  · intro v0 v1 w hX
    exact (am_nn hX).elim
  · intro k2 hk2 v0 v1 w hX
    unfold s_Plan_growOlder_2 at hX
    refine am_iload_n (pc := 2) C d_Plan_growOlder_2 rfl rfl ?_
    refine am_aload_n (pc := 3) C d_Plan_growOlder_3 rfl rfl ?_
    refine am_get (pc := 4) C hin_Plan rfl (by decide) wd_1_236 rfl d_Plan_growOlder_4 rfl hX (fun x1 hX => ?_)
    refine am_icmp_ge (pc := 7) (tgt := 37) C d_Plan_growOlder_7 rfl hX (fun hX => ?_) (fun hX => ?_)
    · skip
      exact am_vret (pc := 37) C hret hlk d_Plan_growOlder_37 (by decide) (by decide) hX
    · skip
      refine am_aload_n (pc := 10) C d_Plan_growOlder_10 rfl rfl ?_
      refine am_getr (pc := 11) C hin_Plan rfl (by decide) wd_1_232 rfl d_Plan_growOlder_11 rfl hX (fun b2 hX => ?_)
      refine am_iload_n (pc := 14) C d_Plan_growOlder_14 rfl rfl ?_
      refine am_aald (pc := 15) C d_Plan_growOlder_15 hX (fun b3 hX => ?_)
      refine am_callVi (pc := 16) (As := []) (st := []) (cells1 := 0) (slots1 := 0) C (fun _ h => h.2) (fun _ h => by cases h.1) (fun q h => c_Activity_isRunning h) wd_3_181 wd_2_72 wd_2_73 wd_1_8 wd_2_74 rfl rfl hd_Activity_isRunning ⟨by decide, by decide⟩ rfl rfl (Nat.le_of_ble_eq_true rfl) d_Plan_growOlder_16 ⟨by decide, by decide⟩ rfl rfl rfl hX (fun q4 hX => ?_)
      refine am_if_eq (pc := 19) (tgt := 31) C d_Plan_growOlder_19 rfl hX (fun hX => ?_) (fun hX => ?_)
      · skip
        refine am_iinc (pc := 31) (y := (1 : Int32)) (lo1 := [some (.ref v0), some (.int (v1 + (1 : Int32)))]) C d_Plan_growOlder_31 rfl (by decide) (by decide) rfl ?_
        refine am_goto (pc := 34) (tgt := 2) C d_Plan_growOlder_34 rfl ?_
        exact (hk2 v0 (v1 + (1 : Int32)) q4.2 hX)
      · skip
        refine am_aload_n (pc := 22) C d_Plan_growOlder_22 rfl rfl ?_
        refine am_getr (pc := 23) C hin_Plan rfl (by decide) wd_1_232 rfl d_Plan_growOlder_23 rfl hX (fun b5 hX => ?_)
        refine am_iload_n (pc := 26) C d_Plan_growOlder_26 rfl rfl ?_
        refine am_aald (pc := 27) C d_Plan_growOlder_27 hX (fun b6 hX => ?_)
        refine am_callVv (pc := 28) (As := []) (st := []) (cells1 := 0) (slots1 := 0) C (fun _ h => h.2) (fun _ h => h) (fun q h => c_Activity_growOlder h) wd_3_230 wd_3_231 wd_3_232 wd_1_8 wd_3_233 rfl rfl hd_Activity_growOlder ⟨by decide, by decide⟩ rfl rfl (Nat.le_of_ble_eq_true rfl) d_Plan_growOlder_28 ⟨by decide, by decide⟩ rfl rfl rfl hX (fun q7 hX => ?_)
        refine am_iinc (pc := 31) (y := (1 : Int32)) (lo1 := [some (.ref v0), some (.int (v1 + (1 : Int32)))]) C d_Plan_growOlder_31 rfl (by decide) (by decide) rfl ?_
        refine am_goto (pc := 34) (tgt := 2) C d_Plan_growOlder_34 rfl ?_
        exact (hk2 v0 (v1 + (1 : Int32)) q7.2 hX)
def f_Plan_growOlder (a0 : Nat) (w : am_w) : Option (Int32 × am_w) := (f_Plan_growOlder_2  70 a0 (0 : Int32) w)
theorem hd_Plan_growOlder : y_Plan_growOlder.cls = "RoverMinutes$Plan" ∧ y_Plan_growOlder.cls ≠ "java/lang/invoke/MethodHandle" ∧ y_Plan_growOlder.cls ≠ "java/lang/invoke/VarHandle" ∧ (parseMethodDescriptor y_Plan_growOlder.desc).map (fun d => d.parameters.length) = some 0 := ⟨rfl, by decide, by decide, by decide +kernel⟩
set_option maxHeartbeats 4000000 in
theorem c_Plan_growOlder {l : Launch} {D : va_G} {A : Nat → Prop} {a0 : Nat} {w : am_w} {r : Int32 × am_w} (hX : f_Plan_growOlder a0 w = some r) : am_Met l D classes tys A (am_F A true) y_Plan_growOlder (Cond.code y_Plan_growOlder b_Plan_growOlder 2 none :: am_W) rm_Plan_growOlder [.ref a0] w (am_rv r) 0 0 := by
  refine am_ofV (by decide) am_W_good (Nat.le_of_ble_eq_true rfl) (by simp [Value.category]) ?_
  intro p e s m below meth c C hret hlk hnm
  unfold f_Plan_growOlder at hX
  refine am_iconst (pc := 0) (v := (0 : Int32)) C d_Plan_growOlder_0 (by decide) ?_
  refine am_istore_n (pc := 1) (lo1 := [some (.ref a0), some (.int (0 : Int32))]) C d_Plan_growOlder_1 rfl (by decide) rfl ?_
  exact (L_Plan_growOlder_2 C hret hlk  70 a0 (0 : Int32) w hX)
def rm_Plan_isHopeless : Room := { frames := 1, cells := 0, slots := 0, locals := 21 }
def s_Plan_isHopeless_40 (k12 : Nat → Nat → Int32 → am_w → Option (Int32 × am_w)) (v0 : Nat) (v1 : Nat) (v3 : Int32) (w : am_w) : Option (Int32 × am_w) := ((am_ob 6 v1 w (f_Activity_isInsteadOf v1 v3 w)).bind fun q4 => (if q4.1 = 0 then (k12 v0 v1 (v3 + (1 : Int32)) q4.2) else ((am_rg 5 0 v0 q4.2).bind fun b5 => ((am_ag b5 v3 q4.2).bind fun b6 => ((am_ob 6 b6 q4.2 (f_Activity_isDone b6 q4.2)).bind fun q7 => (if q7.1 = 0 then (k12 v0 v1 (v3 + (1 : Int32)) q7.2) else (some ((1 : Int32), q7.2))))))))
set_option maxHeartbeats 4000000 in
theorem L_Plan_isHopeless_40 {p : Program} {l : Launch} {e : Env} {s : State} {m : MethodId} {args : Array Value} {below : List Frame} {meth : Method} {c : Code} {D : va_G} {A : Nat → Prop} {r : Int32 × am_w} (C : am_C p m c b_Plan_isHopeless 4 s args am_W "RoverMinutes$Plan" D classes A) (hret : meth.sig.returnType = (some .boolean)) (hlk : meth.locks = false) {k12 : Nat → Nat → Int32 → am_w → Option (Int32 × am_w)} (hk12 : ∀ (v0 : Nat) (v1 : Nat) (v3 : Int32) (w : am_w), k12 v0 v1 v3 w = some r → am_V p l e rm_Plan_isHopeless s m args below meth c D classes tys A (am_F A false) 4 0 0 (MQ below (am_Q D classes tys A (am_F A false) (am_ri r)) args s 0 0 (am_F A false)) 12 [some (.ref v0), some (.ref v1), none, some (.int v3)] [] w) : ∀ (v0 : Nat) (v1 : Nat) (v3 : Int32) (w : am_w), s_Plan_isHopeless_40 k12 v0 v1 v3 w = some r → am_V p l e rm_Plan_isHopeless s m args below meth c D classes tys A (am_F A false) 4 0 0 (MQ below (am_Q D classes tys A (am_F A false) (am_ri r)) args s 0 0 (am_F A false)) 40 [some (.ref v0), some (.ref v1), none, some (.int v3)] [] w := by
  intro v0 v1 v3 w hX
  unfold s_Plan_isHopeless_40 at hX
  refine am_aload_n (pc := 40) C d_Plan_isHopeless_40 rfl rfl ?_
  refine am_iload_n (pc := 41) C d_Plan_isHopeless_41 rfl rfl ?_
  refine am_callVi (pc := 42) (As := [.int v3]) (st := []) (cells1 := 0) (slots1 := 0) C (fun _ h => h.2) (fun _ h => by cases h.1) (fun q h => c_Activity_isInsteadOf h) wd_3_148 wd_3_149 wd_3_150 wd_1_8 wd_3_151 rfl rfl hd_Activity_isInsteadOf ⟨by decide, by decide⟩ rfl rfl (Nat.le_of_ble_eq_true rfl) d_Plan_isHopeless_42 ⟨by decide, by decide⟩ rfl rfl rfl hX (fun q4 hX => ?_)
  refine am_if_eq (pc := 45) (tgt := 62) C d_Plan_isHopeless_45 rfl hX (fun hX => ?_) (fun hX => ?_)
  · skip
    refine am_iinc (pc := 62) (y := (1 : Int32)) (lo1 := [some (.ref v0), some (.ref v1), none, some (.int (v3 + (1 : Int32)))]) C d_Plan_isHopeless_62 rfl (by decide) (by decide) rfl ?_
    refine am_goto (pc := 65) (tgt := 12) C d_Plan_isHopeless_65 rfl ?_
    exact (hk12 v0 v1 (v3 + (1 : Int32)) q4.2 hX)
  · skip
    refine am_aload_n (pc := 48) C d_Plan_isHopeless_48 rfl rfl ?_
    refine am_getr (pc := 49) C hin_Plan rfl (by decide) wd_1_232 rfl d_Plan_isHopeless_49 rfl hX (fun b5 hX => ?_)
    refine am_iload_n (pc := 52) C d_Plan_isHopeless_52 rfl rfl ?_
    refine am_aald (pc := 53) C d_Plan_isHopeless_53 hX (fun b6 hX => ?_)
    refine am_callVi (pc := 54) (As := []) (st := []) (cells1 := 0) (slots1 := 0) C (fun _ h => h.2) (fun _ h => by cases h.1) (fun q h => c_Activity_isDone h) wd_3_152 wd_3_153 wd_3_154 wd_1_8 wd_3_155 rfl rfl hd_Activity_isDone ⟨by decide, by decide⟩ rfl rfl (Nat.le_of_ble_eq_true rfl) d_Plan_isHopeless_54 ⟨by decide, by decide⟩ rfl rfl rfl hX (fun q7 hX => ?_)
    refine am_if_eq (pc := 57) (tgt := 62) C d_Plan_isHopeless_57 rfl hX (fun hX => ?_) (fun hX => ?_)
    · skip
      refine am_iinc (pc := 62) (y := (1 : Int32)) (lo1 := [some (.ref v0), some (.ref v1), none, some (.int (v3 + (1 : Int32)))]) C d_Plan_isHopeless_62 rfl (by decide) (by decide) rfl ?_
      refine am_goto (pc := 65) (tgt := 12) C d_Plan_isHopeless_65 rfl ?_
      exact (hk12 v0 v1 (v3 + (1 : Int32)) q7.2 hX)
    · skip
      refine am_iconst (pc := 60) (v := (1 : Int32)) C d_Plan_isHopeless_60 (by decide) ?_
      exact am_iret (pc := 61) C hret hlk d_Plan_isHopeless_61 am_n1 (by decide) (by decide) hX
def s_Plan_isHopeless_12 (k12 : Nat → Nat → Int32 → am_w → Option (Int32 × am_w)) (v0 : Nat) (v1 : Nat) (v3 : Int32) (w : am_w) : Option (Int32 × am_w) := ((am_fg 5 1 v0 w).bind fun x2 => (if x2 ≤ v3 then (some ((0 : Int32), w)) else ((am_ob 6 v1 w (f_Activity_isAfter v1 v3 w)).bind fun q3 => (if q3.1 = 0 then (s_Plan_isHopeless_40 k12 v0 v1 v3 q3.2) else ((am_rg 5 0 v0 q3.2).bind fun b8 => ((am_ag b8 v3 q3.2).bind fun b9 => ((am_ob 6 b9 q3.2 (f_Activity_hasFailed b9 q3.2)).bind fun q10 => (if q10.1 = 0 then (s_Plan_isHopeless_40 k12 v0 v1 v3 q10.2) else (some ((1 : Int32), q10.2))))))))))
def f_Plan_isHopeless_12  (n : Nat) : Nat → Nat → Int32 → am_w → Option (Int32 × am_w) := am_it (fun _ _ _ _ => none) (s_Plan_isHopeless_12 ) n
set_option maxHeartbeats 4000000 in
theorem L_Plan_isHopeless_12 {p : Program} {l : Launch} {e : Env} {s : State} {m : MethodId} {args : Array Value} {below : List Frame} {meth : Method} {c : Code} {D : va_G} {A : Nat → Prop} {r : Int32 × am_w} (C : am_C p m c b_Plan_isHopeless 4 s args am_W "RoverMinutes$Plan" D classes A) (hret : meth.sig.returnType = (some .boolean)) (hlk : meth.locks = false)   (n : Nat) : ∀ (v0 : Nat) (v1 : Nat) (v3 : Int32) (w : am_w), f_Plan_isHopeless_12  n v0 v1 v3 w = some r → am_V p l e rm_Plan_isHopeless s m args below meth c D classes tys A (am_F A false) 4 0 0 (MQ below (am_Q D classes tys A (am_F A false) (am_ri r)) args s 0 0 (am_F A false)) 12 [some (.ref v0), some (.ref v1), none, some (.int v3)] [] w := by
  refine am_it_ind (P := fun (t : Nat → Nat → Int32 → am_w → Option (Int32 × am_w)) => ∀ (v0 : Nat) (v1 : Nat) (v3 : Int32) (w : am_w), t v0 v1 v3 w = some r → am_V p l e rm_Plan_isHopeless s m args below meth c D classes tys A (am_F A false) 4 0 0 (MQ below (am_Q D classes tys A (am_F A false) (am_ri r)) args s 0 0 (am_F A false)) 12 [some (.ref v0), some (.ref v1), none, some (.int v3)] [] w) ?_ ?_ n
  · intro v0 v1 v3 w hX
    exact (am_nn hX).elim
  · intro k12 hk12 v0 v1 v3 w hX
    unfold s_Plan_isHopeless_12 at hX
    refine am_iload_n (pc := 12) C d_Plan_isHopeless_12 rfl rfl ?_
    refine am_aload_n (pc := 13) C d_Plan_isHopeless_13 rfl rfl ?_
    refine am_get (pc := 14) C hin_Plan rfl (by decide) wd_1_236 rfl d_Plan_isHopeless_14 rfl hX (fun x2 hX => ?_)
    refine am_icmp_ge (pc := 17) (tgt := 68) C d_Plan_isHopeless_17 rfl hX (fun hX => ?_) (fun hX => ?_)
    · skip
      refine am_iconst (pc := 68) (v := (0 : Int32)) C d_Plan_isHopeless_68 (by decide) ?_
      exact am_iret (pc := 69) C hret hlk d_Plan_isHopeless_69 am_n0 (by decide) (by decide) hX
    · skip
      refine am_aload_n (pc := 20) C d_Plan_isHopeless_20 rfl rfl ?_
      refine am_iload_n (pc := 21) C d_Plan_isHopeless_21 rfl rfl ?_
      refine am_callVi (pc := 22) (As := [.int v3]) (st := []) (cells1 := 0) (slots1 := 0) C (fun _ h => h.2) (fun _ h => by cases h.1) (fun q h => c_Activity_isAfter h) wd_3_106 wd_3_107 wd_3_108 wd_1_8 wd_3_109 rfl rfl hd_Activity_isAfter ⟨by decide, by decide⟩ rfl rfl (Nat.le_of_ble_eq_true rfl) d_Plan_isHopeless_22 ⟨by decide, by decide⟩ rfl rfl rfl hX (fun q3 hX => ?_)
      refine am_if_eq (pc := 25) (tgt := 40) C d_Plan_isHopeless_25 rfl hX (fun hX => ?_) (fun hX => ?_)
      · skip
        exact (L_Plan_isHopeless_40 C hret hlk hk12 v0 v1 v3 q3.2 hX)
      · skip
        refine am_aload_n (pc := 28) C d_Plan_isHopeless_28 rfl rfl ?_
        refine am_getr (pc := 29) C hin_Plan rfl (by decide) wd_1_232 rfl d_Plan_isHopeless_29 rfl hX (fun b8 hX => ?_)
        refine am_iload_n (pc := 32) C d_Plan_isHopeless_32 rfl rfl ?_
        refine am_aald (pc := 33) C d_Plan_isHopeless_33 hX (fun b9 hX => ?_)
        refine am_callVi (pc := 34) (As := []) (st := []) (cells1 := 0) (slots1 := 0) C (fun _ h => h.2) (fun _ h => by cases h.1) (fun q h => c_Activity_hasFailed h) wd_3_144 wd_3_145 wd_3_146 wd_1_8 wd_3_147 rfl rfl hd_Activity_hasFailed ⟨by decide, by decide⟩ rfl rfl (Nat.le_of_ble_eq_true rfl) d_Plan_isHopeless_34 ⟨by decide, by decide⟩ rfl rfl rfl hX (fun q10 hX => ?_)
        refine am_if_ne (pc := 37) (tgt := 60) C d_Plan_isHopeless_37 rfl hX (fun hX => ?_) (fun hX => ?_)
        · skip
          refine am_iconst (pc := 60) (v := (1 : Int32)) C d_Plan_isHopeless_60 (by decide) ?_
          exact am_iret (pc := 61) C hret hlk d_Plan_isHopeless_61 am_n1 (by decide) (by decide) hX
        · skip
          exact (L_Plan_isHopeless_40 C hret hlk hk12 v0 v1 v3 q10.2 hX)
def f_Plan_isHopeless (a0 : Nat) (a1 : Nat) (a2 : Int32) (w : am_w) : Option (Int32 × am_w) := ((am_fg 6 5 a1 w).bind fun x1 => (if a2 ≤ x1 then (f_Plan_isHopeless_12  70 a0 a1 (0 : Int32) w) else (some ((1 : Int32), w))))
theorem hd_Plan_isHopeless : y_Plan_isHopeless.cls = "RoverMinutes$Plan" ∧ y_Plan_isHopeless.cls ≠ "java/lang/invoke/MethodHandle" ∧ y_Plan_isHopeless.cls ≠ "java/lang/invoke/VarHandle" ∧ (parseMethodDescriptor y_Plan_isHopeless.desc).map (fun d => d.parameters.length) = some 2 := ⟨rfl, by decide, by decide, by decide +kernel⟩
set_option maxHeartbeats 4000000 in
theorem c_Plan_isHopeless {l : Launch} {D : va_G} {A : Nat → Prop} {a0 : Nat} {a1 : Nat} {a2 : Int32} {w : am_w} {r : Int32 × am_w} (hX : f_Plan_isHopeless a0 a1 a2 w = some r) : am_Met l D classes tys A (am_F A false) y_Plan_isHopeless (Cond.code y_Plan_isHopeless b_Plan_isHopeless 4 (some .boolean) :: am_W) rm_Plan_isHopeless [.ref a0, .ref a1, .int a2] w (am_ri r) 0 0 := by
  refine am_ofV (by decide) am_W_good (Nat.le_of_ble_eq_true rfl) (by simp [Value.category]) ?_
  intro p e s m below meth c C hret hlk hnm
  unfold f_Plan_isHopeless at hX
  refine am_iload_n (pc := 0) C d_Plan_isHopeless_0 rfl rfl ?_
  refine am_aload_n (pc := 1) C d_Plan_isHopeless_1 rfl rfl ?_
  refine am_get (pc := 2) C hin_Activity rfl (by decide) wd_1_160 rfl d_Plan_isHopeless_2 rfl hX (fun x1 hX => ?_)
  refine am_icmp_le (pc := 5) (tgt := 10) C d_Plan_isHopeless_5 rfl hX (fun hX => ?_) (fun hX => ?_)
  · skip
    refine am_iconst (pc := 10) (v := (0 : Int32)) C d_Plan_isHopeless_10 (by decide) ?_
    refine am_istore_n (pc := 11) (lo1 := [some (.ref a0), some (.ref a1), some (.int a2), some (.int (0 : Int32))]) C d_Plan_isHopeless_11 rfl (by decide) rfl ?_
    exact am_sub (am_le_s (am_le_s (am_le_n (am_le_s (am_le_0))))) (L_Plan_isHopeless_12 C hret hlk  70 a0 a1 (0 : Int32) w hX)
  · skip
    refine am_iconst (pc := 8) (v := (1 : Int32)) C d_Plan_isHopeless_8 (by decide) ?_
    exact am_iret (pc := 9) C hret hlk d_Plan_isHopeless_9 am_n1 (by decide) (by decide) hX
def rm_Plan_skipHopeless : Room := { frames := 2, cells := 0, slots := 0, locals := 44 }
def s_Plan_skipHopeless_12 (k2 : Nat → Int32 → Int32 → am_w → Option (Int32 × am_w)) (k12 : Nat → Int32 → Int32 → Int32 → am_w → Option (Int32 × am_w)) (v0 : Nat) (v1 : Int32) (v2 : Int32) (v3 : Int32) (w : am_w) : Option (Int32 × am_w) := ((am_fg 5 1 v0 w).bind fun x2 => (if x2 ≤ v3 then (k2 v0 v1 (v2 + (1 : Int32)) w) else ((am_rg 5 0 v0 w).bind fun b3 => ((am_ag b3 v3 w).bind fun b4 => ((am_ob 6 b4 w (f_Activity_isWaiting b4 w)).bind fun q5 => (if q5.1 = 0 then (k12 v0 v1 v2 (v3 + (1 : Int32)) q5.2) else ((am_rg 5 0 v0 q5.2).bind fun b6 => ((am_ag b6 v3 q5.2).bind fun b7 => ((am_ob 5 v0 q5.2 (f_Plan_isHopeless v0 b7 v1 q5.2)).bind fun q8 => (if q8.1 = 0 then (k12 v0 v1 v2 (v3 + (1 : Int32)) q8.2) else ((am_rg 5 0 v0 q8.2).bind fun b9 => ((am_ag b9 v3 q8.2).bind fun b10 => ((am_fp 6 10 b10 (4 : Int32) q8.2).bind fun w11 => (k12 v0 v1 v2 (v3 + (1 : Int32)) w11))))))))))))))
def f_Plan_skipHopeless_12 (k2 : Nat → Int32 → Int32 → am_w → Option (Int32 × am_w)) (n : Nat) : Nat → Int32 → Int32 → Int32 → am_w → Option (Int32 × am_w) := am_it (fun _ _ _ _ _ => none) (s_Plan_skipHopeless_12 k2) n
set_option maxHeartbeats 4000000 in
theorem L_Plan_skipHopeless_12 {p : Program} {l : Launch} {e : Env} {s : State} {m : MethodId} {args : Array Value} {below : List Frame} {meth : Method} {c : Code} {D : va_G} {A : Nat → Prop} {r : Int32 × am_w} (C : am_C p m c b_Plan_skipHopeless 4 s args am_W "RoverMinutes$Plan" D classes A) (hret : meth.sig.returnType = none) (hlk : meth.locks = false) {k2 : Nat → Int32 → Int32 → am_w → Option (Int32 × am_w)} (hk2 : ∀ (v0 : Nat) (v1 : Int32) (v2 : Int32) (w : am_w), k2 v0 v1 v2 w = some r → am_V p l e rm_Plan_skipHopeless s m args below meth c D classes tys A (am_F A true) 4 0 0 (MQ below (am_Q D classes tys A (am_F A true) (am_rv r)) args s 0 0 (am_F A true)) 2 [some (.ref v0), some (.int v1), some (.int v2), none] [] w) (n : Nat) : ∀ (v0 : Nat) (v1 : Int32) (v2 : Int32) (v3 : Int32) (w : am_w), f_Plan_skipHopeless_12 k2 n v0 v1 v2 v3 w = some r → am_V p l e rm_Plan_skipHopeless s m args below meth c D classes tys A (am_F A true) 4 0 0 (MQ below (am_Q D classes tys A (am_F A true) (am_rv r)) args s 0 0 (am_F A true)) 12 [some (.ref v0), some (.int v1), some (.int v2), some (.int v3)] [] w := by
  refine am_it_ind (P := fun (t : Nat → Int32 → Int32 → Int32 → am_w → Option (Int32 × am_w)) => ∀ (v0 : Nat) (v1 : Int32) (v2 : Int32) (v3 : Int32) (w : am_w), t v0 v1 v2 v3 w = some r → am_V p l e rm_Plan_skipHopeless s m args below meth c D classes tys A (am_F A true) 4 0 0 (MQ below (am_Q D classes tys A (am_F A true) (am_rv r)) args s 0 0 (am_F A true)) 12 [some (.ref v0), some (.int v1), some (.int v2), some (.int v3)] [] w) ?_ ?_ n
  · intro v0 v1 v2 v3 w hX
    exact (am_nn hX).elim
  · intro k12 hk12 v0 v1 v2 v3 w hX
    unfold s_Plan_skipHopeless_12 at hX
    refine am_iload_n (pc := 12) C d_Plan_skipHopeless_12 rfl rfl ?_
    refine am_aload_n (pc := 13) C d_Plan_skipHopeless_13 rfl rfl ?_
    refine am_get (pc := 14) C hin_Plan rfl (by decide) wd_1_236 rfl d_Plan_skipHopeless_14 rfl hX (fun x2 hX => ?_)
    refine am_icmp_ge (pc := 17) (tgt := 62) C d_Plan_skipHopeless_17 rfl hX (fun hX => ?_) (fun hX => ?_)
    · skip
      refine am_iinc (pc := 62) (y := (1 : Int32)) (lo1 := [some (.ref v0), some (.int v1), some (.int (v2 + (1 : Int32))), some (.int v3)]) C d_Plan_skipHopeless_62 rfl (by decide) (by decide) rfl ?_
      refine am_goto (pc := 65) (tgt := 2) C d_Plan_skipHopeless_65 rfl ?_
      exact am_sub (am_le_s (am_le_s (am_le_s (am_le_n (am_le_0))))) (hk2 v0 v1 (v2 + (1 : Int32)) w hX)
    · skip
      refine am_aload_n (pc := 20) C d_Plan_skipHopeless_20 rfl rfl ?_
      refine am_getr (pc := 21) C hin_Plan rfl (by decide) wd_1_232 rfl d_Plan_skipHopeless_21 rfl hX (fun b3 hX => ?_)
      refine am_iload_n (pc := 24) C d_Plan_skipHopeless_24 rfl rfl ?_
      refine am_aald (pc := 25) C d_Plan_skipHopeless_25 hX (fun b4 hX => ?_)
      refine am_callVi (pc := 26) (As := []) (st := []) (cells1 := 0) (slots1 := 0) C (fun _ h => h.2) (fun _ h => by cases h.1) (fun q h => c_Activity_isWaiting h) wd_3_136 wd_3_137 wd_3_138 wd_1_8 wd_3_139 rfl rfl hd_Activity_isWaiting ⟨by decide, by decide⟩ rfl rfl (Nat.le_of_ble_eq_true rfl) d_Plan_skipHopeless_26 ⟨by decide, by decide⟩ rfl rfl rfl hX (fun q5 hX => ?_)
      refine am_if_eq (pc := 29) (tgt := 56) C d_Plan_skipHopeless_29 rfl hX (fun hX => ?_) (fun hX => ?_)
      · skip
        refine am_iinc (pc := 56) (y := (1 : Int32)) (lo1 := [some (.ref v0), some (.int v1), some (.int v2), some (.int (v3 + (1 : Int32)))]) C d_Plan_skipHopeless_56 rfl (by decide) (by decide) rfl ?_
        refine am_goto (pc := 59) (tgt := 12) C d_Plan_skipHopeless_59 rfl ?_
        exact (hk12 v0 v1 v2 (v3 + (1 : Int32)) q5.2 hX)
      · skip
        refine am_aload_n (pc := 32) C d_Plan_skipHopeless_32 rfl rfl ?_
        refine am_aload_n (pc := 33) C d_Plan_skipHopeless_33 rfl rfl ?_
        refine am_getr (pc := 34) C hin_Plan rfl (by decide) wd_1_232 rfl d_Plan_skipHopeless_34 rfl hX (fun b6 hX => ?_)
        refine am_iload_n (pc := 37) C d_Plan_skipHopeless_37 rfl rfl ?_
        refine am_aald (pc := 38) C d_Plan_skipHopeless_38 hX (fun b7 hX => ?_)
        refine am_iload_n (pc := 39) C d_Plan_skipHopeless_39 rfl rfl ?_
        refine am_callVi (pc := 40) (As := [.ref b7, .int v1]) (st := []) (cells1 := 0) (slots1 := 0) C (fun _ h => h.2) (fun _ h => by cases h.1) (fun q h => c_Plan_isHopeless h) wd_3_140 wd_3_142 ws_Plan_isHopeless wd_1_7 wd_3_143 rfl rfl hd_Plan_isHopeless ⟨by decide, by decide⟩ rfl rfl (Nat.le_of_ble_eq_true rfl) d_Plan_skipHopeless_40 ⟨by decide, by decide⟩ rfl rfl rfl hX (fun q8 hX => ?_)
        refine am_if_eq (pc := 43) (tgt := 56) C d_Plan_skipHopeless_43 rfl hX (fun hX => ?_) (fun hX => ?_)
        · skip
          refine am_iinc (pc := 56) (y := (1 : Int32)) (lo1 := [some (.ref v0), some (.int v1), some (.int v2), some (.int (v3 + (1 : Int32)))]) C d_Plan_skipHopeless_56 rfl (by decide) (by decide) rfl ?_
          refine am_goto (pc := 59) (tgt := 12) C d_Plan_skipHopeless_59 rfl ?_
          exact (hk12 v0 v1 v2 (v3 + (1 : Int32)) q8.2 hX)
        · skip
          refine am_aload_n (pc := 46) C d_Plan_skipHopeless_46 rfl rfl ?_
          refine am_getr (pc := 47) C hin_Plan rfl (by decide) wd_1_232 rfl d_Plan_skipHopeless_47 rfl hX (fun b9 hX => ?_)
          refine am_iload_n (pc := 50) C d_Plan_skipHopeless_50 rfl rfl ?_
          refine am_aald (pc := 51) C d_Plan_skipHopeless_51 hX (fun b10 hX => ?_)
          refine am_iconst (pc := 52) (v := (4 : Int32)) C d_Plan_skipHopeless_52 (by decide) ?_
          refine am_put (pc := 53) C (fun _ h => ⟨rfl, h⟩) hin_Activity t_Activity t_Activity_ok n_Activity rfl (by decide) wd_1_175 rfl rfl (t_Activity_ok 10 (by decide)) rfl rfl rfl d_Plan_skipHopeless_53 hX (fun w11 hX => ?_)
          refine am_iinc (pc := 56) (y := (1 : Int32)) (lo1 := [some (.ref v0), some (.int v1), some (.int v2), some (.int (v3 + (1 : Int32)))]) C d_Plan_skipHopeless_56 rfl (by decide) (by decide) rfl ?_
          refine am_goto (pc := 59) (tgt := 12) C d_Plan_skipHopeless_59 rfl ?_
          exact (hk12 v0 v1 v2 (v3 + (1 : Int32)) w11 hX)
def s_Plan_skipHopeless_2 (k2 : Nat → Int32 → Int32 → am_w → Option (Int32 × am_w)) (v0 : Nat) (v1 : Int32) (v2 : Int32) (w : am_w) : Option (Int32 × am_w) := ((am_fg 5 1 v0 w).bind fun x1 => (if x1 ≤ v2 then (some (0, w)) else (f_Plan_skipHopeless_12 k2 70 v0 v1 v2 (0 : Int32) w)))
def f_Plan_skipHopeless_2  (n : Nat) : Nat → Int32 → Int32 → am_w → Option (Int32 × am_w) := am_it (fun _ _ _ _ => none) (s_Plan_skipHopeless_2 ) n
set_option maxHeartbeats 4000000 in
theorem L_Plan_skipHopeless_2 {p : Program} {l : Launch} {e : Env} {s : State} {m : MethodId} {args : Array Value} {below : List Frame} {meth : Method} {c : Code} {D : va_G} {A : Nat → Prop} {r : Int32 × am_w} (C : am_C p m c b_Plan_skipHopeless 4 s args am_W "RoverMinutes$Plan" D classes A) (hret : meth.sig.returnType = none) (hlk : meth.locks = false)   (n : Nat) : ∀ (v0 : Nat) (v1 : Int32) (v2 : Int32) (w : am_w), f_Plan_skipHopeless_2  n v0 v1 v2 w = some r → am_V p l e rm_Plan_skipHopeless s m args below meth c D classes tys A (am_F A true) 4 0 0 (MQ below (am_Q D classes tys A (am_F A true) (am_rv r)) args s 0 0 (am_F A true)) 2 [some (.ref v0), some (.int v1), some (.int v2), none] [] w := by
  refine am_it_ind (P := fun (t : Nat → Int32 → Int32 → am_w → Option (Int32 × am_w)) => ∀ (v0 : Nat) (v1 : Int32) (v2 : Int32) (w : am_w), t v0 v1 v2 w = some r → am_V p l e rm_Plan_skipHopeless s m args below meth c D classes tys A (am_F A true) 4 0 0 (MQ below (am_Q D classes tys A (am_F A true) (am_rv r)) args s 0 0 (am_F A true)) 2 [some (.ref v0), some (.int v1), some (.int v2), none] [] w) ?_ ?_ n
  · intro v0 v1 v2 w hX
    exact (am_nn hX).elim
  · intro k2 hk2 v0 v1 v2 w hX
    unfold s_Plan_skipHopeless_2 at hX
    refine am_iload_n (pc := 2) C d_Plan_skipHopeless_2 rfl rfl ?_
    refine am_aload_n (pc := 3) C d_Plan_skipHopeless_3 rfl rfl ?_
    refine am_get (pc := 4) C hin_Plan rfl (by decide) wd_1_236 rfl d_Plan_skipHopeless_4 rfl hX (fun x1 hX => ?_)
    refine am_icmp_ge (pc := 7) (tgt := 68) C d_Plan_skipHopeless_7 rfl hX (fun hX => ?_) (fun hX => ?_)
    · skip
      exact am_vret (pc := 68) C hret hlk d_Plan_skipHopeless_68 (by decide) (by decide) hX
    · skip
      refine am_iconst (pc := 10) (v := (0 : Int32)) C d_Plan_skipHopeless_10 (by decide) ?_
      refine am_istore_n (pc := 11) (lo1 := [some (.ref v0), some (.int v1), some (.int v2), some (.int (0 : Int32))]) C d_Plan_skipHopeless_11 rfl (by decide) rfl ?_
      exact (L_Plan_skipHopeless_12 C hret hlk hk2 70 v0 v1 v2 (0 : Int32) w hX)
def f_Plan_skipHopeless (a0 : Nat) (a1 : Int32) (w : am_w) : Option (Int32 × am_w) := (f_Plan_skipHopeless_2  70 a0 a1 (0 : Int32) w)
theorem hd_Plan_skipHopeless : y_Plan_skipHopeless.cls = "RoverMinutes$Plan" ∧ y_Plan_skipHopeless.cls ≠ "java/lang/invoke/MethodHandle" ∧ y_Plan_skipHopeless.cls ≠ "java/lang/invoke/VarHandle" ∧ (parseMethodDescriptor y_Plan_skipHopeless.desc).map (fun d => d.parameters.length) = some 1 := ⟨rfl, by decide, by decide, by decide +kernel⟩
set_option maxHeartbeats 4000000 in
theorem c_Plan_skipHopeless {l : Launch} {D : va_G} {A : Nat → Prop} {a0 : Nat} {a1 : Int32} {w : am_w} {r : Int32 × am_w} (hX : f_Plan_skipHopeless a0 a1 w = some r) : am_Met l D classes tys A (am_F A true) y_Plan_skipHopeless (Cond.code y_Plan_skipHopeless b_Plan_skipHopeless 4 none :: am_W) rm_Plan_skipHopeless [.ref a0, .int a1] w (am_rv r) 0 0 := by
  refine am_ofV (by decide) am_W_good (Nat.le_of_ble_eq_true rfl) (by simp [Value.category]) ?_
  intro p e s m below meth c C hret hlk hnm
  unfold f_Plan_skipHopeless at hX
  refine am_iconst (pc := 0) (v := (0 : Int32)) C d_Plan_skipHopeless_0 (by decide) ?_
  refine am_istore_n (pc := 1) (lo1 := [some (.ref a0), some (.int a1), some (.int (0 : Int32)), none]) C d_Plan_skipHopeless_1 rfl (by decide) rfl ?_
  exact (L_Plan_skipHopeless_2 C hret hlk  70 a0 a1 (0 : Int32) w hX)
def rm_Plan_isReady : Room := { frames := 1, cells := 0, slots := 0, locals := 21 }
def s_Plan_isReady_46 (k18 : Nat → Nat → Int32 → am_w → Option (Int32 × am_w)) (v0 : Nat) (v2 : Nat) (v3 : Int32) (w : am_w) : Option (Int32 × am_w) := ((am_ob 6 v2 w (f_Activity_isInsteadOf v2 v3 w)).bind fun q6 => (if q6.1 = 0 then (k18 v0 v2 (v3 + (1 : Int32)) q6.2) else ((am_rg 5 0 v0 q6.2).bind fun b7 => ((am_ag b7 v3 q6.2).bind fun b8 => ((am_ob 6 b8 q6.2 (f_Activity_hasFailed b8 q6.2)).bind fun q9 => (if q9.1 = 0 then (some ((0 : Int32), q9.2)) else (k18 v0 v2 (v3 + (1 : Int32)) q9.2)))))))
set_option maxHeartbeats 4000000 in
theorem L_Plan_isReady_46 {p : Program} {l : Launch} {e : Env} {s : State} {m : MethodId} {args : Array Value} {below : List Frame} {meth : Method} {c : Code} {D : va_G} {A : Nat → Prop} {r : Int32 × am_w} (C : am_C p m c b_Plan_isReady 4 s args am_W "RoverMinutes$Plan" D classes A) (hret : meth.sig.returnType = (some .boolean)) (hlk : meth.locks = false) {k18 : Nat → Nat → Int32 → am_w → Option (Int32 × am_w)} (hk18 : ∀ (v0 : Nat) (v2 : Nat) (v3 : Int32) (w : am_w), k18 v0 v2 v3 w = some r → am_V p l e rm_Plan_isReady s m args below meth c D classes tys A (am_F A false) 4 0 0 (MQ below (am_Q D classes tys A (am_F A false) (am_ri r)) args s 0 0 (am_F A false)) 18 [some (.ref v0), none, some (.ref v2), some (.int v3)] [] w) : ∀ (v0 : Nat) (v2 : Nat) (v3 : Int32) (w : am_w), s_Plan_isReady_46 k18 v0 v2 v3 w = some r → am_V p l e rm_Plan_isReady s m args below meth c D classes tys A (am_F A false) 4 0 0 (MQ below (am_Q D classes tys A (am_F A false) (am_ri r)) args s 0 0 (am_F A false)) 46 [some (.ref v0), none, some (.ref v2), some (.int v3)] [] w := by
  intro v0 v2 v3 w hX
  unfold s_Plan_isReady_46 at hX
  refine am_aload_n (pc := 46) C d_Plan_isReady_46 rfl rfl ?_
  refine am_iload_n (pc := 47) C d_Plan_isReady_47 rfl rfl ?_
  refine am_callVi (pc := 48) (As := [.int v3]) (st := []) (cells1 := 0) (slots1 := 0) C (fun _ h => h.2) (fun _ h => by cases h.1) (fun q h => c_Activity_isInsteadOf h) wd_3_148 wd_3_149 wd_3_150 wd_1_8 wd_3_151 rfl rfl hd_Activity_isInsteadOf ⟨by decide, by decide⟩ rfl rfl (Nat.le_of_ble_eq_true rfl) d_Plan_isReady_48 ⟨by decide, by decide⟩ rfl rfl rfl hX (fun q6 hX => ?_)
  refine am_if_eq (pc := 51) (tgt := 68) C d_Plan_isReady_51 rfl hX (fun hX => ?_) (fun hX => ?_)
  · skip
    refine am_iinc (pc := 68) (y := (1 : Int32)) (lo1 := [some (.ref v0), none, some (.ref v2), some (.int (v3 + (1 : Int32)))]) C d_Plan_isReady_68 rfl (by decide) (by decide) rfl ?_
    refine am_goto (pc := 71) (tgt := 18) C d_Plan_isReady_71 rfl ?_
    exact (hk18 v0 v2 (v3 + (1 : Int32)) q6.2 hX)
  · skip
    refine am_aload_n (pc := 54) C d_Plan_isReady_54 rfl rfl ?_
    refine am_getr (pc := 55) C hin_Plan rfl (by decide) wd_1_232 rfl d_Plan_isReady_55 rfl hX (fun b7 hX => ?_)
    refine am_iload_n (pc := 58) C d_Plan_isReady_58 rfl rfl ?_
    refine am_aald (pc := 59) C d_Plan_isReady_59 hX (fun b8 hX => ?_)
    refine am_callVi (pc := 60) (As := []) (st := []) (cells1 := 0) (slots1 := 0) C (fun _ h => h.2) (fun _ h => by cases h.1) (fun q h => c_Activity_hasFailed h) wd_3_144 wd_3_145 wd_3_146 wd_1_8 wd_3_147 rfl rfl hd_Activity_hasFailed ⟨by decide, by decide⟩ rfl rfl (Nat.le_of_ble_eq_true rfl) d_Plan_isReady_60 ⟨by decide, by decide⟩ rfl rfl rfl hX (fun q9 hX => ?_)
    refine am_if_ne (pc := 63) (tgt := 68) C d_Plan_isReady_63 rfl hX (fun hX => ?_) (fun hX => ?_)
    · skip
      refine am_iinc (pc := 68) (y := (1 : Int32)) (lo1 := [some (.ref v0), none, some (.ref v2), some (.int (v3 + (1 : Int32)))]) C d_Plan_isReady_68 rfl (by decide) (by decide) rfl ?_
      refine am_goto (pc := 71) (tgt := 18) C d_Plan_isReady_71 rfl ?_
      exact (hk18 v0 v2 (v3 + (1 : Int32)) q9.2 hX)
    · skip
      refine am_iconst (pc := 66) (v := (0 : Int32)) C d_Plan_isReady_66 (by decide) ?_
      exact am_iret (pc := 67) C hret hlk d_Plan_isReady_67 am_n0 (by decide) (by decide) hX
def s_Plan_isReady_18 (k18 : Nat → Nat → Int32 → am_w → Option (Int32 × am_w)) (v0 : Nat) (v2 : Nat) (v3 : Int32) (w : am_w) : Option (Int32 × am_w) := ((am_fg 5 1 v0 w).bind fun x4 => (if x4 ≤ v3 then (some ((1 : Int32), w)) else ((am_ob 6 v2 w (f_Activity_isAfter v2 v3 w)).bind fun q5 => (if q5.1 = 0 then (s_Plan_isReady_46 k18 v0 v2 v3 q5.2) else ((am_rg 5 0 v0 q5.2).bind fun b10 => ((am_ag b10 v3 q5.2).bind fun b11 => ((am_ob 6 b11 q5.2 (f_Activity_isDone b11 q5.2)).bind fun q12 => (if q12.1 = 0 then (some ((0 : Int32), q12.2)) else (s_Plan_isReady_46 k18 v0 v2 v3 q12.2)))))))))
def f_Plan_isReady_18  (n : Nat) : Nat → Nat → Int32 → am_w → Option (Int32 × am_w) := am_it (fun _ _ _ _ => none) (s_Plan_isReady_18 ) n
set_option maxHeartbeats 4000000 in
theorem L_Plan_isReady_18 {p : Program} {l : Launch} {e : Env} {s : State} {m : MethodId} {args : Array Value} {below : List Frame} {meth : Method} {c : Code} {D : va_G} {A : Nat → Prop} {r : Int32 × am_w} (C : am_C p m c b_Plan_isReady 4 s args am_W "RoverMinutes$Plan" D classes A) (hret : meth.sig.returnType = (some .boolean)) (hlk : meth.locks = false)   (n : Nat) : ∀ (v0 : Nat) (v2 : Nat) (v3 : Int32) (w : am_w), f_Plan_isReady_18  n v0 v2 v3 w = some r → am_V p l e rm_Plan_isReady s m args below meth c D classes tys A (am_F A false) 4 0 0 (MQ below (am_Q D classes tys A (am_F A false) (am_ri r)) args s 0 0 (am_F A false)) 18 [some (.ref v0), none, some (.ref v2), some (.int v3)] [] w := by
  refine am_it_ind (P := fun (t : Nat → Nat → Int32 → am_w → Option (Int32 × am_w)) => ∀ (v0 : Nat) (v2 : Nat) (v3 : Int32) (w : am_w), t v0 v2 v3 w = some r → am_V p l e rm_Plan_isReady s m args below meth c D classes tys A (am_F A false) 4 0 0 (MQ below (am_Q D classes tys A (am_F A false) (am_ri r)) args s 0 0 (am_F A false)) 18 [some (.ref v0), none, some (.ref v2), some (.int v3)] [] w) ?_ ?_ n
  · intro v0 v2 v3 w hX
    exact (am_nn hX).elim
  · intro k18 hk18 v0 v2 v3 w hX
    unfold s_Plan_isReady_18 at hX
    refine am_iload_n (pc := 18) C d_Plan_isReady_18 rfl rfl ?_
    refine am_aload_n (pc := 19) C d_Plan_isReady_19 rfl rfl ?_
    refine am_get (pc := 20) C hin_Plan rfl (by decide) wd_1_236 rfl d_Plan_isReady_20 rfl hX (fun x4 hX => ?_)
    refine am_icmp_ge (pc := 23) (tgt := 74) C d_Plan_isReady_23 rfl hX (fun hX => ?_) (fun hX => ?_)
    · skip
      refine am_iconst (pc := 74) (v := (1 : Int32)) C d_Plan_isReady_74 (by decide) ?_
      exact am_iret (pc := 75) C hret hlk d_Plan_isReady_75 am_n1 (by decide) (by decide) hX
    · skip
      refine am_aload_n (pc := 26) C d_Plan_isReady_26 rfl rfl ?_
      refine am_iload_n (pc := 27) C d_Plan_isReady_27 rfl rfl ?_
      refine am_callVi (pc := 28) (As := [.int v3]) (st := []) (cells1 := 0) (slots1 := 0) C (fun _ h => h.2) (fun _ h => by cases h.1) (fun q h => c_Activity_isAfter h) wd_3_106 wd_3_107 wd_3_108 wd_1_8 wd_3_109 rfl rfl hd_Activity_isAfter ⟨by decide, by decide⟩ rfl rfl (Nat.le_of_ble_eq_true rfl) d_Plan_isReady_28 ⟨by decide, by decide⟩ rfl rfl rfl hX (fun q5 hX => ?_)
      refine am_if_eq (pc := 31) (tgt := 46) C d_Plan_isReady_31 rfl hX (fun hX => ?_) (fun hX => ?_)
      · skip
        exact (L_Plan_isReady_46 C hret hlk hk18 v0 v2 v3 q5.2 hX)
      · skip
        refine am_aload_n (pc := 34) C d_Plan_isReady_34 rfl rfl ?_
        refine am_getr (pc := 35) C hin_Plan rfl (by decide) wd_1_232 rfl d_Plan_isReady_35 rfl hX (fun b10 hX => ?_)
        refine am_iload_n (pc := 38) C d_Plan_isReady_38 rfl rfl ?_
        refine am_aald (pc := 39) C d_Plan_isReady_39 hX (fun b11 hX => ?_)
        refine am_callVi (pc := 40) (As := []) (st := []) (cells1 := 0) (slots1 := 0) C (fun _ h => h.2) (fun _ h => by cases h.1) (fun q h => c_Activity_isDone h) wd_3_152 wd_3_153 wd_3_154 wd_1_8 wd_3_155 rfl rfl hd_Activity_isDone ⟨by decide, by decide⟩ rfl rfl (Nat.le_of_ble_eq_true rfl) d_Plan_isReady_40 ⟨by decide, by decide⟩ rfl rfl rfl hX (fun q12 hX => ?_)
        refine am_if_eq (pc := 43) (tgt := 66) C d_Plan_isReady_43 rfl hX (fun hX => ?_) (fun hX => ?_)
        · skip
          refine am_iconst (pc := 66) (v := (0 : Int32)) C d_Plan_isReady_66 (by decide) ?_
          exact am_iret (pc := 67) C hret hlk d_Plan_isReady_67 am_n0 (by decide) (by decide) hX
        · skip
          exact (L_Plan_isReady_46 C hret hlk hk18 v0 v2 v3 q12.2 hX)
def f_Plan_isReady (a0 : Nat) (a1 : Int32) (w : am_w) : Option (Int32 × am_w) := ((am_rg 5 0 a0 w).bind fun b1 => ((am_ag b1 a1 w).bind fun b2 => ((am_ob 6 b2 w (f_Activity_isWaiting b2 w)).bind fun q3 => (if q3.1 = 0 then (some ((0 : Int32), q3.2)) else (f_Plan_isReady_18  70 a0 b2 (0 : Int32) q3.2)))))
theorem hd_Plan_isReady : y_Plan_isReady.cls = "RoverMinutes$Plan" ∧ y_Plan_isReady.cls ≠ "java/lang/invoke/MethodHandle" ∧ y_Plan_isReady.cls ≠ "java/lang/invoke/VarHandle" ∧ (parseMethodDescriptor y_Plan_isReady.desc).map (fun d => d.parameters.length) = some 1 := ⟨rfl, by decide, by decide, by decide +kernel⟩
set_option maxHeartbeats 4000000 in
theorem c_Plan_isReady {l : Launch} {D : va_G} {A : Nat → Prop} {a0 : Nat} {a1 : Int32} {w : am_w} {r : Int32 × am_w} (hX : f_Plan_isReady a0 a1 w = some r) : am_Met l D classes tys A (am_F A false) y_Plan_isReady (Cond.code y_Plan_isReady b_Plan_isReady 4 (some .boolean) :: am_W) rm_Plan_isReady [.ref a0, .int a1] w (am_ri r) 0 0 := by
  refine am_ofV (by decide) am_W_good (Nat.le_of_ble_eq_true rfl) (by simp [Value.category]) ?_
  intro p e s m below meth c C hret hlk hnm
  unfold f_Plan_isReady at hX
  refine am_aload_n (pc := 0) C d_Plan_isReady_0 rfl rfl ?_
  refine am_getr (pc := 1) C hin_Plan rfl (by decide) wd_1_232 rfl d_Plan_isReady_1 rfl hX (fun b1 hX => ?_)
  refine am_iload_n (pc := 4) C d_Plan_isReady_4 rfl rfl ?_
  refine am_aald (pc := 5) C d_Plan_isReady_5 hX (fun b2 hX => ?_)
  refine am_astore_n (pc := 6) (lo1 := [some (.ref a0), some (.int a1), some (.ref b2), none]) C d_Plan_isReady_6 rfl (by decide) rfl ?_
  refine am_aload_n (pc := 7) C d_Plan_isReady_7 rfl rfl ?_
  refine am_callVi (pc := 8) (As := []) (st := []) (cells1 := 0) (slots1 := 0) C (fun _ h => h.2) (fun _ h => by cases h.1) (fun q h => c_Activity_isWaiting h) wd_3_136 wd_3_137 wd_3_138 wd_1_8 wd_3_139 rfl rfl hd_Activity_isWaiting ⟨by decide, by decide⟩ rfl rfl (Nat.le_of_ble_eq_true rfl) d_Plan_isReady_8 ⟨by decide, by decide⟩ rfl rfl rfl hX (fun q3 hX => ?_)
  refine am_if_ne (pc := 11) (tgt := 16) C d_Plan_isReady_11 rfl hX (fun hX => ?_) (fun hX => ?_)
  · skip
    refine am_iconst (pc := 16) (v := (0 : Int32)) C d_Plan_isReady_16 (by decide) ?_
    refine am_istore_n (pc := 17) (lo1 := [some (.ref a0), some (.int a1), some (.ref b2), some (.int (0 : Int32))]) C d_Plan_isReady_17 rfl (by decide) rfl ?_
    exact am_sub (am_le_s (am_le_n (am_le_s (am_le_s (am_le_0))))) (L_Plan_isReady_18 C hret hlk  70 a0 b2 (0 : Int32) q3.2 hX)
  · skip
    refine am_iconst (pc := 14) (v := (0 : Int32)) C d_Plan_isReady_14 (by decide) ?_
    exact am_iret (pc := 15) C hret hlk d_Plan_isReady_15 am_n0 (by decide) (by decide) hX
def rm_Plan_giveUp : Room := { frames := 1, cells := 0, slots := 0, locals := 20 }
def s_Plan_giveUp_2 (k2 : Nat → Int32 → am_w → Option (Int32 × am_w)) (v0 : Nat) (v1 : Int32) (w : am_w) : Option (Int32 × am_w) := ((am_fg 5 1 v0 w).bind fun x1 => (if x1 ≤ v1 then (some (0, w)) else ((am_rg 5 0 v0 w).bind fun b2 => ((am_ag b2 v1 w).bind fun b3 => ((am_ob 6 b3 w (f_Activity_isRunning b3 w)).bind fun q4 => (if q4.1 = 0 then ((am_rg 5 0 v0 q4.2).bind fun b5 => ((am_ag b5 v1 q4.2).bind fun b6 => ((am_ob 6 b6 q4.2 (f_Activity_isWaiting b6 q4.2)).bind fun q7 => (if q7.1 = 0 then (k2 v0 (v1 + (1 : Int32)) q7.2) else ((am_rg 5 0 v0 q7.2).bind fun b8 => ((am_ag b8 v1 q7.2).bind fun b9 => ((am_fp 6 10 b9 (4 : Int32) q7.2).bind fun w10 => (k2 v0 (v1 + (1 : Int32)) w10)))))))) else ((am_rg 5 0 v0 q4.2).bind fun b11 => ((am_ag b11 v1 q4.2).bind fun b12 => ((am_fp 6 10 b12 (3 : Int32) q4.2).bind fun w13 => (k2 v0 (v1 + (1 : Int32)) w13))))))))))
def f_Plan_giveUp_2  (n : Nat) : Nat → Int32 → am_w → Option (Int32 × am_w) := am_it (fun _ _ _ => none) (s_Plan_giveUp_2 ) n
set_option maxHeartbeats 4000000 in
theorem L_Plan_giveUp_2 {p : Program} {l : Launch} {e : Env} {s : State} {m : MethodId} {args : Array Value} {below : List Frame} {meth : Method} {c : Code} {D : va_G} {A : Nat → Prop} {r : Int32 × am_w} (C : am_C p m c b_Plan_giveUp 2 s args am_W "RoverMinutes$Plan" D classes A) (hret : meth.sig.returnType = none) (hlk : meth.locks = false)   (n : Nat) : ∀ (v0 : Nat) (v1 : Int32) (w : am_w), f_Plan_giveUp_2  n v0 v1 w = some r → am_V p l e rm_Plan_giveUp s m args below meth c D classes tys A (am_F A true) 2 0 0 (MQ below (am_Q D classes tys A (am_F A true) (am_rv r)) args s 0 0 (am_F A true)) 2 [some (.ref v0), some (.int v1)] [] w := by
  refine am_it_ind (P := fun (t : Nat → Int32 → am_w → Option (Int32 × am_w)) => ∀ (v0 : Nat) (v1 : Int32) (w : am_w), t v0 v1 w = some r → am_V p l e rm_Plan_giveUp s m args below meth c D classes tys A (am_F A true) 2 0 0 (MQ below (am_Q D classes tys A (am_F A true) (am_rv r)) args s 0 0 (am_F A true)) 2 [some (.ref v0), some (.int v1)] [] w) ?_ ?_ n
  · intro v0 v1 w hX
    exact (am_nn hX).elim
  · intro k2 hk2 v0 v1 w hX
    unfold s_Plan_giveUp_2 at hX
    refine am_iload_n (pc := 2) C d_Plan_giveUp_2 rfl rfl ?_
    refine am_aload_n (pc := 3) C d_Plan_giveUp_3 rfl rfl ?_
    refine am_get (pc := 4) C hin_Plan rfl (by decide) wd_1_236 rfl d_Plan_giveUp_4 rfl hX (fun x1 hX => ?_)
    refine am_icmp_ge (pc := 7) (tgt := 63) C d_Plan_giveUp_7 rfl hX (fun hX => ?_) (fun hX => ?_)
    · skip
      exact am_vret (pc := 63) C hret hlk d_Plan_giveUp_63 (by decide) (by decide) hX
    · skip
      refine am_aload_n (pc := 10) C d_Plan_giveUp_10 rfl rfl ?_
      refine am_getr (pc := 11) C hin_Plan rfl (by decide) wd_1_232 rfl d_Plan_giveUp_11 rfl hX (fun b2 hX => ?_)
      refine am_iload_n (pc := 14) C d_Plan_giveUp_14 rfl rfl ?_
      refine am_aald (pc := 15) C d_Plan_giveUp_15 hX (fun b3 hX => ?_)
      refine am_callVi (pc := 16) (As := []) (st := []) (cells1 := 0) (slots1 := 0) C (fun _ h => h.2) (fun _ h => by cases h.1) (fun q h => c_Activity_isRunning h) wd_3_181 wd_2_72 wd_2_73 wd_1_8 wd_2_74 rfl rfl hd_Activity_isRunning ⟨by decide, by decide⟩ rfl rfl (Nat.le_of_ble_eq_true rfl) d_Plan_giveUp_16 ⟨by decide, by decide⟩ rfl rfl rfl hX (fun q4 hX => ?_)
      refine am_if_eq (pc := 19) (tgt := 35) C d_Plan_giveUp_19 rfl hX (fun hX => ?_) (fun hX => ?_)
      · skip
        refine am_aload_n (pc := 35) C d_Plan_giveUp_35 rfl rfl ?_
        refine am_getr (pc := 36) C hin_Plan rfl (by decide) wd_1_232 rfl d_Plan_giveUp_36 rfl hX (fun b5 hX => ?_)
        refine am_iload_n (pc := 39) C d_Plan_giveUp_39 rfl rfl ?_
        refine am_aald (pc := 40) C d_Plan_giveUp_40 hX (fun b6 hX => ?_)
        refine am_callVi (pc := 41) (As := []) (st := []) (cells1 := 0) (slots1 := 0) C (fun _ h => h.2) (fun _ h => by cases h.1) (fun q h => c_Activity_isWaiting h) wd_3_136 wd_3_137 wd_3_138 wd_1_8 wd_3_139 rfl rfl hd_Activity_isWaiting ⟨by decide, by decide⟩ rfl rfl (Nat.le_of_ble_eq_true rfl) d_Plan_giveUp_41 ⟨by decide, by decide⟩ rfl rfl rfl hX (fun q7 hX => ?_)
        refine am_if_eq (pc := 44) (tgt := 57) C d_Plan_giveUp_44 rfl hX (fun hX => ?_) (fun hX => ?_)
        · skip
          refine am_iinc (pc := 57) (y := (1 : Int32)) (lo1 := [some (.ref v0), some (.int (v1 + (1 : Int32)))]) C d_Plan_giveUp_57 rfl (by decide) (by decide) rfl ?_
          refine am_goto (pc := 60) (tgt := 2) C d_Plan_giveUp_60 rfl ?_
          exact (hk2 v0 (v1 + (1 : Int32)) q7.2 hX)
        · skip
          refine am_aload_n (pc := 47) C d_Plan_giveUp_47 rfl rfl ?_
          refine am_getr (pc := 48) C hin_Plan rfl (by decide) wd_1_232 rfl d_Plan_giveUp_48 rfl hX (fun b8 hX => ?_)
          refine am_iload_n (pc := 51) C d_Plan_giveUp_51 rfl rfl ?_
          refine am_aald (pc := 52) C d_Plan_giveUp_52 hX (fun b9 hX => ?_)
          refine am_iconst (pc := 53) (v := (4 : Int32)) C d_Plan_giveUp_53 (by decide) ?_
          refine am_put (pc := 54) C (fun _ h => ⟨rfl, h⟩) hin_Activity t_Activity t_Activity_ok n_Activity rfl (by decide) wd_1_175 rfl rfl (t_Activity_ok 10 (by decide)) rfl rfl rfl d_Plan_giveUp_54 hX (fun w10 hX => ?_)
          refine am_iinc (pc := 57) (y := (1 : Int32)) (lo1 := [some (.ref v0), some (.int (v1 + (1 : Int32)))]) C d_Plan_giveUp_57 rfl (by decide) (by decide) rfl ?_
          refine am_goto (pc := 60) (tgt := 2) C d_Plan_giveUp_60 rfl ?_
          exact (hk2 v0 (v1 + (1 : Int32)) w10 hX)
      · skip
        refine am_aload_n (pc := 22) C d_Plan_giveUp_22 rfl rfl ?_
        refine am_getr (pc := 23) C hin_Plan rfl (by decide) wd_1_232 rfl d_Plan_giveUp_23 rfl hX (fun b11 hX => ?_)
        refine am_iload_n (pc := 26) C d_Plan_giveUp_26 rfl rfl ?_
        refine am_aald (pc := 27) C d_Plan_giveUp_27 hX (fun b12 hX => ?_)
        refine am_iconst (pc := 28) (v := (3 : Int32)) C d_Plan_giveUp_28 (by decide) ?_
        refine am_put (pc := 29) C (fun _ h => ⟨rfl, h⟩) hin_Activity t_Activity t_Activity_ok n_Activity rfl (by decide) wd_1_175 rfl rfl (t_Activity_ok 10 (by decide)) rfl rfl rfl d_Plan_giveUp_29 hX (fun w13 hX => ?_)
        refine am_goto (pc := 32) (tgt := 57) C d_Plan_giveUp_32 rfl ?_
        refine am_iinc (pc := 57) (y := (1 : Int32)) (lo1 := [some (.ref v0), some (.int (v1 + (1 : Int32)))]) C d_Plan_giveUp_57 rfl (by decide) (by decide) rfl ?_
        refine am_goto (pc := 60) (tgt := 2) C d_Plan_giveUp_60 rfl ?_
        exact (hk2 v0 (v1 + (1 : Int32)) w13 hX)
def f_Plan_giveUp (a0 : Nat) (w : am_w) : Option (Int32 × am_w) := (f_Plan_giveUp_2  70 a0 (0 : Int32) w)
theorem hd_Plan_giveUp : y_Plan_giveUp.cls = "RoverMinutes$Plan" ∧ y_Plan_giveUp.cls ≠ "java/lang/invoke/MethodHandle" ∧ y_Plan_giveUp.cls ≠ "java/lang/invoke/VarHandle" ∧ (parseMethodDescriptor y_Plan_giveUp.desc).map (fun d => d.parameters.length) = some 0 := ⟨rfl, by decide, by decide, by decide +kernel⟩
set_option maxHeartbeats 4000000 in
theorem c_Plan_giveUp {l : Launch} {D : va_G} {A : Nat → Prop} {a0 : Nat} {w : am_w} {r : Int32 × am_w} (hX : f_Plan_giveUp a0 w = some r) : am_Met l D classes tys A (am_F A true) y_Plan_giveUp (Cond.code y_Plan_giveUp b_Plan_giveUp 2 none :: am_W) rm_Plan_giveUp [.ref a0] w (am_rv r) 0 0 := by
  refine am_ofV (by decide) am_W_good (Nat.le_of_ble_eq_true rfl) (by simp [Value.category]) ?_
  intro p e s m below meth c C hret hlk hnm
  unfold f_Plan_giveUp at hX
  refine am_iconst (pc := 0) (v := (0 : Int32)) C d_Plan_giveUp_0 (by decide) ?_
  refine am_istore_n (pc := 1) (lo1 := [some (.ref a0), some (.int (0 : Int32))]) C d_Plan_giveUp_1 rfl (by decide) rfl ?_
  exact (L_Plan_giveUp_2 C hret hlk  70 a0 (0 : Int32) w hX)
def rm_Plan_isOver : Room := { frames := 1, cells := 0, slots := 0, locals := 20 }
def s_Plan_isOver_2 (k2 : Nat → Int32 → am_w → Option (Int32 × am_w)) (v0 : Nat) (v1 : Int32) (w : am_w) : Option (Int32 × am_w) := ((am_fg 5 1 v0 w).bind fun x1 => (if x1 ≤ v1 then (some ((1 : Int32), w)) else ((am_rg 5 0 v0 w).bind fun b2 => ((am_ag b2 v1 w).bind fun b3 => ((am_ob 6 b3 w (f_Activity_isRunning b3 w)).bind fun q4 => (if q4.1 = 0 then ((am_rg 5 0 v0 q4.2).bind fun b5 => ((am_ag b5 v1 q4.2).bind fun b6 => ((am_ob 6 b6 q4.2 (f_Activity_isWaiting b6 q4.2)).bind fun q7 => (if q7.1 = 0 then (k2 v0 (v1 + (1 : Int32)) q7.2) else (some ((0 : Int32), q7.2)))))) else (some ((0 : Int32), q4.2))))))))
def f_Plan_isOver_2  (n : Nat) : Nat → Int32 → am_w → Option (Int32 × am_w) := am_it (fun _ _ _ => none) (s_Plan_isOver_2 ) n
set_option maxHeartbeats 4000000 in
theorem L_Plan_isOver_2 {p : Program} {l : Launch} {e : Env} {s : State} {m : MethodId} {args : Array Value} {below : List Frame} {meth : Method} {c : Code} {D : va_G} {A : Nat → Prop} {r : Int32 × am_w} (C : am_C p m c b_Plan_isOver 2 s args am_W "RoverMinutes$Plan" D classes A) (hret : meth.sig.returnType = (some .boolean)) (hlk : meth.locks = false)   (n : Nat) : ∀ (v0 : Nat) (v1 : Int32) (w : am_w), f_Plan_isOver_2  n v0 v1 w = some r → am_V p l e rm_Plan_isOver s m args below meth c D classes tys A (am_F A false) 2 0 0 (MQ below (am_Q D classes tys A (am_F A false) (am_ri r)) args s 0 0 (am_F A false)) 2 [some (.ref v0), some (.int v1)] [] w := by
  refine am_it_ind (P := fun (t : Nat → Int32 → am_w → Option (Int32 × am_w)) => ∀ (v0 : Nat) (v1 : Int32) (w : am_w), t v0 v1 w = some r → am_V p l e rm_Plan_isOver s m args below meth c D classes tys A (am_F A false) 2 0 0 (MQ below (am_Q D classes tys A (am_F A false) (am_ri r)) args s 0 0 (am_F A false)) 2 [some (.ref v0), some (.int v1)] [] w) ?_ ?_ n
  · intro v0 v1 w hX
    exact (am_nn hX).elim
  · intro k2 hk2 v0 v1 w hX
    unfold s_Plan_isOver_2 at hX
    refine am_iload_n (pc := 2) C d_Plan_isOver_2 rfl rfl ?_
    refine am_aload_n (pc := 3) C d_Plan_isOver_3 rfl rfl ?_
    refine am_get (pc := 4) C hin_Plan rfl (by decide) wd_1_236 rfl d_Plan_isOver_4 rfl hX (fun x1 hX => ?_)
    refine am_icmp_ge (pc := 7) (tgt := 42) C d_Plan_isOver_7 rfl hX (fun hX => ?_) (fun hX => ?_)
    · skip
      refine am_iconst (pc := 42) (v := (1 : Int32)) C d_Plan_isOver_42 (by decide) ?_
      exact am_iret (pc := 43) C hret hlk d_Plan_isOver_43 am_n1 (by decide) (by decide) hX
    · skip
      refine am_aload_n (pc := 10) C d_Plan_isOver_10 rfl rfl ?_
      refine am_getr (pc := 11) C hin_Plan rfl (by decide) wd_1_232 rfl d_Plan_isOver_11 rfl hX (fun b2 hX => ?_)
      refine am_iload_n (pc := 14) C d_Plan_isOver_14 rfl rfl ?_
      refine am_aald (pc := 15) C d_Plan_isOver_15 hX (fun b3 hX => ?_)
      refine am_callVi (pc := 16) (As := []) (st := []) (cells1 := 0) (slots1 := 0) C (fun _ h => h.2) (fun _ h => by cases h.1) (fun q h => c_Activity_isRunning h) wd_3_181 wd_2_72 wd_2_73 wd_1_8 wd_2_74 rfl rfl hd_Activity_isRunning ⟨by decide, by decide⟩ rfl rfl (Nat.le_of_ble_eq_true rfl) d_Plan_isOver_16 ⟨by decide, by decide⟩ rfl rfl rfl hX (fun q4 hX => ?_)
      refine am_if_ne (pc := 19) (tgt := 34) C d_Plan_isOver_19 rfl hX (fun hX => ?_) (fun hX => ?_)
      · skip
        refine am_iconst (pc := 34) (v := (0 : Int32)) C d_Plan_isOver_34 (by decide) ?_
        exact am_iret (pc := 35) C hret hlk d_Plan_isOver_35 am_n0 (by decide) (by decide) hX
      · skip
        refine am_aload_n (pc := 22) C d_Plan_isOver_22 rfl rfl ?_
        refine am_getr (pc := 23) C hin_Plan rfl (by decide) wd_1_232 rfl d_Plan_isOver_23 rfl hX (fun b5 hX => ?_)
        refine am_iload_n (pc := 26) C d_Plan_isOver_26 rfl rfl ?_
        refine am_aald (pc := 27) C d_Plan_isOver_27 hX (fun b6 hX => ?_)
        refine am_callVi (pc := 28) (As := []) (st := []) (cells1 := 0) (slots1 := 0) C (fun _ h => h.2) (fun _ h => by cases h.1) (fun q h => c_Activity_isWaiting h) wd_3_136 wd_3_137 wd_3_138 wd_1_8 wd_3_139 rfl rfl hd_Activity_isWaiting ⟨by decide, by decide⟩ rfl rfl (Nat.le_of_ble_eq_true rfl) d_Plan_isOver_28 ⟨by decide, by decide⟩ rfl rfl rfl hX (fun q7 hX => ?_)
        refine am_if_eq (pc := 31) (tgt := 36) C d_Plan_isOver_31 rfl hX (fun hX => ?_) (fun hX => ?_)
        · skip
          refine am_iinc (pc := 36) (y := (1 : Int32)) (lo1 := [some (.ref v0), some (.int (v1 + (1 : Int32)))]) C d_Plan_isOver_36 rfl (by decide) (by decide) rfl ?_
          refine am_goto (pc := 39) (tgt := 2) C d_Plan_isOver_39 rfl ?_
          exact (hk2 v0 (v1 + (1 : Int32)) q7.2 hX)
        · skip
          refine am_iconst (pc := 34) (v := (0 : Int32)) C d_Plan_isOver_34 (by decide) ?_
          exact am_iret (pc := 35) C hret hlk d_Plan_isOver_35 am_n0 (by decide) (by decide) hX
def f_Plan_isOver (a0 : Nat) (w : am_w) : Option (Int32 × am_w) := (f_Plan_isOver_2  70 a0 (0 : Int32) w)
theorem hd_Plan_isOver : y_Plan_isOver.cls = "RoverMinutes$Plan" ∧ y_Plan_isOver.cls ≠ "java/lang/invoke/MethodHandle" ∧ y_Plan_isOver.cls ≠ "java/lang/invoke/VarHandle" ∧ (parseMethodDescriptor y_Plan_isOver.desc).map (fun d => d.parameters.length) = some 0 := ⟨rfl, by decide, by decide, by decide +kernel⟩
set_option maxHeartbeats 4000000 in
theorem c_Plan_isOver {l : Launch} {D : va_G} {A : Nat → Prop} {a0 : Nat} {w : am_w} {r : Int32 × am_w} (hX : f_Plan_isOver a0 w = some r) : am_Met l D classes tys A (am_F A false) y_Plan_isOver (Cond.code y_Plan_isOver b_Plan_isOver 2 (some .boolean) :: am_W) rm_Plan_isOver [.ref a0] w (am_ri r) 0 0 := by
  refine am_ofV (by decide) am_W_good (Nat.le_of_ble_eq_true rfl) (by simp [Value.category]) ?_
  intro p e s m below meth c C hret hlk hnm
  unfold f_Plan_isOver at hX
  refine am_iconst (pc := 0) (v := (0 : Int32)) C d_Plan_isOver_0 (by decide) ?_
  refine am_istore_n (pc := 1) (lo1 := [some (.ref a0), some (.int (0 : Int32))]) C d_Plan_isOver_1 rfl (by decide) rfl ?_
  exact (L_Plan_isOver_2 C hret hlk  70 a0 (0 : Int32) w hX)
