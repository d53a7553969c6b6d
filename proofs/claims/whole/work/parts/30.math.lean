def rm_floorMod : Room := { frames := 0, cells := 0, slots := 0, locals := 0 }
def f_floorMod (a0 : Int32) (a1 : Int32) (w : am_w) : Option (Int32 × am_w) := (if a1 = 0 then none else (if 0 ≤ (a0 ^^^ a1) then (some ((a0 - a0 / a1 * a1), w)) else (if (a0 - a0 / a1 * a1) = 0 then (some ((a0 - a0 / a1 * a1), w)) else (some (((a0 - a0 / a1 * a1) + a1), w)))))
theorem hd_floorMod : y_floorMod.cls ≠ "java/lang/invoke/MethodHandle" ∧ y_floorMod.cls ≠ "java/lang/invoke/VarHandle" ∧ (parseMethodDescriptor y_floorMod.desc).map (fun d => d.parameters.length) = some 2 := ⟨by decide, by decide, by decide +kernel⟩
set_option maxHeartbeats 4000000 in
theorem c_floorMod {l : Launch} {D : va_G} {A : Nat → Prop} {a0 : Int32} {a1 : Int32} {w : am_w} {r : Int32 × am_w} (hX : f_floorMod a0 a1 w = some r) : am_Met l D classes tys A (am_F A false) y_floorMod (Cond.code y_floorMod b_floorMod 3 (some .int) :: am_W) rm_floorMod [.int a0, .int a1] w (am_ri r) 0 0 := by
  refine am_ofVF (by decide +kernel) am_W_good (Nat.le_of_ble_eq_true rfl) (by simp [Value.category]) ?_
  intro p e s m below meth c C hret hlk hnm
  unfold f_floorMod at hX
  refine am_iload_n (pc := 0) C d_floorMod_0 rfl rfl ?_
  refine am_iload_n (pc := 1) C d_floorMod_1 rfl rfl ?_
  refine am_iremc (pc := 2) C d_floorMod_2 hX (fun hX => ?_)
  refine am_istore_n (pc := 3) (lo1 := [some (.int a0), some (.int a1), some (.int (a0 - a0 / a1 * a1))]) C d_floorMod_3 rfl (by decide) rfl ?_
  refine am_iload_n (pc := 4) C d_floorMod_4 rfl rfl ?_
  refine am_iload_n (pc := 5) C d_floorMod_5 rfl rfl ?_
  refine am_ixor (pc := 6) C d_floorMod_6 ?_
  refine am_if_ge (pc := 7) (tgt := 18) C d_floorMod_7 rfl hX (fun hX => ?_) (fun hX => ?_)
  · skip
    refine am_iload_n (pc := 18) C d_floorMod_18 rfl rfl ?_
    exact am_iret (pc := 19) C hret hlk d_floorMod_19 rfl (by decide) (by decide) hX
  · skip
    refine am_iload_n (pc := 10) C d_floorMod_10 rfl rfl ?_
    refine am_if_eq (pc := 11) (tgt := 18) C d_floorMod_11 rfl hX (fun hX => ?_) (fun hX => ?_)
    · skip
      refine am_iload_n (pc := 18) C d_floorMod_18 rfl rfl ?_
      exact am_iret (pc := 19) C hret hlk d_floorMod_19 rfl (by decide) (by decide) hX
    · skip
      refine am_iload_n (pc := 14) C d_floorMod_14 rfl rfl ?_
      refine am_iload_n (pc := 15) C d_floorMod_15 rfl rfl ?_
      refine am_iadd (pc := 16) C d_floorMod_16 ?_
      exact am_iret (pc := 17) C hret hlk d_floorMod_17 rfl (by decide) (by decide) hX
