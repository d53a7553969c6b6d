section AMB
variable {s : State} {sb : Nat}
theorem st_in {w : Cond} (hts : ∀ w ∈ lw_tbl, w.before #[Value.ref sb] s = true) (h : w ∈ lw_tbl) : w.before #[Value.ref sb] s = true := hts w h
theorem st_NC (h : (Jvm.Cond.and given_1 narrow_1).before #[Value.ref sb] s = true) : am_NC s := by
  have hs := flat_of_before _ h
  intro i j h1 h2 h3 h4 h5
  have hi : i = 1 ∨ i = 2 ∨ i = 3 := by omega
  have hj : j = 1 ∨ j = 2 ∨ j = 3 := by omega
  rcases hi with rfl | rfl | rfl <;> rcases hj with rfl | rfl | rfl
  all_goals first
    | exact absurd rfl h5
    | exact va_Nc.of (hs _ (by decide +kernel))
theorem st_Z (hts : ∀ w ∈ lw_tbl, w.before #[Value.ref sb] s = true) (h : (Jvm.Cond.and given_1 narrow_1).before #[Value.ref sb] s = true) : am_Z s :=
  ⟨va_AO.of (A := #[Value.ref sb]) (hts _ (List.mem_append_right _ (am_run_1 (List.mem_of_getElem? (i := 135) rfl)))),
   va_Nw.of (A := #[Value.ref sb]) rfl (hts _ (List.mem_append_right _ (am_run_1 (List.mem_of_getElem? (i := 137) rfl)))),
   fun w hw => Cond.tabsOnly_warm (args := #[Value.ref sb]) (args' := #[]) (s := s) (T := s) (State.WarmedH.refl s) w (List.mem_filter.mp hw).2 (hts w (List.mem_filter.mp hw).1), st_NC h⟩
theorem st_T (h : (Jvm.Cond.and given_1 narrow_1).before #[Value.ref sb] s = true) {A : Nat → Prop} (hA : ∀ a : Nat, a < s.heap.size → ¬ A a) : ∃ adK adV : Nat → Nat, vk_S 1 [5] [am_by] adK adV A s s.heap ∧ ∀ i : Nat, i < 1 → (Term.string "RoverMinutes$PlanReader" 64).eval #[Value.ref sb] s none [] s = some (.ref (adK i)) := by
  have hs := flat_of_before _ h
  refine vk_Sof (args := #[Value.ref sb]) (N := 1) (tm := fun _ => .string "RoverMinutes$PlanReader" 64) (len := [5]) (byt := [am_by]) ?_ ?_ ?_ ?_ ?_ ?_ ?_ hA
  · intro i hi
    have : i = 0 := by omega
    subst this
    decide
  · exact fun i hi => hs _ (by decide +kernel)
  · exact fun i hi => hs _ (by decide +kernel)
  · exact fun i hi => hs _ (by decide +kernel)
  · intro i hi
    have : i = 0 := by omega
    subst this
    exact hs _ (by decide +kernel)
  · intro i hi j hj
    have : i = 0 := by omega
    subst this
    have hj5 : j < 5 := hj
    have hj' : j = 0 ∨ j = 1 ∨ j = 2 ∨ j = 3 ∨ j = 4 := by omega
    rcases hj' with rfl | rfl | rfl | rfl | rfl <;> exact hs _ (by decide +kernel)
  · intro i j hi hj hne
    exact absurd (by omega) hne
theorem st_K (hts : ∀ w ∈ lw_tbl, w.before #[Value.ref sb] s = true) (kS kV : Nat) : ∃ D : va_G, va_K D classes [] s ∧ D.1 1000 = kS ∧ D.1 1001 = kV := by
  have hW : ∀ w ∈ am_W, w.before #[Value.ref sb] s = true := fun w hw => hts w (List.mem_filter.mp hw).1
  obtain ⟨c0, i0, h0⟩ := u_known hW hin_Rm (hW _ wd_1_22)
  obtain ⟨c1, i1, h1⟩ := u_known hW hin_Line (hW _ wd_1_30)
  obtain ⟨c2, i2, h2⟩ := u_known hW hin_PlanReader (hW _ wd_1_46)
  obtain ⟨c3, i3, h3⟩ := u_known hW hin_Supply (hW _ wd_1_59)
  obtain ⟨c4, i4, h4⟩ := u_known hW hin_Envelope (hW _ wd_1_110)
  obtain ⟨c5, i5, h5⟩ := u_known hW hin_Plan (hW _ wd_1_129)
  obtain ⟨c6, i6, h6⟩ := u_known hW hin_Activity (hW _ wd_1_136)
  obtain ⟨c7, i7, h7⟩ := u_known hW hin_Mo (hW _ wd_4_95)
  refine ⟨(fun j => if j = 0 then c0 else if j = 1 then c1 else if j = 2 then c2 else if j = 3 then c3 else if j = 4 then c4 else if j = 5 then c5 else if j = 6 then c6 else if j = 7 then c7 else if j = 1000 then kS else kV, fun j => if j = 0 then i0 else if j = 1 then i1 else if j = 2 then i2 else if j = 3 then i3 else if j = 4 then i4 else if j = 5 then i5 else if j = 6 then i6 else i7), ⟨?_, ?_⟩, rfl, rfl⟩
  · intro j q hq
    match j, hq with
    | 0, hq => cases hq; exact h0
    | 1, hq => cases hq; exact h1
    | 2, hq => cases hq; exact h2
    | 3, hq => cases hq; exact h3
    | 4, hq => cases hq; exact h4
    | 5, hq => cases hq; exact h5
    | 6, hq => cases hq; exact h6
    | 7, hq => cases hq; exact h7
    | j + 8, hq => cases hq
  · intro k q hq; cases hq
theorem st_Y (hts : ∀ w ∈ lw_tbl, w.before #[Value.ref sb] s = true) (h : (Jvm.Cond.and given_1 narrow_1).before #[Value.ref sb] s = true) {A : Nat → Prop} (hA : ∀ a : Nat, a < s.heap.size → ¬ A a) {D : va_G} {adK adV : Nat → Nat} (hT : vk_S 1 [5] [am_by] adK adV A s s.heap) (hev : ∀ i : Nat, i < 1 → (Term.string "RoverMinutes$PlanReader" 64).eval #[Value.ref sb] s none [] s = some (.ref (adK i))) (h1 : D.1 1000 = adK 0) (h2 : D.1 1001 = adV 0) : am_Y D A s s.heap := by
  have hs := flat_of_before _ h
  refine ⟨⟨am_Y1.of (hts _ (List.mem_append_right _ (am_run_2 (List.mem_of_getElem? (i := 136) rfl)))) (hs _ (by decide +kernel)) hA, am_Y1.of (hts _ (List.mem_append_right _ (am_run_2 (List.mem_of_getElem? (i := 138) rfl)))) (hs _ (by decide +kernel)) hA⟩, ?_, ?_, ?_⟩
  · rw [h1]
    exact vk_R.of (A := #[Value.ref sb]) (hts _ (List.mem_append_right _ (am_run_2 (List.mem_of_getElem? (i := 231) rfl)))) (hev 0 (by decide))
  · refine ⟨fun i hi => ?_, fun i j hi hj _ => by omega⟩
    have : i = 0 := by omega
    subst this
    rw [h1, h2]
    exact hT.1 0 (by decide)
  · exact va_Zof (hts _ (List.mem_append_right _ (am_run_3 (List.mem_of_getElem? (i := 5) rfl)))) (hts _ (List.mem_append_right _ (am_run_1 (List.mem_of_getElem? (i := 15) rfl)))) (va_eqi (hs _ (by decide +kernel))) hA
end AMB
/-- the world at the law's entry: nothing -/
def st_w (z : Nat) : am_w := (z, fun _ => none, fun _ _ => 0, fun _ _ => none)
theorem whole_from {p : Program} {e : Env} {s : State} {m : MethodId} {below : List Frame} {meth : Method} {c : Code} (l : Launch) (hl : l.stackTraces = false) {b L : Nat} {xs : Nat → Int32} (C0 : lw_At p s m meth c b L xs) (hlaw : ∃ w1, f_La_law L xs (st_w s.heap.size) = some (1, w1)) : W p l e room_1 s m #[Value.ref b] below meth c s.heap [] 0 0 (lw_Z below #[Value.ref b] s) (entryFrame m ([Value.ref b] : List Value).toArray 7) := by
  obtain ⟨hx, hb, hret, hml, hown, hts, hsc, hbl, hlk, hgv⟩ := C0
  obtain ⟨w1, hlaw⟩ := hlaw
  have hA : ∀ a : Nat, a < s.heap.size → ¬ (fun q : Nat => s.heap.size ≤ q) a := fun a h1 h2 => absurd h2 (by omega)
  obtain ⟨adK, adV, hT, hev⟩ := st_T hgv hA
  obtain ⟨D, hK, hd1, hd2⟩ := st_K hts (adK 0) (adV 0)
  have C : am_C p m c code 7 s #[Value.ref b] am_W "RoverMinutesLaw" D classes (fun q => s.heap.size ≤ q) := ⟨⟨hx, hb, hml, hown, fun w hw => hts w (List.mem_filter.mp hw).1⟩, hK, fun q h => h, am_W_good, st_Z hts hgv, st_Y hts hgv hA hT hev hd1 hd2⟩
  have hV := c_La_law (l := l) (e := e) (below := below) (meth := meth) (r := (1, w1)) C hl hret hlk (fun q h => h) hsc hbl rfl hlaw
  rw [lg_entry_eq]
  exact hV s.heap [] _ ⟨rfl, fun a e he => by cases he⟩ va_S.rf ((am_ls.entry [Value.ref b] (Nat.le_of_ble_eq_true rfl) (by simp [Value.category])).sub (fun i v h => by
    match i, h with
    | 0, h => exact h
    | 1, h => cases h
    | 2, h => cases h
    | 3, h => cases h
    | 4, h => cases h
    | 5, h => cases h
    | 6, h => cases h
    | i + 7, h => cases h))
