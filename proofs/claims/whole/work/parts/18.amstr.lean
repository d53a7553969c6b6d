section AMS
variable {p : Program} {l : Launch} {e : Env} {R : Room} {s : State} {m : MethodId} {args : Array Value} {below : List Frame} {meth : Method} {c : Code} {cells slots : Nat} {Q : State → Prop}
variable {cc : ByteArray} {own : String} {Ts : List Cond} {nL : Nat} {D : va_G} {cl : List vw_C} {ty : Nat → Nat → FieldType} {A F : Nat → Prop}
variable {pc : Nat} {lo : List (Option Value)} {st : List Value} {w : am_w}
/-! the text constant -/
theorem am_zone {H0 H : Heap} {locs : List Loc} (hFA : ∀ q, F q → A q) (h : va_S F H0 H locs) : va_S A H0 H locs := ⟨h.1, fun q h1 h2 => h.2.1 q h1 (fun z => h2 (hFA q z)), fun q hq => hFA _ (h.2.2 q hq)⟩
theorem am_ldcK (C : am_C p m c cc nL s args Ts own D cl A) (how : own = "RoverMinutes$PlanReader") (hdg : decode cc pc = .ok (.ldc 64, 2)) (k : am_V p l e R s m args below meth c D cl ty A F nL cells slots Q (pc + 2) lo (.ref (D.1 1000) :: st) w) : am_V p l e R s m args below meth c D cl ty A F nL cells slots Q pc lo st w := fun H locs ls hR hS hL =>
  va_ldcS C.1.1 C.1.2.1 C.1.2.2.2.1 (by rw [how]; exact C.2.2.2.2.2.2.1) hdg (k H locs ls hR hS hL)
theorem am_getKv (C : am_C p m c cc nL s args Ts own D cl A) (hFA : ∀ q, F q → A q) {index : Nat} (hlink : Cond.fieldLink own index "java/lang/String" "value" "[B" ∈ Ts) (hdg : decode cc pc = .ok (.getfield index, 3)) (k : am_V p l e R s m args below meth c D cl ty A F nL cells slots Q (pc + 3) lo (.ref (D.1 1001) :: st) w) : am_V p l e R s m args below meth c D cl ty A F nL cells slots Q pc lo (.ref (D.1 1000) :: st) w := fun H locs ls hR hS hL =>
  vk_getf C.1.1 C.1.2.1 (C.2.2.2.2.2.2.2.1.1 0 (by decide)).2.2.1 (am_zone hFA hS) C.1.2.2.2.1 (C.1.2.2.2.2 _ hlink) (fun _ h => h) hdg (k H locs ls hR hS hL)
theorem am_getKc (C : am_C p m c cc nL s args Ts own D cl A) (hFA : ∀ q, F q → A q) {index : Nat} (hlink : Cond.fieldLink own index "java/lang/String" "coder" "B" ∈ Ts) (hdg : decode cc pc = .ok (.getfield index, 3)) (k : am_V p l e R s m args below meth c D cl ty A F nL cells slots Q (pc + 3) lo (.int 0 :: st) w) : am_V p l e R s m args below meth c D cl ty A F nL cells slots Q pc lo (.ref (D.1 1000) :: st) w := fun H locs ls hR hS hL =>
  vk_getf C.1.1 C.1.2.1 (C.2.2.2.2.2.2.2.1.1 0 (by decide)).2.1 (am_zone hFA hS) C.1.2.2.2.1 (C.1.2.2.2.2 _ hlink) (fun _ h => h) hdg (k H locs ls hR hS hL)
theorem am_getsK (C : am_C p m c cc nL s args Ts own D cl A) (hFA : ∀ q, F q → A q) {index : Nat} (hlink : Cond.fieldLink own index "java/lang/String" "COMPACT_STRINGS" "Z" ∈ Ts) (hdg : decode cc pc = .ok (.getstatic index, 3)) (k : am_V p l e R s m args below meth c D cl ty A F nL cells slots Q (pc + 3) lo (.int 1 :: st) w) : am_V p l e R s m args below meth c D cl ty A F nL cells slots Q pc lo st w := fun H locs ls hR hS hL =>
  va_gets C.1.1 C.1.2.1 C.2.2.2.2.2.2.2.2 (am_zone hFA hS) C.1.2.2.2.1 (C.1.2.2.2.2 _ hlink) (fun _ h => h) hdg (k H locs ls hR hS hL)
theorem am_alenK (C : am_C p m c cc nL s args Ts own D cl A) (hFA : ∀ q, F q → A q) (hdg : decode cc pc = .ok (.arraylength, 1)) (k : am_V p l e R s m args below meth c D cl ty A F nL cells slots Q (pc + 1) lo (.int 5 :: st) w) : am_V p l e R s m args below meth c D cl ty A F nL cells slots Q pc lo (.ref (D.1 1001) :: st) w := fun H locs ls hR hS hL =>
  va_tlen C.1.1 C.1.2.1 (C.2.2.2.2.2.2.2.1.1 0 (by decide)).2.2.2 (am_zone hFA hS) (v := 5) (by decide) hdg (k H locs ls hR hS hL)
def am_bg (i : Int32) : Option Int32 := if i < 0 ∨ 5 ≤ i.toNatClampNeg then none else some (am_by.getD i.toNatClampNeg 0)
theorem am_baldK (C : am_C p m c cc nL s args Ts own D cl A) (hFA : ∀ q, F q → A q) {i : Int32} (hdg : decode cc pc = .ok (.baload, 1)) {β : Type} {K9 : Int32 → Option β} {r : β} (hX : (am_bg i).bind K9 = some r) (k : ∀ x, K9 x = some r → am_V p l e R s m args below meth c D cl ty A F nL cells slots Q (pc + 1) lo (.int x :: st) w) : am_V p l e R s m args below meth c D cl ty A F nL cells slots Q pc lo (.int i :: .ref (D.1 1001) :: st) w := by
  obtain ⟨x, h1, h2⟩ := am_bind hX
  unfold am_bg at h1
  split at h1
  · cases h1
  · rename_i hin
    cases h1
    exact fun H locs ls hR hS hL => va_tb C.1.1 C.1.2.1 (C.2.2.2.2.2.2.2.1.1 0 (by decide)).2.2.2 (am_zone hFA hS) hin rfl hdg (k _ h2 H locs ls hR hS hL)
theorem am_callK (C : am_C p m c cc nL s args Ts own D cl A) (hFA : ∀ q, F q → A q) {G : Nat → Prop} (hG9 : ∀ q, G q → F q) {y : MethodName} {rm : Room} {As : List Value} {mc ms index n maxL : Nat} {bytes : ByteArray} {rt : FieldType} {f : Option (Int32 × am_w)} {β : Type} {K9 : Int32 × am_w → Option β} {r : β}
    (hM : ∀ q, f = some q → am_Met l D cl ty A G y (Cond.code y bytes maxL (some rt) :: Ts) rm (.ref (D.1 1000) :: As) w (am_ri q) mc ms) (m1 : Cond.methodLink own index y ∈ Ts) (i1 : Cond.instanceMethod y ∈ Ts) (s1 : Cond.selects "java/lang/String" y y ∈ Ts) (n1 : Cond.initialized "java/lang/String" ∈ Ts) (c1 : Cond.code y bytes maxL (some rt) ∈ Ts) (hrc : rm.cells = mc) (hrs : rm.slots = ms)
    (hd : y.cls = "java/lang/String" ∧ y.cls ≠ "java/lang/invoke/MethodHandle" ∧ y.cls ≠ "java/lang/invoke/VarHandle" ∧ (parseMethodDescriptor y.desc).map (fun d => d.parameters.length) = some n) (hRm : rm.frames + 1 ≤ R.frames ∧ 8 + (maxL + 11) + rm.locals ≤ R.locals)
    (hn : As.length = n) (hcat : (st.map fun v => v.category).sum ≤ 8) (hdg : decode cc pc = .ok (.invokevirtual index, 3)) (hf : cells + mc ≤ R.cells ∧ slots + ms ≤ R.slots) {cells1 slots1 : Nat} (hc1 : cells + mc = cells1) (hs1 : slots + ms = slots1) {st0 : List Value} (hst : st0 = As.reverse ++ .ref (D.1 1000) :: st) (hX : f.bind K9 = some r) (kk : ∀ q : Int32 × am_w, K9 q = some r → am_V p l e R s m args below meth c D cl ty A F nL cells1 slots1 Q (pc + 3) lo (.int q.1 :: st) q.2) : am_V p l e R s m args below meth c D cl ty A F nL cells slots Q pc lo st0 w := by
  obtain ⟨q, hX1, hX2⟩ := am_bind hX
  subst hst
  subst hc1
  subst hs1
  intro H locs ls hR hS hL
  have hrecv := vk_recv (i := 0) C.2.2.2.2.2.2.2.1 (by decide) (am_zone hFA hS)
  exact am_goon (va_runV (As := As) (rest := st) C.1 (hM q hX1) (cwV n C.1.2.2.2.2 (am_goodV C.2.2.2.1 m1 i1 s1 n1 c1) rfl hrc hrs hd hRm) ⟨am_blind, hrecv, fun U hU hW => am_start C hFA hR hS hU hW⟩ rfl hn hL.1.1 rfl (lv_room hcat) hdg hf) hG9 hS hL (fun v w1 h => by obtain ⟨h1, h2⟩ := h; subst h1; subst h2; exact kk q hX2)
end AMS
