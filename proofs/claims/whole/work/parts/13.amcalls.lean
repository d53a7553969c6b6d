section AMC
variable {p : Program} {l : Launch} {e : Env} {R : Room} {s : State} {m : MethodId} {args : Array Value} {below : List Frame} {meth : Method} {c : Code} {cells slots : Nat} {Q : State → Prop}
variable {cc : ByteArray} {own : String} {Ts : List Cond} {nL : Nat} {D : va_G} {cl : List vw_C} {ty : Nat → Nat → FieldType} {A F : Nat → Prop}
variable {pc : Nat} {lo : List (Option Value)} {st : List Value} {w : am_w} {a : Nat}
/-- a contract's start: these arguments, this world -/
def am_P (D : va_G) (cl : List vw_C) (ty : Nat → Nat → FieldType) (A : Nat → Prop) (av : List Value) (w : am_w) : Array Value → State → Prop :=
  va_Pc av (fun U => am_rep D cl ty A U w U.heap ∧ va_K D cl [] U ∧ (∀ q, U.heap.size ≤ q → A q) ∧ am_Z U ∧ am_Y D A U U.heap)
/-- its end: the answer and the world behind it -/
def am_Q (D : va_G) (cl : List vw_C) (ty : Nat → Nat → FieldType) (A G : Nat → Prop) (post : Option Value → am_w → Prop) : Array Value → State → Outcome → State → Prop := fun _ st o t =>
  (∃ (v : Option Value) (w : am_w), o = .returned v ∧ post v w ∧ am_rep D cl ty A t w t.heap) ∧ va_F G st t
abbrev am_Met (l : Launch) (D : va_G) (cl : List vw_C) (ty : Nat → Nat → FieldType) (A G : Nat → Prop) (y : MethodName) (ws : List Cond) (rm : Room) (av : List Value) (w : am_w) (post : Option Value → am_w → Prop) (mc ms : Nat) : Prop :=
  Met l y ws rm (am_P D cl ty A av w) (am_Q D cl ty A G post) mc ms G
theorem am_blind {av : List Value} : FrameBlind (am_P D cl ty A av w) := fun a9 U g mk q =>
  ⟨q.1, am_rep.moved (u := U) (U := U.calling g mk a9) (Vm.Alike.refl U.vm) q.2.1, va_K.moved (u := U) (U := U.calling g mk a9) (Vm.Alike.refl U.vm) q.2.2.1, q.2.2.2.1, am_Z.same (u := U) (U := U.calling g mk a9) rfl q.2.2.2.2.1, am_Y.same (u := U) (U := U.calling g mk a9) q.2.2.2.2.2 rfl⟩
/-- what a call's start asks, out of the world at hand -/
theorem am_start (C : am_C p m c cc nL s args Ts own D cl A) (hFA : ∀ q, F q → A q) {H : Heap} {locs : List Loc} (hR : am_rep D cl ty A s w H) (hS : va_S F s.heap H locs) {av : List Value} {U : State} (hU : U.heap = H) (hW : s.WarmedH U.vm) : am_P D cl ty A av w av.toArray U :=
  ⟨rfl, by rw [hU]; exact hR.moved hW.alike, va_K.moved hW.alike C.2.1, fun q hq => C.2.2.1 q (Nat.le_trans hS.1 (by rw [← hU]; exact hq)), C.2.2.2.2.1.warm hW, by rw [hU]; exact (C.2.2.2.2.2.kept (fun a h1 h2 => hS.2.1 a h1 (fun z => h2 (hFA a z)))).warm hW⟩
/-- behind a call: whatever the contract says of answer and world -/
theorem am_goon {G : Nat → Prop} {mc ms : Nat} {H : Heap} {locs : List Loc} {ls : Array Slot} {st0 rest : List Value} {post : Option Value → am_w → Prop} {a9 : Array Value}
    (hr9 : va_Run p l e R s m args below meth c H locs cells slots mc ms (F0 m pc ls st0) rest (am_Q D cl ty A G post a9) G) (hG : ∀ q, G q → F q) (hS : va_S F s.heap H locs) (hL : am_ls ls nL lo)
    (kk : ∀ (v : Option Value) (w1 : am_w), post v w1 → am_V p l e R s m args below meth c D cl ty A F nL (cells + mc) (slots + ms) Q (pc + 3) lo (v.toList ++ rest) w1) : W p l e R s m args below meth c H locs cells slots Q (F0 m pc ls st0) := by
  intro T hT X
  obtain ⟨v, st₀, t, T', L, h0, X', hL', e1, e2, ⟨⟨v', w', hv, hp, hrep⟩, hz, hk⟩, go⟩ := hr9 T hT X
  cases hv
  rw [h0] at hz hk
  have hal : t.vm.Alike s.vm := by rw [← e2]; exact X'.warmed.alike.symm
  obtain ⟨t2, a1, b1⟩ := kk v w' hp T'.heap (locs ++ L) ls (by rw [e1]; exact hrep.moved hal)
    ⟨Nat.le_trans hS.1 (by rw [e1]; exact hz), fun q h1 h2 => by rw [e1, hk q (Nat.lt_of_lt_of_le h1 hS.1) (fun z => h2 (hG q z))]; exact hS.2.1 q h1 h2, fun q hq => (List.mem_append.mp hq).elim (fun h => hS.2.2 q h) (fun h => hG _ (hL' q h))⟩ hL T' rfl X'
  exact ⟨t2, go t2 a1, b1⟩
/-- the words of a call, out of one list of good words -/
theorem am_good {Tw ws : List Cond} (hall : ∀ w ∈ Tw, goodWord w = true) (h : ∀ w ∈ ws, w ∈ Tw) : GoodIn Tw ws := fun w hw => ⟨h w hw, good_of_word (hall w (h w hw))⟩
theorem am_goodV {Tw : List Cond} {own9 K : String} {index maxL : Nat} {y : MethodName} {bytes : ByteArray} {ret : Option FieldType} (hall : ∀ w ∈ Tw, goodWord w = true) (h1 : Cond.methodLink own9 index y ∈ Tw) (h2 : Cond.instanceMethod y ∈ Tw) (h3 : Cond.selects K y y ∈ Tw) (h4 : Cond.initialized K ∈ Tw) (h5 : Cond.code y bytes maxL ret ∈ Tw) : GoodIn Tw (wsV own9 index K y (Cond.code y bytes maxL ret :: Tw)) := by
  refine am_good hall (fun w hw => ?_)
  simp only [wsV, List.cons_append, List.nil_append, List.mem_cons] at hw
  rcases hw with rfl | rfl | rfl | rfl | rfl | hw
  · exact h1
  · exact h2
  · exact h3
  · exact h4
  · exact h5
  · exact hw
theorem am_goodS {Tw : List Cond} {own9 : String} {index maxL : Nat} {y : MethodName} {bytes : ByteArray} {ret : Option FieldType} (hall : ∀ w ∈ Tw, goodWord w = true) (h1 : Cond.methodLink own9 index y ∈ Tw) (h2 : Cond.static y ∈ Tw) (h4 : Cond.initialized y.cls ∈ Tw) (h5 : Cond.code y bytes maxL ret ∈ Tw) : GoodIn Tw (va_wsS own9 index y (Cond.code y bytes maxL ret :: Tw)) := by
  refine am_good hall (fun w hw => ?_)
  simp only [va_wsS, List.cons_append, List.nil_append, List.mem_cons] at hw
  rcases hw with rfl | rfl | rfl | rfl | hw
  · exact h1
  · exact h2
  · exact h4
  · exact h5
  · exact hw
theorem am_goodI {Tw : List Cond} {y : MethodName} {bytes : ByteArray} {maxL : Nat} {ret : Option FieldType} (hall : ∀ w ∈ Tw, goodWord w = true) (h5 : Cond.code y bytes maxL ret ∈ Tw) : GoodIn Tw (Cond.code y bytes maxL ret :: Tw) := by
  refine am_good hall (fun w hw => ?_)
  rcases List.mem_cons.mp hw with rfl | hw
  · exact h5
  · exact hw
/-- the forms of an end: an int, nothing -/
def am_ri (r : Int32 × am_w) : Option Value → am_w → Prop := fun v w => v = some (.int r.1) ∧ w = r.2
def am_rv (r : Int32 × am_w) : Option Value → am_w → Prop := fun v w => v = none ∧ w = r.2
theorem am_callVi (C : am_C p m c cc nL s args Ts own D cl A) (hFA : ∀ q, F q → A q) {G : Nat → Prop} (hG9 : ∀ q, G q → F q) {y : MethodName} {rm : Room} {As : List Value} {mc ms index n N ci b maxL : Nat} {K : String} {T : u_T} {bytes : ByteArray} {rt : FieldType} {f : Option (Int32 × am_w)} {β : Type} {K9 : Int32 × am_w → Option β} {r : β}
    (hM : ∀ q, f = some q → am_Met l D cl ty A G y (Cond.code y bytes maxL (some rt) :: Ts) rm (.ref b :: As) w (am_ri q) mc ms) (m1 : Cond.methodLink own index y ∈ Ts) (i1 : Cond.instanceMethod y ∈ Ts) (s1 : Cond.selects K y y ∈ Ts) (n1 : Cond.initialized K ∈ Ts) (c1 : Cond.code y bytes maxL (some rt) ∈ Ts) (hrc : rm.cells = mc) (hrs : rm.slots = ms)
    (hd : y.cls = K ∧ y.cls ≠ "java/lang/invoke/MethodHandle" ∧ y.cls ≠ "java/lang/invoke/VarHandle" ∧ (parseMethodDescriptor y.desc).map (fun d => d.parameters.length) = some n) (hRm : rm.frames + 1 ≤ R.frames ∧ 8 + (maxL + 11) + rm.locals ≤ R.locals)
    (hc : cl[ci]? = some (K, T, N)) (hn : As.length = n) (hcat : (st.map fun v => v.category).sum ≤ 8) (hdg : decode cc pc = .ok (.invokevirtual index, 3)) (hf : cells + mc ≤ R.cells ∧ slots + ms ≤ R.slots) {cells1 slots1 : Nat} (hc1 : cells + mc = cells1) (hs1 : slots + ms = slots1) {st0 : List Value} (hst : st0 = As.reverse ++ .ref b :: st) (hX : (am_ob ci b w f).bind K9 = some r) (kk : ∀ q : Int32 × am_w, K9 q = some r → am_V p l e R s m args below meth c D cl ty A F nL cells1 slots1 Q (pc + 3) lo (.int q.1 :: st) q.2) : am_V p l e R s m args below meth c D cl ty A F nL cells slots Q pc lo st0 w := by
  obtain ⟨q, hX0, hX2⟩ := am_bind hX
  obtain ⟨hsh, hX1⟩ := am_ob_of hX0
  subst hst
  subst hc1
  subst hs1
  intro H locs ls hR hS hL
  have hrecv : ∃ cellB : Cell, H[b]? = some cellB ∧ cellB.vm.isStatics = false ∧ s.vm.findClass K = some cellB.cls := by
    obtain ⟨cell, q1, q2, q3, -⟩ := (hR.2 b _ hsh).2.obj hc
    exact ⟨cell, q1, by rw [q3]; rfl, by rw [q2]; exact (C.2.1.1 ci _ hc).2.1⟩
  exact am_goon (va_runV (As := As) (rest := st) C.1 (hM q hX1) (cwV n C.1.2.2.2.2 (am_goodV C.2.2.2.1 m1 i1 s1 n1 c1) rfl hrc hrs hd hRm) ⟨am_blind, hrecv, fun U hU hW => am_start C hFA hR hS hU hW⟩ rfl hn hL.1.1 rfl (lv_room hcat) hdg hf) hG9 hS hL (fun v w1 h => by obtain ⟨h1, h2⟩ := h; subst h1; subst h2; exact kk q hX2)
theorem am_callVv (C : am_C p m c cc nL s args Ts own D cl A) (hFA : ∀ q, F q → A q) {G : Nat → Prop} (hG9 : ∀ q, G q → F q) {y : MethodName} {rm : Room} {As : List Value} {mc ms index n N ci b maxL : Nat} {K : String} {T : u_T} {bytes : ByteArray} {f : Option (Int32 × am_w)} {β : Type} {K9 : Int32 × am_w → Option β} {r : β}
    (hM : ∀ q, f = some q → am_Met l D cl ty A G y (Cond.code y bytes maxL none :: Ts) rm (.ref b :: As) w (am_rv q) mc ms) (m1 : Cond.methodLink own index y ∈ Ts) (i1 : Cond.instanceMethod y ∈ Ts) (s1 : Cond.selects K y y ∈ Ts) (n1 : Cond.initialized K ∈ Ts) (c1 : Cond.code y bytes maxL none ∈ Ts) (hrc : rm.cells = mc) (hrs : rm.slots = ms)
    (hd : y.cls = K ∧ y.cls ≠ "java/lang/invoke/MethodHandle" ∧ y.cls ≠ "java/lang/invoke/VarHandle" ∧ (parseMethodDescriptor y.desc).map (fun d => d.parameters.length) = some n) (hRm : rm.frames + 1 ≤ R.frames ∧ 8 + (maxL + 11) + rm.locals ≤ R.locals)
    (hc : cl[ci]? = some (K, T, N)) (hn : As.length = n) (hcat : (st.map fun v => v.category).sum ≤ 8) (hdg : decode cc pc = .ok (.invokevirtual index, 3)) (hf : cells + mc ≤ R.cells ∧ slots + ms ≤ R.slots) {cells1 slots1 : Nat} (hc1 : cells + mc = cells1) (hs1 : slots + ms = slots1) {st0 : List Value} (hst : st0 = As.reverse ++ .ref b :: st) (hX : (am_ob ci b w f).bind K9 = some r) (kk : ∀ q : Int32 × am_w, K9 q = some r → am_V p l e R s m args below meth c D cl ty A F nL cells1 slots1 Q (pc + 3) lo st q.2) : am_V p l e R s m args below meth c D cl ty A F nL cells slots Q pc lo st0 w := by
  obtain ⟨q, hX0, hX2⟩ := am_bind hX
  obtain ⟨hsh, hX1⟩ := am_ob_of hX0
  subst hst
  subst hc1
  subst hs1
  intro H locs ls hR hS hL
  have hrecv : ∃ cellB : Cell, H[b]? = some cellB ∧ cellB.vm.isStatics = false ∧ s.vm.findClass K = some cellB.cls := by
    obtain ⟨cell, q1, q2, q3, -⟩ := (hR.2 b _ hsh).2.obj hc
    exact ⟨cell, q1, by rw [q3]; rfl, by rw [q2]; exact (C.2.1.1 ci _ hc).2.1⟩
  exact am_goon (va_runV (As := As) (rest := st) C.1 (hM q hX1) (cwV n C.1.2.2.2.2 (am_goodV C.2.2.2.1 m1 i1 s1 n1 c1) rfl hrc hrs hd hRm) ⟨am_blind, hrecv, fun U hU hW => am_start C hFA hR hS hU hW⟩ rfl hn hL.1.1 rfl (lv_room hcat) hdg hf) hG9 hS hL (fun v w1 h => by obtain ⟨h1, h2⟩ := h; subst h1; subst h2; exact kk q hX2)
theorem am_callSi (C : am_C p m c cc nL s args Ts own D cl A) (hFA : ∀ q, F q → A q) {G : Nat → Prop} (hG9 : ∀ q, G q → F q) {y : MethodName} {rm : Room} {As : List Value} {mc ms index n maxL : Nat} {bytes : ByteArray} {rt : FieldType} {f : Option (Int32 × am_w)} {β : Type} {K9 : Int32 × am_w → Option β} {r : β}
    (hM : ∀ q, f = some q → am_Met l D cl ty A G y (Cond.code y bytes maxL (some rt) :: Ts) rm As w (am_ri q) mc ms) (m1 : Cond.methodLink own index y ∈ Ts) (t1 : Cond.static y ∈ Ts) (n1 : Cond.initialized y.cls ∈ Ts) (c1 : Cond.code y bytes maxL (some rt) ∈ Ts) (hrc : rm.cells = mc) (hrs : rm.slots = ms)
    (hd : y.cls ≠ "java/lang/invoke/MethodHandle" ∧ y.cls ≠ "java/lang/invoke/VarHandle" ∧ (parseMethodDescriptor y.desc).map (fun d => d.parameters.length) = some n) (hRm : rm.frames + 1 ≤ R.frames ∧ 8 + (maxL + 11) + rm.locals ≤ R.locals)
    (hn : As.length = n) (hcat : (st.map fun v => v.category).sum ≤ 8) (hdg : decode cc pc = .ok (.invokestatic index, 3)) (hf : cells + mc ≤ R.cells ∧ slots + ms ≤ R.slots) {cells1 slots1 : Nat} (hc1 : cells + mc = cells1) (hs1 : slots + ms = slots1) {st0 : List Value} (hst : st0 = As.reverse ++ st) (hX : f.bind K9 = some r) (kk : ∀ q : Int32 × am_w, K9 q = some r → am_V p l e R s m args below meth c D cl ty A F nL cells1 slots1 Q (pc + 3) lo (.int q.1 :: st) q.2) : am_V p l e R s m args below meth c D cl ty A F nL cells slots Q pc lo st0 w := by
  obtain ⟨q, hX1, hX2⟩ := am_bind hX
  subst hst
  subst hc1
  subst hs1
  intro H locs ls hR hS hL
  exact am_goon (va_runS (As := As) (rest := st) C.1 (hM q hX1) (va_cwS n C.1.2.2.2.2 (am_goodS C.2.2.2.1 m1 t1 n1 c1) rfl hrc hrs hd hRm) ⟨am_blind, fun U hU hW => am_start C hFA hR hS hU hW⟩ rfl hn hL.1.1 rfl (lv_room hcat) hdg hf) hG9 hS hL (fun v w1 h => by obtain ⟨h1, h2⟩ := h; subst h1; subst h2; exact kk q hX2)
theorem am_callSv (C : am_C p m c cc nL s args Ts own D cl A) (hFA : ∀ q, F q → A q) {G : Nat → Prop} (hG9 : ∀ q, G q → F q) {y : MethodName} {rm : Room} {As : List Value} {mc ms index n maxL : Nat} {bytes : ByteArray} {f : Option (Int32 × am_w)} {β : Type} {K9 : Int32 × am_w → Option β} {r : β}
    (hM : ∀ q, f = some q → am_Met l D cl ty A G y (Cond.code y bytes maxL none :: Ts) rm As w (am_rv q) mc ms) (m1 : Cond.methodLink own index y ∈ Ts) (t1 : Cond.static y ∈ Ts) (n1 : Cond.initialized y.cls ∈ Ts) (c1 : Cond.code y bytes maxL none ∈ Ts) (hrc : rm.cells = mc) (hrs : rm.slots = ms)
    (hd : y.cls ≠ "java/lang/invoke/MethodHandle" ∧ y.cls ≠ "java/lang/invoke/VarHandle" ∧ (parseMethodDescriptor y.desc).map (fun d => d.parameters.length) = some n) (hRm : rm.frames + 1 ≤ R.frames ∧ 8 + (maxL + 11) + rm.locals ≤ R.locals)
    (hn : As.length = n) (hcat : (st.map fun v => v.category).sum ≤ 8) (hdg : decode cc pc = .ok (.invokestatic index, 3)) (hf : cells + mc ≤ R.cells ∧ slots + ms ≤ R.slots) {cells1 slots1 : Nat} (hc1 : cells + mc = cells1) (hs1 : slots + ms = slots1) {st0 : List Value} (hst : st0 = As.reverse ++ st) (hX : f.bind K9 = some r) (kk : ∀ q : Int32 × am_w, K9 q = some r → am_V p l e R s m args below meth c D cl ty A F nL cells1 slots1 Q (pc + 3) lo st q.2) : am_V p l e R s m args below meth c D cl ty A F nL cells slots Q pc lo st0 w := by
  obtain ⟨q, hX1, hX2⟩ := am_bind hX
  subst hst
  subst hc1
  subst hs1
  intro H locs ls hR hS hL
  exact am_goon (va_runS (As := As) (rest := st) C.1 (hM q hX1) (va_cwS n C.1.2.2.2.2 (am_goodS C.2.2.2.1 m1 t1 n1 c1) rfl hrc hrs hd hRm) ⟨am_blind, fun U hU hW => am_start C hFA hR hS hU hW⟩ rfl hn hL.1.1 rfl (lv_room hcat) hdg hf) hG9 hS hL (fun v w1 h => by obtain ⟨h1, h2⟩ := h; subst h1; subst h2; exact kk q hX2)
theorem am_callI (C : am_C p m c cc nL s args Ts own D cl A) (hFA : ∀ q, F q → A q) {G : Nat → Prop} (hG9 : ∀ q, G q → F q) {y : MethodName} {rm : Room} {As : List Value} {mc ms index n b maxL : Nat} {bytes : ByteArray} {f : Option (Int32 × am_w)} {β : Type} {K9 : Int32 × am_w → Option β} {r : β}
    (hM : ∀ q, f = some q → am_Met l D cl ty A G y (Cond.code y bytes maxL none :: Ts) rm (.ref b :: As) w (am_rv q) mc ms) (c1 : Cond.code y bytes maxL none ∈ Ts) (hrc : rm.cells = mc) (hrs : rm.slots = ms) (hini : Cond.initialized y.cls ∈ Ts) (hl : Cond.methodLink own index y ∈ Ts) (hin : Cond.instanceMethod y ∈ Ts) (hy1 : y.name = "<init>")
    (hd : y.cls ≠ "java/lang/invoke/MethodHandle" ∧ y.cls ≠ "java/lang/invoke/VarHandle" ∧ (parseMethodDescriptor y.desc).map (fun d => d.parameters.length) = some n) (hRm : rm.frames + 1 ≤ R.frames ∧ 8 + (maxL + 11) + rm.locals ≤ R.locals)
    (hn : As.length = n) (hcat : (st.map fun v => v.category).sum ≤ 8) (hdg : decode cc pc = .ok (.invokespecial index, 3)) (hf : cells + mc ≤ R.cells ∧ slots + ms ≤ R.slots) {cells1 slots1 : Nat} (hc1 : cells + mc = cells1) (hs1 : slots + ms = slots1) {st0 : List Value} (hst : st0 = As.reverse ++ .ref b :: st) (hX : f.bind K9 = some r) (kk : ∀ q : Int32 × am_w, K9 q = some r → am_V p l e R s m args below meth c D cl ty A F nL cells1 slots1 Q (pc + 3) lo st q.2) : am_V p l e R s m args below meth c D cl ty A F nL cells slots Q pc lo st0 w := by
  obtain ⟨q, hX1, hX2⟩ := am_bind hX
  subst hst
  subst hc1
  subst hs1
  intro H locs ls hR hS hL
  exact am_goon (va_runI (As := As) (rest := st) C.1 (hM q hX1) (cwI n C.1.2.2.2.2 (am_goodI C.2.2.2.1 c1) rfl hrc hrs (C.1.2.2.2.2 _ hini) (C.1.2.2.2.2 _ hl) (C.1.2.2.2.2 _ hin) hy1 hd hRm) ⟨am_blind, fun U hU hW => am_start C hFA hR hS hU hW⟩ rfl hn hL.1.1 rfl (lv_room hcat) hdg hf) hG9 hS hL (fun v w1 h => by obtain ⟨h1, h2⟩ := h; subst h1; subst h2; exact kk q hX2)
theorem am_callIN (C : am_C p m c cc nL s args Ts own D cl A) (hFA : ∀ q, F q → A q) {G : Nat → Prop} (hG9 : ∀ q, G q → F q) {y : MethodName} {rm : Room} {As : List Value} {mc ms index n b maxL : Nat} {bytes : ByteArray} {f : Option (Int32 × am_w)} {β : Type} {K9 : Int32 × am_w → Option β} {r : β}
    (hM : ∀ q, f = some q → am_Met l D cl ty A G y (Cond.code y bytes maxL none :: Ts) rm (.ref b :: As) w (am_rv q) mc ms) (c1 : Cond.code y bytes maxL none ∈ Ts) (hrc : rm.cells = mc) (hrs : rm.slots = ms) (hini : Cond.initialized y.cls ∈ Ts) (host : String) (hl : va_Nw (.methodLinkNest own index y host) s) (hin : Cond.instanceMethod y ∈ Ts) (hy1 : y.name = "<init>")
    (hd : y.cls ≠ "java/lang/invoke/MethodHandle" ∧ y.cls ≠ "java/lang/invoke/VarHandle" ∧ (parseMethodDescriptor y.desc).map (fun d => d.parameters.length) = some n) (hRm : rm.frames + 1 ≤ R.frames ∧ 8 + (maxL + 11) + rm.locals ≤ R.locals)
    (hn : As.length = n) (hcat : (st.map fun v => v.category).sum ≤ 8) (hdg : decode cc pc = .ok (.invokespecial index, 3)) (hf : cells + mc ≤ R.cells ∧ slots + ms ≤ R.slots) {cells1 slots1 : Nat} (hc1 : cells + mc = cells1) (hs1 : slots + ms = slots1) {st0 : List Value} (hst : st0 = As.reverse ++ .ref b :: st) (hX : f.bind K9 = some r) (kk : ∀ q : Int32 × am_w, K9 q = some r → am_V p l e R s m args below meth c D cl ty A F nL cells1 slots1 Q (pc + 3) lo st q.2) : am_V p l e R s m args below meth c D cl ty A F nL cells slots Q pc lo st0 w := by
  obtain ⟨q, hX1, hX2⟩ := am_bind hX
  subst hst
  subst hc1
  subst hs1
  intro H locs ls hR hS hL
  exact am_goon (va_runIN (As := As) (rest := st) C.1 (hM q hX1) (⟨va_cnB n C.1.2.2.2.2 (am_goodI C.2.2.2.1 c1) rfl hrc hrs hl (C.1.2.2.2.2 _ hini) hd hRm, hy1, C.1.2.2.2.2 _ hin⟩) ⟨am_blind, fun U hU hW => am_start C hFA hR hS hU hW⟩ rfl hn hL.1.1 rfl (lv_room hcat) hdg hf) hG9 hS hL (fun v w1 h => by obtain ⟨h1, h2⟩ := h; subst h1; subst h2; exact kk q hX2)
theorem am_widen {k n : Nat} (h1 : cells ≤ k) (h2 : slots ≤ n) (kk : am_V p l e R s m args below meth c D cl ty A F nL k n Q pc lo st w) : am_V p l e R s m args below meth c D cl ty A F nL cells slots Q pc lo st w :=
  fun H locs ls hR hS hL => W.widen h1 h2 (kk H locs ls hR hS hL)
/-! the ends -/
theorem am_iret (C : am_C p m c cc nL s args Ts own D cl A) {r : Int32 × am_w} {mc ms : Nat} {v : Int32} {t9 : FieldType} (hr9 : meth.sig.returnType = some t9) (hlocks : meth.locks = false) (hdg : decode cc pc = .ok (.ireturn, 1)) (hn : narrow t9 (.int v) = .int v) (h1 : cells ≤ mc) (h2 : slots ≤ ms) (hX : some (v, w) = some r) :
    am_V p l e R s m args below meth c D cl ty A F nL cells slots (MQ below (am_Q D cl ty A F (am_ri r)) args s mc ms F) pc lo [.int v] w := by
  cases hX
  exact am_widen h1 h2 (fun H locs ls hR hS hL => W.zret C.1.1 C.1.2.1 hr9 hn (fun t ht hW => ⟨⟨_, _, rfl, ⟨rfl, rfl⟩, by rw [ht]; exact hR.moved hW.alike⟩, hS.F ht⟩) hS.2.2 hdg hlocks)
theorem am_n0 : narrow .boolean (.int 0) = .int 0 := rfl
theorem am_n1 : narrow .boolean (.int 1) = .int 1 := rfl
theorem am_zret (C : am_C p m c cc nL s args Ts own D cl A) {r : Int32 × am_w} {mc ms : Nat} {v : Int32} (hr9 : meth.sig.returnType = some .boolean) (hlocks : meth.locks = false) (hdg : decode cc pc = .ok (.ireturn, 1)) (h1 : cells ≤ mc) (h2 : slots ≤ ms) (hX : (if v &&& 1 = v then some (v, w) else none) = some r) :
    am_V p l e R s m args below meth c D cl ty A F nL cells slots (MQ below (am_Q D cl ty A F (am_ri r)) args s mc ms F) pc lo [.int v] w := by
  by_cases h : v &&& 1 = v
  · exact am_iret C hr9 hlocks hdg (by show Value.int (v &&& 1) = .int v; rw [h]) h1 h2 ((if_pos h).symm.trans hX)
  · rw [if_neg h] at hX
    cases hX
/-- more may have been written -/
theorem am_grow {F1 : Nat → Prop} (h : ∀ q, F q → F1 q) (k : am_V p l e R s m args below meth c D cl ty A F1 nL cells slots Q pc lo st w) : am_V p l e R s m args below meth c D cl ty A F nL cells slots Q pc lo st w :=
  fun H locs ls hR hS hL => k H locs ls hR ⟨hS.1, fun q h1 h2 => hS.2.1 q h1 (fun z => h2 (h q z)), fun q hq => h _ (hS.2.2 q hq)⟩ hL
theorem am_vret (C : am_C p m c cc nL s args Ts own D cl A) {r : Int32 × am_w} {mc ms : Nat} (hr9 : meth.sig.returnType = none) (hlocks : meth.locks = false) (hdg : decode cc pc = .ok (.return_, 1)) (h1 : cells ≤ mc) (h2 : slots ≤ ms) (hX : some ((0 : Int32), w) = some r) :
    am_V p l e R s m args below meth c D cl ty A F nL cells slots (MQ below (am_Q D cl ty A F (am_rv r)) args s mc ms F) pc lo [] w := by
  cases hX
  exact am_widen h1 h2 (fun H locs ls hR hS hL => W.vret C.1.1 C.1.2.1 hr9 (fun t ht hW => ⟨⟨_, _, rfl, ⟨rfl, rfl⟩, by rw [ht]; exact hR.moved hW.alike⟩, hS.F ht⟩) hS.2.2 hdg hlocks)
theorem am_pad {lo0 : List (Option Value)} {k i : Nat} {v : Value} (h : (lo0 ++ List.replicate k none)[i]? = some (some v)) : lo0[i]? = some (some v) := by
  by_cases hl : i < lo0.length
  · rwa [List.getElem?_append_left hl] at h
  · rw [List.getElem?_append_right (by omega)] at h
    have := List.eq_of_mem_replicate (List.mem_of_getElem? h)
    cases this
/-- a contract out of a walk from its entry -/
theorem am_ofV {y : MethodName} {Tw : List Cond} {rm : Room} {maxL mc ms : Nat} {ret : Option FieldType} {av : List Value} {post : Option Value → am_w → Prop}
    (hy : plainName y.cls = true) (hall : ∀ w ∈ Tw, goodWord w = true) (hlen : (lg_sl av).length ≤ maxL) (hcat : ∀ v ∈ av, v.category = 1)
    (body : ∀ (p : Program) (e : Env) (s : State) (m : MethodId) (below : List Frame) (meth : Method) (c : Code), am_C p m c cc maxL s av.toArray Tw y.cls D cl A → meth.sig.returnType = ret → meth.locks = false → meth.name = y.name →
      am_V p l e rm s m av.toArray below meth c D cl ty A F maxL 0 0 (MQ below (am_Q D cl ty A F post) av.toArray s mc ms F) 0 (av.map some ++ List.replicate (maxL - av.length) none) [] w) : am_Met l D cl ty A F y (Cond.code y cc maxL ret :: Tw) rm av w post mc ms := by
  refine Met.ofW (ws := Cond.code y cc maxL ret :: Tw) hy rfl ?_
  intro p e s m args below meth c s₁ B hml hv
  obtain ⟨rfl, hrep, hK, hA, hZ, hY⟩ := hv
  rw [lg_entry_eq]
  exact body p e s m below meth c ⟨⟨B.exec, B.bytes, hml, findClass_of_methodNamed B.named, fun w h9 => atoms_spec (ws := Cond.code y cc maxL ret :: Tw) B.pre w (List.mem_cons_of_mem _ h9)⟩, hK, hA, hall, hZ, hY⟩ B.returns B.notSynchronized (name_of_methodNamed B.named B.method).1 s.heap [] _ hrep va_S.rf ((am_ls.entry av hlen hcat).sub (fun i v h => am_pad h))
/-- the same for a method of the JDK -/
theorem am_ofVF {y : MethodName} {Tw : List Cond} {rm : Room} {maxL mc ms : Nat} {ret : Option FieldType} {av : List Value} {post : Option Value → am_w → Prop}
    (hy : plainFor y = true) (hall : ∀ w ∈ Tw, goodWord w = true) (hlen : (lg_sl av).length ≤ maxL) (hcat : ∀ v ∈ av, v.category = 1)
    (body : ∀ (p : Program) (e : Env) (s : State) (m : MethodId) (below : List Frame) (meth : Method) (c : Code), am_C p m c cc maxL s av.toArray Tw y.cls D cl A → meth.sig.returnType = ret → meth.locks = false → meth.name = y.name →
      am_V p l e rm s m av.toArray below meth c D cl ty A F maxL 0 0 (MQ below (am_Q D cl ty A F post) av.toArray s mc ms F) 0 (av.map some ++ List.replicate (maxL - av.length) none) [] w) : am_Met l D cl ty A F y (Cond.code y cc maxL ret :: Tw) rm av w post mc ms := by
  refine va_MetF (ws := Cond.code y cc maxL ret :: Tw) hy rfl ?_
  intro p e s m args below meth c s₁ B hml hv
  obtain ⟨rfl, hrep, hK, hA, hZ, hY⟩ := hv
  rw [lg_entry_eq]
  exact body p e s m below meth c ⟨⟨B.exec, B.bytes, hml, findClass_of_methodNamed B.named, fun w h9 => atoms_spec (ws := Cond.code y cc maxL ret :: Tw) B.pre w (List.mem_cons_of_mem _ h9)⟩, hK, hA, hall, hZ, hY⟩ B.returns B.notSynchronized (name_of_methodNamed B.named B.method).1 s.heap [] _ hrep va_S.rf ((am_ls.entry av hlen hcat).sub (fun i v h => am_pad h))
/-! what is made: at the heap's end -/
theorem am_rep.made {H H1 : Heap} {e9 : Nat ⊕ (FieldType × Nat)} (hR : am_rep D cl ty A s w H) (hA : A w.1) (z1 : H1.size = w.1 + 1) (o1 : ∀ q, q < w.1 → H1[q]? = H[q]?) (hc : am_cell D cl ty s (am_z w.2.2.1 w.1 0) (am_z w.2.2.2 w.1 none) H1 w.1 e9) : am_rep D cl ty A s (am_nw e9 w) H1 := by
  refine ⟨z1, fun q e1 he => ?_⟩
  by_cases hq : q = w.1
  · subst hq
    have h1 : e9 = e1 := by simpa [am_nw, am_sh] using he
    subst h1
    exact ⟨hA, hc⟩
  · have h1 : w.2.1 q = some e1 := by simpa [am_nw, am_sh, hq] using he
    have h2 := hR.2 q e1 h1
    have h3 : q < w.1 := by have := h2.2.lt; rw [hR.1] at this; exact this
    exact ⟨h2.1, h2.2.kept (o1 q h3) (fun j => by simp [am_nw, am_z, hq]) (fun j => by simp [am_nw, am_z, hq])⟩
theorem am_made_S {H H1 : Heap} {locs : List Loc} {z : Nat} (hS : va_S F s.heap H locs) (hz : H.size = z) (z1 : H1.size = z + 1) (o1 : ∀ q, q < z → H1[q]? = H[q]?) : va_S F s.heap H1 locs :=
  ⟨Nat.le_trans hS.1 (by omega), fun q h1 h2 => (o1 q (by have := hS.1; omega)).trans (hS.2.1 q h1 h2), hS.2.2⟩
theorem am_new (C : am_C p m c cc nL s args Ts own D cl A) {K : String} {T : u_T} {N ci index : Nat} (hin : ∀ w ∈ u_ws K T N, w ∈ Ts) (hty0 : ∀ k, k < N → parseFieldDescriptor (T k).2.2.1 = some (ty ci k)) (hdf : ∀ k, k < N → defaultValue (ty ci k) = am_v (ty ci k) 0 none)
    (hcl : Cond.classLink own index K ∈ Ts) (hinst : Cond.instantiable K N ∈ Ts) (hini : Cond.initialized K ∈ Ts) (hc : cl[ci]? = some (K, T, N)) (hcells : cells + 1 ≤ R.cells) (hslots : slots + N ≤ R.slots) (hdg : decode cc pc = .ok (.new index, 3))
    (kk : am_V p l e R s m args below meth c D cl ty A F nL (cells + 1) (slots + N) Q (pc + 3) lo (.ref w.1 :: st) (am_nw (.inl ci) w)) : am_V p l e R s m args below meth c D cl ty A F nL cells slots Q pc lo st w := by
  intro H locs ls hR hS hL
  have hts := C.1.2.2.2.2
  have hKn := C.2.1.1 ci _ hc
  have hle : s.heap.size ≤ w.1 := by rw [← hR.1]; exact hS.1
  refine W.newcK C.1.1 C.1.2.1 C.1.2.2.2.1 (hts _ hcl) (hts _ hinst) (hts _ hini) rfl hdg hcells hslots hKn.2.1 hR.1 fun H1 kC hkC e1 z1 o1 => ?_
  refine kk H1 locs ls (hR.made (C.2.2.1 w.1 hle) z1 o1 ⟨_, hc, (u_born (ty ci) hts hin hKn hkC e1 hty0).to (fun k hk => ?_)⟩) (am_made_S hS hR.1 z1 o1) hL
  rw [hdf k hk]
  simp [am_z]
theorem am_newa (C : am_C p m c cc nL s args Ts own D cl A) {atype : ArrayType} {t9 : FieldType} (harr : Cond.arrayClass (newarray.typeOf atype) ∈ Ts) (hty9 : newarray.typeOf atype = t9) (hdf : defaultValue t9 = am_v t9 0 none) {n : Int32} {N : Nat} (hn : ¬ n < 0) (hN : n.toNatClampNeg = N) (hbytes : N * componentBytes t9 ≤ 536870912) (hcells : cells + 1 ≤ R.cells) (hslots : slots + N ≤ R.slots) (hdg : decode cc pc = .ok (.newarray atype, 2))
    (kk : am_V p l e R s m args below meth c D cl ty A F nL (cells + 1) (slots + N) Q (pc + 2) lo (.ref w.1 :: st) (am_nw (.inr (t9, N)) w)) : am_V p l e R s m args below meth c D cl ty A F nL cells slots Q pc lo (.int n :: st) w := by
  subst hty9
  intro H locs ls hR hS hL
  have hle : s.heap.size ≤ w.1 := by rw [← hR.1]; exact hS.1
  refine va_newaK C.1.1 C.1.2.1 (C.1.2.2.2.2 _ harr) rfl hdg rfl hn hN hbytes hcells hslots hR.1 fun H1 cA e1 z1 o1 hAr hNm => ?_
  refine kk H1 locs ls (hR.made (C.2.2.1 w.1 hle) z1 o1 ⟨cA, ?_, hAr, by cases atype <;> exact hNm⟩) (am_made_S hS hR.1 z1 o1) hL
  rw [e1]
  congr 2
  funext j
  rw [hdf]
  simp [am_z]
theorem am_newq (C : am_C p m c cc nL s args Ts own D cl A) {K : String} {index : Nat} (hcl : Cond.classLink own index K ∈ Ts) (hover : va_AO K s) {n : Int32} {N : Nat} (hn : ¬ n < 0) (hN : n.toNatClampNeg = N) (hbytes : N * 4 ≤ 536870912) (hcells : cells + 1 ≤ R.cells) (hslots : slots + N ≤ R.slots) (hdg : decode cc pc = .ok (.anewarray index, 3))
    (kk : am_V p l e R s m args below meth c D cl ty A F nL (cells + 1) (slots + N) Q (pc + 3) lo (.ref w.1 :: st) (am_nw (.inr (.object K, N)) w)) : am_V p l e R s m args below meth c D cl ty A F nL cells slots Q pc lo (.int n :: st) w := by
  subst hN
  intro H locs ls hR hS hL
  have hle : s.heap.size ≤ w.1 := by rw [← hR.1]; exact hS.1
  refine W.anew C.1.1 C.1.2.1 C.1.2.2.2.1 (C.1.2.2.2.2 _ hcl) (va_AO.use hover) rfl hdg rfl hn hbytes hcells hslots fun cA kA comp f1 f2 f3 f4 => ?_
  generalize hH1 : H.push ({ cls := cA, slots := Array.replicate n.toNatClampNeg .null, vm := .none } : Cell) = H1
  have z1 : H1.size = w.1 + 1 := by rw [← hH1, Array.size_push, hR.1]
  have e1 : H1[w.1]? = some (arrV cA n.toNatClampNeg (fun _ => .null)) := by rw [← hH1, ← hR.1, Array.getElem?_push_size, ← arrV_new]
  have o1 : ∀ q : Nat, q < w.1 → H1[q]? = H[q]? := fun q hq => by rw [← hH1, Array.getElem?_push, if_neg (by rw [hR.1]; exact Nat.ne_of_lt hq)]
  have hAr : ArrOfT s cA (.object K) := fun N z => ⟨(fun k h => by cases h), kA, f2, comp, f3⟩
  have e0 : (F0 m pc ls (Value.int n :: st)).pc = pc := rfl
  rw [hR.1]
  refine kk H1 locs ls (hR.made (C.2.2.1 w.1 hle) z1 o1 ⟨cA, ?_, hAr, kA, comp, f2, f3, f4, f1⟩) (am_made_S hS hR.1 z1 o1) hL
  rw [e1]
  congr 2
  funext j
  simp [am_z, am_v, am_k, va_rf]
end AMC
