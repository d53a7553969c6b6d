section AML
variable {p : Program} {l : Launch} {e : Env} {R : Room} {s : State} {m : MethodId} {args : Array Value} {below : List Frame} {meth : Method} {c : Code} {cells slots : Nat} {Q : State → Prop}
variable {cc : ByteArray} {own : String} {Ts : List Cond} {nL : Nat} {D : va_G} {cl : List vw_C} {ty : Nat → Nat → FieldType} {A F : Nat → Prop}
variable {pc : Nat} {lo : List (Option Value)} {st : List Value} {w : am_w}
/-- where it answers, a contract that answers or throws is a contract -/
theorem am_Mett.met {G : Nat → Prop} {y : MethodName} {ws : List Cond} {rm : Room} {av : List Value} {q : Option Value × Nat × am_w} {mc ms : Nat} (h : am_Mett l D cl ty A G y ws rm av w q mc ms) (h0 : q.2.1 = 0) : am_Met l D cl ty A G y ws rm av w (fun v w1 => v = q.1 ∧ w1 = q.2.2) mc ms := by
  intro p e ha hc hk s m args below hf happ hP hK
  obtain ⟨n, o, h1, h2, h3, ⟨⟨hcase, hrep⟩, hF⟩, L, hE, hL⟩ := h p e ha hc hk s m args below hf happ hP hK
  rcases hcase with ⟨-, ho⟩ | ⟨hn, -⟩
  · exact ⟨n, o, h1, h2, h3, ⟨⟨_, _, ho, ⟨rfl, rfl⟩, hrep⟩, hF⟩, L, ⟨⟨_, ho⟩, hE⟩, hL⟩
  · exact absurd h0 hn
/-- where it throws: out of the callee, with the note over the caller's frame -/
theorem am_throwsV {T : State} {locs : List Loc} (X : Stand p l e R s m args below meth c T locs cells slots) (hexec : p.tables.exec = Jvm.exec) {K : String} {index : Nat} {y : MethodName} {bytes : ByteArray} {maxL : Nat} {ret : Option FieldType} {ws : List Cond} {rm : Room} {G : Nat → Prop} {As : List Value} {b : Addr} {q : Option Value × Nat × am_w} {mc ms : Nat}
    (hM : am_Mett l D cl ty A G y ws rm (.ref b :: As) w q mc ms) (hq : ¬ q.2.1 = 0) (hrc : rm.cells = mc) (hrs : rm.slots = ms) (hfr : rm.frames + 1 ≤ R.frames) (hlo : 8 + (maxL + 11) + rm.locals ≤ R.locals) (hws : ∀ w ∈ ws, ∀ (a' : Array Value) (U : State), s.WarmedH U.vm → w.before a' U = true) (hcw : Cond.code y bytes maxL ret ∈ ws)
    (hown : s.vm.findClass own = some m.cls) (hlink : (Cond.methodLink own index y).before args s = true) (hinst : (Cond.instanceMethod y).before args s = true) (hsel : (Cond.selects K y y).before args s = true) (hcode : (Cond.code y bytes maxL ret).before args s = true) (hini : ∀ (a' : Array Value) (U : State), s.WarmedH U.vm → (Cond.initialized y.cls).before a' U = true) (hy : y.cls ≠ "java/lang/invoke/MethodHandle" ∧ y.cls ≠ "java/lang/invoke/VarHandle")
    {cellB : Cell} (hcell : T.heap[b]? = some cellB) (hobj : cellB.vm.isStatics = false) (hcls : s.vm.findClass K = some cellB.cls) {g : JFrame} (hg : g.method = m) (hsize : g.locals.size = c.maxLocals) {rest : List Value} (hlen : ∀ sig, parseMethodDescriptor y.desc = some sig → As.length = sig.parameters.length) (hstack : g.stack = As.reverse ++ .ref b :: rest)
    (hdg : decode c.code g.pc = .ok (.invokevirtual index, 3)) (hcells : cells + mc ≤ R.cells) (hslots : slots + ms ≤ R.slots) (hW8 : 2 * g.monitorRoom + (rest.map fun v => v.category).sum ≤ 8) (hPc : ∀ U : State, U.heap = T.heap → s.WarmedH U.vm → am_P D cl ty A (.ref b :: As) w (Value.ref b :: As).toArray U) :
    ∃ (a : Addr) (ce : Cell) (T' : State) (L : List Loc), Stand p l e R s m args below meth c T' (locs ++ L) (cells + mc) (slots + ms) ∧ (∀ x ∈ L, G x.base) ∧ T'.heap[a]? = some ce ∧ ce.vm.isStatics = false ∧ T'.vm.findClass (am_X q.2.1) = some ce.cls ∧ am_rep D cl ty A T' q.2.2 T'.heap ∧ T.heap.size ≤ T'.heap.size ∧ (∀ x, x < T.heap.size → ¬ G x → T'.heap[x]? = T.heap[x]?) ∧
      Steps p.tables e below (T.setTop g) ((T'.setTop { g with stack := rest }).pushFrame (.throwing a)) := by
  subst hg
  obtain ⟨mk, methM, hnamed, hmethM, hstM, habM⟩ := Cond.instanceMethod_spec hinst
  obtain ⟨methM', cM, hmethM', -, -, -, -, -, -, hsigM⟩ := Cond.code_spec hnamed hcode
  cases hmethM.symm.trans hmethM'
  obtain ⟨c2, r2, m2, q1, q2, q3, q4, kP, hkP, hkPi⟩ := Cond.selects_spec hsel
  cases hcls.symm.trans q1
  cases (State.methodFound?_of_named hnamed hy).symm.trans q2
  cases hnamed.symm.trans q3
  have hselP : selectMethod e.platform s.vm cellB.cls mk = .method mk := by rw [Launch.admits_selectMethod X.admits]; exact q4
  obtain ⟨vm₁, X₁, hstep₁⟩ := X.invokevirtual hexec hown hlink hnamed hmethM hstM hkP hkPi hy (a := b) (cell := cellB) hcell (fun z h => by rw [h] at hobj; cases hobj) hselP hmethM habM hkP hkPi (g := g) rfl (argsL := As) (rest := rest) (hlen _ hsigM) hstack hdg
  have hn₁ : (T.setVm vm₁).methodNamed? y = some mk := X₁.named hnamed
  obtain ⟨methY, cY, hmY, hcY, -, hlY, -, -, -, -⟩ := Cond.code_spec hn₁ (hws _ hcw #[] (T.setVm vm₁) X₁.warmed)
  obtain ⟨kY, hkY, -⟩ := className_of_methodNamed hn₁
  have hinitY : kY.init = .initialized := Cond.initialized_spec (findClass_of_methodNamed hn₁) hkY (hini #[] (T.setVm vm₁) X₁.warmed)
  have hat : At (T.setVm vm₁) ({ g with stack := rest } : JFrame).method c below := X₁.here
  have happ : (headSpec ws rm).appliesLoose y e.platform ((T.setVm vm₁).calling { g with stack := rest } mk (Value.ref b :: As).toArray) = true :=
    Spec.appliesLoose_calling (g := { g with stack := rest }) hat hdg hn₁ hkY hinitY
      (X₁.room_calling (g := { g with stack := rest }) (R' := (headSpec ws rm).room) hsize hmY hcY hfr (by rw [hlY]; show _ + _ + rm.locals ≤ _; exact Nat.le_trans (Nat.add_le_add_right (Nat.add_le_add_right hW8 _) _) hlo) (by rw [show (headSpec ws rm).room.cells = mc from hrc]; exact hcells) (by rw [show (headSpec ws rm).room.slots = ms from hrs]; exact hslots)) (atoms_intro fun w hw => hws w hw _ _ X₁.warmed)
  obtain ⟨mid, hmid⟩ := hat.above
  have hfrm : ((T.setVm vm₁).setTop { g with stack := rest }).frames = (.java { g with stack := rest } :: mid) ++ below := by rw [State.frames_setTop' _ hat.top, hmid]; rfl
  obtain ⟨o, s₂, hsteps, -, hend, hq2⟩ := Steps.callFree hM p X₁.admits X₁.cas X₁.clock (acts := []) hfrm happ (am_blind _ _ { g with stack := rest } mk (hPc (T.setVm vm₁) rfl X₁.warmed)) trivial
  have hq3 : (am_Qt D cl ty A G q (Value.ref b :: As).toArray ((T.setVm vm₁).calling { g with stack := rest } mk (Value.ref b :: As).toArray) o s₂) ∧ ∃ L, am_E ((T.setVm vm₁).calling { g with stack := rest } mk (Value.ref b :: As).toArray) s₂ L mc ms ∧ ∀ x ∈ L, G x.base := hq2
  obtain ⟨⟨⟨hcase, hrep⟩, hz, hkp⟩, L, ⟨hW2, hsame2⟩, hL⟩ := hq3
  rcases hcase with ⟨h0, -⟩ | ⟨-, a, ce, rfl, hce, hst, hcl⟩
  · exact absurd h0 hq
  rw [State.frames_setTop' _ hat.top, X₁.tail] at hend
  obtain ⟨T', X', hWT, hsT, ht⟩ := Stand.outOfThrown X₁ (g := { g with stack := rest }) rfl hend hW2 hsame2
  have hfr9 : ∀ (U : State) (F : List Frame), (U.setFrames F).heap = U.heap := fun _ _ => rfl
  have hh : s₂.heap = T'.heap := by rw [ht]; rfl
  have hv : s₂.vm = T'.vm := by rw [ht]; rfl
  refine ⟨a, ce, T', L, X', hL, by rw [← hh]; exact hce, hst, by rw [← hv]; exact hcl, by rw [← hh]; exact hrep.moved (by rw [hv]; exact Vm.Alike.refl _), by rw [← hh]; exact hz, fun x h1 h2 => by rw [← hh]; exact hkp x h1 h2, ?_⟩
  refine hstep₁ _ fun acts => ?_
  rw [doInvoke_state, ← ht]
  exact hsteps
/-- the law's class: which exception a row of a table names -/
def am_ct (i : Nat) : Nat := if i = 13 then 1 else if i = 19 then 2 else if i = 35 then 3 else 0
def am_h : List (Nat × Nat × Nat × Nat) → Nat → Nat → Option Nat
  | [], _, _ => none
  | (a, b, h, t) :: r, pc, k => if a ≤ pc ∧ pc < b then (if am_ct t = 0 then none else if am_ct t = k then some h else am_h r pc k) else am_h r pc k
theorem am_sel_of {pl : Platform} (hpl : pl.magicAccessors = ({} : Platform).magicAccessors) (hown : s.vm.findClass own = some m.cls) (hlk : ∀ i, am_ct i ≠ 0 → (Cond.classLink own i (am_X (am_ct i))).before args s = true) (hNC : am_NC s) {k : Nat} (hk1 : 1 ≤ k) (hk3 : k ≤ 3) (hcast : (Cond.castable (am_X k) (am_X k)).before args s = true) {thrown : ClassId} (hth : s.vm.findClass (am_X k) = some thrown) {h : Nat} :
    ∀ (rows : List ExceptionTableEntry), am_h (rows.map (fun h => (h.startPc, h.endPc, h.handlerPc, h.catchType))) pc k = some h → am_sel pl s m.cls pc thrown h rows := by
  intro rows
  induction rows with
  | nil => intro hh; cases hh
  | cons x t ih =>
    intro hh
    simp only [List.map_cons, am_h] at hh
    by_cases hcv : x.startPc ≤ pc ∧ pc < x.endPc
    · rw [if_pos hcv] at hh
      by_cases h0 : am_ct x.catchType = 0
      · rw [if_pos h0] at hh
        cases hh
      rw [if_neg h0] at hh
      obtain ⟨c', hc', hcl⟩ := Cond.classLink_spec hown (hlk _ h0) pl hpl
      refine Or.inl ⟨by simp [covers, hcv.1, hcv.2], fun z => h0 (by rw [z]; rfl), c', hcl, ?_⟩
      by_cases he : am_ct x.catchType = k
      · rw [if_pos he] at hh
        cases hh
        obtain ⟨c1, c2, g1, g2, g3⟩ := Cond.castable_spec hcast
        rw [he] at hc'
        cases hth.symm.trans g1
        cases g1.symm.trans g2
        cases hc'.symm.trans g1
        exact Or.inl ⟨g3, rfl⟩
      · rw [if_neg he] at hh
        have hct : am_ct x.catchType ≤ 3 := by unfold am_ct; split <;> (try split) <;> (try split) <;> omega
        obtain ⟨c1, c2, g1, g2, g3⟩ := hNC k (am_ct x.catchType) hk1 hk3 (by omega) hct (fun z => he z.symm)
        cases hth.symm.trans g1
        cases hc'.symm.trans g2
        exact Or.inr ⟨g3, ih hh⟩
    · rw [if_neg hcv] at hh
      refine Or.inr ⟨?_, ih hh⟩
      simp only [covers]
      by_cases h1 : x.startPc ≤ pc
      · have h2 : ¬ pc < x.endPc := fun z => hcv ⟨h1, z⟩
        simp [h2]
      · simp [h1]
theorem am_callTi (C : am_C p m c cc nL s args Ts own D cl A) (hFA : ∀ q, F q → A q) {G : Nat → Prop} (hG9 : ∀ q, G q → F q) (how : own = "RoverMinutesLaw") {hh : List (Nat × Nat × Nat × Nat)} (htab : c.exceptionTable.toList.map (fun h => (h.startPc, h.endPc, h.handlerPc, h.catchType)) = hh) (hlk : ∀ i, am_ct i ≠ 0 → Cond.classLink "RoverMinutesLaw" i (am_X (am_ct i)) ∈ Ts) (hcs : ∀ k, 1 ≤ k → k ≤ 3 → Cond.castable (am_X k) (am_X k) ∈ am_Zw) {y : MethodName} {rm : Room} {As : List Value} {mc ms index n N ci b maxL : Nat} {K : String} {T : u_T} {bytes : ByteArray} {rt : FieldType} {f : Option (Int32 × Nat × am_w)} {β : Type} {K9 : Int32 × Nat × am_w → Option β} {r : β}
    (hM : ∀ q, f = some q → am_Mett l D cl ty A G y (Cond.code y bytes maxL (some rt) :: Ts) rm (.ref b :: As) w (am_ti q) mc ms) (m1 : Cond.methodLink own index y ∈ Ts) (i1 : Cond.instanceMethod y ∈ Ts) (s1 : Cond.selects K y y ∈ Ts) (n1 : Cond.initialized K ∈ Ts) (c1 : Cond.code y bytes maxL (some rt) ∈ Ts) (hrc : rm.cells = mc) (hrs : rm.slots = ms)
    (hd : y.cls = K ∧ y.cls ≠ "java/lang/invoke/MethodHandle" ∧ y.cls ≠ "java/lang/invoke/VarHandle" ∧ (parseMethodDescriptor y.desc).map (fun d => d.parameters.length) = some n) (hRm : rm.frames + 1 ≤ R.frames ∧ 8 + (maxL + 11) + rm.locals ≤ R.locals)
    (hc : cl[ci]? = some (K, T, N)) (hn : As.length = n) (hcat : (st.map fun v => v.category).sum ≤ 8) (hdg : decode cc pc = .ok (.invokevirtual index, 3)) (hf : cells + mc ≤ R.cells ∧ slots + ms ≤ R.slots) {cells1 slots1 : Nat} (hc1 : cells + mc = cells1) (hs1 : slots + ms = slots1) {st0 : List Value} (hst : st0 = As.reverse ++ .ref b :: st) (hX : (am_ob ci b w f).bind K9 = some r)
    (kr : ∀ q : Int32 × Nat × am_w, q.2.1 = 0 → K9 q = some r → am_V p l e R s m args below meth c D cl ty A F nL cells1 slots1 Q (pc + 3) lo (.int q.1 :: st) q.2.2)
    (kt : ∀ q : Int32 × Nat × am_w, ¬ q.2.1 = 0 → K9 q = some r → (1 ≤ q.2.1 ∧ q.2.1 ≤ 3) ∧ ∃ h, am_h hh pc q.2.1 = some h ∧ ∀ a : Nat, am_V p l e R s m args below meth c D cl ty A F nL cells1 slots1 Q h lo [.ref a] q.2.2) : am_V p l e R s m args below meth c D cl ty A F nL cells slots Q pc lo st0 w := by
  obtain ⟨q, hX0, hX2⟩ := am_bind hX
  obtain ⟨hsh, hX1⟩ := am_ob_of hX0
  subst hst
  subst hc1
  subst hs1
  subst how
  intro H locs ls hR hS hL
  have hrecv : ∃ cellB : Cell, H[b]? = some cellB ∧ cellB.vm.isStatics = false ∧ s.vm.findClass K = some cellB.cls := by
    obtain ⟨cell, q1, q2, q3, -⟩ := (hR.2 b _ hsh).2.obj hc
    exact ⟨cell, q1, by rw [q3]; rfl, by rw [q2]; exact (C.2.1.1 ci _ hc).2.1⟩
  have cw := cwV n C.1.2.2.2.2 (am_goodV C.2.2.2.1 m1 i1 s1 n1 c1) rfl hrc hrs hd hRm
  by_cases h0 : q.2.1 = 0
  · exact am_goon (va_runV (As := As) (rest := st) C.1 ((hM q hX1).met (by exact h0)) cw ⟨am_blind, hrecv, fun U hU hW => am_start C hFA hR hS hU hW⟩ rfl hn hL.1.1 rfl (lv_room hcat) hdg hf) hG9 hS hL (fun v w1 h => by obtain ⟨h1, h2⟩ := h; subst h1; subst h2; exact kr q h0 hX2)
  · obtain ⟨⟨hk1, hk3⟩, h, hhh, hk⟩ := kt q h0 hX2
    intro T0 hT0 X
    obtain ⟨⟨hrc', hrs', hfr', hlo', hws', hcw', hcode', hini', hy', hlen', hlink'⟩, hinst', hsel'⟩ := cw
    obtain ⟨cellB, hcB, hoB, hclB⟩ := hrecv
    obtain ⟨a, ce, T', L, X', hL', hce, hst9, hcl9, hrep, hz, hkp, hsteps⟩ := am_throwsV X C.1.1 (hM q hX1) (by exact h0) hrc' hrs' hfr' hlo' hws' hcw' C.1.2.2.2.1 hlink' hinst' hsel' hcode' (fun a' U hW => word_at hW (Or.inl (by first | rfl | simp [Cond.onTables, Cond.keeps, Cond.steady])) hini') hy' (by rw [hT0]; exact hcB) hoB hclB (g := F0 m pc ls (As.reverse ++ .ref b :: st)) rfl (hL.1.1.trans C.1.2.2.1.symm) (rest := st) (fun sig h => hn.trans (hlen' sig h)) rfl (by rw [C.1.2.1]; exact hdg) hf.1 hf.2 (lv_room hcat) (fun U hU hW => am_start C hFA hR hS (hU.trans hT0) hW)
    have hpl : e.platform.magicAccessors = ({} : Platform).magicAccessors := by rw [X.admits.platform]
    have hth : s.vm.findClass (am_X q.2.1) = some ce.cls := by
      rw [← hcl9]
      exact (X'.warmed.alike.findClass _ _).symm
    have hsl := am_sel_of (own := "RoverMinutesLaw") (args := args) (m := m) (pc := pc) hpl C.1.2.2.2.1 (fun i hi => C.1.2.2.2.2 _ (hlk i hi)) C.2.2.2.2.1.2.2.2 hk1 hk3 (C.2.2.2.2.1.word (hcs _ hk1 hk3)) hth (h := h) c.exceptionTable.toList (by rw [htab]; exact hhh)
    obtain ⟨vm', X9, go9⟩ := am_caught X' a (g := F0 m pc ls st) rfl hce hst9 (Vm.classAt_of_findClass hth) hsl
    rw [hT0] at hz hkp
    have hal : T'.vm.Alike s.vm := X'.warmed.alike.symm
    obtain ⟨t2, a1, b1⟩ := hk a (T'.setVm vm').heap (locs ++ L) ls (hrep.moved hal)
      ⟨Nat.le_trans hS.1 hz, fun x h1 h2 => (hkp x (Nat.lt_of_lt_of_le h1 hS.1) (fun z => h2 (hG9 x z))).trans (hS.2.1 x h1 h2), fun x hx => (List.mem_append.mp hx).elim (fun h => hS.2.2 x h) (fun h => hG9 _ (hL' x h))⟩ hL (T'.setVm vm') rfl X9
    exact ⟨t2, hsteps.trans (go9 t2 a1), b1⟩
theorem am_callTv (C : am_C p m c cc nL s args Ts own D cl A) (hFA : ∀ q, F q → A q) {G : Nat → Prop} (hG9 : ∀ q, G q → F q) (how : own = "RoverMinutesLaw") {hh : List (Nat × Nat × Nat × Nat)} (htab : c.exceptionTable.toList.map (fun h => (h.startPc, h.endPc, h.handlerPc, h.catchType)) = hh) (hlk : ∀ i, am_ct i ≠ 0 → Cond.classLink "RoverMinutesLaw" i (am_X (am_ct i)) ∈ Ts) (hcs : ∀ k, 1 ≤ k → k ≤ 3 → Cond.castable (am_X k) (am_X k) ∈ am_Zw) {y : MethodName} {rm : Room} {As : List Value} {mc ms index n N ci b maxL : Nat} {K : String} {T : u_T} {bytes : ByteArray} {f : Option (Int32 × Nat × am_w)} {β : Type} {K9 : Int32 × Nat × am_w → Option β} {r : β}
    (hM : ∀ q, f = some q → am_Mett l D cl ty A G y (Cond.code y bytes maxL none :: Ts) rm (.ref b :: As) w (am_tv q) mc ms) (m1 : Cond.methodLink own index y ∈ Ts) (i1 : Cond.instanceMethod y ∈ Ts) (s1 : Cond.selects K y y ∈ Ts) (n1 : Cond.initialized K ∈ Ts) (c1 : Cond.code y bytes maxL none ∈ Ts) (hrc : rm.cells = mc) (hrs : rm.slots = ms)
    (hd : y.cls = K ∧ y.cls ≠ "java/lang/invoke/MethodHandle" ∧ y.cls ≠ "java/lang/invoke/VarHandle" ∧ (parseMethodDescriptor y.desc).map (fun d => d.parameters.length) = some n) (hRm : rm.frames + 1 ≤ R.frames ∧ 8 + (maxL + 11) + rm.locals ≤ R.locals)
    (hc : cl[ci]? = some (K, T, N)) (hn : As.length = n) (hcat : (st.map fun v => v.category).sum ≤ 8) (hdg : decode cc pc = .ok (.invokevirtual index, 3)) (hf : cells + mc ≤ R.cells ∧ slots + ms ≤ R.slots) {cells1 slots1 : Nat} (hc1 : cells + mc = cells1) (hs1 : slots + ms = slots1) {st0 : List Value} (hst : st0 = As.reverse ++ .ref b :: st) (hX : (am_ob ci b w f).bind K9 = some r)
    (kr : ∀ q : Int32 × Nat × am_w, q.2.1 = 0 → K9 q = some r → am_V p l e R s m args below meth c D cl ty A F nL cells1 slots1 Q (pc + 3) lo st q.2.2)
    (kt : ∀ q : Int32 × Nat × am_w, ¬ q.2.1 = 0 → K9 q = some r → (1 ≤ q.2.1 ∧ q.2.1 ≤ 3) ∧ ∃ h, am_h hh pc q.2.1 = some h ∧ ∀ a : Nat, am_V p l e R s m args below meth c D cl ty A F nL cells1 slots1 Q h lo [.ref a] q.2.2) : am_V p l e R s m args below meth c D cl ty A F nL cells slots Q pc lo st0 w := by
  obtain ⟨q, hX0, hX2⟩ := am_bind hX
  obtain ⟨hsh, hX1⟩ := am_ob_of hX0
  subst hst
  subst hc1
  subst hs1
  subst how
  intro H locs ls hR hS hL
  have hrecv : ∃ cellB : Cell, H[b]? = some cellB ∧ cellB.vm.isStatics = false ∧ s.vm.findClass K = some cellB.cls := by
    obtain ⟨cell, q1, q2, q3, -⟩ := (hR.2 b _ hsh).2.obj hc
    exact ⟨cell, q1, by rw [q3]; rfl, by rw [q2]; exact (C.2.1.1 ci _ hc).2.1⟩
  have cw := cwV n C.1.2.2.2.2 (am_goodV C.2.2.2.1 m1 i1 s1 n1 c1) rfl hrc hrs hd hRm
  by_cases h0 : q.2.1 = 0
  · exact am_goon (va_runV (As := As) (rest := st) C.1 ((hM q hX1).met (by exact h0)) cw ⟨am_blind, hrecv, fun U hU hW => am_start C hFA hR hS hU hW⟩ rfl hn hL.1.1 rfl (lv_room hcat) hdg hf) hG9 hS hL (fun v w1 h => by obtain ⟨h1, h2⟩ := h; subst h1; subst h2; exact kr q h0 hX2)
  · obtain ⟨⟨hk1, hk3⟩, h, hhh, hk⟩ := kt q h0 hX2
    intro T0 hT0 X
    obtain ⟨⟨hrc', hrs', hfr', hlo', hws', hcw', hcode', hini', hy', hlen', hlink'⟩, hinst', hsel'⟩ := cw
    obtain ⟨cellB, hcB, hoB, hclB⟩ := hrecv
    obtain ⟨a, ce, T', L, X', hL', hce, hst9, hcl9, hrep, hz, hkp, hsteps⟩ := am_throwsV X C.1.1 (hM q hX1) (by exact h0) hrc' hrs' hfr' hlo' hws' hcw' C.1.2.2.2.1 hlink' hinst' hsel' hcode' (fun a' U hW => word_at hW (Or.inl (by first | rfl | simp [Cond.onTables, Cond.keeps, Cond.steady])) hini') hy' (by rw [hT0]; exact hcB) hoB hclB (g := F0 m pc ls (As.reverse ++ .ref b :: st)) rfl (hL.1.1.trans C.1.2.2.1.symm) (rest := st) (fun sig h => hn.trans (hlen' sig h)) rfl (by rw [C.1.2.1]; exact hdg) hf.1 hf.2 (lv_room hcat) (fun U hU hW => am_start C hFA hR hS (hU.trans hT0) hW)
    have hpl : e.platform.magicAccessors = ({} : Platform).magicAccessors := by rw [X.admits.platform]
    have hth : s.vm.findClass (am_X q.2.1) = some ce.cls := by
      rw [← hcl9]
      exact (X'.warmed.alike.findClass _ _).symm
    have hsl := am_sel_of (own := "RoverMinutesLaw") (args := args) (m := m) (pc := pc) hpl C.1.2.2.2.1 (fun i hi => C.1.2.2.2.2 _ (hlk i hi)) C.2.2.2.2.1.2.2.2 hk1 hk3 (C.2.2.2.2.1.word (hcs _ hk1 hk3)) hth (h := h) c.exceptionTable.toList (by rw [htab]; exact hhh)
    obtain ⟨vm', X9, go9⟩ := am_caught X' a (g := F0 m pc ls st) rfl hce hst9 (Vm.classAt_of_findClass hth) hsl
    rw [hT0] at hz hkp
    have hal : T'.vm.Alike s.vm := X'.warmed.alike.symm
    obtain ⟨t2, a1, b1⟩ := hk a (T'.setVm vm').heap (locs ++ L) ls (hrep.moved hal)
      ⟨Nat.le_trans hS.1 hz, fun x h1 h2 => (hkp x (Nat.lt_of_lt_of_le h1 hS.1) (fun z => h2 (hG9 x z))).trans (hS.2.1 x h1 h2), fun x hx => (List.mem_append.mp hx).elim (fun h => hS.2.2 x h) (fun h => hG9 _ (hL' x h))⟩ hL (T'.setVm vm') rfl X9
    exact ⟨t2, hsteps.trans (go9 t2 a1), b1⟩
/-- a contract of a method with a table -/
theorem am_ofVW {y : MethodName} {Tw : List Cond} {rm : Room} {maxL mc ms : Nat} {ret : Option FieldType} {hh : List (Nat × Nat × Nat × Nat)} {av : List Value} {post : Option Value → am_w → Prop}
    (hy : plainName y.cls = true) (hall : ∀ w ∈ Tw, goodWord w = true) (hlen : (lg_sl av).length ≤ maxL) (hcat : ∀ v ∈ av, v.category = 1)
    (body : ∀ (p : Program) (e : Env) (s : State) (m : MethodId) (below : List Frame) (meth : Method) (c : Code), am_C p m c cc maxL s av.toArray Tw y.cls D cl A → meth.sig.returnType = ret → meth.locks = false → c.exceptionTable.toList.map (fun h => (h.startPc, h.endPc, h.handlerPc, h.catchType)) = hh →
      am_V p l e rm s m av.toArray below meth c D cl ty A F maxL 0 0 (MQ below (am_Q D cl ty A F post) av.toArray s mc ms F) 0 (av.map some ++ List.replicate (maxL - av.length) none) [] w) : am_Met l D cl ty A F y (Cond.codeWith y cc maxL ret hh :: Tw) rm av w post mc ms := by
  refine va_MetW (ws := Cond.codeWith y cc maxL ret hh :: Tw) (hh := hh) hy rfl ?_
  intro p e s m args below meth c s₁ B hml hv
  obtain ⟨rfl, hrep, hK, hA, hZ, hY⟩ := hv
  have htab : c.exceptionTable.toList.map (fun h => (h.startPc, h.endPc, h.handlerPc, h.catchType)) = hh := by
    obtain ⟨m9, meth9, c9, hn9, h1, h2, h3, h4, h5, -⟩ := Cond.codeWith_spec (atoms_spec (ws := Cond.codeWith y cc maxL ret hh :: Tw) B.pre _ List.mem_cons_self)
    have X := Stand.of_body B
    cases B.named.symm.trans hn9
    have e1 : meth9 = meth := Option.some.inj (h1.symm.trans X.method)
    subst e1
    have e2 : c9 = c := Option.some.inj (h2.symm.trans X.code)
    subst e2
    exact h5
  rw [lg_entry_eq]
  exact body p e s m below meth c ⟨⟨B.exec, B.bytes, hml, findClass_of_methodNamed B.named, fun w h9 => atoms_spec (ws := Cond.codeWith y cc maxL ret hh :: Tw) B.pre w (List.mem_cons_of_mem _ h9)⟩, hK, hA, hall, hZ, hY⟩ B.returns B.notSynchronized htab s.heap [] _ hrep va_S.rf ((am_ls.entry av hlen hcat).sub (fun i v h => am_pad h))
/-- a static call of a method with a table -/
theorem am_callSW (C : am_C p m c cc nL s args Ts own D cl A) (hFA : ∀ q, F q → A q) {G : Nat → Prop} (hG9 : ∀ q, G q → F q) {y : MethodName} {rm : Room} {As : List Value} {mc ms index n maxL : Nat} {bytes : ByteArray} {rt : FieldType} {hh : List (Nat × Nat × Nat × Nat)} {f : Option (Int32 × am_w)} {β : Type} {K9 : Int32 × am_w → Option β} {r : β}
    (hM : ∀ q, f = some q → am_Met l D cl ty A G y (Cond.codeWith y bytes maxL (some rt) hh :: Ts) rm As w (am_ri q) mc ms) (m1 : Cond.methodLink own index y ∈ Ts) (t1 : Cond.static y ∈ Ts) (n1 : Cond.initialized y.cls ∈ Ts) (c1 : Cond.codeWith y bytes maxL (some rt) hh ∈ Ts) (hrc : rm.cells = mc) (hrs : rm.slots = ms)
    (hd : y.cls ≠ "java/lang/invoke/MethodHandle" ∧ y.cls ≠ "java/lang/invoke/VarHandle" ∧ (parseMethodDescriptor y.desc).map (fun d => d.parameters.length) = some n) (hRm : rm.frames + 1 ≤ R.frames ∧ 8 + (maxL + 11) + rm.locals ≤ R.locals)
    (hn : As.length = n) (hcat : (st.map fun v => v.category).sum ≤ 8) (hdg : decode cc pc = .ok (.invokestatic index, 3)) (hf : cells + mc ≤ R.cells ∧ slots + ms ≤ R.slots) {cells1 slots1 : Nat} (hc1 : cells + mc = cells1) (hs1 : slots + ms = slots1) {st0 : List Value} (hst : st0 = As.reverse ++ st) (hX : f.bind K9 = some r) (kk : ∀ q : Int32 × am_w, K9 q = some r → am_V p l e R s m args below meth c D cl ty A F nL cells1 slots1 Q (pc + 3) lo (.int q.1 :: st) q.2) : am_V p l e R s m args below meth c D cl ty A F nL cells slots Q pc lo st0 w := by
  obtain ⟨q, hX1, hX2⟩ := am_bind hX
  subst hst
  subst hc1
  subst hs1
  intro H locs ls hR hS hL
  have hgood : GoodIn Ts (Cond.codeWith y bytes maxL (some rt) hh :: Ts) := am_good C.2.2.2.1 (fun w hw => (List.mem_cons.mp hw).elim (fun h => h ▸ c1) id)
  have hK : Back l R p e below s args y 3 8 (PreOf R mc ms (am_P D cl ty A As w)) (PostOf (am_Q D cl ty A G (am_ri q)) mc ms G) :=
    va_backW (hh := hh) (bytes := bytes) (maxL := maxL) (ret := some rt) (hM q hX1) am_blind hrc hrs hRm.1 hRm.2 (pay_in C.1.2.2.2.2 hgood) List.mem_cons_self (fun a' U hW => word_at hW (Or.inl (by first | rfl | simp [Cond.onTables, Cond.keeps, Cond.steady])) (C.1.2.2.2.2 _ n1))
  have hrun : va_Run p l e R s m args below meth c H locs cells slots mc ms (F0 m pc ls (As.reverse ++ st)) st (am_Q D cl ty A G (am_ri q) As.toArray) G := by
    intro T hT X
    obtain ⟨mk, methM, cM, hnamed, hmethM, -, -, -, -, -, -, hsigM⟩ := Cond.codeWith_spec (C.1.2.2.2.2 _ c1)
    have hstatic : methM.isStatic = true := Cond.static_spec hnamed hmethM (C.1.2.2.2.2 _ t1)
    obtain ⟨kP, hkP, -⟩ := className_of_methodNamed hnamed
    have hinitP : kP.init = .initialized := Cond.initialized_spec (findClass_of_methodNamed hnamed) hkP (C.1.2.2.2.2 _ n1)
    have hlen : As.length = methM.sig.parameters.length := by
      have h2 := hd.2.2
      rw [hsigM] at h2
      exact hn.trans (Option.some.inj h2).symm
    obtain ⟨vm₁, X₁, hstep₁⟩ := X.invokestatic C.1.1 C.1.2.2.2.1 (C.1.2.2.2.2 _ m1) hnamed hmethM hstatic hkP hinitP ⟨hd.1, hd.2.1⟩ (g := F0 m pc ls (As.reverse ++ st)) rfl (argsL := As) (rest := st) hlen rfl (by rw [C.1.2.1]; exact hdg)
    obtain ⟨v, ⟨U', l2, c2, s2⟩, X', ⟨g', mk', t, L, e1, e2, hq, h1, hL9, h2, h3⟩, hsteps⟩ := hK m meth c ⟨T.setVm vm₁, locs, cells, slots⟩ (F0 m pc ls st) (.invokestatic index) mk As.toArray X₁ rfl (hL.1.1.trans C.1.2.2.1.symm) (by rw [C.1.2.1]; exact hdg) (lv_room hcat) (X₁.named hnamed) ⟨hf.1, hf.2, am_start C hFA hR hS hT X₁.warmed⟩
    dsimp only [Pt.U, Pt.locs, Pt.cells, Pt.slots] at X' e1 e2 h1 h2 h3 hsteps
    subst h1; subst h2; subst h3
    exact ⟨v, (T.setVm vm₁).calling g' mk' As.toArray, t, U', L, hT, X', hL9, e1, e2, hq, fun target h => hstep₁ _ fun acts => by rw [doInvoke_state]; exact hsteps.trans h⟩
  exact am_goon hrun hG9 hS hL (fun v w1 h => by obtain ⟨h1, h2⟩ := h; subst h1; subst h2; exact kk q hX2)
end AML
