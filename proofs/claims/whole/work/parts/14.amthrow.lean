section AMT
variable {p : Program} {l : Launch} {e : Env} {R : Room} {s : State} {m : MethodId} {args : Array Value} {below : List Frame} {meth : Method} {c : Code} {cells slots : Nat} {Q : State → Prop}
variable {cc : ByteArray} {own : String} {Ts : List Cond} {nL : Nat} {D : va_G} {cl : List vw_C} {ty : Nat → Nat → FieldType} {A F : Nat → Prop}
variable {pc : Nat} {lo : List (Option Value)} {st : List Value} {w : am_w} {a : Nat}
/-- the world behind a throw: a cell more, which is no part of it -/
def am_th (w : am_w) : am_w := (w.1 + 1, w.2)
/-- an end that answers (number 0) or throws -/
def am_Qt (D : va_G) (cl : List vw_C) (ty : Nat → Nat → FieldType) (A G : Nat → Prop) (q : Option Value × Nat × am_w) : Array Value → State → Outcome → State → Prop := fun _ st o t =>
  (((q.2.1 = 0 ∧ o = .returned q.1) ∨ (¬ q.2.1 = 0 ∧ ∃ (a : Addr) (ce : Cell), o = .threw a ∧ t.heap[a]? = some ce ∧ ce.vm.isStatics = false ∧ t.vm.findClass (am_X q.2.1) = some ce.cls)) ∧ am_rep D cl ty A t q.2.2 t.heap) ∧ va_F G st t
def am_E (s t : State) (L : List Loc) (k n : Nat) : Prop := s.WarmedH t.vm ∧ s.sameButNew ({ t with vm := s.vm } : State) L k n
def am_MQt (below : List Frame) (Qc : Array Value → State → Outcome → State → Prop) (a : Array Value) (s : State) (mc ms : Nat) (free : Addr → Prop) : State → Prop := fun t =>
  ∃ o, t.status = .running ∧ Ended t below o ∧ Qc a s o t ∧ ∃ L, am_E s t L mc ms ∧ ∀ q ∈ L, free q.base
def am_Mett (l : Launch) (D : va_G) (cl : List vw_C) (ty : Nat → Nat → FieldType) (A G : Nat → Prop) (y : MethodName) (ws : List Cond) (rm : Room) (av : List Value) (w : am_w) (q : Option Value × Nat × am_w) (mc ms : Nat) : Prop :=
  MetFree l y (headSpec ws rm) (am_P D cl ty A av w) (fun _ _ _ _ _ => True) (fun a st o t => am_Qt D cl ty A G q a st o t ∧ ∃ L, am_E st t L mc ms ∧ ∀ x ∈ L, G x.base)
def am_ti (r : Int32 × Nat × am_w) : Option Value × Nat × am_w := (some (.int r.1), r.2)
def am_tv (r : Int32 × Nat × am_w) : Option Value × Nat × am_w := (none, r.2)
theorem am_ti_of {x : Int32} {k : Nat} {w : am_w} {r : Int32 × Nat × am_w} (h : some (x, k, w) = some r) : (some (.int x), k, w) = am_ti r := by cases h; rfl
theorem am_tv_of {x : Int32} {k : Nat} {w : am_w} {r : Int32 × Nat × am_w} (h : some (x, k, w) = some r) : ((none : Option Value), k, w) = am_tv r := by cases h; rfl
theorem am_mono {H : Heap} {locs : List Loc} {Q1 : State → Prop} {g : JFrame} (h : ∀ t, Q1 t → Q t) (k : W p l e R s m args below meth c H locs cells slots Q1 g) : W p l e R s m args below meth c H locs cells slots Q g := fun T hT X =>
  let ⟨t, a, b⟩ := k T hT X
  ⟨t, a, h t b⟩
theorem am_MQ_t {Qc : Array Value → State → Outcome → State → Prop} {mc ms : Nat} (t : State) (h : MQ below Qc args s mc ms F t) : am_MQt below Qc args s mc ms F t := by
  obtain ⟨o, h1, h2, h3, L, hF, hL⟩ := h
  exact ⟨o, h1, h2, h3, L, hF.2, hL⟩
theorem am_irett (C : am_C p m c cc nL s args Ts own D cl A) {r : Int32 × Nat × am_w} {mc ms : Nat} {v : Int32} {t9 : FieldType} (hr9 : meth.sig.returnType = some t9) (hlocks : meth.locks = false) (hdg : decode cc pc = .ok (.ireturn, 1)) (hn : narrow t9 (.int v) = .int v) (h1 : cells ≤ mc) (h2 : slots ≤ ms) (hX : some (v, 0, w) = some r) :
    am_V p l e R s m args below meth c D cl ty A F nL cells slots (am_MQt below (am_Qt D cl ty A F (am_ti r)) args s mc ms F) pc lo [.int v] w := by
  cases hX
  exact am_widen h1 h2 (fun H locs ls hR hS hL => am_mono (fun t h => am_MQ_t t h) (W.zret C.1.1 C.1.2.1 hr9 hn (fun t ht hW => ⟨⟨Or.inl ⟨rfl, rfl⟩, by rw [ht]; exact hR.moved hW.alike⟩, hS.F ht⟩) hS.2.2 hdg hlocks))
theorem am_zrett (C : am_C p m c cc nL s args Ts own D cl A) {r : Int32 × Nat × am_w} {mc ms : Nat} {v : Int32} (hr9 : meth.sig.returnType = some .boolean) (hlocks : meth.locks = false) (hdg : decode cc pc = .ok (.ireturn, 1)) (h1 : cells ≤ mc) (h2 : slots ≤ ms) (hX : (if v &&& 1 = v then some (v, 0, w) else none) = some r) :
    am_V p l e R s m args below meth c D cl ty A F nL cells slots (am_MQt below (am_Qt D cl ty A F (am_ti r)) args s mc ms F) pc lo [.int v] w := by
  by_cases h : v &&& 1 = v
  · exact am_irett C hr9 hlocks hdg (by show Value.int (v &&& 1) = .int v; rw [h]) h1 h2 ((if_pos h).symm.trans hX)
  · rw [if_neg h] at hX
    cases hX
theorem am_vrett (C : am_C p m c cc nL s args Ts own D cl A) {r : Int32 × Nat × am_w} {mc ms : Nat} (hr9 : meth.sig.returnType = none) (hlocks : meth.locks = false) (hdg : decode cc pc = .ok (.return_, 1)) (h1 : cells ≤ mc) (h2 : slots ≤ ms) (hX : some ((0 : Int32), 0, w) = some r) :
    am_V p l e R s m args below meth c D cl ty A F nL cells slots (am_MQt below (am_Qt D cl ty A F (am_tv r)) args s mc ms F) pc lo [] w := by
  cases hX
  exact am_widen h1 h2 (fun H locs ls hR hS hL => am_mono (fun t h => am_MQ_t t h) (W.vret C.1.1 C.1.2.1 hr9 (fun t ht hW => ⟨⟨Or.inl ⟨rfl, rfl⟩, by rw [ht]; exact hR.moved hW.alike⟩, hS.F ht⟩) hS.2.2 hdg hlocks))
/-- a contract that answers or throws, out of a walk from its entry -/
theorem am_ofVt {y : MethodName} {Tw : List Cond} {rm : Room} {maxL mc ms : Nat} {ret : Option FieldType} {av : List Value} {q : Option Value × Nat × am_w} {F0 : Nat → Prop}
    (hy : plainName y.cls = true) (hall : ∀ w ∈ Tw, goodWord w = true) (hlen : (lg_sl av).length ≤ maxL) (hcat : ∀ v ∈ av, v.category = 1)
    (body : ∀ (p : Program) (e : Env) (s : State) (m : MethodId) (below : List Frame) (meth : Method) (c : Code), am_C p m c cc maxL s av.toArray Tw y.cls D cl A → meth.sig.returnType = ret → meth.locks = false → meth.name = y.name → c.exceptionTable.toList = [] →
      am_V p l e rm s m av.toArray below meth c D cl ty A F0 maxL 0 0 (am_MQt below (am_Qt D cl ty A F q) av.toArray s mc ms F) 0 (av.map some ++ List.replicate (maxL - av.length) none) [] w) : am_Mett l D cl ty A F y (Cond.code y cc maxL ret :: Tw) rm av w q mc ms := by
  refine MetFree.of_bodyS (code := cc) (maxLocals := maxL) (ret := ret) hy ?_ ?_
  · intro args s m h hn
    obtain ⟨meth, c, h1, h2, h3, h4, h5, h6, -, -⟩ := Cond.code_spec hn (atoms_spec (ws := Cond.code y cc maxL ret :: Tw) h _ List.mem_cons_self)
    exact ⟨meth, c, h1, h2, h3, h4, h5, h6⟩
  · intro p e s m args below meth c s₁ B hml hv _
    obtain ⟨rfl, hrep, hK, hA, hZ, hY⟩ := hv
    have hh0 : s₁.heap = s.heap := by rw [B.state]; rfl
    have hex : c.exceptionTable.toList = [] := by
      obtain ⟨meth', c', h1, h2, -, -, -, -, h7, -⟩ := Cond.code_spec B.named (atoms_spec (ws := Cond.code y cc maxL ret :: Tw) B.pre _ List.mem_cons_self)
      have X := Stand.of_body B
      have e1 : meth' = meth := Option.some.inj (h1.symm.trans X.method)
      subst e1
      have e2 : c' = c := Option.some.inj (h2.symm.trans X.code)
      subst e2
      simpa using h7
    have hw := body p e s m below meth c ⟨⟨B.exec, B.bytes, hml, findClass_of_methodNamed B.named, fun w h9 => atoms_spec (ws := Cond.code y cc maxL ret :: Tw) B.pre w (List.mem_cons_of_mem _ h9)⟩, hK, hA, hall, hZ, hY⟩ B.returns B.notSynchronized (name_of_methodNamed B.named B.method).1 hex s.heap [] _ hrep va_S.rf ((am_ls.entry av hlen hcat).sub (fun i v h => am_pad h))
    rw [← lg_entry_eq] at hw
    obtain ⟨t, a1, o, b1, b2, b3⟩ := hw s₁ hh0 (Stand.of_body B)
    exact ⟨t, o, a1, b1, b2, b3⟩
abbrev am_names : List String := ["java/lang/RuntimeException", "java/lang/Exception"]
def am_OA (own : String) (ic k : Nat) : Prop := ∀ a ∈ Bundle.ownAtoms0 own ic (am_X k) am_names, a ∈ am_Zw ∨ a ∈ am_Yw
theorem am_X_fit (k : Nat) : Bundle.fit (am_X k) = true := by
  unfold am_X
  split
  · decide
  · split <;> decide
-- new, dup, the constructor, athrow
set_option maxHeartbeats 4000000 in
theorem am_throw (C : am_C p m c cc nL s args Ts own D cl A) (hl : l.stackTraces = false) (hlk : meth.locks = false) (hex : c.exceptionTable.toList = []) {k index ic : Nat} (hk : ¬ k = 0) (hcl : Cond.classLink own index (am_X k) ∈ Ts) (hinst : Cond.instantiable (am_X k) 6 ∈ Ts) (hini : Cond.initialized (am_X k) ∈ Ts) (hoa : am_OA own ic k)
    (hd0 : decode cc pc = .ok (.new index, 3)) (hd3 : decode cc (pc + 3) = .ok (.dup, 1)) (hd4 : decode cc (pc + 3 + 1) = .ok (.invokespecial ic, 3)) (hd7 : decode cc (pc + 3 + 1 + 3) = .ok (.athrow, 1)) (hfr : 5 < R.frames) (hlo : (st.map fun v => v.category).sum + 90 ≤ R.locals) (hcells : 0 + 1 ≤ R.cells) (hslots : 0 + 6 ≤ R.slots) (u : Bool) {r : Option Value × Nat × am_w} {v9 : Option Value} (hX : (v9, k, am_th w) = r) :
    am_V p l e R s m args below meth c D cl ty A (am_F A false) nL 0 0 (am_MQt below (am_Qt D cl ty A (am_F A u) r) args s 1 6 (am_F A u)) pc lo st w := by
  subst hX
  intro H locs ls hR hS hL
  have hts := C.1.2.2.2.2
  have hno : locs = [] := by
    cases locs with
    | nil => rfl
    | cons x xs => exact absurd (hS.2.2 x List.mem_cons_self).1 (by decide)
  subst hno
  obtain ⟨cX, kX, hfX, hkX, -⟩ := Cond.instantiable_spec (hts _ hinst)
  have hle : s.heap.size ≤ w.1 := by rw [← hR.1]; exact hS.1
  refine W.newcK C.1.1 C.1.2.1 C.1.2.2.2.1 (hts _ hcl) (hts _ hinst) (hts _ hini) rfl hd0 hcells hslots hfX hR.1 fun H1 kC hkC e1 z1 o1 => ?_
  refine lv_dup C.1.1 C.1.2.1 hd3 rfl ?_
  intro T hT XS
  have htr : e.platform.stackTraces = false := by rw [XS.admits.platform]; exact hl
  have hat : ∀ a ∈ Bundle.ownAtoms0 own ic (am_X k) am_names, a.before args s = true := by
    intro a ha
    rcases hoa a ha with h | h
    · exact C.2.2.2.2.1.word h
    · exact C.2.2.2.2.2.word a h
  obtain ⟨U, hst, hrun, hend, hW, hsame, ce, hce, hoc⟩ := XS.ctorThrow0 (cls := am_X k) (names := am_names) (a := w.1) (g := F0 m (pc + 3 + 1) ls (.ref w.1 :: .ref w.1 :: st)) (rest := st) C.1.1 htr C.1.2.2.2.1 (am_X_fit k) (by decide) hat (fun x hx => by cases hx) hfX hkC (by rw [hT]; exact e1) hle rfl (hL.1.1.trans C.1.2.2.1.symm) rfl rfl rfl (by rw [C.1.2.1]; exact hd4) (by rw [C.1.2.1]; exact hd7) (fun x hx => by rw [hex] at hx; cases hx) (by show 2 + 3 < R.frames; exact hfr) (by
    show 2 * 0 + ((Value.ref w.1 :: st).map fun v => v.category).sum + (13 * (2 + 1) + 41) ≤ R.locals
    simp only [List.map_cons, List.sum_cons]
    show 2 * 0 + (1 + _) + (13 * (2 + 1) + 41) ≤ R.locals
    omega) hlk
  have hw1 : w.1 = s.heap.size := by
    have h1 := XS.heapSize
    rw [hT, z1] at h1
    omega
  have hU1 : s.heap.size ≤ U.heap.size := hsame.2.1
  have hU2 : U.heap.size ≤ s.heap.size + (0 + 1) := hsame.2.2.1
  have hlt : w.1 < U.heap.size := (Array.getElem?_eq_some_iff.mp hce).1
  have hold : ∀ q, q < s.heap.size → U.heap[q]? = s.heap[q]? := by
    intro q hq
    obtain ⟨c', h1, h2, h3, h4⟩ := hsame.2.2.2.2.2 q _ (Array.getElem?_eq_getElem hq)
    have h5 : c'.slots = (s.heap[q]).slots := Array.ext_getElem? (fun i => h4 i (by simp))
    have h6 : U.heap[q]? = some c' := h1
    rw [h6, h2, h5, Array.getElem?_eq_getElem hq]
  refine ⟨U, hst, .threw w.1, hrun, hend, ⟨⟨Or.inr ⟨hk, w.1, ce, rfl, hce, by rw [hoc.vm]; rfl, ?_⟩, ?_, fun a e9 he => ?_⟩, hU1, fun q h1 _ => hold q h1⟩, [], ⟨hW, hsame⟩, fun q hq => by cases hq⟩
  · have h1 := hoc.cls
    rw [← h1]
    exact hW.alike.findClass _ _
  · show U.heap.size = w.1 + 1
    omega
  · have h2 := hR.2 a e9 he
    have h3 : a < H.size := h2.2.lt
    rw [hR.1, hw1] at h3
    refine ⟨h2.1, (h2.2.kept (H1 := U.heap) ?_ (fun _ => rfl) (fun _ => rfl)).moved hW.alike⟩
    rw [hold a h3, hS.2.1 a h3 (fun z => absurd z.1 (by decide))]
end AMT
