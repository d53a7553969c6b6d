section AMH
variable {p : Program} {l : Launch} {e : Env} {R : Room} {s : State} {m : MethodId} {args : Array Value} {below : List Frame} {meth : Method} {c : Code} {cells slots : Nat} {Q : State → Prop}
variable {cc : ByteArray} {own : String} {Ts : List Cond} {nL : Nat} {D : va_G} {cl : List vw_C} {ty : Nat → Nat → FieldType} {A F : Nat → Prop}
variable {pc : Nat} {lo : List (Option Value)} {st : List Value} {w : am_w} {a : Nat} {β : Type} {r : β}
/-- a switch, case by case -/
theorem am_tsw (C : am_C p m c cc nL s args Ts own D cl A) {dflt lo9 hi9 : Int} {offs : Array Int} {len : Nat} {x k : Int32} {off : Int} {tgt : Nat} {X1 X2 : β} (hdg : decode cc pc = .ok (.tableswitch dflt lo9 hi9 offs, len)) (h1 : ¬ k.toInt < lo9) (h2 : ¬ hi9 < k.toInt) (ho : offs[(k.toInt - lo9).toNat]? = some off) (ht : (pc : Int) + off = (tgt : Int)) (hX : (if x = k then X1 else X2) = r) (kt : X1 = r → am_V p l e R s m args below meth c D cl ty A F nL cells slots Q tgt lo st w) (kf : ¬ x = k → X2 = r → am_V p l e R s m args below meth c D cl ty A F nL cells slots Q pc lo (.int x :: st) w) : am_V p l e R s m args below meth c D cl ty A F nL cells slots Q pc lo (.int x :: st) w := by
  by_cases h : x = k
  · subst h
    exact am_tableIn C hdg h1 h2 ho ht (kt ((if_pos rfl).symm.trans hX))
  · exact kf h ((if_neg h).symm.trans hX)
theorem am_ne {x : Int32} {k : Int} (h : ¬ x = Int32.ofInt k) (hk : (Int32.ofInt k).toInt = k) : x.toInt ≠ k := fun q => h (Int32.toInt_inj.mp (q.trans hk.symm))
theorem am_cell.obj {hi : am_I} {hr : am_R} {H : Heap} {ci : Nat} {K : String} {T : u_T} {N : Nat} (h : am_cell D cl ty s hi hr H a (.inl ci)) (hc : cl[ci]? = some (K, T, N)) : t_OB a (D.1 ci) N (D.2 ci) H (fun k => am_v (ty ci k) (hi a k) (hr a k)) := by
  obtain ⟨r, h1, h2⟩ := h
  have hr : r = (K, T, N) := Option.some.inj (h1.symm.trans hc)
  subst hr
  exact h2
/-- getfield, any type -/
theorem am_getv (C : am_C p m c cc nL s args Ts own D cl A) {ref K : String} {T : u_T} {N ci index : Nat} (hin : ∀ w ∈ u_ws K T N, w ∈ Ts) (hsh : w.2.1 a = some (.inl ci)) (hc : cl[ci]? = some (K, T, N)) (k : Nat) (hk : k < N) (hlink : Cond.fieldLink own index ref (T k).2.1 (T k).2.2.1 ∈ Ts) (href : (T k).1 = ref) (hdg : decode cc pc = .ok (.getfield index, 3)) {v : Value} (hv : am_v (ty ci k) (w.2.2.1 a k) (w.2.2.2 a k) = v)
    (kk : am_V p l e R s m args below meth c D cl ty A F nL cells slots Q (pc + 3) lo (v :: st) w) : am_V p l e R s m args below meth c D cl ty A F nL cells slots Q pc lo (.ref a :: st) w := by
  intro H locs ls hR hS hL
  obtain ⟨⟨hexec, hb, hml, hown, hts⟩, hK, -, -⟩ := C
  obtain ⟨cell, q1, q2, q3, q4⟩ := (hR.2 a _ hsh).2.obj hc
  obtain ⟨hS2, hfc, kC, hkC, hkind⟩ := hK.1 ci _ hc
  obtain ⟨cf, kf, fi, f, hi9, hsl⟩ := hS2 k hk
  have hi9' : s.fieldFound? ref (T k).2.1 (T k).2.2.1 = some (cf, kf, fi, f) := by rw [← href]; exact hi9
  refine W.getf hexec hb hown (hts _ hlink) hi9' (u_facts hfc hkC (u_lays hts hin hk) hi9).1 q1 (by rw [q3]; exact fun h => by cases h) (v := v) ?_ rfl rfl hdg (kk H locs ls hR hS hL)
  have hsl' : f.slot = D.2 ci k := hsl
  rw [hsl', q4 k hk]
  exact congrArg some hv
theorem am_get (C : am_C p m c cc nL s args Ts own D cl A) {ref K : String} {T : u_T} {N ci index k : Nat} (hin : ∀ w ∈ u_ws K T N, w ∈ Ts) (hc : cl[ci]? = some (K, T, N)) (hk : k < N) (hlink : Cond.fieldLink own index ref (T k).2.1 (T k).2.2.1 ∈ Ts) (href : (T k).1 = ref) (hdg : decode cc pc = .ok (.getfield index, 3)) (hty : am_k (ty ci k) = 0) {β : Type} {K9 : Int32 → Option β} {r : β} (hX : (am_fg ci k a w).bind K9 = some r)
    (kk : ∀ x, K9 x = some r → am_V p l e R s m args below meth c D cl ty A F nL cells slots Q (pc + 3) lo (.int x :: st) w) : am_V p l e R s m args below meth c D cl ty A F nL cells slots Q pc lo (.ref a :: st) w := by
  obtain ⟨x, h1, h2⟩ := am_bind hX
  obtain ⟨h3, h4⟩ := am_fg_of h1
  exact am_getv C hin h3 hc k hk hlink href hdg (am_v_i hty) (h4 ▸ kk x h2)
theorem am_getr (C : am_C p m c cc nL s args Ts own D cl A) {ref K : String} {T : u_T} {N ci index k : Nat} (hin : ∀ w ∈ u_ws K T N, w ∈ Ts) (hc : cl[ci]? = some (K, T, N)) (hk : k < N) (hlink : Cond.fieldLink own index ref (T k).2.1 (T k).2.2.1 ∈ Ts) (href : (T k).1 = ref) (hdg : decode cc pc = .ok (.getfield index, 3)) (hty : am_k (ty ci k) = 1) {β : Type} {K9 : Nat → Option β} {r : β} (hX : (am_rg ci k a w).bind K9 = some r)
    (kk : ∀ b, K9 b = some r → am_V p l e R s m args below meth c D cl ty A F nL cells slots Q (pc + 3) lo (.ref b :: st) w) : am_V p l e R s m args below meth c D cl ty A F nL cells slots Q pc lo (.ref a :: st) w := by
  obtain ⟨x, h1, h2⟩ := am_bind hX
  obtain ⟨h3, h4⟩ := am_rg_of h1
  exact am_getv C hin h3 hc k hk hlink href hdg ((am_v_r hty).trans (by rw [h4]; rfl)) (kk x h2)
/-- the world behind a store into slot k of a -/
theorem am_rep.setObj {H H1 : Heap} {ci N : Nat} {K : String} {T : u_T} {w1 : am_w} (hR : am_rep D cl ty A s w H) (hsh : w.2.1 a = some (.inl ci)) (hc : cl[ci]? = some (K, T, N)) (hz : w1.1 = w.1) (hs : w1.2.1 = w.2.1)
    (hob : t_OB a (D.1 ci) N (D.2 ci) H1 (fun j => am_v (ty ci j) (w1.2.2.1 a j) (w1.2.2.2 a j))) (z : H1.size = H.size) (oq : ∀ q : Nat, q ≠ a → H1[q]? = H[q]?) (h1 : ∀ q j, q ≠ a → w1.2.2.1 q j = w.2.2.1 q j) (h2 : ∀ q j, q ≠ a → w1.2.2.2 q j = w.2.2.2 q j) : am_rep D cl ty A s w1 H1 := by
  refine ⟨(z.trans hR.1).trans hz.symm, fun q e9 he => ?_⟩
  rw [hs] at he
  refine ⟨(hR.2 q e9 he).1, ?_⟩
  by_cases hq : q = a
  · subst hq
    have : e9 = .inl ci := Option.some.inj (he.symm.trans hsh)
    subst this
    exact ⟨_, hc, hob⟩
  · exact (hR.2 q e9 he).2.kept (oq q hq) (fun j => h1 q j hq) (fun j => h2 q j hq)
/-- putfield of an int field -/
theorem am_put (C : am_C p m c cc nL s args Ts own D cl A) (hF : ∀ q, A q → F q) {ref K : String} {T : u_T} {N ci index k : Nat} (hin : ∀ w ∈ u_ws K T N, w ∈ Ts) (ty0 : Nat → FieldType) (hty0 : ∀ k, k < N → parseFieldDescriptor (T k).2.2.1 = some (ty0 k)) (hnm : ∀ a, a < N → ∀ b, b < N → a ≠ b → (T a).2.1 ≠ (T b).2.1) (hc : cl[ci]? = some (K, T, N)) (hk : k < N) (hlink : Cond.fieldLink own index ref (T k).2.1 (T k).2.2.1 ∈ Ts) (href : (T k).1 = ref) (hfin : (T k).2.2.2 = false) {t9 : FieldType} {x : Int32} (hd : parseFieldDescriptor (T k).2.2.1 = some t9) (hn : narrow t9 (.int x) = .int x) (hfit : fits t9 (.int x) = true) (hty : am_k (ty ci k) = 0) (hdg : decode cc pc = .ok (.putfield index, 3)) {β : Type} {K9 : am_w → Option β} {r : β} (hX : (am_fp ci k a x w).bind K9 = some r)
    (kk : ∀ w1, K9 w1 = some r → am_V p l e R s m args below meth c D cl ty A F nL cells slots Q (pc + 3) lo st w1) : am_V p l e R s m args below meth c D cl ty A F nL cells slots Q pc lo (.int x :: .ref a :: st) w := by
  obtain ⟨w1, hX1, hX2⟩ := am_bind hX
  obtain ⟨hsh, hw1⟩ := am_fp_of hX1
  intro H locs ls hR hS hL
  have hap := va_apart (own := own) C.1.2.2.2.2 hin ty0 hty0 hnm C.2.1 hc
  obtain ⟨⟨hexec, hb, hml, hown, hts⟩, hK, -, -⟩ := C
  obtain ⟨cell, q1, q2, q3, q4⟩ := (hR.2 a _ hsh).2.obj hc
  obtain ⟨hS2, hfc, kC, hkC, hkind⟩ := hK.1 ci _ hc
  obtain ⟨cf, kf, fi, f, hi9, hsl⟩ := hS2 k hk
  have hsl' : f.slot = D.2 ci k := hsl
  have hi9' : s.fieldFound? ref (T k).2.1 (T k).2.2.1 = some (cf, kf, fi, f) := by rw [← href]; exact hi9
  have hlay := hts _ (hin _ (u_in_lay hk))
  unfold u_lay at hlay
  rw [if_neg (by rw [hfin]; decide)] at hlay
  have hst := (u_facts hfc hkC (u_lays hts hin hk) hi9).1
  have h6 := u_store hfc hkC hkind hlay hi9 hd hn hfit
  refine W.putK hexec hb (f := f) ⟨hown, hts _ hlink, ⟨_, _, _, hi9'⟩, hst⟩ (by rw [q2]; exact h6) q1 q3 (by rw [hsl']; exact k2_hasslot (q4 k hk)) rfl rfl hdg fun H' e1 e2 e3 => ?_
  rw [hsl'] at e1 ⊢
  refine kk w1 hX2 H' _ ls (am_rep.setObj hR hsh hc (by rw [hw1]; rfl) (by rw [hw1]; rfl) ?_ e2 e3 (fun q j h => by rw [hw1]; exact am_up_na h) (fun q j h => by rw [hw1]; rfl)) (hS.put e2 e3 (hF a (hR.2 a _ hsh).1)) hL
  refine t_OB.to (V := updV (fun j => am_v (ty ci j) (w.2.2.1 a j) (w.2.2.2 a j)) k (.int x)) ⟨_, e1, q2, q3, t_set q4 hap hk _⟩ (fun j _ => ?_)
  rw [hw1]
  by_cases hj : j = k
  · subst hj
    simp [updV, am_wi, am_up, am_v, hty, va_rf]
  · simp [updV, am_wi, am_up, hj]
/-- putfield of a reference that is not null -/
theorem am_putr (C : am_C p m c cc nL s args Ts own D cl A) (hF : ∀ q, A q → F q) {ref K : String} {T : u_T} {N ci index k : Nat} (hin : ∀ w ∈ u_ws K T N, w ∈ Ts) (ty0 : Nat → FieldType) (hty0 : ∀ k, k < N → parseFieldDescriptor (T k).2.2.1 = some (ty0 k)) (hnm : ∀ a, a < N → ∀ b, b < N → a ≠ b → (T a).2.1 ≠ (T b).2.1) (hc : cl[ci]? = some (K, T, N)) (hk : k < N) (hlink : Cond.fieldLink own index ref (T k).2.1 (T k).2.2.1 ∈ Ts) (href : (T k).1 = ref) (hfin : (T k).2.2.2 = false) {t9 : FieldType} {x : Nat} (hd : parseFieldDescriptor (T k).2.2.1 = some t9) (hn : narrow t9 (.ref x) = .ref x) (hfit : fits t9 (.ref x) = true) (hty : am_k (ty ci k) = 1) (hdg : decode cc pc = .ok (.putfield index, 3)) {β : Type} {K9 : am_w → Option β} {r : β} (hX : (am_rp ci k a x w).bind K9 = some r)
    (kk : ∀ w1, K9 w1 = some r → am_V p l e R s m args below meth c D cl ty A F nL cells slots Q (pc + 3) lo st w1) : am_V p l e R s m args below meth c D cl ty A F nL cells slots Q pc lo (.ref x :: .ref a :: st) w := by
  obtain ⟨w1, hX1, hX2⟩ := am_bind hX
  obtain ⟨hsh, hw1⟩ := am_rp_of hX1
  intro H locs ls hR hS hL
  have hap := va_apart (own := own) C.1.2.2.2.2 hin ty0 hty0 hnm C.2.1 hc
  obtain ⟨⟨hexec, hb, hml, hown, hts⟩, hK, -, -⟩ := C
  obtain ⟨cell, q1, q2, q3, q4⟩ := (hR.2 a _ hsh).2.obj hc
  obtain ⟨hS2, hfc, kC, hkC, hkind⟩ := hK.1 ci _ hc
  obtain ⟨cf, kf, fi, f, hi9, hsl⟩ := hS2 k hk
  have hsl' : f.slot = D.2 ci k := hsl
  have hi9' : s.fieldFound? ref (T k).2.1 (T k).2.2.1 = some (cf, kf, fi, f) := by rw [← href]; exact hi9
  have hlay := hts _ (hin _ (u_in_lay hk))
  unfold u_lay at hlay
  rw [if_neg (by rw [hfin]; decide)] at hlay
  have hst := (u_facts hfc hkC (u_lays hts hin hk) hi9).1
  have h6 := u_store hfc hkC hkind hlay hi9 hd hn hfit
  refine W.putK hexec hb (f := f) ⟨hown, hts _ hlink, ⟨_, _, _, hi9'⟩, hst⟩ (by rw [q2]; exact h6) q1 q3 (by rw [hsl']; exact k2_hasslot (q4 k hk)) rfl rfl hdg fun H' e1 e2 e3 => ?_
  rw [hsl'] at e1 ⊢
  refine kk w1 hX2 H' _ ls (am_rep.setObj hR hsh hc (by rw [hw1]; rfl) (by rw [hw1]; rfl) ?_ e2 e3 (fun q j h => by rw [hw1]; rfl) (fun q j h => by rw [hw1]; exact am_up_na h)) (hS.put e2 e3 (hF a (hR.2 a _ hsh).1)) hL
  refine t_OB.to (V := updV (fun j => am_v (ty ci j) (w.2.2.1 a j) (w.2.2.2 a j)) k (.ref x)) ⟨_, e1, q2, q3, t_set q4 hap hk _⟩ (fun j _ => ?_)
  rw [hw1]
  by_cases hj : j = k
  · subst hj
    simp [updV, am_wr, am_up, am_v, hty, va_rf]
  · simp [updV, am_wr, am_up, hj]
/-- the array at a -/
theorem am_arr {H : Heap} {t : FieldType} {n : Nat} (hR : am_rep D cl ty A s w H) (hsh : w.2.1 a = some (.inr (t, n))) : ∃ cA : ClassId, H[a]? = some (arrV cA n (fun j => am_v t (w.2.2.1 a j) (w.2.2.2 a j))) ∧ ArrOfT s cA t ∧ va_RA s cA t := (hR.2 a _ hsh).2
theorem am_arlen (C : am_C p m c cc nL s args Ts own D cl A) (hdg : decode cc pc = .ok (.arraylength, 1)) {β : Type} {K9 : Int32 → Option β} {r : β} (hX : (am_al a w).bind K9 = some r)
    (kk : ∀ x, K9 x = some r → am_V p l e R s m args below meth c D cl ty A F nL cells slots Q (pc + 1) lo (.int x :: st) w) : am_V p l e R s m args below meth c D cl ty A F nL cells slots Q pc lo (.ref a :: st) w := by
  obtain ⟨x, h1, h2⟩ := am_bind hX
  obtain ⟨t, n, hsh, hv⟩ := am_al_of h1
  intro H locs ls hR hS hL
  obtain ⟨cA, q1, q2, q3⟩ := am_arr hR hsh
  exact W.alen C.1.1 C.1.2.1 q1 (q2 n _) (by rw [arrV_size]; exact hv.symm) rfl rfl hdg (kk x h2 H locs ls hR hS hL)
theorem am_rep.setArr {H H1 : Heap} {t : FieldType} {n i : Nat} {cA : ClassId} {w1 : am_w} {v : Value} (hR : am_rep D cl ty A s w H) (hsh : w.2.1 a = some (.inr (t, n))) (q2 : ArrOfT s cA t) (q3 : va_RA s cA t) (hz : w1.1 = w.1) (hs : w1.2.1 = w.2.1)
    (e1 : H1[a]? = some ((arrV cA n (fun j => am_v t (w.2.2.1 a j) (w.2.2.2 a j))).setSlot i v)) (hv : ∀ j, updV (fun j => am_v t (w.2.2.1 a j) (w.2.2.2 a j)) i v j = am_v t (w1.2.2.1 a j) (w1.2.2.2 a j)) (z : H1.size = H.size) (oq : ∀ q : Nat, q ≠ a → H1[q]? = H[q]?) (h1 : ∀ q j, q ≠ a → w1.2.2.1 q j = w.2.2.1 q j) (h2 : ∀ q j, q ≠ a → w1.2.2.2 q j = w.2.2.2 q j) : am_rep D cl ty A s w1 H1 := by
  refine ⟨(z.trans hR.1).trans hz.symm, fun q e9 he => ?_⟩
  rw [hs] at he
  refine ⟨(hR.2 q e9 he).1, ?_⟩
  by_cases hq : q = a
  · subst hq
    have : e9 = .inr (t, n) := Option.some.inj (he.symm.trans hsh)
    subst this
    refine ⟨cA, ?_, q2, q3⟩
    rw [e1, arrV_store]
    congr 2
    funext j
    exact hv j
  · exact (hR.2 q e9 he).2.kept (oq q hq) (fun j => h1 q j hq) (fun j => h2 q j hq)
theorem am_iald (C : am_C p m c cc nL s args Ts own D cl A) {i : Int32} (hdg : decode cc pc = .ok (.iaload, 1)) {β : Type} {K9 : Int32 → Option β} {r : β} (hX : (am_ig a i w).bind K9 = some r)
    (kk : ∀ x, K9 x = some r → am_V p l e R s m args below meth c D cl ty A F nL cells slots Q (pc + 1) lo (.int x :: st) w) : am_V p l e R s m args below meth c D cl ty A F nL cells slots Q pc lo (.int i :: .ref a :: st) w := by
  obtain ⟨x, h1, h2⟩ := am_bind hX
  obtain ⟨n, hsh, hin, hx⟩ := am_ig_of h1
  subst hx
  intro H locs ls hR hS hL
  obtain ⟨cA, q1, q2, q3⟩ := am_arr hR hsh
  have hlt : i.toNatClampNeg < n := Nat.not_le.mp fun q => hin (Or.inr q)
  exact W.iald C.1.1 C.1.2.1 q1 (q2 n _) (fun q => by cases q) (by rw [arrV_size]; exact hin) (by rw [arrV_read _ _ hlt]; rfl) rfl rfl hdg (kk _ h2 H locs ls hR hS hL)
theorem am_cald (C : am_C p m c cc nL s args Ts own D cl A) {i : Int32} (hdg : decode cc pc = .ok (.caload, 1)) {β : Type} {K9 : Int32 → Option β} {r : β} (hX : (am_cg a i w).bind K9 = some r)
    (kk : ∀ x, K9 x = some r → am_V p l e R s m args below meth c D cl ty A F nL cells slots Q (pc + 1) lo (.int x :: st) w) : am_V p l e R s m args below meth c D cl ty A F nL cells slots Q pc lo (.int i :: .ref a :: st) w := by
  obtain ⟨x, h1, h2⟩ := am_bind hX
  obtain ⟨n, hsh, hin, hx⟩ := am_cg_of h1
  subst hx
  intro H locs ls hR hS hL
  obtain ⟨cA, q1, q2, q3⟩ := am_arr hR hsh
  have hlt : i.toNatClampNeg < n := Nat.not_le.mp fun q => hin (Or.inr q)
  exact W.cald C.1.1 C.1.2.1 q1 (q2 n _) (fun q => by cases q) (by rw [arrV_size]; exact hin) (by rw [arrV_read _ _ hlt]; rfl) rfl rfl hdg (kk _ h2 H locs ls hR hS hL)
theorem am_lald (C : am_C p m c cc nL s args Ts own D cl A) {i : Int32} (hdg : decode cc pc = .ok (.laload, 1)) {β : Type} {K9 : Int32 → Option β} {r : β} (hX : (am_lg a i w).bind K9 = some r)
    (kk : ∀ x, K9 x = some r → am_V p l e R s m args below meth c D cl ty A F nL cells slots Q (pc + 1) lo (.long x.toInt64 :: st) w) : am_V p l e R s m args below meth c D cl ty A F nL cells slots Q pc lo (.int i :: .ref a :: st) w := by
  obtain ⟨x, h1, h2⟩ := am_bind hX
  obtain ⟨n, hsh, hin, hx⟩ := am_lg_of h1
  subst hx
  intro H locs ls hR hS hL
  obtain ⟨cA, q1, q2, q3⟩ := am_arr hR hsh
  have hlt : i.toNatClampNeg < n := Nat.not_le.mp fun q => hin (Or.inr q)
  exact W.lald C.1.1 C.1.2.1 q1 (q2 n _) (fun q => by cases q) (by rw [arrV_size]; exact hin) (by rw [arrV_read _ _ hlt]; rfl) rfl rfl hdg (kk _ h2 H locs ls hR hS hL)
theorem am_iast (C : am_C p m c cc nL s args Ts own D cl A) (hF : ∀ q, A q → F q) {i x : Int32} (hdg : decode cc pc = .ok (.iastore, 1)) {β : Type} {K9 : am_w → Option β} {r : β} (hX : (am_is a i x w).bind K9 = some r)
    (kk : ∀ w1, K9 w1 = some r → am_V p l e R s m args below meth c D cl ty A F nL cells slots Q (pc + 1) lo st w1) : am_V p l e R s m args below meth c D cl ty A F nL cells slots Q pc lo (.int x :: .int i :: .ref a :: st) w := by
  obtain ⟨w1, h1, h2⟩ := am_bind hX
  obtain ⟨n, hsh, hin, hw1⟩ := am_is_of h1
  intro H locs ls hR hS hL
  obtain ⟨cA, q1, q2, q3⟩ := am_arr hR hsh
  refine W.iast C.1.1 C.1.2.1 q1 (q2 n _) (fun q => by cases q) (by rw [arrV_size]; exact hin) rfl rfl hdg fun H1 e1 z oq => ?_
  refine kk w1 h2 H1 _ ls (am_rep.setArr hR hsh q2 q3 (by rw [hw1]; rfl) (by rw [hw1]; rfl) e1 (fun j => ?_) z oq (fun q j h => by rw [hw1]; exact am_up_na h) (fun q j h => by rw [hw1]; rfl)) (hS.put z oq (hF a (hR.2 a _ hsh).1)) hL
  rw [hw1]
  by_cases hj : j = i.toNatClampNeg
  · subst hj
    simp [updV, am_wi, am_up, am_v, am_k, narrow]
  · simp [updV, am_wi, am_up, hj]
theorem am_cast (C : am_C p m c cc nL s args Ts own D cl A) (hF : ∀ q, A q → F q) {i x : Int32} (hdg : decode cc pc = .ok (.castore, 1)) {β : Type} {K9 : am_w → Option β} {r : β} (hX : (am_cs a i x w).bind K9 = some r)
    (kk : ∀ w1, K9 w1 = some r → am_V p l e R s m args below meth c D cl ty A F nL cells slots Q (pc + 1) lo st w1) : am_V p l e R s m args below meth c D cl ty A F nL cells slots Q pc lo (.int x :: .int i :: .ref a :: st) w := by
  obtain ⟨w1, h1, h2⟩ := am_bind hX
  obtain ⟨n, hsh, hin, hw1⟩ := am_cs_of h1
  intro H locs ls hR hS hL
  obtain ⟨cA, q1, q2, q3⟩ := am_arr hR hsh
  refine W.cast C.1.1 C.1.2.1 q1 (q2 n _) (fun q => by cases q) (by rw [arrV_size]; exact hin) rfl rfl hdg fun H1 e1 z oq => ?_
  refine kk w1 h2 H1 _ ls (am_rep.setArr hR hsh q2 q3 (by rw [hw1]; rfl) (by rw [hw1]; rfl) e1 (fun j => ?_) z oq (fun q j h => by rw [hw1]; exact am_up_na h) (fun q j h => by rw [hw1]; rfl)) (hS.put z oq (hF a (hR.2 a _ hsh).1)) hL
  rw [hw1]
  by_cases hj : j = i.toNatClampNeg
  · subst hj
    simp [updV, am_wi, am_up, am_v, am_k, narrow]
  · simp [updV, am_wi, am_up, hj]
theorem am_last (C : am_C p m c cc nL s args Ts own D cl A) (hF : ∀ q, A q → F q) {i x : Int32} (hdg : decode cc pc = .ok (.lastore, 1)) {β : Type} {K9 : am_w → Option β} {r : β} (hX : (am_lp a i x w).bind K9 = some r)
    (kk : ∀ w1, K9 w1 = some r → am_V p l e R s m args below meth c D cl ty A F nL cells slots Q (pc + 1) lo st w1) : am_V p l e R s m args below meth c D cl ty A F nL cells slots Q pc lo (.long x.toInt64 :: .int i :: .ref a :: st) w := by
  obtain ⟨w1, h1, h2⟩ := am_bind hX
  obtain ⟨n, hsh, hin, hw1⟩ := am_lp_of h1
  intro H locs ls hR hS hL
  obtain ⟨cA, q1, q2, q3⟩ := am_arr hR hsh
  refine W.last C.1.1 C.1.2.1 q1 (q2 n _) (fun q => by cases q) (by rw [arrV_size]; exact hin) rfl rfl hdg fun H1 e1 z oq => ?_
  refine kk w1 h2 H1 _ ls (am_rep.setArr hR hsh q2 q3 (by rw [hw1]; rfl) (by rw [hw1]; rfl) e1 (fun j => ?_) z oq (fun q j h => by rw [hw1]; exact am_up_na h) (fun q j h => by rw [hw1]; rfl)) (hS.put z oq (hF a (hR.2 a _ hsh).1)) hL
  rw [hw1]
  by_cases hj : j = i.toNatClampNeg
  · subst hj
    simp [updV, am_wi, am_up, am_v, am_k, narrow]
  · simp [updV, am_wi, am_up, hj]
theorem am_aald (C : am_C p m c cc nL s args Ts own D cl A) {i : Int32} (hdg : decode cc pc = .ok (.aaload, 1)) {β : Type} {K9 : Nat → Option β} {r : β} (hX : (am_ag a i w).bind K9 = some r)
    (kk : ∀ b, K9 b = some r → am_V p l e R s m args below meth c D cl ty A F nL cells slots Q (pc + 1) lo (.ref b :: st) w) : am_V p l e R s m args below meth c D cl ty A F nL cells slots Q pc lo (.int i :: .ref a :: st) w := by
  obtain ⟨b, h1, h2⟩ := am_bind hX
  obtain ⟨n, K, hsh, hin, hb9⟩ := am_ag_of h1
  intro H locs ls hR hS hL
  obtain ⟨cA, q1, q2, q3⟩ := am_arr hR hsh
  have hlt : i.toNatClampNeg < n := Nat.not_le.mp fun q => hin (Or.inr q)
  exact W.aald (ty := .object K) C.1.1 C.1.2.1 q1 (q2 n _) rfl (fun q => by cases q) (by rw [arrV_size]; exact hin) (by rw [arrV_read _ _ hlt]; show some (va_rf (w.2.2.2 a i.toNatClampNeg)) = some (.ref b); rw [hb9]; rfl) rfl rfl hdg (kk b h2 H locs ls hR hS hL)
/-- putfield of a reference into a final field, in its constructor -/
theorem am_putrF (C : am_C p m c cc nL s args Ts own D cl A) (hF : ∀ q, A q → F q) {ref K : String} {T : u_T} {N ci index k : Nat} (hin : ∀ w ∈ u_ws K T N, w ∈ Ts) (ty0 : Nat → FieldType) (hty0 : ∀ k, k < N → parseFieldDescriptor (T k).2.2.1 = some (ty0 k)) (hnm : ∀ a, a < N → ∀ b, b < N → a ≠ b → (T a).2.1 ≠ (T b).2.1) (hc : cl[ci]? = some (K, T, N)) (hk : k < N) (hlink : Cond.fieldLink own index ref (T k).2.1 (T k).2.2.1 ∈ Ts) (href : (T k).1 = ref) (hfin : (T k).2.2.2 = true) (hdecl : (T k).1 = own) (hin2 : meth.name = "<init>") {t9 : FieldType} {x : Nat} (hd : parseFieldDescriptor (T k).2.2.1 = some t9) (hn : narrow t9 (.ref x) = .ref x) (hfit : fits t9 (.ref x) = true) (hty : am_k (ty ci k) = 1) (hdg : decode cc pc = .ok (.putfield index, 3)) {β : Type} {K9 : am_w → Option β} {r : β} (hX : (am_rp ci k a x w).bind K9 = some r)
    (kk : ∀ w1, K9 w1 = some r → am_V p l e R s m args below meth c D cl ty A F nL cells slots Q (pc + 3) lo st w1) : am_V p l e R s m args below meth c D cl ty A F nL cells slots Q pc lo (.ref x :: .ref a :: st) w := by
  obtain ⟨w1, hX1, hX2⟩ := am_bind hX
  obtain ⟨hsh, hw1⟩ := am_rp_of hX1
  intro H locs ls hR hS hL
  have hap := va_apart (own := own) C.1.2.2.2.2 hin ty0 hty0 hnm C.2.1 hc
  obtain ⟨⟨hexec, hb, hml, hown, hts⟩, hK, -, -⟩ := C
  obtain ⟨cell, q1, q2, q3, q4⟩ := (hR.2 a _ hsh).2.obj hc
  obtain ⟨hS2, hfc, kC, hkC, hkind⟩ := hK.1 ci _ hc
  obtain ⟨cf, kf, fi, f, hi9, hsl⟩ := hS2 k hk
  have hsl' : f.slot = D.2 ci k := hsl
  have hi9' : s.fieldFound? ref (T k).2.1 (T k).2.2.1 = some (cf, kf, fi, f) := by rw [← href]; exact hi9
  have hlay := hts _ (hin _ (u_in_lay hk))
  unfold u_lay at hlay
  rw [if_pos hfin] at hlay
  have hst := (u_facts hfc hkC (u_lays hts hin hk) hi9).1
  have hcf : m.cls = cf := by
    obtain ⟨_, _, c', _, _, _, -, -, hf', -, -, -, hown2, -⟩ := Cond.laysFinal_spec hlay
    have e1 : c' = cf := by have := hi9.symm.trans hf'; simp at this; exact this.1.symm
    rw [hdecl] at hown2
    rw [← e1]; exact Option.some.inj (hown.symm.trans hown2)
  have h6 := u_fits hfc hkC hkind (Or.inr hlay) hi9 hd hn hfit
  refine W.putFinK hexec hb hown (hts _ hlink) hi9' hst hcf hin2 (by rw [q2]; exact h6) q1 q3 (by rw [hsl']; exact k2_hasslot (q4 k hk)) rfl rfl hdg fun H' e1 e2 e3 => ?_
  rw [hsl'] at e1 ⊢
  refine kk w1 hX2 H' _ ls (am_rep.setObj hR hsh hc (by rw [hw1]; rfl) (by rw [hw1]; rfl) ?_ e2 e3 (fun q j h => by rw [hw1]; rfl) (fun q j h => by rw [hw1]; exact am_up_na h)) (hS.put e2 e3 (hF a (hR.2 a _ hsh).1)) hL
  refine t_OB.to (V := updV (fun j => am_v (ty ci j) (w.2.2.1 a j) (w.2.2.2 a j)) k (.ref x)) ⟨_, e1, q2, q3, t_set q4 hap hk _⟩ (fun j _ => ?_)
  rw [hw1]
  by_cases hj : j = k
  · subst hj
    simp [updV, am_wr, am_up, am_v, hty, va_rf]
  · simp [updV, am_wr, am_up, hj]
theorem am_aast (C : am_C p m c cc nL s args Ts own D cl A) (hF : ∀ q, A q → F q) {K : String} {T : u_T} {N ci : Nat} {v : Nat} {i : Int32} (hc : cl[ci]? = some (K, T, N)) (hdg : decode cc pc = .ok (.aastore, 1)) {β : Type} {K9 : am_w → Option β} {r : β} (hX : (am_as9 K ci a i v w).bind K9 = some r)
    (kk : ∀ w1, K9 w1 = some r → am_V p l e R s m args below meth c D cl ty A F nL cells slots Q (pc + 1) lo st w1) : am_V p l e R s m args below meth c D cl ty A F nL cells slots Q pc lo (.ref v :: .int i :: .ref a :: st) w := by
  obtain ⟨w1, hX1, hX2⟩ := am_bind hX
  obtain ⟨n, hsh, hshv, hin, hw1⟩ := am_as9_of hX1
  intro H locs ls hR hS hL
  have hlt : i.toNatClampNeg < n := Nat.not_le.mp fun q => hin (Or.inr q)
  have h0 : ¬ i < 0 := fun q => hin (Or.inl q)
  obtain ⟨cA, q1, q2, q3⟩ := am_arr hR hsh
  obtain ⟨cellV, g1, g2, g3, -⟩ := (hR.2 v _ hshv).2.obj hc
  have hcls := (C.2.1.1 ci _ hc).2
  obtain ⟨kA, comp, k1, k2, k3, k4⟩ := q3
  have hcomp : comp = D.1 ci := Option.some.inj (k3.symm.trans hcls.1)
  subst hcomp
  obtain ⟨kC, hkC, -⟩ := hcls.2
  refine W.aast C.1.1 C.1.2.1 q1 (fun q h => by cases h) (fun h => by cases h) k1 k2 rfl hkC ⟨h0, by show _ < (arrV _ _ _).slots.size; rw [arrV_size]; exact hlt⟩ g1 (fun q h => by rw [g3] at h; cases h) (by rw [g2]; exact hkC) (by rw [g2]; exact va_assign hcls) rfl rfl hdg fun H1 e1 z oq => ?_
  refine kk w1 hX2 H1 _ ls (am_rep.setArr hR hsh q2 ⟨kA, _, k1, k2, k3, k4⟩ (by rw [hw1]; rfl) (by rw [hw1]; rfl) e1 (fun j => ?_) z oq (fun q j h => by rw [hw1]; rfl) (fun q j h => by rw [hw1]; exact am_up_na h)) (hS.put z oq (hF a (hR.2 a _ hsh).1)) hL
  rw [hw1]
  by_cases hj : j = i.toNatClampNeg
  · subst hj
    simp [updV, am_wr, am_up, am_v, am_k, va_rf]
  · simp [updV, am_wr, am_up, hj]
theorem am_objInit (C : am_C p m c cc nL s args Ts own D cl A) {idx : Nat} (hlink : Cond.methodLink own idx Lib.objectInit ∈ Ts) (hinst : Cond.instanceMethod Lib.objectInit ∈ Ts) (hcode : Cond.code Lib.objectInit ⟨#[0xb1]⟩ 1 none ∈ Ts) (hd : decode cc pc = .ok (.invokespecial idx, 3)) (hframes : 1 ≤ R.frames) (hlocals : (st.map fun v => v.category).sum + 12 ≤ R.locals)
    (kk : am_V p l e R s m args below meth c D cl ty A F nL cells slots Q (pc + 3) lo st w) : am_V p l e R s m args below meth c D cl ty A F nL cells slots Q pc lo (.ref a :: st) w := fun H locs ls hR hS hL =>
  W.objInit C.1.1 C.1.2.1 C.1.2.2.2.1 (C.1.2.2.2.2 _ hlink) (C.1.2.2.2.2 _ hinst) (C.1.2.2.2.2 _ hcode) rfl (hL.1.1.trans C.1.2.2.1.symm) rfl hd hframes (by show 2 * 0 + _ + 12 ≤ _; omega) (kk H locs ls hR hS hL)
end AMH
