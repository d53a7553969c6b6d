/-! am: a world as plain functions. hi: the ints of a cell by slot, hr: its references by slot, sh: what lies at an address, sz: the heap's size.
Nothing is cut out and joined again: a method's contract speaks of the whole world; what it leaves alone is left alone by the functions themselves. -/
abbrev am_I : Type := Nat → Nat → Int32
abbrev am_R : Type := Nat → Nat → Option Nat
/-- .inl ci: an object of the class number ci; .inr (ty, n): an array of n places of type ty -/
abbrev am_S : Type := Nat → Option (Nat ⊕ (FieldType × Nat))
/-- 1: a reference; 2: a long (the law's own array; it holds longs of ints alone); 0: an int of some width -/
def am_k (t : FieldType) : Nat := match t with
  | .object _ => 1
  | .array _ => 1
  | .long => 2
  | _ => 0
theorem am_k_int : am_k .int = 0 := rfl
def am_v (t : FieldType) (x : Int32) (r : Option Nat) : Value := if am_k t = 1 then va_rf r else if am_k t = 2 then .long x.toInt64 else .int x
theorem am_v_i {t : FieldType} {x : Int32} {r : Option Nat} (h : am_k t = 0) : am_v t x r = .int x := by simp [am_v, h]
theorem am_v_r {t : FieldType} {x : Int32} {r : Option Nat} (h : am_k t = 1) : am_v t x r = va_rf r := by simp [am_v, h]
def am_up {α : Type} (f : Nat → Nat → α) (a k : Nat) (v : α) : Nat → Nat → α := fun q j => if q = a ∧ j = k then v else f q j
theorem am_up_eq {α : Type} (f : Nat → Nat → α) (a k : Nat) (v : α) : am_up f a k v a k = v := by simp [am_up]
theorem am_up_na {α : Type} {f : Nat → Nat → α} {a k q j : Nat} {v : α} (h : q ≠ a) : am_up f a k v q j = f q j := by simp [am_up, h]
theorem am_up_nk {α : Type} {f : Nat → Nat → α} {a k q j : Nat} {v : α} (h : j ≠ k) : am_up f a k v q j = f q j := by simp [am_up, h]
def am_cell (D : va_G) (cl : List vw_C) (ty : Nat → Nat → FieldType) (s : State) (hi : am_I) (hr : am_R) (H : Heap) (a : Nat) (e : Nat ⊕ (FieldType × Nat)) : Prop := match e with
  | .inl ci => ∃ r : vw_C, cl[ci]? = some r ∧ t_OB a (D.1 ci) r.2.2 (D.2 ci) H (fun k => am_v (ty ci k) (hi a k) (hr a k))
  | .inr (t, n) => ∃ cA : ClassId, H[a]? = some (arrV cA n (fun j => am_v t (hi a j) (hr a j))) ∧ ArrOfT s cA t ∧ va_RA s cA t
/-- a world: the heap's size, what lies where, the ints, the references -/
abbrev am_w : Type := Nat × am_S × am_I × am_R
def am_rep (D : va_G) (cl : List vw_C) (ty : Nat → Nat → FieldType) (A : Nat → Prop) (s : State) (w : am_w) (H : Heap) : Prop :=
  H.size = w.1 ∧ ∀ (a : Nat) (e : Nat ⊕ (FieldType × Nat)), w.2.1 a = some e → A a ∧ am_cell D cl ty s w.2.2.1 w.2.2.2 H a e
theorem am_cell.moved {D : va_G} {cl : List vw_C} {ty : Nat → Nat → FieldType} {u U : State} {hi : am_I} {hr : am_R} {H : Heap} {a : Nat} {e : Nat ⊕ (FieldType × Nat)} (hvm : u.vm.Alike U.vm) (h : am_cell D cl ty u hi hr H a e) : am_cell D cl ty U hi hr H a e := by
  rcases e with ci | ⟨t, n⟩
  · exact h
  · obtain ⟨cA, h1, h2, h3⟩ := h
    exact ⟨cA, h1, arrOfT_moved hvm h2, h3.moved hvm⟩
theorem am_rep.moved {D : va_G} {cl : List vw_C} {ty : Nat → Nat → FieldType} {A : Nat → Prop} {u U : State} {w : am_w} {H : Heap} (hvm : u.vm.Alike U.vm) (h : am_rep D cl ty A u w H) : am_rep D cl ty A U w H :=
  ⟨h.1, fun a e he => ⟨(h.2 a e he).1, (h.2 a e he).2.moved hvm⟩⟩
theorem am_cell.kept {D : va_G} {cl : List vw_C} {ty : Nat → Nat → FieldType} {s : State} {hi hi' : am_I} {hr hr' : am_R} {H H1 : Heap} {a : Nat} {e : Nat ⊕ (FieldType × Nat)} (h : am_cell D cl ty s hi hr H a e) (hH : H1[a]? = H[a]?) (h1 : ∀ j, hi' a j = hi a j) (h2 : ∀ j, hr' a j = hr a j) : am_cell D cl ty s hi' hr' H1 a e := by
  rcases e with ci | ⟨t, n⟩
  · obtain ⟨r, q1, q2⟩ := h
    exact ⟨r, q1, (q2.kept hH).to (fun k _ => by rw [h1 k, h2 k])⟩
  · obtain ⟨cA, q1, q2, q3⟩ := h
    refine ⟨cA, ?_, q2, q3⟩
    rw [hH, q1]
    congr 2
    funext j
    rw [h1 j, h2 j]
theorem am_cell.lt {D : va_G} {cl : List vw_C} {ty : Nat → Nat → FieldType} {s : State} {hi : am_I} {hr : am_R} {H : Heap} {a : Nat} {e : Nat ⊕ (FieldType × Nat)} (h : am_cell D cl ty s hi hr H a e) : a < H.size := by
  rcases e with ci | ⟨t, n⟩
  · obtain ⟨r, q1, cell, q2, -⟩ := h
    exact (Array.getElem?_eq_some_iff.mp q2).1
  · obtain ⟨cA, q1, -⟩ := h
    exact (Array.getElem?_eq_some_iff.mp q1).1
/-! the locals by their numbers -/
def am_as (lo : List (Option Value)) : List (Nat × Value) := (List.range lo.length).filterMap (fun j => (lo.getD j none).map (fun w => (j, w)))
theorem am_as_mem {lo : List (Option Value)} {q : Nat × Value} : q ∈ am_as lo ↔ lo[q.1]? = some (some q.2) := by
  unfold am_as
  rw [List.mem_filterMap]
  constructor
  · rintro ⟨j, hj, h⟩
    rw [List.mem_range] at hj
    rw [List.getD_eq_getElem?_getD, List.getElem?_eq_getElem hj, Option.getD_some] at h
    cases hv : lo[j] with
    | none => rw [hv] at h; cases h
    | some w =>
      rw [hv] at h
      cases h
      rw [List.getElem?_eq_getElem hj, hv]
  · intro h
    have hj : q.1 < lo.length := (List.getElem?_eq_some_iff.mp h).1
    exact ⟨q.1, List.mem_range.mpr hj, by rw [List.getD_eq_getElem?_getD, h]; rfl⟩
/-! the locals: what is left of them at a place where roads meet -/
def am_le : List (Option Value) → List (Option Value) → Prop
  | [], _ => True
  | none :: a, _ :: b => am_le a b
  | none :: a, [] => am_le a []
  | some v :: a, x :: b => x = some v ∧ am_le a b
  | some _ :: _, [] => False
theorem am_le_nil : ∀ (a : List (Option Value)) (i : Nat) (v : Value), am_le a [] → a[i]? = some (some v) → False
  | [], i, v, _, h => by simp at h
  | none :: a, 0, v, _, h => by simp at h
  | none :: a, i + 1, v, hl, h => am_le_nil a i v hl (by simpa using h)
  | some _ :: _, _, _, hl, _ => hl
theorem am_le_at : ∀ (a b : List (Option Value)) (i : Nat) (v : Value), am_le a b → a[i]? = some (some v) → b[i]? = some (some v)
  | [], _, i, v, _, h => by simp at h
  | none :: a, [], i, v, hl, h => (am_le_nil (none :: a) i v hl h).elim
  | none :: a, _ :: b, 0, v, _, h => by simp at h
  | none :: a, _ :: b, i + 1, v, hl, h => by
    have := am_le_at a b i v hl (by simpa using h)
    simpa using this
  | some u :: a, [], i, v, hl, h => hl.elim
  | some u :: a, x :: b, 0, v, hl, h => by
    have h1 : u = v := by simpa using h
    subst h1
    simpa using hl.1
  | some u :: a, x :: b, i + 1, v, hl, h => by
    have := am_le_at a b i v hl.2 (by simpa using h)
    simpa using this
def am_ls (ls : Array Slot) (nL : Nat) (lo : List (Option Value)) : Prop := lv_has ls nL (am_as lo) ∧ ∀ (i : Nat) (v : Value), lo[i]? = some (some v) → v.category = 1
theorem am_ls.at {ls : Array Slot} {nL : Nat} {lo : List (Option Value)} (h : am_ls ls nL lo) {i : Nat} {v : Value} (hi : lo[i]? = some (some v)) : ls[i]? = some (.val v) :=
  h.1.2.2 (i, v) (am_as_mem.mpr hi)
theorem am_ls.put {ls ls' : Array Slot} {nL : Nat} {lo : List (Option Value)} {i : Nat} {v : Value} (h : am_ls ls nL lo) (hc : v.category = 1)
    (h' : lv_has ls' nL ((i, v) :: (am_as lo).filter (fun q => !(q.1 == i) && !(q.1 + 1 == i && q.2.category == 2)))) : am_ls ls' nL (lo.set i (some v)) := by
  have key : ∀ (j : Nat) (w : Value), (lo.set i (some v))[j]? = some (some w) → (j = i ∧ w = v) ∨ (j ≠ i ∧ lo[j]? = some (some w)) := by
    intro j w hj
    rw [List.getElem?_set] at hj
    by_cases e : i = j
    · rw [if_pos e] at hj
      by_cases e2 : i < lo.length
      · rw [if_pos e2] at hj
        exact Or.inl ⟨e.symm, (Option.some.inj (Option.some.inj hj)).symm⟩
      · rw [if_neg e2] at hj
        cases hj
    · rw [if_neg e] at hj
      exact Or.inr ⟨fun q => e q.symm, hj⟩
  refine ⟨⟨h'.1, h'.2.1, fun q hq => ?_⟩, fun j w hj => ?_⟩
  · rcases key q.1 q.2 (am_as_mem.mp hq) with ⟨e1, e2⟩ | ⟨e1, e2⟩
    · rw [e1, e2]
      exact h'.2.2 (i, v) List.mem_cons_self
    · refine h'.2.2 q (List.mem_cons_of_mem _ (List.mem_filter.mpr ⟨am_as_mem.mpr e2, ?_⟩))
      have h1 := h.2 q.1 q.2 e2
      simp [e1, h1]
  · rcases key j w hj with ⟨-, e2⟩ | ⟨-, e2⟩
    · rw [e2]; exact hc
    · exact h.2 j w e2
/-- less is known of the locals -/
theorem am_ls.sub {ls : Array Slot} {nL : Nat} {lo lo' : List (Option Value)} (h : am_ls ls nL lo) (hs : ∀ (i : Nat) (v : Value), lo'[i]? = some (some v) → lo[i]? = some (some v)) : am_ls ls nL lo' :=
  ⟨⟨h.1.1, h.1.2.1, fun q hq => h.1.2.2 q (am_as_mem.mpr (hs _ _ (am_as_mem.mp hq)))⟩, fun i v hv => h.2 i v (hs i v hv)⟩
theorem am_ls.entry (vs : List Value) {n : Nat} (hn : (lg_sl vs).length ≤ n) (hc : ∀ v ∈ vs, v.category = 1) : am_ls ((lg_sl vs ++ List.replicate (n - (lg_sl vs).length) Slot.unset).toArray) n (vs.map some) := by
  have hl := lv_entry vs hn
  have hA : ∀ (vs : List Value) (k : Nat), (∀ v ∈ vs, v.category = 1) → ∀ (i : Nat) (w : Value), vs[i]? = some w → (k + i, w) ∈ lv_args k vs := by
    intro vs
    induction vs with
    | nil => intro k _ i w h; simp at h
    | cons v vs ih =>
      intro k hc i w h
      have h1 : v.category = 1 := hc v List.mem_cons_self
      have h2 : lv_args k (v :: vs) = (k, v) :: lv_args (k + 1) vs := by
        show (k, v) :: lv_args (if v.category = 2 then k + 2 else k + 1) vs = _
        rw [if_neg (by omega)]
      rw [h2]
      cases i with
      | zero =>
        rw [List.getElem?_cons_zero] at h
        cases h
        exact List.mem_cons_self
      | succ i =>
        rw [List.getElem?_cons_succ] at h
        have := ih (k + 1) (fun v hv => hc v (List.mem_cons_of_mem _ hv)) i w h
        rw [show k + (i + 1) = k + 1 + i by omega]
        exact List.mem_cons_of_mem _ this
  have hmap : ∀ (i : Nat) (v : Value), (vs.map some)[i]? = some (some v) → vs[i]? = some v := by
    intro i v h
    rw [List.getElem?_map] at h
    cases hv : vs[i]? with
    | none => rw [hv] at h; cases h
    | some w => rw [hv] at h; cases h; rfl
  refine ⟨⟨hl.1, hl.2.1, fun q hq => ?_⟩, fun i v hv => hc v (List.mem_of_getElem? (hmap i v hv))⟩
  have h1 := hA vs 0 hc q.1 q.2 (hmap _ _ (am_as_mem.mp hq))
  rw [Nat.zero_add] at h1
  exact hl.2.2 q h1
/-! what a program does to a world; none: it would not be a good step -/
def am_fg (ci k a : Nat) (w : am_w) : Option Int32 := match w.2.1 a with
  | some (.inl c) => if c = ci then some (w.2.2.1 a k) else none
  | _ => none
def am_rg (ci k a : Nat) (w : am_w) : Option Nat := match w.2.1 a with
  | some (.inl c) => if c = ci then w.2.2.2 a k else none
  | _ => none
def am_wi (w : am_w) (a k : Nat) (x : Int32) : am_w := (w.1, w.2.1, am_up w.2.2.1 a k x, w.2.2.2)
def am_wr (w : am_w) (a k b : Nat) : am_w := (w.1, w.2.1, w.2.2.1, am_up w.2.2.2 a k (some b))
def am_fp (ci k a : Nat) (x : Int32) (w : am_w) : Option am_w := match w.2.1 a with
  | some (.inl c) => if c = ci then some (am_wi w a k x) else none
  | _ => none
def am_rp (ci k a b : Nat) (w : am_w) : Option am_w := match w.2.1 a with
  | some (.inl c) => if c = ci then some (am_wr w a k b) else none
  | _ => none
def am_al (a : Nat) (w : am_w) : Option Int32 := match w.2.1 a with
  | some (.inr (_, n)) => some (Int32.ofNat n)
  | _ => none
def am_ig (a : Nat) (i : Int32) (w : am_w) : Option Int32 := match w.2.1 a with
  | some (.inr (.int, n)) => if i < 0 ∨ n ≤ i.toNatClampNeg then none else some (w.2.2.1 a i.toNatClampNeg)
  | _ => none
def am_is (a : Nat) (i x : Int32) (w : am_w) : Option am_w := match w.2.1 a with
  | some (.inr (.int, n)) => if i < 0 ∨ n ≤ i.toNatClampNeg then none else some (am_wi w a i.toNatClampNeg x)
  | _ => none
def am_cg (a : Nat) (i : Int32) (w : am_w) : Option Int32 := match w.2.1 a with
  | some (.inr (.char, n)) => if i < 0 ∨ n ≤ i.toNatClampNeg then none else some (w.2.2.1 a i.toNatClampNeg)
  | _ => none
def am_cs (a : Nat) (i x : Int32) (w : am_w) : Option am_w := match w.2.1 a with
  | some (.inr (.char, n)) => if i < 0 ∨ n ≤ i.toNatClampNeg then none else some (am_wi w a i.toNatClampNeg x.toUInt32.toUInt16.toUInt32.toInt32)
  | _ => none
def am_lg (a : Nat) (i : Int32) (w : am_w) : Option Int32 := match w.2.1 a with
  | some (.inr (.long, n)) => if i < 0 ∨ n ≤ i.toNatClampNeg then none else some (w.2.2.1 a i.toNatClampNeg)
  | _ => none
def am_lp (a : Nat) (i x : Int32) (w : am_w) : Option am_w := match w.2.1 a with
  | some (.inr (.long, n)) => if i < 0 ∨ n ≤ i.toNatClampNeg then none else some (am_wi w a i.toNatClampNeg x)
  | _ => none
def am_ag (a : Nat) (i : Int32) (w : am_w) : Option Nat := match w.2.1 a with
  | some (.inr (.object _, n)) => if i < 0 ∨ n ≤ i.toNatClampNeg then none else w.2.2.2 a i.toNatClampNeg
  | _ => none
def am_as9 (K : String) (ci a : Nat) (i : Int32) (b : Nat) (w : am_w) : Option am_w := match w.2.1 a, w.2.1 b with
  | some (.inr (.object K9, n)), some (.inl c) => if K9 = K ∧ c = ci ∧ ¬ (i < 0 ∨ n ≤ i.toNatClampNeg) then some (am_wr w a i.toNatClampNeg b) else none
  | _, _ => none
/-- a call upon the object at b -/
def am_ob {α : Type} (ci b : Nat) (w : am_w) (f : Option α) : Option α := match w.2.1 b with
  | some (.inl c) => if c = ci then f else none
  | _ => none
theorem am_ob_of {α : Type} {ci b : Nat} {w : am_w} {f : Option α} {q : α} (h : am_ob ci b w f = some q) : w.2.1 b = some (.inl ci) ∧ f = some q := by
  unfold am_ob at h
  split at h
  · rename_i c hc
    split at h
    · rename_i e; subst e; exact ⟨hc, h⟩
    · cases h
  · cases h
def am_sh (sh : am_S) (q : Nat) (e : Nat ⊕ (FieldType × Nat)) : am_S := fun x => if x = q then some e else sh x
def am_z {α : Type} (f : Nat → Nat → α) (q : Nat) (v : α) : Nat → Nat → α := fun x j => if x = q then v else f x j
/-- a new cell at the heap's end -/
def am_nw (e : Nat ⊕ (FieldType × Nat)) (w : am_w) : am_w := (w.1 + 1, am_sh w.2.1 w.1 e, am_z w.2.2.1 w.1 0, am_z w.2.2.2 w.1 none)
/-! a good step's grounds -/
theorem am_fg_of {ci k a : Nat} {w : am_w} {x : Int32} (h : am_fg ci k a w = some x) : w.2.1 a = some (.inl ci) ∧ x = w.2.2.1 a k := by
  unfold am_fg at h
  split at h
  · rename_i c hc
    split at h
    · rename_i e; subst e; cases h; exact ⟨hc, rfl⟩
    · cases h
  · cases h
theorem am_rg_of {ci k a b : Nat} {w : am_w} (h : am_rg ci k a w = some b) : w.2.1 a = some (.inl ci) ∧ w.2.2.2 a k = some b := by
  unfold am_rg at h
  split at h
  · rename_i c hc
    split at h
    · rename_i e; subst e; exact ⟨hc, h⟩
    · cases h
  · cases h
theorem am_fp_of {ci k a : Nat} {w w' : am_w} {x : Int32} (h : am_fp ci k a x w = some w') : w.2.1 a = some (.inl ci) ∧ w' = am_wi w a k x := by
  unfold am_fp at h
  split at h
  · rename_i c hc
    split at h
    · rename_i e; subst e; cases h; exact ⟨hc, rfl⟩
    · cases h
  · cases h
theorem am_rp_of {ci k a b : Nat} {w w' : am_w} (h : am_rp ci k a b w = some w') : w.2.1 a = some (.inl ci) ∧ w' = am_wr w a k b := by
  unfold am_rp at h
  split at h
  · rename_i c hc
    split at h
    · rename_i e; subst e; cases h; exact ⟨hc, rfl⟩
    · cases h
  · cases h
theorem am_al_of {a : Nat} {w : am_w} {x : Int32} (h : am_al a w = some x) : ∃ (t : FieldType) (n : Nat), w.2.1 a = some (.inr (t, n)) ∧ x = Int32.ofNat n := by
  unfold am_al at h
  split at h
  · rename_i t n hc; cases h; exact ⟨t, n, hc, rfl⟩
  · cases h
theorem am_ig_of {a : Nat} {i x : Int32} {w : am_w} (h : am_ig a i w = some x) : ∃ n : Nat, w.2.1 a = some (.inr (.int, n)) ∧ vp_in i n ∧ x = w.2.2.1 a i.toNatClampNeg := by
  unfold am_ig at h
  split at h
  · rename_i n hc
    split at h
    · cases h
    · rename_i e; cases h; exact ⟨n, hc, e, rfl⟩
  · cases h
theorem am_is_of {a : Nat} {i x : Int32} {w w' : am_w} (h : am_is a i x w = some w') : ∃ n : Nat, w.2.1 a = some (.inr (.int, n)) ∧ vp_in i n ∧ w' = am_wi w a i.toNatClampNeg x := by
  unfold am_is at h
  split at h
  · rename_i n hc
    split at h
    · cases h
    · rename_i e; cases h; exact ⟨n, hc, e, rfl⟩
  · cases h
theorem am_cg_of {a : Nat} {i x : Int32} {w : am_w} (h : am_cg a i w = some x) : ∃ n : Nat, w.2.1 a = some (.inr (.char, n)) ∧ vp_in i n ∧ x = w.2.2.1 a i.toNatClampNeg := by
  unfold am_cg at h
  split at h
  · rename_i n hc
    split at h
    · cases h
    · rename_i e; cases h; exact ⟨n, hc, e, rfl⟩
  · cases h
theorem am_cs_of {a : Nat} {i x : Int32} {w w' : am_w} (h : am_cs a i x w = some w') : ∃ n : Nat, w.2.1 a = some (.inr (.char, n)) ∧ vp_in i n ∧ w' = am_wi w a i.toNatClampNeg x.toUInt32.toUInt16.toUInt32.toInt32 := by
  unfold am_cs at h
  split at h
  · rename_i n hc
    split at h
    · cases h
    · rename_i e; cases h; exact ⟨n, hc, e, rfl⟩
  · cases h
theorem am_lg_of {a : Nat} {i x : Int32} {w : am_w} (h : am_lg a i w = some x) : ∃ n : Nat, w.2.1 a = some (.inr (.long, n)) ∧ vp_in i n ∧ x = w.2.2.1 a i.toNatClampNeg := by
  unfold am_lg at h
  split at h
  · rename_i n hc
    split at h
    · cases h
    · rename_i e; cases h; exact ⟨n, hc, e, rfl⟩
  · cases h
theorem am_lp_of {a : Nat} {i x : Int32} {w w' : am_w} (h : am_lp a i x w = some w') : ∃ n : Nat, w.2.1 a = some (.inr (.long, n)) ∧ vp_in i n ∧ w' = am_wi w a i.toNatClampNeg x := by
  unfold am_lp at h
  split at h
  · rename_i n hc
    split at h
    · cases h
    · rename_i e; cases h; exact ⟨n, hc, e, rfl⟩
  · cases h
theorem am_ag_of {a b : Nat} {i : Int32} {w : am_w} (h : am_ag a i w = some b) : ∃ (n : Nat) (K : String), w.2.1 a = some (.inr (.object K, n)) ∧ vp_in i n ∧ w.2.2.2 a i.toNatClampNeg = some b := by
  unfold am_ag at h
  split at h
  · rename_i K n hc
    split at h
    · cases h
    · rename_i e; exact ⟨n, K, hc, e, h⟩
  · cases h
theorem am_as9_of {K : String} {ci a b : Nat} {i : Int32} {w w' : am_w} (h : am_as9 K ci a i b w = some w') : ∃ n : Nat, w.2.1 a = some (.inr (.object K, n)) ∧ w.2.1 b = some (.inl ci) ∧ vp_in i n ∧ w' = am_wr w a i.toNatClampNeg b := by
  unfold am_as9 at h
  split at h
  · rename_i K9 n c hc hb
    split at h
    · rename_i e; obtain ⟨e1, e2, e3⟩ := e; subst e1; subst e2; cases h; exact ⟨n, hc, hb, e3, rfl⟩
    · cases h
  · cases h
theorem am_bind {α β : Type} {o : Option α} {K : α → Option β} {r : β} (h : o.bind K = some r) : ∃ x, o = some x ∧ K x = some r := by
  cases o with
  | none => cases h
  | some x => exact ⟨x, rfl, h⟩
/-! what else every contract stands on: words that are no plain words of the tables; the statics that a throw reads -/
def am_Zw : List Cond := lw_tbl.filter Cond.tabsOnly
/-- the three exceptions of the class, by number -/
def am_X (k : Nat) : String := if k = 1 then "java/lang/IllegalArgumentException" else if k = 2 then "java/lang/IllegalStateException" else "java/lang/IndexOutOfBoundsException"
def am_NC (U : State) : Prop := ∀ i j : Nat, 1 ≤ i → i ≤ 3 → 1 ≤ j → j ≤ 3 → i ≠ j → va_Nc (am_X i) (am_X j) U
def am_Z (U : State) : Prop := va_AO "RoverMinutes$Activity" U ∧ va_Nw (.methodLinkNest "RoverMinutes$Plan" 15 ⟨"RoverMinutes$Activity", "<init>", "()V"⟩ "RoverMinutes") U ∧ (∀ w ∈ am_Zw, w.before #[] U = true) ∧ am_NC U
theorem am_Z.warm {s U : State} (hZ : am_Z s) (hW : s.WarmedH U.vm) : am_Z U :=
  ⟨va_AO.moved hW.alike hZ.1, va_Nw.warmM hW hZ.2.1, fun w h => Cond.tabsOnly_warm (args := #[]) (args' := #[]) (s := s) (T := U) hW w (List.mem_filter.mp h).2 (hZ.2.2.1 w h), fun i j h1 h2 h3 h4 h5 => (hZ.2.2.2 i j h1 h2 h3 h4 h5).moved hW.alike⟩
theorem am_Z.same {u U : State} (h : u.vm = U.vm) (hZ : am_Z u) : am_Z U := hZ.warm (by rw [← h]; exact State.WarmedH.refl u)
theorem am_Z.word {s : State} (hZ : am_Z s) {args : Array Value} {w : Cond} (h : w ∈ am_Zw) : w.before args s = true := by
  have h1 := Cond.tabsOnly_warm (args := #[]) (args' := args) (s := s) (T := s) (State.WarmedH.refl s) w (List.mem_filter.mp h).2 (hZ.2.2.1 w h)
  exact h1
/-- a static that holds a reference or null, in a cell outside the zone -/
def am_Y1 (C n d : String) (A : Nat → Prop) (U : State) (H : Heap) : Prop := ∃ (c : ClassId) (k : Class) (i : Nat) (f : Field) (a : Nat) (cell : Cell) (v : Value), U.vm.findClass C = some c ∧ U.fieldFound? C n d = some (c, k, i, f) ∧ f.isStatic = true ∧ k.statics = some a ∧ H[a]? = some cell ∧ cell.vm.isStatics = true ∧ cell.cls = c ∧ f.slot < cell.slots.size ∧ k.staticTypes[f.slot]? = some f.type ∧ cell.slots[f.slot]? = some v ∧ (v = .null ∨ ∃ t, v = .ref t) ∧ ¬ A a
theorem am_Y1.moved {C n d : String} {A : Nat → Prop} {u U : State} {H : Heap} (h : am_Y1 C n d A u H) (hvm : u.vm.Alike U.vm) : am_Y1 C n d A U H := by
  obtain ⟨c, k, i, f, a, cell, v, h1, h2, h3, h4, h5, h6, h7, h8, h9, hr⟩ := h
  obtain ⟨k', hi', he⟩ := State.fieldFound?_setVm hvm h2
  exact ⟨c, k', i, f, a, cell, v, by rw [hvm.findClass]; exact h1, hi', h3, by rw [he]; exact h4, h5, h6, h7, h8, by rw [he]; exact h9, hr⟩
theorem am_Y1.kept {C n d : String} {A : Nat → Prop} {U : State} {H H1 : Heap} (h : am_Y1 C n d A U H) (hq : ∀ a : Nat, a < H.size → ¬ A a → H1[a]? = H[a]?) : am_Y1 C n d A U H1 := by
  obtain ⟨c, k, i, f, a, cell, v, h1, h2, h3, h4, h5, h6, h7, h8, h9, h10, h11, h12⟩ := h
  exact ⟨c, k, i, f, a, cell, v, h1, h2, h3, h4, by rw [hq a (Array.getElem?_eq_some_iff.mp h5).1 h12]; exact h5, h6, h7, h8, h9, h10, h11, h12⟩
theorem am_Y1.lays {C n d : String} {A : Nat → Prop} {s : State} {args : Array Value} (h : am_Y1 C n d A s s.heap) : (Cond.laysStatic C n d).before args s = true := by
  obtain ⟨c, k, i, f, a, cell, v, h1, h2, h3, h4, h5, h6, h7, h8, h9, h10, h11, h12⟩ := h
  simp [Cond.before, Cond.holds, Cond.value, h1, h2, h3, h4, h5, h6, h7, h8, h9]
theorem am_Y1.isRef {C n d : String} {A : Nat → Prop} {s : State} {args : Array Value} (h : am_Y1 C n d A s s.heap) : (Cond.isRef (.static C n d)).before args s = true := by
  obtain ⟨c, k, i, f, a, cell, v, h1, h2, h3, h4, h5, h6, h7, h8, h9, h10, h11, h12⟩ := h
  have key : (Term.static C n d).eval args s none [] s = some v := by
    simp [Term.eval, State.fieldNamed?, h2, h3, h4, h5, h6, h10]
  rcases h11 with h | ⟨t, h⟩
  · simp [Cond.before, Cond.holds, Cond.value, key, h]
  · simp [Cond.before, Cond.holds, Cond.value, key, h]
theorem am_Y1.of {C n d : String} {A : Nat → Prop} {s : State} {args : Array Value} (hl : (Cond.laysStatic C n d).before args s = true) (h : (Cond.isRef (.static C n d)).before args s = true) (hA : ∀ a : Nat, a < s.heap.size → ¬ A a) : am_Y1 C n d A s s.heap := by
  obtain ⟨c, k, i, f, a, cell, hc, hi, hst, ha, hcell, hs, hcls, hlt, hty⟩ := Cond.laysStatic_spec hl
  cases hv : (Term.static C n d).eval args s none [] s with
  | none => simp [Cond.before, Cond.holds, Cond.value, hv] at h
  | some w =>
    obtain ⟨hst', a', cell', ha', hcell', -, hslot⟩ := Term.static_spec hi hv
    cases ha.symm.trans ha'
    cases hcell.symm.trans hcell'
    refine ⟨c, k, i, f, a, cell, w, hc, hi, hst, ha, hcell, hs, hcls, hlt, hty, hslot, ?_, hA a (Array.getElem?_eq_some_iff.mp hcell).1⟩
    simp only [Cond.before, Cond.holds, Cond.value, hv] at h
    cases w with
    | null => exact Or.inl rfl
    | ref t => exact Or.inr ⟨t, rfl⟩
    | _ => simp at h
/-- the one text constant: its String at D.1 1000, the bytes of it at D.1 1001 -/
def am_by : List Int32 := [69, 68, 72, 60, 42]
def am_T (D : va_G) (A : Nat → Prop) (U : State) (H : Heap) : Prop := vk_S 1 [5] [am_by] (fun _ => D.1 1000) (fun _ => D.1 1001) A U H ∧ va_Z "java/lang/String" "COMPACT_STRINGS" "Z" (.int 1) A U H
def am_Y (D : va_G) (A : Nat → Prop) (U : State) (H : Heap) : Prop := (am_Y1 "java/lang/Throwable" "UNASSIGNED_STACK" "[Ljava/lang/StackTraceElement;" A U H ∧ am_Y1 "java/lang/Throwable" "SUPPRESSED_SENTINEL" "Ljava/util/List;" A U H) ∧ vk_R "RoverMinutes$PlanReader" 64 "EDH<*" (D.1 1000) U ∧ am_T D A U H
theorem am_Y.warm {D : va_G} {A : Nat → Prop} {s U : State} {H : Heap} (h : am_Y D A s H) (hW : s.WarmedH U.vm) : am_Y D A U H := ⟨⟨h.1.1.moved hW.alike, h.1.2.moved hW.alike⟩, h.2.1.warm hW, h.2.2.1.moved hW.alike, va_Z.moved hW.alike h.2.2.2⟩
theorem am_Y.same {D : va_G} {A : Nat → Prop} {u U : State} {H : Heap} (h : am_Y D A u H) (hv : u.vm = U.vm) : am_Y D A U H := h.warm (by rw [← hv]; exact State.WarmedH.refl u)
theorem am_Y.kept {D : va_G} {A : Nat → Prop} {U : State} {H H1 : Heap} (h : am_Y D A U H) (hq : ∀ a : Nat, a < H.size → ¬ A a → H1[a]? = H[a]?) : am_Y D A U H1 := ⟨⟨h.1.1.kept hq, h.1.2.kept hq⟩, h.2.1, h.2.2.1.kept hq, h.2.2.2.kept hq⟩
def am_Yw : List Cond := [.isRef (.static "java/lang/Throwable" "UNASSIGNED_STACK" "[Ljava/lang/StackTraceElement;"), .isRef (.static "java/lang/Throwable" "SUPPRESSED_SENTINEL" "Ljava/util/List;"), .laysStatic "java/lang/Throwable" "UNASSIGNED_STACK" "[Ljava/lang/StackTraceElement;", .laysStatic "java/lang/Throwable" "SUPPRESSED_SENTINEL" "Ljava/util/List;"]
theorem am_Y.word {D : va_G} {A : Nat → Prop} {s : State} {args : Array Value} (h : am_Y D A s s.heap) : ∀ a ∈ am_Yw, a.before args s = true := by
  intro a ha
  simp only [am_Yw, List.mem_cons, List.not_mem_nil, or_false] at ha
  rcases ha with rfl | rfl | rfl | rfl
  · exact h.1.1.isRef
  · exact h.1.2.isRef
  · exact h.1.1.lays
  · exact h.1.2.lays
/-- what may have been written: nothing, or the world's zone -/
def am_F (A : Nat → Prop) (u : Bool) : Nat → Prop := fun q => u = true ∧ A q
/-! turns by fuel -/
def am_it {τ : Type} (b : τ) (F : τ → τ) : Nat → τ
  | 0 => b
  | n + 1 => F (am_it b F n)
theorem am_it_ind {τ : Type} {b : τ} {F : τ → τ} {P : τ → Prop} (h0 : P b) (h1 : ∀ t, P t → P (F t)) : ∀ n, P (am_it b F n)
  | 0 => h0
  | n + 1 => h1 _ (am_it_ind h0 h1 n)
theorem am_nn {α : Type} {r : α} (h : (none : Option α) = some r) : False := by cases h
def am_let {α β : Type} (x : α) (k : α → β) : β := k x
theorem am_let_of {α β : Type} {x : α} {k : α → Option β} {r : β} (h : am_let x k = some r) : ∃ y, y = x ∧ k y = some r := ⟨x, rfl, h⟩
theorem am_le_0 {b : List (Option Value)} : am_le [] b := trivial
theorem am_le_s {v : Value} {a b : List (Option Value)} (h : am_le a b) : am_le (some v :: a) (some v :: b) := ⟨rfl, h⟩
theorem am_le_n {x : Option Value} {a b : List (Option Value)} (h : am_le a b) : am_le (none :: a) (x :: b) := h
