theorem am_it_indn {τ : Type} {b : τ} {F : τ → τ} {P : Nat → τ → Prop} (h0 : P 0 b) (h1 : ∀ n t, P n t → P (n + 1) (F t)) : ∀ n, P n (am_it b F n)
  | 0 => h0
  | n + 1 => h1 n _ (am_it_indn h0 h1 n)
theorem la_lk : ∀ i, am_ct i ≠ 0 → Cond.classLink "RoverMinutesLaw" i (am_X (am_ct i)) ∈ am_W := by
  intro i hi
  by_cases h1 : i = 13
  · subst h1; exact wd_2_98
  by_cases h2 : i = 19
  · subst h2; exact wd_2_183
  by_cases h3 : i = 35
  · subst h3; exact wd_4_5
  exact absurd (by simp [am_ct, h1, h2, h3]) hi
theorem la_zw {w : Cond} (h : w ∈ tables_1) (ht : w.tabsOnly = true) : w ∈ am_Zw := List.mem_filter.mpr ⟨List.mem_append_right _ h, ht⟩
theorem la_cs : ∀ k, 1 ≤ k → k ≤ 3 → Cond.castable (am_X k) (am_X k) ∈ am_Zw := by
  intro k h1 h3
  have hk : k = 1 ∨ k = 2 ∨ k = 3 := by omega
  rcases hk with rfl | rfl | rfl
  · exact la_zw (am_run_2 (List.mem_of_getElem? (i := 111) rfl)) rfl
  · exact la_zw (am_run_2 (List.mem_of_getElem? (i := 190) rfl)) rfl
  · exact la_zw (am_run_4 (List.mem_of_getElem? (i := 16) rfl)) rfl
section AMW
variable {p : Program} {l : Launch} {e : Env} {R : Room} {s : State} {m : MethodId} {args : Array Value} {below : List Frame} {meth : Method} {c : Code} {cells slots : Nat} {Q : State → Prop}
variable {cc : ByteArray} {own : String} {Ts : List Cond} {nL : Nat} {D : va_G} {cl : List vw_C} {ty : Nat → Nat → FieldType} {A F : Nat → Prop}
variable {pc : Nat} {lo : List (Option Value)} {st : List Value} {w : am_w} {sb L : Nat} {xs : Nat → Int32}
/-! the script -/
def am_sg (L : Nat) (xs : Nat → Int32) (i : Int32) : Option Int32 := if i < 0 ∨ L ≤ i.toNatClampNeg then none else some (xs i.toNatClampNeg)
theorem am_slen (C : am_C p m c cc nL s args Ts own D cl A) (hA : ∀ q, A q → s.heap.size ≤ q) (hsc : va_X sb L xs s s.heap) (hsb : sb < s.heap.size) (hdg : decode cc pc = .ok (.arraylength, 1)) (k : am_V p l e R s m args below meth c D cl ty A (am_F A true) nL cells slots Q (pc + 1) lo (.int (Int32.ofNat L) :: st) w) : am_V p l e R s m args below meth c D cl ty A (am_F A true) nL cells slots Q pc lo (.ref sb :: st) w := fun H locs ls hR hS hL =>
  va_slen C.1.1 C.1.2.1 hsc hsb (fun z => absurd (hA sb z) (by omega)) (am_zone (fun _ h => h.2) hS) hdg (k H locs ls hR hS hL)
theorem am_sld (C : am_C p m c cc nL s args Ts own D cl A) (hA : ∀ q, A q → s.heap.size ≤ q) (hsc : va_X sb L xs s s.heap) (hsb : sb < s.heap.size) {i : Int32} (hdg : decode cc pc = .ok (.iaload, 1)) {β : Type} {K9 : Int32 → Option β} {r : β} (hX : (am_sg L xs i).bind K9 = some r) (k : ∀ x, K9 x = some r → am_V p l e R s m args below meth c D cl ty A (am_F A true) nL cells slots Q (pc + 1) lo (.int x :: st) w) : am_V p l e R s m args below meth c D cl ty A (am_F A true) nL cells slots Q pc lo (.int i :: .ref sb :: st) w := by
  obtain ⟨x, h1, h2⟩ := am_bind hX
  unfold am_sg at h1
  split at h1
  · cases h1
  · rename_i hin
    cases h1
    exact fun H locs ls hR hS hL => va_sld C.1.1 C.1.2.1 hsc hsb (fun z => absurd (hA sb z) (by omega)) (am_zone (fun _ h => h.2) hS) hin hdg (k _ h2 H locs ls hR hS hL)
/-- the law's own end -/
theorem am_lawret {Ts : List Cond} (C : am_C p m c code nL s #[Value.ref sb] Ts own D cl A) (hA : ∀ q, A q → s.heap.size ≤ q) (hr : meth.sig.returnType = ret) (hlocks : meth.locks = false) {v : Int32} (hdg : decode code pc = .ok (.ireturn, 1)) (h1 : cells ≤ 631199) (h2 : slots ≤ 7202507) {r : Int32 × am_w} (hr1 : r.1 = 1) (hX : some (v, w) = some r) : am_V p l e room_1 s m #[Value.ref sb] below meth c D cl ty A (am_F A true) nL cells slots (lw_Z below #[Value.ref sb] s) pc lo [.int v] w := by
  cases hX
  have hv : v = 1 := hr1
  subst hv
  exact fun H locs ls hR hS hL => W.widen h1 h2 (va_forget (fun q hq => hA _ (hS.2.2 q hq).2) (lw_ret C.1.1 C.1.2.1 hr hlocks hdg))
end AMW
