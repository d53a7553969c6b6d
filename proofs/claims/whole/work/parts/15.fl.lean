/-! the programs' steps at a world whose parts are known -/
section FL
variable {z : Nat} {sh : am_S} {hi : am_I} {hr : am_R} {a b ci k n j : Nat} {x : Int32}
theorem fl_fg (h : sh a = some (.inl ci)) : am_fg ci k a (z, sh, hi, hr) = some (hi a k) := by simp [am_fg, h]
theorem fl_rg (h : sh a = some (.inl ci)) (hb : hr a k = some b) : am_rg ci k a (z, sh, hi, hr) = some b := by simp [am_rg, h, hb]
theorem fl_fp (h : sh a = some (.inl ci)) : am_fp ci k a x (z, sh, hi, hr) = some (z, sh, am_up hi a k x, hr) := by simp [am_fp, h, am_wi]
theorem fl_rp (h : sh a = some (.inl ci)) : am_rp ci k a b (z, sh, hi, hr) = some (z, sh, hi, am_up hr a k (some b)) := by simp [am_rp, h, am_wr]
theorem fl_ob {α : Type} {f : Option α} (h : sh b = some (.inl ci)) : am_ob ci b (z, sh, hi, hr) f = f := by simp [am_ob, h]
theorem fl_al {t : FieldType} (h : sh a = some (.inr (t, n))) : am_al a (z, sh, hi, hr) = some (nI n) := by simp [am_al, h, nI]
theorem fl_nin (h : j < n) (hn : n < 2 ^ 31) : ¬ (nI j < 0 ∨ n ≤ (nI j).toNatClampNeg) := nI_in h hn
theorem fl_ig (h : sh a = some (.inr (.int, n))) (hj : j < n) (hn : n < 2 ^ 31) : am_ig a (nI j) (z, sh, hi, hr) = some (hi a j) := by
  simp only [am_ig, h]
  rw [if_neg (fl_nin hj hn), nI_clamp (by omega)]
theorem fl_is (h : sh a = some (.inr (.int, n))) (hj : j < n) (hn : n < 2 ^ 31) : am_is a (nI j) x (z, sh, hi, hr) = some (z, sh, am_up hi a j x, hr) := by
  simp only [am_is, h]
  rw [if_neg (fl_nin hj hn), nI_clamp (by omega)]
  rfl
theorem fl_cg (h : sh a = some (.inr (.char, n))) (hj : j < n) (hn : n < 2 ^ 31) : am_cg a (nI j) (z, sh, hi, hr) = some (hi a j) := by
  simp only [am_cg, h]
  rw [if_neg (fl_nin hj hn), nI_clamp (by omega)]
theorem fl_cs (h : sh a = some (.inr (.char, n))) (hj : j < n) (hn : n < 2 ^ 31) : am_cs a (nI j) x (z, sh, hi, hr) = some (z, sh, am_up hi a j x.toUInt32.toUInt16.toUInt32.toInt32, hr) := by
  simp only [am_cs, h]
  rw [if_neg (fl_nin hj hn), nI_clamp (by omega)]
  rfl
theorem fl_ag {K : String} (h : sh a = some (.inr (.object K, n))) (hj : j < n) (hn : n < 2 ^ 31) (hb : hr a j = some b) : am_ag a (nI j) (z, sh, hi, hr) = some b := by
  simp only [am_ag, h]
  rw [if_neg (fl_nin hj hn), nI_clamp (by omega), hb]
theorem fl_lg (h : sh a = some (.inr (.long, n))) (hj : j < n) (hn : n < 2 ^ 31) : am_lg a (nI j) (z, sh, hi, hr) = some (hi a j) := by
  simp only [am_lg, h]
  rw [if_neg (fl_nin hj hn), nI_clamp (by omega)]
theorem fl_lp (h : sh a = some (.inr (.long, n))) (hj : j < n) (hn : n < 2 ^ 31) : am_lp a (nI j) x (z, sh, hi, hr) = some (z, sh, am_up hi a j x, hr) := by
  simp only [am_lp, h]
  rw [if_neg (fl_nin hj hn), nI_clamp (by omega)]
  rfl
end FL
