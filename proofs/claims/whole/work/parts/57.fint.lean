/-! whole numbers as Int32 -/
def iI (a : Int) : Int32 := Int32.ofInt a
theorem iI_n (a : Nat) : nI a = iI a := by
  unfold iI nI
  simp [Int32.ofInt, Int32.ofNat]
theorem iI_add (a b : Int) : iI a + iI b = iI (a + b) := (Int32.ofInt_add a b).symm
theorem iI_sub (a b : Int) : iI a - iI b = iI (a - b) := (Int32.ofInt_sub a b).symm
theorem iI_mul (a b : Int) : iI a * iI b = iI (a * b) := (Int32.ofInt_mul a b).symm
theorem iI_t {a : Int} (h1 : -1000000000 ≤ a) (h2 : a ≤ 1000000000) : (iI a).toInt = a := by
  unfold iI
  rw [Int32.toInt_ofInt, Int.bmod_def]
  have e : ((Int32.size : Nat) : Int) = 4294967296 := rfl
  rw [e]
  split <;> omega
theorem iI_le {a b : Int} (h1 : -1000000000 ≤ a) (h2 : a ≤ 1000000000) (h3 : -1000000000 ≤ b) (h4 : b ≤ 1000000000) : (iI a ≤ iI b) ↔ a ≤ b := by
  rw [Int32.le_iff_toInt_le, iI_t h1 h2, iI_t h3 h4]
theorem iI_lt {a b : Int} (h1 : -1000000000 ≤ a) (h2 : a ≤ 1000000000) (h3 : -1000000000 ≤ b) (h4 : b ≤ 1000000000) : (iI a < iI b) ↔ a < b := by
  rw [Int32.lt_iff_toInt_lt, iI_t h1 h2, iI_t h3 h4]
theorem iI_inj {a b : Int} (h1 : -1000000000 ≤ a) (h2 : a ≤ 1000000000) (h3 : -1000000000 ≤ b) (h4 : b ≤ 1000000000) : (iI a = iI b) ↔ a = b := by
  rw [← Int32.toInt_inj, iI_t h1 h2, iI_t h3 h4]
theorem iI_of (x : Int32) : x = iI x.toInt := (Int32.ofInt_toInt x).symm
theorem i_0 : (0 : Int32) = iI 0 := rfl
theorem i_1 : (1 : Int32) = iI 1 := rfl
theorem i_m1 : (-1 : Int32) = iI (-1) := rfl
theorem i_30 : (30 : Int32) = iI 30 := rfl
theorem i_100 : (100 : Int32) = iI 100 := rfl
theorem i_500 : (500 : Int32) = iI 500 := rfl
theorem i_1000 : (1000 : Int32) = iI 1000 := rfl
theorem iI_bd {x : Int32} {a b : Int} (h1 : iI a ≤ x) (h2 : x ≤ iI b) (ha : -1000000000 ≤ a) (ha2 : a ≤ 1000000000) (hb : -1000000000 ≤ b) (hb2 : b ≤ 1000000000) : ∃ v : Int, a ≤ v ∧ v ≤ b ∧ x = iI v := by
  refine ⟨x.toInt, ?_, ?_, iI_of x⟩
  · rw [Int32.le_iff_toInt_le, iI_t ha ha2] at h1; exact h1
  · rw [Int32.le_iff_toInt_le, iI_t hb hb2] at h2; exact h2
theorem mod24 {m : Nat} (h : m < 1000000) : nI m - nI m / (24 : Int32) * (24 : Int32) = nI (m % 24) := pk_rem (d := 24) (by omega) (by decide) (by decide)
theorem xor24 {m : Nat} (h : m < 1000000) : (0 : Int32) ≤ (nI m ^^^ (24 : Int32)) := by
  have e : nI m ^^^ (24 : Int32) = nI (m ^^^ 24) := by
    apply Int32.toBitVec_inj.mp
    apply BitVec.eq_of_toNat_eq
    rw [Int32.toBitVec_xor, BitVec.toNat_xor, pk_tn (by omega)]
    have h2 : m ^^^ 24 < 2 ^ 20 := Nat.xor_lt_two_pow (by omega) (by decide)
    rw [pk_tn (by omega)]
    rfl
  have h2 : m ^^^ 24 < 2 ^ 20 := Nat.xor_lt_two_pow (by omega) (by decide)
  rw [e]
  exact nI_pos' (by omega)
theorem e_floorMod {m : Nat} (h : m < 1000000) (w : am_w) : f_floorMod (nI m) (24 : Int32) w = some (nI (m % 24), w) := by
  unfold f_floorMod
  rw [if_neg (by decide), if_pos (xor24 h), mod24 h]
