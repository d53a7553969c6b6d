-- needs 56 57
/-! bits -/
theorem sh_k {j : Nat} (hj : j < 32) : ((nI j &&& 31 : Int32).toBitVec.smod 32).toNat = j := by
  have : ∀ j : Fin 32, ((nI j &&& 31 : Int32).toBitVec.smod 32).toNat = j := by decide +kernel
  exact this ⟨j, hj⟩
theorem tb_bit (x : Int32) {j : Nat} (hj : j < 32) : tb x j = x.toBitVec.getLsbD j := by
  have e1 : (x >>> (nI j &&& 31)).toBitVec = x.toBitVec.sshiftRight j := by
    rw [Int32.toBitVec_shiftRight, BitVec.sshiftRight_eq', sh_k hj]
  have e2 : (x >>> (nI j &&& 31)).toBitVec.getLsbD 0 = x.toBitVec.getLsbD j := by
    rw [e1, BitVec.getLsbD_sshiftRight]
    simp [hj]
  rw [← e2]
  unfold tb
  generalize x >>> (nI j &&& 31) = y
  rw [pk_and y (m := 1) 1 (by decide)]
  have hz : (nI (y.toBitVec.toNat % 2 ^ 1) = (0 : Int32)) ↔ y.toBitVec.toNat % 2 ^ 1 = 0 := n_inj (a := y.toBitVec.toNat % 2 ^ 1) (b := 0) (by omega) (by omega)
  simp only [hz]
  rw [BitVec.getLsbD, Nat.testBit_zero]
  by_cases h : y.toBitVec.toNat % 2 ^ 1 = 0
  · simp [h]
  · simp [h]
    omega
theorem tb_or (x y : Int32) {j : Nat} (hj : j < 32) : tb (x ||| y) j = (tb x j || tb y j) := by
  rw [tb_bit _ hj, tb_bit _ hj, tb_bit _ hj, Int32.toBitVec_or, BitVec.getLsbD_or]
theorem tb_one : ∀ k : Fin 32, ∀ j : Fin 32, tb ((1 : Int32) <<< (nI k &&& 31)) j = decide ((j : Nat) = k) := by decide +kernel
theorem tb_1s {k j : Nat} (hk : k < 32) (hj : j < 32) : tb ((1 : Int32) <<< (nI k &&& 31)) j = decide (j = k) := tb_one ⟨k, hk⟩ ⟨j, hj⟩
theorem tb_0z {j : Nat} (hj : j < 32) : tb (0 : Int32) j = false := by
  rw [tb_bit _ hj]
  show (0#32).getLsbD j = false
  simp
/-- the right names of activity i in a plan of n -/
theorem right_bit : ∀ n : Fin 9, ∀ i : Fin 8, ∀ j : Fin 32, ((((((1 : Int32) <<< (nI n &&& 31)) - (1 : Int32)) &&& (((1 : Int32) <<< (nI i &&& 31)) ^^^ (-1 : Int32))) ^^^ (-1 : Int32))).toBitVec.getLsbD j = !(decide ((j : Nat) < n) && !decide ((j : Nat) = i)) := by decide +kernel
theorem zero_iff (x : Int32) : x = 0 ↔ ∀ j, j < 32 → x.toBitVec.getLsbD j = false := by
  constructor
  · intro h j hj
    rw [h]
    show (0#32).getLsbD j = false
    simp
  · intro h
    apply Int32.toBitVec_inj.mp
    apply BitVec.eq_of_getLsbD_eq
    intro j hj
    rw [h j hj]
    show false = (0#32).getLsbD j
    simp
theorem wrong_bits (x : Int32) {n i : Nat} (hn : n ≤ 8) (hi : i < 8) : (x &&& ((((((1 : Int32) <<< (nI n &&& 31)) - (1 : Int32)) &&& (((1 : Int32) <<< (nI i &&& 31)) ^^^ (-1 : Int32))) ^^^ (-1 : Int32))) = 0) ↔ ((x >>> (nI n &&& 31)) = 0 ∧ tb x i = false) := by
  have e1 : (x >>> (nI n &&& 31)).toBitVec = x.toBitVec.sshiftRight n := by
    rw [Int32.toBitVec_shiftRight, BitVec.sshiftRight_eq', sh_k (by omega)]
  rw [zero_iff, zero_iff, e1, tb_bit _ (show i < 32 by omega)]
  have key : ∀ j, j < 32 → (x &&& ((((((1 : Int32) <<< (nI n &&& 31)) - (1 : Int32)) &&& (((1 : Int32) <<< (nI i &&& 31)) ^^^ (-1 : Int32))) ^^^ (-1 : Int32)))).toBitVec.getLsbD j = (x.toBitVec.getLsbD j && !(decide (j < n) && !decide (j = i))) := by
    intro j hj
    rw [Int32.toBitVec_and, BitVec.getLsbD_and]
    congr 1
    exact right_bit ⟨n, by omega⟩ ⟨i, hi⟩ ⟨j, hj⟩
  constructor
  · intro h
    have h' : ∀ j, j < 32 → (x.toBitVec.getLsbD j && !(decide (j < n) && !decide (j = i))) = false := fun j hj => by rw [← key j hj]; exact h j hj
    refine ⟨fun j hj => ?_, ?_⟩
    · rw [BitVec.getLsbD_sshiftRight]
      by_cases h2 : n + j < 32
      · have := h' (n + j) h2
        have e3 : decide (n + j < n) = false := by simp
        rw [e3] at this
        simp only [Bool.false_and, Bool.not_false, Bool.and_true] at this
        rw [if_pos h2, this, Bool.and_false]
      · have h31 := h' 31 (by omega)
        simp [h2]
        intro _
        rw [BitVec.msb_eq_getLsbD_last]
        simp at h31 ⊢
        by_cases h3 : x.toBitVec.getLsbD 31 = true
        · have := h31 h3
          omega
        · simpa using h3
    · have := h' i (by omega)
      simpa using this
  · rintro ⟨h1, h2⟩ j hj
    rw [key j hj]
    by_cases h3 : j < n
    · by_cases h4 : j = i
      · subst h4; simp [h2]
      · simp [h3, h4]
    · have := h1 (j - n) (by omega)
      rw [BitVec.getLsbD_sshiftRight, show n + (j - n) = j by omega, if_pos hj] at this
      have h6 : decide (32 ≤ j - n) = false := by simp; omega
      rw [h6] at this
      simp only [Bool.not_false, Bool.true_and] at this
      rw [this, Bool.false_and]
