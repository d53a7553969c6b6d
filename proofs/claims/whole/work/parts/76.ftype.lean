-- needs 56 57 58 59 60 61 62 63 64 65 66 67 68 69 70 71 72 73 74 75
/-! type -/
def bytN (f : Int32) (k : Nat) : Nat := f.toBitVec.toNat / 2 ^ (8 * k) % 256
theorem bytN_lt (f : Int32) (k : Nat) : bytN f k < 256 := Nat.mod_lt _ (by decide)
theorem byt_c (f : Int32) {k : Nat} (hk : k < 4) (w : am_w) : f_Rm_byteOf f (nI k) w = some (nI (bytN f k), w) := by
  have h1 : ((Int32.toUInt32 f >>> (Int32.toUInt32 ((8 : Int32) * nI k) &&& Int32.toUInt32 31)).toInt32).toBitVec.toNat = f.toBitVec.toNat / 2 ^ (8 * k) := by
    refine pk_ushr f ((8 : Int32) * nI k) (8 * k) ?_
    have : k = 0 ∨ k = 1 ∨ k = 2 ∨ k = 3 := by omega
    rcases this with rfl | rfl | rfl | rfl <;> decide
  unfold f_Rm_byteOf
  rw [pk_and _ (m := 255) 8 (by decide), h1]
  rfl
theorem byt_m (f : Int32) {k : Nat} (hk : k < 4) : (f >>> (((8 : Int32) * nI k) &&& 31)) &&& (255 : Int32) = nI (bytN f k) := by
  have h1 : (f >>> (((8 : Int32) * nI k) &&& 31)).toInt = f.toInt >>> (8 * k) := by
    refine pk_shr f (((8 : Int32) * nI k) &&& 31) (8 * k) ?_
    have : k = 0 ∨ k = 1 ∨ k = 2 ∨ k = 3 := by omega
    rcases this with rfl | rfl | rfl | rfl <;> decide
  rw [pk_and _ (m := 255) 8 (by decide)]
  congr 1
  generalize f >>> (((8 : Int32) * nI k) &&& 31) = g at *
  have e1 : g.toInt = if 2 * g.toBitVec.toNat < 2 ^ 32 then (g.toBitVec.toNat : Int) else (g.toBitVec.toNat : Int) - (2 ^ 32 : Nat) := BitVec.toInt_eq_toNat_cond g.toBitVec
  have e2 : f.toInt = if 2 * f.toBitVec.toNat < 2 ^ 32 then (f.toBitVec.toNat : Int) else (f.toBitVec.toNat : Int) - (2 ^ 32 : Nat) := BitVec.toInt_eq_toNat_cond f.toBitVec
  have b1 := g.toBitVec.isLt
  have b2 := f.toBitVec.isLt
  rw [Int.shiftRight_eq_div_pow] at h1
  unfold bytN
  generalize g.toBitVec.toNat = gn at *
  generalize f.toBitVec.toNat = fn at *
  rw [e1, e2] at h1
  have : k = 0 ∨ k = 1 ∨ k = 2 ∨ k = 3 := by omega
  rcases this with rfl | rfl | rfl | rfl
  · simp only [Nat.reduceMul, Nat.reducePow] at b1 b2 h1 ⊢; split at h1 <;> split at h1 <;> omega
  · simp only [Nat.reduceMul, Nat.reducePow] at b1 b2 h1 ⊢; split at h1 <;> split at h1 <;> omega
  · simp only [Nat.reduceMul, Nat.reducePow] at b1 b2 h1 ⊢; split at h1 <;> split at h1 <;> omega
  · simp only [Nat.reduceMul, Nat.reducePow] at b1 b2 h1 ⊢; split at h1 <;> split at h1 <;> omega
theorem char_id : ∀ c : Fin 256, (((nI c).toUInt32 % 65536).toInt32).toUInt32.toUInt16.toUInt32.toInt32 = nI c := by decide +kernel
def resT (c : Nat → Nat) : Nat → Nat → Option Nat
  | 0, k => some k
  | d + 1, k => if c k = 0 then some k else if c k < 32 ∨ 126 < c k then none else resT c d (k + 1)
theorem resT_sp {c : Nat → Nat} : ∀ d k m, resT c d k = some m → k ≤ m ∧ m ≤ k + d ∧ ∀ i, k ≤ i → i < m → 32 ≤ c i ∧ c i ≤ 126 := by
  intro d
  induction d with
  | zero =>
    intro k m h
    simp only [resT, Option.some.injEq] at h
    subst h
    exact ⟨Nat.le_refl _, by omega, fun i h1 h2 => by omega⟩
  | succ d ih =>
    intro k m h
    simp only [resT] at h
    split at h
    · simp only [Option.some.injEq] at h
      subst h
      exact ⟨Nat.le_refl _, by omega, fun i h1 h2 => by omega⟩
    · split at h
      · cases h
      · obtain ⟨h1, h2, h3⟩ := ih (k + 1) m h
        refine ⟨by omega, by omega, fun i h4 h5 => ?_⟩
        by_cases h6 : i = k
        · subst h6; omega
        · exact h3 i (by omega) h5
section FTYPE
variable {b P Q M z n : Nat} {sh : am_S} {hi x : am_I} {hr : am_R} {G : Nat → Int} {D : Int} {h : Nat} {tg : Int} {Tb : Nat} {a : Int32 × Nat × Nat × Nat × Int × Int × (Nat → Nat → Int32)}
theorem CX_eq2 (H : Cst b P Q sh hr) (hX : CX b P hi tg G D h n a) (hn : n ≤ 8) (h0 : x b = hi b) (h4 : x (b + 4) = hi (b + 4)) (h5 : x (b + 5) = hi (b + 5)) (h6 : x (b + 6) = hi (b + 6)) (he : ∀ q, P ≤ q → q < P + 10 → x q = hi q) : CX b P x tg G D h n a := by
  obtain ⟨c1, c2, c3, r1, r2, r3, r4, r5, r6, r7, r8⟩ := hX
  unfold CX CR SupC SupN
  rw [h0, h4, h5, h6, he P (by omega) (by omega)]
  refine ⟨c1, c2, c3, r1, r2, r3, r4, r5, r6, r7, ?_⟩
  intro i hi k hk h2
  unfold vC
  rw [he (P + 2 + i) (by omega) (by omega)]
  exact r8 i hi k hk h2
theorem MX_eq2 (hX : MX M hi tg G D h n a) (h0 : ∀ k, k = 9 ∨ 21 ≤ k → x M k = hi M k) (he : ∀ q, M + 5 ≤ q → q ≤ M + 16 → x q = hi q) : MX M x tg G D h n a := by
  obtain ⟨c1, c2, c3, r1, r2, r3, r4, ⟨r5, r5b, r5c⟩, r6, r7⟩ := hX
  have hv : vM x M = vM hi M := by
    funext i k
    unfold vM
    by_cases h : k < 9
    · rw [if_pos h, if_pos h, he (M + 5) (by omega) (by omega)]
    · rw [if_neg h, if_neg h]
      by_cases h2 : k < 19
      · rw [if_pos h2, if_pos h2, he (M + k - 3) (by omega) (by omega)]
      · rw [if_neg h2, if_neg h2]
  refine ⟨by rw [h0 22 (by omega)]; exact c1, by rw [h0 30 (by omega)]; exact c2, fun hh => by rw [h0 29 (by omega)]; exact c3 hh, by rw [h0 21 (by omega)]; exact r1, by rw [h0 23 (by omega)]; exact r2, by rw [h0 24 (by omega)]; exact r3, by rw [h0 26 (by omega)]; exact r4, ⟨fun j hj => by rw [he (M + 16) (by omega) (by omega)]; exact r5 j hj, by rw [h0 27 (by omega)]; exact r5b, by rw [h0 28 (by omega)]; exact r5c⟩, by rw [h0 9 (by omega)]; exact r6, by rw [hv]; exact r7⟩
theorem n_32 {c : Nat} (hc : c < 256) : (nI c < (32 : Int32)) ↔ c < 32 := n_lt (a := c) (b := 32) (by omega) (by omega)
theorem n_126 {c : Nat} (hc : c < 256) : ((126 : Int32) < nI c) ↔ 126 < c := n_lt (a := 126) (b := c) (by omega) (by omega)
theorem n_l126 {c : Nat} (hc : c < 256) : (nI c ≤ (126 : Int32)) ↔ c ≤ 126 := n_le (a := c) (b := 126) (by omega) (by omega)
theorem n_4 {k : Nat} (hk : k ≤ 100) : ((4 : Int32) ≤ nI k) ↔ 4 ≤ k := n_le (a := 4) (b := k) (by omega) (by omega)
theorem e_type_scan (H : Cst b P Q sh hr) (f : Int32) : ∀ d k m, k + d = 4 → d < m → am_it (fun _ _ _ _ => none) s_Rm_type_2 m b f (nI k) (z, sh, hi, hr) = (match resT (bytN f) d k with | none => some (0, 1, (z + 1, sh, hi, hr)) | some j => s_Rm_type_40 b f (nI j) (z, sh, hi, hr)) := by
  intro d
  induction d with
  | zero =>
    intro k m hk hm
    obtain ⟨m, rfl⟩ : ∃ k, m = k + 1 := ⟨m - 1, by omega⟩
    rw [it_s]
    simp only [s_Rm_type_2]
    rw [if_pos ((n_4 (by omega)).mpr (by omega))]
    rfl
  | succ d ih =>
    intro k m hk hm
    obtain ⟨m, rfl⟩ : ∃ k, m = k + 1 := ⟨m - 1, by omega⟩
    have hb := bytN_lt f k
    rw [it_s]
    simp only [s_Rm_type_2]
    rw [if_neg (fun hh => by have := (n_4 (by omega)).mp hh; omega)]
    simp only [byt_c f (show k < 4 by omega), Option.bind_some, resT, n_0 (show bytN f k ≤ 1000 by omega), f_Line_canHold, n_32 hb, n_126 hb]
    by_cases c0 : bytN f k = 0
    · simp only [if_pos c0]
    · simp only [if_neg c0]
      by_cases c1 : bytN f k < 32
      · simp only [if_pos c1, if_pos (Or.inl c1 : bytN f k < 32 ∨ 126 < bytN f k), Option.bind_some, if_true, am_th]
      · by_cases c2 : 126 < bytN f k
        · simp only [if_neg c1, if_pos c2, if_pos (Or.inr c2 : bytN f k < 32 ∨ 126 < bytN f k), Option.bind_some, if_true, am_th]
        · simp only [if_neg c1, if_neg c2, if_neg (show ¬ (bytN f k < 32 ∨ 126 < bytN f k) by omega), Option.bind_some, i0_1, if_false, n_s]
          exact ih (k + 1) m (by omega) (by omega)
theorem m_type_scan (H : Mst M sh hr) (f : Int32) : ∀ d k m, k + d = 4 → d < m → am_it (fun _ _ _ _ _ _ _ => none) s_Mo_type_10 m M f (nI k) (1 : Int32) (0 : Int32) (nI k) (z, sh, hi, hr) = (match resT (bytN f) d k with | none => some (0, (z, sh, am_up hi M 0 1, hr)) | some j => s_Mo_type_103 M f (nI j) (0 : Int32) (0 : Int32) M (z, sh, hi, hr)) := by
  have bad : ∀ d k m (N moo : Int32), k + d = 4 → d < m → am_it (fun _ _ _ _ _ _ _ => none) s_Mo_type_10 m M f N moo (1 : Int32) (nI k) (z, sh, hi, hr) = some (0, (z, sh, am_up hi M 0 1, hr)) := by
    intro d
    induction d with
    | zero =>
      intro k m N moo hk hm
      obtain ⟨m, rfl⟩ : ∃ k, m = k + 1 := ⟨m - 1, by omega⟩
      rw [it_s]
      simp only [s_Mo_type_10, s_Mo_type_103, mg H, mp H, mo H, mr1 H, mr6 H, mr7 H, mr8 H, mr10 H, mr11 H, mr12 H, mr13 H, mr14 H, mr15 H, mr16 H, mr17 H, mr18 H, mr19 H, mr20 H, mr25 H, Option.bind_some, i0_1, if_false]
      rw [if_pos ((n_4 (by omega)).mpr (by omega))]
    | succ d ih =>
      intro k m N moo hk hm
      obtain ⟨m, rfl⟩ : ∃ k, m = k + 1 := ⟨m - 1, by omega⟩
      rw [it_s]
      simp only [s_Mo_type_10, s_Mo_type_42, s_Mo_type_43, s_Mo_type_67, s_Mo_type_72, i0_1, if_false, n_s]
      rw [if_neg (fun hh => by have := (n_4 (by omega)).mp hh; omega)]
      split
      · simp only [if_true]
        exact ih (k + 1) m _ _ (by omega) (by omega)
      · split
        · simp only [if_true]
          exact ih (k + 1) m _ _ (by omega) (by omega)
        · exact ih (k + 1) m _ _ (by omega) (by omega)
  have off : ∀ d k m (N : Int32), k + d = 4 → d < m → am_it (fun _ _ _ _ _ _ _ => none) s_Mo_type_10 m M f N (0 : Int32) (0 : Int32) (nI k) (z, sh, hi, hr) = s_Mo_type_103 M f N (0 : Int32) (0 : Int32) M (z, sh, hi, hr) := by
    intro d
    induction d with
    | zero =>
      intro k m N hk hm
      obtain ⟨m, rfl⟩ : ∃ k, m = k + 1 := ⟨m - 1, by omega⟩
      rw [it_s]
      simp only [s_Mo_type_10, if_true]
      rw [if_pos ((n_4 (by omega)).mpr (by omega))]
    | succ d ih =>
      intro k m N hk hm
      obtain ⟨m, rfl⟩ : ∃ k, m = k + 1 := ⟨m - 1, by omega⟩
      rw [it_s]
      simp only [s_Mo_type_10, s_Mo_type_42, s_Mo_type_43, s_Mo_type_71, s_Mo_type_72, if_true, n_s]
      rw [if_neg (fun hh => by have := (n_4 (by omega)).mp hh; omega)]
      exact ih (k + 1) m _ (by omega) (by omega)
  intro d
  induction d with
  | zero =>
    intro k m hk hm
    obtain ⟨m, rfl⟩ : ∃ k, m = k + 1 := ⟨m - 1, by omega⟩
    rw [it_s]
    simp only [s_Mo_type_10, if_true]
    rw [if_pos ((n_4 (by omega)).mpr (by omega))]
    rfl
  | succ d ih =>
    intro k m hk hm
    obtain ⟨m, rfl⟩ : ∃ k, m = k + 1 := ⟨m - 1, by omega⟩
    have hb := bytN_lt f k
    rw [it_s]
    simp only [s_Mo_type_10, s_Mo_type_42, s_Mo_type_43, s_Mo_type_67, s_Mo_type_71, s_Mo_type_72, byt_m f (show k < 4 by omega), i0_1, if_false, if_true, resT, n_0 (show bytN f k ≤ 1000 by omega), n_32 hb, n_l126 hb, n_s]
    rw [if_neg (fun hh => by have := (n_4 (by omega)).mp hh; omega)]
    by_cases c0 : bytN f k = 0
    · simp only [if_pos c0]
      exact off d (k + 1) m (nI k) (by omega) (by omega)
    · simp only [if_neg c0]
      by_cases c1 : bytN f k < 32
      · simp only [if_pos c1, if_pos (Or.inl c1 : bytN f k < 32 ∨ 126 < bytN f k)]
        exact bad d (k + 1) m _ _ (by omega) (by omega)
      · by_cases c2 : bytN f k ≤ 126
        · simp only [if_neg c1, if_pos c2, if_neg (show ¬ (bytN f k < 32 ∨ 126 < bytN f k) by omega)]
          exact ih (k + 1) m (by omega) (by omega)
        · simp only [if_neg c1, if_neg c2, if_pos (show bytN f k < 32 ∨ 126 < bytN f k by omega)]
          exact bad d (k + 1) m _ _ (by omega) (by omega)
theorem e_type_put (H : Cst b P Q sh hr) (f : Int32) {len m : Nat} (hm : m ≤ 4) (hl : len + m ≤ 64) (h1 : hi (b + 1) 1 = nI len) : ∃ x, f_Rm_type_55 70 b f (nI m) (0 : Int32) (z, sh, hi, hr) = some (1, 0, (z, sh, x, hr)) ∧ (∀ q, q ≠ b + 1 → q ≠ b + 2 → x q = hi q) ∧ x (b + 1) 1 = nI (len + m) ∧ (∀ i, i < len → x (b + 2) i = hi (b + 2) i) ∧ ∀ i, i < m → x (b + 2) (len + i) = nI (bytN f i) := by
  obtain ⟨y, ⟨y1, y2, y3, y4⟩, ey⟩ := loop_ex (bot := fun _ _ _ _ _ => none) (F := s_Rm_type_55) (fun K j y => K b f (nI m) (nI j) (z, sh, y, hr)) (fun y => some (1, 0, (z, sh, y, hr))) m (fun j y => (∀ q, q ≠ b + 1 → q ≠ b + 2 → y q = hi q) ∧ y (b + 1) 1 = nI (len + j) ∧ (∀ i, i < len → y (b + 2) i = hi (b + 2) i) ∧ ∀ i, i < j → y (b + 2) (len + i) = nI (bytN f i)) (by
    rintro K j y hj ⟨i1, i2, i3, i4⟩
    have hb := bytN_lt f j
    have ec := char_id ⟨bytN f j, hb⟩
    simp only [] at ec
    refine ⟨am_up (am_up y (b + 2) (len + j) (nI (bytN f j))) (b + 1) 1 (nI (len + j + 1)), ⟨fun q h1 h2 => ?_, ?_, fun i hi => ?_, fun i hi => ?_⟩, ?_⟩
    · funext k
      rw [am_up_na h1, am_up_na h2, i1 q h1 h2]
    · rw [am_up_eq]; rfl
    · rw [am_up_na (by omega), am_up_nk (by omega)]; exact i3 i hi
    · rw [am_up_na (by omega)]
      by_cases h2 : i = j
      · subst h2; rw [am_up_eq]
      · rw [am_up_nk (by omega)]; exact i4 i (by omega)
    · simp only [s_Rm_type_55]
      rw [if_neg (by rw [n_le (by omega) (by omega)]; omega)]
      simp only [kg0 H, kp0 H, ko0 H, kg1 H, kp1 H, ko1 H, kg2 H, kp2 H, ko2 H, kg3 H, kp3 H, ko3 H, kg4 H, kp4 H, ko4 H, kr0_0 H, kr0_1 H, kr0_2 H, kr0_3 H, kr1_0 H, kr3_0 H, kr4_5 H, kr4_6 H, kr7_0 H, kr0_4 H, kr0_5 H, kal H, Option.bind_some, byt_c f (show j < 4 by omega), f_Line_put, i2]
      rw [if_neg (show ¬ (64 : Int32) ≤ nI (len + j) from nI_ge (b := 64) (by omega) (by decide))]
      simp only [kcs H (show len + j < 64 by omega), kg0 H, kp0 H, ko0 H, kg1 H, kp1 H, ko1 H, kg2 H, kp2 H, ko2 H, kg3 H, kp3 H, ko3 H, kg4 H, kp4 H, ko4 H, kr0_0 H, kr0_1 H, kr0_2 H, kr0_3 H, kr1_0 H, kr3_0 H, kr4_5 H, kr4_6 H, kr7_0 H, kr0_4 H, kr0_5 H, kal H, Option.bind_some, am_up_na (show b + 1 ≠ b + 2 by omega), i2, n_s, ec]) (by
    rintro K y _
    simp only [s_Rm_type_55]
    rw [if_pos (by rw [n_le (by omega) (by omega)]; omega)]) m 0 hi 70 (by omega) (by omega) ⟨fun _ _ _ => rfl, h1, fun _ _ => rfl, fun i hi => by omega⟩
  exact ⟨y, ey, y1, y2, y3, y4⟩
theorem m_type_put (H : Mst M sh hr) (f : Int32) {len m : Nat} (hm : m ≤ 4) (hl : len + m ≤ 64) (h1 : hi M 2 = nI len) : ∃ x, f_Mo_type_127 70 M f (nI m) (0 : Int32) (z, sh, hi, hr) = some (1, (z, sh, x, hr)) ∧ (∀ q, q ≠ M → q ≠ M + 1 → x q = hi q) ∧ (∀ k, k ≠ 2 → x M k = hi M k) ∧ x M 2 = nI (len + m) ∧ (∀ i, i < len → x (M + 1) i = hi (M + 1) i) ∧ ∀ i, i < m → x (M + 1) (len + i) = nI (bytN f i) := by
  obtain ⟨y, ⟨y1, y0, y2, y3, y4⟩, ey⟩ := loop_ex (bot := fun _ _ _ _ _ => none) (F := s_Mo_type_127) (fun K j y => K M f (nI m) (nI j) (z, sh, y, hr)) (fun y => some (1, (z, sh, y, hr))) m (fun j y => (∀ q, q ≠ M → q ≠ M + 1 → y q = hi q) ∧ (∀ k, k ≠ 2 → y M k = hi M k) ∧ y M 2 = nI (len + j) ∧ (∀ i, i < len → y (M + 1) i = hi (M + 1) i) ∧ ∀ i, i < j → y (M + 1) (len + i) = nI (bytN f i)) (by
    rintro K j y hj ⟨i1, i0, i2, i3, i4⟩
    refine ⟨am_up (am_up y (M + 1) (len + j) (nI (bytN f j))) M 2 (nI (len + j + 1)), ⟨fun q h1 h2 => ?_, fun k hk => ?_, ?_, fun i hi => ?_, fun i hi => ?_⟩, ?_⟩
    · funext k
      rw [am_up_na h1, am_up_na h2, i1 q h1 h2]
    · rw [am_up_nk hk, am_up_na (by omega)]; exact i0 k hk
    · rw [am_up_eq]; rfl
    · rw [am_up_na (by omega), am_up_nk (by omega)]; exact i3 i hi
    · rw [am_up_na (by omega)]
      by_cases h2 : i = j
      · subst h2; rw [am_up_eq]
      · rw [am_up_nk (by omega)]; exact i4 i (by omega)
    · simp only [s_Mo_type_127]
      rw [if_neg (by rw [n_le (by omega) (by omega)]; omega)]
      simp only [mg H, mp H, mo H, mr1 H, mr6 H, mr7 H, mr8 H, mr10 H, mr11 H, mr12 H, mr13 H, mr14 H, mr15 H, mr16 H, mr17 H, mr18 H, mr19 H, mr20 H, mr25 H, Option.bind_some, i2, byt_m f (show j < 4 by omega), mw1 H (show len + j < 64 by omega), am_up_na (show M ≠ M + 1 by omega), n_s]) (by
    rintro K y _
    simp only [s_Mo_type_127]
    rw [if_pos (by rw [n_le (by omega) (by omega)]; omega)]) m 0 hi 70 (by omega) (by omega) ⟨fun _ _ _ => rfl, fun _ _ => rfl, h1, fun _ _ => rfl, fun i hi => by omega⟩
  exact ⟨y, ey, y1, y0, y2, y3, y4⟩
theorem L_type (R : RR b sh hi hr Tb) (f : Int32) : ∃ k bm z1 hi1 hi2, f_La_type b f (b + 46) (z, sh, hi, hr) = some (k, (z1, sh, hi1, hr)) ∧ f_Mo_type (b + 29) f (z1, sh, hi1, hr) = some (bm, (z1, sh, hi2, hr)) ∧ hi2 (b + 29) 0 = k ∧ (k = 0 → hi2 (b + 46) 0 = bm ∧ (bm = 0 ∨ bm = 1)) ∧ RR b sh hi2 hr Tb := by
  have R0 := R
  obtain ⟨P, Q, tg, G, D, h, n, a, len, H, HM, ho, hC, hM, hA, hT, t1, t2, t3, t4⟩ := R
  have p2 := k_P2 H
  have cs : f_Rm_type b f (z, sh, hi, hr) = _ := e_type_scan (z := z) (hi := hi) H f 4 0 70 rfl (by omega)
  have ms : ∀ z x, f_Mo_type (b + 29) f (z, sh, x, hr) = _ := fun z x => m_type_scan (z := z) (hi := x) HM f 4 0 70 rfl (by omega)
  rcases hres : resT (bytN f) 4 0 with _ | m
  · rw [hres] at cs
    refine ⟨1, 0, z + 1, hi, am_up hi (b + 29) 0 1, ?_, ?_, am_up_eq _ _ _ _, fun hh => absurd hh (by decide), RR_q R0 q0 qe⟩
    · simp only [f_La_type, kg0 H, kp0 H, ko0 H, kg1 H, kp1 H, ko1 H, kg2 H, kp2 H, ko2 H, kg3 H, kp3 H, ko3 H, kg4 H, kp4 H, ko4 H, kr0_0 H, kr0_1 H, kr0_2 H, kr0_3 H, kr1_0 H, kr3_0 H, kr4_5 H, kr4_6 H, kr7_0 H, kr0_4 H, kr0_5 H, kal H, cs, Option.bind_some]
      rfl
    · rw [ms, hres]
  · rw [hres] at cs
    obtain ⟨-, m4, mr⟩ := resT_sp 4 0 m hres
    have l64 : ((64 : Int32) < nI (len + m)) ↔ 64 < len + m := n_lt (a := 64) (b := len + m) (by omega) (by omega)
    have g64 : (nI (len + m) ≤ (64 : Int32)) ↔ len + m ≤ 64 := n_le (a := len + m) (b := 64) (by omega) (by omega)
    by_cases hl : len + m ≤ 64
    · obtain ⟨x, ex, x1, x2, x3, x4⟩ := e_type_put (z := z) H f (by omega) hl t1
      have xo : ∀ q, q ≠ b + 46 → (am_up x (b + 46) 0 1) q = x q := outO
      obtain ⟨y, ey, y1, y0, y2, y3, y4⟩ := m_type_put (z := z) (hi := am_up (am_up x (b + 46) 0 1) (b + 29) 0 0) HM f (len := len) (m := m) (by omega) hl (by rw [am_up_nk (by decide), xo _ (by omega), x1 _ (by omega) (by omega)]; exact t2)
      have hy : ∀ q, q ≠ b + 1 → q ≠ b + 2 → q ≠ b + 29 → q ≠ b + 30 → q ≠ b + 46 → y q = hi q := fun q q1 q2 q3 q4 q5 => by
        rw [y1 q q3 (by omega)]
        funext j
        rw [am_up_na q3, am_up_na q5, x1 q q1 q2]
      refine ⟨0, 1, z, am_up x (b + 46) 0 1, y, ?_, ?_, ?_, ?_, ?_⟩
      · simp only [f_La_type, kg0 H, kp0 H, ko0 H, kg1 H, kp1 H, ko1 H, kg2 H, kp2 H, ko2 H, kg3 H, kp3 H, ko3 H, kg4 H, kp4 H, ko4 H, kr0_0 H, kr0_1 H, kr0_2 H, kr0_3 H, kr1_0 H, kr3_0 H, kr4_5 H, kr4_6 H, kr7_0 H, kr0_4 H, kr0_5 H, kal H, cs, s_Rm_type_40, f_Line_hasRoomFor, t1, n_add, Option.bind_some, l64, if_neg (show ¬ 64 < len + m by omega), i0_1, if_false, ex, if_true, lp_out ho]
      · rw [ms, hres]
        have H := HM
        have h2 : (am_up (am_up x (b + 46) 0 1) (b + 29) 0 0) (b + 29) 2 = nI len := by rw [am_up_nk (by decide), xo _ (by omega), x1 _ (by omega) (by omega)]; exact t2
        simp only [s_Mo_type_103, mg H, mp H, mo H, mr1 H, mr6 H, mr7 H, mr8 H, mr10 H, mr11 H, mr12 H, mr13 H, mr14 H, mr15 H, mr16 H, mr17 H, mr18 H, mr19 H, mr20 H, mr25 H, Option.bind_some, if_true, h2, n_add, g64, if_pos hl, ey]
      · rw [y0 0 (by decide), am_up_eq]
      · intro _
        refine ⟨?_, Or.inr rfl⟩
        rw [y1 (b + 46) (by omega) (by omega), am_up_na (by omega), am_up_eq]
      · refine ⟨P, Q, tg, G, D, h, n, a, len + m, H, HM, ho, CX_eq2 H hC hA.2.2.2.2.2.2.2.1 (hy _ (by omega) (by omega) (by omega) (by omega) (by omega)) (hy _ (by omega) (by omega) (by omega) (by omega) (by omega)) (hy _ (by omega) (by omega) (by omega) (by omega) (by omega)) (hy _ (by omega) (by omega) (by omega) (by omega) (by omega)) (fun q h1 h2 => hy q (by omega) (by omega) (by omega) (by omega) (by omega)), MX_eq2 hM (fun k hk => by rw [y0 k (by omega), am_up_nk (by omega), xo _ (by omega), x1 _ (by omega) (by omega)]) (fun q h1 h2 => hy q (by omega) (by omega) (by omega) (by omega) (by omega)), hA, hT, ?_, y2, hl, ?_⟩
        · rw [y1 _ (by omega) (by omega), am_up_na (by omega), xo _ (by omega)]; exact x2
        · intro j hj
          have yb : ∀ j, y (b + 2) j = x (b + 2) j := fun j => by rw [y1 _ (by omega) (by omega), am_up_na (by omega), xo _ (by omega)]
          rw [yb]
          by_cases h1 : j < len
          · rw [x3 j h1, y3 j h1, am_up_na (by omega), xo _ (by omega), x1 _ (by omega) (by omega)]
            exact t4 j h1
          · obtain ⟨i, rfl⟩ : ∃ i, j = len + i := ⟨j - len, by omega⟩
            obtain ⟨r1, r2⟩ := mr i (by omega) (by omega)
            exact ⟨bytN f i, r1, r2, x4 i (by omega), y4 i (by omega)⟩
    · refine ⟨0, 0, z, am_up hi (b + 46) 0 0, am_up (am_up hi (b + 46) 0 0) (b + 29) 0 0, ?_, ?_, am_up_eq _ _ _ _, fun _ => ⟨by rw [am_up_na (by omega), am_up_eq], Or.inl rfl⟩, RR_q R0 (fun k hk => by rw [am_up_nk hk, am_up_na (by omega)]) (fun q h1 h2 _ _ => by funext j; rw [am_up_na h1, am_up_na h2])⟩
      · simp only [f_La_type, kg0 H, kp0 H, ko0 H, kg1 H, kp1 H, ko1 H, kg2 H, kp2 H, ko2 H, kg3 H, kp3 H, ko3 H, kg4 H, kp4 H, ko4 H, kr0_0 H, kr0_1 H, kr0_2 H, kr0_3 H, kr1_0 H, kr3_0 H, kr4_5 H, kr4_6 H, kr7_0 H, kr0_4 H, kr0_5 H, kal H, cs, s_Rm_type_40, f_Line_hasRoomFor, t1, n_add, Option.bind_some, l64, if_pos (show 64 < len + m by omega), if_true, lp_out ho]
      · rw [ms, hres]
        have H := HM
        have h2 : (am_up (am_up hi (b + 46) 0 0) (b + 29) 0 0) (b + 29) 2 = nI len := by rw [am_up_nk (by decide), outO _ (by omega)]; exact t2
        simp only [s_Mo_type_103, mg H, mp H, mo H, mr1 H, mr6 H, mr7 H, mr8 H, mr10 H, mr11 H, mr12 H, mr13 H, mr14 H, mr15 H, mr16 H, mr17 H, mr18 H, mr19 H, mr20 H, mr25 H, Option.bind_some, if_true, h2, n_add, g64, if_neg hl]
end FTYPE
