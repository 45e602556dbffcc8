/-! bits of the standing, in Int -/
theorem zb_andN (a b : Nat) : nI a &&& nI b = nI (a &&& b) := by
  apply Int32.toBitVec_inj.1
  show BitVec.ofNat 32 a &&& BitVec.ofNat 32 b = BitVec.ofNat 32 (a &&& b)
  apply BitVec.eq_of_getLsbD_eq
  intro i hi
  simp [hi]
theorem zb_orN (a b : Nat) : nI a ||| nI b = nI (a ||| b) := by
  apply Int32.toBitVec_inj.1
  show BitVec.ofNat 32 a ||| BitVec.ofNat 32 b = BitVec.ofNat 32 (a ||| b)
  apply BitVec.eq_of_getLsbD_eq
  intro i hi
  simp [hi]
theorem nb_or (j hi v lo : Nat) (hv : v < 2 ^ 3) (hl : lo < 2 ^ j) : (2 ^ (j + 3) * hi + lo) ||| (2 ^ j * v) = 2 ^ j * (2 ^ 3 * hi + v) + lo := by
  have hl2 : lo < 2 ^ (j + 3) := Nat.lt_of_lt_of_le hl (Nat.pow_le_pow_right (by decide) (by omega))
  apply Nat.eq_of_testBit_eq
  intro i
  rw [Nat.testBit_or, Nat.testBit_two_pow_mul_add _ hl2, Nat.testBit_two_pow_mul_add _ hl, Nat.testBit_two_pow_mul, Nat.testBit_two_pow_mul_add _ hv]
  by_cases h1 : i < j
  · have h2 : i < j + 3 := by omega
    have h3 : ¬ j ≤ i := by omega
    simp [h1, h2, h3]
  · have h3 : j ≤ i := by omega
    have hlo : lo.testBit i = false := Nat.testBit_lt_two_pow (Nat.lt_of_lt_of_le hl (Nat.pow_le_pow_right (by decide) h3))
    by_cases h2 : i < j + 3
    · have h4 : i - j < 3 := by omega
      simp [h1, h2, h3, h4, hlo]
    · have h4 : ¬ i - j < 3 := by omega
      have hvi : v.testBit (i - j) = false := Nat.testBit_lt_two_pow (Nat.lt_of_lt_of_le hv (Nat.pow_le_pow_right (by decide) (by omega)))
      have h5 : i - (j + 3) = i - j - 3 := by omega
      simp [h1, h2, h3, h4, hvi, h5]
theorem nb_and (j n M : Nat) (hj : j ≤ 24) (hM : ∀ i, i < 32 → M.testBit i = (decide (i < j) || decide (j + 3 ≤ i))) (hn : n < 2 ^ 31) : n &&& M = 2 ^ (j + 3) * (n / 2 ^ (j + 3)) + n % 2 ^ j := by
  have hl2 : n % 2 ^ j < 2 ^ (j + 3) := Nat.lt_of_lt_of_le (Nat.mod_lt _ (Nat.two_pow_pos j)) (Nat.pow_le_pow_right (by decide) (by omega))
  apply Nat.eq_of_testBit_eq
  intro i
  rw [Nat.testBit_and, Nat.testBit_two_pow_mul_add _ hl2, Nat.testBit_mod_two_pow, Nat.testBit_div_two_pow]
  by_cases hi : i < 32
  · rw [hM i hi]
    by_cases h1 : i < j + 3
    · have h2 : ¬ j + 3 ≤ i := by omega
      simp [h1, h2, Bool.and_comm]
    · have h2 : j + 3 ≤ i := by omega
      have h3 : ¬ i < j := by omega
      have h4 : i - (j + 3) + (j + 3) = i := by omega
      simp [h1, h2, h3, h4]
  · have h0 : n.testBit i = false := Nat.testBit_lt_two_pow (Nat.lt_of_lt_of_le hn (Nat.pow_le_pow_right (by decide) (by omega)))
    have h1 : ¬ i < j + 3 := by omega
    have h4 : i - (j + 3) + (j + 3) = i := by omega
    simp [h0, h1, h4]
theorem zb_mod {z : Int} (j : Nat) {M P : Int} (hM : (zI M).toBitVec.toNat = 2 ^ j - 1) (hP : ((2 ^ j : Nat) : Int) = P) (h : 0 ≤ z ∧ z ≤ 2147483647) : zI z &&& zI M = zI (z % P) := by
  obtain ⟨n, rfl⟩ := Int.eq_ofNat_of_zero_le h.1
  rw [zI_n, pk_andN (by omega) j hM, ← zI_n, ← hP, Int.natCast_emod]

theorem zb_ushr {s k : Int} (hs : 0 ≤ s ∧ s ≤ 2147483647) (h0 : 0 ≤ k) (h1 : k < 9) : ((zI s).toUInt32 >>> ((zI (3 * k)).toUInt32 &&& Int32.toUInt32 31)).toInt32 = zI (s / p8 k) := by
  obtain ⟨n, rfl⟩ := Int.eq_ofNat_of_zero_le hs.1
  rcases k9 h0 h1 with rfl | rfl | rfl | rfl | rfl | rfl | rfl | rfl | rfl
  · rw [zI_n, pk_ushrN (by omega) _ 0 (by decide +kernel), ← zI_n, show p8 0 = ((2 ^ 0 : Nat) : Int) from by decide, Int.natCast_ediv]
  · rw [zI_n, pk_ushrN (by omega) _ 3 (by decide +kernel), ← zI_n, show p8 1 = ((2 ^ 3 : Nat) : Int) from by decide, Int.natCast_ediv]
  · rw [zI_n, pk_ushrN (by omega) _ 6 (by decide +kernel), ← zI_n, show p8 2 = ((2 ^ 6 : Nat) : Int) from by decide, Int.natCast_ediv]
  · rw [zI_n, pk_ushrN (by omega) _ 9 (by decide +kernel), ← zI_n, show p8 3 = ((2 ^ 9 : Nat) : Int) from by decide, Int.natCast_ediv]
  · rw [zI_n, pk_ushrN (by omega) _ 12 (by decide +kernel), ← zI_n, show p8 4 = ((2 ^ 12 : Nat) : Int) from by decide, Int.natCast_ediv]
  · rw [zI_n, pk_ushrN (by omega) _ 15 (by decide +kernel), ← zI_n, show p8 5 = ((2 ^ 15 : Nat) : Int) from by decide, Int.natCast_ediv]
  · rw [zI_n, pk_ushrN (by omega) _ 18 (by decide +kernel), ← zI_n, show p8 6 = ((2 ^ 18 : Nat) : Int) from by decide, Int.natCast_ediv]
  · rw [zI_n, pk_ushrN (by omega) _ 21 (by decide +kernel), ← zI_n, show p8 7 = ((2 ^ 21 : Nat) : Int) from by decide, Int.natCast_ediv]
  · rw [zI_n, pk_ushrN (by omega) _ 24 (by decide +kernel), ← zI_n, show p8 8 = ((2 ^ 24 : Nat) : Int) from by decide, Int.natCast_ediv]
theorem zb_shl {v k : Int} (hs : 0 ≤ v ∧ v ≤ 7) (h0 : 0 ≤ k) (h1 : k < 9) : zI v <<< (zI (3 * k) &&& 31) = zI (v * p8 k) := by
  obtain ⟨n, rfl⟩ := Int.eq_ofNat_of_zero_le hs.1
  rcases k9 h0 h1 with rfl | rfl | rfl | rfl | rfl | rfl | rfl | rfl | rfl
  · rw [zI_n, pk_shlN _ 0 (by decide +kernel) (by omega), ← zI_n, show p8 0 = ((2 ^ 0 : Nat) : Int) from by decide, Int.natCast_mul]
  · rw [zI_n, pk_shlN _ 3 (by decide +kernel) (by omega), ← zI_n, show p8 1 = ((2 ^ 3 : Nat) : Int) from by decide, Int.natCast_mul]
  · rw [zI_n, pk_shlN _ 6 (by decide +kernel) (by omega), ← zI_n, show p8 2 = ((2 ^ 6 : Nat) : Int) from by decide, Int.natCast_mul]
  · rw [zI_n, pk_shlN _ 9 (by decide +kernel) (by omega), ← zI_n, show p8 3 = ((2 ^ 9 : Nat) : Int) from by decide, Int.natCast_mul]
  · rw [zI_n, pk_shlN _ 12 (by decide +kernel) (by omega), ← zI_n, show p8 4 = ((2 ^ 12 : Nat) : Int) from by decide, Int.natCast_mul]
  · rw [zI_n, pk_shlN _ 15 (by decide +kernel) (by omega), ← zI_n, show p8 5 = ((2 ^ 15 : Nat) : Int) from by decide, Int.natCast_mul]
  · rw [zI_n, pk_shlN _ 18 (by decide +kernel) (by omega), ← zI_n, show p8 6 = ((2 ^ 18 : Nat) : Int) from by decide, Int.natCast_mul]
  · rw [zI_n, pk_shlN _ 21 (by decide +kernel) (by omega), ← zI_n, show p8 7 = ((2 ^ 21 : Nat) : Int) from by decide, Int.natCast_mul]
  · rw [zI_n, pk_shlN _ 24 (by decide +kernel) (by omega), ← zI_n, show p8 8 = ((2 ^ 24 : Nat) : Int) from by decide, Int.natCast_mul]
theorem zb_not {k : Int} (h0 : 0 ≤ k) (h1 : k < 9) : zI (7 * p8 k) ^^^ zI (-1) = zI (-(7 * p8 k) - 1) := by
  rcases k9 h0 h1 with rfl | rfl | rfl | rfl | rfl | rfl | rfl | rfl | rfl <;> decide +kernel
theorem zb_clr {s k : Int} (hs : 0 ≤ s ∧ s ≤ 2147483647) (h0 : 0 ≤ k) (h1 : k < 9) : zI s &&& zI (-(7 * p8 k) - 1) = zI (s - s / p8 k % 8 * p8 k) := by
  obtain ⟨n, rfl⟩ := Int.eq_ofNat_of_zero_le hs.1
  rcases k9 h0 h1 with rfl | rfl | rfl | rfl | rfl | rfl | rfl | rfl | rfl
  · rw [show zI (-(7 * p8 0) - 1) = nI 4294967288 from by decide +kernel, zI_n, zb_andN, nb_and 0 n 4294967288 (by decide) (by decide +kernel) (by omega), ← zI_n, show p8 0 = 1 from by decide]
    congr 1
    simp only [Nat.reduceAdd, Nat.reducePow]
    omega
  · rw [show zI (-(7 * p8 1) - 1) = nI 4294967239 from by decide +kernel, zI_n, zb_andN, nb_and 3 n 4294967239 (by decide) (by decide +kernel) (by omega), ← zI_n, show p8 1 = 8 from by decide]
    congr 1
    simp only [Nat.reduceAdd, Nat.reducePow]
    omega
  · rw [show zI (-(7 * p8 2) - 1) = nI 4294966847 from by decide +kernel, zI_n, zb_andN, nb_and 6 n 4294966847 (by decide) (by decide +kernel) (by omega), ← zI_n, show p8 2 = 64 from by decide]
    congr 1
    simp only [Nat.reduceAdd, Nat.reducePow]
    omega
  · rw [show zI (-(7 * p8 3) - 1) = nI 4294963711 from by decide +kernel, zI_n, zb_andN, nb_and 9 n 4294963711 (by decide) (by decide +kernel) (by omega), ← zI_n, show p8 3 = 512 from by decide]
    congr 1
    simp only [Nat.reduceAdd, Nat.reducePow]
    omega
  · rw [show zI (-(7 * p8 4) - 1) = nI 4294938623 from by decide +kernel, zI_n, zb_andN, nb_and 12 n 4294938623 (by decide) (by decide +kernel) (by omega), ← zI_n, show p8 4 = 4096 from by decide]
    congr 1
    simp only [Nat.reduceAdd, Nat.reducePow]
    omega
  · rw [show zI (-(7 * p8 5) - 1) = nI 4294737919 from by decide +kernel, zI_n, zb_andN, nb_and 15 n 4294737919 (by decide) (by decide +kernel) (by omega), ← zI_n, show p8 5 = 32768 from by decide]
    congr 1
    simp only [Nat.reduceAdd, Nat.reducePow]
    omega
  · rw [show zI (-(7 * p8 6) - 1) = nI 4293132287 from by decide +kernel, zI_n, zb_andN, nb_and 18 n 4293132287 (by decide) (by decide +kernel) (by omega), ← zI_n, show p8 6 = 262144 from by decide]
    congr 1
    simp only [Nat.reduceAdd, Nat.reducePow]
    omega
  · rw [show zI (-(7 * p8 7) - 1) = nI 4280287231 from by decide +kernel, zI_n, zb_andN, nb_and 21 n 4280287231 (by decide) (by decide +kernel) (by omega), ← zI_n, show p8 7 = 2097152 from by decide]
    congr 1
    simp only [Nat.reduceAdd, Nat.reducePow]
    omega
  · rw [show zI (-(7 * p8 8) - 1) = nI 4177526783 from by decide +kernel, zI_n, zb_andN, nb_and 24 n 4177526783 (by decide) (by decide +kernel) (by omega), ← zI_n, show p8 8 = 16777216 from by decide]
    congr 1
    simp only [Nat.reduceAdd, Nat.reducePow]
    omega
theorem zb_put {s v k : Int} (hs : 0 ≤ s ∧ s ≤ 2147483647) (hv : 0 ≤ v ∧ v ≤ 7) (h0 : 0 ≤ k) (h1 : k < 9) : zI (s - s / p8 k % 8 * p8 k) ||| zI (v * p8 k) = zI (s + (v - s / p8 k % 8) * p8 k) := by
  obtain ⟨n, rfl⟩ := Int.eq_ofNat_of_zero_le hs.1
  obtain ⟨v, rfl⟩ := Int.eq_ofNat_of_zero_le hv.1
  rcases k9 h0 h1 with rfl | rfl | rfl | rfl | rfl | rfl | rfl | rfl | rfl
  · rw [show p8 0 = 1 from by decide]
    have e1 : (n : Int) - (n : Int) / 1 % 8 * 1 = ((2 ^ (0 + 3) * (n / 2 ^ (0 + 3)) + n % 2 ^ 0 : Nat) : Int) := by simp only [Nat.reduceAdd, Nat.reducePow]; omega
    have e2 : (v : Int) * 1 = ((2 ^ 0 * v : Nat) : Int) := by simp only [Nat.reducePow]; omega
    rw [e1, e2, zI_n, zI_n, zb_orN, nb_or _ _ _ _ (by omega) (Nat.mod_lt _ (by decide)), ← zI_n]
    congr 1
    simp only [Nat.reduceAdd, Nat.reducePow]
    omega
  · rw [show p8 1 = 8 from by decide]
    have e1 : (n : Int) - (n : Int) / 8 % 8 * 8 = ((2 ^ (3 + 3) * (n / 2 ^ (3 + 3)) + n % 2 ^ 3 : Nat) : Int) := by simp only [Nat.reduceAdd, Nat.reducePow]; omega
    have e2 : (v : Int) * 8 = ((2 ^ 3 * v : Nat) : Int) := by simp only [Nat.reducePow]; omega
    rw [e1, e2, zI_n, zI_n, zb_orN, nb_or _ _ _ _ (by omega) (Nat.mod_lt _ (by decide)), ← zI_n]
    congr 1
    simp only [Nat.reduceAdd, Nat.reducePow]
    omega
  · rw [show p8 2 = 64 from by decide]
    have e1 : (n : Int) - (n : Int) / 64 % 8 * 64 = ((2 ^ (6 + 3) * (n / 2 ^ (6 + 3)) + n % 2 ^ 6 : Nat) : Int) := by simp only [Nat.reduceAdd, Nat.reducePow]; omega
    have e2 : (v : Int) * 64 = ((2 ^ 6 * v : Nat) : Int) := by simp only [Nat.reducePow]; omega
    rw [e1, e2, zI_n, zI_n, zb_orN, nb_or _ _ _ _ (by omega) (Nat.mod_lt _ (by decide)), ← zI_n]
    congr 1
    simp only [Nat.reduceAdd, Nat.reducePow]
    omega
  · rw [show p8 3 = 512 from by decide]
    have e1 : (n : Int) - (n : Int) / 512 % 8 * 512 = ((2 ^ (9 + 3) * (n / 2 ^ (9 + 3)) + n % 2 ^ 9 : Nat) : Int) := by simp only [Nat.reduceAdd, Nat.reducePow]; omega
    have e2 : (v : Int) * 512 = ((2 ^ 9 * v : Nat) : Int) := by simp only [Nat.reducePow]; omega
    rw [e1, e2, zI_n, zI_n, zb_orN, nb_or _ _ _ _ (by omega) (Nat.mod_lt _ (by decide)), ← zI_n]
    congr 1
    simp only [Nat.reduceAdd, Nat.reducePow]
    omega
  · rw [show p8 4 = 4096 from by decide]
    have e1 : (n : Int) - (n : Int) / 4096 % 8 * 4096 = ((2 ^ (12 + 3) * (n / 2 ^ (12 + 3)) + n % 2 ^ 12 : Nat) : Int) := by simp only [Nat.reduceAdd, Nat.reducePow]; omega
    have e2 : (v : Int) * 4096 = ((2 ^ 12 * v : Nat) : Int) := by simp only [Nat.reducePow]; omega
    rw [e1, e2, zI_n, zI_n, zb_orN, nb_or _ _ _ _ (by omega) (Nat.mod_lt _ (by decide)), ← zI_n]
    congr 1
    simp only [Nat.reduceAdd, Nat.reducePow]
    omega
  · rw [show p8 5 = 32768 from by decide]
    have e1 : (n : Int) - (n : Int) / 32768 % 8 * 32768 = ((2 ^ (15 + 3) * (n / 2 ^ (15 + 3)) + n % 2 ^ 15 : Nat) : Int) := by simp only [Nat.reduceAdd, Nat.reducePow]; omega
    have e2 : (v : Int) * 32768 = ((2 ^ 15 * v : Nat) : Int) := by simp only [Nat.reducePow]; omega
    rw [e1, e2, zI_n, zI_n, zb_orN, nb_or _ _ _ _ (by omega) (Nat.mod_lt _ (by decide)), ← zI_n]
    congr 1
    simp only [Nat.reduceAdd, Nat.reducePow]
    omega
  · rw [show p8 6 = 262144 from by decide]
    have e1 : (n : Int) - (n : Int) / 262144 % 8 * 262144 = ((2 ^ (18 + 3) * (n / 2 ^ (18 + 3)) + n % 2 ^ 18 : Nat) : Int) := by simp only [Nat.reduceAdd, Nat.reducePow]; omega
    have e2 : (v : Int) * 262144 = ((2 ^ 18 * v : Nat) : Int) := by simp only [Nat.reducePow]; omega
    rw [e1, e2, zI_n, zI_n, zb_orN, nb_or _ _ _ _ (by omega) (Nat.mod_lt _ (by decide)), ← zI_n]
    congr 1
    simp only [Nat.reduceAdd, Nat.reducePow]
    omega
  · rw [show p8 7 = 2097152 from by decide]
    have e1 : (n : Int) - (n : Int) / 2097152 % 8 * 2097152 = ((2 ^ (21 + 3) * (n / 2 ^ (21 + 3)) + n % 2 ^ 21 : Nat) : Int) := by simp only [Nat.reduceAdd, Nat.reducePow]; omega
    have e2 : (v : Int) * 2097152 = ((2 ^ 21 * v : Nat) : Int) := by simp only [Nat.reducePow]; omega
    rw [e1, e2, zI_n, zI_n, zb_orN, nb_or _ _ _ _ (by omega) (Nat.mod_lt _ (by decide)), ← zI_n]
    congr 1
    simp only [Nat.reduceAdd, Nat.reducePow]
    omega
  · rw [show p8 8 = 16777216 from by decide]
    have e1 : (n : Int) - (n : Int) / 16777216 % 8 * 16777216 = ((2 ^ (24 + 3) * (n / 2 ^ (24 + 3)) + n % 2 ^ 24 : Nat) : Int) := by simp only [Nat.reduceAdd, Nat.reducePow]; omega
    have e2 : (v : Int) * 16777216 = ((2 ^ 24 * v : Nat) : Int) := by simp only [Nat.reducePow]; omega
    rw [e1, e2, zI_n, zI_n, zb_orN, nb_or _ _ _ _ (by omega) (Nat.mod_lt _ (by decide)), ← zI_n]
    congr 1
    simp only [Nat.reduceAdd, Nat.reducePow]
    omega
theorem zb_s27 {v : Int} (h : 0 ≤ v ∧ v ≤ 9) : zI v <<< (zI 27 &&& 31) = zI (v * 134217728) := by
  obtain ⟨n, rfl⟩ := Int.eq_ofNat_of_zero_le h.1
  rw [zI_n, pk_shlN _ 27 (by decide +kernel) (by omega), ← zI_n, Int.natCast_mul]
  rfl
theorem zb_o27 {s v : Int} (hs : 0 ≤ s ∧ s ≤ 134217727) (h : 0 ≤ v ∧ v ≤ 9) : zI s ||| zI (v * 134217728) = zI (s + v * 134217728) := by
  obtain ⟨n, rfl⟩ := Int.eq_ofNat_of_zero_le hs.1
  obtain ⟨v, rfl⟩ := Int.eq_ofNat_of_zero_le h.1
  rw [show (v : Int) * 134217728 = ((2 ^ 27 * v : Nat) : Int) from by simp only [Nat.reducePow]; omega, zI_n, zI_n, zb_orN, Nat.or_comm, ← Nat.two_pow_add_eq_or_of_lt (show n < 2 ^ 27 by omega), ← zI_n]
  congr 1
  omega
theorem zb_u27 {s : Int} (hs : 0 ≤ s ∧ s ≤ 2147483647) : ((zI s).toUInt32 >>> ((zI 27).toUInt32 &&& Int32.toUInt32 31)).toInt32 = zI (s / 134217728) := by
  obtain ⟨n, rfl⟩ := Int.eq_ofNat_of_zero_le hs.1
  rw [zI_n, pk_ushrN (by omega) _ 27 (by decide +kernel), ← zI_n, Int.natCast_ediv]
  rfl

