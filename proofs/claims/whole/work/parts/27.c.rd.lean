/-! what is read: the rows told alone, a house told well -/
theorem rdS_c {ln : Int} {bys : Int → Int} : ∀ (f : Nat) (n p : Int) (so le ri ti so' le' ri' ti' : Int → Int), 0 ≤ n → hAg so le ri ti so' le' ri' ti' n →
    (rdS ln bys f n p so le ri ti).1 = (rdS ln bys f n p so' le' ri' ti').1 ∧ (rdS ln bys f n p so le ri ti).2.1 = (rdS ln bys f n p so' le' ri' ti').2.1 ∧ hAg (rdS ln bys f n p so le ri ti).2.2.1 (rdS ln bys f n p so le ri ti).2.2.2.1 (rdS ln bys f n p so le ri ti).2.2.2.2.1 (rdS ln bys f n p so le ri ti).2.2.2.2.2 (rdS ln bys f n p so' le' ri' ti').2.2.1 (rdS ln bys f n p so' le' ri' ti').2.2.2.1 (rdS ln bys f n p so' le' ri' ti').2.2.2.2.1 (rdS ln bys f n p so' le' ri' ti').2.2.2.2.2 (rdS ln bys f n p so le ri ti).2.1
  | 0, n, p, so, le, ri, ti, so', le', ri', ti', _, h => ⟨rfl, rfl, h⟩
  | f + 1, n, p, so, le, ri, ti, so', le', ri', ti', hn, h => by
    by_cases k4 : kK ln bys (tkS ln bys p) = 4
    · rw [rdS_4 k4, rdS_4 k4]
      exact ⟨rfl, rfl, h⟩
    · by_cases k5 : (itS ln bys n (tkS ln bys p)).1 = -1
      · rw [rdS_y k4 k5, rdS_y k4 k5]
        refine rdS_c f (n + 1) _ _ _ _ _ _ _ _ _ (by omega) (fun k h0 h1 => ?_)
        by_cases q : k = n
        · rw [q, zu_s, zu_s, zu_s, zu_s, zu_s, zu_s, zu_s, zu_s]
          exact ⟨rfl, rfl, rfl, rfl⟩
        · rw [zu_n q, zu_n q, zu_n q, zu_n q, zu_n q, zu_n q, zu_n q, zu_n q]
          exact h k h0 (by omega)
      · rw [rdS_n k4 k5, rdS_n k4 k5]
        exact ⟨rfl, rfl, h⟩
theorem tN_v {ln : Int} {bys : Int → Int} {f p lb ub : Int} (h : (tN ln bys f p lb ub).1 = -1) (hp : 0 ≤ p ∧ p ≤ ln) : lb ≤ (tN ln bys f p lb ub).2.2 ∧ (tN ln bys f p lb ub).2.2 ≤ ub := by
  have hf := tN_b h
  by_cases y : okN ln bys p lb ub
  · rw [tN_y hf y]
    exact y.2
  · rw [tN_n hf y] at h
    have h2 := tkS_r (bys := bys) hp.2
    have h3 : tkS ln bys p = -1 := h
    omega
theorem it_ok {ln : Int} {bys : Int → Int} {n q : Int} (hln : 0 ≤ ln ∧ ln ≤ 200) (hq : 0 ≤ q ∧ q ≤ ln) (h : (itS ln bys n q).1 = -1) : n < 9 ∧ (0 ≤ kK ln bys q ∧ kK ln bys q ≤ 3) ∧ (kK ln bys q ≠ 0 → 0 ≤ (itA ln bys n q).2.2 ∧ (itA ln bys n q).2.2 < n) ∧ ((kK ln bys q = 1 ∨ kK ln bys q = 2) → 0 ≤ (itB ln bys n q).2.2 ∧ (itB ln bys n q).2.2 < n) ∧ (kK ln bys q = 1 → 1 ≤ (itC ln bys n q).2.2 ∧ (itC ln bys n q).2.2 ≤ 3) ∧ (kK ln bys q = 3 → 2 ≤ (itC ln bys n q).2.2 ∧ (itC ln bys n q).2.2 ≤ 4) ∧ (kK ln bys q = 0 → (itA ln bys n q).2.2 = -9) ∧ ((kK ln bys q = 0 ∨ kK ln bys q = 3) → (itB ln bys n q).2.2 = -9) ∧ ((kK ln bys q = 0 ∨ kK ln bys q = 2) → (itC ln bys n q).2.2 = 0) := by
  have hk := kK_r ln bys q
  by_cases z : kK ln bys q ≤ 3 ∧ n < 9
  · rw [itS_y z] at h
    have hC : (itC ln bys n q).1 = -1 := tEn_b h
    have hB := itC_b z.1 hC
    have hA := itB_b hB
    have rA := itA_r (bys := bys) (n := n) hln hq
    have rB := itB_r (bys := bys) (n := n) hln hq
    have hE := kE_r (bys := bys) hq.2
    refine ⟨z.2, ⟨hk.1, z.1⟩, fun y => ?_, fun y => ?_, fun y => ?_, fun y => ?_, fun y => ?_, fun y => ?_, fun y => ?_⟩
    · have e : itA ln bys n q = tN ln bys (-1) (kE ln bys q) 0 (n - 1) := if_neg y
      rw [e] at hA ⊢
      have := tN_v hA ⟨by omega, hE.2⟩
      omega
    · have e : itB ln bys n q = tN ln bys (itA ln bys n q).1 (itA ln bys n q).2.1 0 (n - 1) := if_pos y
      rw [e] at hB ⊢
      have := tN_v hB (rA.2 hA)
      omega
    · have e : itC ln bys n q = tN ln bys (itB ln bys n q).1 (itB ln bys n q).2.1 1 3 := if_pos y
      rw [e] at hC ⊢
      exact tN_v hC (rB.2 hB)
    · have e : itC ln bys n q = tN ln bys (itB ln bys n q).1 (itB ln bys n q).2.1 2 4 := by
        unfold itC
        rw [if_neg (by omega), if_pos y]
      rw [e] at hC ⊢
      exact tN_v hC (rB.2 hB)
    · unfold itA
      rw [if_pos y]
    · unfold itB
      rw [if_neg (by omega)]
    · unfold itC
      rw [if_neg (by omega), if_neg (by omega)]
  · rw [itS_n z] at h
    have h2 : q = -1 := h
    omega
theorem rdS_ok {ln : Int} {bys : Int → Int} (hln : 0 ≤ ln ∧ ln ≤ 200) : ∀ (f : Nat) (n p : Int) (so le ri ti : Int → Int), (0 ≤ p ∧ p ≤ ln) → hOk n so le ri ti → (rdS ln bys f n p so le ri ti).1 = -1 →
    hOk (rdS ln bys f n p so le ri ti).2.1 (rdS ln bys f n p so le ri ti).2.2.1 (rdS ln bys f n p so le ri ti).2.2.2.1 (rdS ln bys f n p so le ri ti).2.2.2.2.1 (rdS ln bys f n p so le ri ti).2.2.2.2.2
  | 0, n, p, so, le, ri, ti, _, _, h => by
    have h2 : (0 : Int) = -1 := h
    omega
  | f + 1, n, p, so, le, ri, ti, hp, hh, h => by
    have hks := tkS_r (bys := bys) hp.2
    by_cases k4 : kK ln bys (tkS ln bys p) = 4
    · rw [rdS_4 k4]
      exact hh
    · by_cases k5 : (itS ln bys n (tkS ln bys p)).1 = -1
      · rw [rdS_y k4 k5] at h ⊢
        have hir := itS_r (bys := bys) (n := n) hln (q := tkS ln bys p) ⟨by omega, by omega⟩
        obtain ⟨i1, i2, i3, i4, i5, i6, i7, i8, i9⟩ := it_ok (bys := bys) (n := n) hln (q := tkS ln bys p) ⟨by omega, by omega⟩ k5
        refine rdS_ok hln f (n + 1) _ _ _ _ _ (hir.2 k5) ⟨⟨by have := hh.1; omega, by omega⟩, fun k h0 h1 => ?_⟩ h
        by_cases q : k = n
        · rw [q, zu_s, zu_s, zu_s, zu_s]
          exact ⟨i2, i3, i4, i5, i6, i7, i8, i9⟩
        · rw [zu_n q, zu_n q, zu_n q, zu_n q]
          exact hh.2 k h0 (by omega)
      · rw [rdS_n k4 k5] at h
        exact absurd h k5
theorem rdS_r {ln : Int} {bys : Int → Int} (hln : 0 ≤ ln ∧ ln ≤ 200) : ∀ (f : Nat) (n p : Int) (so le ri ti : Int → Int), (0 ≤ p ∧ p ≤ ln) → -1 ≤ (rdS ln bys f n p so le ri ti).1 ∧ (rdS ln bys f n p so le ri ti).1 ≤ 200
  | 0, n, p, so, le, ri, ti, _ => by
    show (-1 : Int) ≤ 0 ∧ (0 : Int) ≤ 200
    omega
  | f + 1, n, p, so, le, ri, ti, hp => by
    have hks := tkS_r (bys := bys) hp.2
    have hir := itS_r (bys := bys) (n := n) hln (q := tkS ln bys p) ⟨by omega, by omega⟩
    by_cases k4 : kK ln bys (tkS ln bys p) = 4
    · rw [rdS_4 k4]
      show (-1 : Int) ≤ -1 ∧ (-1 : Int) ≤ 200
      omega
    · by_cases k5 : (itS ln bys n (tkS ln bys p)).1 = -1
      · rw [rdS_y k4 k5]
        exact rdS_r hln f (n + 1) _ _ _ _ _ (hir.2 k5)
      · rw [rdS_n k4 k5]
        exact hir.1
theorem hOk_0 (so le ri ti : Int → Int) : hOk 0 so le ri ti := ⟨by omega, fun k h0 h1 => by omega⟩
theorem sOk_00 {n : Int} {so le ri ti : Int → Int} (hh : hOk n so le ri ti) {st : Int → Int} (h : ∀ k : Int, 0 ≤ k → k < 9 → st k = 0) : sOk n so ti st := by
  intro k h0 h1
  rw [h k h0 h1]
  exact sOk_0 hh k h0 h1
/-! bytes: the class's are the model's without sign -/
theorem cB8_n {v : Int64} {i : Int} : cB8 v i = (((lsU v i).toBitVec.toNat % 256 : Nat) : Int) := by
  unfold cB8
  have e : ((lsU v i).toInt32 &&& 255).toBitVec.toNat = (lsU v i).toBitVec.toNat % 256 := by
    rw [Int32.toBitVec_and, Int64.toBitVec_toInt32, BitVec.signExtend_eq_setWidth_of_le _ (by omega), BitVec.toNat_and, BitVec.toNat_setWidth]
    show ((lsU v i).toBitVec.toNat % 2 ^ 32) &&& 255 = _
    rw [show (255 : Nat) = 2 ^ 8 - 1 from rfl, Nat.and_two_pow_sub_one_eq_mod]
    omega
  rw [Int32.toInt, BitVec.toInt_eq_toNat_of_lt (by rw [e]; omega), e]
theorem mB8_b {v : Int64} {i : Int} : mB8 v i = (((lsA v i).toBitVec.setWidth 8).toInt) := by
  unfold mB8
  rw [Int8.toInt_toInt32]
  rw [Int8.toInt, Int32.toBitVec_toInt8, Int64.toBitVec_toInt32, BitVec.signExtend_eq_setWidth_of_le _ (by omega), BitVec.signExtend_eq_setWidth_of_le _ (by omega)]
  congr 1
  apply BitVec.eq_of_toNat_eq
  rw [BitVec.toNat_setWidth, BitVec.toNat_setWidth, BitVec.toNat_setWidth, Int64.toBitVec_and, BitVec.toNat_and]
  show ((lsA v i).toBitVec.toNat &&& 255) % 2 ^ 32 % 2 ^ 8 = (lsA v i).toBitVec.toNat % 2 ^ 8
  rw [show (255 : Nat) = 2 ^ 8 - 1 from rfl, Nat.and_two_pow_sub_one_eq_mod]
  omega
theorem cB8_mB8 {v : Int64} {i : Int} (h : 0 ≤ i ∧ i ≤ 7) : cB8 v i = mB8 v i % 256 ∧ -128 ≤ mB8 v i ∧ mB8 v i ≤ 127 := by
  have e := congrArg BitVec.toNat (low8 (v := v) h)
  rw [BitVec.toNat_setWidth] at e
  have h1 : ((lsA v i).toBitVec.setWidth 8).toNat < 2 ^ 8 := BitVec.isLt _
  rw [cB8_n, mB8_b, BitVec.toInt_eq_toNat_cond]
  split <;> omega
theorem ty_mB {ty cn : Int} {tx : Int → Int} {v : Int64} (hc : 1 ≤ cn ∧ cn ≤ 8) : ∀ m : Nat, (m : Int) ≤ cn → tyA (fun j => cB8 v (cn - 1 - j)) ty (mB tx) m = mB (tyA (fun j => mB8 v (cn - 1 - j)) ty tx m)
  | 0, _ => rfl
  | m + 1, hm => by
    show zu (tyA (fun j => cB8 v (cn - 1 - j)) ty (mB tx) m) (ty + (m : Int)) (cB8 v (cn - 1 - (m : Int))) = mB (zu (tyA (fun j => mB8 v (cn - 1 - j)) ty tx m) (ty + (m : Int)) (mB8 v (cn - 1 - (m : Int))))
    rw [ty_mB hc m (by omega), (cB8_mB8 (v := v) (i := cn - 1 - (m : Int)) (by omega)).1]
    funext k
    unfold mB zu
    split <;> rfl
theorem ty_rg {ty cn : Int} {tx : Int → Int} {v : Int64} (hc : 1 ≤ cn ∧ cn ≤ 8) (h : ∀ k : Int, 0 ≤ k → k < 200 → -128 ≤ tx k ∧ tx k ≤ 127) : ∀ m : Nat, (m : Int) ≤ cn → ∀ k : Int, 0 ≤ k → k < 200 → -128 ≤ tyA (fun j => mB8 v (cn - 1 - j)) ty tx m k ∧ tyA (fun j => mB8 v (cn - 1 - j)) ty tx m k ≤ 127
  | 0, _, k, h0, h1 => h k h0 h1
  | m + 1, hm, k, h0, h1 => by
    show -128 ≤ zu _ _ (mB8 v (cn - 1 - (m : Int))) k ∧ zu _ _ (mB8 v (cn - 1 - (m : Int))) k ≤ 127
    have h2 := (cB8_mB8 (v := v) (i := cn - 1 - (m : Int)) (by omega)).2
    have h3 := ty_rg (ty := ty) (v := v) hc h m (by omega) k h0 h1
    unfold zu
    split
    · exact h2
    · exact h3
