/-! the model's text: bytes, words, numbers -/
def mB (tx : Int → Int) : Int → Int := fun k => tx k % 256
def hrA (ty : Int) (tx : Int → Int) (x : Int) : Int := if x < ty then mB tx x else -1
theorem zb_n255 : ∀ n : Nat, n < 256 → zI ((n : Int) - 128) &&& zI 255 = zI (((n : Int) - 128) % 256) := by decide +kernel
theorem zb_a255 {z : Int} (h : -128 ≤ z ∧ z ≤ 127) : zI z &&& zI 255 = zI (z % 256) := by
  have := zb_n255 (z + 128).toNat (by omega)
  rw [show (((z + 128).toNat : Nat) : Int) - 128 = z by omega] at this
  exact this
theorem hrA_in {ty : Int} {tx : Int → Int} {x : Int} (h : x < ty) : hrA ty tx x = mB tx x := if_pos h
theorem mB_r {ty : Int} {tx : Int → Int} {x : Int} (h : ∀ k : Int, 0 ≤ k → k < ty → -128 ≤ tx k ∧ tx k ≤ 127) (h0 : 0 ≤ x) (h1 : x < ty) : 0 ≤ mB tx x ∧ mB tx x ≤ 255 := by
  have := h x h0 h1
  unfold mB
  omega
theorem hrA_r {ty : Int} {tx : Int → Int} {x : Int} (h : ∀ k : Int, 0 ≤ k → k < ty → -128 ≤ tx k ∧ tx k ≤ 127) (h0 : 0 ≤ x) : -1 ≤ hrA ty tx x ∧ hrA ty tx x ≤ 255 := by
  unfold hrA
  split
  · have := mB_r h h0 (by omega)
    omega
  · omega
theorem hrA_pos {ty : Int} {tx : Int → Int} {x : Int} (h : 0 ≤ hrA ty tx x) : x < ty := by
  unfold hrA at h
  split at h
  · assumption
  · omega
theorem hrA_neg {ty : Int} {tx : Int → Int} {x : Int} (h : hrA ty tx x < 0) (h2 : ∀ k : Int, 0 ≤ k → k < ty → -128 ≤ tx k ∧ tx k ≤ 127) (h0 : 0 ≤ x) : ty ≤ x := by
  unfold hrA at h
  split at h
  · have := mB_r h2 h0 (by assumption)
    omega
  · omega
theorem kEV_e {ln : Int} {bys : Int → Int} {q : Int} (h : ln ≤ q) : q = kE ln bys q ∧ 0 = kV ln bys q := by
  unfold kE kV
  rw [if_pos h, if_pos h]
  exact ⟨rfl, rfl⟩
theorem kEV_o {ln : Int} {bys : Int → Int} {q : Int} (h : q < ln) (h1 : ¬ isLe (bys q) = true) (h2 : ¬ isDi (bys q) = true) : q + 1 = kE ln bys q ∧ 0 = kV ln bys q := by
  unfold kE kV
  rw [if_neg (by omega), if_neg h1, if_neg h2, if_neg (by omega), if_neg h1, if_neg h2]
  exact ⟨rfl, rfl⟩
theorem kV_w {ln : Int} {bys : Int → Int} {q : Int} (h : q < ln) (h1 : isLe (bys q) = true) : kV ln bys q = 0 := by
  unfold kV
  rw [if_neg (by omega), if_pos h1]
theorem kV_d {ln : Int} {bys : Int → Int} {q : Int} (h : q < ln) (h1 : ¬ isLe (bys q) = true) (h2 : isDi (bys q) = true) : kV ln bys q = nmV ln bys q := by
  unfold kV
  rw [if_neg (by omega), if_neg h1, if_pos h2]
/-- the word's code by its first six letters, and its seventh -/
def cdW (b : Int → Int) (q x : Int) : Int := if x - q ≤ 0 then 0 else if x - q = 1 then b q - 96 else if x - q = 2 then 27 * (b q - 96) + (b (q + 1) - 96) else if x - q = 3 then 729 * (b q - 96) + 27 * (b (q + 1) - 96) + (b (q + 2) - 96) else if x - q = 4 then 19683 * (b q - 96) + 729 * (b (q + 1) - 96) + 27 * (b (q + 2) - 96) + (b (q + 3) - 96) else if x - q = 5 then 531441 * (b q - 96) + 19683 * (b (q + 1) - 96) + 729 * (b (q + 2) - 96) + 27 * (b (q + 3) - 96) + (b (q + 4) - 96) else 14348907 * (b q - 96) + 531441 * (b (q + 1) - 96) + 19683 * (b (q + 2) - 96) + 729 * (b (q + 3) - 96) + 27 * (b (q + 4) - 96) + (b (q + 5) - 96)
def svW (b : Int → Int) (q x : Int) : Int := if x - q ≤ 6 then 0 else if x - q = 7 then b (q + 6) - 96 else 99
theorem cdW_0 {b : Int → Int} {q : Int} : cdW b q q = 0 := if_pos (by omega)
theorem svW_0 {b : Int → Int} {q : Int} : svW b q q = 0 := if_pos (by omega)
theorem cdW_1 {b : Int → Int} {q : Int} : cdW b q (q + 1) = b q - 96 := by
  unfold cdW
  rw [if_neg (by omega), if_pos (by omega)]
theorem cdW_2 {b : Int → Int} {q : Int} : cdW b q (q + 2) = 27 * (b q - 96) + (b (q + 1) - 96) := by
  unfold cdW
  rw [if_neg (by omega), if_neg (by omega), if_pos (by omega)]
theorem cdW_3 {b : Int → Int} {q : Int} : cdW b q (q + 3) = 729 * (b q - 96) + 27 * (b (q + 1) - 96) + (b (q + 2) - 96) := by
  unfold cdW
  rw [if_neg (by omega), if_neg (by omega), if_neg (by omega), if_pos (by omega)]
theorem cdW_4 {b : Int → Int} {q : Int} : cdW b q (q + 4) = 19683 * (b q - 96) + 729 * (b (q + 1) - 96) + 27 * (b (q + 2) - 96) + (b (q + 3) - 96) := by
  unfold cdW
  rw [if_neg (by omega), if_neg (by omega), if_neg (by omega), if_neg (by omega), if_pos (by omega)]
theorem cdW_5 {b : Int → Int} {q : Int} : cdW b q (q + 5) = 531441 * (b q - 96) + 19683 * (b (q + 1) - 96) + 729 * (b (q + 2) - 96) + 27 * (b (q + 3) - 96) + (b (q + 4) - 96) := by
  unfold cdW
  rw [if_neg (by omega), if_neg (by omega), if_neg (by omega), if_neg (by omega), if_neg (by omega), if_pos (by omega)]
theorem cdW_6 {b : Int → Int} {q x : Int} (h : 6 ≤ x - q) : cdW b q x = 14348907 * (b q - 96) + 531441 * (b (q + 1) - 96) + 19683 * (b (q + 2) - 96) + 729 * (b (q + 3) - 96) + 27 * (b (q + 4) - 96) + (b (q + 5) - 96) := by
  unfold cdW
  rw [if_neg (by omega), if_neg (by omega), if_neg (by omega), if_neg (by omega), if_neg (by omega), if_neg (by omega)]
theorem cdW_s {b : Int → Int} {q x : Int} (h0 : q ≤ x) (h : x - q < 6) : 27 * cdW b q x + b x - 96 = cdW b q (x + 1) := by
  rcases (show x = q ∨ x = q + 1 ∨ x = q + 2 ∨ x = q + 3 ∨ x = q + 4 ∨ x = q + 5 by omega) with rfl | rfl | rfl | rfl | rfl | rfl
  · rw [cdW_0, cdW_1]; omega
  · rw [cdW_1, show q + 1 + 1 = q + 2 by omega, cdW_2]; omega
  · rw [cdW_2, show q + 2 + 1 = q + 3 by omega, cdW_3]; omega
  · rw [cdW_3, show q + 3 + 1 = q + 4 by omega, cdW_4]; omega
  · rw [cdW_4, show q + 4 + 1 = q + 5 by omega, cdW_5]; omega
  · rw [cdW_5, cdW_6 (by omega)]; omega
theorem cdW_t {b : Int → Int} {q x : Int} (h : 6 ≤ x - q) : cdW b q x = cdW b q (x + 1) := by
  rw [cdW_6 h, cdW_6 (by omega)]
theorem svW_s {b : Int → Int} {q x : Int} (h : x - q < 6) : svW b q x = svW b q (x + 1) := by
  unfold svW
  rw [if_pos (by omega), if_pos (by omega)]
theorem svW_6 {b : Int → Int} {q x : Int} (h : x - q = 6) : b x - 96 = svW b q (x + 1) := by
  unfold svW
  rw [if_neg (by omega), if_pos (by omega), show x = q + 6 by omega]
theorem svW_7 {b : Int → Int} {q x : Int} (h : 6 < x - q) : 99 = svW b q (x + 1) := by
  unfold svW
  rw [if_neg (by omega), if_neg (by omega)]
theorem cdW_b {b : Int → Int} {q x : Int} (h : ∀ j : Int, q ≤ j → j < x → 97 ≤ b j ∧ b j ≤ 122) : 0 ≤ cdW b q x ∧ cdW b q x ≤ 387420488 := by
  rcases (show x ≤ q ∨ x = q + 1 ∨ x = q + 2 ∨ x = q + 3 ∨ x = q + 4 ∨ x = q + 5 ∨ q + 6 ≤ x by omega) with z | rfl | rfl | rfl | rfl | rfl | z
  · have : cdW b q x = 0 := if_pos (by omega)
    omega
  · have h0 := h q (by omega) (by omega)
    rw [cdW_1]; omega
  · have h0 := h q (by omega) (by omega)
    have h1 := h (q + 1) (by omega) (by omega)
    rw [cdW_2]; omega
  · have h0 := h q (by omega) (by omega)
    have h1 := h (q + 1) (by omega) (by omega)
    have h2 := h (q + 2) (by omega) (by omega)
    rw [cdW_3]; omega
  · have h0 := h q (by omega) (by omega)
    have h1 := h (q + 1) (by omega) (by omega)
    have h2 := h (q + 2) (by omega) (by omega)
    have h3 := h (q + 3) (by omega) (by omega)
    rw [cdW_4]; omega
  · have h0 := h q (by omega) (by omega)
    have h1 := h (q + 1) (by omega) (by omega)
    have h2 := h (q + 2) (by omega) (by omega)
    have h3 := h (q + 3) (by omega) (by omega)
    have h4 := h (q + 4) (by omega) (by omega)
    rw [cdW_5]; omega
  · have h0 := h q (by omega) (by omega)
    have h1 := h (q + 1) (by omega) (by omega)
    have h2 := h (q + 2) (by omega) (by omega)
    have h3 := h (q + 3) (by omega) (by omega)
    have h4 := h (q + 4) (by omega) (by omega)
    have h5 := h (q + 5) (by omega) (by omega)
    rw [cdW_6 (by omega)]; omega
theorem svW_b {b : Int → Int} {q x : Int} (h : ∀ j : Int, q ≤ j → j < x → 97 ≤ b j ∧ b j ≤ 122) : 0 ≤ svW b q x ∧ svW b q x ≤ 99 := by
  unfold svW
  split
  · omega
  · split
    · have := h (q + 6) (by omega) (by omega)
      omega
    · omega
def wSel (cd sv : Int) : Int := if cd = 172997060 ∧ sv = 7 then 0 else if 0 < sv then 7 else if cd = 129530 then 1 else if cd = 10278770 then 2 else if cd = 2770 then 3 else 7
theorem z_ifc {P Q : Prop} [Decidable P] [Decidable Q] (h : P ↔ Q) {a b : Int} : (if P then a else b) = if Q then a else b := by
  by_cases p : P
  · rw [if_pos p, if_pos (h.mp p)]
  · rw [if_neg p, if_neg (fun q => p (h.mpr q))]
theorem tokW_0 {b : Int → Int} {ty q x : Int} (h0 : 0 ≤ q) (h1 : x ≤ ty) : tokW ty b q x 0 ↔ x - q = 7 ∧ b q = 108 ∧ b (q + 1) = 97 ∧ b (q + 2) = 110 ∧ b (q + 3) = 100 ∧ b (q + 4) = 105 ∧ b (q + 5) = 110 ∧ b (q + 6) = 103 := by
  have hz : zL 0 = 7 := by decide
  constructor
  · intro h
    have hl := h.1
    have e0 := h.2 0 (by decide)
    rw [sgA_in (by omega), show zCh 0 ((0 : Nat) : Int) = 108 by decide +kernel] at e0
    rw [show q + ((0 : Nat) : Int) = q by omega] at e0
    have e1 := h.2 1 (by decide)
    rw [sgA_in (by omega), show zCh 0 ((1 : Nat) : Int) = 97 by decide +kernel] at e1
    have e2 := h.2 2 (by decide)
    rw [sgA_in (by omega), show zCh 0 ((2 : Nat) : Int) = 110 by decide +kernel] at e2
    have e3 := h.2 3 (by decide)
    rw [sgA_in (by omega), show zCh 0 ((3 : Nat) : Int) = 100 by decide +kernel] at e3
    have e4 := h.2 4 (by decide)
    rw [sgA_in (by omega), show zCh 0 ((4 : Nat) : Int) = 105 by decide +kernel] at e4
    have e5 := h.2 5 (by decide)
    rw [sgA_in (by omega), show zCh 0 ((5 : Nat) : Int) = 110 by decide +kernel] at e5
    have e6 := h.2 6 (by decide)
    rw [sgA_in (by omega), show zCh 0 ((6 : Nat) : Int) = 103 by decide +kernel] at e6
    exact ⟨by omega, e0, e1, e2, e3, e4, e5, e6⟩
  · intro h
    obtain ⟨hl, e0, e1, e2, e3, e4, e5, e6⟩ := h
    refine ⟨by omega, fun j hj => ?_⟩
    have hj : j < 7 := hj
    rcases (show j = 0 ∨ j = 1 ∨ j = 2 ∨ j = 3 ∨ j = 4 ∨ j = 5 ∨ j = 6 by omega) with rfl | rfl | rfl | rfl | rfl | rfl | rfl
    · rw [sgA_in (by omega), show zCh 0 ((0 : Nat) : Int) = 108 by decide +kernel]
      rw [show q + ((0 : Nat) : Int) = q by omega]; exact e0
    · rw [sgA_in (by omega), show zCh 0 ((1 : Nat) : Int) = 97 by decide +kernel]
      exact e1
    · rw [sgA_in (by omega), show zCh 0 ((2 : Nat) : Int) = 110 by decide +kernel]
      exact e2
    · rw [sgA_in (by omega), show zCh 0 ((3 : Nat) : Int) = 100 by decide +kernel]
      exact e3
    · rw [sgA_in (by omega), show zCh 0 ((4 : Nat) : Int) = 105 by decide +kernel]
      exact e4
    · rw [sgA_in (by omega), show zCh 0 ((5 : Nat) : Int) = 110 by decide +kernel]
      exact e5
    · rw [sgA_in (by omega), show zCh 0 ((6 : Nat) : Int) = 103 by decide +kernel]
      exact e6
theorem tokW_1 {b : Int → Int} {ty q x : Int} (h0 : 0 ≤ q) (h1 : x ≤ ty) : tokW ty b q x 1 ↔ x - q = 4 ∧ b q = 102 ∧ b (q + 1) = 111 ∧ b (q + 2) = 114 ∧ b (q + 3) = 107 := by
  have hz : zL 1 = 4 := by decide
  constructor
  · intro h
    have hl := h.1
    have e0 := h.2 0 (by decide)
    rw [sgA_in (by omega), show zCh 1 ((0 : Nat) : Int) = 102 by decide +kernel] at e0
    rw [show q + ((0 : Nat) : Int) = q by omega] at e0
    have e1 := h.2 1 (by decide)
    rw [sgA_in (by omega), show zCh 1 ((1 : Nat) : Int) = 111 by decide +kernel] at e1
    have e2 := h.2 2 (by decide)
    rw [sgA_in (by omega), show zCh 1 ((2 : Nat) : Int) = 114 by decide +kernel] at e2
    have e3 := h.2 3 (by decide)
    rw [sgA_in (by omega), show zCh 1 ((3 : Nat) : Int) = 107 by decide +kernel] at e3
    exact ⟨by omega, e0, e1, e2, e3⟩
  · intro h
    obtain ⟨hl, e0, e1, e2, e3⟩ := h
    refine ⟨by omega, fun j hj => ?_⟩
    have hj : j < 4 := hj
    rcases (show j = 0 ∨ j = 1 ∨ j = 2 ∨ j = 3 by omega) with rfl | rfl | rfl | rfl
    · rw [sgA_in (by omega), show zCh 1 ((0 : Nat) : Int) = 102 by decide +kernel]
      rw [show q + ((0 : Nat) : Int) = q by omega]; exact e0
    · rw [sgA_in (by omega), show zCh 1 ((1 : Nat) : Int) = 111 by decide +kernel]
      exact e1
    · rw [sgA_in (by omega), show zCh 1 ((2 : Nat) : Int) = 114 by decide +kernel]
      exact e2
    · rw [sgA_in (by omega), show zCh 1 ((3 : Nat) : Int) = 107 by decide +kernel]
      exact e3
theorem tokW_2 {b : Int → Int} {ty q x : Int} (h0 : 0 ≤ q) (h1 : x ≤ ty) : tokW ty b q x 2 ↔ x - q = 5 ∧ b q = 115 ∧ b (q + 1) = 105 ∧ b (q + 2) = 101 ∧ b (q + 3) = 118 ∧ b (q + 4) = 101 := by
  have hz : zL 2 = 5 := by decide
  constructor
  · intro h
    have hl := h.1
    have e0 := h.2 0 (by decide)
    rw [sgA_in (by omega), show zCh 2 ((0 : Nat) : Int) = 115 by decide +kernel] at e0
    rw [show q + ((0 : Nat) : Int) = q by omega] at e0
    have e1 := h.2 1 (by decide)
    rw [sgA_in (by omega), show zCh 2 ((1 : Nat) : Int) = 105 by decide +kernel] at e1
    have e2 := h.2 2 (by decide)
    rw [sgA_in (by omega), show zCh 2 ((2 : Nat) : Int) = 101 by decide +kernel] at e2
    have e3 := h.2 3 (by decide)
    rw [sgA_in (by omega), show zCh 2 ((3 : Nat) : Int) = 118 by decide +kernel] at e3
    have e4 := h.2 4 (by decide)
    rw [sgA_in (by omega), show zCh 2 ((4 : Nat) : Int) = 101 by decide +kernel] at e4
    exact ⟨by omega, e0, e1, e2, e3, e4⟩
  · intro h
    obtain ⟨hl, e0, e1, e2, e3, e4⟩ := h
    refine ⟨by omega, fun j hj => ?_⟩
    have hj : j < 5 := hj
    rcases (show j = 0 ∨ j = 1 ∨ j = 2 ∨ j = 3 ∨ j = 4 by omega) with rfl | rfl | rfl | rfl | rfl
    · rw [sgA_in (by omega), show zCh 2 ((0 : Nat) : Int) = 115 by decide +kernel]
      rw [show q + ((0 : Nat) : Int) = q by omega]; exact e0
    · rw [sgA_in (by omega), show zCh 2 ((1 : Nat) : Int) = 105 by decide +kernel]
      exact e1
    · rw [sgA_in (by omega), show zCh 2 ((2 : Nat) : Int) = 101 by decide +kernel]
      exact e2
    · rw [sgA_in (by omega), show zCh 2 ((3 : Nat) : Int) = 118 by decide +kernel]
      exact e3
    · rw [sgA_in (by omega), show zCh 2 ((4 : Nat) : Int) = 101 by decide +kernel]
      exact e4
theorem tokW_3 {b : Int → Int} {ty q x : Int} (h0 : 0 ≤ q) (h1 : x ≤ ty) : tokW ty b q x 3 ↔ x - q = 3 ∧ b q = 99 ∧ b (q + 1) = 117 ∧ b (q + 2) = 112 := by
  have hz : zL 3 = 3 := by decide
  constructor
  · intro h
    have hl := h.1
    have e0 := h.2 0 (by decide)
    rw [sgA_in (by omega), show zCh 3 ((0 : Nat) : Int) = 99 by decide +kernel] at e0
    rw [show q + ((0 : Nat) : Int) = q by omega] at e0
    have e1 := h.2 1 (by decide)
    rw [sgA_in (by omega), show zCh 3 ((1 : Nat) : Int) = 117 by decide +kernel] at e1
    have e2 := h.2 2 (by decide)
    rw [sgA_in (by omega), show zCh 3 ((2 : Nat) : Int) = 112 by decide +kernel] at e2
    exact ⟨by omega, e0, e1, e2⟩
  · intro h
    obtain ⟨hl, e0, e1, e2⟩ := h
    refine ⟨by omega, fun j hj => ?_⟩
    have hj : j < 3 := hj
    rcases (show j = 0 ∨ j = 1 ∨ j = 2 by omega) with rfl | rfl | rfl
    · rw [sgA_in (by omega), show zCh 3 ((0 : Nat) : Int) = 99 by decide +kernel]
      rw [show q + ((0 : Nat) : Int) = q by omega]; exact e0
    · rw [sgA_in (by omega), show zCh 3 ((1 : Nat) : Int) = 117 by decide +kernel]
      exact e1
    · rw [sgA_in (by omega), show zCh 3 ((2 : Nat) : Int) = 112 by decide +kernel]
      exact e2
theorem wdK_c {b : Int → Int} {ty q x : Int} (h0 : 0 ≤ q) (h1 : x ≤ ty) (h : ∀ j : Int, q ≤ j → j < x → 97 ≤ b j ∧ b j ≤ 122) : wdK ty b q x = wSel (cdW b q x) (svW b q x) := by
  have t0 := tokW_0 (b := b) h0 h1
  have t1 := tokW_1 (b := b) h0 h1
  have t2 := tokW_2 (b := b) h0 h1
  have t3 := tokW_3 (b := b) h0 h1
  unfold wdK wSel
  rw [z_ifc t0, z_ifc t1, z_ifc t2, z_ifc t3]
  rcases (show x ≤ q ∨ x = q + 1 ∨ x = q + 2 ∨ x = q + 3 ∨ x = q + 4 ∨ x = q + 5 ∨ x = q + 6 ∨ x = q + 7 ∨ q + 8 ≤ x by omega) with z | rfl | rfl | rfl | rfl | rfl | rfl | rfl | z
  · have e1 : cdW b q x = 0 := if_pos (by omega)
    have e2 : svW b q x = 0 := if_pos (by omega)
    rw [e1, e2]
    repeat' split
    all_goals omega
  · have h0_ := h q (by omega) (by omega)
    have e2 : svW b q (q + 1) = 0 := if_pos (by omega)
    rw [cdW_1, e2]
    repeat' split
    all_goals omega
  · have h0_ := h q (by omega) (by omega)
    have h1_ := h (q + 1) (by omega) (by omega)
    have e2 : svW b q (q + 2) = 0 := if_pos (by omega)
    rw [cdW_2, e2]
    repeat' split
    all_goals omega
  · have h0_ := h q (by omega) (by omega)
    have h1_ := h (q + 1) (by omega) (by omega)
    have h2_ := h (q + 2) (by omega) (by omega)
    have e2 : svW b q (q + 3) = 0 := if_pos (by omega)
    rw [cdW_3, e2]
    repeat' split
    all_goals omega
  · have h0_ := h q (by omega) (by omega)
    have h1_ := h (q + 1) (by omega) (by omega)
    have h2_ := h (q + 2) (by omega) (by omega)
    have h3_ := h (q + 3) (by omega) (by omega)
    have e2 : svW b q (q + 4) = 0 := if_pos (by omega)
    rw [cdW_4, e2]
    repeat' split
    all_goals omega
  · have h0_ := h q (by omega) (by omega)
    have h1_ := h (q + 1) (by omega) (by omega)
    have h2_ := h (q + 2) (by omega) (by omega)
    have h3_ := h (q + 3) (by omega) (by omega)
    have h4_ := h (q + 4) (by omega) (by omega)
    have e2 : svW b q (q + 5) = 0 := if_pos (by omega)
    rw [cdW_5, e2]
    repeat' split
    all_goals omega
  · have h0_ := h q (by omega) (by omega)
    have h1_ := h (q + 1) (by omega) (by omega)
    have h2_ := h (q + 2) (by omega) (by omega)
    have h3_ := h (q + 3) (by omega) (by omega)
    have h4_ := h (q + 4) (by omega) (by omega)
    have h5_ := h (q + 5) (by omega) (by omega)
    have e2 : svW b q (q + 6) = 0 := if_pos (by omega)
    rw [cdW_6 (by omega), e2]
    repeat' split
    all_goals omega
  · have h0_ := h q (by omega) (by omega)
    have h1_ := h (q + 1) (by omega) (by omega)
    have h2_ := h (q + 2) (by omega) (by omega)
    have h3_ := h (q + 3) (by omega) (by omega)
    have h4_ := h (q + 4) (by omega) (by omega)
    have h5_ := h (q + 5) (by omega) (by omega)
    have h6_ := h (q + 6) (by omega) (by omega)
    have e2 : svW b q (q + 7) = b (q + 6) - 96 := by unfold svW; rw [if_neg (by omega), if_pos (by omega)]
    rw [cdW_6 (by omega), e2]
    repeat' split
    all_goals omega
  · have h0_ := h q (by omega) (by omega)
    have h1_ := h (q + 1) (by omega) (by omega)
    have h2_ := h (q + 2) (by omega) (by omega)
    have h3_ := h (q + 3) (by omega) (by omega)
    have h4_ := h (q + 4) (by omega) (by omega)
    have h5_ := h (q + 5) (by omega) (by omega)
    have h6_ := h (q + 6) (by omega) (by omega)
    have e2 : svW b q x = 99 := by unfold svW; rw [if_neg (by omega), if_neg (by omega)]
    rw [cdW_6 (by omega), e2]
    repeat' split
    all_goals omega
set_option maxHeartbeats 4000000 in
set_option maxRecDepth 100000 in
theorem c_X6_here (l : Launch) (dC : Nat → ClassId) (dI : Nat → Nat → Nat) (cI cB cZ : ClassId) (a0 : Nat) (a1 : Nat) (a2 : Nat) (a3 : Nat) (a4 : Nat) (a5 : Nat) (a6 : Nat) (a7 : Nat) (a8 : Nat) (a9 : Nat) (a10 : Nat) (a11 : Nat) (a12 : Nat) (a13 : Nat) (a14 : Nat) (a15 : Nat) (a16 : Nat) (a17 : Nat) (mtr : Int64) (tx : Int → Int) (ty : Int) (pa : Int → Int) (ms : Int → Int) (ml : Int → Int) (mr : Int → Int) (mt : Int → Int) (mat : Int) (mst : Int) (mso : Int) (mva : Int) (mfa : Int) (nw : Int → Int) (ik : Int → Int) (sd : Int → Int) (mlo : Int) (ra : Int → Int) (rm : Int) (bg : Int → Int) (to : Int → Int) (tm : Int) (cd : Int → Int) (fi : Int → Int) (tsz : Int → Int) (tcm : Int → Int) (tmy : Int) (mg : Int → Int) (hty : 0 ≤ ty ∧ ty ≤ 200) (htx : ∀ k : Int, 0 ≤ k → k < ty → -128 ≤ tx k ∧ tx k ≤ 127) (hat : 0 ≤ mat ∧ mat ≤ ty) : MetR l yX6_here wsX6_here ({ frames := 0, cells := 0, slots := 0, locals := 0 }) (dC, dI) vwCl (zT cI cB cZ) zN [(a0, .inr (5, [.long mtr, .ref a1, .int (zI ty), .ref a2, .ref a3, .ref a4, .ref a5, .ref a6, .int (zI mat), .int (zI mst), .int (zI mso), .int (zI mva), .int (zI mfa), .ref a7, .ref a8, .ref a9, .int (zI mlo), .ref a10, .int (zI rm), .ref a11, .ref a12, .int (zI tm), .ref a13, .ref a14, .ref a15, .ref a16, .int (zI tmy), .ref a17])), (a1, .inl (cB, 200, .inl (zA tx))), (a2, .inl (cI, 2, .inl (zA pa))), (a3, .inl (cI, 18, .inl (zA ms))), (a4, .inl (cI, 18, .inl (zA ml))), (a5, .inl (cI, 18, .inl (zA mr))), (a6, .inl (cI, 18, .inl (zA mt))), (a7, .inl (cI, 1143, .inl (zA nw))), (a8, .inl (cZ, 2, .inl (zA ik))), (a9, .inl (cI, 9, .inl (zA sd))), (a10, .inl (cI, 9, .inl (zA ra))), (a11, .inl (cI, 9, .inl (zA bg))), (a12, .inl (cI, 4, .inl (zA to))), (a13, .inl (cI, 200, .inl (zA cd))), (a14, .inl (cI, 9, .inl (zA fi))), (a15, .inl (cI, 9, .inl (zA tsz))), (a16, .inl (cI, 9, .inl (zA tcm))), (a17, .inl (cI, 10, .inl (zA mg)))] [.ref a0] (zI (hrA ty tx mat)) := by
  refine MetR.intro (cc := cX6_here) (maxL := 1) (ret := (some .int)) (by decide) rfl (Nat.le_of_ble_eq_true rfl) ?_
  intro p e s m args below meth c hx hb hr hlocks hml hts hown hP hK hE ls hl
  have hown : s.vm.findClass RX6 = some m.cls := hown
  have hl : lv_has ls 1 [(0, .ref a0)] := hl
  generalize hRM : ({ frames := 0, cells := 0, slots := 0, locals := 0 } : Room) = RM
  generalize hQQ : MQ below (vp_Si (fun r => r = zI (hrA ty tx mat))) args s 0 0 (fun _ => False) = QQ
  have in_X6 : ∀ w ∈ wsX60, w ∈ wsX6_here := by decide +kernel
  have w_0 := hts (.fieldLink RX6 73 "WallMarblesModel" "at" "I") (by decide +kernel)
  have w_1 := hts (.fieldLink RX6 67 "WallMarblesModel" "typed" "I") (by decide +kernel)
  have w_2 := hts (.fieldLink RX6 7 "WallMarblesModel" "text" "[B") (by decide +kernel)
  refine lv_aload_n hx hb dX6_here_0 rfl (lv_at hl 0 rfl) ?_
  refine va_get (D := (dC, dI)) (ci := 5) (v := .int (zI mat)) (C := RX6) (T := TX6) (N := 28) hx hb hts in_X6 hown hK hP 0 rfl rfl 8 (by decide) w_0 (fun _ h9 => h9) rfl dX6_here_1 ?_
  refine lv_aload_n hx hb dX6_here_4 rfl (lv_at hl 0 rfl) ?_
  refine va_get (D := (dC, dI)) (ci := 5) (v := .int (zI ty)) (C := RX6) (T := TX6) (N := 28) hx hb hts in_X6 hown hK hP 0 rfl rfl 2 (by decide) w_1 (fun _ h9 => h9) rfl dX6_here_5 ?_
  refine zv_icmp_ge (tgt := 27) hx hb (by omega) (by omega) dX6_here_8 (by decide) (fun c_8 => ?_) (fun c_8 => ?_)
  · refine zv_iconst hx hb dX6_here_27 ?_
    rw [← hQQ]
    exact zr_iret hx hb hr hlocks (congrArg zI (show (-1) = hrA ty tx mat from by unfold hrA; first | (rw [if_pos (by omega)]; rfl) | (rw [if_neg (by omega)]))) dX6_here_28
  · refine lv_aload_n hx hb dX6_here_11 rfl (lv_at hl 0 rfl) ?_
    refine va_get (D := (dC, dI)) (ci := 5) (v := .ref a1) (C := RX6) (T := TX6) (N := 28) hx hb hts in_X6 hown hK hP 0 rfl rfl 1 (by decide) w_2 (fun _ h9 => h9) rfl dX6_here_12 ?_
    refine lv_aload_n hx hb dX6_here_15 rfl (lv_at hl 0 rfl) ?_
    refine va_get (D := (dC, dI)) (ci := 5) (v := .int (zI mat)) (C := RX6) (T := TX6) (N := 28) hx hb hts in_X6 hown hK hP 0 rfl rfl 8 (by decide) w_0 (fun _ h9 => h9) rfl dX6_here_16 ?_
    have hx9 := htx mat (by omega) (by omega)
    refine zv_bald hx hb hK hP 1 1 rfl rfl (by omega) dX6_here_19 ?_
    refine zv_sipush hx hb dX6_here_20 (by decide +kernel) ?_
    refine zv_iand (z := tx mat % 256) hx hb (zb_a255 hx9) dX6_here_23 ?_
    refine lv_goto (tgt := 28) hx hb dX6_here_24 (by decide) ?_
    rw [← hQQ]
    exact zr_iret hx hb hr hlocks (congrArg zI (show tx mat % 256 = hrA ty tx mat from by unfold hrA; first | (rw [if_pos (by omega)]; rfl) | (rw [if_neg (by omega)]))) dX6_here_28
