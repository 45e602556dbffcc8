/-- the number's value as it is read -/
def nvI (b : Int → Int) (q x vv : Int) : Prop := (x = q → vv = 0) ∧ (x = q + 1 → vv = b q - 48) ∧ (x = q + 2 → vv = 10 * (b q - 48) + (b (q + 1) - 48)) ∧ (q + 3 ≤ x → b q ≠ 48 → 99 < vv) ∧ 0 ≤ vv ∧ vv ≤ 999 ∧ (x ≤ q + 2 → vv ≤ 99)
theorem nvI_0 {b : Int → Int} {q : Int} : nvI b q q 0 := ⟨fun _ => rfl, fun z => by omega, fun z => by omega, fun z => by omega, by omega, by omega, fun _ => by omega⟩
theorem nvI_g {b : Int → Int} {q x vv : Int} (hall : ∀ j : Int, q ≤ j → j < x → 48 ≤ b j ∧ b j ≤ 57) (hq : q ≤ x) (h : nvI b q x vv) (hb : 48 ≤ b x ∧ b x ≤ 57) (hv : 99 < vv) : nvI b q (x + 1) vv := by
  obtain ⟨h1, h2, h3, h4, h5, h6, h7⟩ := h
  have hx : q + 3 ≤ x := by
    rcases (show q + 3 ≤ x ∨ x ≤ q + 2 by omega) with z | z
    · exact z
    · have := h7 z; omega
  exact ⟨fun z => by omega, fun z => by omega, fun z => by omega, fun _ _ => hv, h5, h6, fun z => by omega⟩
theorem nvI_s {b : Int → Int} {q x vv : Int} (hall : ∀ j : Int, q ≤ j → j < x → 48 ≤ b j ∧ b j ≤ 57) (hq : q ≤ x) (h : nvI b q x vv) (hb : 48 ≤ b x ∧ b x ≤ 57) (hv : vv ≤ 99) : nvI b q (x + 1) (10 * vv + b x - 48) := by
  obtain ⟨h1, h2, h3, h4, h5, h6, h7⟩ := h
  refine ⟨fun z => by omega, fun z => ?_, fun z => ?_, fun z hz => ?_, by omega, by omega, fun z => ?_⟩
  · have e : x = q := by omega
    have := h1 e
    rw [e, this]
    omega
  · have e : x = q + 1 := by omega
    have := h2 e
    rw [e, this]
    omega
  · rcases (show x = q + 2 ∨ q + 3 ≤ x by omega) with e | e
    · have g1 := h3 e
      have g2 := hall q (by omega) (by omega)
      have g3 := hall (q + 1) (by omega) (by omega)
      omega
    · have := h4 e hz
      omega
  · rcases (show x = q ∨ x = q + 1 by omega) with e | e
    · have := h1 e
      omega
    · have g1 := h2 e
      have g2 := hall q (by omega) (by omega)
      omega
theorem nm_y {b : Int → Int} {ty q x vv : Int} (he : x = skE isDi ty b q) (h : nvI b q x vv) (hv : vv ≤ 99) (hx : q + 1 ≤ x) (hc : b q ≠ 48 ∨ x - q ≤ 1) : nmOk ty b q := by
  obtain ⟨h1, h2, h3, h4, h5, h6, h7⟩ := h
  rw [he] at hx hc h4
  by_cases z : b q = 48
  · exact Or.inl (by omega)
  · rcases (show skE isDi ty b q - q = 1 ∨ skE isDi ty b q - q = 2 ∨ q + 3 ≤ skE isDi ty b q by omega) with y | y | y
    · exact Or.inl y
    · exact Or.inr ⟨y, z⟩
    · have := h4 y z
      omega
theorem nm_n {b : Int → Int} {ty q x vv : Int} (he : x = skE isDi ty b q) (h : nvI b q x vv) (hdb : 48 ≤ b q ∧ b q ≤ 57) (hc : 99 < vv ∨ (b q = 48 ∧ 1 < x - q)) : ¬ nmOk ty b q := by
  obtain ⟨h1, h2, h3, h4, h5, h6, h7⟩ := h
  rw [he] at hc h7
  intro z
  rcases z with z | z
  · have := h7 (by omega)
    omega
  · have := h7 (by omega)
    omega
theorem nm_v {b : Int → Int} {ty q x vv : Int} (he : x = skE isDi ty b q) (h : nvI b q x vv) (hv : vv ≤ 99) (hx : q + 1 ≤ x) (hc : b q ≠ 48 ∨ x - q ≤ 1) : vv = nmV ty b q := by
  have hok := nm_y he h hv hx hc
  obtain ⟨h1, h2, h3, h4, h5, h6, h7⟩ := h
  unfold nmV nmA
  rw [← he]
  rw [he] at h2 h3
  rcases hok with z | z
  · rw [he, if_neg (by omega), if_pos z]
    exact h2 (by omega)
  · rw [he, if_neg (by omega), if_neg (by omega)]
    exact h3 (by omega)
/-- the model has looked one token ahead: at place p, with the fault f -/
def mTk (ty : Int) (tx : Int → Int) (mfa mat mst mso mva f p : Int) : Prop := mfa = (if f = -1 then -9 else f) ∧ (f = -1 → (0 ≤ p ∧ p ≤ ty) ∧ mst = tkS ty (mB tx) p ∧ mso = kK ty (mB tx) (tkS ty (mB tx) p) ∧ (mso ≠ 7 → mat = kE ty (mB tx) (tkS ty (mB tx) p) ∧ mva = kV ty (mB tx) (tkS ty (mB tx) p)))
theorem mTk_f {ty : Int} {tx : Int → Int} {mfa mat mst mso mva f p : Int} (h : mTk ty tx mfa mat mst mso mva f p) (hf : -1 ≤ f ∧ f ≤ 200) : (-9 ≤ mfa ∧ mfa ≤ 200) ∧ (mfa = -9 ↔ f = -1) := by
  have h1 := h.1
  split at h1 <;> omega
theorem mTk_at {ty : Int} {tx : Int → Int} {mfa mat mst mso mva f p : Int} (hty : 0 ≤ ty ∧ ty ≤ 200) (h : mTk ty tx mfa mat mst mso mva f p) (hf : -1 ≤ f ∧ f ≤ 200) (z : mfa = -9) (h5 : mso ≠ 7) : 0 ≤ mat ∧ mat ≤ ty := by
  obtain ⟨h1, h2, h3, h4⟩ := h.2 ((mTk_f h hf).2.mp z)
  have h6 := tkS_r (bys := mB tx) h1.2
  have h7 := kE_r (bys := mB tx) h6.2
  have h8 := (h4 h5).1
  omega
theorem mTk_y {ty : Int} {tx : Int → Int} {mfa mat mst mso mva f p lb ub mat2 mst2 mso2 mva2 mfa2 : Int} (hty : 0 ≤ ty ∧ ty ≤ 200) (h : mTk ty tx mfa mat mst mso mva f p) (hf : -1 ≤ f ∧ f ≤ 200) (hc : mso = 5 ∧ lb ≤ mva ∧ mva ≤ ub) (e0 : mfa2 = if mfa = -9 ∧ (1 : Int) = 0 then mst else mfa) (e1 : mfa = -9 ∧ (1 : Int) = 1 → mst2 = tkS ty (mB tx) mat ∧ mso2 = kK ty (mB tx) (tkS ty (mB tx) mat) ∧ (mso2 ≠ 7 → mat2 = kE ty (mB tx) (tkS ty (mB tx) mat) ∧ mva2 = kV ty (mB tx) (tkS ty (mB tx) mat)) ∧ -1000 ≤ mva2 ∧ mva2 ≤ 3000) (e2 : ¬ (mfa = -9 ∧ (1 : Int) = 1) → mat2 = mat ∧ mst2 = mst ∧ mso2 = mso ∧ mva2 = mva) : mTk ty tx mfa2 mat2 mst2 mso2 mva2 (tN ty (mB tx) f p lb ub).1 (tN ty (mB tx) f p lb ub).2.1 := by
  have hm := (mTk_f h hf).2
  rw [if_neg (by omega)] at e0
  by_cases z : f = -1
  · obtain ⟨h1, h2, h3, h4⟩ := h.2 z
    obtain ⟨h5, h6⟩ := h4 (by omega)
    obtain ⟨g1, g2, g3, -⟩ := e1 ⟨hm.mpr z, rfl⟩
    rw [tN_y z ⟨by omega, by omega, by omega⟩]
    have h7 := tkS_r (bys := mB tx) h1.2
    have h8 := kE_r (bys := mB tx) h7.2
    rw [h5] at g1 g2 g3
    exact ⟨by rw [e0]; show mfa = -9; exact hm.mpr z, fun _ => ⟨⟨by show 0 ≤ kE _ _ _; omega, by show kE _ _ _ ≤ ty; omega⟩, g1, g2, g3⟩⟩
  · rw [tN_f z]
    refine ⟨?_, fun y => absurd y z⟩
    rw [e0]
    exact h.1
theorem mTk_n {ty : Int} {tx : Int → Int} {mfa mat mst mso mva f p lb ub mat2 mst2 mso2 mva2 mfa2 : Int} (h : mTk ty tx mfa mat mst mso mva f p) (hf : -1 ≤ f ∧ f ≤ 200) (hc : ¬ (mso = 5 ∧ lb ≤ mva ∧ mva ≤ ub)) (e0 : mfa2 = if mfa = -9 ∧ (0 : Int) = 0 then mst else mfa) (e2 : mat2 = mat ∧ mst2 = mst ∧ mso2 = mso ∧ mva2 = mva) : mTk ty tx mfa2 mat2 mst2 mso2 mva2 (tN ty (mB tx) f p lb ub).1 (tN ty (mB tx) f p lb ub).2.1 := by
  have hm := (mTk_f h hf).2
  by_cases z : f = -1
  · obtain ⟨h1, h2, h3, h4⟩ := h.2 z
    rw [if_pos ⟨hm.mpr z, rfl⟩] at e0
    have h7 := tkS_r (bys := mB tx) h1.2
    have hno : ¬ okN ty (mB tx) p lb ub := fun y => hc (by
      obtain ⟨h5, h6⟩ := h4 (by rw [h3, y.1]; decide)
      rw [h3, h6]
      exact y)
    rw [tN_n z hno]
    refine ⟨?_, fun y => ?_⟩
    · show mfa2 = if tkS ty (mB tx) p = -1 then -9 else tkS ty (mB tx) p
      rw [if_neg (by omega), e0, h2]
    · exfalso
      have y2 : tkS ty (mB tx) p = -1 := y
      omega
  · rw [tN_f z]
    rw [if_neg (fun y => z (hm.mp y.1))] at e0
    exact ⟨by rw [e0]; exact h.1, fun y => absurd y z⟩
theorem mTk_v {ty : Int} {tx : Int → Int} {mfa mat mst mso mva f p lb ub : Int} (h : mTk ty tx mfa mat mst mso mva f p) (hf : -1 ≤ f ∧ f ≤ 200) (hc : mso = 5 ∧ lb ≤ mva ∧ mva ≤ ub) (z : (tN ty (mB tx) f p lb ub).1 = -1) : mva = (tN ty (mB tx) f p lb ub).2.2 := by
  have z1 := tN_b z
  obtain ⟨h1, h2, h3, h4⟩ := h.2 z1
  obtain ⟨h5, h6⟩ := h4 (by omega)
  rw [tN_y z1 ⟨by omega, by omega, by omega⟩]
  exact h6
theorem mTk_w {ty : Int} {tx : Int → Int} {mfa mat mst mso mva f p lb ub : Int} (h : mTk ty tx mfa mat mst mso mva f p) (hf : -1 ≤ f ∧ f ≤ 200) (hc : ¬ (mso = 5 ∧ lb ≤ mva ∧ mva ≤ ub)) (z : (tN ty (mB tx) f p lb ub).1 = -1) : False := by
  have z1 := tN_b z
  obtain ⟨h1, h2, h3, h4⟩ := h.2 z1
  have h7 := tkS_r (bys := mB tx) h1.2
  have hno : ¬ okN ty (mB tx) p lb ub := fun y => hc (by
    obtain ⟨h5, h6⟩ := h4 (by rw [h3, y.1]; decide)
    rw [h3, h6]
    exact y)
  rw [tN_n z1 hno] at z
  have y2 : tkS ty (mB tx) p = -1 := z
  omega
theorem mTk_s {ty : Int} {tx : Int → Int} {mfa mat mst mso mva is mat2 mst2 mso2 mva2 : Int} (hso : 0 ≤ mso ∧ mso ≤ 7) (hmv : -1000 ≤ mva ∧ mva ≤ 3000) (e1 : mfa = -9 ∧ is = 1 → mst2 = tkS ty (mB tx) mat ∧ mso2 = kK ty (mB tx) (tkS ty (mB tx) mat) ∧ (mso2 ≠ 7 → mat2 = kE ty (mB tx) (tkS ty (mB tx) mat) ∧ mva2 = kV ty (mB tx) (tkS ty (mB tx) mat)) ∧ -1000 ≤ mva2 ∧ mva2 ≤ 3000) (e2 : ¬ (mfa = -9 ∧ is = 1) → mat2 = mat ∧ mst2 = mst ∧ mso2 = mso ∧ mva2 = mva) : (0 ≤ mso2 ∧ mso2 ≤ 7) ∧ -1000 ≤ mva2 ∧ mva2 ≤ 3000 := by
  by_cases z : mfa = -9 ∧ is = 1
  · obtain ⟨g1, g2, g3, g4⟩ := e1 z
    have := kK_r ty (mB tx) (tkS ty (mB tx) mat)
    omega
  · obtain ⟨g1, g2, g3, g4⟩ := e2 z
    omega
