/-! what images keep: the class's Present beside a row of the model -/
theorem sOk_cg {n : Int} {so ti f g : Int → Int} (h : ∀ k : Int, 0 ≤ k → k < 9 → f k = g k) (hs : sOk n so ti f) : sOk n so ti g := by
  intro k h0 h1
  rw [← h k h0 h1]
  exact hs k h0 h1
def PC (n : Int) (so ti N ah c : Int → Int) (i : Int) : Prop := (c i = -9 ∨ (0 ≤ c i ∧ c i < n)) ∧ sOk n so ti (fun k => N (21 + 18 * i + k)) ∧ ah i = oc (pk (fun k => N (21 + 18 * i + k))) (c i) ∧ (∀ k : Int, n ≤ k → k < 9 → N (21 + 18 * i + (9 + k)) = 0) ∧ ∀ k : Int, 0 ≤ k → k < 9 → (if i + 1 < N 20 then N (21 + 18 * (i + 1) + (9 + k)) else N (9 + k)) = N (21 + 18 * i + (9 + k)) + (if k = c i then 1 else 0)
def PI (n : Int) (so ti N al ah : Int → Int) : Prop := sOk n so ti N ∧ (-9 ≤ N 18 ∧ N 18 ≤ 8) ∧ (0 ≤ N 19 ∧ N 19 ≤ 100) ∧ (0 ≤ N 20 ∧ N 20 ≤ 20 ∧ N 20 ≤ N 19) ∧ (∀ k : Int, n ≤ k → k < 9 → N (9 + k) = 0) ∧ (∀ k : Int, 0 ≤ k → k < 9 → al k = N (9 + k)) ∧ ∃ c : Int → Int, ∀ i : Int, 0 ≤ i → i < N 20 → PC n so ti N ah c i
theorem PI_c {n : Int} {so ti N M al al' ah ah' : Int → Int} (hn : 0 ≤ n) (h : ∀ k : Int, 0 ≤ k → k < 381 → N k = M k) (ha : ∀ k : Int, 0 ≤ k → k < 9 → al k = al' k) (hb : ∀ k : Int, 0 ≤ k → k < 20 → ah k = ah' k) (hp : PI n so ti N al ah) : PI n so ti M al' ah' := by
  obtain ⟨p1, p2, p3, p4, p5, p6, c, pc⟩ := hp
  have e18 := h 18 (by omega) (by omega)
  have e19 := h 19 (by omega) (by omega)
  have e20 := h 20 (by omega) (by omega)
  refine ⟨sOk_cg (fun k h0 h1 => h k h0 (by omega)) p1, by rw [← e18]; exact p2, by rw [← e19]; exact p3, by rw [← e20, ← e19]; exact p4, fun k h0 h1 => by rw [← h (9 + k) (by omega) (by omega)]; exact p5 k h0 h1, fun k h0 h1 => by rw [← ha k h0 h1, ← h (9 + k) (by omega) (by omega)]; exact p6 k h0 h1, c, fun i i0 i1 => ?_⟩
  rw [← e20] at i1
  obtain ⟨c1, c2, c3, c4, c5⟩ := pc i i0 i1
  refine ⟨c1, sOk_cg (fun k h0 h1 => h _ (by omega) (by omega)) c2, ?_, fun k h0 h1 => by rw [← h _ (by omega) (by omega)]; exact c4 k h0 h1, fun k h0 h1 => ?_⟩
  · rw [← hb i i0 (by omega), c3]
    congr 1
    exact pk_cong (fun k h0 h1 => h _ (by omega) (by omega))
  · have := c5 k h0 h1
    rw [← e20, ← h (21 + 18 * i + (9 + k)) (by omega) (by omega), ← this]
    by_cases z : i + 1 < N 20
    · rw [if_pos z, if_pos z, h _ (by omega) (by omega)]
    · rw [if_neg z, if_neg z, h _ (by omega) (by omega)]
/-- the rows of letN -/
def lB (N g : Int → Int) : Int → Int := stc (zu (rwS (21 + 18 * letA N 20) (letA N) 18) 20 (rwS (21 + 18 * letA N 20) (letA N) 18 20 + 1)) g 9
theorem letN_e (N g : Int → Int) (x : Int) : letN N g x = if x = -9 then zu (lB N g) 19 (lB N g 19 + 1) else zu (zu (lB N g) (9 + x) (lB N g (9 + x) + 1)) 19 (zu (lB N g) (9 + x) (lB N g (9 + x) + 1) 19 + 1) := rfl
theorem lB_g {N g : Int → Int} {k : Int} (h0 : 0 ≤ k) (h1 : k < 9) : lB N g k = g k := if_pos ⟨h0, h1⟩
theorem lB_o {N g : Int → Int} {k : Int} (h : 9 ≤ k) : lB N g k = zu (rwS (21 + 18 * letA N 20) (letA N) 18) 20 (rwS (21 + 18 * letA N 20) (letA N) 18 20 + 1) k := if_neg (by omega)
theorem lB_m {N g : Int → Int} (hk : 0 ≤ N 20 ∧ N 20 ≤ 20) {k : Int} (h : 9 ≤ k) (h1 : k < 20) : lB N g k = N k := by
  have ha := letA_20 hk
  rw [lB_o h, zu_n (by omega)]
  unfold rwS
  rw [if_neg (by omega)]
  exact letA_lo (by omega)
theorem lB_20 {N g : Int → Int} (hk : 0 ≤ N 20 ∧ N 20 ≤ 20) : lB N g 20 = letA N 20 + 1 := by
  have ha := letA_20 hk
  rw [lB_o (by omega), zu_s, rwS_20 (by omega)]
theorem lB_r {N g : Int → Int} (hk : 0 ≤ N 20 ∧ N 20 ≤ 20) {k : Int} (h0 : 0 ≤ k) (h1 : k < 18) : lB N g (21 + 18 * letA N 20 + k) = N k := by
  have ha := letA_20 hk
  rw [lB_o (by omega), zu_n (by omega)]
  unfold rwS
  rw [if_pos (by omega), show 21 + 18 * letA N 20 + k - (21 + 18 * letA N 20) = k by omega]
  exact letA_lo (by omega)
theorem letA_hi {N : Int → Int} {k : Int} (h : 363 ≤ k) : letA N k = N k := by
  unfold letA
  split
  · rw [zu_n (by omega)]
    unfold shf
    rw [if_neg (by omega)]
  · rfl
theorem letA_sh {N : Int → Int} (h : N 20 = 20) {k : Int} (h0 : 21 ≤ k) (h1 : k < 363) : letA N k = N (k + 18) := by
  unfold letA
  rw [if_pos h, zu_n (by omega)]
  unfold shf
  rw [if_pos (by omega)]
theorem letA_no {N : Int → Int} (h : N 20 ≠ 20) : letA N = N := if_neg h
theorem lB_b {N g : Int → Int} (hk : 0 ≤ N 20 ∧ N 20 ≤ 20) {k : Int} (h0 : 21 ≤ k) (h1 : k < 21 + 18 * letA N 20) : lB N g k = letA N k := by
  have ha := letA_20 hk
  rw [lB_o (by omega), zu_n (by omega)]
  unfold rwS
  rw [if_neg (by omega)]
theorem lB_h {N g : Int → Int} (hk : 0 ≤ N 20 ∧ N 20 ≤ 20) {k : Int} (h : 381 ≤ k) : lB N g k = N k := by
  have ha := letA_20 hk
  rw [lB_o (by omega), zu_n (by omega)]
  unfold rwS
  rw [if_neg (by omega)]
  exact letA_hi (by omega)
theorem letN_at {N g : Int → Int} {x : Int} (hx : x = -9 ∨ (0 ≤ x ∧ x ≤ 8)) (k : Int) : letN N g x k = if k = 19 then lB N g 19 + 1 else if x ≠ -9 ∧ k = 9 + x then lB N g k + 1 else lB N g k := by
  rw [letN_e]
  by_cases z : x = -9
  · rw [if_pos z]
    unfold zu
    by_cases y : k = 19
    · rw [if_pos y, if_pos y]
    · rw [if_neg y, if_neg y, if_neg (fun q => q.1 z)]
  · rw [if_neg z]
    by_cases y : k = 19
    · rw [y, zu_s, if_pos rfl, zu_n (by omega)]
    · rw [zu_n y, if_neg y]
      by_cases w : k = 9 + x
      · rw [w, zu_s, if_pos ⟨z, rfl⟩]
      · rw [zu_n w, if_neg (fun q => w q.2)]
theorem letN_p {N g : Int → Int} {x k : Int} (hx : x = -9 ∨ (0 ≤ x ∧ x ≤ 8)) (h : k < 9 ∨ 20 ≤ k ∨ k = 18) : letN N g x k = lB N g k := by
  rw [letN_at hx, if_neg (by omega), if_neg (by omega)]
theorem letN_th {N g : Int → Int} {x k : Int} (hk : 0 ≤ N 20 ∧ N 20 ≤ 20) (hx : x = -9 ∨ (0 ≤ x ∧ x ≤ 8)) (h0 : 0 ≤ k) (h1 : k < 9) : letN N g x (9 + k) = N (9 + k) + (if k = x then 1 else 0) := by
  rw [letN_at hx, if_neg (by omega), lB_m hk (by omega) (by omega)]
  by_cases z : k = x
  · rw [if_pos ⟨by omega, by omega⟩, if_pos z]
  · rw [if_neg (fun q => z (by omega)), if_neg z]
    omega
theorem PI_let {n : Int} {so le ri ti N al ah g : Int → Int} {x : Int} (hh : hOk n so le ri ti) (hp : PI n so ti N al ah) (hl : N 19 < 100) (hg : sOk n so ti g) (hx : x = -9 ∨ (0 ≤ x ∧ x < n)) : PI n so ti (letN N g x) (aUp al x 1) (zu (if N 20 < 20 then ah else zc ah ah 1 0 19) (if N 20 < 20 then N 20 else 19) (oc (pk N) x)) := by
  obtain ⟨p1, p2, p3, p4, p5, p6, c, pc⟩ := hp
  have hn := hh.1
  have hx8 : x = -9 ∨ (0 ≤ x ∧ x ≤ 8) := by omega
  have hk : 0 ≤ N 20 ∧ N 20 ≤ 20 := ⟨p4.1, p4.2.1⟩
  have ha := letA_20 hk
  have hJ : letA N 20 = if N 20 < 20 then N 20 else 19 := by
    rw [ha.2.2]
    split <;> split <;> omega
  have e18 : letN N g x 18 = N 18 := by rw [letN_p hx8 (by omega), lB_m hk (by omega) (by omega)]
  have e19 : letN N g x 19 = N 19 + 1 := by rw [letN_at hx8, if_pos rfl, lB_m hk (by omega) (by omega)]
  have e20 : letN N g x 20 = letA N 20 + 1 := by rw [letN_p hx8 (by omega), lB_20 hk]
  have eth := fun k h0 h1 => letN_th (g := g) (k := k) hk hx8 h0 h1
  -- rows
  have erJ : ∀ k : Int, 0 ≤ k → k < 18 → letN N g x (21 + 18 * letA N 20 + k) = N k := fun k h0 h1 => by
    rw [letN_p hx8 (by omega), lB_r hk h0 h1]
  have erb : ∀ i k : Int, 0 ≤ i → i < letA N 20 → 0 ≤ k → k < 18 → letN N g x (21 + 18 * i + k) = N (21 + 18 * (if N 20 < 20 then i else i + 1) + k) := fun i k i0 i1 h0 h1 => by
    rw [letN_p hx8 (by omega), lB_b hk (by omega) (by omega)]
    by_cases z : N 20 < 20
    · rw [if_pos z, letA_no (by omega)]
    · rw [if_neg z, letA_sh (by omega) (by omega) (by omega)]
      congr 1
      omega
  obtain ⟨c', hc'⟩ : ∃ c' : Int → Int, ∀ i : Int, c' i = if i < letA N 20 then c (if N 20 < 20 then i else i + 1) else x := ⟨_, fun _ => rfl⟩
  refine ⟨sOk_cg (fun k h0 h1 => by rw [letN_p hx8 (by omega), lB_g h0 h1]) hg, by rw [e18]; exact p2, by rw [e19]; omega, by rw [e20, e19]; split at hJ <;> omega, fun k h0 h1 => ?_, fun k h0 h1 => ?_, c', fun i i0 i1 => ?_⟩
  · rw [eth k (by omega) h1, p5 k h0 h1, if_neg (by omega)]
    rfl
  · rw [eth k h0 h1]
    unfold aUp
    by_cases z : 0 ≤ x
    · rw [if_pos z]
      unfold zu
      by_cases y : k = x
      · rw [if_pos y, if_pos y, ← y, p6 k h0 h1]
      · rw [if_neg y, if_neg y, p6 k h0 h1]
        omega
    · rw [if_neg z, if_neg (by omega), p6 k h0 h1]
      omega
  · rw [e20] at i1
    by_cases z : i < letA N 20
    · -- an older row
      have hii : (0 : Int) ≤ (if N 20 < 20 then i else i + 1) ∧ (if N 20 < 20 then i else i + 1) < N 20 := by split at hJ <;> split <;> omega
      obtain ⟨c1, c2, c3, c4, c5⟩ := pc _ hii.1 hii.2
      have er := fun k h0 h1 => erb i k i0 z h0 h1
      have ec := hc' i
      rw [if_pos z] at ec
      refine ⟨?_, sOk_cg (fun k h0 h1 => (er k h0 (by omega)).symm) c2, ?_, fun k h0 h1 => by rw [er (9 + k) (by omega) (by omega)]; exact c4 k h0 h1, fun k h0 h1 => ?_⟩
      · rw [ec]
        exact c1
      · rw [ec, pk_cong (su := fun k => N (21 + 18 * (if N 20 < 20 then i else i + 1) + k)) (fun k h0 h1 => er k h0 (by omega)), ← c3, zu_n (by rw [← hJ]; omega)]
        by_cases y : N 20 < 20
        · rw [if_pos y, if_pos y]
        · rw [if_neg y, if_neg y]
          unfold zc
          rw [if_pos (by split at hJ <;> omega)]
          congr 1
          omega
      · rw [ec, er (9 + k) (by omega) (by omega), ← c5 k h0 h1, e20, if_pos (by omega)]
        by_cases y : i + 1 < letA N 20
        · rw [erb (i + 1) (9 + k) (by omega) y (by omega) (by omega)]
          by_cases w : N 20 < 20
          · rw [if_pos w, if_pos w] at *
            rw [if_pos (by omega)]
          · rw [if_neg w, if_neg w] at *
            rw [if_pos (by omega)]
        · have ei : i + 1 = letA N 20 := by omega
          rw [ei, erJ (9 + k) (by omega) (by omega), if_neg (by split at hJ <;> split <;> omega)]
    · have ei : i = letA N 20 := by omega
      subst ei
      have ec := hc' (letA N 20)
      rw [if_neg z] at ec
      refine ⟨?_, sOk_cg (fun k h0 h1 => (erJ k h0 (by omega)).symm) p1, ?_, fun k h0 h1 => by rw [erJ (9 + k) (by omega) (by omega)]; exact p5 k h0 h1, fun k h0 h1 => ?_⟩
      · rw [ec]
        exact hx
      · rw [ec, pk_cong (su := N) (fun k h0 h1 => erJ k h0 (by omega)), ← hJ, zu_s]
      · rw [ec, e20, if_neg (by omega), erJ (9 + k) (by omega) (by omega)]
        exact eth k h0 h1
theorem letN_hi {N g : Int → Int} {x k : Int} (hk : 0 ≤ N 20 ∧ N 20 ≤ 20) (hx : x = -9 ∨ (0 ≤ x ∧ x ≤ 8)) (h : 381 ≤ k) : letN N g x k = N k := by
  rw [letN_p hx (by omega), lB_h hk h]
theorem undN_at {N : Int → Int} {k : Int} (h : 1 ≤ N 20) : undN N k = if 0 ≤ k ∧ k < 18 then N (21 + 18 * (N 20 - 1) + k) else if k = 19 then N 19 - 1 else if k = 20 then N 20 - 1 else N k := by
  unfold undN
  by_cases y : k = 19
  · rw [y, zu_s, unS_19 (by omega), if_neg (by omega), if_pos rfl]
  · rw [zu_n y]
    unfold unS
    by_cases z : 0 ≤ k ∧ k < 18
    · rw [if_pos z, if_pos z]
    · rw [if_neg z, if_neg z, if_neg y]
      unfold zu
      split <;> rfl
theorem PI_undo {n : Int} {so ti N al ah c : Int → Int} (hn : 0 ≤ n) (hp : PI n so ti N al ah) (h1 : 1 ≤ N 20) (pc : ∀ i : Int, 0 ≤ i → i < N 20 → PC n so ti N ah c i) : PI n so ti (undN N) (aUp al (c (N 20 - 1)) (-1)) ah := by
  obtain ⟨p1, p2, p3, p4, p5, p6, -⟩ := hp
  have er : ∀ k : Int, 0 ≤ k → k < 18 → undN N k = N (21 + 18 * (N 20 - 1) + k) := fun k h0 h2 => by rw [undN_at h1, if_pos ⟨h0, h2⟩]
  have e18 : undN N 18 = N 18 := by rw [undN_at h1, if_neg (by omega), if_neg (by omega), if_neg (by omega)]
  have e19 : undN N 19 = N 19 - 1 := by rw [undN_at h1, if_neg (by omega), if_pos rfl]
  have e20 : undN N 20 = N 20 - 1 := by rw [undN_at h1, if_neg (by omega), if_neg (by omega), if_pos rfl]
  have eo : ∀ k : Int, 21 ≤ k → undN N k = N k := fun k h0 => by rw [undN_at h1, if_neg (by omega), if_neg (by omega), if_neg (by omega)]
  obtain ⟨c1, c2, c3, c4, c5⟩ := pc (N 20 - 1) (by omega) (by omega)
  refine ⟨sOk_cg (fun k h0 h2 => (er k h0 (by omega)).symm) c2, by rw [e18]; exact p2, by rw [e19]; omega, by rw [e20, e19]; omega, fun k h0 h2 => by rw [er (9 + k) (by omega) (by omega)]; exact c4 k h0 h2, fun k h0 h2 => ?_, c, fun i i0 i1 => ?_⟩
  · have c6 := c5 k h0 h2
    rw [if_neg (by omega)] at c6
    rw [er (9 + k) (by omega) (by omega)]
    unfold aUp
    by_cases z : 0 ≤ c (N 20 - 1)
    · rw [if_pos z]
      unfold zu
      by_cases y : k = c (N 20 - 1)
      · rw [if_pos y] at c6 ⊢
        rw [← y, p6 k h0 h2]
        omega
      · rw [if_neg y] at c6 ⊢
        rw [p6 k h0 h2]
        omega
    · rw [if_neg z, p6 k h0 h2]
      rw [if_neg (by omega)] at c6
      omega
  · rw [e20] at i1
    obtain ⟨d1, d2, d3, d4, d5⟩ := pc i i0 (by omega)
    have erow : ∀ k : Int, 0 ≤ k → undN N (21 + 18 * i + k) = N (21 + 18 * i + k) := fun k h0 => eo _ (by omega)
    refine ⟨d1, sOk_cg (fun k h0 h2 => (erow k h0).symm) d2, ?_, fun k h0 h2 => by rw [erow (9 + k) (by omega)]; exact d4 k h0 h2, fun k h0 h2 => ?_⟩
    · rw [pk_cong (su := fun k => N (21 + 18 * i + k)) (fun k h0 h2 => erow k h0)]
      exact d3
    · rw [erow (9 + k) (by omega), ← d5 k h0 h2, e20]
      by_cases z : i + 1 < N 20 - 1
      · rw [if_pos z, if_pos (by omega), eo _ (by omega)]
      · rw [if_neg z, if_pos (by omega), er (9 + k) (by omega) (by omega), show i + 1 = N 20 - 1 by omega]
theorem undN_hi {N : Int → Int} {k : Int} (h1 : 1 ≤ N 20) (h : 381 ≤ k) : undN N k = N k := by
  rw [undN_at h1, if_neg (by omega), if_neg (by omega), if_neg (by omega)]
theorem PI_lodge {n v : Int} {so ti N al ah : Int → Int} (hn : 0 ≤ n) (hp : PI n so ti N al ah) (hv : -9 ≤ v ∧ v ≤ 8) : PI n so ti (zu N 18 v) al ah := by
  obtain ⟨p1, p2, p3, p4, p5, p6, c, pc⟩ := hp
  have e : ∀ k : Int, k ≠ 18 → zu N 18 v k = N k := fun k h => zu_n h
  refine ⟨sOk_cg (fun k h0 h1 => (e k (by omega)).symm) p1, by rw [zu_s]; exact hv, by rw [e 19 (by omega)]; exact p3, by rw [e 20 (by omega), e 19 (by omega)]; exact p4, fun k h0 h1 => by rw [zu, if_neg]; exact p5 k h0 h1; omega, fun k h0 h1 => by rw [p6 k h0 h1, e (9 + k) (by omega)], c, fun i i0 i1 => ?_⟩
  rw [e 20 (by omega)] at i1
  obtain ⟨d1, d2, d3, d4, d5⟩ := pc i i0 i1
  refine ⟨d1, sOk_cg (fun k h0 h2 => (e _ (by omega)).symm) d2, ?_, fun k h0 h2 => ?_, fun k h0 h2 => ?_⟩
  · rw [pk_cong (su := fun k => N (21 + 18 * i + k)) (fun k h0 h2 => e _ (by omega))]
    exact d3
  · by_cases z : 21 + 18 * i + (9 + k) = 18
    · omega
    · rw [e _ z]; exact d4 k h0 h2
  · rw [e 20 (by omega), e (21 + 18 * i + (9 + k)) (by omega), ← d5 k h0 h2]
    by_cases z : i + 1 < N 20
    · rw [if_pos z, if_pos z, e _ (by omega)]
    · rw [if_neg z, if_neg z, e _ (by omega)]
theorem PI_0 {n : Int} {so le ri ti N al ah : Int → Int} (hh : hOk n so le ri ti) (h : ∀ k : Int, 0 ≤ k → k < 381 → k ≠ 18 → N k = 0) (h18 : N 18 = -9) (ha : ∀ k : Int, 0 ≤ k → k < 9 → al k = 0) : PI n so ti N al ah := by
  have hn := hh.1
  have e20 := h 20 (by omega) (by omega) (by omega)
  have e19 := h 19 (by omega) (by omega) (by omega)
  exact ⟨sOk_00 hh (fun k h0 h1 => h k h0 (by omega) (by omega)), by rw [h18]; omega, by rw [e19]; omega, by rw [e20, e19]; omega, fun k h0 h1 => by
    by_cases z : 9 + k = 18
    · omega
    · exact h _ (by omega) (by omega) z, fun k h0 h1 => by rw [ha k h0 h1, h _ (by omega) (by omega) (by omega)], fun _ => 0, fun i i0 i1 => by rw [e20] at i1; omega⟩
