/-! the marbles' fall, as both sides tell it -/
def goS (so le ri ti : Int → Int) (lod sz : Int) : Nat → (Int → Int) → Int → (Int → Int) × Int
  | 0, st, _ => (st, -9)
  | f + 1, st, k =>
    if k = lod then (st, -9)
    else if so k = 0 then (st, k)
    else if so k = 1 then goS so le ri ti lod sz f (zu st k (if st k + 1 < 2 * ti k then st k + 1 else 0)) (if st k < ti k then le k else ri k)
    else if so k = 2 then goS so le ri ti lod sz f st (if sz = 0 then le k else ri k)
    else if st k + 1 < ti k then (zu st k (st k + 1), -9)
    else goS so le ri ti lod sz f (zu st k 0) (le k)
/-- a house of n parts that is told well -/
def hOk (n : Int) (so le ri ti : Int → Int) : Prop :=
  (0 ≤ n ∧ n ≤ 9) ∧ ∀ k : Int, 0 ≤ k → k < n → (0 ≤ so k ∧ so k ≤ 3) ∧ (so k ≠ 0 → 0 ≤ le k ∧ le k < k) ∧ ((so k = 1 ∨ so k = 2) → 0 ≤ ri k ∧ ri k < k) ∧ (so k = 1 → 1 ≤ ti k ∧ ti k ≤ 3) ∧ (so k = 3 → 2 ≤ ti k ∧ ti k ≤ 4) ∧ (so k = 0 → le k = -9) ∧ ((so k = 0 ∨ so k = 3) → ri k = -9) ∧ ((so k = 0 ∨ so k = 2) → ti k = 0)
/-- stands that can be: of a fork below 2 T, of a cup below T, else 0 -/
def sOk (n : Int) (so ti st : Int → Int) : Prop :=
  ∀ k : Int, 0 ≤ k → k < 9 → 0 ≤ st k ∧ (k < n → (so k = 1 → st k < 2 * ti k) ∧ (so k = 3 → st k < ti k) ∧ ((so k = 0 ∨ so k = 2) → st k = 0)) ∧ (n ≤ k → st k = 0)
theorem sOk_lt {n : Int} {so le ri ti st : Int → Int} (hh : hOk n so le ri ti) (h : sOk n so ti st) {k : Int} (h0 : 0 ≤ k) (h1 : k < 9) : 0 ≤ st k ∧ st k ≤ 5 := by
  obtain ⟨a, b, c⟩ := h k h0 h1
  refine ⟨a, ?_⟩
  by_cases hk : k < n
  · obtain ⟨b1, b2, b3⟩ := b hk
    obtain ⟨h1, h2, h3, h4, h5, h6, h7, h8⟩ := hh.2 k h0 hk
    rcases (show so k = 0 ∨ so k = 1 ∨ so k = 2 ∨ so k = 3 by omega) with q | q | q | q
    · have := b3 (Or.inl q); omega
    · have := b1 q; have := h4 q; omega
    · have := b3 (Or.inr q); omega
    · have := b2 q; have := h5 q; omega
  · have := c (by omega); omega
/-- all stands in one number, three bits a part -/
def pk (st : Int → Int) : Int := st 0 + 8 * st 1 + 64 * st 2 + 512 * st 3 + 4096 * st 4 + 32768 * st 5 + 262144 * st 6 + 2097152 * st 7 + 16777216 * st 8
def p8 (k : Int) : Int := if k = 0 then 1 else if k = 1 then 8 else if k = 2 then 64 else if k = 3 then 512 else if k = 4 then 4096 else if k = 5 then 32768 else if k = 6 then 262144 else if k = 7 then 2097152 else 16777216
def s7 (st : Int → Int) : Prop := (0 ≤ st 0 ∧ st 0 ≤ 7) ∧ (0 ≤ st 1 ∧ st 1 ≤ 7) ∧ (0 ≤ st 2 ∧ st 2 ≤ 7) ∧ (0 ≤ st 3 ∧ st 3 ≤ 7) ∧ (0 ≤ st 4 ∧ st 4 ≤ 7) ∧ (0 ≤ st 5 ∧ st 5 ≤ 7) ∧ (0 ≤ st 6 ∧ st 6 ≤ 7) ∧ (0 ≤ st 7 ∧ st 7 ≤ 7) ∧ (0 ≤ st 8 ∧ st 8 ≤ 7)
theorem pk_rng {st : Int → Int} (h : s7 st) : 0 ≤ pk st ∧ pk st ≤ 134217727 := by
  unfold s7 at h
  unfold pk
  omega
theorem k9 {k : Int} (h0 : 0 ≤ k) (h1 : k < 9) : k = 0 ∨ k = 1 ∨ k = 2 ∨ k = 3 ∨ k = 4 ∨ k = 5 ∨ k = 6 ∨ k = 7 ∨ k = 8 := by omega
theorem pk_at {st : Int → Int} (h : s7 st) {k : Int} (h0 : 0 ≤ k) (h1 : k < 9) : pk st / p8 k % 8 = st k := by
  unfold s7 at h
  rcases k9 h0 h1 with rfl | rfl | rfl | rfl | rfl | rfl | rfl | rfl | rfl <;> simp only [p8, pk] <;> simp <;> omega
theorem pk_up {st : Int → Int} {k v : Int} (h0 : 0 ≤ k) (h1 : k < 9) : pk st + (v - st k) * p8 k = pk (zu st k v) := by
  rcases k9 h0 h1 with rfl | rfl | rfl | rfl | rfl | rfl | rfl | rfl | rfl <;> simp only [p8, pk, zu] <;> simp <;> omega
theorem s7_up {st : Int → Int} {k v : Int} (h : s7 st) (h0 : 0 ≤ v) (h1 : v ≤ 7) : s7 (zu st k v) := by
  have z : ∀ j : Int, 0 ≤ st j ∧ st j ≤ 7 → 0 ≤ zu st k v j ∧ zu st k v j ≤ 7 := by
    intro j hj
    unfold zu
    split <;> omega
  unfold s7 at h ⊢
  exact ⟨z _ h.1, z _ h.2.1, z _ h.2.2.1, z _ h.2.2.2.1, z _ h.2.2.2.2.1, z _ h.2.2.2.2.2.1, z _ h.2.2.2.2.2.2.1, z _ h.2.2.2.2.2.2.2.1, z _ h.2.2.2.2.2.2.2.2⟩
theorem pk_inj {st su : Int → Int} (h : s7 st) (h2 : s7 su) (e : pk st = pk su) {k : Int} (h0 : 0 ≤ k) (h1 : k < 9) : st k = su k := by
  rw [← pk_at h h0 h1, ← pk_at h2 h0 h1, e]
theorem pk_cong {st su : Int → Int} (h : ∀ k : Int, 0 ≤ k → k < 9 → st k = su k) : pk st = pk su := by
  unfold pk
  rw [h 0 (by omega) (by omega), h 1 (by omega) (by omega), h 2 (by omega) (by omega), h 3 (by omega) (by omega), h 4 (by omega) (by omega), h 5 (by omega) (by omega), h 6 (by omega) (by omega), h 7 (by omega) (by omega), h 8 (by omega) (by omega)]
theorem sOk_s7 {n : Int} {so le ri ti st : Int → Int} (hh : hOk n so le ri ti) (h : sOk n so ti st) : s7 st := by
  have z : ∀ k : Int, 0 ≤ k → k < 9 → 0 ≤ st k ∧ st k ≤ 7 := fun k h0 h1 => by
    have := sOk_lt hh h h0 h1
    omega
  exact ⟨z 0 (by omega) (by omega), z 1 (by omega) (by omega), z 2 (by omega) (by omega), z 3 (by omega) (by omega), z 4 (by omega) (by omega), z 5 (by omega) (by omega), z 6 (by omega) (by omega), z 7 (by omega) (by omega), z 8 (by omega) (by omega)⟩
/-- a standing and what came, in one number -/
def oc (s c : Int) : Int := s + (if 0 ≤ c then (c + 1) * 134217728 else 0)
def cmO (o : Int) : Int := if o / 134217728 = 0 then -9 else o / 134217728 - 1
theorem oc_rng {s c : Int} (h : 0 ≤ s ∧ s ≤ 134217727) (hc : c ≤ 8) : 0 ≤ oc s c ∧ oc s c ≤ 2147483647 := by
  unfold oc
  split <;> omega
theorem oc_s {s c : Int} (h : 0 ≤ s ∧ s ≤ 134217727) : oc s c % 134217728 = s := by
  unfold oc
  split <;> omega
theorem oc_c {s c : Int} (h : 0 ≤ s ∧ s ≤ 134217727) (hc : c = -9 ∨ 0 ≤ c) : cmO (oc s c) = c := by
  unfold cmO oc
  split <;> split <;> omega
/-- what comes is NONE or a landing; the stands go on being such as can be -/
theorem goS_ok {n : Int} {so le ri ti : Int → Int} (hh : hOk n so le ri ti) (lod sz : Int) : ∀ (f : Nat) (st : Int → Int) (k : Int), 0 ≤ k → k < n → sOk n so ti st →
    sOk n so ti (goS so le ri ti lod sz f st k).1 ∧ ((goS so le ri ti lod sz f st k).2 = -9 ∨ (0 ≤ (goS so le ri ti lod sz f st k).2 ∧ (goS so le ri ti lod sz f st k).2 < n ∧ so (goS so le ri ti lod sz f st k).2 = 0)) := by
  intro f
  induction f with
  | zero => intro st k h0 h1 h; exact ⟨h, Or.inl rfl⟩
  | succ f ih =>
    intro st k h0 h1 h
    obtain ⟨w1, w2, w3, w4, w5, w6, w7, w8⟩ := hh.2 k h0 h1
    have hn := hh.1
    obtain ⟨s1, s2, -⟩ := h k h0 (by omega)
    obtain ⟨s2, s3, s4⟩ := s2 h1
    have hu : ∀ v : Int, 0 ≤ v → (so k = 1 → v < 2 * ti k) → (so k = 3 → v < ti k) → (so k = 1 ∨ so k = 3) → sOk n so ti (zu st k v) := by
      intro v v0 v1 v3 vs j j0 j1
      by_cases hj : j = k
      · subst hj
        rw [zu_s]
        exact ⟨v0, fun _ => ⟨v1, v3, fun q => by omega⟩, fun q => by omega⟩
      · rw [zu_n hj]
        exact h j j0 j1
    unfold goS
    by_cases a1 : k = lod
    · rw [if_pos a1]; exact ⟨h, Or.inl rfl⟩
    · rw [if_neg a1]
      by_cases a2 : so k = 0
      · rw [if_pos a2]; exact ⟨h, Or.inr ⟨h0, h1, a2⟩⟩
      · rw [if_neg a2]
        have l1 := w2 a2
        by_cases a3 : so k = 1
        · rw [if_pos a3]
          have r1 := w3 (Or.inl a3)
          have t1 := w4 a3
          have q1 := s2 a3
          refine ih _ _ ?_ ?_ (hu _ ?_ ?_ ?_ (Or.inl a3))
          · split <;> omega
          · split <;> omega
          · split <;> omega
          · intro _; split <;> omega
          · intro z; omega
        · rw [if_neg a3]
          by_cases a4 : so k = 2
          · rw [if_pos a4]
            have r1 := w3 (Or.inr a4)
            refine ih _ _ ?_ ?_ h
            · split <;> omega
            · split <;> omega
          · rw [if_neg a4]
            have a5 : so k = 3 := by omega
            have t1 := w5 a5
            have q1 := s3 a5
            by_cases a6 : st k + 1 < ti k
            · rw [if_pos a6]
              exact ⟨hu _ (by omega) (fun z => by omega) (fun _ => a6) (Or.inr a5), Or.inl rfl⟩
            · rw [if_neg a6]
              exact ih _ _ l1.1 (by omega) (hu _ (by omega) (fun z => by omega) (fun _ => by omega) (Or.inr a5))
/-- the fall looks at the parts of the house alone -/
theorem goS_cong {n : Int} {so le ri ti so' le' ri' ti' : Int → Int} (hh : hOk n so le ri ti) (h1 : ∀ k : Int, 0 ≤ k → k < n → so k = so' k ∧ le k = le' k ∧ ri k = ri' k ∧ ti k = ti' k) (lod sz : Int) : ∀ (f : Nat) (st : Int → Int) (k : Int), 0 ≤ k → k < n →
    goS so le ri ti lod sz f st k = goS so' le' ri' ti' lod sz f st k := by
  intro f
  induction f with
  | zero => intro st k _ _; rfl
  | succ f ih =>
    intro st k k0 kn
    obtain ⟨e1, e2, e3, e4⟩ := h1 k k0 kn
    obtain ⟨w1, w2, w3, w4, w5, w6, w7, w8⟩ := hh.2 k k0 kn
    unfold goS
    rw [← e1, ← e2, ← e3, ← e4]
    split
    · rfl
    · split
      · rfl
      · split
        · exact ih _ _ (by split <;> omega) (by split <;> omega)
        · split
          · exact ih _ _ (by split <;> omega) (by split <;> omega)
          · split
            · rfl
            · exact ih _ _ (by omega) (by omega)
/-- and at the stands of 0 .. 8 alone: stands that are alike there go on alike -/
theorem goS_st {n : Int} {so le ri ti : Int → Int} (hh : hOk n so le ri ti) (lod sz : Int) : ∀ (f : Nat) (st su : Int → Int) (k : Int), 0 ≤ k → k < n → (∀ j : Int, 0 ≤ j → j < 9 → st j = su j) →
    (goS so le ri ti lod sz f st k).2 = (goS so le ri ti lod sz f su k).2 ∧ ∀ j : Int, 0 ≤ j → j < 9 → (goS so le ri ti lod sz f st k).1 j = (goS so le ri ti lod sz f su k).1 j := by
  intro f
  induction f with
  | zero => intro st su k _ _ h; exact ⟨rfl, h⟩
  | succ f ih =>
    intro st su k k0 kn h
    obtain ⟨w1, w2, w3, w4, w5, w6, w7, w8⟩ := hh.2 k k0 kn
    have hn := hh.1
    have e := h k k0 (by omega)
    have hu : ∀ v : Int, ∀ j : Int, 0 ≤ j → j < 9 → zu st k v j = zu su k v j := by
      intro v j j0 j1
      unfold zu
      split
      · rfl
      · exact h j j0 j1
    unfold goS
    rw [← e]
    split
    · exact ⟨rfl, h⟩
    · split
      · exact ⟨rfl, h⟩
      · split
        · exact ih _ _ _ (by split <;> omega) (by split <;> omega) (hu _)
        · split
          · exact ih _ _ _ (by split <;> omega) (by split <;> omega) h
          · split
            · exact ⟨rfl, hu _⟩
            · exact ih _ _ _ (by omega) (by omega) (hu _)
/-- the number of steps doesn't matter once it is beyond the part -/
theorem goS_fuel {n : Int} {so le ri ti : Int → Int} (hh : hOk n so le ri ti) (lod sz : Int) : ∀ (f g : Nat) (st : Int → Int) (k : Int), 0 ≤ k → k < n → k < f → k < g →
    goS so le ri ti lod sz f st k = goS so le ri ti lod sz g st k := by
  intro f
  induction f with
  | zero => intro g st k k0 _ h; omega
  | succ f ih =>
    intro g st k k0 kn hf hg
    cases g with
    | zero => omega
    | succ g =>
      obtain ⟨w1, w2, w3, w4, w5, w6, w7, w8⟩ := hh.2 k k0 kn
      unfold goS
      split
      · rfl
      · split
        · rfl
        · split
          · exact ih _ _ _ (by split <;> omega) (by split <;> omega) (by split <;> omega) (by split <;> omega)
          · split
            · exact ih _ _ _ (by split <;> omega) (by split <;> omega) (by split <;> omega) (by split <;> omega)
            · split
              · rfl
              · exact ih _ _ _ (by omega) (by omega) (by omega) (by omega)
theorem goS_succ (so le ri ti : Int → Int) (lod sz : Int) (f : Nat) (st : Int → Int) (k : Int) : goS so le ri ti lod sz (f + 1) st k =
    if k = lod then (st, -9)
    else if so k = 0 then (st, k)
    else if so k = 1 then goS so le ri ti lod sz f (zu st k (if st k + 1 < 2 * ti k then st k + 1 else 0)) (if st k < ti k then le k else ri k)
    else if so k = 2 then goS so le ri ti lod sz f st (if sz = 0 then le k else ri k)
    else if st k + 1 < ti k then (zu st k (st k + 1), -9)
    else goS so le ri ti lod sz f (zu st k 0) (le k) := rfl
/-- a sum over 0 .. n - 1 -/
def sF (g : Int → Int) : Nat → Int
  | 0 => 0
  | k + 1 => sF g k + g (k : Int)
theorem sF_s (g : Int → Int) {k : Int} (h : 0 ≤ k) : sF g (k + 1).toNat = sF g k.toNat + g k := by
  obtain ⟨n, rfl⟩ := Int.eq_ofNat_of_zero_le h
  rw [show ((n : Int) + 1).toNat = n + 1 by omega, show ((n : Int)).toNat = n by omega]
  rfl
theorem sF_b {g : Int → Int} (h : ∀ k : Int, 0 ≤ g k ∧ g k ≤ 1) : ∀ n : Nat, 0 ≤ sF g n ∧ sF g n ≤ (n : Int)
  | 0 => ⟨Int.le_refl 0, Int.le_refl 0⟩
  | n + 1 => by
    have h1 := sF_b h n
    have h2 := h (n : Int)
    show 0 ≤ sF g n + g (n : Int) ∧ sF g n + g (n : Int) ≤ _
    omega
theorem sF_c {g g' : Int → Int} : ∀ n : Nat, (∀ k : Int, 0 ≤ k → k < (n : Int) → g k = g' k) → sF g n = sF g' n
  | 0, _ => rfl
  | n + 1, h => by
    show sF g n + g (n : Int) = sF g' n + g' (n : Int)
    rw [sF_c n (fun k h0 h1 => h k h0 (by omega)), h (n : Int) (by omega) (by omega)]
def gL (so : Int → Int) : Int → Int := fun k => if so k = 0 then 1 else 0
def gC (so st : Int → Int) : Int → Int := fun k => if so k = 3 ∧ 0 < st k then 1 else 0
theorem gL_b (so : Int → Int) (k : Int) : 0 ≤ gL so k ∧ gL so k ≤ 1 := by
  unfold gL
  split <;> omega
theorem gC_b (so st : Int → Int) (k : Int) : 0 ≤ gC so st k ∧ gC so st k ≤ 1 := by
  unfold gC
  split <;> omega
