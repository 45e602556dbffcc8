theorem trT_ok {n : Int} {so le ri ti : Int → Int} (hh : hOk n so le ri ti) (h1 : 1 ≤ n) (lod : Int) (ts : Int → Int) : ∀ i : Nat, sOk n so ti (trT so le ri ti lod n ts i)
  | 0 => sOk_0 hh
  | i + 1 => (goS_ok hh lod (ts (i : Int)) 9 (trT so le ri ti lod n ts i) (n - 1) (by omega) (by omega) (trT_ok hh h1 lod ts i)).1
/-- part b (9: none) can be the lodged one by what was tried -/
def okB (so le ri ti : Int → Int) (n : Int) (ts tc : Int → Int) (tn b : Int) : Bool := decide (b = 9 ∨ (0 ≤ b ∧ b < n)) && trK so le ri ti (lodO b) n ts tc tn.toNat
theorem okB_t {so le ri ti : Int → Int} {n : Int} {ts tc : Int → Int} {tn b : Int} (h : b = 9 ∨ (0 ≤ b ∧ b < n)) (h2 : trK so le ri ti (lodO b) n ts tc tn.toNat = true) : okB so le ri ti n ts tc tn b = true := by
  unfold okB
  rw [decide_eq_true h, h2]
  rfl
theorem okB_f {so le ri ti : Int → Int} {n : Int} {ts tc : Int → Int} {tn b : Int} (h2 : ¬ trK so le ri ti (lodO b) n ts tc tn.toNat = true) : ¬ okB so le ri ti n ts tc tn b = true := by
  unfold okB
  rw [Bool.and_eq_true]
  exact fun q => h2 q.2
theorem okB_g {so le ri ti : Int → Int} {n : Int} {ts tc : Int → Int} {tn b : Int} (h : ¬ (b = 9 ∨ (0 ≤ b ∧ b < n))) : ¬ okB so le ri ti n ts tc tn b = true := by
  unfold okB
  rw [Bool.and_eq_true]
  exact fun q => h (of_decide_eq_true q.1)
theorem okB_fb {so le ri ti : Int → Int} {n : Int} {ts tc : Int → Int} {tn b : Int} (h2 : ¬ trK so le ri ti (lodO b) n ts tc tn.toNat = true) : ¬ okB so le ri ti n ts tc tn b = true := okB_f h2
theorem okB_gb {so le ri ti : Int → Int} {n : Int} {ts tc : Int → Int} {tn b : Int} (h : ¬ (b = 9 ∨ (0 ≤ b ∧ b < n))) : ¬ okB so le ri ti n ts tc tn b = true := okB_g h
def lgS (ok : Int → Bool) : Nat → Int
  | 0 => 0
  | k + 1 => lgS ok k + (if ok (k : Int) = true then 2 ^ k else 0)
theorem lgS_s {ok : Int → Bool} {b : Int} (h : 0 ≤ b) : lgS ok (b + 1).toNat = lgS ok b.toNat + (if ok b = true then 2 ^ b.toNat else 0) := by
  obtain ⟨k, rfl⟩ := Int.eq_ofNat_of_zero_le h
  rw [show ((k : Int) + 1).toNat = k + 1 by omega, show ((k : Int)).toNat = k by omega]
  rfl
theorem lgS_b (ok : Int → Bool) : ∀ k : Nat, 0 ≤ lgS ok k ∧ lgS ok k < 2 ^ k
  | 0 => by show (0 : Int) ≤ 0 ∧ (0 : Int) < 2 ^ 0; decide
  | k + 1 => by
    have h := lgS_b ok k
    have e : (2 : Int) ^ (k + 1) = 2 ^ k * 2 := Int.pow_succ 2 k
    show 0 ≤ lgS ok k + (if ok (k : Int) = true then 2 ^ k else 0) ∧ lgS ok k + (if ok (k : Int) = true then 2 ^ k else 0) < 2 ^ (k + 1)
    rw [e]
    split <;> omega
def q_lodges (so le ri ti : Int → Int) (n : Int) (ts tc : Int → Int) (tn : Int) : Int := if n = 0 then -2 else lgS (okB so le ri ti n ts tc tn) 10
theorem b10 {b : Int} (h : 0 ≤ b ∧ b ≤ 9) : b = 0 ∨ b = 1 ∨ b = 2 ∨ b = 3 ∨ b = 4 ∨ b = 5 ∨ b = 6 ∨ b = 7 ∨ b = 8 ∨ b = 9 := by omega
theorem zb_1shl {b : Int} (h : 0 ≤ b ∧ b ≤ 9) : zI 1 <<< (zI b &&& 31) = zI (2 ^ b.toNat) := by
  rcases b10 h with rfl | rfl | rfl | rfl | rfl | rfl | rfl | rfl | rfl | rfl <;> decide +kernel
theorem zb_orp {x b : Int} (h : 0 ≤ b ∧ b ≤ 9) (hx : 0 ≤ x ∧ x < 2 ^ b.toNat) : zI x ||| zI (2 ^ b.toNat) = zI (x + 2 ^ b.toNat) := by
  obtain ⟨m, rfl⟩ := Int.eq_ofNat_of_zero_le hx.1
  have e : (2 : Int) ^ b.toNat = ((2 ^ b.toNat : Nat) : Int) := by simp
  rw [e] at hx ⊢
  have h2 : m < 2 ^ b.toNat := by omega
  rw [zI_n, zI_n, zb_orN, Nat.or_comm, show (2 ^ b.toNat ||| m) = 2 ^ b.toNat * 1 ||| m by rw [Nat.mul_one], ← Nat.two_pow_add_eq_or_of_lt h2 1, ← zI_n]
  congr 1
  omega
/-- the group of what comes; the groups and the largest, over the first k that can be lodged -/
def grx (x : Int) : Int := if x = -9 then 9 else x
def gwS (so le ri ti : Int → Int) (n : Int) (ts tc : Int → Int) (tn sz : Int) : Nat → (Int → Int) × Int
  | 0 => (fun _ => 0, 0)
  | k + 1 => if okB so le ri ti n ts tc tn (k : Int) = true then (zu (gwS so le ri ti n ts tc tn sz k).1 (grx (goS so le ri ti (lodO (k : Int)) sz 9 (trT so le ri ti (lodO (k : Int)) n ts tn.toNat) (n - 1)).2) ((gwS so le ri ti n ts tc tn sz k).1 (grx (goS so le ri ti (lodO (k : Int)) sz 9 (trT so le ri ti (lodO (k : Int)) n ts tn.toNat) (n - 1)).2) + 1), max (gwS so le ri ti n ts tc tn sz k).2 ((gwS so le ri ti n ts tc tn sz k).1 (grx (goS so le ri ti (lodO (k : Int)) sz 9 (trT so le ri ti (lodO (k : Int)) n ts tn.toNat) (n - 1)).2) + 1)) else gwS so le ri ti n ts tc tn sz k
theorem gwS_s {so le ri ti : Int → Int} {n : Int} {ts tc : Int → Int} {tn sz b : Int} (h : 0 ≤ b) : gwS so le ri ti n ts tc tn sz (b + 1).toNat = if okB so le ri ti n ts tc tn b = true then (zu (gwS so le ri ti n ts tc tn sz b.toNat).1 (grx (goS so le ri ti (lodO b) sz 9 (trT so le ri ti (lodO b) n ts tn.toNat) (n - 1)).2) ((gwS so le ri ti n ts tc tn sz b.toNat).1 (grx (goS so le ri ti (lodO b) sz 9 (trT so le ri ti (lodO b) n ts tn.toNat) (n - 1)).2) + 1), max (gwS so le ri ti n ts tc tn sz b.toNat).2 ((gwS so le ri ti n ts tc tn sz b.toNat).1 (grx (goS so le ri ti (lodO b) sz 9 (trT so le ri ti (lodO b) n ts tn.toNat) (n - 1)).2) + 1)) else gwS so le ri ti n ts tc tn sz b.toNat := by
  obtain ⟨k, rfl⟩ := Int.eq_ofNat_of_zero_le h
  rw [show ((k : Int) + 1).toNat = k + 1 by omega, show ((k : Int)).toNat = k by omega]
  rfl
theorem gwS_b (so le ri ti : Int → Int) (n : Int) (ts tc : Int → Int) (tn sz : Int) : ∀ k : Nat, (∀ j : Int, 0 ≤ (gwS so le ri ti n ts tc tn sz k).1 j ∧ (gwS so le ri ti n ts tc tn sz k).1 j ≤ (k : Int)) ∧ 0 ≤ (gwS so le ri ti n ts tc tn sz k).2 ∧ (gwS so le ri ti n ts tc tn sz k).2 ≤ (k : Int)
  | 0 => ⟨fun _ => ⟨Int.le_refl 0, Int.le_refl 0⟩, Int.le_refl 0, Int.le_refl 0⟩
  | k + 1 => by
    obtain ⟨h1, h2⟩ := gwS_b so le ri ti n ts tc tn sz k
    have e := gwS_s (so := so) (le := le) (ri := ri) (ti := ti) (n := n) (ts := ts) (tc := tc) (tn := tn) (sz := sz) (b := (k : Int)) (by omega)
    rw [show ((k : Int) + 1).toNat = k + 1 by omega, show ((k : Int)).toNat = k by omega] at e
    rw [e]
    have h3 := h1 (grx (goS so le ri ti (lodO (k : Int)) sz 9 (trT so le ri ti (lodO (k : Int)) n ts tn.toNat) (n - 1)).2)
    split
    · refine ⟨fun j => ?_, ?_⟩
      · have h4 := h1 j
        show 0 ≤ zu _ _ _ j ∧ zu _ _ _ j ≤ ((k + 1 : Nat) : Int)
        unfold zu
        split <;> omega
      · show 0 ≤ max _ _ ∧ max _ _ ≤ ((k + 1 : Nat) : Int)
        omega
    · refine ⟨fun j => ?_, ?_⟩
      · have h4 := h1 j
        omega
      · omega
def q_trial (so le ri ti : Int → Int) (n : Int) (ts tc : Int → Int) (tn w : Int) : Int :=
  if w = 0 ∨ w = 1 then (if n = 0 then -2 else if (gwS so le ri ti n ts tc tn 0 10).2 = 0 then -9 else if w = 1 then min (gwS so le ri ti n ts tc tn 0 10).2 (gwS so le ri ti n ts tc tn 1 10).2 else if (gwS so le ri ti n ts tc tn 1 10).2 < (gwS so le ri ti n ts tc tn 0 10).2 then 1 else 0) else -1
