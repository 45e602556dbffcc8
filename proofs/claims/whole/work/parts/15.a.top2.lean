/-! rows of marbles from now: the stands behind the first i, what comes of the i-th -/
def rnT (so le ri ti : Int → Int) (lo n : Int) (st z : Int → Int) : Nat → (Int → Int)
  | 0 => st
  | i + 1 => (goS so le ri ti lo (z (i : Int)) 9 (rnT so le ri ti lo n st z i) (n - 1)).1
def rnC (so le ri ti : Int → Int) (lo n : Int) (st z : Int → Int) (i : Nat) : Int := (goS so le ri ti lo (z (i : Int)) 9 (rnT so le ri ti lo n st z i) (n - 1)).2
theorem rnT_s {so le ri ti : Int → Int} {lo n : Int} {st z : Int → Int} {i : Int} (h : 0 ≤ i) : rnT so le ri ti lo n st z (i + 1).toNat = (goS so le ri ti lo (z i) 9 (rnT so le ri ti lo n st z i.toNat) (n - 1)).1 := by
  obtain ⟨k, rfl⟩ := Int.eq_ofNat_of_zero_le h
  rw [show ((k : Int) + 1).toNat = k + 1 by omega, show ((k : Int)).toNat = k by omega]
  rfl
def mz (v : Int) : Int → Int := fun i => (rw v).getD i.toNat 0 - 1
theorem rw_len (v : Int) : (rw v).length = (ds 10 v).length := List.length_reverse
theorem rw_mem {v d : Int} : d ∈ rw v ↔ d ∈ ds 10 v := List.mem_reverse
theorem vl_r9 {l : List Int} (h : ∀ x ∈ l, 1 ≤ x ∧ x ≤ 9) (h9 : l.length ≤ 9) : 0 ≤ vl l ∧ vl l ≤ 999999999 := by
  have h1 := vl_bd l h
  have h2 : (10 : Int) ^ l.length ≤ 10 ^ 9 := by
    rcases (show l.length = 0 ∨ l.length = 1 ∨ l.length = 2 ∨ l.length = 3 ∨ l.length = 4 ∨ l.length = 5 ∨ l.length = 6 ∨ l.length = 7 ∨ l.length = 8 ∨ l.length = 9 by omega) with q | q | q | q | q | q | q | q | q | q <;> rw [q] <;> decide
  omega
theorem rw_at {v j : Int} (h : rowB v = true) (h0 : 0 ≤ j) (h1 : j < ((rw v).length : Int)) : ∃ d t, (rw v).drop j.toNat = d :: t ∧ (rw v).drop (j + 1).toNat = t ∧ mz v j = d - 1 ∧ (d = 1 ∨ d = 2) ∧ vl (d :: t) % 10 = d ∧ vl (d :: t) / 10 = vl t ∧ 0 ≤ vl (d :: t) ∧ vl (d :: t) ≤ 999999999 := by
  obtain ⟨k, rfl⟩ := Int.eq_ofNat_of_zero_le h0
  have hk : k < (rw v).length := by omega
  have hm : ∀ x ∈ rw v, x = 1 ∨ x = 2 := fun x hx => rowB_mem h x (rw_mem.mp hx)
  have l9 := ds_len9 (rowB_rng h)
  have rl := rw_len v
  have e := List.drop_eq_getElem_cons hk
  have hd : ∀ x ∈ (rw v)[k] :: (rw v).drop (k + 1), 1 ≤ x ∧ x ≤ 9 := fun x hx => by
    rw [← e] at hx
    have := hm x (List.mem_of_mem_drop hx)
    omega
  have hb := vl_r9 hd (by simp only [List.length_cons, List.length_drop]; omega)
  have ht := vl_bd ((rw v).drop (k + 1)) (fun x hx => hd x (List.mem_cons_of_mem _ hx))
  have hx := hm _ (List.getElem_mem hk)
  have ev : vl ((rw v)[k] :: (rw v).drop (k + 1)) = (rw v)[k] + 10 * vl ((rw v).drop (k + 1)) := rfl
  refine ⟨(rw v)[k], (rw v).drop (k + 1), ?_, ?_, ?_, hx, ?_, ?_, hb⟩
  · rw [show ((k : Int)).toNat = k by omega]; exact e
  · rw [show ((k : Int) + 1).toNat = k + 1 by omega]
  · unfold mz
    rw [show ((k : Int)).toNat = k by omega, List.getD_eq_getElem?_getD, List.getElem?_eq_getElem hk]
    rfl
  · rw [ev]; omega
  · rw [ev]; omega
def q_brings (so le ri ti : Int → Int) (lo n : Int) (st : Int → Int) (v i : Int) : Int := if rowB v = true ∧ 0 ≤ i then (if n = 0 then -2 else if ((rw v).length : Int) ≤ i then -5 else rnC so le ri ti lo n st (mz v) i.toNat) else -1
/-- the first length at which a row is found -/
def shS (so le ri ti : Int → Int) (lo n : Int) (st : Int → Int) (wl : List Int) : Nat → Int → Int
  | 0, _ => -9
  | f + 1, j => if roS so le ri ti lo n j.toNat st wl 0 = -9 then shS so le ri ti lo n st wl f (j + 1) else roS so le ri ti lo n j.toNat st wl 0
theorem shS_s {so le ri ti : Int → Int} {lo n : Int} {st : Int → Int} {wl : List Int} {j : Int} (h : j < 10) : shS so le ri ti lo n st wl (10 - j).toNat j = if roS so le ri ti lo n j.toNat st wl 0 = -9 then shS so le ri ti lo n st wl (10 - (j + 1)).toNat (j + 1) else roS so le ri ti lo n j.toNat st wl 0 := by
  rw [show (10 - j).toNat = (10 - (j + 1)).toNat + 1 by omega]
  rfl
def q_short (so le ri ti : Int → Int) (lo n : Int) (st : Int → Int) (v : Int) : Int := if lanB n so v = true then (if n = 0 then -2 else shS so le ri ti lo n st (rw v) 10 0) else -1
theorem ro_0 {j : Int} (h : 0 ≤ j ∧ j ≤ 9) : 0 ≤ (0 : Int) ∧ ((0 : Int) + 1) * 10 ^ j.toNat ≤ 1000000000 := by
  refine ⟨Int.le_refl 0, ?_⟩
  rcases (show j = 0 ∨ j = 1 ∨ j = 2 ∨ j = 3 ∨ j = 4 ∨ j = 5 ∨ j = 6 ∨ j = 7 ∨ j = 8 ∨ j = 9 by omega) with rfl | rfl | rfl | rfl | rfl | rfl | rfl | rfl | rfl | rfl <;> decide
theorem wl_of_lan {n : Int} {so le ri ti : Int → Int} (hh : hOk n so le ri ti) {v : Int} (h : lanB n so v = true) : wlOk (rw v) := by
  have r := lanB_rng h
  have hn := hh.1
  refine ⟨?_, fun d hd => ?_⟩
  · rw [rw_len]
    exact ds_len 10 4 v (by omega)
  · have := of_decide_eq_true (lanB_mem h d (rw_mem.mp hd))
    omega
def ruS (so le ri ti : Int → Int) (lo n : Int) (st : Int → Int) (sz : Int) : Nat → Int → (Int → Int) → Int
  | 0, _, _ => -9
  | f + 1, j, su => if pk (goS so le ri ti lo sz 9 su (n - 1)).1 = pk st then j else ruS so le ri ti lo n st sz f (j + 1) (goS so le ri ti lo sz 9 su (n - 1)).1
theorem ruS_s {so le ri ti : Int → Int} {lo n : Int} {st su : Int → Int} {sz j : Int} (h : j < 501) : ruS so le ri ti lo n st sz (501 - j).toNat j su = if pk (goS so le ri ti lo sz 9 su (n - 1)).1 = pk st then j else ruS so le ri ti lo n st sz (501 - (j + 1)).toNat (j + 1) (goS so le ri ti lo sz 9 su (n - 1)).1 := by
  rw [show (501 - j).toNat = (501 - (j + 1)).toNat + 1 by omega]
  rfl
def q_round (so le ri ti : Int → Int) (lo n : Int) (st : Int → Int) (sz : Int) : Int := if sz = 0 ∨ sz = 1 then (if n = 0 then -2 else ruS so le ri ti lo n st sz 500 1 st) else -1
def apS (so le ri ti : Int → Int) (lo n : Int) (st : Int → Int) (v o : Int) : Nat → Int → Int
  | 0, _ => -9
  | f + 1, j => if rnC so le ri ti lo n st (mz v) j.toNat = rnC so le ri ti lo n st (mz o) j.toNat then apS so le ri ti lo n st v o f (j + 1) else j
theorem apS_s {so le ri ti : Int → Int} {lo n : Int} {st : Int → Int} {v o j : Int} {L : Nat} (h0 : 0 ≤ j) (h : j < (L : Int)) : apS so le ri ti lo n st v o (L - j.toNat) j = if rnC so le ri ti lo n st (mz v) j.toNat = rnC so le ri ti lo n st (mz o) j.toNat then apS so le ri ti lo n st v o (L - j.toNat - 1) (j + 1) else j := by
  rw [show L - j.toNat = (L - j.toNat - 1) + 1 by omega]
  rfl
def q_apart (so le ri ti : Int → Int) (lo n : Int) (st : Int → Int) (v o : Int) : Int := if rowB v = true ∧ rowB o = true ∧ (rw v).length = (rw o).length then (if n = 0 then -2 else apS so le ri ti lo n st v o (rw v).length 0) else -1
