/-! called: the sum over all codes is the count by recursion -/
theorem sF_add (g : Int → Int) (a : Nat) : ∀ b : Nat, sF g (a + b) = sF g a + sF (fun k => g ((a : Int) + k)) b
  | 0 => by show sF g a = sF g a + 0; omega
  | b + 1 => by
    show sF g (a + b) + g ((a + b : Nat) : Int) = sF g a + (sF (fun k => g ((a : Int) + k)) b + g ((a : Int) + (b : Int)))
    rw [sF_add g a b, show ((a + b : Nat) : Int) = (a : Int) + (b : Int) by omega]
    omega
theorem sF_two (g : Int → Int) : ∀ m : Nat, sF g (2 * m) = sF (fun c => g (2 * c)) m + sF (fun c => g (2 * c + 1)) m
  | 0 => rfl
  | m + 1 => by
    rw [show 2 * (m + 1) = 2 * m + 1 + 1 by omega]
    show sF g (2 * m) + g ((2 * m : Nat) : Int) + g ((2 * m + 1 : Nat) : Int) = (sF (fun c => g (2 * c)) m + g (2 * (m : Int))) + (sF (fun c => g (2 * c + 1)) m + g (2 * (m : Int) + 1))
    rw [sF_two g m, show ((2 * m : Nat) : Int) = 2 * (m : Int) by omega, show ((2 * m + 1 : Nat) : Int) = 2 * (m : Int) + 1 by omega]
    omega
theorem rnT_sh {so le ri ti : Int → Int} {lo n : Int} {st z : Int → Int} : ∀ i : Nat, rnT so le ri ti lo n st z (i + 1) = rnT so le ri ti lo n (goS so le ri ti lo (z 0) 9 st (n - 1)).1 (fun j => z (j + 1)) i
  | 0 => rfl
  | i + 1 => by
    show (goS so le ri ti lo (z ((i + 1 : Nat) : Int)) 9 (rnT so le ri ti lo n st z (i + 1)) (n - 1)).1 = (goS so le ri ti lo (z ((i : Int) + 1)) 9 (rnT so le ri ti lo n (goS so le ri ti lo (z 0) 9 st (n - 1)).1 (fun j => z (j + 1)) i) (n - 1)).1
    rw [rnT_sh i, show ((i + 1 : Nat) : Int) = (i : Int) + 1 by omega]
theorem btz_s {c d j : Int} (hd : d = 0 ∨ d = 1) (hj : 0 ≤ j) : btz (2 * c + d) (j + 1) = btz c j := by
  unfold btz
  have e : (2 * c + d) / 2 ^ (j.toNat + 1) = (2 * c + d) / 2 / 2 ^ j.toNat := by
    rw [Int.pow_succ, Int.mul_comm (2 ^ j.toNat) 2, Int.ediv_ediv_of_nonneg (by decide)]
  rw [show (j + 1).toNat = j.toNat + 1 by omega, e, show (2 * c + d) / 2 = c by omega]
theorem btz_0 {c d : Int} (hd : d = 0 ∨ d = 1) : btz (2 * c + d) 0 = d := by
  unfold btz
  show (2 * c + d) / 2 ^ 0 % 2 = d
  rw [Int.pow_zero, Int.ediv_one]
  omega
theorem cd_eq {so le ri ti : Int → Int} {lo n : Int} {sp : Int → Int} : ∀ (w : Nat) (st : Int → Int), sF (fun co => if pk (rnT so le ri ti lo n st (btz co) w) = pk sp then 1 else 0) (2 ^ w) = coS so le ri ti lo n sp w st
  | 0, st => by
    show (0 : Int) + (if pk st = pk sp then 1 else 0) = if pk st = pk sp then 1 else 0
    omega
  | w + 1, st => by
    rw [Nat.pow_succ, Nat.mul_comm, sF_two]
    show _ = coS so le ri ti lo n sp w (goS so le ri ti lo 0 9 st (n - 1)).1 + coS so le ri ti lo n sp w (goS so le ri ti lo 1 9 st (n - 1)).1
    rw [← cd_eq w, ← cd_eq w]
    have key : ∀ d : Int, (d = 0 ∨ d = 1) → ∀ c : Int, rnT so le ri ti lo n st (btz (2 * c + d)) (w + 1) = rnT so le ri ti lo n (goS so le ri ti lo d 9 st (n - 1)).1 (btz c) w := by
      intro d hd c
      rw [rnT_sh, btz_0 hd]
      exact rnT_z w (fun j h0 h1 => btz_s hd h0)
    congr 1
    · refine sF_c _ (fun c h0 h1 => ?_)
      have := key 0 (Or.inl rfl) c
      rw [show 2 * c + 0 = 2 * c by omega] at this
      show (if pk (rnT so le ri ti lo n st (btz (2 * c)) (w + 1)) = pk sp then (1 : Int) else 0) = _
      rw [this]
    · refine sF_c _ (fun c h0 h1 => ?_)
      show (if pk (rnT so le ri ti lo n st (btz (2 * c + 1)) (w + 1)) = pk sp then (1 : Int) else 0) = _
      rw [key 1 (Or.inr rfl) c]
theorem q_called_eq {so le ri ti : Int → Int} {lo n : Int} {st : Int → Int} {w : Int} : q_called so le ri ti lo n st w = q_calledM so le ri ti lo n st w := by
  unfold q_called q_calledM
  rw [← cd_eq w.toNat]
  rfl
/-! shortest: the first row by recursion is the first code -/
theorem fcS_r {P : Int → Bool} : ∀ (f : Nat) (c : Int), fcS P f c = -1 ∨ (c ≤ fcS P f c ∧ fcS P f c < c + f)
  | 0, _ => Or.inl rfl
  | f + 1, c => by
    show (if P c = true then c else fcS P f (c + 1)) = -1 ∨ (c ≤ (if P c = true then c else fcS P f (c + 1)) ∧ (if P c = true then c else fcS P f (c + 1)) < c + ((f + 1 : Nat) : Int))
    split
    · exact Or.inr ⟨by omega, by omega⟩
    · rcases fcS_r (P := P) f (c + 1) with h | h
      · exact Or.inl h
      · exact Or.inr ⟨by omega, by omega⟩
theorem fcS_add {P : Int → Bool} : ∀ (a b : Nat) (c : Int), 0 ≤ c → fcS P (a + b) c = if fcS P a c = -1 then fcS P b (c + a) else fcS P a c
  | 0, b, c, _ => by
    show fcS P (0 + b) c = if (-1 : Int) = -1 then fcS P b (c + ((0 : Nat) : Int)) else _
    rw [if_pos rfl, Nat.zero_add, show c + ((0 : Nat) : Int) = c by omega]
  | a + 1, b, c, h => by
    rw [show a + 1 + b = (a + b) + 1 by omega]
    show (if P c = true then c else fcS P (a + b) (c + 1)) = if (if P c = true then c else fcS P a (c + 1)) = -1 then fcS P b (c + ((a + 1 : Nat) : Int)) else (if P c = true then c else fcS P a (c + 1))
    by_cases z : P c = true
    · rw [if_pos z, if_pos z, if_neg (by omega)]
    · rw [if_neg z, if_neg z, fcS_add a b (c + 1) (by omega), show c + 1 + (a : Int) = c + ((a + 1 : Nat) : Int) by omega]
theorem fcS_c {P Q : Int → Bool} : ∀ (f : Nat) (c : Int), (∀ k : Int, c ≤ k → k < c + f → P k = Q k) → fcS P f c = fcS Q f c
  | 0, _, _ => rfl
  | f + 1, c, h => by
    show (if P c = true then c else fcS P f (c + 1)) = if Q c = true then c else fcS Q f (c + 1)
    rw [h c (by omega) (by omega), fcS_c f (c + 1) (fun k h0 h1 => h k (by omega) (by omega))]
theorem fcS_no {P : Int → Bool} : ∀ (f : Nat) (c : Int), 0 ≤ c → fcS P f c = -1 → ∀ k : Int, c ≤ k → k < c + f → P k = false
  | 0, c, _, _, k, h0, h1 => by omega
  | f + 1, c, hc, h, k, h0, h1 => by
    have h' : (if P c = true then c else fcS P f (c + 1)) = -1 := h
    by_cases z : P c = true
    · rw [if_pos z] at h'
      omega
    · rw [if_neg z] at h'
      by_cases y : k = c
      · rw [y]
        exact Bool.eq_false_iff.mpr z
      · exact fcS_no f (c + 1) (by omega) h' k (by omega) (by omega)
theorem fcS_f {P : Int → Bool} : ∀ (f : Nat) (c : Int), (∀ k : Int, c ≤ k → k < c + f → P k = false) → fcS P f c = -1
  | 0, _, _ => rfl
  | f + 1, c, h => by
    show (if P c = true then c else fcS P f (c + 1)) = -1
    rw [if_neg (by rw [h c (by omega) (by omega)]; exact Bool.false_ne_true), fcS_f f (c + 1) (fun k h0 h1 => h k (by omega) (by omega))]
theorem p2p (k : Nat) : (0 : Int) < 2 ^ k := Int.pow_pos (by decide)
/-- a code's k lowest bits alone matter -/
theorem bit_m {co co' : Int} {k j : Nat} (h : co % 2 ^ k = co' % 2 ^ k) (hj : j < k) : co / 2 ^ j % 2 = co' / 2 ^ j % 2 := by
  have e : (2 : Int) ^ k = 2 ^ j * 2 ^ (k - j) := by rw [← Int.pow_add]; congr 1; omega
  have e2 : (2 : Int) ^ (k - j) = 2 * 2 ^ (k - j - 1) := by
    rw [show k - j = (k - j - 1) + 1 by omega, Int.pow_succ, Int.mul_comm]
    rfl
  have key : ∀ x : Int, x / 2 ^ j % 2 = (x % 2 ^ k) / 2 ^ j % 2 := by
    intro x
    have h1 : x = x % 2 ^ k + 2 ^ j * (2 ^ (k - j) * (x / 2 ^ k)) := by
      have := Int.emod_add_mul_ediv x (2 ^ k)
      rw [← Int.mul_assoc, ← e]
      omega
    have h2 : x / 2 ^ j = x % 2 ^ k / 2 ^ j + 2 ^ (k - j) * (x / 2 ^ k) := by
      conv => lhs; rw [h1]
      rw [Int.add_mul_ediv_left _ _ (by have := p2p j; omega)]
    rw [h2, e2, Int.mul_assoc]
    omega
  rw [key co, key co', h]
theorem mod_le {co co' : Int} {k j : Nat} (h : co % 2 ^ k = co' % 2 ^ k) (hj : j ≤ k) : co % 2 ^ j = co' % 2 ^ j := by
  have e : (2 : Int) ^ k = 2 ^ j * 2 ^ (k - j) := by rw [← Int.pow_add]; congr 1; omega
  have h1 : co % 2 ^ k % 2 ^ j = co' % 2 ^ k % 2 ^ j := by rw [h]
  rw [e, Int.emod_emod_of_dvd _ ⟨_, rfl⟩, Int.emod_emod_of_dvd _ ⟨_, rfl⟩] at h1
  exact h1
theorem mtB_m {so le ri ti : Int → Int} {lo n : Int} {co co' : Int} : ∀ (k : Nat) (st : Int → Int) (wl : List Int), co % 2 ^ k = co' % 2 ^ k → mtB so le ri ti lo n co k st wl = mtB so le ri ti lo n co' k st wl
  | 0, _, _, _ => rfl
  | k + 1, st, wl, h => by
    have hk := mod_le h (Nat.le_succ k)
    rw [mtB_s, mtB_s, bit_m h (Nat.lt_succ_self k), mtB_m k _ _ hk, mtB_m k _ _ hk]
theorem mtB_l {so le ri ti : Int → Int} {lo n : Int} {co : Int} (hn : 1 ≤ n) (hh : hOk n so le ri ti) : ∀ (k : Nat) (st : Int → Int) (wl : List Int), mtB so le ri ti lo n co k st wl = true → wl.length ≤ k
  | 0, _, wl, h => by
    have := of_decide_eq_true h
    rw [this]
    exact Nat.le_refl 0
  | k + 1, st, wl, h => by
    rw [mtB_s] at h
    split at h
    · have := mtB_l hn hh k _ _ h
      omega
    · split at h
      · have := mtB_l hn hh k _ _ h
        rw [List.length_tail] at this
        omega
      · cases h
/-- no shorter row brings it -/
def noS (so le ri ti : Int → Int) (lo n : Int) (k : Nat) (st : Int → Int) (wl : List Int) : Prop := ∀ j : Nat, j < k → ∀ co : Int, mtB so le ri ti lo n co j st wl = false
theorem bit_mk {x z : Int} {j : Nat} (hz : z = 0 ∨ z = 1) : (x % 2 ^ j + 2 ^ j * z) / 2 ^ j % 2 = z ∧ (x % 2 ^ j + 2 ^ j * z) % 2 ^ j = x % 2 ^ j := by
  have hp := p2p j
  have h1 := Int.emod_nonneg x (show (2 : Int) ^ j ≠ 0 by omega)
  have h2 := Int.emod_lt_of_pos x hp
  rw [Int.add_mul_ediv_left _ _ (by omega), Int.ediv_eq_zero_of_lt h1 h2, Int.add_mul_emod_self_left, Int.emod_emod_of_dvd _ (Int.dvd_refl _)]
  omega
theorem noS_n {so le ri ti : Int → Int} {lo n : Int} {k : Nat} {st : Int → Int} {wl : List Int} (h : noS so le ri ti lo n (k + 1) st wl) {z : Int} (hz : z = 0 ∨ z = 1) (h9 : (goS so le ri ti lo z 9 st (n - 1)).2 = -9) : noS so le ri ti lo n k (goS so le ri ti lo z 9 st (n - 1)).1 wl := by
  intro j hj co
  obtain ⟨b1, b2⟩ := bit_mk (x := co) (j := j) hz
  have := h (j + 1) (by omega) (co % 2 ^ j + 2 ^ j * z)
  rw [mtB_s, b1, if_pos h9] at this
  rw [← this]
  exact mtB_m j _ _ b2.symm
theorem noS_t {so le ri ti : Int → Int} {lo n : Int} {k : Nat} {st : Int → Int} {wl : List Int} (h : noS so le ri ti lo n (k + 1) st wl) {z : Int} (hz : z = 0 ∨ z = 1) (h9 : (goS so le ri ti lo z 9 st (n - 1)).2 ≠ -9) (hw : wl.headD 0 = (goS so le ri ti lo z 9 st (n - 1)).2 + 1) : noS so le ri ti lo n k (goS so le ri ti lo z 9 st (n - 1)).1 wl.tail := by
  intro j hj co
  obtain ⟨b1, b2⟩ := bit_mk (x := co) (j := j) hz
  have := h (j + 1) (by omega) (co % 2 ^ j + 2 ^ j * z)
  rw [mtB_s, b1, if_neg h9, if_pos hw] at this
  rw [← this]
  exact mtB_m j _ _ b2.symm
theorem rvD_n {co : Int} : ∀ (k : Nat) (ac : Int), 0 ≤ ac → 0 ≤ rvD co k ac
  | 0, ac, h => h
  | k + 1, ac, h => by
    have : 0 ≤ co / 2 ^ k % 2 := Int.emod_nonneg _ (by decide)
    exact rvD_n k _ (by omega)
theorem bit_lo {k : Nat} {m t : Int} (h0 : 0 ≤ t) (h1 : t < 2 ^ k) : (2 ^ (k + 1) * m + t) / 2 ^ k % 2 = 0 := by
  rw [Int.pow_succ, Int.mul_assoc, Int.add_comm, Int.add_mul_ediv_left _ _ (by have := p2p k; omega), Int.ediv_eq_zero_of_lt h0 h1]
  omega
theorem bit_hi {k : Nat} {m t : Int} (h0 : 0 ≤ t) (h1 : t < 2 ^ k) : (2 ^ (k + 1) * m + 2 ^ k + t) / 2 ^ k % 2 = 1 := by
  have e : (2 : Int) ^ (k + 1) * m + 2 ^ k + t = t + 2 ^ k * (2 * m + 1) := by
    rw [Int.pow_succ, Int.mul_add, Int.mul_assoc, Int.mul_one]
    omega
  rw [e, Int.add_mul_ediv_left _ _ (by have := p2p k; omega), Int.ediv_eq_zero_of_lt h0 h1]
  omega
theorem ro_eq {so le ri ti : Int → Int} {lo n : Int} (hh : hOk n so le ri ti) (hn1 : 1 ≤ n) : ∀ (k : Nat) (st : Int → Int) (wl : List Int) (rr m : Int), 0 ≤ rr → 0 ≤ m → noS so le ri ti lo n k st wl →
    roS so le ri ti lo n k st wl rr = if fcS (fun co => mtB so le ri ti lo n co k st wl) (2 ^ k) (2 ^ k * m) = -1 then -9 else rvD (fcS (fun co => mtB so le ri ti lo n co k st wl) (2 ^ k) (2 ^ k * m)) k rr
  | 0, st, wl, rr, m, hr, hm, _ => by
    show (if wl = [] then rr else -9) = if (if decide (wl = []) = true then (2 : Int) ^ 0 * m else -1) = -1 then -9 else rr
    by_cases z : wl = []
    · rw [if_pos z, if_pos (decide_eq_true z), if_neg (by rw [Int.pow_zero]; omega)]
    · have e : (if decide (wl = []) = true then (2 : Int) ^ 0 * m else -1) = -1 := by
        rw [decide_eq_false z]
        rfl
      rw [if_neg z, e, if_pos rfl]
  | k + 1, st, wl, rr, m, hr, hm, hno => by
    have hp := p2p k
    have hpm : (0 : Int) ≤ 2 ^ k * (2 * m) := Int.mul_nonneg (by omega) (by omega)
    have hw0 : wl ≠ [] := fun z => by
      have := hno 0 (by omega) 0
      rw [show mtB so le ri ti lo n 0 0 st wl = decide (wl = []) from rfl, decide_eq_true z] at this
      cases this
    have e0 : (2 : Int) ^ (k + 1) * m = 2 ^ k * (2 * m) := by rw [Int.pow_succ, Int.mul_assoc]
    have e1 : (2 : Int) ^ k * (2 * m) + 2 ^ k = 2 ^ k * (2 * m + 1) := by rw [Int.mul_add, Int.mul_one]
    have eN : (2 : Nat) ^ (k + 1) = 2 ^ k + 2 ^ k := by rw [Nat.pow_succ]; omega
    have eC : (((2 ^ k : Nat)) : Int) = 2 ^ k := by simp
    by_cases hlen : k + 1 < wl.length
    · have hf : fcS (fun co => mtB so le ri ti lo n co (k + 1) st wl) (2 ^ (k + 1)) (2 ^ (k + 1) * m) = -1 := fcS_f _ _ (fun co _ _ => by
        cases h : mtB so le ri ti lo n co (k + 1) st wl with
        | false => rfl
        | true => have := mtB_l hn1 hh (k + 1) st wl h; omega)
      rw [hf, if_pos rfl]
      show (if wl = [] ∨ k + 1 < wl.length then (-9 : Int) else _) = -9
      rw [if_pos (Or.inr hlen)]
    · have hU : ∀ z : Int, (z = 0 ∨ z = 1) → ∀ m' : Int, 0 ≤ m' → (∀ t : Int, 0 ≤ t → t < 2 ^ k → (2 ^ k * m' + t) / 2 ^ k % 2 = z) → roU so le ri ti lo n (roS so le ri ti lo n k) st wl rr z = if fcS (fun co => mtB so le ri ti lo n co (k + 1) st wl) (2 ^ k) (2 ^ k * m') = -1 then -9 else rvD (fcS (fun co => mtB so le ri ti lo n co (k + 1) st wl) (2 ^ k) (2 ^ k * m')) (k + 1) rr := by
        intro z hz m' hm' hb
        have hbk : ∀ co : Int, 2 ^ k * m' ≤ co → co < 2 ^ k * m' + ((2 ^ k : Nat) : Int) → co / 2 ^ k % 2 = z := fun co h0 h1 => by
          have := hb (co - 2 ^ k * m') (by omega) (by rw [eC] at h1; omega)
          rw [show 2 ^ k * m' + (co - 2 ^ k * m') = co by omega] at this
          exact this
        have hrv : ∀ Q : Int → Bool, fcS Q (2 ^ k) (2 ^ k * m') ≠ -1 → rvD (fcS Q (2 ^ k) (2 ^ k * m')) (k + 1) rr = rvD (fcS Q (2 ^ k) (2 ^ k * m')) k (rr * 10 + z + 1) := fun Q hQ => by
          rcases fcS_r (P := Q) (2 ^ k) (2 ^ k * m') with q | q
          · exact absurd q hQ
          · show rvD _ k (10 * rr + 1 + fcS Q (2 ^ k) (2 ^ k * m') / 2 ^ k % 2) = _
            rw [hbk _ q.1 q.2]
            congr 1
            omega
        by_cases h9 : (goS so le ri ti lo z 9 st (n - 1)).2 = -9
        · have hc : fcS (fun co => mtB so le ri ti lo n co (k + 1) st wl) (2 ^ k) (2 ^ k * m') = fcS (fun co => mtB so le ri ti lo n co k (goS so le ri ti lo z 9 st (n - 1)).1 wl) (2 ^ k) (2 ^ k * m') := fcS_c _ _ (fun co h0 h1 => by
            show mtB so le ri ti lo n co (k + 1) st wl = _
            rw [mtB_s, hbk co h0 h1, if_pos h9])
          unfold roU
          rw [if_pos h9, hc, ro_eq hh hn1 k _ wl (rr * 10 + z + 1) m' (by omega) hm' (noS_n hno hz h9)]
          split
          · rfl
          · rename_i y
            rw [hrv _ y]
        · by_cases hw : wl.headD 0 = (goS so le ri ti lo z 9 st (n - 1)).2 + 1
          · have hc : fcS (fun co => mtB so le ri ti lo n co (k + 1) st wl) (2 ^ k) (2 ^ k * m') = fcS (fun co => mtB so le ri ti lo n co k (goS so le ri ti lo z 9 st (n - 1)).1 wl.tail) (2 ^ k) (2 ^ k * m') := fcS_c _ _ (fun co h0 h1 => by
              show mtB so le ri ti lo n co (k + 1) st wl = _
              rw [mtB_s, hbk co h0 h1, if_neg h9, if_pos hw])
            unfold roU
            rw [if_neg h9, if_pos (by omega), hc, ro_eq hh hn1 k _ wl.tail (rr * 10 + z + 1) m' (by omega) hm' (noS_t hno hz h9 hw)]
            split
            · rfl
            · rename_i y
              rw [hrv _ y]
          · have hc : fcS (fun co => mtB so le ri ti lo n co (k + 1) st wl) (2 ^ k) (2 ^ k * m') = -1 := fcS_f _ _ (fun co h0 h1 => by
              show mtB so le ri ti lo n co (k + 1) st wl = false
              rw [mtB_s, hbk co h0 h1, if_neg h9, if_neg hw])
            unfold roU
            rw [if_neg h9, if_neg (by omega), hc, if_pos rfl]
      have u0 := hU 0 (Or.inl rfl) (2 * m) (by omega) (fun t h0 h1 => by rw [← e0]; exact bit_lo h0 h1)
      have u1 := hU 1 (Or.inr rfl) (2 * m + 1) (by omega) (fun t h0 h1 => by rw [← e1, ← e0]; exact bit_hi h0 h1)
      have hs := fcS_add (P := fun co => mtB so le ri ti lo n co (k + 1) st wl) (2 ^ k) (2 ^ k) (2 ^ k * (2 * m)) hpm
      rw [eC, e1] at hs
      show (if wl = [] ∨ k + 1 < wl.length then (-9 : Int) else if roU so le ri ti lo n (roS so le ri ti lo n k) st wl rr 0 = -9 then roU so le ri ti lo n (roS so le ri ti lo n k) st wl rr 1 else roU so le ri ti lo n (roS so le ri ti lo n k) st wl rr 0) = _
      rw [if_neg (fun q => by rcases q with q | q; exact hw0 q; exact hlen q), e0, eN, hs, u0, u1]
      by_cases f0 : fcS (fun co => mtB so le ri ti lo n co (k + 1) st wl) (2 ^ k) (2 ^ k * (2 * m)) = -1
      · rw [if_pos f0, if_pos rfl, if_pos f0]
      · have hv := rvD_n (co := fcS (fun co => mtB so le ri ti lo n co (k + 1) st wl) (2 ^ k) (2 ^ k * (2 * m))) (k + 1) rr hr
        rw [if_neg f0, if_neg (by omega), if_neg f0, if_neg f0]
theorem sh_eq {so le ri ti : Int → Int} {lo n : Int} (hh : hOk n so le ri ti) (hn1 : 1 ≤ n) (st : Int → Int) (wl : List Int) : ∀ (f : Nat) (w : Int), 0 ≤ w → noS so le ri ti lo n w.toNat st wl → shS so le ri ti lo n st wl f w = shM so le ri ti lo n st wl f w
  | 0, _, _, _ => rfl
  | f + 1, w, hw, hno => by
    have e := ro_eq hh hn1 (lo := lo) w.toNat st wl 0 0 (Int.le_refl 0) (Int.le_refl 0) hno
    rw [Int.mul_zero] at e
    rw [shM_s]
    show (if roS so le ri ti lo n w.toNat st wl 0 = -9 then shS so le ri ti lo n st wl f (w + 1) else roS so le ri ti lo n w.toNat st wl 0) = _
    rw [e]
    by_cases z : fcS (fun c0 => mtB so le ri ti lo n c0 w.toNat st wl) (2 ^ w.toNat) 0 = -1
    · rw [if_pos z, if_pos rfl, if_pos z]
      refine sh_eq hh hn1 st wl f (w + 1) (by omega) (fun j hj co => ?_)
      by_cases y : j < w.toNat
      · exact hno j y co
      · have ej : j = w.toNat := by omega
        rw [ej]
        have hp := p2p w.toNat
        have hN := fcS_no _ 0 (Int.le_refl 0) z (co % 2 ^ w.toNat) (Int.emod_nonneg _ (by omega)) (by
          have := Int.emod_lt_of_pos co hp
          have eC : (((2 ^ w.toNat : Nat)) : Int) = 2 ^ w.toNat := by simp
          rw [eC]
          omega)
        rw [← hN]
        exact mtB_m _ _ _ (by rw [Int.emod_emod_of_dvd _ (Int.dvd_refl _)])
    · have hv := rvD_n (co := fcS (fun c0 => mtB so le ri ti lo n c0 w.toNat st wl) (2 ^ w.toNat) 0) w.toNat 0 (Int.le_refl 0)
      rw [if_neg z, if_neg (by omega), if_neg z]
theorem q_short_eq {so le ri ti : Int → Int} {lo n : Int} (hh : hOk n so le ri ti) {st : Int → Int} {v : Int} : q_short so le ri ti lo n st v = q_shortM so le ri ti lo n st v := by
  have hn := hh.1
  unfold q_short q_shortM
  by_cases z : n = 0
  · rw [if_pos z, if_pos z]
  · rw [if_neg z, if_neg z, sh_eq hh (by omega) st (rw v) 10 0 (Int.le_refl 0) (fun j hj => by omega)]
