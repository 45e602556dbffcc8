/-! the answers look at the parts of the house alone -/
def hG (so le ri ti so' le' ri' ti' : Int → Int) (n : Int) : Prop := ∀ (lod sz : Int) (st : Int → Int), goS so le ri ti lod sz 9 st (n - 1) = goS so' le' ri' ti' lod sz 9 st (n - 1)
def hAg (so le ri ti so' le' ri' ti' : Int → Int) (n : Int) : Prop := ∀ k : Int, 0 ≤ k → k < n → so k = so' k ∧ le k = le' k ∧ ri k = ri' k ∧ ti k = ti' k
theorem hG_of {so le ri ti so' le' ri' ti' : Int → Int} {n : Int} (hh : hOk n so le ri ti) (h : hAg so le ri ti so' le' ri' ti' n) (h1 : 1 ≤ n) : hG so le ri ti so' le' ri' ti' n := fun lod sz st => goS_cong hh h lod sz 9 st (n - 1) (by omega) (by omega)
theorem hOk_of {so le ri ti so' le' ri' ti' : Int → Int} {n : Int} (hh : hOk n so le ri ti) (h : hAg so le ri ti so' le' ri' ti' n) : hOk n so' le' ri' ti' := by
  refine ⟨hh.1, fun k h0 h1 => ?_⟩
  obtain ⟨e1, e2, e3, e4⟩ := h k h0 h1
  rw [← e1, ← e2, ← e3, ← e4]
  exact hh.2 k h0 h1
theorem sOk_of {so le ri ti so' le' ri' ti' st : Int → Int} {n : Int} (h : hAg so le ri ti so' le' ri' ti' n) (hs : sOk n so ti st) : sOk n so' ti' st := by
  intro k h0 h1
  obtain ⟨a, b, c⟩ := hs k h0 h1
  refine ⟨a, fun hk => ?_, c⟩
  obtain ⟨e1, e2, e3, e4⟩ := h k h0 hk
  rw [← e1, ← e4]
  exact b hk
theorem rnT_h {so le ri ti so' le' ri' ti' : Int → Int} {n : Int} (h : hG so le ri ti so' le' ri' ti' n) (lo : Int) (st z : Int → Int) : ∀ i : Nat, rnT so le ri ti lo n st z i = rnT so' le' ri' ti' lo n st z i
  | 0 => rfl
  | i + 1 => by
    show (goS so le ri ti lo (z (i : Int)) 9 (rnT so le ri ti lo n st z i) (n - 1)).1 = (goS so' le' ri' ti' lo (z (i : Int)) 9 (rnT so' le' ri' ti' lo n st z i) (n - 1)).1
    rw [rnT_h h lo st z i, h]
theorem rnC_h {so le ri ti so' le' ri' ti' : Int → Int} {n : Int} (h : hG so le ri ti so' le' ri' ti' n) (lo : Int) (st z : Int → Int) (i : Nat) : rnC so le ri ti lo n st z i = rnC so' le' ri' ti' lo n st z i := by
  unfold rnC
  rw [rnT_h h, h]
theorem ruS_h {so le ri ti so' le' ri' ti' : Int → Int} {n : Int} (h : hG so le ri ti so' le' ri' ti' n) (lo : Int) (st : Int → Int) (sz : Int) : ∀ (f : Nat) (j : Int) (su : Int → Int), ruS so le ri ti lo n st sz f j su = ruS so' le' ri' ti' lo n st sz f j su
  | 0, _, _ => rfl
  | f + 1, j, su => by
    show (if pk (goS so le ri ti lo sz 9 su (n - 1)).1 = pk st then j else ruS so le ri ti lo n st sz f (j + 1) (goS so le ri ti lo sz 9 su (n - 1)).1) = if pk (goS so' le' ri' ti' lo sz 9 su (n - 1)).1 = pk st then j else ruS so' le' ri' ti' lo n st sz f (j + 1) (goS so' le' ri' ti' lo sz 9 su (n - 1)).1
    rw [h, ruS_h h]
theorem apS_h {so le ri ti so' le' ri' ti' : Int → Int} {n : Int} (h : hG so le ri ti so' le' ri' ti' n) (lo : Int) (st : Int → Int) (v o : Int) : ∀ (f : Nat) (j : Int), apS so le ri ti lo n st v o f j = apS so' le' ri' ti' lo n st v o f j
  | 0, _ => rfl
  | f + 1, j => by
    show (if rnC so le ri ti lo n st (mz v) j.toNat = rnC so le ri ti lo n st (mz o) j.toNat then apS so le ri ti lo n st v o f (j + 1) else j) = if rnC so' le' ri' ti' lo n st (mz v) j.toNat = rnC so' le' ri' ti' lo n st (mz o) j.toNat then apS so' le' ri' ti' lo n st v o f (j + 1) else j
    rw [rnC_h h, rnC_h h, apS_h h]
theorem bfS_h {so le ri ti so' le' ri' ti' : Int → Int} {n : Int} (h : hG so le ri ti so' le' ri' ti' n) (lo : Int) : ∀ (f i : Nat) (Ls : List (Int → Int)), bfS so le ri ti lo n f i Ls = bfS so' le' ri' ti' lo n f i Ls
  | 0, _, _ => rfl
  | f + 1, i, Ls => by
    show (if i < Ls.length then bfS so le ri ti lo n f (i + 1) (adB (adB Ls (goS so le ri ti lo 0 9 (lg Ls (i : Int)) (n - 1)).1) (goS so le ri ti lo 1 9 (lg Ls (i : Int)) (n - 1)).1) else (Ls.length : Int)) = if i < Ls.length then bfS so' le' ri' ti' lo n f (i + 1) (adB (adB Ls (goS so' le' ri' ti' lo 0 9 (lg Ls (i : Int)) (n - 1)).1) (goS so' le' ri' ti' lo 1 9 (lg Ls (i : Int)) (n - 1)).1) else (Ls.length : Int)
    rw [h, h, bfS_h h]
theorem trT_h {so le ri ti so' le' ri' ti' : Int → Int} {n : Int} (h : hG so le ri ti so' le' ri' ti' n) (lod : Int) (ts : Int → Int) : ∀ i : Nat, trT so le ri ti lod n ts i = trT so' le' ri' ti' lod n ts i
  | 0 => rfl
  | i + 1 => by
    show (goS so le ri ti lod (ts (i : Int)) 9 (trT so le ri ti lod n ts i) (n - 1)).1 = (goS so' le' ri' ti' lod (ts (i : Int)) 9 (trT so' le' ri' ti' lod n ts i) (n - 1)).1
    rw [trT_h h, h]
theorem trK_h {so le ri ti so' le' ri' ti' : Int → Int} {n : Int} (h : hG so le ri ti so' le' ri' ti' n) (lod : Int) (ts tc : Int → Int) : ∀ i : Nat, trK so le ri ti lod n ts tc i = trK so' le' ri' ti' lod n ts tc i
  | 0 => rfl
  | i + 1 => by
    show (trK so le ri ti lod n ts tc i && decide ((goS so le ri ti lod (ts (i : Int)) 9 (trT so le ri ti lod n ts i) (n - 1)).2 = tc (i : Int))) = (trK so' le' ri' ti' lod n ts tc i && decide ((goS so' le' ri' ti' lod (ts (i : Int)) 9 (trT so' le' ri' ti' lod n ts i) (n - 1)).2 = tc (i : Int)))
    rw [trK_h h, trT_h h, h]
theorem okB_h {so le ri ti so' le' ri' ti' : Int → Int} {n : Int} (h : hG so le ri ti so' le' ri' ti' n) (ts tc : Int → Int) (tn : Int) : okB so le ri ti n ts tc tn = okB so' le' ri' ti' n ts tc tn := by
  funext b
  unfold okB
  rw [trK_h h]
theorem gwS_h {so le ri ti so' le' ri' ti' : Int → Int} {n : Int} (h : hG so le ri ti so' le' ri' ti' n) (ts tc : Int → Int) (tn sz : Int) : ∀ k : Nat, gwS so le ri ti n ts tc tn sz k = gwS so' le' ri' ti' n ts tc tn sz k
  | 0 => rfl
  | k + 1 => by
    have e1 := gwS_s (so := so) (le := le) (ri := ri) (ti := ti) (n := n) (ts := ts) (tc := tc) (tn := tn) (sz := sz) (b := (k : Int)) (by omega)
    have e2 := gwS_s (so := so') (le := le') (ri := ri') (ti := ti') (n := n) (ts := ts) (tc := tc) (tn := tn) (sz := sz) (b := (k : Int)) (by omega)
    rw [show ((k : Int) + 1).toNat = k + 1 by omega, show ((k : Int)).toNat = k by omega] at e1 e2
    rw [e1, e2, gwS_h h ts tc tn sz k, okB_h h, trT_h h, h]
theorem q_brings_h {so le ri ti so' le' ri' ti' : Int → Int} {n : Int} (hh : hOk n so le ri ti) (h : hAg so le ri ti so' le' ri' ti' n) {lo : Int} {st : Int → Int} {v i : Int} : q_brings so le ri ti lo n st v i = q_brings so' le' ri' ti' lo n st v i := by
  have hn := hh.1
  unfold q_brings
  by_cases z : n = 0
  · rw [if_pos z, if_pos z]
  · rw [if_neg z, if_neg z, rnC_h (hG_of hh h (by omega))]
theorem q_round_h {so le ri ti so' le' ri' ti' : Int → Int} {n : Int} (hh : hOk n so le ri ti) (h : hAg so le ri ti so' le' ri' ti' n) {lo : Int} {st : Int → Int} {sz : Int} : q_round so le ri ti lo n st sz = q_round so' le' ri' ti' lo n st sz := by
  have hn := hh.1
  unfold q_round
  by_cases z : n = 0
  · rw [if_pos z, if_pos z]
  · rw [if_neg z, if_neg z, ruS_h (hG_of hh h (by omega))]
theorem q_apart_h {so le ri ti so' le' ri' ti' : Int → Int} {n : Int} (hh : hOk n so le ri ti) (h : hAg so le ri ti so' le' ri' ti' n) {lo : Int} {st : Int → Int} {v o : Int} : q_apart so le ri ti lo n st v o = q_apart so' le' ri' ti' lo n st v o := by
  have hn := hh.1
  unfold q_apart
  by_cases z : n = 0
  · rw [if_pos z, if_pos z]
  · rw [if_neg z, if_neg z, apS_h (hG_of hh h (by omega))]
theorem q_stand_h {so le ri ti so' le' ri' ti' : Int → Int} {n : Int} (hh : hOk n so le ri ti) (h : hAg so le ri ti so' le' ri' ti' n) {lo : Int} {st : Int → Int} : q_stand so le ri ti lo n st = q_stand so' le' ri' ti' lo n st := by
  have hn := hh.1
  unfold q_stand
  by_cases z : n = 0
  · rw [if_pos z, if_pos z]
  · rw [if_neg z, if_neg z, bfS_h (hG_of hh h (by omega))]
theorem q_lodges_h {so le ri ti so' le' ri' ti' : Int → Int} {n : Int} (hh : hOk n so le ri ti) (h : hAg so le ri ti so' le' ri' ti' n) {ts tc : Int → Int} {tn : Int} : q_lodges so le ri ti n ts tc tn = q_lodges so' le' ri' ti' n ts tc tn := by
  have hn := hh.1
  unfold q_lodges
  by_cases z : n = 0
  · rw [if_pos z, if_pos z]
  · rw [if_neg z, if_neg z, okB_h (hG_of hh h (by omega))]
theorem q_trial_h {so le ri ti so' le' ri' ti' : Int → Int} {n : Int} (hh : hOk n so le ri ti) (h : hAg so le ri ti so' le' ri' ti' n) {ts tc : Int → Int} {tn w : Int} : q_trial so le ri ti n ts tc tn w = q_trial so' le' ri' ti' n ts tc tn w := by
  have hn := hh.1
  unfold q_trial
  by_cases z : n = 0
  · rw [if_pos z, if_pos z]
  · rw [if_neg z, if_neg z, gwS_h (hG_of hh h (by omega)), gwS_h (hG_of hh h (by omega))]
theorem lanB_h {so le ri ti so' le' ri' ti' : Int → Int} {n : Int} (h : hAg so le ri ti so' le' ri' ti' n) (v : Int) : lanB n so v = lanB n so' v := by
  have e : lanD n so = lanD n so' := by
    funext d
    unfold lanD
    by_cases z : 0 ≤ d - 1 ∧ d - 1 < n
    · rw [(h (d - 1) z.1 z.2).1]
    · rw [decide_eq_false (fun q => z q.1), decide_eq_false (fun q => z q.1)]
  unfold lanB
  rw [e]
theorem mtB_h {so le ri ti so' le' ri' ti' : Int → Int} {n : Int} (h : hG so le ri ti so' le' ri' ti' n) (lo co : Int) : ∀ (k : Nat) (st : Int → Int) (wl : List Int), mtB so le ri ti lo n co k st wl = mtB so' le' ri' ti' lo n co k st wl
  | 0, _, _ => rfl
  | k + 1, st, wl => by
    rw [mtB_s, mtB_s, h, mtB_h h lo co k, mtB_h h lo co k]
theorem shM_h {so le ri ti so' le' ri' ti' : Int → Int} {n : Int} (h : hG so le ri ti so' le' ri' ti' n) (lo : Int) (st : Int → Int) (wl : List Int) : ∀ (f : Nat) (w : Int), shM so le ri ti lo n st wl f w = shM so' le' ri' ti' lo n st wl f w
  | 0, _ => rfl
  | f + 1, w => by
    have e : (fun c0 => mtB so le ri ti lo n c0 w.toNat st wl) = fun c0 => mtB so' le' ri' ti' lo n c0 w.toNat st wl := by
      funext c0
      exact mtB_h h lo c0 _ st wl
    rw [shM_s, shM_s, e, shM_h h lo st wl f]
theorem q_shortM_h {so le ri ti so' le' ri' ti' : Int → Int} {n : Int} (hh : hOk n so le ri ti) (h : hAg so le ri ti so' le' ri' ti' n) {lo : Int} {st : Int → Int} {v : Int} : q_shortM so le ri ti lo n st v = q_shortM so' le' ri' ti' lo n st v := by
  have hn := hh.1
  unfold q_shortM
  rw [lanB_h h]
  by_cases z : n = 0
  · rw [if_pos z, if_pos z]
  · rw [if_neg z, if_neg z, shM_h (hG_of hh h (by omega))]
theorem cdF_h {so le ri ti so' le' ri' ti' : Int → Int} {n : Int} (h : hG so le ri ti so' le' ri' ti' n) (lo : Int) (st : Int → Int) (w : Int) : cdF so le ri ti lo n st w = cdF so' le' ri' ti' lo n st w := by
  funext co
  unfold cdF
  rw [rnT_h h]
theorem q_calledM_h {so le ri ti so' le' ri' ti' : Int → Int} {n : Int} (hh : hOk n so le ri ti) (h : hAg so le ri ti so' le' ri' ti' n) {lo : Int} {st : Int → Int} {w : Int} : q_calledM so le ri ti lo n st w = q_calledM so' le' ri' ti' lo n st w := by
  have hn := hh.1
  unfold q_calledM
  by_cases z : n = 0
  · rw [if_pos z, if_pos z]
  · rw [if_neg z, if_neg z, cdF_h (hG_of hh h (by omega))]
theorem q_part_h {so le ri ti so' le' ri' ti' : Int → Int} {n : Int} (h : hAg so le ri ti so' le' ri' ti' n) {st al : Int → Int} {k w : Int} : q_part n so le ri ti st al k w = q_part n so' le' ri' ti' st al k w := by
  unfold q_part
  by_cases z : 0 ≤ k ∧ k < n
  · obtain ⟨e1, e2, e3, e4⟩ := h k z.1 z.2
    rw [if_pos z, if_pos z, e1, e2, e3, e4]
  · rw [if_neg z, if_neg z]
theorem q_triN_h {so le ri ti so' le' ri' ti' : Int → Int} {n : Int} (h : hAg so le ri ti so' le' ri' ti' n) {tn sz cm : Int} : q_triN n so tn sz cm = q_triN n so' tn sz cm := by
  unfold q_triN
  refine z_ifc ?_
  by_cases z : 0 ≤ cm ∧ cm < n
  · rw [(h cm z.1 z.2).1]
  · constructor
    · intro q; exact ⟨q.1, by rcases q.2 with y | y; exact Or.inl y; exact absurd y.1 z⟩
    · intro q; exact ⟨q.1, by rcases q.2 with y | y; exact Or.inl y; exact absurd y.1 z⟩
theorem tri_iff {so le ri ti so' le' ri' ti' : Int → Int} {n : Int} (h : hAg so le ri ti so' le' ri' ti' n) {sz cm tn : Int} (q : ((sz = 0 ∨ sz = 1) ∧ (cm = -9 ∨ ((0 ≤ cm ∧ cm < n) ∧ so cm = 0))) ∧ tn < 9) : ((sz = 0 ∨ sz = 1) ∧ (cm = -9 ∨ ((0 ≤ cm ∧ cm < n) ∧ so' cm = 0))) ∧ tn < 9 := by
  refine ⟨⟨q.1.1, ?_⟩, q.2⟩
  rcases q.1.2 with y | y
  · exact Or.inl y
  · exact Or.inr ⟨y.1, by rw [← (h cm y.1.1 y.1.2).1]; exact y.2⟩
theorem hAg_s {so le ri ti so' le' ri' ti' : Int → Int} {n : Int} (h : hAg so le ri ti so' le' ri' ti' n) : hAg so' le' ri' ti' so le ri ti n := fun k h0 h1 => by
  obtain ⟨e1, e2, e3, e4⟩ := h k h0 h1
  exact ⟨e1.symm, e2.symm, e3.symm, e4.symm⟩
theorem gL_h {so le ri ti so' le' ri' ti' : Int → Int} {n : Int} (h : hAg so le ri ti so' le' ri' ti' n) (hn : 0 ≤ n) : sF (gL so) n.toNat = sF (gL so') n.toNat := sF_c _ (fun k h0 h1 => by
  unfold gL
  rw [(h k h0 (by omega)).1])
theorem gC_h {so le ri ti so' le' ri' ti' : Int → Int} {n : Int} (h : hAg so le ri ti so' le' ri' ti' n) (hn : 0 ≤ n) (st : Int → Int) : sF (gC so st) n.toNat = sF (gC so' st) n.toNat := sF_c _ (fun k h0 h1 => by
  unfold gC
  rw [(h k h0 (by omega)).1])
theorem q_count_h {so le ri ti so' le' ri' ti' : Int → Int} {n : Int} (h : hAg so le ri ti so' le' ri' ti' n) (hn : 0 ≤ n) {tn kn ln w : Int} : q_count n so tn kn ln w = q_count n so' tn kn ln w := by
  unfold q_count
  rw [gL_h h hn]
theorem sF_z {g : Int → Int} {n : Int} (hn : 0 ≤ n ∧ n ≤ 9) (h : ∀ k : Int, n ≤ k → k < 9 → g k = 0) : sF g 9 = sF g n.toNat := by
  have key : ∀ j : Nat, n.toNat + j ≤ 9 → sF g (n.toNat + j) = sF g n.toNat := by
    intro j
    induction j with
    | zero => intro _; rfl
    | succ j ih =>
      intro hj
      show sF g (n.toNat + j) + g ((n.toNat + j : Nat) : Int) = _
      rw [ih (by omega), h _ (by omega) (by omega)]
      omega
  have := key (9 - n.toNat) (by omega)
  rw [show n.toNat + (9 - n.toNat) = 9 by omega] at this
  exact this
theorem q_now_h {so le ri ti so' le' ri' ti' : Int → Int} {n : Int} (hh : hOk n so le ri ti) (h : hAg so le ri ti so' le' ri' ti' n) {nw : Int → Int} {w : Int} (hz : ∀ k : Int, n ≤ k → k < 9 → nw (9 + k) = 0) : q_now n so nw (nw 18) (nw 19) (fun k => nw (9 + k)) w = q_nowM n so' nw w := by
  unfold q_now q_nowM
  rw [gC_h h hh.1.1, sF_z (g := fun k => nw (9 + k)) hh.1 hz]
theorem q_mark_h {so le ri ti so' le' ri' ti' : Int → Int} {n : Int} (h : hAg so le ri ti so' le' ri' ti' n) {st al : Int → Int} {li kd k : Int} (hk : 0 ≤ k ∧ k < n) : q_mark ti st al li kd k = q_mark ti' st al li kd k := by
  unfold q_mark
  rw [(h k hk.1 hk.2).2.2.2]
