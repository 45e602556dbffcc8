/-! one item, the whole text -/
theorem ctk_1 {k : Int} (h : 0 ≤ k ∧ k ≤ 7) (h2 : ctk k = 1) : k ≤ 3 := by
  unfold ctk at h2
  repeat' split at h2
  all_goals omega
theorem ctk_0 {k : Int} (h : 0 ≤ k ∧ k ≤ 7) (h2 : ctk k = 0) : k = 4 := by
  unfold ctk at h2
  repeat' split at h2
  all_goals omega
theorem kE_r {ln : Int} {bys : Int → Int} {q : Int} (h : q ≤ ln) : q ≤ kE ln bys q ∧ kE ln bys q ≤ ln := by
  unfold kE
  repeat' split
  · omega
  · exact skE_r h
  · exact skE_r h
  · omega
def itA (ln : Int) (bys : Int → Int) (n q : Int) : Int × Int × Int := if kK ln bys q = 0 then (-1, kE ln bys q, -9) else tN ln bys (-1) (kE ln bys q) 0 (n - 1)
def itB (ln : Int) (bys : Int → Int) (n q : Int) : Int × Int × Int := if kK ln bys q = 1 ∨ kK ln bys q = 2 then tN ln bys (itA ln bys n q).1 (itA ln bys n q).2.1 0 (n - 1) else ((itA ln bys n q).1, (itA ln bys n q).2.1, -9)
def itC (ln : Int) (bys : Int → Int) (n q : Int) : Int × Int × Int := if kK ln bys q = 1 then tN ln bys (itB ln bys n q).1 (itB ln bys n q).2.1 1 3 else if kK ln bys q = 3 then tN ln bys (itB ln bys n q).1 (itB ln bys n q).2.1 2 4 else ((itB ln bys n q).1, (itB ln bys n q).2.1, 0)
def itD (ln : Int) (bys : Int → Int) (n q : Int) : Int × Int := tEn ln bys (itC ln bys n q).1 (itC ln bys n q).2.1
def itS (ln : Int) (bys : Int → Int) (n q : Int) : Int × Int := if kK ln bys q ≤ 3 ∧ n < 9 then itD ln bys n q else (q, q)
def itR (X : Int × Int × Int) (ft pl v : Int) : Prop := ft = X.1 ∧ (ft = -1 → pl = X.2.1 ∧ v = X.2.2)
theorem itS_y {ln : Int} {bys : Int → Int} {n q : Int} (h : kK ln bys q ≤ 3 ∧ n < 9) : itS ln bys n q = itD ln bys n q := if_pos h
theorem itS_n {ln : Int} {bys : Int → Int} {n q : Int} (h : ¬ (kK ln bys q ≤ 3 ∧ n < 9)) : itS ln bys n q = (q, q) := if_neg h
theorem tN_go {ln : Int} {bys : Int → Int} {X : Int × Int × Int} {ft pl v ft2 pl2 r lb ub : Int} (h : itR X ft pl v) (h3 : ft2 = (tN ln bys ft pl lb ub).1) (h4 : ft2 = -1 → pl2 = (tN ln bys ft pl lb ub).2.1 ∧ r = (tN ln bys ft pl lb ub).2.2) : itR (tN ln bys X.1 X.2.1 lb ub) ft2 pl2 r := by
  by_cases z : ft = -1
  · have h2 := (h.2 z).1
    have h1 := h.1
    rw [← h1, ← h2]
    exact ⟨h3, h4⟩
  · have h1 := h.1
    rw [tN_f z] at h3
    rw [← h1]
    refine ⟨by rw [tN_f z]; exact h3, fun y => absurd (h3.symm.trans y) z⟩
theorem itA_0 {ln : Int} {bys : Int → Int} {n q pl : Int} (h : kK ln bys q = 0) (e : pl = kE ln bys q) : itR (itA ln bys n q) (-1) pl (-9) := by
  unfold itA
  rw [if_pos h]
  exact ⟨rfl, fun _ => ⟨e, rfl⟩⟩
theorem itA_1 {ln : Int} {bys : Int → Int} {n q pl ft2 pl2 r : Int} (h : kK ln bys q ≠ 0) (e : pl = kE ln bys q) (h3 : ft2 = (tN ln bys (-1) pl 0 (n - 1)).1) (h4 : ft2 = -1 → pl2 = (tN ln bys (-1) pl 0 (n - 1)).2.1 ∧ r = (tN ln bys (-1) pl 0 (n - 1)).2.2) : itR (itA ln bys n q) ft2 pl2 r := by
  unfold itA
  rw [if_neg h, ← e]
  exact ⟨h3, h4⟩
theorem itB_1 {ln : Int} {bys : Int → Int} {n q ft pl v ft2 pl2 r : Int} (h : kK ln bys q = 1 ∨ kK ln bys q = 2) (hA : itR (itA ln bys n q) ft pl v) (h3 : ft2 = (tN ln bys ft pl 0 (n - 1)).1) (h4 : ft2 = -1 → pl2 = (tN ln bys ft pl 0 (n - 1)).2.1 ∧ r = (tN ln bys ft pl 0 (n - 1)).2.2) : itR (itB ln bys n q) ft2 pl2 r := by
  unfold itB
  rw [if_pos h]
  exact tN_go hA h3 h4
theorem itB_0 {ln : Int} {bys : Int → Int} {n q ft pl v : Int} (h : ¬ (kK ln bys q = 1 ∨ kK ln bys q = 2)) (hA : itR (itA ln bys n q) ft pl v) : itR (itB ln bys n q) ft pl (-9) := by
  unfold itB
  rw [if_neg h]
  exact ⟨hA.1, fun z => ⟨(hA.2 z).1, rfl⟩⟩
theorem itC_1 {ln : Int} {bys : Int → Int} {n q ft pl v ft2 pl2 r : Int} (h : kK ln bys q = 1) (hB : itR (itB ln bys n q) ft pl v) (h3 : ft2 = (tN ln bys ft pl 1 3).1) (h4 : ft2 = -1 → pl2 = (tN ln bys ft pl 1 3).2.1 ∧ r = (tN ln bys ft pl 1 3).2.2) : itR (itC ln bys n q) ft2 pl2 r := by
  unfold itC
  rw [if_pos h]
  exact tN_go hB h3 h4
theorem itC_3 {ln : Int} {bys : Int → Int} {n q ft pl v ft2 pl2 r : Int} (h : kK ln bys q = 3) (hB : itR (itB ln bys n q) ft pl v) (h3 : ft2 = (tN ln bys ft pl 2 4).1) (h4 : ft2 = -1 → pl2 = (tN ln bys ft pl 2 4).2.1 ∧ r = (tN ln bys ft pl 2 4).2.2) : itR (itC ln bys n q) ft2 pl2 r := by
  unfold itC
  rw [if_neg (by omega), if_pos h]
  exact tN_go hB h3 h4
theorem itC_0 {ln : Int} {bys : Int → Int} {n q ft pl v : Int} (h : kK ln bys q ≠ 1 ∧ kK ln bys q ≠ 3) (hB : itR (itB ln bys n q) ft pl v) : itR (itC ln bys n q) ft pl 0 := by
  unfold itC
  rw [if_neg h.1, if_neg h.2]
  exact ⟨hB.1, fun z => ⟨(hB.2 z).1, rfl⟩⟩
theorem itD_1 {ln : Int} {bys : Int → Int} {n q ft pl v ft2 pl2 : Int} (hC : itR (itC ln bys n q) ft pl v) (h3 : ft2 = (tEn ln bys ft pl).1) (h4 : ft2 = -1 → pl2 = (tEn ln bys ft pl).2) : ft2 = (itD ln bys n q).1 ∧ (ft2 = -1 → pl2 = (itD ln bys n q).2) := by
  unfold itD
  by_cases z : ft = -1
  · have h2 := (hC.2 z).1
    have h1 := hC.1
    rw [← h1, ← h2]
    exact ⟨h3, h4⟩
  · have h1 := hC.1
    rw [tEn_f z] at h3
    rw [← h1]
    exact ⟨by rw [tEn_f z]; exact h3, fun y => absurd (h3.symm.trans y) z⟩
theorem itD_b {ln : Int} {bys : Int → Int} {n q ft pl v ft2 : Int} (hC : itR (itC ln bys n q) ft pl v) (h3 : ft2 = (tEn ln bys ft pl).1) (z : ft2 = -1) : (itC ln bys n q).1 = -1 ∧ ft = -1 := by
  have h1 := hC.1
  by_cases y : ft = -1
  · exact ⟨by omega, y⟩
  · rw [tEn_f y] at h3
    exact absurd (h3.symm.trans z) y
theorem tN_b {ln : Int} {bys : Int → Int} {f p lb ub : Int} (h : (tN ln bys f p lb ub).1 = -1) : f = -1 := by
  by_cases y : f = -1
  · exact y
  · rw [tN_f y] at h
    exact h
theorem itC_b {ln : Int} {bys : Int → Int} {n q : Int} (hk : kK ln bys q ≤ 3) (h : (itC ln bys n q).1 = -1) : (itB ln bys n q).1 = -1 := by
  unfold itC at h
  split at h
  · exact tN_b h
  · split at h
    · exact tN_b h
    · exact h
theorem itB_b {ln : Int} {bys : Int → Int} {n q : Int} (h : (itB ln bys n q).1 = -1) : (itA ln bys n q).1 = -1 := by
  unfold itB at h
  split at h
  · exact tN_b h
  · exact h
theorem tN_r {ln : Int} {bys : Int → Int} {f p lb ub : Int} (hln : 0 ≤ ln ∧ ln ≤ 200) (h : (-1 ≤ f ∧ f ≤ 200) ∧ (f = -1 → 0 ≤ p ∧ p ≤ ln)) : (-1 ≤ (tN ln bys f p lb ub).1 ∧ (tN ln bys f p lb ub).1 ≤ 200) ∧ ((tN ln bys f p lb ub).1 = -1 → 0 ≤ (tN ln bys f p lb ub).2.1 ∧ (tN ln bys f p lb ub).2.1 ≤ ln) := by
  by_cases z : f = -1
  · have h1 := h.2 z
    have h2 := tkS_r (bys := bys) h1.2
    have h3 := kE_r (bys := bys) h2.2
    by_cases y : okN ln bys p lb ub
    · rw [tN_y z y]
      exact ⟨⟨by show (-1 : Int) ≤ -1; omega, by show (-1 : Int) ≤ 200; omega⟩, fun _ => ⟨by show 0 ≤ kE _ _ _; omega, by show kE _ _ _ ≤ ln; omega⟩⟩
    · rw [tN_n z y]
      exact ⟨⟨by show -1 ≤ tkS _ _ _; omega, by show tkS _ _ _ ≤ 200; omega⟩, fun w => by exfalso; have : tkS ln bys p = -1 := w; omega⟩
  · rw [tN_f z]
    exact ⟨h.1, fun w => absurd w z⟩
theorem itA_r {ln : Int} {bys : Int → Int} {n q : Int} (hln : 0 ≤ ln ∧ ln ≤ 200) (hq : 0 ≤ q ∧ q ≤ ln) : (-1 ≤ (itA ln bys n q).1 ∧ (itA ln bys n q).1 ≤ 200) ∧ ((itA ln bys n q).1 = -1 → 0 ≤ (itA ln bys n q).2.1 ∧ (itA ln bys n q).2.1 ≤ ln) := by
  have h3 := kE_r (bys := bys) hq.2
  unfold itA
  split
  · exact ⟨⟨by show (-1 : Int) ≤ -1; omega, by show (-1 : Int) ≤ 200; omega⟩, fun _ => ⟨by show 0 ≤ kE _ _ _; omega, by show kE _ _ _ ≤ ln; omega⟩⟩
  · exact tN_r hln ⟨⟨by omega, by omega⟩, fun _ => ⟨by omega, by omega⟩⟩
theorem itB_r {ln : Int} {bys : Int → Int} {n q : Int} (hln : 0 ≤ ln ∧ ln ≤ 200) (hq : 0 ≤ q ∧ q ≤ ln) : (-1 ≤ (itB ln bys n q).1 ∧ (itB ln bys n q).1 ≤ 200) ∧ ((itB ln bys n q).1 = -1 → 0 ≤ (itB ln bys n q).2.1 ∧ (itB ln bys n q).2.1 ≤ ln) := by
  unfold itB
  split
  · exact tN_r hln (itA_r hln hq)
  · exact itA_r hln hq
theorem itC_r {ln : Int} {bys : Int → Int} {n q : Int} (hln : 0 ≤ ln ∧ ln ≤ 200) (hq : 0 ≤ q ∧ q ≤ ln) : (-1 ≤ (itC ln bys n q).1 ∧ (itC ln bys n q).1 ≤ 200) ∧ ((itC ln bys n q).1 = -1 → 0 ≤ (itC ln bys n q).2.1 ∧ (itC ln bys n q).2.1 ≤ ln) := by
  unfold itC
  split
  · exact tN_r hln (itB_r hln hq)
  · split
    · exact tN_r hln (itB_r hln hq)
    · exact itB_r hln hq
theorem itS_r {ln : Int} {bys : Int → Int} {n q : Int} (hln : 0 ≤ ln ∧ ln ≤ 200) (hq : 0 ≤ q ∧ q ≤ ln) : (-1 ≤ (itS ln bys n q).1 ∧ (itS ln bys n q).1 ≤ 200) ∧ ((itS ln bys n q).1 = -1 → 0 ≤ (itS ln bys n q).2 ∧ (itS ln bys n q).2 ≤ ln) := by
  have hC := itC_r (bys := bys) (n := n) hln hq
  unfold itS
  split
  · unfold itD tEn
    split
    · rename_i z
      have h1 := hC.2 z
      have h2 := tkS_r (bys := bys) h1.2
      have h3 := kE_r (bys := bys) h2.2
      split
      · exact ⟨⟨by show (-1 : Int) ≤ -1; omega, by show (-1 : Int) ≤ 200; omega⟩, fun _ => ⟨by show 0 ≤ kE _ _ _; omega, by show kE _ _ _ ≤ ln; omega⟩⟩
      · exact ⟨⟨by show -1 ≤ tkS _ _ _; omega, by show tkS _ _ _ ≤ 200; omega⟩, fun w => by exfalso; have : tkS ln bys (itC ln bys n q).2.1 = -1 := w; omega⟩
    · rename_i z
      exact ⟨hC.1, fun w => absurd w z⟩
  · exact ⟨⟨by show -1 ≤ q; omega, by show q ≤ 200; omega⟩, fun w => hq⟩
def rdS (ln : Int) (bys : Int → Int) : Nat → Int → Int → (Int → Int) → (Int → Int) → (Int → Int) → (Int → Int) → Int × Int × (Int → Int) × (Int → Int) × (Int → Int) × (Int → Int)
  | 0, n, _, so, le, ri, ti => (0, n, so, le, ri, ti)
  | f + 1, n, p, so, le, ri, ti => if kK ln bys (tkS ln bys p) = 4 then (-1, n, so, le, ri, ti)
    else if (itS ln bys n (tkS ln bys p)).1 = -1 then rdS ln bys f (n + 1) (itS ln bys n (tkS ln bys p)).2 (zu so n (kK ln bys (tkS ln bys p))) (zu le n (itA ln bys n (tkS ln bys p)).2.2) (zu ri n (itB ln bys n (tkS ln bys p)).2.2) (zu ti n (itC ln bys n (tkS ln bys p)).2.2)
    else ((itS ln bys n (tkS ln bys p)).1, n, so, le, ri, ti)
theorem rdS_4 {ln : Int} {bys : Int → Int} {f : Nat} {n p : Int} {so le ri ti : Int → Int} (h : kK ln bys (tkS ln bys p) = 4) : rdS ln bys (f + 1) n p so le ri ti = (-1, n, so, le, ri, ti) := if_pos h
theorem rdS_y {ln : Int} {bys : Int → Int} {f : Nat} {n p : Int} {so le ri ti : Int → Int} (h : kK ln bys (tkS ln bys p) ≠ 4) (h2 : (itS ln bys n (tkS ln bys p)).1 = -1) : rdS ln bys (f + 1) n p so le ri ti = rdS ln bys f (n + 1) (itS ln bys n (tkS ln bys p)).2 (zu so n (kK ln bys (tkS ln bys p))) (zu le n (itA ln bys n (tkS ln bys p)).2.2) (zu ri n (itB ln bys n (tkS ln bys p)).2.2) (zu ti n (itC ln bys n (tkS ln bys p)).2.2) := by
  show (if _ then _ else if _ then _ else _) = _
  rw [if_neg h, if_pos h2]
theorem rdS_n {ln : Int} {bys : Int → Int} {f : Nat} {n p : Int} {so le ri ti : Int → Int} (h : kK ln bys (tkS ln bys p) ≠ 4) (h2 : (itS ln bys n (tkS ln bys p)).1 ≠ -1) : rdS ln bys (f + 1) n p so le ri ti = ((itS ln bys n (tkS ln bys p)).1, n, so, le, ri, ti) := by
  show (if _ then _ else if _ then _ else _) = _
  rw [if_neg h, if_neg h2]
set_option maxHeartbeats 4000000 in
set_option maxRecDepth 100000 in
theorem c_X3_readItem (l : Launch) (dC : Nat → ClassId) (dI : Nat → Nat → Nat) (cI cB cZ : ClassId) (x0 : Nat) (x1 : Nat) (ln : Int) (pl : Int) (tk : Int) (tv : Int) (bys : Int → Int) (adK : Nat → Nat) (adV : Nat → Nat) (kt : Nat) (h0 : Nat) (h1 : Nat) (h2 : Nat) (h3 : Nat) (h4 : Nat) (n : Int) (so : Int → Int) (le : Int → Int) (ri : Int → Int) (ti : Int → Int) (q : Int) (hln : 0 ≤ ln ∧ ln ≤ 200) (hby : ∀ k : Int, 0 ≤ k → k < ln → 0 ≤ bys k ∧ bys k ≤ 255) (hq : 0 ≤ q ∧ q ≤ ln) (htk : tk = ctk (kK ln bys q)) (hk7 : kK ln bys q ≠ 7 → pl = kE ln bys q ∧ tv = cVl ln bys q) (hn : 0 ≤ n ∧ n ≤ 9) : MetX (S := (Int) × (Int) × (Int) × (Int) × (Int) × (Int) × (Int → Int) × (Int → Int) × (Int → Int) × (Int → Int)) l yX3_readItem wsX3_readItem ({ frames := 8, cells := 0, slots := 0, locals := 170 }) (dC, dI) vwCl (zT cI cB cZ) (zX adK adV kt) [(x0, .inr (2, [.int (zI ln), .ref x1, .int (zI pl), .int (zI ((-1))), .int (zI tk), .int (zI q), .int (zI tv)])), (x1, .inl (cI, 200, .inl (zA bys))), (h0, .inr (0, [.int (zI n), .ref h1, .ref h2, .ref h3, .ref h4])), (h1, .inl (cI, 9, .inl (zA so))), (h2, .inl (cI, 9, .inl (zA le))), (h3, .inl (cI, 9, .inl (zA ri))), (h4, .inl (cI, 9, .inl (zA ti)))] [.ref x0, .ref h0] (fun u => none) (fun u => [(x0, .inr (2, [.int (zI ln), .ref x1, .int (zI u.1), .int (zI u.2.1), .int (zI u.2.2.1), .int (zI u.2.2.2.1), .int (zI u.2.2.2.2.1)])), (x1, .inl (cI, 200, .inl (zA bys))), (h0, .inr (0, [.int (zI u.2.2.2.2.2.1), .ref h1, .ref h2, .ref h3, .ref h4])), (h1, .inl (cI, 9, .inl (zA u.2.2.2.2.2.2.1))), (h2, .inl (cI, 9, .inl (zA u.2.2.2.2.2.2.2.1))), (h3, .inl (cI, 9, .inl (zA u.2.2.2.2.2.2.2.2.1))), (h4, .inl (cI, 9, .inl (zA u.2.2.2.2.2.2.2.2.2)))]) (fun u => (u.2.1 = (itS ln bys n q).1) ∧ (u.2.1 = -1 → n < 9 ∧ u.1 = (itS ln bys n q).2 ∧ u.2.2.2.2.2.1 = n + 1 ∧ u.2.2.2.2.2.2.1 = zu so n (kK ln bys q) ∧ u.2.2.2.2.2.2.2.1 = zu le n (itA ln bys n q).2.2 ∧ u.2.2.2.2.2.2.2.2.1 = zu ri n (itB ln bys n q).2.2 ∧ u.2.2.2.2.2.2.2.2.2 = zu ti n (itC ln bys n q).2.2)) := by
  refine MetX.intro (cc := cX3_readItem) (maxL := 6) (ret := none) (by decide) rfl (Nat.le_of_ble_eq_true rfl) ?_
  intro p e s m args below meth c A hx hb hr hlocks hml hts hown hP hK hD hS hA hE ls hl
  have hown : s.vm.findClass RX3 = some m.cls := hown
  have hEX := hE
  have hE : zN s := hEX.1
  have hl : lv_has ls 6 [(0, .ref x0), (1, .ref h0)] := hl
  generalize hRM : ({ frames := 8, cells := 0, slots := 0, locals := 170 } : Room) = RM
  generalize hQQ : MQ below (QW (S := (Int) × (Int) × (Int) × (Int) × (Int) × (Int) × (Int → Int) × (Int → Int) × (Int → Int) × (Int → Int)) (dC, dI) vwCl A (fun u => none) (fun u => [(x0, .inr (2, [.int (zI ln), .ref x1, .int (zI u.1), .int (zI u.2.1), .int (zI u.2.2.1), .int (zI u.2.2.2.1), .int (zI u.2.2.2.2.1)])), (x1, .inl (cI, 200, .inl (zA bys))), (h0, .inr (0, [.int (zI u.2.2.2.2.2.1), .ref h1, .ref h2, .ref h3, .ref h4])), (h1, .inl (cI, 9, .inl (zA u.2.2.2.2.2.2.1))), (h2, .inl (cI, 9, .inl (zA u.2.2.2.2.2.2.2.1))), (h3, .inl (cI, 9, .inl (zA u.2.2.2.2.2.2.2.2.1))), (h4, .inl (cI, 9, .inl (zA u.2.2.2.2.2.2.2.2.2)))]) (fun u => (u.2.1 = (itS ln bys n q).1) ∧ (u.2.1 = -1 → n < 9 ∧ u.1 = (itS ln bys n q).2 ∧ u.2.2.2.2.2.1 = n + 1 ∧ u.2.2.2.2.2.2.1 = zu so n (kK ln bys q) ∧ u.2.2.2.2.2.2.2.1 = zu le n (itA ln bys n q).2.2 ∧ u.2.2.2.2.2.2.2.2.1 = zu ri n (itB ln bys n q).2.2 ∧ u.2.2.2.2.2.2.2.2.2 = zu ti n (itC ln bys n q).2.2))) args s 0 0 A = QQ
  have in_X0 : ∀ w ∈ wsX00, w ∈ wsX3_readItem := by decide +kernel
  have in_X3 : ∀ w ∈ wsX30, w ∈ wsX3_readItem := by decide +kernel
  have w_0 := hts (.fieldLink RX3 33 "WallMarbles$Text" "token" "I") (by decide +kernel)
  have w_1 := hts (.fieldLink RX3 40 "WallMarbles$Text" "tokenStart" "I") (by decide +kernel)
  have w_2 := hts (.fieldLink RX3 27 "WallMarbles$Text" "fault" "I") (by decide +kernel)
  have w_3 := hts (.fieldLink RX3 43 "WallMarbles$Text" "value" "I") (by decide +kernel)
  have n_19 := va_Nw.use (A := args) rfl (zN_1 hE)
  have hkk := kK_r ln bys q
  have hct := ctk_r hkk
  have rA := itA_r (bys := bys) (n := n) hln hq
  have rB := itB_r (bys := bys) (n := n) hln hq
  have rC := itC_r (bys := bys) (n := n) hln hq
  have hkE := kE_r (bys := bys) (q := q) hq.2
  refine lv_aload_n hx hb dX3_readItem_0 rfl (lv_at hl 0 rfl) ?_
  refine va_get (D := (dC, dI)) (ci := 2) (v := .int (zI tk)) (C := RX3) (T := TX3) (N := 7) hx hb hts in_X3 hown hK hP 0 rfl rfl 4 (by decide) w_0 (fun _ h9 => h9) rfl dX3_readItem_1 ?_
  refine zv_iconst hx hb dX3_readItem_4 ?_
  refine zv_icmp_ne (tgt := 17) hx hb (by omega) (by omega) dX3_readItem_5 (by decide) (fun c_5 => ?_) (fun c_5 => ?_)
  · refine lv_aload_n hx hb dX3_readItem_17 rfl (lv_at hl 0 rfl) ?_
    refine lv_aload_n hx hb dX3_readItem_18 rfl (lv_at hl 0 rfl) ?_
    refine va_get (D := (dC, dI)) (ci := 2) (v := .int (zI q)) (C := RX3) (T := TX3) (N := 7) hx hb hts in_X3 hown hK hP 0 rfl rfl 5 (by decide) w_1 (fun _ h9 => h9) rfl dX3_readItem_19 ?_
    refine va_put (D := (dC, dI)) (ci := 2) (v := .int (zI q)) (ty := .int) (C := RX3) (T := TX3) (N := 7) hx hb hts in_X3 tyX3 tyX3_ok nmX3 hown hK hP hD hS 0 rfl rfl 3 (by decide) w_2 (fun _ h9 => h9) rfl (by decide +kernel) rfl rfl (Nat.le_of_ble_eq_true rfl) dX3_readItem_22 (fun H locs hP hD hS => ?_)
    have hP : va_P (dC, dI) vwCl [(x0, .inr (2, [.int (zI ln), .ref x1, .int (zI pl), .int (zI q), .int (zI tk), .int (zI q), .int (zI tv)])), (x1, .inl (cI, 200, .inl (zA bys))), (h0, .inr (0, [.int (zI n), .ref h1, .ref h2, .ref h3, .ref h4])), (h1, .inl (cI, 9, .inl (zA so))), (h2, .inl (cI, 9, .inl (zA le))), (h3, .inl (cI, 9, .inl (zA ri))), (h4, .inl (cI, 9, .inl (zA ti)))] H := hP
    have hD : va_D A [(x0, .inr (2, [.int (zI ln), .ref x1, .int (zI pl), .int (zI q), .int (zI tk), .int (zI q), .int (zI tv)])), (x1, .inl (cI, 200, .inl (zA bys))), (h0, .inr (0, [.int (zI n), .ref h1, .ref h2, .ref h3, .ref h4])), (h1, .inl (cI, 9, .inl (zA so))), (h2, .inl (cI, 9, .inl (zA le))), (h3, .inl (cI, 9, .inl (zA ri))), (h4, .inl (cI, 9, .inl (zA ti)))] := hD
    rw [← hQQ]
    exact zw_vret hx hb hr hlocks (pl, q, tk, q, tv, n, so, le, ri, ti) rfl ⟨(by rw [itS_n (by intro z; first | (have := z.1; have h1 : ctk (kK ln bys q) = 1 := (by unfold ctk; rw [if_pos this]); omega) | (have := z.2; omega))]), (by intro z; exfalso; have z2 : q = -1 := z; omega)⟩ hP hS dX3_readItem_25
  · refine lv_aload_n hx hb dX3_readItem_8 rfl (lv_at hl 1 rfl) ?_
    refine va_getN (D := (dC, dI)) (ci := 0) (v := .int (zI n)) (C := RX0) (T := TX0) (N := 5) hx hb hts in_X0 hown hK hP 2 rfl rfl 0 (by decide) n_19 (fun _ h9 => h9) rfl dX3_readItem_9 ?_
    refine zv_bipush hx hb dX3_readItem_12 (by decide +kernel) ?_
    refine zv_icmp_lt (tgt := 26) hx hb (by omega) (by omega) dX3_readItem_14 (by decide) (fun c_14 => ?_) (fun c_14 => ?_)
    · have hK3 : kK ln bys q ≤ 3 := ctk_1 hkk (by omega)
      obtain ⟨e1, e2⟩ := hk7 (by omega)
      have e3 : tv = kK ln bys q := by rw [e2]; exact if_pos hK3
      refine lv_aload_n hx hb dX3_readItem_26 rfl (lv_at hl 0 rfl) ?_
      refine va_get (D := (dC, dI)) (ci := 2) (v := .int (zI tv)) (C := RX3) (T := TX3) (N := 7) hx hb hts in_X3 hown hK hP 0 rfl rfl 6 (by decide) w_3 (fun _ h9 => h9) rfl dX3_readItem_27 ?_
      refine lv_istore_n (lv' := [(2, .int (zI tv)), (0, .ref x0), (1, .ref h0)]) hx hb dX3_readItem_30 rfl hl (by decide) rfl (fun ls hl => ?_)
      refine zv_bipush hx hb dX3_readItem_31 (by decide +kernel) ?_
      refine lv_istore_n (lv' := [(3, .int (zI ((-9)))), (2, .int (zI tv)), (0, .ref x0), (1, .ref h0)]) hx hb dX3_readItem_33 rfl hl (by decide) rfl (fun ls hl => ?_)
      refine zv_bipush hx hb dX3_readItem_34 (by decide +kernel) ?_
      refine lv_istore (lv' := [(4, .int (zI ((-9)))), (3, .int (zI ((-9)))), (2, .int (zI tv)), (0, .ref x0), (1, .ref h0)]) hx hb dX3_readItem_36 hl (by decide) rfl (fun ls hl => ?_)
      refine zv_iconst hx hb dX3_readItem_38 ?_
      refine lv_istore (lv' := [(5, .int (zI 0)), (4, .int (zI ((-9)))), (3, .int (zI ((-9)))), (2, .int (zI tv)), (0, .ref x0), (1, .ref h0)]) hx hb dX3_readItem_39 hl (by decide) rfl (fun ls hl => ?_)
      refine lv_iload_n hx hb dX3_readItem_41 rfl (lv_at hl 3 rfl) ?_
      refine zv_if_eq (tgt := 57) hx hb (by omega) dX3_readItem_42 (by decide) (fun c_42 => ?_) (fun c_42 => ?_)
      · have jA : itR (itA ln bys n q) (-1) pl (-9) := itA_0 (by omega) e1
        refine lv_iload_n hx hb dX3_readItem_57 rfl (lv_at hl 3 rfl) ?_
        refine zv_iconst hx hb dX3_readItem_58 ?_
        refine zv_icmp_eq (tgt := 67) hx hb (by omega) (by omega) dX3_readItem_59 (by decide) (fun c_59 => ?_) (fun c_59 => ?_)
        · exfalso; omega
        · refine lv_iload_n hx hb dX3_readItem_62 rfl (lv_at hl 3 rfl) ?_
          refine zv_iconst hx hb dX3_readItem_63 ?_
          refine zv_icmp_ne (tgt := 80) hx hb (by omega) (by omega) dX3_readItem_64 (by decide) (fun c_64 => ?_) (fun c_64 => ?_)
          · have jB : itR (itB ln bys n q) ((-1)) pl (-9) := itB_0 (by omega) jA
            refine lv_iload_n hx hb dX3_readItem_80 rfl (lv_at hl 3 rfl) ?_
            refine zv_iconst hx hb dX3_readItem_81 ?_
            refine zv_icmp_ne (tgt := 96) hx hb (by omega) (by omega) dX3_readItem_82 (by decide) (fun c_82 => ?_) (fun c_82 => ?_)
            · refine lv_iload_n hx hb dX3_readItem_96 rfl (lv_at hl 3 rfl) ?_
              refine zv_iconst hx hb dX3_readItem_97 ?_
              refine zv_icmp_ne (tgt := 109) hx hb (by omega) (by omega) dX3_readItem_98 (by decide) (fun c_98 => ?_) (fun c_98 => ?_)
              · have jC : itR (itC ln bys n q) ((-1)) pl 0 := itC_0 (by omega) jB
                refine lv_aload_n hx hb dX3_readItem_109 rfl (lv_at hl 4 rfl) ?_
                refine zv_callXV (As := []) (rest := []) (ws2 := fun u => [(x0, .inr (2, [.int (zI ln), .ref x1, .int (zI u.1), .int (zI u.2.1), .int (zI u.2.2.1), .int (zI u.2.2.2.1), .int (zI u.2.2.2.2)])), (x1, .inl (cI, 200, .inl (zA bys))), (h0, .inr (0, [.int (zI n), .ref h1, .ref h2, .ref h3, .ref h4])), (h1, .inl (cI, 9, .inl (zA so))), (h2, .inl (cI, 9, .inl (zA le))), (h3, .inl (cI, 9, .inl (zA ri))), (h4, .inl (cI, 9, .inl (zA ti)))]) ⟨hx, hb, hml, hown, hts⟩ (c_X3_takeItemEnd l dC dI cI cB cZ x0 x1 ln pl (-1) tk q tv bys adK adV kt (by omega) (by exact hby) (by intro z; have y1 := (jC.2 z).1; have y2 := rC.2 (by have := jC.1; omega); omega) (by have := jC.1; omega)) (cwV 0 hts gX3_readItem_X3_takeItemEnd rfl rfl rfl (by decide +kernel) ⟨by rw [← hRM]; first | decide | (dsimp only; omega), by rw [← hRM]; first | decide | (dsimp only; omega)⟩) hP hD hS hA hK [0, 1] rfl (by decide) [0, 1, 2] rfl zX_bl (zX_go hEX hS) (fun _ => rfl) (fun _ => rfl) (q0 := 0) rfl rfl rfl rfl hl.1 rfl (Nat.le_of_ble_eq_true rfl) dX3_readItem_110 ⟨Nat.zero_le _, Nat.zero_le _⟩ (fun u H locs hpo hP hD hS => ?_)
                obtain ⟨pl2_110, ft2_110, tk2_110, tS2_110, tv2_110⟩ := u
                have hp0_110 : ft2_110 = (tEn ln bys (-1) pl).1 := hpo.1
                have hp1_110 : ft2_110 = -1 → pl2_110 = (tEn ln bys (-1) pl).2 := hpo.2
                have hP : va_P (dC, dI) vwCl [(x0, .inr (2, [.int (zI ln), .ref x1, .int (zI pl2_110), .int (zI ft2_110), .int (zI tk2_110), .int (zI tS2_110), .int (zI tv2_110)])), (x1, .inl (cI, 200, .inl (zA bys))), (h0, .inr (0, [.int (zI n), .ref h1, .ref h2, .ref h3, .ref h4])), (h1, .inl (cI, 9, .inl (zA so))), (h2, .inl (cI, 9, .inl (zA le))), (h3, .inl (cI, 9, .inl (zA ri))), (h4, .inl (cI, 9, .inl (zA ti)))] H := hP
                have hD : va_D A [(x0, .inr (2, [.int (zI ln), .ref x1, .int (zI pl2_110), .int (zI ft2_110), .int (zI tk2_110), .int (zI tS2_110), .int (zI tv2_110)])), (x1, .inl (cI, 200, .inl (zA bys))), (h0, .inr (0, [.int (zI n), .ref h1, .ref h2, .ref h3, .ref h4])), (h1, .inl (cI, 9, .inl (zA so))), (h2, .inl (cI, 9, .inl (zA le))), (h3, .inl (cI, 9, .inl (zA ri))), (h4, .inl (cI, 9, .inl (zA ti)))] := hD
                refine W.eq (g2 := F0 m 113 ls []) rfl ?_
                have jD := itD_1 jC hp0_110 hp1_110
                have rD := (itS_r (bys := bys) (n := n) hln hq).1
                rw [itS_y ⟨hK3, by omega⟩] at rD
                refine lv_aload_n hx hb dX3_readItem_113 rfl (lv_at hl 4 rfl) ?_
                refine va_get (D := (dC, dI)) (ci := 2) (v := .int (zI ft2_110)) (C := RX3) (T := TX3) (N := 7) hx hb hts in_X3 hown hK hP 0 rfl rfl 3 (by decide) w_2 (fun _ h9 => h9) rfl dX3_readItem_114 ?_
                refine zv_iconst hx hb dX3_readItem_117 ?_
                refine zv_icmp_ne (tgt := 131) hx hb (by omega) (by omega) dX3_readItem_118 (by decide) (fun c_118 => ?_) (fun c_118 => ?_)
                · rw [← hQQ]
                  exact zw_vret hx hb hr hlocks (pl2_110, ft2_110, tk2_110, tS2_110, tv2_110, n, so, le, ri, ti) rfl ⟨(by rw [itS_y ⟨hK3, by omega⟩]; exact jD.1), (by intro z; first | (exfalso; exact absurd z c_118) | (rw [itS_y ⟨hK3, by omega⟩]; have zC := (itD_b jC hp0_110 z); have zB := itC_b (by omega) zC.1; have zA := itB_b zB; have zf := zC.2; exact ⟨by omega, jD.2 z, rfl, congrArg (zu so n) e3, congrArg (zu le n) (jA.2 (by have := jA.1; omega)).2, congrArg (zu ri n) (jB.2 (by have := jB.1; omega)).2, congrArg (zu ti n) (jC.2 (by have := jC.1; omega)).2⟩))⟩ hP hS dX3_readItem_131
                · refine lv_aload_n hx hb dX3_readItem_121 rfl (lv_at hl 5 rfl) ?_
                  refine lv_iload_n hx hb dX3_readItem_122 rfl (lv_at hl 3 rfl) ?_
                  refine lv_iload_n hx hb dX3_readItem_123 rfl (lv_at hl 2 rfl) ?_
                  refine lv_iload hx hb dX3_readItem_124 (lv_at hl 1 rfl) ?_
                  refine lv_iload hx hb dX3_readItem_126 (lv_at hl 0 rfl) ?_
                  refine zv_callWV (As := [.int (zI tv), .int (zI ((-9))), .int (zI ((-9))), .int (zI 0)]) (rest := []) (ws2 := fun u => [(x0, .inr (2, [.int (zI ln), .ref x1, .int (zI pl2_110), .int (zI ft2_110), .int (zI tk2_110), .int (zI tS2_110), .int (zI tv2_110)])), (x1, .inl (cI, 200, .inl (zA bys))), (h0, .inr (0, [.int (zI (n + 1)), .ref h1, .ref h2, .ref h3, .ref h4])), (h1, .inl (cI, 9, .inl (zA (zu so n tv)))), (h2, .inl (cI, 9, .inl (zA (zu le n (-9))))), (h3, .inl (cI, 9, .inl (zA (zu ri n (-9))))), (h4, .inl (cI, 9, .inl (zA (zu ti n 0))))]) ⟨hx, hb, hml, hown, hts⟩ (c_X0_append l dC dI cI cB cZ h0 h1 h2 h3 h4 n so le ri ti tv (-9) (-9) 0 (by omega)) (cwV 4 hts gX3_readItem_X0_append rfl rfl rfl (by decide +kernel) ⟨by rw [← hRM]; first | decide | (dsimp only; omega), by rw [← hRM]; first | decide | (dsimp only; omega)⟩) hP hD hS hA hK [2, 3, 4, 5, 6] rfl (by decide) [0, 1, 2] rfl zN_bl (zN_go hE) (fun _ => rfl) (fun _ => rfl) (q0 := 0) rfl rfl rfl rfl hl.1 rfl (Nat.le_of_ble_eq_true rfl) dX3_readItem_128 ⟨Nat.zero_le _, Nat.zero_le _⟩ (fun u H locs hpo hP hD hS => ?_)
                  have hP : va_P (dC, dI) vwCl [(x0, .inr (2, [.int (zI ln), .ref x1, .int (zI pl2_110), .int (zI ft2_110), .int (zI tk2_110), .int (zI tS2_110), .int (zI tv2_110)])), (x1, .inl (cI, 200, .inl (zA bys))), (h0, .inr (0, [.int (zI (n + 1)), .ref h1, .ref h2, .ref h3, .ref h4])), (h1, .inl (cI, 9, .inl (zA (zu so n tv)))), (h2, .inl (cI, 9, .inl (zA (zu le n (-9))))), (h3, .inl (cI, 9, .inl (zA (zu ri n (-9))))), (h4, .inl (cI, 9, .inl (zA (zu ti n 0))))] H := hP
                  have hD : va_D A [(x0, .inr (2, [.int (zI ln), .ref x1, .int (zI pl2_110), .int (zI ft2_110), .int (zI tk2_110), .int (zI tS2_110), .int (zI tv2_110)])), (x1, .inl (cI, 200, .inl (zA bys))), (h0, .inr (0, [.int (zI (n + 1)), .ref h1, .ref h2, .ref h3, .ref h4])), (h1, .inl (cI, 9, .inl (zA (zu so n tv)))), (h2, .inl (cI, 9, .inl (zA (zu le n (-9))))), (h3, .inl (cI, 9, .inl (zA (zu ri n (-9))))), (h4, .inl (cI, 9, .inl (zA (zu ti n 0))))] := hD
                  refine W.eq (g2 := F0 m 131 ls []) rfl ?_
                  rw [← hQQ]
                  exact zw_vret hx hb hr hlocks (pl2_110, ft2_110, tk2_110, tS2_110, tv2_110, (n + 1), (zu so n tv), (zu le n (-9)), (zu ri n (-9)), (zu ti n 0)) rfl ⟨(by rw [itS_y ⟨hK3, by omega⟩]; exact jD.1), (by intro z; first | (exfalso; exact absurd z c_118) | (rw [itS_y ⟨hK3, by omega⟩]; have zC := (itD_b jC hp0_110 z); have zB := itC_b (by omega) zC.1; have zA := itB_b zB; have zf := zC.2; exact ⟨by omega, jD.2 z, rfl, congrArg (zu so n) e3, congrArg (zu le n) (jA.2 (by have := jA.1; omega)).2, congrArg (zu ri n) (jB.2 (by have := jB.1; omega)).2, congrArg (zu ti n) (jC.2 (by have := jC.1; omega)).2⟩))⟩ hP hS dX3_readItem_131
              · exfalso; omega
            · exfalso; omega
          · exfalso; omega
      · refine lv_aload_n hx hb dX3_readItem_45 rfl (lv_at hl 4 rfl) ?_
        refine zv_iconst hx hb dX3_readItem_46 ?_
        refine lv_aload_n hx hb dX3_readItem_47 rfl (lv_at hl 5 rfl) ?_
        refine va_getN (D := (dC, dI)) (ci := 0) (v := .int (zI n)) (C := RX0) (T := TX0) (N := 5) hx hb hts in_X0 hown hK hP 2 rfl rfl 0 (by decide) n_19 (fun _ h9 => h9) rfl dX3_readItem_48 ?_
        refine zv_iconst hx hb dX3_readItem_51 ?_
        refine zv_isub hx hb dX3_readItem_52 ?_
        refine zv_callXV (As := [.int (zI 0), .int (zI (n - 1))]) (rest := []) (ws2 := fun u => [(x0, .inr (2, [.int (zI ln), .ref x1, .int (zI u.1), .int (zI u.2.1), .int (zI u.2.2.1), .int (zI u.2.2.2.1), .int (zI u.2.2.2.2.1)])), (x1, .inl (cI, 200, .inl (zA bys))), (h0, .inr (0, [.int (zI n), .ref h1, .ref h2, .ref h3, .ref h4])), (h1, .inl (cI, 9, .inl (zA so))), (h2, .inl (cI, 9, .inl (zA le))), (h3, .inl (cI, 9, .inl (zA ri))), (h4, .inl (cI, 9, .inl (zA ti)))]) ⟨hx, hb, hml, hown, hts⟩ (c_X3_takeNumber l dC dI cI cB cZ x0 x1 ln pl (-1) tk q tv bys adK adV kt 0 (n - 1) (by omega) (by exact hby) (by intro _; omega) (by omega) (by omega)) (cwV 2 hts gX3_readItem_X3_takeNumber rfl rfl rfl (by decide +kernel) ⟨by rw [← hRM]; first | decide | (dsimp only; omega), by rw [← hRM]; first | decide | (dsimp only; omega)⟩) hP hD hS hA hK [0, 1] rfl (by decide) [0, 1, 2] rfl zX_bl (zX_go hEX hS) (fun _ => rfl) (fun _ => rfl) (q0 := 0) rfl rfl rfl rfl hl.1 rfl (Nat.le_of_ble_eq_true rfl) dX3_readItem_53 ⟨Nat.zero_le _, Nat.zero_le _⟩ (fun u H locs hpo hP hD hS => ?_)
        obtain ⟨pl2_53, ft2_53, tk2_53, tS2_53, tv2_53, rr_53⟩ := u
        have hp0_53 : ft2_53 = (tN ln bys (-1) pl 0 (n - 1)).1 := hpo.1
        have hp1_53 : ft2_53 = -1 → pl2_53 = (tN ln bys (-1) pl 0 (n - 1)).2.1 ∧ rr_53 = (tN ln bys (-1) pl 0 (n - 1)).2.2 := hpo.2
        have hP : va_P (dC, dI) vwCl [(x0, .inr (2, [.int (zI ln), .ref x1, .int (zI pl2_53), .int (zI ft2_53), .int (zI tk2_53), .int (zI tS2_53), .int (zI tv2_53)])), (x1, .inl (cI, 200, .inl (zA bys))), (h0, .inr (0, [.int (zI n), .ref h1, .ref h2, .ref h3, .ref h4])), (h1, .inl (cI, 9, .inl (zA so))), (h2, .inl (cI, 9, .inl (zA le))), (h3, .inl (cI, 9, .inl (zA ri))), (h4, .inl (cI, 9, .inl (zA ti)))] H := hP
        have hD : va_D A [(x0, .inr (2, [.int (zI ln), .ref x1, .int (zI pl2_53), .int (zI ft2_53), .int (zI tk2_53), .int (zI tS2_53), .int (zI tv2_53)])), (x1, .inl (cI, 200, .inl (zA bys))), (h0, .inr (0, [.int (zI n), .ref h1, .ref h2, .ref h3, .ref h4])), (h1, .inl (cI, 9, .inl (zA so))), (h2, .inl (cI, 9, .inl (zA le))), (h3, .inl (cI, 9, .inl (zA ri))), (h4, .inl (cI, 9, .inl (zA ti)))] := hD
        refine W.eq (g2 := F0 m 56 ls [.int (zI rr_53)]) rfl ?_
        refine lv_istore_n (lv' := [(3, .int (zI rr_53)), (5, .int (zI 0)), (4, .int (zI ((-9)))), (2, .int (zI tv)), (0, .ref x0), (1, .ref h0)]) hx hb dX3_readItem_56 rfl hl (by decide) rfl (fun ls hl => ?_)
        have jA : itR (itA ln bys n q) ft2_53 pl2_53 rr_53 := itA_1 (by omega) e1 hp0_53 hp1_53
        refine lv_iload_n hx hb dX3_readItem_57 rfl (lv_at hl 3 rfl) ?_
        refine zv_iconst hx hb dX3_readItem_58 ?_
        refine zv_icmp_eq (tgt := 67) hx hb (by omega) (by omega) dX3_readItem_59 (by decide) (fun c_59 => ?_) (fun c_59 => ?_)
        · refine lv_aload_n hx hb dX3_readItem_67 rfl (lv_at hl 4 rfl) ?_
          refine zv_iconst hx hb dX3_readItem_68 ?_
          refine lv_aload_n hx hb dX3_readItem_69 rfl (lv_at hl 5 rfl) ?_
          refine va_getN (D := (dC, dI)) (ci := 0) (v := .int (zI n)) (C := RX0) (T := TX0) (N := 5) hx hb hts in_X0 hown hK hP 2 rfl rfl 0 (by decide) n_19 (fun _ h9 => h9) rfl dX3_readItem_70 ?_
          refine zv_iconst hx hb dX3_readItem_73 ?_
          refine zv_isub hx hb dX3_readItem_74 ?_
          refine zv_callXV (As := [.int (zI 0), .int (zI (n - 1))]) (rest := []) (ws2 := fun u => [(x0, .inr (2, [.int (zI ln), .ref x1, .int (zI u.1), .int (zI u.2.1), .int (zI u.2.2.1), .int (zI u.2.2.2.1), .int (zI u.2.2.2.2.1)])), (x1, .inl (cI, 200, .inl (zA bys))), (h0, .inr (0, [.int (zI n), .ref h1, .ref h2, .ref h3, .ref h4])), (h1, .inl (cI, 9, .inl (zA so))), (h2, .inl (cI, 9, .inl (zA le))), (h3, .inl (cI, 9, .inl (zA ri))), (h4, .inl (cI, 9, .inl (zA ti)))]) ⟨hx, hb, hml, hown, hts⟩ (c_X3_takeNumber l dC dI cI cB cZ x0 x1 ln pl2_53 ft2_53 tk2_53 tS2_53 tv2_53 bys adK adV kt 0 (n - 1) (by omega) (by exact hby) (by intro z; have y1 := (jA.2 z).1; have y2 := rA.2 (by have := jA.1; omega); omega) (by have := jA.1; omega) (by omega)) (cwV 2 hts gX3_readItem_X3_takeNumber rfl rfl rfl (by decide +kernel) ⟨by rw [← hRM]; first | decide | (dsimp only; omega), by rw [← hRM]; first | decide | (dsimp only; omega)⟩) hP hD hS hA hK [0, 1] rfl (by decide) [0, 1, 2] rfl zX_bl (zX_go hEX hS) (fun _ => rfl) (fun _ => rfl) (q0 := 0) rfl rfl rfl rfl hl.1 rfl (Nat.le_of_ble_eq_true rfl) dX3_readItem_75 ⟨Nat.zero_le _, Nat.zero_le _⟩ (fun u H locs hpo hP hD hS => ?_)
          obtain ⟨pl2_75, ft2_75, tk2_75, tS2_75, tv2_75, rr_75⟩ := u
          have hp0_75 : ft2_75 = (tN ln bys ft2_53 pl2_53 0 (n - 1)).1 := hpo.1
          have hp1_75 : ft2_75 = -1 → pl2_75 = (tN ln bys ft2_53 pl2_53 0 (n - 1)).2.1 ∧ rr_75 = (tN ln bys ft2_53 pl2_53 0 (n - 1)).2.2 := hpo.2
          have hP : va_P (dC, dI) vwCl [(x0, .inr (2, [.int (zI ln), .ref x1, .int (zI pl2_75), .int (zI ft2_75), .int (zI tk2_75), .int (zI tS2_75), .int (zI tv2_75)])), (x1, .inl (cI, 200, .inl (zA bys))), (h0, .inr (0, [.int (zI n), .ref h1, .ref h2, .ref h3, .ref h4])), (h1, .inl (cI, 9, .inl (zA so))), (h2, .inl (cI, 9, .inl (zA le))), (h3, .inl (cI, 9, .inl (zA ri))), (h4, .inl (cI, 9, .inl (zA ti)))] H := hP
          have hD : va_D A [(x0, .inr (2, [.int (zI ln), .ref x1, .int (zI pl2_75), .int (zI ft2_75), .int (zI tk2_75), .int (zI tS2_75), .int (zI tv2_75)])), (x1, .inl (cI, 200, .inl (zA bys))), (h0, .inr (0, [.int (zI n), .ref h1, .ref h2, .ref h3, .ref h4])), (h1, .inl (cI, 9, .inl (zA so))), (h2, .inl (cI, 9, .inl (zA le))), (h3, .inl (cI, 9, .inl (zA ri))), (h4, .inl (cI, 9, .inl (zA ti)))] := hD
          refine W.eq (g2 := F0 m 78 ls [.int (zI rr_75)]) rfl ?_
          refine lv_istore (lv' := [(4, .int (zI rr_75)), (3, .int (zI rr_53)), (5, .int (zI 0)), (2, .int (zI tv)), (0, .ref x0), (1, .ref h0)]) hx hb dX3_readItem_78 hl (by decide) rfl (fun ls hl => ?_)
          have jB : itR (itB ln bys n q) ft2_75 pl2_75 rr_75 := itB_1 (by omega) jA hp0_75 hp1_75
          refine lv_iload_n hx hb dX3_readItem_80 rfl (lv_at hl 3 rfl) ?_
          refine zv_iconst hx hb dX3_readItem_81 ?_
          refine zv_icmp_ne (tgt := 96) hx hb (by omega) (by omega) dX3_readItem_82 (by decide) (fun c_82 => ?_) (fun c_82 => ?_)
          · exfalso; omega
          · refine lv_aload_n hx hb dX3_readItem_85 rfl (lv_at hl 4 rfl) ?_
            refine zv_iconst hx hb dX3_readItem_86 ?_
            refine zv_iconst hx hb dX3_readItem_87 ?_
            refine zv_callXV (As := [.int (zI 1), .int (zI 3)]) (rest := []) (ws2 := fun u => [(x0, .inr (2, [.int (zI ln), .ref x1, .int (zI u.1), .int (zI u.2.1), .int (zI u.2.2.1), .int (zI u.2.2.2.1), .int (zI u.2.2.2.2.1)])), (x1, .inl (cI, 200, .inl (zA bys))), (h0, .inr (0, [.int (zI n), .ref h1, .ref h2, .ref h3, .ref h4])), (h1, .inl (cI, 9, .inl (zA so))), (h2, .inl (cI, 9, .inl (zA le))), (h3, .inl (cI, 9, .inl (zA ri))), (h4, .inl (cI, 9, .inl (zA ti)))]) ⟨hx, hb, hml, hown, hts⟩ (c_X3_takeNumber l dC dI cI cB cZ x0 x1 ln pl2_75 ft2_75 tk2_75 tS2_75 tv2_75 bys adK adV kt 1 3 (by omega) (by exact hby) (by intro z; have y1 := (jB.2 z).1; have y2 := rB.2 (by have := jB.1; omega); omega) (by have := jB.1; omega) (by omega)) (cwV 2 hts gX3_readItem_X3_takeNumber rfl rfl rfl (by decide +kernel) ⟨by rw [← hRM]; first | decide | (dsimp only; omega), by rw [← hRM]; first | decide | (dsimp only; omega)⟩) hP hD hS hA hK [0, 1] rfl (by decide) [0, 1, 2] rfl zX_bl (zX_go hEX hS) (fun _ => rfl) (fun _ => rfl) (q0 := 0) rfl rfl rfl rfl hl.1 rfl (Nat.le_of_ble_eq_true rfl) dX3_readItem_88 ⟨Nat.zero_le _, Nat.zero_le _⟩ (fun u H locs hpo hP hD hS => ?_)
            obtain ⟨pl2_88, ft2_88, tk2_88, tS2_88, tv2_88, rr_88⟩ := u
            have hp0_88 : ft2_88 = (tN ln bys ft2_75 pl2_75 1 3).1 := hpo.1
            have hp1_88 : ft2_88 = -1 → pl2_88 = (tN ln bys ft2_75 pl2_75 1 3).2.1 ∧ rr_88 = (tN ln bys ft2_75 pl2_75 1 3).2.2 := hpo.2
            have hP : va_P (dC, dI) vwCl [(x0, .inr (2, [.int (zI ln), .ref x1, .int (zI pl2_88), .int (zI ft2_88), .int (zI tk2_88), .int (zI tS2_88), .int (zI tv2_88)])), (x1, .inl (cI, 200, .inl (zA bys))), (h0, .inr (0, [.int (zI n), .ref h1, .ref h2, .ref h3, .ref h4])), (h1, .inl (cI, 9, .inl (zA so))), (h2, .inl (cI, 9, .inl (zA le))), (h3, .inl (cI, 9, .inl (zA ri))), (h4, .inl (cI, 9, .inl (zA ti)))] H := hP
            have hD : va_D A [(x0, .inr (2, [.int (zI ln), .ref x1, .int (zI pl2_88), .int (zI ft2_88), .int (zI tk2_88), .int (zI tS2_88), .int (zI tv2_88)])), (x1, .inl (cI, 200, .inl (zA bys))), (h0, .inr (0, [.int (zI n), .ref h1, .ref h2, .ref h3, .ref h4])), (h1, .inl (cI, 9, .inl (zA so))), (h2, .inl (cI, 9, .inl (zA le))), (h3, .inl (cI, 9, .inl (zA ri))), (h4, .inl (cI, 9, .inl (zA ti)))] := hD
            refine W.eq (g2 := F0 m 91 ls [.int (zI rr_88)]) rfl ?_
            refine lv_istore (lv' := [(5, .int (zI rr_88)), (4, .int (zI rr_75)), (3, .int (zI rr_53)), (2, .int (zI tv)), (0, .ref x0), (1, .ref h0)]) hx hb dX3_readItem_91 hl (by decide) rfl (fun ls hl => ?_)
            refine lv_goto (tgt := 109) hx hb dX3_readItem_93 (by decide) ?_
            have jC : itR (itC ln bys n q) ft2_88 pl2_88 rr_88 := itC_1 (by omega) jB hp0_88 hp1_88
            refine lv_aload_n hx hb dX3_readItem_109 rfl (lv_at hl 4 rfl) ?_
            refine zv_callXV (As := []) (rest := []) (ws2 := fun u => [(x0, .inr (2, [.int (zI ln), .ref x1, .int (zI u.1), .int (zI u.2.1), .int (zI u.2.2.1), .int (zI u.2.2.2.1), .int (zI u.2.2.2.2)])), (x1, .inl (cI, 200, .inl (zA bys))), (h0, .inr (0, [.int (zI n), .ref h1, .ref h2, .ref h3, .ref h4])), (h1, .inl (cI, 9, .inl (zA so))), (h2, .inl (cI, 9, .inl (zA le))), (h3, .inl (cI, 9, .inl (zA ri))), (h4, .inl (cI, 9, .inl (zA ti)))]) ⟨hx, hb, hml, hown, hts⟩ (c_X3_takeItemEnd l dC dI cI cB cZ x0 x1 ln pl2_88 ft2_88 tk2_88 tS2_88 tv2_88 bys adK adV kt (by omega) (by exact hby) (by intro z; have y1 := (jC.2 z).1; have y2 := rC.2 (by have := jC.1; omega); omega) (by have := jC.1; omega)) (cwV 0 hts gX3_readItem_X3_takeItemEnd rfl rfl rfl (by decide +kernel) ⟨by rw [← hRM]; first | decide | (dsimp only; omega), by rw [← hRM]; first | decide | (dsimp only; omega)⟩) hP hD hS hA hK [0, 1] rfl (by decide) [0, 1, 2] rfl zX_bl (zX_go hEX hS) (fun _ => rfl) (fun _ => rfl) (q0 := 0) rfl rfl rfl rfl hl.1 rfl (Nat.le_of_ble_eq_true rfl) dX3_readItem_110 ⟨Nat.zero_le _, Nat.zero_le _⟩ (fun u H locs hpo hP hD hS => ?_)
            obtain ⟨pl2_110, ft2_110, tk2_110, tS2_110, tv2_110⟩ := u
            have hp0_110 : ft2_110 = (tEn ln bys ft2_88 pl2_88).1 := hpo.1
            have hp1_110 : ft2_110 = -1 → pl2_110 = (tEn ln bys ft2_88 pl2_88).2 := hpo.2
            have hP : va_P (dC, dI) vwCl [(x0, .inr (2, [.int (zI ln), .ref x1, .int (zI pl2_110), .int (zI ft2_110), .int (zI tk2_110), .int (zI tS2_110), .int (zI tv2_110)])), (x1, .inl (cI, 200, .inl (zA bys))), (h0, .inr (0, [.int (zI n), .ref h1, .ref h2, .ref h3, .ref h4])), (h1, .inl (cI, 9, .inl (zA so))), (h2, .inl (cI, 9, .inl (zA le))), (h3, .inl (cI, 9, .inl (zA ri))), (h4, .inl (cI, 9, .inl (zA ti)))] H := hP
            have hD : va_D A [(x0, .inr (2, [.int (zI ln), .ref x1, .int (zI pl2_110), .int (zI ft2_110), .int (zI tk2_110), .int (zI tS2_110), .int (zI tv2_110)])), (x1, .inl (cI, 200, .inl (zA bys))), (h0, .inr (0, [.int (zI n), .ref h1, .ref h2, .ref h3, .ref h4])), (h1, .inl (cI, 9, .inl (zA so))), (h2, .inl (cI, 9, .inl (zA le))), (h3, .inl (cI, 9, .inl (zA ri))), (h4, .inl (cI, 9, .inl (zA ti)))] := hD
            refine W.eq (g2 := F0 m 113 ls []) rfl ?_
            have jD := itD_1 jC hp0_110 hp1_110
            have rD := (itS_r (bys := bys) (n := n) hln hq).1
            rw [itS_y ⟨hK3, by omega⟩] at rD
            refine lv_aload_n hx hb dX3_readItem_113 rfl (lv_at hl 4 rfl) ?_
            refine va_get (D := (dC, dI)) (ci := 2) (v := .int (zI ft2_110)) (C := RX3) (T := TX3) (N := 7) hx hb hts in_X3 hown hK hP 0 rfl rfl 3 (by decide) w_2 (fun _ h9 => h9) rfl dX3_readItem_114 ?_
            refine zv_iconst hx hb dX3_readItem_117 ?_
            refine zv_icmp_ne (tgt := 131) hx hb (by omega) (by omega) dX3_readItem_118 (by decide) (fun c_118 => ?_) (fun c_118 => ?_)
            · rw [← hQQ]
              exact zw_vret hx hb hr hlocks (pl2_110, ft2_110, tk2_110, tS2_110, tv2_110, n, so, le, ri, ti) rfl ⟨(by rw [itS_y ⟨hK3, by omega⟩]; exact jD.1), (by intro z; first | (exfalso; exact absurd z c_118) | (rw [itS_y ⟨hK3, by omega⟩]; have zC := (itD_b jC hp0_110 z); have zB := itC_b (by omega) zC.1; have zA := itB_b zB; have zf := zC.2; exact ⟨by omega, jD.2 z, rfl, congrArg (zu so n) e3, congrArg (zu le n) (jA.2 (by have := jA.1; omega)).2, congrArg (zu ri n) (jB.2 (by have := jB.1; omega)).2, congrArg (zu ti n) (jC.2 (by have := jC.1; omega)).2⟩))⟩ hP hS dX3_readItem_131
            · refine lv_aload_n hx hb dX3_readItem_121 rfl (lv_at hl 5 rfl) ?_
              refine lv_iload_n hx hb dX3_readItem_122 rfl (lv_at hl 3 rfl) ?_
              refine lv_iload_n hx hb dX3_readItem_123 rfl (lv_at hl 2 rfl) ?_
              refine lv_iload hx hb dX3_readItem_124 (lv_at hl 1 rfl) ?_
              refine lv_iload hx hb dX3_readItem_126 (lv_at hl 0 rfl) ?_
              refine zv_callWV (As := [.int (zI tv), .int (zI rr_53), .int (zI rr_75), .int (zI rr_88)]) (rest := []) (ws2 := fun u => [(x0, .inr (2, [.int (zI ln), .ref x1, .int (zI pl2_110), .int (zI ft2_110), .int (zI tk2_110), .int (zI tS2_110), .int (zI tv2_110)])), (x1, .inl (cI, 200, .inl (zA bys))), (h0, .inr (0, [.int (zI (n + 1)), .ref h1, .ref h2, .ref h3, .ref h4])), (h1, .inl (cI, 9, .inl (zA (zu so n tv)))), (h2, .inl (cI, 9, .inl (zA (zu le n rr_53)))), (h3, .inl (cI, 9, .inl (zA (zu ri n rr_75)))), (h4, .inl (cI, 9, .inl (zA (zu ti n rr_88))))]) ⟨hx, hb, hml, hown, hts⟩ (c_X0_append l dC dI cI cB cZ h0 h1 h2 h3 h4 n so le ri ti tv rr_53 rr_75 rr_88 (by omega)) (cwV 4 hts gX3_readItem_X0_append rfl rfl rfl (by decide +kernel) ⟨by rw [← hRM]; first | decide | (dsimp only; omega), by rw [← hRM]; first | decide | (dsimp only; omega)⟩) hP hD hS hA hK [2, 3, 4, 5, 6] rfl (by decide) [0, 1, 2] rfl zN_bl (zN_go hE) (fun _ => rfl) (fun _ => rfl) (q0 := 0) rfl rfl rfl rfl hl.1 rfl (Nat.le_of_ble_eq_true rfl) dX3_readItem_128 ⟨Nat.zero_le _, Nat.zero_le _⟩ (fun u H locs hpo hP hD hS => ?_)
              have hP : va_P (dC, dI) vwCl [(x0, .inr (2, [.int (zI ln), .ref x1, .int (zI pl2_110), .int (zI ft2_110), .int (zI tk2_110), .int (zI tS2_110), .int (zI tv2_110)])), (x1, .inl (cI, 200, .inl (zA bys))), (h0, .inr (0, [.int (zI (n + 1)), .ref h1, .ref h2, .ref h3, .ref h4])), (h1, .inl (cI, 9, .inl (zA (zu so n tv)))), (h2, .inl (cI, 9, .inl (zA (zu le n rr_53)))), (h3, .inl (cI, 9, .inl (zA (zu ri n rr_75)))), (h4, .inl (cI, 9, .inl (zA (zu ti n rr_88))))] H := hP
              have hD : va_D A [(x0, .inr (2, [.int (zI ln), .ref x1, .int (zI pl2_110), .int (zI ft2_110), .int (zI tk2_110), .int (zI tS2_110), .int (zI tv2_110)])), (x1, .inl (cI, 200, .inl (zA bys))), (h0, .inr (0, [.int (zI (n + 1)), .ref h1, .ref h2, .ref h3, .ref h4])), (h1, .inl (cI, 9, .inl (zA (zu so n tv)))), (h2, .inl (cI, 9, .inl (zA (zu le n rr_53)))), (h3, .inl (cI, 9, .inl (zA (zu ri n rr_75)))), (h4, .inl (cI, 9, .inl (zA (zu ti n rr_88))))] := hD
              refine W.eq (g2 := F0 m 131 ls []) rfl ?_
              rw [← hQQ]
              exact zw_vret hx hb hr hlocks (pl2_110, ft2_110, tk2_110, tS2_110, tv2_110, (n + 1), (zu so n tv), (zu le n rr_53), (zu ri n rr_75), (zu ti n rr_88)) rfl ⟨(by rw [itS_y ⟨hK3, by omega⟩]; exact jD.1), (by intro z; first | (exfalso; exact absurd z c_118) | (rw [itS_y ⟨hK3, by omega⟩]; have zC := (itD_b jC hp0_110 z); have zB := itC_b (by omega) zC.1; have zA := itB_b zB; have zf := zC.2; exact ⟨by omega, jD.2 z, rfl, congrArg (zu so n) e3, congrArg (zu le n) (jA.2 (by have := jA.1; omega)).2, congrArg (zu ri n) (jB.2 (by have := jB.1; omega)).2, congrArg (zu ti n) (jC.2 (by have := jC.1; omega)).2⟩))⟩ hP hS dX3_readItem_131
        · refine lv_iload_n hx hb dX3_readItem_62 rfl (lv_at hl 3 rfl) ?_
          refine zv_iconst hx hb dX3_readItem_63 ?_
          refine zv_icmp_ne (tgt := 80) hx hb (by omega) (by omega) dX3_readItem_64 (by decide) (fun c_64 => ?_) (fun c_64 => ?_)
          · have jB : itR (itB ln bys n q) ft2_53 pl2_53 (-9) := itB_0 (by omega) jA
            refine lv_iload_n hx hb dX3_readItem_80 rfl (lv_at hl 3 rfl) ?_
            refine zv_iconst hx hb dX3_readItem_81 ?_
            refine zv_icmp_ne (tgt := 96) hx hb (by omega) (by omega) dX3_readItem_82 (by decide) (fun c_82 => ?_) (fun c_82 => ?_)
            · refine lv_iload_n hx hb dX3_readItem_96 rfl (lv_at hl 3 rfl) ?_
              refine zv_iconst hx hb dX3_readItem_97 ?_
              refine zv_icmp_ne (tgt := 109) hx hb (by omega) (by omega) dX3_readItem_98 (by decide) (fun c_98 => ?_) (fun c_98 => ?_)
              · exfalso; omega
              · refine lv_aload_n hx hb dX3_readItem_101 rfl (lv_at hl 4 rfl) ?_
                refine zv_iconst hx hb dX3_readItem_102 ?_
                refine zv_iconst hx hb dX3_readItem_103 ?_
                refine zv_callXV (As := [.int (zI 2), .int (zI 4)]) (rest := []) (ws2 := fun u => [(x0, .inr (2, [.int (zI ln), .ref x1, .int (zI u.1), .int (zI u.2.1), .int (zI u.2.2.1), .int (zI u.2.2.2.1), .int (zI u.2.2.2.2.1)])), (x1, .inl (cI, 200, .inl (zA bys))), (h0, .inr (0, [.int (zI n), .ref h1, .ref h2, .ref h3, .ref h4])), (h1, .inl (cI, 9, .inl (zA so))), (h2, .inl (cI, 9, .inl (zA le))), (h3, .inl (cI, 9, .inl (zA ri))), (h4, .inl (cI, 9, .inl (zA ti)))]) ⟨hx, hb, hml, hown, hts⟩ (c_X3_takeNumber l dC dI cI cB cZ x0 x1 ln pl2_53 ft2_53 tk2_53 tS2_53 tv2_53 bys adK adV kt 2 4 (by omega) (by exact hby) (by intro z; have y1 := (jB.2 z).1; have y2 := rB.2 (by have := jB.1; omega); omega) (by have := jB.1; omega) (by omega)) (cwV 2 hts gX3_readItem_X3_takeNumber rfl rfl rfl (by decide +kernel) ⟨by rw [← hRM]; first | decide | (dsimp only; omega), by rw [← hRM]; first | decide | (dsimp only; omega)⟩) hP hD hS hA hK [0, 1] rfl (by decide) [0, 1, 2] rfl zX_bl (zX_go hEX hS) (fun _ => rfl) (fun _ => rfl) (q0 := 0) rfl rfl rfl rfl hl.1 rfl (Nat.le_of_ble_eq_true rfl) dX3_readItem_104 ⟨Nat.zero_le _, Nat.zero_le _⟩ (fun u H locs hpo hP hD hS => ?_)
                obtain ⟨pl2_104, ft2_104, tk2_104, tS2_104, tv2_104, rr_104⟩ := u
                have hp0_104 : ft2_104 = (tN ln bys ft2_53 pl2_53 2 4).1 := hpo.1
                have hp1_104 : ft2_104 = -1 → pl2_104 = (tN ln bys ft2_53 pl2_53 2 4).2.1 ∧ rr_104 = (tN ln bys ft2_53 pl2_53 2 4).2.2 := hpo.2
                have hP : va_P (dC, dI) vwCl [(x0, .inr (2, [.int (zI ln), .ref x1, .int (zI pl2_104), .int (zI ft2_104), .int (zI tk2_104), .int (zI tS2_104), .int (zI tv2_104)])), (x1, .inl (cI, 200, .inl (zA bys))), (h0, .inr (0, [.int (zI n), .ref h1, .ref h2, .ref h3, .ref h4])), (h1, .inl (cI, 9, .inl (zA so))), (h2, .inl (cI, 9, .inl (zA le))), (h3, .inl (cI, 9, .inl (zA ri))), (h4, .inl (cI, 9, .inl (zA ti)))] H := hP
                have hD : va_D A [(x0, .inr (2, [.int (zI ln), .ref x1, .int (zI pl2_104), .int (zI ft2_104), .int (zI tk2_104), .int (zI tS2_104), .int (zI tv2_104)])), (x1, .inl (cI, 200, .inl (zA bys))), (h0, .inr (0, [.int (zI n), .ref h1, .ref h2, .ref h3, .ref h4])), (h1, .inl (cI, 9, .inl (zA so))), (h2, .inl (cI, 9, .inl (zA le))), (h3, .inl (cI, 9, .inl (zA ri))), (h4, .inl (cI, 9, .inl (zA ti)))] := hD
                refine W.eq (g2 := F0 m 107 ls [.int (zI rr_104)]) rfl ?_
                refine lv_istore (lv' := [(5, .int (zI rr_104)), (3, .int (zI rr_53)), (4, .int (zI ((-9)))), (2, .int (zI tv)), (0, .ref x0), (1, .ref h0)]) hx hb dX3_readItem_107 hl (by decide) rfl (fun ls hl => ?_)
                have jC : itR (itC ln bys n q) ft2_104 pl2_104 rr_104 := itC_3 (by omega) jB hp0_104 hp1_104
                refine lv_aload_n hx hb dX3_readItem_109 rfl (lv_at hl 4 rfl) ?_
                refine zv_callXV (As := []) (rest := []) (ws2 := fun u => [(x0, .inr (2, [.int (zI ln), .ref x1, .int (zI u.1), .int (zI u.2.1), .int (zI u.2.2.1), .int (zI u.2.2.2.1), .int (zI u.2.2.2.2)])), (x1, .inl (cI, 200, .inl (zA bys))), (h0, .inr (0, [.int (zI n), .ref h1, .ref h2, .ref h3, .ref h4])), (h1, .inl (cI, 9, .inl (zA so))), (h2, .inl (cI, 9, .inl (zA le))), (h3, .inl (cI, 9, .inl (zA ri))), (h4, .inl (cI, 9, .inl (zA ti)))]) ⟨hx, hb, hml, hown, hts⟩ (c_X3_takeItemEnd l dC dI cI cB cZ x0 x1 ln pl2_104 ft2_104 tk2_104 tS2_104 tv2_104 bys adK adV kt (by omega) (by exact hby) (by intro z; have y1 := (jC.2 z).1; have y2 := rC.2 (by have := jC.1; omega); omega) (by have := jC.1; omega)) (cwV 0 hts gX3_readItem_X3_takeItemEnd rfl rfl rfl (by decide +kernel) ⟨by rw [← hRM]; first | decide | (dsimp only; omega), by rw [← hRM]; first | decide | (dsimp only; omega)⟩) hP hD hS hA hK [0, 1] rfl (by decide) [0, 1, 2] rfl zX_bl (zX_go hEX hS) (fun _ => rfl) (fun _ => rfl) (q0 := 0) rfl rfl rfl rfl hl.1 rfl (Nat.le_of_ble_eq_true rfl) dX3_readItem_110 ⟨Nat.zero_le _, Nat.zero_le _⟩ (fun u H locs hpo hP hD hS => ?_)
                obtain ⟨pl2_110, ft2_110, tk2_110, tS2_110, tv2_110⟩ := u
                have hp0_110 : ft2_110 = (tEn ln bys ft2_104 pl2_104).1 := hpo.1
                have hp1_110 : ft2_110 = -1 → pl2_110 = (tEn ln bys ft2_104 pl2_104).2 := hpo.2
                have hP : va_P (dC, dI) vwCl [(x0, .inr (2, [.int (zI ln), .ref x1, .int (zI pl2_110), .int (zI ft2_110), .int (zI tk2_110), .int (zI tS2_110), .int (zI tv2_110)])), (x1, .inl (cI, 200, .inl (zA bys))), (h0, .inr (0, [.int (zI n), .ref h1, .ref h2, .ref h3, .ref h4])), (h1, .inl (cI, 9, .inl (zA so))), (h2, .inl (cI, 9, .inl (zA le))), (h3, .inl (cI, 9, .inl (zA ri))), (h4, .inl (cI, 9, .inl (zA ti)))] H := hP
                have hD : va_D A [(x0, .inr (2, [.int (zI ln), .ref x1, .int (zI pl2_110), .int (zI ft2_110), .int (zI tk2_110), .int (zI tS2_110), .int (zI tv2_110)])), (x1, .inl (cI, 200, .inl (zA bys))), (h0, .inr (0, [.int (zI n), .ref h1, .ref h2, .ref h3, .ref h4])), (h1, .inl (cI, 9, .inl (zA so))), (h2, .inl (cI, 9, .inl (zA le))), (h3, .inl (cI, 9, .inl (zA ri))), (h4, .inl (cI, 9, .inl (zA ti)))] := hD
                refine W.eq (g2 := F0 m 113 ls []) rfl ?_
                have jD := itD_1 jC hp0_110 hp1_110
                have rD := (itS_r (bys := bys) (n := n) hln hq).1
                rw [itS_y ⟨hK3, by omega⟩] at rD
                refine lv_aload_n hx hb dX3_readItem_113 rfl (lv_at hl 4 rfl) ?_
                refine va_get (D := (dC, dI)) (ci := 2) (v := .int (zI ft2_110)) (C := RX3) (T := TX3) (N := 7) hx hb hts in_X3 hown hK hP 0 rfl rfl 3 (by decide) w_2 (fun _ h9 => h9) rfl dX3_readItem_114 ?_
                refine zv_iconst hx hb dX3_readItem_117 ?_
                refine zv_icmp_ne (tgt := 131) hx hb (by omega) (by omega) dX3_readItem_118 (by decide) (fun c_118 => ?_) (fun c_118 => ?_)
                · rw [← hQQ]
                  exact zw_vret hx hb hr hlocks (pl2_110, ft2_110, tk2_110, tS2_110, tv2_110, n, so, le, ri, ti) rfl ⟨(by rw [itS_y ⟨hK3, by omega⟩]; exact jD.1), (by intro z; first | (exfalso; exact absurd z c_118) | (rw [itS_y ⟨hK3, by omega⟩]; have zC := (itD_b jC hp0_110 z); have zB := itC_b (by omega) zC.1; have zA := itB_b zB; have zf := zC.2; exact ⟨by omega, jD.2 z, rfl, congrArg (zu so n) e3, congrArg (zu le n) (jA.2 (by have := jA.1; omega)).2, congrArg (zu ri n) (jB.2 (by have := jB.1; omega)).2, congrArg (zu ti n) (jC.2 (by have := jC.1; omega)).2⟩))⟩ hP hS dX3_readItem_131
                · refine lv_aload_n hx hb dX3_readItem_121 rfl (lv_at hl 5 rfl) ?_
                  refine lv_iload_n hx hb dX3_readItem_122 rfl (lv_at hl 3 rfl) ?_
                  refine lv_iload_n hx hb dX3_readItem_123 rfl (lv_at hl 1 rfl) ?_
                  refine lv_iload hx hb dX3_readItem_124 (lv_at hl 2 rfl) ?_
                  refine lv_iload hx hb dX3_readItem_126 (lv_at hl 0 rfl) ?_
                  refine zv_callWV (As := [.int (zI tv), .int (zI rr_53), .int (zI ((-9))), .int (zI rr_104)]) (rest := []) (ws2 := fun u => [(x0, .inr (2, [.int (zI ln), .ref x1, .int (zI pl2_110), .int (zI ft2_110), .int (zI tk2_110), .int (zI tS2_110), .int (zI tv2_110)])), (x1, .inl (cI, 200, .inl (zA bys))), (h0, .inr (0, [.int (zI (n + 1)), .ref h1, .ref h2, .ref h3, .ref h4])), (h1, .inl (cI, 9, .inl (zA (zu so n tv)))), (h2, .inl (cI, 9, .inl (zA (zu le n rr_53)))), (h3, .inl (cI, 9, .inl (zA (zu ri n (-9))))), (h4, .inl (cI, 9, .inl (zA (zu ti n rr_104))))]) ⟨hx, hb, hml, hown, hts⟩ (c_X0_append l dC dI cI cB cZ h0 h1 h2 h3 h4 n so le ri ti tv rr_53 (-9) rr_104 (by omega)) (cwV 4 hts gX3_readItem_X0_append rfl rfl rfl (by decide +kernel) ⟨by rw [← hRM]; first | decide | (dsimp only; omega), by rw [← hRM]; first | decide | (dsimp only; omega)⟩) hP hD hS hA hK [2, 3, 4, 5, 6] rfl (by decide) [0, 1, 2] rfl zN_bl (zN_go hE) (fun _ => rfl) (fun _ => rfl) (q0 := 0) rfl rfl rfl rfl hl.1 rfl (Nat.le_of_ble_eq_true rfl) dX3_readItem_128 ⟨Nat.zero_le _, Nat.zero_le _⟩ (fun u H locs hpo hP hD hS => ?_)
                  have hP : va_P (dC, dI) vwCl [(x0, .inr (2, [.int (zI ln), .ref x1, .int (zI pl2_110), .int (zI ft2_110), .int (zI tk2_110), .int (zI tS2_110), .int (zI tv2_110)])), (x1, .inl (cI, 200, .inl (zA bys))), (h0, .inr (0, [.int (zI (n + 1)), .ref h1, .ref h2, .ref h3, .ref h4])), (h1, .inl (cI, 9, .inl (zA (zu so n tv)))), (h2, .inl (cI, 9, .inl (zA (zu le n rr_53)))), (h3, .inl (cI, 9, .inl (zA (zu ri n (-9))))), (h4, .inl (cI, 9, .inl (zA (zu ti n rr_104))))] H := hP
                  have hD : va_D A [(x0, .inr (2, [.int (zI ln), .ref x1, .int (zI pl2_110), .int (zI ft2_110), .int (zI tk2_110), .int (zI tS2_110), .int (zI tv2_110)])), (x1, .inl (cI, 200, .inl (zA bys))), (h0, .inr (0, [.int (zI (n + 1)), .ref h1, .ref h2, .ref h3, .ref h4])), (h1, .inl (cI, 9, .inl (zA (zu so n tv)))), (h2, .inl (cI, 9, .inl (zA (zu le n rr_53)))), (h3, .inl (cI, 9, .inl (zA (zu ri n (-9))))), (h4, .inl (cI, 9, .inl (zA (zu ti n rr_104))))] := hD
                  refine W.eq (g2 := F0 m 131 ls []) rfl ?_
                  rw [← hQQ]
                  exact zw_vret hx hb hr hlocks (pl2_110, ft2_110, tk2_110, tS2_110, tv2_110, (n + 1), (zu so n tv), (zu le n rr_53), (zu ri n (-9)), (zu ti n rr_104)) rfl ⟨(by rw [itS_y ⟨hK3, by omega⟩]; exact jD.1), (by intro z; first | (exfalso; exact absurd z c_118) | (rw [itS_y ⟨hK3, by omega⟩]; have zC := (itD_b jC hp0_110 z); have zB := itC_b (by omega) zC.1; have zA := itB_b zB; have zf := zC.2; exact ⟨by omega, jD.2 z, rfl, congrArg (zu so n) e3, congrArg (zu le n) (jA.2 (by have := jA.1; omega)).2, congrArg (zu ri n) (jB.2 (by have := jB.1; omega)).2, congrArg (zu ti n) (jC.2 (by have := jC.1; omega)).2⟩))⟩ hP hS dX3_readItem_131
            · exfalso; omega
          · refine lv_aload_n hx hb dX3_readItem_67 rfl (lv_at hl 4 rfl) ?_
            refine zv_iconst hx hb dX3_readItem_68 ?_
            refine lv_aload_n hx hb dX3_readItem_69 rfl (lv_at hl 5 rfl) ?_
            refine va_getN (D := (dC, dI)) (ci := 0) (v := .int (zI n)) (C := RX0) (T := TX0) (N := 5) hx hb hts in_X0 hown hK hP 2 rfl rfl 0 (by decide) n_19 (fun _ h9 => h9) rfl dX3_readItem_70 ?_
            refine zv_iconst hx hb dX3_readItem_73 ?_
            refine zv_isub hx hb dX3_readItem_74 ?_
            refine zv_callXV (As := [.int (zI 0), .int (zI (n - 1))]) (rest := []) (ws2 := fun u => [(x0, .inr (2, [.int (zI ln), .ref x1, .int (zI u.1), .int (zI u.2.1), .int (zI u.2.2.1), .int (zI u.2.2.2.1), .int (zI u.2.2.2.2.1)])), (x1, .inl (cI, 200, .inl (zA bys))), (h0, .inr (0, [.int (zI n), .ref h1, .ref h2, .ref h3, .ref h4])), (h1, .inl (cI, 9, .inl (zA so))), (h2, .inl (cI, 9, .inl (zA le))), (h3, .inl (cI, 9, .inl (zA ri))), (h4, .inl (cI, 9, .inl (zA ti)))]) ⟨hx, hb, hml, hown, hts⟩ (c_X3_takeNumber l dC dI cI cB cZ x0 x1 ln pl2_53 ft2_53 tk2_53 tS2_53 tv2_53 bys adK adV kt 0 (n - 1) (by omega) (by exact hby) (by intro z; have y1 := (jA.2 z).1; have y2 := rA.2 (by have := jA.1; omega); omega) (by have := jA.1; omega) (by omega)) (cwV 2 hts gX3_readItem_X3_takeNumber rfl rfl rfl (by decide +kernel) ⟨by rw [← hRM]; first | decide | (dsimp only; omega), by rw [← hRM]; first | decide | (dsimp only; omega)⟩) hP hD hS hA hK [0, 1] rfl (by decide) [0, 1, 2] rfl zX_bl (zX_go hEX hS) (fun _ => rfl) (fun _ => rfl) (q0 := 0) rfl rfl rfl rfl hl.1 rfl (Nat.le_of_ble_eq_true rfl) dX3_readItem_75 ⟨Nat.zero_le _, Nat.zero_le _⟩ (fun u H locs hpo hP hD hS => ?_)
            obtain ⟨pl2_75, ft2_75, tk2_75, tS2_75, tv2_75, rr_75⟩ := u
            have hp0_75 : ft2_75 = (tN ln bys ft2_53 pl2_53 0 (n - 1)).1 := hpo.1
            have hp1_75 : ft2_75 = -1 → pl2_75 = (tN ln bys ft2_53 pl2_53 0 (n - 1)).2.1 ∧ rr_75 = (tN ln bys ft2_53 pl2_53 0 (n - 1)).2.2 := hpo.2
            have hP : va_P (dC, dI) vwCl [(x0, .inr (2, [.int (zI ln), .ref x1, .int (zI pl2_75), .int (zI ft2_75), .int (zI tk2_75), .int (zI tS2_75), .int (zI tv2_75)])), (x1, .inl (cI, 200, .inl (zA bys))), (h0, .inr (0, [.int (zI n), .ref h1, .ref h2, .ref h3, .ref h4])), (h1, .inl (cI, 9, .inl (zA so))), (h2, .inl (cI, 9, .inl (zA le))), (h3, .inl (cI, 9, .inl (zA ri))), (h4, .inl (cI, 9, .inl (zA ti)))] H := hP
            have hD : va_D A [(x0, .inr (2, [.int (zI ln), .ref x1, .int (zI pl2_75), .int (zI ft2_75), .int (zI tk2_75), .int (zI tS2_75), .int (zI tv2_75)])), (x1, .inl (cI, 200, .inl (zA bys))), (h0, .inr (0, [.int (zI n), .ref h1, .ref h2, .ref h3, .ref h4])), (h1, .inl (cI, 9, .inl (zA so))), (h2, .inl (cI, 9, .inl (zA le))), (h3, .inl (cI, 9, .inl (zA ri))), (h4, .inl (cI, 9, .inl (zA ti)))] := hD
            refine W.eq (g2 := F0 m 78 ls [.int (zI rr_75)]) rfl ?_
            refine lv_istore (lv' := [(4, .int (zI rr_75)), (3, .int (zI rr_53)), (5, .int (zI 0)), (2, .int (zI tv)), (0, .ref x0), (1, .ref h0)]) hx hb dX3_readItem_78 hl (by decide) rfl (fun ls hl => ?_)
            have jB : itR (itB ln bys n q) ft2_75 pl2_75 rr_75 := itB_1 (by omega) jA hp0_75 hp1_75
            refine lv_iload_n hx hb dX3_readItem_80 rfl (lv_at hl 3 rfl) ?_
            refine zv_iconst hx hb dX3_readItem_81 ?_
            refine zv_icmp_ne (tgt := 96) hx hb (by omega) (by omega) dX3_readItem_82 (by decide) (fun c_82 => ?_) (fun c_82 => ?_)
            · refine lv_iload_n hx hb dX3_readItem_96 rfl (lv_at hl 3 rfl) ?_
              refine zv_iconst hx hb dX3_readItem_97 ?_
              refine zv_icmp_ne (tgt := 109) hx hb (by omega) (by omega) dX3_readItem_98 (by decide) (fun c_98 => ?_) (fun c_98 => ?_)
              · have jC : itR (itC ln bys n q) ft2_75 pl2_75 0 := itC_0 (by omega) jB
                refine lv_aload_n hx hb dX3_readItem_109 rfl (lv_at hl 4 rfl) ?_
                refine zv_callXV (As := []) (rest := []) (ws2 := fun u => [(x0, .inr (2, [.int (zI ln), .ref x1, .int (zI u.1), .int (zI u.2.1), .int (zI u.2.2.1), .int (zI u.2.2.2.1), .int (zI u.2.2.2.2)])), (x1, .inl (cI, 200, .inl (zA bys))), (h0, .inr (0, [.int (zI n), .ref h1, .ref h2, .ref h3, .ref h4])), (h1, .inl (cI, 9, .inl (zA so))), (h2, .inl (cI, 9, .inl (zA le))), (h3, .inl (cI, 9, .inl (zA ri))), (h4, .inl (cI, 9, .inl (zA ti)))]) ⟨hx, hb, hml, hown, hts⟩ (c_X3_takeItemEnd l dC dI cI cB cZ x0 x1 ln pl2_75 ft2_75 tk2_75 tS2_75 tv2_75 bys adK adV kt (by omega) (by exact hby) (by intro z; have y1 := (jC.2 z).1; have y2 := rC.2 (by have := jC.1; omega); omega) (by have := jC.1; omega)) (cwV 0 hts gX3_readItem_X3_takeItemEnd rfl rfl rfl (by decide +kernel) ⟨by rw [← hRM]; first | decide | (dsimp only; omega), by rw [← hRM]; first | decide | (dsimp only; omega)⟩) hP hD hS hA hK [0, 1] rfl (by decide) [0, 1, 2] rfl zX_bl (zX_go hEX hS) (fun _ => rfl) (fun _ => rfl) (q0 := 0) rfl rfl rfl rfl hl.1 rfl (Nat.le_of_ble_eq_true rfl) dX3_readItem_110 ⟨Nat.zero_le _, Nat.zero_le _⟩ (fun u H locs hpo hP hD hS => ?_)
                obtain ⟨pl2_110, ft2_110, tk2_110, tS2_110, tv2_110⟩ := u
                have hp0_110 : ft2_110 = (tEn ln bys ft2_75 pl2_75).1 := hpo.1
                have hp1_110 : ft2_110 = -1 → pl2_110 = (tEn ln bys ft2_75 pl2_75).2 := hpo.2
                have hP : va_P (dC, dI) vwCl [(x0, .inr (2, [.int (zI ln), .ref x1, .int (zI pl2_110), .int (zI ft2_110), .int (zI tk2_110), .int (zI tS2_110), .int (zI tv2_110)])), (x1, .inl (cI, 200, .inl (zA bys))), (h0, .inr (0, [.int (zI n), .ref h1, .ref h2, .ref h3, .ref h4])), (h1, .inl (cI, 9, .inl (zA so))), (h2, .inl (cI, 9, .inl (zA le))), (h3, .inl (cI, 9, .inl (zA ri))), (h4, .inl (cI, 9, .inl (zA ti)))] H := hP
                have hD : va_D A [(x0, .inr (2, [.int (zI ln), .ref x1, .int (zI pl2_110), .int (zI ft2_110), .int (zI tk2_110), .int (zI tS2_110), .int (zI tv2_110)])), (x1, .inl (cI, 200, .inl (zA bys))), (h0, .inr (0, [.int (zI n), .ref h1, .ref h2, .ref h3, .ref h4])), (h1, .inl (cI, 9, .inl (zA so))), (h2, .inl (cI, 9, .inl (zA le))), (h3, .inl (cI, 9, .inl (zA ri))), (h4, .inl (cI, 9, .inl (zA ti)))] := hD
                refine W.eq (g2 := F0 m 113 ls []) rfl ?_
                have jD := itD_1 jC hp0_110 hp1_110
                have rD := (itS_r (bys := bys) (n := n) hln hq).1
                rw [itS_y ⟨hK3, by omega⟩] at rD
                refine lv_aload_n hx hb dX3_readItem_113 rfl (lv_at hl 4 rfl) ?_
                refine va_get (D := (dC, dI)) (ci := 2) (v := .int (zI ft2_110)) (C := RX3) (T := TX3) (N := 7) hx hb hts in_X3 hown hK hP 0 rfl rfl 3 (by decide) w_2 (fun _ h9 => h9) rfl dX3_readItem_114 ?_
                refine zv_iconst hx hb dX3_readItem_117 ?_
                refine zv_icmp_ne (tgt := 131) hx hb (by omega) (by omega) dX3_readItem_118 (by decide) (fun c_118 => ?_) (fun c_118 => ?_)
                · rw [← hQQ]
                  exact zw_vret hx hb hr hlocks (pl2_110, ft2_110, tk2_110, tS2_110, tv2_110, n, so, le, ri, ti) rfl ⟨(by rw [itS_y ⟨hK3, by omega⟩]; exact jD.1), (by intro z; first | (exfalso; exact absurd z c_118) | (rw [itS_y ⟨hK3, by omega⟩]; have zC := (itD_b jC hp0_110 z); have zB := itC_b (by omega) zC.1; have zA := itB_b zB; have zf := zC.2; exact ⟨by omega, jD.2 z, rfl, congrArg (zu so n) e3, congrArg (zu le n) (jA.2 (by have := jA.1; omega)).2, congrArg (zu ri n) (jB.2 (by have := jB.1; omega)).2, congrArg (zu ti n) (jC.2 (by have := jC.1; omega)).2⟩))⟩ hP hS dX3_readItem_131
                · refine lv_aload_n hx hb dX3_readItem_121 rfl (lv_at hl 5 rfl) ?_
                  refine lv_iload_n hx hb dX3_readItem_122 rfl (lv_at hl 3 rfl) ?_
                  refine lv_iload_n hx hb dX3_readItem_123 rfl (lv_at hl 1 rfl) ?_
                  refine lv_iload hx hb dX3_readItem_124 (lv_at hl 0 rfl) ?_
                  refine lv_iload hx hb dX3_readItem_126 (lv_at hl 2 rfl) ?_
                  refine zv_callWV (As := [.int (zI tv), .int (zI rr_53), .int (zI rr_75), .int (zI 0)]) (rest := []) (ws2 := fun u => [(x0, .inr (2, [.int (zI ln), .ref x1, .int (zI pl2_110), .int (zI ft2_110), .int (zI tk2_110), .int (zI tS2_110), .int (zI tv2_110)])), (x1, .inl (cI, 200, .inl (zA bys))), (h0, .inr (0, [.int (zI (n + 1)), .ref h1, .ref h2, .ref h3, .ref h4])), (h1, .inl (cI, 9, .inl (zA (zu so n tv)))), (h2, .inl (cI, 9, .inl (zA (zu le n rr_53)))), (h3, .inl (cI, 9, .inl (zA (zu ri n rr_75)))), (h4, .inl (cI, 9, .inl (zA (zu ti n 0))))]) ⟨hx, hb, hml, hown, hts⟩ (c_X0_append l dC dI cI cB cZ h0 h1 h2 h3 h4 n so le ri ti tv rr_53 rr_75 0 (by omega)) (cwV 4 hts gX3_readItem_X0_append rfl rfl rfl (by decide +kernel) ⟨by rw [← hRM]; first | decide | (dsimp only; omega), by rw [← hRM]; first | decide | (dsimp only; omega)⟩) hP hD hS hA hK [2, 3, 4, 5, 6] rfl (by decide) [0, 1, 2] rfl zN_bl (zN_go hE) (fun _ => rfl) (fun _ => rfl) (q0 := 0) rfl rfl rfl rfl hl.1 rfl (Nat.le_of_ble_eq_true rfl) dX3_readItem_128 ⟨Nat.zero_le _, Nat.zero_le _⟩ (fun u H locs hpo hP hD hS => ?_)
                  have hP : va_P (dC, dI) vwCl [(x0, .inr (2, [.int (zI ln), .ref x1, .int (zI pl2_110), .int (zI ft2_110), .int (zI tk2_110), .int (zI tS2_110), .int (zI tv2_110)])), (x1, .inl (cI, 200, .inl (zA bys))), (h0, .inr (0, [.int (zI (n + 1)), .ref h1, .ref h2, .ref h3, .ref h4])), (h1, .inl (cI, 9, .inl (zA (zu so n tv)))), (h2, .inl (cI, 9, .inl (zA (zu le n rr_53)))), (h3, .inl (cI, 9, .inl (zA (zu ri n rr_75)))), (h4, .inl (cI, 9, .inl (zA (zu ti n 0))))] H := hP
                  have hD : va_D A [(x0, .inr (2, [.int (zI ln), .ref x1, .int (zI pl2_110), .int (zI ft2_110), .int (zI tk2_110), .int (zI tS2_110), .int (zI tv2_110)])), (x1, .inl (cI, 200, .inl (zA bys))), (h0, .inr (0, [.int (zI (n + 1)), .ref h1, .ref h2, .ref h3, .ref h4])), (h1, .inl (cI, 9, .inl (zA (zu so n tv)))), (h2, .inl (cI, 9, .inl (zA (zu le n rr_53)))), (h3, .inl (cI, 9, .inl (zA (zu ri n rr_75)))), (h4, .inl (cI, 9, .inl (zA (zu ti n 0))))] := hD
                  refine W.eq (g2 := F0 m 131 ls []) rfl ?_
                  rw [← hQQ]
                  exact zw_vret hx hb hr hlocks (pl2_110, ft2_110, tk2_110, tS2_110, tv2_110, (n + 1), (zu so n tv), (zu le n rr_53), (zu ri n rr_75), (zu ti n 0)) rfl ⟨(by rw [itS_y ⟨hK3, by omega⟩]; exact jD.1), (by intro z; first | (exfalso; exact absurd z c_118) | (rw [itS_y ⟨hK3, by omega⟩]; have zC := (itD_b jC hp0_110 z); have zB := itC_b (by omega) zC.1; have zA := itB_b zB; have zf := zC.2; exact ⟨by omega, jD.2 z, rfl, congrArg (zu so n) e3, congrArg (zu le n) (jA.2 (by have := jA.1; omega)).2, congrArg (zu ri n) (jB.2 (by have := jB.1; omega)).2, congrArg (zu ti n) (jC.2 (by have := jC.1; omega)).2⟩))⟩ hP hS dX3_readItem_131
              · exfalso; omega
            · exfalso; omega
    · refine lv_aload_n hx hb dX3_readItem_17 rfl (lv_at hl 0 rfl) ?_
      refine lv_aload_n hx hb dX3_readItem_18 rfl (lv_at hl 0 rfl) ?_
      refine va_get (D := (dC, dI)) (ci := 2) (v := .int (zI q)) (C := RX3) (T := TX3) (N := 7) hx hb hts in_X3 hown hK hP 0 rfl rfl 5 (by decide) w_1 (fun _ h9 => h9) rfl dX3_readItem_19 ?_
      refine va_put (D := (dC, dI)) (ci := 2) (v := .int (zI q)) (ty := .int) (C := RX3) (T := TX3) (N := 7) hx hb hts in_X3 tyX3 tyX3_ok nmX3 hown hK hP hD hS 0 rfl rfl 3 (by decide) w_2 (fun _ h9 => h9) rfl (by decide +kernel) rfl rfl (Nat.le_of_ble_eq_true rfl) dX3_readItem_22 (fun H locs hP hD hS => ?_)
      have hP : va_P (dC, dI) vwCl [(x0, .inr (2, [.int (zI ln), .ref x1, .int (zI pl), .int (zI q), .int (zI tk), .int (zI q), .int (zI tv)])), (x1, .inl (cI, 200, .inl (zA bys))), (h0, .inr (0, [.int (zI n), .ref h1, .ref h2, .ref h3, .ref h4])), (h1, .inl (cI, 9, .inl (zA so))), (h2, .inl (cI, 9, .inl (zA le))), (h3, .inl (cI, 9, .inl (zA ri))), (h4, .inl (cI, 9, .inl (zA ti)))] H := hP
      have hD : va_D A [(x0, .inr (2, [.int (zI ln), .ref x1, .int (zI pl), .int (zI q), .int (zI tk), .int (zI q), .int (zI tv)])), (x1, .inl (cI, 200, .inl (zA bys))), (h0, .inr (0, [.int (zI n), .ref h1, .ref h2, .ref h3, .ref h4])), (h1, .inl (cI, 9, .inl (zA so))), (h2, .inl (cI, 9, .inl (zA le))), (h3, .inl (cI, 9, .inl (zA ri))), (h4, .inl (cI, 9, .inl (zA ti)))] := hD
      rw [← hQQ]
      exact zw_vret hx hb hr hlocks (pl, q, tk, q, tv, n, so, le, ri, ti) rfl ⟨(by rw [itS_n (by intro z; first | (have := z.1; have h1 : ctk (kK ln bys q) = 1 := (by unfold ctk; rw [if_pos this]); omega) | (have := z.2; omega))]), (by intro z; exfalso; have z2 : q = -1 := z; omega)⟩ hP hS dX3_readItem_25
