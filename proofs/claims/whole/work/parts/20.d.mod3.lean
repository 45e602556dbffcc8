theorem ds_big : ∀ (b f : Nat) (v : Int), b < f → (10 : Int) ^ b ≤ v → b + 1 ≤ (ds f v).length
  | _, 0, v, h, _ => by omega
  | 0, f + 1, v, _, h => by
    rw [ds_step (by simp at h; omega)]
    simp
  | b + 1, f + 1, v, h, hv => by
    have hp : (0 : Int) < 10 ^ (b + 1) := Int.pow_pos (by decide)
    rw [ds_step (by omega)]
    rw [Int.pow_succ] at hv
    have := ds_big b f (v / 10) (by omega) (by omega)
    simp only [List.length_cons]
    omega
theorem mrow_ok {v rest rmv : Int} {pr : List Int} (h0 : 0 ≤ v) (hd : ds 10 v = pr ++ ds (10 - rmv).toNat rest) (hr : rest ≤ 0) (hl : (pr.length : Int) = rmv) (h9 : 0 ≤ rmv ∧ rmv ≤ 9) (ha : pr.all (fun d => d == 1 || d == 2) = true) : rowB v = true := by
  rw [ds_nil hr, List.append_nil] at hd
  have hv : v < 10 ^ 9 := by
    rcases (show v < 10 ^ 9 ∨ 10 ^ 9 ≤ v by omega) with q | q
    · exact q
    · exfalso
      have := ds_big 9 10 v (by omega) q
      rw [hd] at this
      omega
  refine rowB_intro ⟨h0, by omega⟩ ?_
  rw [hd]
  exact ha
theorem mrow_pos {v rest : Int} {pr : List Int} (hd : ds 10 v = pr ++ ds (10 - pr.length) rest) (h : pr.length < (ds 10 v).length) : 0 < rest := by
  rcases (show 0 < rest ∨ rest ≤ 0 by omega) with q | q
  · exact q
  · exfalso
    rw [ds_nil q, List.append_nil] at hd
    rw [hd] at h
    omega
theorem mz_rev {v d : Int} {pr t : List Int} (hd : ds 10 v = pr ++ d :: t) {k : Int} (h0 : 0 ≤ k) (hl : (pr.length : Int) = ((rw v).length : Int) - 1 - k) : mz v k = d - 1 := by
  have hlen : (rw v).length = pr.length + (t.length + 1) := by rw [rw_len, hd, List.length_append, List.length_cons]
  have e : rw v = t.reverse ++ (d :: pr.reverse) := by
    unfold rw
    rw [hd, List.reverse_append, List.reverse_cons, List.append_assoc]
    rfl
  unfold mz
  rw [e, show k.toNat = t.reverse.length by rw [List.length_reverse]; omega, List.getD_eq_getElem?_getD, List.getElem?_append_right (Nat.le_refl _), Nat.sub_self]
  rfl
theorem mz_01 {v j : Int} (h : rowB v = true) (h0 : 0 ≤ j) (h1 : j < ((rw v).length : Int)) : mz v j = 0 ∨ mz v j = 1 := by
  obtain ⟨d, t, -, -, e3, e4, -⟩ := rw_at h h0 h1
  omega
theorem rnT_z {so le ri ti : Int → Int} {lo n : Int} {st z z' : Int → Int} : ∀ i : Nat, (∀ j : Int, 0 ≤ j → j < (i : Int) → z j = z' j) → rnT so le ri ti lo n st z i = rnT so le ri ti lo n st z' i
  | 0, _ => rfl
  | i + 1, h => by
    show (goS so le ri ti lo (z (i : Int)) 9 (rnT so le ri ti lo n st z i) (n - 1)).1 = (goS so le ri ti lo (z' (i : Int)) 9 (rnT so le ri ti lo n st z' i) (n - 1)).1
    rw [rnT_z i (fun j h0 h1 => h j h0 (by omega)), h (i : Int) (by omega) (by omega)]
theorem rnC_z {so le ri ti : Int → Int} {lo n : Int} {st z z' : Int → Int} {i : Nat} (h : ∀ j : Int, 0 ≤ j → j ≤ (i : Int) → z j = z' j) : rnC so le ri ti lo n st z i = rnC so le ri ti lo n st z' i := by
  unfold rnC
  rw [rnT_z i (fun j h0 h1 => h j h0 (by omega)), h (i : Int) (by omega) (Int.le_refl _)]
theorem asN_all {a b : Int → Int} : ∀ n : Nat, asN a b n = true ↔ ∀ k : Int, 0 ≤ k → k < (n : Int) → a k = b k
  | 0 => ⟨fun _ k h0 h1 => by omega, fun _ => rfl⟩
  | n + 1 => by
    have ih := asN_all (a := a) (b := b) n
    show (asN a b n && decide (a (n : Int) = b (n : Int))) = true ↔ _
    rw [Bool.and_eq_true, ih, decide_eq_true_eq]
    constructor
    · intro h k h0 h1
      by_cases q : k = (n : Int)
      · rw [q]; exact h.2
      · exact h.1 k h0 (by omega)
    · intro h
      exact ⟨fun k h0 h1 => h k h0 (by omega), h (n : Int) (by omega) (by omega)⟩
theorem asN_pk {n : Int} {so le ri ti a b : Int → Int} (hh : hOk n so le ri ti) (ha : sOk n so ti a) (hb : sOk n so ti b) : asN a b n.toNat = true ↔ pk a = pk b := by
  have hn := hh.1
  rw [asN_all]
  constructor
  · intro h
    refine pk_cong (fun k h0 h1 => ?_)
    by_cases q : k < n
    · exact h k h0 (by omega)
    · rw [(ha k h0 h1).2.2 (by omega), (hb k h0 h1).2.2 (by omega)]
  · intro h k h0 h1
    exact pk_inj (sOk_s7 hh ha) (sOk_s7 hh hb) h h0 (by omega)
theorem trB_t {so le ri ti : Int → Int} {lod n : Int} {ts tc : Int → Int} {i : Int} (h : 0 ≤ i) (h1 : bZ (trK so le ri ti lod n ts tc i.toNat = true) ≠ 0) (h2 : (goS so le ri ti lod (ts i) 9 (trT so le ri ti lod n ts i.toNat) (n - 1)).2 = tc i) : bZ (trK so le ri ti lod n ts tc (i + 1).toNat = true) = 1 := bZ_t (trK_s h (Decidable.byContradiction (fun q => h1 (bZ_f q))) h2)
theorem trB_f1 {so le ri ti : Int → Int} {lod n : Int} {ts tc : Int → Int} {i : Int} (h : 0 ≤ i) (h1 : bZ (trK so le ri ti lod n ts tc i.toNat = true) = 0) : bZ (trK so le ri ti lod n ts tc (i + 1).toNat = true) = 0 := by
  refine bZ_f (fun q => ?_)
  rw [trK_e h, Bool.and_eq_true] at q
  rw [bZ_t q.1] at h1
  omega
theorem trB_f2 {so le ri ti : Int → Int} {lod n : Int} {ts tc : Int → Int} {i : Int} (h : 0 ≤ i) (h2 : ¬ (goS so le ri ti lod (ts i) 9 (trT so le ri ti lod n ts i.toNat) (n - 1)).2 = tc i) : bZ (trK so le ri ti lod n ts tc (i + 1).toNat = true) = 0 := by
  refine bZ_f (fun q => ?_)
  rw [trK_e h, Bool.and_eq_true] at q
  exact h2 (of_decide_eq_true q.2)
set_option maxHeartbeats 4000000 in
set_option maxRecDepth 100000 in
theorem c_X6_isRow (l : Launch) (dC : Nat → ClassId) (dI : Nat → Nat → Nat) (cI cB cZ : ClassId) (a0 : Nat) (a1 : Nat) (a2 : Nat) (a3 : Nat) (a4 : Nat) (a5 : Nat) (a6 : Nat) (a7 : Nat) (a8 : Nat) (a9 : Nat) (a10 : Nat) (a11 : Nat) (a12 : Nat) (a13 : Nat) (a14 : Nat) (a15 : Nat) (a16 : Nat) (a17 : Nat) (mtr : Int64) (tx : Int → Int) (ty : Int) (pa : Int → Int) (ms : Int → Int) (ml : Int → Int) (mr : Int → Int) (mt : Int → Int) (mat : Int) (mst : Int) (mso : Int) (mva : Int) (mfa : Int) (nw : Int → Int) (ik : Int → Int) (sd : Int → Int) (mlo : Int) (ra : Int → Int) (rm : Int) (bg : Int → Int) (to : Int → Int) (tm : Int) (cd : Int → Int) (fi : Int → Int) (tsz : Int → Int) (tcm : Int → Int) (tmy : Int) (mg : Int → Int) (v : Int) (hv : -2147483648 ≤ v ∧ v ≤ 2147483647) : MetW (S := (Int) × (Int → Int)) l yX6_isRow wsX6_isRow ({ frames := 1, cells := 0, slots := 0, locals := 22 }) (dC, dI) vwCl (zT cI cB cZ) zN [(a0, .inr (5, [.long mtr, .ref a1, .int (zI ty), .ref a2, .ref a3, .ref a4, .ref a5, .ref a6, .int (zI mat), .int (zI mst), .int (zI mso), .int (zI mva), .int (zI mfa), .ref a7, .ref a8, .ref a9, .int (zI mlo), .ref a10, .int (zI rm), .ref a11, .ref a12, .int (zI tm), .ref a13, .ref a14, .ref a15, .ref a16, .int (zI tmy), .ref a17])), (a1, .inl (cB, 200, .inl (zA tx))), (a2, .inl (cI, 2, .inl (zA pa))), (a3, .inl (cI, 18, .inl (zA ms))), (a4, .inl (cI, 18, .inl (zA ml))), (a5, .inl (cI, 18, .inl (zA mr))), (a6, .inl (cI, 18, .inl (zA mt))), (a7, .inl (cI, 1143, .inl (zA nw))), (a8, .inl (cZ, 2, .inl (zA ik))), (a9, .inl (cI, 9, .inl (zA sd))), (a10, .inl (cI, 9, .inl (zA ra))), (a11, .inl (cI, 9, .inl (zA bg))), (a12, .inl (cI, 4, .inl (zA to))), (a13, .inl (cI, 200, .inl (zA cd))), (a14, .inl (cI, 9, .inl (zA fi))), (a15, .inl (cI, 9, .inl (zA tsz))), (a16, .inl (cI, 9, .inl (zA tcm))), (a17, .inl (cI, 10, .inl (zA mg)))] [.ref a0, .int (zI v)] (fun u => some (.int (zI (bZ (rowB v = true))))) (fun u => [(a0, .inr (5, [.long mtr, .ref a1, .int (zI ty), .ref a2, .ref a3, .ref a4, .ref a5, .ref a6, .int (zI mat), .int (zI mst), .int (zI mso), .int (zI mva), .int (zI mfa), .ref a7, .ref a8, .ref a9, .int (zI mlo), .ref a10, .int (zI u.1), .ref a11, .ref a12, .int (zI tm), .ref a13, .ref a14, .ref a15, .ref a16, .int (zI tmy), .ref a17])), (a1, .inl (cB, 200, .inl (zA tx))), (a2, .inl (cI, 2, .inl (zA pa))), (a3, .inl (cI, 18, .inl (zA ms))), (a4, .inl (cI, 18, .inl (zA ml))), (a5, .inl (cI, 18, .inl (zA mr))), (a6, .inl (cI, 18, .inl (zA mt))), (a7, .inl (cI, 1143, .inl (zA nw))), (a8, .inl (cZ, 2, .inl (zA ik))), (a9, .inl (cI, 9, .inl (zA sd))), (a10, .inl (cI, 9, .inl (zA u.2))), (a11, .inl (cI, 9, .inl (zA bg))), (a12, .inl (cI, 4, .inl (zA to))), (a13, .inl (cI, 200, .inl (zA cd))), (a14, .inl (cI, 9, .inl (zA fi))), (a15, .inl (cI, 9, .inl (zA tsz))), (a16, .inl (cI, 9, .inl (zA tcm))), (a17, .inl (cI, 10, .inl (zA mg)))]) (fun u => (rowB v = true → u.1 = ((rw v).length : Int) ∧ ∀ j : Int, 0 ≤ j → j < u.1 → u.2 j = mz v j)) := by
  refine MetW.intro (cc := cX6_isRow) (maxL := 4) (ret := (some .boolean)) (by decide) rfl (Nat.le_of_ble_eq_true rfl) ?_
  intro p e s m args below meth c A hx hb hr hlocks hml hts hown hP hK hD hS hA hE ls hl
  have hown : s.vm.findClass RX6 = some m.cls := hown
  have hl : lv_has ls 4 [(0, .ref a0), (1, .int (zI v))] := hl
  generalize hRM : ({ frames := 1, cells := 0, slots := 0, locals := 22 } : Room) = RM
  generalize hQQ : MQ below (QW (S := (Int) × (Int → Int)) (dC, dI) vwCl A (fun u => some (.int (zI (bZ (rowB v = true))))) (fun u => [(a0, .inr (5, [.long mtr, .ref a1, .int (zI ty), .ref a2, .ref a3, .ref a4, .ref a5, .ref a6, .int (zI mat), .int (zI mst), .int (zI mso), .int (zI mva), .int (zI mfa), .ref a7, .ref a8, .ref a9, .int (zI mlo), .ref a10, .int (zI u.1), .ref a11, .ref a12, .int (zI tm), .ref a13, .ref a14, .ref a15, .ref a16, .int (zI tmy), .ref a17])), (a1, .inl (cB, 200, .inl (zA tx))), (a2, .inl (cI, 2, .inl (zA pa))), (a3, .inl (cI, 18, .inl (zA ms))), (a4, .inl (cI, 18, .inl (zA ml))), (a5, .inl (cI, 18, .inl (zA mr))), (a6, .inl (cI, 18, .inl (zA mt))), (a7, .inl (cI, 1143, .inl (zA nw))), (a8, .inl (cZ, 2, .inl (zA ik))), (a9, .inl (cI, 9, .inl (zA sd))), (a10, .inl (cI, 9, .inl (zA u.2))), (a11, .inl (cI, 9, .inl (zA bg))), (a12, .inl (cI, 4, .inl (zA to))), (a13, .inl (cI, 200, .inl (zA cd))), (a14, .inl (cI, 9, .inl (zA fi))), (a15, .inl (cI, 9, .inl (zA tsz))), (a16, .inl (cI, 9, .inl (zA tcm))), (a17, .inl (cI, 10, .inl (zA mg)))]) (fun u => (rowB v = true → u.1 = ((rw v).length : Int) ∧ ∀ j : Int, 0 ≤ j → j < u.1 → u.2 j = mz v j))) args s 0 0 A = QQ
  have in_X6 : ∀ w ∈ wsX60, w ∈ wsX6_isRow := by decide +kernel
  have w_0 := hts (.fieldLink RX6 39 "WallMarblesModel" "row" "[I") (by decide +kernel)
  have w_1 := hts (.fieldLink RX6 126 "WallMarblesModel" "rowMany" "I") (by decide +kernel)
  have cut67 : ∀ (nM : Nat) (rest : Int) (k : Int) (cur : Int → Int) (pr : List Int),  ((k + 1).toNat) < nM → (-1 ≤ k ∧ k < ((rw v).length : Int)) → (0 ≤ rest ∧ rest ≤ 999999999) → (rowB v = true) → ((pr.length : Int) = ((rw v).length : Int) - 1 - k) → (ds 10 v = pr ++ ds (10 - pr.length) rest) → (∀ j : Int, k < j → j < ((rw v).length : Int) → cur j = mz v j) → ∀ (H : Heap) (locs : List Loc), va_P (dC, dI) vwCl [(a0, .inr (5, [.long mtr, .ref a1, .int (zI ty), .ref a2, .ref a3, .ref a4, .ref a5, .ref a6, .int (zI mat), .int (zI mst), .int (zI mso), .int (zI mva), .int (zI mfa), .ref a7, .ref a8, .ref a9, .int (zI mlo), .ref a10, .int (zI (((rw v).length : Int))), .ref a11, .ref a12, .int (zI tm), .ref a13, .ref a14, .ref a15, .ref a16, .int (zI tmy), .ref a17])), (a1, .inl (cB, 200, .inl (zA tx))), (a2, .inl (cI, 2, .inl (zA pa))), (a3, .inl (cI, 18, .inl (zA ms))), (a4, .inl (cI, 18, .inl (zA ml))), (a5, .inl (cI, 18, .inl (zA mr))), (a6, .inl (cI, 18, .inl (zA mt))), (a7, .inl (cI, 1143, .inl (zA nw))), (a8, .inl (cZ, 2, .inl (zA ik))), (a9, .inl (cI, 9, .inl (zA sd))), (a10, .inl (cI, 9, .inl (zA cur))), (a11, .inl (cI, 9, .inl (zA bg))), (a12, .inl (cI, 4, .inl (zA to))), (a13, .inl (cI, 200, .inl (zA cd))), (a14, .inl (cI, 9, .inl (zA fi))), (a15, .inl (cI, 9, .inl (zA tsz))), (a16, .inl (cI, 9, .inl (zA tcm))), (a17, .inl (cI, 10, .inl (zA mg)))] H → va_D A [(a0, .inr (5, [.long mtr, .ref a1, .int (zI ty), .ref a2, .ref a3, .ref a4, .ref a5, .ref a6, .int (zI mat), .int (zI mst), .int (zI mso), .int (zI mva), .int (zI mfa), .ref a7, .ref a8, .ref a9, .int (zI mlo), .ref a10, .int (zI (((rw v).length : Int))), .ref a11, .ref a12, .int (zI tm), .ref a13, .ref a14, .ref a15, .ref a16, .int (zI tmy), .ref a17])), (a1, .inl (cB, 200, .inl (zA tx))), (a2, .inl (cI, 2, .inl (zA pa))), (a3, .inl (cI, 18, .inl (zA ms))), (a4, .inl (cI, 18, .inl (zA ml))), (a5, .inl (cI, 18, .inl (zA mr))), (a6, .inl (cI, 18, .inl (zA mt))), (a7, .inl (cI, 1143, .inl (zA nw))), (a8, .inl (cZ, 2, .inl (zA ik))), (a9, .inl (cI, 9, .inl (zA sd))), (a10, .inl (cI, 9, .inl (zA cur))), (a11, .inl (cI, 9, .inl (zA bg))), (a12, .inl (cI, 4, .inl (zA to))), (a13, .inl (cI, 200, .inl (zA cd))), (a14, .inl (cI, 9, .inl (zA fi))), (a15, .inl (cI, 9, .inl (zA tsz))), (a16, .inl (cI, 9, .inl (zA tcm))), (a17, .inl (cI, 10, .inl (zA mg)))] → va_S A s.heap H locs → ∀ ls : Array Slot, lv_has ls 4 [(0, .ref a0), (1, .int (zI v)), (2, .int (zI rest)), (3, .int (zI k))] → W p l e RM s m args below meth c H locs 0 0 QQ (F0 m 67 ls []) := by
    intro nM
    induction nM with
    | zero => intro rest k cur pr hmu; exact absurd hmu (Nat.not_lt_zero _)
    | succ nM ih67 =>
      intro rest k cur pr hmu hk hre hrow hpl hd hcu H locs hP hD hS ls hl
      have l9 := ds_len9 (rowB_rng hrow)
      have rl := rw_len v
      refine lv_iload_n hx hb dX6_isRow_67 rfl (lv_at hl 3 rfl) ?_
      refine zv_if_lt (tgt := 94) hx hb (by omega) dX6_isRow_68 (by decide) (fun c_68 => ?_) (fun c_68 => ?_)
      · refine zv_iconst hx hb dX6_isRow_94 ?_
        rw [← hQQ]
        exact zw_zret hx hb hr hlocks (by first | exact z_nar_bool | rfl) (((rw v).length : Int), cur) (congrArg (fun z => some (Value.int (zI z))) (show bZ (rowB v = true) = 1 from by exact bZ_t hrow)) (by intro z; exact ⟨rfl, fun j h0 h1 => hcu j (by omega) h1⟩) hP hS dX6_isRow_95
      · have hpos : 0 < rest := mrow_pos hd (by omega)
        have hd2 := ds_step (f := 9 - pr.length) hpos
        rw [show 10 - pr.length = (9 - pr.length) + 1 by omega, hd2] at hd
        have hz := mz_rev hd (k := k) (by omega) (by omega)
        refine lv_aload_n hx hb dX6_isRow_71 rfl (lv_at hl 0 rfl) ?_
        refine va_get (D := (dC, dI)) (ci := 5) (v := .ref a10) (C := RX6) (T := TX6) (N := 28) hx hb hts in_X6 hown hK hP 0 rfl rfl 17 (by decide) w_0 (fun _ h9 => h9) rfl dX6_isRow_72 ?_
        refine lv_iload_n hx hb dX6_isRow_75 rfl (lv_at hl 3 rfl) ?_
        refine lv_iload_n hx hb dX6_isRow_76 rfl (lv_at hl 2 rfl) ?_
        refine zv_bipush hx hb dX6_isRow_77 (by decide +kernel) ?_
        refine zv_irem hx hb (by omega) dX6_isRow_79 ?_
        refine zv_iconst hx hb dX6_isRow_80 ?_
        refine zv_isub hx hb dX6_isRow_81 ?_
        refine zv_iast (ws' := [(a0, .inr (5, [.long mtr, .ref a1, .int (zI ty), .ref a2, .ref a3, .ref a4, .ref a5, .ref a6, .int (zI mat), .int (zI mst), .int (zI mso), .int (zI mva), .int (zI mfa), .ref a7, .ref a8, .ref a9, .int (zI mlo), .ref a10, .int (zI (((rw v).length : Int))), .ref a11, .ref a12, .int (zI tm), .ref a13, .ref a14, .ref a15, .ref a16, .int (zI tmy), .ref a17])), (a1, .inl (cB, 200, .inl (zA tx))), (a2, .inl (cI, 2, .inl (zA pa))), (a3, .inl (cI, 18, .inl (zA ms))), (a4, .inl (cI, 18, .inl (zA ml))), (a5, .inl (cI, 18, .inl (zA mr))), (a6, .inl (cI, 18, .inl (zA mt))), (a7, .inl (cI, 1143, .inl (zA nw))), (a8, .inl (cZ, 2, .inl (zA ik))), (a9, .inl (cI, 9, .inl (zA sd))), (a10, .inl (cI, 9, .inl (zA (zu cur k ((rest % 10) - 1))))), (a11, .inl (cI, 9, .inl (zA bg))), (a12, .inl (cI, 4, .inl (zA to))), (a13, .inl (cI, 200, .inl (zA cd))), (a14, .inl (cI, 9, .inl (zA fi))), (a15, .inl (cI, 9, .inl (zA tsz))), (a16, .inl (cI, 9, .inl (zA tcm))), (a17, .inl (cI, 10, .inl (zA mg)))]) hx hb hK hP hD hS 10 0 rfl rfl (by omega) rfl dX6_isRow_82 (fun H locs hP hD hS => ?_)
        refine lv_iload_n hx hb dX6_isRow_83 rfl (lv_at hl 2 rfl) ?_
        refine zv_bipush hx hb dX6_isRow_84 (by decide +kernel) ?_
        refine zv_idiv hx hb (by omega) dX6_isRow_86 ?_
        refine lv_istore_n (lv' := [(2, .int (zI (rest / 10))), (0, .ref a0), (1, .int (zI v)), (3, .int (zI k))]) hx hb dX6_isRow_87 rfl hl (by decide) rfl (fun ls hl => ?_)
        refine zv_iinc (k := 3) (a := k) (n := (-1)) (lv' := [(3, .int (zI (k + (-1)))), (2, .int (zI (rest / 10))), (0, .ref a0), (1, .int (zI v))]) hx hb dX6_isRow_88 hl rfl (by decide) rfl (fun ls hl => ?_)
        refine lv_goto (tgt := 67) hx hb dX6_isRow_91 (by decide) ?_
        exact ih67 (rest / 10) (k + (-1)) (zu cur k ((rest % 10) - 1)) (pr ++ [rest % 10]) (by omega) (by omega) (by omega) (by exact hrow) (by simp <;> omega) (by rw [hd, show 10 - (pr ++ [rest % 10]).length = 9 - pr.length by simp <;> omega]; simp) (by intro j h0 h1; unfold zu; split; (rename_i z; rw [z]; exact hz.symm); exact hcu j (by omega) h1) _ _ hP hD hS _ (lv_sub hl [2, 3, 1, 0] rfl)
  have cut13 : ∀ (nM : Nat) (rest : Int) (rmv : Int) (pr : List Int),  rest.toNat < nM → (0 ≤ rest ∧ rest ≤ 2147483647) → (0 ≤ rmv ∧ rmv ≤ 9) → (ds 10 v = pr ++ ds (10 - rmv).toNat rest) → ((pr.length : Int) = rmv) → (pr.all (fun d => d == 1 || d == 2) = true) → (0 ≤ v) → ∀ (H : Heap) (locs : List Loc), va_P (dC, dI) vwCl [(a0, .inr (5, [.long mtr, .ref a1, .int (zI ty), .ref a2, .ref a3, .ref a4, .ref a5, .ref a6, .int (zI mat), .int (zI mst), .int (zI mso), .int (zI mva), .int (zI mfa), .ref a7, .ref a8, .ref a9, .int (zI mlo), .ref a10, .int (zI rmv), .ref a11, .ref a12, .int (zI tm), .ref a13, .ref a14, .ref a15, .ref a16, .int (zI tmy), .ref a17])), (a1, .inl (cB, 200, .inl (zA tx))), (a2, .inl (cI, 2, .inl (zA pa))), (a3, .inl (cI, 18, .inl (zA ms))), (a4, .inl (cI, 18, .inl (zA ml))), (a5, .inl (cI, 18, .inl (zA mr))), (a6, .inl (cI, 18, .inl (zA mt))), (a7, .inl (cI, 1143, .inl (zA nw))), (a8, .inl (cZ, 2, .inl (zA ik))), (a9, .inl (cI, 9, .inl (zA sd))), (a10, .inl (cI, 9, .inl (zA ra))), (a11, .inl (cI, 9, .inl (zA bg))), (a12, .inl (cI, 4, .inl (zA to))), (a13, .inl (cI, 200, .inl (zA cd))), (a14, .inl (cI, 9, .inl (zA fi))), (a15, .inl (cI, 9, .inl (zA tsz))), (a16, .inl (cI, 9, .inl (zA tcm))), (a17, .inl (cI, 10, .inl (zA mg)))] H → va_D A [(a0, .inr (5, [.long mtr, .ref a1, .int (zI ty), .ref a2, .ref a3, .ref a4, .ref a5, .ref a6, .int (zI mat), .int (zI mst), .int (zI mso), .int (zI mva), .int (zI mfa), .ref a7, .ref a8, .ref a9, .int (zI mlo), .ref a10, .int (zI rmv), .ref a11, .ref a12, .int (zI tm), .ref a13, .ref a14, .ref a15, .ref a16, .int (zI tmy), .ref a17])), (a1, .inl (cB, 200, .inl (zA tx))), (a2, .inl (cI, 2, .inl (zA pa))), (a3, .inl (cI, 18, .inl (zA ms))), (a4, .inl (cI, 18, .inl (zA ml))), (a5, .inl (cI, 18, .inl (zA mr))), (a6, .inl (cI, 18, .inl (zA mt))), (a7, .inl (cI, 1143, .inl (zA nw))), (a8, .inl (cZ, 2, .inl (zA ik))), (a9, .inl (cI, 9, .inl (zA sd))), (a10, .inl (cI, 9, .inl (zA ra))), (a11, .inl (cI, 9, .inl (zA bg))), (a12, .inl (cI, 4, .inl (zA to))), (a13, .inl (cI, 200, .inl (zA cd))), (a14, .inl (cI, 9, .inl (zA fi))), (a15, .inl (cI, 9, .inl (zA tsz))), (a16, .inl (cI, 9, .inl (zA tcm))), (a17, .inl (cI, 10, .inl (zA mg)))] → va_S A s.heap H locs → ∀ ls : Array Slot, lv_has ls 4 [(0, .ref a0), (1, .int (zI v)), (2, .int (zI rest))] → W p l e RM s m args below meth c H locs 0 0 QQ (F0 m 13 ls []) := by
    intro nM
    induction nM with
    | zero => intro rest rmv pr hmu; exact absurd hmu (Nat.not_lt_zero _)
    | succ nM ih13 =>
      intro rest rmv pr hmu hre hrm hd hpl hal hv0 H locs hP hD hS ls hl
      refine lv_iload_n hx hb dX6_isRow_13 rfl (lv_at hl 2 rfl) ?_
      refine zv_if_le (tgt := 58) hx hb (by omega) dX6_isRow_14 (by decide) (fun c_14 => ?_) (fun c_14 => ?_)
      · have hrow : rowB v = true := mrow_ok hv0 hd (by omega) hpl hrm hal
        have hrl : rmv = ((rw v).length : Int) := by rw [rw_len, hd, ds_nil (show rest ≤ 0 by omega), List.append_nil]; omega
        subst hrl
        have l9 := ds_len9 (rowB_rng hrow)
        have rl := rw_len v
        have rg := rowB_rng hrow
        refine lv_iload_n hx hb dX6_isRow_58 rfl (lv_at hl 1 rfl) ?_
        refine lv_istore_n (lv' := [(2, .int (zI v)), (0, .ref a0), (1, .int (zI v))]) hx hb dX6_isRow_59 rfl hl (by decide) rfl (fun ls hl => ?_)
        refine lv_aload_n hx hb dX6_isRow_60 rfl (lv_at hl 1 rfl) ?_
        refine va_get (D := (dC, dI)) (ci := 5) (v := .int (zI (((rw v).length : Int)))) (C := RX6) (T := TX6) (N := 28) hx hb hts in_X6 hown hK hP 0 rfl rfl 18 (by decide) w_1 (fun _ h9 => h9) rfl dX6_isRow_61 ?_
        refine zv_iconst hx hb dX6_isRow_64 ?_
        refine zv_isub hx hb dX6_isRow_65 ?_
        refine lv_istore_n (lv' := [(3, .int (zI ((((rw v).length : Int)) - 1))), (2, .int (zI v)), (0, .ref a0), (1, .int (zI v))]) hx hb dX6_isRow_66 rfl hl (by decide) rfl (fun ls hl => ?_)
        exact cut67 _ v ((((rw v).length : Int)) - 1) ra ([]) (Nat.lt_succ_self _) (by omega) (by omega) (by exact hrow) (by show ((0 : Nat) : Int) = _; omega) (by rfl) (by intro j h0 h1; omega) _ _ hP hD hS _ (lv_sub hl [2, 3, 1, 0] rfl)
      · have hd2 := ds_step (f := (9 - rmv).toNat) (show 0 < rest by omega)
        rw [show (10 - rmv).toNat = (9 - rmv).toNat + 1 by omega, hd2] at hd
        refine lv_aload_n hx hb dX6_isRow_17 rfl (lv_at hl 0 rfl) ?_
        refine va_get (D := (dC, dI)) (ci := 5) (v := .int (zI rmv)) (C := RX6) (T := TX6) (N := 28) hx hb hts in_X6 hown hK hP 0 rfl rfl 18 (by decide) w_1 (fun _ h9 => h9) rfl dX6_isRow_18 ?_
        refine zv_bipush hx hb dX6_isRow_21 (by decide +kernel) ?_
        refine zv_icmp_eq (tgt := 38) hx hb (by omega) (by omega) dX6_isRow_23 (by decide) (fun c_23 => ?_) (fun c_23 => ?_)
        · refine zv_iconst hx hb dX6_isRow_38 ?_
          rw [← hQQ]
          exact zw_zret hx hb hr hlocks (by first | exact z_nar_bool | rfl) (rmv, ra) (congrArg (fun z => some (Value.int (zI z))) (show bZ (rowB v = true) = 0 from by first | exact bZ_f (fun z => by have h1 := ds_len9 (rowB_rng z); rw [hd] at h1; simp at h1; omega) | exact bZ_f (fun z => by have := rowB_mem z (rest % 10) (by rw [hd]; simp); omega))) (by intro z; exfalso; first | (have h1 := ds_len9 (rowB_rng z); rw [hd] at h1; simp at h1; omega) | (have := rowB_mem z (rest % 10) (by rw [hd]; simp); omega)) hP hS dX6_isRow_39
        · refine lv_iload_n hx hb dX6_isRow_26 rfl (lv_at hl 2 rfl) ?_
          refine zv_bipush hx hb dX6_isRow_27 (by decide +kernel) ?_
          refine zv_irem hx hb (by omega) dX6_isRow_29 ?_
          refine zv_iconst hx hb dX6_isRow_30 ?_
          refine zv_iconst hx hb dX6_isRow_31 ?_
          refine zv_callRS (As := [.int (zI (rest % 10)), .int (zI 1), .int (zI 2)]) (rest := []) ⟨hx, hb, hml, hown, hts⟩ (c_X6_in l dC dI cI cB cZ (rest % 10) 1 2 (by omega) (by omega) (by omega)) (va_cwS 3 hts gX6_isRow_X6_in rfl rfl rfl (by decide +kernel) ⟨by rw [← hRM]; first | decide | (dsimp only; omega), by rw [← hRM]; first | decide | (dsimp only; omega)⟩) hP hK [] rfl [0, 1, 2] rfl zN_bl (zN_go hE) rfl hl.1 rfl (Nat.le_of_ble_eq_true rfl) dX6_isRow_32 ⟨Nat.zero_le _, Nat.zero_le _⟩ ?_
          refine zv_ifne_b (tgt := 40) hx hb dX6_isRow_35 (by decide) (fun c_35 => ?_) (fun c_35 => ?_)
          · refine lv_aload_n hx hb dX6_isRow_40 rfl (lv_at hl 0 rfl) ?_
            refine lv_dup hx hb dX6_isRow_41 rfl ?_
            refine va_get (D := (dC, dI)) (ci := 5) (v := .int (zI rmv)) (C := RX6) (T := TX6) (N := 28) hx hb hts in_X6 hown hK hP 0 rfl rfl 18 (by decide) w_1 (fun _ h9 => h9) rfl dX6_isRow_42 ?_
            refine zv_iconst hx hb dX6_isRow_45 ?_
            refine zv_iadd hx hb dX6_isRow_46 ?_
            refine va_put (D := (dC, dI)) (ci := 5) (v := .int (zI (rmv + 1))) (ty := .int) (C := RX6) (T := TX6) (N := 28) hx hb hts in_X6 tyX6 tyX6_ok nmX6 hown hK hP hD hS 0 rfl rfl 18 (by decide) w_1 (fun _ h9 => h9) rfl (by decide +kernel) rfl rfl (Nat.le_of_ble_eq_true rfl) dX6_isRow_47 (fun H locs hP hD hS => ?_)
            have hP : va_P (dC, dI) vwCl [(a0, .inr (5, [.long mtr, .ref a1, .int (zI ty), .ref a2, .ref a3, .ref a4, .ref a5, .ref a6, .int (zI mat), .int (zI mst), .int (zI mso), .int (zI mva), .int (zI mfa), .ref a7, .ref a8, .ref a9, .int (zI mlo), .ref a10, .int (zI (rmv + 1)), .ref a11, .ref a12, .int (zI tm), .ref a13, .ref a14, .ref a15, .ref a16, .int (zI tmy), .ref a17])), (a1, .inl (cB, 200, .inl (zA tx))), (a2, .inl (cI, 2, .inl (zA pa))), (a3, .inl (cI, 18, .inl (zA ms))), (a4, .inl (cI, 18, .inl (zA ml))), (a5, .inl (cI, 18, .inl (zA mr))), (a6, .inl (cI, 18, .inl (zA mt))), (a7, .inl (cI, 1143, .inl (zA nw))), (a8, .inl (cZ, 2, .inl (zA ik))), (a9, .inl (cI, 9, .inl (zA sd))), (a10, .inl (cI, 9, .inl (zA ra))), (a11, .inl (cI, 9, .inl (zA bg))), (a12, .inl (cI, 4, .inl (zA to))), (a13, .inl (cI, 200, .inl (zA cd))), (a14, .inl (cI, 9, .inl (zA fi))), (a15, .inl (cI, 9, .inl (zA tsz))), (a16, .inl (cI, 9, .inl (zA tcm))), (a17, .inl (cI, 10, .inl (zA mg)))] H := hP
            have hD : va_D A [(a0, .inr (5, [.long mtr, .ref a1, .int (zI ty), .ref a2, .ref a3, .ref a4, .ref a5, .ref a6, .int (zI mat), .int (zI mst), .int (zI mso), .int (zI mva), .int (zI mfa), .ref a7, .ref a8, .ref a9, .int (zI mlo), .ref a10, .int (zI (rmv + 1)), .ref a11, .ref a12, .int (zI tm), .ref a13, .ref a14, .ref a15, .ref a16, .int (zI tmy), .ref a17])), (a1, .inl (cB, 200, .inl (zA tx))), (a2, .inl (cI, 2, .inl (zA pa))), (a3, .inl (cI, 18, .inl (zA ms))), (a4, .inl (cI, 18, .inl (zA ml))), (a5, .inl (cI, 18, .inl (zA mr))), (a6, .inl (cI, 18, .inl (zA mt))), (a7, .inl (cI, 1143, .inl (zA nw))), (a8, .inl (cZ, 2, .inl (zA ik))), (a9, .inl (cI, 9, .inl (zA sd))), (a10, .inl (cI, 9, .inl (zA ra))), (a11, .inl (cI, 9, .inl (zA bg))), (a12, .inl (cI, 4, .inl (zA to))), (a13, .inl (cI, 200, .inl (zA cd))), (a14, .inl (cI, 9, .inl (zA fi))), (a15, .inl (cI, 9, .inl (zA tsz))), (a16, .inl (cI, 9, .inl (zA tcm))), (a17, .inl (cI, 10, .inl (zA mg)))] := hD
            refine lv_iload_n hx hb dX6_isRow_50 rfl (lv_at hl 2 rfl) ?_
            refine zv_bipush hx hb dX6_isRow_51 (by decide +kernel) ?_
            refine zv_idiv hx hb (by omega) dX6_isRow_53 ?_
            refine lv_istore_n (lv' := [(2, .int (zI (rest / 10))), (0, .ref a0), (1, .int (zI v))]) hx hb dX6_isRow_54 rfl hl (by decide) rfl (fun ls hl => ?_)
            refine lv_goto (tgt := 13) hx hb dX6_isRow_55 (by decide) ?_
            exact ih13 (rest / 10) (rmv + 1) (pr ++ [rest % 10]) (by omega) (by omega) (by omega) (by rw [hd, show (10 - (rmv + 1)).toNat = (9 - rmv).toNat by omega]; simp) (by simp <;> omega) (by simp [List.all_append] at hal ⊢; exact ⟨hal, by omega⟩) (by omega) _ _ hP hD hS _ (lv_sub hl [1, 2, 0] rfl)
          · refine zv_iconst hx hb dX6_isRow_38 ?_
            rw [← hQQ]
            exact zw_zret hx hb hr hlocks (by first | exact z_nar_bool | rfl) (rmv, ra) (congrArg (fun z => some (Value.int (zI z))) (show bZ (rowB v = true) = 0 from by first | exact bZ_f (fun z => by have h1 := ds_len9 (rowB_rng z); rw [hd] at h1; simp at h1; omega) | exact bZ_f (fun z => by have := rowB_mem z (rest % 10) (by rw [hd]; simp); omega))) (by intro z; exfalso; first | (have h1 := ds_len9 (rowB_rng z); rw [hd] at h1; simp at h1; omega) | (have := rowB_mem z (rest % 10) (by rw [hd]; simp); omega)) hP hS dX6_isRow_39
  refine lv_iload_n hx hb dX6_isRow_0 rfl (lv_at hl 1 rfl) ?_
  refine lv_istore_n (lv' := [(2, .int (zI v)), (0, .ref a0), (1, .int (zI v))]) hx hb dX6_isRow_1 rfl hl (by decide) rfl (fun ls hl => ?_)
  refine lv_aload_n hx hb dX6_isRow_2 rfl (lv_at hl 1 rfl) ?_
  refine zv_iconst hx hb dX6_isRow_3 ?_
  refine va_put (D := (dC, dI)) (ci := 5) (v := .int (zI 0)) (ty := .int) (C := RX6) (T := TX6) (N := 28) hx hb hts in_X6 tyX6 tyX6_ok nmX6 hown hK hP hD hS 0 rfl rfl 18 (by decide) w_1 (fun _ h9 => h9) rfl (by decide +kernel) rfl rfl (Nat.le_of_ble_eq_true rfl) dX6_isRow_4 (fun H locs hP hD hS => ?_)
  have hP : va_P (dC, dI) vwCl [(a0, .inr (5, [.long mtr, .ref a1, .int (zI ty), .ref a2, .ref a3, .ref a4, .ref a5, .ref a6, .int (zI mat), .int (zI mst), .int (zI mso), .int (zI mva), .int (zI mfa), .ref a7, .ref a8, .ref a9, .int (zI mlo), .ref a10, .int (zI 0), .ref a11, .ref a12, .int (zI tm), .ref a13, .ref a14, .ref a15, .ref a16, .int (zI tmy), .ref a17])), (a1, .inl (cB, 200, .inl (zA tx))), (a2, .inl (cI, 2, .inl (zA pa))), (a3, .inl (cI, 18, .inl (zA ms))), (a4, .inl (cI, 18, .inl (zA ml))), (a5, .inl (cI, 18, .inl (zA mr))), (a6, .inl (cI, 18, .inl (zA mt))), (a7, .inl (cI, 1143, .inl (zA nw))), (a8, .inl (cZ, 2, .inl (zA ik))), (a9, .inl (cI, 9, .inl (zA sd))), (a10, .inl (cI, 9, .inl (zA ra))), (a11, .inl (cI, 9, .inl (zA bg))), (a12, .inl (cI, 4, .inl (zA to))), (a13, .inl (cI, 200, .inl (zA cd))), (a14, .inl (cI, 9, .inl (zA fi))), (a15, .inl (cI, 9, .inl (zA tsz))), (a16, .inl (cI, 9, .inl (zA tcm))), (a17, .inl (cI, 10, .inl (zA mg)))] H := hP
  have hD : va_D A [(a0, .inr (5, [.long mtr, .ref a1, .int (zI ty), .ref a2, .ref a3, .ref a4, .ref a5, .ref a6, .int (zI mat), .int (zI mst), .int (zI mso), .int (zI mva), .int (zI mfa), .ref a7, .ref a8, .ref a9, .int (zI mlo), .ref a10, .int (zI 0), .ref a11, .ref a12, .int (zI tm), .ref a13, .ref a14, .ref a15, .ref a16, .int (zI tmy), .ref a17])), (a1, .inl (cB, 200, .inl (zA tx))), (a2, .inl (cI, 2, .inl (zA pa))), (a3, .inl (cI, 18, .inl (zA ms))), (a4, .inl (cI, 18, .inl (zA ml))), (a5, .inl (cI, 18, .inl (zA mr))), (a6, .inl (cI, 18, .inl (zA mt))), (a7, .inl (cI, 1143, .inl (zA nw))), (a8, .inl (cZ, 2, .inl (zA ik))), (a9, .inl (cI, 9, .inl (zA sd))), (a10, .inl (cI, 9, .inl (zA ra))), (a11, .inl (cI, 9, .inl (zA bg))), (a12, .inl (cI, 4, .inl (zA to))), (a13, .inl (cI, 200, .inl (zA cd))), (a14, .inl (cI, 9, .inl (zA fi))), (a15, .inl (cI, 9, .inl (zA tsz))), (a16, .inl (cI, 9, .inl (zA tcm))), (a17, .inl (cI, 10, .inl (zA mg)))] := hD
  refine lv_iload_n hx hb dX6_isRow_7 rfl (lv_at hl 2 rfl) ?_
  refine zv_if_ge (tgt := 13) hx hb (by omega) dX6_isRow_8 (by decide) (fun c_8 => ?_) (fun c_8 => ?_)
  · exact cut13 _ v 0 ([]) (Nat.lt_succ_self _) (by omega) (by omega) (by rfl) (by rfl) (by rfl) (by omega) _ _ hP hD hS _ (lv_sub hl [1, 2, 0] rfl)
  · refine zv_iconst hx hb dX6_isRow_11 ?_
    rw [← hQQ]
    exact zw_zret hx hb hr hlocks (by first | exact z_nar_bool | rfl) (0, ra) (congrArg (fun z => some (Value.int (zI z))) (show bZ (rowB v = true) = 0 from by exact bZ_f (fun z => by have := rowB_rng z; omega))) (by intro z; have := rowB_rng z; omega) hP hS dX6_isRow_12
set_option maxHeartbeats 4000000 in
set_option maxRecDepth 100000 in
theorem c_X6_bring (l : Launch) (dC : Nat → ClassId) (dI : Nat → Nat → Nat) (cI cB cZ : ClassId) (a0 : Nat) (a1 : Nat) (a2 : Nat) (a3 : Nat) (a4 : Nat) (a5 : Nat) (a6 : Nat) (a7 : Nat) (a8 : Nat) (a9 : Nat) (a10 : Nat) (a11 : Nat) (a12 : Nat) (a13 : Nat) (a14 : Nat) (a15 : Nat) (a16 : Nat) (a17 : Nat) (mtr : Int64) (tx : Int → Int) (ty : Int) (pa : Int → Int) (ms : Int → Int) (ml : Int → Int) (mr : Int → Int) (mt : Int → Int) (mat : Int) (mst : Int) (mso : Int) (mva : Int) (mfa : Int) (nw : Int → Int) (ik : Int → Int) (sd : Int → Int) (mlo : Int) (ra : Int → Int) (rm : Int) (bg : Int → Int) (to : Int → Int) (tm : Int) (cd : Int → Int) (fi : Int → Int) (tsz : Int → Int) (tcm : Int → Int) (tmy : Int) (mg : Int → Int) (hh : hOk (pa 0) ms ml mr mt) (hs : sOk (pa 0) ms mt nw) (hn1 : 1 ≤ pa 0) (hlo : -9 ≤ nw 18 ∧ nw 18 ≤ 8) (hrm : 0 ≤ rm ∧ rm ≤ 9) (hra : ∀ j : Int, 0 ≤ j → j < rm → ra j = 0 ∨ ra j = 1) : MetW (S := (Int → Int) × (Int → Int)) l yX6_bring wsX6_bring ({ frames := 1, cells := 0, slots := 0, locals := 24 }) (dC, dI) vwCl (zT cI cB cZ) zN [(a0, .inr (5, [.long mtr, .ref a1, .int (zI ty), .ref a2, .ref a3, .ref a4, .ref a5, .ref a6, .int (zI mat), .int (zI mst), .int (zI mso), .int (zI mva), .int (zI mfa), .ref a7, .ref a8, .ref a9, .int (zI mlo), .ref a10, .int (zI rm), .ref a11, .ref a12, .int (zI tm), .ref a13, .ref a14, .ref a15, .ref a16, .int (zI tmy), .ref a17])), (a1, .inl (cB, 200, .inl (zA tx))), (a2, .inl (cI, 2, .inl (zA pa))), (a3, .inl (cI, 18, .inl (zA ms))), (a4, .inl (cI, 18, .inl (zA ml))), (a5, .inl (cI, 18, .inl (zA mr))), (a6, .inl (cI, 18, .inl (zA mt))), (a7, .inl (cI, 1143, .inl (zA nw))), (a8, .inl (cZ, 2, .inl (zA ik))), (a9, .inl (cI, 9, .inl (zA sd))), (a10, .inl (cI, 9, .inl (zA ra))), (a11, .inl (cI, 9, .inl (zA bg))), (a12, .inl (cI, 4, .inl (zA to))), (a13, .inl (cI, 200, .inl (zA cd))), (a14, .inl (cI, 9, .inl (zA fi))), (a15, .inl (cI, 9, .inl (zA tsz))), (a16, .inl (cI, 9, .inl (zA tcm))), (a17, .inl (cI, 10, .inl (zA mg)))] [.ref a0] (fun u => none) (fun u => [(a0, .inr (5, [.long mtr, .ref a1, .int (zI ty), .ref a2, .ref a3, .ref a4, .ref a5, .ref a6, .int (zI mat), .int (zI mst), .int (zI mso), .int (zI mva), .int (zI mfa), .ref a7, .ref a8, .ref a9, .int (zI (nw 18)), .ref a10, .int (zI rm), .ref a11, .ref a12, .int (zI tm), .ref a13, .ref a14, .ref a15, .ref a16, .int (zI tmy), .ref a17])), (a1, .inl (cB, 200, .inl (zA tx))), (a2, .inl (cI, 2, .inl (zA pa))), (a3, .inl (cI, 18, .inl (zA ms))), (a4, .inl (cI, 18, .inl (zA ml))), (a5, .inl (cI, 18, .inl (zA mr))), (a6, .inl (cI, 18, .inl (zA mt))), (a7, .inl (cI, 1143, .inl (zA nw))), (a8, .inl (cZ, 2, .inl (zA ik))), (a9, .inl (cI, 9, .inl (zA u.1))), (a10, .inl (cI, 9, .inl (zA ra))), (a11, .inl (cI, 9, .inl (zA u.2))), (a12, .inl (cI, 4, .inl (zA to))), (a13, .inl (cI, 200, .inl (zA cd))), (a14, .inl (cI, 9, .inl (zA fi))), (a15, .inl (cI, 9, .inl (zA tsz))), (a16, .inl (cI, 9, .inl (zA tcm))), (a17, .inl (cI, 10, .inl (zA mg)))]) (fun u => (∀ j : Int, 0 ≤ j → j < rm → u.2 j = rnC ms ml mr mt (nw 18) (pa 0) nw ra j.toNat)) := by
  refine MetW.intro (cc := cX6_bring) (maxL := 2) (ret := none) (by decide) rfl (Nat.le_of_ble_eq_true rfl) ?_
  intro p e s m args below meth c A hx hb hr hlocks hml hts hown hP hK hD hS hA hE ls hl
  have hown : s.vm.findClass RX6 = some m.cls := hown
  have hl : lv_has ls 2 [(0, .ref a0)] := hl
  generalize hRM : ({ frames := 1, cells := 0, slots := 0, locals := 24 } : Room) = RM
  generalize hQQ : MQ below (QW (S := (Int → Int) × (Int → Int)) (dC, dI) vwCl A (fun u => none) (fun u => [(a0, .inr (5, [.long mtr, .ref a1, .int (zI ty), .ref a2, .ref a3, .ref a4, .ref a5, .ref a6, .int (zI mat), .int (zI mst), .int (zI mso), .int (zI mva), .int (zI mfa), .ref a7, .ref a8, .ref a9, .int (zI (nw 18)), .ref a10, .int (zI rm), .ref a11, .ref a12, .int (zI tm), .ref a13, .ref a14, .ref a15, .ref a16, .int (zI tmy), .ref a17])), (a1, .inl (cB, 200, .inl (zA tx))), (a2, .inl (cI, 2, .inl (zA pa))), (a3, .inl (cI, 18, .inl (zA ms))), (a4, .inl (cI, 18, .inl (zA ml))), (a5, .inl (cI, 18, .inl (zA mr))), (a6, .inl (cI, 18, .inl (zA mt))), (a7, .inl (cI, 1143, .inl (zA nw))), (a8, .inl (cZ, 2, .inl (zA ik))), (a9, .inl (cI, 9, .inl (zA u.1))), (a10, .inl (cI, 9, .inl (zA ra))), (a11, .inl (cI, 9, .inl (zA u.2))), (a12, .inl (cI, 4, .inl (zA to))), (a13, .inl (cI, 200, .inl (zA cd))), (a14, .inl (cI, 9, .inl (zA fi))), (a15, .inl (cI, 9, .inl (zA tsz))), (a16, .inl (cI, 9, .inl (zA tcm))), (a17, .inl (cI, 10, .inl (zA mg)))]) (fun u => (∀ j : Int, 0 ≤ j → j < rm → u.2 j = rnC ms ml mr mt (nw 18) (pa 0) nw ra j.toNat))) args s 0 0 A = QQ
  have in_X6 : ∀ w ∈ wsX60, w ∈ wsX6_bring := by decide +kernel
  have w_0 := hts (.fieldLink RX6 126 "WallMarblesModel" "rowMany" "I") (by decide +kernel)
  have w_1 := hts (.fieldLink RX6 42 "WallMarblesModel" "brought" "[I") (by decide +kernel)
  have w_2 := hts (.fieldLink RX6 39 "WallMarblesModel" "row" "[I") (by decide +kernel)
  have hn := hh.1
  have cut6 : ∀ (nM : Nat) (k : Int) (su : Int → Int) (cur : Int → Int),  ((rm - k).toNat) < nM → (0 ≤ k ∧ k ≤ rm) → (su = rnT ms ml mr mt (nw 18) (pa 0) nw ra k.toNat) → (sOk (pa 0) ms mt su) → (∀ j : Int, 0 ≤ j → j < k → cur j = rnC ms ml mr mt (nw 18) (pa 0) nw ra j.toNat) → ∀ (H : Heap) (locs : List Loc), va_P (dC, dI) vwCl [(a0, .inr (5, [.long mtr, .ref a1, .int (zI ty), .ref a2, .ref a3, .ref a4, .ref a5, .ref a6, .int (zI mat), .int (zI mst), .int (zI mso), .int (zI mva), .int (zI mfa), .ref a7, .ref a8, .ref a9, .int (zI (nw 18)), .ref a10, .int (zI rm), .ref a11, .ref a12, .int (zI tm), .ref a13, .ref a14, .ref a15, .ref a16, .int (zI tmy), .ref a17])), (a1, .inl (cB, 200, .inl (zA tx))), (a2, .inl (cI, 2, .inl (zA pa))), (a3, .inl (cI, 18, .inl (zA ms))), (a4, .inl (cI, 18, .inl (zA ml))), (a5, .inl (cI, 18, .inl (zA mr))), (a6, .inl (cI, 18, .inl (zA mt))), (a7, .inl (cI, 1143, .inl (zA nw))), (a8, .inl (cZ, 2, .inl (zA ik))), (a9, .inl (cI, 9, .inl (zA su))), (a10, .inl (cI, 9, .inl (zA ra))), (a11, .inl (cI, 9, .inl (zA cur))), (a12, .inl (cI, 4, .inl (zA to))), (a13, .inl (cI, 200, .inl (zA cd))), (a14, .inl (cI, 9, .inl (zA fi))), (a15, .inl (cI, 9, .inl (zA tsz))), (a16, .inl (cI, 9, .inl (zA tcm))), (a17, .inl (cI, 10, .inl (zA mg)))] H → va_D A [(a0, .inr (5, [.long mtr, .ref a1, .int (zI ty), .ref a2, .ref a3, .ref a4, .ref a5, .ref a6, .int (zI mat), .int (zI mst), .int (zI mso), .int (zI mva), .int (zI mfa), .ref a7, .ref a8, .ref a9, .int (zI (nw 18)), .ref a10, .int (zI rm), .ref a11, .ref a12, .int (zI tm), .ref a13, .ref a14, .ref a15, .ref a16, .int (zI tmy), .ref a17])), (a1, .inl (cB, 200, .inl (zA tx))), (a2, .inl (cI, 2, .inl (zA pa))), (a3, .inl (cI, 18, .inl (zA ms))), (a4, .inl (cI, 18, .inl (zA ml))), (a5, .inl (cI, 18, .inl (zA mr))), (a6, .inl (cI, 18, .inl (zA mt))), (a7, .inl (cI, 1143, .inl (zA nw))), (a8, .inl (cZ, 2, .inl (zA ik))), (a9, .inl (cI, 9, .inl (zA su))), (a10, .inl (cI, 9, .inl (zA ra))), (a11, .inl (cI, 9, .inl (zA cur))), (a12, .inl (cI, 4, .inl (zA to))), (a13, .inl (cI, 200, .inl (zA cd))), (a14, .inl (cI, 9, .inl (zA fi))), (a15, .inl (cI, 9, .inl (zA tsz))), (a16, .inl (cI, 9, .inl (zA tcm))), (a17, .inl (cI, 10, .inl (zA mg)))] → va_S A s.heap H locs → ∀ ls : Array Slot, lv_has ls 2 [(0, .ref a0), (1, .int (zI k))] → W p l e RM s m args below meth c H locs 0 0 QQ (F0 m 6 ls []) := by
    intro nM
    induction nM with
    | zero => intro k su cur hmu; exact absurd hmu (Nat.not_lt_zero _)
    | succ nM ih6 =>
      intro k su cur hmu hk hsu hso hcu H locs hP hD hS ls hl
      refine lv_iload_n hx hb dX6_bring_6 rfl (lv_at hl 1 rfl) ?_
      refine lv_aload_n hx hb dX6_bring_7 rfl (lv_at hl 0 rfl) ?_
      refine va_get (D := (dC, dI)) (ci := 5) (v := .int (zI rm)) (C := RX6) (T := TX6) (N := 28) hx hb hts in_X6 hown hK hP 0 rfl rfl 18 (by decide) w_0 (fun _ h9 => h9) rfl dX6_bring_8 ?_
      refine zv_icmp_ge (tgt := 36) hx hb (by omega) (by omega) dX6_bring_11 (by decide) (fun c_11 => ?_) (fun c_11 => ?_)
      · rw [← hQQ]
        exact zw_vret hx hb hr hlocks (su, cur) rfl (by intro j h0 h1; exact hcu j h0 (by omega)) hP hS dX6_bring_36
      · have z1 := hra k (by omega) (by omega)
        obtain ⟨g1, g2⟩ := goS_ok hh (nw 18) (ra k) 9 su (pa 0 - 1) (by omega) (by omega) hso
        refine lv_aload_n hx hb dX6_bring_14 rfl (lv_at hl 0 rfl) ?_
        refine va_get (D := (dC, dI)) (ci := 5) (v := .ref a11) (C := RX6) (T := TX6) (N := 28) hx hb hts in_X6 hown hK hP 0 rfl rfl 19 (by decide) w_1 (fun _ h9 => h9) rfl dX6_bring_15 ?_
        refine lv_iload_n hx hb dX6_bring_18 rfl (lv_at hl 1 rfl) ?_
        refine lv_aload_n hx hb dX6_bring_19 rfl (lv_at hl 0 rfl) ?_
        refine lv_aload_n hx hb dX6_bring_20 rfl (lv_at hl 0 rfl) ?_
        refine va_get (D := (dC, dI)) (ci := 5) (v := .ref a10) (C := RX6) (T := TX6) (N := 28) hx hb hts in_X6 hown hK hP 0 rfl rfl 17 (by decide) w_2 (fun _ h9 => h9) rfl dX6_bring_21 ?_
        refine lv_iload_n hx hb dX6_bring_24 rfl (lv_at hl 1 rfl) ?_
        refine zv_iald hx hb hK hP 10 0 rfl rfl (by omega) dX6_bring_25 ?_
        refine zv_callWVa (As := [.int (zI (ra k))]) (rest := [.int (zI k), .ref a11]) ⟨hx, hb, hml, hown, hts⟩ (c_X6_go l dC dI cI cB cZ a0 a1 a2 a3 a4 a5 a6 a7 a8 a9 a10 a11 a12 a13 a14 a15 a16 a17 mtr tx ty pa ms ml mr mt mat mst mso mva mfa nw ik su (nw 18) ra rm cur to tm cd fi tsz tcm tmy mg (ra k) (by exact hh) (by omega) (by exact hso) (by omega) (by omega)) (cwV 1 hts gX6_bring_X6_go rfl rfl rfl (by decide +kernel) ⟨by rw [← hRM]; first | decide | (dsimp only; omega), by rw [← hRM]; first | decide | (dsimp only; omega)⟩) hP hD hS hA hK zN_bl (zN_go hE) (fun _ => rfl) (q0 := 0) rfl rfl rfl rfl hl.1 rfl (Nat.le_of_ble_eq_true rfl) dX6_bring_26 ⟨Nat.zero_le _, Nat.zero_le _⟩ (fun u H locs hpo hP hD hS => ?_)
        obtain ⟨sd2_26, rfl⟩ : ∃ z, z = u := ⟨_, rfl⟩
        have hp0_26 : sd2_26 = (goS ms ml mr mt (nw 18) (ra k) 9 su (pa 0 - 1)).1 := hpo
        have hP : va_P (dC, dI) vwCl [(a0, .inr (5, [.long mtr, .ref a1, .int (zI ty), .ref a2, .ref a3, .ref a4, .ref a5, .ref a6, .int (zI mat), .int (zI mst), .int (zI mso), .int (zI mva), .int (zI mfa), .ref a7, .ref a8, .ref a9, .int (zI ((nw 18))), .ref a10, .int (zI rm), .ref a11, .ref a12, .int (zI tm), .ref a13, .ref a14, .ref a15, .ref a16, .int (zI tmy), .ref a17])), (a1, .inl (cB, 200, .inl (zA tx))), (a2, .inl (cI, 2, .inl (zA pa))), (a3, .inl (cI, 18, .inl (zA ms))), (a4, .inl (cI, 18, .inl (zA ml))), (a5, .inl (cI, 18, .inl (zA mr))), (a6, .inl (cI, 18, .inl (zA mt))), (a7, .inl (cI, 1143, .inl (zA nw))), (a8, .inl (cZ, 2, .inl (zA ik))), (a9, .inl (cI, 9, .inl (zA sd2_26))), (a10, .inl (cI, 9, .inl (zA ra))), (a11, .inl (cI, 9, .inl (zA cur))), (a12, .inl (cI, 4, .inl (zA to))), (a13, .inl (cI, 200, .inl (zA cd))), (a14, .inl (cI, 9, .inl (zA fi))), (a15, .inl (cI, 9, .inl (zA tsz))), (a16, .inl (cI, 9, .inl (zA tcm))), (a17, .inl (cI, 10, .inl (zA mg)))] H := hP
        have hD : va_D A [(a0, .inr (5, [.long mtr, .ref a1, .int (zI ty), .ref a2, .ref a3, .ref a4, .ref a5, .ref a6, .int (zI mat), .int (zI mst), .int (zI mso), .int (zI mva), .int (zI mfa), .ref a7, .ref a8, .ref a9, .int (zI ((nw 18))), .ref a10, .int (zI rm), .ref a11, .ref a12, .int (zI tm), .ref a13, .ref a14, .ref a15, .ref a16, .int (zI tmy), .ref a17])), (a1, .inl (cB, 200, .inl (zA tx))), (a2, .inl (cI, 2, .inl (zA pa))), (a3, .inl (cI, 18, .inl (zA ms))), (a4, .inl (cI, 18, .inl (zA ml))), (a5, .inl (cI, 18, .inl (zA mr))), (a6, .inl (cI, 18, .inl (zA mt))), (a7, .inl (cI, 1143, .inl (zA nw))), (a8, .inl (cZ, 2, .inl (zA ik))), (a9, .inl (cI, 9, .inl (zA sd2_26))), (a10, .inl (cI, 9, .inl (zA ra))), (a11, .inl (cI, 9, .inl (zA cur))), (a12, .inl (cI, 4, .inl (zA to))), (a13, .inl (cI, 200, .inl (zA cd))), (a14, .inl (cI, 9, .inl (zA fi))), (a15, .inl (cI, 9, .inl (zA tsz))), (a16, .inl (cI, 9, .inl (zA tcm))), (a17, .inl (cI, 10, .inl (zA mg)))] := hD
        refine W.eq (g2 := F0 m 29 ls [.int (zI ((goS ms ml mr mt (nw 18) (ra k) 9 su (pa 0 - 1)).2)), .int (zI k), .ref a11]) rfl ?_
        subst hp0_26
        refine zv_iast (ws' := [(a0, .inr (5, [.long mtr, .ref a1, .int (zI ty), .ref a2, .ref a3, .ref a4, .ref a5, .ref a6, .int (zI mat), .int (zI mst), .int (zI mso), .int (zI mva), .int (zI mfa), .ref a7, .ref a8, .ref a9, .int (zI ((nw 18))), .ref a10, .int (zI rm), .ref a11, .ref a12, .int (zI tm), .ref a13, .ref a14, .ref a15, .ref a16, .int (zI tmy), .ref a17])), (a1, .inl (cB, 200, .inl (zA tx))), (a2, .inl (cI, 2, .inl (zA pa))), (a3, .inl (cI, 18, .inl (zA ms))), (a4, .inl (cI, 18, .inl (zA ml))), (a5, .inl (cI, 18, .inl (zA mr))), (a6, .inl (cI, 18, .inl (zA mt))), (a7, .inl (cI, 1143, .inl (zA nw))), (a8, .inl (cZ, 2, .inl (zA ik))), (a9, .inl (cI, 9, .inl (zA ((goS ms ml mr mt (nw 18) (ra k) 9 su (pa 0 - 1)).1)))), (a10, .inl (cI, 9, .inl (zA ra))), (a11, .inl (cI, 9, .inl (zA (zu cur k ((goS ms ml mr mt (nw 18) (ra k) 9 su (pa 0 - 1)).2))))), (a12, .inl (cI, 4, .inl (zA to))), (a13, .inl (cI, 200, .inl (zA cd))), (a14, .inl (cI, 9, .inl (zA fi))), (a15, .inl (cI, 9, .inl (zA tsz))), (a16, .inl (cI, 9, .inl (zA tcm))), (a17, .inl (cI, 10, .inl (zA mg)))]) hx hb hK hP hD hS 11 0 rfl rfl (by omega) rfl dX6_bring_29 (fun H locs hP hD hS => ?_)
        refine zv_iinc (k := 1) (a := k) (n := 1) (lv' := [(1, .int (zI (k + 1))), (0, .ref a0)]) hx hb dX6_bring_30 hl rfl (by decide) rfl (fun ls hl => ?_)
        refine lv_goto (tgt := 6) hx hb dX6_bring_33 (by decide) ?_
        exact ih6 (k + 1) ((goS ms ml mr mt (nw 18) (ra k) 9 su (pa 0 - 1)).1) (zu cur k ((goS ms ml mr mt (nw 18) (ra k) 9 su (pa 0 - 1)).2)) (by omega) (by omega) (by rw [rnT_s (by omega), ← hsu]) (by exact g1) (by intro j h0 h1; unfold zu; split; (rename_i z; rw [z]; unfold rnC; rw [Int.toNat_of_nonneg (by omega), ← hsu]); exact hcu j h0 (by omega)) _ _ hP hD hS _ (lv_sub hl [1, 0] rfl)
  refine lv_aload_n hx hb dX6_bring_0 rfl (lv_at hl 0 rfl) ?_
  refine zv_callWVa (As := []) (rest := []) ⟨hx, hb, hml, hown, hts⟩ (c_X6_fromNow l dC dI cI cB cZ a0 a1 a2 a3 a4 a5 a6 a7 a8 a9 a10 a11 a12 a13 a14 a15 a16 a17 mtr tx ty pa ms ml mr mt mat mst mso mva mfa nw ik sd mlo ra rm bg to tm cd fi tsz tcm tmy mg ) (cwV 0 hts gX6_bring_X6_fromNow rfl rfl rfl (by decide +kernel) ⟨by rw [← hRM]; first | decide | (dsimp only; omega), by rw [← hRM]; first | decide | (dsimp only; omega)⟩) hP hD hS hA hK zN_bl (zN_go hE) (fun _ => rfl) (q0 := 0) rfl rfl rfl rfl hl.1 rfl (Nat.le_of_ble_eq_true rfl) dX6_bring_1 ⟨Nat.zero_le _, Nat.zero_le _⟩ (fun u H locs hpo hP hD hS => ?_)
  have hP : va_P (dC, dI) vwCl [(a0, .inr (5, [.long mtr, .ref a1, .int (zI ty), .ref a2, .ref a3, .ref a4, .ref a5, .ref a6, .int (zI mat), .int (zI mst), .int (zI mso), .int (zI mva), .int (zI mfa), .ref a7, .ref a8, .ref a9, .int (zI (nw 18)), .ref a10, .int (zI rm), .ref a11, .ref a12, .int (zI tm), .ref a13, .ref a14, .ref a15, .ref a16, .int (zI tmy), .ref a17])), (a1, .inl (cB, 200, .inl (zA tx))), (a2, .inl (cI, 2, .inl (zA pa))), (a3, .inl (cI, 18, .inl (zA ms))), (a4, .inl (cI, 18, .inl (zA ml))), (a5, .inl (cI, 18, .inl (zA mr))), (a6, .inl (cI, 18, .inl (zA mt))), (a7, .inl (cI, 1143, .inl (zA nw))), (a8, .inl (cZ, 2, .inl (zA ik))), (a9, .inl (cI, 9, .inl (zA nw))), (a10, .inl (cI, 9, .inl (zA ra))), (a11, .inl (cI, 9, .inl (zA bg))), (a12, .inl (cI, 4, .inl (zA to))), (a13, .inl (cI, 200, .inl (zA cd))), (a14, .inl (cI, 9, .inl (zA fi))), (a15, .inl (cI, 9, .inl (zA tsz))), (a16, .inl (cI, 9, .inl (zA tcm))), (a17, .inl (cI, 10, .inl (zA mg)))] H := hP
  have hD : va_D A [(a0, .inr (5, [.long mtr, .ref a1, .int (zI ty), .ref a2, .ref a3, .ref a4, .ref a5, .ref a6, .int (zI mat), .int (zI mst), .int (zI mso), .int (zI mva), .int (zI mfa), .ref a7, .ref a8, .ref a9, .int (zI (nw 18)), .ref a10, .int (zI rm), .ref a11, .ref a12, .int (zI tm), .ref a13, .ref a14, .ref a15, .ref a16, .int (zI tmy), .ref a17])), (a1, .inl (cB, 200, .inl (zA tx))), (a2, .inl (cI, 2, .inl (zA pa))), (a3, .inl (cI, 18, .inl (zA ms))), (a4, .inl (cI, 18, .inl (zA ml))), (a5, .inl (cI, 18, .inl (zA mr))), (a6, .inl (cI, 18, .inl (zA mt))), (a7, .inl (cI, 1143, .inl (zA nw))), (a8, .inl (cZ, 2, .inl (zA ik))), (a9, .inl (cI, 9, .inl (zA nw))), (a10, .inl (cI, 9, .inl (zA ra))), (a11, .inl (cI, 9, .inl (zA bg))), (a12, .inl (cI, 4, .inl (zA to))), (a13, .inl (cI, 200, .inl (zA cd))), (a14, .inl (cI, 9, .inl (zA fi))), (a15, .inl (cI, 9, .inl (zA tsz))), (a16, .inl (cI, 9, .inl (zA tcm))), (a17, .inl (cI, 10, .inl (zA mg)))] := hD
  refine W.eq (g2 := F0 m 4 ls []) rfl ?_
  refine zv_iconst hx hb dX6_bring_4 ?_
  refine lv_istore_n (lv' := [(1, .int (zI 0)), (0, .ref a0)]) hx hb dX6_bring_5 rfl hl (by decide) rfl (fun ls hl => ?_)
  exact cut6 _ 0 nw bg (Nat.lt_succ_self _) (by omega) (by rfl) (by exact hs) (by intro j h0 h1; omega) _ _ hP hD hS _ (lv_sub hl [1, 0] rfl)
set_option maxHeartbeats 4000000 in
set_option maxRecDepth 100000 in
theorem c_X6_brings (l : Launch) (dC : Nat → ClassId) (dI : Nat → Nat → Nat) (cI cB cZ : ClassId) (a0 : Nat) (a1 : Nat) (a2 : Nat) (a3 : Nat) (a4 : Nat) (a5 : Nat) (a6 : Nat) (a7 : Nat) (a8 : Nat) (a9 : Nat) (a10 : Nat) (a11 : Nat) (a12 : Nat) (a13 : Nat) (a14 : Nat) (a15 : Nat) (a16 : Nat) (a17 : Nat) (mtr : Int64) (tx : Int → Int) (ty : Int) (pa : Int → Int) (ms : Int → Int) (ml : Int → Int) (mr : Int → Int) (mt : Int → Int) (mat : Int) (mst : Int) (mso : Int) (mva : Int) (mfa : Int) (nw : Int → Int) (ik : Int → Int) (sd : Int → Int) (mlo : Int) (ra : Int → Int) (rm : Int) (bg : Int → Int) (to : Int → Int) (tm : Int) (cd : Int → Int) (fi : Int → Int) (tsz : Int → Int) (tcm : Int → Int) (tmy : Int) (mg : Int → Int) (v : Int) (i : Int) (hh : hOk (pa 0) ms ml mr mt) (hs : sOk (pa 0) ms mt nw) (hlo : -9 ≤ nw 18 ∧ nw 18 ≤ 8) (hv : -2147483648 ≤ v ∧ v ≤ 2147483647) (hi : -2147483648 ≤ i ∧ i ≤ 2147483647) : MetW (S := (Int → Int) × (Int) × (Int) × (Int → Int) × (Int → Int)) l yX6_brings wsX6_brings ({ frames := 2, cells := 0, slots := 0, locals := 45 }) (dC, dI) vwCl (zT cI cB cZ) zN [(a0, .inr (5, [.long mtr, .ref a1, .int (zI ty), .ref a2, .ref a3, .ref a4, .ref a5, .ref a6, .int (zI mat), .int (zI mst), .int (zI mso), .int (zI mva), .int (zI mfa), .ref a7, .ref a8, .ref a9, .int (zI mlo), .ref a10, .int (zI rm), .ref a11, .ref a12, .int (zI tm), .ref a13, .ref a14, .ref a15, .ref a16, .int (zI tmy), .ref a17])), (a1, .inl (cB, 200, .inl (zA tx))), (a2, .inl (cI, 2, .inl (zA pa))), (a3, .inl (cI, 18, .inl (zA ms))), (a4, .inl (cI, 18, .inl (zA ml))), (a5, .inl (cI, 18, .inl (zA mr))), (a6, .inl (cI, 18, .inl (zA mt))), (a7, .inl (cI, 1143, .inl (zA nw))), (a8, .inl (cZ, 2, .inl (zA ik))), (a9, .inl (cI, 9, .inl (zA sd))), (a10, .inl (cI, 9, .inl (zA ra))), (a11, .inl (cI, 9, .inl (zA bg))), (a12, .inl (cI, 4, .inl (zA to))), (a13, .inl (cI, 200, .inl (zA cd))), (a14, .inl (cI, 9, .inl (zA fi))), (a15, .inl (cI, 9, .inl (zA tsz))), (a16, .inl (cI, 9, .inl (zA tcm))), (a17, .inl (cI, 10, .inl (zA mg)))] [.ref a0, .int (zI v), .int (zI i)] (fun u => some (.int (zI (q_brings ms ml mr mt (nw 18) (pa 0) nw v i)))) (fun u => [(a0, .inr (5, [.long mtr, .ref a1, .int (zI ty), .ref a2, .ref a3, .ref a4, .ref a5, .ref a6, .int (zI mat), .int (zI mst), .int (zI mso), .int (zI mva), .int (zI mfa), .ref a7, .ref a8, .ref a9, .int (zI u.2.1), .ref a10, .int (zI u.2.2.1), .ref a11, .ref a12, .int (zI tm), .ref a13, .ref a14, .ref a15, .ref a16, .int (zI tmy), .ref a17])), (a1, .inl (cB, 200, .inl (zA tx))), (a2, .inl (cI, 2, .inl (zA pa))), (a3, .inl (cI, 18, .inl (zA ms))), (a4, .inl (cI, 18, .inl (zA ml))), (a5, .inl (cI, 18, .inl (zA mr))), (a6, .inl (cI, 18, .inl (zA mt))), (a7, .inl (cI, 1143, .inl (zA nw))), (a8, .inl (cZ, 2, .inl (zA ik))), (a9, .inl (cI, 9, .inl (zA u.1))), (a10, .inl (cI, 9, .inl (zA u.2.2.2.1))), (a11, .inl (cI, 9, .inl (zA u.2.2.2.2))), (a12, .inl (cI, 4, .inl (zA to))), (a13, .inl (cI, 200, .inl (zA cd))), (a14, .inl (cI, 9, .inl (zA fi))), (a15, .inl (cI, 9, .inl (zA tsz))), (a16, .inl (cI, 9, .inl (zA tcm))), (a17, .inl (cI, 10, .inl (zA mg)))]) (fun u => True) := by
  refine MetW.intro (cc := cX6_brings) (maxL := 3) (ret := (some .int)) (by decide) rfl (Nat.le_of_ble_eq_true rfl) ?_
  intro p e s m args below meth c A hx hb hr hlocks hml hts hown hP hK hD hS hA hE ls hl
  have hown : s.vm.findClass RX6 = some m.cls := hown
  have hl : lv_has ls 3 [(0, .ref a0), (1, .int (zI v)), (2, .int (zI i))] := hl
  generalize hRM : ({ frames := 2, cells := 0, slots := 0, locals := 45 } : Room) = RM
  generalize hQQ : MQ below (QW (S := (Int → Int) × (Int) × (Int) × (Int → Int) × (Int → Int)) (dC, dI) vwCl A (fun u => some (.int (zI (q_brings ms ml mr mt (nw 18) (pa 0) nw v i)))) (fun u => [(a0, .inr (5, [.long mtr, .ref a1, .int (zI ty), .ref a2, .ref a3, .ref a4, .ref a5, .ref a6, .int (zI mat), .int (zI mst), .int (zI mso), .int (zI mva), .int (zI mfa), .ref a7, .ref a8, .ref a9, .int (zI u.2.1), .ref a10, .int (zI u.2.2.1), .ref a11, .ref a12, .int (zI tm), .ref a13, .ref a14, .ref a15, .ref a16, .int (zI tmy), .ref a17])), (a1, .inl (cB, 200, .inl (zA tx))), (a2, .inl (cI, 2, .inl (zA pa))), (a3, .inl (cI, 18, .inl (zA ms))), (a4, .inl (cI, 18, .inl (zA ml))), (a5, .inl (cI, 18, .inl (zA mr))), (a6, .inl (cI, 18, .inl (zA mt))), (a7, .inl (cI, 1143, .inl (zA nw))), (a8, .inl (cZ, 2, .inl (zA ik))), (a9, .inl (cI, 9, .inl (zA u.1))), (a10, .inl (cI, 9, .inl (zA u.2.2.2.1))), (a11, .inl (cI, 9, .inl (zA u.2.2.2.2))), (a12, .inl (cI, 4, .inl (zA to))), (a13, .inl (cI, 200, .inl (zA cd))), (a14, .inl (cI, 9, .inl (zA fi))), (a15, .inl (cI, 9, .inl (zA tsz))), (a16, .inl (cI, 9, .inl (zA tcm))), (a17, .inl (cI, 10, .inl (zA mg)))]) (fun u => True)) args s 0 0 A = QQ
  have in_X6 : ∀ w ∈ wsX60, w ∈ wsX6_brings := by decide +kernel
  have w_0 := hts (.fieldLink RX6 13 "WallMarblesModel" "parts" "[I") (by decide +kernel)
  have w_1 := hts (.fieldLink RX6 126 "WallMarblesModel" "rowMany" "I") (by decide +kernel)
  have w_2 := hts (.fieldLink RX6 42 "WallMarblesModel" "brought" "[I") (by decide +kernel)
  have hn := hh.1
  refine lv_aload_n hx hb dX6_brings_0 rfl (lv_at hl 0 rfl) ?_
  refine lv_iload_n hx hb dX6_brings_1 rfl (lv_at hl 1 rfl) ?_
  refine zv_callWVa (As := [.int (zI v)]) (rest := []) ⟨hx, hb, hml, hown, hts⟩ (c_X6_isRow l dC dI cI cB cZ a0 a1 a2 a3 a4 a5 a6 a7 a8 a9 a10 a11 a12 a13 a14 a15 a16 a17 mtr tx ty pa ms ml mr mt mat mst mso mva mfa nw ik sd mlo ra rm bg to tm cd fi tsz tcm tmy mg v (by omega)) (cwV 1 hts gX6_brings_X6_isRow rfl rfl rfl (by decide +kernel) ⟨by rw [← hRM]; first | decide | (dsimp only; omega), by rw [← hRM]; first | decide | (dsimp only; omega)⟩) hP hD hS hA hK zN_bl (zN_go hE) (fun _ => rfl) (q0 := 0) rfl rfl rfl rfl hl.1 rfl (Nat.le_of_ble_eq_true rfl) dX6_brings_2 ⟨Nat.zero_le _, Nat.zero_le _⟩ (fun u H locs hpo hP hD hS => ?_)
  obtain ⟨rm2_2, ra2_2⟩ := u
  have hp0_2 : rowB v = true → rm2_2 = ((rw v).length : Int) ∧ ∀ j : Int, 0 ≤ j → j < rm2_2 → ra2_2 j = mz v j := hpo
  have hP : va_P (dC, dI) vwCl [(a0, .inr (5, [.long mtr, .ref a1, .int (zI ty), .ref a2, .ref a3, .ref a4, .ref a5, .ref a6, .int (zI mat), .int (zI mst), .int (zI mso), .int (zI mva), .int (zI mfa), .ref a7, .ref a8, .ref a9, .int (zI mlo), .ref a10, .int (zI rm2_2), .ref a11, .ref a12, .int (zI tm), .ref a13, .ref a14, .ref a15, .ref a16, .int (zI tmy), .ref a17])), (a1, .inl (cB, 200, .inl (zA tx))), (a2, .inl (cI, 2, .inl (zA pa))), (a3, .inl (cI, 18, .inl (zA ms))), (a4, .inl (cI, 18, .inl (zA ml))), (a5, .inl (cI, 18, .inl (zA mr))), (a6, .inl (cI, 18, .inl (zA mt))), (a7, .inl (cI, 1143, .inl (zA nw))), (a8, .inl (cZ, 2, .inl (zA ik))), (a9, .inl (cI, 9, .inl (zA sd))), (a10, .inl (cI, 9, .inl (zA ra2_2))), (a11, .inl (cI, 9, .inl (zA bg))), (a12, .inl (cI, 4, .inl (zA to))), (a13, .inl (cI, 200, .inl (zA cd))), (a14, .inl (cI, 9, .inl (zA fi))), (a15, .inl (cI, 9, .inl (zA tsz))), (a16, .inl (cI, 9, .inl (zA tcm))), (a17, .inl (cI, 10, .inl (zA mg)))] H := hP
  have hD : va_D A [(a0, .inr (5, [.long mtr, .ref a1, .int (zI ty), .ref a2, .ref a3, .ref a4, .ref a5, .ref a6, .int (zI mat), .int (zI mst), .int (zI mso), .int (zI mva), .int (zI mfa), .ref a7, .ref a8, .ref a9, .int (zI mlo), .ref a10, .int (zI rm2_2), .ref a11, .ref a12, .int (zI tm), .ref a13, .ref a14, .ref a15, .ref a16, .int (zI tmy), .ref a17])), (a1, .inl (cB, 200, .inl (zA tx))), (a2, .inl (cI, 2, .inl (zA pa))), (a3, .inl (cI, 18, .inl (zA ms))), (a4, .inl (cI, 18, .inl (zA ml))), (a5, .inl (cI, 18, .inl (zA mr))), (a6, .inl (cI, 18, .inl (zA mt))), (a7, .inl (cI, 1143, .inl (zA nw))), (a8, .inl (cZ, 2, .inl (zA ik))), (a9, .inl (cI, 9, .inl (zA sd))), (a10, .inl (cI, 9, .inl (zA ra2_2))), (a11, .inl (cI, 9, .inl (zA bg))), (a12, .inl (cI, 4, .inl (zA to))), (a13, .inl (cI, 200, .inl (zA cd))), (a14, .inl (cI, 9, .inl (zA fi))), (a15, .inl (cI, 9, .inl (zA tsz))), (a16, .inl (cI, 9, .inl (zA tcm))), (a17, .inl (cI, 10, .inl (zA mg)))] := hD
  refine W.eq (g2 := F0 m 5 ls [.int (zI (bZ (rowB v = true)))]) rfl ?_
  refine zv_ifeq_b (tgt := 12) hx hb dX6_brings_5 (by decide) (fun c_5 => ?_) (fun c_5 => ?_)
  · refine zv_iconst hx hb dX6_brings_12 ?_
    rw [← hQQ]
    exact zw_iret hx hb hr hlocks (sd, mlo, rm2_2, ra2_2, bg) (congrArg (fun z => some (Value.int (zI z))) (show q_brings ms ml mr mt (nw 18) (pa 0) nw v i = (-1) from by unfold q_brings; exact if_neg (fun q => by first | exact c_5 q.1 | (have := q.2; omega)))) trivial hP hS dX6_brings_13
  · refine lv_iload_n hx hb dX6_brings_8 rfl (lv_at hl 2 rfl) ?_
    refine zv_if_ge (tgt := 14) hx hb (by omega) dX6_brings_9 (by decide) (fun c_9 => ?_) (fun c_9 => ?_)
    · have hrow : rowB v = true := c_5
      obtain ⟨e1, e2⟩ := hp0_2 c_5
      have l9 := ds_len9 (rowB_rng hrow)
      have rl := rw_len v
      refine lv_aload_n hx hb dX6_brings_14 rfl (lv_at hl 0 rfl) ?_
      refine va_get (D := (dC, dI)) (ci := 5) (v := .ref a2) (C := RX6) (T := TX6) (N := 28) hx hb hts in_X6 hown hK hP 0 rfl rfl 3 (by decide) w_0 (fun _ h9 => h9) rfl dX6_brings_15 ?_
      refine zv_iconst hx hb dX6_brings_18 ?_
      refine zv_iald hx hb hK hP 2 0 rfl rfl (by omega) dX6_brings_19 ?_
      refine zv_if_ne (tgt := 26) hx hb (by omega) dX6_brings_20 (by decide) (fun c_20 => ?_) (fun c_20 => ?_)
      · refine lv_aload_n hx hb dX6_brings_26 rfl (lv_at hl 0 rfl) ?_
        refine zv_callWVa (As := []) (rest := []) ⟨hx, hb, hml, hown, hts⟩ (c_X6_bring l dC dI cI cB cZ a0 a1 a2 a3 a4 a5 a6 a7 a8 a9 a10 a11 a12 a13 a14 a15 a16 a17 mtr tx ty pa ms ml mr mt mat mst mso mva mfa nw ik sd mlo ra2_2 rm2_2 bg to tm cd fi tsz tcm tmy mg (by exact hh) (by exact hs) (by omega) (by omega) (by omega) (by intro j h0 h1; rw [e2 j h0 h1]; exact mz_01 hrow h0 (by omega))) (cwV 0 hts gX6_brings_X6_bring rfl rfl rfl (by decide +kernel) ⟨by rw [← hRM]; first | decide | (dsimp only; omega), by rw [← hRM]; first | decide | (dsimp only; omega)⟩) hP hD hS hA hK zN_bl (zN_go hE) (fun _ => rfl) (q0 := 0) rfl rfl rfl rfl hl.1 rfl (Nat.le_of_ble_eq_true rfl) dX6_brings_27 ⟨Nat.zero_le _, Nat.zero_le _⟩ (fun u H locs hpo hP hD hS => ?_)
        obtain ⟨sd2_27, bg2_27⟩ := u
        have hp0_27 : ∀ j : Int, 0 ≤ j → j < rm2_2 → bg2_27 j = rnC ms ml mr mt (nw 18) (pa 0) nw ra2_2 j.toNat := hpo
        have hP : va_P (dC, dI) vwCl [(a0, .inr (5, [.long mtr, .ref a1, .int (zI ty), .ref a2, .ref a3, .ref a4, .ref a5, .ref a6, .int (zI mat), .int (zI mst), .int (zI mso), .int (zI mva), .int (zI mfa), .ref a7, .ref a8, .ref a9, .int (zI (nw 18)), .ref a10, .int (zI rm2_2), .ref a11, .ref a12, .int (zI tm), .ref a13, .ref a14, .ref a15, .ref a16, .int (zI tmy), .ref a17])), (a1, .inl (cB, 200, .inl (zA tx))), (a2, .inl (cI, 2, .inl (zA pa))), (a3, .inl (cI, 18, .inl (zA ms))), (a4, .inl (cI, 18, .inl (zA ml))), (a5, .inl (cI, 18, .inl (zA mr))), (a6, .inl (cI, 18, .inl (zA mt))), (a7, .inl (cI, 1143, .inl (zA nw))), (a8, .inl (cZ, 2, .inl (zA ik))), (a9, .inl (cI, 9, .inl (zA sd2_27))), (a10, .inl (cI, 9, .inl (zA ra2_2))), (a11, .inl (cI, 9, .inl (zA bg2_27))), (a12, .inl (cI, 4, .inl (zA to))), (a13, .inl (cI, 200, .inl (zA cd))), (a14, .inl (cI, 9, .inl (zA fi))), (a15, .inl (cI, 9, .inl (zA tsz))), (a16, .inl (cI, 9, .inl (zA tcm))), (a17, .inl (cI, 10, .inl (zA mg)))] H := hP
        have hD : va_D A [(a0, .inr (5, [.long mtr, .ref a1, .int (zI ty), .ref a2, .ref a3, .ref a4, .ref a5, .ref a6, .int (zI mat), .int (zI mst), .int (zI mso), .int (zI mva), .int (zI mfa), .ref a7, .ref a8, .ref a9, .int (zI (nw 18)), .ref a10, .int (zI rm2_2), .ref a11, .ref a12, .int (zI tm), .ref a13, .ref a14, .ref a15, .ref a16, .int (zI tmy), .ref a17])), (a1, .inl (cB, 200, .inl (zA tx))), (a2, .inl (cI, 2, .inl (zA pa))), (a3, .inl (cI, 18, .inl (zA ms))), (a4, .inl (cI, 18, .inl (zA ml))), (a5, .inl (cI, 18, .inl (zA mr))), (a6, .inl (cI, 18, .inl (zA mt))), (a7, .inl (cI, 1143, .inl (zA nw))), (a8, .inl (cZ, 2, .inl (zA ik))), (a9, .inl (cI, 9, .inl (zA sd2_27))), (a10, .inl (cI, 9, .inl (zA ra2_2))), (a11, .inl (cI, 9, .inl (zA bg2_27))), (a12, .inl (cI, 4, .inl (zA to))), (a13, .inl (cI, 200, .inl (zA cd))), (a14, .inl (cI, 9, .inl (zA fi))), (a15, .inl (cI, 9, .inl (zA tsz))), (a16, .inl (cI, 9, .inl (zA tcm))), (a17, .inl (cI, 10, .inl (zA mg)))] := hD
        refine W.eq (g2 := F0 m 30 ls []) rfl ?_
        refine lv_iload_n hx hb dX6_brings_30 rfl (lv_at hl 2 rfl) ?_
        refine lv_aload_n hx hb dX6_brings_31 rfl (lv_at hl 0 rfl) ?_
        refine va_get (D := (dC, dI)) (ci := 5) (v := .int (zI rm2_2)) (C := RX6) (T := TX6) (N := 28) hx hb hts in_X6 hown hK hP 0 rfl rfl 18 (by decide) w_1 (fun _ h9 => h9) rfl dX6_brings_32 ?_
        refine zv_icmp_ge (tgt := 47) hx hb (by omega) (by omega) dX6_brings_35 (by decide) (fun c_35 => ?_) (fun c_35 => ?_)
        · refine zv_bipush hx hb dX6_brings_47 (by decide +kernel) ?_
          rw [← hQQ]
          exact zw_iret hx hb hr hlocks (sd2_27, (nw 18), rm2_2, ra2_2, bg2_27) (congrArg (fun z => some (Value.int (zI z))) (show q_brings ms ml mr mt (nw 18) (pa 0) nw v i = (-5) from by unfold q_brings; rw [if_pos ⟨hrow, by omega⟩, if_neg (by omega)]; first | (rw [if_pos (by omega)]) | (rw [if_neg (by omega), bi]; exact rnC_z (fun j h0 h1 => (e2 j h0 (by omega)).symm)))) trivial hP hS dX6_brings_49
        · refine lv_aload_n hx hb dX6_brings_38 rfl (lv_at hl 0 rfl) ?_
          refine va_get (D := (dC, dI)) (ci := 5) (v := .ref a11) (C := RX6) (T := TX6) (N := 28) hx hb hts in_X6 hown hK hP 0 rfl rfl 19 (by decide) w_2 (fun _ h9 => h9) rfl dX6_brings_39 ?_
          refine lv_iload_n hx hb dX6_brings_42 rfl (lv_at hl 2 rfl) ?_
          have bi := hp0_27 i (by omega) (by omega)
          refine zv_iald hx hb hK hP 11 0 rfl rfl (by omega) dX6_brings_43 ?_
          refine lv_goto (tgt := 49) hx hb dX6_brings_44 (by decide) ?_
          rw [← hQQ]
          exact zw_iret hx hb hr hlocks (sd2_27, (nw 18), rm2_2, ra2_2, bg2_27) (congrArg (fun z => some (Value.int (zI z))) (show q_brings ms ml mr mt (nw 18) (pa 0) nw v i = bg2_27 i from by unfold q_brings; rw [if_pos ⟨hrow, by omega⟩, if_neg (by omega)]; first | (rw [if_pos (by omega)]) | (rw [if_neg (by omega), bi]; exact rnC_z (fun j h0 h1 => (e2 j h0 (by omega)).symm)))) trivial hP hS dX6_brings_49
      · refine zv_bipush hx hb dX6_brings_23 (by decide +kernel) ?_
        rw [← hQQ]
        exact zw_iret hx hb hr hlocks (sd, mlo, rm2_2, ra2_2, bg) (congrArg (fun z => some (Value.int (zI z))) (show q_brings ms ml mr mt (nw 18) (pa 0) nw v i = (-2) from by unfold q_brings; rw [if_pos ⟨hrow, by omega⟩, if_pos (by omega)])) trivial hP hS dX6_brings_25
    · refine zv_iconst hx hb dX6_brings_12 ?_
      rw [← hQQ]
      exact zw_iret hx hb hr hlocks (sd, mlo, rm2_2, ra2_2, bg) (congrArg (fun z => some (Value.int (zI z))) (show q_brings ms ml mr mt (nw 18) (pa 0) nw v i = (-1) from by unfold q_brings; exact if_neg (fun q => by first | exact c_5 q.1 | (have := q.2; omega)))) trivial hP hS dX6_brings_13
